theorem mz_ct_le (f : Nat → Int32) : ∀ n : Nat, mz_ct f n ≤ n
  | 0 => Nat.le_refl 0
  | n + 1 => by
    have h := mz_ct_le f n
    rw [mz_ct]
    by_cases c : f n = 0
    · rw [if_pos c]; omega
    · rw [if_neg c]; omega
noncomputable def st5 (S : Nat → Nat → Int32) (n0 : Nat) : Int32 := @ite _ (allA S n0) (Classical.propDecidable _) 5 6
set_option maxRecDepth 100000 in
set_option maxHeartbeats 4000000 in
/-- advance() of a deal that is prepared -/
theorem c_C_advance1 (l : Launch) (dC : Nat → ClassId) (dI : Nat → Nat → Nat) (Z : Nat → Nat) (cI cP : ClassId) (p0 q0 g0 h0 : Nat) (S : Nat → Nat → Int32) (n0 t0 : Nat) (hst : S 0 0 = 1) (hn : S 0 1 = nI n0) (hn7 : n0 ≤ 7) (ht : S 0 2 = nI t0) (ht7 : t0 ≤ 7) (ok : okG p0 q0 g0 h0) (hA : ∀ k, k < t0 → okN (S 1 k) q0) (hB : ∀ k, k < t0 → okN (S 2 k) q0) : Wr l y_C_advance ws_C_advance 6 138 [.ref (Z 0)] (dC, dI) cls (tysC cI cP) (wC Z cI cP p0 q0 g0 h0 (S)) (wC Z cI cP p0 q0 g0 h0 (up (sndS q0 t0 (pubC p0 g0 h0 S t0) n0) 0 0 2)) (some (.int 2)) := by
  refine Met.ofW (cc := b_C_advance) (maxL := 1) (ret := (some .int)) (by decide) rfl ?_
  intro p e s m args below meth c s₁ B hml hv
  obtain ⟨rfl, hP, hK, hD0⟩ := hv
  have hx := B.exec
  have hb := B.bytes
  have hr := B.returns
  have hts : ∀ w ∈ AL, w.before ([.ref (Z 0)] : List Value).toArray s = true := fun w h => atoms_spec (ws := ws_C_advance) B.pre w (List.mem_cons_of_mem _ h)
  have hown : s.vm.findClass "DealtSecret" = some m.cls := findClass_of_methodNamed B.named
  have hlk := B.notSynchronized
  have hl := lv_entry ([.ref (Z 0)]) (n := 1) (Nat.le_of_ble_eq_true rfl)
  rw [lg_entry_eq]
  generalize (lg_sl ([.ref (Z 0)]) ++ List.replicate (1 - (lg_sl ([.ref (Z 0)])).length) Slot.unset).toArray = ls at hl ⊢
  have hl : lv_has ls 1 [(0, .ref (Z 0))] := hl
  have hD := w_self hD0
  have hS : va_S (w_A (wC Z cI cP p0 q0 g0 h0 (S))) s.heap s.heap [] := va_S.rf
  refine lv_aload_n hx hb d_C_advance_0 rfl (lv_at hl 0 rfl) ?_
  refine va_get (D := (dC, dI)) (ci := 2) (v := .int (S 0 0)) (C := "DealtSecret") (T := T_C) (N := 11) hx hb hts i_C hown hK hP 0 rfl rfl 5 (by decide) (hts _ k_106) (fun _ h9 => h9) rfl d_C_advance_1 ?_
  refine x_i (y := 1) (hst) ?_
  refine lv_tableIn (tgt := 36) hx hb d_C_advance_4 (by decide) (by decide) rfl (by decide) ?_
  refine lv_aload_n hx hb d_C_advance_36 rfl (lv_at hl 0 rfl) ?_
  refine wr_V (As := []) (rest := []) (b := (Z 0)) ⟨hx, hb, hml, hown, hts⟩ (c_C_publishCommitments l dC dI Z cI cP p0 q0 g0 h0 S t0 ht ht7 ok hA hB) (cwV 0 hts (al_V k_304 k_305 k_640 k_1 k_306) rfl rfl rfl (by decide +kernel) ⟨Nat.le_of_ble_eq_true rfl, Nat.le_of_ble_eq_true rfl⟩) (va_recv hK hP (ci := 2) (q0 := 0) rfl rfl) hP hK hD hS rfl hl.1 rfl (lv_room (Nat.le_of_ble_eq_true rfl)) d_C_advance_37 ⟨Nat.zero_le _, Nat.zero_le _⟩ (fun H locs hP _ _ hS => ?_)
  have hD := w_addr hD (w_adC S (pubC p0 g0 h0 S t0))
  refine lv_aload_n hx hb d_C_advance_40 rfl (lv_at hl 0 rfl) ?_
  refine wr_V (As := []) (rest := []) (b := (Z 0)) ⟨hx, hb, hml, hown, hts⟩ (c_C_sendShares l dC dI Z cI cP p0 q0 g0 h0 (pubC p0 g0 h0 S t0) n0 t0 (by rw [pubC_ne p0 g0 h0 S (by decide) t0]; exact hn) hn7 (by rw [pubC_ne p0 g0 h0 S (by decide) t0]; exact ht) ht7 ok (by rw [pubC_ne p0 g0 h0 S (by decide) t0]; exact hA) (by rw [pubC_ne p0 g0 h0 S (by decide) t0]; exact hB)) (cwV 0 hts (al_V k_307 k_308 k_641 k_1 k_309) rfl rfl rfl (by decide +kernel) ⟨Nat.le_of_ble_eq_true rfl, Nat.le_of_ble_eq_true rfl⟩) (va_recv hK hP (ci := 2) (q0 := 0) rfl rfl) hP hK hD hS rfl hl.1 rfl (lv_room (Nat.le_of_ble_eq_true rfl)) d_C_advance_41 ⟨Nat.zero_le _, Nat.zero_le _⟩ (fun H locs hP _ _ hS => ?_)
  have hD := w_addr hD (w_adC (pubC p0 g0 h0 S t0) (sndS q0 t0 (pubC p0 g0 h0 S t0) n0))
  refine lv_aload_n hx hb d_C_advance_44 rfl (lv_at hl 0 rfl) ?_
  refine lv_iconst (v := 2) hx hb d_C_advance_45 (by decide) ?_
  refine va_put (D := (dC, dI)) (ci := 2) (v := .int 2) (ty := .int) (C := "DealtSecret") (T := T_C) (N := 11) hx hb hts i_C t_C t_C_ok n_C hown hK hP hD hS 0 rfl rfl 5 (by decide) (hts _ k_106) (fun _ h9 => h9) rfl (by decide +kernel) (rfl) (rfl) (Nat.le_of_ble_eq_true rfl) d_C_advance_46 (fun H locs hP hD hS => ?_)
  have hP : va_P (dC, dI) cls (wC Z cI cP p0 q0 g0 h0 (up (sndS q0 t0 (pubC p0 g0 h0 S t0) n0) 0 0 2)) H := by rw [← w_cs0]; exact hP
  have hD : va_D (w_A (wC Z cI cP p0 q0 g0 h0 (S))) (wC Z cI cP p0 q0 g0 h0 (up (sndS q0 t0 (pubC p0 g0 h0 S t0) n0) 0 0 2)) := by rw [← w_cs0]; exact hD
  refine lv_goto (tgt := 118) hx hb d_C_advance_49 (by decide) ?_
  refine lv_aload_n hx hb d_C_advance_118 rfl (lv_at hl 0 rfl) ?_
  refine va_get (D := (dC, dI)) (ci := 2) (v := .int ((up (sndS q0 t0 (pubC p0 g0 h0 S t0) n0) 0 0 2) 0 0)) (C := "DealtSecret") (T := T_C) (N := 11) hx hb hts i_C hown hK hP 0 rfl rfl 5 (by decide) (hts _ k_106) (fun _ h9 => h9) rfl d_C_advance_119 ?_
  refine x_i (y := 2) (up_at _ _ _ _) ?_
  exact wr_i hx hb hr hlk hP hS d_C_advance_122
set_option maxRecDepth 100000 in
set_option maxHeartbeats 4000000 in
/-- advance() of a deal whose shares are sent -/
theorem c_C_advance2 (l : Launch) (dC : Nat → ClassId) (dI : Nat → Nat → Nat) (Z : Nat → Nat) (cI cP : ClassId) (p0 q0 g0 h0 : Nat) (S : Nat → Nat → Int32) (n0 t0 : Nat) (hst : S 0 0 = 2) (hn : S 0 1 = nI n0) (hn7 : n0 ≤ 7) (hN : ∀ j, j < 7 → S 4 j = nI (j + 1)) (hU : ∀ j, j < n0 → okN (S 5 j) q0) (hV : ∀ j, j < n0 → okN (S 6 j) q0) (ht : S 0 2 = nI t0) (ht7 : t0 ≤ 7) (ok : okG p0 q0 g0 h0) (hC : ∀ k, k < t0 → okN (S 3 k) p0) : Wr l y_C_advance ws_C_advance 6 138 [.ref (Z 0)] (dC, dI) cls (tysC cI cP) (wC Z cI cP p0 q0 g0 h0 (S)) (wC Z cI cP p0 q0 g0 h0 (up (raiC p0 g0 h0 t0 S n0) 0 0 3)) (some (.int 3)) := by
  refine Met.ofW (cc := b_C_advance) (maxL := 1) (ret := (some .int)) (by decide) rfl ?_
  intro p e s m args below meth c s₁ B hml hv
  obtain ⟨rfl, hP, hK, hD0⟩ := hv
  have hx := B.exec
  have hb := B.bytes
  have hr := B.returns
  have hts : ∀ w ∈ AL, w.before ([.ref (Z 0)] : List Value).toArray s = true := fun w h => atoms_spec (ws := ws_C_advance) B.pre w (List.mem_cons_of_mem _ h)
  have hown : s.vm.findClass "DealtSecret" = some m.cls := findClass_of_methodNamed B.named
  have hlk := B.notSynchronized
  have hl := lv_entry ([.ref (Z 0)]) (n := 1) (Nat.le_of_ble_eq_true rfl)
  rw [lg_entry_eq]
  generalize (lg_sl ([.ref (Z 0)]) ++ List.replicate (1 - (lg_sl ([.ref (Z 0)])).length) Slot.unset).toArray = ls at hl ⊢
  have hl : lv_has ls 1 [(0, .ref (Z 0))] := hl
  have hD := w_self hD0
  have hS : va_S (w_A (wC Z cI cP p0 q0 g0 h0 (S))) s.heap s.heap [] := va_S.rf
  refine lv_aload_n hx hb d_C_advance_0 rfl (lv_at hl 0 rfl) ?_
  refine va_get (D := (dC, dI)) (ci := 2) (v := .int (S 0 0)) (C := "DealtSecret") (T := T_C) (N := 11) hx hb hts i_C hown hK hP 0 rfl rfl 5 (by decide) (hts _ k_106) (fun _ h9 => h9) rfl d_C_advance_1 ?_
  refine x_i (y := 2) (hst) ?_
  refine lv_tableIn (tgt := 52) hx hb d_C_advance_4 (by decide) (by decide) rfl (by decide) ?_
  refine lv_aload_n hx hb d_C_advance_52 rfl (lv_at hl 0 rfl) ?_
  refine wr_V (As := []) (rest := []) (b := (Z 0)) ⟨hx, hb, hml, hown, hts⟩ (c_C_raiseComplaints l dC dI Z cI cP p0 q0 g0 h0 S n0 t0 hn hn7 hN hU hV ht ht7 ok hC) (cwV 0 hts (al_V k_325 k_326 k_643 k_1 k_327) rfl rfl rfl (by decide +kernel) ⟨Nat.le_of_ble_eq_true rfl, Nat.le_of_ble_eq_true rfl⟩) (va_recv hK hP (ci := 2) (q0 := 0) rfl rfl) hP hK hD hS rfl hl.1 rfl (lv_room (Nat.le_of_ble_eq_true rfl)) d_C_advance_53 ⟨Nat.zero_le _, Nat.zero_le _⟩ (fun H locs hP _ _ hS => ?_)
  have hD := w_addr hD (w_adC S (raiC p0 g0 h0 t0 S n0))
  refine lv_aload_n hx hb d_C_advance_56 rfl (lv_at hl 0 rfl) ?_
  refine lv_iconst (v := 3) hx hb d_C_advance_57 (by decide) ?_
  refine va_put (D := (dC, dI)) (ci := 2) (v := .int 3) (ty := .int) (C := "DealtSecret") (T := T_C) (N := 11) hx hb hts i_C t_C t_C_ok n_C hown hK hP hD hS 0 rfl rfl 5 (by decide) (hts _ k_106) (fun _ h9 => h9) rfl (by decide +kernel) (rfl) (rfl) (Nat.le_of_ble_eq_true rfl) d_C_advance_58 (fun H locs hP hD hS => ?_)
  have hP : va_P (dC, dI) cls (wC Z cI cP p0 q0 g0 h0 (up (raiC p0 g0 h0 t0 S n0) 0 0 3)) H := by rw [← w_cs0]; exact hP
  have hD : va_D (w_A (wC Z cI cP p0 q0 g0 h0 (S))) (wC Z cI cP p0 q0 g0 h0 (up (raiC p0 g0 h0 t0 S n0) 0 0 3)) := by rw [← w_cs0]; exact hD
  refine lv_goto (tgt := 118) hx hb d_C_advance_61 (by decide) ?_
  refine lv_aload_n hx hb d_C_advance_118 rfl (lv_at hl 0 rfl) ?_
  refine va_get (D := (dC, dI)) (ci := 2) (v := .int ((up (raiC p0 g0 h0 t0 S n0) 0 0 3) 0 0)) (C := "DealtSecret") (T := T_C) (N := 11) hx hb hts i_C hown hK hP 0 rfl rfl 5 (by decide) (hts _ k_106) (fun _ h9 => h9) rfl d_C_advance_119 ?_
  refine x_i (y := 3) (up_at _ _ _ _) ?_
  exact wr_i hx hb hr hlk hP hS d_C_advance_122
set_option maxRecDepth 100000 in
set_option maxHeartbeats 4000000 in
/-- advance() of a deal with complaints -/
theorem c_C_advance3 (l : Launch) (dC : Nat → ClassId) (dI : Nat → Nat → Nat) (Z : Nat → Nat) (cI cP : ClassId) (p0 q0 g0 h0 : Nat) (S : Nat → Nat → Int32) (n0 t0 : Nat) (hst : S 0 0 = 3) (hn : S 0 1 = nI n0) (hn7 : n0 ≤ 7) (ht : S 0 2 = nI t0) (ht7 : t0 ≤ 7) : Wr l y_C_advance ws_C_advance 6 138 [.ref (Z 0)] (dC, dI) cls (tysC cI cP) (wC Z cI cP p0 q0 g0 h0 (S)) (wC Z cI cP p0 q0 g0 h0 (up S 0 0 (if t0 ≤ mz_ct (S 8) n0 then 6 else 4))) (some (.int (if t0 ≤ mz_ct (S 8) n0 then 6 else 4))) := by
  refine Met.ofW (cc := b_C_advance) (maxL := 1) (ret := (some .int)) (by decide) rfl ?_
  intro p e s m args below meth c s₁ B hml hv
  obtain ⟨rfl, hP, hK, hD0⟩ := hv
  have hx := B.exec
  have hb := B.bytes
  have hr := B.returns
  have hts : ∀ w ∈ AL, w.before ([.ref (Z 0)] : List Value).toArray s = true := fun w h => atoms_spec (ws := ws_C_advance) B.pre w (List.mem_cons_of_mem _ h)
  have hown : s.vm.findClass "DealtSecret" = some m.cls := findClass_of_methodNamed B.named
  have hlk := B.notSynchronized
  have hl := lv_entry ([.ref (Z 0)]) (n := 1) (Nat.le_of_ble_eq_true rfl)
  rw [lg_entry_eq]
  generalize (lg_sl ([.ref (Z 0)]) ++ List.replicate (1 - (lg_sl ([.ref (Z 0)])).length) Slot.unset).toArray = ls at hl ⊢
  have hl : lv_has ls 1 [(0, .ref (Z 0))] := hl
  have hD := w_self hD0
  have hS : va_S (w_A (wC Z cI cP p0 q0 g0 h0 (S))) s.heap s.heap [] := va_S.rf
  have hct := mz_ct_le (S 8) n0
  refine lv_aload_n hx hb d_C_advance_0 rfl (lv_at hl 0 rfl) ?_
  refine va_get (D := (dC, dI)) (ci := 2) (v := .int (S 0 0)) (C := "DealtSecret") (T := T_C) (N := 11) hx hb hts i_C hown hK hP 0 rfl rfl 5 (by decide) (hts _ k_106) (fun _ h9 => h9) rfl d_C_advance_1 ?_
  refine x_i (y := 3) (hst) ?_
  refine lv_tableIn (tgt := 64) hx hb d_C_advance_4 (by decide) (by decide) rfl (by decide) ?_
  refine lv_aload_n hx hb d_C_advance_64 rfl (lv_at hl 0 rfl) ?_
  refine lv_aload_n hx hb d_C_advance_65 rfl (lv_at hl 0 rfl) ?_
  refine ro_V (As := []) (rest := [.ref (Z 0)]) (b := (Z 0)) ⟨hx, hb, hml, hown, hts⟩ (c_C_complaints l dC dI Z cI cP p0 q0 g0 h0 S n0 hn hn7) (cwV 0 hts (al_V k_328 k_187 k_188 k_1 k_189) rfl rfl rfl (by decide +kernel) ⟨Nat.le_of_ble_eq_true rfl, Nat.le_of_ble_eq_true rfl⟩) (fun U g mk a h => ⟨h.1, va_K.moved (u := U) (U := U.calling g mk a) (Vm.Alike.refl U.vm) h.2⟩) (va_recv hK hP (ci := 2) (q0 := 0) rfl rfl) (fun U hU hW => ⟨by rw [hU]; exact hP, va_K.moved hW.alike hK⟩) rfl hl.1 rfl (lv_room (Nat.le_of_ble_eq_true rfl)) d_C_advance_66 ⟨Nat.zero_le _, Nat.zero_le _⟩ ?_
  refine lv_aload_n hx hb d_C_advance_69 rfl (lv_at hl 0 rfl) ?_
  refine va_get (D := (dC, dI)) (ci := 2) (v := .int (S 0 2)) (C := "DealtSecret") (T := T_C) (N := 11) hx hb hts i_C hown hK hP 0 rfl rfl 7 (by decide) (hts _ k_108) (fun _ h9 => h9) rfl d_C_advance_70 ?_
  refine x_i (y := nI t0) (ht) ?_
  refine lv_icmp_lt (tgt := 81) hx hb d_C_advance_73 (by decide) (fun c73 => ?_) (fun c73 => ?_)
  · have hlt : ¬ t0 ≤ mz_ct (S 8) n0 := fun q => absurd c73 (nI_nlt q (by omega))
    refine lv_iconst (v := 4) hx hb d_C_advance_81 (by decide) ?_
    refine x_i (y := (if t0 ≤ mz_ct (S 8) n0 then 6 else 4)) ((if_neg hlt).symm) ?_
    refine va_put (D := (dC, dI)) (ci := 2) (v := .int (if t0 ≤ mz_ct (S 8) n0 then 6 else 4)) (ty := .int) (C := "DealtSecret") (T := T_C) (N := 11) hx hb hts i_C t_C t_C_ok n_C hown hK hP hD hS 0 rfl rfl 5 (by decide) (hts _ k_106) (fun _ h9 => h9) rfl (by decide +kernel) (rfl) (rfl) (Nat.le_of_ble_eq_true rfl) d_C_advance_82 (fun H locs hP hD hS => ?_)
    have hP : va_P (dC, dI) cls (wC Z cI cP p0 q0 g0 h0 (up S 0 0 (if t0 ≤ mz_ct (S 8) n0 then 6 else 4))) H := by rw [← w_cs0]; exact hP
    have hD : va_D (w_A (wC Z cI cP p0 q0 g0 h0 (S))) (wC Z cI cP p0 q0 g0 h0 (up S 0 0 (if t0 ≤ mz_ct (S 8) n0 then 6 else 4))) := by rw [← w_cs0]; exact hD
    refine lv_goto (tgt := 118) hx hb d_C_advance_85 (by decide) ?_
    refine lv_aload_n hx hb d_C_advance_118 rfl (lv_at hl 0 rfl) ?_
    refine va_get (D := (dC, dI)) (ci := 2) (v := .int ((up S 0 0 (if t0 ≤ mz_ct (S 8) n0 then 6 else 4)) 0 0)) (C := "DealtSecret") (T := T_C) (N := 11) hx hb hts i_C hown hK hP 0 rfl rfl 5 (by decide) (hts _ k_106) (fun _ h9 => h9) rfl d_C_advance_119 ?_
    refine x_i (y := (if t0 ≤ mz_ct (S 8) n0 then 6 else 4)) (up_at _ _ _ _) ?_
    exact wr_i hx hb hr hlk hP hS d_C_advance_122
  · have hlt : t0 ≤ mz_ct (S 8) n0 := Nat.not_lt.mp (fun q => c73 (nI_lt q (by omega)))
    refine lv_bipush (v := 6) hx hb d_C_advance_76 (by decide) ?_
    refine x_i (y := (if t0 ≤ mz_ct (S 8) n0 then 6 else 4)) ((if_pos hlt).symm) ?_
    refine lv_goto (tgt := 82) hx hb d_C_advance_78 (by decide) ?_
    refine va_put (D := (dC, dI)) (ci := 2) (v := .int (if t0 ≤ mz_ct (S 8) n0 then 6 else 4)) (ty := .int) (C := "DealtSecret") (T := T_C) (N := 11) hx hb hts i_C t_C t_C_ok n_C hown hK hP hD hS 0 rfl rfl 5 (by decide) (hts _ k_106) (fun _ h9 => h9) rfl (by decide +kernel) (rfl) (rfl) (Nat.le_of_ble_eq_true rfl) d_C_advance_82 (fun H locs hP hD hS => ?_)
    have hP : va_P (dC, dI) cls (wC Z cI cP p0 q0 g0 h0 (up S 0 0 (if t0 ≤ mz_ct (S 8) n0 then 6 else 4))) H := by rw [← w_cs0]; exact hP
    have hD : va_D (w_A (wC Z cI cP p0 q0 g0 h0 (S))) (wC Z cI cP p0 q0 g0 h0 (up S 0 0 (if t0 ≤ mz_ct (S 8) n0 then 6 else 4))) := by rw [← w_cs0]; exact hD
    refine lv_goto (tgt := 118) hx hb d_C_advance_85 (by decide) ?_
    refine lv_aload_n hx hb d_C_advance_118 rfl (lv_at hl 0 rfl) ?_
    refine va_get (D := (dC, dI)) (ci := 2) (v := .int ((up S 0 0 (if t0 ≤ mz_ct (S 8) n0 then 6 else 4)) 0 0)) (C := "DealtSecret") (T := T_C) (N := 11) hx hb hts i_C hown hK hP 0 rfl rfl 5 (by decide) (hts _ k_106) (fun _ h9 => h9) rfl d_C_advance_119 ?_
    refine x_i (y := (if t0 ≤ mz_ct (S 8) n0 then 6 else 4)) (up_at _ _ _ _) ?_
    exact wr_i hx hb hr hlk hP hS d_C_advance_122
set_option maxRecDepth 100000 in
set_option maxHeartbeats 4000000 in
/-- advance() of a deal that is answered -/
theorem c_C_advance4 (l : Launch) (dC : Nat → ClassId) (dI : Nat → Nat → Nat) (Z : Nat → Nat) (cI cP : ClassId) (p0 q0 g0 h0 : Nat) (S : Nat → Nat → Int32) (n0 : Nat) (hst : S 0 0 = 4) (hn : S 0 1 = nI n0) (hn7 : n0 ≤ 7) : Wr l y_C_advance ws_C_advance 6 138 [.ref (Z 0)] (dC, dI) cls (tysC cI cP) (wC Z cI cP p0 q0 g0 h0 (S)) (wC Z cI cP p0 q0 g0 h0 (up S 0 0 (st5 S n0))) (some (.int (st5 S n0))) := by
  refine Met.ofW (cc := b_C_advance) (maxL := 1) (ret := (some .int)) (by decide) rfl ?_
  intro p e s m args below meth c s₁ B hml hv
  obtain ⟨rfl, hP, hK, hD0⟩ := hv
  have hx := B.exec
  have hb := B.bytes
  have hr := B.returns
  have hts : ∀ w ∈ AL, w.before ([.ref (Z 0)] : List Value).toArray s = true := fun w h => atoms_spec (ws := ws_C_advance) B.pre w (List.mem_cons_of_mem _ h)
  have hown : s.vm.findClass "DealtSecret" = some m.cls := findClass_of_methodNamed B.named
  have hlk := B.notSynchronized
  have hl := lv_entry ([.ref (Z 0)]) (n := 1) (Nat.le_of_ble_eq_true rfl)
  rw [lg_entry_eq]
  generalize (lg_sl ([.ref (Z 0)]) ++ List.replicate (1 - (lg_sl ([.ref (Z 0)])).length) Slot.unset).toArray = ls at hl ⊢
  have hl : lv_has ls 1 [(0, .ref (Z 0))] := hl
  have hD := w_self hD0
  have hS : va_S (w_A (wC Z cI cP p0 q0 g0 h0 (S))) s.heap s.heap [] := va_S.rf
  refine lv_aload_n hx hb d_C_advance_0 rfl (lv_at hl 0 rfl) ?_
  refine va_get (D := (dC, dI)) (ci := 2) (v := .int (S 0 0)) (C := "DealtSecret") (T := T_C) (N := 11) hx hb hts i_C hown hK hP 0 rfl rfl 5 (by decide) (hts _ k_106) (fun _ h9 => h9) rfl d_C_advance_1 ?_
  refine x_i (y := 4) (hst) ?_
  refine lv_tableIn (tgt := 88) hx hb d_C_advance_4 (by decide) (by decide) rfl (by decide) ?_
  refine lv_aload_n hx hb d_C_advance_88 rfl (lv_at hl 0 rfl) ?_
  refine lv_aload_n hx hb d_C_advance_89 rfl (lv_at hl 0 rfl) ?_
  refine ro_V (As := []) (rest := [.ref (Z 0)]) (b := (Z 0)) ⟨hx, hb, hml, hown, hts⟩ (c_C_isEveryComplaintAnswered l dC dI Z cI cP p0 q0 g0 h0 S n0 hn hn7) (cwV 0 hts (al_V k_329 k_330 k_644 k_1 k_331) rfl rfl rfl (by decide +kernel) ⟨Nat.le_of_ble_eq_true rfl, Nat.le_of_ble_eq_true rfl⟩) (fun U g mk a h => ⟨h.1, va_K.moved (u := U) (U := U.calling g mk a) (Vm.Alike.refl U.vm) h.2⟩) (va_recv hK hP (ci := 2) (q0 := 0) rfl rfl) (fun U hU hW => ⟨by rw [hU]; exact hP, va_K.moved hW.alike hK⟩) rfl hl.1 rfl (lv_room (Nat.le_of_ble_eq_true rfl)) d_C_advance_90 ⟨Nat.zero_le _, Nat.zero_le _⟩ ?_
  refine lv_if_eq (tgt := 100) hx hb d_C_advance_93 (by decide) (fun c93 => ?_) (fun c93 => ?_)
  · refine lv_bipush (v := 6) hx hb d_C_advance_100 (by decide) ?_
    refine x_i (y := (st5 S n0)) ((if_neg (mz_b0.mp c93)).symm) ?_
    refine va_put (D := (dC, dI)) (ci := 2) (v := .int (st5 S n0)) (ty := .int) (C := "DealtSecret") (T := T_C) (N := 11) hx hb hts i_C t_C t_C_ok n_C hown hK hP hD hS 0 rfl rfl 5 (by decide) (hts _ k_106) (fun _ h9 => h9) rfl (by decide +kernel) (rfl) (rfl) (Nat.le_of_ble_eq_true rfl) d_C_advance_102 (fun H locs hP hD hS => ?_)
    have hP : va_P (dC, dI) cls (wC Z cI cP p0 q0 g0 h0 (up S 0 0 (st5 S n0))) H := by rw [← w_cs0]; exact hP
    have hD : va_D (w_A (wC Z cI cP p0 q0 g0 h0 (S))) (wC Z cI cP p0 q0 g0 h0 (up S 0 0 (st5 S n0))) := by rw [← w_cs0]; exact hD
    refine lv_goto (tgt := 118) hx hb d_C_advance_105 (by decide) ?_
    refine lv_aload_n hx hb d_C_advance_118 rfl (lv_at hl 0 rfl) ?_
    refine va_get (D := (dC, dI)) (ci := 2) (v := .int ((up S 0 0 (st5 S n0)) 0 0)) (C := "DealtSecret") (T := T_C) (N := 11) hx hb hts i_C hown hK hP 0 rfl rfl 5 (by decide) (hts _ k_106) (fun _ h9 => h9) rfl d_C_advance_119 ?_
    refine x_i (y := (st5 S n0)) (up_at _ _ _ _) ?_
    exact wr_i hx hb hr hlk hP hS d_C_advance_122
  · refine lv_iconst (v := 5) hx hb d_C_advance_96 (by decide) ?_
    refine x_i (y := (st5 S n0)) ((if_pos (Classical.not_not.mp (fun z => c93 (mz_bf z)))).symm) ?_
    refine lv_goto (tgt := 102) hx hb d_C_advance_97 (by decide) ?_
    refine va_put (D := (dC, dI)) (ci := 2) (v := .int (st5 S n0)) (ty := .int) (C := "DealtSecret") (T := T_C) (N := 11) hx hb hts i_C t_C t_C_ok n_C hown hK hP hD hS 0 rfl rfl 5 (by decide) (hts _ k_106) (fun _ h9 => h9) rfl (by decide +kernel) (rfl) (rfl) (Nat.le_of_ble_eq_true rfl) d_C_advance_102 (fun H locs hP hD hS => ?_)
    have hP : va_P (dC, dI) cls (wC Z cI cP p0 q0 g0 h0 (up S 0 0 (st5 S n0))) H := by rw [← w_cs0]; exact hP
    have hD : va_D (w_A (wC Z cI cP p0 q0 g0 h0 (S))) (wC Z cI cP p0 q0 g0 h0 (up S 0 0 (st5 S n0))) := by rw [← w_cs0]; exact hD
    refine lv_goto (tgt := 118) hx hb d_C_advance_105 (by decide) ?_
    refine lv_aload_n hx hb d_C_advance_118 rfl (lv_at hl 0 rfl) ?_
    refine va_get (D := (dC, dI)) (ci := 2) (v := .int ((up S 0 0 (st5 S n0)) 0 0)) (C := "DealtSecret") (T := T_C) (N := 11) hx hb hts i_C hown hK hP 0 rfl rfl 5 (by decide) (hts _ k_106) (fun _ h9 => h9) rfl d_C_advance_119 ?_
    refine x_i (y := (st5 S n0)) (up_at _ _ _ _) ?_
    exact wr_i hx hb hr hlk hP hS d_C_advance_122
