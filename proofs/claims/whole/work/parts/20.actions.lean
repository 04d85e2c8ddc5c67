/-- accuse -/
def acS (S : Nat → Nat → Int32) (j : Nat) : Nat → Nat → Int32 := if ¬ S 7 j = 0 ∧ S 8 j = 0 then up S 8 j 1 else S
set_option maxRecDepth 100000 in
set_option maxHeartbeats 4000000 in
/-- coefficient(k, a, b) where it is allowed -/
theorem c_C_coefficient (l : Launch) (dC : Nat → ClassId) (dI : Nat → Nat → Nat) (Z : Nat → Nat) (cI cP : ClassId) (p0 q0 g0 h0 : Nat) (S : Nat → Nat → Int32) (k0 t0 : Nat) (x0 y0 : Int32) (hst : S 0 0 = 1) (ht : S 0 2 = nI t0) (ht7 : t0 ≤ 7) (hk0 : k0 < t0) (ok : okG p0 q0 g0 h0) : Wr l y_C_coefficient ws_C_coefficient 3 64 [.ref (Z 0), .int (nI k0), .int x0, .int y0] (dC, dI) cls (tysC cI cP) (wC Z cI cP p0 q0 g0 h0 (S)) (wC Z cI cP p0 q0 g0 h0 (up (up S 1 k0 (nI (md x0 q0))) 2 k0 (bnum (S 0 3) y0 q0))) (none) := by
  refine Met.ofW (cc := b_C_coefficient) (maxL := 4) (ret := none) (by decide) rfl ?_
  intro p e s m args below meth c s₁ B hml hv
  obtain ⟨rfl, hP, hK, hD0⟩ := hv
  have hx := B.exec
  have hb := B.bytes
  have hr := B.returns
  have hts : ∀ w ∈ AL, w.before ([.ref (Z 0), .int (nI k0), .int x0, .int y0] : List Value).toArray s = true := fun w h => atoms_spec (ws := ws_C_coefficient) B.pre w (List.mem_cons_of_mem _ h)
  have hown : s.vm.findClass "DealtSecret" = some m.cls := findClass_of_methodNamed B.named
  have hlk := B.notSynchronized
  have hl := lv_entry ([.ref (Z 0), .int (nI k0), .int x0, .int y0]) (n := 4) (Nat.le_of_ble_eq_true rfl)
  rw [lg_entry_eq]
  generalize (lg_sl ([.ref (Z 0), .int (nI k0), .int x0, .int y0]) ++ List.replicate (4 - (lg_sl ([.ref (Z 0), .int (nI k0), .int x0, .int y0])).length) Slot.unset).toArray = ls at hl ⊢
  have hl : lv_has ls 4 [(0, .ref (Z 0)), (1, .int (nI k0)), (2, .int x0), (3, .int y0)] := hl
  have hD := w_self hD0
  have hS : va_S (w_A (wC Z cI cP p0 q0 g0 h0 (S))) s.heap s.heap [] := va_S.rf
  obtain ⟨okp2, okp, okq2, okq, okg, okh⟩ := id ok
  refine lv_aload_n hx hb d_C_coefficient_0 rfl (lv_at hl 0 rfl) ?_
  refine lv_iconst (v := 1) hx hb d_C_coefficient_1 (by decide) ?_
  refine rv_V (As := [.int 1]) (rest := []) (b := (Z 0)) ⟨hx, hb, hml, hown, hts⟩ (c_C_demandStage l dC dI Z cI cP p0 q0 g0 h0 S 1 hst) (cwV 1 hts (al_V k_269 k_270 k_637 k_1 k_271) rfl rfl rfl (by decide +kernel) ⟨Nat.le_of_ble_eq_true rfl, Nat.le_of_ble_eq_true rfl⟩) (fun U g mk a h => ⟨h.1, va_K.moved (u := U) (U := U.calling g mk a) (Vm.Alike.refl U.vm) h.2⟩) (va_recv hK hP (ci := 2) (q0 := 0) rfl rfl) (fun U hU hW => ⟨by rw [hU]; exact hP, va_K.moved hW.alike hK⟩) rfl hl.1 rfl (lv_room (Nat.le_of_ble_eq_true rfl)) d_C_coefficient_2 ⟨Nat.zero_le _, Nat.zero_le _⟩ ?_
  refine lv_aload_n hx hb d_C_coefficient_5 rfl (lv_at hl 0 rfl) ?_
  refine lv_iload_n hx hb d_C_coefficient_6 rfl (lv_at hl 1 rfl) ?_
  refine rv_V (As := [.int (nI k0)]) (rest := []) (b := (Z 0)) ⟨hx, hb, hml, hown, hts⟩ (c_C_demandCoefficient l dC dI Z cI cP p0 q0 g0 h0 S (nI k0) (by rw [ht]; exact isCf_of (by omega) hk0)) (cwV 1 hts (al_V k_285 k_286 k_638 k_1 k_287) rfl rfl rfl (by decide +kernel) ⟨Nat.le_of_ble_eq_true rfl, Nat.le_of_ble_eq_true rfl⟩) (fun U g mk a h => ⟨h.1, va_K.moved (u := U) (U := U.calling g mk a) (Vm.Alike.refl U.vm) h.2⟩) (va_recv hK hP (ci := 2) (q0 := 0) rfl rfl) (fun U hU hW => ⟨by rw [hU]; exact hP, va_K.moved hW.alike hK⟩) rfl hl.1 rfl (lv_room (Nat.le_of_ble_eq_true rfl)) d_C_coefficient_7 ⟨Nat.zero_le _, Nat.zero_le _⟩ ?_
  refine lv_aload_n hx hb d_C_coefficient_10 rfl (lv_at hl 0 rfl) ?_
  refine va_get (D := (dC, dI)) (ci := 2) (v := .ref (Z 2)) (C := "DealtSecret") (T := T_C) (N := 11) hx hb hts i_C hown hK hP 0 rfl rfl 1 (by decide) (hts _ k_102) (fun _ h9 => h9) rfl d_C_coefficient_11 ?_
  refine lv_iload_n hx hb d_C_coefficient_14 rfl (lv_at hl 1 rfl) ?_
  refine lv_aload_n hx hb d_C_coefficient_15 rfl (lv_at hl 0 rfl) ?_
  refine va_get (D := (dC, dI)) (ci := 2) (v := .ref (Z 1)) (C := "DealtSecret") (T := T_C) (N := 11) hx hb hts i_C hown hK hP 0 rfl rfl 0 (by decide) (hts _ k_101) (fun _ h9 => h9) rfl d_C_coefficient_16 ?_
  refine lv_iload_n hx hb d_C_coefficient_19 rfl (lv_at hl 2 rfl) ?_
  refine ro_V (As := [.int x0]) (rest := [.int (nI k0), .ref (Z 2)]) (b := (Z 1)) ⟨hx, hb, hml, hown, hts⟩ (c_G_number l dC dI (Z 1) p0 q0 g0 h0 x0 (by omega) okq) (cwV 1 hts (al_V k_288 k_289 k_290 k_2 k_291) rfl rfl rfl (by decide +kernel) ⟨Nat.le_of_ble_eq_true rfl, Nat.le_of_ble_eq_true rfl⟩) (fun U g mk a h => ⟨h.1, va_K.moved (u := U) (U := U.calling g mk a) (Vm.Alike.refl U.vm) h.2⟩) (va_recv hK hP (ci := 0) (q0 := 1) rfl rfl) (fun U hU hW => ⟨by rw [hU]; exact (hP.sub [1] rfl), va_K.moved hW.alike (hK.sub [] rfl)⟩) rfl hl.1 rfl (lv_room (Nat.le_of_ble_eq_true rfl)) d_C_coefficient_20 ⟨Nat.zero_le _, Nat.zero_le _⟩ ?_
  refine va_iast hx hb hK hP hD hS 2 0 rfl rfl (vp_in_nI (by omega) (by decide)) d_C_coefficient_23 (fun H locs hP hD hS => ?_)
  rw [nI_clamp (by omega)] at hP hD
  have hP : va_P (dC, dI) cls (wC Z cI cP p0 q0 g0 h0 (up S 1 k0 (nI (md x0 q0)))) H := by rw [← w_ca1]; exact hP
  have hD : va_D (w_A (wC Z cI cP p0 q0 g0 h0 (S))) (wC Z cI cP p0 q0 g0 h0 (up S 1 k0 (nI (md x0 q0)))) := by rw [← w_ca1]; exact hD
  refine lv_aload_n hx hb d_C_coefficient_24 rfl (lv_at hl 0 rfl) ?_
  refine va_get (D := (dC, dI)) (ci := 2) (v := .ref (Z 3)) (C := "DealtSecret") (T := T_C) (N := 11) hx hb hts i_C hown hK hP 0 rfl rfl 2 (by decide) (hts _ k_103) (fun _ h9 => h9) rfl d_C_coefficient_25 ?_
  refine lv_iload_n hx hb d_C_coefficient_28 rfl (lv_at hl 1 rfl) ?_
  refine lv_aload_n hx hb d_C_coefficient_29 rfl (lv_at hl 0 rfl) ?_
  refine lv_iload_n hx hb d_C_coefficient_30 rfl (lv_at hl 3 rfl) ?_
  refine ro_V (As := [.int y0]) (rest := [.int (nI k0), .ref (Z 3)]) (b := (Z 0)) ⟨hx, hb, hml, hown, hts⟩ (c_C_blindNumber l dC dI Z cI cP p0 q0 g0 h0 (up S 1 k0 (nI (md x0 q0))) y0 ok) (cwV 1 hts (al_V k_295 k_296 k_639 k_1 k_297) rfl rfl rfl (by decide +kernel) ⟨Nat.le_of_ble_eq_true rfl, Nat.le_of_ble_eq_true rfl⟩) (fun U g mk a h => ⟨h.1, va_K.moved (u := U) (U := U.calling g mk a) (Vm.Alike.refl U.vm) h.2⟩) (va_recv hK hP (ci := 2) (q0 := 0) rfl rfl) (fun U hU hW => ⟨by rw [hU]; exact hP, va_K.moved hW.alike hK⟩) rfl hl.1 rfl (lv_room (Nat.le_of_ble_eq_true rfl)) d_C_coefficient_31 ⟨Nat.zero_le _, Nat.zero_le _⟩ ?_
  refine va_iast hx hb hK hP hD hS 3 0 rfl rfl (vp_in_nI (by omega) (by decide)) d_C_coefficient_34 (fun H locs hP hD hS => ?_)
  rw [nI_clamp (by omega)] at hP hD
  have hP : va_P (dC, dI) cls (wC Z cI cP p0 q0 g0 h0 (up (up S 1 k0 (nI (md x0 q0))) 2 k0 (bnum (S 0 3) y0 q0))) H := by rw [← w_ca2]; exact hP
  have hD : va_D (w_A (wC Z cI cP p0 q0 g0 h0 (S))) (wC Z cI cP p0 q0 g0 h0 (up (up S 1 k0 (nI (md x0 q0))) 2 k0 (bnum (S 0 3) y0 q0))) := by rw [← w_ca2]; exact hD
  exact wr_v hx hb hr hlk hP hS d_C_coefficient_35
set_option maxRecDepth 100000 in
set_option maxHeartbeats 4000000 in
/-- tamper(i, u, v) where it is allowed -/
theorem c_C_tamper (l : Launch) (dC : Nat → ClassId) (dI : Nat → Nat → Nat) (Z : Nat → Nat) (cI cP : ClassId) (p0 q0 g0 h0 : Nat) (S : Nat → Nat → Int32) (j n0 : Nat) (hn : S 0 1 = nI n0) (hn7 : n0 ≤ 7) (hj : j < n0) (x0 y0 : Int32) (hst : S 0 0 = 2) (ok : okG p0 q0 g0 h0) : Wr l y_C_tamper ws_C_tamper 3 64 [.ref (Z 0), .int (nI (j + 1)), .int x0, .int y0] (dC, dI) cls (tysC cI cP) (wC Z cI cP p0 q0 g0 h0 (S)) (wC Z cI cP p0 q0 g0 h0 (rcv S j (nI (md x0 q0)) (bnum (S 0 3) y0 q0))) (none) := by
  refine Met.ofW (cc := b_C_tamper) (maxL := 4) (ret := none) (by decide) rfl ?_
  intro p e s m args below meth c s₁ B hml hv
  obtain ⟨rfl, hP, hK, hD0⟩ := hv
  have hx := B.exec
  have hb := B.bytes
  have hr := B.returns
  have hts : ∀ w ∈ AL, w.before ([.ref (Z 0), .int (nI (j + 1)), .int x0, .int y0] : List Value).toArray s = true := fun w h => atoms_spec (ws := ws_C_tamper) B.pre w (List.mem_cons_of_mem _ h)
  have hown : s.vm.findClass "DealtSecret" = some m.cls := findClass_of_methodNamed B.named
  have hlk := B.notSynchronized
  have hl := lv_entry ([.ref (Z 0), .int (nI (j + 1)), .int x0, .int y0]) (n := 4) (Nat.le_of_ble_eq_true rfl)
  rw [lg_entry_eq]
  generalize (lg_sl ([.ref (Z 0), .int (nI (j + 1)), .int x0, .int y0]) ++ List.replicate (4 - (lg_sl ([.ref (Z 0), .int (nI (j + 1)), .int x0, .int y0])).length) Slot.unset).toArray = ls at hl ⊢
  have hl : lv_has ls 4 [(0, .ref (Z 0)), (1, .int (nI (j + 1))), (2, .int x0), (3, .int y0)] := hl
  have hD := w_self hD0
  have hS : va_S (w_A (wC Z cI cP p0 q0 g0 h0 (S))) s.heap s.heap [] := va_S.rf
  obtain ⟨okp2, okp, okq2, okq, okg, okh⟩ := id ok
  refine lv_aload_n hx hb d_C_tamper_0 rfl (lv_at hl 0 rfl) ?_
  refine lv_iconst (v := 2) hx hb d_C_tamper_1 (by decide) ?_
  refine rv_V (As := [.int 2]) (rest := []) (b := (Z 0)) ⟨hx, hb, hml, hown, hts⟩ (c_C_demandStage l dC dI Z cI cP p0 q0 g0 h0 S 2 hst) (cwV 1 hts (al_V k_269 k_270 k_637 k_1 k_271) rfl rfl rfl (by decide +kernel) ⟨Nat.le_of_ble_eq_true rfl, Nat.le_of_ble_eq_true rfl⟩) (fun U g mk a h => ⟨h.1, va_K.moved (u := U) (U := U.calling g mk a) (Vm.Alike.refl U.vm) h.2⟩) (va_recv hK hP (ci := 2) (q0 := 0) rfl rfl) (fun U hU hW => ⟨by rw [hU]; exact hP, va_K.moved hW.alike hK⟩) rfl hl.1 rfl (lv_room (Nat.le_of_ble_eq_true rfl)) d_C_tamper_2 ⟨Nat.zero_le _, Nat.zero_le _⟩ ?_
  refine lv_aload_n hx hb d_C_tamper_5 rfl (lv_at hl 0 rfl) ?_
  refine lv_iload_n hx hb d_C_tamper_6 rfl (lv_at hl 1 rfl) ?_
  refine rv_V (As := [.int (nI (j + 1))]) (rest := []) (b := (Z 0)) ⟨hx, hb, hml, hown, hts⟩ (c_C_demandParticipant l dC dI Z cI cP p0 q0 g0 h0 S (nI (j + 1)) (by rw [hn]; exact isPt_of (by omega) hj)) (cwV 1 hts (al_V k_338 k_339 k_645 k_1 k_340) rfl rfl rfl (by decide +kernel) ⟨Nat.le_of_ble_eq_true rfl, Nat.le_of_ble_eq_true rfl⟩) (fun U g mk a h => ⟨h.1, va_K.moved (u := U) (U := U.calling g mk a) (Vm.Alike.refl U.vm) h.2⟩) (va_recv hK hP (ci := 2) (q0 := 0) rfl rfl) (fun U hU hW => ⟨by rw [hU]; exact hP, va_K.moved hW.alike hK⟩) rfl hl.1 rfl (lv_room (Nat.le_of_ble_eq_true rfl)) d_C_tamper_7 ⟨Nat.zero_le _, Nat.zero_le _⟩ ?_
  refine lv_aload_n hx hb d_C_tamper_10 rfl (lv_at hl 0 rfl) ?_
  refine va_get (D := (dC, dI)) (ci := 2) (v := .ref (Z 5)) (C := "DealtSecret") (T := T_C) (N := 11) hx hb hts i_C hown hK hP 0 rfl rfl 4 (by decide) (hts _ k_105) (fun _ h9 => h9) rfl d_C_tamper_11 ?_
  refine lv_iload_n hx hb d_C_tamper_14 rfl (lv_at hl 1 rfl) ?_
  refine lv_iconst (v := 1) hx hb d_C_tamper_15 (by decide) ?_
  refine lv_isub hx hb d_C_tamper_16 ?_
  refine x_i (y := nI j) (nI_pred j) ?_
  refine va_aldq hx hb hK hP 5 1 rfl rfl (vp_in_nI (by omega) (by decide)) d_C_tamper_17 ?_
  refine x_v (y := .ref (Z (6 + j))) (by rw [nI_clamp (by omega)]; rfl) ?_
  refine lv_aload_n hx hb d_C_tamper_18 rfl (lv_at hl 0 rfl) ?_
  refine va_get (D := (dC, dI)) (ci := 2) (v := .ref (Z 1)) (C := "DealtSecret") (T := T_C) (N := 11) hx hb hts i_C hown hK hP 0 rfl rfl 0 (by decide) (hts _ k_101) (fun _ h9 => h9) rfl d_C_tamper_19 ?_
  refine lv_iload_n hx hb d_C_tamper_22 rfl (lv_at hl 2 rfl) ?_
  refine ro_V (As := [.int x0]) (rest := [.ref (Z (6 + j))]) (b := (Z 1)) ⟨hx, hb, hml, hown, hts⟩ (c_G_number l dC dI (Z 1) p0 q0 g0 h0 x0 (by omega) okq) (cwV 1 hts (al_V k_288 k_289 k_290 k_2 k_291) rfl rfl rfl (by decide +kernel) ⟨Nat.le_of_ble_eq_true rfl, Nat.le_of_ble_eq_true rfl⟩) (fun U g mk a h => ⟨h.1, va_K.moved (u := U) (U := U.calling g mk a) (Vm.Alike.refl U.vm) h.2⟩) (va_recv hK hP (ci := 0) (q0 := 1) rfl rfl) (fun U hU hW => ⟨by rw [hU]; exact (hP.sub [1] rfl), va_K.moved hW.alike (hK.sub [] rfl)⟩) rfl hl.1 rfl (lv_room (Nat.le_of_ble_eq_true rfl)) d_C_tamper_23 ⟨Nat.zero_le _, Nat.zero_le _⟩ ?_
  refine lv_aload_n hx hb d_C_tamper_26 rfl (lv_at hl 0 rfl) ?_
  refine lv_iload_n hx hb d_C_tamper_27 rfl (lv_at hl 3 rfl) ?_
  refine ro_V (As := [.int y0]) (rest := [.int (nI (md x0 q0)), .ref (Z (6 + j))]) (b := (Z 0)) ⟨hx, hb, hml, hown, hts⟩ (c_C_blindNumber l dC dI Z cI cP p0 q0 g0 h0 S y0 ok) (cwV 1 hts (al_V k_295 k_296 k_639 k_1 k_297) rfl rfl rfl (by decide +kernel) ⟨Nat.le_of_ble_eq_true rfl, Nat.le_of_ble_eq_true rfl⟩) (fun U g mk a h => ⟨h.1, va_K.moved (u := U) (U := U.calling g mk a) (Vm.Alike.refl U.vm) h.2⟩) (va_recv hK hP (ci := 2) (q0 := 0) rfl rfl) (fun U hU hW => ⟨by rw [hU]; exact hP, va_K.moved hW.alike hK⟩) rfl hl.1 rfl (lv_room (Nat.le_of_ble_eq_true rfl)) d_C_tamper_28 ⟨Nat.zero_le _, Nat.zero_le _⟩ ?_
  refine wr_V (As := [.int (nI (md x0 q0)), .int (bnum (S 0 3) y0 q0)]) (rest := []) (b := (Z (6 + j))) ⟨hx, hb, hml, hown, hts⟩ (c_P_receive l dC dI Z cI cP p0 q0 g0 h0 S j (by omega) (nI (md x0 q0)) (bnum (S 0 3) y0 q0)) (cwV 2 hts (al_V k_321 k_322 k_323 k_3 k_324) rfl rfl rfl (by decide +kernel) ⟨Nat.le_of_ble_eq_true rfl, Nat.le_of_ble_eq_true rfl⟩) (va_recv hK hP (ci := 1) (q0 := (6 + j)) rfl (w_part (by omega))) hP hK hD hS rfl hl.1 rfl (lv_room (Nat.le_of_ble_eq_true rfl)) d_C_tamper_31 ⟨Nat.zero_le _, Nat.zero_le _⟩ (fun H locs hP _ _ hS => ?_)
  have hD := w_addr hD (w_adC S (rcv S j (nI (md x0 q0)) (bnum (S 0 3) y0 q0)))
  exact wr_v hx hb hr hlk hP hS d_C_tamper_34
set_option maxRecDepth 100000 in
set_option maxHeartbeats 4000000 in
/-- forge(k, x) where it is allowed -/
theorem c_C_forge (l : Launch) (dC : Nat → ClassId) (dI : Nat → Nat → Nat) (Z : Nat → Nat) (cI cP : ClassId) (p0 q0 g0 h0 : Nat) (S : Nat → Nat → Int32) (k0 t0 x0 : Nat) (hst : S 0 0 = 2) (ht : S 0 2 = nI t0) (ht7 : t0 ≤ 7) (hk0 : k0 < t0) (hx1 : 1 ≤ x0) (hxp : x0 < p0) (ok : okG p0 q0 g0 h0) : Wr l y_C_forge ws_C_forge 2 42 [.ref (Z 0), .int (nI k0), .int (nI x0)] (dC, dI) cls (tysC cI cP) (wC Z cI cP p0 q0 g0 h0 (S)) (wC Z cI cP p0 q0 g0 h0 (up S 3 k0 (nI x0))) (none) := by
  refine Met.ofW (cc := b_C_forge) (maxL := 3) (ret := none) (by decide) rfl ?_
  intro p e s m args below meth c s₁ B hml hv
  obtain ⟨rfl, hP, hK, hD0⟩ := hv
  have hx := B.exec
  have hb := B.bytes
  have hr := B.returns
  have hts : ∀ w ∈ AL, w.before ([.ref (Z 0), .int (nI k0), .int (nI x0)] : List Value).toArray s = true := fun w h => atoms_spec (ws := ws_C_forge) B.pre w (List.mem_cons_of_mem _ h)
  have hown : s.vm.findClass "DealtSecret" = some m.cls := findClass_of_methodNamed B.named
  have hlk := B.notSynchronized
  have hl := lv_entry ([.ref (Z 0), .int (nI k0), .int (nI x0)]) (n := 3) (Nat.le_of_ble_eq_true rfl)
  rw [lg_entry_eq]
  generalize (lg_sl ([.ref (Z 0), .int (nI k0), .int (nI x0)]) ++ List.replicate (3 - (lg_sl ([.ref (Z 0), .int (nI k0), .int (nI x0)])).length) Slot.unset).toArray = ls at hl ⊢
  have hl : lv_has ls 3 [(0, .ref (Z 0)), (1, .int (nI k0)), (2, .int (nI x0))] := hl
  have hD := w_self hD0
  have hS : va_S (w_A (wC Z cI cP p0 q0 g0 h0 (S))) s.heap s.heap [] := va_S.rf
  obtain ⟨okp2, okp, okq2, okq, okg, okh⟩ := id ok
  refine lv_aload_n hx hb d_C_forge_0 rfl (lv_at hl 0 rfl) ?_
  refine lv_iconst (v := 2) hx hb d_C_forge_1 (by decide) ?_
  refine rv_V (As := [.int 2]) (rest := []) (b := (Z 0)) ⟨hx, hb, hml, hown, hts⟩ (c_C_demandStage l dC dI Z cI cP p0 q0 g0 h0 S 2 hst) (cwV 1 hts (al_V k_269 k_270 k_637 k_1 k_271) rfl rfl rfl (by decide +kernel) ⟨Nat.le_of_ble_eq_true rfl, Nat.le_of_ble_eq_true rfl⟩) (fun U g mk a h => ⟨h.1, va_K.moved (u := U) (U := U.calling g mk a) (Vm.Alike.refl U.vm) h.2⟩) (va_recv hK hP (ci := 2) (q0 := 0) rfl rfl) (fun U hU hW => ⟨by rw [hU]; exact hP, va_K.moved hW.alike hK⟩) rfl hl.1 rfl (lv_room (Nat.le_of_ble_eq_true rfl)) d_C_forge_2 ⟨Nat.zero_le _, Nat.zero_le _⟩ ?_
  refine lv_aload_n hx hb d_C_forge_5 rfl (lv_at hl 0 rfl) ?_
  refine lv_iload_n hx hb d_C_forge_6 rfl (lv_at hl 1 rfl) ?_
  refine rv_V (As := [.int (nI k0)]) (rest := []) (b := (Z 0)) ⟨hx, hb, hml, hown, hts⟩ (c_C_demandCoefficient l dC dI Z cI cP p0 q0 g0 h0 S (nI k0) (by rw [ht]; exact isCf_of (by omega) hk0)) (cwV 1 hts (al_V k_285 k_286 k_638 k_1 k_287) rfl rfl rfl (by decide +kernel) ⟨Nat.le_of_ble_eq_true rfl, Nat.le_of_ble_eq_true rfl⟩) (fun U g mk a h => ⟨h.1, va_K.moved (u := U) (U := U.calling g mk a) (Vm.Alike.refl U.vm) h.2⟩) (va_recv hK hP (ci := 2) (q0 := 0) rfl rfl) (fun U hU hW => ⟨by rw [hU]; exact hP, va_K.moved hW.alike hK⟩) rfl hl.1 rfl (lv_room (Nat.le_of_ble_eq_true rfl)) d_C_forge_7 ⟨Nat.zero_le _, Nat.zero_le _⟩ ?_
  refine lv_iload_n hx hb d_C_forge_10 rfl (lv_at hl 2 rfl) ?_
  refine lv_iconst (v := (nI 1)) hx hb d_C_forge_11 (by decide) ?_
  refine lv_icmp_lt (tgt := 26) hx hb d_C_forge_12 (by decide) (fun c_ => absurd c_ (nI_nlt hx1 (by omega))) (fun _ => ?_)
  refine lv_iload_n hx hb d_C_forge_15 rfl (lv_at hl 2 rfl) ?_
  refine lv_aload_n hx hb d_C_forge_16 rfl (lv_at hl 0 rfl) ?_
  refine va_get (D := (dC, dI)) (ci := 2) (v := .ref (Z 1)) (C := "DealtSecret") (T := T_C) (N := 11) hx hb hts i_C hown hK hP 0 rfl rfl 0 (by decide) (hts _ k_101) (fun _ h9 => h9) rfl d_C_forge_17 ?_
  refine va_get (D := (dC, dI)) (ci := 0) (v := .int (nI p0)) (C := "DealtSecret$Group") (T := T_G) (N := 4) hx hb hts i_G hown hK hP 1 rfl rfl 0 (by decide) (hts _ k_43) (fun _ h9 => h9) rfl d_C_forge_20 ?_
  refine lv_icmp_lt (tgt := 36) hx hb d_C_forge_23 (by decide) (fun _ => ?_) (fun c_ => absurd (nI_lt hxp okp) c_)
  refine lv_aload_n hx hb d_C_forge_36 rfl (lv_at hl 0 rfl) ?_
  refine va_get (D := (dC, dI)) (ci := 2) (v := .ref (Z 4)) (C := "DealtSecret") (T := T_C) (N := 11) hx hb hts i_C hown hK hP 0 rfl rfl 3 (by decide) (hts _ k_104) (fun _ h9 => h9) rfl d_C_forge_37 ?_
  refine lv_iload_n hx hb d_C_forge_40 rfl (lv_at hl 1 rfl) ?_
  refine lv_iload_n hx hb d_C_forge_41 rfl (lv_at hl 2 rfl) ?_
  refine va_iast hx hb hK hP hD hS 4 0 rfl rfl (vp_in_nI (by omega) (by decide)) d_C_forge_42 (fun H locs hP hD hS => ?_)
  rw [nI_clamp (by omega)] at hP hD
  have hP : va_P (dC, dI) cls (wC Z cI cP p0 q0 g0 h0 (up S 3 k0 (nI x0))) H := by rw [← w_ca3]; exact hP
  have hD : va_D (w_A (wC Z cI cP p0 q0 g0 h0 (S))) (wC Z cI cP p0 q0 g0 h0 (up S 3 k0 (nI x0))) := by rw [← w_ca3]; exact hD
  exact wr_v hx hb hr hlk hP hS d_C_forge_43
set_option maxRecDepth 100000 in
set_option maxHeartbeats 4000000 in
/-- corrupt(i) where it is allowed -/
theorem c_C_corrupt (l : Launch) (dC : Nat → ClassId) (dI : Nat → Nat → Nat) (Z : Nat → Nat) (cI cP : ClassId) (p0 q0 g0 h0 : Nat) (S : Nat → Nat → Int32) (j n0 : Nat) (hn : S 0 1 = nI n0) (hn7 : n0 ≤ 7) (hj : j < n0) (hst : S 0 0 = 1 ∨ S 0 0 = 2) : Wr l y_C_corrupt ws_C_corrupt 2 42 [.ref (Z 0), .int (nI (j + 1))] (dC, dI) cls (tysC cI cP) (wC Z cI cP p0 q0 g0 h0 (S)) (wC Z cI cP p0 q0 g0 h0 (up S 7 j 1)) (some (.int (mz_b (S 7 j = 0)))) := by
  refine Met.ofW (cc := b_C_corrupt) (maxL := 4) (ret := (some .boolean)) (by decide) rfl ?_
  intro p e s m args below meth c s₁ B hml hv
  obtain ⟨rfl, hP, hK, hD0⟩ := hv
  have hx := B.exec
  have hb := B.bytes
  have hr := B.returns
  have hts : ∀ w ∈ AL, w.before ([.ref (Z 0), .int (nI (j + 1))] : List Value).toArray s = true := fun w h => atoms_spec (ws := ws_C_corrupt) B.pre w (List.mem_cons_of_mem _ h)
  have hown : s.vm.findClass "DealtSecret" = some m.cls := findClass_of_methodNamed B.named
  have hlk := B.notSynchronized
  have hl := lv_entry ([.ref (Z 0), .int (nI (j + 1))]) (n := 4) (Nat.le_of_ble_eq_true rfl)
  rw [lg_entry_eq]
  generalize (lg_sl ([.ref (Z 0), .int (nI (j + 1))]) ++ List.replicate (4 - (lg_sl ([.ref (Z 0), .int (nI (j + 1))])).length) Slot.unset).toArray = ls at hl ⊢
  have hl : lv_has ls 4 [(0, .ref (Z 0)), (1, .int (nI (j + 1)))] := hl
  have hD := w_self hD0
  have hS : va_S (w_A (wC Z cI cP p0 q0 g0 h0 (S))) s.heap s.heap [] := va_S.rf
  refine lv_aload_n hx hb d_C_corrupt_0 rfl (lv_at hl 0 rfl) ?_
  refine va_get (D := (dC, dI)) (ci := 2) (v := .int (S 0 0)) (C := "DealtSecret") (T := T_C) (N := 11) hx hb hts i_C hown hK hP 0 rfl rfl 5 (by decide) (hts _ k_106) (fun _ h9 => h9) rfl d_C_corrupt_1 ?_
  refine lv_iconst (v := 1) hx hb d_C_corrupt_4 (by decide) ?_
  refine lv_icmp_eq (tgt := 26) hx hb d_C_corrupt_5 (by decide) (fun c5 => ?_) (fun c5 => ?_)
  · refine lv_aload_n hx hb d_C_corrupt_26 rfl (lv_at hl 0 rfl) ?_
    refine lv_iload_n hx hb d_C_corrupt_27 rfl (lv_at hl 1 rfl) ?_
    refine rv_V (As := [.int (nI (j + 1))]) (rest := []) (b := (Z 0)) ⟨hx, hb, hml, hown, hts⟩ (c_C_demandParticipant l dC dI Z cI cP p0 q0 g0 h0 S (nI (j + 1)) (by rw [hn]; exact isPt_of (by omega) hj)) (cwV 1 hts (al_V k_338 k_339 k_645 k_1 k_340) rfl rfl rfl (by decide +kernel) ⟨Nat.le_of_ble_eq_true rfl, Nat.le_of_ble_eq_true rfl⟩) (fun U g mk a h => ⟨h.1, va_K.moved (u := U) (U := U.calling g mk a) (Vm.Alike.refl U.vm) h.2⟩) (va_recv hK hP (ci := 2) (q0 := 0) rfl rfl) (fun U hU hW => ⟨by rw [hU]; exact hP, va_K.moved hW.alike hK⟩) rfl hl.1 rfl (lv_room (Nat.le_of_ble_eq_true rfl)) d_C_corrupt_28 ⟨Nat.zero_le _, Nat.zero_le _⟩ ?_
    refine lv_aload_n hx hb d_C_corrupt_31 rfl (lv_at hl 0 rfl) ?_
    refine va_get (D := (dC, dI)) (ci := 2) (v := .ref (Z 5)) (C := "DealtSecret") (T := T_C) (N := 11) hx hb hts i_C hown hK hP 0 rfl rfl 4 (by decide) (hts _ k_105) (fun _ h9 => h9) rfl d_C_corrupt_32 ?_
    refine lv_iload_n hx hb d_C_corrupt_35 rfl (lv_at hl 1 rfl) ?_
    refine lv_iconst (v := 1) hx hb d_C_corrupt_36 (by decide) ?_
    refine lv_isub hx hb d_C_corrupt_37 ?_
    refine x_i (y := nI j) (nI_pred j) ?_
    refine va_aldq hx hb hK hP 5 1 rfl rfl (vp_in_nI (by omega) (by decide)) d_C_corrupt_38 ?_
    refine x_v (y := .ref (Z (6 + j))) (by rw [nI_clamp (by omega)]; rfl) ?_
    refine lv_astore_n (lv' := [(2, .ref (Z (6 + j))), (0, .ref (Z 0)), (1, .int (nI (j + 1)))]) hx hb d_C_corrupt_39 rfl hl (by decide) rfl (fun ls hl => ?_)
    refine lv_aload_n hx hb d_C_corrupt_40 rfl (lv_at hl 0 rfl) ?_
    refine va_get (D := (dC, dI)) (ci := 1) (v := .int (S 7 j)) (C := "DealtSecret$Participant") (T := T_P) (N := 9) hx hb hts i_P hown hK hP (6 + j) (w_part (by omega)) rfl 3 (by decide) (hts _ k_71) (fun _ h9 => h9) rfl d_C_corrupt_41 ?_
    refine lv_if_ne (tgt := 51) hx hb d_C_corrupt_44 (by decide) (fun c44 => ?_) (fun c44 => ?_)
    · refine lv_iconst (v := 0) hx hb d_C_corrupt_51 (by decide) ?_
      refine x_i (y := mz_b (S 7 j = 0)) ((mz_bf c44).symm) ?_
      refine lv_istore_n (lv' := [(3, .int (mz_b (S 7 j = 0))), (2, .ref (Z (6 + j))), (0, .ref (Z 0)), (1, .int (nI (j + 1)))]) hx hb d_C_corrupt_52 rfl hl (by decide) rfl (fun ls hl => ?_)
      refine lv_aload_n hx hb d_C_corrupt_53 rfl (lv_at hl 1 rfl) ?_
      refine lv_iconst (v := 1) hx hb d_C_corrupt_54 (by decide) ?_
      refine va_put (D := (dC, dI)) (ci := 1) (v := .int 1) (ty := .boolean) (C := "DealtSecret$Participant") (T := T_P) (N := 9) hx hb hts i_P t_P t_P_ok n_P hown hK hP hD hS (6 + j) (w_part (by omega)) rfl 3 (by decide) (hts _ k_71) (fun _ h9 => h9) rfl (by decide +kernel) (rfl) (rfl) (Nat.le_of_ble_eq_true rfl) d_C_corrupt_55 (fun H locs hP hD hS => ?_)
      have hP : va_P (dC, dI) cls (wC Z cI cP p0 q0 g0 h0 (up S 7 j 1)) H := by rw [← w_pt3 (by omega)]; exact hP
      have hD : va_D (w_A (wC Z cI cP p0 q0 g0 h0 (S))) (wC Z cI cP p0 q0 g0 h0 (up S 7 j 1)) := by rw [← w_pt3 (by omega)]; exact hD
      refine lv_iload_n hx hb d_C_corrupt_58 rfl (lv_at hl 0 rfl) ?_
      exact wr_z hx hb hr hlk (by first | rfl | exact mz_bn _) hP hS d_C_corrupt_59
    · refine lv_iconst (v := 1) hx hb d_C_corrupt_47 (by decide) ?_
      refine x_i (y := mz_b (S 7 j = 0)) ((mz_bt c44).symm) ?_
      refine lv_goto (tgt := 52) hx hb d_C_corrupt_48 (by decide) ?_
      refine lv_istore_n (lv' := [(3, .int (mz_b (S 7 j = 0))), (2, .ref (Z (6 + j))), (0, .ref (Z 0)), (1, .int (nI (j + 1)))]) hx hb d_C_corrupt_52 rfl hl (by decide) rfl (fun ls hl => ?_)
      refine lv_aload_n hx hb d_C_corrupt_53 rfl (lv_at hl 1 rfl) ?_
      refine lv_iconst (v := 1) hx hb d_C_corrupt_54 (by decide) ?_
      refine va_put (D := (dC, dI)) (ci := 1) (v := .int 1) (ty := .boolean) (C := "DealtSecret$Participant") (T := T_P) (N := 9) hx hb hts i_P t_P t_P_ok n_P hown hK hP hD hS (6 + j) (w_part (by omega)) rfl 3 (by decide) (hts _ k_71) (fun _ h9 => h9) rfl (by decide +kernel) (rfl) (rfl) (Nat.le_of_ble_eq_true rfl) d_C_corrupt_55 (fun H locs hP hD hS => ?_)
      have hP : va_P (dC, dI) cls (wC Z cI cP p0 q0 g0 h0 (up S 7 j 1)) H := by rw [← w_pt3 (by omega)]; exact hP
      have hD : va_D (w_A (wC Z cI cP p0 q0 g0 h0 (S))) (wC Z cI cP p0 q0 g0 h0 (up S 7 j 1)) := by rw [← w_pt3 (by omega)]; exact hD
      refine lv_iload_n hx hb d_C_corrupt_58 rfl (lv_at hl 0 rfl) ?_
      exact wr_z hx hb hr hlk (by first | rfl | exact mz_bn _) hP hS d_C_corrupt_59
  · refine lv_aload_n hx hb d_C_corrupt_8 rfl (lv_at hl 0 rfl) ?_
    refine va_get (D := (dC, dI)) (ci := 2) (v := .int (S 0 0)) (C := "DealtSecret") (T := T_C) (N := 11) hx hb hts i_C hown hK hP 0 rfl rfl 5 (by decide) (hts _ k_106) (fun _ h9 => h9) rfl d_C_corrupt_9 ?_
    refine lv_iconst (v := 2) hx hb d_C_corrupt_12 (by decide) ?_
    refine lv_icmp_eq (tgt := 26) hx hb d_C_corrupt_13 (by decide) (fun _ => ?_) (fun c_ => absurd (hst.elim (fun q => absurd q c5) id) c_)
    refine lv_aload_n hx hb d_C_corrupt_26 rfl (lv_at hl 0 rfl) ?_
    refine lv_iload_n hx hb d_C_corrupt_27 rfl (lv_at hl 1 rfl) ?_
    refine rv_V (As := [.int (nI (j + 1))]) (rest := []) (b := (Z 0)) ⟨hx, hb, hml, hown, hts⟩ (c_C_demandParticipant l dC dI Z cI cP p0 q0 g0 h0 S (nI (j + 1)) (by rw [hn]; exact isPt_of (by omega) hj)) (cwV 1 hts (al_V k_338 k_339 k_645 k_1 k_340) rfl rfl rfl (by decide +kernel) ⟨Nat.le_of_ble_eq_true rfl, Nat.le_of_ble_eq_true rfl⟩) (fun U g mk a h => ⟨h.1, va_K.moved (u := U) (U := U.calling g mk a) (Vm.Alike.refl U.vm) h.2⟩) (va_recv hK hP (ci := 2) (q0 := 0) rfl rfl) (fun U hU hW => ⟨by rw [hU]; exact hP, va_K.moved hW.alike hK⟩) rfl hl.1 rfl (lv_room (Nat.le_of_ble_eq_true rfl)) d_C_corrupt_28 ⟨Nat.zero_le _, Nat.zero_le _⟩ ?_
    refine lv_aload_n hx hb d_C_corrupt_31 rfl (lv_at hl 0 rfl) ?_
    refine va_get (D := (dC, dI)) (ci := 2) (v := .ref (Z 5)) (C := "DealtSecret") (T := T_C) (N := 11) hx hb hts i_C hown hK hP 0 rfl rfl 4 (by decide) (hts _ k_105) (fun _ h9 => h9) rfl d_C_corrupt_32 ?_
    refine lv_iload_n hx hb d_C_corrupt_35 rfl (lv_at hl 1 rfl) ?_
    refine lv_iconst (v := 1) hx hb d_C_corrupt_36 (by decide) ?_
    refine lv_isub hx hb d_C_corrupt_37 ?_
    refine x_i (y := nI j) (nI_pred j) ?_
    refine va_aldq hx hb hK hP 5 1 rfl rfl (vp_in_nI (by omega) (by decide)) d_C_corrupt_38 ?_
    refine x_v (y := .ref (Z (6 + j))) (by rw [nI_clamp (by omega)]; rfl) ?_
    refine lv_astore_n (lv' := [(2, .ref (Z (6 + j))), (0, .ref (Z 0)), (1, .int (nI (j + 1)))]) hx hb d_C_corrupt_39 rfl hl (by decide) rfl (fun ls hl => ?_)
    refine lv_aload_n hx hb d_C_corrupt_40 rfl (lv_at hl 0 rfl) ?_
    refine va_get (D := (dC, dI)) (ci := 1) (v := .int (S 7 j)) (C := "DealtSecret$Participant") (T := T_P) (N := 9) hx hb hts i_P hown hK hP (6 + j) (w_part (by omega)) rfl 3 (by decide) (hts _ k_71) (fun _ h9 => h9) rfl d_C_corrupt_41 ?_
    refine lv_if_ne (tgt := 51) hx hb d_C_corrupt_44 (by decide) (fun c44 => ?_) (fun c44 => ?_)
    · refine lv_iconst (v := 0) hx hb d_C_corrupt_51 (by decide) ?_
      refine x_i (y := mz_b (S 7 j = 0)) ((mz_bf c44).symm) ?_
      refine lv_istore_n (lv' := [(3, .int (mz_b (S 7 j = 0))), (2, .ref (Z (6 + j))), (0, .ref (Z 0)), (1, .int (nI (j + 1)))]) hx hb d_C_corrupt_52 rfl hl (by decide) rfl (fun ls hl => ?_)
      refine lv_aload_n hx hb d_C_corrupt_53 rfl (lv_at hl 1 rfl) ?_
      refine lv_iconst (v := 1) hx hb d_C_corrupt_54 (by decide) ?_
      refine va_put (D := (dC, dI)) (ci := 1) (v := .int 1) (ty := .boolean) (C := "DealtSecret$Participant") (T := T_P) (N := 9) hx hb hts i_P t_P t_P_ok n_P hown hK hP hD hS (6 + j) (w_part (by omega)) rfl 3 (by decide) (hts _ k_71) (fun _ h9 => h9) rfl (by decide +kernel) (rfl) (rfl) (Nat.le_of_ble_eq_true rfl) d_C_corrupt_55 (fun H locs hP hD hS => ?_)
      have hP : va_P (dC, dI) cls (wC Z cI cP p0 q0 g0 h0 (up S 7 j 1)) H := by rw [← w_pt3 (by omega)]; exact hP
      have hD : va_D (w_A (wC Z cI cP p0 q0 g0 h0 (S))) (wC Z cI cP p0 q0 g0 h0 (up S 7 j 1)) := by rw [← w_pt3 (by omega)]; exact hD
      refine lv_iload_n hx hb d_C_corrupt_58 rfl (lv_at hl 0 rfl) ?_
      exact wr_z hx hb hr hlk (by first | rfl | exact mz_bn _) hP hS d_C_corrupt_59
    · refine lv_iconst (v := 1) hx hb d_C_corrupt_47 (by decide) ?_
      refine x_i (y := mz_b (S 7 j = 0)) ((mz_bt c44).symm) ?_
      refine lv_goto (tgt := 52) hx hb d_C_corrupt_48 (by decide) ?_
      refine lv_istore_n (lv' := [(3, .int (mz_b (S 7 j = 0))), (2, .ref (Z (6 + j))), (0, .ref (Z 0)), (1, .int (nI (j + 1)))]) hx hb d_C_corrupt_52 rfl hl (by decide) rfl (fun ls hl => ?_)
      refine lv_aload_n hx hb d_C_corrupt_53 rfl (lv_at hl 1 rfl) ?_
      refine lv_iconst (v := 1) hx hb d_C_corrupt_54 (by decide) ?_
      refine va_put (D := (dC, dI)) (ci := 1) (v := .int 1) (ty := .boolean) (C := "DealtSecret$Participant") (T := T_P) (N := 9) hx hb hts i_P t_P t_P_ok n_P hown hK hP hD hS (6 + j) (w_part (by omega)) rfl 3 (by decide) (hts _ k_71) (fun _ h9 => h9) rfl (by decide +kernel) (rfl) (rfl) (Nat.le_of_ble_eq_true rfl) d_C_corrupt_55 (fun H locs hP hD hS => ?_)
      have hP : va_P (dC, dI) cls (wC Z cI cP p0 q0 g0 h0 (up S 7 j 1)) H := by rw [← w_pt3 (by omega)]; exact hP
      have hD : va_D (w_A (wC Z cI cP p0 q0 g0 h0 (S))) (wC Z cI cP p0 q0 g0 h0 (up S 7 j 1)) := by rw [← w_pt3 (by omega)]; exact hD
      refine lv_iload_n hx hb d_C_corrupt_58 rfl (lv_at hl 0 rfl) ?_
      exact wr_z hx hb hr hlk (by first | rfl | exact mz_bn _) hP hS d_C_corrupt_59
set_option maxRecDepth 100000 in
set_option maxHeartbeats 4000000 in
/-- accuse(i) where it is allowed -/
theorem c_C_accuse (l : Launch) (dC : Nat → ClassId) (dI : Nat → Nat → Nat) (Z : Nat → Nat) (cI cP : ClassId) (p0 q0 g0 h0 : Nat) (S : Nat → Nat → Int32) (j n0 : Nat) (hn : S 0 1 = nI n0) (hn7 : n0 ≤ 7) (hj : j < n0) (hst : S 0 0 = 3) : Wr l y_C_accuse ws_C_accuse 2 42 [.ref (Z 0), .int (nI (j + 1))] (dC, dI) cls (tysC cI cP) (wC Z cI cP p0 q0 g0 h0 (S)) (wC Z cI cP p0 q0 g0 h0 (acS S j)) (some (.int (mz_b (¬ S 7 j = 0 ∧ S 8 j = 0)))) := by
  refine Met.ofW (cc := b_C_accuse) (maxL := 3) (ret := (some .boolean)) (by decide) rfl ?_
  intro p e s m args below meth c s₁ B hml hv
  obtain ⟨rfl, hP, hK, hD0⟩ := hv
  have hx := B.exec
  have hb := B.bytes
  have hr := B.returns
  have hts : ∀ w ∈ AL, w.before ([.ref (Z 0), .int (nI (j + 1))] : List Value).toArray s = true := fun w h => atoms_spec (ws := ws_C_accuse) B.pre w (List.mem_cons_of_mem _ h)
  have hown : s.vm.findClass "DealtSecret" = some m.cls := findClass_of_methodNamed B.named
  have hlk := B.notSynchronized
  have hl := lv_entry ([.ref (Z 0), .int (nI (j + 1))]) (n := 3) (Nat.le_of_ble_eq_true rfl)
  rw [lg_entry_eq]
  generalize (lg_sl ([.ref (Z 0), .int (nI (j + 1))]) ++ List.replicate (3 - (lg_sl ([.ref (Z 0), .int (nI (j + 1))])).length) Slot.unset).toArray = ls at hl ⊢
  have hl : lv_has ls 3 [(0, .ref (Z 0)), (1, .int (nI (j + 1)))] := hl
  have hD := w_self hD0
  have hS : va_S (w_A (wC Z cI cP p0 q0 g0 h0 (S))) s.heap s.heap [] := va_S.rf
  refine lv_aload_n hx hb d_C_accuse_0 rfl (lv_at hl 0 rfl) ?_
  refine lv_iconst (v := 3) hx hb d_C_accuse_1 (by decide) ?_
  refine rv_V (As := [.int 3]) (rest := []) (b := (Z 0)) ⟨hx, hb, hml, hown, hts⟩ (c_C_demandStage l dC dI Z cI cP p0 q0 g0 h0 S 3 hst) (cwV 1 hts (al_V k_269 k_270 k_637 k_1 k_271) rfl rfl rfl (by decide +kernel) ⟨Nat.le_of_ble_eq_true rfl, Nat.le_of_ble_eq_true rfl⟩) (fun U g mk a h => ⟨h.1, va_K.moved (u := U) (U := U.calling g mk a) (Vm.Alike.refl U.vm) h.2⟩) (va_recv hK hP (ci := 2) (q0 := 0) rfl rfl) (fun U hU hW => ⟨by rw [hU]; exact hP, va_K.moved hW.alike hK⟩) rfl hl.1 rfl (lv_room (Nat.le_of_ble_eq_true rfl)) d_C_accuse_2 ⟨Nat.zero_le _, Nat.zero_le _⟩ ?_
  refine lv_aload_n hx hb d_C_accuse_5 rfl (lv_at hl 0 rfl) ?_
  refine lv_iload_n hx hb d_C_accuse_6 rfl (lv_at hl 1 rfl) ?_
  refine rv_V (As := [.int (nI (j + 1))]) (rest := []) (b := (Z 0)) ⟨hx, hb, hml, hown, hts⟩ (c_C_demandParticipant l dC dI Z cI cP p0 q0 g0 h0 S (nI (j + 1)) (by rw [hn]; exact isPt_of (by omega) hj)) (cwV 1 hts (al_V k_338 k_339 k_645 k_1 k_340) rfl rfl rfl (by decide +kernel) ⟨Nat.le_of_ble_eq_true rfl, Nat.le_of_ble_eq_true rfl⟩) (fun U g mk a h => ⟨h.1, va_K.moved (u := U) (U := U.calling g mk a) (Vm.Alike.refl U.vm) h.2⟩) (va_recv hK hP (ci := 2) (q0 := 0) rfl rfl) (fun U hU hW => ⟨by rw [hU]; exact hP, va_K.moved hW.alike hK⟩) rfl hl.1 rfl (lv_room (Nat.le_of_ble_eq_true rfl)) d_C_accuse_7 ⟨Nat.zero_le _, Nat.zero_le _⟩ ?_
  refine lv_aload_n hx hb d_C_accuse_10 rfl (lv_at hl 0 rfl) ?_
  refine va_get (D := (dC, dI)) (ci := 2) (v := .ref (Z 5)) (C := "DealtSecret") (T := T_C) (N := 11) hx hb hts i_C hown hK hP 0 rfl rfl 4 (by decide) (hts _ k_105) (fun _ h9 => h9) rfl d_C_accuse_11 ?_
  refine lv_iload_n hx hb d_C_accuse_14 rfl (lv_at hl 1 rfl) ?_
  refine lv_iconst (v := 1) hx hb d_C_accuse_15 (by decide) ?_
  refine lv_isub hx hb d_C_accuse_16 ?_
  refine x_i (y := nI j) (nI_pred j) ?_
  refine va_aldq hx hb hK hP 5 1 rfl rfl (vp_in_nI (by omega) (by decide)) d_C_accuse_17 ?_
  refine x_v (y := .ref (Z (6 + j))) (by rw [nI_clamp (by omega)]; rfl) ?_
  refine lv_astore_n (lv' := [(2, .ref (Z (6 + j))), (0, .ref (Z 0)), (1, .int (nI (j + 1)))]) hx hb d_C_accuse_18 rfl hl (by decide) rfl (fun ls hl => ?_)
  refine lv_aload_n hx hb d_C_accuse_19 rfl (lv_at hl 0 rfl) ?_
  refine va_get (D := (dC, dI)) (ci := 1) (v := .int (S 7 j)) (C := "DealtSecret$Participant") (T := T_P) (N := 9) hx hb hts i_P hown hK hP (6 + j) (w_part (by omega)) rfl 3 (by decide) (hts _ k_71) (fun _ h9 => h9) rfl d_C_accuse_20 ?_
  refine lv_if_eq (tgt := 33) hx hb d_C_accuse_23 (by decide) (fun c23 => ?_) (fun c23 => ?_)
  · refine lv_iconst (v := 0) hx hb d_C_accuse_33 (by decide) ?_
    have hne : ¬ (¬ S 7 j = 0 ∧ S 8 j = 0) := fun q => by first | exact q.1 c23 | exact c30 q.2
    have hP : va_P (dC, dI) cls (wC Z cI cP p0 q0 g0 h0 (acS S j)) s.heap := by rw [show acS S j = S from if_neg hne]; exact hP
    refine x_i (y := mz_b (¬ S 7 j = 0 ∧ S 8 j = 0)) (mz_bf hne).symm ?_
    exact wr_z hx hb hr hlk (mz_bn _) hP hS d_C_accuse_34
  · refine lv_aload_n hx hb d_C_accuse_26 rfl (lv_at hl 0 rfl) ?_
    refine va_get (D := (dC, dI)) (ci := 1) (v := .int (S 8 j)) (C := "DealtSecret$Participant") (T := T_P) (N := 9) hx hb hts i_P hown hK hP (6 + j) (w_part (by omega)) rfl 4 (by decide) (hts _ k_73) (fun _ h9 => h9) rfl d_C_accuse_27 ?_
    refine lv_if_eq (tgt := 35) hx hb d_C_accuse_30 (by decide) (fun c30 => ?_) (fun c30 => ?_)
    · refine lv_aload_n hx hb d_C_accuse_35 rfl (lv_at hl 0 rfl) ?_
      refine lv_iconst (v := 1) hx hb d_C_accuse_36 (by decide) ?_
      refine va_put (D := (dC, dI)) (ci := 1) (v := .int 1) (ty := .boolean) (C := "DealtSecret$Participant") (T := T_P) (N := 9) hx hb hts i_P t_P t_P_ok n_P hown hK hP hD hS (6 + j) (w_part (by omega)) rfl 4 (by decide) (hts _ k_73) (fun _ h9 => h9) rfl (by decide +kernel) (rfl) (rfl) (Nat.le_of_ble_eq_true rfl) d_C_accuse_37 (fun H locs hP hD hS => ?_)
      have hP : va_P (dC, dI) cls (wC Z cI cP p0 q0 g0 h0 (up S 8 j 1)) H := by rw [← w_pt4 (by omega)]; exact hP
      have hD : va_D (w_A (wC Z cI cP p0 q0 g0 h0 (S))) (wC Z cI cP p0 q0 g0 h0 (up S 8 j 1)) := by rw [← w_pt4 (by omega)]; exact hD
      refine lv_iconst (v := 1) hx hb d_C_accuse_40 (by decide) ?_
      have hP : va_P (dC, dI) cls (wC Z cI cP p0 q0 g0 h0 (acS S j)) H := by rw [show acS S j = up S 8 j 1 from if_pos ⟨c23, c30⟩]; exact hP
      refine x_i (y := mz_b (¬ S 7 j = 0 ∧ S 8 j = 0)) (mz_bt ⟨c23, c30⟩).symm ?_
      exact wr_z hx hb hr hlk (mz_bn _) hP hS d_C_accuse_41
    · refine lv_iconst (v := 0) hx hb d_C_accuse_33 (by decide) ?_
      have hne : ¬ (¬ S 7 j = 0 ∧ S 8 j = 0) := fun q => by first | exact q.1 c23 | exact c30 q.2
      have hP : va_P (dC, dI) cls (wC Z cI cP p0 q0 g0 h0 (acS S j)) s.heap := by rw [show acS S j = S from if_neg hne]; exact hP
      refine x_i (y := mz_b (¬ S 7 j = 0 ∧ S 8 j = 0)) (mz_bf hne).symm ?_
      exact wr_z hx hb hr hlk (mz_bn _) hP hS d_C_accuse_34
