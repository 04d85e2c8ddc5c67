/-- what share(i, what), fits(i), group(what) tell -/
noncomputable def shC (S : Nat → Nat → Int32) (i w : Int32) : Int32 := @ite _ (¬ S 0 0 < 2 ∧ isPt (S 0 1) i) (Classical.propDecidable _) (if w = 0 then S 5 (nn i - 1) else if w = 1 then S 6 (nn i - 1) else -1) (-1)
def grC (p0 q0 g0 h0 : Nat) (w : Int32) : Int32 := if w = 0 then nI p0 else if w = 1 then nI q0 else if w = 2 then nI g0 else if w = 3 then nI h0 else 0
def allA (S : Nat → Nat → Int32) (n0 : Nat) : Prop := ∀ i, i < n0 → S 8 i = 0 ∨ ¬ S 9 i = 0
set_option maxRecDepth 100000 in
set_option maxHeartbeats 4000000 in
/-- share(i, what) -/
theorem c_C_share (l : Launch) (dC : Nat → ClassId) (dI : Nat → Nat → Nat) (Z : Nat → Nat) (cI cP : ClassId) (p0 q0 g0 h0 : Nat) (S : Nat → Nat → Int32) (i1 w1 : Int32) (n0 : Nat) (hn : S 0 1 = nI n0) (hn7 : n0 ≤ 7) : Ro l y_C_share ws_C_share 1 21 [.ref (Z 0), .int i1, .int w1] (bC dC dI Z cI cP p0 q0 g0 h0 S) (shC S i1 w1) := by
  refine Met.ofW (cc := b_C_share) (maxL := 3) (ret := (some .int)) (by decide) rfl ?_
  intro p e s m args below meth c s₁ B hml hv
  obtain ⟨rfl, hP, hK⟩ := hv
  have hx := B.exec
  have hb := B.bytes
  have hr := B.returns
  have hts : ∀ w ∈ AL, w.before ([.ref (Z 0), .int i1, .int w1] : List Value).toArray s = true := fun w h => atoms_spec (ws := ws_C_share) B.pre w (List.mem_cons_of_mem _ h)
  have hown : s.vm.findClass "DealtSecret" = some m.cls := findClass_of_methodNamed B.named
  have hlk := B.notSynchronized
  have hl := lv_entry ([.ref (Z 0), .int i1, .int w1]) (n := 3) (Nat.le_of_ble_eq_true rfl)
  rw [lg_entry_eq]
  generalize (lg_sl ([.ref (Z 0), .int i1, .int w1]) ++ List.replicate (3 - (lg_sl ([.ref (Z 0), .int i1, .int w1])).length) Slot.unset).toArray = ls at hl ⊢
  have hl : lv_has ls 3 [(0, .ref (Z 0)), (1, .int i1), (2, .int w1)] := hl
  refine lv_aload_n hx hb d_C_share_0 rfl (lv_at hl 0 rfl) ?_
  refine ro_V (As := []) (rest := []) (b := (Z 0)) ⟨hx, hb, hml, hown, hts⟩ (c_C_isDealt l dC dI Z cI cP p0 q0 g0 h0 S) (cwV 0 hts (al_V k_146 k_147 k_630 k_1 k_148) rfl rfl rfl (by decide +kernel) ⟨Nat.le_of_ble_eq_true rfl, Nat.le_of_ble_eq_true rfl⟩) (fun U g mk a h => ⟨h.1, va_K.moved (u := U) (U := U.calling g mk a) (Vm.Alike.refl U.vm) h.2⟩) (va_recv hK hP (ci := 2) (q0 := 0) rfl rfl) (fun U hU hW => ⟨by rw [hU]; exact hP, va_K.moved hW.alike hK⟩) rfl hl.1 rfl (lv_room (Nat.le_of_ble_eq_true rfl)) d_C_share_1 ⟨Nat.zero_le _, Nat.zero_le _⟩ ?_
  refine lv_if_eq (tgt := 15) hx hb d_C_share_4 (by decide) (fun c4 => ?_) (fun c4 => ?_)
  · have h1 := mz_b0.mp c4
    refine lv_iconst (v := (-1)) hx hb d_C_share_15 (by decide) ?_
    exact ro_i hx hb hr hlk d_C_share_16 ((if_neg (by first | exact fun q => h1 q.1 | exact fun q => h2 q.2)).symm)
  · have h1 : ¬ S 0 0 < 2 := Classical.not_not.mp (fun z => c4 (mz_bf z))
    refine lv_aload_n hx hb d_C_share_7 rfl (lv_at hl 0 rfl) ?_
    refine lv_iload_n hx hb d_C_share_8 rfl (lv_at hl 1 rfl) ?_
    refine ro_V (As := [.int i1]) (rest := []) (b := (Z 0)) ⟨hx, hb, hml, hown, hts⟩ (c_C_isParticipant l dC dI Z cI cP p0 q0 g0 h0 S i1) (cwV 1 hts (al_V k_156 k_157 k_632 k_1 k_158) rfl rfl rfl (by decide +kernel) ⟨Nat.le_of_ble_eq_true rfl, Nat.le_of_ble_eq_true rfl⟩) (fun U g mk a h => ⟨h.1, va_K.moved (u := U) (U := U.calling g mk a) (Vm.Alike.refl U.vm) h.2⟩) (va_recv hK hP (ci := 2) (q0 := 0) rfl rfl) (fun U hU hW => ⟨by rw [hU]; exact hP, va_K.moved hW.alike hK⟩) rfl hl.1 rfl (lv_room (Nat.le_of_ble_eq_true rfl)) d_C_share_9 ⟨Nat.zero_le _, Nat.zero_le _⟩ ?_
    refine lv_if_ne (tgt := 17) hx hb d_C_share_12 (by decide) (fun c12 => ?_) (fun c12 => ?_)
    · have h2 : isPt (S 0 1) i1 := Classical.not_not.mp (fun z => c12 (mz_bf z))
      obtain ⟨j, hj, rfl⟩ := isPt_nat (by rw [hn] at h2; exact h2) (by omega)
      refine lv_iload_n hx hb d_C_share_17 rfl (lv_at hl 2 rfl) ?_
      by_cases c0 : w1 = 0
      · refine lv_lookup (tgt := 44) hx hb d_C_share_18 (by decide) (by rw [c0]) (by decide) ?_
        refine lv_aload_n hx hb d_C_share_44 rfl (lv_at hl 0 rfl) ?_
        refine va_get (D := (dC, dI)) (ci := 2) (v := .ref (Z 5)) (C := "DealtSecret") (T := T_C) (N := 11) hx hb hts i_C hown hK hP 0 rfl rfl 4 (by decide) (hts _ k_105) (fun _ h9 => h9) rfl d_C_share_45 ?_
        refine lv_iload_n hx hb d_C_share_48 rfl (lv_at hl 1 rfl) ?_
        refine lv_iconst (v := 1) hx hb d_C_share_49 (by decide) ?_
        refine lv_isub hx hb d_C_share_50 ?_
        refine x_i (y := nI j) (nI_pred j) ?_
        refine va_aldq hx hb hK hP 5 1 rfl rfl (vp_in_nI (by omega) (by decide)) d_C_share_51 ?_
        refine x_v (y := .ref (Z (6 + j))) (by rw [nI_clamp (by omega)]; rfl) ?_
        refine va_get (D := (dC, dI)) (ci := 1) (v := .int (S 5 j)) (C := "DealtSecret$Participant") (T := T_P) (N := 9) hx hb hts i_P hown hK hP (6 + j) (w_part (by omega)) rfl 1 (by decide) (hts _ k_67) (fun _ h9 => h9) rfl d_C_share_52 ?_
        exact ro_i hx hb hr hlk d_C_share_55 ((((if_pos ⟨h1, h2⟩).trans (if_pos c0)).trans (by rw [nn_nI (by omega), Nat.add_sub_cancel])).symm)
      by_cases c1 : w1 = 1
      · refine lv_lookup (tgt := 56) hx hb d_C_share_18 (by decide) (by rw [c1]) (by decide) ?_
        refine lv_aload_n hx hb d_C_share_56 rfl (lv_at hl 0 rfl) ?_
        refine va_get (D := (dC, dI)) (ci := 2) (v := .ref (Z 5)) (C := "DealtSecret") (T := T_C) (N := 11) hx hb hts i_C hown hK hP 0 rfl rfl 4 (by decide) (hts _ k_105) (fun _ h9 => h9) rfl d_C_share_57 ?_
        refine lv_iload_n hx hb d_C_share_60 rfl (lv_at hl 1 rfl) ?_
        refine lv_iconst (v := 1) hx hb d_C_share_61 (by decide) ?_
        refine lv_isub hx hb d_C_share_62 ?_
        refine x_i (y := nI j) (nI_pred j) ?_
        refine va_aldq hx hb hK hP 5 1 rfl rfl (vp_in_nI (by omega) (by decide)) d_C_share_63 ?_
        refine x_v (y := .ref (Z (6 + j))) (by rw [nI_clamp (by omega)]; rfl) ?_
        refine va_get (D := (dC, dI)) (ci := 1) (v := .int (S 6 j)) (C := "DealtSecret$Participant") (T := T_P) (N := 9) hx hb hts i_P hown hK hP (6 + j) (w_part (by omega)) rfl 2 (by decide) (hts _ k_69) (fun _ h9 => h9) rfl d_C_share_64 ?_
        exact ro_i hx hb hr hlk d_C_share_67 ((((if_pos ⟨h1, h2⟩).trans ((if_neg c0).trans (if_pos c1))).trans (by rw [nn_nI (by omega), Nat.add_sub_cancel])).symm)
      refine lv_lookup (tgt := 68) (off := 50) hx hb d_C_share_18 (by decide) (by show Op.lookupswitch.offset [(0, 26), (1, 38)] 50 w1.toInt = 50; rw [lv_osw c0 (by decide), lv_osw c1 (by decide)]; rfl) (by decide) ?_
      refine lv_iconst (v := (-1)) hx hb d_C_share_68 (by decide) ?_
      exact ro_i hx hb hr hlk d_C_share_69 (((if_pos ⟨h1, h2⟩).trans ((if_neg c0).trans (if_neg c1))).symm)
    · have h2 := mz_b0.mp c12
      refine lv_iconst (v := (-1)) hx hb d_C_share_15 (by decide) ?_
      exact ro_i hx hb hr hlk d_C_share_16 ((if_neg (by first | exact fun q => h1 q.1 | exact fun q => h2 q.2)).symm)
set_option maxRecDepth 100000 in
set_option maxHeartbeats 4000000 in
/-- fits(i) of a participant -/
theorem c_C_fits (l : Launch) (dC : Nat → ClassId) (dI : Nat → Nat → Nat) (Z : Nat → Nat) (cI cP : ClassId) (p0 q0 g0 h0 : Nat) (S : Nat → Nat → Int32) (j n0 t0 : Nat) (hn : S 0 1 = nI n0) (hn7 : n0 ≤ 7) (hj : j < n0) (hd : ¬ S 0 0 < 2) (hu : okN (S 5 j) q0) (hv : okN (S 6 j) q0) (hN : S 4 j = nI (j + 1)) (ht : S 0 2 = nI t0) (ht7 : t0 ≤ 7) (ok : okG p0 q0 g0 h0) (hC : ∀ k, k < t0 → okN (S 3 k) p0) : Ro l y_C_fits ws_C_fits 5 116 [.ref (Z 0), .int (nI (j + 1))] (bC dC dI Z cI cP p0 q0 g0 h0 S) (mz_b ((g0 ^ (nn (S 5 j)) % p0) * (h0 ^ (nn (S 6 j)) % p0) % p0 = mz_cp (fun k => nn (S 3 k)) (j + 1) 0 t0 % p0)) := by
  refine Met.ofW (cc := b_C_fits) (maxL := 2) (ret := (some .boolean)) (by decide) rfl ?_
  intro p e s m args below meth c s₁ B hml hv
  obtain ⟨rfl, hP, hK⟩ := hv
  have hx := B.exec
  have hb := B.bytes
  have hr := B.returns
  have hts : ∀ w ∈ AL, w.before ([.ref (Z 0), .int (nI (j + 1))] : List Value).toArray s = true := fun w h => atoms_spec (ws := ws_C_fits) B.pre w (List.mem_cons_of_mem _ h)
  have hown : s.vm.findClass "DealtSecret" = some m.cls := findClass_of_methodNamed B.named
  have hlk := B.notSynchronized
  have hl := lv_entry ([.ref (Z 0), .int (nI (j + 1))]) (n := 2) (Nat.le_of_ble_eq_true rfl)
  rw [lg_entry_eq]
  generalize (lg_sl ([.ref (Z 0), .int (nI (j + 1))]) ++ List.replicate (2 - (lg_sl ([.ref (Z 0), .int (nI (j + 1))])).length) Slot.unset).toArray = ls at hl ⊢
  have hl : lv_has ls 2 [(0, .ref (Z 0)), (1, .int (nI (j + 1)))] := hl
  obtain ⟨okp2, okp, okq2, okq, okg, okh⟩ := id ok
  refine lv_aload_n hx hb d_C_fits_0 rfl (lv_at hl 0 rfl) ?_
  refine ro_V (As := []) (rest := []) (b := (Z 0)) ⟨hx, hb, hml, hown, hts⟩ (c_C_isDealt l dC dI Z cI cP p0 q0 g0 h0 S) (cwV 0 hts (al_V k_146 k_147 k_630 k_1 k_148) rfl rfl rfl (by decide +kernel) ⟨Nat.le_of_ble_eq_true rfl, Nat.le_of_ble_eq_true rfl⟩) (fun U g mk a h => ⟨h.1, va_K.moved (u := U) (U := U.calling g mk a) (Vm.Alike.refl U.vm) h.2⟩) (va_recv hK hP (ci := 2) (q0 := 0) rfl rfl) (fun U hU hW => ⟨by rw [hU]; exact hP, va_K.moved hW.alike hK⟩) rfl hl.1 rfl (lv_room (Nat.le_of_ble_eq_true rfl)) d_C_fits_1 ⟨Nat.zero_le _, Nat.zero_le _⟩ ?_
  refine lv_if_eq (tgt := 34) hx hb d_C_fits_4 (by decide) (fun c_ => absurd c_ (fun q => mz_b0.mp q hd)) (fun _ => ?_)
  refine lv_aload_n hx hb d_C_fits_7 rfl (lv_at hl 0 rfl) ?_
  refine lv_iload_n hx hb d_C_fits_8 rfl (lv_at hl 1 rfl) ?_
  refine ro_V (As := [.int (nI (j + 1))]) (rest := []) (b := (Z 0)) ⟨hx, hb, hml, hown, hts⟩ (c_C_isParticipant l dC dI Z cI cP p0 q0 g0 h0 S (nI (j + 1))) (cwV 1 hts (al_V k_156 k_157 k_632 k_1 k_158) rfl rfl rfl (by decide +kernel) ⟨Nat.le_of_ble_eq_true rfl, Nat.le_of_ble_eq_true rfl⟩) (fun U g mk a h => ⟨h.1, va_K.moved (u := U) (U := U.calling g mk a) (Vm.Alike.refl U.vm) h.2⟩) (va_recv hK hP (ci := 2) (q0 := 0) rfl rfl) (fun U hU hW => ⟨by rw [hU]; exact hP, va_K.moved hW.alike hK⟩) rfl hl.1 rfl (lv_room (Nat.le_of_ble_eq_true rfl)) d_C_fits_9 ⟨Nat.zero_le _, Nat.zero_le _⟩ ?_
  refine lv_if_eq (tgt := 34) hx hb d_C_fits_12 (by decide) (fun c_ => absurd c_ (fun q => mz_b0.mp q (by rw [hn]; exact isPt_of (by omega) hj))) (fun _ => ?_)
  refine lv_aload_n hx hb d_C_fits_15 rfl (lv_at hl 0 rfl) ?_
  refine lv_aload_n hx hb d_C_fits_16 rfl (lv_at hl 0 rfl) ?_
  refine va_get (D := (dC, dI)) (ci := 2) (v := .ref (Z 5)) (C := "DealtSecret") (T := T_C) (N := 11) hx hb hts i_C hown hK hP 0 rfl rfl 4 (by decide) (hts _ k_105) (fun _ h9 => h9) rfl d_C_fits_17 ?_
  refine lv_iload_n hx hb d_C_fits_20 rfl (lv_at hl 1 rfl) ?_
  refine lv_iconst (v := 1) hx hb d_C_fits_21 (by decide) ?_
  refine lv_isub hx hb d_C_fits_22 ?_
  refine x_i (y := nI j) (nI_pred j) ?_
  refine va_aldq hx hb hK hP 5 1 rfl rfl (vp_in_nI (by omega) (by decide)) d_C_fits_23 ?_
  refine x_v (y := .ref (Z (6 + j))) (by rw [nI_clamp (by omega)]; rfl) ?_
  refine ro_V (As := [.ref (Z (6 + j))]) (rest := []) (b := (Z 0)) ⟨hx, hb, hml, hown, hts⟩ (c_C_isShareRight l dC dI Z cI cP p0 q0 g0 h0 S j t0 (by omega) hN hu hv ht ht7 ok hC) (cwV 1 hts (al_V k_163 k_164 k_633 k_1 k_165) rfl rfl rfl (by decide +kernel) ⟨Nat.le_of_ble_eq_true rfl, Nat.le_of_ble_eq_true rfl⟩) (fun U g mk a h => ⟨h.1, va_K.moved (u := U) (U := U.calling g mk a) (Vm.Alike.refl U.vm) h.2⟩) (va_recv hK hP (ci := 2) (q0 := 0) rfl rfl) (fun U hU hW => ⟨by rw [hU]; exact hP, va_K.moved hW.alike hK⟩) rfl hl.1 rfl (lv_room (Nat.le_of_ble_eq_true rfl)) d_C_fits_24 ⟨Nat.zero_le _, Nat.zero_le _⟩ ?_
  refine lv_if_eq (tgt := 34) hx hb d_C_fits_27 (by decide) (fun c27 => ?_) (fun c27 => ?_)
  · refine lv_iconst (v := 0) hx hb d_C_fits_34 (by decide) ?_
    refine x_i (y := mz_b ((g0 ^ (nn (S 5 j)) % p0) * (h0 ^ (nn (S 6 j)) % p0) % p0 = mz_cp (fun k => nn (S 3 k)) (j + 1) 0 t0 % p0)) (c27.symm) ?_
    exact ro_z hx hb hr hlk d_C_fits_35 (by first | rfl | exact mz_bn _) (rfl)
  · refine lv_iconst (v := 1) hx hb d_C_fits_30 (by decide) ?_
    refine x_i (y := mz_b ((g0 ^ (nn (S 5 j)) % p0) * (h0 ^ (nn (S 6 j)) % p0) % p0 = mz_cp (fun k => nn (S 3 k)) (j + 1) 0 t0 % p0)) ((mz_bt (Classical.not_not.mp (fun z => c27 (mz_bf z)))).symm) ?_
    refine lv_goto (tgt := 35) hx hb d_C_fits_31 (by decide) ?_
    exact ro_z hx hb hr hlk d_C_fits_35 (by first | rfl | exact mz_bn _) (rfl)
set_option maxRecDepth 100000 in
set_option maxHeartbeats 4000000 in
/-- fits(i) where there is nothing to fit -/
theorem c_C_fits_no (l : Launch) (dC : Nat → ClassId) (dI : Nat → Nat → Nat) (Z : Nat → Nat) (cI cP : ClassId) (p0 q0 g0 h0 : Nat) (S : Nat → Nat → Int32) (i1 : Int32) (hd : S 0 0 < 2 ∨ ¬ isPt (S 0 1) i1) : Ro l y_C_fits ws_C_fits 5 116 [.ref (Z 0), .int i1] (bC dC dI Z cI cP p0 q0 g0 h0 S) (0) := by
  refine Met.ofW (cc := b_C_fits) (maxL := 2) (ret := (some .boolean)) (by decide) rfl ?_
  intro p e s m args below meth c s₁ B hml hv
  obtain ⟨rfl, hP, hK⟩ := hv
  have hx := B.exec
  have hb := B.bytes
  have hr := B.returns
  have hts : ∀ w ∈ AL, w.before ([.ref (Z 0), .int i1] : List Value).toArray s = true := fun w h => atoms_spec (ws := ws_C_fits) B.pre w (List.mem_cons_of_mem _ h)
  have hown : s.vm.findClass "DealtSecret" = some m.cls := findClass_of_methodNamed B.named
  have hlk := B.notSynchronized
  have hl := lv_entry ([.ref (Z 0), .int i1]) (n := 2) (Nat.le_of_ble_eq_true rfl)
  rw [lg_entry_eq]
  generalize (lg_sl ([.ref (Z 0), .int i1]) ++ List.replicate (2 - (lg_sl ([.ref (Z 0), .int i1])).length) Slot.unset).toArray = ls at hl ⊢
  have hl : lv_has ls 2 [(0, .ref (Z 0)), (1, .int i1)] := hl
  refine lv_aload_n hx hb d_C_fits_0 rfl (lv_at hl 0 rfl) ?_
  refine ro_V (As := []) (rest := []) (b := (Z 0)) ⟨hx, hb, hml, hown, hts⟩ (c_C_isDealt l dC dI Z cI cP p0 q0 g0 h0 S) (cwV 0 hts (al_V k_146 k_147 k_630 k_1 k_148) rfl rfl rfl (by decide +kernel) ⟨Nat.le_of_ble_eq_true rfl, Nat.le_of_ble_eq_true rfl⟩) (fun U g mk a h => ⟨h.1, va_K.moved (u := U) (U := U.calling g mk a) (Vm.Alike.refl U.vm) h.2⟩) (va_recv hK hP (ci := 2) (q0 := 0) rfl rfl) (fun U hU hW => ⟨by rw [hU]; exact hP, va_K.moved hW.alike hK⟩) rfl hl.1 rfl (lv_room (Nat.le_of_ble_eq_true rfl)) d_C_fits_1 ⟨Nat.zero_le _, Nat.zero_le _⟩ ?_
  refine lv_if_eq (tgt := 34) hx hb d_C_fits_4 (by decide) (fun c4 => ?_) (fun c4 => ?_)
  · refine lv_iconst (v := 0) hx hb d_C_fits_34 (by decide) ?_
    exact ro_z hx hb hr hlk d_C_fits_35 (by first | rfl | exact mz_bn _) (rfl)
  · have h1 : ¬ S 0 0 < 2 := Classical.not_not.mp (fun z => c4 (mz_bf z))
    refine lv_aload_n hx hb d_C_fits_7 rfl (lv_at hl 0 rfl) ?_
    refine lv_iload_n hx hb d_C_fits_8 rfl (lv_at hl 1 rfl) ?_
    refine ro_V (As := [.int i1]) (rest := []) (b := (Z 0)) ⟨hx, hb, hml, hown, hts⟩ (c_C_isParticipant l dC dI Z cI cP p0 q0 g0 h0 S i1) (cwV 1 hts (al_V k_156 k_157 k_632 k_1 k_158) rfl rfl rfl (by decide +kernel) ⟨Nat.le_of_ble_eq_true rfl, Nat.le_of_ble_eq_true rfl⟩) (fun U g mk a h => ⟨h.1, va_K.moved (u := U) (U := U.calling g mk a) (Vm.Alike.refl U.vm) h.2⟩) (va_recv hK hP (ci := 2) (q0 := 0) rfl rfl) (fun U hU hW => ⟨by rw [hU]; exact hP, va_K.moved hW.alike hK⟩) rfl hl.1 rfl (lv_room (Nat.le_of_ble_eq_true rfl)) d_C_fits_9 ⟨Nat.zero_le _, Nat.zero_le _⟩ ?_
    refine lv_if_eq (tgt := 34) hx hb d_C_fits_12 (by decide) (fun _ => ?_) (fun c_ => absurd (mz_bf (hd.resolve_left h1)) c_)
    refine lv_iconst (v := 0) hx hb d_C_fits_34 (by decide) ?_
    exact ro_z hx hb hr hlk d_C_fits_35 (by first | rfl | exact mz_bn _) (rfl)
set_option maxRecDepth 100000 in
set_option maxHeartbeats 4000000 in
/-- group(what) -/
theorem c_C_group (l : Launch) (dC : Nat → ClassId) (dI : Nat → Nat → Nat) (Z : Nat → Nat) (cI cP : ClassId) (p0 q0 g0 h0 : Nat) (S : Nat → Nat → Int32) (w1 : Int32) : Ro l y_C_group ws_C_group 0 0 [.ref (Z 0), .int w1] (bC dC dI Z cI cP p0 q0 g0 h0 S) (grC p0 q0 g0 h0 w1) := by
  refine Met.ofW (cc := b_C_group) (maxL := 2) (ret := (some .int)) (by decide) rfl ?_
  intro p e s m args below meth c s₁ B hml hv
  obtain ⟨rfl, hP, hK⟩ := hv
  have hx := B.exec
  have hb := B.bytes
  have hr := B.returns
  have hts : ∀ w ∈ AL, w.before ([.ref (Z 0), .int w1] : List Value).toArray s = true := fun w h => atoms_spec (ws := ws_C_group) B.pre w (List.mem_cons_of_mem _ h)
  have hown : s.vm.findClass "DealtSecret" = some m.cls := findClass_of_methodNamed B.named
  have hlk := B.notSynchronized
  have hl := lv_entry ([.ref (Z 0), .int w1]) (n := 2) (Nat.le_of_ble_eq_true rfl)
  rw [lg_entry_eq]
  generalize (lg_sl ([.ref (Z 0), .int w1]) ++ List.replicate (2 - (lg_sl ([.ref (Z 0), .int w1])).length) Slot.unset).toArray = ls at hl ⊢
  have hl : lv_has ls 2 [(0, .ref (Z 0)), (1, .int w1)] := hl
  refine lv_iload_n hx hb d_C_group_0 rfl (lv_at hl 1 rfl) ?_
  by_cases c0 : w1 = 0
  · refine lv_tableIn (tgt := 32) hx hb d_C_group_1 (by rw [c0]; decide) (by rw [c0]; decide) (by rw [c0]; rfl) (by decide) ?_
    refine lv_aload_n hx hb d_C_group_32 rfl (lv_at hl 0 rfl) ?_
    refine va_get (D := (dC, dI)) (ci := 2) (v := .ref (Z 1)) (C := "DealtSecret") (T := T_C) (N := 11) hx hb hts i_C hown hK hP 0 rfl rfl 0 (by decide) (hts _ k_101) (fun _ h9 => h9) rfl d_C_group_33 ?_
    refine va_get (D := (dC, dI)) (ci := 0) (v := .int (nI p0)) (C := "DealtSecret$Group") (T := T_G) (N := 4) hx hb hts i_G hown hK hP 1 rfl rfl 0 (by decide) (hts _ k_43) (fun _ h9 => h9) rfl d_C_group_36 ?_
    exact ro_i hx hb hr hlk d_C_group_39 (((if_pos c0)).symm)
  by_cases c1 : w1 = 1
  · refine lv_tableIn (tgt := 40) hx hb d_C_group_1 (by rw [c1]; decide) (by rw [c1]; decide) (by rw [c1]; rfl) (by decide) ?_
    refine lv_aload_n hx hb d_C_group_40 rfl (lv_at hl 0 rfl) ?_
    refine va_get (D := (dC, dI)) (ci := 2) (v := .ref (Z 1)) (C := "DealtSecret") (T := T_C) (N := 11) hx hb hts i_C hown hK hP 0 rfl rfl 0 (by decide) (hts _ k_101) (fun _ h9 => h9) rfl d_C_group_41 ?_
    refine va_get (D := (dC, dI)) (ci := 0) (v := .int (nI q0)) (C := "DealtSecret$Group") (T := T_G) (N := 4) hx hb hts i_G hown hK hP 1 rfl rfl 1 (by decide) (hts _ k_45) (fun _ h9 => h9) rfl d_C_group_44 ?_
    exact ro_i hx hb hr hlk d_C_group_47 ((((if_neg c0).trans (if_pos c1))).symm)
  by_cases c2 : w1 = 2
  · refine lv_tableIn (tgt := 48) hx hb d_C_group_1 (by rw [c2]; decide) (by rw [c2]; decide) (by rw [c2]; rfl) (by decide) ?_
    refine lv_aload_n hx hb d_C_group_48 rfl (lv_at hl 0 rfl) ?_
    refine va_get (D := (dC, dI)) (ci := 2) (v := .ref (Z 1)) (C := "DealtSecret") (T := T_C) (N := 11) hx hb hts i_C hown hK hP 0 rfl rfl 0 (by decide) (hts _ k_101) (fun _ h9 => h9) rfl d_C_group_49 ?_
    refine va_get (D := (dC, dI)) (ci := 0) (v := .int (nI g0)) (C := "DealtSecret$Group") (T := T_G) (N := 4) hx hb hts i_G hown hK hP 1 rfl rfl 2 (by decide) (hts _ k_47) (fun _ h9 => h9) rfl d_C_group_52 ?_
    exact ro_i hx hb hr hlk d_C_group_55 ((((if_neg c0).trans ((if_neg c1).trans (if_pos c2)))).symm)
  by_cases c3 : w1 = 3
  · refine lv_tableIn (tgt := 56) hx hb d_C_group_1 (by rw [c3]; decide) (by rw [c3]; decide) (by rw [c3]; rfl) (by decide) ?_
    refine lv_aload_n hx hb d_C_group_56 rfl (lv_at hl 0 rfl) ?_
    refine va_get (D := (dC, dI)) (ci := 2) (v := .ref (Z 1)) (C := "DealtSecret") (T := T_C) (N := 11) hx hb hts i_C hown hK hP 0 rfl rfl 0 (by decide) (hts _ k_101) (fun _ h9 => h9) rfl d_C_group_57 ?_
    refine va_get (D := (dC, dI)) (ci := 0) (v := .int (nI h0)) (C := "DealtSecret$Group") (T := T_G) (N := 4) hx hb hts i_G hown hK hP 1 rfl rfl 3 (by decide) (hts _ k_49) (fun _ h9 => h9) rfl d_C_group_60 ?_
    exact ro_i hx hb hr hlk d_C_group_63 ((((if_neg c0).trans ((if_neg c1).trans ((if_neg c2).trans (if_pos c3))))).symm)
  have n0 := lv_neT c0 (a := 0) (by decide)
  have n1 := lv_neT c1 (a := 1) (by decide)
  have n2 := lv_neT c2 (a := 2) (by decide)
  have n3 := lv_neT c3 (a := 3) (by decide)
  refine lv_tableOut (tgt := 64) hx hb d_C_group_1 (by omega) (by decide) ?_
  refine lv_iconst (v := 0) hx hb d_C_group_64 (by decide) ?_
  exact ro_i hx hb hr hlk d_C_group_65 ((((if_neg c0).trans ((if_neg c1).trans ((if_neg c2).trans (if_neg c3))))).symm)
set_option maxRecDepth 100000 in
set_option maxHeartbeats 4000000 in
/-- isEveryComplaintAnswered() -/
theorem c_C_isEveryComplaintAnswered (l : Launch) (dC : Nat → ClassId) (dI : Nat → Nat → Nat) (Z : Nat → Nat) (cI cP : ClassId) (p0 q0 g0 h0 : Nat) (S : Nat → Nat → Int32) (n0 : Nat) (hn : S 0 1 = nI n0) (hn7 : n0 ≤ 7) : Ro l y_C_isEveryComplaintAnswered ws_C_isEveryComplaintAnswered 0 0 [.ref (Z 0)] (bC dC dI Z cI cP p0 q0 g0 h0 S) (mz_b (allA S n0)) := by
  refine Met.ofW (cc := b_C_isEveryComplaintAnswered) (maxL := 2) (ret := (some .boolean)) (by decide) rfl ?_
  intro p e s m args below meth c s₁ B hml hv
  obtain ⟨rfl, hP, hK⟩ := hv
  have hx := B.exec
  have hb := B.bytes
  have hr := B.returns
  have hts : ∀ w ∈ AL, w.before ([.ref (Z 0)] : List Value).toArray s = true := fun w h => atoms_spec (ws := ws_C_isEveryComplaintAnswered) B.pre w (List.mem_cons_of_mem _ h)
  have hown : s.vm.findClass "DealtSecret" = some m.cls := findClass_of_methodNamed B.named
  have hlk := B.notSynchronized
  have hl := lv_entry ([.ref (Z 0)]) (n := 2) (Nat.le_of_ble_eq_true rfl)
  rw [lg_entry_eq]
  generalize (lg_sl ([.ref (Z 0)]) ++ List.replicate (2 - (lg_sl ([.ref (Z 0)])).length) Slot.unset).toArray = ls at hl ⊢
  have hl : lv_has ls 2 [(0, .ref (Z 0))] := hl
  have loop : ∀ (n j : Nat) (ls : Array Slot), n0 + 1 ≤ j + n → j ≤ n0 → (∀ i, i < j → S 8 i = 0 ∨ ¬ S 9 i = 0) → lv_has ls 2 [(0, .ref (Z 0)), (1, .int (nI j))] → W p l e (headSpec ws_C_isEveryComplaintAnswered { frames := 0, cells := 0, slots := 0, locals := 0 }).room s m [.ref (Z 0)].toArray below meth c s.heap [] 0 0 (MQ below (QcRead (mz_b (allA S n0))) [.ref (Z 0)].toArray s 0 0 (fun _ => False)) (F0 m 2 ls []) := by
    intro n
    induction n with
    | zero =>
      intro j ls h1 h2
      omega
    | succ n ih =>
      intro j ls h1 h2 hI hl
      refine lv_iload_n hx hb d_C_isEveryComplaintAnswered_2 rfl (lv_at hl 1 rfl) ?_
      refine lv_aload_n hx hb d_C_isEveryComplaintAnswered_3 rfl (lv_at hl 0 rfl) ?_
      refine va_get (D := (dC, dI)) (ci := 2) (v := .int (S 0 1)) (C := "DealtSecret") (T := T_C) (N := 11) hx hb hts i_C hown hK hP 0 rfl rfl 6 (by decide) (hts _ k_107) (fun _ h9 => h9) rfl d_C_isEveryComplaintAnswered_4 ?_
      refine x_i (y := nI n0) (hn) ?_
      refine lv_icmp_ge (tgt := 42) hx hb d_C_isEveryComplaintAnswered_7 (by decide) (fun c7 => ?_) (fun c7 => ?_)
      · have hk : j = n0 := by
          rcases Nat.lt_or_ge j n0 with q | q
          · exact absurd c7 (nI_ge q (by omega))
          · omega
        subst hk
        refine lv_iconst (v := 1) hx hb d_C_isEveryComplaintAnswered_42 (by decide) ?_
        exact ro_z hx hb hr hlk d_C_isEveryComplaintAnswered_43 (by first | rfl | exact mz_bn _) ((mz_bt hI).symm)
      · have hk : j < n0 := by
          rcases Nat.lt_or_ge j n0 with q | q
          · exact q
          · exact absurd (nI_le q (by omega)) c7
        refine lv_aload_n hx hb d_C_isEveryComplaintAnswered_10 rfl (lv_at hl 0 rfl) ?_
        refine va_get (D := (dC, dI)) (ci := 2) (v := .ref (Z 5)) (C := "DealtSecret") (T := T_C) (N := 11) hx hb hts i_C hown hK hP 0 rfl rfl 4 (by decide) (hts _ k_105) (fun _ h9 => h9) rfl d_C_isEveryComplaintAnswered_11 ?_
        refine lv_iload_n hx hb d_C_isEveryComplaintAnswered_14 rfl (lv_at hl 1 rfl) ?_
        refine va_aldq hx hb hK hP 5 1 rfl rfl (vp_in_nI (by omega) (by decide)) d_C_isEveryComplaintAnswered_15 ?_
        refine x_v (y := .ref (Z (6 + j))) (by rw [nI_clamp (by omega)]; rfl) ?_
        refine va_get (D := (dC, dI)) (ci := 1) (v := .int (S 8 j)) (C := "DealtSecret$Participant") (T := T_P) (N := 9) hx hb hts i_P hown hK hP (6 + j) (w_part (by omega)) rfl 4 (by decide) (hts _ k_73) (fun _ h9 => h9) rfl d_C_isEveryComplaintAnswered_16 ?_
        refine lv_if_eq (tgt := 36) hx hb d_C_isEveryComplaintAnswered_19 (by decide) (fun c19 => ?_) (fun c19 => ?_)
        · refine lv_iinc (v := (nI (j + 1))) (lv' := [(1, .int (nI (j + 1))), (0, .ref (Z 0))]) hx hb d_C_isEveryComplaintAnswered_36 hl (k := 1) rfl (nI_1 j) (by decide) rfl (fun ls hl => ?_)
          refine lv_goto (tgt := 2) hx hb d_C_isEveryComplaintAnswered_39 (by decide) ?_
          exact ih (j + 1) ls (by omega) (by omega) (fun i hi => by
            rcases (show i < j ∨ i = j by omega) with q | rfl
            · exact hI i q
            · first | exact Or.inl c19 | exact Or.inr c31) (lv_sub hl [1, 0] rfl)
        · refine lv_aload_n hx hb d_C_isEveryComplaintAnswered_22 rfl (lv_at hl 0 rfl) ?_
          refine va_get (D := (dC, dI)) (ci := 2) (v := .ref (Z 5)) (C := "DealtSecret") (T := T_C) (N := 11) hx hb hts i_C hown hK hP 0 rfl rfl 4 (by decide) (hts _ k_105) (fun _ h9 => h9) rfl d_C_isEveryComplaintAnswered_23 ?_
          refine lv_iload_n hx hb d_C_isEveryComplaintAnswered_26 rfl (lv_at hl 1 rfl) ?_
          refine va_aldq hx hb hK hP 5 1 rfl rfl (vp_in_nI (by omega) (by decide)) d_C_isEveryComplaintAnswered_27 ?_
          refine x_v (y := .ref (Z (6 + j))) (by rw [nI_clamp (by omega)]; rfl) ?_
          refine va_get (D := (dC, dI)) (ci := 1) (v := .int (S 9 j)) (C := "DealtSecret$Participant") (T := T_P) (N := 9) hx hb hts i_P hown hK hP (6 + j) (w_part (by omega)) rfl 5 (by decide) (hts _ k_75) (fun _ h9 => h9) rfl d_C_isEveryComplaintAnswered_28 ?_
          refine lv_if_ne (tgt := 36) hx hb d_C_isEveryComplaintAnswered_31 (by decide) (fun c31 => ?_) (fun c31 => ?_)
          · refine lv_iinc (v := (nI (j + 1))) (lv' := [(1, .int (nI (j + 1))), (0, .ref (Z 0))]) hx hb d_C_isEveryComplaintAnswered_36 hl (k := 1) rfl (nI_1 j) (by decide) rfl (fun ls hl => ?_)
            refine lv_goto (tgt := 2) hx hb d_C_isEveryComplaintAnswered_39 (by decide) ?_
            exact ih (j + 1) ls (by omega) (by omega) (fun i hi => by
              rcases (show i < j ∨ i = j by omega) with q | rfl
              · exact hI i q
              · first | exact Or.inl c19 | exact Or.inr c31) (lv_sub hl [1, 0] rfl)
          · refine lv_iconst (v := 0) hx hb d_C_isEveryComplaintAnswered_34 (by decide) ?_
            exact ro_z hx hb hr hlk d_C_isEveryComplaintAnswered_35 (by first | rfl | exact mz_bn _) ((mz_bf (fun q => (q j hk).elim c19 (fun z => z c31))).symm)
  refine lv_iconst (v := (nI 0)) hx hb d_C_isEveryComplaintAnswered_0 (by decide) ?_
  refine lv_istore_n (lv' := [(1, .int (nI 0)), (0, .ref (Z 0))]) hx hb d_C_isEveryComplaintAnswered_1 rfl hl (by decide) rfl (fun ls hl => ?_)
  exact loop (n0 + 1) 0 ls (by omega) (by omega) (fun i hi => absurd hi (Nat.not_lt_zero i)) (lv_sub hl [1, 0] rfl)
