set_option maxRecDepth 100000 in
set_option maxHeartbeats 4000000 in
/-- the reference's coefficient where it is allowed -/
theorem c_M_coefficient (l : Launch) (dC : Nat → ClassId) (dI : Nat → Nat → Nat) (Y : Nat → Nat) (cI cZ : ClassId) (p0 q0 g0 h0 : Nat) (S : Nat → Nat → Int32) (k0 t0 : Nat) (x0 y0 : Int32) (hst : S 0 0 = 1) (ht : S 0 3 = nI t0) (ht7 : t0 ≤ 7) (hk0 : k0 < t0) (ok : okG p0 q0 g0 h0) : Wr l y_M_coefficient ws_M_coefficient 1 22 [.ref (Y 0), .int (nI k0), .int x0, .int y0] (dC, dI) cls (tysM cI cZ) (wM Y cI cZ p0 q0 g0 h0 (S)) (wM Y cI cZ p0 q0 g0 h0 (up (up (up S 0 1 0) 1 k0 (nI (md x0 q0))) 2 k0 (bnum (S 0 4) y0 q0))) (none) := by
  refine Met.ofW (cc := b_M_coefficient) (maxL := 4) (ret := none) (by decide) rfl ?_
  intro p e s m args below meth c s₁ B hml hv
  obtain ⟨rfl, hP, hK, hD0⟩ := hv
  have hx := B.exec
  have hb := B.bytes
  have hr := B.returns
  have hts : ∀ w ∈ AL, w.before ([.ref (Y 0), .int (nI k0), .int x0, .int y0] : List Value).toArray s = true := fun w h => atoms_spec (ws := ws_M_coefficient) B.pre w (List.mem_cons_of_mem _ h)
  have hown : s.vm.findClass "DealtSecretModel" = some m.cls := findClass_of_methodNamed B.named
  have hlk := B.notSynchronized
  have hl := lv_entry ([.ref (Y 0), .int (nI k0), .int x0, .int y0]) (n := 4) (Nat.le_of_ble_eq_true rfl)
  rw [lg_entry_eq]
  generalize (lg_sl ([.ref (Y 0), .int (nI k0), .int x0, .int y0]) ++ List.replicate (4 - (lg_sl ([.ref (Y 0), .int (nI k0), .int x0, .int y0])).length) Slot.unset).toArray = ls at hl ⊢
  have hl : lv_has ls 4 [(0, .ref (Y 0)), (1, .int (nI k0)), (2, .int x0), (3, .int y0)] := hl
  have hD := w_self hD0
  have hS : va_S (w_A (wM Y cI cZ p0 q0 g0 h0 (S))) s.heap s.heap [] := va_S.rf
  obtain ⟨okp2, okp, okq2, okq, okg, okh⟩ := id ok
  refine lv_aload_n hx hb d_M_coefficient_0 rfl (lv_at hl 0 rfl) ?_
  refine lv_aload_n hx hb d_M_coefficient_1 rfl (lv_at hl 0 rfl) ?_
  refine va_get (D := (dC, dI)) (ci := 3) (v := .int (S 0 0)) (C := "DealtSecretModel") (T := T_M) (N := 24) hx hb hts i_M hown hK hP 0 rfl rfl 4 (by decide) (hts _ k_447) (fun _ h9 => h9) rfl d_M_coefficient_2 ?_
  refine lv_iconst (v := 1) hx hb d_M_coefficient_5 (by decide) ?_
  refine lv_icmp_eq (tgt := 13) hx hb d_M_coefficient_6 (by decide) (fun _ => ?_) (fun c_ => absurd (hst) c_)
  refine lv_iconst (v := 0) hx hb d_M_coefficient_13 (by decide) ?_
  refine lv_iload_n hx hb d_M_coefficient_14 rfl (lv_at hl 1 rfl) ?_
  refine lv_if_lt (tgt := 26) hx hb d_M_coefficient_15 (by decide) (fun c_ => absurd c_ (nI_pos (by omega))) (fun _ => ?_)
  refine lv_iload_n hx hb d_M_coefficient_18 rfl (lv_at hl 1 rfl) ?_
  refine lv_aload_n hx hb d_M_coefficient_19 rfl (lv_at hl 0 rfl) ?_
  refine va_get (D := (dC, dI)) (ci := 3) (v := .int (S 0 3)) (C := "DealtSecretModel") (T := T_M) (N := 24) hx hb hts i_M hown hK hP 0 rfl rfl 7 (by decide) (hts _ k_450) (fun _ h9 => h9) rfl d_M_coefficient_20 ?_
  refine x_i (y := nI t0) (ht) ?_
  refine lv_icmp_lt (tgt := 30) hx hb d_M_coefficient_23 (by decide) (fun _ => ?_) (fun c_ => absurd (nI_lt hk0 (by omega)) c_)
  refine lv_iconst (v := 0) hx hb d_M_coefficient_30 (by decide) ?_
  refine wr_V (As := [.int 0, .int 0]) (rest := []) (b := (Y 0)) ⟨hx, hb, hml, hown, hts⟩ (c_M_refuses l dC dI Y cI cZ p0 q0 g0 h0 S 0 0 0 0 (by decide) (by decide)) (cwV 2 hts (al_V k_532 k_533 k_649 k_4 k_534) rfl rfl rfl (by decide +kernel) ⟨Nat.le_of_ble_eq_true rfl, Nat.le_of_ble_eq_true rfl⟩) (va_recv hK hP (ci := 3) (q0 := 0) rfl rfl) hP hK hD hS rfl hl.1 rfl (lv_room (Nat.le_of_ble_eq_true rfl)) d_M_coefficient_31 ⟨Nat.zero_le _, Nat.zero_le _⟩ (fun H locs hP _ _ hS => ?_)
  have hD := w_addr hD (w_adM S (up S 0 1 0))
  refine lv_if_eq (tgt := 38) hx hb d_M_coefficient_34 (by decide) (fun _ => ?_) (fun c_ => absurd (by decide) c_)
  refine lv_aload_n hx hb d_M_coefficient_38 rfl (lv_at hl 0 rfl) ?_
  refine va_get (D := (dC, dI)) (ci := 3) (v := .ref (Y 1)) (C := "DealtSecretModel") (T := T_M) (N := 24) hx hb hts i_M hown hK hP 0 rfl rfl 9 (by decide) (hts _ k_452) (fun _ h9 => h9) rfl d_M_coefficient_39 ?_
  refine lv_iload_n hx hb d_M_coefficient_42 rfl (lv_at hl 1 rfl) ?_
  refine lv_aload_n hx hb d_M_coefficient_43 rfl (lv_at hl 0 rfl) ?_
  refine lv_iload_n hx hb d_M_coefficient_44 rfl (lv_at hl 2 rfl) ?_
  refine ro_V (As := [.int x0]) (rest := [.int (nI k0), .ref (Y 1)]) (b := (Y 0)) ⟨hx, hb, hml, hown, hts⟩ (c_M_reduced l dC dI Y cI cZ p0 q0 g0 h0 (up S 0 1 0) x0 ok) (cwV 1 hts (al_V k_535 k_536 k_650 k_4 k_537) rfl rfl rfl (by decide +kernel) ⟨Nat.le_of_ble_eq_true rfl, Nat.le_of_ble_eq_true rfl⟩) (fun U g mk a h => ⟨h.1, va_K.moved (u := U) (U := U.calling g mk a) (Vm.Alike.refl U.vm) h.2⟩) (va_recv hK hP (ci := 3) (q0 := 0) rfl rfl) (fun U hU hW => ⟨by rw [hU]; exact hP, va_K.moved hW.alike hK⟩) rfl hl.1 rfl (lv_room (Nat.le_of_ble_eq_true rfl)) d_M_coefficient_45 ⟨Nat.zero_le _, Nat.zero_le _⟩ ?_
  refine va_iast hx hb hK hP hD hS 1 0 rfl rfl (vp_in_nI (by omega) (by decide)) d_M_coefficient_48 (fun H locs hP hD hS => ?_)
  rw [nI_clamp (by omega)] at hP hD
  have hP : va_P (dC, dI) cls (wM Y cI cZ p0 q0 g0 h0 (up (up S 0 1 0) 1 k0 (nI (md x0 q0)))) H := by rw [← w_ma1]; exact hP
  have hD : va_D (w_A (wM Y cI cZ p0 q0 g0 h0 (S))) (wM Y cI cZ p0 q0 g0 h0 (up (up S 0 1 0) 1 k0 (nI (md x0 q0)))) := by rw [← w_ma1]; exact hD
  refine lv_aload_n hx hb d_M_coefficient_49 rfl (lv_at hl 0 rfl) ?_
  refine va_get (D := (dC, dI)) (ci := 3) (v := .ref (Y 2)) (C := "DealtSecretModel") (T := T_M) (N := 24) hx hb hts i_M hown hK hP 0 rfl rfl 10 (by decide) (hts _ k_453) (fun _ h9 => h9) rfl d_M_coefficient_50 ?_
  refine lv_iload_n hx hb d_M_coefficient_53 rfl (lv_at hl 1 rfl) ?_
  refine lv_aload_n hx hb d_M_coefficient_54 rfl (lv_at hl 0 rfl) ?_
  refine va_get (D := (dC, dI)) (ci := 3) (v := .int ((up (up S 0 1 0) 1 k0 (nI (md x0 q0))) 0 4)) (C := "DealtSecretModel") (T := T_M) (N := 24) hx hb hts i_M hown hK hP 0 rfl rfl 8 (by decide) (hts _ k_451) (fun _ h9 => h9) rfl d_M_coefficient_55 ?_
  refine lv_if_eq (tgt := 69) hx hb d_M_coefficient_58 (by decide) (fun c58 => ?_) (fun c58 => ?_)
  · refine lv_iconst (v := 0) hx hb d_M_coefficient_69 (by decide) ?_
    refine x_i (y := bnum (S 0 4) y0 q0) ((if_pos c58).symm) ?_
    refine va_iast hx hb hK hP hD hS 2 0 rfl rfl (vp_in_nI (by omega) (by decide)) d_M_coefficient_70 (fun H locs hP hD hS => ?_)
    rw [nI_clamp (by omega)] at hP hD
    have hP : va_P (dC, dI) cls (wM Y cI cZ p0 q0 g0 h0 (up (up (up S 0 1 0) 1 k0 (nI (md x0 q0))) 2 k0 (bnum (S 0 4) y0 q0))) H := by rw [← w_ma2]; exact hP
    have hD : va_D (w_A (wM Y cI cZ p0 q0 g0 h0 (S))) (wM Y cI cZ p0 q0 g0 h0 (up (up (up S 0 1 0) 1 k0 (nI (md x0 q0))) 2 k0 (bnum (S 0 4) y0 q0))) := by rw [← w_ma2]; exact hD
    exact wr_v hx hb hr hlk hP hS d_M_coefficient_71
  · refine lv_aload_n hx hb d_M_coefficient_61 rfl (lv_at hl 0 rfl) ?_
    refine lv_iload_n hx hb d_M_coefficient_62 rfl (lv_at hl 3 rfl) ?_
    refine ro_V (As := [.int y0]) (rest := [.int (nI k0), .ref (Y 2)]) (b := (Y 0)) ⟨hx, hb, hml, hown, hts⟩ (c_M_reduced l dC dI Y cI cZ p0 q0 g0 h0 (up (up S 0 1 0) 1 k0 (nI (md x0 q0))) y0 ok) (cwV 1 hts (al_V k_535 k_536 k_650 k_4 k_537) rfl rfl rfl (by decide +kernel) ⟨Nat.le_of_ble_eq_true rfl, Nat.le_of_ble_eq_true rfl⟩) (fun U g mk a h => ⟨h.1, va_K.moved (u := U) (U := U.calling g mk a) (Vm.Alike.refl U.vm) h.2⟩) (va_recv hK hP (ci := 3) (q0 := 0) rfl rfl) (fun U hU hW => ⟨by rw [hU]; exact hP, va_K.moved hW.alike hK⟩) rfl hl.1 rfl (lv_room (Nat.le_of_ble_eq_true rfl)) d_M_coefficient_63 ⟨Nat.zero_le _, Nat.zero_le _⟩ ?_
    refine x_i (y := bnum (S 0 4) y0 q0) ((if_neg c58).symm) ?_
    refine lv_goto (tgt := 70) hx hb d_M_coefficient_66 (by decide) ?_
    refine va_iast hx hb hK hP hD hS 2 0 rfl rfl (vp_in_nI (by omega) (by decide)) d_M_coefficient_70 (fun H locs hP hD hS => ?_)
    rw [nI_clamp (by omega)] at hP hD
    have hP : va_P (dC, dI) cls (wM Y cI cZ p0 q0 g0 h0 (up (up (up S 0 1 0) 1 k0 (nI (md x0 q0))) 2 k0 (bnum (S 0 4) y0 q0))) H := by rw [← w_ma2]; exact hP
    have hD : va_D (w_A (wM Y cI cZ p0 q0 g0 h0 (S))) (wM Y cI cZ p0 q0 g0 h0 (up (up (up S 0 1 0) 1 k0 (nI (md x0 q0))) 2 k0 (bnum (S 0 4) y0 q0))) := by rw [← w_ma2]; exact hD
    exact wr_v hx hb hr hlk hP hS d_M_coefficient_71
set_option maxRecDepth 100000 in
set_option maxHeartbeats 4000000 in
/-- the reference's tamper where it is allowed -/
theorem c_M_tamper (l : Launch) (dC : Nat → ClassId) (dI : Nat → Nat → Nat) (Y : Nat → Nat) (cI cZ : ClassId) (p0 q0 g0 h0 : Nat) (S : Nat → Nat → Int32) (j n0 : Nat) (hn : S 0 2 = nI n0) (hn7 : n0 ≤ 7) (hj : j < n0) (x0 y0 : Int32) (hst : S 0 0 = 2) (ok : okG p0 q0 g0 h0) : Wr l y_M_tamper ws_M_tamper 1 22 [.ref (Y 0), .int (nI (j + 1)), .int x0, .int y0] (dC, dI) cls (tysM cI cZ) (wM Y cI cZ p0 q0 g0 h0 (S)) (wM Y cI cZ p0 q0 g0 h0 (tmS (up S 0 1 0) j x0 y0 q0)) (none) := by
  refine Met.ofW (cc := b_M_tamper) (maxL := 4) (ret := none) (by decide) rfl ?_
  intro p e s m args below meth c s₁ B hml hv
  obtain ⟨rfl, hP, hK, hD0⟩ := hv
  have hx := B.exec
  have hb := B.bytes
  have hr := B.returns
  have hts : ∀ w ∈ AL, w.before ([.ref (Y 0), .int (nI (j + 1)), .int x0, .int y0] : List Value).toArray s = true := fun w h => atoms_spec (ws := ws_M_tamper) B.pre w (List.mem_cons_of_mem _ h)
  have hown : s.vm.findClass "DealtSecretModel" = some m.cls := findClass_of_methodNamed B.named
  have hlk := B.notSynchronized
  have hl := lv_entry ([.ref (Y 0), .int (nI (j + 1)), .int x0, .int y0]) (n := 4) (Nat.le_of_ble_eq_true rfl)
  rw [lg_entry_eq]
  generalize (lg_sl ([.ref (Y 0), .int (nI (j + 1)), .int x0, .int y0]) ++ List.replicate (4 - (lg_sl ([.ref (Y 0), .int (nI (j + 1)), .int x0, .int y0])).length) Slot.unset).toArray = ls at hl ⊢
  have hl : lv_has ls 4 [(0, .ref (Y 0)), (1, .int (nI (j + 1))), (2, .int x0), (3, .int y0)] := hl
  have hD := w_self hD0
  have hS : va_S (w_A (wM Y cI cZ p0 q0 g0 h0 (S))) s.heap s.heap [] := va_S.rf
  obtain ⟨okp2, okp, okq2, okq, okg, okh⟩ := id ok
  refine lv_aload_n hx hb d_M_tamper_0 rfl (lv_at hl 0 rfl) ?_
  refine lv_aload_n hx hb d_M_tamper_1 rfl (lv_at hl 0 rfl) ?_
  refine va_get (D := (dC, dI)) (ci := 3) (v := .int (S 0 0)) (C := "DealtSecretModel") (T := T_M) (N := 24) hx hb hts i_M hown hK hP 0 rfl rfl 4 (by decide) (hts _ k_447) (fun _ h9 => h9) rfl d_M_tamper_2 ?_
  refine lv_iconst (v := 2) hx hb d_M_tamper_5 (by decide) ?_
  refine lv_icmp_eq (tgt := 13) hx hb d_M_tamper_6 (by decide) (fun _ => ?_) (fun c_ => absurd (hst) c_)
  refine lv_iconst (v := 0) hx hb d_M_tamper_13 (by decide) ?_
  refine lv_aload_n hx hb d_M_tamper_14 rfl (lv_at hl 0 rfl) ?_
  refine lv_iload_n hx hb d_M_tamper_15 rfl (lv_at hl 1 rfl) ?_
  refine ro_V (As := [.int (nI (j + 1))]) (rest := [.int 0, .ref (Y 0)]) (b := (Y 0)) ⟨hx, hb, hml, hown, hts⟩ (c_M_isOne l dC dI Y cI cZ p0 q0 g0 h0 S (nI (j + 1))) (cwV 1 hts (al_V k_558 k_559 k_655 k_4 k_560) rfl rfl rfl (by decide +kernel) ⟨Nat.le_of_ble_eq_true rfl, Nat.le_of_ble_eq_true rfl⟩) (fun U g mk a h => ⟨h.1, va_K.moved (u := U) (U := U.calling g mk a) (Vm.Alike.refl U.vm) h.2⟩) (va_recv hK hP (ci := 3) (q0 := 0) rfl rfl) (fun U hU hW => ⟨by rw [hU]; exact hP, va_K.moved hW.alike hK⟩) rfl hl.1 rfl (lv_room (Nat.le_of_ble_eq_true rfl)) d_M_tamper_16 ⟨Nat.zero_le _, Nat.zero_le _⟩ ?_
  refine lv_if_ne (tgt := 26) hx hb d_M_tamper_19 (by decide) (fun _ => ?_) (fun c_ => absurd c_ (fun q => mz_b0.mp q (by rw [hn]; exact isPt_of (by omega) hj)))
  refine lv_iconst (v := 0) hx hb d_M_tamper_26 (by decide) ?_
  refine wr_V (As := [.int 0, .int 0]) (rest := []) (b := (Y 0)) ⟨hx, hb, hml, hown, hts⟩ (c_M_refuses l dC dI Y cI cZ p0 q0 g0 h0 S 0 0 0 0 (by decide) (by decide)) (cwV 2 hts (al_V k_532 k_533 k_649 k_4 k_534) rfl rfl rfl (by decide +kernel) ⟨Nat.le_of_ble_eq_true rfl, Nat.le_of_ble_eq_true rfl⟩) (va_recv hK hP (ci := 3) (q0 := 0) rfl rfl) hP hK hD hS rfl hl.1 rfl (lv_room (Nat.le_of_ble_eq_true rfl)) d_M_tamper_27 ⟨Nat.zero_le _, Nat.zero_le _⟩ (fun H locs hP _ _ hS => ?_)
  have hD := w_addr hD (w_adM S (up S 0 1 0))
  refine lv_if_eq (tgt := 34) hx hb d_M_tamper_30 (by decide) (fun _ => ?_) (fun c_ => absurd (by decide) c_)
  refine lv_aload_n hx hb d_M_tamper_34 rfl (lv_at hl 0 rfl) ?_
  refine va_get (D := (dC, dI)) (ci := 3) (v := .ref (Y 7)) (C := "DealtSecretModel") (T := T_M) (N := 24) hx hb hts i_M hown hK hP 0 rfl rfl 15 (by decide) (hts _ k_458) (fun _ h9 => h9) rfl d_M_tamper_35 ?_
  refine lv_iload_n hx hb d_M_tamper_38 rfl (lv_at hl 1 rfl) ?_
  refine lv_aload_n hx hb d_M_tamper_39 rfl (lv_at hl 0 rfl) ?_
  refine lv_iload_n hx hb d_M_tamper_40 rfl (lv_at hl 2 rfl) ?_
  refine ro_V (As := [.int x0]) (rest := [.int (nI (j + 1)), .ref (Y 7)]) (b := (Y 0)) ⟨hx, hb, hml, hown, hts⟩ (c_M_reduced l dC dI Y cI cZ p0 q0 g0 h0 (up S 0 1 0) x0 ok) (cwV 1 hts (al_V k_535 k_536 k_650 k_4 k_537) rfl rfl rfl (by decide +kernel) ⟨Nat.le_of_ble_eq_true rfl, Nat.le_of_ble_eq_true rfl⟩) (fun U g mk a h => ⟨h.1, va_K.moved (u := U) (U := U.calling g mk a) (Vm.Alike.refl U.vm) h.2⟩) (va_recv hK hP (ci := 3) (q0 := 0) rfl rfl) (fun U hU hW => ⟨by rw [hU]; exact hP, va_K.moved hW.alike hK⟩) rfl hl.1 rfl (lv_room (Nat.le_of_ble_eq_true rfl)) d_M_tamper_41 ⟨Nat.zero_le _, Nat.zero_le _⟩ ?_
  refine va_iast hx hb hK hP hD hS 7 0 rfl rfl (vp_in_nI (by omega) (by decide)) d_M_tamper_44 (fun H locs hP hD hS => ?_)
  rw [nI_clamp (by omega)] at hP hD
  have hP : va_P (dC, dI) cls (wM Y cI cZ p0 q0 g0 h0 (up (up S 0 1 0) 7 (j + 1) (nI (md x0 q0)))) H := by rw [← w_ma7]; exact hP
  have hD : va_D (w_A (wM Y cI cZ p0 q0 g0 h0 (S))) (wM Y cI cZ p0 q0 g0 h0 (up (up S 0 1 0) 7 (j + 1) (nI (md x0 q0)))) := by rw [← w_ma7]; exact hD
  refine lv_aload_n hx hb d_M_tamper_45 rfl (lv_at hl 0 rfl) ?_
  refine va_get (D := (dC, dI)) (ci := 3) (v := .ref (Y 8)) (C := "DealtSecretModel") (T := T_M) (N := 24) hx hb hts i_M hown hK hP 0 rfl rfl 16 (by decide) (hts _ k_459) (fun _ h9 => h9) rfl d_M_tamper_46 ?_
  refine lv_iload_n hx hb d_M_tamper_49 rfl (lv_at hl 1 rfl) ?_
  refine lv_aload_n hx hb d_M_tamper_50 rfl (lv_at hl 0 rfl) ?_
  refine va_get (D := (dC, dI)) (ci := 3) (v := .int ((up (up S 0 1 0) 7 (j + 1) (nI (md x0 q0))) 0 4)) (C := "DealtSecretModel") (T := T_M) (N := 24) hx hb hts i_M hown hK hP 0 rfl rfl 8 (by decide) (hts _ k_451) (fun _ h9 => h9) rfl d_M_tamper_51 ?_
  refine lv_if_eq (tgt := 65) hx hb d_M_tamper_54 (by decide) (fun c54 => ?_) (fun c54 => ?_)
  · refine lv_iconst (v := 0) hx hb d_M_tamper_65 (by decide) ?_
    refine x_i (y := bnum (S 0 4) y0 q0) ((if_pos c54).symm) ?_
    refine va_iast hx hb hK hP hD hS 8 0 rfl rfl (vp_in_nI (by omega) (by decide)) d_M_tamper_66 (fun H locs hP hD hS => ?_)
    rw [nI_clamp (by omega)] at hP hD
    have hP : va_P (dC, dI) cls (wM Y cI cZ p0 q0 g0 h0 (up (up (up S 0 1 0) 7 (j + 1) (nI (md x0 q0))) 8 (j + 1) (bnum (S 0 4) y0 q0))) H := by rw [← w_ma8]; exact hP
    have hD : va_D (w_A (wM Y cI cZ p0 q0 g0 h0 (S))) (wM Y cI cZ p0 q0 g0 h0 (up (up (up S 0 1 0) 7 (j + 1) (nI (md x0 q0))) 8 (j + 1) (bnum (S 0 4) y0 q0))) := by rw [← w_ma8]; exact hD
    exact wr_v hx hb hr hlk hP hS d_M_tamper_67
  · refine lv_aload_n hx hb d_M_tamper_57 rfl (lv_at hl 0 rfl) ?_
    refine lv_iload_n hx hb d_M_tamper_58 rfl (lv_at hl 3 rfl) ?_
    refine ro_V (As := [.int y0]) (rest := [.int (nI (j + 1)), .ref (Y 8)]) (b := (Y 0)) ⟨hx, hb, hml, hown, hts⟩ (c_M_reduced l dC dI Y cI cZ p0 q0 g0 h0 (up (up S 0 1 0) 7 (j + 1) (nI (md x0 q0))) y0 ok) (cwV 1 hts (al_V k_535 k_536 k_650 k_4 k_537) rfl rfl rfl (by decide +kernel) ⟨Nat.le_of_ble_eq_true rfl, Nat.le_of_ble_eq_true rfl⟩) (fun U g mk a h => ⟨h.1, va_K.moved (u := U) (U := U.calling g mk a) (Vm.Alike.refl U.vm) h.2⟩) (va_recv hK hP (ci := 3) (q0 := 0) rfl rfl) (fun U hU hW => ⟨by rw [hU]; exact hP, va_K.moved hW.alike hK⟩) rfl hl.1 rfl (lv_room (Nat.le_of_ble_eq_true rfl)) d_M_tamper_59 ⟨Nat.zero_le _, Nat.zero_le _⟩ ?_
    refine x_i (y := bnum (S 0 4) y0 q0) ((if_neg c54).symm) ?_
    refine lv_goto (tgt := 66) hx hb d_M_tamper_62 (by decide) ?_
    refine va_iast hx hb hK hP hD hS 8 0 rfl rfl (vp_in_nI (by omega) (by decide)) d_M_tamper_66 (fun H locs hP hD hS => ?_)
    rw [nI_clamp (by omega)] at hP hD
    have hP : va_P (dC, dI) cls (wM Y cI cZ p0 q0 g0 h0 (up (up (up S 0 1 0) 7 (j + 1) (nI (md x0 q0))) 8 (j + 1) (bnum (S 0 4) y0 q0))) H := by rw [← w_ma8]; exact hP
    have hD : va_D (w_A (wM Y cI cZ p0 q0 g0 h0 (S))) (wM Y cI cZ p0 q0 g0 h0 (up (up (up S 0 1 0) 7 (j + 1) (nI (md x0 q0))) 8 (j + 1) (bnum (S 0 4) y0 q0))) := by rw [← w_ma8]; exact hD
    exact wr_v hx hb hr hlk hP hS d_M_tamper_67
set_option maxRecDepth 100000 in
set_option maxHeartbeats 4000000 in
/-- the reference's forge where it is allowed -/
theorem c_M_forge (l : Launch) (dC : Nat → ClassId) (dI : Nat → Nat → Nat) (Y : Nat → Nat) (cI cZ : ClassId) (p0 q0 g0 h0 : Nat) (S : Nat → Nat → Int32) (k0 t0 x0 : Nat) (hst : S 0 0 = 2) (ht : S 0 3 = nI t0) (ht7 : t0 ≤ 7) (hk0 : k0 < t0) (hx1 : 1 ≤ x0) (hxp : x0 < p0) (ok : okG p0 q0 g0 h0) : Wr l y_M_forge ws_M_forge 1 22 [.ref (Y 0), .int (nI k0), .int (nI x0)] (dC, dI) cls (tysM cI cZ) (wM Y cI cZ p0 q0 g0 h0 (S)) (wM Y cI cZ p0 q0 g0 h0 (up (up S 0 1 0) 3 k0 (nI x0))) (none) := by
  refine Met.ofW (cc := b_M_forge) (maxL := 3) (ret := none) (by decide) rfl ?_
  intro p e s m args below meth c s₁ B hml hv
  obtain ⟨rfl, hP, hK, hD0⟩ := hv
  have hx := B.exec
  have hb := B.bytes
  have hr := B.returns
  have hts : ∀ w ∈ AL, w.before ([.ref (Y 0), .int (nI k0), .int (nI x0)] : List Value).toArray s = true := fun w h => atoms_spec (ws := ws_M_forge) B.pre w (List.mem_cons_of_mem _ h)
  have hown : s.vm.findClass "DealtSecretModel" = some m.cls := findClass_of_methodNamed B.named
  have hlk := B.notSynchronized
  have hl := lv_entry ([.ref (Y 0), .int (nI k0), .int (nI x0)]) (n := 3) (Nat.le_of_ble_eq_true rfl)
  rw [lg_entry_eq]
  generalize (lg_sl ([.ref (Y 0), .int (nI k0), .int (nI x0)]) ++ List.replicate (3 - (lg_sl ([.ref (Y 0), .int (nI k0), .int (nI x0)])).length) Slot.unset).toArray = ls at hl ⊢
  have hl : lv_has ls 3 [(0, .ref (Y 0)), (1, .int (nI k0)), (2, .int (nI x0))] := hl
  have hD := w_self hD0
  have hS : va_S (w_A (wM Y cI cZ p0 q0 g0 h0 (S))) s.heap s.heap [] := va_S.rf
  obtain ⟨okp2, okp, okq2, okq, okg, okh⟩ := id ok
  refine lv_aload_n hx hb d_M_forge_0 rfl (lv_at hl 0 rfl) ?_
  refine lv_aload_n hx hb d_M_forge_1 rfl (lv_at hl 0 rfl) ?_
  refine va_get (D := (dC, dI)) (ci := 3) (v := .int (S 0 0)) (C := "DealtSecretModel") (T := T_M) (N := 24) hx hb hts i_M hown hK hP 0 rfl rfl 4 (by decide) (hts _ k_447) (fun _ h9 => h9) rfl d_M_forge_2 ?_
  refine lv_iconst (v := 2) hx hb d_M_forge_5 (by decide) ?_
  refine lv_icmp_eq (tgt := 13) hx hb d_M_forge_6 (by decide) (fun _ => ?_) (fun c_ => absurd (hst) c_)
  refine lv_iconst (v := 0) hx hb d_M_forge_13 (by decide) ?_
  refine lv_iload_n hx hb d_M_forge_14 rfl (lv_at hl 1 rfl) ?_
  refine lv_if_lt (tgt := 39) hx hb d_M_forge_15 (by decide) (fun c_ => absurd c_ (nI_pos (by omega))) (fun _ => ?_)
  refine lv_iload_n hx hb d_M_forge_18 rfl (lv_at hl 1 rfl) ?_
  refine lv_aload_n hx hb d_M_forge_19 rfl (lv_at hl 0 rfl) ?_
  refine va_get (D := (dC, dI)) (ci := 3) (v := .int (S 0 3)) (C := "DealtSecretModel") (T := T_M) (N := 24) hx hb hts i_M hown hK hP 0 rfl rfl 7 (by decide) (hts _ k_450) (fun _ h9 => h9) rfl d_M_forge_20 ?_
  refine x_i (y := nI t0) (ht) ?_
  refine lv_icmp_ge (tgt := 39) hx hb d_M_forge_23 (by decide) (fun c_ => absurd c_ (nI_ge hk0 (by omega))) (fun _ => ?_)
  refine lv_iload_n hx hb d_M_forge_26 rfl (lv_at hl 2 rfl) ?_
  refine lv_iconst (v := (nI 1)) hx hb d_M_forge_27 (by decide) ?_
  refine lv_icmp_lt (tgt := 39) hx hb d_M_forge_28 (by decide) (fun c_ => absurd c_ (nI_nlt hx1 (by omega))) (fun _ => ?_)
  refine lv_iload_n hx hb d_M_forge_31 rfl (lv_at hl 2 rfl) ?_
  refine lv_aload_n hx hb d_M_forge_32 rfl (lv_at hl 0 rfl) ?_
  refine va_get (D := (dC, dI)) (ci := 3) (v := .int (nI p0)) (C := "DealtSecretModel") (T := T_M) (N := 24) hx hb hts i_M hown hK hP 0 rfl rfl 0 (by decide) (hts _ k_443) (fun _ h9 => h9) rfl d_M_forge_33 ?_
  refine lv_icmp_lt (tgt := 43) hx hb d_M_forge_36 (by decide) (fun _ => ?_) (fun c_ => absurd (nI_lt hxp okp) c_)
  refine lv_iconst (v := 0) hx hb d_M_forge_43 (by decide) ?_
  refine wr_V (As := [.int 0, .int 0]) (rest := []) (b := (Y 0)) ⟨hx, hb, hml, hown, hts⟩ (c_M_refuses l dC dI Y cI cZ p0 q0 g0 h0 S 0 0 0 0 (by decide) (by decide)) (cwV 2 hts (al_V k_532 k_533 k_649 k_4 k_534) rfl rfl rfl (by decide +kernel) ⟨Nat.le_of_ble_eq_true rfl, Nat.le_of_ble_eq_true rfl⟩) (va_recv hK hP (ci := 3) (q0 := 0) rfl rfl) hP hK hD hS rfl hl.1 rfl (lv_room (Nat.le_of_ble_eq_true rfl)) d_M_forge_44 ⟨Nat.zero_le _, Nat.zero_le _⟩ (fun H locs hP _ _ hS => ?_)
  have hD := w_addr hD (w_adM S (up S 0 1 0))
  refine lv_if_eq (tgt := 51) hx hb d_M_forge_47 (by decide) (fun _ => ?_) (fun c_ => absurd (by decide) c_)
  refine lv_aload_n hx hb d_M_forge_51 rfl (lv_at hl 0 rfl) ?_
  refine va_get (D := (dC, dI)) (ci := 3) (v := .ref (Y 3)) (C := "DealtSecretModel") (T := T_M) (N := 24) hx hb hts i_M hown hK hP 0 rfl rfl 11 (by decide) (hts _ k_454) (fun _ h9 => h9) rfl d_M_forge_52 ?_
  refine lv_iload_n hx hb d_M_forge_55 rfl (lv_at hl 1 rfl) ?_
  refine lv_iload_n hx hb d_M_forge_56 rfl (lv_at hl 2 rfl) ?_
  refine va_iast hx hb hK hP hD hS 3 0 rfl rfl (vp_in_nI (by omega) (by decide)) d_M_forge_57 (fun H locs hP hD hS => ?_)
  rw [nI_clamp (by omega)] at hP hD
  have hP : va_P (dC, dI) cls (wM Y cI cZ p0 q0 g0 h0 (up (up S 0 1 0) 3 k0 (nI x0))) H := by rw [← w_ma3]; exact hP
  have hD : va_D (w_A (wM Y cI cZ p0 q0 g0 h0 (S))) (wM Y cI cZ p0 q0 g0 h0 (up (up S 0 1 0) 3 k0 (nI x0))) := by rw [← w_ma3]; exact hD
  exact wr_v hx hb hr hlk hP hS d_M_forge_58
set_option maxRecDepth 100000 in
set_option maxHeartbeats 4000000 in
/-- the reference's corrupt where it is allowed -/
theorem c_M_corrupt (l : Launch) (dC : Nat → ClassId) (dI : Nat → Nat → Nat) (Y : Nat → Nat) (cI cZ : ClassId) (p0 q0 g0 h0 : Nat) (S : Nat → Nat → Int32) (j n0 : Nat) (hn : S 0 2 = nI n0) (hn7 : n0 ≤ 7) (hj : j < n0) (hst : S 0 0 = 1 ∨ S 0 0 = 2) : Wr l y_M_corrupt ws_M_corrupt 1 22 [.ref (Y 0), .int (nI (j + 1))] (dC, dI) cls (tysM cI cZ) (wM Y cI cZ p0 q0 g0 h0 (S)) (wM Y cI cZ p0 q0 g0 h0 (coS S j)) (some (.int (mz_b (S 4 (j + 1) = 0)))) := by
  refine Met.ofW (cc := b_M_corrupt) (maxL := 2) (ret := (some .boolean)) (by decide) rfl ?_
  intro p e s m args below meth c s₁ B hml hv
  obtain ⟨rfl, hP, hK, hD0⟩ := hv
  have hx := B.exec
  have hb := B.bytes
  have hr := B.returns
  have hts : ∀ w ∈ AL, w.before ([.ref (Y 0), .int (nI (j + 1))] : List Value).toArray s = true := fun w h => atoms_spec (ws := ws_M_corrupt) B.pre w (List.mem_cons_of_mem _ h)
  have hown : s.vm.findClass "DealtSecretModel" = some m.cls := findClass_of_methodNamed B.named
  have hlk := B.notSynchronized
  have hl := lv_entry ([.ref (Y 0), .int (nI (j + 1))]) (n := 2) (Nat.le_of_ble_eq_true rfl)
  rw [lg_entry_eq]
  generalize (lg_sl ([.ref (Y 0), .int (nI (j + 1))]) ++ List.replicate (2 - (lg_sl ([.ref (Y 0), .int (nI (j + 1))])).length) Slot.unset).toArray = ls at hl ⊢
  have hl : lv_has ls 2 [(0, .ref (Y 0)), (1, .int (nI (j + 1)))] := hl
  have hD := w_self hD0
  have hS : va_S (w_A (wM Y cI cZ p0 q0 g0 h0 (S))) s.heap s.heap [] := va_S.rf
  refine lv_aload_n hx hb d_M_corrupt_0 rfl (lv_at hl 0 rfl) ?_
  refine lv_aload_n hx hb d_M_corrupt_1 rfl (lv_at hl 0 rfl) ?_
  refine va_get (D := (dC, dI)) (ci := 3) (v := .int (S 0 0)) (C := "DealtSecretModel") (T := T_M) (N := 24) hx hb hts i_M hown hK hP 0 rfl rfl 4 (by decide) (hts _ k_447) (fun _ h9 => h9) rfl d_M_corrupt_2 ?_
  refine lv_iconst (v := 1) hx hb d_M_corrupt_5 (by decide) ?_
  refine lv_icmp_eq (tgt := 21) hx hb d_M_corrupt_6 (by decide) (fun c6 => ?_) (fun c6 => ?_)
  · refine lv_iconst (v := 0) hx hb d_M_corrupt_21 (by decide) ?_
    refine lv_aload_n hx hb d_M_corrupt_22 rfl (lv_at hl 0 rfl) ?_
    refine lv_iload_n hx hb d_M_corrupt_23 rfl (lv_at hl 1 rfl) ?_
    refine ro_V (As := [.int (nI (j + 1))]) (rest := [.int 0, .ref (Y 0)]) (b := (Y 0)) ⟨hx, hb, hml, hown, hts⟩ (c_M_isOne l dC dI Y cI cZ p0 q0 g0 h0 S (nI (j + 1))) (cwV 1 hts (al_V k_558 k_559 k_655 k_4 k_560) rfl rfl rfl (by decide +kernel) ⟨Nat.le_of_ble_eq_true rfl, Nat.le_of_ble_eq_true rfl⟩) (fun U g mk a h => ⟨h.1, va_K.moved (u := U) (U := U.calling g mk a) (Vm.Alike.refl U.vm) h.2⟩) (va_recv hK hP (ci := 3) (q0 := 0) rfl rfl) (fun U hU hW => ⟨by rw [hU]; exact hP, va_K.moved hW.alike hK⟩) rfl hl.1 rfl (lv_room (Nat.le_of_ble_eq_true rfl)) d_M_corrupt_24 ⟨Nat.zero_le _, Nat.zero_le _⟩ ?_
    refine lv_if_ne (tgt := 34) hx hb d_M_corrupt_27 (by decide) (fun _ => ?_) (fun c_ => absurd c_ (fun q => mz_b0.mp q (by rw [hn]; exact isPt_of (by omega) hj)))
    refine lv_iconst (v := 0) hx hb d_M_corrupt_34 (by decide) ?_
    refine wr_V (As := [.int 0, .int 0]) (rest := []) (b := (Y 0)) ⟨hx, hb, hml, hown, hts⟩ (c_M_refuses l dC dI Y cI cZ p0 q0 g0 h0 S 0 0 0 0 (by decide) (by decide)) (cwV 2 hts (al_V k_532 k_533 k_649 k_4 k_534) rfl rfl rfl (by decide +kernel) ⟨Nat.le_of_ble_eq_true rfl, Nat.le_of_ble_eq_true rfl⟩) (va_recv hK hP (ci := 3) (q0 := 0) rfl rfl) hP hK hD hS rfl hl.1 rfl (lv_room (Nat.le_of_ble_eq_true rfl)) d_M_corrupt_35 ⟨Nat.zero_le _, Nat.zero_le _⟩ (fun H locs hP _ _ hS => ?_)
    have hD := w_addr hD (w_adM S (up S 0 1 0))
    refine lv_if_ne (tgt := 50) hx hb d_M_corrupt_38 (by decide) (fun c_ => absurd (by decide) c_) (fun _ => ?_)
    refine lv_aload_n hx hb d_M_corrupt_41 rfl (lv_at hl 0 rfl) ?_
    refine va_get (D := (dC, dI)) (ci := 3) (v := .ref (Y 4)) (C := "DealtSecretModel") (T := T_M) (N := 24) hx hb hts i_M hown hK hP 0 rfl rfl 12 (by decide) (hts _ k_455) (fun _ h9 => h9) rfl d_M_corrupt_42 ?_
    refine lv_iload_n hx hb d_M_corrupt_45 rfl (lv_at hl 1 rfl) ?_
    refine va_zald hx hb hK hP 4 1 rfl rfl (vp_in_nI (by omega) (by decide)) d_M_corrupt_46 ?_
    refine x_i (y := (up S 0 1 0) 4 (j + 1)) (by rw [nI_clamp (by omega)]) ?_
    refine lv_if_eq (tgt := 52) hx hb d_M_corrupt_47 (by decide) (fun c47 => ?_) (fun c47 => ?_)
    · refine lv_aload_n hx hb d_M_corrupt_52 rfl (lv_at hl 0 rfl) ?_
      refine va_get (D := (dC, dI)) (ci := 3) (v := .ref (Y 4)) (C := "DealtSecretModel") (T := T_M) (N := 24) hx hb hts i_M hown hK hP 0 rfl rfl 12 (by decide) (hts _ k_455) (fun _ h9 => h9) rfl d_M_corrupt_53 ?_
      refine lv_iload_n hx hb d_M_corrupt_56 rfl (lv_at hl 1 rfl) ?_
      refine lv_iconst (v := 1) hx hb d_M_corrupt_57 (by decide) ?_
      refine va_zast hx hb hK hP hD hS 4 1 rfl rfl (vp_in_nI (by omega) (by decide)) d_M_corrupt_58 (fun H locs hP hD hS => ?_)
      rw [nI_clamp (by omega), show vp_nar .boolean 1 = 1 from rfl] at hP hD
      have hP : va_P (dC, dI) cls (wM Y cI cZ p0 q0 g0 h0 (up (up S 0 1 0) 4 (j + 1) 1)) H := by rw [← w_ma4]; exact hP
      have hD : va_D (w_A (wM Y cI cZ p0 q0 g0 h0 (S))) (wM Y cI cZ p0 q0 g0 h0 (up (up S 0 1 0) 4 (j + 1) 1)) := by rw [← w_ma4]; exact hD
      refine lv_iconst (v := 1) hx hb d_M_corrupt_59 (by decide) ?_
      have e9 : coS S j = up (up S 0 1 0) 4 (j + 1) 1 := if_pos c47
      have hP := (show va_P (dC, dI) cls (wM Y cI cZ p0 q0 g0 h0 (coS S j)) _ by rw [e9]; exact hP)
      refine x_i (y := mz_b (S 4 (j + 1) = 0)) ((mz_bt c47).symm) ?_
      exact wr_z hx hb hr hlk (mz_bn _) hP hS d_M_corrupt_60
    · refine lv_iconst (v := 0) hx hb d_M_corrupt_50 (by decide) ?_
      have hne : ¬ (S 4 (j + 1) = 0) := fun q => by first | exact c47 q
      have e9 : coS S j = up S 0 1 0 := if_neg hne
      have hP := (show va_P (dC, dI) cls (wM Y cI cZ p0 q0 g0 h0 (coS S j)) _ by rw [e9]; exact hP)
      refine x_i (y := mz_b (S 4 (j + 1) = 0)) ((mz_bf hne).symm) ?_
      exact wr_z hx hb hr hlk (mz_bn _) hP hS d_M_corrupt_51
  · refine lv_aload_n hx hb d_M_corrupt_9 rfl (lv_at hl 0 rfl) ?_
    refine va_get (D := (dC, dI)) (ci := 3) (v := .int (S 0 0)) (C := "DealtSecretModel") (T := T_M) (N := 24) hx hb hts i_M hown hK hP 0 rfl rfl 4 (by decide) (hts _ k_447) (fun _ h9 => h9) rfl d_M_corrupt_10 ?_
    refine lv_iconst (v := 2) hx hb d_M_corrupt_13 (by decide) ?_
    refine lv_icmp_eq (tgt := 21) hx hb d_M_corrupt_14 (by decide) (fun _ => ?_) (fun c_ => absurd (hst.elim (fun q => absurd q c6) id) c_)
    refine lv_iconst (v := 0) hx hb d_M_corrupt_21 (by decide) ?_
    refine lv_aload_n hx hb d_M_corrupt_22 rfl (lv_at hl 0 rfl) ?_
    refine lv_iload_n hx hb d_M_corrupt_23 rfl (lv_at hl 1 rfl) ?_
    refine ro_V (As := [.int (nI (j + 1))]) (rest := [.int 0, .ref (Y 0)]) (b := (Y 0)) ⟨hx, hb, hml, hown, hts⟩ (c_M_isOne l dC dI Y cI cZ p0 q0 g0 h0 S (nI (j + 1))) (cwV 1 hts (al_V k_558 k_559 k_655 k_4 k_560) rfl rfl rfl (by decide +kernel) ⟨Nat.le_of_ble_eq_true rfl, Nat.le_of_ble_eq_true rfl⟩) (fun U g mk a h => ⟨h.1, va_K.moved (u := U) (U := U.calling g mk a) (Vm.Alike.refl U.vm) h.2⟩) (va_recv hK hP (ci := 3) (q0 := 0) rfl rfl) (fun U hU hW => ⟨by rw [hU]; exact hP, va_K.moved hW.alike hK⟩) rfl hl.1 rfl (lv_room (Nat.le_of_ble_eq_true rfl)) d_M_corrupt_24 ⟨Nat.zero_le _, Nat.zero_le _⟩ ?_
    refine lv_if_ne (tgt := 34) hx hb d_M_corrupt_27 (by decide) (fun _ => ?_) (fun c_ => absurd c_ (fun q => mz_b0.mp q (by rw [hn]; exact isPt_of (by omega) hj)))
    refine lv_iconst (v := 0) hx hb d_M_corrupt_34 (by decide) ?_
    refine wr_V (As := [.int 0, .int 0]) (rest := []) (b := (Y 0)) ⟨hx, hb, hml, hown, hts⟩ (c_M_refuses l dC dI Y cI cZ p0 q0 g0 h0 S 0 0 0 0 (by decide) (by decide)) (cwV 2 hts (al_V k_532 k_533 k_649 k_4 k_534) rfl rfl rfl (by decide +kernel) ⟨Nat.le_of_ble_eq_true rfl, Nat.le_of_ble_eq_true rfl⟩) (va_recv hK hP (ci := 3) (q0 := 0) rfl rfl) hP hK hD hS rfl hl.1 rfl (lv_room (Nat.le_of_ble_eq_true rfl)) d_M_corrupt_35 ⟨Nat.zero_le _, Nat.zero_le _⟩ (fun H locs hP _ _ hS => ?_)
    have hD := w_addr hD (w_adM S (up S 0 1 0))
    refine lv_if_ne (tgt := 50) hx hb d_M_corrupt_38 (by decide) (fun c_ => absurd (by decide) c_) (fun _ => ?_)
    refine lv_aload_n hx hb d_M_corrupt_41 rfl (lv_at hl 0 rfl) ?_
    refine va_get (D := (dC, dI)) (ci := 3) (v := .ref (Y 4)) (C := "DealtSecretModel") (T := T_M) (N := 24) hx hb hts i_M hown hK hP 0 rfl rfl 12 (by decide) (hts _ k_455) (fun _ h9 => h9) rfl d_M_corrupt_42 ?_
    refine lv_iload_n hx hb d_M_corrupt_45 rfl (lv_at hl 1 rfl) ?_
    refine va_zald hx hb hK hP 4 1 rfl rfl (vp_in_nI (by omega) (by decide)) d_M_corrupt_46 ?_
    refine x_i (y := (up S 0 1 0) 4 (j + 1)) (by rw [nI_clamp (by omega)]) ?_
    refine lv_if_eq (tgt := 52) hx hb d_M_corrupt_47 (by decide) (fun c47 => ?_) (fun c47 => ?_)
    · refine lv_aload_n hx hb d_M_corrupt_52 rfl (lv_at hl 0 rfl) ?_
      refine va_get (D := (dC, dI)) (ci := 3) (v := .ref (Y 4)) (C := "DealtSecretModel") (T := T_M) (N := 24) hx hb hts i_M hown hK hP 0 rfl rfl 12 (by decide) (hts _ k_455) (fun _ h9 => h9) rfl d_M_corrupt_53 ?_
      refine lv_iload_n hx hb d_M_corrupt_56 rfl (lv_at hl 1 rfl) ?_
      refine lv_iconst (v := 1) hx hb d_M_corrupt_57 (by decide) ?_
      refine va_zast hx hb hK hP hD hS 4 1 rfl rfl (vp_in_nI (by omega) (by decide)) d_M_corrupt_58 (fun H locs hP hD hS => ?_)
      rw [nI_clamp (by omega), show vp_nar .boolean 1 = 1 from rfl] at hP hD
      have hP : va_P (dC, dI) cls (wM Y cI cZ p0 q0 g0 h0 (up (up S 0 1 0) 4 (j + 1) 1)) H := by rw [← w_ma4]; exact hP
      have hD : va_D (w_A (wM Y cI cZ p0 q0 g0 h0 (S))) (wM Y cI cZ p0 q0 g0 h0 (up (up S 0 1 0) 4 (j + 1) 1)) := by rw [← w_ma4]; exact hD
      refine lv_iconst (v := 1) hx hb d_M_corrupt_59 (by decide) ?_
      have e9 : coS S j = up (up S 0 1 0) 4 (j + 1) 1 := if_pos c47
      have hP := (show va_P (dC, dI) cls (wM Y cI cZ p0 q0 g0 h0 (coS S j)) _ by rw [e9]; exact hP)
      refine x_i (y := mz_b (S 4 (j + 1) = 0)) ((mz_bt c47).symm) ?_
      exact wr_z hx hb hr hlk (mz_bn _) hP hS d_M_corrupt_60
    · refine lv_iconst (v := 0) hx hb d_M_corrupt_50 (by decide) ?_
      have hne : ¬ (S 4 (j + 1) = 0) := fun q => by first | exact c47 q
      have e9 : coS S j = up S 0 1 0 := if_neg hne
      have hP := (show va_P (dC, dI) cls (wM Y cI cZ p0 q0 g0 h0 (coS S j)) _ by rw [e9]; exact hP)
      refine x_i (y := mz_b (S 4 (j + 1) = 0)) ((mz_bf hne).symm) ?_
      exact wr_z hx hb hr hlk (mz_bn _) hP hS d_M_corrupt_51
set_option maxRecDepth 100000 in
set_option maxHeartbeats 4000000 in
/-- the reference's accuse where it is allowed -/
theorem c_M_accuse (l : Launch) (dC : Nat → ClassId) (dI : Nat → Nat → Nat) (Y : Nat → Nat) (cI cZ : ClassId) (p0 q0 g0 h0 : Nat) (S : Nat → Nat → Int32) (j n0 : Nat) (hn : S 0 2 = nI n0) (hn7 : n0 ≤ 7) (hj : j < n0) (hst : S 0 0 = 3) : Wr l y_M_accuse ws_M_accuse 1 22 [.ref (Y 0), .int (nI (j + 1))] (dC, dI) cls (tysM cI cZ) (wM Y cI cZ p0 q0 g0 h0 (S)) (wM Y cI cZ p0 q0 g0 h0 (amS S j)) (some (.int (mz_b (¬ S 4 (j + 1) = 0 ∧ S 5 (j + 1) = 0)))) := by
  refine Met.ofW (cc := b_M_accuse) (maxL := 2) (ret := (some .boolean)) (by decide) rfl ?_
  intro p e s m args below meth c s₁ B hml hv
  obtain ⟨rfl, hP, hK, hD0⟩ := hv
  have hx := B.exec
  have hb := B.bytes
  have hr := B.returns
  have hts : ∀ w ∈ AL, w.before ([.ref (Y 0), .int (nI (j + 1))] : List Value).toArray s = true := fun w h => atoms_spec (ws := ws_M_accuse) B.pre w (List.mem_cons_of_mem _ h)
  have hown : s.vm.findClass "DealtSecretModel" = some m.cls := findClass_of_methodNamed B.named
  have hlk := B.notSynchronized
  have hl := lv_entry ([.ref (Y 0), .int (nI (j + 1))]) (n := 2) (Nat.le_of_ble_eq_true rfl)
  rw [lg_entry_eq]
  generalize (lg_sl ([.ref (Y 0), .int (nI (j + 1))]) ++ List.replicate (2 - (lg_sl ([.ref (Y 0), .int (nI (j + 1))])).length) Slot.unset).toArray = ls at hl ⊢
  have hl : lv_has ls 2 [(0, .ref (Y 0)), (1, .int (nI (j + 1)))] := hl
  have hD := w_self hD0
  have hS : va_S (w_A (wM Y cI cZ p0 q0 g0 h0 (S))) s.heap s.heap [] := va_S.rf
  refine lv_aload_n hx hb d_M_accuse_0 rfl (lv_at hl 0 rfl) ?_
  refine lv_aload_n hx hb d_M_accuse_1 rfl (lv_at hl 0 rfl) ?_
  refine va_get (D := (dC, dI)) (ci := 3) (v := .int (S 0 0)) (C := "DealtSecretModel") (T := T_M) (N := 24) hx hb hts i_M hown hK hP 0 rfl rfl 4 (by decide) (hts _ k_447) (fun _ h9 => h9) rfl d_M_accuse_2 ?_
  refine lv_iconst (v := 3) hx hb d_M_accuse_5 (by decide) ?_
  refine lv_icmp_eq (tgt := 13) hx hb d_M_accuse_6 (by decide) (fun _ => ?_) (fun c_ => absurd (hst) c_)
  refine lv_iconst (v := 0) hx hb d_M_accuse_13 (by decide) ?_
  refine lv_aload_n hx hb d_M_accuse_14 rfl (lv_at hl 0 rfl) ?_
  refine lv_iload_n hx hb d_M_accuse_15 rfl (lv_at hl 1 rfl) ?_
  refine ro_V (As := [.int (nI (j + 1))]) (rest := [.int 0, .ref (Y 0)]) (b := (Y 0)) ⟨hx, hb, hml, hown, hts⟩ (c_M_isOne l dC dI Y cI cZ p0 q0 g0 h0 S (nI (j + 1))) (cwV 1 hts (al_V k_558 k_559 k_655 k_4 k_560) rfl rfl rfl (by decide +kernel) ⟨Nat.le_of_ble_eq_true rfl, Nat.le_of_ble_eq_true rfl⟩) (fun U g mk a h => ⟨h.1, va_K.moved (u := U) (U := U.calling g mk a) (Vm.Alike.refl U.vm) h.2⟩) (va_recv hK hP (ci := 3) (q0 := 0) rfl rfl) (fun U hU hW => ⟨by rw [hU]; exact hP, va_K.moved hW.alike hK⟩) rfl hl.1 rfl (lv_room (Nat.le_of_ble_eq_true rfl)) d_M_accuse_16 ⟨Nat.zero_le _, Nat.zero_le _⟩ ?_
  refine lv_if_ne (tgt := 26) hx hb d_M_accuse_19 (by decide) (fun _ => ?_) (fun c_ => absurd c_ (fun q => mz_b0.mp q (by rw [hn]; exact isPt_of (by omega) hj)))
  refine lv_iconst (v := 0) hx hb d_M_accuse_26 (by decide) ?_
  refine wr_V (As := [.int 0, .int 0]) (rest := []) (b := (Y 0)) ⟨hx, hb, hml, hown, hts⟩ (c_M_refuses l dC dI Y cI cZ p0 q0 g0 h0 S 0 0 0 0 (by decide) (by decide)) (cwV 2 hts (al_V k_532 k_533 k_649 k_4 k_534) rfl rfl rfl (by decide +kernel) ⟨Nat.le_of_ble_eq_true rfl, Nat.le_of_ble_eq_true rfl⟩) (va_recv hK hP (ci := 3) (q0 := 0) rfl rfl) hP hK hD hS rfl hl.1 rfl (lv_room (Nat.le_of_ble_eq_true rfl)) d_M_accuse_27 ⟨Nat.zero_le _, Nat.zero_le _⟩ (fun H locs hP _ _ hS => ?_)
  have hD := w_addr hD (w_adM S (up S 0 1 0))
  refine lv_if_ne (tgt := 51) hx hb d_M_accuse_30 (by decide) (fun c_ => absurd (by decide) c_) (fun _ => ?_)
  refine lv_aload_n hx hb d_M_accuse_33 rfl (lv_at hl 0 rfl) ?_
  refine va_get (D := (dC, dI)) (ci := 3) (v := .ref (Y 4)) (C := "DealtSecretModel") (T := T_M) (N := 24) hx hb hts i_M hown hK hP 0 rfl rfl 12 (by decide) (hts _ k_455) (fun _ h9 => h9) rfl d_M_accuse_34 ?_
  refine lv_iload_n hx hb d_M_accuse_37 rfl (lv_at hl 1 rfl) ?_
  refine va_zald hx hb hK hP 4 1 rfl rfl (vp_in_nI (by omega) (by decide)) d_M_accuse_38 ?_
  refine x_i (y := (up S 0 1 0) 4 (j + 1)) (by rw [nI_clamp (by omega)]) ?_
  refine lv_if_eq (tgt := 51) hx hb d_M_accuse_39 (by decide) (fun c39 => ?_) (fun c39 => ?_)
  · refine lv_iconst (v := 0) hx hb d_M_accuse_51 (by decide) ?_
    have hne : ¬ (¬ S 4 (j + 1) = 0 ∧ S 5 (j + 1) = 0) := fun q => by first | exact q.1 c39 | exact c48 q.2
    have e9 : amS S j = up S 0 1 0 := if_neg hne
    have hP := (show va_P (dC, dI) cls (wM Y cI cZ p0 q0 g0 h0 (amS S j)) _ by rw [e9]; exact hP)
    refine x_i (y := mz_b (¬ S 4 (j + 1) = 0 ∧ S 5 (j + 1) = 0)) ((mz_bf hne).symm) ?_
    exact wr_z hx hb hr hlk (mz_bn _) hP hS d_M_accuse_52
  · refine lv_aload_n hx hb d_M_accuse_42 rfl (lv_at hl 0 rfl) ?_
    refine va_get (D := (dC, dI)) (ci := 3) (v := .ref (Y 5)) (C := "DealtSecretModel") (T := T_M) (N := 24) hx hb hts i_M hown hK hP 0 rfl rfl 13 (by decide) (hts _ k_456) (fun _ h9 => h9) rfl d_M_accuse_43 ?_
    refine lv_iload_n hx hb d_M_accuse_46 rfl (lv_at hl 1 rfl) ?_
    refine va_zald hx hb hK hP 5 1 rfl rfl (vp_in_nI (by omega) (by decide)) d_M_accuse_47 ?_
    refine x_i (y := (up S 0 1 0) 5 (j + 1)) (by rw [nI_clamp (by omega)]) ?_
    refine lv_if_eq (tgt := 53) hx hb d_M_accuse_48 (by decide) (fun c48 => ?_) (fun c48 => ?_)
    · refine lv_aload_n hx hb d_M_accuse_53 rfl (lv_at hl 0 rfl) ?_
      refine va_get (D := (dC, dI)) (ci := 3) (v := .ref (Y 5)) (C := "DealtSecretModel") (T := T_M) (N := 24) hx hb hts i_M hown hK hP 0 rfl rfl 13 (by decide) (hts _ k_456) (fun _ h9 => h9) rfl d_M_accuse_54 ?_
      refine lv_iload_n hx hb d_M_accuse_57 rfl (lv_at hl 1 rfl) ?_
      refine lv_iconst (v := 1) hx hb d_M_accuse_58 (by decide) ?_
      refine va_zast hx hb hK hP hD hS 5 1 rfl rfl (vp_in_nI (by omega) (by decide)) d_M_accuse_59 (fun H locs hP hD hS => ?_)
      rw [nI_clamp (by omega), show vp_nar .boolean 1 = 1 from rfl] at hP hD
      have hP : va_P (dC, dI) cls (wM Y cI cZ p0 q0 g0 h0 (up (up S 0 1 0) 5 (j + 1) 1)) H := by rw [← w_ma5]; exact hP
      have hD : va_D (w_A (wM Y cI cZ p0 q0 g0 h0 (S))) (wM Y cI cZ p0 q0 g0 h0 (up (up S 0 1 0) 5 (j + 1) 1)) := by rw [← w_ma5]; exact hD
      refine lv_iconst (v := 1) hx hb d_M_accuse_60 (by decide) ?_
      have e9 : amS S j = up (up S 0 1 0) 5 (j + 1) 1 := if_pos ⟨c39, c48⟩
      have hP := (show va_P (dC, dI) cls (wM Y cI cZ p0 q0 g0 h0 (amS S j)) _ by rw [e9]; exact hP)
      refine x_i (y := mz_b (¬ S 4 (j + 1) = 0 ∧ S 5 (j + 1) = 0)) ((mz_bt ⟨c39, c48⟩).symm) ?_
      exact wr_z hx hb hr hlk (mz_bn _) hP hS d_M_accuse_61
    · refine lv_iconst (v := 0) hx hb d_M_accuse_51 (by decide) ?_
      have hne : ¬ (¬ S 4 (j + 1) = 0 ∧ S 5 (j + 1) = 0) := fun q => by first | exact q.1 c39 | exact c48 q.2
      have e9 : amS S j = up S 0 1 0 := if_neg hne
      have hP := (show va_P (dC, dI) cls (wM Y cI cZ p0 q0 g0 h0 (amS S j)) _ by rw [e9]; exact hP)
      refine x_i (y := mz_b (¬ S 4 (j + 1) = 0 ∧ S 5 (j + 1) = 0)) ((mz_bf hne).symm) ?_
      exact wr_z hx hb hr hlk (mz_bn _) hP hS d_M_accuse_52
set_option maxRecDepth 100000 in
set_option maxHeartbeats 4000000 in
/-- the reference's answer where it is allowed -/
theorem c_M_answer (l : Launch) (dC : Nat → ClassId) (dI : Nat → Nat → Nat) (Y : Nat → Nat) (cI cZ : ClassId) (p0 q0 g0 h0 : Nat) (S : Nat → Nat → Int32) (j n0 : Nat) (hn : S 0 2 = nI n0) (hn7 : n0 ≤ 7) (hj : j < n0) (t0 : Nat) (x0 y0 : Int32) (hst : S 0 0 = 4) (hcp : ¬ S 5 (j + 1) = 0) (ht : S 0 3 = nI t0) (ht7 : t0 ≤ 7) (ok : okG p0 q0 g0 h0) (hC : ∀ k, k < t0 → okN (S 3 k) p0) : Wr l y_M_answer ws_M_answer 4 95 [.ref (Y 0), .int (nI (j + 1)), .int x0, .int y0] (dC, dI) cls (tysM cI cZ) (wM Y cI cZ p0 q0 g0 h0 (S)) (wM Y cI cZ p0 q0 g0 h0 (tmS (up (up S 0 1 0) 6 (j + 1) 1) j x0 y0 q0)) (some (.int (mz_b ((g0 ^ (nn ((tmS (up (up S 0 1 0) 6 (j + 1) 1) j x0 y0 q0) 7 (j + 1))) % p0) * (h0 ^ (nn ((tmS (up (up S 0 1 0) 6 (j + 1) 1) j x0 y0 q0) 8 (j + 1))) % p0) % p0 = mz_cs (fun k => nn ((tmS (up (up S 0 1 0) 6 (j + 1) 1) j x0 y0 q0) 3 k)) (j + 1) t0 % p0)))) := by
  refine Met.ofW (cc := b_M_answer) (maxL := 4) (ret := (some .boolean)) (by decide) rfl ?_
  intro p e s m args below meth c s₁ B hml hv
  obtain ⟨rfl, hP, hK, hD0⟩ := hv
  have hx := B.exec
  have hb := B.bytes
  have hr := B.returns
  have hts : ∀ w ∈ AL, w.before ([.ref (Y 0), .int (nI (j + 1)), .int x0, .int y0] : List Value).toArray s = true := fun w h => atoms_spec (ws := ws_M_answer) B.pre w (List.mem_cons_of_mem _ h)
  have hown : s.vm.findClass "DealtSecretModel" = some m.cls := findClass_of_methodNamed B.named
  have hlk := B.notSynchronized
  have hl := lv_entry ([.ref (Y 0), .int (nI (j + 1)), .int x0, .int y0]) (n := 4) (Nat.le_of_ble_eq_true rfl)
  rw [lg_entry_eq]
  generalize (lg_sl ([.ref (Y 0), .int (nI (j + 1)), .int x0, .int y0]) ++ List.replicate (4 - (lg_sl ([.ref (Y 0), .int (nI (j + 1)), .int x0, .int y0])).length) Slot.unset).toArray = ls at hl ⊢
  have hl : lv_has ls 4 [(0, .ref (Y 0)), (1, .int (nI (j + 1))), (2, .int x0), (3, .int y0)] := hl
  have hD := w_self hD0
  have hS : va_S (w_A (wM Y cI cZ p0 q0 g0 h0 (S))) s.heap s.heap [] := va_S.rf
  obtain ⟨okp2, okp, okq2, okq, okg, okh⟩ := id ok
  have h7 : okN ((tmS (up (up S 0 1 0) 6 (j + 1) 1) j x0 y0 q0) 7 (j + 1)) q0 := by rw [tmS, up_ne _ _ _ (by decide), up_at]; exact okN_md x0 (by omega) okq
  have h8 : okN ((tmS (up (up S 0 1 0) 6 (j + 1) 1) j x0 y0 q0) 8 (j + 1)) q0 := by rw [tmS, up_at]; exact okN_bnum _ _ (by omega) okq
  have h7l := h7.lt
  have h8l := h8.lt
  refine lv_aload_n hx hb d_M_answer_0 rfl (lv_at hl 0 rfl) ?_
  refine lv_aload_n hx hb d_M_answer_1 rfl (lv_at hl 0 rfl) ?_
  refine va_get (D := (dC, dI)) (ci := 3) (v := .int (S 0 0)) (C := "DealtSecretModel") (T := T_M) (N := 24) hx hb hts i_M hown hK hP 0 rfl rfl 4 (by decide) (hts _ k_447) (fun _ h9 => h9) rfl d_M_answer_2 ?_
  refine lv_iconst (v := 4) hx hb d_M_answer_5 (by decide) ?_
  refine lv_icmp_eq (tgt := 13) hx hb d_M_answer_6 (by decide) (fun _ => ?_) (fun c_ => absurd (hst) c_)
  refine lv_iconst (v := 0) hx hb d_M_answer_13 (by decide) ?_
  refine lv_aload_n hx hb d_M_answer_14 rfl (lv_at hl 0 rfl) ?_
  refine lv_iload_n hx hb d_M_answer_15 rfl (lv_at hl 1 rfl) ?_
  refine ro_V (As := [.int (nI (j + 1))]) (rest := [.int 0, .ref (Y 0)]) (b := (Y 0)) ⟨hx, hb, hml, hown, hts⟩ (c_M_isOne l dC dI Y cI cZ p0 q0 g0 h0 S (nI (j + 1))) (cwV 1 hts (al_V k_558 k_559 k_655 k_4 k_560) rfl rfl rfl (by decide +kernel) ⟨Nat.le_of_ble_eq_true rfl, Nat.le_of_ble_eq_true rfl⟩) (fun U g mk a h => ⟨h.1, va_K.moved (u := U) (U := U.calling g mk a) (Vm.Alike.refl U.vm) h.2⟩) (va_recv hK hP (ci := 3) (q0 := 0) rfl rfl) (fun U hU hW => ⟨by rw [hU]; exact hP, va_K.moved hW.alike hK⟩) rfl hl.1 rfl (lv_room (Nat.le_of_ble_eq_true rfl)) d_M_answer_16 ⟨Nat.zero_le _, Nat.zero_le _⟩ ?_
  refine lv_if_ne (tgt := 26) hx hb d_M_answer_19 (by decide) (fun _ => ?_) (fun c_ => absurd c_ (fun q => mz_b0.mp q (by rw [hn]; exact isPt_of (by omega) hj)))
  refine lv_iconst (v := 0) hx hb d_M_answer_26 (by decide) ?_
  refine wr_V (As := [.int 0, .int 0]) (rest := []) (b := (Y 0)) ⟨hx, hb, hml, hown, hts⟩ (c_M_refuses l dC dI Y cI cZ p0 q0 g0 h0 S 0 0 0 0 (by decide) (by decide)) (cwV 2 hts (al_V k_532 k_533 k_649 k_4 k_534) rfl rfl rfl (by decide +kernel) ⟨Nat.le_of_ble_eq_true rfl, Nat.le_of_ble_eq_true rfl⟩) (va_recv hK hP (ci := 3) (q0 := 0) rfl rfl) hP hK hD hS rfl hl.1 rfl (lv_room (Nat.le_of_ble_eq_true rfl)) d_M_answer_27 ⟨Nat.zero_le _, Nat.zero_le _⟩ (fun H locs hP _ _ hS => ?_)
  have hD := w_addr hD (w_adM S (up S 0 1 0))
  refine lv_if_eq (tgt := 35) hx hb d_M_answer_30 (by decide) (fun _ => ?_) (fun c_ => absurd (by decide) c_)
  refine lv_aload_n hx hb d_M_answer_35 rfl (lv_at hl 0 rfl) ?_
  refine va_get (D := (dC, dI)) (ci := 3) (v := .ref (Y 5)) (C := "DealtSecretModel") (T := T_M) (N := 24) hx hb hts i_M hown hK hP 0 rfl rfl 13 (by decide) (hts _ k_456) (fun _ h9 => h9) rfl d_M_answer_36 ?_
  refine lv_iload_n hx hb d_M_answer_39 rfl (lv_at hl 1 rfl) ?_
  refine va_zald hx hb hK hP 5 1 rfl rfl (vp_in_nI (by omega) (by decide)) d_M_answer_40 ?_
  refine x_i (y := (up S 0 1 0) 5 (j + 1)) (by rw [nI_clamp (by omega)]) ?_
  refine lv_if_ne (tgt := 51) hx hb d_M_answer_41 (by decide) (fun _ => ?_) (fun c_ => absurd c_ (hcp))
  refine lv_aload_n hx hb d_M_answer_51 rfl (lv_at hl 0 rfl) ?_
  refine va_get (D := (dC, dI)) (ci := 3) (v := .ref (Y 6)) (C := "DealtSecretModel") (T := T_M) (N := 24) hx hb hts i_M hown hK hP 0 rfl rfl 14 (by decide) (hts _ k_457) (fun _ h9 => h9) rfl d_M_answer_52 ?_
  refine lv_iload_n hx hb d_M_answer_55 rfl (lv_at hl 1 rfl) ?_
  refine lv_iconst (v := 1) hx hb d_M_answer_56 (by decide) ?_
  refine va_zast hx hb hK hP hD hS 6 1 rfl rfl (vp_in_nI (by omega) (by decide)) d_M_answer_57 (fun H locs hP hD hS => ?_)
  rw [nI_clamp (by omega), show vp_nar .boolean 1 = 1 from rfl] at hP hD
  have hP : va_P (dC, dI) cls (wM Y cI cZ p0 q0 g0 h0 (up (up S 0 1 0) 6 (j + 1) 1)) H := by rw [← w_ma6]; exact hP
  have hD : va_D (w_A (wM Y cI cZ p0 q0 g0 h0 (S))) (wM Y cI cZ p0 q0 g0 h0 (up (up S 0 1 0) 6 (j + 1) 1)) := by rw [← w_ma6]; exact hD
  refine lv_aload_n hx hb d_M_answer_58 rfl (lv_at hl 0 rfl) ?_
  refine va_get (D := (dC, dI)) (ci := 3) (v := .ref (Y 7)) (C := "DealtSecretModel") (T := T_M) (N := 24) hx hb hts i_M hown hK hP 0 rfl rfl 15 (by decide) (hts _ k_458) (fun _ h9 => h9) rfl d_M_answer_59 ?_
  refine lv_iload_n hx hb d_M_answer_62 rfl (lv_at hl 1 rfl) ?_
  refine lv_aload_n hx hb d_M_answer_63 rfl (lv_at hl 0 rfl) ?_
  refine lv_iload_n hx hb d_M_answer_64 rfl (lv_at hl 2 rfl) ?_
  refine ro_V (As := [.int x0]) (rest := [.int (nI (j + 1)), .ref (Y 7)]) (b := (Y 0)) ⟨hx, hb, hml, hown, hts⟩ (c_M_reduced l dC dI Y cI cZ p0 q0 g0 h0 (up (up S 0 1 0) 6 (j + 1) 1) x0 ok) (cwV 1 hts (al_V k_535 k_536 k_650 k_4 k_537) rfl rfl rfl (by decide +kernel) ⟨Nat.le_of_ble_eq_true rfl, Nat.le_of_ble_eq_true rfl⟩) (fun U g mk a h => ⟨h.1, va_K.moved (u := U) (U := U.calling g mk a) (Vm.Alike.refl U.vm) h.2⟩) (va_recv hK hP (ci := 3) (q0 := 0) rfl rfl) (fun U hU hW => ⟨by rw [hU]; exact hP, va_K.moved hW.alike hK⟩) rfl hl.1 rfl (lv_room (Nat.le_of_ble_eq_true rfl)) d_M_answer_65 ⟨Nat.zero_le _, Nat.zero_le _⟩ ?_
  refine va_iast hx hb hK hP hD hS 7 0 rfl rfl (vp_in_nI (by omega) (by decide)) d_M_answer_68 (fun H locs hP hD hS => ?_)
  rw [nI_clamp (by omega)] at hP hD
  have hP : va_P (dC, dI) cls (wM Y cI cZ p0 q0 g0 h0 (up (up (up S 0 1 0) 6 (j + 1) 1) 7 (j + 1) (nI (md x0 q0)))) H := by rw [← w_ma7]; exact hP
  have hD : va_D (w_A (wM Y cI cZ p0 q0 g0 h0 (S))) (wM Y cI cZ p0 q0 g0 h0 (up (up (up S 0 1 0) 6 (j + 1) 1) 7 (j + 1) (nI (md x0 q0)))) := by rw [← w_ma7]; exact hD
  refine lv_aload_n hx hb d_M_answer_69 rfl (lv_at hl 0 rfl) ?_
  refine va_get (D := (dC, dI)) (ci := 3) (v := .ref (Y 8)) (C := "DealtSecretModel") (T := T_M) (N := 24) hx hb hts i_M hown hK hP 0 rfl rfl 16 (by decide) (hts _ k_459) (fun _ h9 => h9) rfl d_M_answer_70 ?_
  refine lv_iload_n hx hb d_M_answer_73 rfl (lv_at hl 1 rfl) ?_
  refine lv_aload_n hx hb d_M_answer_74 rfl (lv_at hl 0 rfl) ?_
  refine va_get (D := (dC, dI)) (ci := 3) (v := .int ((up (up (up S 0 1 0) 6 (j + 1) 1) 7 (j + 1) (nI (md x0 q0))) 0 4)) (C := "DealtSecretModel") (T := T_M) (N := 24) hx hb hts i_M hown hK hP 0 rfl rfl 8 (by decide) (hts _ k_451) (fun _ h9 => h9) rfl d_M_answer_75 ?_
  refine lv_if_eq (tgt := 89) hx hb d_M_answer_78 (by decide) (fun c78 => ?_) (fun c78 => ?_)
  · refine lv_iconst (v := 0) hx hb d_M_answer_89 (by decide) ?_
    refine x_i (y := bnum (S 0 4) y0 q0) ((if_pos c78).symm) ?_
    refine va_iast hx hb hK hP hD hS 8 0 rfl rfl (vp_in_nI (by omega) (by decide)) d_M_answer_90 (fun H locs hP hD hS => ?_)
    rw [nI_clamp (by omega)] at hP hD
    have hP : va_P (dC, dI) cls (wM Y cI cZ p0 q0 g0 h0 (up (up (up (up S 0 1 0) 6 (j + 1) 1) 7 (j + 1) (nI (md x0 q0))) 8 (j + 1) (bnum (S 0 4) y0 q0))) H := by rw [← w_ma8]; exact hP
    have hD : va_D (w_A (wM Y cI cZ p0 q0 g0 h0 (S))) (wM Y cI cZ p0 q0 g0 h0 (up (up (up (up S 0 1 0) 6 (j + 1) 1) 7 (j + 1) (nI (md x0 q0))) 8 (j + 1) (bnum (S 0 4) y0 q0))) := by rw [← w_ma8]; exact hD
    refine lv_aload_n hx hb d_M_answer_91 rfl (lv_at hl 0 rfl) ?_
    refine lv_iload_n hx hb d_M_answer_92 rfl (lv_at hl 1 rfl) ?_
    refine lv_aload_n hx hb d_M_answer_93 rfl (lv_at hl 0 rfl) ?_
    refine va_get (D := (dC, dI)) (ci := 3) (v := .ref (Y 7)) (C := "DealtSecretModel") (T := T_M) (N := 24) hx hb hts i_M hown hK hP 0 rfl rfl 15 (by decide) (hts _ k_458) (fun _ h9 => h9) rfl d_M_answer_94 ?_
    refine lv_iload_n hx hb d_M_answer_97 rfl (lv_at hl 1 rfl) ?_
    refine va_iald hx hb hK hP 7 0 rfl rfl (vp_in_nI (by omega) (by decide)) d_M_answer_98 ?_
    refine x_i (y := (up (up (up (up S 0 1 0) 6 (j + 1) 1) 7 (j + 1) (nI (md x0 q0))) 8 (j + 1) (bnum (S 0 4) y0 q0)) 7 (j + 1)) (by rw [nI_clamp (by omega)]) ?_
    refine x_i (y := nI (nn ((tmS (up (up S 0 1 0) 6 (j + 1) 1) j x0 y0 q0) 7 (j + 1)))) (h7.eq) ?_
    refine lv_aload_n hx hb d_M_answer_99 rfl (lv_at hl 0 rfl) ?_
    refine va_get (D := (dC, dI)) (ci := 3) (v := .ref (Y 8)) (C := "DealtSecretModel") (T := T_M) (N := 24) hx hb hts i_M hown hK hP 0 rfl rfl 16 (by decide) (hts _ k_459) (fun _ h9 => h9) rfl d_M_answer_100 ?_
    refine lv_iload_n hx hb d_M_answer_103 rfl (lv_at hl 1 rfl) ?_
    refine va_iald hx hb hK hP 8 0 rfl rfl (vp_in_nI (by omega) (by decide)) d_M_answer_104 ?_
    refine x_i (y := (up (up (up (up S 0 1 0) 6 (j + 1) 1) 7 (j + 1) (nI (md x0 q0))) 8 (j + 1) (bnum (S 0 4) y0 q0)) 8 (j + 1)) (by rw [nI_clamp (by omega)]) ?_
    refine x_i (y := nI (nn ((tmS (up (up S 0 1 0) 6 (j + 1) 1) j x0 y0 q0) 8 (j + 1)))) (h8.eq) ?_
    refine ro_V (As := [.int (nI (j + 1)), .int (nI (nn ((tmS (up (up S 0 1 0) 6 (j + 1) 1) j x0 y0 q0) 7 (j + 1)))), .int (nI (nn ((tmS (up (up S 0 1 0) 6 (j + 1) 1) j x0 y0 q0) 8 (j + 1))))]) (rest := []) (b := (Y 0)) ⟨hx, hb, hml, hown, hts⟩ (c_M_fit l dC dI Y cI cZ p0 q0 g0 h0 (tmS (up (up S 0 1 0) 6 (j + 1) 1) j x0 y0 q0) (j + 1) (nn ((tmS (up (up S 0 1 0) 6 (j + 1) 1) j x0 y0 q0) 7 (j + 1))) (nn ((tmS (up (up S 0 1 0) 6 (j + 1) 1) j x0 y0 q0) 8 (j + 1))) t0 ok (by omega) (by omega) (by omega) ht ht7 hC) (cwV 3 hts (al_V k_542 k_543 k_651 k_4 k_544) rfl rfl rfl (by decide +kernel) ⟨Nat.le_of_ble_eq_true rfl, Nat.le_of_ble_eq_true rfl⟩) (fun U g mk a h => ⟨h.1, va_K.moved (u := U) (U := U.calling g mk a) (Vm.Alike.refl U.vm) h.2⟩) (va_recv hK hP (ci := 3) (q0 := 0) rfl rfl) (fun U hU hW => ⟨by rw [hU]; exact hP, va_K.moved hW.alike hK⟩) rfl hl.1 rfl (lv_room (Nat.le_of_ble_eq_true rfl)) d_M_answer_105 ⟨Nat.zero_le _, Nat.zero_le _⟩ ?_
    exact wr_z hx hb hr hlk (by first | rfl | exact mz_bn _) hP hS d_M_answer_108
  · refine lv_aload_n hx hb d_M_answer_81 rfl (lv_at hl 0 rfl) ?_
    refine lv_iload_n hx hb d_M_answer_82 rfl (lv_at hl 3 rfl) ?_
    refine ro_V (As := [.int y0]) (rest := [.int (nI (j + 1)), .ref (Y 8)]) (b := (Y 0)) ⟨hx, hb, hml, hown, hts⟩ (c_M_reduced l dC dI Y cI cZ p0 q0 g0 h0 (up (up (up S 0 1 0) 6 (j + 1) 1) 7 (j + 1) (nI (md x0 q0))) y0 ok) (cwV 1 hts (al_V k_535 k_536 k_650 k_4 k_537) rfl rfl rfl (by decide +kernel) ⟨Nat.le_of_ble_eq_true rfl, Nat.le_of_ble_eq_true rfl⟩) (fun U g mk a h => ⟨h.1, va_K.moved (u := U) (U := U.calling g mk a) (Vm.Alike.refl U.vm) h.2⟩) (va_recv hK hP (ci := 3) (q0 := 0) rfl rfl) (fun U hU hW => ⟨by rw [hU]; exact hP, va_K.moved hW.alike hK⟩) rfl hl.1 rfl (lv_room (Nat.le_of_ble_eq_true rfl)) d_M_answer_83 ⟨Nat.zero_le _, Nat.zero_le _⟩ ?_
    refine x_i (y := bnum (S 0 4) y0 q0) ((if_neg c78).symm) ?_
    refine lv_goto (tgt := 90) hx hb d_M_answer_86 (by decide) ?_
    refine va_iast hx hb hK hP hD hS 8 0 rfl rfl (vp_in_nI (by omega) (by decide)) d_M_answer_90 (fun H locs hP hD hS => ?_)
    rw [nI_clamp (by omega)] at hP hD
    have hP : va_P (dC, dI) cls (wM Y cI cZ p0 q0 g0 h0 (up (up (up (up S 0 1 0) 6 (j + 1) 1) 7 (j + 1) (nI (md x0 q0))) 8 (j + 1) (bnum (S 0 4) y0 q0))) H := by rw [← w_ma8]; exact hP
    have hD : va_D (w_A (wM Y cI cZ p0 q0 g0 h0 (S))) (wM Y cI cZ p0 q0 g0 h0 (up (up (up (up S 0 1 0) 6 (j + 1) 1) 7 (j + 1) (nI (md x0 q0))) 8 (j + 1) (bnum (S 0 4) y0 q0))) := by rw [← w_ma8]; exact hD
    refine lv_aload_n hx hb d_M_answer_91 rfl (lv_at hl 0 rfl) ?_
    refine lv_iload_n hx hb d_M_answer_92 rfl (lv_at hl 1 rfl) ?_
    refine lv_aload_n hx hb d_M_answer_93 rfl (lv_at hl 0 rfl) ?_
    refine va_get (D := (dC, dI)) (ci := 3) (v := .ref (Y 7)) (C := "DealtSecretModel") (T := T_M) (N := 24) hx hb hts i_M hown hK hP 0 rfl rfl 15 (by decide) (hts _ k_458) (fun _ h9 => h9) rfl d_M_answer_94 ?_
    refine lv_iload_n hx hb d_M_answer_97 rfl (lv_at hl 1 rfl) ?_
    refine va_iald hx hb hK hP 7 0 rfl rfl (vp_in_nI (by omega) (by decide)) d_M_answer_98 ?_
    refine x_i (y := (up (up (up (up S 0 1 0) 6 (j + 1) 1) 7 (j + 1) (nI (md x0 q0))) 8 (j + 1) (bnum (S 0 4) y0 q0)) 7 (j + 1)) (by rw [nI_clamp (by omega)]) ?_
    refine x_i (y := nI (nn ((tmS (up (up S 0 1 0) 6 (j + 1) 1) j x0 y0 q0) 7 (j + 1)))) (h7.eq) ?_
    refine lv_aload_n hx hb d_M_answer_99 rfl (lv_at hl 0 rfl) ?_
    refine va_get (D := (dC, dI)) (ci := 3) (v := .ref (Y 8)) (C := "DealtSecretModel") (T := T_M) (N := 24) hx hb hts i_M hown hK hP 0 rfl rfl 16 (by decide) (hts _ k_459) (fun _ h9 => h9) rfl d_M_answer_100 ?_
    refine lv_iload_n hx hb d_M_answer_103 rfl (lv_at hl 1 rfl) ?_
    refine va_iald hx hb hK hP 8 0 rfl rfl (vp_in_nI (by omega) (by decide)) d_M_answer_104 ?_
    refine x_i (y := (up (up (up (up S 0 1 0) 6 (j + 1) 1) 7 (j + 1) (nI (md x0 q0))) 8 (j + 1) (bnum (S 0 4) y0 q0)) 8 (j + 1)) (by rw [nI_clamp (by omega)]) ?_
    refine x_i (y := nI (nn ((tmS (up (up S 0 1 0) 6 (j + 1) 1) j x0 y0 q0) 8 (j + 1)))) (h8.eq) ?_
    refine ro_V (As := [.int (nI (j + 1)), .int (nI (nn ((tmS (up (up S 0 1 0) 6 (j + 1) 1) j x0 y0 q0) 7 (j + 1)))), .int (nI (nn ((tmS (up (up S 0 1 0) 6 (j + 1) 1) j x0 y0 q0) 8 (j + 1))))]) (rest := []) (b := (Y 0)) ⟨hx, hb, hml, hown, hts⟩ (c_M_fit l dC dI Y cI cZ p0 q0 g0 h0 (tmS (up (up S 0 1 0) 6 (j + 1) 1) j x0 y0 q0) (j + 1) (nn ((tmS (up (up S 0 1 0) 6 (j + 1) 1) j x0 y0 q0) 7 (j + 1))) (nn ((tmS (up (up S 0 1 0) 6 (j + 1) 1) j x0 y0 q0) 8 (j + 1))) t0 ok (by omega) (by omega) (by omega) ht ht7 hC) (cwV 3 hts (al_V k_542 k_543 k_651 k_4 k_544) rfl rfl rfl (by decide +kernel) ⟨Nat.le_of_ble_eq_true rfl, Nat.le_of_ble_eq_true rfl⟩) (fun U g mk a h => ⟨h.1, va_K.moved (u := U) (U := U.calling g mk a) (Vm.Alike.refl U.vm) h.2⟩) (va_recv hK hP (ci := 3) (q0 := 0) rfl rfl) (fun U hU hW => ⟨by rw [hU]; exact hP, va_K.moved hW.alike hK⟩) rfl hl.1 rfl (lv_room (Nat.le_of_ble_eq_true rfl)) d_M_answer_105 ⟨Nat.zero_le _, Nat.zero_le _⟩ ?_
    exact wr_z hx hb hr hlk (by first | rfl | exact mz_bn _) hP hS d_M_answer_108
set_option maxRecDepth 100000 in
set_option maxHeartbeats 4000000 in
/-- the reference's answer where nobody complained -/
theorem r_M_answer_no (l : Launch) (dC : Nat → ClassId) (dI : Nat → Nat → Nat) (Y : Nat → Nat) (cI cZ : ClassId) (p0 q0 g0 h0 : Nat) (S : Nat → Nat → Int32) (j n0 : Nat) (hn : S 0 2 = nI n0) (hn7 : n0 ≤ 7) (hj : j < n0) (x0 y0 : Int32) (hst : S 0 0 = 4) (hcp : S 5 (j + 1) = 0) : Wr l y_M_answer ws_M_answer 4 95 [.ref (Y 0), .int (nI (j + 1)), .int x0, .int y0] (dC, dI) cls (tysM cI cZ) (wM Y cI cZ p0 q0 g0 h0 (S)) (wM Y cI cZ p0 q0 g0 h0 (up (up S 0 1 0) 0 1 3)) (some (.int 0)) := by
  refine Met.ofW (cc := b_M_answer) (maxL := 4) (ret := (some .boolean)) (by decide) rfl ?_
  intro p e s m args below meth c s₁ B hml hv
  obtain ⟨rfl, hP, hK, hD0⟩ := hv
  have hx := B.exec
  have hb := B.bytes
  have hr := B.returns
  have hts : ∀ w ∈ AL, w.before ([.ref (Y 0), .int (nI (j + 1)), .int x0, .int y0] : List Value).toArray s = true := fun w h => atoms_spec (ws := ws_M_answer) B.pre w (List.mem_cons_of_mem _ h)
  have hown : s.vm.findClass "DealtSecretModel" = some m.cls := findClass_of_methodNamed B.named
  have hlk := B.notSynchronized
  have hl := lv_entry ([.ref (Y 0), .int (nI (j + 1)), .int x0, .int y0]) (n := 4) (Nat.le_of_ble_eq_true rfl)
  rw [lg_entry_eq]
  generalize (lg_sl ([.ref (Y 0), .int (nI (j + 1)), .int x0, .int y0]) ++ List.replicate (4 - (lg_sl ([.ref (Y 0), .int (nI (j + 1)), .int x0, .int y0])).length) Slot.unset).toArray = ls at hl ⊢
  have hl : lv_has ls 4 [(0, .ref (Y 0)), (1, .int (nI (j + 1))), (2, .int x0), (3, .int y0)] := hl
  have hD := w_self hD0
  have hS : va_S (w_A (wM Y cI cZ p0 q0 g0 h0 (S))) s.heap s.heap [] := va_S.rf
  refine lv_aload_n hx hb d_M_answer_0 rfl (lv_at hl 0 rfl) ?_
  refine lv_aload_n hx hb d_M_answer_1 rfl (lv_at hl 0 rfl) ?_
  refine va_get (D := (dC, dI)) (ci := 3) (v := .int (S 0 0)) (C := "DealtSecretModel") (T := T_M) (N := 24) hx hb hts i_M hown hK hP 0 rfl rfl 4 (by decide) (hts _ k_447) (fun _ h9 => h9) rfl d_M_answer_2 ?_
  refine lv_iconst (v := 4) hx hb d_M_answer_5 (by decide) ?_
  refine lv_icmp_eq (tgt := 13) hx hb d_M_answer_6 (by decide) (fun _ => ?_) (fun c_ => absurd (hst) c_)
  refine lv_iconst (v := 0) hx hb d_M_answer_13 (by decide) ?_
  refine lv_aload_n hx hb d_M_answer_14 rfl (lv_at hl 0 rfl) ?_
  refine lv_iload_n hx hb d_M_answer_15 rfl (lv_at hl 1 rfl) ?_
  refine ro_V (As := [.int (nI (j + 1))]) (rest := [.int 0, .ref (Y 0)]) (b := (Y 0)) ⟨hx, hb, hml, hown, hts⟩ (c_M_isOne l dC dI Y cI cZ p0 q0 g0 h0 S (nI (j + 1))) (cwV 1 hts (al_V k_558 k_559 k_655 k_4 k_560) rfl rfl rfl (by decide +kernel) ⟨Nat.le_of_ble_eq_true rfl, Nat.le_of_ble_eq_true rfl⟩) (fun U g mk a h => ⟨h.1, va_K.moved (u := U) (U := U.calling g mk a) (Vm.Alike.refl U.vm) h.2⟩) (va_recv hK hP (ci := 3) (q0 := 0) rfl rfl) (fun U hU hW => ⟨by rw [hU]; exact hP, va_K.moved hW.alike hK⟩) rfl hl.1 rfl (lv_room (Nat.le_of_ble_eq_true rfl)) d_M_answer_16 ⟨Nat.zero_le _, Nat.zero_le _⟩ ?_
  refine lv_if_ne (tgt := 26) hx hb d_M_answer_19 (by decide) (fun _ => ?_) (fun c_ => absurd c_ (fun q => mz_b0.mp q (by rw [hn]; exact isPt_of (by omega) hj)))
  refine lv_iconst (v := 0) hx hb d_M_answer_26 (by decide) ?_
  refine wr_V (As := [.int 0, .int 0]) (rest := []) (b := (Y 0)) ⟨hx, hb, hml, hown, hts⟩ (c_M_refuses l dC dI Y cI cZ p0 q0 g0 h0 S 0 0 0 0 (by decide) (by decide)) (cwV 2 hts (al_V k_532 k_533 k_649 k_4 k_534) rfl rfl rfl (by decide +kernel) ⟨Nat.le_of_ble_eq_true rfl, Nat.le_of_ble_eq_true rfl⟩) (va_recv hK hP (ci := 3) (q0 := 0) rfl rfl) hP hK hD hS rfl hl.1 rfl (lv_room (Nat.le_of_ble_eq_true rfl)) d_M_answer_27 ⟨Nat.zero_le _, Nat.zero_le _⟩ (fun H locs hP _ _ hS => ?_)
  have hD := w_addr hD (w_adM S (up S 0 1 0))
  refine lv_if_eq (tgt := 35) hx hb d_M_answer_30 (by decide) (fun _ => ?_) (fun c_ => absurd (by decide) c_)
  refine lv_aload_n hx hb d_M_answer_35 rfl (lv_at hl 0 rfl) ?_
  refine va_get (D := (dC, dI)) (ci := 3) (v := .ref (Y 5)) (C := "DealtSecretModel") (T := T_M) (N := 24) hx hb hts i_M hown hK hP 0 rfl rfl 13 (by decide) (hts _ k_456) (fun _ h9 => h9) rfl d_M_answer_36 ?_
  refine lv_iload_n hx hb d_M_answer_39 rfl (lv_at hl 1 rfl) ?_
  refine va_zald hx hb hK hP 5 1 rfl rfl (vp_in_nI (by omega) (by decide)) d_M_answer_40 ?_
  refine x_i (y := (up S 0 1 0) 5 (j + 1)) (by rw [nI_clamp (by omega)]) ?_
  refine lv_if_ne (tgt := 51) hx hb d_M_answer_41 (by decide) (fun c_ => absurd (hcp) c_) (fun _ => ?_)
  refine lv_aload_n hx hb d_M_answer_44 rfl (lv_at hl 0 rfl) ?_
  refine lv_iconst (v := 3) hx hb d_M_answer_45 (by decide) ?_
  refine va_put (D := (dC, dI)) (ci := 3) (v := .int 3) (ty := .int) (C := "DealtSecretModel") (T := T_M) (N := 24) hx hb hts i_M t_M t_M_ok n_M hown hK hP hD hS 0 rfl rfl 5 (by decide) (hts _ k_448) (fun _ h9 => h9) rfl (by decide +kernel) (rfl) (rfl) (Nat.le_of_ble_eq_true rfl) d_M_answer_46 (fun H locs hP hD hS => ?_)
  have hP : va_P (dC, dI) cls (wM Y cI cZ p0 q0 g0 h0 (up (up S 0 1 0) 0 1 3)) H := by rw [← w_ms1]; exact hP
  have hD : va_D (w_A (wM Y cI cZ p0 q0 g0 h0 (S))) (wM Y cI cZ p0 q0 g0 h0 (up (up S 0 1 0) 0 1 3)) := by rw [← w_ms1]; exact hD
  refine lv_iconst (v := 0) hx hb d_M_answer_49 (by decide) ?_
  exact wr_z hx hb hr hlk (by first | rfl | exact mz_bn _) hP hS d_M_answer_50
set_option maxRecDepth 100000 in
set_option maxHeartbeats 4000000 in
/-- the reference's opening where it is allowed -/
theorem c_M_open (l : Launch) (dC : Nat → ClassId) (dI : Nat → Nat → Nat) (Y : Nat → Nat) (cI cZ : ClassId) (p0 q0 g0 h0 : Nat) (S : Nat → Nat → Int32) (j n0 : Nat) (hn : S 0 2 = nI n0) (hn7 : n0 ≤ 7) (hj : j < n0) (t0 : Nat) (hst : S 0 0 = 5) (hu : okN (S 7 (j + 1)) q0) (hv : okN (S 8 (j + 1)) q0) (hKp : okKM S j q0) (ht : S 0 3 = nI t0) (ht7 : t0 ≤ 7) (ok : okG p0 q0 g0 h0) (hC : ∀ k, k < t0 → okN (S 3 k) p0) : Wr l y_M_open ws_M_open 5 118 [.ref (Y 0), .int (nI (j + 1))] (dC, dI) cls (tysM cI cZ) (wM Y cI cZ p0 q0 g0 h0 (S)) (wM Y cI cZ p0 q0 g0 h0 (mlS p0 q0 g0 h0 t0 (up S 0 1 0) j (nn (S 7 (j + 1))) (nn (S 8 (j + 1))))) (some (.int (mz_b ((g0 ^ (nn (S 7 (j + 1))) % p0) * (h0 ^ (nn (S 8 (j + 1))) % p0) % p0 = mz_cs (fun k => nn (S 3 k)) (j + 1) t0 % p0)))) := by
  refine Met.ofW (cc := b_M_open) (maxL := 2) (ret := (some .boolean)) (by decide) rfl ?_
  intro p e s m args below meth c s₁ B hml hv
  obtain ⟨rfl, hP, hK, hD0⟩ := hv
  have hx := B.exec
  have hb := B.bytes
  have hr := B.returns
  have hts : ∀ w ∈ AL, w.before ([.ref (Y 0), .int (nI (j + 1))] : List Value).toArray s = true := fun w h => atoms_spec (ws := ws_M_open) B.pre w (List.mem_cons_of_mem _ h)
  have hown : s.vm.findClass "DealtSecretModel" = some m.cls := findClass_of_methodNamed B.named
  have hlk := B.notSynchronized
  have hl := lv_entry ([.ref (Y 0), .int (nI (j + 1))]) (n := 2) (Nat.le_of_ble_eq_true rfl)
  rw [lg_entry_eq]
  generalize (lg_sl ([.ref (Y 0), .int (nI (j + 1))]) ++ List.replicate (2 - (lg_sl ([.ref (Y 0), .int (nI (j + 1))])).length) Slot.unset).toArray = ls at hl ⊢
  have hl : lv_has ls 2 [(0, .ref (Y 0)), (1, .int (nI (j + 1)))] := hl
  have hD := w_self hD0
  have hS : va_S (w_A (wM Y cI cZ p0 q0 g0 h0 (S))) s.heap s.heap [] := va_S.rf
  obtain ⟨okp2, okp, okq2, okq, okg, okh⟩ := id ok
  refine lv_aload_n hx hb d_M_open_0 rfl (lv_at hl 0 rfl) ?_
  refine lv_aload_n hx hb d_M_open_1 rfl (lv_at hl 0 rfl) ?_
  refine va_get (D := (dC, dI)) (ci := 3) (v := .int (S 0 0)) (C := "DealtSecretModel") (T := T_M) (N := 24) hx hb hts i_M hown hK hP 0 rfl rfl 4 (by decide) (hts _ k_447) (fun _ h9 => h9) rfl d_M_open_2 ?_
  refine lv_iconst (v := 5) hx hb d_M_open_5 (by decide) ?_
  refine lv_icmp_eq (tgt := 13) hx hb d_M_open_6 (by decide) (fun _ => ?_) (fun c_ => absurd (hst) c_)
  refine lv_iconst (v := 0) hx hb d_M_open_13 (by decide) ?_
  refine lv_aload_n hx hb d_M_open_14 rfl (lv_at hl 0 rfl) ?_
  refine lv_iload_n hx hb d_M_open_15 rfl (lv_at hl 1 rfl) ?_
  refine ro_V (As := [.int (nI (j + 1))]) (rest := [.int 0, .ref (Y 0)]) (b := (Y 0)) ⟨hx, hb, hml, hown, hts⟩ (c_M_isOne l dC dI Y cI cZ p0 q0 g0 h0 S (nI (j + 1))) (cwV 1 hts (al_V k_558 k_559 k_655 k_4 k_560) rfl rfl rfl (by decide +kernel) ⟨Nat.le_of_ble_eq_true rfl, Nat.le_of_ble_eq_true rfl⟩) (fun U g mk a h => ⟨h.1, va_K.moved (u := U) (U := U.calling g mk a) (Vm.Alike.refl U.vm) h.2⟩) (va_recv hK hP (ci := 3) (q0 := 0) rfl rfl) (fun U hU hW => ⟨by rw [hU]; exact hP, va_K.moved hW.alike hK⟩) rfl hl.1 rfl (lv_room (Nat.le_of_ble_eq_true rfl)) d_M_open_16 ⟨Nat.zero_le _, Nat.zero_le _⟩ ?_
  refine lv_if_ne (tgt := 26) hx hb d_M_open_19 (by decide) (fun _ => ?_) (fun c_ => absurd c_ (fun q => mz_b0.mp q (by rw [hn]; exact isPt_of (by omega) hj)))
  refine lv_iconst (v := 0) hx hb d_M_open_26 (by decide) ?_
  refine wr_V (As := [.int 0, .int 0]) (rest := []) (b := (Y 0)) ⟨hx, hb, hml, hown, hts⟩ (c_M_refuses l dC dI Y cI cZ p0 q0 g0 h0 S 0 0 0 0 (by decide) (by decide)) (cwV 2 hts (al_V k_532 k_533 k_649 k_4 k_534) rfl rfl rfl (by decide +kernel) ⟨Nat.le_of_ble_eq_true rfl, Nat.le_of_ble_eq_true rfl⟩) (va_recv hK hP (ci := 3) (q0 := 0) rfl rfl) hP hK hD hS rfl hl.1 rfl (lv_room (Nat.le_of_ble_eq_true rfl)) d_M_open_27 ⟨Nat.zero_le _, Nat.zero_le _⟩ (fun H locs hP _ _ hS => ?_)
  have hD := w_addr hD (w_adM S (up S 0 1 0))
  refine lv_if_ne (tgt := 57) hx hb d_M_open_30 (by decide) (fun c_ => absurd (by decide) c_) (fun _ => ?_)
  refine lv_aload_n hx hb d_M_open_33 rfl (lv_at hl 0 rfl) ?_
  refine lv_iload_n hx hb d_M_open_34 rfl (lv_at hl 1 rfl) ?_
  refine lv_aload_n hx hb d_M_open_35 rfl (lv_at hl 0 rfl) ?_
  refine va_get (D := (dC, dI)) (ci := 3) (v := .ref (Y 7)) (C := "DealtSecretModel") (T := T_M) (N := 24) hx hb hts i_M hown hK hP 0 rfl rfl 15 (by decide) (hts _ k_458) (fun _ h9 => h9) rfl d_M_open_36 ?_
  refine lv_iload_n hx hb d_M_open_39 rfl (lv_at hl 1 rfl) ?_
  refine va_iald hx hb hK hP 7 0 rfl rfl (vp_in_nI (by omega) (by decide)) d_M_open_40 ?_
  refine x_i (y := (up S 0 1 0) 7 (j + 1)) (by rw [nI_clamp (by omega)]) ?_
  refine x_i (y := nI (nn (S 7 (j + 1)))) (hu.eq) ?_
  refine lv_aload_n hx hb d_M_open_41 rfl (lv_at hl 0 rfl) ?_
  refine va_get (D := (dC, dI)) (ci := 3) (v := .ref (Y 8)) (C := "DealtSecretModel") (T := T_M) (N := 24) hx hb hts i_M hown hK hP 0 rfl rfl 16 (by decide) (hts _ k_459) (fun _ h9 => h9) rfl d_M_open_42 ?_
  refine lv_iload_n hx hb d_M_open_45 rfl (lv_at hl 1 rfl) ?_
  refine va_iald hx hb hK hP 8 0 rfl rfl (vp_in_nI (by omega) (by decide)) d_M_open_46 ?_
  refine x_i (y := (up S 0 1 0) 8 (j + 1)) (by rw [nI_clamp (by omega)]) ?_
  refine x_i (y := nI (nn (S 8 (j + 1)))) (hv.eq) ?_
  refine wr_V (As := [.int (nI (j + 1)), .int (nI (nn (S 7 (j + 1)))), .int (nI (nn (S 8 (j + 1))))]) (rest := []) (b := (Y 0)) ⟨hx, hb, hml, hown, hts⟩ (c_M_lay l dC dI Y cI cZ p0 q0 g0 h0 (up S 0 1 0) j (nn (S 7 (j + 1))) (nn (S 8 (j + 1))) t0 (by omega) hu.lt hv.lt hKp ht ht7 ok hC) (cwV 3 hts (al_V k_581 k_582 k_656 k_4 k_583) rfl rfl rfl (by decide +kernel) ⟨Nat.le_of_ble_eq_true rfl, Nat.le_of_ble_eq_true rfl⟩) (va_recv hK hP (ci := 3) (q0 := 0) rfl rfl) hP hK hD hS rfl hl.1 rfl (lv_room (Nat.le_of_ble_eq_true rfl)) d_M_open_47 ⟨Nat.zero_le _, Nat.zero_le _⟩ (fun H locs hP _ _ hS => ?_)
  have hD := w_addr hD (w_adM (up S 0 1 0) (mlS p0 q0 g0 h0 t0 (up S 0 1 0) j (nn (S 7 (j + 1))) (nn (S 8 (j + 1)))))
  refine lv_if_eq (tgt := 57) hx hb d_M_open_50 (by decide) (fun c50 => ?_) (fun c50 => ?_)
  · refine lv_iconst (v := 0) hx hb d_M_open_57 (by decide) ?_
    refine x_i (y := mz_b ((g0 ^ (nn (S 7 (j + 1))) % p0) * (h0 ^ (nn (S 8 (j + 1))) % p0) % p0 = mz_cs (fun k => nn (S 3 k)) (j + 1) t0 % p0)) (c50.symm) ?_
    exact wr_z hx hb hr hlk (by first | rfl | exact mz_bn _) hP hS d_M_open_58
  · refine lv_iconst (v := 1) hx hb d_M_open_53 (by decide) ?_
    refine x_i (y := mz_b ((g0 ^ (nn (S 7 (j + 1))) % p0) * (h0 ^ (nn (S 8 (j + 1))) % p0) % p0 = mz_cs (fun k => nn (S 3 k)) (j + 1) t0 % p0)) ((mz_bt (Classical.not_not.mp (fun z => c50 (mz_bf z)))).symm) ?_
    refine lv_goto (tgt := 58) hx hb d_M_open_54 (by decide) ?_
    exact wr_z hx hb hr hlk (by first | rfl | exact mz_bn _) hP hS d_M_open_58
set_option maxRecDepth 100000 in
set_option maxHeartbeats 4000000 in
/-- the reference's show where it is allowed -/
theorem c_M_show (l : Launch) (dC : Nat → ClassId) (dI : Nat → Nat → Nat) (Y : Nat → Nat) (cI cZ : ClassId) (p0 q0 g0 h0 : Nat) (S : Nat → Nat → Int32) (j n0 : Nat) (hn : S 0 2 = nI n0) (hn7 : n0 ≤ 7) (hj : j < n0) (t0 : Nat) (x0 y0 : Int32) (hst : S 0 0 = 5) (hKp : okKM S j q0) (ht : S 0 3 = nI t0) (ht7 : t0 ≤ 7) (ok : okG p0 q0 g0 h0) (hC : ∀ k, k < t0 → okN (S 3 k) p0) : Wr l y_M_show ws_M_show 5 118 [.ref (Y 0), .int (nI (j + 1)), .int x0, .int y0] (dC, dI) cls (tysM cI cZ) (wM Y cI cZ p0 q0 g0 h0 (S)) (wM Y cI cZ p0 q0 g0 h0 (mlS p0 q0 g0 h0 t0 (up S 0 1 0) j (md x0 q0) (md y0 q0))) (some (.int (mz_b ((g0 ^ (md x0 q0) % p0) * (h0 ^ (md y0 q0) % p0) % p0 = mz_cs (fun k => nn (S 3 k)) (j + 1) t0 % p0)))) := by
  refine Met.ofW (cc := b_M_show) (maxL := 4) (ret := (some .boolean)) (by decide) rfl ?_
  intro p e s m args below meth c s₁ B hml hv
  obtain ⟨rfl, hP, hK, hD0⟩ := hv
  have hx := B.exec
  have hb := B.bytes
  have hr := B.returns
  have hts : ∀ w ∈ AL, w.before ([.ref (Y 0), .int (nI (j + 1)), .int x0, .int y0] : List Value).toArray s = true := fun w h => atoms_spec (ws := ws_M_show) B.pre w (List.mem_cons_of_mem _ h)
  have hown : s.vm.findClass "DealtSecretModel" = some m.cls := findClass_of_methodNamed B.named
  have hlk := B.notSynchronized
  have hl := lv_entry ([.ref (Y 0), .int (nI (j + 1)), .int x0, .int y0]) (n := 4) (Nat.le_of_ble_eq_true rfl)
  rw [lg_entry_eq]
  generalize (lg_sl ([.ref (Y 0), .int (nI (j + 1)), .int x0, .int y0]) ++ List.replicate (4 - (lg_sl ([.ref (Y 0), .int (nI (j + 1)), .int x0, .int y0])).length) Slot.unset).toArray = ls at hl ⊢
  have hl : lv_has ls 4 [(0, .ref (Y 0)), (1, .int (nI (j + 1))), (2, .int x0), (3, .int y0)] := hl
  have hD := w_self hD0
  have hS : va_S (w_A (wM Y cI cZ p0 q0 g0 h0 (S))) s.heap s.heap [] := va_S.rf
  obtain ⟨okp2, okp, okq2, okq, okg, okh⟩ := id ok
  refine lv_aload_n hx hb d_M_show_0 rfl (lv_at hl 0 rfl) ?_
  refine lv_aload_n hx hb d_M_show_1 rfl (lv_at hl 0 rfl) ?_
  refine va_get (D := (dC, dI)) (ci := 3) (v := .int (S 0 0)) (C := "DealtSecretModel") (T := T_M) (N := 24) hx hb hts i_M hown hK hP 0 rfl rfl 4 (by decide) (hts _ k_447) (fun _ h9 => h9) rfl d_M_show_2 ?_
  refine lv_iconst (v := 5) hx hb d_M_show_5 (by decide) ?_
  refine lv_icmp_eq (tgt := 13) hx hb d_M_show_6 (by decide) (fun _ => ?_) (fun c_ => absurd (hst) c_)
  refine lv_iconst (v := 0) hx hb d_M_show_13 (by decide) ?_
  refine lv_aload_n hx hb d_M_show_14 rfl (lv_at hl 0 rfl) ?_
  refine lv_iload_n hx hb d_M_show_15 rfl (lv_at hl 1 rfl) ?_
  refine ro_V (As := [.int (nI (j + 1))]) (rest := [.int 0, .ref (Y 0)]) (b := (Y 0)) ⟨hx, hb, hml, hown, hts⟩ (c_M_isOne l dC dI Y cI cZ p0 q0 g0 h0 S (nI (j + 1))) (cwV 1 hts (al_V k_558 k_559 k_655 k_4 k_560) rfl rfl rfl (by decide +kernel) ⟨Nat.le_of_ble_eq_true rfl, Nat.le_of_ble_eq_true rfl⟩) (fun U g mk a h => ⟨h.1, va_K.moved (u := U) (U := U.calling g mk a) (Vm.Alike.refl U.vm) h.2⟩) (va_recv hK hP (ci := 3) (q0 := 0) rfl rfl) (fun U hU hW => ⟨by rw [hU]; exact hP, va_K.moved hW.alike hK⟩) rfl hl.1 rfl (lv_room (Nat.le_of_ble_eq_true rfl)) d_M_show_16 ⟨Nat.zero_le _, Nat.zero_le _⟩ ?_
  refine lv_if_ne (tgt := 26) hx hb d_M_show_19 (by decide) (fun _ => ?_) (fun c_ => absurd c_ (fun q => mz_b0.mp q (by rw [hn]; exact isPt_of (by omega) hj)))
  refine lv_iconst (v := 0) hx hb d_M_show_26 (by decide) ?_
  refine wr_V (As := [.int 0, .int 0]) (rest := []) (b := (Y 0)) ⟨hx, hb, hml, hown, hts⟩ (c_M_refuses l dC dI Y cI cZ p0 q0 g0 h0 S 0 0 0 0 (by decide) (by decide)) (cwV 2 hts (al_V k_532 k_533 k_649 k_4 k_534) rfl rfl rfl (by decide +kernel) ⟨Nat.le_of_ble_eq_true rfl, Nat.le_of_ble_eq_true rfl⟩) (va_recv hK hP (ci := 3) (q0 := 0) rfl rfl) hP hK hD hS rfl hl.1 rfl (lv_room (Nat.le_of_ble_eq_true rfl)) d_M_show_27 ⟨Nat.zero_le _, Nat.zero_le _⟩ (fun H locs hP _ _ hS => ?_)
  have hD := w_addr hD (w_adM S (up S 0 1 0))
  refine lv_if_ne (tgt := 55) hx hb d_M_show_30 (by decide) (fun c_ => absurd (by decide) c_) (fun _ => ?_)
  refine lv_aload_n hx hb d_M_show_33 rfl (lv_at hl 0 rfl) ?_
  refine lv_iload_n hx hb d_M_show_34 rfl (lv_at hl 1 rfl) ?_
  refine lv_aload_n hx hb d_M_show_35 rfl (lv_at hl 0 rfl) ?_
  refine lv_iload_n hx hb d_M_show_36 rfl (lv_at hl 2 rfl) ?_
  refine ro_V (As := [.int x0]) (rest := [.int (nI (j + 1)), .ref (Y 0)]) (b := (Y 0)) ⟨hx, hb, hml, hown, hts⟩ (c_M_reduced l dC dI Y cI cZ p0 q0 g0 h0 (up S 0 1 0) x0 ok) (cwV 1 hts (al_V k_535 k_536 k_650 k_4 k_537) rfl rfl rfl (by decide +kernel) ⟨Nat.le_of_ble_eq_true rfl, Nat.le_of_ble_eq_true rfl⟩) (fun U g mk a h => ⟨h.1, va_K.moved (u := U) (U := U.calling g mk a) (Vm.Alike.refl U.vm) h.2⟩) (va_recv hK hP (ci := 3) (q0 := 0) rfl rfl) (fun U hU hW => ⟨by rw [hU]; exact hP, va_K.moved hW.alike hK⟩) rfl hl.1 rfl (lv_room (Nat.le_of_ble_eq_true rfl)) d_M_show_37 ⟨Nat.zero_le _, Nat.zero_le _⟩ ?_
  refine lv_aload_n hx hb d_M_show_40 rfl (lv_at hl 0 rfl) ?_
  refine lv_iload_n hx hb d_M_show_41 rfl (lv_at hl 3 rfl) ?_
  refine ro_V (As := [.int y0]) (rest := [.int (nI (md x0 q0)), .int (nI (j + 1)), .ref (Y 0)]) (b := (Y 0)) ⟨hx, hb, hml, hown, hts⟩ (c_M_reduced l dC dI Y cI cZ p0 q0 g0 h0 (up S 0 1 0) y0 ok) (cwV 1 hts (al_V k_535 k_536 k_650 k_4 k_537) rfl rfl rfl (by decide +kernel) ⟨Nat.le_of_ble_eq_true rfl, Nat.le_of_ble_eq_true rfl⟩) (fun U g mk a h => ⟨h.1, va_K.moved (u := U) (U := U.calling g mk a) (Vm.Alike.refl U.vm) h.2⟩) (va_recv hK hP (ci := 3) (q0 := 0) rfl rfl) (fun U hU hW => ⟨by rw [hU]; exact hP, va_K.moved hW.alike hK⟩) rfl hl.1 rfl (lv_room (Nat.le_of_ble_eq_true rfl)) d_M_show_42 ⟨Nat.zero_le _, Nat.zero_le _⟩ ?_
  refine wr_V (As := [.int (nI (j + 1)), .int (nI (md x0 q0)), .int (nI (md y0 q0))]) (rest := []) (b := (Y 0)) ⟨hx, hb, hml, hown, hts⟩ (c_M_lay l dC dI Y cI cZ p0 q0 g0 h0 (up S 0 1 0) j (md x0 q0) (md y0 q0) t0 (by omega) (md_lt _ (by omega)) (md_lt _ (by omega)) hKp ht ht7 ok hC) (cwV 3 hts (al_V k_581 k_582 k_656 k_4 k_583) rfl rfl rfl (by decide +kernel) ⟨Nat.le_of_ble_eq_true rfl, Nat.le_of_ble_eq_true rfl⟩) (va_recv hK hP (ci := 3) (q0 := 0) rfl rfl) hP hK hD hS rfl hl.1 rfl (lv_room (Nat.le_of_ble_eq_true rfl)) d_M_show_45 ⟨Nat.zero_le _, Nat.zero_le _⟩ (fun H locs hP _ _ hS => ?_)
  have hD := w_addr hD (w_adM (up S 0 1 0) (mlS p0 q0 g0 h0 t0 (up S 0 1 0) j (md x0 q0) (md y0 q0)))
  refine lv_if_eq (tgt := 55) hx hb d_M_show_48 (by decide) (fun c48 => ?_) (fun c48 => ?_)
  · refine lv_iconst (v := 0) hx hb d_M_show_55 (by decide) ?_
    refine x_i (y := mz_b ((g0 ^ (md x0 q0) % p0) * (h0 ^ (md y0 q0) % p0) % p0 = mz_cs (fun k => nn (S 3 k)) (j + 1) t0 % p0)) (c48.symm) ?_
    exact wr_z hx hb hr hlk (by first | rfl | exact mz_bn _) hP hS d_M_show_56
  · refine lv_iconst (v := 1) hx hb d_M_show_51 (by decide) ?_
    refine x_i (y := mz_b ((g0 ^ (md x0 q0) % p0) * (h0 ^ (md y0 q0) % p0) % p0 = mz_cs (fun k => nn (S 3 k)) (j + 1) t0 % p0)) ((mz_bt (Classical.not_not.mp (fun z => c48 (mz_bf z)))).symm) ?_
    refine lv_goto (tgt := 56) hx hb d_M_show_52 (by decide) ?_
    exact wr_z hx hb hr hlk (by first | rfl | exact mz_bn _) hP hS d_M_show_56
set_option maxRecDepth 100000 in
set_option maxHeartbeats 4000000 in
/-- the reference's relation where it is allowed -/
theorem c_M_relation (l : Launch) (dC : Nat → ClassId) (dI : Nat → Nat → Nat) (Y : Nat → Nat) (cI cZ : ClassId) (p0 q0 g0 h0 : Nat) (S : Nat → Nat → Int32) (hst : S 0 0 = 5) (hrl : ¬ S 0 5 = 0) : Wr l y_M_relation ws_M_relation 1 22 [.ref (Y 0)] (dC, dI) cls (tysM cI cZ) (wM Y cI cZ p0 q0 g0 h0 (S)) (wM Y cI cZ p0 q0 g0 h0 (up S 0 1 0)) (some (.int (S 0 6))) := by
  refine Met.ofW (cc := b_M_relation) (maxL := 1) (ret := (some .int)) (by decide) rfl ?_
  intro p e s m args below meth c s₁ B hml hv
  obtain ⟨rfl, hP, hK, hD0⟩ := hv
  have hx := B.exec
  have hb := B.bytes
  have hr := B.returns
  have hts : ∀ w ∈ AL, w.before ([.ref (Y 0)] : List Value).toArray s = true := fun w h => atoms_spec (ws := ws_M_relation) B.pre w (List.mem_cons_of_mem _ h)
  have hown : s.vm.findClass "DealtSecretModel" = some m.cls := findClass_of_methodNamed B.named
  have hlk := B.notSynchronized
  have hl := lv_entry ([.ref (Y 0)]) (n := 1) (Nat.le_of_ble_eq_true rfl)
  rw [lg_entry_eq]
  generalize (lg_sl ([.ref (Y 0)]) ++ List.replicate (1 - (lg_sl ([.ref (Y 0)])).length) Slot.unset).toArray = ls at hl ⊢
  have hl : lv_has ls 1 [(0, .ref (Y 0))] := hl
  have hD := w_self hD0
  have hS : va_S (w_A (wM Y cI cZ p0 q0 g0 h0 (S))) s.heap s.heap [] := va_S.rf
  refine lv_aload_n hx hb d_M_relation_0 rfl (lv_at hl 0 rfl) ?_
  refine lv_aload_n hx hb d_M_relation_1 rfl (lv_at hl 0 rfl) ?_
  refine va_get (D := (dC, dI)) (ci := 3) (v := .int (S 0 0)) (C := "DealtSecretModel") (T := T_M) (N := 24) hx hb hts i_M hown hK hP 0 rfl rfl 4 (by decide) (hts _ k_447) (fun _ h9 => h9) rfl d_M_relation_2 ?_
  refine lv_iconst (v := 5) hx hb d_M_relation_5 (by decide) ?_
  refine lv_icmp_eq (tgt := 13) hx hb d_M_relation_6 (by decide) (fun _ => ?_) (fun c_ => absurd (hst) c_)
  refine lv_iconst (v := 0) hx hb d_M_relation_13 (by decide) ?_
  refine lv_aload_n hx hb d_M_relation_14 rfl (lv_at hl 0 rfl) ?_
  refine va_get (D := (dC, dI)) (ci := 3) (v := .int (S 0 5)) (C := "DealtSecretModel") (T := T_M) (N := 24) hx hb hts i_M hown hK hP 0 rfl rfl 20 (by decide) (hts _ k_463) (fun _ h9 => h9) rfl d_M_relation_15 ?_
  refine lv_if_ne (tgt := 25) hx hb d_M_relation_18 (by decide) (fun _ => ?_) (fun c_ => absurd c_ (hrl))
  refine lv_iconst (v := 0) hx hb d_M_relation_25 (by decide) ?_
  refine wr_V (As := [.int 0, .int 0]) (rest := []) (b := (Y 0)) ⟨hx, hb, hml, hown, hts⟩ (c_M_refuses l dC dI Y cI cZ p0 q0 g0 h0 S 0 0 0 0 (by decide) (by decide)) (cwV 2 hts (al_V k_532 k_533 k_649 k_4 k_534) rfl rfl rfl (by decide +kernel) ⟨Nat.le_of_ble_eq_true rfl, Nat.le_of_ble_eq_true rfl⟩) (va_recv hK hP (ci := 3) (q0 := 0) rfl rfl) hP hK hD hS rfl hl.1 rfl (lv_room (Nat.le_of_ble_eq_true rfl)) d_M_relation_26 ⟨Nat.zero_le _, Nat.zero_le _⟩ (fun H locs hP _ _ hS => ?_)
  have hD := w_addr hD (w_adM S (up S 0 1 0))
  refine lv_if_eq (tgt := 34) hx hb d_M_relation_29 (by decide) (fun _ => ?_) (fun c_ => absurd (by decide) c_)
  refine lv_aload_n hx hb d_M_relation_34 rfl (lv_at hl 0 rfl) ?_
  refine va_get (D := (dC, dI)) (ci := 3) (v := .int ((up S 0 1 0) 0 6)) (C := "DealtSecretModel") (T := T_M) (N := 24) hx hb hts i_M hown hK hP 0 rfl rfl 21 (by decide) (hts _ k_464) (fun _ h9 => h9) rfl d_M_relation_35 ?_
  refine x_i (y := S 0 6) (rfl) ?_
  exact wr_i hx hb hr hlk hP hS d_M_relation_38
