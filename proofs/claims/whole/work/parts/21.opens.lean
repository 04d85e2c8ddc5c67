/-- a pair is laid before all -/
def lyS (p0 q0 g0 h0 t0 : Nat) (S : Nat → Nat → Int32) (j u0 v0 : Nat) : Nat → Nat → Int32 :=
  if (g0 ^ u0 % p0) * (h0 ^ v0 % p0) % p0 = mz_cp (fun k => nn (S 3 k)) (j + 1) 0 t0 % p0 then
    if S 10 j = 0 then kpt S j (nI u0) (nI v0)
    else if S 0 4 = 0 ∧ ¬ nI v0 = S 12 j then up (up S 0 4 1) 0 5 (nI ((md (nI (nn (S 11 j)) - nI u0) q0) * ((md (nI v0 - nI (nn (S 12 j))) q0) ^ (q0 - 2) % q0) % q0)) else S
  else S
def anS (S : Nat → Nat → Int32) (j : Nat) (x y : Int32) (q0 : Nat) : Nat → Nat → Int32 := rcv S j (nI (md x q0)) (bnum (S 0 3) y q0)
def okK (S : Nat → Nat → Int32) (j q0 : Nat) : Prop := ¬ S 10 j = 0 → okN (S 11 j) q0 ∧ okN (S 12 j) q0
set_option maxRecDepth 100000 in
set_option maxHeartbeats 4000000 in
/-- layOpen(one, u, v) -/
theorem c_C_layOpen (l : Launch) (dC : Nat → ClassId) (dI : Nat → Nat → Nat) (Z : Nat → Nat) (cI cP : ClassId) (p0 q0 g0 h0 : Nat) (S : Nat → Nat → Int32) (j u0 v0 t0 : Nat) (hj : j < 7) (hN : S 4 j = nI (j + 1)) (hu0 : u0 < q0) (hv0 : v0 < q0) (hKp : okK S j q0) (ht : S 0 2 = nI t0) (ht7 : t0 ≤ 7) (ok : okG p0 q0 g0 h0) (hC : ∀ k, k < t0 → okN (S 3 k) p0) : Wr l y_C_layOpen ws_C_layOpen 4 95 [.ref (Z 0), .ref (Z (6 + j)), .int (nI u0), .int (nI v0)] (dC, dI) cls (tysC cI cP) (wC Z cI cP p0 q0 g0 h0 (S)) (wC Z cI cP p0 q0 g0 h0 (lyS p0 q0 g0 h0 t0 S j u0 v0)) (some (.int (mz_b ((g0 ^ u0 % p0) * (h0 ^ v0 % p0) % p0 = mz_cp (fun k => nn (S 3 k)) (j + 1) 0 t0 % p0)))) := by
  refine Met.ofW (cc := b_C_layOpen) (maxL := 4) (ret := (some .boolean)) (by decide) rfl ?_
  intro p e s m args below meth c s₁ B hml hv
  obtain ⟨rfl, hP, hK, hD0⟩ := hv
  have hx := B.exec
  have hb := B.bytes
  have hr := B.returns
  have hts : ∀ w ∈ AL, w.before ([.ref (Z 0), .ref (Z (6 + j)), .int (nI u0), .int (nI v0)] : List Value).toArray s = true := fun w h => atoms_spec (ws := ws_C_layOpen) B.pre w (List.mem_cons_of_mem _ h)
  have hown : s.vm.findClass "DealtSecret" = some m.cls := findClass_of_methodNamed B.named
  have hlk := B.notSynchronized
  have hl := lv_entry ([.ref (Z 0), .ref (Z (6 + j)), .int (nI u0), .int (nI v0)]) (n := 4) (Nat.le_of_ble_eq_true rfl)
  rw [lg_entry_eq]
  generalize (lg_sl ([.ref (Z 0), .ref (Z (6 + j)), .int (nI u0), .int (nI v0)]) ++ List.replicate (4 - (lg_sl ([.ref (Z 0), .ref (Z (6 + j)), .int (nI u0), .int (nI v0)])).length) Slot.unset).toArray = ls at hl ⊢
  have hl : lv_has ls 4 [(0, .ref (Z 0)), (1, .ref (Z (6 + j))), (2, .int (nI u0)), (3, .int (nI v0))] := hl
  have hD := w_self hD0
  have hS : va_S (w_A (wC Z cI cP p0 q0 g0 h0 (S))) s.heap s.heap [] := va_S.rf
  obtain ⟨okp2, okp, okq2, okq, okg, okh⟩ := id ok
  refine lv_aload_n hx hb d_C_layOpen_0 rfl (lv_at hl 0 rfl) ?_
  refine lv_aload_n hx hb d_C_layOpen_1 rfl (lv_at hl 1 rfl) ?_
  refine lv_iload_n hx hb d_C_layOpen_2 rfl (lv_at hl 2 rfl) ?_
  refine lv_iload_n hx hb d_C_layOpen_3 rfl (lv_at hl 3 rfl) ?_
  refine ro_V (As := [.ref (Z (6 + j)), .int (nI u0), .int (nI v0)]) (rest := []) (b := (Z 0)) ⟨hx, hb, hml, hown, hts⟩ (c_C_isPairRight l dC dI Z cI cP p0 q0 g0 h0 S j u0 v0 t0 hj hN (by omega) (by omega) ht ht7 ok hC) (cwV 3 hts (al_V k_166 k_167 k_634 k_1 k_168) rfl rfl rfl (by decide +kernel) ⟨Nat.le_of_ble_eq_true rfl, Nat.le_of_ble_eq_true rfl⟩) (fun U g mk a h => ⟨h.1, va_K.moved (u := U) (U := U.calling g mk a) (Vm.Alike.refl U.vm) h.2⟩) (va_recv hK hP (ci := 2) (q0 := 0) rfl rfl) (fun U hU hW => ⟨by rw [hU]; exact hP, va_K.moved hW.alike hK⟩) rfl hl.1 rfl (lv_room (Nat.le_of_ble_eq_true rfl)) d_C_layOpen_4 ⟨Nat.zero_le _, Nat.zero_le _⟩ ?_
  refine lv_if_ne (tgt := 12) hx hb d_C_layOpen_7 (by decide) (fun c7 => ?_) (fun c7 => ?_)
  · have hf : (g0 ^ u0 % p0) * (h0 ^ v0 % p0) % p0 = mz_cp (fun k => nn (S 3 k)) (j + 1) 0 t0 % p0 := Classical.not_not.mp (fun z => c7 (mz_bf z))
    refine lv_aload_n hx hb d_C_layOpen_12 rfl (lv_at hl 1 rfl) ?_
    refine va_get (D := (dC, dI)) (ci := 1) (v := .int (S 10 j)) (C := "DealtSecret$Participant") (T := T_P) (N := 9) hx hb hts i_P hown hK hP (6 + j) (w_part (hj)) rfl 6 (by decide) (hts _ k_77) (fun _ h9 => h9) rfl d_C_layOpen_13 ?_
    refine lv_if_ne (tgt := 28) hx hb d_C_layOpen_16 (by decide) (fun c16 => ?_) (fun c16 => ?_)
    · have hkk := hKp c16
      have hk1 := hkk.1.lt
      have hk2 := hkk.2.lt
      have hmu := md_lt (nI (nn (S 11 j)) - nI u0) (q := q0) (by omega)
      have hmv := md_lt (nI v0 - nI (nn (S 12 j))) (q := q0) (by omega)
      refine lv_aload_n hx hb d_C_layOpen_28 rfl (lv_at hl 0 rfl) ?_
      refine va_get (D := (dC, dI)) (ci := 2) (v := .int (S 0 4)) (C := "DealtSecret") (T := T_C) (N := 11) hx hb hts i_C hown hK hP 0 rfl rfl 9 (by decide) (hts _ k_110) (fun _ h9 => h9) rfl d_C_layOpen_29 ?_
      refine lv_if_ne (tgt := 83) hx hb d_C_layOpen_32 (by decide) (fun c32 => ?_) (fun c32 => ?_)
      · refine lv_iconst (v := 1) hx hb d_C_layOpen_83 (by decide) ?_
        have e9 : lyS p0 q0 g0 h0 t0 S j u0 v0 = S := (if_pos hf).trans ((if_neg c16).trans (if_neg (by first | exact fun q => c32 q.1 | exact fun q => q.2 c40)))
        have hP := (show va_P (dC, dI) cls (wC Z cI cP p0 q0 g0 h0 (lyS p0 q0 g0 h0 t0 S j u0 v0)) _ by rw [e9]; exact hP)
        refine x_i (y := mz_b ((g0 ^ u0 % p0) * (h0 ^ v0 % p0) % p0 = mz_cp (fun k => nn (S 3 k)) (j + 1) 0 t0 % p0)) ((mz_bt hf).symm) ?_
        exact wr_z hx hb hr hlk (mz_bn _) hP hS d_C_layOpen_84
      · refine lv_iload_n hx hb d_C_layOpen_35 rfl (lv_at hl 3 rfl) ?_
        refine lv_aload_n hx hb d_C_layOpen_36 rfl (lv_at hl 1 rfl) ?_
        refine va_get (D := (dC, dI)) (ci := 1) (v := .int (S 12 j)) (C := "DealtSecret$Participant") (T := T_P) (N := 9) hx hb hts i_P hown hK hP (6 + j) (w_part (hj)) rfl 8 (by decide) (hts _ k_81) (fun _ h9 => h9) rfl d_C_layOpen_37 ?_
        refine lv_icmp_eq (tgt := 83) hx hb d_C_layOpen_40 (by decide) (fun c40 => ?_) (fun c40 => ?_)
        · refine lv_iconst (v := 1) hx hb d_C_layOpen_83 (by decide) ?_
          have e9 : lyS p0 q0 g0 h0 t0 S j u0 v0 = S := (if_pos hf).trans ((if_neg c16).trans (if_neg (by first | exact fun q => c32 q.1 | exact fun q => q.2 c40)))
          have hP := (show va_P (dC, dI) cls (wC Z cI cP p0 q0 g0 h0 (lyS p0 q0 g0 h0 t0 S j u0 v0)) _ by rw [e9]; exact hP)
          refine x_i (y := mz_b ((g0 ^ u0 % p0) * (h0 ^ v0 % p0) % p0 = mz_cp (fun k => nn (S 3 k)) (j + 1) 0 t0 % p0)) ((mz_bt hf).symm) ?_
          exact wr_z hx hb hr hlk (mz_bn _) hP hS d_C_layOpen_84
        · refine lv_aload_n hx hb d_C_layOpen_43 rfl (lv_at hl 0 rfl) ?_
          refine lv_iconst (v := 1) hx hb d_C_layOpen_44 (by decide) ?_
          refine va_put (D := (dC, dI)) (ci := 2) (v := .int 1) (ty := .boolean) (C := "DealtSecret") (T := T_C) (N := 11) hx hb hts i_C t_C t_C_ok n_C hown hK hP hD hS 0 rfl rfl 9 (by decide) (hts _ k_110) (fun _ h9 => h9) rfl (by decide +kernel) (rfl) (rfl) (Nat.le_of_ble_eq_true rfl) d_C_layOpen_45 (fun H locs hP hD hS => ?_)
          have hP : va_P (dC, dI) cls (wC Z cI cP p0 q0 g0 h0 (up S 0 4 1)) H := by rw [← w_cs4]; exact hP
          have hD : va_D (w_A (wC Z cI cP p0 q0 g0 h0 (S))) (wC Z cI cP p0 q0 g0 h0 (up S 0 4 1)) := by rw [← w_cs4]; exact hD
          refine lv_aload_n hx hb d_C_layOpen_48 rfl (lv_at hl 0 rfl) ?_
          refine lv_aload_n hx hb d_C_layOpen_49 rfl (lv_at hl 0 rfl) ?_
          refine va_get (D := (dC, dI)) (ci := 2) (v := .ref (Z 1)) (C := "DealtSecret") (T := T_C) (N := 11) hx hb hts i_C hown hK hP 0 rfl rfl 0 (by decide) (hts _ k_101) (fun _ h9 => h9) rfl d_C_layOpen_50 ?_
          refine lv_aload_n hx hb d_C_layOpen_53 rfl (lv_at hl 0 rfl) ?_
          refine va_get (D := (dC, dI)) (ci := 2) (v := .ref (Z 1)) (C := "DealtSecret") (T := T_C) (N := 11) hx hb hts i_C hown hK hP 0 rfl rfl 0 (by decide) (hts _ k_101) (fun _ h9 => h9) rfl d_C_layOpen_54 ?_
          refine lv_aload_n hx hb d_C_layOpen_57 rfl (lv_at hl 1 rfl) ?_
          refine va_get (D := (dC, dI)) (ci := 1) (v := .int ((up S 0 4 1) 11 j)) (C := "DealtSecret$Participant") (T := T_P) (N := 9) hx hb hts i_P hown hK hP (6 + j) (w_part (hj)) rfl 7 (by decide) (hts _ k_79) (fun _ h9 => h9) rfl d_C_layOpen_58 ?_
          refine x_i (y := nI (nn (S 11 j))) (hkk.1.eq) ?_
          refine lv_iload_n hx hb d_C_layOpen_61 rfl (lv_at hl 2 rfl) ?_
          refine ro_V (As := [.int (nI (nn (S 11 j))), .int (nI u0)]) (rest := [.ref (Z 1), .ref (Z 0)]) (b := (Z 1)) ⟨hx, hb, hml, hown, hts⟩ (c_G_minus l dC dI (Z 1) p0 q0 g0 h0 (nn (S 11 j)) u0 (by omega) okq) (cwV 2 hts (al_V k_392 k_393 k_394 k_2 k_395) rfl rfl rfl (by decide +kernel) ⟨Nat.le_of_ble_eq_true rfl, Nat.le_of_ble_eq_true rfl⟩) (fun U g mk a h => ⟨h.1, va_K.moved (u := U) (U := U.calling g mk a) (Vm.Alike.refl U.vm) h.2⟩) (va_recv hK hP (ci := 0) (q0 := 1) rfl rfl) (fun U hU hW => ⟨by rw [hU]; exact (hP.sub [1] rfl), va_K.moved hW.alike (hK.sub [] rfl)⟩) rfl hl.1 rfl (lv_room (Nat.le_of_ble_eq_true rfl)) d_C_layOpen_62 ⟨Nat.zero_le _, Nat.zero_le _⟩ ?_
          refine lv_aload_n hx hb d_C_layOpen_65 rfl (lv_at hl 0 rfl) ?_
          refine va_get (D := (dC, dI)) (ci := 2) (v := .ref (Z 1)) (C := "DealtSecret") (T := T_C) (N := 11) hx hb hts i_C hown hK hP 0 rfl rfl 0 (by decide) (hts _ k_101) (fun _ h9 => h9) rfl d_C_layOpen_66 ?_
          refine lv_iload_n hx hb d_C_layOpen_69 rfl (lv_at hl 3 rfl) ?_
          refine lv_aload_n hx hb d_C_layOpen_70 rfl (lv_at hl 1 rfl) ?_
          refine va_get (D := (dC, dI)) (ci := 1) (v := .int ((up S 0 4 1) 12 j)) (C := "DealtSecret$Participant") (T := T_P) (N := 9) hx hb hts i_P hown hK hP (6 + j) (w_part (hj)) rfl 8 (by decide) (hts _ k_81) (fun _ h9 => h9) rfl d_C_layOpen_71 ?_
          refine x_i (y := nI (nn (S 12 j))) (hkk.2.eq) ?_
          refine ro_V (As := [.int (nI v0), .int (nI (nn (S 12 j)))]) (rest := [.int (nI (md (nI (nn (S 11 j)) - nI u0) q0)), .ref (Z 1), .ref (Z 0)]) (b := (Z 1)) ⟨hx, hb, hml, hown, hts⟩ (c_G_minus l dC dI (Z 1) p0 q0 g0 h0 v0 (nn (S 12 j)) (by omega) okq) (cwV 2 hts (al_V k_392 k_393 k_394 k_2 k_395) rfl rfl rfl (by decide +kernel) ⟨Nat.le_of_ble_eq_true rfl, Nat.le_of_ble_eq_true rfl⟩) (fun U g mk a h => ⟨h.1, va_K.moved (u := U) (U := U.calling g mk a) (Vm.Alike.refl U.vm) h.2⟩) (va_recv hK hP (ci := 0) (q0 := 1) rfl rfl) (fun U hU hW => ⟨by rw [hU]; exact (hP.sub [1] rfl), va_K.moved hW.alike (hK.sub [] rfl)⟩) rfl hl.1 rfl (lv_room (Nat.le_of_ble_eq_true rfl)) d_C_layOpen_74 ⟨Nat.zero_le _, Nat.zero_le _⟩ ?_
          refine ro_V (As := [.int (nI (md (nI (nn (S 11 j)) - nI u0) q0)), .int (nI (md (nI v0 - nI (nn (S 12 j))) q0))]) (rest := [.ref (Z 0)]) (b := (Z 1)) ⟨hx, hb, hml, hown, hts⟩ (c_G_quotient l dC dI (Z 1) p0 q0 g0 h0 (md (nI (nn (S 11 j)) - nI u0) q0) (md (nI v0 - nI (nn (S 12 j))) q0) (by omega) (by omega) okq2 okq) (cwV 2 hts (al_V k_397 k_398 k_399 k_2 k_400) rfl rfl rfl (by decide +kernel) ⟨Nat.le_of_ble_eq_true rfl, Nat.le_of_ble_eq_true rfl⟩) (fun U g mk a h => ⟨h.1, va_K.moved (u := U) (U := U.calling g mk a) (Vm.Alike.refl U.vm) h.2⟩) (va_recv hK hP (ci := 0) (q0 := 1) rfl rfl) (fun U hU hW => ⟨by rw [hU]; exact (hP.sub [1] rfl), va_K.moved hW.alike (hK.sub [] rfl)⟩) rfl hl.1 rfl (lv_room (Nat.le_of_ble_eq_true rfl)) d_C_layOpen_77 ⟨Nat.zero_le _, Nat.zero_le _⟩ ?_
          refine va_put (D := (dC, dI)) (ci := 2) (v := .int (nI ((md (nI (nn (S 11 j)) - nI u0) q0) * ((md (nI v0 - nI (nn (S 12 j))) q0) ^ (q0 - 2) % q0) % q0))) (ty := .int) (C := "DealtSecret") (T := T_C) (N := 11) hx hb hts i_C t_C t_C_ok n_C hown hK hP hD hS 0 rfl rfl 10 (by decide) (hts _ k_111) (fun _ h9 => h9) rfl (by decide +kernel) (rfl) (rfl) (Nat.le_of_ble_eq_true rfl) d_C_layOpen_80 (fun H locs hP hD hS => ?_)
          have hP : va_P (dC, dI) cls (wC Z cI cP p0 q0 g0 h0 (up (up S 0 4 1) 0 5 (nI ((md (nI (nn (S 11 j)) - nI u0) q0) * ((md (nI v0 - nI (nn (S 12 j))) q0) ^ (q0 - 2) % q0) % q0)))) H := by rw [← w_cs5]; exact hP
          have hD : va_D (w_A (wC Z cI cP p0 q0 g0 h0 (S))) (wC Z cI cP p0 q0 g0 h0 (up (up S 0 4 1) 0 5 (nI ((md (nI (nn (S 11 j)) - nI u0) q0) * ((md (nI v0 - nI (nn (S 12 j))) q0) ^ (q0 - 2) % q0) % q0)))) := by rw [← w_cs5]; exact hD
          refine lv_iconst (v := 1) hx hb d_C_layOpen_83 (by decide) ?_
          have e9 : lyS p0 q0 g0 h0 t0 S j u0 v0 = up (up S 0 4 1) 0 5 (nI ((md (nI (nn (S 11 j)) - nI u0) q0) * ((md (nI v0 - nI (nn (S 12 j))) q0) ^ (q0 - 2) % q0) % q0)) := (if_pos hf).trans ((if_neg c16).trans (if_pos ⟨c32, c40⟩))
          have hP := (show va_P (dC, dI) cls (wC Z cI cP p0 q0 g0 h0 (lyS p0 q0 g0 h0 t0 S j u0 v0)) _ by rw [e9]; exact hP)
          refine x_i (y := mz_b ((g0 ^ u0 % p0) * (h0 ^ v0 % p0) % p0 = mz_cp (fun k => nn (S 3 k)) (j + 1) 0 t0 % p0)) ((mz_bt hf).symm) ?_
          exact wr_z hx hb hr hlk (mz_bn _) hP hS d_C_layOpen_84
    · refine lv_aload_n hx hb d_C_layOpen_19 rfl (lv_at hl 1 rfl) ?_
      refine lv_iload_n hx hb d_C_layOpen_20 rfl (lv_at hl 2 rfl) ?_
      refine lv_iload_n hx hb d_C_layOpen_21 rfl (lv_at hl 3 rfl) ?_
      refine wr_V (As := [.int (nI u0), .int (nI v0)]) (rest := []) (b := (Z (6 + j))) ⟨hx, hb, hml, hown, hts⟩ (c_P_keep l dC dI Z cI cP p0 q0 g0 h0 S j hj (nI u0) (nI v0)) (cwV 2 hts (al_V k_388 k_389 k_390 k_3 k_391) rfl rfl rfl (by decide +kernel) ⟨Nat.le_of_ble_eq_true rfl, Nat.le_of_ble_eq_true rfl⟩) (va_recv hK hP (ci := 1) (q0 := (6 + j)) rfl (w_part (hj))) hP hK hD hS rfl hl.1 rfl (lv_room (Nat.le_of_ble_eq_true rfl)) d_C_layOpen_22 ⟨Nat.zero_le _, Nat.zero_le _⟩ (fun H locs hP _ _ hS => ?_)
      have hD := w_addr hD (w_adC S (kpt S j (nI u0) (nI v0)))
      refine lv_goto (tgt := 83) hx hb d_C_layOpen_25 (by decide) ?_
      refine lv_iconst (v := 1) hx hb d_C_layOpen_83 (by decide) ?_
      have e9 : lyS p0 q0 g0 h0 t0 S j u0 v0 = kpt S j (nI u0) (nI v0) := (if_pos hf).trans (if_pos c16)
      have hP := (show va_P (dC, dI) cls (wC Z cI cP p0 q0 g0 h0 (lyS p0 q0 g0 h0 t0 S j u0 v0)) _ by rw [e9]; exact hP)
      refine x_i (y := mz_b ((g0 ^ u0 % p0) * (h0 ^ v0 % p0) % p0 = mz_cp (fun k => nn (S 3 k)) (j + 1) 0 t0 % p0)) ((mz_bt hf).symm) ?_
      exact wr_z hx hb hr hlk (mz_bn _) hP hS d_C_layOpen_84
  · have hf : ¬ (g0 ^ u0 % p0) * (h0 ^ v0 % p0) % p0 = mz_cp (fun k => nn (S 3 k)) (j + 1) 0 t0 % p0 := mz_b0.mp c7
    refine lv_iconst (v := 0) hx hb d_C_layOpen_10 (by decide) ?_
    have e9 : lyS p0 q0 g0 h0 t0 S j u0 v0 = S := if_neg hf
    have hP := (show va_P (dC, dI) cls (wC Z cI cP p0 q0 g0 h0 (lyS p0 q0 g0 h0 t0 S j u0 v0)) _ by rw [e9]; exact hP)
    refine x_i (y := mz_b ((g0 ^ u0 % p0) * (h0 ^ v0 % p0) % p0 = mz_cp (fun k => nn (S 3 k)) (j + 1) 0 t0 % p0)) ((mz_bf hf).symm) ?_
    exact wr_z hx hb hr hlk (mz_bn _) hP hS d_C_layOpen_11
set_option maxRecDepth 100000 in
set_option maxHeartbeats 4000000 in
/-- open(i) where it is allowed -/
theorem c_C_open (l : Launch) (dC : Nat → ClassId) (dI : Nat → Nat → Nat) (Z : Nat → Nat) (cI cP : ClassId) (p0 q0 g0 h0 : Nat) (S : Nat → Nat → Int32) (j n0 : Nat) (hn : S 0 1 = nI n0) (hn7 : n0 ≤ 7) (hj : j < n0) (t0 : Nat) (hst : S 0 0 = 5) (hu : okN (S 5 j) q0) (hv : okN (S 6 j) q0) (hKp : okK S j q0) (hN : S 4 j = nI (j + 1)) (ht : S 0 2 = nI t0) (ht7 : t0 ≤ 7) (ok : okG p0 q0 g0 h0) (hC : ∀ k, k < t0 → okN (S 3 k) p0) : Wr l y_C_open ws_C_open 5 118 [.ref (Z 0), .int (nI (j + 1))] (dC, dI) cls (tysC cI cP) (wC Z cI cP p0 q0 g0 h0 (S)) (wC Z cI cP p0 q0 g0 h0 (lyS p0 q0 g0 h0 t0 S j (nn (S 5 j)) (nn (S 6 j)))) (some (.int (mz_b ((g0 ^ (nn (S 5 j)) % p0) * (h0 ^ (nn (S 6 j)) % p0) % p0 = mz_cp (fun k => nn (S 3 k)) (j + 1) 0 t0 % p0)))) := by
  refine Met.ofW (cc := b_C_open) (maxL := 3) (ret := (some .boolean)) (by decide) rfl ?_
  intro p e s m args below meth c s₁ B hml hv
  obtain ⟨rfl, hP, hK, hD0⟩ := hv
  have hx := B.exec
  have hb := B.bytes
  have hr := B.returns
  have hts : ∀ w ∈ AL, w.before ([.ref (Z 0), .int (nI (j + 1))] : List Value).toArray s = true := fun w h => atoms_spec (ws := ws_C_open) B.pre w (List.mem_cons_of_mem _ h)
  have hown : s.vm.findClass "DealtSecret" = some m.cls := findClass_of_methodNamed B.named
  have hlk := B.notSynchronized
  have hl := lv_entry ([.ref (Z 0), .int (nI (j + 1))]) (n := 3) (Nat.le_of_ble_eq_true rfl)
  rw [lg_entry_eq]
  generalize (lg_sl ([.ref (Z 0), .int (nI (j + 1))]) ++ List.replicate (3 - (lg_sl ([.ref (Z 0), .int (nI (j + 1))])).length) Slot.unset).toArray = ls at hl ⊢
  have hl : lv_has ls 3 [(0, .ref (Z 0)), (1, .int (nI (j + 1)))] := hl
  have hD := w_self hD0
  have hS : va_S (w_A (wC Z cI cP p0 q0 g0 h0 (S))) s.heap s.heap [] := va_S.rf
  obtain ⟨okp2, okp, okq2, okq, okg, okh⟩ := id ok
  refine lv_aload_n hx hb d_C_open_0 rfl (lv_at hl 0 rfl) ?_
  refine lv_iconst (v := 5) hx hb d_C_open_1 (by decide) ?_
  refine rv_V (As := [.int 5]) (rest := []) (b := (Z 0)) ⟨hx, hb, hml, hown, hts⟩ (c_C_demandStage l dC dI Z cI cP p0 q0 g0 h0 S 5 hst) (cwV 1 hts (al_V k_269 k_270 k_637 k_1 k_271) rfl rfl rfl (by decide +kernel) ⟨Nat.le_of_ble_eq_true rfl, Nat.le_of_ble_eq_true rfl⟩) (fun U g mk a h => ⟨h.1, va_K.moved (u := U) (U := U.calling g mk a) (Vm.Alike.refl U.vm) h.2⟩) (va_recv hK hP (ci := 2) (q0 := 0) rfl rfl) (fun U hU hW => ⟨by rw [hU]; exact hP, va_K.moved hW.alike hK⟩) rfl hl.1 rfl (lv_room (Nat.le_of_ble_eq_true rfl)) d_C_open_2 ⟨Nat.zero_le _, Nat.zero_le _⟩ ?_
  refine lv_aload_n hx hb d_C_open_5 rfl (lv_at hl 0 rfl) ?_
  refine lv_iload_n hx hb d_C_open_6 rfl (lv_at hl 1 rfl) ?_
  refine rv_V (As := [.int (nI (j + 1))]) (rest := []) (b := (Z 0)) ⟨hx, hb, hml, hown, hts⟩ (c_C_demandParticipant l dC dI Z cI cP p0 q0 g0 h0 S (nI (j + 1)) (by rw [hn]; exact isPt_of (by omega) hj)) (cwV 1 hts (al_V k_338 k_339 k_645 k_1 k_340) rfl rfl rfl (by decide +kernel) ⟨Nat.le_of_ble_eq_true rfl, Nat.le_of_ble_eq_true rfl⟩) (fun U g mk a h => ⟨h.1, va_K.moved (u := U) (U := U.calling g mk a) (Vm.Alike.refl U.vm) h.2⟩) (va_recv hK hP (ci := 2) (q0 := 0) rfl rfl) (fun U hU hW => ⟨by rw [hU]; exact hP, va_K.moved hW.alike hK⟩) rfl hl.1 rfl (lv_room (Nat.le_of_ble_eq_true rfl)) d_C_open_7 ⟨Nat.zero_le _, Nat.zero_le _⟩ ?_
  refine lv_aload_n hx hb d_C_open_10 rfl (lv_at hl 0 rfl) ?_
  refine va_get (D := (dC, dI)) (ci := 2) (v := .ref (Z 5)) (C := "DealtSecret") (T := T_C) (N := 11) hx hb hts i_C hown hK hP 0 rfl rfl 4 (by decide) (hts _ k_105) (fun _ h9 => h9) rfl d_C_open_11 ?_
  refine lv_iload_n hx hb d_C_open_14 rfl (lv_at hl 1 rfl) ?_
  refine lv_iconst (v := 1) hx hb d_C_open_15 (by decide) ?_
  refine lv_isub hx hb d_C_open_16 ?_
  refine x_i (y := nI j) (nI_pred j) ?_
  refine va_aldq hx hb hK hP 5 1 rfl rfl (vp_in_nI (by omega) (by decide)) d_C_open_17 ?_
  refine x_v (y := .ref (Z (6 + j))) (by rw [nI_clamp (by omega)]; rfl) ?_
  refine lv_astore_n (lv' := [(2, .ref (Z (6 + j))), (0, .ref (Z 0)), (1, .int (nI (j + 1)))]) hx hb d_C_open_18 rfl hl (by decide) rfl (fun ls hl => ?_)
  refine lv_aload_n hx hb d_C_open_19 rfl (lv_at hl 1 rfl) ?_
  refine lv_aload_n hx hb d_C_open_20 rfl (lv_at hl 0 rfl) ?_
  refine lv_aload_n hx hb d_C_open_21 rfl (lv_at hl 0 rfl) ?_
  refine va_get (D := (dC, dI)) (ci := 1) (v := .int (S 5 j)) (C := "DealtSecret$Participant") (T := T_P) (N := 9) hx hb hts i_P hown hK hP (6 + j) (w_part (by omega)) rfl 1 (by decide) (hts _ k_67) (fun _ h9 => h9) rfl d_C_open_22 ?_
  refine x_i (y := nI (nn (S 5 j))) (hu.eq) ?_
  refine lv_aload_n hx hb d_C_open_25 rfl (lv_at hl 0 rfl) ?_
  refine va_get (D := (dC, dI)) (ci := 1) (v := .int (S 6 j)) (C := "DealtSecret$Participant") (T := T_P) (N := 9) hx hb hts i_P hown hK hP (6 + j) (w_part (by omega)) rfl 2 (by decide) (hts _ k_69) (fun _ h9 => h9) rfl d_C_open_26 ?_
  refine x_i (y := nI (nn (S 6 j))) (hv.eq) ?_
  refine wr_V (As := [.ref (Z (6 + j)), .int (nI (nn (S 5 j))), .int (nI (nn (S 6 j)))]) (rest := []) (b := (Z 0)) ⟨hx, hb, hml, hown, hts⟩ (c_C_layOpen l dC dI Z cI cP p0 q0 g0 h0 S j (nn (S 5 j)) (nn (S 6 j)) t0 (by omega) hN hu.lt hv.lt hKp ht ht7 ok hC) (cwV 3 hts (al_V k_385 k_386 k_646 k_1 k_387) rfl rfl rfl (by decide +kernel) ⟨Nat.le_of_ble_eq_true rfl, Nat.le_of_ble_eq_true rfl⟩) (va_recv hK hP (ci := 2) (q0 := 0) rfl rfl) hP hK hD hS rfl hl.1 rfl (lv_room (Nat.le_of_ble_eq_true rfl)) d_C_open_29 ⟨Nat.zero_le _, Nat.zero_le _⟩ (fun H locs hP _ _ hS => ?_)
  have hD := w_addr hD (w_adC S (lyS p0 q0 g0 h0 t0 S j (nn (S 5 j)) (nn (S 6 j))))
  exact wr_z hx hb hr hlk (by first | rfl | exact mz_bn _) hP hS d_C_open_32
set_option maxRecDepth 100000 in
set_option maxHeartbeats 4000000 in
/-- show(i, u, v) where it is allowed -/
theorem c_C_show (l : Launch) (dC : Nat → ClassId) (dI : Nat → Nat → Nat) (Z : Nat → Nat) (cI cP : ClassId) (p0 q0 g0 h0 : Nat) (S : Nat → Nat → Int32) (j n0 : Nat) (hn : S 0 1 = nI n0) (hn7 : n0 ≤ 7) (hj : j < n0) (t0 : Nat) (x0 y0 : Int32) (hst : S 0 0 = 5) (hKp : okK S j q0) (hN : S 4 j = nI (j + 1)) (ht : S 0 2 = nI t0) (ht7 : t0 ≤ 7) (ok : okG p0 q0 g0 h0) (hC : ∀ k, k < t0 → okN (S 3 k) p0) : Wr l y_C_show ws_C_show 5 118 [.ref (Z 0), .int (nI (j + 1)), .int x0, .int y0] (dC, dI) cls (tysC cI cP) (wC Z cI cP p0 q0 g0 h0 (S)) (wC Z cI cP p0 q0 g0 h0 (lyS p0 q0 g0 h0 t0 S j (md x0 q0) (md y0 q0))) (some (.int (mz_b ((g0 ^ (md x0 q0) % p0) * (h0 ^ (md y0 q0) % p0) % p0 = mz_cp (fun k => nn (S 3 k)) (j + 1) 0 t0 % p0)))) := by
  refine Met.ofW (cc := b_C_show) (maxL := 4) (ret := (some .boolean)) (by decide) rfl ?_
  intro p e s m args below meth c s₁ B hml hv
  obtain ⟨rfl, hP, hK, hD0⟩ := hv
  have hx := B.exec
  have hb := B.bytes
  have hr := B.returns
  have hts : ∀ w ∈ AL, w.before ([.ref (Z 0), .int (nI (j + 1)), .int x0, .int y0] : List Value).toArray s = true := fun w h => atoms_spec (ws := ws_C_show) B.pre w (List.mem_cons_of_mem _ h)
  have hown : s.vm.findClass "DealtSecret" = some m.cls := findClass_of_methodNamed B.named
  have hlk := B.notSynchronized
  have hl := lv_entry ([.ref (Z 0), .int (nI (j + 1)), .int x0, .int y0]) (n := 4) (Nat.le_of_ble_eq_true rfl)
  rw [lg_entry_eq]
  generalize (lg_sl ([.ref (Z 0), .int (nI (j + 1)), .int x0, .int y0]) ++ List.replicate (4 - (lg_sl ([.ref (Z 0), .int (nI (j + 1)), .int x0, .int y0])).length) Slot.unset).toArray = ls at hl ⊢
  have hl : lv_has ls 4 [(0, .ref (Z 0)), (1, .int (nI (j + 1))), (2, .int x0), (3, .int y0)] := hl
  have hD := w_self hD0
  have hS : va_S (w_A (wC Z cI cP p0 q0 g0 h0 (S))) s.heap s.heap [] := va_S.rf
  obtain ⟨okp2, okp, okq2, okq, okg, okh⟩ := id ok
  refine lv_aload_n hx hb d_C_show_0 rfl (lv_at hl 0 rfl) ?_
  refine lv_iconst (v := 5) hx hb d_C_show_1 (by decide) ?_
  refine rv_V (As := [.int 5]) (rest := []) (b := (Z 0)) ⟨hx, hb, hml, hown, hts⟩ (c_C_demandStage l dC dI Z cI cP p0 q0 g0 h0 S 5 hst) (cwV 1 hts (al_V k_269 k_270 k_637 k_1 k_271) rfl rfl rfl (by decide +kernel) ⟨Nat.le_of_ble_eq_true rfl, Nat.le_of_ble_eq_true rfl⟩) (fun U g mk a h => ⟨h.1, va_K.moved (u := U) (U := U.calling g mk a) (Vm.Alike.refl U.vm) h.2⟩) (va_recv hK hP (ci := 2) (q0 := 0) rfl rfl) (fun U hU hW => ⟨by rw [hU]; exact hP, va_K.moved hW.alike hK⟩) rfl hl.1 rfl (lv_room (Nat.le_of_ble_eq_true rfl)) d_C_show_2 ⟨Nat.zero_le _, Nat.zero_le _⟩ ?_
  refine lv_aload_n hx hb d_C_show_5 rfl (lv_at hl 0 rfl) ?_
  refine lv_iload_n hx hb d_C_show_6 rfl (lv_at hl 1 rfl) ?_
  refine rv_V (As := [.int (nI (j + 1))]) (rest := []) (b := (Z 0)) ⟨hx, hb, hml, hown, hts⟩ (c_C_demandParticipant l dC dI Z cI cP p0 q0 g0 h0 S (nI (j + 1)) (by rw [hn]; exact isPt_of (by omega) hj)) (cwV 1 hts (al_V k_338 k_339 k_645 k_1 k_340) rfl rfl rfl (by decide +kernel) ⟨Nat.le_of_ble_eq_true rfl, Nat.le_of_ble_eq_true rfl⟩) (fun U g mk a h => ⟨h.1, va_K.moved (u := U) (U := U.calling g mk a) (Vm.Alike.refl U.vm) h.2⟩) (va_recv hK hP (ci := 2) (q0 := 0) rfl rfl) (fun U hU hW => ⟨by rw [hU]; exact hP, va_K.moved hW.alike hK⟩) rfl hl.1 rfl (lv_room (Nat.le_of_ble_eq_true rfl)) d_C_show_7 ⟨Nat.zero_le _, Nat.zero_le _⟩ ?_
  refine lv_aload_n hx hb d_C_show_10 rfl (lv_at hl 0 rfl) ?_
  refine lv_aload_n hx hb d_C_show_11 rfl (lv_at hl 0 rfl) ?_
  refine va_get (D := (dC, dI)) (ci := 2) (v := .ref (Z 5)) (C := "DealtSecret") (T := T_C) (N := 11) hx hb hts i_C hown hK hP 0 rfl rfl 4 (by decide) (hts _ k_105) (fun _ h9 => h9) rfl d_C_show_12 ?_
  refine lv_iload_n hx hb d_C_show_15 rfl (lv_at hl 1 rfl) ?_
  refine lv_iconst (v := 1) hx hb d_C_show_16 (by decide) ?_
  refine lv_isub hx hb d_C_show_17 ?_
  refine x_i (y := nI j) (nI_pred j) ?_
  refine va_aldq hx hb hK hP 5 1 rfl rfl (vp_in_nI (by omega) (by decide)) d_C_show_18 ?_
  refine x_v (y := .ref (Z (6 + j))) (by rw [nI_clamp (by omega)]; rfl) ?_
  refine lv_aload_n hx hb d_C_show_19 rfl (lv_at hl 0 rfl) ?_
  refine va_get (D := (dC, dI)) (ci := 2) (v := .ref (Z 1)) (C := "DealtSecret") (T := T_C) (N := 11) hx hb hts i_C hown hK hP 0 rfl rfl 0 (by decide) (hts _ k_101) (fun _ h9 => h9) rfl d_C_show_20 ?_
  refine lv_iload_n hx hb d_C_show_23 rfl (lv_at hl 2 rfl) ?_
  refine ro_V (As := [.int x0]) (rest := [.ref (Z (6 + j)), .ref (Z 0)]) (b := (Z 1)) ⟨hx, hb, hml, hown, hts⟩ (c_G_number l dC dI (Z 1) p0 q0 g0 h0 x0 (by omega) okq) (cwV 1 hts (al_V k_288 k_289 k_290 k_2 k_291) rfl rfl rfl (by decide +kernel) ⟨Nat.le_of_ble_eq_true rfl, Nat.le_of_ble_eq_true rfl⟩) (fun U g mk a h => ⟨h.1, va_K.moved (u := U) (U := U.calling g mk a) (Vm.Alike.refl U.vm) h.2⟩) (va_recv hK hP (ci := 0) (q0 := 1) rfl rfl) (fun U hU hW => ⟨by rw [hU]; exact (hP.sub [1] rfl), va_K.moved hW.alike (hK.sub [] rfl)⟩) rfl hl.1 rfl (lv_room (Nat.le_of_ble_eq_true rfl)) d_C_show_24 ⟨Nat.zero_le _, Nat.zero_le _⟩ ?_
  refine lv_aload_n hx hb d_C_show_27 rfl (lv_at hl 0 rfl) ?_
  refine va_get (D := (dC, dI)) (ci := 2) (v := .ref (Z 1)) (C := "DealtSecret") (T := T_C) (N := 11) hx hb hts i_C hown hK hP 0 rfl rfl 0 (by decide) (hts _ k_101) (fun _ h9 => h9) rfl d_C_show_28 ?_
  refine lv_iload_n hx hb d_C_show_31 rfl (lv_at hl 3 rfl) ?_
  refine ro_V (As := [.int y0]) (rest := [.int (nI (md x0 q0)), .ref (Z (6 + j)), .ref (Z 0)]) (b := (Z 1)) ⟨hx, hb, hml, hown, hts⟩ (c_G_number l dC dI (Z 1) p0 q0 g0 h0 y0 (by omega) okq) (cwV 1 hts (al_V k_288 k_289 k_290 k_2 k_291) rfl rfl rfl (by decide +kernel) ⟨Nat.le_of_ble_eq_true rfl, Nat.le_of_ble_eq_true rfl⟩) (fun U g mk a h => ⟨h.1, va_K.moved (u := U) (U := U.calling g mk a) (Vm.Alike.refl U.vm) h.2⟩) (va_recv hK hP (ci := 0) (q0 := 1) rfl rfl) (fun U hU hW => ⟨by rw [hU]; exact (hP.sub [1] rfl), va_K.moved hW.alike (hK.sub [] rfl)⟩) rfl hl.1 rfl (lv_room (Nat.le_of_ble_eq_true rfl)) d_C_show_32 ⟨Nat.zero_le _, Nat.zero_le _⟩ ?_
  refine wr_V (As := [.ref (Z (6 + j)), .int (nI (md x0 q0)), .int (nI (md y0 q0))]) (rest := []) (b := (Z 0)) ⟨hx, hb, hml, hown, hts⟩ (c_C_layOpen l dC dI Z cI cP p0 q0 g0 h0 S j (md x0 q0) (md y0 q0) t0 (by omega) hN (md_lt _ (by omega)) (md_lt _ (by omega)) hKp ht ht7 ok hC) (cwV 3 hts (al_V k_385 k_386 k_646 k_1 k_387) rfl rfl rfl (by decide +kernel) ⟨Nat.le_of_ble_eq_true rfl, Nat.le_of_ble_eq_true rfl⟩) (va_recv hK hP (ci := 2) (q0 := 0) rfl rfl) hP hK hD hS rfl hl.1 rfl (lv_room (Nat.le_of_ble_eq_true rfl)) d_C_show_35 ⟨Nat.zero_le _, Nat.zero_le _⟩ (fun H locs hP _ _ hS => ?_)
  have hD := w_addr hD (w_adC S (lyS p0 q0 g0 h0 t0 S j (md x0 q0) (md y0 q0)))
  exact wr_z hx hb hr hlk (by first | rfl | exact mz_bn _) hP hS d_C_show_38
set_option maxRecDepth 100000 in
set_option maxHeartbeats 4000000 in
/-- answer(i, u, v) where it is allowed -/
theorem c_C_answer (l : Launch) (dC : Nat → ClassId) (dI : Nat → Nat → Nat) (Z : Nat → Nat) (cI cP : ClassId) (p0 q0 g0 h0 : Nat) (S : Nat → Nat → Int32) (j n0 : Nat) (hn : S 0 1 = nI n0) (hn7 : n0 ≤ 7) (hj : j < n0) (t0 : Nat) (x0 y0 : Int32) (hst : S 0 0 = 4) (hcp : ¬ S 8 j = 0) (hN : S 4 j = nI (j + 1)) (ht : S 0 2 = nI t0) (ht7 : t0 ≤ 7) (ok : okG p0 q0 g0 h0) (hC : ∀ k, k < t0 → okN (S 3 k) p0) : Wr l y_C_answer ws_C_answer 5 116 [.ref (Z 0), .int (nI (j + 1)), .int x0, .int y0] (dC, dI) cls (tysC cI cP) (wC Z cI cP p0 q0 g0 h0 (S)) (wC Z cI cP p0 q0 g0 h0 (up (anS S j x0 y0 q0) 9 j (mz_b ((g0 ^ (nn ((anS S j x0 y0 q0) 5 j)) % p0) * (h0 ^ (nn ((anS S j x0 y0 q0) 6 j)) % p0) % p0 = mz_cp (fun k => nn ((anS S j x0 y0 q0) 3 k)) (j + 1) 0 t0 % p0)))) (some (.int (mz_b ((g0 ^ (nn ((anS S j x0 y0 q0) 5 j)) % p0) * (h0 ^ (nn ((anS S j x0 y0 q0) 6 j)) % p0) % p0 = mz_cp (fun k => nn ((anS S j x0 y0 q0) 3 k)) (j + 1) 0 t0 % p0)))) := by
  refine Met.ofW (cc := b_C_answer) (maxL := 5) (ret := (some .boolean)) (by decide) rfl ?_
  intro p e s m args below meth c s₁ B hml hv
  obtain ⟨rfl, hP, hK, hD0⟩ := hv
  have hx := B.exec
  have hb := B.bytes
  have hr := B.returns
  have hts : ∀ w ∈ AL, w.before ([.ref (Z 0), .int (nI (j + 1)), .int x0, .int y0] : List Value).toArray s = true := fun w h => atoms_spec (ws := ws_C_answer) B.pre w (List.mem_cons_of_mem _ h)
  have hown : s.vm.findClass "DealtSecret" = some m.cls := findClass_of_methodNamed B.named
  have hlk := B.notSynchronized
  have hl := lv_entry ([.ref (Z 0), .int (nI (j + 1)), .int x0, .int y0]) (n := 5) (Nat.le_of_ble_eq_true rfl)
  rw [lg_entry_eq]
  generalize (lg_sl ([.ref (Z 0), .int (nI (j + 1)), .int x0, .int y0]) ++ List.replicate (5 - (lg_sl ([.ref (Z 0), .int (nI (j + 1)), .int x0, .int y0])).length) Slot.unset).toArray = ls at hl ⊢
  have hl : lv_has ls 5 [(0, .ref (Z 0)), (1, .int (nI (j + 1))), (2, .int x0), (3, .int y0)] := hl
  have hD := w_self hD0
  have hS : va_S (w_A (wC Z cI cP p0 q0 g0 h0 (S))) s.heap s.heap [] := va_S.rf
  obtain ⟨okp2, okp, okq2, okq, okg, okh⟩ := id ok
  refine lv_aload_n hx hb d_C_answer_0 rfl (lv_at hl 0 rfl) ?_
  refine lv_iconst (v := 4) hx hb d_C_answer_1 (by decide) ?_
  refine rv_V (As := [.int 4]) (rest := []) (b := (Z 0)) ⟨hx, hb, hml, hown, hts⟩ (c_C_demandStage l dC dI Z cI cP p0 q0 g0 h0 S 4 hst) (cwV 1 hts (al_V k_269 k_270 k_637 k_1 k_271) rfl rfl rfl (by decide +kernel) ⟨Nat.le_of_ble_eq_true rfl, Nat.le_of_ble_eq_true rfl⟩) (fun U g mk a h => ⟨h.1, va_K.moved (u := U) (U := U.calling g mk a) (Vm.Alike.refl U.vm) h.2⟩) (va_recv hK hP (ci := 2) (q0 := 0) rfl rfl) (fun U hU hW => ⟨by rw [hU]; exact hP, va_K.moved hW.alike hK⟩) rfl hl.1 rfl (lv_room (Nat.le_of_ble_eq_true rfl)) d_C_answer_2 ⟨Nat.zero_le _, Nat.zero_le _⟩ ?_
  refine lv_aload_n hx hb d_C_answer_5 rfl (lv_at hl 0 rfl) ?_
  refine lv_iload_n hx hb d_C_answer_6 rfl (lv_at hl 1 rfl) ?_
  refine rv_V (As := [.int (nI (j + 1))]) (rest := []) (b := (Z 0)) ⟨hx, hb, hml, hown, hts⟩ (c_C_demandParticipant l dC dI Z cI cP p0 q0 g0 h0 S (nI (j + 1)) (by rw [hn]; exact isPt_of (by omega) hj)) (cwV 1 hts (al_V k_338 k_339 k_645 k_1 k_340) rfl rfl rfl (by decide +kernel) ⟨Nat.le_of_ble_eq_true rfl, Nat.le_of_ble_eq_true rfl⟩) (fun U g mk a h => ⟨h.1, va_K.moved (u := U) (U := U.calling g mk a) (Vm.Alike.refl U.vm) h.2⟩) (va_recv hK hP (ci := 2) (q0 := 0) rfl rfl) (fun U hU hW => ⟨by rw [hU]; exact hP, va_K.moved hW.alike hK⟩) rfl hl.1 rfl (lv_room (Nat.le_of_ble_eq_true rfl)) d_C_answer_7 ⟨Nat.zero_le _, Nat.zero_le _⟩ ?_
  refine lv_aload_n hx hb d_C_answer_10 rfl (lv_at hl 0 rfl) ?_
  refine va_get (D := (dC, dI)) (ci := 2) (v := .ref (Z 5)) (C := "DealtSecret") (T := T_C) (N := 11) hx hb hts i_C hown hK hP 0 rfl rfl 4 (by decide) (hts _ k_105) (fun _ h9 => h9) rfl d_C_answer_11 ?_
  refine lv_iload_n hx hb d_C_answer_14 rfl (lv_at hl 1 rfl) ?_
  refine lv_iconst (v := 1) hx hb d_C_answer_15 (by decide) ?_
  refine lv_isub hx hb d_C_answer_16 ?_
  refine x_i (y := nI j) (nI_pred j) ?_
  refine va_aldq hx hb hK hP 5 1 rfl rfl (vp_in_nI (by omega) (by decide)) d_C_answer_17 ?_
  refine x_v (y := .ref (Z (6 + j))) (by rw [nI_clamp (by omega)]; rfl) ?_
  refine lv_astore (lv' := [(4, .ref (Z (6 + j))), (0, .ref (Z 0)), (1, .int (nI (j + 1))), (2, .int x0), (3, .int y0)]) hx hb d_C_answer_18 hl (by decide) rfl (fun ls hl => ?_)
  refine lv_aload hx hb d_C_answer_20 (lv_at hl 0 rfl) ?_
  refine va_get (D := (dC, dI)) (ci := 1) (v := .int (S 8 j)) (C := "DealtSecret$Participant") (T := T_P) (N := 9) hx hb hts i_P hown hK hP (6 + j) (w_part (by omega)) rfl 4 (by decide) (hts _ k_73) (fun _ h9 => h9) rfl d_C_answer_22 ?_
  refine lv_if_ne (tgt := 38) hx hb d_C_answer_25 (by decide) (fun _ => ?_) (fun c_ => absurd c_ (hcp))
  refine lv_aload hx hb d_C_answer_38 (lv_at hl 0 rfl) ?_
  refine lv_aload_n hx hb d_C_answer_40 rfl (lv_at hl 1 rfl) ?_
  refine va_get (D := (dC, dI)) (ci := 2) (v := .ref (Z 1)) (C := "DealtSecret") (T := T_C) (N := 11) hx hb hts i_C hown hK hP 0 rfl rfl 0 (by decide) (hts _ k_101) (fun _ h9 => h9) rfl d_C_answer_41 ?_
  refine lv_iload_n hx hb d_C_answer_44 rfl (lv_at hl 3 rfl) ?_
  refine ro_V (As := [.int x0]) (rest := [.ref (Z (6 + j))]) (b := (Z 1)) ⟨hx, hb, hml, hown, hts⟩ (c_G_number l dC dI (Z 1) p0 q0 g0 h0 x0 (by omega) okq) (cwV 1 hts (al_V k_288 k_289 k_290 k_2 k_291) rfl rfl rfl (by decide +kernel) ⟨Nat.le_of_ble_eq_true rfl, Nat.le_of_ble_eq_true rfl⟩) (fun U g mk a h => ⟨h.1, va_K.moved (u := U) (U := U.calling g mk a) (Vm.Alike.refl U.vm) h.2⟩) (va_recv hK hP (ci := 0) (q0 := 1) rfl rfl) (fun U hU hW => ⟨by rw [hU]; exact (hP.sub [1] rfl), va_K.moved hW.alike (hK.sub [] rfl)⟩) rfl hl.1 rfl (lv_room (Nat.le_of_ble_eq_true rfl)) d_C_answer_45 ⟨Nat.zero_le _, Nat.zero_le _⟩ ?_
  refine lv_aload_n hx hb d_C_answer_48 rfl (lv_at hl 1 rfl) ?_
  refine lv_iload_n hx hb d_C_answer_49 rfl (lv_at hl 4 rfl) ?_
  refine ro_V (As := [.int y0]) (rest := [.int (nI (md x0 q0)), .ref (Z (6 + j))]) (b := (Z 0)) ⟨hx, hb, hml, hown, hts⟩ (c_C_blindNumber l dC dI Z cI cP p0 q0 g0 h0 S y0 ok) (cwV 1 hts (al_V k_295 k_296 k_639 k_1 k_297) rfl rfl rfl (by decide +kernel) ⟨Nat.le_of_ble_eq_true rfl, Nat.le_of_ble_eq_true rfl⟩) (fun U g mk a h => ⟨h.1, va_K.moved (u := U) (U := U.calling g mk a) (Vm.Alike.refl U.vm) h.2⟩) (va_recv hK hP (ci := 2) (q0 := 0) rfl rfl) (fun U hU hW => ⟨by rw [hU]; exact hP, va_K.moved hW.alike hK⟩) rfl hl.1 rfl (lv_room (Nat.le_of_ble_eq_true rfl)) d_C_answer_50 ⟨Nat.zero_le _, Nat.zero_le _⟩ ?_
  refine wr_V (As := [.int (nI (md x0 q0)), .int (bnum (S 0 3) y0 q0)]) (rest := []) (b := (Z (6 + j))) ⟨hx, hb, hml, hown, hts⟩ (c_P_receive l dC dI Z cI cP p0 q0 g0 h0 S j (by omega) (nI (md x0 q0)) (bnum (S 0 3) y0 q0)) (cwV 2 hts (al_V k_321 k_322 k_323 k_3 k_324) rfl rfl rfl (by decide +kernel) ⟨Nat.le_of_ble_eq_true rfl, Nat.le_of_ble_eq_true rfl⟩) (va_recv hK hP (ci := 1) (q0 := (6 + j)) rfl (w_part (by omega))) hP hK hD hS rfl hl.1 rfl (lv_room (Nat.le_of_ble_eq_true rfl)) d_C_answer_53 ⟨Nat.zero_le _, Nat.zero_le _⟩ (fun H locs hP _ _ hS => ?_)
  have hD := w_addr hD (w_adC S (anS S j x0 y0 q0))
  refine lv_aload hx hb d_C_answer_56 (lv_at hl 0 rfl) ?_
  refine lv_aload_n hx hb d_C_answer_58 rfl (lv_at hl 1 rfl) ?_
  refine lv_aload hx hb d_C_answer_59 (lv_at hl 0 rfl) ?_
  refine ro_V (As := [.ref (Z (6 + j))]) (rest := [.ref (Z (6 + j))]) (b := (Z 0)) ⟨hx, hb, hml, hown, hts⟩ (c_C_isShareRight l dC dI Z cI cP p0 q0 g0 h0 (anS S j x0 y0 q0) j t0 (by omega) hN (show okN ((anS S j x0 y0 q0) 5 j) q0 by unfold anS; rw [rcv, up_ne _ _ _ (by decide), up_at]; exact okN_md x0 (by omega) okq) (show okN ((anS S j x0 y0 q0) 6 j) q0 by unfold anS; rw [rcv, up_at]; exact okN_bnum _ _ (by omega) okq) ht ht7 ok hC) (cwV 1 hts (al_V k_163 k_164 k_633 k_1 k_165) rfl rfl rfl (by decide +kernel) ⟨Nat.le_of_ble_eq_true rfl, Nat.le_of_ble_eq_true rfl⟩) (fun U g mk a h => ⟨h.1, va_K.moved (u := U) (U := U.calling g mk a) (Vm.Alike.refl U.vm) h.2⟩) (va_recv hK hP (ci := 2) (q0 := 0) rfl rfl) (fun U hU hW => ⟨by rw [hU]; exact hP, va_K.moved hW.alike hK⟩) rfl hl.1 rfl (lv_room (Nat.le_of_ble_eq_true rfl)) d_C_answer_61 ⟨Nat.zero_le _, Nat.zero_le _⟩ ?_
  refine va_put (D := (dC, dI)) (ci := 1) (v := .int (mz_b ((g0 ^ (nn ((anS S j x0 y0 q0) 5 j)) % p0) * (h0 ^ (nn ((anS S j x0 y0 q0) 6 j)) % p0) % p0 = mz_cp (fun k => nn ((anS S j x0 y0 q0) 3 k)) (j + 1) 0 t0 % p0))) (ty := .boolean) (C := "DealtSecret$Participant") (T := T_P) (N := 9) hx hb hts i_P t_P t_P_ok n_P hown hK hP hD hS (6 + j) (w_part (by omega)) rfl 5 (by decide) (hts _ k_75) (fun _ h9 => h9) rfl (by decide +kernel) (mz_bn _) (mz_bfit _) (Nat.le_of_ble_eq_true rfl) d_C_answer_64 (fun H locs hP hD hS => ?_)
  have hP : va_P (dC, dI) cls (wC Z cI cP p0 q0 g0 h0 (up (anS S j x0 y0 q0) 9 j (mz_b ((g0 ^ (nn ((anS S j x0 y0 q0) 5 j)) % p0) * (h0 ^ (nn ((anS S j x0 y0 q0) 6 j)) % p0) % p0 = mz_cp (fun k => nn ((anS S j x0 y0 q0) 3 k)) (j + 1) 0 t0 % p0)))) H := by rw [← w_pt5 (by omega)]; exact hP
  have hD : va_D (w_A (wC Z cI cP p0 q0 g0 h0 (S))) (wC Z cI cP p0 q0 g0 h0 (up (anS S j x0 y0 q0) 9 j (mz_b ((g0 ^ (nn ((anS S j x0 y0 q0) 5 j)) % p0) * (h0 ^ (nn ((anS S j x0 y0 q0) 6 j)) % p0) % p0 = mz_cp (fun k => nn ((anS S j x0 y0 q0) 3 k)) (j + 1) 0 t0 % p0)))) := by rw [← w_pt5 (by omega)]; exact hD
  refine lv_aload hx hb d_C_answer_67 (lv_at hl 0 rfl) ?_
  refine va_get (D := (dC, dI)) (ci := 1) (v := .int ((up (anS S j x0 y0 q0) 9 j (mz_b ((g0 ^ (nn ((anS S j x0 y0 q0) 5 j)) % p0) * (h0 ^ (nn ((anS S j x0 y0 q0) 6 j)) % p0) % p0 = mz_cp (fun k => nn ((anS S j x0 y0 q0) 3 k)) (j + 1) 0 t0 % p0))) 9 j)) (C := "DealtSecret$Participant") (T := T_P) (N := 9) hx hb hts i_P hown hK hP (6 + j) (w_part (by omega)) rfl 5 (by decide) (hts _ k_75) (fun _ h9 => h9) rfl d_C_answer_69 ?_
  refine x_i (y := mz_b ((g0 ^ (nn ((anS S j x0 y0 q0) 5 j)) % p0) * (h0 ^ (nn ((anS S j x0 y0 q0) 6 j)) % p0) % p0 = mz_cp (fun k => nn ((anS S j x0 y0 q0) 3 k)) (j + 1) 0 t0 % p0)) (up_at _ _ _ _) ?_
  exact wr_z hx hb hr hlk (by first | rfl | exact mz_bn _) hP hS d_C_answer_72
