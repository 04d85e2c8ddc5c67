/-- the reference lays a pair before all -/
def mlS (p0 q0 g0 h0 t0 : Nat) (S : Nat → Nat → Int32) (j u0 v0 : Nat) : Nat → Nat → Int32 :=
  if (g0 ^ u0 % p0) * (h0 ^ v0 % p0) % p0 = mz_cs (fun k => nn (S 3 k)) (j + 1) t0 % p0 then
    if S 9 (j + 1) = 0 then up (up (up S 9 (j + 1) 1) 10 (j + 1) (nI u0)) 11 (j + 1) (nI v0)
    else if S 0 5 = 0 ∧ ¬ nI v0 = S 11 (j + 1) then up (up S 0 5 1) 0 6 (nI ((md (nI (nn (S 10 (j + 1))) - nI u0) q0) * ((md (nI v0 - nI (nn (S 11 (j + 1)))) q0) ^ (q0 - 2) % q0) % q0)) else S
  else S
def okKM (S : Nat → Nat → Int32) (j q0 : Nat) : Prop := ¬ S 9 (j + 1) = 0 → okN (S 10 (j + 1)) q0 ∧ okN (S 11 (j + 1)) q0
def coS (S : Nat → Nat → Int32) (j : Nat) : Nat → Nat → Int32 := if S 4 (j + 1) = 0 then up (up S 0 1 0) 4 (j + 1) 1 else up S 0 1 0
def amS (S : Nat → Nat → Int32) (j : Nat) : Nat → Nat → Int32 := if ¬ S 4 (j + 1) = 0 ∧ S 5 (j + 1) = 0 then up (up S 0 1 0) 5 (j + 1) 1 else up S 0 1 0
abbrev tmS (S : Nat → Nat → Int32) (j : Nat) (x y : Int32) (q0 : Nat) : Nat → Nat → Int32 := up (up S 7 (j + 1) (nI (md x q0))) 8 (j + 1) (bnum (S 0 4) y q0)
set_option maxRecDepth 100000 in
set_option maxHeartbeats 4000000 in
/-- lay(i, u, v) -/
theorem c_M_lay (l : Launch) (dC : Nat → ClassId) (dI : Nat → Nat → Nat) (Y : Nat → Nat) (cI cZ : ClassId) (p0 q0 g0 h0 : Nat) (S : Nat → Nat → Int32) (j u0 v0 t0 : Nat) (hj : j < 7) (hu0 : u0 < q0) (hv0 : v0 < q0) (hKp : okKM S j q0) (ht : S 0 3 = nI t0) (ht7 : t0 ≤ 7) (ok : okG p0 q0 g0 h0) (hC : ∀ k, k < t0 → okN (S 3 k) p0) : Wr l y_M_lay ws_M_lay 4 95 [.ref (Y 0), .int (nI (j + 1)), .int (nI u0), .int (nI v0)] (dC, dI) cls (tysM cI cZ) (wM Y cI cZ p0 q0 g0 h0 (S)) (wM Y cI cZ p0 q0 g0 h0 (mlS p0 q0 g0 h0 t0 S j u0 v0)) (some (.int (mz_b ((g0 ^ u0 % p0) * (h0 ^ v0 % p0) % p0 = mz_cs (fun k => nn (S 3 k)) (j + 1) t0 % p0)))) := by
  refine Met.ofW (cc := b_M_lay) (maxL := 4) (ret := (some .boolean)) (by decide) rfl ?_
  intro p e s m args below meth c s₁ B hml hv
  obtain ⟨rfl, hP, hK, hD0⟩ := hv
  have hx := B.exec
  have hb := B.bytes
  have hr := B.returns
  have hts : ∀ w ∈ AL, w.before ([.ref (Y 0), .int (nI (j + 1)), .int (nI u0), .int (nI v0)] : List Value).toArray s = true := fun w h => atoms_spec (ws := ws_M_lay) B.pre w (List.mem_cons_of_mem _ h)
  have hown : s.vm.findClass "DealtSecretModel" = some m.cls := findClass_of_methodNamed B.named
  have hlk := B.notSynchronized
  have hl := lv_entry ([.ref (Y 0), .int (nI (j + 1)), .int (nI u0), .int (nI v0)]) (n := 4) (Nat.le_of_ble_eq_true rfl)
  rw [lg_entry_eq]
  generalize (lg_sl ([.ref (Y 0), .int (nI (j + 1)), .int (nI u0), .int (nI v0)]) ++ List.replicate (4 - (lg_sl ([.ref (Y 0), .int (nI (j + 1)), .int (nI u0), .int (nI v0)])).length) Slot.unset).toArray = ls at hl ⊢
  have hl : lv_has ls 4 [(0, .ref (Y 0)), (1, .int (nI (j + 1))), (2, .int (nI u0)), (3, .int (nI v0))] := hl
  have hD := w_self hD0
  have hS : va_S (w_A (wM Y cI cZ p0 q0 g0 h0 (S))) s.heap s.heap [] := va_S.rf
  obtain ⟨okp2, okp, okq2, okq, okg, okh⟩ := id ok
  refine lv_aload_n hx hb d_M_lay_0 rfl (lv_at hl 0 rfl) ?_
  refine lv_iload_n hx hb d_M_lay_1 rfl (lv_at hl 1 rfl) ?_
  refine lv_iload_n hx hb d_M_lay_2 rfl (lv_at hl 2 rfl) ?_
  refine lv_iload_n hx hb d_M_lay_3 rfl (lv_at hl 3 rfl) ?_
  refine ro_V (As := [.int (nI (j + 1)), .int (nI u0), .int (nI v0)]) (rest := []) (b := (Y 0)) ⟨hx, hb, hml, hown, hts⟩ (c_M_fit l dC dI Y cI cZ p0 q0 g0 h0 S (j + 1) u0 v0 t0 ok (by omega) (by omega) (by omega) ht ht7 hC) (cwV 3 hts (al_V k_542 k_543 k_651 k_4 k_544) rfl rfl rfl (by decide +kernel) ⟨Nat.le_of_ble_eq_true rfl, Nat.le_of_ble_eq_true rfl⟩) (fun U g mk a h => ⟨h.1, va_K.moved (u := U) (U := U.calling g mk a) (Vm.Alike.refl U.vm) h.2⟩) (va_recv hK hP (ci := 3) (q0 := 0) rfl rfl) (fun U hU hW => ⟨by rw [hU]; exact hP, va_K.moved hW.alike hK⟩) rfl hl.1 rfl (lv_room (Nat.le_of_ble_eq_true rfl)) d_M_lay_4 ⟨Nat.zero_le _, Nat.zero_le _⟩ ?_
  refine lv_if_ne (tgt := 12) hx hb d_M_lay_7 (by decide) (fun c7 => ?_) (fun c7 => ?_)
  · have hf : (g0 ^ u0 % p0) * (h0 ^ v0 % p0) % p0 = mz_cs (fun k => nn (S 3 k)) (j + 1) t0 % p0 := Classical.not_not.mp (fun z => c7 (mz_bf z))
    refine lv_aload_n hx hb d_M_lay_12 rfl (lv_at hl 0 rfl) ?_
    refine va_get (D := (dC, dI)) (ci := 3) (v := .ref (Y 9)) (C := "DealtSecretModel") (T := T_M) (N := 24) hx hb hts i_M hown hK hP 0 rfl rfl 17 (by decide) (hts _ k_460) (fun _ h9 => h9) rfl d_M_lay_13 ?_
    refine lv_iload_n hx hb d_M_lay_16 rfl (lv_at hl 1 rfl) ?_
    refine va_zald hx hb hK hP 9 1 rfl rfl (vp_in_nI (by omega) (by decide)) d_M_lay_17 ?_
    refine x_i (y := S 9 (j + 1)) (by rw [nI_clamp (by omega)]) ?_
    refine lv_if_ne (tgt := 45) hx hb d_M_lay_18 (by decide) (fun c18 => ?_) (fun c18 => ?_)
    · have hkk := hKp c18
      have hk1 := hkk.1.lt
      have hk2 := hkk.2.lt
      have hmu := md_lt (nI (nn (S 10 (j + 1))) - nI u0) (q := q0) (by omega)
      have hmv := md_lt (nI v0 - nI (nn (S 11 (j + 1)))) (q := q0) (by omega)
      refine lv_iload_n hx hb d_M_lay_45 rfl (lv_at hl 3 rfl) ?_
      refine lv_aload_n hx hb d_M_lay_46 rfl (lv_at hl 0 rfl) ?_
      refine va_get (D := (dC, dI)) (ci := 3) (v := .ref (Y 11)) (C := "DealtSecretModel") (T := T_M) (N := 24) hx hb hts i_M hown hK hP 0 rfl rfl 19 (by decide) (hts _ k_462) (fun _ h9 => h9) rfl d_M_lay_47 ?_
      refine lv_iload_n hx hb d_M_lay_50 rfl (lv_at hl 1 rfl) ?_
      refine va_iald hx hb hK hP 11 0 rfl rfl (vp_in_nI (by omega) (by decide)) d_M_lay_51 ?_
      refine x_i (y := S 11 (j + 1)) (by rw [nI_clamp (by omega)]) ?_
      refine lv_icmp_eq (tgt := 97) hx hb d_M_lay_52 (by decide) (fun c52 => ?_) (fun c52 => ?_)
      · refine lv_iconst (v := 1) hx hb d_M_lay_97 (by decide) ?_
        have e9 : mlS p0 q0 g0 h0 t0 S j u0 v0 = S := (if_pos hf).trans ((if_neg c18).trans (if_neg (by first | exact fun q => c59 q.1 | exact fun q => q.2 c52)))
        have hP := (show va_P (dC, dI) cls (wM Y cI cZ p0 q0 g0 h0 (mlS p0 q0 g0 h0 t0 S j u0 v0)) _ by rw [e9]; exact hP)
        refine x_i (y := mz_b ((g0 ^ u0 % p0) * (h0 ^ v0 % p0) % p0 = mz_cs (fun k => nn (S 3 k)) (j + 1) t0 % p0)) ((mz_bt hf).symm) ?_
        exact wr_z hx hb hr hlk (mz_bn _) hP hS d_M_lay_98
      · refine lv_aload_n hx hb d_M_lay_55 rfl (lv_at hl 0 rfl) ?_
        refine va_get (D := (dC, dI)) (ci := 3) (v := .int (S 0 5)) (C := "DealtSecretModel") (T := T_M) (N := 24) hx hb hts i_M hown hK hP 0 rfl rfl 20 (by decide) (hts _ k_463) (fun _ h9 => h9) rfl d_M_lay_56 ?_
        refine lv_if_ne (tgt := 97) hx hb d_M_lay_59 (by decide) (fun c59 => ?_) (fun c59 => ?_)
        · refine lv_iconst (v := 1) hx hb d_M_lay_97 (by decide) ?_
          have e9 : mlS p0 q0 g0 h0 t0 S j u0 v0 = S := (if_pos hf).trans ((if_neg c18).trans (if_neg (by first | exact fun q => c59 q.1 | exact fun q => q.2 c52)))
          have hP := (show va_P (dC, dI) cls (wM Y cI cZ p0 q0 g0 h0 (mlS p0 q0 g0 h0 t0 S j u0 v0)) _ by rw [e9]; exact hP)
          refine x_i (y := mz_b ((g0 ^ u0 % p0) * (h0 ^ v0 % p0) % p0 = mz_cs (fun k => nn (S 3 k)) (j + 1) t0 % p0)) ((mz_bt hf).symm) ?_
          exact wr_z hx hb hr hlk (mz_bn _) hP hS d_M_lay_98
        · refine lv_aload_n hx hb d_M_lay_62 rfl (lv_at hl 0 rfl) ?_
          refine lv_iconst (v := 1) hx hb d_M_lay_63 (by decide) ?_
          refine va_put (D := (dC, dI)) (ci := 3) (v := .int 1) (ty := .boolean) (C := "DealtSecretModel") (T := T_M) (N := 24) hx hb hts i_M t_M t_M_ok n_M hown hK hP hD hS 0 rfl rfl 20 (by decide) (hts _ k_463) (fun _ h9 => h9) rfl (by decide +kernel) (rfl) (rfl) (Nat.le_of_ble_eq_true rfl) d_M_lay_64 (fun H locs hP hD hS => ?_)
          have hP : va_P (dC, dI) cls (wM Y cI cZ p0 q0 g0 h0 (up S 0 5 1)) H := by rw [← w_ms5]; exact hP
          have hD : va_D (w_A (wM Y cI cZ p0 q0 g0 h0 (S))) (wM Y cI cZ p0 q0 g0 h0 (up S 0 5 1)) := by rw [← w_ms5]; exact hD
          refine lv_aload_n hx hb d_M_lay_67 rfl (lv_at hl 0 rfl) ?_
          refine lv_aload_n hx hb d_M_lay_68 rfl (lv_at hl 0 rfl) ?_
          refine lv_aload_n hx hb d_M_lay_69 rfl (lv_at hl 0 rfl) ?_
          refine lv_aload_n hx hb d_M_lay_70 rfl (lv_at hl 0 rfl) ?_
          refine va_get (D := (dC, dI)) (ci := 3) (v := .ref (Y 10)) (C := "DealtSecretModel") (T := T_M) (N := 24) hx hb hts i_M hown hK hP 0 rfl rfl 18 (by decide) (hts _ k_461) (fun _ h9 => h9) rfl d_M_lay_71 ?_
          refine lv_iload_n hx hb d_M_lay_74 rfl (lv_at hl 1 rfl) ?_
          refine va_iald hx hb hK hP 10 0 rfl rfl (vp_in_nI (by omega) (by decide)) d_M_lay_75 ?_
          refine x_i (y := (up S 0 5 1) 10 (j + 1)) (by rw [nI_clamp (by omega)]) ?_
          refine x_i (y := nI (nn (S 10 (j + 1)))) (hkk.1.eq) ?_
          refine lv_iload_n hx hb d_M_lay_76 rfl (lv_at hl 2 rfl) ?_
          refine ro_V (As := [.int (nI (nn (S 10 (j + 1)))), .int (nI u0)]) (rest := [.ref (Y 0), .ref (Y 0)]) (b := (Y 0)) ⟨hx, hb, hml, hown, hts⟩ (c_M_minus l dC dI Y cI cZ p0 q0 g0 h0 (up S 0 5 1) (nn (S 10 (j + 1))) u0 ok (by omega) (by omega)) (cwV 2 hts (al_V k_584 k_585 k_657 k_4 k_586) rfl rfl rfl (by decide +kernel) ⟨Nat.le_of_ble_eq_true rfl, Nat.le_of_ble_eq_true rfl⟩) (fun U g mk a h => ⟨h.1, va_K.moved (u := U) (U := U.calling g mk a) (Vm.Alike.refl U.vm) h.2⟩) (va_recv hK hP (ci := 3) (q0 := 0) rfl rfl) (fun U hU hW => ⟨by rw [hU]; exact hP, va_K.moved hW.alike hK⟩) rfl hl.1 rfl (lv_room (Nat.le_of_ble_eq_true rfl)) d_M_lay_77 ⟨Nat.zero_le _, Nat.zero_le _⟩ ?_
          refine lv_aload_n hx hb d_M_lay_80 rfl (lv_at hl 0 rfl) ?_
          refine lv_iload_n hx hb d_M_lay_81 rfl (lv_at hl 3 rfl) ?_
          refine lv_aload_n hx hb d_M_lay_82 rfl (lv_at hl 0 rfl) ?_
          refine va_get (D := (dC, dI)) (ci := 3) (v := .ref (Y 11)) (C := "DealtSecretModel") (T := T_M) (N := 24) hx hb hts i_M hown hK hP 0 rfl rfl 19 (by decide) (hts _ k_462) (fun _ h9 => h9) rfl d_M_lay_83 ?_
          refine lv_iload_n hx hb d_M_lay_86 rfl (lv_at hl 1 rfl) ?_
          refine va_iald hx hb hK hP 11 0 rfl rfl (vp_in_nI (by omega) (by decide)) d_M_lay_87 ?_
          refine x_i (y := (up S 0 5 1) 11 (j + 1)) (by rw [nI_clamp (by omega)]) ?_
          refine x_i (y := nI (nn (S 11 (j + 1)))) (hkk.2.eq) ?_
          refine ro_V (As := [.int (nI v0), .int (nI (nn (S 11 (j + 1))))]) (rest := [.int (nI (md (nI (nn (S 10 (j + 1))) - nI u0) q0)), .ref (Y 0), .ref (Y 0)]) (b := (Y 0)) ⟨hx, hb, hml, hown, hts⟩ (c_M_minus l dC dI Y cI cZ p0 q0 g0 h0 (up S 0 5 1) v0 (nn (S 11 (j + 1))) ok (by omega) (by omega)) (cwV 2 hts (al_V k_584 k_585 k_657 k_4 k_586) rfl rfl rfl (by decide +kernel) ⟨Nat.le_of_ble_eq_true rfl, Nat.le_of_ble_eq_true rfl⟩) (fun U g mk a h => ⟨h.1, va_K.moved (u := U) (U := U.calling g mk a) (Vm.Alike.refl U.vm) h.2⟩) (va_recv hK hP (ci := 3) (q0 := 0) rfl rfl) (fun U hU hW => ⟨by rw [hU]; exact hP, va_K.moved hW.alike hK⟩) rfl hl.1 rfl (lv_room (Nat.le_of_ble_eq_true rfl)) d_M_lay_88 ⟨Nat.zero_le _, Nat.zero_le _⟩ ?_
          refine ro_V (As := [.int (nI (md (nI (nn (S 10 (j + 1))) - nI u0) q0)), .int (nI (md (nI v0 - nI (nn (S 11 (j + 1)))) q0))]) (rest := [.ref (Y 0)]) (b := (Y 0)) ⟨hx, hb, hml, hown, hts⟩ (c_M_over l dC dI Y cI cZ p0 q0 g0 h0 (up S 0 5 1) (md (nI (nn (S 10 (j + 1))) - nI u0) q0) (md (nI v0 - nI (nn (S 11 (j + 1)))) q0) ok (by omega) (by omega)) (cwV 2 hts (al_V k_587 k_588 k_658 k_4 k_589) rfl rfl rfl (by decide +kernel) ⟨Nat.le_of_ble_eq_true rfl, Nat.le_of_ble_eq_true rfl⟩) (fun U g mk a h => ⟨h.1, va_K.moved (u := U) (U := U.calling g mk a) (Vm.Alike.refl U.vm) h.2⟩) (va_recv hK hP (ci := 3) (q0 := 0) rfl rfl) (fun U hU hW => ⟨by rw [hU]; exact hP, va_K.moved hW.alike hK⟩) rfl hl.1 rfl (lv_room (Nat.le_of_ble_eq_true rfl)) d_M_lay_91 ⟨Nat.zero_le _, Nat.zero_le _⟩ ?_
          refine va_put (D := (dC, dI)) (ci := 3) (v := .int (nI ((md (nI (nn (S 10 (j + 1))) - nI u0) q0) * ((md (nI v0 - nI (nn (S 11 (j + 1)))) q0) ^ (q0 - 2) % q0) % q0))) (ty := .int) (C := "DealtSecretModel") (T := T_M) (N := 24) hx hb hts i_M t_M t_M_ok n_M hown hK hP hD hS 0 rfl rfl 21 (by decide) (hts _ k_464) (fun _ h9 => h9) rfl (by decide +kernel) (rfl) (rfl) (Nat.le_of_ble_eq_true rfl) d_M_lay_94 (fun H locs hP hD hS => ?_)
          have hP : va_P (dC, dI) cls (wM Y cI cZ p0 q0 g0 h0 (up (up S 0 5 1) 0 6 (nI ((md (nI (nn (S 10 (j + 1))) - nI u0) q0) * ((md (nI v0 - nI (nn (S 11 (j + 1)))) q0) ^ (q0 - 2) % q0) % q0)))) H := by rw [← w_ms6]; exact hP
          have hD : va_D (w_A (wM Y cI cZ p0 q0 g0 h0 (S))) (wM Y cI cZ p0 q0 g0 h0 (up (up S 0 5 1) 0 6 (nI ((md (nI (nn (S 10 (j + 1))) - nI u0) q0) * ((md (nI v0 - nI (nn (S 11 (j + 1)))) q0) ^ (q0 - 2) % q0) % q0)))) := by rw [← w_ms6]; exact hD
          refine lv_iconst (v := 1) hx hb d_M_lay_97 (by decide) ?_
          have e9 : mlS p0 q0 g0 h0 t0 S j u0 v0 = up (up S 0 5 1) 0 6 (nI ((md (nI (nn (S 10 (j + 1))) - nI u0) q0) * ((md (nI v0 - nI (nn (S 11 (j + 1)))) q0) ^ (q0 - 2) % q0) % q0)) := (if_pos hf).trans ((if_neg c18).trans (if_pos ⟨c59, c52⟩))
          have hP := (show va_P (dC, dI) cls (wM Y cI cZ p0 q0 g0 h0 (mlS p0 q0 g0 h0 t0 S j u0 v0)) _ by rw [e9]; exact hP)
          refine x_i (y := mz_b ((g0 ^ u0 % p0) * (h0 ^ v0 % p0) % p0 = mz_cs (fun k => nn (S 3 k)) (j + 1) t0 % p0)) ((mz_bt hf).symm) ?_
          exact wr_z hx hb hr hlk (mz_bn _) hP hS d_M_lay_98
    · refine lv_aload_n hx hb d_M_lay_21 rfl (lv_at hl 0 rfl) ?_
      refine va_get (D := (dC, dI)) (ci := 3) (v := .ref (Y 9)) (C := "DealtSecretModel") (T := T_M) (N := 24) hx hb hts i_M hown hK hP 0 rfl rfl 17 (by decide) (hts _ k_460) (fun _ h9 => h9) rfl d_M_lay_22 ?_
      refine lv_iload_n hx hb d_M_lay_25 rfl (lv_at hl 1 rfl) ?_
      refine lv_iconst (v := 1) hx hb d_M_lay_26 (by decide) ?_
      refine va_zast hx hb hK hP hD hS 9 1 rfl rfl (vp_in_nI (by omega) (by decide)) d_M_lay_27 (fun H locs hP hD hS => ?_)
      rw [nI_clamp (by omega), show vp_nar .boolean 1 = 1 from rfl] at hP hD
      have hP : va_P (dC, dI) cls (wM Y cI cZ p0 q0 g0 h0 (up S 9 (j + 1) 1)) H := by rw [← w_ma9]; exact hP
      have hD : va_D (w_A (wM Y cI cZ p0 q0 g0 h0 (S))) (wM Y cI cZ p0 q0 g0 h0 (up S 9 (j + 1) 1)) := by rw [← w_ma9]; exact hD
      refine lv_aload_n hx hb d_M_lay_28 rfl (lv_at hl 0 rfl) ?_
      refine va_get (D := (dC, dI)) (ci := 3) (v := .ref (Y 10)) (C := "DealtSecretModel") (T := T_M) (N := 24) hx hb hts i_M hown hK hP 0 rfl rfl 18 (by decide) (hts _ k_461) (fun _ h9 => h9) rfl d_M_lay_29 ?_
      refine lv_iload_n hx hb d_M_lay_32 rfl (lv_at hl 1 rfl) ?_
      refine lv_iload_n hx hb d_M_lay_33 rfl (lv_at hl 2 rfl) ?_
      refine va_iast hx hb hK hP hD hS 10 0 rfl rfl (vp_in_nI (by omega) (by decide)) d_M_lay_34 (fun H locs hP hD hS => ?_)
      rw [nI_clamp (by omega)] at hP hD
      have hP : va_P (dC, dI) cls (wM Y cI cZ p0 q0 g0 h0 (up (up S 9 (j + 1) 1) 10 (j + 1) (nI u0))) H := by rw [← w_ma10]; exact hP
      have hD : va_D (w_A (wM Y cI cZ p0 q0 g0 h0 (S))) (wM Y cI cZ p0 q0 g0 h0 (up (up S 9 (j + 1) 1) 10 (j + 1) (nI u0))) := by rw [← w_ma10]; exact hD
      refine lv_aload_n hx hb d_M_lay_35 rfl (lv_at hl 0 rfl) ?_
      refine va_get (D := (dC, dI)) (ci := 3) (v := .ref (Y 11)) (C := "DealtSecretModel") (T := T_M) (N := 24) hx hb hts i_M hown hK hP 0 rfl rfl 19 (by decide) (hts _ k_462) (fun _ h9 => h9) rfl d_M_lay_36 ?_
      refine lv_iload_n hx hb d_M_lay_39 rfl (lv_at hl 1 rfl) ?_
      refine lv_iload_n hx hb d_M_lay_40 rfl (lv_at hl 3 rfl) ?_
      refine va_iast hx hb hK hP hD hS 11 0 rfl rfl (vp_in_nI (by omega) (by decide)) d_M_lay_41 (fun H locs hP hD hS => ?_)
      rw [nI_clamp (by omega)] at hP hD
      have hP : va_P (dC, dI) cls (wM Y cI cZ p0 q0 g0 h0 (up (up (up S 9 (j + 1) 1) 10 (j + 1) (nI u0)) 11 (j + 1) (nI v0))) H := by rw [← w_ma11]; exact hP
      have hD : va_D (w_A (wM Y cI cZ p0 q0 g0 h0 (S))) (wM Y cI cZ p0 q0 g0 h0 (up (up (up S 9 (j + 1) 1) 10 (j + 1) (nI u0)) 11 (j + 1) (nI v0))) := by rw [← w_ma11]; exact hD
      refine lv_goto (tgt := 97) hx hb d_M_lay_42 (by decide) ?_
      refine lv_iconst (v := 1) hx hb d_M_lay_97 (by decide) ?_
      have e9 : mlS p0 q0 g0 h0 t0 S j u0 v0 = up (up (up S 9 (j + 1) 1) 10 (j + 1) (nI u0)) 11 (j + 1) (nI v0) := (if_pos hf).trans (if_pos c18)
      have hP := (show va_P (dC, dI) cls (wM Y cI cZ p0 q0 g0 h0 (mlS p0 q0 g0 h0 t0 S j u0 v0)) _ by rw [e9]; exact hP)
      refine x_i (y := mz_b ((g0 ^ u0 % p0) * (h0 ^ v0 % p0) % p0 = mz_cs (fun k => nn (S 3 k)) (j + 1) t0 % p0)) ((mz_bt hf).symm) ?_
      exact wr_z hx hb hr hlk (mz_bn _) hP hS d_M_lay_98
  · have hf : ¬ (g0 ^ u0 % p0) * (h0 ^ v0 % p0) % p0 = mz_cs (fun k => nn (S 3 k)) (j + 1) t0 % p0 := mz_b0.mp c7
    refine lv_iconst (v := 0) hx hb d_M_lay_10 (by decide) ?_
    have e9 : mlS p0 q0 g0 h0 t0 S j u0 v0 = S := if_neg hf
    have hP := (show va_P (dC, dI) cls (wM Y cI cZ p0 q0 g0 h0 (mlS p0 q0 g0 h0 t0 S j u0 v0)) _ by rw [e9]; exact hP)
    refine x_i (y := mz_b ((g0 ^ u0 % p0) * (h0 ^ v0 % p0) % p0 = mz_cs (fun k => nn (S 3 k)) (j + 1) t0 % p0)) ((mz_bf hf).symm) ?_
    exact wr_z hx hb hr hlk (mz_bn _) hP hS d_M_lay_11
