set_option maxRecDepth 100000 in
set_option maxHeartbeats 4000000 in
/-- relation() where it is allowed -/
theorem c_C_relation (l : Launch) (dC : Nat → ClassId) (dI : Nat → Nat → Nat) (Z : Nat → Nat) (cI cP : ClassId) (p0 q0 g0 h0 : Nat) (S : Nat → Nat → Int32) (hst : S 0 0 = 5) (hrl : ¬ S 0 4 = 0) : Ro l y_C_relation ws_C_relation 1 21 [.ref (Z 0)] (bC dC dI Z cI cP p0 q0 g0 h0 S) (S 0 5) := by
  refine Met.ofW (cc := b_C_relation) (maxL := 1) (ret := (some .int)) (by decide) rfl ?_
  intro p e s m args below meth c s₁ B hml hv
  obtain ⟨rfl, hP, hK⟩ := hv
  have hx := B.exec
  have hb := B.bytes
  have hr := B.returns
  have hts : ∀ w ∈ AL, w.before ([.ref (Z 0)] : List Value).toArray s = true := fun w h => atoms_spec (ws := ws_C_relation) B.pre w (List.mem_cons_of_mem _ h)
  have hown : s.vm.findClass "DealtSecret" = some m.cls := findClass_of_methodNamed B.named
  have hlk := B.notSynchronized
  have hl := lv_entry ([.ref (Z 0)]) (n := 1) (Nat.le_of_ble_eq_true rfl)
  rw [lg_entry_eq]
  generalize (lg_sl ([.ref (Z 0)]) ++ List.replicate (1 - (lg_sl ([.ref (Z 0)])).length) Slot.unset).toArray = ls at hl ⊢
  have hl : lv_has ls 1 [(0, .ref (Z 0))] := hl
  refine lv_aload_n hx hb d_C_relation_0 rfl (lv_at hl 0 rfl) ?_
  refine lv_iconst (v := 5) hx hb d_C_relation_1 (by decide) ?_
  refine rv_V (As := [.int 5]) (rest := []) (b := (Z 0)) ⟨hx, hb, hml, hown, hts⟩ (c_C_demandStage l dC dI Z cI cP p0 q0 g0 h0 S 5 hst) (cwV 1 hts (al_V k_269 k_270 k_637 k_1 k_271) rfl rfl rfl (by decide +kernel) ⟨Nat.le_of_ble_eq_true rfl, Nat.le_of_ble_eq_true rfl⟩) (fun U g mk a h => ⟨h.1, va_K.moved (u := U) (U := U.calling g mk a) (Vm.Alike.refl U.vm) h.2⟩) (va_recv hK hP (ci := 2) (q0 := 0) rfl rfl) (fun U hU hW => ⟨by rw [hU]; exact hP, va_K.moved hW.alike hK⟩) rfl hl.1 rfl (lv_room (Nat.le_of_ble_eq_true rfl)) d_C_relation_2 ⟨Nat.zero_le _, Nat.zero_le _⟩ ?_
  refine lv_aload_n hx hb d_C_relation_5 rfl (lv_at hl 0 rfl) ?_
  refine va_get (D := (dC, dI)) (ci := 2) (v := .int (S 0 4)) (C := "DealtSecret") (T := T_C) (N := 11) hx hb hts i_C hown hK hP 0 rfl rfl 9 (by decide) (hts _ k_110) (fun _ h9 => h9) rfl d_C_relation_6 ?_
  refine lv_if_ne (tgt := 22) hx hb d_C_relation_9 (by decide) (fun _ => ?_) (fun c_ => absurd c_ (hrl))
  refine lv_aload_n hx hb d_C_relation_22 rfl (lv_at hl 0 rfl) ?_
  refine va_get (D := (dC, dI)) (ci := 2) (v := .int (S 0 5)) (C := "DealtSecret") (T := T_C) (N := 11) hx hb hts i_C hown hK hP 0 rfl rfl 10 (by decide) (hts _ k_111) (fun _ h9 => h9) rfl d_C_relation_23 ?_
  exact ro_i hx hb hr hlk d_C_relation_26 (rfl)
set_option maxRecDepth 100000 in
set_option maxHeartbeats 4000000 in
/-- commitment(k) -/
theorem c_C_commitment (l : Launch) (dC : Nat → ClassId) (dI : Nat → Nat → Nat) (Z : Nat → Nat) (cI cP : ClassId) (p0 q0 g0 h0 : Nat) (S : Nat → Nat → Int32) (k1 : Int32) (t0 : Nat) (ht : S 0 2 = nI t0) (ht7 : t0 ≤ 7) : Ro l y_C_commitment ws_C_commitment 1 21 [.ref (Z 0), .int k1] (bC dC dI Z cI cP p0 q0 g0 h0 S) (cmC S k1) := by
  refine Met.ofW (cc := b_C_commitment) (maxL := 2) (ret := (some .int)) (by decide) rfl ?_
  intro p e s m args below meth c s₁ B hml hv
  obtain ⟨rfl, hP, hK⟩ := hv
  have hx := B.exec
  have hb := B.bytes
  have hr := B.returns
  have hts : ∀ w ∈ AL, w.before ([.ref (Z 0), .int k1] : List Value).toArray s = true := fun w h => atoms_spec (ws := ws_C_commitment) B.pre w (List.mem_cons_of_mem _ h)
  have hown : s.vm.findClass "DealtSecret" = some m.cls := findClass_of_methodNamed B.named
  have hlk := B.notSynchronized
  have hl := lv_entry ([.ref (Z 0), .int k1]) (n := 2) (Nat.le_of_ble_eq_true rfl)
  rw [lg_entry_eq]
  generalize (lg_sl ([.ref (Z 0), .int k1]) ++ List.replicate (2 - (lg_sl ([.ref (Z 0), .int k1])).length) Slot.unset).toArray = ls at hl ⊢
  have hl : lv_has ls 2 [(0, .ref (Z 0)), (1, .int k1)] := hl
  refine lv_aload_n hx hb d_C_commitment_0 rfl (lv_at hl 0 rfl) ?_
  refine ro_V (As := []) (rest := []) (b := (Z 0)) ⟨hx, hb, hml, hown, hts⟩ (c_C_isDealt l dC dI Z cI cP p0 q0 g0 h0 S) (cwV 0 hts (al_V k_146 k_147 k_630 k_1 k_148) rfl rfl rfl (by decide +kernel) ⟨Nat.le_of_ble_eq_true rfl, Nat.le_of_ble_eq_true rfl⟩) (fun U g mk a h => ⟨h.1, va_K.moved (u := U) (U := U.calling g mk a) (Vm.Alike.refl U.vm) h.2⟩) (va_recv hK hP (ci := 2) (q0 := 0) rfl rfl) (fun U hU hW => ⟨by rw [hU]; exact hP, va_K.moved hW.alike hK⟩) rfl hl.1 rfl (lv_room (Nat.le_of_ble_eq_true rfl)) d_C_commitment_1 ⟨Nat.zero_le _, Nat.zero_le _⟩ ?_
  refine lv_if_eq (tgt := 24) hx hb d_C_commitment_4 (by decide) (fun c4 => ?_) (fun c4 => ?_)
  · have h1 := mz_b0.mp c4
    refine lv_iconst (v := 0) hx hb d_C_commitment_24 (by decide) ?_
    exact ro_i hx hb hr hlk d_C_commitment_25 ((if_neg (by first | exact fun q => h1 q.1 | exact fun q => h2 q.2)).symm)
  · have h1 : ¬ S 0 0 < 2 := Classical.not_not.mp (fun z => c4 (mz_bf z))
    refine lv_aload_n hx hb d_C_commitment_7 rfl (lv_at hl 0 rfl) ?_
    refine lv_iload_n hx hb d_C_commitment_8 rfl (lv_at hl 1 rfl) ?_
    refine ro_V (As := [.int k1]) (rest := []) (b := (Z 0)) ⟨hx, hb, hml, hown, hts⟩ (c_C_isCoefficient l dC dI Z cI cP p0 q0 g0 h0 S k1) (cwV 1 hts (al_V k_149 k_150 k_631 k_1 k_151) rfl rfl rfl (by decide +kernel) ⟨Nat.le_of_ble_eq_true rfl, Nat.le_of_ble_eq_true rfl⟩) (fun U g mk a h => ⟨h.1, va_K.moved (u := U) (U := U.calling g mk a) (Vm.Alike.refl U.vm) h.2⟩) (va_recv hK hP (ci := 2) (q0 := 0) rfl rfl) (fun U hU hW => ⟨by rw [hU]; exact hP, va_K.moved hW.alike hK⟩) rfl hl.1 rfl (lv_room (Nat.le_of_ble_eq_true rfl)) d_C_commitment_9 ⟨Nat.zero_le _, Nat.zero_le _⟩ ?_
    refine lv_if_eq (tgt := 24) hx hb d_C_commitment_12 (by decide) (fun c12 => ?_) (fun c12 => ?_)
    · have h2 := mz_b0.mp c12
      refine lv_iconst (v := 0) hx hb d_C_commitment_24 (by decide) ?_
      exact ro_i hx hb hr hlk d_C_commitment_25 ((if_neg (by first | exact fun q => h1 q.1 | exact fun q => h2 q.2)).symm)
    · have h2 : isCf (S 0 2) k1 := Classical.not_not.mp (fun z => c12 (mz_bf z))
      obtain ⟨k0, hk0, rfl⟩ := isCf_nat (by rw [ht] at h2; exact h2) (by omega)
      refine lv_aload_n hx hb d_C_commitment_15 rfl (lv_at hl 0 rfl) ?_
      refine va_get (D := (dC, dI)) (ci := 2) (v := .ref (Z 4)) (C := "DealtSecret") (T := T_C) (N := 11) hx hb hts i_C hown hK hP 0 rfl rfl 3 (by decide) (hts _ k_104) (fun _ h9 => h9) rfl d_C_commitment_16 ?_
      refine lv_iload_n hx hb d_C_commitment_19 rfl (lv_at hl 1 rfl) ?_
      refine va_iald hx hb hK hP 4 0 rfl rfl (vp_in_nI (by omega) (by decide)) d_C_commitment_20 ?_
      refine x_i (y := S 3 k0) (by rw [nI_clamp (by omega)]) ?_
      refine lv_goto (tgt := 25) hx hb d_C_commitment_21 (by decide) ?_
      exact ro_i hx hb hr hlk d_C_commitment_25 (((if_pos ⟨h1, h2⟩).trans (by rw [nn_nI (by omega)])).symm)
