set_option maxRecDepth 100000 in
set_option maxHeartbeats 4000000 in
/-- reduced(x) = x modulo q -/
theorem c_M_reduced (l : Launch) (dC : Nat → ClassId) (dI : Nat → Nat → Nat) (Y : Nat → Nat) (cI cZ : ClassId) (p0 q0 g0 h0 : Nat) (S : Nat → Nat → Int32) (x0 : Int32) (ok : okG p0 q0 g0 h0) : Ro l y_M_reduced ws_M_reduced 0 0 [.ref (Y 0), .int x0] (bM dC dI Y cI cZ p0 q0 g0 h0 S) (nI (md x0 q0)) := by
  refine Met.ofW (cc := b_M_reduced) (maxL := 3) (ret := (some .int)) (by decide) rfl ?_
  intro p e s m args below meth c s₁ B hml hv
  obtain ⟨rfl, hP, hK⟩ := hv
  have hx := B.exec
  have hb := B.bytes
  have hr := B.returns
  have hts : ∀ w ∈ AL, w.before ([.ref (Y 0), .int x0] : List Value).toArray s = true := fun w h => atoms_spec (ws := ws_M_reduced) B.pre w (List.mem_cons_of_mem _ h)
  have hown : s.vm.findClass "DealtSecretModel" = some m.cls := findClass_of_methodNamed B.named
  have hlk := B.notSynchronized
  have hl := lv_entry ([.ref (Y 0), .int x0]) (n := 3) (Nat.le_of_ble_eq_true rfl)
  rw [lg_entry_eq]
  generalize (lg_sl ([.ref (Y 0), .int x0]) ++ List.replicate (3 - (lg_sl ([.ref (Y 0), .int x0])).length) Slot.unset).toArray = ls at hl ⊢
  have hl : lv_has ls 3 [(0, .ref (Y 0)), (1, .int x0)] := hl
  obtain ⟨okp2, okp, okq2, okq, okg, okh⟩ := id ok
  have hmd := md_rem (x := x0) (q := q0) (by omega) okq
  refine lv_iload_n hx hb d_M_reduced_0 rfl (lv_at hl 1 rfl) ?_
  refine lv_aload_n hx hb d_M_reduced_1 rfl (lv_at hl 0 rfl) ?_
  refine va_get (D := (dC, dI)) (ci := 3) (v := .int (nI q0)) (C := "DealtSecretModel") (T := T_M) (N := 24) hx hb hts i_M hown hK hP 0 rfl rfl 1 (by decide) (hts _ k_444) (fun _ h9 => h9) rfl d_M_reduced_2 ?_
  refine lv_irem hx hb d_M_reduced_5 (nz_ine (by omega) okq) ?_
  refine lv_istore_n (lv' := [(2, .int (x0 - x0 / (nI q0) * (nI q0))), (0, .ref (Y 0)), (1, .int x0)]) hx hb d_M_reduced_6 rfl hl (by decide) rfl (fun ls hl => ?_)
  refine lv_iload_n hx hb d_M_reduced_7 rfl (lv_at hl 0 rfl) ?_
  refine lv_if_ge (tgt := 20) hx hb d_M_reduced_8 (by decide) (fun c8 => ?_) (fun c8 => ?_)
  · refine lv_iload_n hx hb d_M_reduced_20 rfl (lv_at hl 0 rfl) ?_
    exact ro_i hx hb hr hlk d_M_reduced_21 (hmd.1 (Int32.not_lt.mpr c8))
  · refine lv_iload_n hx hb d_M_reduced_11 rfl (lv_at hl 0 rfl) ?_
    refine lv_aload_n hx hb d_M_reduced_12 rfl (lv_at hl 1 rfl) ?_
    refine va_get (D := (dC, dI)) (ci := 3) (v := .int (nI q0)) (C := "DealtSecretModel") (T := T_M) (N := 24) hx hb hts i_M hown hK hP 0 rfl rfl 1 (by decide) (hts _ k_444) (fun _ h9 => h9) rfl d_M_reduced_13 ?_
    refine lv_iadd hx hb d_M_reduced_16 ?_
    refine lv_goto (tgt := 21) hx hb d_M_reduced_17 (by decide) ?_
    exact ro_i hx hb hr hlk d_M_reduced_21 (hmd.2 (Int32.not_le.mp c8))
set_option maxRecDepth 100000 in
set_option maxHeartbeats 4000000 in
/-- minus(x, y) modulo q -/
theorem c_M_minus (l : Launch) (dC : Nat → ClassId) (dI : Nat → Nat → Nat) (Y : Nat → Nat) (cI cZ : ClassId) (p0 q0 g0 h0 : Nat) (S : Nat → Nat → Int32) (x0 y0 : Nat) (ok : okG p0 q0 g0 h0) (hx0 : x0 < q0) (hy0 : y0 < q0) : Ro l y_M_minus ws_M_minus 0 0 [.ref (Y 0), .int (nI x0), .int (nI y0)] (bM dC dI Y cI cZ p0 q0 g0 h0 S) (nI (md (nI x0 - nI y0) q0)) := by
  refine Met.ofW (cc := b_M_minus) (maxL := 3) (ret := (some .int)) (by decide) rfl ?_
  intro p e s m args below meth c s₁ B hml hv
  obtain ⟨rfl, hP, hK⟩ := hv
  have hx := B.exec
  have hb := B.bytes
  have hr := B.returns
  have hts : ∀ w ∈ AL, w.before ([.ref (Y 0), .int (nI x0), .int (nI y0)] : List Value).toArray s = true := fun w h => atoms_spec (ws := ws_M_minus) B.pre w (List.mem_cons_of_mem _ h)
  have hown : s.vm.findClass "DealtSecretModel" = some m.cls := findClass_of_methodNamed B.named
  have hlk := B.notSynchronized
  have hl := lv_entry ([.ref (Y 0), .int (nI x0), .int (nI y0)]) (n := 3) (Nat.le_of_ble_eq_true rfl)
  rw [lg_entry_eq]
  generalize (lg_sl ([.ref (Y 0), .int (nI x0), .int (nI y0)]) ++ List.replicate (3 - (lg_sl ([.ref (Y 0), .int (nI x0), .int (nI y0)])).length) Slot.unset).toArray = ls at hl ⊢
  have hl : lv_has ls 3 [(0, .ref (Y 0)), (1, .int (nI x0)), (2, .int (nI y0))] := hl
  obtain ⟨okp2, okp, okq2, okq, okg, okh⟩ := id ok
  have hms := md_sub okq hx0 hy0
  refine lv_iload_n hx hb d_M_minus_0 rfl (lv_at hl 1 rfl) ?_
  refine lv_iload_n hx hb d_M_minus_1 rfl (lv_at hl 2 rfl) ?_
  refine lv_icmp_lt (tgt := 11) hx hb d_M_minus_2 (by decide) (fun c2 => ?_) (fun c2 => ?_)
  · have hlt : x0 < y0 := (nI_ltI (by omega) (by omega)).mp c2
    rw [if_neg (by omega)] at hms
    refine lv_iload_n hx hb d_M_minus_11 rfl (lv_at hl 1 rfl) ?_
    refine lv_iload_n hx hb d_M_minus_12 rfl (lv_at hl 2 rfl) ?_
    refine lv_isub hx hb d_M_minus_13 ?_
    refine lv_aload_n hx hb d_M_minus_14 rfl (lv_at hl 0 rfl) ?_
    refine va_get (D := (dC, dI)) (ci := 3) (v := .int (nI q0)) (C := "DealtSecretModel") (T := T_M) (N := 24) hx hb hts i_M hown hK hP 0 rfl rfl 1 (by decide) (hts _ k_444) (fun _ h9 => h9) rfl d_M_minus_15 ?_
    refine lv_iadd hx hb d_M_minus_18 ?_
    exact ro_i hx hb hr hlk d_M_minus_19 (hms)
  · have hlt : ¬ x0 < y0 := fun q => c2 (nI_lt q (by omega))
    rw [if_pos (by omega)] at hms
    refine lv_iload_n hx hb d_M_minus_5 rfl (lv_at hl 1 rfl) ?_
    refine lv_iload_n hx hb d_M_minus_6 rfl (lv_at hl 2 rfl) ?_
    refine lv_isub hx hb d_M_minus_7 ?_
    refine lv_goto (tgt := 19) hx hb d_M_minus_8 (by decide) ?_
    exact ro_i hx hb hr hlk d_M_minus_19 (hms)
set_option maxRecDepth 100000 in
set_option maxHeartbeats 4000000 in
/-- over(x, y) = x y^(q-2) modulo q -/
theorem c_M_over (l : Launch) (dC : Nat → ClassId) (dI : Nat → Nat → Nat) (Y : Nat → Nat) (cI cZ : ClassId) (p0 q0 g0 h0 : Nat) (S : Nat → Nat → Int32) (x0 y0 : Nat) (ok : okG p0 q0 g0 h0) (hx0 : x0 < 2 ^ 31) (hy0 : y0 < 2 ^ 31) : Ro l y_M_over ws_M_over 2 47 [.ref (Y 0), .int (nI x0), .int (nI y0)] (bM dC dI Y cI cZ p0 q0 g0 h0 S) (nI (x0 * (y0 ^ (q0 - 2) % q0) % q0)) := by
  refine Met.ofW (cc := b_M_over) (maxL := 3) (ret := (some .int)) (by decide) rfl ?_
  intro p e s m args below meth c s₁ B hml hv
  obtain ⟨rfl, hP, hK⟩ := hv
  have hx := B.exec
  have hb := B.bytes
  have hr := B.returns
  have hts : ∀ w ∈ AL, w.before ([.ref (Y 0), .int (nI x0), .int (nI y0)] : List Value).toArray s = true := fun w h => atoms_spec (ws := ws_M_over) B.pre w (List.mem_cons_of_mem _ h)
  have hown : s.vm.findClass "DealtSecretModel" = some m.cls := findClass_of_methodNamed B.named
  have hlk := B.notSynchronized
  have hl := lv_entry ([.ref (Y 0), .int (nI x0), .int (nI y0)]) (n := 3) (Nat.le_of_ble_eq_true rfl)
  rw [lg_entry_eq]
  generalize (lg_sl ([.ref (Y 0), .int (nI x0), .int (nI y0)]) ++ List.replicate (3 - (lg_sl ([.ref (Y 0), .int (nI x0), .int (nI y0)])).length) Slot.unset).toArray = ls at hl ⊢
  have hl : lv_has ls 3 [(0, .ref (Y 0)), (1, .int (nI x0)), (2, .int (nI y0))] := hl
  obtain ⟨okp2, okp, okq2, okq, okg, okh⟩ := id ok
  have hyq : y0 ^ (q0 - 2) % q0 < q0 := Nat.mod_lt _ (by omega)
  refine lv_iload_n hx hb d_M_over_0 rfl (lv_at hl 1 rfl) ?_
  refine lv_iload_n hx hb d_M_over_1 rfl (lv_at hl 2 rfl) ?_
  refine lv_aload_n hx hb d_M_over_2 rfl (lv_at hl 0 rfl) ?_
  refine va_get (D := (dC, dI)) (ci := 3) (v := .int (nI q0)) (C := "DealtSecretModel") (T := T_M) (N := 24) hx hb hts i_M hown hK hP 0 rfl rfl 1 (by decide) (hts _ k_444) (fun _ h9 => h9) rfl d_M_over_3 ?_
  refine lv_iconst (v := (nI 2)) hx hb d_M_over_6 (by decide) ?_
  refine lv_isub hx hb d_M_over_7 ?_
  refine x_i (y := nI (q0 - 2)) (pk_sub (by omega)) ?_
  refine lv_aload_n hx hb d_M_over_8 rfl (lv_at hl 0 rfl) ?_
  refine va_get (D := (dC, dI)) (ci := 3) (v := .int (nI q0)) (C := "DealtSecretModel") (T := T_M) (N := 24) hx hb hts i_M hown hK hP 0 rfl rfl 1 (by decide) (hts _ k_444) (fun _ h9 => h9) rfl d_M_over_9 ?_
  refine ro_S (As := [.int (nI y0), .int (nI (q0 - 2)), .int (nI q0)]) (rest := [.int (nI x0)]) ⟨hx, hb, hml, hown, hts⟩ (c_M_power l y0 (q0 - 2) q0 (by omega) (by omega) (by omega) (by omega)) (va_cwS 3 hts (al_S k_437 k_438 k_4 k_439) rfl rfl rfl (by decide +kernel) ⟨Nat.le_of_ble_eq_true rfl, Nat.le_of_ble_eq_true rfl⟩) (fun _ _ _ _ h => h) (fun _ _ _ => trivial) rfl hl.1 rfl (lv_room (Nat.le_of_ble_eq_true rfl)) d_M_over_12 ⟨Nat.zero_le _, Nat.zero_le _⟩ ?_
  refine lv_aload_n hx hb d_M_over_15 rfl (lv_at hl 0 rfl) ?_
  refine va_get (D := (dC, dI)) (ci := 3) (v := .int (nI q0)) (C := "DealtSecretModel") (T := T_M) (N := 24) hx hb hts i_M hown hK hP 0 rfl rfl 1 (by decide) (hts _ k_444) (fun _ h9 => h9) rfl d_M_over_16 ?_
  refine ro_S (As := [.int (nI x0), .int (nI (y0 ^ (q0 - 2) % q0)), .int (nI q0)]) (rest := []) ⟨hx, hb, hml, hown, hts⟩ (c_M_times l x0 (y0 ^ (q0 - 2) % q0) q0 (by omega) (by omega) (by omega) (by omega)) (va_cwS 3 hts (al_S k_440 k_441 k_4 k_442) rfl rfl rfl (by decide +kernel) ⟨Nat.le_of_ble_eq_true rfl, Nat.le_of_ble_eq_true rfl⟩) (fun _ _ _ _ h => h) (fun _ _ _ => trivial) rfl hl.1 rfl (lv_room (Nat.le_of_ble_eq_true rfl)) d_M_over_19 ⟨Nat.zero_le _, Nat.zero_le _⟩ ?_
  exact ro_i hx hb hr hlk d_M_over_22 (rfl)
set_option maxRecDepth 100000 in
set_option maxHeartbeats 4000000 in
/-- paired(u, v) = g^u h^v modulo p -/
theorem c_M_paired (l : Launch) (dC : Nat → ClassId) (dI : Nat → Nat → Nat) (Y : Nat → Nat) (cI cZ : ClassId) (p0 q0 g0 h0 : Nat) (S : Nat → Nat → Int32) (u0 v0 : Nat) (ok : okG p0 q0 g0 h0) (hu0 : u0 < 2 ^ 31) (hv0 : v0 < 2 ^ 31) : Ro l y_M_paired ws_M_paired 2 47 [.ref (Y 0), .int (nI u0), .int (nI v0)] (bM dC dI Y cI cZ p0 q0 g0 h0 S) (nI ((g0 ^ u0 % p0) * (h0 ^ v0 % p0) % p0)) := by
  refine Met.ofW (cc := b_M_paired) (maxL := 3) (ret := (some .int)) (by decide) rfl ?_
  intro p e s m args below meth c s₁ B hml hv
  obtain ⟨rfl, hP, hK⟩ := hv
  have hx := B.exec
  have hb := B.bytes
  have hr := B.returns
  have hts : ∀ w ∈ AL, w.before ([.ref (Y 0), .int (nI u0), .int (nI v0)] : List Value).toArray s = true := fun w h => atoms_spec (ws := ws_M_paired) B.pre w (List.mem_cons_of_mem _ h)
  have hown : s.vm.findClass "DealtSecretModel" = some m.cls := findClass_of_methodNamed B.named
  have hlk := B.notSynchronized
  have hl := lv_entry ([.ref (Y 0), .int (nI u0), .int (nI v0)]) (n := 3) (Nat.le_of_ble_eq_true rfl)
  rw [lg_entry_eq]
  generalize (lg_sl ([.ref (Y 0), .int (nI u0), .int (nI v0)]) ++ List.replicate (3 - (lg_sl ([.ref (Y 0), .int (nI u0), .int (nI v0)])).length) Slot.unset).toArray = ls at hl ⊢
  have hl : lv_has ls 3 [(0, .ref (Y 0)), (1, .int (nI u0)), (2, .int (nI v0))] := hl
  obtain ⟨okp2, okp, okq2, okq, okg, okh⟩ := id ok
  have hgu : g0 ^ u0 % p0 < p0 := Nat.mod_lt _ (by omega)
  have hhv : h0 ^ v0 % p0 < p0 := Nat.mod_lt _ (by omega)
  refine lv_aload_n hx hb d_M_paired_0 rfl (lv_at hl 0 rfl) ?_
  refine va_get (D := (dC, dI)) (ci := 3) (v := .int (nI g0)) (C := "DealtSecretModel") (T := T_M) (N := 24) hx hb hts i_M hown hK hP 0 rfl rfl 2 (by decide) (hts _ k_445) (fun _ h9 => h9) rfl d_M_paired_1 ?_
  refine lv_iload_n hx hb d_M_paired_4 rfl (lv_at hl 1 rfl) ?_
  refine lv_aload_n hx hb d_M_paired_5 rfl (lv_at hl 0 rfl) ?_
  refine va_get (D := (dC, dI)) (ci := 3) (v := .int (nI p0)) (C := "DealtSecretModel") (T := T_M) (N := 24) hx hb hts i_M hown hK hP 0 rfl rfl 0 (by decide) (hts _ k_443) (fun _ h9 => h9) rfl d_M_paired_6 ?_
  refine ro_S (As := [.int (nI g0), .int (nI u0), .int (nI p0)]) (rest := []) ⟨hx, hb, hml, hown, hts⟩ (c_M_power l g0 u0 p0 (by omega) (by omega) (by omega) (by omega)) (va_cwS 3 hts (al_S k_437 k_438 k_4 k_439) rfl rfl rfl (by decide +kernel) ⟨Nat.le_of_ble_eq_true rfl, Nat.le_of_ble_eq_true rfl⟩) (fun _ _ _ _ h => h) (fun _ _ _ => trivial) rfl hl.1 rfl (lv_room (Nat.le_of_ble_eq_true rfl)) d_M_paired_9 ⟨Nat.zero_le _, Nat.zero_le _⟩ ?_
  refine lv_aload_n hx hb d_M_paired_12 rfl (lv_at hl 0 rfl) ?_
  refine va_get (D := (dC, dI)) (ci := 3) (v := .int (nI h0)) (C := "DealtSecretModel") (T := T_M) (N := 24) hx hb hts i_M hown hK hP 0 rfl rfl 3 (by decide) (hts _ k_446) (fun _ h9 => h9) rfl d_M_paired_13 ?_
  refine lv_iload_n hx hb d_M_paired_16 rfl (lv_at hl 2 rfl) ?_
  refine lv_aload_n hx hb d_M_paired_17 rfl (lv_at hl 0 rfl) ?_
  refine va_get (D := (dC, dI)) (ci := 3) (v := .int (nI p0)) (C := "DealtSecretModel") (T := T_M) (N := 24) hx hb hts i_M hown hK hP 0 rfl rfl 0 (by decide) (hts _ k_443) (fun _ h9 => h9) rfl d_M_paired_18 ?_
  refine ro_S (As := [.int (nI h0), .int (nI v0), .int (nI p0)]) (rest := [.int (nI (g0 ^ u0 % p0))]) ⟨hx, hb, hml, hown, hts⟩ (c_M_power l h0 v0 p0 (by omega) (by omega) (by omega) (by omega)) (va_cwS 3 hts (al_S k_437 k_438 k_4 k_439) rfl rfl rfl (by decide +kernel) ⟨Nat.le_of_ble_eq_true rfl, Nat.le_of_ble_eq_true rfl⟩) (fun _ _ _ _ h => h) (fun _ _ _ => trivial) rfl hl.1 rfl (lv_room (Nat.le_of_ble_eq_true rfl)) d_M_paired_21 ⟨Nat.zero_le _, Nat.zero_le _⟩ ?_
  refine lv_aload_n hx hb d_M_paired_24 rfl (lv_at hl 0 rfl) ?_
  refine va_get (D := (dC, dI)) (ci := 3) (v := .int (nI p0)) (C := "DealtSecretModel") (T := T_M) (N := 24) hx hb hts i_M hown hK hP 0 rfl rfl 0 (by decide) (hts _ k_443) (fun _ h9 => h9) rfl d_M_paired_25 ?_
  refine ro_S (As := [.int (nI (g0 ^ u0 % p0)), .int (nI (h0 ^ v0 % p0)), .int (nI p0)]) (rest := []) ⟨hx, hb, hml, hown, hts⟩ (c_M_times l (g0 ^ u0 % p0) (h0 ^ v0 % p0) p0 (by omega) (by omega) (by omega) (by omega)) (va_cwS 3 hts (al_S k_440 k_441 k_4 k_442) rfl rfl rfl (by decide +kernel) ⟨Nat.le_of_ble_eq_true rfl, Nat.le_of_ble_eq_true rfl⟩) (fun _ _ _ _ h => h) (fun _ _ _ => trivial) rfl hl.1 rfl (lv_room (Nat.le_of_ble_eq_true rfl)) d_M_paired_28 ⟨Nat.zero_le _, Nat.zero_le _⟩ ?_
  exact ro_i hx hb hr hlk d_M_paired_31 (rfl)
set_option maxRecDepth 100000 in
set_option maxHeartbeats 4000000 in
/-- isOne(i) -/
theorem c_M_isOne (l : Launch) (dC : Nat → ClassId) (dI : Nat → Nat → Nat) (Y : Nat → Nat) (cI cZ : ClassId) (p0 q0 g0 h0 : Nat) (S : Nat → Nat → Int32) (i0 : Int32) : Ro l y_M_isOne ws_M_isOne 0 0 [.ref (Y 0), .int i0] (bM dC dI Y cI cZ p0 q0 g0 h0 S) (mz_b (isPt (S 0 2) i0)) := by
  refine Met.ofW (cc := b_M_isOne) (maxL := 2) (ret := (some .boolean)) (by decide) rfl ?_
  intro p e s m args below meth c s₁ B hml hv
  obtain ⟨rfl, hP, hK⟩ := hv
  have hx := B.exec
  have hb := B.bytes
  have hr := B.returns
  have hts : ∀ w ∈ AL, w.before ([.ref (Y 0), .int i0] : List Value).toArray s = true := fun w h => atoms_spec (ws := ws_M_isOne) B.pre w (List.mem_cons_of_mem _ h)
  have hown : s.vm.findClass "DealtSecretModel" = some m.cls := findClass_of_methodNamed B.named
  have hlk := B.notSynchronized
  have hl := lv_entry ([.ref (Y 0), .int i0]) (n := 2) (Nat.le_of_ble_eq_true rfl)
  rw [lg_entry_eq]
  generalize (lg_sl ([.ref (Y 0), .int i0]) ++ List.replicate (2 - (lg_sl ([.ref (Y 0), .int i0])).length) Slot.unset).toArray = ls at hl ⊢
  have hl : lv_has ls 2 [(0, .ref (Y 0)), (1, .int i0)] := hl
  refine lv_iload_n hx hb d_M_isOne_0 rfl (lv_at hl 1 rfl) ?_
  refine lv_iconst (v := 1) hx hb d_M_isOne_1 (by decide) ?_
  refine lv_icmp_lt (tgt := 17) hx hb d_M_isOne_2 (by decide) (fun c2 => ?_) (fun c2 => ?_)
  · refine lv_iconst (v := 0) hx hb d_M_isOne_17 (by decide) ?_
    exact ro_z hx hb hr hlk d_M_isOne_18 (by first | rfl | exact mz_bn _) ((mz_bf fun q => by first | exact q.1 c2 | exact q.2 c10).symm)
  · refine lv_iload_n hx hb d_M_isOne_5 rfl (lv_at hl 1 rfl) ?_
    refine lv_aload_n hx hb d_M_isOne_6 rfl (lv_at hl 0 rfl) ?_
    refine va_get (D := (dC, dI)) (ci := 3) (v := .int (S 0 2)) (C := "DealtSecretModel") (T := T_M) (N := 24) hx hb hts i_M hown hK hP 0 rfl rfl 6 (by decide) (hts _ k_449) (fun _ h9 => h9) rfl d_M_isOne_7 ?_
    refine lv_icmp_gt (tgt := 17) hx hb d_M_isOne_10 (by decide) (fun c10 => ?_) (fun c10 => ?_)
    · refine lv_iconst (v := 0) hx hb d_M_isOne_17 (by decide) ?_
      exact ro_z hx hb hr hlk d_M_isOne_18 (by first | rfl | exact mz_bn _) ((mz_bf fun q => by first | exact q.1 c2 | exact q.2 c10).symm)
    · refine lv_iconst (v := 1) hx hb d_M_isOne_13 (by decide) ?_
      refine lv_goto (tgt := 18) hx hb d_M_isOne_14 (by decide) ?_
      exact ro_z hx hb hr hlk d_M_isOne_18 (by first | rfl | exact mz_bn _) ((mz_bt ⟨c2, c10⟩).symm)
set_option maxRecDepth 100000 in
set_option maxHeartbeats 4000000 in
/-- fit(i, u, v) -/
theorem c_M_fit (l : Launch) (dC : Nat → ClassId) (dI : Nat → Nat → Nat) (Y : Nat → Nat) (cI cZ : ClassId) (p0 q0 g0 h0 : Nat) (S : Nat → Nat → Int32) (i0 u0 v0 t0 : Nat) (ok : okG p0 q0 g0 h0) (hi0 : i0 ≤ 7) (hu0 : u0 < 2 ^ 31) (hv0 : v0 < 2 ^ 31) (ht : S 0 3 = nI t0) (ht7 : t0 ≤ 7) (hC : ∀ k, k < t0 → okN (S 3 k) p0) : Ro l y_M_fit ws_M_fit 3 69 [.ref (Y 0), .int (nI i0), .int (nI u0), .int (nI v0)] (bM dC dI Y cI cZ p0 q0 g0 h0 S) (mz_b ((g0 ^ u0 % p0) * (h0 ^ v0 % p0) % p0 = mz_cs (fun k => nn (S 3 k)) i0 t0 % p0)) := by
  refine Met.ofW (cc := b_M_fit) (maxL := 7) (ret := (some .boolean)) (by decide) rfl ?_
  intro p e s m args below meth c s₁ B hml hv
  obtain ⟨rfl, hP, hK⟩ := hv
  have hx := B.exec
  have hb := B.bytes
  have hr := B.returns
  have hts : ∀ w ∈ AL, w.before ([.ref (Y 0), .int (nI i0), .int (nI u0), .int (nI v0)] : List Value).toArray s = true := fun w h => atoms_spec (ws := ws_M_fit) B.pre w (List.mem_cons_of_mem _ h)
  have hown : s.vm.findClass "DealtSecretModel" = some m.cls := findClass_of_methodNamed B.named
  have hlk := B.notSynchronized
  have hl := lv_entry ([.ref (Y 0), .int (nI i0), .int (nI u0), .int (nI v0)]) (n := 7) (Nat.le_of_ble_eq_true rfl)
  rw [lg_entry_eq]
  generalize (lg_sl ([.ref (Y 0), .int (nI i0), .int (nI u0), .int (nI v0)]) ++ List.replicate (7 - (lg_sl ([.ref (Y 0), .int (nI i0), .int (nI u0), .int (nI v0)])).length) Slot.unset).toArray = ls at hl ⊢
  have hl : lv_has ls 7 [(0, .ref (Y 0)), (1, .int (nI i0)), (2, .int (nI u0)), (3, .int (nI v0))] := hl
  obtain ⟨okp2, okp, okq2, okq, okg, okh⟩ := id ok
  have loop : ∀ (n k w0 : Nat) (ls : Array Slot), t0 + 1 ≤ k + n → k ≤ t0 → w0 = mz_cs (fun k => nn (S 3 k)) i0 k % p0 → lv_has ls 7 [(0, .ref (Y 0)), (1, .int (nI i0)), (2, .int (nI u0)), (3, .int (nI v0)), (4, .int (nI w0)), (5, .int (nI (i0 ^ k))), (6, .int (nI k))] → W p l e (headSpec ws_M_fit { frames := 3, cells := 0, slots := 0, locals := 69 }).room s m [.ref (Y 0), .int (nI i0), .int (nI u0), .int (nI v0)].toArray below meth c s.heap [] 0 0 (MQ below (QcRead (mz_b ((g0 ^ u0 % p0) * (h0 ^ v0 % p0) % p0 = mz_cs (fun k => nn (S 3 k)) i0 t0 % p0))) [.ref (Y 0), .int (nI i0), .int (nI u0), .int (nI v0)].toArray s 0 0 (fun _ => False)) (F0 m 9 ls []) := by
    intro n
    induction n with
    | zero =>
      intro k w0 ls h1 h2
      omega
    | succ n ih =>
      intro k w0 ls h1 h2 hw hl
      have hwp : w0 < p0 := by rw [hw]; exact Nat.mod_lt _ (by omega)
      have hik : i0 ^ k ≤ 823543 := Nat.le_trans (Nat.pow_le_pow_left hi0 k) (Nat.le_trans (Nat.pow_le_pow_right (by omega) (Nat.le_trans h2 ht7)) (by decide))
      refine lv_iload hx hb d_M_fit_9 (lv_at hl 6 rfl) ?_
      refine lv_aload_n hx hb d_M_fit_11 rfl (lv_at hl 0 rfl) ?_
      refine va_get (D := (dC, dI)) (ci := 3) (v := .int (S 0 3)) (C := "DealtSecretModel") (T := T_M) (N := 24) hx hb hts i_M hown hK hP 0 rfl rfl 7 (by decide) (hts _ k_450) (fun _ h9 => h9) rfl d_M_fit_12 ?_
      refine x_i (y := nI t0) (ht) ?_
      refine lv_icmp_ge (tgt := 57) hx hb d_M_fit_15 (by decide) (fun c15 => ?_) (fun c15 => ?_)
      · have hk : k = t0 := by
          rcases Nat.lt_or_ge k t0 with q | q
          · exact absurd c15 (nI_ge q (by omega))
          · omega
        subst hk
        refine lv_aload_n hx hb d_M_fit_57 rfl (lv_at hl 0 rfl) ?_
        refine lv_iload_n hx hb d_M_fit_58 rfl (lv_at hl 2 rfl) ?_
        refine lv_iload_n hx hb d_M_fit_59 rfl (lv_at hl 3 rfl) ?_
        refine ro_V (As := [.int (nI u0), .int (nI v0)]) (rest := []) (b := (Y 0)) ⟨hx, hb, hml, hown, hts⟩ (c_M_paired l dC dI Y cI cZ p0 q0 g0 h0 S u0 v0 ok hu0 hv0) (cwV 2 hts (al_V k_545 k_546 k_652 k_4 k_547) rfl rfl rfl (by decide +kernel) ⟨Nat.le_of_ble_eq_true rfl, Nat.le_of_ble_eq_true rfl⟩) (fun U g mk a h => ⟨h.1, va_K.moved (u := U) (U := U.calling g mk a) (Vm.Alike.refl U.vm) h.2⟩) (va_recv hK hP (ci := 3) (q0 := 0) rfl rfl) (fun U hU hW => ⟨by rw [hU]; exact hP, va_K.moved hW.alike hK⟩) rfl hl.1 rfl (lv_room (Nat.le_of_ble_eq_true rfl)) d_M_fit_60 ⟨Nat.zero_le _, Nat.zero_le _⟩ ?_
        refine lv_iload hx hb d_M_fit_63 (lv_at hl 4 rfl) ?_
        refine lv_icmp_ne (tgt := 72) hx hb d_M_fit_65 (by decide) (fun c65 => ?_) (fun c65 => ?_)
        · have hne : ¬ (g0 ^ u0 % p0) * (h0 ^ v0 % p0) % p0 = w0 := fun q => c65 (by rw [q])
          refine lv_iconst (v := 0) hx hb d_M_fit_72 (by decide) ?_
          exact ro_z hx hb hr hlk d_M_fit_73 (by first | rfl | exact mz_bn _) ((mz_bf (by rw [← hw]; exact hne)).symm)
        · have heq : (g0 ^ u0 % p0) * (h0 ^ v0 % p0) % p0 = w0 := (nI_eq (Nat.lt_trans (Nat.mod_lt _ (by omega)) okp) (by omega)).mp c65
          refine lv_iconst (v := 1) hx hb d_M_fit_68 (by decide) ?_
          refine lv_goto (tgt := 73) hx hb d_M_fit_69 (by decide) ?_
          exact ro_z hx hb hr hlk d_M_fit_73 (by first | rfl | exact mz_bn _) ((mz_bt (by rw [← hw]; exact heq)).symm)
      · have hk : k < t0 := by
          rcases Nat.lt_or_ge k t0 with q | q
          · exact q
          · exact absurd (nI_le q (by omega)) c15
        have hck := hC k hk
        have hckl := hck.lt
        have hce : nn (S 3 k) ^ (i0 ^ k) % p0 < p0 := Nat.mod_lt _ (by omega)
        refine lv_iload hx hb d_M_fit_18 (lv_at hl 4 rfl) ?_
        refine lv_aload_n hx hb d_M_fit_20 rfl (lv_at hl 0 rfl) ?_
        refine va_get (D := (dC, dI)) (ci := 3) (v := .ref (Y 3)) (C := "DealtSecretModel") (T := T_M) (N := 24) hx hb hts i_M hown hK hP 0 rfl rfl 11 (by decide) (hts _ k_454) (fun _ h9 => h9) rfl d_M_fit_21 ?_
        refine lv_iload hx hb d_M_fit_24 (lv_at hl 6 rfl) ?_
        refine va_iald hx hb hK hP 3 0 rfl rfl (vp_in_nI (by omega) (by decide)) d_M_fit_26 ?_
        refine x_i (y := S 3 k) (by rw [nI_clamp (by omega)]) ?_
        refine x_i (y := nI (nn (S 3 k))) (hck.eq) ?_
        refine lv_iload hx hb d_M_fit_27 (lv_at hl 5 rfl) ?_
        refine lv_aload_n hx hb d_M_fit_29 rfl (lv_at hl 0 rfl) ?_
        refine va_get (D := (dC, dI)) (ci := 3) (v := .int (nI p0)) (C := "DealtSecretModel") (T := T_M) (N := 24) hx hb hts i_M hown hK hP 0 rfl rfl 0 (by decide) (hts _ k_443) (fun _ h9 => h9) rfl d_M_fit_30 ?_
        refine ro_S (As := [.int (nI (nn (S 3 k))), .int (nI (i0 ^ k)), .int (nI p0)]) (rest := [.int (nI w0)]) ⟨hx, hb, hml, hown, hts⟩ (c_M_power l (nn (S 3 k)) (i0 ^ k) p0 (by omega) (by omega) (by omega) okp) (va_cwS 3 hts (al_S k_437 k_438 k_4 k_439) rfl rfl rfl (by decide +kernel) ⟨Nat.le_of_ble_eq_true rfl, Nat.le_of_ble_eq_true rfl⟩) (fun _ _ _ _ h => h) (fun _ _ _ => trivial) rfl hl.1 rfl (lv_room (Nat.le_of_ble_eq_true rfl)) d_M_fit_33 ⟨Nat.zero_le _, Nat.zero_le _⟩ ?_
        refine lv_aload_n hx hb d_M_fit_36 rfl (lv_at hl 0 rfl) ?_
        refine va_get (D := (dC, dI)) (ci := 3) (v := .int (nI p0)) (C := "DealtSecretModel") (T := T_M) (N := 24) hx hb hts i_M hown hK hP 0 rfl rfl 0 (by decide) (hts _ k_443) (fun _ h9 => h9) rfl d_M_fit_37 ?_
        refine ro_S (As := [.int (nI w0), .int (nI (nn (S 3 k) ^ (i0 ^ k) % p0)), .int (nI p0)]) (rest := []) ⟨hx, hb, hml, hown, hts⟩ (c_M_times l w0 (nn (S 3 k) ^ (i0 ^ k) % p0) p0 (by omega) (by omega) (by omega) okp) (va_cwS 3 hts (al_S k_440 k_441 k_4 k_442) rfl rfl rfl (by decide +kernel) ⟨Nat.le_of_ble_eq_true rfl, Nat.le_of_ble_eq_true rfl⟩) (fun _ _ _ _ h => h) (fun _ _ _ => trivial) rfl hl.1 rfl (lv_room (Nat.le_of_ble_eq_true rfl)) d_M_fit_40 ⟨Nat.zero_le _, Nat.zero_le _⟩ ?_
        refine lv_istore (lv' := [(4, .int (nI (w0 * (nn (S 3 k) ^ (i0 ^ k) % p0) % p0))), (0, .ref (Y 0)), (1, .int (nI i0)), (2, .int (nI u0)), (3, .int (nI v0)), (5, .int (nI (i0 ^ k))), (6, .int (nI k))]) hx hb d_M_fit_43 hl (by decide) rfl (fun ls hl => ?_)
        refine lv_iload hx hb d_M_fit_45 (lv_at hl 5 rfl) ?_
        refine lv_iload_n hx hb d_M_fit_47 rfl (lv_at hl 2 rfl) ?_
        refine lv_imul hx hb d_M_fit_48 ?_
        refine x_i (y := nI (i0 ^ (k + 1))) (pk_mul _ _) ?_
        refine lv_istore (lv' := [(5, .int (nI (i0 ^ (k + 1)))), (4, .int (nI (w0 * (nn (S 3 k) ^ (i0 ^ k) % p0) % p0))), (0, .ref (Y 0)), (1, .int (nI i0)), (2, .int (nI u0)), (3, .int (nI v0)), (6, .int (nI k))]) hx hb d_M_fit_49 hl (by decide) rfl (fun ls hl => ?_)
        refine lv_iinc (v := (nI (k + 1))) (lv' := [(6, .int (nI (k + 1))), (5, .int (nI (i0 ^ (k + 1)))), (4, .int (nI (w0 * (nn (S 3 k) ^ (i0 ^ k) % p0) % p0))), (0, .ref (Y 0)), (1, .int (nI i0)), (2, .int (nI u0)), (3, .int (nI v0))]) hx hb d_M_fit_51 hl (k := 6) rfl (nI_1 k) (by decide) rfl (fun ls hl => ?_)
        refine lv_goto (tgt := 9) hx hb d_M_fit_54 (by decide) ?_
        exact ih (k + 1) _ ls (by omega) (by omega) (by rw [hw, ← Nat.mul_mod]; rfl) (lv_sub hl [3, 4, 5, 6, 2, 1, 0] rfl)
  refine lv_iconst (v := (nI 1)) hx hb d_M_fit_0 (by decide) ?_
  refine lv_istore (lv' := [(4, .int (nI 1)), (0, .ref (Y 0)), (1, .int (nI i0)), (2, .int (nI u0)), (3, .int (nI v0))]) hx hb d_M_fit_1 hl (by decide) rfl (fun ls hl => ?_)
  refine lv_iconst (v := (nI (i0 ^ 0))) hx hb d_M_fit_3 (by rfl) ?_
  refine lv_istore (lv' := [(5, .int (nI (i0 ^ 0))), (4, .int (nI 1)), (0, .ref (Y 0)), (1, .int (nI i0)), (2, .int (nI u0)), (3, .int (nI v0))]) hx hb d_M_fit_4 hl (by decide) rfl (fun ls hl => ?_)
  refine lv_iconst (v := (nI 0)) hx hb d_M_fit_6 (by decide) ?_
  refine lv_istore (lv' := [(6, .int (nI 0)), (5, .int (nI (i0 ^ 0))), (4, .int (nI 1)), (0, .ref (Y 0)), (1, .int (nI i0)), (2, .int (nI u0)), (3, .int (nI v0))]) hx hb d_M_fit_7 hl (by decide) rfl (fun ls hl => ?_)
  exact loop (t0 + 1) 0 1 ls (by omega) (by omega) (Nat.mod_eq_of_lt (by omega)).symm (lv_sub hl [3, 4, 5, 6, 2, 1, 0] rfl)
set_option maxRecDepth 100000 in
set_option maxHeartbeats 4000000 in
/-- at(a, i) -/
theorem c_M_at_a (l : Launch) (dC : Nat → ClassId) (dI : Nat → Nat → Nat) (Y : Nat → Nat) (cI cZ : ClassId) (p0 q0 g0 h0 : Nat) (S : Nat → Nat → Int32) (i0 t0 : Nat) (ok : okG p0 q0 g0 h0) (hi0 : i0 < 2 ^ 31) (ht : S 0 3 = nI t0) (ht7 : t0 ≤ 7) (hC : ∀ k, k < t0 → okN (S 1 k) q0) : Ro l y_M_at ws_M_at 1 22 [.ref (Y 0), .ref (Y 1), .int (nI i0)] (bM dC dI Y cI cZ p0 q0 g0 h0 S) (nI (mz_ps (fun k => nn (S 1 k)) i0 t0 % q0)) := by
  refine Met.ofW (cc := b_M_at) (maxL := 7) (ret := (some .int)) (by decide) rfl ?_
  intro p e s m args below meth c s₁ B hml hv
  obtain ⟨rfl, hP, hK⟩ := hv
  have hx := B.exec
  have hb := B.bytes
  have hr := B.returns
  have hts : ∀ w ∈ AL, w.before ([.ref (Y 0), .ref (Y 1), .int (nI i0)] : List Value).toArray s = true := fun w h => atoms_spec (ws := ws_M_at) B.pre w (List.mem_cons_of_mem _ h)
  have hown : s.vm.findClass "DealtSecretModel" = some m.cls := findClass_of_methodNamed B.named
  have hlk := B.notSynchronized
  have hl := lv_entry ([.ref (Y 0), .ref (Y 1), .int (nI i0)]) (n := 7) (Nat.le_of_ble_eq_true rfl)
  rw [lg_entry_eq]
  generalize (lg_sl ([.ref (Y 0), .ref (Y 1), .int (nI i0)]) ++ List.replicate (7 - (lg_sl ([.ref (Y 0), .ref (Y 1), .int (nI i0)])).length) Slot.unset).toArray = ls at hl ⊢
  have hl : lv_has ls 7 [(0, .ref (Y 0)), (1, .ref (Y 1)), (2, .int (nI i0))] := hl
  obtain ⟨okp2, okp, okq2, okq, okg, okh⟩ := id ok
  have loop : ∀ (n k s0 f0 : Nat) (ls : Array Slot), t0 + 1 ≤ k + n → k ≤ t0 → s0 = mz_ps (fun k => nn (S 1 k)) i0 k % q0 → f0 = i0 ^ k % q0 → lv_has ls 7 [(0, .ref (Y 0)), (1, .ref (Y 1)), (2, .int (nI i0)), (3, .long (lN s0)), (5, .int (nI f0)), (6, .int (nI k))] → W p l e (headSpec ws_M_at { frames := 1, cells := 0, slots := 0, locals := 22 }).room s m [.ref (Y 0), .ref (Y 1), .int (nI i0)].toArray below meth c s.heap [] 0 0 (MQ below (QcRead (nI (mz_ps (fun k => nn (S 1 k)) i0 t0 % q0))) [.ref (Y 0), .ref (Y 1), .int (nI i0)].toArray s 0 0 (fun _ => False)) (F0 m 13 ls []) := by
    intro n
    induction n with
    | zero =>
      intro k s0 f0 ls h1 h2
      omega
    | succ n ih =>
      intro k s0 f0 ls h1 h2 hs hf hl
      have hsq : s0 < q0 := by rw [hs]; exact Nat.mod_lt _ (by omega)
      have hfq : f0 < q0 := by rw [hf]; exact Nat.mod_lt _ (by omega)
      have hiq : i0 % q0 < q0 := Nat.mod_lt _ (by omega)
      refine lv_iload hx hb d_M_at_13 (lv_at hl 5 rfl) ?_
      refine lv_aload_n hx hb d_M_at_15 rfl (lv_at hl 0 rfl) ?_
      refine va_get (D := (dC, dI)) (ci := 3) (v := .int (S 0 3)) (C := "DealtSecretModel") (T := T_M) (N := 24) hx hb hts i_M hown hK hP 0 rfl rfl 7 (by decide) (hts _ k_450) (fun _ h9 => h9) rfl d_M_at_16 ?_
      refine x_i (y := nI t0) (ht) ?_
      refine lv_icmp_ge (tgt := 68) hx hb d_M_at_19 (by decide) (fun c19 => ?_) (fun c19 => ?_)
      · have hk : k = t0 := by
          rcases Nat.lt_or_ge k t0 with q | q
          · exact absurd c19 (nI_ge q (by omega))
          · omega
        subst hk
        refine lv_lload_n hx hb d_M_at_68 rfl (lv_at hl 3 rfl) ?_
        refine lv_l2i (v := (nI s0)) hx hb d_M_at_69 (lN_i s0) ?_
        exact ro_i hx hb hr hlk d_M_at_70 (by rw [hs])
      · have hk : k < t0 := by
          rcases Nat.lt_or_ge k t0 with q | q
          · exact q
          · exact absurd (nI_le q (by omega)) c19
        have hck := hC k hk
        have hckl := hck.lt
        have hcf : nn (S 1 k) * f0 % q0 < q0 := Nat.mod_lt _ (by omega)
        refine lv_lload_n hx hb d_M_at_22 rfl (lv_at hl 3 rfl) ?_
        refine lv_aload_n hx hb d_M_at_23 rfl (lv_at hl 1 rfl) ?_
        refine lv_iload hx hb d_M_at_24 (lv_at hl 5 rfl) ?_
        refine va_iald hx hb hK hP 1 0 rfl rfl (vp_in_nI (by omega) (by decide)) d_M_at_26 ?_
        refine x_i (y := S 1 k) (by rw [nI_clamp (by omega)]) ?_
        refine x_i (y := nI (nn (S 1 k))) (hck.eq) ?_
        refine lv_iload hx hb d_M_at_27 (lv_at hl 4 rfl) ?_
        refine lv_aload_n hx hb d_M_at_29 rfl (lv_at hl 0 rfl) ?_
        refine va_get (D := (dC, dI)) (ci := 3) (v := .int (nI q0)) (C := "DealtSecretModel") (T := T_M) (N := 24) hx hb hts i_M hown hK hP 0 rfl rfl 1 (by decide) (hts _ k_444) (fun _ h9 => h9) rfl d_M_at_30 ?_
        refine ro_S (As := [.int (nI (nn (S 1 k))), .int (nI f0), .int (nI q0)]) (rest := [.long (lN s0)]) ⟨hx, hb, hml, hown, hts⟩ (c_M_times l (nn (S 1 k)) f0 q0 (by omega) (by omega) (by omega) (by omega)) (va_cwS 3 hts (al_S k_440 k_441 k_4 k_442) rfl rfl rfl (by decide +kernel) ⟨Nat.le_of_ble_eq_true rfl, Nat.le_of_ble_eq_true rfl⟩) (fun _ _ _ _ h => h) (fun _ _ _ => trivial) rfl hl.1 rfl (lv_room (Nat.le_of_ble_eq_true rfl)) d_M_at_33 ⟨Nat.zero_le _, Nat.zero_le _⟩ ?_
        refine lv_i2l (v := (lN (nn (S 1 k) * f0 % q0))) hx hb d_M_at_36 (nI_l (by omega)) ?_
        refine lv_ladd hx hb d_M_at_37 ?_
        refine x_l (y := lN (s0 + nn (S 1 k) * f0 % q0)) (lN_add _ _) ?_
        refine lv_aload_n hx hb d_M_at_38 rfl (lv_at hl 0 rfl) ?_
        refine va_get (D := (dC, dI)) (ci := 3) (v := .int (nI q0)) (C := "DealtSecretModel") (T := T_M) (N := 24) hx hb hts i_M hown hK hP 0 rfl rfl 1 (by decide) (hts _ k_444) (fun _ h9 => h9) rfl d_M_at_39 ?_
        refine lv_i2l (v := (lN q0)) hx hb d_M_at_42 (nI_l okq) ?_
        refine lv_lrem hx hb d_M_at_43 (nz_lne (by omega) okq) ?_
        refine x_l (y := lN ((s0 + nn (S 1 k) * f0 % q0) % q0)) (nz_lrem (by omega) (by omega) okq) ?_
        refine lv_lstore_n (lv' := [(3, .long (lN ((s0 + nn (S 1 k) * f0 % q0) % q0))), (0, .ref (Y 0)), (1, .ref (Y 1)), (2, .int (nI i0)), (5, .int (nI f0)), (6, .int (nI k))]) hx hb d_M_at_44 rfl hl (by decide) rfl (fun ls hl => ?_)
        refine lv_iload hx hb d_M_at_45 (lv_at hl 4 rfl) ?_
        refine lv_iload_n hx hb d_M_at_47 rfl (lv_at hl 3 rfl) ?_
        refine lv_aload_n hx hb d_M_at_48 rfl (lv_at hl 1 rfl) ?_
        refine va_get (D := (dC, dI)) (ci := 3) (v := .int (nI q0)) (C := "DealtSecretModel") (T := T_M) (N := 24) hx hb hts i_M hown hK hP 0 rfl rfl 1 (by decide) (hts _ k_444) (fun _ h9 => h9) rfl d_M_at_49 ?_
        refine lv_irem hx hb d_M_at_52 (nz_ine (by omega) okq) ?_
        refine x_i (y := nI (i0 % q0)) (pk_rem hi0 (by omega) okq) ?_
        refine lv_aload_n hx hb d_M_at_53 rfl (lv_at hl 1 rfl) ?_
        refine va_get (D := (dC, dI)) (ci := 3) (v := .int (nI q0)) (C := "DealtSecretModel") (T := T_M) (N := 24) hx hb hts i_M hown hK hP 0 rfl rfl 1 (by decide) (hts _ k_444) (fun _ h9 => h9) rfl d_M_at_54 ?_
        refine ro_S (As := [.int (nI f0), .int (nI (i0 % q0)), .int (nI q0)]) (rest := []) ⟨hx, hb, hml, hown, hts⟩ (c_M_times l f0 (i0 % q0) q0 (by omega) (by omega) (by omega) (by omega)) (va_cwS 3 hts (al_S k_440 k_441 k_4 k_442) rfl rfl rfl (by decide +kernel) ⟨Nat.le_of_ble_eq_true rfl, Nat.le_of_ble_eq_true rfl⟩) (fun _ _ _ _ h => h) (fun _ _ _ => trivial) rfl hl.1 rfl (lv_room (Nat.le_of_ble_eq_true rfl)) d_M_at_57 ⟨Nat.zero_le _, Nat.zero_le _⟩ ?_
        refine lv_istore (lv' := [(5, .int (nI (f0 * (i0 % q0) % q0))), (3, .long (lN ((s0 + nn (S 1 k) * f0 % q0) % q0))), (0, .ref (Y 0)), (1, .ref (Y 1)), (2, .int (nI i0)), (6, .int (nI k))]) hx hb d_M_at_60 hl (by decide) rfl (fun ls hl => ?_)
        refine lv_iinc (v := (nI (k + 1))) (lv' := [(6, .int (nI (k + 1))), (5, .int (nI (f0 * (i0 % q0) % q0))), (3, .long (lN ((s0 + nn (S 1 k) * f0 % q0) % q0))), (0, .ref (Y 0)), (1, .ref (Y 1)), (2, .int (nI i0))]) hx hb d_M_at_62 hl (k := 5) rfl (nI_1 k) (by decide) rfl (fun ls hl => ?_)
        refine lv_goto (tgt := 13) hx hb d_M_at_65 (by decide) ?_
        exact ih (k + 1) _ _ ls (by omega) (by omega) (by rw [hs, hf, mz_sumturn]; rfl) (by rw [hf, Nat.pow_succ, ← Nat.mul_mod]) (lv_sub hl [3, 4, 5, 2, 1, 0] rfl)
  refine lv_lconst (v := (lN 0)) hx hb d_M_at_0 (by decide) ?_
  refine lv_lstore_n (lv' := [(3, .long (lN 0)), (0, .ref (Y 0)), (1, .ref (Y 1)), (2, .int (nI i0))]) hx hb d_M_at_1 rfl hl (by decide) rfl (fun ls hl => ?_)
  refine lv_iconst (v := (nI 1)) hx hb d_M_at_2 (by decide) ?_
  refine lv_aload_n hx hb d_M_at_3 rfl (lv_at hl 1 rfl) ?_
  refine va_get (D := (dC, dI)) (ci := 3) (v := .int (nI q0)) (C := "DealtSecretModel") (T := T_M) (N := 24) hx hb hts i_M hown hK hP 0 rfl rfl 1 (by decide) (hts _ k_444) (fun _ h9 => h9) rfl d_M_at_4 ?_
  refine lv_irem hx hb d_M_at_7 (nz_ine (by omega) okq) ?_
  refine x_i (y := nI (1 % q0)) (pk_rem (by omega) (by omega) okq) ?_
  refine lv_istore (lv' := [(5, .int (nI (1 % q0))), (3, .long (lN 0)), (0, .ref (Y 0)), (1, .ref (Y 1)), (2, .int (nI i0))]) hx hb d_M_at_8 hl (by decide) rfl (fun ls hl => ?_)
  refine lv_iconst (v := (nI 0)) hx hb d_M_at_10 (by decide) ?_
  refine lv_istore (lv' := [(6, .int (nI 0)), (5, .int (nI (1 % q0))), (3, .long (lN 0)), (0, .ref (Y 0)), (1, .ref (Y 1)), (2, .int (nI i0))]) hx hb d_M_at_11 hl (by decide) rfl (fun ls hl => ?_)
  exact loop (t0 + 1) 0 0 (1 % q0) ls (by omega) (by omega) (Nat.zero_mod _).symm rfl (lv_sub hl [3, 4, 5, 2, 1, 0] rfl)
set_option maxRecDepth 100000 in
set_option maxHeartbeats 4000000 in
/-- at(b, i) -/
theorem c_M_at_b (l : Launch) (dC : Nat → ClassId) (dI : Nat → Nat → Nat) (Y : Nat → Nat) (cI cZ : ClassId) (p0 q0 g0 h0 : Nat) (S : Nat → Nat → Int32) (i0 t0 : Nat) (ok : okG p0 q0 g0 h0) (hi0 : i0 < 2 ^ 31) (ht : S 0 3 = nI t0) (ht7 : t0 ≤ 7) (hC : ∀ k, k < t0 → okN (S 2 k) q0) : Ro l y_M_at ws_M_at 1 22 [.ref (Y 0), .ref (Y 2), .int (nI i0)] (bM dC dI Y cI cZ p0 q0 g0 h0 S) (nI (mz_ps (fun k => nn (S 2 k)) i0 t0 % q0)) := by
  refine Met.ofW (cc := b_M_at) (maxL := 7) (ret := (some .int)) (by decide) rfl ?_
  intro p e s m args below meth c s₁ B hml hv
  obtain ⟨rfl, hP, hK⟩ := hv
  have hx := B.exec
  have hb := B.bytes
  have hr := B.returns
  have hts : ∀ w ∈ AL, w.before ([.ref (Y 0), .ref (Y 2), .int (nI i0)] : List Value).toArray s = true := fun w h => atoms_spec (ws := ws_M_at) B.pre w (List.mem_cons_of_mem _ h)
  have hown : s.vm.findClass "DealtSecretModel" = some m.cls := findClass_of_methodNamed B.named
  have hlk := B.notSynchronized
  have hl := lv_entry ([.ref (Y 0), .ref (Y 2), .int (nI i0)]) (n := 7) (Nat.le_of_ble_eq_true rfl)
  rw [lg_entry_eq]
  generalize (lg_sl ([.ref (Y 0), .ref (Y 2), .int (nI i0)]) ++ List.replicate (7 - (lg_sl ([.ref (Y 0), .ref (Y 2), .int (nI i0)])).length) Slot.unset).toArray = ls at hl ⊢
  have hl : lv_has ls 7 [(0, .ref (Y 0)), (1, .ref (Y 2)), (2, .int (nI i0))] := hl
  obtain ⟨okp2, okp, okq2, okq, okg, okh⟩ := id ok
  have loop : ∀ (n k s0 f0 : Nat) (ls : Array Slot), t0 + 1 ≤ k + n → k ≤ t0 → s0 = mz_ps (fun k => nn (S 2 k)) i0 k % q0 → f0 = i0 ^ k % q0 → lv_has ls 7 [(0, .ref (Y 0)), (1, .ref (Y 2)), (2, .int (nI i0)), (3, .long (lN s0)), (5, .int (nI f0)), (6, .int (nI k))] → W p l e (headSpec ws_M_at { frames := 1, cells := 0, slots := 0, locals := 22 }).room s m [.ref (Y 0), .ref (Y 2), .int (nI i0)].toArray below meth c s.heap [] 0 0 (MQ below (QcRead (nI (mz_ps (fun k => nn (S 2 k)) i0 t0 % q0))) [.ref (Y 0), .ref (Y 2), .int (nI i0)].toArray s 0 0 (fun _ => False)) (F0 m 13 ls []) := by
    intro n
    induction n with
    | zero =>
      intro k s0 f0 ls h1 h2
      omega
    | succ n ih =>
      intro k s0 f0 ls h1 h2 hs hf hl
      have hsq : s0 < q0 := by rw [hs]; exact Nat.mod_lt _ (by omega)
      have hfq : f0 < q0 := by rw [hf]; exact Nat.mod_lt _ (by omega)
      have hiq : i0 % q0 < q0 := Nat.mod_lt _ (by omega)
      refine lv_iload hx hb d_M_at_13 (lv_at hl 5 rfl) ?_
      refine lv_aload_n hx hb d_M_at_15 rfl (lv_at hl 0 rfl) ?_
      refine va_get (D := (dC, dI)) (ci := 3) (v := .int (S 0 3)) (C := "DealtSecretModel") (T := T_M) (N := 24) hx hb hts i_M hown hK hP 0 rfl rfl 7 (by decide) (hts _ k_450) (fun _ h9 => h9) rfl d_M_at_16 ?_
      refine x_i (y := nI t0) (ht) ?_
      refine lv_icmp_ge (tgt := 68) hx hb d_M_at_19 (by decide) (fun c19 => ?_) (fun c19 => ?_)
      · have hk : k = t0 := by
          rcases Nat.lt_or_ge k t0 with q | q
          · exact absurd c19 (nI_ge q (by omega))
          · omega
        subst hk
        refine lv_lload_n hx hb d_M_at_68 rfl (lv_at hl 3 rfl) ?_
        refine lv_l2i (v := (nI s0)) hx hb d_M_at_69 (lN_i s0) ?_
        exact ro_i hx hb hr hlk d_M_at_70 (by rw [hs])
      · have hk : k < t0 := by
          rcases Nat.lt_or_ge k t0 with q | q
          · exact q
          · exact absurd (nI_le q (by omega)) c19
        have hck := hC k hk
        have hckl := hck.lt
        have hcf : nn (S 2 k) * f0 % q0 < q0 := Nat.mod_lt _ (by omega)
        refine lv_lload_n hx hb d_M_at_22 rfl (lv_at hl 3 rfl) ?_
        refine lv_aload_n hx hb d_M_at_23 rfl (lv_at hl 1 rfl) ?_
        refine lv_iload hx hb d_M_at_24 (lv_at hl 5 rfl) ?_
        refine va_iald hx hb hK hP 2 0 rfl rfl (vp_in_nI (by omega) (by decide)) d_M_at_26 ?_
        refine x_i (y := S 2 k) (by rw [nI_clamp (by omega)]) ?_
        refine x_i (y := nI (nn (S 2 k))) (hck.eq) ?_
        refine lv_iload hx hb d_M_at_27 (lv_at hl 4 rfl) ?_
        refine lv_aload_n hx hb d_M_at_29 rfl (lv_at hl 0 rfl) ?_
        refine va_get (D := (dC, dI)) (ci := 3) (v := .int (nI q0)) (C := "DealtSecretModel") (T := T_M) (N := 24) hx hb hts i_M hown hK hP 0 rfl rfl 1 (by decide) (hts _ k_444) (fun _ h9 => h9) rfl d_M_at_30 ?_
        refine ro_S (As := [.int (nI (nn (S 2 k))), .int (nI f0), .int (nI q0)]) (rest := [.long (lN s0)]) ⟨hx, hb, hml, hown, hts⟩ (c_M_times l (nn (S 2 k)) f0 q0 (by omega) (by omega) (by omega) (by omega)) (va_cwS 3 hts (al_S k_440 k_441 k_4 k_442) rfl rfl rfl (by decide +kernel) ⟨Nat.le_of_ble_eq_true rfl, Nat.le_of_ble_eq_true rfl⟩) (fun _ _ _ _ h => h) (fun _ _ _ => trivial) rfl hl.1 rfl (lv_room (Nat.le_of_ble_eq_true rfl)) d_M_at_33 ⟨Nat.zero_le _, Nat.zero_le _⟩ ?_
        refine lv_i2l (v := (lN (nn (S 2 k) * f0 % q0))) hx hb d_M_at_36 (nI_l (by omega)) ?_
        refine lv_ladd hx hb d_M_at_37 ?_
        refine x_l (y := lN (s0 + nn (S 2 k) * f0 % q0)) (lN_add _ _) ?_
        refine lv_aload_n hx hb d_M_at_38 rfl (lv_at hl 0 rfl) ?_
        refine va_get (D := (dC, dI)) (ci := 3) (v := .int (nI q0)) (C := "DealtSecretModel") (T := T_M) (N := 24) hx hb hts i_M hown hK hP 0 rfl rfl 1 (by decide) (hts _ k_444) (fun _ h9 => h9) rfl d_M_at_39 ?_
        refine lv_i2l (v := (lN q0)) hx hb d_M_at_42 (nI_l okq) ?_
        refine lv_lrem hx hb d_M_at_43 (nz_lne (by omega) okq) ?_
        refine x_l (y := lN ((s0 + nn (S 2 k) * f0 % q0) % q0)) (nz_lrem (by omega) (by omega) okq) ?_
        refine lv_lstore_n (lv' := [(3, .long (lN ((s0 + nn (S 2 k) * f0 % q0) % q0))), (0, .ref (Y 0)), (1, .ref (Y 2)), (2, .int (nI i0)), (5, .int (nI f0)), (6, .int (nI k))]) hx hb d_M_at_44 rfl hl (by decide) rfl (fun ls hl => ?_)
        refine lv_iload hx hb d_M_at_45 (lv_at hl 4 rfl) ?_
        refine lv_iload_n hx hb d_M_at_47 rfl (lv_at hl 3 rfl) ?_
        refine lv_aload_n hx hb d_M_at_48 rfl (lv_at hl 1 rfl) ?_
        refine va_get (D := (dC, dI)) (ci := 3) (v := .int (nI q0)) (C := "DealtSecretModel") (T := T_M) (N := 24) hx hb hts i_M hown hK hP 0 rfl rfl 1 (by decide) (hts _ k_444) (fun _ h9 => h9) rfl d_M_at_49 ?_
        refine lv_irem hx hb d_M_at_52 (nz_ine (by omega) okq) ?_
        refine x_i (y := nI (i0 % q0)) (pk_rem hi0 (by omega) okq) ?_
        refine lv_aload_n hx hb d_M_at_53 rfl (lv_at hl 1 rfl) ?_
        refine va_get (D := (dC, dI)) (ci := 3) (v := .int (nI q0)) (C := "DealtSecretModel") (T := T_M) (N := 24) hx hb hts i_M hown hK hP 0 rfl rfl 1 (by decide) (hts _ k_444) (fun _ h9 => h9) rfl d_M_at_54 ?_
        refine ro_S (As := [.int (nI f0), .int (nI (i0 % q0)), .int (nI q0)]) (rest := []) ⟨hx, hb, hml, hown, hts⟩ (c_M_times l f0 (i0 % q0) q0 (by omega) (by omega) (by omega) (by omega)) (va_cwS 3 hts (al_S k_440 k_441 k_4 k_442) rfl rfl rfl (by decide +kernel) ⟨Nat.le_of_ble_eq_true rfl, Nat.le_of_ble_eq_true rfl⟩) (fun _ _ _ _ h => h) (fun _ _ _ => trivial) rfl hl.1 rfl (lv_room (Nat.le_of_ble_eq_true rfl)) d_M_at_57 ⟨Nat.zero_le _, Nat.zero_le _⟩ ?_
        refine lv_istore (lv' := [(5, .int (nI (f0 * (i0 % q0) % q0))), (3, .long (lN ((s0 + nn (S 2 k) * f0 % q0) % q0))), (0, .ref (Y 0)), (1, .ref (Y 2)), (2, .int (nI i0)), (6, .int (nI k))]) hx hb d_M_at_60 hl (by decide) rfl (fun ls hl => ?_)
        refine lv_iinc (v := (nI (k + 1))) (lv' := [(6, .int (nI (k + 1))), (5, .int (nI (f0 * (i0 % q0) % q0))), (3, .long (lN ((s0 + nn (S 2 k) * f0 % q0) % q0))), (0, .ref (Y 0)), (1, .ref (Y 2)), (2, .int (nI i0))]) hx hb d_M_at_62 hl (k := 5) rfl (nI_1 k) (by decide) rfl (fun ls hl => ?_)
        refine lv_goto (tgt := 13) hx hb d_M_at_65 (by decide) ?_
        exact ih (k + 1) _ _ ls (by omega) (by omega) (by rw [hs, hf, mz_sumturn]; rfl) (by rw [hf, Nat.pow_succ, ← Nat.mul_mod]) (lv_sub hl [3, 4, 5, 2, 1, 0] rfl)
  refine lv_lconst (v := (lN 0)) hx hb d_M_at_0 (by decide) ?_
  refine lv_lstore_n (lv' := [(3, .long (lN 0)), (0, .ref (Y 0)), (1, .ref (Y 2)), (2, .int (nI i0))]) hx hb d_M_at_1 rfl hl (by decide) rfl (fun ls hl => ?_)
  refine lv_iconst (v := (nI 1)) hx hb d_M_at_2 (by decide) ?_
  refine lv_aload_n hx hb d_M_at_3 rfl (lv_at hl 1 rfl) ?_
  refine va_get (D := (dC, dI)) (ci := 3) (v := .int (nI q0)) (C := "DealtSecretModel") (T := T_M) (N := 24) hx hb hts i_M hown hK hP 0 rfl rfl 1 (by decide) (hts _ k_444) (fun _ h9 => h9) rfl d_M_at_4 ?_
  refine lv_irem hx hb d_M_at_7 (nz_ine (by omega) okq) ?_
  refine x_i (y := nI (1 % q0)) (pk_rem (by omega) (by omega) okq) ?_
  refine lv_istore (lv' := [(5, .int (nI (1 % q0))), (3, .long (lN 0)), (0, .ref (Y 0)), (1, .ref (Y 2)), (2, .int (nI i0))]) hx hb d_M_at_8 hl (by decide) rfl (fun ls hl => ?_)
  refine lv_iconst (v := (nI 0)) hx hb d_M_at_10 (by decide) ?_
  refine lv_istore (lv' := [(6, .int (nI 0)), (5, .int (nI (1 % q0))), (3, .long (lN 0)), (0, .ref (Y 0)), (1, .ref (Y 2)), (2, .int (nI i0))]) hx hb d_M_at_11 hl (by decide) rfl (fun ls hl => ?_)
  exact loop (t0 + 1) 0 0 (1 % q0) ls (by omega) (by omega) (Nat.zero_mod _).symm rfl (lv_sub hl [3, 4, 5, 2, 1, 0] rfl)
