set_option maxRecDepth 100000 in
set_option maxHeartbeats 4000000 in
/-- product(x, y) -/
theorem c_G_product (l : Launch) (dC : Nat → ClassId) (dI : Nat → Nat → Nat) (gr p0 q0 g0 h0 : Nat) (x0 y0 : Nat) (hx0 : x0 < 2 ^ 31) (hy0 : y0 < 2 ^ 31) (h1 : 0 < p0) (hm0 : p0 < 2 ^ 31) : Ro l y_G_product ws_G_product 0 0 [.ref gr, .int (nI x0), .int (nI y0)] (bG dC dI gr p0 q0 g0 h0) (nI (x0 * y0 % p0)) := by
  refine Met.ofW (cc := b_G_product) (maxL := 3) (ret := (some .int)) (by decide) rfl ?_
  intro p e s m args below meth c s₁ B hml hv
  obtain ⟨rfl, hP, hK⟩ := hv
  have hx := B.exec
  have hb := B.bytes
  have hr := B.returns
  have hts : ∀ w ∈ AL, w.before ([.ref gr, .int (nI x0), .int (nI y0)] : List Value).toArray s = true := fun w h => atoms_spec (ws := ws_G_product) B.pre w (List.mem_cons_of_mem _ h)
  have hown : s.vm.findClass "DealtSecret$Group" = some m.cls := findClass_of_methodNamed B.named
  have hlk := B.notSynchronized
  have hl := lv_entry ([.ref gr, .int (nI x0), .int (nI y0)]) (n := 3) (Nat.le_of_ble_eq_true rfl)
  rw [lg_entry_eq]
  generalize (lg_sl ([.ref gr, .int (nI x0), .int (nI y0)]) ++ List.replicate (3 - (lg_sl ([.ref gr, .int (nI x0), .int (nI y0)])).length) Slot.unset).toArray = ls at hl ⊢
  have hl : lv_has ls 3 [(0, .ref gr), (1, .int (nI x0)), (2, .int (nI y0))] := hl
  have hxy := nz_m31 hx0 hy0
  refine lv_iload_n hx hb d_G_product_0 rfl (lv_at hl 1 rfl) ?_
  refine lv_i2l (v := (lN x0)) hx hb d_G_product_1 (nI_l hx0) ?_
  refine lv_iload_n hx hb d_G_product_2 rfl (lv_at hl 2 rfl) ?_
  refine lv_i2l (v := (lN y0)) hx hb d_G_product_3 (nI_l hy0) ?_
  refine lv_lmul hx hb d_G_product_4 ?_
  refine x_l (y := lN (x0 * y0)) (lN_mul _ _) ?_
  refine lv_aload_n hx hb d_G_product_5 rfl (lv_at hl 0 rfl) ?_
  refine va_get (D := (dC, dI)) (ci := 0) (v := .int (nI p0)) (C := "DealtSecret$Group") (T := T_G) (N := 4) hx hb hts i_G hown hK hP 0 rfl rfl 0 (by decide) (hts _ k_42) (fun _ h9 => h9) rfl d_G_product_6 ?_
  refine lv_i2l (v := (lN p0)) hx hb d_G_product_9 (nI_l hm0) ?_
  refine lv_lrem hx hb d_G_product_10 (nz_lne h1 hm0) ?_
  refine x_l (y := lN (x0 * y0 % p0)) (nz_lrem hxy h1 hm0) ?_
  refine lv_l2i (v := (nI (x0 * y0 % p0))) hx hb d_G_product_11 (lN_i _) ?_
  exact ro_i hx hb hr hlk d_G_product_12 (rfl)
set_option maxRecDepth 100000 in
set_option maxHeartbeats 4000000 in
/-- times(x, y) -/
theorem c_G_times (l : Launch) (dC : Nat → ClassId) (dI : Nat → Nat → Nat) (gr p0 q0 g0 h0 : Nat) (x0 y0 : Nat) (hx0 : x0 < 2 ^ 31) (hy0 : y0 < 2 ^ 31) (h1 : 0 < q0) (hm0 : q0 < 2 ^ 31) : Ro l y_G_times ws_G_times 0 0 [.ref gr, .int (nI x0), .int (nI y0)] (bG dC dI gr p0 q0 g0 h0) (nI (x0 * y0 % q0)) := by
  refine Met.ofW (cc := b_G_times) (maxL := 3) (ret := (some .int)) (by decide) rfl ?_
  intro p e s m args below meth c s₁ B hml hv
  obtain ⟨rfl, hP, hK⟩ := hv
  have hx := B.exec
  have hb := B.bytes
  have hr := B.returns
  have hts : ∀ w ∈ AL, w.before ([.ref gr, .int (nI x0), .int (nI y0)] : List Value).toArray s = true := fun w h => atoms_spec (ws := ws_G_times) B.pre w (List.mem_cons_of_mem _ h)
  have hown : s.vm.findClass "DealtSecret$Group" = some m.cls := findClass_of_methodNamed B.named
  have hlk := B.notSynchronized
  have hl := lv_entry ([.ref gr, .int (nI x0), .int (nI y0)]) (n := 3) (Nat.le_of_ble_eq_true rfl)
  rw [lg_entry_eq]
  generalize (lg_sl ([.ref gr, .int (nI x0), .int (nI y0)]) ++ List.replicate (3 - (lg_sl ([.ref gr, .int (nI x0), .int (nI y0)])).length) Slot.unset).toArray = ls at hl ⊢
  have hl : lv_has ls 3 [(0, .ref gr), (1, .int (nI x0)), (2, .int (nI y0))] := hl
  have hxy := nz_m31 hx0 hy0
  refine lv_iload_n hx hb d_G_times_0 rfl (lv_at hl 1 rfl) ?_
  refine lv_i2l (v := (lN x0)) hx hb d_G_times_1 (nI_l hx0) ?_
  refine lv_iload_n hx hb d_G_times_2 rfl (lv_at hl 2 rfl) ?_
  refine lv_i2l (v := (lN y0)) hx hb d_G_times_3 (nI_l hy0) ?_
  refine lv_lmul hx hb d_G_times_4 ?_
  refine x_l (y := lN (x0 * y0)) (lN_mul _ _) ?_
  refine lv_aload_n hx hb d_G_times_5 rfl (lv_at hl 0 rfl) ?_
  refine va_get (D := (dC, dI)) (ci := 0) (v := .int (nI q0)) (C := "DealtSecret$Group") (T := T_G) (N := 4) hx hb hts i_G hown hK hP 0 rfl rfl 1 (by decide) (hts _ k_44) (fun _ h9 => h9) rfl d_G_times_6 ?_
  refine lv_i2l (v := (lN q0)) hx hb d_G_times_9 (nI_l hm0) ?_
  refine lv_lrem hx hb d_G_times_10 (nz_lne h1 hm0) ?_
  refine x_l (y := lN (x0 * y0 % q0)) (nz_lrem hxy h1 hm0) ?_
  refine lv_l2i (v := (nI (x0 * y0 % q0))) hx hb d_G_times_11 (lN_i _) ?_
  exact ro_i hx hb hr hlk d_G_times_12 (rfl)
set_option maxRecDepth 100000 in
set_option maxHeartbeats 4000000 in
/-- plus(x, y) -/
theorem c_G_plus (l : Launch) (dC : Nat → ClassId) (dI : Nat → Nat → Nat) (gr p0 q0 g0 h0 : Nat) (x0 y0 : Nat) (hx0 : x0 < 2 ^ 31) (hy0 : y0 < 2 ^ 31) (h1 : 0 < q0) (hm0 : q0 < 2 ^ 31) : Ro l y_G_plus ws_G_plus 0 0 [.ref gr, .int (nI x0), .int (nI y0)] (bG dC dI gr p0 q0 g0 h0) (nI ((x0 + y0) % q0)) := by
  refine Met.ofW (cc := b_G_plus) (maxL := 3) (ret := (some .int)) (by decide) rfl ?_
  intro p e s m args below meth c s₁ B hml hv
  obtain ⟨rfl, hP, hK⟩ := hv
  have hx := B.exec
  have hb := B.bytes
  have hr := B.returns
  have hts : ∀ w ∈ AL, w.before ([.ref gr, .int (nI x0), .int (nI y0)] : List Value).toArray s = true := fun w h => atoms_spec (ws := ws_G_plus) B.pre w (List.mem_cons_of_mem _ h)
  have hown : s.vm.findClass "DealtSecret$Group" = some m.cls := findClass_of_methodNamed B.named
  have hlk := B.notSynchronized
  have hl := lv_entry ([.ref gr, .int (nI x0), .int (nI y0)]) (n := 3) (Nat.le_of_ble_eq_true rfl)
  rw [lg_entry_eq]
  generalize (lg_sl ([.ref gr, .int (nI x0), .int (nI y0)]) ++ List.replicate (3 - (lg_sl ([.ref gr, .int (nI x0), .int (nI y0)])).length) Slot.unset).toArray = ls at hl ⊢
  have hl : lv_has ls 3 [(0, .ref gr), (1, .int (nI x0)), (2, .int (nI y0))] := hl
  refine lv_iload_n hx hb d_G_plus_0 rfl (lv_at hl 1 rfl) ?_
  refine lv_i2l (v := (lN x0)) hx hb d_G_plus_1 (nI_l hx0) ?_
  refine lv_iload_n hx hb d_G_plus_2 rfl (lv_at hl 2 rfl) ?_
  refine lv_i2l (v := (lN y0)) hx hb d_G_plus_3 (nI_l hy0) ?_
  refine lv_ladd hx hb d_G_plus_4 ?_
  refine x_l (y := lN (x0 + y0)) (lN_add _ _) ?_
  refine lv_aload_n hx hb d_G_plus_5 rfl (lv_at hl 0 rfl) ?_
  refine va_get (D := (dC, dI)) (ci := 0) (v := .int (nI q0)) (C := "DealtSecret$Group") (T := T_G) (N := 4) hx hb hts i_G hown hK hP 0 rfl rfl 1 (by decide) (hts _ k_44) (fun _ h9 => h9) rfl d_G_plus_6 ?_
  refine lv_i2l (v := (lN q0)) hx hb d_G_plus_9 (nI_l hm0) ?_
  refine lv_lrem hx hb d_G_plus_10 (nz_lne h1 hm0) ?_
  refine x_l (y := lN ((x0 + y0) % q0)) (nz_lrem (by omega) h1 hm0) ?_
  refine lv_l2i (v := (nI ((x0 + y0) % q0))) hx hb d_G_plus_11 (lN_i _) ?_
  exact ro_i hx hb hr hlk d_G_plus_12 (rfl)
set_option maxRecDepth 100000 in
set_option maxHeartbeats 4000000 in
/-- power(x, e) = x^e modulo p -/
theorem c_G_power (l : Launch) (dC : Nat → ClassId) (dI : Nat → Nat → Nat) (gr p0 q0 g0 h0 : Nat) (x0 e0 : Nat) (hx0 : x0 < 2 ^ 31) (he0 : e0 < 2 ^ 31) (h2 : 2 ≤ p0) (hm0 : p0 < 2 ^ 31) : Ro l y_G_power ws_G_power 1 27 [.ref gr, .int (nI x0), .int (nI e0)] (bG dC dI gr p0 q0 g0 h0) (nI (x0 ^ e0 % p0)) := by
  refine Met.ofW (cc := b_G_power) (maxL := 3) (ret := (some .int)) (by decide) rfl ?_
  intro p e s m args below meth c s₁ B hml hv
  obtain ⟨rfl, hP, hK⟩ := hv
  have hx := B.exec
  have hb := B.bytes
  have hr := B.returns
  have hts : ∀ w ∈ AL, w.before ([.ref gr, .int (nI x0), .int (nI e0)] : List Value).toArray s = true := fun w h => atoms_spec (ws := ws_G_power) B.pre w (List.mem_cons_of_mem _ h)
  have hown : s.vm.findClass "DealtSecret$Group" = some m.cls := findClass_of_methodNamed B.named
  have hlk := B.notSynchronized
  have hl := lv_entry ([.ref gr, .int (nI x0), .int (nI e0)]) (n := 3) (Nat.le_of_ble_eq_true rfl)
  rw [lg_entry_eq]
  generalize (lg_sl ([.ref gr, .int (nI x0), .int (nI e0)]) ++ List.replicate (3 - (lg_sl ([.ref gr, .int (nI x0), .int (nI e0)])).length) Slot.unset).toArray = ls at hl ⊢
  have hl : lv_has ls 3 [(0, .ref gr), (1, .int (nI x0)), (2, .int (nI e0))] := hl
  refine lv_iload_n hx hb d_G_power_0 rfl (lv_at hl 1 rfl) ?_
  refine lv_iload_n hx hb d_G_power_1 rfl (lv_at hl 2 rfl) ?_
  refine lv_aload_n hx hb d_G_power_2 rfl (lv_at hl 0 rfl) ?_
  refine va_get (D := (dC, dI)) (ci := 0) (v := .int (nI p0)) (C := "DealtSecret$Group") (T := T_G) (N := 4) hx hb hts i_G hown hK hP 0 rfl rfl 0 (by decide) (hts _ k_42) (fun _ h9 => h9) rfl d_G_power_3 ?_
  refine ro_S (As := [.int (nI x0), .int (nI e0), .int (nI p0)]) (rest := []) ⟨hx, hb, hml, hown, hts⟩ (c_G_powerModulo l x0 e0 p0 (by omega) (by omega) (by omega) (by omega)) (va_cwS 3 hts (al_S k_30 k_31 k_2 k_32) rfl rfl rfl (by decide +kernel) ⟨Nat.le_of_ble_eq_true rfl, Nat.le_of_ble_eq_true rfl⟩) (fun _ _ _ _ h => h) (fun _ _ _ => trivial) rfl hl.1 rfl (lv_room (Nat.le_of_ble_eq_true rfl)) d_G_power_6 ⟨Nat.zero_le _, Nat.zero_le _⟩ ?_
  exact ro_i hx hb hr hlk d_G_power_9 (rfl)
set_option maxRecDepth 100000 in
set_option maxHeartbeats 4000000 in
/-- commit(u, v) = g^u h^v modulo p -/
theorem c_G_commit (l : Launch) (dC : Nat → ClassId) (dI : Nat → Nat → Nat) (gr p0 q0 g0 h0 : Nat) (u0 v0 : Nat) (hu0 : u0 < 2 ^ 31) (hv0 : v0 < 2 ^ 31) (hg : g0 < p0) (hh : h0 < p0) (h2 : 2 ≤ p0) (hm0 : p0 < 2 ^ 31) : Ro l y_G_commit ws_G_commit 2 49 [.ref gr, .int (nI u0), .int (nI v0)] (bG dC dI gr p0 q0 g0 h0) (nI ((g0 ^ u0 % p0) * (h0 ^ v0 % p0) % p0)) := by
  refine Met.ofW (cc := b_G_commit) (maxL := 3) (ret := (some .int)) (by decide) rfl ?_
  intro p e s m args below meth c s₁ B hml hv
  obtain ⟨rfl, hP, hK⟩ := hv
  have hx := B.exec
  have hb := B.bytes
  have hr := B.returns
  have hts : ∀ w ∈ AL, w.before ([.ref gr, .int (nI u0), .int (nI v0)] : List Value).toArray s = true := fun w h => atoms_spec (ws := ws_G_commit) B.pre w (List.mem_cons_of_mem _ h)
  have hown : s.vm.findClass "DealtSecret$Group" = some m.cls := findClass_of_methodNamed B.named
  have hlk := B.notSynchronized
  have hl := lv_entry ([.ref gr, .int (nI u0), .int (nI v0)]) (n := 3) (Nat.le_of_ble_eq_true rfl)
  rw [lg_entry_eq]
  generalize (lg_sl ([.ref gr, .int (nI u0), .int (nI v0)]) ++ List.replicate (3 - (lg_sl ([.ref gr, .int (nI u0), .int (nI v0)])).length) Slot.unset).toArray = ls at hl ⊢
  have hl : lv_has ls 3 [(0, .ref gr), (1, .int (nI u0)), (2, .int (nI v0))] := hl
  have hgu : g0 ^ u0 % p0 < p0 := Nat.mod_lt _ (by omega)
  have hhv : h0 ^ v0 % p0 < p0 := Nat.mod_lt _ (by omega)
  refine lv_aload_n hx hb d_G_commit_0 rfl (lv_at hl 0 rfl) ?_
  refine lv_aload_n hx hb d_G_commit_1 rfl (lv_at hl 0 rfl) ?_
  refine lv_aload_n hx hb d_G_commit_2 rfl (lv_at hl 0 rfl) ?_
  refine va_get (D := (dC, dI)) (ci := 0) (v := .int (nI g0)) (C := "DealtSecret$Group") (T := T_G) (N := 4) hx hb hts i_G hown hK hP 0 rfl rfl 2 (by decide) (hts _ k_46) (fun _ h9 => h9) rfl d_G_commit_3 ?_
  refine lv_iload_n hx hb d_G_commit_6 rfl (lv_at hl 1 rfl) ?_
  refine ro_V (As := [.int (nI g0), .int (nI u0)]) (rest := [.ref gr]) (b := gr) ⟨hx, hb, hml, hown, hts⟩ (c_G_power l dC dI gr p0 q0 g0 h0 g0 u0 (by omega) (by omega) (by omega) (by omega)) (cwV 2 hts (al_V k_173 k_174 k_175 k_2 k_176) rfl rfl rfl (by decide +kernel) ⟨Nat.le_of_ble_eq_true rfl, Nat.le_of_ble_eq_true rfl⟩) (fun U g mk a h => ⟨h.1, va_K.moved (u := U) (U := U.calling g mk a) (Vm.Alike.refl U.vm) h.2⟩) (va_recv hK hP (ci := 0) (q0 := 0) rfl rfl) (fun U hU hW => ⟨by rw [hU]; exact hP, va_K.moved hW.alike hK⟩) rfl hl.1 rfl (lv_room (Nat.le_of_ble_eq_true rfl)) d_G_commit_7 ⟨Nat.zero_le _, Nat.zero_le _⟩ ?_
  refine lv_aload_n hx hb d_G_commit_10 rfl (lv_at hl 0 rfl) ?_
  refine lv_aload_n hx hb d_G_commit_11 rfl (lv_at hl 0 rfl) ?_
  refine va_get (D := (dC, dI)) (ci := 0) (v := .int (nI h0)) (C := "DealtSecret$Group") (T := T_G) (N := 4) hx hb hts i_G hown hK hP 0 rfl rfl 3 (by decide) (hts _ k_48) (fun _ h9 => h9) rfl d_G_commit_12 ?_
  refine lv_iload_n hx hb d_G_commit_15 rfl (lv_at hl 2 rfl) ?_
  refine ro_V (As := [.int (nI h0), .int (nI v0)]) (rest := [.int (nI (g0 ^ u0 % p0)), .ref gr]) (b := gr) ⟨hx, hb, hml, hown, hts⟩ (c_G_power l dC dI gr p0 q0 g0 h0 h0 v0 (by omega) (by omega) (by omega) (by omega)) (cwV 2 hts (al_V k_173 k_174 k_175 k_2 k_176) rfl rfl rfl (by decide +kernel) ⟨Nat.le_of_ble_eq_true rfl, Nat.le_of_ble_eq_true rfl⟩) (fun U g mk a h => ⟨h.1, va_K.moved (u := U) (U := U.calling g mk a) (Vm.Alike.refl U.vm) h.2⟩) (va_recv hK hP (ci := 0) (q0 := 0) rfl rfl) (fun U hU hW => ⟨by rw [hU]; exact hP, va_K.moved hW.alike hK⟩) rfl hl.1 rfl (lv_room (Nat.le_of_ble_eq_true rfl)) d_G_commit_16 ⟨Nat.zero_le _, Nat.zero_le _⟩ ?_
  refine ro_V (As := [.int (nI (g0 ^ u0 % p0)), .int (nI (h0 ^ v0 % p0))]) (rest := []) (b := gr) ⟨hx, hb, hml, hown, hts⟩ (c_G_product l dC dI gr p0 q0 g0 h0 (g0 ^ u0 % p0) (h0 ^ v0 % p0) (by omega) (by omega) (by omega) (by omega)) (cwV 2 hts (al_V k_177 k_178 k_179 k_2 k_180) rfl rfl rfl (by decide +kernel) ⟨Nat.le_of_ble_eq_true rfl, Nat.le_of_ble_eq_true rfl⟩) (fun U g mk a h => ⟨h.1, va_K.moved (u := U) (U := U.calling g mk a) (Vm.Alike.refl U.vm) h.2⟩) (va_recv hK hP (ci := 0) (q0 := 0) rfl rfl) (fun U hU hW => ⟨by rw [hU]; exact hP, va_K.moved hW.alike hK⟩) rfl hl.1 rfl (lv_room (Nat.le_of_ble_eq_true rfl)) d_G_commit_19 ⟨Nat.zero_le _, Nat.zero_le _⟩ ?_
  exact ro_i hx hb hr hlk d_G_commit_22 (rfl)
set_option maxRecDepth 100000 in
set_option maxHeartbeats 4000000 in
/-- number(x) = x modulo q -/
theorem c_G_number (l : Launch) (dC : Nat → ClassId) (dI : Nat → Nat → Nat) (gr p0 q0 g0 h0 : Nat) (x0 : Int32) (h1 : 0 < q0) (hm0 : q0 < 2 ^ 31) : Ro l y_G_number ws_G_number 1 22 [.ref gr, .int x0] (bG dC dI gr p0 q0 g0 h0) (nI (md x0 q0)) := by
  refine Met.ofW (cc := b_G_number) (maxL := 2) (ret := (some .int)) (by decide) rfl ?_
  intro p e s m args below meth c s₁ B hml hv
  obtain ⟨rfl, hP, hK⟩ := hv
  have hx := B.exec
  have hb := B.bytes
  have hr := B.returns
  have hts : ∀ w ∈ AL, w.before ([.ref gr, .int x0] : List Value).toArray s = true := fun w h => atoms_spec (ws := ws_G_number) B.pre w (List.mem_cons_of_mem _ h)
  have hown : s.vm.findClass "DealtSecret$Group" = some m.cls := findClass_of_methodNamed B.named
  have hlk := B.notSynchronized
  have hl := lv_entry ([.ref gr, .int x0]) (n := 2) (Nat.le_of_ble_eq_true rfl)
  rw [lg_entry_eq]
  generalize (lg_sl ([.ref gr, .int x0]) ++ List.replicate (2 - (lg_sl ([.ref gr, .int x0])).length) Slot.unset).toArray = ls at hl ⊢
  have hl : lv_has ls 2 [(0, .ref gr), (1, .int x0)] := hl
  refine lv_iload_n hx hb d_G_number_0 rfl (lv_at hl 1 rfl) ?_
  refine lv_aload_n hx hb d_G_number_1 rfl (lv_at hl 0 rfl) ?_
  refine va_get (D := (dC, dI)) (ci := 0) (v := .int (nI q0)) (C := "DealtSecret$Group") (T := T_G) (N := 4) hx hb hts i_G hown hK hP 0 rfl rfl 1 (by decide) (hts _ k_44) (fun _ h9 => h9) rfl d_G_number_2 ?_
  refine ro_S (As := [.int x0, .int (nI q0)]) (rest := []) ⟨hx, hb, hml, hown, hts⟩ (c_J_floorMod l x0 q0 h1 hm0) (va_cwS 2 hts (al_S k_292 k_293 k_11 k_294) rfl rfl rfl (by decide +kernel) ⟨Nat.le_of_ble_eq_true rfl, Nat.le_of_ble_eq_true rfl⟩) (fun _ _ _ _ h => h) (fun _ _ _ => trivial) rfl hl.1 rfl (lv_room (Nat.le_of_ble_eq_true rfl)) d_G_number_5 ⟨Nat.zero_le _, Nat.zero_le _⟩ ?_
  exact ro_i hx hb hr hlk d_G_number_8 (rfl)
set_option maxRecDepth 100000 in
set_option maxHeartbeats 4000000 in
/-- minus(x, y) modulo q -/
theorem c_G_minus (l : Launch) (dC : Nat → ClassId) (dI : Nat → Nat → Nat) (gr p0 q0 g0 h0 : Nat) (x0 y0 : Nat) (h1 : 0 < q0) (hm0 : q0 < 2 ^ 31) : Ro l y_G_minus ws_G_minus 2 43 [.ref gr, .int (nI x0), .int (nI y0)] (bG dC dI gr p0 q0 g0 h0) (nI (md (nI x0 - nI y0) q0)) := by
  refine Met.ofW (cc := b_G_minus) (maxL := 3) (ret := (some .int)) (by decide) rfl ?_
  intro p e s m args below meth c s₁ B hml hv
  obtain ⟨rfl, hP, hK⟩ := hv
  have hx := B.exec
  have hb := B.bytes
  have hr := B.returns
  have hts : ∀ w ∈ AL, w.before ([.ref gr, .int (nI x0), .int (nI y0)] : List Value).toArray s = true := fun w h => atoms_spec (ws := ws_G_minus) B.pre w (List.mem_cons_of_mem _ h)
  have hown : s.vm.findClass "DealtSecret$Group" = some m.cls := findClass_of_methodNamed B.named
  have hlk := B.notSynchronized
  have hl := lv_entry ([.ref gr, .int (nI x0), .int (nI y0)]) (n := 3) (Nat.le_of_ble_eq_true rfl)
  rw [lg_entry_eq]
  generalize (lg_sl ([.ref gr, .int (nI x0), .int (nI y0)]) ++ List.replicate (3 - (lg_sl ([.ref gr, .int (nI x0), .int (nI y0)])).length) Slot.unset).toArray = ls at hl ⊢
  have hl : lv_has ls 3 [(0, .ref gr), (1, .int (nI x0)), (2, .int (nI y0))] := hl
  refine lv_aload_n hx hb d_G_minus_0 rfl (lv_at hl 0 rfl) ?_
  refine lv_iload_n hx hb d_G_minus_1 rfl (lv_at hl 1 rfl) ?_
  refine lv_iload_n hx hb d_G_minus_2 rfl (lv_at hl 2 rfl) ?_
  refine lv_isub hx hb d_G_minus_3 ?_
  refine ro_V (As := [.int ((nI x0) - (nI y0))]) (rest := []) (b := gr) ⟨hx, hb, hml, hown, hts⟩ (c_G_number l dC dI gr p0 q0 g0 h0 (nI x0 - nI y0) h1 hm0) (cwV 1 hts (al_V k_396 k_289 k_290 k_2 k_291) rfl rfl rfl (by decide +kernel) ⟨Nat.le_of_ble_eq_true rfl, Nat.le_of_ble_eq_true rfl⟩) (fun U g mk a h => ⟨h.1, va_K.moved (u := U) (U := U.calling g mk a) (Vm.Alike.refl U.vm) h.2⟩) (va_recv hK hP (ci := 0) (q0 := 0) rfl rfl) (fun U hU hW => ⟨by rw [hU]; exact hP, va_K.moved hW.alike hK⟩) rfl hl.1 rfl (lv_room (Nat.le_of_ble_eq_true rfl)) d_G_minus_4 ⟨Nat.zero_le _, Nat.zero_le _⟩ ?_
  exact ro_i hx hb hr hlk d_G_minus_7 (rfl)
set_option maxRecDepth 100000 in
set_option maxHeartbeats 4000000 in
/-- quotient(x, y) = x y^(q-2) modulo q -/
theorem c_G_quotient (l : Launch) (dC : Nat → ClassId) (dI : Nat → Nat → Nat) (gr p0 q0 g0 h0 : Nat) (x0 y0 : Nat) (hx0 : x0 < 2 ^ 31) (hy0 : y0 < 2 ^ 31) (h2 : 2 ≤ q0) (hm0 : q0 < 2 ^ 31) : Ro l y_G_quotient ws_G_quotient 1 27 [.ref gr, .int (nI x0), .int (nI y0)] (bG dC dI gr p0 q0 g0 h0) (nI (x0 * (y0 ^ (q0 - 2) % q0) % q0)) := by
  refine Met.ofW (cc := b_G_quotient) (maxL := 3) (ret := (some .int)) (by decide) rfl ?_
  intro p e s m args below meth c s₁ B hml hv
  obtain ⟨rfl, hP, hK⟩ := hv
  have hx := B.exec
  have hb := B.bytes
  have hr := B.returns
  have hts : ∀ w ∈ AL, w.before ([.ref gr, .int (nI x0), .int (nI y0)] : List Value).toArray s = true := fun w h => atoms_spec (ws := ws_G_quotient) B.pre w (List.mem_cons_of_mem _ h)
  have hown : s.vm.findClass "DealtSecret$Group" = some m.cls := findClass_of_methodNamed B.named
  have hlk := B.notSynchronized
  have hl := lv_entry ([.ref gr, .int (nI x0), .int (nI y0)]) (n := 3) (Nat.le_of_ble_eq_true rfl)
  rw [lg_entry_eq]
  generalize (lg_sl ([.ref gr, .int (nI x0), .int (nI y0)]) ++ List.replicate (3 - (lg_sl ([.ref gr, .int (nI x0), .int (nI y0)])).length) Slot.unset).toArray = ls at hl ⊢
  have hl : lv_has ls 3 [(0, .ref gr), (1, .int (nI x0)), (2, .int (nI y0))] := hl
  have hyq : y0 ^ (q0 - 2) % q0 < q0 := Nat.mod_lt _ (by omega)
  refine lv_aload_n hx hb d_G_quotient_0 rfl (lv_at hl 0 rfl) ?_
  refine lv_iload_n hx hb d_G_quotient_1 rfl (lv_at hl 1 rfl) ?_
  refine lv_iload_n hx hb d_G_quotient_2 rfl (lv_at hl 2 rfl) ?_
  refine lv_aload_n hx hb d_G_quotient_3 rfl (lv_at hl 0 rfl) ?_
  refine va_get (D := (dC, dI)) (ci := 0) (v := .int (nI q0)) (C := "DealtSecret$Group") (T := T_G) (N := 4) hx hb hts i_G hown hK hP 0 rfl rfl 1 (by decide) (hts _ k_44) (fun _ h9 => h9) rfl d_G_quotient_4 ?_
  refine lv_iconst (v := (nI 2)) hx hb d_G_quotient_7 (by decide) ?_
  refine lv_isub hx hb d_G_quotient_8 ?_
  refine x_i (y := nI (q0 - 2)) (pk_sub (by omega)) ?_
  refine lv_aload_n hx hb d_G_quotient_9 rfl (lv_at hl 0 rfl) ?_
  refine va_get (D := (dC, dI)) (ci := 0) (v := .int (nI q0)) (C := "DealtSecret$Group") (T := T_G) (N := 4) hx hb hts i_G hown hK hP 0 rfl rfl 1 (by decide) (hts _ k_44) (fun _ h9 => h9) rfl d_G_quotient_10 ?_
  refine ro_S (As := [.int (nI y0), .int (nI (q0 - 2)), .int (nI q0)]) (rest := [.int (nI x0), .ref gr]) ⟨hx, hb, hml, hown, hts⟩ (c_G_powerModulo l y0 (q0 - 2) q0 (by omega) (by omega) (by omega) (by omega)) (va_cwS 3 hts (al_S k_30 k_31 k_2 k_32) rfl rfl rfl (by decide +kernel) ⟨Nat.le_of_ble_eq_true rfl, Nat.le_of_ble_eq_true rfl⟩) (fun _ _ _ _ h => h) (fun _ _ _ => trivial) rfl hl.1 rfl (lv_room (Nat.le_of_ble_eq_true rfl)) d_G_quotient_13 ⟨Nat.zero_le _, Nat.zero_le _⟩ ?_
  refine ro_V (As := [.int (nI x0), .int (nI (y0 ^ (q0 - 2) % q0))]) (rest := []) (b := gr) ⟨hx, hb, hml, hown, hts⟩ (c_G_times l dC dI gr p0 q0 g0 h0 x0 (y0 ^ (q0 - 2) % q0) (by omega) (by omega) (by omega) (by omega)) (cwV 2 hts (al_V k_401 k_314 k_315 k_2 k_316) rfl rfl rfl (by decide +kernel) ⟨Nat.le_of_ble_eq_true rfl, Nat.le_of_ble_eq_true rfl⟩) (fun U g mk a h => ⟨h.1, va_K.moved (u := U) (U := U.calling g mk a) (Vm.Alike.refl U.vm) h.2⟩) (va_recv hK hP (ci := 0) (q0 := 0) rfl rfl) (fun U hU hW => ⟨by rw [hU]; exact hP, va_K.moved hW.alike hK⟩) rfl hl.1 rfl (lv_room (Nat.le_of_ble_eq_true rfl)) d_G_quotient_16 ⟨Nat.zero_le _, Nat.zero_le _⟩ ?_
  exact ro_i hx hb hr hlk d_G_quotient_19 (rfl)
