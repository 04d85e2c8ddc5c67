/-- what the reference notes of a refusal -/
def rf (a b : Int32) : Int32 := if a = 0 then (if b = 0 then 0 else 2) else 1
def rfa (v : Int32) : Int32 := if v = 0 then 0 else 1
theorem rf_3 (a b : Int32) : rf a b = 0 ∨ rf a b = 1 ∨ rf a b = 2 := by
  unfold rf
  by_cases h : a = 0
  · rw [if_pos h]
    by_cases k : b = 0
    · rw [if_pos k]; exact Or.inl rfl
    · rw [if_neg k]; exact Or.inr (Or.inr rfl)
  · rw [if_neg h]; exact Or.inr (Or.inl rfl)
set_option maxRecDepth 100000 in
set_option maxHeartbeats 4000000 in
/-- refuses(state, argument) -/
theorem c_M_refuses (l : Launch) (dC : Nat → ClassId) (dI : Nat → Nat → Nat) (Y : Nat → Nat) (cI cZ : ClassId) (p0 q0 g0 h0 : Nat) (S : Nat → Nat → Int32) (a b v r : Int32) (hv : rf a b = v) (hra : rfa v = r) : Wr l y_M_refuses ws_M_refuses 0 0 [.ref (Y 0), .int a, .int b] (dC, dI) cls (tysM cI cZ) (wM Y cI cZ p0 q0 g0 h0 (S)) (wM Y cI cZ p0 q0 g0 h0 (up S 0 1 v)) (some (.int r)) := by
  refine Met.ofW (cc := b_M_refuses) (maxL := 3) (ret := (some .boolean)) (by decide) rfl ?_
  intro p e s m args below meth c s₁ B hml hv
  obtain ⟨rfl, hP, hK, hD0⟩ := hv
  have hx := B.exec
  have hb := B.bytes
  have hr := B.returns
  have hts : ∀ w ∈ AL, w.before ([.ref (Y 0), .int a, .int b] : List Value).toArray s = true := fun w h => atoms_spec (ws := ws_M_refuses) B.pre w (List.mem_cons_of_mem _ h)
  have hown : s.vm.findClass "DealtSecretModel" = some m.cls := findClass_of_methodNamed B.named
  have hlk := B.notSynchronized
  have hl := lv_entry ([.ref (Y 0), .int a, .int b]) (n := 3) (Nat.le_of_ble_eq_true rfl)
  rw [lg_entry_eq]
  generalize (lg_sl ([.ref (Y 0), .int a, .int b]) ++ List.replicate (3 - (lg_sl ([.ref (Y 0), .int a, .int b])).length) Slot.unset).toArray = ls at hl ⊢
  have hl : lv_has ls 3 [(0, .ref (Y 0)), (1, .int a), (2, .int b)] := hl
  have hD := w_self hD0
  have hS : va_S (w_A (wM Y cI cZ p0 q0 g0 h0 (S))) s.heap s.heap [] := va_S.rf
  have h3 : v = 0 ∨ v = 1 ∨ v = 2 := by rw [← hv]; exact rf_3 a b
  refine lv_aload_n hx hb d_M_refuses_0 rfl (lv_at hl 0 rfl) ?_
  refine lv_iload_n hx hb d_M_refuses_1 rfl (lv_at hl 1 rfl) ?_
  refine lv_if_eq (tgt := 9) hx hb d_M_refuses_2 (by decide) (fun c2 => ?_) (fun c2 => ?_)
  · refine lv_iload_n hx hb d_M_refuses_9 rfl (lv_at hl 2 rfl) ?_
    refine lv_if_eq (tgt := 17) hx hb d_M_refuses_10 (by decide) (fun c10 => ?_) (fun c10 => ?_)
    · refine lv_iconst (v := 0) hx hb d_M_refuses_17 (by decide) ?_
      refine x_i (y := v) ((show rf a b = 0 from (if_pos c2).trans (if_pos c10)) ▸ hv) ?_
      refine va_put (D := (dC, dI)) (ci := 3) (v := .int v) (ty := .int) (C := "DealtSecretModel") (T := T_M) (N := 24) hx hb hts i_M t_M t_M_ok n_M hown hK hP hD hS 0 rfl rfl 5 (by decide) (hts _ k_448) (fun _ h9 => h9) rfl (by decide +kernel) (rfl) (rfl) (Nat.le_of_ble_eq_true rfl) d_M_refuses_18 (fun H locs hP hD hS => ?_)
      have hP : va_P (dC, dI) cls (wM Y cI cZ p0 q0 g0 h0 (up S 0 1 v)) H := by rw [← w_ms1]; exact hP
      have hD : va_D (w_A (wM Y cI cZ p0 q0 g0 h0 (S))) (wM Y cI cZ p0 q0 g0 h0 (up S 0 1 v)) := by rw [← w_ms1]; exact hD
      refine lv_aload_n hx hb d_M_refuses_21 rfl (lv_at hl 0 rfl) ?_
      refine va_get (D := (dC, dI)) (ci := 3) (v := .int ((up S 0 1 v) 0 1)) (C := "DealtSecretModel") (T := T_M) (N := 24) hx hb hts i_M hown hK hP 0 rfl rfl 5 (by decide) (hts _ k_448) (fun _ h9 => h9) rfl d_M_refuses_22 ?_
      refine x_i (y := v) (up_at _ _ _ _) ?_
      refine lv_if_le (tgt := 32) hx hb d_M_refuses_25 (by decide) (fun c25 => ?_) (fun c25 => ?_)
      · have h0 : v = 0 := by rcases h3 with q | q | q <;> first | exact q | (rw [q] at c25; exact absurd c25 (by decide))
        refine lv_iconst (v := 0) hx hb d_M_refuses_32 (by decide) ?_
        refine x_i (y := r) ((show rfa v = 0 from if_pos h0) ▸ hra) ?_
        exact wr_z hx hb hr hlk (by rw [← hra]; unfold rfa; by_cases q : v = 0 <;> simp only [q, if_true, if_false] <;> rfl) hP hS d_M_refuses_33
      · have h0 : ¬ v = 0 := fun q => c25 (by rw [q]; decide)
        refine lv_iconst (v := 1) hx hb d_M_refuses_28 (by decide) ?_
        refine x_i (y := r) ((show rfa v = 1 from if_neg h0) ▸ hra) ?_
        refine lv_goto (tgt := 33) hx hb d_M_refuses_29 (by decide) ?_
        exact wr_z hx hb hr hlk (by rw [← hra]; unfold rfa; by_cases q : v = 0 <;> simp only [q, if_true, if_false] <;> rfl) hP hS d_M_refuses_33
    · refine lv_iconst (v := 2) hx hb d_M_refuses_13 (by decide) ?_
      refine x_i (y := v) ((show rf a b = 2 from (if_pos c2).trans (if_neg c10)) ▸ hv) ?_
      refine lv_goto (tgt := 18) hx hb d_M_refuses_14 (by decide) ?_
      refine va_put (D := (dC, dI)) (ci := 3) (v := .int v) (ty := .int) (C := "DealtSecretModel") (T := T_M) (N := 24) hx hb hts i_M t_M t_M_ok n_M hown hK hP hD hS 0 rfl rfl 5 (by decide) (hts _ k_448) (fun _ h9 => h9) rfl (by decide +kernel) (rfl) (rfl) (Nat.le_of_ble_eq_true rfl) d_M_refuses_18 (fun H locs hP hD hS => ?_)
      have hP : va_P (dC, dI) cls (wM Y cI cZ p0 q0 g0 h0 (up S 0 1 v)) H := by rw [← w_ms1]; exact hP
      have hD : va_D (w_A (wM Y cI cZ p0 q0 g0 h0 (S))) (wM Y cI cZ p0 q0 g0 h0 (up S 0 1 v)) := by rw [← w_ms1]; exact hD
      refine lv_aload_n hx hb d_M_refuses_21 rfl (lv_at hl 0 rfl) ?_
      refine va_get (D := (dC, dI)) (ci := 3) (v := .int ((up S 0 1 v) 0 1)) (C := "DealtSecretModel") (T := T_M) (N := 24) hx hb hts i_M hown hK hP 0 rfl rfl 5 (by decide) (hts _ k_448) (fun _ h9 => h9) rfl d_M_refuses_22 ?_
      refine x_i (y := v) (up_at _ _ _ _) ?_
      refine lv_if_le (tgt := 32) hx hb d_M_refuses_25 (by decide) (fun c25 => ?_) (fun c25 => ?_)
      · have h0 : v = 0 := by rcases h3 with q | q | q <;> first | exact q | (rw [q] at c25; exact absurd c25 (by decide))
        refine lv_iconst (v := 0) hx hb d_M_refuses_32 (by decide) ?_
        refine x_i (y := r) ((show rfa v = 0 from if_pos h0) ▸ hra) ?_
        exact wr_z hx hb hr hlk (by rw [← hra]; unfold rfa; by_cases q : v = 0 <;> simp only [q, if_true, if_false] <;> rfl) hP hS d_M_refuses_33
      · have h0 : ¬ v = 0 := fun q => c25 (by rw [q]; decide)
        refine lv_iconst (v := 1) hx hb d_M_refuses_28 (by decide) ?_
        refine x_i (y := r) ((show rfa v = 1 from if_neg h0) ▸ hra) ?_
        refine lv_goto (tgt := 33) hx hb d_M_refuses_29 (by decide) ?_
        exact wr_z hx hb hr hlk (by rw [← hra]; unfold rfa; by_cases q : v = 0 <;> simp only [q, if_true, if_false] <;> rfl) hP hS d_M_refuses_33
  · refine lv_iconst (v := 1) hx hb d_M_refuses_5 (by decide) ?_
    refine x_i (y := v) ((show rf a b = 1 from if_neg c2) ▸ hv) ?_
    refine lv_goto (tgt := 18) hx hb d_M_refuses_6 (by decide) ?_
    refine va_put (D := (dC, dI)) (ci := 3) (v := .int v) (ty := .int) (C := "DealtSecretModel") (T := T_M) (N := 24) hx hb hts i_M t_M t_M_ok n_M hown hK hP hD hS 0 rfl rfl 5 (by decide) (hts _ k_448) (fun _ h9 => h9) rfl (by decide +kernel) (rfl) (rfl) (Nat.le_of_ble_eq_true rfl) d_M_refuses_18 (fun H locs hP hD hS => ?_)
    have hP : va_P (dC, dI) cls (wM Y cI cZ p0 q0 g0 h0 (up S 0 1 v)) H := by rw [← w_ms1]; exact hP
    have hD : va_D (w_A (wM Y cI cZ p0 q0 g0 h0 (S))) (wM Y cI cZ p0 q0 g0 h0 (up S 0 1 v)) := by rw [← w_ms1]; exact hD
    refine lv_aload_n hx hb d_M_refuses_21 rfl (lv_at hl 0 rfl) ?_
    refine va_get (D := (dC, dI)) (ci := 3) (v := .int ((up S 0 1 v) 0 1)) (C := "DealtSecretModel") (T := T_M) (N := 24) hx hb hts i_M hown hK hP 0 rfl rfl 5 (by decide) (hts _ k_448) (fun _ h9 => h9) rfl d_M_refuses_22 ?_
    refine x_i (y := v) (up_at _ _ _ _) ?_
    refine lv_if_le (tgt := 32) hx hb d_M_refuses_25 (by decide) (fun c25 => ?_) (fun c25 => ?_)
    · have h0 : v = 0 := by rcases h3 with q | q | q <;> first | exact q | (rw [q] at c25; exact absurd c25 (by decide))
      refine lv_iconst (v := 0) hx hb d_M_refuses_32 (by decide) ?_
      refine x_i (y := r) ((show rfa v = 0 from if_pos h0) ▸ hra) ?_
      exact wr_z hx hb hr hlk (by rw [← hra]; unfold rfa; by_cases q : v = 0 <;> simp only [q, if_true, if_false] <;> rfl) hP hS d_M_refuses_33
    · have h0 : ¬ v = 0 := fun q => c25 (by rw [q]; decide)
      refine lv_iconst (v := 1) hx hb d_M_refuses_28 (by decide) ?_
      refine x_i (y := r) ((show rfa v = 1 from if_neg h0) ▸ hra) ?_
      refine lv_goto (tgt := 33) hx hb d_M_refuses_29 (by decide) ?_
      exact wr_z hx hb hr hlk (by rw [← hra]; unfold rfa; by_cases q : v = 0 <;> simp only [q, if_true, if_false] <;> rfl) hP hS d_M_refuses_33
set_option maxRecDepth 100000 in
set_option maxHeartbeats 4000000 in
/-- thrown() -/
theorem c_M_thrown (l : Launch) (dC : Nat → ClassId) (dI : Nat → Nat → Nat) (Y : Nat → Nat) (cI cZ : ClassId) (p0 q0 g0 h0 : Nat) (S : Nat → Nat → Int32) : Ro l y_M_thrown ws_M_thrown 0 0 [.ref (Y 0)] (bM dC dI Y cI cZ p0 q0 g0 h0 S) (S 0 1) := by
  refine Met.ofW (cc := b_M_thrown) (maxL := 1) (ret := (some .int)) (by decide) rfl ?_
  intro p e s m args below meth c s₁ B hml hv
  obtain ⟨rfl, hP, hK⟩ := hv
  have hx := B.exec
  have hb := B.bytes
  have hr := B.returns
  have hts : ∀ w ∈ AL, w.before ([.ref (Y 0)] : List Value).toArray s = true := fun w h => atoms_spec (ws := ws_M_thrown) B.pre w (List.mem_cons_of_mem _ h)
  have hown : s.vm.findClass "DealtSecretModel" = some m.cls := findClass_of_methodNamed B.named
  have hlk := B.notSynchronized
  have hl := lv_entry ([.ref (Y 0)]) (n := 1) (Nat.le_of_ble_eq_true rfl)
  rw [lg_entry_eq]
  generalize (lg_sl ([.ref (Y 0)]) ++ List.replicate (1 - (lg_sl ([.ref (Y 0)])).length) Slot.unset).toArray = ls at hl ⊢
  have hl : lv_has ls 1 [(0, .ref (Y 0))] := hl
  refine lv_aload_n hx hb d_M_thrown_0 rfl (lv_at hl 0 rfl) ?_
  refine va_get (D := (dC, dI)) (ci := 3) (v := .int (S 0 1)) (C := "DealtSecretModel") (T := T_M) (N := 24) hx hb hts i_M hown hK hP 0 rfl rfl 5 (by decide) (hts _ k_448) (fun _ h9 => h9) rfl d_M_thrown_1 ?_
  exact ro_i hx hb hr hlk d_M_thrown_4 (rfl)
