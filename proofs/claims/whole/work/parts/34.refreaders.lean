noncomputable def cmM (S : Nat → Nat → Int32) (k : Int32) : Int32 := @ite _ (¬ S 0 0 < 2 ∧ isCf (S 0 3) k) (Classical.propDecidable _) (S 3 (nn k)) 0
noncomputable def shM (S : Nat → Nat → Int32) (i w : Int32) : Int32 := @ite _ (¬ S 0 0 < 2 ∧ isPt (S 0 2) i) (Classical.propDecidable _) (if w = 0 then S 7 (nn i) else if w = 1 then S 8 (nn i) else -1) (-1)
set_option maxRecDepth 100000 in
set_option maxHeartbeats 4000000 in
/-- the reference's stage() -/
theorem c_M_stage (l : Launch) (dC : Nat → ClassId) (dI : Nat → Nat → Nat) (Y : Nat → Nat) (cI cZ : ClassId) (p0 q0 g0 h0 : Nat) (S : Nat → Nat → Int32) : Wr l y_M_stage ws_M_stage 0 0 [.ref (Y 0)] (dC, dI) cls (tysM cI cZ) (wM Y cI cZ p0 q0 g0 h0 (S)) (wM Y cI cZ p0 q0 g0 h0 (up S 0 1 0)) (some (.int (S 0 0))) := by
  refine Met.ofW (cc := b_M_stage) (maxL := 1) (ret := (some .int)) (by decide) rfl ?_
  intro p e s m args below meth c s₁ B hml hv
  obtain ⟨rfl, hP, hK, hD0⟩ := hv
  have hx := B.exec
  have hb := B.bytes
  have hr := B.returns
  have hts : ∀ w ∈ AL, w.before ([.ref (Y 0)] : List Value).toArray s = true := fun w h => atoms_spec (ws := ws_M_stage) B.pre w (List.mem_cons_of_mem _ h)
  have hown : s.vm.findClass "DealtSecretModel" = some m.cls := findClass_of_methodNamed B.named
  have hlk := B.notSynchronized
  have hl := lv_entry ([.ref (Y 0)]) (n := 1) (Nat.le_of_ble_eq_true rfl)
  rw [lg_entry_eq]
  generalize (lg_sl ([.ref (Y 0)]) ++ List.replicate (1 - (lg_sl ([.ref (Y 0)])).length) Slot.unset).toArray = ls at hl ⊢
  have hl : lv_has ls 1 [(0, .ref (Y 0))] := hl
  have hD := w_self hD0
  have hS : va_S (w_A (wM Y cI cZ p0 q0 g0 h0 (S))) s.heap s.heap [] := va_S.rf
  refine lv_aload_n hx hb d_M_stage_0 rfl (lv_at hl 0 rfl) ?_
  refine lv_iconst (v := 0) hx hb d_M_stage_1 (by decide) ?_
  refine va_put (D := (dC, dI)) (ci := 3) (v := .int 0) (ty := .int) (C := "DealtSecretModel") (T := T_M) (N := 24) hx hb hts i_M t_M t_M_ok n_M hown hK hP hD hS 0 rfl rfl 5 (by decide) (hts _ k_448) (fun _ h9 => h9) rfl (by decide +kernel) (rfl) (rfl) (Nat.le_of_ble_eq_true rfl) d_M_stage_2 (fun H locs hP hD hS => ?_)
  have hP : va_P (dC, dI) cls (wM Y cI cZ p0 q0 g0 h0 (up S 0 1 0)) H := by rw [← w_ms1]; exact hP
  have hD : va_D (w_A (wM Y cI cZ p0 q0 g0 h0 (S))) (wM Y cI cZ p0 q0 g0 h0 (up S 0 1 0)) := by rw [← w_ms1]; exact hD
  refine lv_aload_n hx hb d_M_stage_5 rfl (lv_at hl 0 rfl) ?_
  refine va_get (D := (dC, dI)) (ci := 3) (v := .int ((up S 0 1 0) 0 0)) (C := "DealtSecretModel") (T := T_M) (N := 24) hx hb hts i_M hown hK hP 0 rfl rfl 4 (by decide) (hts _ k_447) (fun _ h9 => h9) rfl d_M_stage_6 ?_
  refine x_i (y := S 0 0) (rfl) ?_
  exact wr_i hx hb hr hlk hP hS d_M_stage_9
set_option maxRecDepth 100000 in
set_option maxHeartbeats 4000000 in
/-- the reference's group(what) -/
theorem c_M_group (l : Launch) (dC : Nat → ClassId) (dI : Nat → Nat → Nat) (Y : Nat → Nat) (cI cZ : ClassId) (p0 q0 g0 h0 : Nat) (S : Nat → Nat → Int32) (w1 : Int32) : Wr l y_M_group ws_M_group 0 0 [.ref (Y 0), .int w1] (dC, dI) cls (tysM cI cZ) (wM Y cI cZ p0 q0 g0 h0 (S)) (wM Y cI cZ p0 q0 g0 h0 (up S 0 1 0)) (some (.int (grC p0 q0 g0 h0 w1))) := by
  refine Met.ofW (cc := b_M_group) (maxL := 2) (ret := (some .int)) (by decide) rfl ?_
  intro p e s m args below meth c s₁ B hml hv
  obtain ⟨rfl, hP, hK, hD0⟩ := hv
  have hx := B.exec
  have hb := B.bytes
  have hr := B.returns
  have hts : ∀ w ∈ AL, w.before ([.ref (Y 0), .int w1] : List Value).toArray s = true := fun w h => atoms_spec (ws := ws_M_group) B.pre w (List.mem_cons_of_mem _ h)
  have hown : s.vm.findClass "DealtSecretModel" = some m.cls := findClass_of_methodNamed B.named
  have hlk := B.notSynchronized
  have hl := lv_entry ([.ref (Y 0), .int w1]) (n := 2) (Nat.le_of_ble_eq_true rfl)
  rw [lg_entry_eq]
  generalize (lg_sl ([.ref (Y 0), .int w1]) ++ List.replicate (2 - (lg_sl ([.ref (Y 0), .int w1])).length) Slot.unset).toArray = ls at hl ⊢
  have hl : lv_has ls 2 [(0, .ref (Y 0)), (1, .int w1)] := hl
  have hD := w_self hD0
  have hS : va_S (w_A (wM Y cI cZ p0 q0 g0 h0 (S))) s.heap s.heap [] := va_S.rf
  refine lv_aload_n hx hb d_M_group_0 rfl (lv_at hl 0 rfl) ?_
  refine lv_iconst (v := 0) hx hb d_M_group_1 (by decide) ?_
  refine va_put (D := (dC, dI)) (ci := 3) (v := .int 0) (ty := .int) (C := "DealtSecretModel") (T := T_M) (N := 24) hx hb hts i_M t_M t_M_ok n_M hown hK hP hD hS 0 rfl rfl 5 (by decide) (hts _ k_448) (fun _ h9 => h9) rfl (by decide +kernel) (rfl) (rfl) (Nat.le_of_ble_eq_true rfl) d_M_group_2 (fun H locs hP hD hS => ?_)
  have hP : va_P (dC, dI) cls (wM Y cI cZ p0 q0 g0 h0 (up S 0 1 0)) H := by rw [← w_ms1]; exact hP
  have hD : va_D (w_A (wM Y cI cZ p0 q0 g0 h0 (S))) (wM Y cI cZ p0 q0 g0 h0 (up S 0 1 0)) := by rw [← w_ms1]; exact hD
  refine lv_iload_n hx hb d_M_group_5 rfl (lv_at hl 1 rfl) ?_
  refine lv_if_ne (tgt := 16) hx hb d_M_group_6 (by decide) (fun c6 => ?_) (fun c6 => ?_)
  · refine lv_iload_n hx hb d_M_group_16 rfl (lv_at hl 1 rfl) ?_
    refine lv_iconst (v := 1) hx hb d_M_group_17 (by decide) ?_
    refine lv_icmp_ne (tgt := 28) hx hb d_M_group_18 (by decide) (fun c18 => ?_) (fun c18 => ?_)
    · refine lv_iload_n hx hb d_M_group_28 rfl (lv_at hl 1 rfl) ?_
      refine lv_iconst (v := 2) hx hb d_M_group_29 (by decide) ?_
      refine lv_icmp_ne (tgt := 40) hx hb d_M_group_30 (by decide) (fun c30 => ?_) (fun c30 => ?_)
      · refine lv_iload_n hx hb d_M_group_40 rfl (lv_at hl 1 rfl) ?_
        refine lv_iconst (v := 3) hx hb d_M_group_41 (by decide) ?_
        refine lv_icmp_ne (tgt := 52) hx hb d_M_group_42 (by decide) (fun c42 => ?_) (fun c42 => ?_)
        · refine lv_iconst (v := 0) hx hb d_M_group_52 (by decide) ?_
          refine x_i (y := grC p0 q0 g0 h0 w1) (((if_neg c6).trans ((if_neg c18).trans ((if_neg c30).trans (if_neg c42)))).symm) ?_
          exact wr_i hx hb hr hlk hP hS d_M_group_53
        · refine lv_aload_n hx hb d_M_group_45 rfl (lv_at hl 0 rfl) ?_
          refine va_get (D := (dC, dI)) (ci := 3) (v := .int (nI h0)) (C := "DealtSecretModel") (T := T_M) (N := 24) hx hb hts i_M hown hK hP 0 rfl rfl 3 (by decide) (hts _ k_446) (fun _ h9 => h9) rfl d_M_group_46 ?_
          refine lv_goto (tgt := 53) hx hb d_M_group_49 (by decide) ?_
          refine x_i (y := grC p0 q0 g0 h0 w1) (((if_neg c6).trans ((if_neg c18).trans ((if_neg c30).trans (if_pos c42)))).symm) ?_
          exact wr_i hx hb hr hlk hP hS d_M_group_53
      · refine lv_aload_n hx hb d_M_group_33 rfl (lv_at hl 0 rfl) ?_
        refine va_get (D := (dC, dI)) (ci := 3) (v := .int (nI g0)) (C := "DealtSecretModel") (T := T_M) (N := 24) hx hb hts i_M hown hK hP 0 rfl rfl 2 (by decide) (hts _ k_445) (fun _ h9 => h9) rfl d_M_group_34 ?_
        refine lv_goto (tgt := 53) hx hb d_M_group_37 (by decide) ?_
        refine x_i (y := grC p0 q0 g0 h0 w1) (((if_neg c6).trans ((if_neg c18).trans (if_pos c30))).symm) ?_
        exact wr_i hx hb hr hlk hP hS d_M_group_53
    · refine lv_aload_n hx hb d_M_group_21 rfl (lv_at hl 0 rfl) ?_
      refine va_get (D := (dC, dI)) (ci := 3) (v := .int (nI q0)) (C := "DealtSecretModel") (T := T_M) (N := 24) hx hb hts i_M hown hK hP 0 rfl rfl 1 (by decide) (hts _ k_444) (fun _ h9 => h9) rfl d_M_group_22 ?_
      refine lv_goto (tgt := 53) hx hb d_M_group_25 (by decide) ?_
      refine x_i (y := grC p0 q0 g0 h0 w1) (((if_neg c6).trans (if_pos c18)).symm) ?_
      exact wr_i hx hb hr hlk hP hS d_M_group_53
  · refine lv_aload_n hx hb d_M_group_9 rfl (lv_at hl 0 rfl) ?_
    refine va_get (D := (dC, dI)) (ci := 3) (v := .int (nI p0)) (C := "DealtSecretModel") (T := T_M) (N := 24) hx hb hts i_M hown hK hP 0 rfl rfl 0 (by decide) (hts _ k_443) (fun _ h9 => h9) rfl d_M_group_10 ?_
    refine lv_goto (tgt := 53) hx hb d_M_group_13 (by decide) ?_
    refine x_i (y := grC p0 q0 g0 h0 w1) ((if_pos c6).symm) ?_
    exact wr_i hx hb hr hlk hP hS d_M_group_53
set_option maxRecDepth 100000 in
set_option maxHeartbeats 4000000 in
/-- the reference's commitment(k) -/
theorem c_M_commitment (l : Launch) (dC : Nat → ClassId) (dI : Nat → Nat → Nat) (Y : Nat → Nat) (cI cZ : ClassId) (p0 q0 g0 h0 : Nat) (S : Nat → Nat → Int32) (k1 : Int32) (t0 : Nat) (ht : S 0 3 = nI t0) (ht7 : t0 ≤ 7) : Wr l y_M_commitment ws_M_commitment 0 0 [.ref (Y 0), .int k1] (dC, dI) cls (tysM cI cZ) (wM Y cI cZ p0 q0 g0 h0 (S)) (wM Y cI cZ p0 q0 g0 h0 (up S 0 1 0)) (some (.int (cmM S k1))) := by
  refine Met.ofW (cc := b_M_commitment) (maxL := 2) (ret := (some .int)) (by decide) rfl ?_
  intro p e s m args below meth c s₁ B hml hv
  obtain ⟨rfl, hP, hK, hD0⟩ := hv
  have hx := B.exec
  have hb := B.bytes
  have hr := B.returns
  have hts : ∀ w ∈ AL, w.before ([.ref (Y 0), .int k1] : List Value).toArray s = true := fun w h => atoms_spec (ws := ws_M_commitment) B.pre w (List.mem_cons_of_mem _ h)
  have hown : s.vm.findClass "DealtSecretModel" = some m.cls := findClass_of_methodNamed B.named
  have hlk := B.notSynchronized
  have hl := lv_entry ([.ref (Y 0), .int k1]) (n := 2) (Nat.le_of_ble_eq_true rfl)
  rw [lg_entry_eq]
  generalize (lg_sl ([.ref (Y 0), .int k1]) ++ List.replicate (2 - (lg_sl ([.ref (Y 0), .int k1])).length) Slot.unset).toArray = ls at hl ⊢
  have hl : lv_has ls 2 [(0, .ref (Y 0)), (1, .int k1)] := hl
  have hD := w_self hD0
  have hS : va_S (w_A (wM Y cI cZ p0 q0 g0 h0 (S))) s.heap s.heap [] := va_S.rf
  refine lv_aload_n hx hb d_M_commitment_0 rfl (lv_at hl 0 rfl) ?_
  refine lv_iconst (v := 0) hx hb d_M_commitment_1 (by decide) ?_
  refine va_put (D := (dC, dI)) (ci := 3) (v := .int 0) (ty := .int) (C := "DealtSecretModel") (T := T_M) (N := 24) hx hb hts i_M t_M t_M_ok n_M hown hK hP hD hS 0 rfl rfl 5 (by decide) (hts _ k_448) (fun _ h9 => h9) rfl (by decide +kernel) (rfl) (rfl) (Nat.le_of_ble_eq_true rfl) d_M_commitment_2 (fun H locs hP hD hS => ?_)
  have hP : va_P (dC, dI) cls (wM Y cI cZ p0 q0 g0 h0 (up S 0 1 0)) H := by rw [← w_ms1]; exact hP
  have hD : va_D (w_A (wM Y cI cZ p0 q0 g0 h0 (S))) (wM Y cI cZ p0 q0 g0 h0 (up S 0 1 0)) := by rw [← w_ms1]; exact hD
  refine lv_aload_n hx hb d_M_commitment_5 rfl (lv_at hl 0 rfl) ?_
  refine va_get (D := (dC, dI)) (ci := 3) (v := .int ((up S 0 1 0) 0 0)) (C := "DealtSecretModel") (T := T_M) (N := 24) hx hb hts i_M hown hK hP 0 rfl rfl 4 (by decide) (hts _ k_447) (fun _ h9 => h9) rfl d_M_commitment_6 ?_
  refine x_i (y := S 0 0) (rfl) ?_
  refine lv_iconst (v := 2) hx hb d_M_commitment_9 (by decide) ?_
  refine lv_icmp_lt (tgt := 34) hx hb d_M_commitment_10 (by decide) (fun c10 => ?_) (fun c10 => ?_)
  · refine lv_iconst (v := 0) hx hb d_M_commitment_34 (by decide) ?_
    refine x_i (y := cmM S k1) ((if_neg (by first | exact fun q => q.1 c10 | exact fun q => q.2.1 c14 | exact fun q => q.2.2 c22)).symm) ?_
    exact wr_i hx hb hr hlk hP hS d_M_commitment_35
  · refine lv_iload_n hx hb d_M_commitment_13 rfl (lv_at hl 1 rfl) ?_
    refine lv_if_lt (tgt := 34) hx hb d_M_commitment_14 (by decide) (fun c14 => ?_) (fun c14 => ?_)
    · refine lv_iconst (v := 0) hx hb d_M_commitment_34 (by decide) ?_
      refine x_i (y := cmM S k1) ((if_neg (by first | exact fun q => q.1 c10 | exact fun q => q.2.1 c14 | exact fun q => q.2.2 c22)).symm) ?_
      exact wr_i hx hb hr hlk hP hS d_M_commitment_35
    · refine lv_iload_n hx hb d_M_commitment_17 rfl (lv_at hl 1 rfl) ?_
      refine lv_aload_n hx hb d_M_commitment_18 rfl (lv_at hl 0 rfl) ?_
      refine va_get (D := (dC, dI)) (ci := 3) (v := .int ((up S 0 1 0) 0 3)) (C := "DealtSecretModel") (T := T_M) (N := 24) hx hb hts i_M hown hK hP 0 rfl rfl 7 (by decide) (hts _ k_450) (fun _ h9 => h9) rfl d_M_commitment_19 ?_
      refine x_i (y := S 0 3) (rfl) ?_
      refine lv_icmp_ge (tgt := 34) hx hb d_M_commitment_22 (by decide) (fun c22 => ?_) (fun c22 => ?_)
      · refine lv_iconst (v := 0) hx hb d_M_commitment_34 (by decide) ?_
        refine x_i (y := cmM S k1) ((if_neg (by first | exact fun q => q.1 c10 | exact fun q => q.2.1 c14 | exact fun q => q.2.2 c22)).symm) ?_
        exact wr_i hx hb hr hlk hP hS d_M_commitment_35
      · have h2 : isCf (S 0 3) k1 := ⟨c14, c22⟩
        obtain ⟨k0, hk0, rfl⟩ := isCf_nat (by rw [ht] at h2; exact h2) (by omega)
        refine lv_aload_n hx hb d_M_commitment_25 rfl (lv_at hl 0 rfl) ?_
        refine va_get (D := (dC, dI)) (ci := 3) (v := .ref (Y 3)) (C := "DealtSecretModel") (T := T_M) (N := 24) hx hb hts i_M hown hK hP 0 rfl rfl 11 (by decide) (hts _ k_454) (fun _ h9 => h9) rfl d_M_commitment_26 ?_
        refine lv_iload_n hx hb d_M_commitment_29 rfl (lv_at hl 1 rfl) ?_
        refine va_iald hx hb hK hP 3 0 rfl rfl (vp_in_nI (by omega) (by decide)) d_M_commitment_30 ?_
        refine x_i (y := (up S 0 1 0) 3 k0) (by rw [nI_clamp (by omega)]) ?_
        refine x_i (y := S 3 k0) (rfl) ?_
        refine lv_goto (tgt := 35) hx hb d_M_commitment_31 (by decide) ?_
        refine x_i (y := cmM S (nI k0)) (((if_pos ⟨c10, h2⟩).trans (by rw [nn_nI (by omega)])).symm) ?_
        exact wr_i hx hb hr hlk hP hS d_M_commitment_35
set_option maxRecDepth 100000 in
set_option maxHeartbeats 4000000 in
/-- the reference's share(i, what) -/
theorem c_M_share (l : Launch) (dC : Nat → ClassId) (dI : Nat → Nat → Nat) (Y : Nat → Nat) (cI cZ : ClassId) (p0 q0 g0 h0 : Nat) (S : Nat → Nat → Int32) (i1 w1 : Int32) (n0 : Nat) (hn : S 0 2 = nI n0) (hn7 : n0 ≤ 7) : Wr l y_M_share ws_M_share 1 21 [.ref (Y 0), .int i1, .int w1] (dC, dI) cls (tysM cI cZ) (wM Y cI cZ p0 q0 g0 h0 (S)) (wM Y cI cZ p0 q0 g0 h0 (up S 0 1 0)) (some (.int (shM S i1 w1))) := by
  refine Met.ofW (cc := b_M_share) (maxL := 3) (ret := (some .int)) (by decide) rfl ?_
  intro p e s m args below meth c s₁ B hml hv
  obtain ⟨rfl, hP, hK, hD0⟩ := hv
  have hx := B.exec
  have hb := B.bytes
  have hr := B.returns
  have hts : ∀ w ∈ AL, w.before ([.ref (Y 0), .int i1, .int w1] : List Value).toArray s = true := fun w h => atoms_spec (ws := ws_M_share) B.pre w (List.mem_cons_of_mem _ h)
  have hown : s.vm.findClass "DealtSecretModel" = some m.cls := findClass_of_methodNamed B.named
  have hlk := B.notSynchronized
  have hl := lv_entry ([.ref (Y 0), .int i1, .int w1]) (n := 3) (Nat.le_of_ble_eq_true rfl)
  rw [lg_entry_eq]
  generalize (lg_sl ([.ref (Y 0), .int i1, .int w1]) ++ List.replicate (3 - (lg_sl ([.ref (Y 0), .int i1, .int w1])).length) Slot.unset).toArray = ls at hl ⊢
  have hl : lv_has ls 3 [(0, .ref (Y 0)), (1, .int i1), (2, .int w1)] := hl
  have hD := w_self hD0
  have hS : va_S (w_A (wM Y cI cZ p0 q0 g0 h0 (S))) s.heap s.heap [] := va_S.rf
  refine lv_aload_n hx hb d_M_share_0 rfl (lv_at hl 0 rfl) ?_
  refine lv_iconst (v := 0) hx hb d_M_share_1 (by decide) ?_
  refine va_put (D := (dC, dI)) (ci := 3) (v := .int 0) (ty := .int) (C := "DealtSecretModel") (T := T_M) (N := 24) hx hb hts i_M t_M t_M_ok n_M hown hK hP hD hS 0 rfl rfl 5 (by decide) (hts _ k_448) (fun _ h9 => h9) rfl (by decide +kernel) (rfl) (rfl) (Nat.le_of_ble_eq_true rfl) d_M_share_2 (fun H locs hP hD hS => ?_)
  have hP : va_P (dC, dI) cls (wM Y cI cZ p0 q0 g0 h0 (up S 0 1 0)) H := by rw [← w_ms1]; exact hP
  have hD : va_D (w_A (wM Y cI cZ p0 q0 g0 h0 (S))) (wM Y cI cZ p0 q0 g0 h0 (up S 0 1 0)) := by rw [← w_ms1]; exact hD
  refine lv_aload_n hx hb d_M_share_5 rfl (lv_at hl 0 rfl) ?_
  refine va_get (D := (dC, dI)) (ci := 3) (v := .int ((up S 0 1 0) 0 0)) (C := "DealtSecretModel") (T := T_M) (N := 24) hx hb hts i_M hown hK hP 0 rfl rfl 4 (by decide) (hts _ k_447) (fun _ h9 => h9) rfl d_M_share_6 ?_
  refine x_i (y := S 0 0) (rfl) ?_
  refine lv_iconst (v := 2) hx hb d_M_share_9 (by decide) ?_
  refine lv_icmp_lt (tgt := 21) hx hb d_M_share_10 (by decide) (fun c10 => ?_) (fun c10 => ?_)
  · refine lv_iconst (v := (-1)) hx hb d_M_share_21 (by decide) ?_
    refine x_i (y := shM S i1 w1) ((if_neg (by first | exact fun q => q.1 c10 | exact fun q => h2 q.2)).symm) ?_
    exact wr_i hx hb hr hlk hP hS d_M_share_22
  · refine lv_aload_n hx hb d_M_share_13 rfl (lv_at hl 0 rfl) ?_
    refine lv_iload_n hx hb d_M_share_14 rfl (lv_at hl 1 rfl) ?_
    refine ro_V (As := [.int i1]) (rest := []) (b := (Y 0)) ⟨hx, hb, hml, hown, hts⟩ (c_M_isOne l dC dI Y cI cZ p0 q0 g0 h0 (up S 0 1 0) i1) (cwV 1 hts (al_V k_558 k_559 k_655 k_4 k_560) rfl rfl rfl (by decide +kernel) ⟨Nat.le_of_ble_eq_true rfl, Nat.le_of_ble_eq_true rfl⟩) (fun U g mk a h => ⟨h.1, va_K.moved (u := U) (U := U.calling g mk a) (Vm.Alike.refl U.vm) h.2⟩) (va_recv hK hP (ci := 3) (q0 := 0) rfl rfl) (fun U hU hW => ⟨by rw [hU]; exact hP, va_K.moved hW.alike hK⟩) rfl hl.1 rfl (lv_room (Nat.le_of_ble_eq_true rfl)) d_M_share_15 ⟨Nat.zero_le _, Nat.zero_le _⟩ ?_
    refine lv_if_ne (tgt := 23) hx hb d_M_share_18 (by decide) (fun c18 => ?_) (fun c18 => ?_)
    · have h2 : isPt (S 0 2) i1 := Classical.not_not.mp (fun z => c18 (mz_bf z))
      obtain ⟨j, hj, rfl⟩ := isPt_nat (by rw [hn] at h2; exact h2) (by omega)
      refine lv_iload_n hx hb d_M_share_23 rfl (lv_at hl 2 rfl) ?_
      refine lv_if_ne (tgt := 36) hx hb d_M_share_24 (by decide) (fun c24 => ?_) (fun c24 => ?_)
      · refine lv_iload_n hx hb d_M_share_36 rfl (lv_at hl 2 rfl) ?_
        refine lv_iconst (v := 1) hx hb d_M_share_37 (by decide) ?_
        refine lv_icmp_ne (tgt := 50) hx hb d_M_share_38 (by decide) (fun c38 => ?_) (fun c38 => ?_)
        · refine lv_iconst (v := (-1)) hx hb d_M_share_50 (by decide) ?_
          refine x_i (y := shM S (nI (j + 1)) w1) (((if_pos ⟨c10, h2⟩).trans ((if_neg c24).trans (if_neg c38))).symm) ?_
          exact wr_i hx hb hr hlk hP hS d_M_share_51
        · refine lv_aload_n hx hb d_M_share_41 rfl (lv_at hl 0 rfl) ?_
          refine va_get (D := (dC, dI)) (ci := 3) (v := .ref (Y 8)) (C := "DealtSecretModel") (T := T_M) (N := 24) hx hb hts i_M hown hK hP 0 rfl rfl 16 (by decide) (hts _ k_459) (fun _ h9 => h9) rfl d_M_share_42 ?_
          refine lv_iload_n hx hb d_M_share_45 rfl (lv_at hl 1 rfl) ?_
          refine va_iald hx hb hK hP 8 0 rfl rfl (vp_in_nI (by omega) (by decide)) d_M_share_46 ?_
          refine x_i (y := (up S 0 1 0) 8 (j + 1)) (by rw [nI_clamp (by omega)]) ?_
          refine x_i (y := S 8 (j + 1)) (rfl) ?_
          refine lv_goto (tgt := 51) hx hb d_M_share_47 (by decide) ?_
          refine x_i (y := shM S (nI (j + 1)) w1) (((if_pos ⟨c10, h2⟩).trans ((if_neg c24).trans ((if_pos c38).trans (by rw [nn_nI (by omega)])))).symm) ?_
          exact wr_i hx hb hr hlk hP hS d_M_share_51
      · refine lv_aload_n hx hb d_M_share_27 rfl (lv_at hl 0 rfl) ?_
        refine va_get (D := (dC, dI)) (ci := 3) (v := .ref (Y 7)) (C := "DealtSecretModel") (T := T_M) (N := 24) hx hb hts i_M hown hK hP 0 rfl rfl 15 (by decide) (hts _ k_458) (fun _ h9 => h9) rfl d_M_share_28 ?_
        refine lv_iload_n hx hb d_M_share_31 rfl (lv_at hl 1 rfl) ?_
        refine va_iald hx hb hK hP 7 0 rfl rfl (vp_in_nI (by omega) (by decide)) d_M_share_32 ?_
        refine x_i (y := (up S 0 1 0) 7 (j + 1)) (by rw [nI_clamp (by omega)]) ?_
        refine x_i (y := S 7 (j + 1)) (rfl) ?_
        refine lv_goto (tgt := 51) hx hb d_M_share_33 (by decide) ?_
        refine x_i (y := shM S (nI (j + 1)) w1) (((if_pos ⟨c10, h2⟩).trans ((if_pos c24).trans (by rw [nn_nI (by omega)]))).symm) ?_
        exact wr_i hx hb hr hlk hP hS d_M_share_51
    · have h2 := mz_b0.mp c18
      refine lv_iconst (v := (-1)) hx hb d_M_share_21 (by decide) ?_
      refine x_i (y := shM S i1 w1) ((if_neg (by first | exact fun q => q.1 c10 | exact fun q => h2 q.2)).symm) ?_
      exact wr_i hx hb hr hlk hP hS d_M_share_22
set_option maxRecDepth 100000 in
set_option maxHeartbeats 4000000 in
/-- the reference's fits(i) of a participant -/
theorem c_M_fits (l : Launch) (dC : Nat → ClassId) (dI : Nat → Nat → Nat) (Y : Nat → Nat) (cI cZ : ClassId) (p0 q0 g0 h0 : Nat) (S : Nat → Nat → Int32) (j n0 : Nat) (hn : S 0 2 = nI n0) (hn7 : n0 ≤ 7) (hj : j < n0) (t0 : Nat) (hd : ¬ S 0 0 < 2) (hu : okN (S 7 (j + 1)) q0) (hv : okN (S 8 (j + 1)) q0) (ht : S 0 3 = nI t0) (ht7 : t0 ≤ 7) (ok : okG p0 q0 g0 h0) (hC : ∀ k, k < t0 → okN (S 3 k) p0) : Wr l y_M_fits ws_M_fits 4 95 [.ref (Y 0), .int (nI (j + 1))] (dC, dI) cls (tysM cI cZ) (wM Y cI cZ p0 q0 g0 h0 (S)) (wM Y cI cZ p0 q0 g0 h0 (up S 0 1 0)) (some (.int (mz_b ((g0 ^ (nn (S 7 (j + 1))) % p0) * (h0 ^ (nn (S 8 (j + 1))) % p0) % p0 = mz_cs (fun k => nn (S 3 k)) (j + 1) t0 % p0)))) := by
  refine Met.ofW (cc := b_M_fits) (maxL := 2) (ret := (some .boolean)) (by decide) rfl ?_
  intro p e s m args below meth c s₁ B hml hv
  obtain ⟨rfl, hP, hK, hD0⟩ := hv
  have hx := B.exec
  have hb := B.bytes
  have hr := B.returns
  have hts : ∀ w ∈ AL, w.before ([.ref (Y 0), .int (nI (j + 1))] : List Value).toArray s = true := fun w h => atoms_spec (ws := ws_M_fits) B.pre w (List.mem_cons_of_mem _ h)
  have hown : s.vm.findClass "DealtSecretModel" = some m.cls := findClass_of_methodNamed B.named
  have hlk := B.notSynchronized
  have hl := lv_entry ([.ref (Y 0), .int (nI (j + 1))]) (n := 2) (Nat.le_of_ble_eq_true rfl)
  rw [lg_entry_eq]
  generalize (lg_sl ([.ref (Y 0), .int (nI (j + 1))]) ++ List.replicate (2 - (lg_sl ([.ref (Y 0), .int (nI (j + 1))])).length) Slot.unset).toArray = ls at hl ⊢
  have hl : lv_has ls 2 [(0, .ref (Y 0)), (1, .int (nI (j + 1)))] := hl
  have hD := w_self hD0
  have hS : va_S (w_A (wM Y cI cZ p0 q0 g0 h0 (S))) s.heap s.heap [] := va_S.rf
  obtain ⟨okp2, okp, okq2, okq, okg, okh⟩ := id ok
  have hul := hu.lt
  have hvl := hv.lt
  refine lv_aload_n hx hb d_M_fits_0 rfl (lv_at hl 0 rfl) ?_
  refine lv_iconst (v := 0) hx hb d_M_fits_1 (by decide) ?_
  refine va_put (D := (dC, dI)) (ci := 3) (v := .int 0) (ty := .int) (C := "DealtSecretModel") (T := T_M) (N := 24) hx hb hts i_M t_M t_M_ok n_M hown hK hP hD hS 0 rfl rfl 5 (by decide) (hts _ k_448) (fun _ h9 => h9) rfl (by decide +kernel) (rfl) (rfl) (Nat.le_of_ble_eq_true rfl) d_M_fits_2 (fun H locs hP hD hS => ?_)
  have hP : va_P (dC, dI) cls (wM Y cI cZ p0 q0 g0 h0 (up S 0 1 0)) H := by rw [← w_ms1]; exact hP
  have hD : va_D (w_A (wM Y cI cZ p0 q0 g0 h0 (S))) (wM Y cI cZ p0 q0 g0 h0 (up S 0 1 0)) := by rw [← w_ms1]; exact hD
  refine lv_aload_n hx hb d_M_fits_5 rfl (lv_at hl 0 rfl) ?_
  refine va_get (D := (dC, dI)) (ci := 3) (v := .int ((up S 0 1 0) 0 0)) (C := "DealtSecretModel") (T := T_M) (N := 24) hx hb hts i_M hown hK hP 0 rfl rfl 4 (by decide) (hts _ k_447) (fun _ h9 => h9) rfl d_M_fits_6 ?_
  refine lv_iconst (v := 2) hx hb d_M_fits_9 (by decide) ?_
  refine lv_icmp_lt (tgt := 45) hx hb d_M_fits_10 (by decide) (fun c_ => absurd c_ (hd)) (fun _ => ?_)
  refine lv_aload_n hx hb d_M_fits_13 rfl (lv_at hl 0 rfl) ?_
  refine lv_iload_n hx hb d_M_fits_14 rfl (lv_at hl 1 rfl) ?_
  refine ro_V (As := [.int (nI (j + 1))]) (rest := []) (b := (Y 0)) ⟨hx, hb, hml, hown, hts⟩ (c_M_isOne l dC dI Y cI cZ p0 q0 g0 h0 (up S 0 1 0) (nI (j + 1))) (cwV 1 hts (al_V k_558 k_559 k_655 k_4 k_560) rfl rfl rfl (by decide +kernel) ⟨Nat.le_of_ble_eq_true rfl, Nat.le_of_ble_eq_true rfl⟩) (fun U g mk a h => ⟨h.1, va_K.moved (u := U) (U := U.calling g mk a) (Vm.Alike.refl U.vm) h.2⟩) (va_recv hK hP (ci := 3) (q0 := 0) rfl rfl) (fun U hU hW => ⟨by rw [hU]; exact hP, va_K.moved hW.alike hK⟩) rfl hl.1 rfl (lv_room (Nat.le_of_ble_eq_true rfl)) d_M_fits_15 ⟨Nat.zero_le _, Nat.zero_le _⟩ ?_
  refine lv_if_eq (tgt := 45) hx hb d_M_fits_18 (by decide) (fun c_ => absurd c_ (fun q => mz_b0.mp q (by show isPt (S 0 2) _; rw [hn]; exact isPt_of (by omega) hj))) (fun _ => ?_)
  refine lv_aload_n hx hb d_M_fits_21 rfl (lv_at hl 0 rfl) ?_
  refine lv_iload_n hx hb d_M_fits_22 rfl (lv_at hl 1 rfl) ?_
  refine lv_aload_n hx hb d_M_fits_23 rfl (lv_at hl 0 rfl) ?_
  refine va_get (D := (dC, dI)) (ci := 3) (v := .ref (Y 7)) (C := "DealtSecretModel") (T := T_M) (N := 24) hx hb hts i_M hown hK hP 0 rfl rfl 15 (by decide) (hts _ k_458) (fun _ h9 => h9) rfl d_M_fits_24 ?_
  refine lv_iload_n hx hb d_M_fits_27 rfl (lv_at hl 1 rfl) ?_
  refine va_iald hx hb hK hP 7 0 rfl rfl (vp_in_nI (by omega) (by decide)) d_M_fits_28 ?_
  refine x_i (y := (up S 0 1 0) 7 (j + 1)) (by rw [nI_clamp (by omega)]) ?_
  refine x_i (y := nI (nn (S 7 (j + 1)))) (hu.eq) ?_
  refine lv_aload_n hx hb d_M_fits_29 rfl (lv_at hl 0 rfl) ?_
  refine va_get (D := (dC, dI)) (ci := 3) (v := .ref (Y 8)) (C := "DealtSecretModel") (T := T_M) (N := 24) hx hb hts i_M hown hK hP 0 rfl rfl 16 (by decide) (hts _ k_459) (fun _ h9 => h9) rfl d_M_fits_30 ?_
  refine lv_iload_n hx hb d_M_fits_33 rfl (lv_at hl 1 rfl) ?_
  refine va_iald hx hb hK hP 8 0 rfl rfl (vp_in_nI (by omega) (by decide)) d_M_fits_34 ?_
  refine x_i (y := (up S 0 1 0) 8 (j + 1)) (by rw [nI_clamp (by omega)]) ?_
  refine x_i (y := nI (nn (S 8 (j + 1)))) (hv.eq) ?_
  refine ro_V (As := [.int (nI (j + 1)), .int (nI (nn (S 7 (j + 1)))), .int (nI (nn (S 8 (j + 1))))]) (rest := []) (b := (Y 0)) ⟨hx, hb, hml, hown, hts⟩ (c_M_fit l dC dI Y cI cZ p0 q0 g0 h0 (up S 0 1 0) (j + 1) (nn (S 7 (j + 1))) (nn (S 8 (j + 1))) t0 ok (by omega) (by omega) (by omega) ht ht7 hC) (cwV 3 hts (al_V k_542 k_543 k_651 k_4 k_544) rfl rfl rfl (by decide +kernel) ⟨Nat.le_of_ble_eq_true rfl, Nat.le_of_ble_eq_true rfl⟩) (fun U g mk a h => ⟨h.1, va_K.moved (u := U) (U := U.calling g mk a) (Vm.Alike.refl U.vm) h.2⟩) (va_recv hK hP (ci := 3) (q0 := 0) rfl rfl) (fun U hU hW => ⟨by rw [hU]; exact hP, va_K.moved hW.alike hK⟩) rfl hl.1 rfl (lv_room (Nat.le_of_ble_eq_true rfl)) d_M_fits_35 ⟨Nat.zero_le _, Nat.zero_le _⟩ ?_
  refine lv_if_eq (tgt := 45) hx hb d_M_fits_38 (by decide) (fun c38 => ?_) (fun c38 => ?_)
  · refine lv_iconst (v := 0) hx hb d_M_fits_45 (by decide) ?_
    refine x_i (y := mz_b ((g0 ^ (nn (S 7 (j + 1))) % p0) * (h0 ^ (nn (S 8 (j + 1))) % p0) % p0 = mz_cs (fun k => nn (S 3 k)) (j + 1) t0 % p0)) (c38.symm) ?_
    exact wr_z hx hb hr hlk (by first | rfl | exact mz_bn _) hP hS d_M_fits_46
  · refine lv_iconst (v := 1) hx hb d_M_fits_41 (by decide) ?_
    refine x_i (y := mz_b ((g0 ^ (nn (S 7 (j + 1))) % p0) * (h0 ^ (nn (S 8 (j + 1))) % p0) % p0 = mz_cs (fun k => nn (S 3 k)) (j + 1) t0 % p0)) ((mz_bt (Classical.not_not.mp (fun z => c38 (mz_bf z)))).symm) ?_
    refine lv_goto (tgt := 46) hx hb d_M_fits_42 (by decide) ?_
    exact wr_z hx hb hr hlk (by first | rfl | exact mz_bn _) hP hS d_M_fits_46
set_option maxRecDepth 100000 in
set_option maxHeartbeats 4000000 in
/-- the reference's fits(i) where there is nothing to fit -/
theorem c_M_fits_no (l : Launch) (dC : Nat → ClassId) (dI : Nat → Nat → Nat) (Y : Nat → Nat) (cI cZ : ClassId) (p0 q0 g0 h0 : Nat) (S : Nat → Nat → Int32) (i1 : Int32) (hd : S 0 0 < 2 ∨ ¬ isPt (S 0 2) i1) : Wr l y_M_fits ws_M_fits 4 95 [.ref (Y 0), .int i1] (dC, dI) cls (tysM cI cZ) (wM Y cI cZ p0 q0 g0 h0 (S)) (wM Y cI cZ p0 q0 g0 h0 (up S 0 1 0)) (some (.int 0)) := by
  refine Met.ofW (cc := b_M_fits) (maxL := 2) (ret := (some .boolean)) (by decide) rfl ?_
  intro p e s m args below meth c s₁ B hml hv
  obtain ⟨rfl, hP, hK, hD0⟩ := hv
  have hx := B.exec
  have hb := B.bytes
  have hr := B.returns
  have hts : ∀ w ∈ AL, w.before ([.ref (Y 0), .int i1] : List Value).toArray s = true := fun w h => atoms_spec (ws := ws_M_fits) B.pre w (List.mem_cons_of_mem _ h)
  have hown : s.vm.findClass "DealtSecretModel" = some m.cls := findClass_of_methodNamed B.named
  have hlk := B.notSynchronized
  have hl := lv_entry ([.ref (Y 0), .int i1]) (n := 2) (Nat.le_of_ble_eq_true rfl)
  rw [lg_entry_eq]
  generalize (lg_sl ([.ref (Y 0), .int i1]) ++ List.replicate (2 - (lg_sl ([.ref (Y 0), .int i1])).length) Slot.unset).toArray = ls at hl ⊢
  have hl : lv_has ls 2 [(0, .ref (Y 0)), (1, .int i1)] := hl
  have hD := w_self hD0
  have hS : va_S (w_A (wM Y cI cZ p0 q0 g0 h0 (S))) s.heap s.heap [] := va_S.rf
  refine lv_aload_n hx hb d_M_fits_0 rfl (lv_at hl 0 rfl) ?_
  refine lv_iconst (v := 0) hx hb d_M_fits_1 (by decide) ?_
  refine va_put (D := (dC, dI)) (ci := 3) (v := .int 0) (ty := .int) (C := "DealtSecretModel") (T := T_M) (N := 24) hx hb hts i_M t_M t_M_ok n_M hown hK hP hD hS 0 rfl rfl 5 (by decide) (hts _ k_448) (fun _ h9 => h9) rfl (by decide +kernel) (rfl) (rfl) (Nat.le_of_ble_eq_true rfl) d_M_fits_2 (fun H locs hP hD hS => ?_)
  have hP : va_P (dC, dI) cls (wM Y cI cZ p0 q0 g0 h0 (up S 0 1 0)) H := by rw [← w_ms1]; exact hP
  have hD : va_D (w_A (wM Y cI cZ p0 q0 g0 h0 (S))) (wM Y cI cZ p0 q0 g0 h0 (up S 0 1 0)) := by rw [← w_ms1]; exact hD
  refine lv_aload_n hx hb d_M_fits_5 rfl (lv_at hl 0 rfl) ?_
  refine va_get (D := (dC, dI)) (ci := 3) (v := .int ((up S 0 1 0) 0 0)) (C := "DealtSecretModel") (T := T_M) (N := 24) hx hb hts i_M hown hK hP 0 rfl rfl 4 (by decide) (hts _ k_447) (fun _ h9 => h9) rfl d_M_fits_6 ?_
  refine x_i (y := S 0 0) (rfl) ?_
  refine lv_iconst (v := 2) hx hb d_M_fits_9 (by decide) ?_
  refine lv_icmp_lt (tgt := 45) hx hb d_M_fits_10 (by decide) (fun c10 => ?_) (fun c10 => ?_)
  · refine lv_iconst (v := 0) hx hb d_M_fits_45 (by decide) ?_
    exact wr_z hx hb hr hlk (by first | rfl | exact mz_bn _) hP hS d_M_fits_46
  · refine lv_aload_n hx hb d_M_fits_13 rfl (lv_at hl 0 rfl) ?_
    refine lv_iload_n hx hb d_M_fits_14 rfl (lv_at hl 1 rfl) ?_
    refine ro_V (As := [.int i1]) (rest := []) (b := (Y 0)) ⟨hx, hb, hml, hown, hts⟩ (c_M_isOne l dC dI Y cI cZ p0 q0 g0 h0 (up S 0 1 0) i1) (cwV 1 hts (al_V k_558 k_559 k_655 k_4 k_560) rfl rfl rfl (by decide +kernel) ⟨Nat.le_of_ble_eq_true rfl, Nat.le_of_ble_eq_true rfl⟩) (fun U g mk a h => ⟨h.1, va_K.moved (u := U) (U := U.calling g mk a) (Vm.Alike.refl U.vm) h.2⟩) (va_recv hK hP (ci := 3) (q0 := 0) rfl rfl) (fun U hU hW => ⟨by rw [hU]; exact hP, va_K.moved hW.alike hK⟩) rfl hl.1 rfl (lv_room (Nat.le_of_ble_eq_true rfl)) d_M_fits_15 ⟨Nat.zero_le _, Nat.zero_le _⟩ ?_
    refine lv_if_eq (tgt := 45) hx hb d_M_fits_18 (by decide) (fun _ => ?_) (fun c_ => absurd (mz_bf (hd.resolve_left c10)) c_)
    refine lv_iconst (v := 0) hx hb d_M_fits_45 (by decide) ?_
    exact wr_z hx hb hr hlk (by first | rfl | exact mz_bn _) hP hS d_M_fits_46
set_option maxRecDepth 100000 in
set_option maxHeartbeats 4000000 in
/-- the reference's complaints() -/
theorem c_M_complaints (l : Launch) (dC : Nat → ClassId) (dI : Nat → Nat → Nat) (Y : Nat → Nat) (cI cZ : ClassId) (p0 q0 g0 h0 : Nat) (S : Nat → Nat → Int32) (n0 : Nat) (hn : S 0 2 = nI n0) (hn7 : n0 ≤ 7) (hs0 : n0 = 0 ∨ ¬ S 0 0 ≤ 0) : Wr l y_M_complaints ws_M_complaints 0 0 [.ref (Y 0)] (dC, dI) cls (tysM cI cZ) (wM Y cI cZ p0 q0 g0 h0 (S)) (wM Y cI cZ p0 q0 g0 h0 (up S 0 1 0)) (some (.int (nI (mz_ct (fun i => S 5 (i + 1)) n0)))) := by
  refine Met.ofW (cc := b_M_complaints) (maxL := 3) (ret := (some .int)) (by decide) rfl ?_
  intro p e s m args below meth c s₁ B hml hv
  obtain ⟨rfl, hP, hK, hD0⟩ := hv
  have hx := B.exec
  have hb := B.bytes
  have hr := B.returns
  have hts : ∀ w ∈ AL, w.before ([.ref (Y 0)] : List Value).toArray s = true := fun w h => atoms_spec (ws := ws_M_complaints) B.pre w (List.mem_cons_of_mem _ h)
  have hown : s.vm.findClass "DealtSecretModel" = some m.cls := findClass_of_methodNamed B.named
  have hlk := B.notSynchronized
  have hl := lv_entry ([.ref (Y 0)]) (n := 3) (Nat.le_of_ble_eq_true rfl)
  rw [lg_entry_eq]
  generalize (lg_sl ([.ref (Y 0)]) ++ List.replicate (3 - (lg_sl ([.ref (Y 0)])).length) Slot.unset).toArray = ls at hl ⊢
  have hl : lv_has ls 3 [(0, .ref (Y 0))] := hl
  have hD := w_self hD0
  have hS : va_S (w_A (wM Y cI cZ p0 q0 g0 h0 (S))) s.heap s.heap [] := va_S.rf
  have loop : ∀ (n j : Nat) (H : Heap) (locs : List Loc) (ls : Array Slot), n0 + 1 ≤ j + n → j ≤ n0 → va_P (dC, dI) cls (wM Y cI cZ p0 q0 g0 h0 (up S 0 1 0)) H → va_D (w_A (wM Y cI cZ p0 q0 g0 h0 (S))) (wM Y cI cZ p0 q0 g0 h0 (up S 0 1 0)) → va_S (w_A (wM Y cI cZ p0 q0 g0 h0 (S))) s.heap H locs → lv_has ls 3 [(0, .ref (Y 0)), (1, .int (nI (mz_ct (fun i => S 5 (i + 1)) j))), (2, .int (nI (j + 1)))] → W p l e (headSpec ws_M_complaints { frames := 0, cells := 0, slots := 0, locals := 0 }).room s m [.ref (Y 0)].toArray below meth c H locs 0 0 (MQ below (fun _ st o t => o = .returned (some (.int (nI (mz_ct (fun i => S 5 (i + 1)) n0)))) ∧ va_P (dC, dI) cls (wM Y cI cZ p0 q0 g0 h0 (up S 0 1 0)) t.heap ∧ va_F (w_A (wM Y cI cZ p0 q0 g0 h0 (S))) st t) [.ref (Y 0)].toArray s 0 0 (w_A (wM Y cI cZ p0 q0 g0 h0 (S)))) (F0 m 9 ls []) := by
    intro n
    induction n with
    | zero =>
      intro j H locs ls h1 h2
      omega
    | succ n ih =>
      intro j H locs ls h1 h2 hP hD hS hl
      refine lv_iload_n hx hb d_M_complaints_9 rfl (lv_at hl 2 rfl) ?_
      refine lv_aload_n hx hb d_M_complaints_10 rfl (lv_at hl 0 rfl) ?_
      refine va_get (D := (dC, dI)) (ci := 3) (v := .int ((up S 0 1 0) 0 2)) (C := "DealtSecretModel") (T := T_M) (N := 24) hx hb hts i_M hown hK hP 0 rfl rfl 6 (by decide) (hts _ k_449) (fun _ h9 => h9) rfl d_M_complaints_11 ?_
      refine x_i (y := nI n0) (hn) ?_
      refine lv_icmp_gt (tgt := 47) hx hb d_M_complaints_14 (by decide) (fun c14 => ?_) (fun c14 => ?_)
      · have hk : j = n0 := by
          have h5 : n0 < j + 1 := (nI_ltI (by omega) (by omega)).mp c14
          omega
        subst hk
        refine lv_iload_n hx hb d_M_complaints_47 rfl (lv_at hl 1 rfl) ?_
        exact wr_i hx hb hr hlk hP hS d_M_complaints_48
      · have hk : j < n0 := by
          rcases Nat.lt_or_ge j n0 with q | q
          · exact q
          · exact absurd (nI_lt (show n0 < j + 1 by omega) (by omega)) c14
        have hst : ¬ S 0 0 ≤ 0 := hs0.resolve_left (by omega)
        refine lv_aload_n hx hb d_M_complaints_17 rfl (lv_at hl 0 rfl) ?_
        refine va_get (D := (dC, dI)) (ci := 3) (v := .int ((up S 0 1 0) 0 0)) (C := "DealtSecretModel") (T := T_M) (N := 24) hx hb hts i_M hown hK hP 0 rfl rfl 4 (by decide) (hts _ k_447) (fun _ h9 => h9) rfl d_M_complaints_18 ?_
        refine x_i (y := S 0 0) (rfl) ?_
        refine lv_if_le (tgt := 47) hx hb d_M_complaints_21 (by decide) (fun c_ => absurd c_ (hst)) (fun _ => ?_)
        refine lv_aload_n hx hb d_M_complaints_24 rfl (lv_at hl 0 rfl) ?_
        refine va_get (D := (dC, dI)) (ci := 3) (v := .ref (Y 5)) (C := "DealtSecretModel") (T := T_M) (N := 24) hx hb hts i_M hown hK hP 0 rfl rfl 13 (by decide) (hts _ k_456) (fun _ h9 => h9) rfl d_M_complaints_25 ?_
        refine lv_iload_n hx hb d_M_complaints_28 rfl (lv_at hl 2 rfl) ?_
        refine va_zald hx hb hK hP 5 1 rfl rfl (vp_in_nI (by omega) (by decide)) d_M_complaints_29 ?_
        refine x_i (y := (up S 0 1 0) 5 (j + 1)) (by rw [nI_clamp (by omega)]) ?_
        refine x_i (y := S 5 (j + 1)) (rfl) ?_
        refine lv_if_eq (tgt := 39) hx hb d_M_complaints_30 (by decide) (fun c30 => ?_) (fun c30 => ?_)
        · refine lv_iload_n hx hb d_M_complaints_39 rfl (lv_at hl 1 rfl) ?_
          refine lv_istore_n (lv' := [(1, .int (nI (mz_ct (fun i => S 5 (i + 1)) j))), (0, .ref (Y 0)), (2, .int (nI (j + 1)))]) hx hb d_M_complaints_40 rfl hl (by decide) rfl (fun ls hl => ?_)
          refine lv_iinc (v := (nI (j + 1 + 1))) (lv' := [(2, .int (nI (j + 1 + 1))), (1, .int (nI (mz_ct (fun i => S 5 (i + 1)) j))), (0, .ref (Y 0))]) hx hb d_M_complaints_41 hl (k := 2) rfl (nI_1 (j + 1)) (by decide) rfl (fun ls hl => ?_)
          refine lv_goto (tgt := 9) hx hb d_M_complaints_44 (by decide) ?_
          exact ih (j + 1) H locs ls (by omega) (by omega) hP hD hS (by rw [mz_ct_0 (f := (fun i => S 5 (i + 1))) c30]; exact lv_sub hl [2, 1, 0] rfl)
        · refine lv_iload_n hx hb d_M_complaints_33 rfl (lv_at hl 1 rfl) ?_
          refine lv_iconst (v := 1) hx hb d_M_complaints_34 (by decide) ?_
          refine lv_iadd hx hb d_M_complaints_35 ?_
          refine x_i (y := nI (mz_ct (fun i => S 5 (i + 1)) (j + 1))) ((nI_1 _).trans (by rw [mz_ct_1 (f := (fun i => S 5 (i + 1))) c30])) ?_
          refine lv_goto (tgt := 40) hx hb d_M_complaints_36 (by decide) ?_
          refine lv_istore_n (lv' := [(1, .int (nI (mz_ct (fun i => S 5 (i + 1)) (j + 1)))), (0, .ref (Y 0)), (2, .int (nI (j + 1)))]) hx hb d_M_complaints_40 rfl hl (by decide) rfl (fun ls hl => ?_)
          refine lv_iinc (v := (nI (j + 1 + 1))) (lv' := [(2, .int (nI (j + 1 + 1))), (1, .int (nI (mz_ct (fun i => S 5 (i + 1)) (j + 1)))), (0, .ref (Y 0))]) hx hb d_M_complaints_41 hl (k := 2) rfl (nI_1 (j + 1)) (by decide) rfl (fun ls hl => ?_)
          refine lv_goto (tgt := 9) hx hb d_M_complaints_44 (by decide) ?_
          exact ih (j + 1) H locs ls (by omega) (by omega) hP hD hS (lv_sub hl [2, 1, 0] rfl)
  refine lv_aload_n hx hb d_M_complaints_0 rfl (lv_at hl 0 rfl) ?_
  refine lv_iconst (v := 0) hx hb d_M_complaints_1 (by decide) ?_
  refine va_put (D := (dC, dI)) (ci := 3) (v := .int 0) (ty := .int) (C := "DealtSecretModel") (T := T_M) (N := 24) hx hb hts i_M t_M t_M_ok n_M hown hK hP hD hS 0 rfl rfl 5 (by decide) (hts _ k_448) (fun _ h9 => h9) rfl (by decide +kernel) (rfl) (rfl) (Nat.le_of_ble_eq_true rfl) d_M_complaints_2 (fun H locs hP hD hS => ?_)
  have hP : va_P (dC, dI) cls (wM Y cI cZ p0 q0 g0 h0 (up S 0 1 0)) H := by rw [← w_ms1]; exact hP
  have hD : va_D (w_A (wM Y cI cZ p0 q0 g0 h0 (S))) (wM Y cI cZ p0 q0 g0 h0 (up S 0 1 0)) := by rw [← w_ms1]; exact hD
  refine lv_iconst (v := (nI (mz_ct (fun i => S 5 (i + 1)) 0))) hx hb d_M_complaints_5 (by rfl) ?_
  refine lv_istore_n (lv' := [(1, .int (nI (mz_ct (fun i => S 5 (i + 1)) 0))), (0, .ref (Y 0))]) hx hb d_M_complaints_6 rfl hl (by decide) rfl (fun ls hl => ?_)
  refine lv_iconst (v := (nI (0 + 1))) hx hb d_M_complaints_7 (by decide) ?_
  refine lv_istore_n (lv' := [(2, .int (nI (0 + 1))), (1, .int (nI (mz_ct (fun i => S 5 (i + 1)) 0))), (0, .ref (Y 0))]) hx hb d_M_complaints_8 rfl hl (by decide) rfl (fun ls hl => ?_)
  exact loop (n0 + 1) 0 _ _ ls (by omega) (by omega) hP hD hS (lv_sub hl [2, 1, 0] rfl)
set_option maxRecDepth 100000 in
set_option maxHeartbeats 4000000 in
/-- the reference's opened() -/
theorem c_M_opened (l : Launch) (dC : Nat → ClassId) (dI : Nat → Nat → Nat) (Y : Nat → Nat) (cI cZ : ClassId) (p0 q0 g0 h0 : Nat) (S : Nat → Nat → Int32) (n0 : Nat) (hn : S 0 2 = nI n0) (hn7 : n0 ≤ 7) (hs0 : n0 = 0 ∨ ¬ S 0 0 ≤ 0) : Wr l y_M_opened ws_M_opened 0 0 [.ref (Y 0)] (dC, dI) cls (tysM cI cZ) (wM Y cI cZ p0 q0 g0 h0 (S)) (wM Y cI cZ p0 q0 g0 h0 (up S 0 1 0)) (some (.int (nI (mz_ct (fun i => S 9 (i + 1)) n0)))) := by
  refine Met.ofW (cc := b_M_opened) (maxL := 3) (ret := (some .int)) (by decide) rfl ?_
  intro p e s m args below meth c s₁ B hml hv
  obtain ⟨rfl, hP, hK, hD0⟩ := hv
  have hx := B.exec
  have hb := B.bytes
  have hr := B.returns
  have hts : ∀ w ∈ AL, w.before ([.ref (Y 0)] : List Value).toArray s = true := fun w h => atoms_spec (ws := ws_M_opened) B.pre w (List.mem_cons_of_mem _ h)
  have hown : s.vm.findClass "DealtSecretModel" = some m.cls := findClass_of_methodNamed B.named
  have hlk := B.notSynchronized
  have hl := lv_entry ([.ref (Y 0)]) (n := 3) (Nat.le_of_ble_eq_true rfl)
  rw [lg_entry_eq]
  generalize (lg_sl ([.ref (Y 0)]) ++ List.replicate (3 - (lg_sl ([.ref (Y 0)])).length) Slot.unset).toArray = ls at hl ⊢
  have hl : lv_has ls 3 [(0, .ref (Y 0))] := hl
  have hD := w_self hD0
  have hS : va_S (w_A (wM Y cI cZ p0 q0 g0 h0 (S))) s.heap s.heap [] := va_S.rf
  have loop : ∀ (n j : Nat) (H : Heap) (locs : List Loc) (ls : Array Slot), n0 + 1 ≤ j + n → j ≤ n0 → va_P (dC, dI) cls (wM Y cI cZ p0 q0 g0 h0 (up S 0 1 0)) H → va_D (w_A (wM Y cI cZ p0 q0 g0 h0 (S))) (wM Y cI cZ p0 q0 g0 h0 (up S 0 1 0)) → va_S (w_A (wM Y cI cZ p0 q0 g0 h0 (S))) s.heap H locs → lv_has ls 3 [(0, .ref (Y 0)), (1, .int (nI (mz_ct (fun i => S 9 (i + 1)) j))), (2, .int (nI (j + 1)))] → W p l e (headSpec ws_M_opened { frames := 0, cells := 0, slots := 0, locals := 0 }).room s m [.ref (Y 0)].toArray below meth c H locs 0 0 (MQ below (fun _ st o t => o = .returned (some (.int (nI (mz_ct (fun i => S 9 (i + 1)) n0)))) ∧ va_P (dC, dI) cls (wM Y cI cZ p0 q0 g0 h0 (up S 0 1 0)) t.heap ∧ va_F (w_A (wM Y cI cZ p0 q0 g0 h0 (S))) st t) [.ref (Y 0)].toArray s 0 0 (w_A (wM Y cI cZ p0 q0 g0 h0 (S)))) (F0 m 9 ls []) := by
    intro n
    induction n with
    | zero =>
      intro j H locs ls h1 h2
      omega
    | succ n ih =>
      intro j H locs ls h1 h2 hP hD hS hl
      refine lv_iload_n hx hb d_M_opened_9 rfl (lv_at hl 2 rfl) ?_
      refine lv_aload_n hx hb d_M_opened_10 rfl (lv_at hl 0 rfl) ?_
      refine va_get (D := (dC, dI)) (ci := 3) (v := .int ((up S 0 1 0) 0 2)) (C := "DealtSecretModel") (T := T_M) (N := 24) hx hb hts i_M hown hK hP 0 rfl rfl 6 (by decide) (hts _ k_449) (fun _ h9 => h9) rfl d_M_opened_11 ?_
      refine x_i (y := nI n0) (hn) ?_
      refine lv_icmp_gt (tgt := 47) hx hb d_M_opened_14 (by decide) (fun c14 => ?_) (fun c14 => ?_)
      · have hk : j = n0 := by
          have h5 : n0 < j + 1 := (nI_ltI (by omega) (by omega)).mp c14
          omega
        subst hk
        refine lv_iload_n hx hb d_M_opened_47 rfl (lv_at hl 1 rfl) ?_
        exact wr_i hx hb hr hlk hP hS d_M_opened_48
      · have hk : j < n0 := by
          rcases Nat.lt_or_ge j n0 with q | q
          · exact q
          · exact absurd (nI_lt (show n0 < j + 1 by omega) (by omega)) c14
        have hst : ¬ S 0 0 ≤ 0 := hs0.resolve_left (by omega)
        refine lv_aload_n hx hb d_M_opened_17 rfl (lv_at hl 0 rfl) ?_
        refine va_get (D := (dC, dI)) (ci := 3) (v := .int ((up S 0 1 0) 0 0)) (C := "DealtSecretModel") (T := T_M) (N := 24) hx hb hts i_M hown hK hP 0 rfl rfl 4 (by decide) (hts _ k_447) (fun _ h9 => h9) rfl d_M_opened_18 ?_
        refine x_i (y := S 0 0) (rfl) ?_
        refine lv_if_le (tgt := 47) hx hb d_M_opened_21 (by decide) (fun c_ => absurd c_ (hst)) (fun _ => ?_)
        refine lv_aload_n hx hb d_M_opened_24 rfl (lv_at hl 0 rfl) ?_
        refine va_get (D := (dC, dI)) (ci := 3) (v := .ref (Y 9)) (C := "DealtSecretModel") (T := T_M) (N := 24) hx hb hts i_M hown hK hP 0 rfl rfl 17 (by decide) (hts _ k_460) (fun _ h9 => h9) rfl d_M_opened_25 ?_
        refine lv_iload_n hx hb d_M_opened_28 rfl (lv_at hl 2 rfl) ?_
        refine va_zald hx hb hK hP 9 1 rfl rfl (vp_in_nI (by omega) (by decide)) d_M_opened_29 ?_
        refine x_i (y := (up S 0 1 0) 9 (j + 1)) (by rw [nI_clamp (by omega)]) ?_
        refine x_i (y := S 9 (j + 1)) (rfl) ?_
        refine lv_if_eq (tgt := 39) hx hb d_M_opened_30 (by decide) (fun c30 => ?_) (fun c30 => ?_)
        · refine lv_iload_n hx hb d_M_opened_39 rfl (lv_at hl 1 rfl) ?_
          refine lv_istore_n (lv' := [(1, .int (nI (mz_ct (fun i => S 9 (i + 1)) j))), (0, .ref (Y 0)), (2, .int (nI (j + 1)))]) hx hb d_M_opened_40 rfl hl (by decide) rfl (fun ls hl => ?_)
          refine lv_iinc (v := (nI (j + 1 + 1))) (lv' := [(2, .int (nI (j + 1 + 1))), (1, .int (nI (mz_ct (fun i => S 9 (i + 1)) j))), (0, .ref (Y 0))]) hx hb d_M_opened_41 hl (k := 2) rfl (nI_1 (j + 1)) (by decide) rfl (fun ls hl => ?_)
          refine lv_goto (tgt := 9) hx hb d_M_opened_44 (by decide) ?_
          exact ih (j + 1) H locs ls (by omega) (by omega) hP hD hS (by rw [mz_ct_0 (f := (fun i => S 9 (i + 1))) c30]; exact lv_sub hl [2, 1, 0] rfl)
        · refine lv_iload_n hx hb d_M_opened_33 rfl (lv_at hl 1 rfl) ?_
          refine lv_iconst (v := 1) hx hb d_M_opened_34 (by decide) ?_
          refine lv_iadd hx hb d_M_opened_35 ?_
          refine x_i (y := nI (mz_ct (fun i => S 9 (i + 1)) (j + 1))) ((nI_1 _).trans (by rw [mz_ct_1 (f := (fun i => S 9 (i + 1))) c30])) ?_
          refine lv_goto (tgt := 40) hx hb d_M_opened_36 (by decide) ?_
          refine lv_istore_n (lv' := [(1, .int (nI (mz_ct (fun i => S 9 (i + 1)) (j + 1)))), (0, .ref (Y 0)), (2, .int (nI (j + 1)))]) hx hb d_M_opened_40 rfl hl (by decide) rfl (fun ls hl => ?_)
          refine lv_iinc (v := (nI (j + 1 + 1))) (lv' := [(2, .int (nI (j + 1 + 1))), (1, .int (nI (mz_ct (fun i => S 9 (i + 1)) (j + 1)))), (0, .ref (Y 0))]) hx hb d_M_opened_41 hl (k := 2) rfl (nI_1 (j + 1)) (by decide) rfl (fun ls hl => ?_)
          refine lv_goto (tgt := 9) hx hb d_M_opened_44 (by decide) ?_
          exact ih (j + 1) H locs ls (by omega) (by omega) hP hD hS (lv_sub hl [2, 1, 0] rfl)
  refine lv_aload_n hx hb d_M_opened_0 rfl (lv_at hl 0 rfl) ?_
  refine lv_iconst (v := 0) hx hb d_M_opened_1 (by decide) ?_
  refine va_put (D := (dC, dI)) (ci := 3) (v := .int 0) (ty := .int) (C := "DealtSecretModel") (T := T_M) (N := 24) hx hb hts i_M t_M t_M_ok n_M hown hK hP hD hS 0 rfl rfl 5 (by decide) (hts _ k_448) (fun _ h9 => h9) rfl (by decide +kernel) (rfl) (rfl) (Nat.le_of_ble_eq_true rfl) d_M_opened_2 (fun H locs hP hD hS => ?_)
  have hP : va_P (dC, dI) cls (wM Y cI cZ p0 q0 g0 h0 (up S 0 1 0)) H := by rw [← w_ms1]; exact hP
  have hD : va_D (w_A (wM Y cI cZ p0 q0 g0 h0 (S))) (wM Y cI cZ p0 q0 g0 h0 (up S 0 1 0)) := by rw [← w_ms1]; exact hD
  refine lv_iconst (v := (nI (mz_ct (fun i => S 9 (i + 1)) 0))) hx hb d_M_opened_5 (by rfl) ?_
  refine lv_istore_n (lv' := [(1, .int (nI (mz_ct (fun i => S 9 (i + 1)) 0))), (0, .ref (Y 0))]) hx hb d_M_opened_6 rfl hl (by decide) rfl (fun ls hl => ?_)
  refine lv_iconst (v := (nI (0 + 1))) hx hb d_M_opened_7 (by decide) ?_
  refine lv_istore_n (lv' := [(2, .int (nI (0 + 1))), (1, .int (nI (mz_ct (fun i => S 9 (i + 1)) 0))), (0, .ref (Y 0))]) hx hb d_M_opened_8 rfl hl (by decide) rfl (fun ls hl => ?_)
  exact loop (n0 + 1) 0 _ _ ls (by omega) (by omega) hP hD hS (lv_sub hl [2, 1, 0] rfl)
