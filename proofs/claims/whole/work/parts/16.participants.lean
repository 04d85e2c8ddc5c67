set_option maxRecDepth 100000 in
set_option maxHeartbeats 4000000 in
/-- startAnew() -/
theorem c_P_startAnew (l : Launch) (dC : Nat → ClassId) (dI : Nat → Nat → Nat) (Z : Nat → Nat) (cI cP : ClassId) (p0 q0 g0 h0 : Nat) (S : Nat → Nat → Int32) (j : Nat) (hj : j < 7) : Wr l y_P_startAnew ws_P_startAnew 0 0 [.ref (Z (6 + j))] (dC, dI) cls (tysC cI cP) (wC Z cI cP p0 q0 g0 h0 (S)) (wC Z cI cP p0 q0 g0 h0 (stA S j)) (none) := by
  refine Met.ofW (cc := b_P_startAnew) (maxL := 1) (ret := none) (by decide) rfl ?_
  intro p e s m args below meth c s₁ B hml hv
  obtain ⟨rfl, hP, hK, hD0⟩ := hv
  have hx := B.exec
  have hb := B.bytes
  have hr := B.returns
  have hts : ∀ w ∈ AL, w.before ([.ref (Z (6 + j))] : List Value).toArray s = true := fun w h => atoms_spec (ws := ws_P_startAnew) B.pre w (List.mem_cons_of_mem _ h)
  have hown : s.vm.findClass "DealtSecret$Participant" = some m.cls := findClass_of_methodNamed B.named
  have hlk := B.notSynchronized
  have hl := lv_entry ([.ref (Z (6 + j))]) (n := 1) (Nat.le_of_ble_eq_true rfl)
  rw [lg_entry_eq]
  generalize (lg_sl ([.ref (Z (6 + j))]) ++ List.replicate (1 - (lg_sl ([.ref (Z (6 + j))])).length) Slot.unset).toArray = ls at hl ⊢
  have hl : lv_has ls 1 [(0, .ref (Z (6 + j)))] := hl
  have hD := w_self hD0
  have hS : va_S (w_A (wC Z cI cP p0 q0 g0 h0 (S))) s.heap s.heap [] := va_S.rf
  refine lv_aload_n hx hb d_P_startAnew_0 rfl (lv_at hl 0 rfl) ?_
  refine lv_iconst (v := 0) hx hb d_P_startAnew_1 (by decide) ?_
  refine va_put (D := (dC, dI)) (ci := 1) (v := .int 0) (ty := .boolean) (C := "DealtSecret$Participant") (T := T_P) (N := 9) hx hb hts i_P t_P t_P_ok n_P hown hK hP hD hS (6 + j) (w_part (hj)) rfl 3 (by decide) (hts _ k_70) (fun _ h9 => h9) rfl (by decide +kernel) (rfl) (rfl) (Nat.le_of_ble_eq_true rfl) d_P_startAnew_2 (fun H locs hP hD hS => ?_)
  have hP : va_P (dC, dI) cls (wC Z cI cP p0 q0 g0 h0 (up S 7 j 0)) H := by rw [← w_pt3 (hj)]; exact hP
  have hD : va_D (w_A (wC Z cI cP p0 q0 g0 h0 (S))) (wC Z cI cP p0 q0 g0 h0 (up S 7 j 0)) := by rw [← w_pt3 (hj)]; exact hD
  refine lv_aload_n hx hb d_P_startAnew_5 rfl (lv_at hl 0 rfl) ?_
  refine lv_iconst (v := 0) hx hb d_P_startAnew_6 (by decide) ?_
  refine va_put (D := (dC, dI)) (ci := 1) (v := .int 0) (ty := .boolean) (C := "DealtSecret$Participant") (T := T_P) (N := 9) hx hb hts i_P t_P t_P_ok n_P hown hK hP hD hS (6 + j) (w_part (hj)) rfl 4 (by decide) (hts _ k_72) (fun _ h9 => h9) rfl (by decide +kernel) (rfl) (rfl) (Nat.le_of_ble_eq_true rfl) d_P_startAnew_7 (fun H locs hP hD hS => ?_)
  have hP : va_P (dC, dI) cls (wC Z cI cP p0 q0 g0 h0 (up (up S 7 j 0) 8 j 0)) H := by rw [← w_pt4 (hj)]; exact hP
  have hD : va_D (w_A (wC Z cI cP p0 q0 g0 h0 (S))) (wC Z cI cP p0 q0 g0 h0 (up (up S 7 j 0) 8 j 0)) := by rw [← w_pt4 (hj)]; exact hD
  refine lv_aload_n hx hb d_P_startAnew_10 rfl (lv_at hl 0 rfl) ?_
  refine lv_iconst (v := 0) hx hb d_P_startAnew_11 (by decide) ?_
  refine va_put (D := (dC, dI)) (ci := 1) (v := .int 0) (ty := .boolean) (C := "DealtSecret$Participant") (T := T_P) (N := 9) hx hb hts i_P t_P t_P_ok n_P hown hK hP hD hS (6 + j) (w_part (hj)) rfl 5 (by decide) (hts _ k_74) (fun _ h9 => h9) rfl (by decide +kernel) (rfl) (rfl) (Nat.le_of_ble_eq_true rfl) d_P_startAnew_12 (fun H locs hP hD hS => ?_)
  have hP : va_P (dC, dI) cls (wC Z cI cP p0 q0 g0 h0 (up (up (up S 7 j 0) 8 j 0) 9 j 0)) H := by rw [← w_pt5 (hj)]; exact hP
  have hD : va_D (w_A (wC Z cI cP p0 q0 g0 h0 (S))) (wC Z cI cP p0 q0 g0 h0 (up (up (up S 7 j 0) 8 j 0) 9 j 0)) := by rw [← w_pt5 (hj)]; exact hD
  refine lv_aload_n hx hb d_P_startAnew_15 rfl (lv_at hl 0 rfl) ?_
  refine lv_iconst (v := 0) hx hb d_P_startAnew_16 (by decide) ?_
  refine va_put (D := (dC, dI)) (ci := 1) (v := .int 0) (ty := .boolean) (C := "DealtSecret$Participant") (T := T_P) (N := 9) hx hb hts i_P t_P t_P_ok n_P hown hK hP hD hS (6 + j) (w_part (hj)) rfl 6 (by decide) (hts _ k_76) (fun _ h9 => h9) rfl (by decide +kernel) (rfl) (rfl) (Nat.le_of_ble_eq_true rfl) d_P_startAnew_17 (fun H locs hP hD hS => ?_)
  have hP : va_P (dC, dI) cls (wC Z cI cP p0 q0 g0 h0 (up (up (up (up S 7 j 0) 8 j 0) 9 j 0) 10 j 0)) H := by rw [← w_pt6 (hj)]; exact hP
  have hD : va_D (w_A (wC Z cI cP p0 q0 g0 h0 (S))) (wC Z cI cP p0 q0 g0 h0 (up (up (up (up S 7 j 0) 8 j 0) 9 j 0) 10 j 0)) := by rw [← w_pt6 (hj)]; exact hD
  exact wr_v hx hb hr hlk hP hS d_P_startAnew_20
set_option maxRecDepth 100000 in
set_option maxHeartbeats 4000000 in
/-- receive(u, v) -/
theorem c_P_receive (l : Launch) (dC : Nat → ClassId) (dI : Nat → Nat → Nat) (Z : Nat → Nat) (cI cP : ClassId) (p0 q0 g0 h0 : Nat) (S : Nat → Nat → Int32) (j : Nat) (hj : j < 7) (u0 v0 : Int32) : Wr l y_P_receive ws_P_receive 0 0 [.ref (Z (6 + j)), .int u0, .int v0] (dC, dI) cls (tysC cI cP) (wC Z cI cP p0 q0 g0 h0 (S)) (wC Z cI cP p0 q0 g0 h0 (rcv S j u0 v0)) (none) := by
  refine Met.ofW (cc := b_P_receive) (maxL := 3) (ret := none) (by decide) rfl ?_
  intro p e s m args below meth c s₁ B hml hv
  obtain ⟨rfl, hP, hK, hD0⟩ := hv
  have hx := B.exec
  have hb := B.bytes
  have hr := B.returns
  have hts : ∀ w ∈ AL, w.before ([.ref (Z (6 + j)), .int u0, .int v0] : List Value).toArray s = true := fun w h => atoms_spec (ws := ws_P_receive) B.pre w (List.mem_cons_of_mem _ h)
  have hown : s.vm.findClass "DealtSecret$Participant" = some m.cls := findClass_of_methodNamed B.named
  have hlk := B.notSynchronized
  have hl := lv_entry ([.ref (Z (6 + j)), .int u0, .int v0]) (n := 3) (Nat.le_of_ble_eq_true rfl)
  rw [lg_entry_eq]
  generalize (lg_sl ([.ref (Z (6 + j)), .int u0, .int v0]) ++ List.replicate (3 - (lg_sl ([.ref (Z (6 + j)), .int u0, .int v0])).length) Slot.unset).toArray = ls at hl ⊢
  have hl : lv_has ls 3 [(0, .ref (Z (6 + j))), (1, .int u0), (2, .int v0)] := hl
  have hD := w_self hD0
  have hS : va_S (w_A (wC Z cI cP p0 q0 g0 h0 (S))) s.heap s.heap [] := va_S.rf
  refine lv_aload_n hx hb d_P_receive_0 rfl (lv_at hl 0 rfl) ?_
  refine lv_iload_n hx hb d_P_receive_1 rfl (lv_at hl 1 rfl) ?_
  refine va_put (D := (dC, dI)) (ci := 1) (v := .int u0) (ty := .int) (C := "DealtSecret$Participant") (T := T_P) (N := 9) hx hb hts i_P t_P t_P_ok n_P hown hK hP hD hS (6 + j) (w_part (hj)) rfl 1 (by decide) (hts _ k_66) (fun _ h9 => h9) rfl (by decide +kernel) (rfl) (rfl) (Nat.le_of_ble_eq_true rfl) d_P_receive_2 (fun H locs hP hD hS => ?_)
  have hP : va_P (dC, dI) cls (wC Z cI cP p0 q0 g0 h0 (up S 5 j u0)) H := by rw [← w_pt1 (hj)]; exact hP
  have hD : va_D (w_A (wC Z cI cP p0 q0 g0 h0 (S))) (wC Z cI cP p0 q0 g0 h0 (up S 5 j u0)) := by rw [← w_pt1 (hj)]; exact hD
  refine lv_aload_n hx hb d_P_receive_5 rfl (lv_at hl 0 rfl) ?_
  refine lv_iload_n hx hb d_P_receive_6 rfl (lv_at hl 2 rfl) ?_
  refine va_put (D := (dC, dI)) (ci := 1) (v := .int v0) (ty := .int) (C := "DealtSecret$Participant") (T := T_P) (N := 9) hx hb hts i_P t_P t_P_ok n_P hown hK hP hD hS (6 + j) (w_part (hj)) rfl 2 (by decide) (hts _ k_68) (fun _ h9 => h9) rfl (by decide +kernel) (rfl) (rfl) (Nat.le_of_ble_eq_true rfl) d_P_receive_7 (fun H locs hP hD hS => ?_)
  have hP : va_P (dC, dI) cls (wC Z cI cP p0 q0 g0 h0 (up (up S 5 j u0) 6 j v0)) H := by rw [← w_pt2 (hj)]; exact hP
  have hD : va_D (w_A (wC Z cI cP p0 q0 g0 h0 (S))) (wC Z cI cP p0 q0 g0 h0 (up (up S 5 j u0) 6 j v0)) := by rw [← w_pt2 (hj)]; exact hD
  exact wr_v hx hb hr hlk hP hS d_P_receive_10
set_option maxRecDepth 100000 in
set_option maxHeartbeats 4000000 in
/-- keep(u, v) -/
theorem c_P_keep (l : Launch) (dC : Nat → ClassId) (dI : Nat → Nat → Nat) (Z : Nat → Nat) (cI cP : ClassId) (p0 q0 g0 h0 : Nat) (S : Nat → Nat → Int32) (j : Nat) (hj : j < 7) (u0 v0 : Int32) : Wr l y_P_keep ws_P_keep 0 0 [.ref (Z (6 + j)), .int u0, .int v0] (dC, dI) cls (tysC cI cP) (wC Z cI cP p0 q0 g0 h0 (S)) (wC Z cI cP p0 q0 g0 h0 (kpt S j u0 v0)) (none) := by
  refine Met.ofW (cc := b_P_keep) (maxL := 3) (ret := none) (by decide) rfl ?_
  intro p e s m args below meth c s₁ B hml hv
  obtain ⟨rfl, hP, hK, hD0⟩ := hv
  have hx := B.exec
  have hb := B.bytes
  have hr := B.returns
  have hts : ∀ w ∈ AL, w.before ([.ref (Z (6 + j)), .int u0, .int v0] : List Value).toArray s = true := fun w h => atoms_spec (ws := ws_P_keep) B.pre w (List.mem_cons_of_mem _ h)
  have hown : s.vm.findClass "DealtSecret$Participant" = some m.cls := findClass_of_methodNamed B.named
  have hlk := B.notSynchronized
  have hl := lv_entry ([.ref (Z (6 + j)), .int u0, .int v0]) (n := 3) (Nat.le_of_ble_eq_true rfl)
  rw [lg_entry_eq]
  generalize (lg_sl ([.ref (Z (6 + j)), .int u0, .int v0]) ++ List.replicate (3 - (lg_sl ([.ref (Z (6 + j)), .int u0, .int v0])).length) Slot.unset).toArray = ls at hl ⊢
  have hl : lv_has ls 3 [(0, .ref (Z (6 + j))), (1, .int u0), (2, .int v0)] := hl
  have hD := w_self hD0
  have hS : va_S (w_A (wC Z cI cP p0 q0 g0 h0 (S))) s.heap s.heap [] := va_S.rf
  refine lv_aload_n hx hb d_P_keep_0 rfl (lv_at hl 0 rfl) ?_
  refine lv_iconst (v := 1) hx hb d_P_keep_1 (by decide) ?_
  refine va_put (D := (dC, dI)) (ci := 1) (v := .int 1) (ty := .boolean) (C := "DealtSecret$Participant") (T := T_P) (N := 9) hx hb hts i_P t_P t_P_ok n_P hown hK hP hD hS (6 + j) (w_part (hj)) rfl 6 (by decide) (hts _ k_76) (fun _ h9 => h9) rfl (by decide +kernel) (rfl) (rfl) (Nat.le_of_ble_eq_true rfl) d_P_keep_2 (fun H locs hP hD hS => ?_)
  have hP : va_P (dC, dI) cls (wC Z cI cP p0 q0 g0 h0 (up S 10 j 1)) H := by rw [← w_pt6 (hj)]; exact hP
  have hD : va_D (w_A (wC Z cI cP p0 q0 g0 h0 (S))) (wC Z cI cP p0 q0 g0 h0 (up S 10 j 1)) := by rw [← w_pt6 (hj)]; exact hD
  refine lv_aload_n hx hb d_P_keep_5 rfl (lv_at hl 0 rfl) ?_
  refine lv_iload_n hx hb d_P_keep_6 rfl (lv_at hl 1 rfl) ?_
  refine va_put (D := (dC, dI)) (ci := 1) (v := .int u0) (ty := .int) (C := "DealtSecret$Participant") (T := T_P) (N := 9) hx hb hts i_P t_P t_P_ok n_P hown hK hP hD hS (6 + j) (w_part (hj)) rfl 7 (by decide) (hts _ k_78) (fun _ h9 => h9) rfl (by decide +kernel) (rfl) (rfl) (Nat.le_of_ble_eq_true rfl) d_P_keep_7 (fun H locs hP hD hS => ?_)
  have hP : va_P (dC, dI) cls (wC Z cI cP p0 q0 g0 h0 (up (up S 10 j 1) 11 j u0)) H := by rw [← w_pt7 (hj)]; exact hP
  have hD : va_D (w_A (wC Z cI cP p0 q0 g0 h0 (S))) (wC Z cI cP p0 q0 g0 h0 (up (up S 10 j 1) 11 j u0)) := by rw [← w_pt7 (hj)]; exact hD
  refine lv_aload_n hx hb d_P_keep_10 rfl (lv_at hl 0 rfl) ?_
  refine lv_iload_n hx hb d_P_keep_11 rfl (lv_at hl 2 rfl) ?_
  refine va_put (D := (dC, dI)) (ci := 1) (v := .int v0) (ty := .int) (C := "DealtSecret$Participant") (T := T_P) (N := 9) hx hb hts i_P t_P t_P_ok n_P hown hK hP hD hS (6 + j) (w_part (hj)) rfl 8 (by decide) (hts _ k_80) (fun _ h9 => h9) rfl (by decide +kernel) (rfl) (rfl) (Nat.le_of_ble_eq_true rfl) d_P_keep_12 (fun H locs hP hD hS => ?_)
  have hP : va_P (dC, dI) cls (wC Z cI cP p0 q0 g0 h0 (up (up (up S 10 j 1) 11 j u0) 12 j v0)) H := by rw [← w_pt8 (hj)]; exact hP
  have hD : va_D (w_A (wC Z cI cP p0 q0 g0 h0 (S))) (wC Z cI cP p0 q0 g0 h0 (up (up (up S 10 j 1) 11 j u0) 12 j v0)) := by rw [← w_pt8 (hj)]; exact hD
  exact wr_v hx hb hr hlk hP hS d_P_keep_15
