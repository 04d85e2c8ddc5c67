set_option maxRecDepth 100000 in
set_option maxHeartbeats 4000000 in
theorem c_G_init (l : Launch) (dC : Nat → ClassId) (dI : Nat → Nat → Nat) (gr : Nat) (p1 q1 g1 h1 : Int32) : Wr l y_G_init ws_G_init 1 12 [.ref gr, .int p1, .int q1, .int g1, .int h1] (dC, dI) cls [] [(gr, .inr (0, [.int 0, .int 0, .int 0, .int 0]))] [(gr, .inr (0, [.int p1, .int q1, .int g1, .int h1]))] none := by
  refine Met.ofW (cc := b_G_init) (maxL := 5) (ret := none) (by decide) rfl ?_
  intro p e s m args below meth c s₁ B hml hv
  obtain ⟨rfl, hP, hK, hD0⟩ := hv
  have hx := B.exec
  have hb := B.bytes
  have hr := B.returns
  have hts : ∀ w ∈ AL, w.before ([.ref gr, .int p1, .int q1, .int g1, .int h1] : List Value).toArray s = true := fun w h => atoms_spec (ws := ws_G_init) B.pre w (List.mem_cons_of_mem _ h)
  have hown : s.vm.findClass "DealtSecret$Group" = some m.cls := findClass_of_methodNamed B.named
  have hlk := B.notSynchronized
  have hl := lv_entry ([.ref gr, .int p1, .int q1, .int g1, .int h1]) (n := 5) (Nat.le_of_ble_eq_true rfl)
  rw [lg_entry_eq]
  generalize (lg_sl ([.ref gr, .int p1, .int q1, .int g1, .int h1]) ++ List.replicate (5 - (lg_sl ([.ref gr, .int p1, .int q1, .int g1, .int h1])).length) Slot.unset).toArray = ls at hl ⊢
  have hl : lv_has ls 5 [(0, .ref gr), (1, .int p1), (2, .int q1), (3, .int g1), (4, .int h1)] := hl
  have hin : meth.name = "<init>" := (name_of_methodNamed B.named B.method).1
  have hD := w_self hD0
  have hS : va_S (w_A [(gr, .inr (0, [.int 0, .int 0, .int 0, .int 0]))]) s.heap s.heap [] := va_S.rf
  refine lv_aload_n hx hb d_G_init_0 rfl (lv_at hl 0 rfl) ?_
  refine W.objInit hx hb hown (hts _ k_41) (hts _ k_19) (hts _ k_20) rfl (by rw [hml]; exact hl.1) rfl d_G_init_1 (Nat.le_of_ble_eq_true rfl) (Nat.le_of_ble_eq_true rfl) ?_
  refine W.eq (g2 := F0 m 4 ls []) rfl ?_
  refine lv_aload_n hx hb d_G_init_4 rfl (lv_at hl 0 rfl) ?_
  refine lv_iload_n hx hb d_G_init_5 rfl (lv_at hl 1 rfl) ?_
  refine va_putF (D := (dC, dI)) (ci := 0) (v := .int p1) (ty := .int) (C := "DealtSecret$Group") (T := T_G) (N := 4) hx hb hts i_G t_G t_G_ok n_G hown hK hP hD hS 0 rfl rfl 0 (by decide) (hts _ k_42) (fun _ h9 => h9) rfl hin rfl (by decide +kernel) rfl rfl (Nat.le_of_ble_eq_true rfl) d_G_init_6 (fun H locs hP hD hS => ?_)
  have hP : va_P (dC, dI) cls [(gr, .inr (0, [.int p1, .int 0, .int 0, .int 0]))] H := hP
  have hD : va_D (w_A [(gr, .inr (0, [.int 0, .int 0, .int 0, .int 0]))]) [(gr, .inr (0, [.int p1, .int 0, .int 0, .int 0]))] := hD
  refine lv_aload_n hx hb d_G_init_9 rfl (lv_at hl 0 rfl) ?_
  refine lv_iload_n hx hb d_G_init_10 rfl (lv_at hl 2 rfl) ?_
  refine va_putF (D := (dC, dI)) (ci := 0) (v := .int q1) (ty := .int) (C := "DealtSecret$Group") (T := T_G) (N := 4) hx hb hts i_G t_G t_G_ok n_G hown hK hP hD hS 0 rfl rfl 1 (by decide) (hts _ k_44) (fun _ h9 => h9) rfl hin rfl (by decide +kernel) rfl rfl (Nat.le_of_ble_eq_true rfl) d_G_init_11 (fun H locs hP hD hS => ?_)
  have hP : va_P (dC, dI) cls [(gr, .inr (0, [.int p1, .int q1, .int 0, .int 0]))] H := hP
  have hD : va_D (w_A [(gr, .inr (0, [.int 0, .int 0, .int 0, .int 0]))]) [(gr, .inr (0, [.int p1, .int q1, .int 0, .int 0]))] := hD
  refine lv_aload_n hx hb d_G_init_14 rfl (lv_at hl 0 rfl) ?_
  refine lv_iload_n hx hb d_G_init_15 rfl (lv_at hl 3 rfl) ?_
  refine va_putF (D := (dC, dI)) (ci := 0) (v := .int g1) (ty := .int) (C := "DealtSecret$Group") (T := T_G) (N := 4) hx hb hts i_G t_G t_G_ok n_G hown hK hP hD hS 0 rfl rfl 2 (by decide) (hts _ k_46) (fun _ h9 => h9) rfl hin rfl (by decide +kernel) rfl rfl (Nat.le_of_ble_eq_true rfl) d_G_init_16 (fun H locs hP hD hS => ?_)
  have hP : va_P (dC, dI) cls [(gr, .inr (0, [.int p1, .int q1, .int g1, .int 0]))] H := hP
  have hD : va_D (w_A [(gr, .inr (0, [.int 0, .int 0, .int 0, .int 0]))]) [(gr, .inr (0, [.int p1, .int q1, .int g1, .int 0]))] := hD
  refine lv_aload_n hx hb d_G_init_19 rfl (lv_at hl 0 rfl) ?_
  refine lv_iload hx hb d_G_init_20 (lv_at hl 4 rfl) ?_
  refine va_putF (D := (dC, dI)) (ci := 0) (v := .int h1) (ty := .int) (C := "DealtSecret$Group") (T := T_G) (N := 4) hx hb hts i_G t_G t_G_ok n_G hown hK hP hD hS 0 rfl rfl 3 (by decide) (hts _ k_48) (fun _ h9 => h9) rfl hin rfl (by decide +kernel) rfl rfl (Nat.le_of_ble_eq_true rfl) d_G_init_22 (fun H locs hP hD hS => ?_)
  have hP : va_P (dC, dI) cls [(gr, .inr (0, [.int p1, .int q1, .int g1, .int h1]))] H := hP
  have hD : va_D (w_A [(gr, .inr (0, [.int 0, .int 0, .int 0, .int 0]))]) [(gr, .inr (0, [.int p1, .int q1, .int g1, .int h1]))] := hD
  exact wr_v hx hb hr hlk hP hS d_G_init_25
set_option maxRecDepth 100000 in
set_option maxHeartbeats 4000000 in
theorem c_P_init (l : Launch) (dC : Nat → ClassId) (dI : Nat → Nat → Nat) (pa : Nat) (n1 : Int32) : Wr l y_P_init ws_P_init 1 12 [.ref pa, .int n1] (dC, dI) cls [] [(pa, .inr (1, [.int 0, .int 0, .int 0, .int 0, .int 0, .int 0, .int 0, .int 0, .int 0]))] [(pa, .inr (1, [.int n1, .int 0, .int 0, .int 0, .int 0, .int 0, .int 0, .int 0, .int 0]))] none := by
  refine Met.ofW (cc := b_P_init) (maxL := 2) (ret := none) (by decide) rfl ?_
  intro p e s m args below meth c s₁ B hml hv
  obtain ⟨rfl, hP, hK, hD0⟩ := hv
  have hx := B.exec
  have hb := B.bytes
  have hr := B.returns
  have hts : ∀ w ∈ AL, w.before ([.ref pa, .int n1] : List Value).toArray s = true := fun w h => atoms_spec (ws := ws_P_init) B.pre w (List.mem_cons_of_mem _ h)
  have hown : s.vm.findClass "DealtSecret$Participant" = some m.cls := findClass_of_methodNamed B.named
  have hlk := B.notSynchronized
  have hl := lv_entry ([.ref pa, .int n1]) (n := 2) (Nat.le_of_ble_eq_true rfl)
  rw [lg_entry_eq]
  generalize (lg_sl ([.ref pa, .int n1]) ++ List.replicate (2 - (lg_sl ([.ref pa, .int n1])).length) Slot.unset).toArray = ls at hl ⊢
  have hl : lv_has ls 2 [(0, .ref pa), (1, .int n1)] := hl
  have hin : meth.name = "<init>" := (name_of_methodNamed B.named B.method).1
  have hD := w_self hD0
  have hS : va_S (w_A [(pa, .inr (1, [.int 0, .int 0, .int 0, .int 0, .int 0, .int 0, .int 0, .int 0, .int 0]))]) s.heap s.heap [] := va_S.rf
  refine lv_aload_n hx hb d_P_init_0 rfl (lv_at hl 0 rfl) ?_
  refine W.objInit hx hb hown (hts _ k_63) (hts _ k_19) (hts _ k_20) rfl (by rw [hml]; exact hl.1) rfl d_P_init_1 (Nat.le_of_ble_eq_true rfl) (Nat.le_of_ble_eq_true rfl) ?_
  refine W.eq (g2 := F0 m 4 ls []) rfl ?_
  refine lv_aload_n hx hb d_P_init_4 rfl (lv_at hl 0 rfl) ?_
  refine lv_iload_n hx hb d_P_init_5 rfl (lv_at hl 1 rfl) ?_
  refine va_putF (D := (dC, dI)) (ci := 1) (v := .int n1) (ty := .int) (C := "DealtSecret$Participant") (T := T_P) (N := 9) hx hb hts i_P t_P t_P_ok n_P hown hK hP hD hS 0 rfl rfl 0 (by decide) (hts _ k_64) (fun _ h9 => h9) rfl hin rfl (by decide +kernel) rfl rfl (Nat.le_of_ble_eq_true rfl) d_P_init_6 (fun H locs hP hD hS => ?_)
  have hP : va_P (dC, dI) cls [(pa, .inr (1, [.int n1, .int 0, .int 0, .int 0, .int 0, .int 0, .int 0, .int 0, .int 0]))] H := hP
  have hD : va_D (w_A [(pa, .inr (1, [.int 0, .int 0, .int 0, .int 0, .int 0, .int 0, .int 0, .int 0, .int 0]))]) [(pa, .inr (1, [.int n1, .int 0, .int 0, .int 0, .int 0, .int 0, .int 0, .int 0, .int 0]))] := hD
  exact wr_v hx hb hr hlk hP hS d_P_init_9
