set_option maxRecDepth 100000 in
set_option maxHeartbeats 4000000 in
/-- answer of one that has not complained -/
theorem t_C_answer_no (l : Launch) (hlt : l.stackTraces = false) (dC : Nat → ClassId) (dI : Nat → Nat → Nat) (Z : Nat → Nat) (cI cP : ClassId) (p0 q0 g0 h0 : Nat) (S : Nat → Nat → Int32) (j n0 : Nat) (x1 y1 : Int32) (hst : S 0 0 = 4) (hn : S 0 1 = nI n0) (hn7 : n0 ≤ 7) (hj : j < n0) (hno : S 8 j = 0) : Tc l y_C_answer ws_C_answer 7 103 [.ref (Z 0), .int (nI (j + 1)), .int x1, .int y1] (bX dC dI Z cI cP p0 q0 g0 h0 S) "java/util/NoSuchElementException" := by
  refine vx_ofW (cc := b_C_answer) (maxL := 5) (ret := (some .boolean)) (by decide) rfl ?_
  intro p e s m args below meth c s₁ B hml hemp hv
  obtain ⟨rfl, ⟨hP, hK⟩, hxx⟩ := hv
  have hx := B.exec
  have hb := B.bytes
  have hr := B.returns
  have hts : ∀ w ∈ AL, w.before ([.ref (Z 0), .int (nI (j + 1)), .int x1, .int y1] : List Value).toArray s = true := fun w h => atoms_spec (ws := ws_C_answer) B.pre w (List.mem_cons_of_mem _ h)
  have hown : s.vm.findClass "DealtSecret" = some m.cls := findClass_of_methodNamed B.named
  have hlk := B.notSynchronized
  have hl := lv_entry ([.ref (Z 0), .int (nI (j + 1)), .int x1, .int y1]) (n := 5) (Nat.le_of_ble_eq_true rfl)
  rw [lg_entry_eq]
  generalize (lg_sl ([.ref (Z 0), .int (nI (j + 1)), .int x1, .int y1]) ++ List.replicate (5 - (lg_sl ([.ref (Z 0), .int (nI (j + 1)), .int x1, .int y1])).length) Slot.unset).toArray = ls at hl ⊢
  have hl : lv_has ls 5 [(0, .ref (Z 0)), (1, .int (nI (j + 1))), (2, .int x1), (3, .int y1)] := hl
  refine lv_aload_n hx hb d_C_answer_0 rfl (lv_at hl 0 rfl) ?_
  refine lv_iconst (v := 4) hx hb d_C_answer_1 (by decide) ?_
  refine rv_V (As := [.int 4]) (rest := []) (b := (Z 0)) ⟨hx, hb, hml, hown, hts⟩ (c_C_demandStage l dC dI Z cI cP p0 q0 g0 h0 S 4 hst) (cwV 1 hts (al_V k_269 k_270 k_637 k_1 k_271) rfl rfl rfl (by decide +kernel) ⟨Nat.le_of_ble_eq_true rfl, Nat.le_of_ble_eq_true rfl⟩) (fun U g mk a h => ⟨h.1, va_K.moved (u := U) (U := U.calling g mk a) (Vm.Alike.refl U.vm) h.2⟩) (va_recv hK hP (ci := 2) (q0 := 0) rfl rfl) (fun U hU hW => ⟨by rw [hU]; exact hP, va_K.moved hW.alike hK⟩) rfl hl.1 rfl (lv_room (Nat.le_of_ble_eq_true rfl)) d_C_answer_2 ⟨Nat.zero_le _, Nat.zero_le _⟩ ?_
  refine lv_aload_n hx hb d_C_answer_5 rfl (lv_at hl 0 rfl) ?_
  refine lv_iload_n hx hb d_C_answer_6 rfl (lv_at hl 1 rfl) ?_
  refine rv_V (As := [.int (nI (j + 1))]) (rest := []) (b := (Z 0)) ⟨hx, hb, hml, hown, hts⟩ (c_C_demandParticipant l dC dI Z cI cP p0 q0 g0 h0 S (nI (j + 1)) (by rw [hn]; exact isPt_of (by omega) hj)) (cwV 1 hts (al_V k_338 k_339 k_645 k_1 k_340) rfl rfl rfl (by decide +kernel) ⟨Nat.le_of_ble_eq_true rfl, Nat.le_of_ble_eq_true rfl⟩) (fun U g mk a h => ⟨h.1, va_K.moved (u := U) (U := U.calling g mk a) (Vm.Alike.refl U.vm) h.2⟩) (va_recv hK hP (ci := 2) (q0 := 0) rfl rfl) (fun U hU hW => ⟨by rw [hU]; exact hP, va_K.moved hW.alike hK⟩) rfl hl.1 rfl (lv_room (Nat.le_of_ble_eq_true rfl)) d_C_answer_7 ⟨Nat.zero_le _, Nat.zero_le _⟩ ?_
  refine lv_aload_n hx hb d_C_answer_10 rfl (lv_at hl 0 rfl) ?_
  refine va_get (D := (dC, dI)) (ci := 2) (v := .ref (Z 5)) (C := "DealtSecret") (T := T_C) (N := 11) hx hb hts i_C hown hK hP 0 rfl rfl 4 (by decide) (hts _ k_105) (fun _ h9 => h9) rfl d_C_answer_11 ?_
  refine lv_iload_n hx hb d_C_answer_14 rfl (lv_at hl 1 rfl) ?_
  refine lv_iconst (v := 1) hx hb d_C_answer_15 (by decide) ?_
  refine lv_isub hx hb d_C_answer_16 ?_
  refine x_i (y := nI j) (nI_pred j) ?_
  refine va_aldq hx hb hK hP 5 1 rfl rfl (vp_in_nI (by omega) (by decide)) d_C_answer_17 ?_
  refine x_v (y := .ref (Z (6 + j))) (by rw [nI_clamp (by omega)]; rfl) ?_
  refine lv_astore (lv' := [(4, .ref (Z (6 + j))), (0, .ref (Z 0)), (1, .int (nI (j + 1))), (2, .int x1), (3, .int y1)]) hx hb d_C_answer_18 hl (by decide) rfl (fun ls hl => ?_)
  refine lv_aload hx hb d_C_answer_20 (lv_at hl 0 rfl) ?_
  refine va_get (D := (dC, dI)) (ci := 1) (v := .int (S 8 j)) (C := "DealtSecret$Participant") (T := T_P) (N := 9) hx hb hts i_P hown hK hP (6 + j) (w_part (by omega)) rfl 4 (by decide) (hts _ k_73) (fun _ h9 => h9) rfl d_C_answer_22 ?_
  refine lv_if_ne (tgt := 38) hx hb d_C_answer_25 (by decide) (fun c_ => absurd (hno) c_) (fun _ => ?_)
  exact nx_throw (tx := "this participant has not complained") hx hb hlt hemp hlk (hl.1.trans hml.symm) hown hts k_366 k_12 hxx (by decide +kernel) d_C_answer_28 d_C_answer_31 d_C_answer_32 d_C_answer_34 d_C_answer_37 (Nat.le_of_ble_eq_true rfl) (Nat.le_of_ble_eq_true rfl) (Nat.le_of_ble_eq_true rfl) (Nat.le_of_ble_eq_true rfl)
set_option maxRecDepth 100000 in
set_option maxHeartbeats 4000000 in
/-- secret of too few pairs -/
theorem t_C_secret_few (l : Launch) (hlt : l.stackTraces = false) (dC : Nat → ClassId) (dI : Nat → Nat → Nat) (Z : Nat → Nat) (cI cP : ClassId) (p0 q0 g0 h0 : Nat) (S : Nat → Nat → Int32) (n0 t0 : Nat) (hst : S 0 0 = 5) (hn : S 0 1 = nI n0) (hn7 : n0 ≤ 7) (ht : S 0 2 = nI t0) (ht7 : t0 ≤ 7) (hfew : mz_ct (S 10) n0 < t0) : Tc l y_C_secret ws_C_secret 7 103 [.ref (Z 0)] (bX dC dI Z cI cP p0 q0 g0 h0 S) "java/util/NoSuchElementException" := by
  refine vx_ofW (cc := b_C_secret) (maxL := 5) (ret := (some .int)) (by decide) rfl ?_
  intro p e s m args below meth c s₁ B hml hemp hv
  obtain ⟨rfl, ⟨hP, hK⟩, hxx⟩ := hv
  have hx := B.exec
  have hb := B.bytes
  have hr := B.returns
  have hts : ∀ w ∈ AL, w.before ([.ref (Z 0)] : List Value).toArray s = true := fun w h => atoms_spec (ws := ws_C_secret) B.pre w (List.mem_cons_of_mem _ h)
  have hown : s.vm.findClass "DealtSecret" = some m.cls := findClass_of_methodNamed B.named
  have hlk := B.notSynchronized
  have hl := lv_entry ([.ref (Z 0)]) (n := 5) (Nat.le_of_ble_eq_true rfl)
  rw [lg_entry_eq]
  generalize (lg_sl ([.ref (Z 0)]) ++ List.replicate (5 - (lg_sl ([.ref (Z 0)])).length) Slot.unset).toArray = ls at hl ⊢
  have hl : lv_has ls 5 [(0, .ref (Z 0))] := hl
  refine lv_aload_n hx hb d_C_secret_0 rfl (lv_at hl 0 rfl) ?_
  refine lv_iconst (v := 5) hx hb d_C_secret_1 (by decide) ?_
  refine rv_V (As := [.int 5]) (rest := []) (b := (Z 0)) ⟨hx, hb, hml, hown, hts⟩ (c_C_demandStage l dC dI Z cI cP p0 q0 g0 h0 S 5 hst) (cwV 1 hts (al_V k_269 k_270 k_637 k_1 k_271) rfl rfl rfl (by decide +kernel) ⟨Nat.le_of_ble_eq_true rfl, Nat.le_of_ble_eq_true rfl⟩) (fun U g mk a h => ⟨h.1, va_K.moved (u := U) (U := U.calling g mk a) (Vm.Alike.refl U.vm) h.2⟩) (va_recv hK hP (ci := 2) (q0 := 0) rfl rfl) (fun U hU hW => ⟨by rw [hU]; exact hP, va_K.moved hW.alike hK⟩) rfl hl.1 rfl (lv_room (Nat.le_of_ble_eq_true rfl)) d_C_secret_2 ⟨Nat.zero_le _, Nat.zero_le _⟩ ?_
  refine lv_aload_n hx hb d_C_secret_5 rfl (lv_at hl 0 rfl) ?_
  refine ro_V (As := []) (rest := []) (b := (Z 0)) ⟨hx, hb, hml, hown, hts⟩ (c_C_opened l dC dI Z cI cP p0 q0 g0 h0 S n0 hn hn7) (cwV 0 hts (al_V k_414 k_191 k_192 k_1 k_193) rfl rfl rfl (by decide +kernel) ⟨Nat.le_of_ble_eq_true rfl, Nat.le_of_ble_eq_true rfl⟩) (fun U g mk a h => ⟨h.1, va_K.moved (u := U) (U := U.calling g mk a) (Vm.Alike.refl U.vm) h.2⟩) (va_recv hK hP (ci := 2) (q0 := 0) rfl rfl) (fun U hU hW => ⟨by rw [hU]; exact hP, va_K.moved hW.alike hK⟩) rfl hl.1 rfl (lv_room (Nat.le_of_ble_eq_true rfl)) d_C_secret_6 ⟨Nat.zero_le _, Nat.zero_le _⟩ ?_
  refine lv_aload_n hx hb d_C_secret_9 rfl (lv_at hl 0 rfl) ?_
  refine va_get (D := (dC, dI)) (ci := 2) (v := .int (S 0 2)) (C := "DealtSecret") (T := T_C) (N := 11) hx hb hts i_C hown hK hP 0 rfl rfl 7 (by decide) (hts _ k_108) (fun _ h9 => h9) rfl d_C_secret_10 ?_
  refine x_i (y := nI t0) (ht) ?_
  refine lv_icmp_ge (tgt := 26) hx hb d_C_secret_13 (by decide) (fun c_ => absurd c_ (nI_ge hfew (by omega))) (fun _ => ?_)
  exact nx_throw (tx := "too few pairs are open") hx hb hlt hemp hlk (hl.1.trans hml.symm) hown hts k_366 k_12 hxx (by decide +kernel) d_C_secret_16 d_C_secret_19 d_C_secret_20 d_C_secret_22 d_C_secret_25 (Nat.le_of_ble_eq_true rfl) (Nat.le_of_ble_eq_true rfl) (Nat.le_of_ble_eq_true rfl) (Nat.le_of_ble_eq_true rfl)
set_option maxRecDepth 100000 in
set_option maxHeartbeats 4000000 in
/-- relation where none is told -/
theorem t_C_relation_no (l : Launch) (hlt : l.stackTraces = false) (dC : Nat → ClassId) (dI : Nat → Nat → Nat) (Z : Nat → Nat) (cI cP : ClassId) (p0 q0 g0 h0 : Nat) (S : Nat → Nat → Int32) (hst : S 0 0 = 5) (hno : S 0 4 = 0) : Tc l y_C_relation ws_C_relation 7 103 [.ref (Z 0)] (bX dC dI Z cI cP p0 q0 g0 h0 S) "java/util/NoSuchElementException" := by
  refine vx_ofW (cc := b_C_relation) (maxL := 1) (ret := (some .int)) (by decide) rfl ?_
  intro p e s m args below meth c s₁ B hml hemp hv
  obtain ⟨rfl, ⟨hP, hK⟩, hxx⟩ := hv
  have hx := B.exec
  have hb := B.bytes
  have hr := B.returns
  have hts : ∀ w ∈ AL, w.before ([.ref (Z 0)] : List Value).toArray s = true := fun w h => atoms_spec (ws := ws_C_relation) B.pre w (List.mem_cons_of_mem _ h)
  have hown : s.vm.findClass "DealtSecret" = some m.cls := findClass_of_methodNamed B.named
  have hlk := B.notSynchronized
  have hl := lv_entry ([.ref (Z 0)]) (n := 1) (Nat.le_of_ble_eq_true rfl)
  rw [lg_entry_eq]
  generalize (lg_sl ([.ref (Z 0)]) ++ List.replicate (1 - (lg_sl ([.ref (Z 0)])).length) Slot.unset).toArray = ls at hl ⊢
  have hl : lv_has ls 1 [(0, .ref (Z 0))] := hl
  refine lv_aload_n hx hb d_C_relation_0 rfl (lv_at hl 0 rfl) ?_
  refine lv_iconst (v := 5) hx hb d_C_relation_1 (by decide) ?_
  refine rv_V (As := [.int 5]) (rest := []) (b := (Z 0)) ⟨hx, hb, hml, hown, hts⟩ (c_C_demandStage l dC dI Z cI cP p0 q0 g0 h0 S 5 hst) (cwV 1 hts (al_V k_269 k_270 k_637 k_1 k_271) rfl rfl rfl (by decide +kernel) ⟨Nat.le_of_ble_eq_true rfl, Nat.le_of_ble_eq_true rfl⟩) (fun U g mk a h => ⟨h.1, va_K.moved (u := U) (U := U.calling g mk a) (Vm.Alike.refl U.vm) h.2⟩) (va_recv hK hP (ci := 2) (q0 := 0) rfl rfl) (fun U hU hW => ⟨by rw [hU]; exact hP, va_K.moved hW.alike hK⟩) rfl hl.1 rfl (lv_room (Nat.le_of_ble_eq_true rfl)) d_C_relation_2 ⟨Nat.zero_le _, Nat.zero_le _⟩ ?_
  refine lv_aload_n hx hb d_C_relation_5 rfl (lv_at hl 0 rfl) ?_
  refine va_get (D := (dC, dI)) (ci := 2) (v := .int (S 0 4)) (C := "DealtSecret") (T := T_C) (N := 11) hx hb hts i_C hown hK hP 0 rfl rfl 9 (by decide) (hts _ k_110) (fun _ h9 => h9) rfl d_C_relation_6 ?_
  refine lv_if_ne (tgt := 22) hx hb d_C_relation_9 (by decide) (fun c_ => absurd (hno) c_) (fun _ => ?_)
  exact nx_throw (tx := "no two pairs tell the relation") hx hb hlt hemp hlk (hl.1.trans hml.symm) hown hts k_366 k_12 hxx (by decide +kernel) d_C_relation_12 d_C_relation_15 d_C_relation_16 d_C_relation_18 d_C_relation_21 (Nat.le_of_ble_eq_true rfl) (Nat.le_of_ble_eq_true rfl) (Nat.le_of_ble_eq_true rfl) (Nat.le_of_ble_eq_true rfl)
