/-- begin(n, t, ..) is allowed -/
def bgOk (n t q : Int32) : Prop := ¬ n < 1 ∧ ¬ 7 < n ∧ ¬ t < 1 ∧ ¬ n < t ∧ n < q
set_option maxRecDepth 100000 in
set_option maxHeartbeats 4000000 in
/-- coefficient in another stage -/
theorem t_C_coefficient_st (l : Launch) (hlt : l.stackTraces = false) (dC : Nat → ClassId) (dI : Nat → Nat → Nat) (Z : Nat → Nat) (cI cP : ClassId) (p0 q0 g0 h0 : Nat) (S : Nat → Nat → Int32) (k1 x1 y1 : Int32) (hne : ¬ S 0 0 = 1) : Tc l y_C_coefficient ws_C_coefficient 7 103 [.ref (Z 0), .int k1, .int x1, .int y1] (bX dC dI Z cI cP p0 q0 g0 h0 S) "java/lang/IllegalStateException" := by
  refine vx_ofW (cc := b_C_coefficient) (maxL := 4) (ret := none) (by decide) rfl ?_
  intro p e s m args below meth c s₁ B hml hemp hv
  obtain ⟨rfl, ⟨hP, hK⟩, hxx⟩ := hv
  have hx := B.exec
  have hb := B.bytes
  have hr := B.returns
  have hts : ∀ w ∈ AL, w.before ([.ref (Z 0), .int k1, .int x1, .int y1] : List Value).toArray s = true := fun w h => atoms_spec (ws := ws_C_coefficient) B.pre w (List.mem_cons_of_mem _ h)
  have hown : s.vm.findClass "DealtSecret" = some m.cls := findClass_of_methodNamed B.named
  have hlk := B.notSynchronized
  have hl := lv_entry ([.ref (Z 0), .int k1, .int x1, .int y1]) (n := 4) (Nat.le_of_ble_eq_true rfl)
  rw [lg_entry_eq]
  generalize (lg_sl ([.ref (Z 0), .int k1, .int x1, .int y1]) ++ List.replicate (4 - (lg_sl ([.ref (Z 0), .int k1, .int x1, .int y1])).length) Slot.unset).toArray = ls at hl ⊢
  have hl : lv_has ls 4 [(0, .ref (Z 0)), (1, .int k1), (2, .int x1), (3, .int y1)] := hl
  refine lv_aload_n hx hb d_C_coefficient_0 rfl (lv_at hl 0 rfl) ?_
  refine lv_iconst (v := 1) hx hb d_C_coefficient_1 (by decide) ?_
  exact tx_passV (As := [.int 1]) (rest := []) (b := (Z 0)) ⟨hx, hb, hml, hown, hts⟩ (t_C_demandStage l hlt dC dI Z cI cP p0 q0 g0 h0 S 1 hne) (cwV 1 hts (al_V k_269 k_270 k_637 k_1 k_271) rfl rfl rfl (by decide +kernel) ⟨Nat.le_of_ble_eq_true rfl, Nat.le_of_ble_eq_true rfl⟩) (fun U g mk a h => ⟨⟨h.1.1, va_K.moved (u := U) (U := U.calling g mk a) (Vm.Alike.refl U.vm) h.1.2⟩, xx_bl g mk a h.2⟩) (va_recv hK hP (ci := 2) (q0 := 0) rfl rfl) (fun U hU hW => ⟨⟨by rw [hU]; exact hP, va_K.moved hW.alike hK⟩, xx_to hW (fun a _ => by rw [hU]) hxx⟩) rfl hl.1 rfl (lv_room (Nat.le_of_ble_eq_true rfl)) d_C_coefficient_2 ⟨Nat.le_of_ble_eq_true rfl, Nat.le_of_ble_eq_true rfl⟩ hemp hlk
set_option maxRecDepth 100000 in
set_option maxHeartbeats 4000000 in
/-- coefficient of no coefficient -/
theorem t_C_coefficient_cf (l : Launch) (hlt : l.stackTraces = false) (dC : Nat → ClassId) (dI : Nat → Nat → Nat) (Z : Nat → Nat) (cI cP : ClassId) (p0 q0 g0 h0 : Nat) (S : Nat → Nat → Int32) (k1 x1 y1 : Int32) (hst : S 0 0 = 1) (hne : ¬ isCf (S 0 2) k1) : Tc l y_C_coefficient ws_C_coefficient 7 103 [.ref (Z 0), .int k1, .int x1, .int y1] (bX dC dI Z cI cP p0 q0 g0 h0 S) "java/lang/IllegalArgumentException" := by
  refine vx_ofW (cc := b_C_coefficient) (maxL := 4) (ret := none) (by decide) rfl ?_
  intro p e s m args below meth c s₁ B hml hemp hv
  obtain ⟨rfl, ⟨hP, hK⟩, hxx⟩ := hv
  have hx := B.exec
  have hb := B.bytes
  have hr := B.returns
  have hts : ∀ w ∈ AL, w.before ([.ref (Z 0), .int k1, .int x1, .int y1] : List Value).toArray s = true := fun w h => atoms_spec (ws := ws_C_coefficient) B.pre w (List.mem_cons_of_mem _ h)
  have hown : s.vm.findClass "DealtSecret" = some m.cls := findClass_of_methodNamed B.named
  have hlk := B.notSynchronized
  have hl := lv_entry ([.ref (Z 0), .int k1, .int x1, .int y1]) (n := 4) (Nat.le_of_ble_eq_true rfl)
  rw [lg_entry_eq]
  generalize (lg_sl ([.ref (Z 0), .int k1, .int x1, .int y1]) ++ List.replicate (4 - (lg_sl ([.ref (Z 0), .int k1, .int x1, .int y1])).length) Slot.unset).toArray = ls at hl ⊢
  have hl : lv_has ls 4 [(0, .ref (Z 0)), (1, .int k1), (2, .int x1), (3, .int y1)] := hl
  refine lv_aload_n hx hb d_C_coefficient_0 rfl (lv_at hl 0 rfl) ?_
  refine lv_iconst (v := 1) hx hb d_C_coefficient_1 (by decide) ?_
  refine rv_V (As := [.int 1]) (rest := []) (b := (Z 0)) ⟨hx, hb, hml, hown, hts⟩ (c_C_demandStage l dC dI Z cI cP p0 q0 g0 h0 S 1 hst) (cwV 1 hts (al_V k_269 k_270 k_637 k_1 k_271) rfl rfl rfl (by decide +kernel) ⟨Nat.le_of_ble_eq_true rfl, Nat.le_of_ble_eq_true rfl⟩) (fun U g mk a h => ⟨h.1, va_K.moved (u := U) (U := U.calling g mk a) (Vm.Alike.refl U.vm) h.2⟩) (va_recv hK hP (ci := 2) (q0 := 0) rfl rfl) (fun U hU hW => ⟨by rw [hU]; exact hP, va_K.moved hW.alike hK⟩) rfl hl.1 rfl (lv_room (Nat.le_of_ble_eq_true rfl)) d_C_coefficient_2 ⟨Nat.zero_le _, Nat.zero_le _⟩ ?_
  refine lv_aload_n hx hb d_C_coefficient_5 rfl (lv_at hl 0 rfl) ?_
  refine lv_iload_n hx hb d_C_coefficient_6 rfl (lv_at hl 1 rfl) ?_
  exact tx_passV (As := [.int k1]) (rest := []) (b := (Z 0)) ⟨hx, hb, hml, hown, hts⟩ (t_C_demandCoefficient l hlt dC dI Z cI cP p0 q0 g0 h0 S k1 hne) (cwV 1 hts (al_V k_285 k_286 k_638 k_1 k_287) rfl rfl rfl (by decide +kernel) ⟨Nat.le_of_ble_eq_true rfl, Nat.le_of_ble_eq_true rfl⟩) (fun U g mk a h => ⟨⟨h.1.1, va_K.moved (u := U) (U := U.calling g mk a) (Vm.Alike.refl U.vm) h.1.2⟩, xx_bl g mk a h.2⟩) (va_recv hK hP (ci := 2) (q0 := 0) rfl rfl) (fun U hU hW => ⟨⟨by rw [hU]; exact hP, va_K.moved hW.alike hK⟩, xx_to hW (fun a _ => by rw [hU]) hxx⟩) rfl hl.1 rfl (lv_room (Nat.le_of_ble_eq_true rfl)) d_C_coefficient_7 ⟨Nat.le_of_ble_eq_true rfl, Nat.le_of_ble_eq_true rfl⟩ hemp hlk
set_option maxRecDepth 100000 in
set_option maxHeartbeats 4000000 in
/-- tamper in another stage -/
theorem t_C_tamper_st (l : Launch) (hlt : l.stackTraces = false) (dC : Nat → ClassId) (dI : Nat → Nat → Nat) (Z : Nat → Nat) (cI cP : ClassId) (p0 q0 g0 h0 : Nat) (S : Nat → Nat → Int32) (i1 x1 y1 : Int32) (hne : ¬ S 0 0 = 2) : Tc l y_C_tamper ws_C_tamper 7 103 [.ref (Z 0), .int i1, .int x1, .int y1] (bX dC dI Z cI cP p0 q0 g0 h0 S) "java/lang/IllegalStateException" := by
  refine vx_ofW (cc := b_C_tamper) (maxL := 4) (ret := none) (by decide) rfl ?_
  intro p e s m args below meth c s₁ B hml hemp hv
  obtain ⟨rfl, ⟨hP, hK⟩, hxx⟩ := hv
  have hx := B.exec
  have hb := B.bytes
  have hr := B.returns
  have hts : ∀ w ∈ AL, w.before ([.ref (Z 0), .int i1, .int x1, .int y1] : List Value).toArray s = true := fun w h => atoms_spec (ws := ws_C_tamper) B.pre w (List.mem_cons_of_mem _ h)
  have hown : s.vm.findClass "DealtSecret" = some m.cls := findClass_of_methodNamed B.named
  have hlk := B.notSynchronized
  have hl := lv_entry ([.ref (Z 0), .int i1, .int x1, .int y1]) (n := 4) (Nat.le_of_ble_eq_true rfl)
  rw [lg_entry_eq]
  generalize (lg_sl ([.ref (Z 0), .int i1, .int x1, .int y1]) ++ List.replicate (4 - (lg_sl ([.ref (Z 0), .int i1, .int x1, .int y1])).length) Slot.unset).toArray = ls at hl ⊢
  have hl : lv_has ls 4 [(0, .ref (Z 0)), (1, .int i1), (2, .int x1), (3, .int y1)] := hl
  refine lv_aload_n hx hb d_C_tamper_0 rfl (lv_at hl 0 rfl) ?_
  refine lv_iconst (v := 2) hx hb d_C_tamper_1 (by decide) ?_
  exact tx_passV (As := [.int 2]) (rest := []) (b := (Z 0)) ⟨hx, hb, hml, hown, hts⟩ (t_C_demandStage l hlt dC dI Z cI cP p0 q0 g0 h0 S 2 hne) (cwV 1 hts (al_V k_269 k_270 k_637 k_1 k_271) rfl rfl rfl (by decide +kernel) ⟨Nat.le_of_ble_eq_true rfl, Nat.le_of_ble_eq_true rfl⟩) (fun U g mk a h => ⟨⟨h.1.1, va_K.moved (u := U) (U := U.calling g mk a) (Vm.Alike.refl U.vm) h.1.2⟩, xx_bl g mk a h.2⟩) (va_recv hK hP (ci := 2) (q0 := 0) rfl rfl) (fun U hU hW => ⟨⟨by rw [hU]; exact hP, va_K.moved hW.alike hK⟩, xx_to hW (fun a _ => by rw [hU]) hxx⟩) rfl hl.1 rfl (lv_room (Nat.le_of_ble_eq_true rfl)) d_C_tamper_2 ⟨Nat.le_of_ble_eq_true rfl, Nat.le_of_ble_eq_true rfl⟩ hemp hlk
set_option maxRecDepth 100000 in
set_option maxHeartbeats 4000000 in
/-- tamper of nobody -/
theorem t_C_tamper_pt (l : Launch) (hlt : l.stackTraces = false) (dC : Nat → ClassId) (dI : Nat → Nat → Nat) (Z : Nat → Nat) (cI cP : ClassId) (p0 q0 g0 h0 : Nat) (S : Nat → Nat → Int32) (i1 x1 y1 : Int32) (hst : S 0 0 = 2) (hne : ¬ isPt (S 0 1) i1) : Tc l y_C_tamper ws_C_tamper 7 103 [.ref (Z 0), .int i1, .int x1, .int y1] (bX dC dI Z cI cP p0 q0 g0 h0 S) "java/lang/IllegalArgumentException" := by
  refine vx_ofW (cc := b_C_tamper) (maxL := 4) (ret := none) (by decide) rfl ?_
  intro p e s m args below meth c s₁ B hml hemp hv
  obtain ⟨rfl, ⟨hP, hK⟩, hxx⟩ := hv
  have hx := B.exec
  have hb := B.bytes
  have hr := B.returns
  have hts : ∀ w ∈ AL, w.before ([.ref (Z 0), .int i1, .int x1, .int y1] : List Value).toArray s = true := fun w h => atoms_spec (ws := ws_C_tamper) B.pre w (List.mem_cons_of_mem _ h)
  have hown : s.vm.findClass "DealtSecret" = some m.cls := findClass_of_methodNamed B.named
  have hlk := B.notSynchronized
  have hl := lv_entry ([.ref (Z 0), .int i1, .int x1, .int y1]) (n := 4) (Nat.le_of_ble_eq_true rfl)
  rw [lg_entry_eq]
  generalize (lg_sl ([.ref (Z 0), .int i1, .int x1, .int y1]) ++ List.replicate (4 - (lg_sl ([.ref (Z 0), .int i1, .int x1, .int y1])).length) Slot.unset).toArray = ls at hl ⊢
  have hl : lv_has ls 4 [(0, .ref (Z 0)), (1, .int i1), (2, .int x1), (3, .int y1)] := hl
  refine lv_aload_n hx hb d_C_tamper_0 rfl (lv_at hl 0 rfl) ?_
  refine lv_iconst (v := 2) hx hb d_C_tamper_1 (by decide) ?_
  refine rv_V (As := [.int 2]) (rest := []) (b := (Z 0)) ⟨hx, hb, hml, hown, hts⟩ (c_C_demandStage l dC dI Z cI cP p0 q0 g0 h0 S 2 hst) (cwV 1 hts (al_V k_269 k_270 k_637 k_1 k_271) rfl rfl rfl (by decide +kernel) ⟨Nat.le_of_ble_eq_true rfl, Nat.le_of_ble_eq_true rfl⟩) (fun U g mk a h => ⟨h.1, va_K.moved (u := U) (U := U.calling g mk a) (Vm.Alike.refl U.vm) h.2⟩) (va_recv hK hP (ci := 2) (q0 := 0) rfl rfl) (fun U hU hW => ⟨by rw [hU]; exact hP, va_K.moved hW.alike hK⟩) rfl hl.1 rfl (lv_room (Nat.le_of_ble_eq_true rfl)) d_C_tamper_2 ⟨Nat.zero_le _, Nat.zero_le _⟩ ?_
  refine lv_aload_n hx hb d_C_tamper_5 rfl (lv_at hl 0 rfl) ?_
  refine lv_iload_n hx hb d_C_tamper_6 rfl (lv_at hl 1 rfl) ?_
  exact tx_passV (As := [.int i1]) (rest := []) (b := (Z 0)) ⟨hx, hb, hml, hown, hts⟩ (t_C_demandParticipant l hlt dC dI Z cI cP p0 q0 g0 h0 S i1 hne) (cwV 1 hts (al_V k_338 k_339 k_645 k_1 k_340) rfl rfl rfl (by decide +kernel) ⟨Nat.le_of_ble_eq_true rfl, Nat.le_of_ble_eq_true rfl⟩) (fun U g mk a h => ⟨⟨h.1.1, va_K.moved (u := U) (U := U.calling g mk a) (Vm.Alike.refl U.vm) h.1.2⟩, xx_bl g mk a h.2⟩) (va_recv hK hP (ci := 2) (q0 := 0) rfl rfl) (fun U hU hW => ⟨⟨by rw [hU]; exact hP, va_K.moved hW.alike hK⟩, xx_to hW (fun a _ => by rw [hU]) hxx⟩) rfl hl.1 rfl (lv_room (Nat.le_of_ble_eq_true rfl)) d_C_tamper_7 ⟨Nat.le_of_ble_eq_true rfl, Nat.le_of_ble_eq_true rfl⟩ hemp hlk
set_option maxRecDepth 100000 in
set_option maxHeartbeats 4000000 in
/-- forge in another stage -/
theorem t_C_forge_st (l : Launch) (hlt : l.stackTraces = false) (dC : Nat → ClassId) (dI : Nat → Nat → Nat) (Z : Nat → Nat) (cI cP : ClassId) (p0 q0 g0 h0 : Nat) (S : Nat → Nat → Int32) (k1 x1 : Int32) (hne : ¬ S 0 0 = 2) : Tc l y_C_forge ws_C_forge 7 103 [.ref (Z 0), .int k1, .int x1] (bX dC dI Z cI cP p0 q0 g0 h0 S) "java/lang/IllegalStateException" := by
  refine vx_ofW (cc := b_C_forge) (maxL := 3) (ret := none) (by decide) rfl ?_
  intro p e s m args below meth c s₁ B hml hemp hv
  obtain ⟨rfl, ⟨hP, hK⟩, hxx⟩ := hv
  have hx := B.exec
  have hb := B.bytes
  have hr := B.returns
  have hts : ∀ w ∈ AL, w.before ([.ref (Z 0), .int k1, .int x1] : List Value).toArray s = true := fun w h => atoms_spec (ws := ws_C_forge) B.pre w (List.mem_cons_of_mem _ h)
  have hown : s.vm.findClass "DealtSecret" = some m.cls := findClass_of_methodNamed B.named
  have hlk := B.notSynchronized
  have hl := lv_entry ([.ref (Z 0), .int k1, .int x1]) (n := 3) (Nat.le_of_ble_eq_true rfl)
  rw [lg_entry_eq]
  generalize (lg_sl ([.ref (Z 0), .int k1, .int x1]) ++ List.replicate (3 - (lg_sl ([.ref (Z 0), .int k1, .int x1])).length) Slot.unset).toArray = ls at hl ⊢
  have hl : lv_has ls 3 [(0, .ref (Z 0)), (1, .int k1), (2, .int x1)] := hl
  refine lv_aload_n hx hb d_C_forge_0 rfl (lv_at hl 0 rfl) ?_
  refine lv_iconst (v := 2) hx hb d_C_forge_1 (by decide) ?_
  exact tx_passV (As := [.int 2]) (rest := []) (b := (Z 0)) ⟨hx, hb, hml, hown, hts⟩ (t_C_demandStage l hlt dC dI Z cI cP p0 q0 g0 h0 S 2 hne) (cwV 1 hts (al_V k_269 k_270 k_637 k_1 k_271) rfl rfl rfl (by decide +kernel) ⟨Nat.le_of_ble_eq_true rfl, Nat.le_of_ble_eq_true rfl⟩) (fun U g mk a h => ⟨⟨h.1.1, va_K.moved (u := U) (U := U.calling g mk a) (Vm.Alike.refl U.vm) h.1.2⟩, xx_bl g mk a h.2⟩) (va_recv hK hP (ci := 2) (q0 := 0) rfl rfl) (fun U hU hW => ⟨⟨by rw [hU]; exact hP, va_K.moved hW.alike hK⟩, xx_to hW (fun a _ => by rw [hU]) hxx⟩) rfl hl.1 rfl (lv_room (Nat.le_of_ble_eq_true rfl)) d_C_forge_2 ⟨Nat.le_of_ble_eq_true rfl, Nat.le_of_ble_eq_true rfl⟩ hemp hlk
set_option maxRecDepth 100000 in
set_option maxHeartbeats 4000000 in
/-- forge of no coefficient -/
theorem t_C_forge_cf (l : Launch) (hlt : l.stackTraces = false) (dC : Nat → ClassId) (dI : Nat → Nat → Nat) (Z : Nat → Nat) (cI cP : ClassId) (p0 q0 g0 h0 : Nat) (S : Nat → Nat → Int32) (k1 x1 : Int32) (hst : S 0 0 = 2) (hne : ¬ isCf (S 0 2) k1) : Tc l y_C_forge ws_C_forge 7 103 [.ref (Z 0), .int k1, .int x1] (bX dC dI Z cI cP p0 q0 g0 h0 S) "java/lang/IllegalArgumentException" := by
  refine vx_ofW (cc := b_C_forge) (maxL := 3) (ret := none) (by decide) rfl ?_
  intro p e s m args below meth c s₁ B hml hemp hv
  obtain ⟨rfl, ⟨hP, hK⟩, hxx⟩ := hv
  have hx := B.exec
  have hb := B.bytes
  have hr := B.returns
  have hts : ∀ w ∈ AL, w.before ([.ref (Z 0), .int k1, .int x1] : List Value).toArray s = true := fun w h => atoms_spec (ws := ws_C_forge) B.pre w (List.mem_cons_of_mem _ h)
  have hown : s.vm.findClass "DealtSecret" = some m.cls := findClass_of_methodNamed B.named
  have hlk := B.notSynchronized
  have hl := lv_entry ([.ref (Z 0), .int k1, .int x1]) (n := 3) (Nat.le_of_ble_eq_true rfl)
  rw [lg_entry_eq]
  generalize (lg_sl ([.ref (Z 0), .int k1, .int x1]) ++ List.replicate (3 - (lg_sl ([.ref (Z 0), .int k1, .int x1])).length) Slot.unset).toArray = ls at hl ⊢
  have hl : lv_has ls 3 [(0, .ref (Z 0)), (1, .int k1), (2, .int x1)] := hl
  refine lv_aload_n hx hb d_C_forge_0 rfl (lv_at hl 0 rfl) ?_
  refine lv_iconst (v := 2) hx hb d_C_forge_1 (by decide) ?_
  refine rv_V (As := [.int 2]) (rest := []) (b := (Z 0)) ⟨hx, hb, hml, hown, hts⟩ (c_C_demandStage l dC dI Z cI cP p0 q0 g0 h0 S 2 hst) (cwV 1 hts (al_V k_269 k_270 k_637 k_1 k_271) rfl rfl rfl (by decide +kernel) ⟨Nat.le_of_ble_eq_true rfl, Nat.le_of_ble_eq_true rfl⟩) (fun U g mk a h => ⟨h.1, va_K.moved (u := U) (U := U.calling g mk a) (Vm.Alike.refl U.vm) h.2⟩) (va_recv hK hP (ci := 2) (q0 := 0) rfl rfl) (fun U hU hW => ⟨by rw [hU]; exact hP, va_K.moved hW.alike hK⟩) rfl hl.1 rfl (lv_room (Nat.le_of_ble_eq_true rfl)) d_C_forge_2 ⟨Nat.zero_le _, Nat.zero_le _⟩ ?_
  refine lv_aload_n hx hb d_C_forge_5 rfl (lv_at hl 0 rfl) ?_
  refine lv_iload_n hx hb d_C_forge_6 rfl (lv_at hl 1 rfl) ?_
  exact tx_passV (As := [.int k1]) (rest := []) (b := (Z 0)) ⟨hx, hb, hml, hown, hts⟩ (t_C_demandCoefficient l hlt dC dI Z cI cP p0 q0 g0 h0 S k1 hne) (cwV 1 hts (al_V k_285 k_286 k_638 k_1 k_287) rfl rfl rfl (by decide +kernel) ⟨Nat.le_of_ble_eq_true rfl, Nat.le_of_ble_eq_true rfl⟩) (fun U g mk a h => ⟨⟨h.1.1, va_K.moved (u := U) (U := U.calling g mk a) (Vm.Alike.refl U.vm) h.1.2⟩, xx_bl g mk a h.2⟩) (va_recv hK hP (ci := 2) (q0 := 0) rfl rfl) (fun U hU hW => ⟨⟨by rw [hU]; exact hP, va_K.moved hW.alike hK⟩, xx_to hW (fun a _ => by rw [hU]) hxx⟩) rfl hl.1 rfl (lv_room (Nat.le_of_ble_eq_true rfl)) d_C_forge_7 ⟨Nat.le_of_ble_eq_true rfl, Nat.le_of_ble_eq_true rfl⟩ hemp hlk
set_option maxRecDepth 100000 in
set_option maxHeartbeats 4000000 in
/-- forge with no element -/
theorem t_C_forge_x (l : Launch) (hlt : l.stackTraces = false) (dC : Nat → ClassId) (dI : Nat → Nat → Nat) (Z : Nat → Nat) (cI cP : ClassId) (p0 q0 g0 h0 : Nat) (S : Nat → Nat → Int32) (k1 x1 : Int32) (hst : S 0 0 = 2) (hcf : isCf (S 0 2) k1) (hbad : x1 < 1 ∨ ¬ x1 < nI p0) : Tc l y_C_forge ws_C_forge 7 103 [.ref (Z 0), .int k1, .int x1] (bX dC dI Z cI cP p0 q0 g0 h0 S) "java/lang/IllegalArgumentException" := by
  refine vx_ofW (cc := b_C_forge) (maxL := 3) (ret := none) (by decide) rfl ?_
  intro p e s m args below meth c s₁ B hml hemp hv
  obtain ⟨rfl, ⟨hP, hK⟩, hxx⟩ := hv
  have hx := B.exec
  have hb := B.bytes
  have hr := B.returns
  have hts : ∀ w ∈ AL, w.before ([.ref (Z 0), .int k1, .int x1] : List Value).toArray s = true := fun w h => atoms_spec (ws := ws_C_forge) B.pre w (List.mem_cons_of_mem _ h)
  have hown : s.vm.findClass "DealtSecret" = some m.cls := findClass_of_methodNamed B.named
  have hlk := B.notSynchronized
  have hl := lv_entry ([.ref (Z 0), .int k1, .int x1]) (n := 3) (Nat.le_of_ble_eq_true rfl)
  rw [lg_entry_eq]
  generalize (lg_sl ([.ref (Z 0), .int k1, .int x1]) ++ List.replicate (3 - (lg_sl ([.ref (Z 0), .int k1, .int x1])).length) Slot.unset).toArray = ls at hl ⊢
  have hl : lv_has ls 3 [(0, .ref (Z 0)), (1, .int k1), (2, .int x1)] := hl
  refine lv_aload_n hx hb d_C_forge_0 rfl (lv_at hl 0 rfl) ?_
  refine lv_iconst (v := 2) hx hb d_C_forge_1 (by decide) ?_
  refine rv_V (As := [.int 2]) (rest := []) (b := (Z 0)) ⟨hx, hb, hml, hown, hts⟩ (c_C_demandStage l dC dI Z cI cP p0 q0 g0 h0 S 2 hst) (cwV 1 hts (al_V k_269 k_270 k_637 k_1 k_271) rfl rfl rfl (by decide +kernel) ⟨Nat.le_of_ble_eq_true rfl, Nat.le_of_ble_eq_true rfl⟩) (fun U g mk a h => ⟨h.1, va_K.moved (u := U) (U := U.calling g mk a) (Vm.Alike.refl U.vm) h.2⟩) (va_recv hK hP (ci := 2) (q0 := 0) rfl rfl) (fun U hU hW => ⟨by rw [hU]; exact hP, va_K.moved hW.alike hK⟩) rfl hl.1 rfl (lv_room (Nat.le_of_ble_eq_true rfl)) d_C_forge_2 ⟨Nat.zero_le _, Nat.zero_le _⟩ ?_
  refine lv_aload_n hx hb d_C_forge_5 rfl (lv_at hl 0 rfl) ?_
  refine lv_iload_n hx hb d_C_forge_6 rfl (lv_at hl 1 rfl) ?_
  refine rv_V (As := [.int k1]) (rest := []) (b := (Z 0)) ⟨hx, hb, hml, hown, hts⟩ (c_C_demandCoefficient l dC dI Z cI cP p0 q0 g0 h0 S k1 hcf) (cwV 1 hts (al_V k_285 k_286 k_638 k_1 k_287) rfl rfl rfl (by decide +kernel) ⟨Nat.le_of_ble_eq_true rfl, Nat.le_of_ble_eq_true rfl⟩) (fun U g mk a h => ⟨h.1, va_K.moved (u := U) (U := U.calling g mk a) (Vm.Alike.refl U.vm) h.2⟩) (va_recv hK hP (ci := 2) (q0 := 0) rfl rfl) (fun U hU hW => ⟨by rw [hU]; exact hP, va_K.moved hW.alike hK⟩) rfl hl.1 rfl (lv_room (Nat.le_of_ble_eq_true rfl)) d_C_forge_7 ⟨Nat.zero_le _, Nat.zero_le _⟩ ?_
  refine lv_iload_n hx hb d_C_forge_10 rfl (lv_at hl 2 rfl) ?_
  refine lv_iconst (v := 1) hx hb d_C_forge_11 (by decide) ?_
  refine lv_icmp_lt (tgt := 26) hx hb d_C_forge_12 (by decide) (fun c12 => ?_) (fun c12 => ?_)
  · exact tx_throw (tx := "a commitment is 1 .. p - 1") hx hb hlt hemp hlk (hl.1.trans hml.symm) hown (by decide +kernel) hts xg_IAE xn_IAE (by decide +kernel) k_204 k_8 hxx (by decide +kernel) (by decide +kernel) d_C_forge_26 d_C_forge_29 d_C_forge_30 d_C_forge_32 d_C_forge_35 (Nat.le_of_ble_eq_true rfl) (Nat.le_of_ble_eq_true rfl) (Nat.le_of_ble_eq_true rfl) (Nat.le_of_ble_eq_true rfl)
  · refine lv_iload_n hx hb d_C_forge_15 rfl (lv_at hl 2 rfl) ?_
    refine lv_aload_n hx hb d_C_forge_16 rfl (lv_at hl 0 rfl) ?_
    refine va_get (D := (dC, dI)) (ci := 2) (v := .ref (Z 1)) (C := "DealtSecret") (T := T_C) (N := 11) hx hb hts i_C hown hK hP 0 rfl rfl 0 (by decide) (hts _ k_101) (fun _ h9 => h9) rfl d_C_forge_17 ?_
    refine va_get (D := (dC, dI)) (ci := 0) (v := .int (nI p0)) (C := "DealtSecret$Group") (T := T_G) (N := 4) hx hb hts i_G hown hK hP 1 rfl rfl 0 (by decide) (hts _ k_43) (fun _ h9 => h9) rfl d_C_forge_20 ?_
    refine lv_icmp_lt (tgt := 36) hx hb d_C_forge_23 (by decide) (fun c_ => absurd c_ (hbad.resolve_left c12)) (fun _ => ?_)
    exact tx_throw (tx := "a commitment is 1 .. p - 1") hx hb hlt hemp hlk (hl.1.trans hml.symm) hown (by decide +kernel) hts xg_IAE xn_IAE (by decide +kernel) k_204 k_8 hxx (by decide +kernel) (by decide +kernel) d_C_forge_26 d_C_forge_29 d_C_forge_30 d_C_forge_32 d_C_forge_35 (Nat.le_of_ble_eq_true rfl) (Nat.le_of_ble_eq_true rfl) (Nat.le_of_ble_eq_true rfl) (Nat.le_of_ble_eq_true rfl)
set_option maxRecDepth 100000 in
set_option maxHeartbeats 4000000 in
/-- accuse in another stage -/
theorem t_C_accuse_st (l : Launch) (hlt : l.stackTraces = false) (dC : Nat → ClassId) (dI : Nat → Nat → Nat) (Z : Nat → Nat) (cI cP : ClassId) (p0 q0 g0 h0 : Nat) (S : Nat → Nat → Int32) (i1 : Int32) (hne : ¬ S 0 0 = 3) : Tc l y_C_accuse ws_C_accuse 7 103 [.ref (Z 0), .int i1] (bX dC dI Z cI cP p0 q0 g0 h0 S) "java/lang/IllegalStateException" := by
  refine vx_ofW (cc := b_C_accuse) (maxL := 3) (ret := (some .boolean)) (by decide) rfl ?_
  intro p e s m args below meth c s₁ B hml hemp hv
  obtain ⟨rfl, ⟨hP, hK⟩, hxx⟩ := hv
  have hx := B.exec
  have hb := B.bytes
  have hr := B.returns
  have hts : ∀ w ∈ AL, w.before ([.ref (Z 0), .int i1] : List Value).toArray s = true := fun w h => atoms_spec (ws := ws_C_accuse) B.pre w (List.mem_cons_of_mem _ h)
  have hown : s.vm.findClass "DealtSecret" = some m.cls := findClass_of_methodNamed B.named
  have hlk := B.notSynchronized
  have hl := lv_entry ([.ref (Z 0), .int i1]) (n := 3) (Nat.le_of_ble_eq_true rfl)
  rw [lg_entry_eq]
  generalize (lg_sl ([.ref (Z 0), .int i1]) ++ List.replicate (3 - (lg_sl ([.ref (Z 0), .int i1])).length) Slot.unset).toArray = ls at hl ⊢
  have hl : lv_has ls 3 [(0, .ref (Z 0)), (1, .int i1)] := hl
  refine lv_aload_n hx hb d_C_accuse_0 rfl (lv_at hl 0 rfl) ?_
  refine lv_iconst (v := 3) hx hb d_C_accuse_1 (by decide) ?_
  exact tx_passV (As := [.int 3]) (rest := []) (b := (Z 0)) ⟨hx, hb, hml, hown, hts⟩ (t_C_demandStage l hlt dC dI Z cI cP p0 q0 g0 h0 S 3 hne) (cwV 1 hts (al_V k_269 k_270 k_637 k_1 k_271) rfl rfl rfl (by decide +kernel) ⟨Nat.le_of_ble_eq_true rfl, Nat.le_of_ble_eq_true rfl⟩) (fun U g mk a h => ⟨⟨h.1.1, va_K.moved (u := U) (U := U.calling g mk a) (Vm.Alike.refl U.vm) h.1.2⟩, xx_bl g mk a h.2⟩) (va_recv hK hP (ci := 2) (q0 := 0) rfl rfl) (fun U hU hW => ⟨⟨by rw [hU]; exact hP, va_K.moved hW.alike hK⟩, xx_to hW (fun a _ => by rw [hU]) hxx⟩) rfl hl.1 rfl (lv_room (Nat.le_of_ble_eq_true rfl)) d_C_accuse_2 ⟨Nat.le_of_ble_eq_true rfl, Nat.le_of_ble_eq_true rfl⟩ hemp hlk
set_option maxRecDepth 100000 in
set_option maxHeartbeats 4000000 in
/-- accuse of nobody -/
theorem t_C_accuse_pt (l : Launch) (hlt : l.stackTraces = false) (dC : Nat → ClassId) (dI : Nat → Nat → Nat) (Z : Nat → Nat) (cI cP : ClassId) (p0 q0 g0 h0 : Nat) (S : Nat → Nat → Int32) (i1 : Int32) (hst : S 0 0 = 3) (hne : ¬ isPt (S 0 1) i1) : Tc l y_C_accuse ws_C_accuse 7 103 [.ref (Z 0), .int i1] (bX dC dI Z cI cP p0 q0 g0 h0 S) "java/lang/IllegalArgumentException" := by
  refine vx_ofW (cc := b_C_accuse) (maxL := 3) (ret := (some .boolean)) (by decide) rfl ?_
  intro p e s m args below meth c s₁ B hml hemp hv
  obtain ⟨rfl, ⟨hP, hK⟩, hxx⟩ := hv
  have hx := B.exec
  have hb := B.bytes
  have hr := B.returns
  have hts : ∀ w ∈ AL, w.before ([.ref (Z 0), .int i1] : List Value).toArray s = true := fun w h => atoms_spec (ws := ws_C_accuse) B.pre w (List.mem_cons_of_mem _ h)
  have hown : s.vm.findClass "DealtSecret" = some m.cls := findClass_of_methodNamed B.named
  have hlk := B.notSynchronized
  have hl := lv_entry ([.ref (Z 0), .int i1]) (n := 3) (Nat.le_of_ble_eq_true rfl)
  rw [lg_entry_eq]
  generalize (lg_sl ([.ref (Z 0), .int i1]) ++ List.replicate (3 - (lg_sl ([.ref (Z 0), .int i1])).length) Slot.unset).toArray = ls at hl ⊢
  have hl : lv_has ls 3 [(0, .ref (Z 0)), (1, .int i1)] := hl
  refine lv_aload_n hx hb d_C_accuse_0 rfl (lv_at hl 0 rfl) ?_
  refine lv_iconst (v := 3) hx hb d_C_accuse_1 (by decide) ?_
  refine rv_V (As := [.int 3]) (rest := []) (b := (Z 0)) ⟨hx, hb, hml, hown, hts⟩ (c_C_demandStage l dC dI Z cI cP p0 q0 g0 h0 S 3 hst) (cwV 1 hts (al_V k_269 k_270 k_637 k_1 k_271) rfl rfl rfl (by decide +kernel) ⟨Nat.le_of_ble_eq_true rfl, Nat.le_of_ble_eq_true rfl⟩) (fun U g mk a h => ⟨h.1, va_K.moved (u := U) (U := U.calling g mk a) (Vm.Alike.refl U.vm) h.2⟩) (va_recv hK hP (ci := 2) (q0 := 0) rfl rfl) (fun U hU hW => ⟨by rw [hU]; exact hP, va_K.moved hW.alike hK⟩) rfl hl.1 rfl (lv_room (Nat.le_of_ble_eq_true rfl)) d_C_accuse_2 ⟨Nat.zero_le _, Nat.zero_le _⟩ ?_
  refine lv_aload_n hx hb d_C_accuse_5 rfl (lv_at hl 0 rfl) ?_
  refine lv_iload_n hx hb d_C_accuse_6 rfl (lv_at hl 1 rfl) ?_
  exact tx_passV (As := [.int i1]) (rest := []) (b := (Z 0)) ⟨hx, hb, hml, hown, hts⟩ (t_C_demandParticipant l hlt dC dI Z cI cP p0 q0 g0 h0 S i1 hne) (cwV 1 hts (al_V k_338 k_339 k_645 k_1 k_340) rfl rfl rfl (by decide +kernel) ⟨Nat.le_of_ble_eq_true rfl, Nat.le_of_ble_eq_true rfl⟩) (fun U g mk a h => ⟨⟨h.1.1, va_K.moved (u := U) (U := U.calling g mk a) (Vm.Alike.refl U.vm) h.1.2⟩, xx_bl g mk a h.2⟩) (va_recv hK hP (ci := 2) (q0 := 0) rfl rfl) (fun U hU hW => ⟨⟨by rw [hU]; exact hP, va_K.moved hW.alike hK⟩, xx_to hW (fun a _ => by rw [hU]) hxx⟩) rfl hl.1 rfl (lv_room (Nat.le_of_ble_eq_true rfl)) d_C_accuse_7 ⟨Nat.le_of_ble_eq_true rfl, Nat.le_of_ble_eq_true rfl⟩ hemp hlk
set_option maxRecDepth 100000 in
set_option maxHeartbeats 4000000 in
/-- answer in another stage -/
theorem t_C_answer_st (l : Launch) (hlt : l.stackTraces = false) (dC : Nat → ClassId) (dI : Nat → Nat → Nat) (Z : Nat → Nat) (cI cP : ClassId) (p0 q0 g0 h0 : Nat) (S : Nat → Nat → Int32) (i1 x1 y1 : Int32) (hne : ¬ S 0 0 = 4) : Tc l y_C_answer ws_C_answer 7 103 [.ref (Z 0), .int i1, .int x1, .int y1] (bX dC dI Z cI cP p0 q0 g0 h0 S) "java/lang/IllegalStateException" := by
  refine vx_ofW (cc := b_C_answer) (maxL := 5) (ret := (some .boolean)) (by decide) rfl ?_
  intro p e s m args below meth c s₁ B hml hemp hv
  obtain ⟨rfl, ⟨hP, hK⟩, hxx⟩ := hv
  have hx := B.exec
  have hb := B.bytes
  have hr := B.returns
  have hts : ∀ w ∈ AL, w.before ([.ref (Z 0), .int i1, .int x1, .int y1] : List Value).toArray s = true := fun w h => atoms_spec (ws := ws_C_answer) B.pre w (List.mem_cons_of_mem _ h)
  have hown : s.vm.findClass "DealtSecret" = some m.cls := findClass_of_methodNamed B.named
  have hlk := B.notSynchronized
  have hl := lv_entry ([.ref (Z 0), .int i1, .int x1, .int y1]) (n := 5) (Nat.le_of_ble_eq_true rfl)
  rw [lg_entry_eq]
  generalize (lg_sl ([.ref (Z 0), .int i1, .int x1, .int y1]) ++ List.replicate (5 - (lg_sl ([.ref (Z 0), .int i1, .int x1, .int y1])).length) Slot.unset).toArray = ls at hl ⊢
  have hl : lv_has ls 5 [(0, .ref (Z 0)), (1, .int i1), (2, .int x1), (3, .int y1)] := hl
  refine lv_aload_n hx hb d_C_answer_0 rfl (lv_at hl 0 rfl) ?_
  refine lv_iconst (v := 4) hx hb d_C_answer_1 (by decide) ?_
  exact tx_passV (As := [.int 4]) (rest := []) (b := (Z 0)) ⟨hx, hb, hml, hown, hts⟩ (t_C_demandStage l hlt dC dI Z cI cP p0 q0 g0 h0 S 4 hne) (cwV 1 hts (al_V k_269 k_270 k_637 k_1 k_271) rfl rfl rfl (by decide +kernel) ⟨Nat.le_of_ble_eq_true rfl, Nat.le_of_ble_eq_true rfl⟩) (fun U g mk a h => ⟨⟨h.1.1, va_K.moved (u := U) (U := U.calling g mk a) (Vm.Alike.refl U.vm) h.1.2⟩, xx_bl g mk a h.2⟩) (va_recv hK hP (ci := 2) (q0 := 0) rfl rfl) (fun U hU hW => ⟨⟨by rw [hU]; exact hP, va_K.moved hW.alike hK⟩, xx_to hW (fun a _ => by rw [hU]) hxx⟩) rfl hl.1 rfl (lv_room (Nat.le_of_ble_eq_true rfl)) d_C_answer_2 ⟨Nat.le_of_ble_eq_true rfl, Nat.le_of_ble_eq_true rfl⟩ hemp hlk
set_option maxRecDepth 100000 in
set_option maxHeartbeats 4000000 in
/-- answer of nobody -/
theorem t_C_answer_pt (l : Launch) (hlt : l.stackTraces = false) (dC : Nat → ClassId) (dI : Nat → Nat → Nat) (Z : Nat → Nat) (cI cP : ClassId) (p0 q0 g0 h0 : Nat) (S : Nat → Nat → Int32) (i1 x1 y1 : Int32) (hst : S 0 0 = 4) (hne : ¬ isPt (S 0 1) i1) : Tc l y_C_answer ws_C_answer 7 103 [.ref (Z 0), .int i1, .int x1, .int y1] (bX dC dI Z cI cP p0 q0 g0 h0 S) "java/lang/IllegalArgumentException" := by
  refine vx_ofW (cc := b_C_answer) (maxL := 5) (ret := (some .boolean)) (by decide) rfl ?_
  intro p e s m args below meth c s₁ B hml hemp hv
  obtain ⟨rfl, ⟨hP, hK⟩, hxx⟩ := hv
  have hx := B.exec
  have hb := B.bytes
  have hr := B.returns
  have hts : ∀ w ∈ AL, w.before ([.ref (Z 0), .int i1, .int x1, .int y1] : List Value).toArray s = true := fun w h => atoms_spec (ws := ws_C_answer) B.pre w (List.mem_cons_of_mem _ h)
  have hown : s.vm.findClass "DealtSecret" = some m.cls := findClass_of_methodNamed B.named
  have hlk := B.notSynchronized
  have hl := lv_entry ([.ref (Z 0), .int i1, .int x1, .int y1]) (n := 5) (Nat.le_of_ble_eq_true rfl)
  rw [lg_entry_eq]
  generalize (lg_sl ([.ref (Z 0), .int i1, .int x1, .int y1]) ++ List.replicate (5 - (lg_sl ([.ref (Z 0), .int i1, .int x1, .int y1])).length) Slot.unset).toArray = ls at hl ⊢
  have hl : lv_has ls 5 [(0, .ref (Z 0)), (1, .int i1), (2, .int x1), (3, .int y1)] := hl
  refine lv_aload_n hx hb d_C_answer_0 rfl (lv_at hl 0 rfl) ?_
  refine lv_iconst (v := 4) hx hb d_C_answer_1 (by decide) ?_
  refine rv_V (As := [.int 4]) (rest := []) (b := (Z 0)) ⟨hx, hb, hml, hown, hts⟩ (c_C_demandStage l dC dI Z cI cP p0 q0 g0 h0 S 4 hst) (cwV 1 hts (al_V k_269 k_270 k_637 k_1 k_271) rfl rfl rfl (by decide +kernel) ⟨Nat.le_of_ble_eq_true rfl, Nat.le_of_ble_eq_true rfl⟩) (fun U g mk a h => ⟨h.1, va_K.moved (u := U) (U := U.calling g mk a) (Vm.Alike.refl U.vm) h.2⟩) (va_recv hK hP (ci := 2) (q0 := 0) rfl rfl) (fun U hU hW => ⟨by rw [hU]; exact hP, va_K.moved hW.alike hK⟩) rfl hl.1 rfl (lv_room (Nat.le_of_ble_eq_true rfl)) d_C_answer_2 ⟨Nat.zero_le _, Nat.zero_le _⟩ ?_
  refine lv_aload_n hx hb d_C_answer_5 rfl (lv_at hl 0 rfl) ?_
  refine lv_iload_n hx hb d_C_answer_6 rfl (lv_at hl 1 rfl) ?_
  exact tx_passV (As := [.int i1]) (rest := []) (b := (Z 0)) ⟨hx, hb, hml, hown, hts⟩ (t_C_demandParticipant l hlt dC dI Z cI cP p0 q0 g0 h0 S i1 hne) (cwV 1 hts (al_V k_338 k_339 k_645 k_1 k_340) rfl rfl rfl (by decide +kernel) ⟨Nat.le_of_ble_eq_true rfl, Nat.le_of_ble_eq_true rfl⟩) (fun U g mk a h => ⟨⟨h.1.1, va_K.moved (u := U) (U := U.calling g mk a) (Vm.Alike.refl U.vm) h.1.2⟩, xx_bl g mk a h.2⟩) (va_recv hK hP (ci := 2) (q0 := 0) rfl rfl) (fun U hU hW => ⟨⟨by rw [hU]; exact hP, va_K.moved hW.alike hK⟩, xx_to hW (fun a _ => by rw [hU]) hxx⟩) rfl hl.1 rfl (lv_room (Nat.le_of_ble_eq_true rfl)) d_C_answer_7 ⟨Nat.le_of_ble_eq_true rfl, Nat.le_of_ble_eq_true rfl⟩ hemp hlk
set_option maxRecDepth 100000 in
set_option maxHeartbeats 4000000 in
/-- opening in another stage -/
theorem t_C_open_st (l : Launch) (hlt : l.stackTraces = false) (dC : Nat → ClassId) (dI : Nat → Nat → Nat) (Z : Nat → Nat) (cI cP : ClassId) (p0 q0 g0 h0 : Nat) (S : Nat → Nat → Int32) (i1 : Int32) (hne : ¬ S 0 0 = 5) : Tc l y_C_open ws_C_open 7 103 [.ref (Z 0), .int i1] (bX dC dI Z cI cP p0 q0 g0 h0 S) "java/lang/IllegalStateException" := by
  refine vx_ofW (cc := b_C_open) (maxL := 3) (ret := (some .boolean)) (by decide) rfl ?_
  intro p e s m args below meth c s₁ B hml hemp hv
  obtain ⟨rfl, ⟨hP, hK⟩, hxx⟩ := hv
  have hx := B.exec
  have hb := B.bytes
  have hr := B.returns
  have hts : ∀ w ∈ AL, w.before ([.ref (Z 0), .int i1] : List Value).toArray s = true := fun w h => atoms_spec (ws := ws_C_open) B.pre w (List.mem_cons_of_mem _ h)
  have hown : s.vm.findClass "DealtSecret" = some m.cls := findClass_of_methodNamed B.named
  have hlk := B.notSynchronized
  have hl := lv_entry ([.ref (Z 0), .int i1]) (n := 3) (Nat.le_of_ble_eq_true rfl)
  rw [lg_entry_eq]
  generalize (lg_sl ([.ref (Z 0), .int i1]) ++ List.replicate (3 - (lg_sl ([.ref (Z 0), .int i1])).length) Slot.unset).toArray = ls at hl ⊢
  have hl : lv_has ls 3 [(0, .ref (Z 0)), (1, .int i1)] := hl
  refine lv_aload_n hx hb d_C_open_0 rfl (lv_at hl 0 rfl) ?_
  refine lv_iconst (v := 5) hx hb d_C_open_1 (by decide) ?_
  exact tx_passV (As := [.int 5]) (rest := []) (b := (Z 0)) ⟨hx, hb, hml, hown, hts⟩ (t_C_demandStage l hlt dC dI Z cI cP p0 q0 g0 h0 S 5 hne) (cwV 1 hts (al_V k_269 k_270 k_637 k_1 k_271) rfl rfl rfl (by decide +kernel) ⟨Nat.le_of_ble_eq_true rfl, Nat.le_of_ble_eq_true rfl⟩) (fun U g mk a h => ⟨⟨h.1.1, va_K.moved (u := U) (U := U.calling g mk a) (Vm.Alike.refl U.vm) h.1.2⟩, xx_bl g mk a h.2⟩) (va_recv hK hP (ci := 2) (q0 := 0) rfl rfl) (fun U hU hW => ⟨⟨by rw [hU]; exact hP, va_K.moved hW.alike hK⟩, xx_to hW (fun a _ => by rw [hU]) hxx⟩) rfl hl.1 rfl (lv_room (Nat.le_of_ble_eq_true rfl)) d_C_open_2 ⟨Nat.le_of_ble_eq_true rfl, Nat.le_of_ble_eq_true rfl⟩ hemp hlk
set_option maxRecDepth 100000 in
set_option maxHeartbeats 4000000 in
/-- opening of nobody -/
theorem t_C_open_pt (l : Launch) (hlt : l.stackTraces = false) (dC : Nat → ClassId) (dI : Nat → Nat → Nat) (Z : Nat → Nat) (cI cP : ClassId) (p0 q0 g0 h0 : Nat) (S : Nat → Nat → Int32) (i1 : Int32) (hst : S 0 0 = 5) (hne : ¬ isPt (S 0 1) i1) : Tc l y_C_open ws_C_open 7 103 [.ref (Z 0), .int i1] (bX dC dI Z cI cP p0 q0 g0 h0 S) "java/lang/IllegalArgumentException" := by
  refine vx_ofW (cc := b_C_open) (maxL := 3) (ret := (some .boolean)) (by decide) rfl ?_
  intro p e s m args below meth c s₁ B hml hemp hv
  obtain ⟨rfl, ⟨hP, hK⟩, hxx⟩ := hv
  have hx := B.exec
  have hb := B.bytes
  have hr := B.returns
  have hts : ∀ w ∈ AL, w.before ([.ref (Z 0), .int i1] : List Value).toArray s = true := fun w h => atoms_spec (ws := ws_C_open) B.pre w (List.mem_cons_of_mem _ h)
  have hown : s.vm.findClass "DealtSecret" = some m.cls := findClass_of_methodNamed B.named
  have hlk := B.notSynchronized
  have hl := lv_entry ([.ref (Z 0), .int i1]) (n := 3) (Nat.le_of_ble_eq_true rfl)
  rw [lg_entry_eq]
  generalize (lg_sl ([.ref (Z 0), .int i1]) ++ List.replicate (3 - (lg_sl ([.ref (Z 0), .int i1])).length) Slot.unset).toArray = ls at hl ⊢
  have hl : lv_has ls 3 [(0, .ref (Z 0)), (1, .int i1)] := hl
  refine lv_aload_n hx hb d_C_open_0 rfl (lv_at hl 0 rfl) ?_
  refine lv_iconst (v := 5) hx hb d_C_open_1 (by decide) ?_
  refine rv_V (As := [.int 5]) (rest := []) (b := (Z 0)) ⟨hx, hb, hml, hown, hts⟩ (c_C_demandStage l dC dI Z cI cP p0 q0 g0 h0 S 5 hst) (cwV 1 hts (al_V k_269 k_270 k_637 k_1 k_271) rfl rfl rfl (by decide +kernel) ⟨Nat.le_of_ble_eq_true rfl, Nat.le_of_ble_eq_true rfl⟩) (fun U g mk a h => ⟨h.1, va_K.moved (u := U) (U := U.calling g mk a) (Vm.Alike.refl U.vm) h.2⟩) (va_recv hK hP (ci := 2) (q0 := 0) rfl rfl) (fun U hU hW => ⟨by rw [hU]; exact hP, va_K.moved hW.alike hK⟩) rfl hl.1 rfl (lv_room (Nat.le_of_ble_eq_true rfl)) d_C_open_2 ⟨Nat.zero_le _, Nat.zero_le _⟩ ?_
  refine lv_aload_n hx hb d_C_open_5 rfl (lv_at hl 0 rfl) ?_
  refine lv_iload_n hx hb d_C_open_6 rfl (lv_at hl 1 rfl) ?_
  exact tx_passV (As := [.int i1]) (rest := []) (b := (Z 0)) ⟨hx, hb, hml, hown, hts⟩ (t_C_demandParticipant l hlt dC dI Z cI cP p0 q0 g0 h0 S i1 hne) (cwV 1 hts (al_V k_338 k_339 k_645 k_1 k_340) rfl rfl rfl (by decide +kernel) ⟨Nat.le_of_ble_eq_true rfl, Nat.le_of_ble_eq_true rfl⟩) (fun U g mk a h => ⟨⟨h.1.1, va_K.moved (u := U) (U := U.calling g mk a) (Vm.Alike.refl U.vm) h.1.2⟩, xx_bl g mk a h.2⟩) (va_recv hK hP (ci := 2) (q0 := 0) rfl rfl) (fun U hU hW => ⟨⟨by rw [hU]; exact hP, va_K.moved hW.alike hK⟩, xx_to hW (fun a _ => by rw [hU]) hxx⟩) rfl hl.1 rfl (lv_room (Nat.le_of_ble_eq_true rfl)) d_C_open_7 ⟨Nat.le_of_ble_eq_true rfl, Nat.le_of_ble_eq_true rfl⟩ hemp hlk
set_option maxRecDepth 100000 in
set_option maxHeartbeats 4000000 in
/-- show in another stage -/
theorem t_C_show_st (l : Launch) (hlt : l.stackTraces = false) (dC : Nat → ClassId) (dI : Nat → Nat → Nat) (Z : Nat → Nat) (cI cP : ClassId) (p0 q0 g0 h0 : Nat) (S : Nat → Nat → Int32) (i1 x1 y1 : Int32) (hne : ¬ S 0 0 = 5) : Tc l y_C_show ws_C_show 7 103 [.ref (Z 0), .int i1, .int x1, .int y1] (bX dC dI Z cI cP p0 q0 g0 h0 S) "java/lang/IllegalStateException" := by
  refine vx_ofW (cc := b_C_show) (maxL := 4) (ret := (some .boolean)) (by decide) rfl ?_
  intro p e s m args below meth c s₁ B hml hemp hv
  obtain ⟨rfl, ⟨hP, hK⟩, hxx⟩ := hv
  have hx := B.exec
  have hb := B.bytes
  have hr := B.returns
  have hts : ∀ w ∈ AL, w.before ([.ref (Z 0), .int i1, .int x1, .int y1] : List Value).toArray s = true := fun w h => atoms_spec (ws := ws_C_show) B.pre w (List.mem_cons_of_mem _ h)
  have hown : s.vm.findClass "DealtSecret" = some m.cls := findClass_of_methodNamed B.named
  have hlk := B.notSynchronized
  have hl := lv_entry ([.ref (Z 0), .int i1, .int x1, .int y1]) (n := 4) (Nat.le_of_ble_eq_true rfl)
  rw [lg_entry_eq]
  generalize (lg_sl ([.ref (Z 0), .int i1, .int x1, .int y1]) ++ List.replicate (4 - (lg_sl ([.ref (Z 0), .int i1, .int x1, .int y1])).length) Slot.unset).toArray = ls at hl ⊢
  have hl : lv_has ls 4 [(0, .ref (Z 0)), (1, .int i1), (2, .int x1), (3, .int y1)] := hl
  refine lv_aload_n hx hb d_C_show_0 rfl (lv_at hl 0 rfl) ?_
  refine lv_iconst (v := 5) hx hb d_C_show_1 (by decide) ?_
  exact tx_passV (As := [.int 5]) (rest := []) (b := (Z 0)) ⟨hx, hb, hml, hown, hts⟩ (t_C_demandStage l hlt dC dI Z cI cP p0 q0 g0 h0 S 5 hne) (cwV 1 hts (al_V k_269 k_270 k_637 k_1 k_271) rfl rfl rfl (by decide +kernel) ⟨Nat.le_of_ble_eq_true rfl, Nat.le_of_ble_eq_true rfl⟩) (fun U g mk a h => ⟨⟨h.1.1, va_K.moved (u := U) (U := U.calling g mk a) (Vm.Alike.refl U.vm) h.1.2⟩, xx_bl g mk a h.2⟩) (va_recv hK hP (ci := 2) (q0 := 0) rfl rfl) (fun U hU hW => ⟨⟨by rw [hU]; exact hP, va_K.moved hW.alike hK⟩, xx_to hW (fun a _ => by rw [hU]) hxx⟩) rfl hl.1 rfl (lv_room (Nat.le_of_ble_eq_true rfl)) d_C_show_2 ⟨Nat.le_of_ble_eq_true rfl, Nat.le_of_ble_eq_true rfl⟩ hemp hlk
set_option maxRecDepth 100000 in
set_option maxHeartbeats 4000000 in
/-- show of nobody -/
theorem t_C_show_pt (l : Launch) (hlt : l.stackTraces = false) (dC : Nat → ClassId) (dI : Nat → Nat → Nat) (Z : Nat → Nat) (cI cP : ClassId) (p0 q0 g0 h0 : Nat) (S : Nat → Nat → Int32) (i1 x1 y1 : Int32) (hst : S 0 0 = 5) (hne : ¬ isPt (S 0 1) i1) : Tc l y_C_show ws_C_show 7 103 [.ref (Z 0), .int i1, .int x1, .int y1] (bX dC dI Z cI cP p0 q0 g0 h0 S) "java/lang/IllegalArgumentException" := by
  refine vx_ofW (cc := b_C_show) (maxL := 4) (ret := (some .boolean)) (by decide) rfl ?_
  intro p e s m args below meth c s₁ B hml hemp hv
  obtain ⟨rfl, ⟨hP, hK⟩, hxx⟩ := hv
  have hx := B.exec
  have hb := B.bytes
  have hr := B.returns
  have hts : ∀ w ∈ AL, w.before ([.ref (Z 0), .int i1, .int x1, .int y1] : List Value).toArray s = true := fun w h => atoms_spec (ws := ws_C_show) B.pre w (List.mem_cons_of_mem _ h)
  have hown : s.vm.findClass "DealtSecret" = some m.cls := findClass_of_methodNamed B.named
  have hlk := B.notSynchronized
  have hl := lv_entry ([.ref (Z 0), .int i1, .int x1, .int y1]) (n := 4) (Nat.le_of_ble_eq_true rfl)
  rw [lg_entry_eq]
  generalize (lg_sl ([.ref (Z 0), .int i1, .int x1, .int y1]) ++ List.replicate (4 - (lg_sl ([.ref (Z 0), .int i1, .int x1, .int y1])).length) Slot.unset).toArray = ls at hl ⊢
  have hl : lv_has ls 4 [(0, .ref (Z 0)), (1, .int i1), (2, .int x1), (3, .int y1)] := hl
  refine lv_aload_n hx hb d_C_show_0 rfl (lv_at hl 0 rfl) ?_
  refine lv_iconst (v := 5) hx hb d_C_show_1 (by decide) ?_
  refine rv_V (As := [.int 5]) (rest := []) (b := (Z 0)) ⟨hx, hb, hml, hown, hts⟩ (c_C_demandStage l dC dI Z cI cP p0 q0 g0 h0 S 5 hst) (cwV 1 hts (al_V k_269 k_270 k_637 k_1 k_271) rfl rfl rfl (by decide +kernel) ⟨Nat.le_of_ble_eq_true rfl, Nat.le_of_ble_eq_true rfl⟩) (fun U g mk a h => ⟨h.1, va_K.moved (u := U) (U := U.calling g mk a) (Vm.Alike.refl U.vm) h.2⟩) (va_recv hK hP (ci := 2) (q0 := 0) rfl rfl) (fun U hU hW => ⟨by rw [hU]; exact hP, va_K.moved hW.alike hK⟩) rfl hl.1 rfl (lv_room (Nat.le_of_ble_eq_true rfl)) d_C_show_2 ⟨Nat.zero_le _, Nat.zero_le _⟩ ?_
  refine lv_aload_n hx hb d_C_show_5 rfl (lv_at hl 0 rfl) ?_
  refine lv_iload_n hx hb d_C_show_6 rfl (lv_at hl 1 rfl) ?_
  exact tx_passV (As := [.int i1]) (rest := []) (b := (Z 0)) ⟨hx, hb, hml, hown, hts⟩ (t_C_demandParticipant l hlt dC dI Z cI cP p0 q0 g0 h0 S i1 hne) (cwV 1 hts (al_V k_338 k_339 k_645 k_1 k_340) rfl rfl rfl (by decide +kernel) ⟨Nat.le_of_ble_eq_true rfl, Nat.le_of_ble_eq_true rfl⟩) (fun U g mk a h => ⟨⟨h.1.1, va_K.moved (u := U) (U := U.calling g mk a) (Vm.Alike.refl U.vm) h.1.2⟩, xx_bl g mk a h.2⟩) (va_recv hK hP (ci := 2) (q0 := 0) rfl rfl) (fun U hU hW => ⟨⟨by rw [hU]; exact hP, va_K.moved hW.alike hK⟩, xx_to hW (fun a _ => by rw [hU]) hxx⟩) rfl hl.1 rfl (lv_room (Nat.le_of_ble_eq_true rfl)) d_C_show_7 ⟨Nat.le_of_ble_eq_true rfl, Nat.le_of_ble_eq_true rfl⟩ hemp hlk
set_option maxRecDepth 100000 in
set_option maxHeartbeats 4000000 in
/-- secret in another stage -/
theorem t_C_secret_st (l : Launch) (hlt : l.stackTraces = false) (dC : Nat → ClassId) (dI : Nat → Nat → Nat) (Z : Nat → Nat) (cI cP : ClassId) (p0 q0 g0 h0 : Nat) (S : Nat → Nat → Int32) (hne : ¬ S 0 0 = 5) : Tc l y_C_secret ws_C_secret 7 103 [.ref (Z 0)] (bX dC dI Z cI cP p0 q0 g0 h0 S) "java/lang/IllegalStateException" := by
  refine vx_ofW (cc := b_C_secret) (maxL := 5) (ret := (some .int)) (by decide) rfl ?_
  intro p e s m args below meth c s₁ B hml hemp hv
  obtain ⟨rfl, ⟨hP, hK⟩, hxx⟩ := hv
  have hx := B.exec
  have hb := B.bytes
  have hr := B.returns
  have hts : ∀ w ∈ AL, w.before ([.ref (Z 0)] : List Value).toArray s = true := fun w h => atoms_spec (ws := ws_C_secret) B.pre w (List.mem_cons_of_mem _ h)
  have hown : s.vm.findClass "DealtSecret" = some m.cls := findClass_of_methodNamed B.named
  have hlk := B.notSynchronized
  have hl := lv_entry ([.ref (Z 0)]) (n := 5) (Nat.le_of_ble_eq_true rfl)
  rw [lg_entry_eq]
  generalize (lg_sl ([.ref (Z 0)]) ++ List.replicate (5 - (lg_sl ([.ref (Z 0)])).length) Slot.unset).toArray = ls at hl ⊢
  have hl : lv_has ls 5 [(0, .ref (Z 0))] := hl
  refine lv_aload_n hx hb d_C_secret_0 rfl (lv_at hl 0 rfl) ?_
  refine lv_iconst (v := 5) hx hb d_C_secret_1 (by decide) ?_
  exact tx_passV (As := [.int 5]) (rest := []) (b := (Z 0)) ⟨hx, hb, hml, hown, hts⟩ (t_C_demandStage l hlt dC dI Z cI cP p0 q0 g0 h0 S 5 hne) (cwV 1 hts (al_V k_269 k_270 k_637 k_1 k_271) rfl rfl rfl (by decide +kernel) ⟨Nat.le_of_ble_eq_true rfl, Nat.le_of_ble_eq_true rfl⟩) (fun U g mk a h => ⟨⟨h.1.1, va_K.moved (u := U) (U := U.calling g mk a) (Vm.Alike.refl U.vm) h.1.2⟩, xx_bl g mk a h.2⟩) (va_recv hK hP (ci := 2) (q0 := 0) rfl rfl) (fun U hU hW => ⟨⟨by rw [hU]; exact hP, va_K.moved hW.alike hK⟩, xx_to hW (fun a _ => by rw [hU]) hxx⟩) rfl hl.1 rfl (lv_room (Nat.le_of_ble_eq_true rfl)) d_C_secret_2 ⟨Nat.le_of_ble_eq_true rfl, Nat.le_of_ble_eq_true rfl⟩ hemp hlk
set_option maxRecDepth 100000 in
set_option maxHeartbeats 4000000 in
/-- relation in another stage -/
theorem t_C_relation_st (l : Launch) (hlt : l.stackTraces = false) (dC : Nat → ClassId) (dI : Nat → Nat → Nat) (Z : Nat → Nat) (cI cP : ClassId) (p0 q0 g0 h0 : Nat) (S : Nat → Nat → Int32) (hne : ¬ S 0 0 = 5) : Tc l y_C_relation ws_C_relation 7 103 [.ref (Z 0)] (bX dC dI Z cI cP p0 q0 g0 h0 S) "java/lang/IllegalStateException" := by
  refine vx_ofW (cc := b_C_relation) (maxL := 1) (ret := (some .int)) (by decide) rfl ?_
  intro p e s m args below meth c s₁ B hml hemp hv
  obtain ⟨rfl, ⟨hP, hK⟩, hxx⟩ := hv
  have hx := B.exec
  have hb := B.bytes
  have hr := B.returns
  have hts : ∀ w ∈ AL, w.before ([.ref (Z 0)] : List Value).toArray s = true := fun w h => atoms_spec (ws := ws_C_relation) B.pre w (List.mem_cons_of_mem _ h)
  have hown : s.vm.findClass "DealtSecret" = some m.cls := findClass_of_methodNamed B.named
  have hlk := B.notSynchronized
  have hl := lv_entry ([.ref (Z 0)]) (n := 1) (Nat.le_of_ble_eq_true rfl)
  rw [lg_entry_eq]
  generalize (lg_sl ([.ref (Z 0)]) ++ List.replicate (1 - (lg_sl ([.ref (Z 0)])).length) Slot.unset).toArray = ls at hl ⊢
  have hl : lv_has ls 1 [(0, .ref (Z 0))] := hl
  refine lv_aload_n hx hb d_C_relation_0 rfl (lv_at hl 0 rfl) ?_
  refine lv_iconst (v := 5) hx hb d_C_relation_1 (by decide) ?_
  exact tx_passV (As := [.int 5]) (rest := []) (b := (Z 0)) ⟨hx, hb, hml, hown, hts⟩ (t_C_demandStage l hlt dC dI Z cI cP p0 q0 g0 h0 S 5 hne) (cwV 1 hts (al_V k_269 k_270 k_637 k_1 k_271) rfl rfl rfl (by decide +kernel) ⟨Nat.le_of_ble_eq_true rfl, Nat.le_of_ble_eq_true rfl⟩) (fun U g mk a h => ⟨⟨h.1.1, va_K.moved (u := U) (U := U.calling g mk a) (Vm.Alike.refl U.vm) h.1.2⟩, xx_bl g mk a h.2⟩) (va_recv hK hP (ci := 2) (q0 := 0) rfl rfl) (fun U hU hW => ⟨⟨by rw [hU]; exact hP, va_K.moved hW.alike hK⟩, xx_to hW (fun a _ => by rw [hU]) hxx⟩) rfl hl.1 rfl (lv_room (Nat.le_of_ble_eq_true rfl)) d_C_relation_2 ⟨Nat.le_of_ble_eq_true rfl, Nat.le_of_ble_eq_true rfl⟩ hemp hlk
set_option maxRecDepth 100000 in
set_option maxHeartbeats 4000000 in
/-- corrupt in another stage -/
theorem t_C_corrupt_st (l : Launch) (hlt : l.stackTraces = false) (dC : Nat → ClassId) (dI : Nat → Nat → Nat) (Z : Nat → Nat) (cI cP : ClassId) (p0 q0 g0 h0 : Nat) (S : Nat → Nat → Int32) (i1 : Int32) (hne : ¬ S 0 0 = 1 ∧ ¬ S 0 0 = 2) : Tc l y_C_corrupt ws_C_corrupt 7 103 [.ref (Z 0), .int i1] (bX dC dI Z cI cP p0 q0 g0 h0 S) "java/lang/IllegalStateException" := by
  refine vx_ofW (cc := b_C_corrupt) (maxL := 4) (ret := (some .boolean)) (by decide) rfl ?_
  intro p e s m args below meth c s₁ B hml hemp hv
  obtain ⟨rfl, ⟨hP, hK⟩, hxx⟩ := hv
  have hx := B.exec
  have hb := B.bytes
  have hr := B.returns
  have hts : ∀ w ∈ AL, w.before ([.ref (Z 0), .int i1] : List Value).toArray s = true := fun w h => atoms_spec (ws := ws_C_corrupt) B.pre w (List.mem_cons_of_mem _ h)
  have hown : s.vm.findClass "DealtSecret" = some m.cls := findClass_of_methodNamed B.named
  have hlk := B.notSynchronized
  have hl := lv_entry ([.ref (Z 0), .int i1]) (n := 4) (Nat.le_of_ble_eq_true rfl)
  rw [lg_entry_eq]
  generalize (lg_sl ([.ref (Z 0), .int i1]) ++ List.replicate (4 - (lg_sl ([.ref (Z 0), .int i1])).length) Slot.unset).toArray = ls at hl ⊢
  have hl : lv_has ls 4 [(0, .ref (Z 0)), (1, .int i1)] := hl
  refine lv_aload_n hx hb d_C_corrupt_0 rfl (lv_at hl 0 rfl) ?_
  refine va_get (D := (dC, dI)) (ci := 2) (v := .int (S 0 0)) (C := "DealtSecret") (T := T_C) (N := 11) hx hb hts i_C hown hK hP 0 rfl rfl 5 (by decide) (hts _ k_106) (fun _ h9 => h9) rfl d_C_corrupt_1 ?_
  refine lv_iconst (v := 1) hx hb d_C_corrupt_4 (by decide) ?_
  refine lv_icmp_eq (tgt := 26) hx hb d_C_corrupt_5 (by decide) (fun c_ => absurd c_ (hne.1)) (fun _ => ?_)
  refine lv_aload_n hx hb d_C_corrupt_8 rfl (lv_at hl 0 rfl) ?_
  refine va_get (D := (dC, dI)) (ci := 2) (v := .int (S 0 0)) (C := "DealtSecret") (T := T_C) (N := 11) hx hb hts i_C hown hK hP 0 rfl rfl 5 (by decide) (hts _ k_106) (fun _ h9 => h9) rfl d_C_corrupt_9 ?_
  refine lv_iconst (v := 2) hx hb d_C_corrupt_12 (by decide) ?_
  refine lv_icmp_eq (tgt := 26) hx hb d_C_corrupt_13 (by decide) (fun c_ => absurd c_ (hne.2)) (fun _ => ?_)
  exact tx_throw (tx := "the stage is another") hx hb hlt hemp hlk (hl.1.trans hml.symm) hown (by decide +kernel) hts xg_ISE xn_ISE (by decide +kernel) k_272 k_10 hxx (by decide +kernel) (by decide +kernel) d_C_corrupt_16 d_C_corrupt_19 d_C_corrupt_20 d_C_corrupt_22 d_C_corrupt_25 (Nat.le_of_ble_eq_true rfl) (Nat.le_of_ble_eq_true rfl) (Nat.le_of_ble_eq_true rfl) (Nat.le_of_ble_eq_true rfl)
set_option maxRecDepth 100000 in
set_option maxHeartbeats 4000000 in
/-- corrupt of nobody -/
theorem t_C_corrupt_pt (l : Launch) (hlt : l.stackTraces = false) (dC : Nat → ClassId) (dI : Nat → Nat → Nat) (Z : Nat → Nat) (cI cP : ClassId) (p0 q0 g0 h0 : Nat) (S : Nat → Nat → Int32) (i1 : Int32) (hst : S 0 0 = 1 ∨ S 0 0 = 2) (hne : ¬ isPt (S 0 1) i1) : Tc l y_C_corrupt ws_C_corrupt 7 103 [.ref (Z 0), .int i1] (bX dC dI Z cI cP p0 q0 g0 h0 S) "java/lang/IllegalArgumentException" := by
  refine vx_ofW (cc := b_C_corrupt) (maxL := 4) (ret := (some .boolean)) (by decide) rfl ?_
  intro p e s m args below meth c s₁ B hml hemp hv
  obtain ⟨rfl, ⟨hP, hK⟩, hxx⟩ := hv
  have hx := B.exec
  have hb := B.bytes
  have hr := B.returns
  have hts : ∀ w ∈ AL, w.before ([.ref (Z 0), .int i1] : List Value).toArray s = true := fun w h => atoms_spec (ws := ws_C_corrupt) B.pre w (List.mem_cons_of_mem _ h)
  have hown : s.vm.findClass "DealtSecret" = some m.cls := findClass_of_methodNamed B.named
  have hlk := B.notSynchronized
  have hl := lv_entry ([.ref (Z 0), .int i1]) (n := 4) (Nat.le_of_ble_eq_true rfl)
  rw [lg_entry_eq]
  generalize (lg_sl ([.ref (Z 0), .int i1]) ++ List.replicate (4 - (lg_sl ([.ref (Z 0), .int i1])).length) Slot.unset).toArray = ls at hl ⊢
  have hl : lv_has ls 4 [(0, .ref (Z 0)), (1, .int i1)] := hl
  refine lv_aload_n hx hb d_C_corrupt_0 rfl (lv_at hl 0 rfl) ?_
  refine va_get (D := (dC, dI)) (ci := 2) (v := .int (S 0 0)) (C := "DealtSecret") (T := T_C) (N := 11) hx hb hts i_C hown hK hP 0 rfl rfl 5 (by decide) (hts _ k_106) (fun _ h9 => h9) rfl d_C_corrupt_1 ?_
  refine lv_iconst (v := 1) hx hb d_C_corrupt_4 (by decide) ?_
  refine lv_icmp_eq (tgt := 26) hx hb d_C_corrupt_5 (by decide) (fun c5 => ?_) (fun c5 => ?_)
  · refine lv_aload_n hx hb d_C_corrupt_26 rfl (lv_at hl 0 rfl) ?_
    refine lv_iload_n hx hb d_C_corrupt_27 rfl (lv_at hl 1 rfl) ?_
    exact tx_passV (As := [.int i1]) (rest := []) (b := (Z 0)) ⟨hx, hb, hml, hown, hts⟩ (t_C_demandParticipant l hlt dC dI Z cI cP p0 q0 g0 h0 S i1 hne) (cwV 1 hts (al_V k_338 k_339 k_645 k_1 k_340) rfl rfl rfl (by decide +kernel) ⟨Nat.le_of_ble_eq_true rfl, Nat.le_of_ble_eq_true rfl⟩) (fun U g mk a h => ⟨⟨h.1.1, va_K.moved (u := U) (U := U.calling g mk a) (Vm.Alike.refl U.vm) h.1.2⟩, xx_bl g mk a h.2⟩) (va_recv hK hP (ci := 2) (q0 := 0) rfl rfl) (fun U hU hW => ⟨⟨by rw [hU]; exact hP, va_K.moved hW.alike hK⟩, xx_to hW (fun a _ => by rw [hU]) hxx⟩) rfl hl.1 rfl (lv_room (Nat.le_of_ble_eq_true rfl)) d_C_corrupt_28 ⟨Nat.le_of_ble_eq_true rfl, Nat.le_of_ble_eq_true rfl⟩ hemp hlk
  · refine lv_aload_n hx hb d_C_corrupt_8 rfl (lv_at hl 0 rfl) ?_
    refine va_get (D := (dC, dI)) (ci := 2) (v := .int (S 0 0)) (C := "DealtSecret") (T := T_C) (N := 11) hx hb hts i_C hown hK hP 0 rfl rfl 5 (by decide) (hts _ k_106) (fun _ h9 => h9) rfl d_C_corrupt_9 ?_
    refine lv_iconst (v := 2) hx hb d_C_corrupt_12 (by decide) ?_
    refine lv_icmp_eq (tgt := 26) hx hb d_C_corrupt_13 (by decide) (fun _ => ?_) (fun c_ => absurd (hst.elim (fun q => absurd q c5) id) c_)
    refine lv_aload_n hx hb d_C_corrupt_26 rfl (lv_at hl 0 rfl) ?_
    refine lv_iload_n hx hb d_C_corrupt_27 rfl (lv_at hl 1 rfl) ?_
    exact tx_passV (As := [.int i1]) (rest := []) (b := (Z 0)) ⟨hx, hb, hml, hown, hts⟩ (t_C_demandParticipant l hlt dC dI Z cI cP p0 q0 g0 h0 S i1 hne) (cwV 1 hts (al_V k_338 k_339 k_645 k_1 k_340) rfl rfl rfl (by decide +kernel) ⟨Nat.le_of_ble_eq_true rfl, Nat.le_of_ble_eq_true rfl⟩) (fun U g mk a h => ⟨⟨h.1.1, va_K.moved (u := U) (U := U.calling g mk a) (Vm.Alike.refl U.vm) h.1.2⟩, xx_bl g mk a h.2⟩) (va_recv hK hP (ci := 2) (q0 := 0) rfl rfl) (fun U hU hW => ⟨⟨by rw [hU]; exact hP, va_K.moved hW.alike hK⟩, xx_to hW (fun a _ => by rw [hU]) hxx⟩) rfl hl.1 rfl (lv_room (Nat.le_of_ble_eq_true rfl)) d_C_corrupt_28 ⟨Nat.le_of_ble_eq_true rfl, Nat.le_of_ble_eq_true rfl⟩ hemp hlk
set_option maxRecDepth 100000 in
set_option maxHeartbeats 4000000 in
/-- advance where no stage follows -/
theorem t_C_advance_st (l : Launch) (hlt : l.stackTraces = false) (dC : Nat → ClassId) (dI : Nat → Nat → Nat) (Z : Nat → Nat) (cI cP : ClassId) (p0 q0 g0 h0 : Nat) (S : Nat → Nat → Int32) (hne : ¬ S 0 0 = 1 ∧ ¬ S 0 0 = 2 ∧ ¬ S 0 0 = 3 ∧ ¬ S 0 0 = 4) : Tc l y_C_advance ws_C_advance 6 82 [.ref (Z 0)] (bX dC dI Z cI cP p0 q0 g0 h0 S) "java/lang/IllegalStateException" := by
  refine vx_ofW (cc := b_C_advance) (maxL := 1) (ret := (some .int)) (by decide) rfl ?_
  intro p e s m args below meth c s₁ B hml hemp hv
  obtain ⟨rfl, ⟨hP, hK⟩, hxx⟩ := hv
  have hx := B.exec
  have hb := B.bytes
  have hr := B.returns
  have hts : ∀ w ∈ AL, w.before ([.ref (Z 0)] : List Value).toArray s = true := fun w h => atoms_spec (ws := ws_C_advance) B.pre w (List.mem_cons_of_mem _ h)
  have hown : s.vm.findClass "DealtSecret" = some m.cls := findClass_of_methodNamed B.named
  have hlk := B.notSynchronized
  have hl := lv_entry ([.ref (Z 0)]) (n := 1) (Nat.le_of_ble_eq_true rfl)
  rw [lg_entry_eq]
  generalize (lg_sl ([.ref (Z 0)]) ++ List.replicate (1 - (lg_sl ([.ref (Z 0)])).length) Slot.unset).toArray = ls at hl ⊢
  have hl : lv_has ls 1 [(0, .ref (Z 0))] := hl
  refine lv_aload_n hx hb d_C_advance_0 rfl (lv_at hl 0 rfl) ?_
  refine va_get (D := (dC, dI)) (ci := 2) (v := .int (S 0 0)) (C := "DealtSecret") (T := T_C) (N := 11) hx hb hts i_C hown hK hP 0 rfl rfl 5 (by decide) (hts _ k_106) (fun _ h9 => h9) rfl d_C_advance_1 ?_
  have n1 := lv_neT hne.1 (a := 1) (by decide)
  have n2 := lv_neT hne.2.1 (a := 2) (by decide)
  have n3 := lv_neT hne.2.2.1 (a := 3) (by decide)
  have n4 := lv_neT hne.2.2.2 (a := 4) (by decide)
  refine lv_tableOut (tgt := 108) hx hb d_C_advance_4 (by omega) (by decide) ?_
  exact tx_throw (tx := "no stage follows this one") hx hb hlt hemp hlk (hl.1.trans hml.symm) hown (by decide +kernel) hts xg_ISE xn_ISE (by decide +kernel) k_272 k_10 hxx (by decide +kernel) (by decide +kernel) d_C_advance_108 d_C_advance_111 d_C_advance_112 d_C_advance_114 d_C_advance_117 (Nat.le_of_ble_eq_true rfl) (Nat.le_of_ble_eq_true rfl) (Nat.le_of_ble_eq_true rfl) (Nat.le_of_ble_eq_true rfl)
set_option maxRecDepth 100000 in
set_option maxHeartbeats 4000000 in
/-- begin with numbers that no deal has -/
theorem t_C_begin (l : Launch) (hlt : l.stackTraces = false) (dC : Nat → ClassId) (dI : Nat → Nat → Nat) (Z : Nat → Nat) (cI cP : ClassId) (p0 q0 g0 h0 : Nat) (S : Nat → Nat → Int32) (n1 t1 b1 : Int32) (hbad : ¬ bgOk n1 t1 (nI q0)) : Tc l y_C_begin ws_C_begin 6 82 [.ref (Z 0), .int n1, .int t1, .int b1] (bX dC dI Z cI cP p0 q0 g0 h0 S) "java/lang/IllegalArgumentException" := by
  refine vx_ofW (cc := b_C_begin) (maxL := 5) (ret := none) (by decide) rfl ?_
  intro p e s m args below meth c s₁ B hml hemp hv
  obtain ⟨rfl, ⟨hP, hK⟩, hxx⟩ := hv
  have hx := B.exec
  have hb := B.bytes
  have hr := B.returns
  have hts : ∀ w ∈ AL, w.before ([.ref (Z 0), .int n1, .int t1, .int b1] : List Value).toArray s = true := fun w h => atoms_spec (ws := ws_C_begin) B.pre w (List.mem_cons_of_mem _ h)
  have hown : s.vm.findClass "DealtSecret" = some m.cls := findClass_of_methodNamed B.named
  have hlk := B.notSynchronized
  have hl := lv_entry ([.ref (Z 0), .int n1, .int t1, .int b1]) (n := 5) (Nat.le_of_ble_eq_true rfl)
  rw [lg_entry_eq]
  generalize (lg_sl ([.ref (Z 0), .int n1, .int t1, .int b1]) ++ List.replicate (5 - (lg_sl ([.ref (Z 0), .int n1, .int t1, .int b1])).length) Slot.unset).toArray = ls at hl ⊢
  have hl : lv_has ls 5 [(0, .ref (Z 0)), (1, .int n1), (2, .int t1), (3, .int b1)] := hl
  refine lv_iload_n hx hb d_C_begin_0 rfl (lv_at hl 1 rfl) ?_
  refine lv_iconst (v := 1) hx hb d_C_begin_1 (by decide) ?_
  refine lv_icmp_lt (tgt := 32) hx hb d_C_begin_2 (by decide) (fun c2 => ?_) (fun c2 => ?_)
  · exact tx_throw (tx := "no deal has these numbers") hx hb hlt hemp hlk (hl.1.trans hml.symm) hown (by decide +kernel) hts xg_IAE xn_IAE (by decide +kernel) k_204 k_8 hxx (by decide +kernel) (by decide +kernel) d_C_begin_32 d_C_begin_35 d_C_begin_36 d_C_begin_38 d_C_begin_41 (Nat.le_of_ble_eq_true rfl) (Nat.le_of_ble_eq_true rfl) (Nat.le_of_ble_eq_true rfl) (Nat.le_of_ble_eq_true rfl)
  · refine lv_iload_n hx hb d_C_begin_5 rfl (lv_at hl 1 rfl) ?_
    refine lv_bipush (v := 7) hx hb d_C_begin_6 (by decide) ?_
    refine lv_icmp_gt (tgt := 32) hx hb d_C_begin_8 (by decide) (fun c8 => ?_) (fun c8 => ?_)
    · exact tx_throw (tx := "no deal has these numbers") hx hb hlt hemp hlk (hl.1.trans hml.symm) hown (by decide +kernel) hts xg_IAE xn_IAE (by decide +kernel) k_204 k_8 hxx (by decide +kernel) (by decide +kernel) d_C_begin_32 d_C_begin_35 d_C_begin_36 d_C_begin_38 d_C_begin_41 (Nat.le_of_ble_eq_true rfl) (Nat.le_of_ble_eq_true rfl) (Nat.le_of_ble_eq_true rfl) (Nat.le_of_ble_eq_true rfl)
    · refine lv_iload_n hx hb d_C_begin_11 rfl (lv_at hl 2 rfl) ?_
      refine lv_iconst (v := 1) hx hb d_C_begin_12 (by decide) ?_
      refine lv_icmp_lt (tgt := 32) hx hb d_C_begin_13 (by decide) (fun c13 => ?_) (fun c13 => ?_)
      · exact tx_throw (tx := "no deal has these numbers") hx hb hlt hemp hlk (hl.1.trans hml.symm) hown (by decide +kernel) hts xg_IAE xn_IAE (by decide +kernel) k_204 k_8 hxx (by decide +kernel) (by decide +kernel) d_C_begin_32 d_C_begin_35 d_C_begin_36 d_C_begin_38 d_C_begin_41 (Nat.le_of_ble_eq_true rfl) (Nat.le_of_ble_eq_true rfl) (Nat.le_of_ble_eq_true rfl) (Nat.le_of_ble_eq_true rfl)
      · refine lv_iload_n hx hb d_C_begin_16 rfl (lv_at hl 2 rfl) ?_
        refine lv_iload_n hx hb d_C_begin_17 rfl (lv_at hl 1 rfl) ?_
        refine lv_icmp_gt (tgt := 32) hx hb d_C_begin_18 (by decide) (fun c18 => ?_) (fun c18 => ?_)
        · exact tx_throw (tx := "no deal has these numbers") hx hb hlt hemp hlk (hl.1.trans hml.symm) hown (by decide +kernel) hts xg_IAE xn_IAE (by decide +kernel) k_204 k_8 hxx (by decide +kernel) (by decide +kernel) d_C_begin_32 d_C_begin_35 d_C_begin_36 d_C_begin_38 d_C_begin_41 (Nat.le_of_ble_eq_true rfl) (Nat.le_of_ble_eq_true rfl) (Nat.le_of_ble_eq_true rfl) (Nat.le_of_ble_eq_true rfl)
        · refine lv_aload_n hx hb d_C_begin_21 rfl (lv_at hl 0 rfl) ?_
          refine va_get (D := (dC, dI)) (ci := 2) (v := .ref (Z 1)) (C := "DealtSecret") (T := T_C) (N := 11) hx hb hts i_C hown hK hP 0 rfl rfl 0 (by decide) (hts _ k_101) (fun _ h9 => h9) rfl d_C_begin_22 ?_
          refine va_get (D := (dC, dI)) (ci := 0) (v := .int (nI q0)) (C := "DealtSecret$Group") (T := T_G) (N := 4) hx hb hts i_G hown hK hP 1 rfl rfl 1 (by decide) (hts _ k_45) (fun _ h9 => h9) rfl d_C_begin_25 ?_
          refine lv_iload_n hx hb d_C_begin_28 rfl (lv_at hl 1 rfl) ?_
          refine lv_icmp_gt (tgt := 42) hx hb d_C_begin_29 (by decide) (fun c_ => absurd c_ (fun q => hbad ⟨c2, c8, c13, c18, q⟩)) (fun _ => ?_)
          exact tx_throw (tx := "no deal has these numbers") hx hb hlt hemp hlk (hl.1.trans hml.symm) hown (by decide +kernel) hts xg_IAE xn_IAE (by decide +kernel) k_204 k_8 hxx (by decide +kernel) (by decide +kernel) d_C_begin_32 d_C_begin_35 d_C_begin_36 d_C_begin_38 d_C_begin_41 (Nat.le_of_ble_eq_true rfl) (Nat.le_of_ble_eq_true rfl) (Nat.le_of_ble_eq_true rfl) (Nat.le_of_ble_eq_true rfl)
