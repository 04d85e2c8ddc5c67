set_option maxRecDepth 100000 in
set_option maxHeartbeats 4000000 in
/-- the law's call of begin where it returns -/
theorem l_begin_go (l : Launch) (dC : Nat → ClassId) (dI : Nat → Nat → Nat) (Z : Nat → Nat) (cI cP cL : ClassId) (p0 q0 g0 h0 ou : Nat) (S : Nat → Nat → Int32) (f : Nat → Int64) (a1 a2 a3 : Int32) (S1 : Nat → Nat → Int32) (hM : Wr l y_C_begin ws_C_begin 1 23 [.ref (Z 0), .int a1, .int a2, .int a3] (dC, dI) cls (tysC cI cP) (wC Z cI cP p0 q0 g0 h0 S) (wC Z cI cP p0 q0 g0 h0 S1) none) : Wp l y_L_begin ws_L_begin [.ref (Z 0), .int a1, .int a2, .int a3] dC dI (wC Z cI cP p0 q0 g0 h0 S ++ oL ou cL f) (wC Z cI cP p0 q0 g0 h0 (S1) ++ oL ou cL (f)) (tysL cI cP cL) 0 := by
  refine va_MetW (hh := [(0, 7, 10, 13)]) (cc := b_L_begin) (maxL := 5) (ret := (some .int)) (by decide) rfl ?_
  intro p e s m args below meth c s₁ B hml hv
  obtain ⟨rfl, ⟨hP, hK, hD0⟩, hxx, hnc⟩ := hv
  have hx := B.exec
  have hb := B.bytes
  have hr := B.returns
  have hts : ∀ w ∈ AL, w.before ([.ref (Z 0), .int a1, .int a2, .int a3] : List Value).toArray s = true := fun w h => atoms_spec (ws := ws_L_begin) B.pre w (List.mem_cons_of_mem _ h)
  have hown : s.vm.findClass "DealtSecretLaw" = some m.cls := findClass_of_methodNamed B.named
  have hlk := B.notSynchronized
  have hl := lv_entry ([.ref (Z 0), .int a1, .int a2, .int a3]) (n := 5) (Nat.le_of_ble_eq_true rfl)
  rw [lg_entry_eq]
  generalize (lg_sl ([.ref (Z 0), .int a1, .int a2, .int a3]) ++ List.replicate (5 - (lg_sl ([.ref (Z 0), .int a1, .int a2, .int a3])).length) Slot.unset).toArray = ls at hl ⊢
  have hl : lv_has ls 5 [(0, .ref (Z 0)), (1, .int a1), (2, .int a2), (3, .int a3)] := hl
  have hD := w_self hD0
  have hS : va_S (w_A (wC Z cI cP p0 q0 g0 h0 S ++ oL ou cL f)) s.heap s.heap [] := va_S.rf
  have htb : c.exceptionTable.toList = tableOf [(0, 7, 10, 13)] := vx_table (x := y_L_begin) B (atoms_spec (ws := ws_L_begin) B.pre _ List.mem_cons_self)
  refine lv_aload_n hx hb d_L_begin_0 rfl (lv_at hl 0 rfl) ?_
  refine lv_iload_n hx hb d_L_begin_1 rfl (lv_at hl 1 rfl) ?_
  refine lv_iload_n hx hb d_L_begin_2 rfl (lv_at hl 2 rfl) ?_
  refine lv_iload_n hx hb d_L_begin_3 rfl (lv_at hl 3 rfl) ?_
  refine wr_V (As := [.int a1, .int a2, .int a3]) (rest := []) (b := Z 0) (A := w_A (wC Z cI cP p0 q0 g0 h0 S ++ oL ou cL f)) ⟨hx, hb, hml, hown, hts⟩ hM (cwV 3 hts (al_V k_200 k_201 k_202 k_1 k_203) rfl rfl rfl (by decide +kernel) ⟨Nat.le_of_ble_eq_true rfl, Nat.le_of_ble_eq_true rfl⟩) (va_recv hK hP (ci := 2) (q0 := 0) rfl rfl) (w_l hP) (hK.sub [0, 1] rfl) (w_dl hD) hS rfl hl.1 rfl (lv_room (Nat.le_of_ble_eq_true rfl)) d_L_begin_4 ⟨Nat.zero_le _, Nat.zero_le _⟩ (fun H locs hP1 hkp _ hS => ?_)
  have hP := hP1.app (w_keep (w_r hP) hD hkp)
  have hD := w_addr hD (w_adL (ou := ou) (cL := cL) S S1 f f)
  refine lv_goto (tgt := 14) hx hb d_L_begin_7 (by decide) ?_
  refine lv_iconst (v := 0) hx hb d_L_begin_14 (by decide) ?_
  refine W.widen (k := 1) (n := 6) (Nat.zero_le _) (Nat.zero_le _) ?_
  exact wr_i hx hb hr hlk hP hS d_L_begin_15
set_option maxRecDepth 100000 in
set_option maxHeartbeats 4000000 in
/-- the law's call of coefficient where it returns -/
theorem l_coefficient_go (l : Launch) (dC : Nat → ClassId) (dI : Nat → Nat → Nat) (Z : Nat → Nat) (cI cP cL : ClassId) (p0 q0 g0 h0 ou : Nat) (S : Nat → Nat → Int32) (f : Nat → Int64) (a1 a2 a3 : Int32) (S1 : Nat → Nat → Int32) (hM : Wr l y_C_coefficient ws_C_coefficient 3 64 [.ref (Z 0), .int a1, .int a2, .int a3] (dC, dI) cls (tysC cI cP) (wC Z cI cP p0 q0 g0 h0 S) (wC Z cI cP p0 q0 g0 h0 S1) none) : Wp l y_L_coefficient ws_L_coefficient [.ref (Z 0), .int a1, .int a2, .int a3] dC dI (wC Z cI cP p0 q0 g0 h0 S ++ oL ou cL f) (wC Z cI cP p0 q0 g0 h0 (S1) ++ oL ou cL (f)) (tysL cI cP cL) 0 := by
  refine va_MetW (hh := [(0, 7, 10, 19), (0, 7, 14, 13)]) (cc := b_L_coefficient) (maxL := 5) (ret := (some .int)) (by decide) rfl ?_
  intro p e s m args below meth c s₁ B hml hv
  obtain ⟨rfl, ⟨hP, hK, hD0⟩, hxx, hnc⟩ := hv
  have hx := B.exec
  have hb := B.bytes
  have hr := B.returns
  have hts : ∀ w ∈ AL, w.before ([.ref (Z 0), .int a1, .int a2, .int a3] : List Value).toArray s = true := fun w h => atoms_spec (ws := ws_L_coefficient) B.pre w (List.mem_cons_of_mem _ h)
  have hown : s.vm.findClass "DealtSecretLaw" = some m.cls := findClass_of_methodNamed B.named
  have hlk := B.notSynchronized
  have hl := lv_entry ([.ref (Z 0), .int a1, .int a2, .int a3]) (n := 5) (Nat.le_of_ble_eq_true rfl)
  rw [lg_entry_eq]
  generalize (lg_sl ([.ref (Z 0), .int a1, .int a2, .int a3]) ++ List.replicate (5 - (lg_sl ([.ref (Z 0), .int a1, .int a2, .int a3])).length) Slot.unset).toArray = ls at hl ⊢
  have hl : lv_has ls 5 [(0, .ref (Z 0)), (1, .int a1), (2, .int a2), (3, .int a3)] := hl
  have hD := w_self hD0
  have hS : va_S (w_A (wC Z cI cP p0 q0 g0 h0 S ++ oL ou cL f)) s.heap s.heap [] := va_S.rf
  have htb : c.exceptionTable.toList = tableOf [(0, 7, 10, 19), (0, 7, 14, 13)] := vx_table (x := y_L_coefficient) B (atoms_spec (ws := ws_L_coefficient) B.pre _ List.mem_cons_self)
  refine lv_aload_n hx hb d_L_coefficient_0 rfl (lv_at hl 0 rfl) ?_
  refine lv_iload_n hx hb d_L_coefficient_1 rfl (lv_at hl 1 rfl) ?_
  refine lv_iload_n hx hb d_L_coefficient_2 rfl (lv_at hl 2 rfl) ?_
  refine lv_iload_n hx hb d_L_coefficient_3 rfl (lv_at hl 3 rfl) ?_
  refine wr_V (As := [.int a1, .int a2, .int a3]) (rest := []) (b := Z 0) (A := w_A (wC Z cI cP p0 q0 g0 h0 S ++ oL ou cL f)) ⟨hx, hb, hml, hown, hts⟩ hM (cwV 3 hts (al_V k_265 k_266 k_267 k_1 k_268) rfl rfl rfl (by decide +kernel) ⟨Nat.le_of_ble_eq_true rfl, Nat.le_of_ble_eq_true rfl⟩) (va_recv hK hP (ci := 2) (q0 := 0) rfl rfl) (w_l hP) (hK.sub [0, 1] rfl) (w_dl hD) hS rfl hl.1 rfl (lv_room (Nat.le_of_ble_eq_true rfl)) d_L_coefficient_4 ⟨Nat.zero_le _, Nat.zero_le _⟩ (fun H locs hP1 hkp _ hS => ?_)
  have hP := hP1.app (w_keep (w_r hP) hD hkp)
  have hD := w_addr hD (w_adL (ou := ou) (cL := cL) S S1 f f)
  refine lv_goto (tgt := 18) hx hb d_L_coefficient_7 (by decide) ?_
  refine lv_iconst (v := 0) hx hb d_L_coefficient_18 (by decide) ?_
  refine W.widen (k := 1) (n := 6) (Nat.zero_le _) (Nat.zero_le _) ?_
  exact wr_i hx hb hr hlk hP hS d_L_coefficient_19
set_option maxRecDepth 100000 in
set_option maxHeartbeats 4000000 in
/-- the law's call of advance where it returns -/
theorem l_advance_go (l : Launch) (dC : Nat → ClassId) (dI : Nat → Nat → Nat) (Z : Nat → Nat) (cI cP cL : ClassId) (p0 q0 g0 h0 ou : Nat) (S : Nat → Nat → Int32) (f : Nat → Int64) (S1 : Nat → Nat → Int32) (r : Int32) (hM : Wr l y_C_advance ws_C_advance 6 138 [.ref (Z 0)] (dC, dI) cls (tysC cI cP) (wC Z cI cP p0 q0 g0 h0 S) (wC Z cI cP p0 q0 g0 h0 S1) (some (.int r))) : Wp l y_L_advance ws_L_advance [.ref (Z 0), .ref ou] dC dI (wC Z cI cP p0 q0 g0 h0 S ++ oL ou cL f) (wC Z cI cP p0 q0 g0 h0 (S1) ++ oL ou cL (vp_updL f 0 r.toInt64)) (tysL cI cP cL) 0 := by
  refine va_MetW (hh := [(0, 8, 11, 19)]) (cc := b_L_advance) (maxL := 3) (ret := (some .int)) (by decide) rfl ?_
  intro p e s m args below meth c s₁ B hml hv
  obtain ⟨rfl, ⟨hP, hK, hD0⟩, hxx, hnc⟩ := hv
  have hx := B.exec
  have hb := B.bytes
  have hr := B.returns
  have hts : ∀ w ∈ AL, w.before ([.ref (Z 0), .ref ou] : List Value).toArray s = true := fun w h => atoms_spec (ws := ws_L_advance) B.pre w (List.mem_cons_of_mem _ h)
  have hown : s.vm.findClass "DealtSecretLaw" = some m.cls := findClass_of_methodNamed B.named
  have hlk := B.notSynchronized
  have hl := lv_entry ([.ref (Z 0), .ref ou]) (n := 3) (Nat.le_of_ble_eq_true rfl)
  rw [lg_entry_eq]
  generalize (lg_sl ([.ref (Z 0), .ref ou]) ++ List.replicate (3 - (lg_sl ([.ref (Z 0), .ref ou])).length) Slot.unset).toArray = ls at hl ⊢
  have hl : lv_has ls 3 [(0, .ref (Z 0)), (1, .ref ou)] := hl
  have hD := w_self hD0
  have hS : va_S (w_A (wC Z cI cP p0 q0 g0 h0 S ++ oL ou cL f)) s.heap s.heap [] := va_S.rf
  have htb : c.exceptionTable.toList = tableOf [(0, 8, 11, 19)] := vx_table (x := y_L_advance) B (atoms_spec (ws := ws_L_advance) B.pre _ List.mem_cons_self)
  refine lv_aload_n hx hb d_L_advance_0 rfl (lv_at hl 1 rfl) ?_
  refine lv_iconst (v := 0) hx hb d_L_advance_1 (by decide) ?_
  refine lv_aload_n hx hb d_L_advance_2 rfl (lv_at hl 0 rfl) ?_
  refine wr_V (As := []) (rest := [.int 0, .ref ou]) (b := Z 0) (A := w_A (wC Z cI cP p0 q0 g0 h0 S ++ oL ou cL f)) ⟨hx, hb, hml, hown, hts⟩ hM (cwV 0 hts (al_V k_300 k_301 k_302 k_1 k_303) rfl rfl rfl (by decide +kernel) ⟨Nat.le_of_ble_eq_true rfl, Nat.le_of_ble_eq_true rfl⟩) (va_recv hK hP (ci := 2) (q0 := 0) rfl rfl) (w_l hP) (hK.sub [0, 1] rfl) (w_dl hD) hS rfl hl.1 rfl (lv_room (Nat.le_of_ble_eq_true rfl)) d_L_advance_3 ⟨Nat.zero_le _, Nat.zero_le _⟩ (fun H locs hP1 hkp _ hS => ?_)
  have hP := hP1.app (w_keep (w_r hP) hD hkp)
  have hD := w_addr hD (w_adL (ou := ou) (cL := cL) S S1 f f)
  refine lv_i2l (v := r.toInt64) hx hb d_L_advance_6 (rfl) ?_
  refine va_last (n := 1) (f := f) hx hb hK hP hD hS 13 2 rfl rfl (vp_in_nI (n := 0) (N := 1) (by decide) (by decide)) d_L_advance_7 (fun H locs hP hD hS => ?_)
  rw [w_setL] at hP hD
  have hP : va_P (dC, dI) cls (wC Z cI cP p0 q0 g0 h0 S1 ++ oL ou cL (vp_updL f 0 r.toInt64)) H := hP
  refine lv_goto (tgt := 14) hx hb d_L_advance_8 (by decide) ?_
  refine lv_iconst (v := 0) hx hb d_L_advance_14 (by decide) ?_
  refine W.widen (k := 1) (n := 6) (Nat.zero_le _) (Nat.zero_le _) ?_
  exact wr_i hx hb hr hlk hP hS d_L_advance_15
set_option maxRecDepth 100000 in
set_option maxHeartbeats 4000000 in
/-- the law's call of tamper where it returns -/
theorem l_tamper_go (l : Launch) (dC : Nat → ClassId) (dI : Nat → Nat → Nat) (Z : Nat → Nat) (cI cP cL : ClassId) (p0 q0 g0 h0 ou : Nat) (S : Nat → Nat → Int32) (f : Nat → Int64) (a1 a2 a3 : Int32) (S1 : Nat → Nat → Int32) (hM : Wr l y_C_tamper ws_C_tamper 3 64 [.ref (Z 0), .int a1, .int a2, .int a3] (dC, dI) cls (tysC cI cP) (wC Z cI cP p0 q0 g0 h0 S) (wC Z cI cP p0 q0 g0 h0 S1) none) : Wp l y_L_tamper ws_L_tamper [.ref (Z 0), .int a1, .int a2, .int a3] dC dI (wC Z cI cP p0 q0 g0 h0 S ++ oL ou cL f) (wC Z cI cP p0 q0 g0 h0 (S1) ++ oL ou cL (f)) (tysL cI cP cL) 0 := by
  refine va_MetW (hh := [(0, 7, 10, 19), (0, 7, 14, 13)]) (cc := b_L_tamper) (maxL := 5) (ret := (some .int)) (by decide) rfl ?_
  intro p e s m args below meth c s₁ B hml hv
  obtain ⟨rfl, ⟨hP, hK, hD0⟩, hxx, hnc⟩ := hv
  have hx := B.exec
  have hb := B.bytes
  have hr := B.returns
  have hts : ∀ w ∈ AL, w.before ([.ref (Z 0), .int a1, .int a2, .int a3] : List Value).toArray s = true := fun w h => atoms_spec (ws := ws_L_tamper) B.pre w (List.mem_cons_of_mem _ h)
  have hown : s.vm.findClass "DealtSecretLaw" = some m.cls := findClass_of_methodNamed B.named
  have hlk := B.notSynchronized
  have hl := lv_entry ([.ref (Z 0), .int a1, .int a2, .int a3]) (n := 5) (Nat.le_of_ble_eq_true rfl)
  rw [lg_entry_eq]
  generalize (lg_sl ([.ref (Z 0), .int a1, .int a2, .int a3]) ++ List.replicate (5 - (lg_sl ([.ref (Z 0), .int a1, .int a2, .int a3])).length) Slot.unset).toArray = ls at hl ⊢
  have hl : lv_has ls 5 [(0, .ref (Z 0)), (1, .int a1), (2, .int a2), (3, .int a3)] := hl
  have hD := w_self hD0
  have hS : va_S (w_A (wC Z cI cP p0 q0 g0 h0 S ++ oL ou cL f)) s.heap s.heap [] := va_S.rf
  have htb : c.exceptionTable.toList = tableOf [(0, 7, 10, 19), (0, 7, 14, 13)] := vx_table (x := y_L_tamper) B (atoms_spec (ws := ws_L_tamper) B.pre _ List.mem_cons_self)
  refine lv_aload_n hx hb d_L_tamper_0 rfl (lv_at hl 0 rfl) ?_
  refine lv_iload_n hx hb d_L_tamper_1 rfl (lv_at hl 1 rfl) ?_
  refine lv_iload_n hx hb d_L_tamper_2 rfl (lv_at hl 2 rfl) ?_
  refine lv_iload_n hx hb d_L_tamper_3 rfl (lv_at hl 3 rfl) ?_
  refine wr_V (As := [.int a1, .int a2, .int a3]) (rest := []) (b := Z 0) (A := w_A (wC Z cI cP p0 q0 g0 h0 S ++ oL ou cL f)) ⟨hx, hb, hml, hown, hts⟩ hM (cwV 3 hts (al_V k_334 k_335 k_336 k_1 k_337) rfl rfl rfl (by decide +kernel) ⟨Nat.le_of_ble_eq_true rfl, Nat.le_of_ble_eq_true rfl⟩) (va_recv hK hP (ci := 2) (q0 := 0) rfl rfl) (w_l hP) (hK.sub [0, 1] rfl) (w_dl hD) hS rfl hl.1 rfl (lv_room (Nat.le_of_ble_eq_true rfl)) d_L_tamper_4 ⟨Nat.zero_le _, Nat.zero_le _⟩ (fun H locs hP1 hkp _ hS => ?_)
  have hP := hP1.app (w_keep (w_r hP) hD hkp)
  have hD := w_addr hD (w_adL (ou := ou) (cL := cL) S S1 f f)
  refine lv_goto (tgt := 18) hx hb d_L_tamper_7 (by decide) ?_
  refine lv_iconst (v := 0) hx hb d_L_tamper_18 (by decide) ?_
  refine W.widen (k := 1) (n := 6) (Nat.zero_le _) (Nat.zero_le _) ?_
  exact wr_i hx hb hr hlk hP hS d_L_tamper_19
set_option maxRecDepth 100000 in
set_option maxHeartbeats 4000000 in
/-- the law's call of forge where it returns -/
theorem l_forge_go (l : Launch) (dC : Nat → ClassId) (dI : Nat → Nat → Nat) (Z : Nat → Nat) (cI cP cL : ClassId) (p0 q0 g0 h0 ou : Nat) (S : Nat → Nat → Int32) (f : Nat → Int64) (a1 a2 : Int32) (S1 : Nat → Nat → Int32) (hM : Wr l y_C_forge ws_C_forge 2 42 [.ref (Z 0), .int a1, .int a2] (dC, dI) cls (tysC cI cP) (wC Z cI cP p0 q0 g0 h0 S) (wC Z cI cP p0 q0 g0 h0 S1) none) : Wp l y_L_forge ws_L_forge [.ref (Z 0), .int a1, .int a2] dC dI (wC Z cI cP p0 q0 g0 h0 S ++ oL ou cL f) (wC Z cI cP p0 q0 g0 h0 (S1) ++ oL ou cL (f)) (tysL cI cP cL) 0 := by
  refine va_MetW (hh := [(0, 6, 9, 19), (0, 6, 12, 13)]) (cc := b_L_forge) (maxL := 4) (ret := (some .int)) (by decide) rfl ?_
  intro p e s m args below meth c s₁ B hml hv
  obtain ⟨rfl, ⟨hP, hK, hD0⟩, hxx, hnc⟩ := hv
  have hx := B.exec
  have hb := B.bytes
  have hr := B.returns
  have hts : ∀ w ∈ AL, w.before ([.ref (Z 0), .int a1, .int a2] : List Value).toArray s = true := fun w h => atoms_spec (ws := ws_L_forge) B.pre w (List.mem_cons_of_mem _ h)
  have hown : s.vm.findClass "DealtSecretLaw" = some m.cls := findClass_of_methodNamed B.named
  have hlk := B.notSynchronized
  have hl := lv_entry ([.ref (Z 0), .int a1, .int a2]) (n := 4) (Nat.le_of_ble_eq_true rfl)
  rw [lg_entry_eq]
  generalize (lg_sl ([.ref (Z 0), .int a1, .int a2]) ++ List.replicate (4 - (lg_sl ([.ref (Z 0), .int a1, .int a2])).length) Slot.unset).toArray = ls at hl ⊢
  have hl : lv_has ls 4 [(0, .ref (Z 0)), (1, .int a1), (2, .int a2)] := hl
  have hD := w_self hD0
  have hS : va_S (w_A (wC Z cI cP p0 q0 g0 h0 S ++ oL ou cL f)) s.heap s.heap [] := va_S.rf
  have htb : c.exceptionTable.toList = tableOf [(0, 6, 9, 19), (0, 6, 12, 13)] := vx_table (x := y_L_forge) B (atoms_spec (ws := ws_L_forge) B.pre _ List.mem_cons_self)
  refine lv_aload_n hx hb d_L_forge_0 rfl (lv_at hl 0 rfl) ?_
  refine lv_iload_n hx hb d_L_forge_1 rfl (lv_at hl 1 rfl) ?_
  refine lv_iload_n hx hb d_L_forge_2 rfl (lv_at hl 2 rfl) ?_
  refine wr_V (As := [.int a1, .int a2]) (rest := []) (b := Z 0) (A := w_A (wC Z cI cP p0 q0 g0 h0 S ++ oL ou cL f)) ⟨hx, hb, hml, hown, hts⟩ hM (cwV 2 hts (al_V k_343 k_344 k_345 k_1 k_346) rfl rfl rfl (by decide +kernel) ⟨Nat.le_of_ble_eq_true rfl, Nat.le_of_ble_eq_true rfl⟩) (va_recv hK hP (ci := 2) (q0 := 0) rfl rfl) (w_l hP) (hK.sub [0, 1] rfl) (w_dl hD) hS rfl hl.1 rfl (lv_room (Nat.le_of_ble_eq_true rfl)) d_L_forge_3 ⟨Nat.zero_le _, Nat.zero_le _⟩ (fun H locs hP1 hkp _ hS => ?_)
  have hP := hP1.app (w_keep (w_r hP) hD hkp)
  have hD := w_addr hD (w_adL (ou := ou) (cL := cL) S S1 f f)
  refine lv_goto (tgt := 15) hx hb d_L_forge_6 (by decide) ?_
  refine lv_iconst (v := 0) hx hb d_L_forge_15 (by decide) ?_
  refine W.widen (k := 1) (n := 6) (Nat.zero_le _) (Nat.zero_le _) ?_
  exact wr_i hx hb hr hlk hP hS d_L_forge_16
set_option maxRecDepth 100000 in
set_option maxHeartbeats 4000000 in
/-- the law's call of corrupt where it returns -/
theorem l_corrupt_go (l : Launch) (dC : Nat → ClassId) (dI : Nat → Nat → Nat) (Z : Nat → Nat) (cI cP cL : ClassId) (p0 q0 g0 h0 ou : Nat) (S : Nat → Nat → Int32) (f : Nat → Int64) (a1 : Int32) (S1 : Nat → Nat → Int32) (r : Int32) (hM : Wr l y_C_corrupt ws_C_corrupt 2 42 [.ref (Z 0), .int a1] (dC, dI) cls (tysC cI cP) (wC Z cI cP p0 q0 g0 h0 S) (wC Z cI cP p0 q0 g0 h0 S1) (some (.int r))) : Wp l y_L_corrupt ws_L_corrupt [.ref (Z 0), .int a1, .ref ou] dC dI (wC Z cI cP p0 q0 g0 h0 S ++ oL ou cL f) (wC Z cI cP p0 q0 g0 h0 (S1) ++ oL ou cL (vp_updL f 0 (if r = 0 then 0 else 1))) (tysL cI cP cL) 0 := by
  refine va_MetW (hh := [(0, 16, 19, 19), (0, 16, 22, 13)]) (cc := b_L_corrupt) (maxL := 4) (ret := (some .int)) (by decide) rfl ?_
  intro p e s m args below meth c s₁ B hml hv
  obtain ⟨rfl, ⟨hP, hK, hD0⟩, hxx, hnc⟩ := hv
  have hx := B.exec
  have hb := B.bytes
  have hr := B.returns
  have hts : ∀ w ∈ AL, w.before ([.ref (Z 0), .int a1, .ref ou] : List Value).toArray s = true := fun w h => atoms_spec (ws := ws_L_corrupt) B.pre w (List.mem_cons_of_mem _ h)
  have hown : s.vm.findClass "DealtSecretLaw" = some m.cls := findClass_of_methodNamed B.named
  have hlk := B.notSynchronized
  have hl := lv_entry ([.ref (Z 0), .int a1, .ref ou]) (n := 4) (Nat.le_of_ble_eq_true rfl)
  rw [lg_entry_eq]
  generalize (lg_sl ([.ref (Z 0), .int a1, .ref ou]) ++ List.replicate (4 - (lg_sl ([.ref (Z 0), .int a1, .ref ou])).length) Slot.unset).toArray = ls at hl ⊢
  have hl : lv_has ls 4 [(0, .ref (Z 0)), (1, .int a1), (2, .ref ou)] := hl
  have hD := w_self hD0
  have hS : va_S (w_A (wC Z cI cP p0 q0 g0 h0 S ++ oL ou cL f)) s.heap s.heap [] := va_S.rf
  have htb : c.exceptionTable.toList = tableOf [(0, 16, 19, 19), (0, 16, 22, 13)] := vx_table (x := y_L_corrupt) B (atoms_spec (ws := ws_L_corrupt) B.pre _ List.mem_cons_self)
  refine lv_aload_n hx hb d_L_corrupt_0 rfl (lv_at hl 2 rfl) ?_
  refine lv_iconst (v := 0) hx hb d_L_corrupt_1 (by decide) ?_
  refine lv_aload_n hx hb d_L_corrupt_2 rfl (lv_at hl 0 rfl) ?_
  refine lv_iload_n hx hb d_L_corrupt_3 rfl (lv_at hl 1 rfl) ?_
  refine wr_V (As := [.int a1]) (rest := [.int 0, .ref ou]) (b := Z 0) (A := w_A (wC Z cI cP p0 q0 g0 h0 S ++ oL ou cL f)) ⟨hx, hb, hml, hown, hts⟩ hM (cwV 1 hts (al_V k_349 k_350 k_351 k_1 k_352) rfl rfl rfl (by decide +kernel) ⟨Nat.le_of_ble_eq_true rfl, Nat.le_of_ble_eq_true rfl⟩) (va_recv hK hP (ci := 2) (q0 := 0) rfl rfl) (w_l hP) (hK.sub [0, 1] rfl) (w_dl hD) hS rfl hl.1 rfl (lv_room (Nat.le_of_ble_eq_true rfl)) d_L_corrupt_4 ⟨Nat.zero_le _, Nat.zero_le _⟩ (fun H locs hP1 hkp _ hS => ?_)
  have hP := hP1.app (w_keep (w_r hP) hD hkp)
  have hD := w_addr hD (w_adL (ou := ou) (cL := cL) S S1 f f)
  refine lv_if_eq (tgt := 14) hx hb d_L_corrupt_7 (by decide) (fun hr0 => ?_) (fun hr0 => ?_)
  · refine lv_lconst (v := 0) hx hb d_L_corrupt_14 (by decide) ?_
    refine va_last (n := 1) (f := f) hx hb hK hP hD hS 13 2 rfl rfl (vp_in_nI (n := 0) (N := 1) (by decide) (by decide)) d_L_corrupt_15 (fun H locs hP hD hS => ?_)
    rw [w_setL] at hP hD
    have hP : va_P (dC, dI) cls (wC Z cI cP p0 q0 g0 h0 S1 ++ oL ou cL (vp_updL f 0 0)) H := hP
    have hP : va_P (dC, dI) cls (wC Z cI cP p0 q0 g0 h0 S1 ++ oL ou cL (vp_updL f 0 (if r = 0 then 0 else 1))) H := by rw [if_pos hr0]; exact hP
    refine lv_goto (tgt := 25) hx hb d_L_corrupt_16 (by decide) ?_
    refine lv_iconst (v := 0) hx hb d_L_corrupt_25 (by decide) ?_
    refine W.widen (k := 1) (n := 6) (Nat.zero_le _) (Nat.zero_le _) ?_
    exact wr_i hx hb hr hlk hP hS d_L_corrupt_26
  · refine lv_lconst (v := 1) hx hb d_L_corrupt_10 (by decide) ?_
    refine lv_goto (tgt := 15) hx hb d_L_corrupt_11 (by decide) ?_
    refine va_last (n := 1) (f := f) hx hb hK hP hD hS 13 2 rfl rfl (vp_in_nI (n := 0) (N := 1) (by decide) (by decide)) d_L_corrupt_15 (fun H locs hP hD hS => ?_)
    rw [w_setL] at hP hD
    have hP : va_P (dC, dI) cls (wC Z cI cP p0 q0 g0 h0 S1 ++ oL ou cL (vp_updL f 0 1)) H := hP
    have hP : va_P (dC, dI) cls (wC Z cI cP p0 q0 g0 h0 S1 ++ oL ou cL (vp_updL f 0 (if r = 0 then 0 else 1))) H := by rw [if_neg hr0]; exact hP
    refine lv_goto (tgt := 25) hx hb d_L_corrupt_16 (by decide) ?_
    refine lv_iconst (v := 0) hx hb d_L_corrupt_25 (by decide) ?_
    refine W.widen (k := 1) (n := 6) (Nat.zero_le _) (Nat.zero_le _) ?_
    exact wr_i hx hb hr hlk hP hS d_L_corrupt_26
set_option maxRecDepth 100000 in
set_option maxHeartbeats 4000000 in
/-- the law's call of accuse where it returns -/
theorem l_accuse_go (l : Launch) (dC : Nat → ClassId) (dI : Nat → Nat → Nat) (Z : Nat → Nat) (cI cP cL : ClassId) (p0 q0 g0 h0 ou : Nat) (S : Nat → Nat → Int32) (f : Nat → Int64) (a1 : Int32) (S1 : Nat → Nat → Int32) (r : Int32) (hM : Wr l y_C_accuse ws_C_accuse 2 42 [.ref (Z 0), .int a1] (dC, dI) cls (tysC cI cP) (wC Z cI cP p0 q0 g0 h0 S) (wC Z cI cP p0 q0 g0 h0 S1) (some (.int r))) : Wp l y_L_accuse ws_L_accuse [.ref (Z 0), .int a1, .ref ou] dC dI (wC Z cI cP p0 q0 g0 h0 S ++ oL ou cL f) (wC Z cI cP p0 q0 g0 h0 (S1) ++ oL ou cL (vp_updL f 0 (if r = 0 then 0 else 1))) (tysL cI cP cL) 0 := by
  refine va_MetW (hh := [(0, 16, 19, 19), (0, 16, 22, 13)]) (cc := b_L_accuse) (maxL := 4) (ret := (some .int)) (by decide) rfl ?_
  intro p e s m args below meth c s₁ B hml hv
  obtain ⟨rfl, ⟨hP, hK, hD0⟩, hxx, hnc⟩ := hv
  have hx := B.exec
  have hb := B.bytes
  have hr := B.returns
  have hts : ∀ w ∈ AL, w.before ([.ref (Z 0), .int a1, .ref ou] : List Value).toArray s = true := fun w h => atoms_spec (ws := ws_L_accuse) B.pre w (List.mem_cons_of_mem _ h)
  have hown : s.vm.findClass "DealtSecretLaw" = some m.cls := findClass_of_methodNamed B.named
  have hlk := B.notSynchronized
  have hl := lv_entry ([.ref (Z 0), .int a1, .ref ou]) (n := 4) (Nat.le_of_ble_eq_true rfl)
  rw [lg_entry_eq]
  generalize (lg_sl ([.ref (Z 0), .int a1, .ref ou]) ++ List.replicate (4 - (lg_sl ([.ref (Z 0), .int a1, .ref ou])).length) Slot.unset).toArray = ls at hl ⊢
  have hl : lv_has ls 4 [(0, .ref (Z 0)), (1, .int a1), (2, .ref ou)] := hl
  have hD := w_self hD0
  have hS : va_S (w_A (wC Z cI cP p0 q0 g0 h0 S ++ oL ou cL f)) s.heap s.heap [] := va_S.rf
  have htb : c.exceptionTable.toList = tableOf [(0, 16, 19, 19), (0, 16, 22, 13)] := vx_table (x := y_L_accuse) B (atoms_spec (ws := ws_L_accuse) B.pre _ List.mem_cons_self)
  refine lv_aload_n hx hb d_L_accuse_0 rfl (lv_at hl 2 rfl) ?_
  refine lv_iconst (v := 0) hx hb d_L_accuse_1 (by decide) ?_
  refine lv_aload_n hx hb d_L_accuse_2 rfl (lv_at hl 0 rfl) ?_
  refine lv_iload_n hx hb d_L_accuse_3 rfl (lv_at hl 1 rfl) ?_
  refine wr_V (As := [.int a1]) (rest := [.int 0, .ref ou]) (b := Z 0) (A := w_A (wC Z cI cP p0 q0 g0 h0 S ++ oL ou cL f)) ⟨hx, hb, hml, hown, hts⟩ hM (cwV 1 hts (al_V k_355 k_356 k_357 k_1 k_358) rfl rfl rfl (by decide +kernel) ⟨Nat.le_of_ble_eq_true rfl, Nat.le_of_ble_eq_true rfl⟩) (va_recv hK hP (ci := 2) (q0 := 0) rfl rfl) (w_l hP) (hK.sub [0, 1] rfl) (w_dl hD) hS rfl hl.1 rfl (lv_room (Nat.le_of_ble_eq_true rfl)) d_L_accuse_4 ⟨Nat.zero_le _, Nat.zero_le _⟩ (fun H locs hP1 hkp _ hS => ?_)
  have hP := hP1.app (w_keep (w_r hP) hD hkp)
  have hD := w_addr hD (w_adL (ou := ou) (cL := cL) S S1 f f)
  refine lv_if_eq (tgt := 14) hx hb d_L_accuse_7 (by decide) (fun hr0 => ?_) (fun hr0 => ?_)
  · refine lv_lconst (v := 0) hx hb d_L_accuse_14 (by decide) ?_
    refine va_last (n := 1) (f := f) hx hb hK hP hD hS 13 2 rfl rfl (vp_in_nI (n := 0) (N := 1) (by decide) (by decide)) d_L_accuse_15 (fun H locs hP hD hS => ?_)
    rw [w_setL] at hP hD
    have hP : va_P (dC, dI) cls (wC Z cI cP p0 q0 g0 h0 S1 ++ oL ou cL (vp_updL f 0 0)) H := hP
    have hP : va_P (dC, dI) cls (wC Z cI cP p0 q0 g0 h0 S1 ++ oL ou cL (vp_updL f 0 (if r = 0 then 0 else 1))) H := by rw [if_pos hr0]; exact hP
    refine lv_goto (tgt := 25) hx hb d_L_accuse_16 (by decide) ?_
    refine lv_iconst (v := 0) hx hb d_L_accuse_25 (by decide) ?_
    refine W.widen (k := 1) (n := 6) (Nat.zero_le _) (Nat.zero_le _) ?_
    exact wr_i hx hb hr hlk hP hS d_L_accuse_26
  · refine lv_lconst (v := 1) hx hb d_L_accuse_10 (by decide) ?_
    refine lv_goto (tgt := 15) hx hb d_L_accuse_11 (by decide) ?_
    refine va_last (n := 1) (f := f) hx hb hK hP hD hS 13 2 rfl rfl (vp_in_nI (n := 0) (N := 1) (by decide) (by decide)) d_L_accuse_15 (fun H locs hP hD hS => ?_)
    rw [w_setL] at hP hD
    have hP : va_P (dC, dI) cls (wC Z cI cP p0 q0 g0 h0 S1 ++ oL ou cL (vp_updL f 0 1)) H := hP
    have hP : va_P (dC, dI) cls (wC Z cI cP p0 q0 g0 h0 S1 ++ oL ou cL (vp_updL f 0 (if r = 0 then 0 else 1))) H := by rw [if_neg hr0]; exact hP
    refine lv_goto (tgt := 25) hx hb d_L_accuse_16 (by decide) ?_
    refine lv_iconst (v := 0) hx hb d_L_accuse_25 (by decide) ?_
    refine W.widen (k := 1) (n := 6) (Nat.zero_le _) (Nat.zero_le _) ?_
    exact wr_i hx hb hr hlk hP hS d_L_accuse_26
set_option maxRecDepth 100000 in
set_option maxHeartbeats 4000000 in
/-- the law's call of answer where it returns -/
theorem l_answer_go (l : Launch) (dC : Nat → ClassId) (dI : Nat → Nat → Nat) (Z : Nat → Nat) (cI cP cL : ClassId) (p0 q0 g0 h0 ou : Nat) (S : Nat → Nat → Int32) (f : Nat → Int64) (a1 a2 a3 : Int32) (S1 : Nat → Nat → Int32) (r : Int32) (hM : Wr l y_C_answer ws_C_answer 5 116 [.ref (Z 0), .int a1, .int a2, .int a3] (dC, dI) cls (tysC cI cP) (wC Z cI cP p0 q0 g0 h0 S) (wC Z cI cP p0 q0 g0 h0 S1) (some (.int r))) : Wp l y_L_answer ws_L_answer [.ref (Z 0), .int a1, .int a2, .int a3, .ref ou] dC dI (wC Z cI cP p0 q0 g0 h0 S ++ oL ou cL f) (wC Z cI cP p0 q0 g0 h0 (S1) ++ oL ou cL (vp_updL f 0 (if r = 0 then 0 else 1))) (tysL cI cP cL) 0 := by
  refine va_MetW (hh := [(0, 19, 22, 19), (0, 19, 26, 13), (0, 19, 30, 43)]) (cc := b_L_answer) (maxL := 6) (ret := (some .int)) (by decide) rfl ?_
  intro p e s m args below meth c s₁ B hml hv
  obtain ⟨rfl, ⟨hP, hK, hD0⟩, hxx, hnc⟩ := hv
  have hx := B.exec
  have hb := B.bytes
  have hr := B.returns
  have hts : ∀ w ∈ AL, w.before ([.ref (Z 0), .int a1, .int a2, .int a3, .ref ou] : List Value).toArray s = true := fun w h => atoms_spec (ws := ws_L_answer) B.pre w (List.mem_cons_of_mem _ h)
  have hown : s.vm.findClass "DealtSecretLaw" = some m.cls := findClass_of_methodNamed B.named
  have hlk := B.notSynchronized
  have hl := lv_entry ([.ref (Z 0), .int a1, .int a2, .int a3, .ref ou]) (n := 6) (Nat.le_of_ble_eq_true rfl)
  rw [lg_entry_eq]
  generalize (lg_sl ([.ref (Z 0), .int a1, .int a2, .int a3, .ref ou]) ++ List.replicate (6 - (lg_sl ([.ref (Z 0), .int a1, .int a2, .int a3, .ref ou])).length) Slot.unset).toArray = ls at hl ⊢
  have hl : lv_has ls 6 [(0, .ref (Z 0)), (1, .int a1), (2, .int a2), (3, .int a3), (4, .ref ou)] := hl
  have hD := w_self hD0
  have hS : va_S (w_A (wC Z cI cP p0 q0 g0 h0 S ++ oL ou cL f)) s.heap s.heap [] := va_S.rf
  have htb : c.exceptionTable.toList = tableOf [(0, 19, 22, 19), (0, 19, 26, 13), (0, 19, 30, 43)] := vx_table (x := y_L_answer) B (atoms_spec (ws := ws_L_answer) B.pre _ List.mem_cons_self)
  refine lv_aload hx hb d_L_answer_0 (lv_at hl 4 rfl) ?_
  refine lv_iconst (v := 0) hx hb d_L_answer_2 (by decide) ?_
  refine lv_aload_n hx hb d_L_answer_3 rfl (lv_at hl 0 rfl) ?_
  refine lv_iload_n hx hb d_L_answer_4 rfl (lv_at hl 1 rfl) ?_
  refine lv_iload_n hx hb d_L_answer_5 rfl (lv_at hl 2 rfl) ?_
  refine lv_iload_n hx hb d_L_answer_6 rfl (lv_at hl 3 rfl) ?_
  refine wr_V (As := [.int a1, .int a2, .int a3]) (rest := [.int 0, .ref ou]) (b := Z 0) (A := w_A (wC Z cI cP p0 q0 g0 h0 S ++ oL ou cL f)) ⟨hx, hb, hml, hown, hts⟩ hM (cwV 3 hts (al_V k_362 k_363 k_364 k_1 k_365) rfl rfl rfl (by decide +kernel) ⟨Nat.le_of_ble_eq_true rfl, Nat.le_of_ble_eq_true rfl⟩) (va_recv hK hP (ci := 2) (q0 := 0) rfl rfl) (w_l hP) (hK.sub [0, 1] rfl) (w_dl hD) hS rfl hl.1 rfl (lv_room (Nat.le_of_ble_eq_true rfl)) d_L_answer_7 ⟨Nat.zero_le _, Nat.zero_le _⟩ (fun H locs hP1 hkp _ hS => ?_)
  have hP := hP1.app (w_keep (w_r hP) hD hkp)
  have hD := w_addr hD (w_adL (ou := ou) (cL := cL) S S1 f f)
  refine lv_if_eq (tgt := 17) hx hb d_L_answer_10 (by decide) (fun hr0 => ?_) (fun hr0 => ?_)
  · refine lv_lconst (v := 0) hx hb d_L_answer_17 (by decide) ?_
    refine va_last (n := 1) (f := f) hx hb hK hP hD hS 13 2 rfl rfl (vp_in_nI (n := 0) (N := 1) (by decide) (by decide)) d_L_answer_18 (fun H locs hP hD hS => ?_)
    rw [w_setL] at hP hD
    have hP : va_P (dC, dI) cls (wC Z cI cP p0 q0 g0 h0 S1 ++ oL ou cL (vp_updL f 0 0)) H := hP
    have hP : va_P (dC, dI) cls (wC Z cI cP p0 q0 g0 h0 S1 ++ oL ou cL (vp_updL f 0 (if r = 0 then 0 else 1))) H := by rw [if_pos hr0]; exact hP
    refine lv_goto (tgt := 34) hx hb d_L_answer_19 (by decide) ?_
    refine lv_iconst (v := 0) hx hb d_L_answer_34 (by decide) ?_
    refine W.widen (k := 1) (n := 6) (Nat.zero_le _) (Nat.zero_le _) ?_
    exact wr_i hx hb hr hlk hP hS d_L_answer_35
  · refine lv_lconst (v := 1) hx hb d_L_answer_13 (by decide) ?_
    refine lv_goto (tgt := 18) hx hb d_L_answer_14 (by decide) ?_
    refine va_last (n := 1) (f := f) hx hb hK hP hD hS 13 2 rfl rfl (vp_in_nI (n := 0) (N := 1) (by decide) (by decide)) d_L_answer_18 (fun H locs hP hD hS => ?_)
    rw [w_setL] at hP hD
    have hP : va_P (dC, dI) cls (wC Z cI cP p0 q0 g0 h0 S1 ++ oL ou cL (vp_updL f 0 1)) H := hP
    have hP : va_P (dC, dI) cls (wC Z cI cP p0 q0 g0 h0 S1 ++ oL ou cL (vp_updL f 0 (if r = 0 then 0 else 1))) H := by rw [if_neg hr0]; exact hP
    refine lv_goto (tgt := 34) hx hb d_L_answer_19 (by decide) ?_
    refine lv_iconst (v := 0) hx hb d_L_answer_34 (by decide) ?_
    refine W.widen (k := 1) (n := 6) (Nat.zero_le _) (Nat.zero_le _) ?_
    exact wr_i hx hb hr hlk hP hS d_L_answer_35
set_option maxRecDepth 100000 in
set_option maxHeartbeats 4000000 in
/-- the law's call of opening where it returns -/
theorem l_open_go (l : Launch) (dC : Nat → ClassId) (dI : Nat → Nat → Nat) (Z : Nat → Nat) (cI cP cL : ClassId) (p0 q0 g0 h0 ou : Nat) (S : Nat → Nat → Int32) (f : Nat → Int64) (a1 : Int32) (S1 : Nat → Nat → Int32) (r : Int32) (hM : Wr l y_C_open ws_C_open 5 118 [.ref (Z 0), .int a1] (dC, dI) cls (tysC cI cP) (wC Z cI cP p0 q0 g0 h0 S) (wC Z cI cP p0 q0 g0 h0 S1) (some (.int r))) : Wp l y_L_open ws_L_open [.ref (Z 0), .int a1, .ref ou] dC dI (wC Z cI cP p0 q0 g0 h0 S ++ oL ou cL f) (wC Z cI cP p0 q0 g0 h0 (S1) ++ oL ou cL (vp_updL f 0 (if r = 0 then 0 else 1))) (tysL cI cP cL) 0 := by
  refine va_MetW (hh := [(0, 16, 19, 19), (0, 16, 22, 13)]) (cc := b_L_open) (maxL := 4) (ret := (some .int)) (by decide) rfl ?_
  intro p e s m args below meth c s₁ B hml hv
  obtain ⟨rfl, ⟨hP, hK, hD0⟩, hxx, hnc⟩ := hv
  have hx := B.exec
  have hb := B.bytes
  have hr := B.returns
  have hts : ∀ w ∈ AL, w.before ([.ref (Z 0), .int a1, .ref ou] : List Value).toArray s = true := fun w h => atoms_spec (ws := ws_L_open) B.pre w (List.mem_cons_of_mem _ h)
  have hown : s.vm.findClass "DealtSecretLaw" = some m.cls := findClass_of_methodNamed B.named
  have hlk := B.notSynchronized
  have hl := lv_entry ([.ref (Z 0), .int a1, .ref ou]) (n := 4) (Nat.le_of_ble_eq_true rfl)
  rw [lg_entry_eq]
  generalize (lg_sl ([.ref (Z 0), .int a1, .ref ou]) ++ List.replicate (4 - (lg_sl ([.ref (Z 0), .int a1, .ref ou])).length) Slot.unset).toArray = ls at hl ⊢
  have hl : lv_has ls 4 [(0, .ref (Z 0)), (1, .int a1), (2, .ref ou)] := hl
  have hD := w_self hD0
  have hS : va_S (w_A (wC Z cI cP p0 q0 g0 h0 S ++ oL ou cL f)) s.heap s.heap [] := va_S.rf
  have htb : c.exceptionTable.toList = tableOf [(0, 16, 19, 19), (0, 16, 22, 13)] := vx_table (x := y_L_open) B (atoms_spec (ws := ws_L_open) B.pre _ List.mem_cons_self)
  refine lv_aload_n hx hb d_L_open_0 rfl (lv_at hl 2 rfl) ?_
  refine lv_iconst (v := 0) hx hb d_L_open_1 (by decide) ?_
  refine lv_aload_n hx hb d_L_open_2 rfl (lv_at hl 0 rfl) ?_
  refine lv_iload_n hx hb d_L_open_3 rfl (lv_at hl 1 rfl) ?_
  refine wr_V (As := [.int a1]) (rest := [.int 0, .ref ou]) (b := Z 0) (A := w_A (wC Z cI cP p0 q0 g0 h0 S ++ oL ou cL f)) ⟨hx, hb, hml, hown, hts⟩ hM (cwV 1 hts (al_V k_381 k_382 k_383 k_1 k_384) rfl rfl rfl (by decide +kernel) ⟨Nat.le_of_ble_eq_true rfl, Nat.le_of_ble_eq_true rfl⟩) (va_recv hK hP (ci := 2) (q0 := 0) rfl rfl) (w_l hP) (hK.sub [0, 1] rfl) (w_dl hD) hS rfl hl.1 rfl (lv_room (Nat.le_of_ble_eq_true rfl)) d_L_open_4 ⟨Nat.zero_le _, Nat.zero_le _⟩ (fun H locs hP1 hkp _ hS => ?_)
  have hP := hP1.app (w_keep (w_r hP) hD hkp)
  have hD := w_addr hD (w_adL (ou := ou) (cL := cL) S S1 f f)
  refine lv_if_eq (tgt := 14) hx hb d_L_open_7 (by decide) (fun hr0 => ?_) (fun hr0 => ?_)
  · refine lv_lconst (v := 0) hx hb d_L_open_14 (by decide) ?_
    refine va_last (n := 1) (f := f) hx hb hK hP hD hS 13 2 rfl rfl (vp_in_nI (n := 0) (N := 1) (by decide) (by decide)) d_L_open_15 (fun H locs hP hD hS => ?_)
    rw [w_setL] at hP hD
    have hP : va_P (dC, dI) cls (wC Z cI cP p0 q0 g0 h0 S1 ++ oL ou cL (vp_updL f 0 0)) H := hP
    have hP : va_P (dC, dI) cls (wC Z cI cP p0 q0 g0 h0 S1 ++ oL ou cL (vp_updL f 0 (if r = 0 then 0 else 1))) H := by rw [if_pos hr0]; exact hP
    refine lv_goto (tgt := 25) hx hb d_L_open_16 (by decide) ?_
    refine lv_iconst (v := 0) hx hb d_L_open_25 (by decide) ?_
    refine W.widen (k := 1) (n := 6) (Nat.zero_le _) (Nat.zero_le _) ?_
    exact wr_i hx hb hr hlk hP hS d_L_open_26
  · refine lv_lconst (v := 1) hx hb d_L_open_10 (by decide) ?_
    refine lv_goto (tgt := 15) hx hb d_L_open_11 (by decide) ?_
    refine va_last (n := 1) (f := f) hx hb hK hP hD hS 13 2 rfl rfl (vp_in_nI (n := 0) (N := 1) (by decide) (by decide)) d_L_open_15 (fun H locs hP hD hS => ?_)
    rw [w_setL] at hP hD
    have hP : va_P (dC, dI) cls (wC Z cI cP p0 q0 g0 h0 S1 ++ oL ou cL (vp_updL f 0 1)) H := hP
    have hP : va_P (dC, dI) cls (wC Z cI cP p0 q0 g0 h0 S1 ++ oL ou cL (vp_updL f 0 (if r = 0 then 0 else 1))) H := by rw [if_neg hr0]; exact hP
    refine lv_goto (tgt := 25) hx hb d_L_open_16 (by decide) ?_
    refine lv_iconst (v := 0) hx hb d_L_open_25 (by decide) ?_
    refine W.widen (k := 1) (n := 6) (Nat.zero_le _) (Nat.zero_le _) ?_
    exact wr_i hx hb hr hlk hP hS d_L_open_26
set_option maxRecDepth 100000 in
set_option maxHeartbeats 4000000 in
/-- the law's call of show where it returns -/
theorem l_show_go (l : Launch) (dC : Nat → ClassId) (dI : Nat → Nat → Nat) (Z : Nat → Nat) (cI cP cL : ClassId) (p0 q0 g0 h0 ou : Nat) (S : Nat → Nat → Int32) (f : Nat → Int64) (a1 a2 a3 : Int32) (S1 : Nat → Nat → Int32) (r : Int32) (hM : Wr l y_C_show ws_C_show 5 118 [.ref (Z 0), .int a1, .int a2, .int a3] (dC, dI) cls (tysC cI cP) (wC Z cI cP p0 q0 g0 h0 S) (wC Z cI cP p0 q0 g0 h0 S1) (some (.int r))) : Wp l y_L_show ws_L_show [.ref (Z 0), .int a1, .int a2, .int a3, .ref ou] dC dI (wC Z cI cP p0 q0 g0 h0 S ++ oL ou cL f) (wC Z cI cP p0 q0 g0 h0 (S1) ++ oL ou cL (vp_updL f 0 (if r = 0 then 0 else 1))) (tysL cI cP cL) 0 := by
  refine va_MetW (hh := [(0, 19, 22, 19), (0, 19, 26, 13)]) (cc := b_L_show) (maxL := 6) (ret := (some .int)) (by decide) rfl ?_
  intro p e s m args below meth c s₁ B hml hv
  obtain ⟨rfl, ⟨hP, hK, hD0⟩, hxx, hnc⟩ := hv
  have hx := B.exec
  have hb := B.bytes
  have hr := B.returns
  have hts : ∀ w ∈ AL, w.before ([.ref (Z 0), .int a1, .int a2, .int a3, .ref ou] : List Value).toArray s = true := fun w h => atoms_spec (ws := ws_L_show) B.pre w (List.mem_cons_of_mem _ h)
  have hown : s.vm.findClass "DealtSecretLaw" = some m.cls := findClass_of_methodNamed B.named
  have hlk := B.notSynchronized
  have hl := lv_entry ([.ref (Z 0), .int a1, .int a2, .int a3, .ref ou]) (n := 6) (Nat.le_of_ble_eq_true rfl)
  rw [lg_entry_eq]
  generalize (lg_sl ([.ref (Z 0), .int a1, .int a2, .int a3, .ref ou]) ++ List.replicate (6 - (lg_sl ([.ref (Z 0), .int a1, .int a2, .int a3, .ref ou])).length) Slot.unset).toArray = ls at hl ⊢
  have hl : lv_has ls 6 [(0, .ref (Z 0)), (1, .int a1), (2, .int a2), (3, .int a3), (4, .ref ou)] := hl
  have hD := w_self hD0
  have hS : va_S (w_A (wC Z cI cP p0 q0 g0 h0 S ++ oL ou cL f)) s.heap s.heap [] := va_S.rf
  have htb : c.exceptionTable.toList = tableOf [(0, 19, 22, 19), (0, 19, 26, 13)] := vx_table (x := y_L_show) B (atoms_spec (ws := ws_L_show) B.pre _ List.mem_cons_self)
  refine lv_aload hx hb d_L_show_0 (lv_at hl 4 rfl) ?_
  refine lv_iconst (v := 0) hx hb d_L_show_2 (by decide) ?_
  refine lv_aload_n hx hb d_L_show_3 rfl (lv_at hl 0 rfl) ?_
  refine lv_iload_n hx hb d_L_show_4 rfl (lv_at hl 1 rfl) ?_
  refine lv_iload_n hx hb d_L_show_5 rfl (lv_at hl 2 rfl) ?_
  refine lv_iload_n hx hb d_L_show_6 rfl (lv_at hl 3 rfl) ?_
  refine wr_V (As := [.int a1, .int a2, .int a3]) (rest := [.int 0, .ref ou]) (b := Z 0) (A := w_A (wC Z cI cP p0 q0 g0 h0 S ++ oL ou cL f)) ⟨hx, hb, hml, hown, hts⟩ hM (cwV 3 hts (al_V k_404 k_405 k_406 k_1 k_407) rfl rfl rfl (by decide +kernel) ⟨Nat.le_of_ble_eq_true rfl, Nat.le_of_ble_eq_true rfl⟩) (va_recv hK hP (ci := 2) (q0 := 0) rfl rfl) (w_l hP) (hK.sub [0, 1] rfl) (w_dl hD) hS rfl hl.1 rfl (lv_room (Nat.le_of_ble_eq_true rfl)) d_L_show_7 ⟨Nat.zero_le _, Nat.zero_le _⟩ (fun H locs hP1 hkp _ hS => ?_)
  have hP := hP1.app (w_keep (w_r hP) hD hkp)
  have hD := w_addr hD (w_adL (ou := ou) (cL := cL) S S1 f f)
  refine lv_if_eq (tgt := 17) hx hb d_L_show_10 (by decide) (fun hr0 => ?_) (fun hr0 => ?_)
  · refine lv_lconst (v := 0) hx hb d_L_show_17 (by decide) ?_
    refine va_last (n := 1) (f := f) hx hb hK hP hD hS 13 2 rfl rfl (vp_in_nI (n := 0) (N := 1) (by decide) (by decide)) d_L_show_18 (fun H locs hP hD hS => ?_)
    rw [w_setL] at hP hD
    have hP : va_P (dC, dI) cls (wC Z cI cP p0 q0 g0 h0 S1 ++ oL ou cL (vp_updL f 0 0)) H := hP
    have hP : va_P (dC, dI) cls (wC Z cI cP p0 q0 g0 h0 S1 ++ oL ou cL (vp_updL f 0 (if r = 0 then 0 else 1))) H := by rw [if_pos hr0]; exact hP
    refine lv_goto (tgt := 30) hx hb d_L_show_19 (by decide) ?_
    refine lv_iconst (v := 0) hx hb d_L_show_30 (by decide) ?_
    refine W.widen (k := 1) (n := 6) (Nat.zero_le _) (Nat.zero_le _) ?_
    exact wr_i hx hb hr hlk hP hS d_L_show_31
  · refine lv_lconst (v := 1) hx hb d_L_show_13 (by decide) ?_
    refine lv_goto (tgt := 18) hx hb d_L_show_14 (by decide) ?_
    refine va_last (n := 1) (f := f) hx hb hK hP hD hS 13 2 rfl rfl (vp_in_nI (n := 0) (N := 1) (by decide) (by decide)) d_L_show_18 (fun H locs hP hD hS => ?_)
    rw [w_setL] at hP hD
    have hP : va_P (dC, dI) cls (wC Z cI cP p0 q0 g0 h0 S1 ++ oL ou cL (vp_updL f 0 1)) H := hP
    have hP : va_P (dC, dI) cls (wC Z cI cP p0 q0 g0 h0 S1 ++ oL ou cL (vp_updL f 0 (if r = 0 then 0 else 1))) H := by rw [if_neg hr0]; exact hP
    refine lv_goto (tgt := 30) hx hb d_L_show_19 (by decide) ?_
    refine lv_iconst (v := 0) hx hb d_L_show_30 (by decide) ?_
    refine W.widen (k := 1) (n := 6) (Nat.zero_le _) (Nat.zero_le _) ?_
    exact wr_i hx hb hr hlk hP hS d_L_show_31
set_option maxRecDepth 100000 in
set_option maxHeartbeats 4000000 in
/-- the law's call of secret where it returns -/
theorem l_secret_go (l : Launch) (dC : Nat → ClassId) (dI : Nat → Nat → Nat) (Z : Nat → Nat) (cI cP cL : ClassId) (p0 q0 g0 h0 ou : Nat) (S : Nat → Nat → Int32) (f : Nat → Int64) (r : Int32) (hM : Ro l y_C_secret ws_C_secret 4 90 [.ref (Z 0)] (bC dC dI Z cI cP p0 q0 g0 h0 S) r) : Wp l y_L_secret ws_L_secret [.ref (Z 0), .ref ou] dC dI (wC Z cI cP p0 q0 g0 h0 S ++ oL ou cL f) (wC Z cI cP p0 q0 g0 h0 (S) ++ oL ou cL (vp_updL f 0 r.toInt64)) (tysL cI cP cL) 0 := by
  refine va_MetW (hh := [(0, 8, 11, 19), (0, 8, 14, 43)]) (cc := b_L_secret) (maxL := 3) (ret := (some .int)) (by decide) rfl ?_
  intro p e s m args below meth c s₁ B hml hv
  obtain ⟨rfl, ⟨hP, hK, hD0⟩, hxx, hnc⟩ := hv
  have hx := B.exec
  have hb := B.bytes
  have hr := B.returns
  have hts : ∀ w ∈ AL, w.before ([.ref (Z 0), .ref ou] : List Value).toArray s = true := fun w h => atoms_spec (ws := ws_L_secret) B.pre w (List.mem_cons_of_mem _ h)
  have hown : s.vm.findClass "DealtSecretLaw" = some m.cls := findClass_of_methodNamed B.named
  have hlk := B.notSynchronized
  have hl := lv_entry ([.ref (Z 0), .ref ou]) (n := 3) (Nat.le_of_ble_eq_true rfl)
  rw [lg_entry_eq]
  generalize (lg_sl ([.ref (Z 0), .ref ou]) ++ List.replicate (3 - (lg_sl ([.ref (Z 0), .ref ou])).length) Slot.unset).toArray = ls at hl ⊢
  have hl : lv_has ls 3 [(0, .ref (Z 0)), (1, .ref ou)] := hl
  have hD := w_self hD0
  have hS : va_S (w_A (wC Z cI cP p0 q0 g0 h0 S ++ oL ou cL f)) s.heap s.heap [] := va_S.rf
  have htb : c.exceptionTable.toList = tableOf [(0, 8, 11, 19), (0, 8, 14, 43)] := vx_table (x := y_L_secret) B (atoms_spec (ws := ws_L_secret) B.pre _ List.mem_cons_self)
  refine lv_aload_n hx hb d_L_secret_0 rfl (lv_at hl 1 rfl) ?_
  refine lv_iconst (v := 0) hx hb d_L_secret_1 (by decide) ?_
  refine lv_aload_n hx hb d_L_secret_2 rfl (lv_at hl 0 rfl) ?_
  refine ro_V (As := []) (rest := [.int 0, .ref ou]) (b := Z 0) ⟨hx, hb, hml, hown, hts⟩ hM (cwV 0 hts (al_V k_410 k_411 k_412 k_1 k_413) rfl rfl rfl (by decide +kernel) ⟨Nat.le_of_ble_eq_true rfl, Nat.le_of_ble_eq_true rfl⟩) (fun U g mk a h => ⟨h.1, va_K.moved (u := U) (U := U.calling g mk a) (Vm.Alike.refl U.vm) h.2⟩) (va_recv hK hP (ci := 2) (q0 := 0) rfl rfl) (fun U hU hW => ⟨by rw [hU]; exact w_l hP, va_K.moved hW.alike (hK.sub [0, 1] rfl)⟩) rfl hl.1 rfl (lv_room (Nat.le_of_ble_eq_true rfl)) d_L_secret_3 ⟨Nat.zero_le _, Nat.zero_le _⟩ ?_
  refine lv_i2l (v := r.toInt64) hx hb d_L_secret_6 (rfl) ?_
  refine va_last (n := 1) (f := f) hx hb hK hP hD hS 13 2 rfl rfl (vp_in_nI (n := 0) (N := 1) (by decide) (by decide)) d_L_secret_7 (fun H locs hP hD hS => ?_)
  rw [w_setL] at hP hD
  have hP : va_P (dC, dI) cls (wC Z cI cP p0 q0 g0 h0 S ++ oL ou cL (vp_updL f 0 r.toInt64)) H := hP
  refine lv_goto (tgt := 17) hx hb d_L_secret_8 (by decide) ?_
  refine lv_iconst (v := 0) hx hb d_L_secret_17 (by decide) ?_
  refine W.widen (k := 1) (n := 6) (Nat.zero_le _) (Nat.zero_le _) ?_
  exact wr_i hx hb hr hlk hP hS d_L_secret_18
set_option maxRecDepth 100000 in
set_option maxHeartbeats 4000000 in
/-- the law's call of relation where it returns -/
theorem l_relation_go (l : Launch) (dC : Nat → ClassId) (dI : Nat → Nat → Nat) (Z : Nat → Nat) (cI cP cL : ClassId) (p0 q0 g0 h0 ou : Nat) (S : Nat → Nat → Int32) (f : Nat → Int64) (r : Int32) (hM : Ro l y_C_relation ws_C_relation 1 21 [.ref (Z 0)] (bC dC dI Z cI cP p0 q0 g0 h0 S) r) : Wp l y_L_relation ws_L_relation [.ref (Z 0), .ref ou] dC dI (wC Z cI cP p0 q0 g0 h0 S ++ oL ou cL f) (wC Z cI cP p0 q0 g0 h0 (S) ++ oL ou cL (vp_updL f 0 r.toInt64)) (tysL cI cP cL) 0 := by
  refine va_MetW (hh := [(0, 8, 11, 19), (0, 8, 14, 43)]) (cc := b_L_relation) (maxL := 3) (ret := (some .int)) (by decide) rfl ?_
  intro p e s m args below meth c s₁ B hml hv
  obtain ⟨rfl, ⟨hP, hK, hD0⟩, hxx, hnc⟩ := hv
  have hx := B.exec
  have hb := B.bytes
  have hr := B.returns
  have hts : ∀ w ∈ AL, w.before ([.ref (Z 0), .ref ou] : List Value).toArray s = true := fun w h => atoms_spec (ws := ws_L_relation) B.pre w (List.mem_cons_of_mem _ h)
  have hown : s.vm.findClass "DealtSecretLaw" = some m.cls := findClass_of_methodNamed B.named
  have hlk := B.notSynchronized
  have hl := lv_entry ([.ref (Z 0), .ref ou]) (n := 3) (Nat.le_of_ble_eq_true rfl)
  rw [lg_entry_eq]
  generalize (lg_sl ([.ref (Z 0), .ref ou]) ++ List.replicate (3 - (lg_sl ([.ref (Z 0), .ref ou])).length) Slot.unset).toArray = ls at hl ⊢
  have hl : lv_has ls 3 [(0, .ref (Z 0)), (1, .ref ou)] := hl
  have hD := w_self hD0
  have hS : va_S (w_A (wC Z cI cP p0 q0 g0 h0 S ++ oL ou cL f)) s.heap s.heap [] := va_S.rf
  have htb : c.exceptionTable.toList = tableOf [(0, 8, 11, 19), (0, 8, 14, 43)] := vx_table (x := y_L_relation) B (atoms_spec (ws := ws_L_relation) B.pre _ List.mem_cons_self)
  refine lv_aload_n hx hb d_L_relation_0 rfl (lv_at hl 1 rfl) ?_
  refine lv_iconst (v := 0) hx hb d_L_relation_1 (by decide) ?_
  refine lv_aload_n hx hb d_L_relation_2 rfl (lv_at hl 0 rfl) ?_
  refine ro_V (As := []) (rest := [.int 0, .ref ou]) (b := Z 0) ⟨hx, hb, hml, hown, hts⟩ hM (cwV 0 hts (al_V k_423 k_424 k_425 k_1 k_426) rfl rfl rfl (by decide +kernel) ⟨Nat.le_of_ble_eq_true rfl, Nat.le_of_ble_eq_true rfl⟩) (fun U g mk a h => ⟨h.1, va_K.moved (u := U) (U := U.calling g mk a) (Vm.Alike.refl U.vm) h.2⟩) (va_recv hK hP (ci := 2) (q0 := 0) rfl rfl) (fun U hU hW => ⟨by rw [hU]; exact w_l hP, va_K.moved hW.alike (hK.sub [0, 1] rfl)⟩) rfl hl.1 rfl (lv_room (Nat.le_of_ble_eq_true rfl)) d_L_relation_3 ⟨Nat.zero_le _, Nat.zero_le _⟩ ?_
  refine lv_i2l (v := r.toInt64) hx hb d_L_relation_6 (rfl) ?_
  refine va_last (n := 1) (f := f) hx hb hK hP hD hS 13 2 rfl rfl (vp_in_nI (n := 0) (N := 1) (by decide) (by decide)) d_L_relation_7 (fun H locs hP hD hS => ?_)
  rw [w_setL] at hP hD
  have hP : va_P (dC, dI) cls (wC Z cI cP p0 q0 g0 h0 S ++ oL ou cL (vp_updL f 0 r.toInt64)) H := hP
  refine lv_goto (tgt := 17) hx hb d_L_relation_8 (by decide) ?_
  refine lv_iconst (v := 0) hx hb d_L_relation_17 (by decide) ?_
  refine W.widen (k := 1) (n := 6) (Nat.zero_le _) (Nat.zero_le _) ?_
  exact wr_i hx hb hr hlk hP hS d_L_relation_18
