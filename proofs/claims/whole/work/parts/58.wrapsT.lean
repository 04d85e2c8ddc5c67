set_option maxRecDepth 100000 in
set_option maxHeartbeats 4000000 in
/-- the law's call of begin where it throws -/
theorem l_begin_IAE (l : Launch) (dC : Nat → ClassId) (dI : Nat → Nat → Nat) (Z : Nat → Nat) (cI cP cL : ClassId) (p0 q0 g0 h0 ou : Nat) (S : Nat → Nat → Int32) (f : Nat → Int64) (a1 a2 a3 : Int32) (hM : Tc l y_C_begin ws_C_begin 6 82 [.ref (Z 0), .int a1, .int a2, .int a3] (bX dC dI Z cI cP p0 q0 g0 h0 S) "java/lang/IllegalArgumentException") : Wp l y_L_begin ws_L_begin [.ref (Z 0), .int a1, .int a2, .int a3] dC dI (wC Z cI cP p0 q0 g0 h0 S ++ oL ou cL f) (wC Z cI cP p0 q0 g0 h0 (S) ++ oL ou cL (f)) (tysL cI cP cL) 1 := by
  refine va_MetW (hh := [(0, 7, 10, 13)]) (cc := b_L_begin) (maxL := 5) (ret := (some .int)) (by decide) rfl ?_
  intro p e s m args below meth c s₁ B hml hv
  obtain ⟨rfl, ⟨hP, hK, hD0⟩, hxx, hnc⟩ := hv
  have hx := B.exec
  have hb := B.bytes
  have hr := B.returns
  have hts : ∀ w ∈ AL, w.before ([.ref (Z 0), .int a1, .int a2, .int a3] : List Value).toArray s = true := fun w h => atoms_spec (ws := ws_L_begin) B.pre w (List.mem_cons_of_mem _ h)
  have hown : s.vm.findClass "DealtSecretLaw" = some m.cls := findClass_of_methodNamed B.named
  have hlk := B.notSynchronized
  have hl := lv_entry ([.ref (Z 0), .int a1, .int a2, .int a3]) (n := 5) (Nat.le_of_ble_eq_true rfl)
  rw [lg_entry_eq]
  generalize (lg_sl ([.ref (Z 0), .int a1, .int a2, .int a3]) ++ List.replicate (5 - (lg_sl ([.ref (Z 0), .int a1, .int a2, .int a3])).length) Slot.unset).toArray = ls at hl ⊢
  have hl : lv_has ls 5 [(0, .ref (Z 0)), (1, .int a1), (2, .int a2), (3, .int a3)] := hl
  have hD := w_self hD0
  have hS : va_S (w_A (wC Z cI cP p0 q0 g0 h0 S ++ oL ou cL f)) s.heap s.heap [] := va_S.rf
  have htb : c.exceptionTable.toList = tableOf [(0, 7, 10, 13)] := vx_table (x := y_L_begin) B (atoms_spec (ws := ws_L_begin) B.pre _ List.mem_cons_self)
  refine lv_aload_n hx hb d_L_begin_0 rfl (lv_at hl 0 rfl) ?_
  refine lv_iload_n hx hb d_L_begin_1 rfl (lv_at hl 1 rfl) ?_
  refine lv_iload_n hx hb d_L_begin_2 rfl (lv_at hl 2 rfl) ?_
  refine lv_iload_n hx hb d_L_begin_3 rfl (lv_at hl 3 rfl) ?_
  refine tx_catchV (As := [.int a1, .int a2, .int a3]) (rest := []) (b := Z 0) (name := "java/lang/IllegalArgumentException") ⟨hx, hb, hml, hown, hts⟩ hM (cwV 3 hts (al_V k_200 k_201 k_202 k_1 k_203) rfl rfl rfl (by decide +kernel) ⟨Nat.le_of_ble_eq_true rfl, Nat.le_of_ble_eq_true rfl⟩) (fun U g mk a h => ⟨⟨h.1.1, va_K.moved (u := U) (U := U.calling g mk a) (Vm.Alike.refl U.vm) h.1.2⟩, xx_bl g mk a h.2⟩) (va_recv hK hP (ci := 2) (q0 := 0) rfl rfl) (fun U hU hW => ⟨⟨by rw [hU]; exact w_l hP, va_K.moved hW.alike (hK.sub [0, 1] rfl)⟩, xx_to hW (fun a _ => by rw [hU]) hxx⟩) rfl hl.1 rfl (lv_room (Nat.le_of_ble_eq_true rfl)) d_L_begin_4 ⟨Nat.le_of_ble_eq_true rfl, Nat.le_of_ble_eq_true rfl⟩ [] ⟨0, 7, 10, 13⟩ [] htb (fun z hz => nomatch hz) (by decide) (by decide) (hts _ k_199) (va_Nw.use rfl (hxx.1.1 "java/lang/IllegalArgumentException" (by simp))) (fun q9 H hz9 hk9 => ?_)
  have hP := hP.kept (fun k q hq => hk9 q.1 (hP k q hq).lt)
  have hS : va_S (w_A (wC Z cI cP p0 q0 g0 h0 S ++ oL ou cL f)) s.heap H [] := ⟨hz9, fun q h1 _ => hk9 q h1, fun z hz => nomatch hz⟩
  refine lv_astore (lv' := [(4, .ref q9), (0, .ref (Z 0)), (1, .int a1), (2, .int a2), (3, .int a3)]) hx hb d_L_begin_10 hl (by decide) rfl (fun ls hl => ?_)
  refine lv_iconst (v := 1) hx hb d_L_begin_12 (by decide) ?_
  exact wr_i hx hb hr hlk hP hS d_L_begin_13
set_option maxRecDepth 100000 in
set_option maxHeartbeats 4000000 in
/-- the law's call of coefficient where it throws -/
theorem l_coefficient_ISE (l : Launch) (dC : Nat → ClassId) (dI : Nat → Nat → Nat) (Z : Nat → Nat) (cI cP cL : ClassId) (p0 q0 g0 h0 ou : Nat) (S : Nat → Nat → Int32) (f : Nat → Int64) (a1 a2 a3 : Int32) (hM : Tc l y_C_coefficient ws_C_coefficient 7 103 [.ref (Z 0), .int a1, .int a2, .int a3] (bX dC dI Z cI cP p0 q0 g0 h0 S) "java/lang/IllegalStateException") : Wp l y_L_coefficient ws_L_coefficient [.ref (Z 0), .int a1, .int a2, .int a3] dC dI (wC Z cI cP p0 q0 g0 h0 S ++ oL ou cL f) (wC Z cI cP p0 q0 g0 h0 (S) ++ oL ou cL (f)) (tysL cI cP cL) 1 := by
  refine va_MetW (hh := [(0, 7, 10, 19), (0, 7, 14, 13)]) (cc := b_L_coefficient) (maxL := 5) (ret := (some .int)) (by decide) rfl ?_
  intro p e s m args below meth c s₁ B hml hv
  obtain ⟨rfl, ⟨hP, hK, hD0⟩, hxx, hnc⟩ := hv
  have hx := B.exec
  have hb := B.bytes
  have hr := B.returns
  have hts : ∀ w ∈ AL, w.before ([.ref (Z 0), .int a1, .int a2, .int a3] : List Value).toArray s = true := fun w h => atoms_spec (ws := ws_L_coefficient) B.pre w (List.mem_cons_of_mem _ h)
  have hown : s.vm.findClass "DealtSecretLaw" = some m.cls := findClass_of_methodNamed B.named
  have hlk := B.notSynchronized
  have hl := lv_entry ([.ref (Z 0), .int a1, .int a2, .int a3]) (n := 5) (Nat.le_of_ble_eq_true rfl)
  rw [lg_entry_eq]
  generalize (lg_sl ([.ref (Z 0), .int a1, .int a2, .int a3]) ++ List.replicate (5 - (lg_sl ([.ref (Z 0), .int a1, .int a2, .int a3])).length) Slot.unset).toArray = ls at hl ⊢
  have hl : lv_has ls 5 [(0, .ref (Z 0)), (1, .int a1), (2, .int a2), (3, .int a3)] := hl
  have hD := w_self hD0
  have hS : va_S (w_A (wC Z cI cP p0 q0 g0 h0 S ++ oL ou cL f)) s.heap s.heap [] := va_S.rf
  have htb : c.exceptionTable.toList = tableOf [(0, 7, 10, 19), (0, 7, 14, 13)] := vx_table (x := y_L_coefficient) B (atoms_spec (ws := ws_L_coefficient) B.pre _ List.mem_cons_self)
  refine lv_aload_n hx hb d_L_coefficient_0 rfl (lv_at hl 0 rfl) ?_
  refine lv_iload_n hx hb d_L_coefficient_1 rfl (lv_at hl 1 rfl) ?_
  refine lv_iload_n hx hb d_L_coefficient_2 rfl (lv_at hl 2 rfl) ?_
  refine lv_iload_n hx hb d_L_coefficient_3 rfl (lv_at hl 3 rfl) ?_
  refine tx_catchV (As := [.int a1, .int a2, .int a3]) (rest := []) (b := Z 0) (name := "java/lang/IllegalStateException") ⟨hx, hb, hml, hown, hts⟩ hM (cwV 3 hts (al_V k_265 k_266 k_267 k_1 k_268) rfl rfl rfl (by decide +kernel) ⟨Nat.le_of_ble_eq_true rfl, Nat.le_of_ble_eq_true rfl⟩) (fun U g mk a h => ⟨⟨h.1.1, va_K.moved (u := U) (U := U.calling g mk a) (Vm.Alike.refl U.vm) h.1.2⟩, xx_bl g mk a h.2⟩) (va_recv hK hP (ci := 2) (q0 := 0) rfl rfl) (fun U hU hW => ⟨⟨by rw [hU]; exact w_l hP, va_K.moved hW.alike (hK.sub [0, 1] rfl)⟩, xx_to hW (fun a _ => by rw [hU]) hxx⟩) rfl hl.1 rfl (lv_room (Nat.le_of_ble_eq_true rfl)) d_L_coefficient_4 ⟨Nat.le_of_ble_eq_true rfl, Nat.le_of_ble_eq_true rfl⟩ [] ⟨0, 7, 10, 19⟩ [⟨0, 7, 14, 13⟩] htb (fun z hz => nomatch hz) (by decide) (by decide) (hts _ k_264) (va_Nw.use rfl (hxx.1.1 "java/lang/IllegalStateException" (by simp))) (fun q9 H hz9 hk9 => ?_)
  have hP := hP.kept (fun k q hq => hk9 q.1 (hP k q hq).lt)
  have hS : va_S (w_A (wC Z cI cP p0 q0 g0 h0 S ++ oL ou cL f)) s.heap H [] := ⟨hz9, fun q h1 _ => hk9 q h1, fun z hz => nomatch hz⟩
  refine lv_astore (lv' := [(4, .ref q9), (0, .ref (Z 0)), (1, .int a1), (2, .int a2), (3, .int a3)]) hx hb d_L_coefficient_10 hl (by decide) rfl (fun ls hl => ?_)
  refine lv_iconst (v := 1) hx hb d_L_coefficient_12 (by decide) ?_
  exact wr_i hx hb hr hlk hP hS d_L_coefficient_13
set_option maxRecDepth 100000 in
set_option maxHeartbeats 4000000 in
/-- the law's call of coefficient where it throws -/
theorem l_coefficient_IAE (l : Launch) (dC : Nat → ClassId) (dI : Nat → Nat → Nat) (Z : Nat → Nat) (cI cP cL : ClassId) (p0 q0 g0 h0 ou : Nat) (S : Nat → Nat → Int32) (f : Nat → Int64) (a1 a2 a3 : Int32) (hM : Tc l y_C_coefficient ws_C_coefficient 7 103 [.ref (Z 0), .int a1, .int a2, .int a3] (bX dC dI Z cI cP p0 q0 g0 h0 S) "java/lang/IllegalArgumentException") : Wp l y_L_coefficient ws_L_coefficient [.ref (Z 0), .int a1, .int a2, .int a3] dC dI (wC Z cI cP p0 q0 g0 h0 S ++ oL ou cL f) (wC Z cI cP p0 q0 g0 h0 (S) ++ oL ou cL (f)) (tysL cI cP cL) 2 := by
  refine va_MetW (hh := [(0, 7, 10, 19), (0, 7, 14, 13)]) (cc := b_L_coefficient) (maxL := 5) (ret := (some .int)) (by decide) rfl ?_
  intro p e s m args below meth c s₁ B hml hv
  obtain ⟨rfl, ⟨hP, hK, hD0⟩, hxx, hnc⟩ := hv
  have hx := B.exec
  have hb := B.bytes
  have hr := B.returns
  have hts : ∀ w ∈ AL, w.before ([.ref (Z 0), .int a1, .int a2, .int a3] : List Value).toArray s = true := fun w h => atoms_spec (ws := ws_L_coefficient) B.pre w (List.mem_cons_of_mem _ h)
  have hown : s.vm.findClass "DealtSecretLaw" = some m.cls := findClass_of_methodNamed B.named
  have hlk := B.notSynchronized
  have hl := lv_entry ([.ref (Z 0), .int a1, .int a2, .int a3]) (n := 5) (Nat.le_of_ble_eq_true rfl)
  rw [lg_entry_eq]
  generalize (lg_sl ([.ref (Z 0), .int a1, .int a2, .int a3]) ++ List.replicate (5 - (lg_sl ([.ref (Z 0), .int a1, .int a2, .int a3])).length) Slot.unset).toArray = ls at hl ⊢
  have hl : lv_has ls 5 [(0, .ref (Z 0)), (1, .int a1), (2, .int a2), (3, .int a3)] := hl
  have hD := w_self hD0
  have hS : va_S (w_A (wC Z cI cP p0 q0 g0 h0 S ++ oL ou cL f)) s.heap s.heap [] := va_S.rf
  have htb : c.exceptionTable.toList = tableOf [(0, 7, 10, 19), (0, 7, 14, 13)] := vx_table (x := y_L_coefficient) B (atoms_spec (ws := ws_L_coefficient) B.pre _ List.mem_cons_self)
  refine lv_aload_n hx hb d_L_coefficient_0 rfl (lv_at hl 0 rfl) ?_
  refine lv_iload_n hx hb d_L_coefficient_1 rfl (lv_at hl 1 rfl) ?_
  refine lv_iload_n hx hb d_L_coefficient_2 rfl (lv_at hl 2 rfl) ?_
  refine lv_iload_n hx hb d_L_coefficient_3 rfl (lv_at hl 3 rfl) ?_
  refine tx_catchV (As := [.int a1, .int a2, .int a3]) (rest := []) (b := Z 0) (name := "java/lang/IllegalArgumentException") ⟨hx, hb, hml, hown, hts⟩ hM (cwV 3 hts (al_V k_265 k_266 k_267 k_1 k_268) rfl rfl rfl (by decide +kernel) ⟨Nat.le_of_ble_eq_true rfl, Nat.le_of_ble_eq_true rfl⟩) (fun U g mk a h => ⟨⟨h.1.1, va_K.moved (u := U) (U := U.calling g mk a) (Vm.Alike.refl U.vm) h.1.2⟩, xx_bl g mk a h.2⟩) (va_recv hK hP (ci := 2) (q0 := 0) rfl rfl) (fun U hU hW => ⟨⟨by rw [hU]; exact w_l hP, va_K.moved hW.alike (hK.sub [0, 1] rfl)⟩, xx_to hW (fun a _ => by rw [hU]) hxx⟩) rfl hl.1 rfl (lv_room (Nat.le_of_ble_eq_true rfl)) d_L_coefficient_4 ⟨Nat.le_of_ble_eq_true rfl, Nat.le_of_ble_eq_true rfl⟩ [⟨0, 7, 10, 19⟩] ⟨0, 7, 14, 13⟩ [] htb (fun z hz => by simp only [List.mem_cons, List.not_mem_nil, or_false] at hz; rcases hz with rfl <;> first | exact Or.inr ⟨by decide, "java/lang/IllegalStateException", hts _ k_264, hnc.1⟩) (by decide) (by decide) (hts _ k_199) (va_Nw.use rfl (hxx.1.1 "java/lang/IllegalArgumentException" (by simp))) (fun q9 H hz9 hk9 => ?_)
  have hP := hP.kept (fun k q hq => hk9 q.1 (hP k q hq).lt)
  have hS : va_S (w_A (wC Z cI cP p0 q0 g0 h0 S ++ oL ou cL f)) s.heap H [] := ⟨hz9, fun q h1 _ => hk9 q h1, fun z hz => nomatch hz⟩
  refine lv_astore (lv' := [(4, .ref q9), (0, .ref (Z 0)), (1, .int a1), (2, .int a2), (3, .int a3)]) hx hb d_L_coefficient_14 hl (by decide) rfl (fun ls hl => ?_)
  refine lv_iconst (v := 2) hx hb d_L_coefficient_16 (by decide) ?_
  exact wr_i hx hb hr hlk hP hS d_L_coefficient_17
set_option maxRecDepth 100000 in
set_option maxHeartbeats 4000000 in
/-- the law's call of advance where it throws -/
theorem l_advance_ISE (l : Launch) (dC : Nat → ClassId) (dI : Nat → Nat → Nat) (Z : Nat → Nat) (cI cP cL : ClassId) (p0 q0 g0 h0 ou : Nat) (S : Nat → Nat → Int32) (f : Nat → Int64) (hM : Tc l y_C_advance ws_C_advance 6 82 [.ref (Z 0)] (bX dC dI Z cI cP p0 q0 g0 h0 S) "java/lang/IllegalStateException") : Wp l y_L_advance ws_L_advance [.ref (Z 0), .ref ou] dC dI (wC Z cI cP p0 q0 g0 h0 S ++ oL ou cL f) (wC Z cI cP p0 q0 g0 h0 (S) ++ oL ou cL (f)) (tysL cI cP cL) 1 := by
  refine va_MetW (hh := [(0, 8, 11, 19)]) (cc := b_L_advance) (maxL := 3) (ret := (some .int)) (by decide) rfl ?_
  intro p e s m args below meth c s₁ B hml hv
  obtain ⟨rfl, ⟨hP, hK, hD0⟩, hxx, hnc⟩ := hv
  have hx := B.exec
  have hb := B.bytes
  have hr := B.returns
  have hts : ∀ w ∈ AL, w.before ([.ref (Z 0), .ref ou] : List Value).toArray s = true := fun w h => atoms_spec (ws := ws_L_advance) B.pre w (List.mem_cons_of_mem _ h)
  have hown : s.vm.findClass "DealtSecretLaw" = some m.cls := findClass_of_methodNamed B.named
  have hlk := B.notSynchronized
  have hl := lv_entry ([.ref (Z 0), .ref ou]) (n := 3) (Nat.le_of_ble_eq_true rfl)
  rw [lg_entry_eq]
  generalize (lg_sl ([.ref (Z 0), .ref ou]) ++ List.replicate (3 - (lg_sl ([.ref (Z 0), .ref ou])).length) Slot.unset).toArray = ls at hl ⊢
  have hl : lv_has ls 3 [(0, .ref (Z 0)), (1, .ref ou)] := hl
  have hD := w_self hD0
  have hS : va_S (w_A (wC Z cI cP p0 q0 g0 h0 S ++ oL ou cL f)) s.heap s.heap [] := va_S.rf
  have htb : c.exceptionTable.toList = tableOf [(0, 8, 11, 19)] := vx_table (x := y_L_advance) B (atoms_spec (ws := ws_L_advance) B.pre _ List.mem_cons_self)
  refine lv_aload_n hx hb d_L_advance_0 rfl (lv_at hl 1 rfl) ?_
  refine lv_iconst (v := 0) hx hb d_L_advance_1 (by decide) ?_
  refine lv_aload_n hx hb d_L_advance_2 rfl (lv_at hl 0 rfl) ?_
  refine tx_catchV (As := []) (rest := [.int 0, .ref ou]) (b := Z 0) (name := "java/lang/IllegalStateException") ⟨hx, hb, hml, hown, hts⟩ hM (cwV 0 hts (al_V k_300 k_301 k_302 k_1 k_303) rfl rfl rfl (by decide +kernel) ⟨Nat.le_of_ble_eq_true rfl, Nat.le_of_ble_eq_true rfl⟩) (fun U g mk a h => ⟨⟨h.1.1, va_K.moved (u := U) (U := U.calling g mk a) (Vm.Alike.refl U.vm) h.1.2⟩, xx_bl g mk a h.2⟩) (va_recv hK hP (ci := 2) (q0 := 0) rfl rfl) (fun U hU hW => ⟨⟨by rw [hU]; exact w_l hP, va_K.moved hW.alike (hK.sub [0, 1] rfl)⟩, xx_to hW (fun a _ => by rw [hU]) hxx⟩) rfl hl.1 rfl (lv_room (Nat.le_of_ble_eq_true rfl)) d_L_advance_3 ⟨Nat.le_of_ble_eq_true rfl, Nat.le_of_ble_eq_true rfl⟩ [] ⟨0, 8, 11, 19⟩ [] htb (fun z hz => nomatch hz) (by decide) (by decide) (hts _ k_264) (va_Nw.use rfl (hxx.1.1 "java/lang/IllegalStateException" (by simp))) (fun q9 H hz9 hk9 => ?_)
  have hP := hP.kept (fun k q hq => hk9 q.1 (hP k q hq).lt)
  have hS : va_S (w_A (wC Z cI cP p0 q0 g0 h0 S ++ oL ou cL f)) s.heap H [] := ⟨hz9, fun q h1 _ => hk9 q h1, fun z hz => nomatch hz⟩
  refine lv_astore_n (lv' := [(2, .ref q9), (0, .ref (Z 0)), (1, .ref ou)]) hx hb d_L_advance_11 rfl hl (by decide) rfl (fun ls hl => ?_)
  refine lv_iconst (v := 1) hx hb d_L_advance_12 (by decide) ?_
  exact wr_i hx hb hr hlk hP hS d_L_advance_13
set_option maxRecDepth 100000 in
set_option maxHeartbeats 4000000 in
/-- the law's call of tamper where it throws -/
theorem l_tamper_ISE (l : Launch) (dC : Nat → ClassId) (dI : Nat → Nat → Nat) (Z : Nat → Nat) (cI cP cL : ClassId) (p0 q0 g0 h0 ou : Nat) (S : Nat → Nat → Int32) (f : Nat → Int64) (a1 a2 a3 : Int32) (hM : Tc l y_C_tamper ws_C_tamper 7 103 [.ref (Z 0), .int a1, .int a2, .int a3] (bX dC dI Z cI cP p0 q0 g0 h0 S) "java/lang/IllegalStateException") : Wp l y_L_tamper ws_L_tamper [.ref (Z 0), .int a1, .int a2, .int a3] dC dI (wC Z cI cP p0 q0 g0 h0 S ++ oL ou cL f) (wC Z cI cP p0 q0 g0 h0 (S) ++ oL ou cL (f)) (tysL cI cP cL) 1 := by
  refine va_MetW (hh := [(0, 7, 10, 19), (0, 7, 14, 13)]) (cc := b_L_tamper) (maxL := 5) (ret := (some .int)) (by decide) rfl ?_
  intro p e s m args below meth c s₁ B hml hv
  obtain ⟨rfl, ⟨hP, hK, hD0⟩, hxx, hnc⟩ := hv
  have hx := B.exec
  have hb := B.bytes
  have hr := B.returns
  have hts : ∀ w ∈ AL, w.before ([.ref (Z 0), .int a1, .int a2, .int a3] : List Value).toArray s = true := fun w h => atoms_spec (ws := ws_L_tamper) B.pre w (List.mem_cons_of_mem _ h)
  have hown : s.vm.findClass "DealtSecretLaw" = some m.cls := findClass_of_methodNamed B.named
  have hlk := B.notSynchronized
  have hl := lv_entry ([.ref (Z 0), .int a1, .int a2, .int a3]) (n := 5) (Nat.le_of_ble_eq_true rfl)
  rw [lg_entry_eq]
  generalize (lg_sl ([.ref (Z 0), .int a1, .int a2, .int a3]) ++ List.replicate (5 - (lg_sl ([.ref (Z 0), .int a1, .int a2, .int a3])).length) Slot.unset).toArray = ls at hl ⊢
  have hl : lv_has ls 5 [(0, .ref (Z 0)), (1, .int a1), (2, .int a2), (3, .int a3)] := hl
  have hD := w_self hD0
  have hS : va_S (w_A (wC Z cI cP p0 q0 g0 h0 S ++ oL ou cL f)) s.heap s.heap [] := va_S.rf
  have htb : c.exceptionTable.toList = tableOf [(0, 7, 10, 19), (0, 7, 14, 13)] := vx_table (x := y_L_tamper) B (atoms_spec (ws := ws_L_tamper) B.pre _ List.mem_cons_self)
  refine lv_aload_n hx hb d_L_tamper_0 rfl (lv_at hl 0 rfl) ?_
  refine lv_iload_n hx hb d_L_tamper_1 rfl (lv_at hl 1 rfl) ?_
  refine lv_iload_n hx hb d_L_tamper_2 rfl (lv_at hl 2 rfl) ?_
  refine lv_iload_n hx hb d_L_tamper_3 rfl (lv_at hl 3 rfl) ?_
  refine tx_catchV (As := [.int a1, .int a2, .int a3]) (rest := []) (b := Z 0) (name := "java/lang/IllegalStateException") ⟨hx, hb, hml, hown, hts⟩ hM (cwV 3 hts (al_V k_334 k_335 k_336 k_1 k_337) rfl rfl rfl (by decide +kernel) ⟨Nat.le_of_ble_eq_true rfl, Nat.le_of_ble_eq_true rfl⟩) (fun U g mk a h => ⟨⟨h.1.1, va_K.moved (u := U) (U := U.calling g mk a) (Vm.Alike.refl U.vm) h.1.2⟩, xx_bl g mk a h.2⟩) (va_recv hK hP (ci := 2) (q0 := 0) rfl rfl) (fun U hU hW => ⟨⟨by rw [hU]; exact w_l hP, va_K.moved hW.alike (hK.sub [0, 1] rfl)⟩, xx_to hW (fun a _ => by rw [hU]) hxx⟩) rfl hl.1 rfl (lv_room (Nat.le_of_ble_eq_true rfl)) d_L_tamper_4 ⟨Nat.le_of_ble_eq_true rfl, Nat.le_of_ble_eq_true rfl⟩ [] ⟨0, 7, 10, 19⟩ [⟨0, 7, 14, 13⟩] htb (fun z hz => nomatch hz) (by decide) (by decide) (hts _ k_264) (va_Nw.use rfl (hxx.1.1 "java/lang/IllegalStateException" (by simp))) (fun q9 H hz9 hk9 => ?_)
  have hP := hP.kept (fun k q hq => hk9 q.1 (hP k q hq).lt)
  have hS : va_S (w_A (wC Z cI cP p0 q0 g0 h0 S ++ oL ou cL f)) s.heap H [] := ⟨hz9, fun q h1 _ => hk9 q h1, fun z hz => nomatch hz⟩
  refine lv_astore (lv' := [(4, .ref q9), (0, .ref (Z 0)), (1, .int a1), (2, .int a2), (3, .int a3)]) hx hb d_L_tamper_10 hl (by decide) rfl (fun ls hl => ?_)
  refine lv_iconst (v := 1) hx hb d_L_tamper_12 (by decide) ?_
  exact wr_i hx hb hr hlk hP hS d_L_tamper_13
set_option maxRecDepth 100000 in
set_option maxHeartbeats 4000000 in
/-- the law's call of tamper where it throws -/
theorem l_tamper_IAE (l : Launch) (dC : Nat → ClassId) (dI : Nat → Nat → Nat) (Z : Nat → Nat) (cI cP cL : ClassId) (p0 q0 g0 h0 ou : Nat) (S : Nat → Nat → Int32) (f : Nat → Int64) (a1 a2 a3 : Int32) (hM : Tc l y_C_tamper ws_C_tamper 7 103 [.ref (Z 0), .int a1, .int a2, .int a3] (bX dC dI Z cI cP p0 q0 g0 h0 S) "java/lang/IllegalArgumentException") : Wp l y_L_tamper ws_L_tamper [.ref (Z 0), .int a1, .int a2, .int a3] dC dI (wC Z cI cP p0 q0 g0 h0 S ++ oL ou cL f) (wC Z cI cP p0 q0 g0 h0 (S) ++ oL ou cL (f)) (tysL cI cP cL) 2 := by
  refine va_MetW (hh := [(0, 7, 10, 19), (0, 7, 14, 13)]) (cc := b_L_tamper) (maxL := 5) (ret := (some .int)) (by decide) rfl ?_
  intro p e s m args below meth c s₁ B hml hv
  obtain ⟨rfl, ⟨hP, hK, hD0⟩, hxx, hnc⟩ := hv
  have hx := B.exec
  have hb := B.bytes
  have hr := B.returns
  have hts : ∀ w ∈ AL, w.before ([.ref (Z 0), .int a1, .int a2, .int a3] : List Value).toArray s = true := fun w h => atoms_spec (ws := ws_L_tamper) B.pre w (List.mem_cons_of_mem _ h)
  have hown : s.vm.findClass "DealtSecretLaw" = some m.cls := findClass_of_methodNamed B.named
  have hlk := B.notSynchronized
  have hl := lv_entry ([.ref (Z 0), .int a1, .int a2, .int a3]) (n := 5) (Nat.le_of_ble_eq_true rfl)
  rw [lg_entry_eq]
  generalize (lg_sl ([.ref (Z 0), .int a1, .int a2, .int a3]) ++ List.replicate (5 - (lg_sl ([.ref (Z 0), .int a1, .int a2, .int a3])).length) Slot.unset).toArray = ls at hl ⊢
  have hl : lv_has ls 5 [(0, .ref (Z 0)), (1, .int a1), (2, .int a2), (3, .int a3)] := hl
  have hD := w_self hD0
  have hS : va_S (w_A (wC Z cI cP p0 q0 g0 h0 S ++ oL ou cL f)) s.heap s.heap [] := va_S.rf
  have htb : c.exceptionTable.toList = tableOf [(0, 7, 10, 19), (0, 7, 14, 13)] := vx_table (x := y_L_tamper) B (atoms_spec (ws := ws_L_tamper) B.pre _ List.mem_cons_self)
  refine lv_aload_n hx hb d_L_tamper_0 rfl (lv_at hl 0 rfl) ?_
  refine lv_iload_n hx hb d_L_tamper_1 rfl (lv_at hl 1 rfl) ?_
  refine lv_iload_n hx hb d_L_tamper_2 rfl (lv_at hl 2 rfl) ?_
  refine lv_iload_n hx hb d_L_tamper_3 rfl (lv_at hl 3 rfl) ?_
  refine tx_catchV (As := [.int a1, .int a2, .int a3]) (rest := []) (b := Z 0) (name := "java/lang/IllegalArgumentException") ⟨hx, hb, hml, hown, hts⟩ hM (cwV 3 hts (al_V k_334 k_335 k_336 k_1 k_337) rfl rfl rfl (by decide +kernel) ⟨Nat.le_of_ble_eq_true rfl, Nat.le_of_ble_eq_true rfl⟩) (fun U g mk a h => ⟨⟨h.1.1, va_K.moved (u := U) (U := U.calling g mk a) (Vm.Alike.refl U.vm) h.1.2⟩, xx_bl g mk a h.2⟩) (va_recv hK hP (ci := 2) (q0 := 0) rfl rfl) (fun U hU hW => ⟨⟨by rw [hU]; exact w_l hP, va_K.moved hW.alike (hK.sub [0, 1] rfl)⟩, xx_to hW (fun a _ => by rw [hU]) hxx⟩) rfl hl.1 rfl (lv_room (Nat.le_of_ble_eq_true rfl)) d_L_tamper_4 ⟨Nat.le_of_ble_eq_true rfl, Nat.le_of_ble_eq_true rfl⟩ [⟨0, 7, 10, 19⟩] ⟨0, 7, 14, 13⟩ [] htb (fun z hz => by simp only [List.mem_cons, List.not_mem_nil, or_false] at hz; rcases hz with rfl <;> first | exact Or.inr ⟨by decide, "java/lang/IllegalStateException", hts _ k_264, hnc.1⟩) (by decide) (by decide) (hts _ k_199) (va_Nw.use rfl (hxx.1.1 "java/lang/IllegalArgumentException" (by simp))) (fun q9 H hz9 hk9 => ?_)
  have hP := hP.kept (fun k q hq => hk9 q.1 (hP k q hq).lt)
  have hS : va_S (w_A (wC Z cI cP p0 q0 g0 h0 S ++ oL ou cL f)) s.heap H [] := ⟨hz9, fun q h1 _ => hk9 q h1, fun z hz => nomatch hz⟩
  refine lv_astore (lv' := [(4, .ref q9), (0, .ref (Z 0)), (1, .int a1), (2, .int a2), (3, .int a3)]) hx hb d_L_tamper_14 hl (by decide) rfl (fun ls hl => ?_)
  refine lv_iconst (v := 2) hx hb d_L_tamper_16 (by decide) ?_
  exact wr_i hx hb hr hlk hP hS d_L_tamper_17
set_option maxRecDepth 100000 in
set_option maxHeartbeats 4000000 in
/-- the law's call of forge where it throws -/
theorem l_forge_ISE (l : Launch) (dC : Nat → ClassId) (dI : Nat → Nat → Nat) (Z : Nat → Nat) (cI cP cL : ClassId) (p0 q0 g0 h0 ou : Nat) (S : Nat → Nat → Int32) (f : Nat → Int64) (a1 a2 : Int32) (hM : Tc l y_C_forge ws_C_forge 7 103 [.ref (Z 0), .int a1, .int a2] (bX dC dI Z cI cP p0 q0 g0 h0 S) "java/lang/IllegalStateException") : Wp l y_L_forge ws_L_forge [.ref (Z 0), .int a1, .int a2] dC dI (wC Z cI cP p0 q0 g0 h0 S ++ oL ou cL f) (wC Z cI cP p0 q0 g0 h0 (S) ++ oL ou cL (f)) (tysL cI cP cL) 1 := by
  refine va_MetW (hh := [(0, 6, 9, 19), (0, 6, 12, 13)]) (cc := b_L_forge) (maxL := 4) (ret := (some .int)) (by decide) rfl ?_
  intro p e s m args below meth c s₁ B hml hv
  obtain ⟨rfl, ⟨hP, hK, hD0⟩, hxx, hnc⟩ := hv
  have hx := B.exec
  have hb := B.bytes
  have hr := B.returns
  have hts : ∀ w ∈ AL, w.before ([.ref (Z 0), .int a1, .int a2] : List Value).toArray s = true := fun w h => atoms_spec (ws := ws_L_forge) B.pre w (List.mem_cons_of_mem _ h)
  have hown : s.vm.findClass "DealtSecretLaw" = some m.cls := findClass_of_methodNamed B.named
  have hlk := B.notSynchronized
  have hl := lv_entry ([.ref (Z 0), .int a1, .int a2]) (n := 4) (Nat.le_of_ble_eq_true rfl)
  rw [lg_entry_eq]
  generalize (lg_sl ([.ref (Z 0), .int a1, .int a2]) ++ List.replicate (4 - (lg_sl ([.ref (Z 0), .int a1, .int a2])).length) Slot.unset).toArray = ls at hl ⊢
  have hl : lv_has ls 4 [(0, .ref (Z 0)), (1, .int a1), (2, .int a2)] := hl
  have hD := w_self hD0
  have hS : va_S (w_A (wC Z cI cP p0 q0 g0 h0 S ++ oL ou cL f)) s.heap s.heap [] := va_S.rf
  have htb : c.exceptionTable.toList = tableOf [(0, 6, 9, 19), (0, 6, 12, 13)] := vx_table (x := y_L_forge) B (atoms_spec (ws := ws_L_forge) B.pre _ List.mem_cons_self)
  refine lv_aload_n hx hb d_L_forge_0 rfl (lv_at hl 0 rfl) ?_
  refine lv_iload_n hx hb d_L_forge_1 rfl (lv_at hl 1 rfl) ?_
  refine lv_iload_n hx hb d_L_forge_2 rfl (lv_at hl 2 rfl) ?_
  refine tx_catchV (As := [.int a1, .int a2]) (rest := []) (b := Z 0) (name := "java/lang/IllegalStateException") ⟨hx, hb, hml, hown, hts⟩ hM (cwV 2 hts (al_V k_343 k_344 k_345 k_1 k_346) rfl rfl rfl (by decide +kernel) ⟨Nat.le_of_ble_eq_true rfl, Nat.le_of_ble_eq_true rfl⟩) (fun U g mk a h => ⟨⟨h.1.1, va_K.moved (u := U) (U := U.calling g mk a) (Vm.Alike.refl U.vm) h.1.2⟩, xx_bl g mk a h.2⟩) (va_recv hK hP (ci := 2) (q0 := 0) rfl rfl) (fun U hU hW => ⟨⟨by rw [hU]; exact w_l hP, va_K.moved hW.alike (hK.sub [0, 1] rfl)⟩, xx_to hW (fun a _ => by rw [hU]) hxx⟩) rfl hl.1 rfl (lv_room (Nat.le_of_ble_eq_true rfl)) d_L_forge_3 ⟨Nat.le_of_ble_eq_true rfl, Nat.le_of_ble_eq_true rfl⟩ [] ⟨0, 6, 9, 19⟩ [⟨0, 6, 12, 13⟩] htb (fun z hz => nomatch hz) (by decide) (by decide) (hts _ k_264) (va_Nw.use rfl (hxx.1.1 "java/lang/IllegalStateException" (by simp))) (fun q9 H hz9 hk9 => ?_)
  have hP := hP.kept (fun k q hq => hk9 q.1 (hP k q hq).lt)
  have hS : va_S (w_A (wC Z cI cP p0 q0 g0 h0 S ++ oL ou cL f)) s.heap H [] := ⟨hz9, fun q h1 _ => hk9 q h1, fun z hz => nomatch hz⟩
  refine lv_astore_n (lv' := [(3, .ref q9), (0, .ref (Z 0)), (1, .int a1), (2, .int a2)]) hx hb d_L_forge_9 rfl hl (by decide) rfl (fun ls hl => ?_)
  refine lv_iconst (v := 1) hx hb d_L_forge_10 (by decide) ?_
  exact wr_i hx hb hr hlk hP hS d_L_forge_11
set_option maxRecDepth 100000 in
set_option maxHeartbeats 4000000 in
/-- the law's call of forge where it throws -/
theorem l_forge_IAE (l : Launch) (dC : Nat → ClassId) (dI : Nat → Nat → Nat) (Z : Nat → Nat) (cI cP cL : ClassId) (p0 q0 g0 h0 ou : Nat) (S : Nat → Nat → Int32) (f : Nat → Int64) (a1 a2 : Int32) (hM : Tc l y_C_forge ws_C_forge 7 103 [.ref (Z 0), .int a1, .int a2] (bX dC dI Z cI cP p0 q0 g0 h0 S) "java/lang/IllegalArgumentException") : Wp l y_L_forge ws_L_forge [.ref (Z 0), .int a1, .int a2] dC dI (wC Z cI cP p0 q0 g0 h0 S ++ oL ou cL f) (wC Z cI cP p0 q0 g0 h0 (S) ++ oL ou cL (f)) (tysL cI cP cL) 2 := by
  refine va_MetW (hh := [(0, 6, 9, 19), (0, 6, 12, 13)]) (cc := b_L_forge) (maxL := 4) (ret := (some .int)) (by decide) rfl ?_
  intro p e s m args below meth c s₁ B hml hv
  obtain ⟨rfl, ⟨hP, hK, hD0⟩, hxx, hnc⟩ := hv
  have hx := B.exec
  have hb := B.bytes
  have hr := B.returns
  have hts : ∀ w ∈ AL, w.before ([.ref (Z 0), .int a1, .int a2] : List Value).toArray s = true := fun w h => atoms_spec (ws := ws_L_forge) B.pre w (List.mem_cons_of_mem _ h)
  have hown : s.vm.findClass "DealtSecretLaw" = some m.cls := findClass_of_methodNamed B.named
  have hlk := B.notSynchronized
  have hl := lv_entry ([.ref (Z 0), .int a1, .int a2]) (n := 4) (Nat.le_of_ble_eq_true rfl)
  rw [lg_entry_eq]
  generalize (lg_sl ([.ref (Z 0), .int a1, .int a2]) ++ List.replicate (4 - (lg_sl ([.ref (Z 0), .int a1, .int a2])).length) Slot.unset).toArray = ls at hl ⊢
  have hl : lv_has ls 4 [(0, .ref (Z 0)), (1, .int a1), (2, .int a2)] := hl
  have hD := w_self hD0
  have hS : va_S (w_A (wC Z cI cP p0 q0 g0 h0 S ++ oL ou cL f)) s.heap s.heap [] := va_S.rf
  have htb : c.exceptionTable.toList = tableOf [(0, 6, 9, 19), (0, 6, 12, 13)] := vx_table (x := y_L_forge) B (atoms_spec (ws := ws_L_forge) B.pre _ List.mem_cons_self)
  refine lv_aload_n hx hb d_L_forge_0 rfl (lv_at hl 0 rfl) ?_
  refine lv_iload_n hx hb d_L_forge_1 rfl (lv_at hl 1 rfl) ?_
  refine lv_iload_n hx hb d_L_forge_2 rfl (lv_at hl 2 rfl) ?_
  refine tx_catchV (As := [.int a1, .int a2]) (rest := []) (b := Z 0) (name := "java/lang/IllegalArgumentException") ⟨hx, hb, hml, hown, hts⟩ hM (cwV 2 hts (al_V k_343 k_344 k_345 k_1 k_346) rfl rfl rfl (by decide +kernel) ⟨Nat.le_of_ble_eq_true rfl, Nat.le_of_ble_eq_true rfl⟩) (fun U g mk a h => ⟨⟨h.1.1, va_K.moved (u := U) (U := U.calling g mk a) (Vm.Alike.refl U.vm) h.1.2⟩, xx_bl g mk a h.2⟩) (va_recv hK hP (ci := 2) (q0 := 0) rfl rfl) (fun U hU hW => ⟨⟨by rw [hU]; exact w_l hP, va_K.moved hW.alike (hK.sub [0, 1] rfl)⟩, xx_to hW (fun a _ => by rw [hU]) hxx⟩) rfl hl.1 rfl (lv_room (Nat.le_of_ble_eq_true rfl)) d_L_forge_3 ⟨Nat.le_of_ble_eq_true rfl, Nat.le_of_ble_eq_true rfl⟩ [⟨0, 6, 9, 19⟩] ⟨0, 6, 12, 13⟩ [] htb (fun z hz => by simp only [List.mem_cons, List.not_mem_nil, or_false] at hz; rcases hz with rfl <;> first | exact Or.inr ⟨by decide, "java/lang/IllegalStateException", hts _ k_264, hnc.1⟩) (by decide) (by decide) (hts _ k_199) (va_Nw.use rfl (hxx.1.1 "java/lang/IllegalArgumentException" (by simp))) (fun q9 H hz9 hk9 => ?_)
  have hP := hP.kept (fun k q hq => hk9 q.1 (hP k q hq).lt)
  have hS : va_S (w_A (wC Z cI cP p0 q0 g0 h0 S ++ oL ou cL f)) s.heap H [] := ⟨hz9, fun q h1 _ => hk9 q h1, fun z hz => nomatch hz⟩
  refine lv_astore_n (lv' := [(3, .ref q9), (0, .ref (Z 0)), (1, .int a1), (2, .int a2)]) hx hb d_L_forge_12 rfl hl (by decide) rfl (fun ls hl => ?_)
  refine lv_iconst (v := 2) hx hb d_L_forge_13 (by decide) ?_
  exact wr_i hx hb hr hlk hP hS d_L_forge_14
set_option maxRecDepth 100000 in
set_option maxHeartbeats 4000000 in
/-- the law's call of corrupt where it throws -/
theorem l_corrupt_ISE (l : Launch) (dC : Nat → ClassId) (dI : Nat → Nat → Nat) (Z : Nat → Nat) (cI cP cL : ClassId) (p0 q0 g0 h0 ou : Nat) (S : Nat → Nat → Int32) (f : Nat → Int64) (a1 : Int32) (hM : Tc l y_C_corrupt ws_C_corrupt 7 103 [.ref (Z 0), .int a1] (bX dC dI Z cI cP p0 q0 g0 h0 S) "java/lang/IllegalStateException") : Wp l y_L_corrupt ws_L_corrupt [.ref (Z 0), .int a1, .ref ou] dC dI (wC Z cI cP p0 q0 g0 h0 S ++ oL ou cL f) (wC Z cI cP p0 q0 g0 h0 (S) ++ oL ou cL (f)) (tysL cI cP cL) 1 := by
  refine va_MetW (hh := [(0, 16, 19, 19), (0, 16, 22, 13)]) (cc := b_L_corrupt) (maxL := 4) (ret := (some .int)) (by decide) rfl ?_
  intro p e s m args below meth c s₁ B hml hv
  obtain ⟨rfl, ⟨hP, hK, hD0⟩, hxx, hnc⟩ := hv
  have hx := B.exec
  have hb := B.bytes
  have hr := B.returns
  have hts : ∀ w ∈ AL, w.before ([.ref (Z 0), .int a1, .ref ou] : List Value).toArray s = true := fun w h => atoms_spec (ws := ws_L_corrupt) B.pre w (List.mem_cons_of_mem _ h)
  have hown : s.vm.findClass "DealtSecretLaw" = some m.cls := findClass_of_methodNamed B.named
  have hlk := B.notSynchronized
  have hl := lv_entry ([.ref (Z 0), .int a1, .ref ou]) (n := 4) (Nat.le_of_ble_eq_true rfl)
  rw [lg_entry_eq]
  generalize (lg_sl ([.ref (Z 0), .int a1, .ref ou]) ++ List.replicate (4 - (lg_sl ([.ref (Z 0), .int a1, .ref ou])).length) Slot.unset).toArray = ls at hl ⊢
  have hl : lv_has ls 4 [(0, .ref (Z 0)), (1, .int a1), (2, .ref ou)] := hl
  have hD := w_self hD0
  have hS : va_S (w_A (wC Z cI cP p0 q0 g0 h0 S ++ oL ou cL f)) s.heap s.heap [] := va_S.rf
  have htb : c.exceptionTable.toList = tableOf [(0, 16, 19, 19), (0, 16, 22, 13)] := vx_table (x := y_L_corrupt) B (atoms_spec (ws := ws_L_corrupt) B.pre _ List.mem_cons_self)
  refine lv_aload_n hx hb d_L_corrupt_0 rfl (lv_at hl 2 rfl) ?_
  refine lv_iconst (v := 0) hx hb d_L_corrupt_1 (by decide) ?_
  refine lv_aload_n hx hb d_L_corrupt_2 rfl (lv_at hl 0 rfl) ?_
  refine lv_iload_n hx hb d_L_corrupt_3 rfl (lv_at hl 1 rfl) ?_
  refine tx_catchV (As := [.int a1]) (rest := [.int 0, .ref ou]) (b := Z 0) (name := "java/lang/IllegalStateException") ⟨hx, hb, hml, hown, hts⟩ hM (cwV 1 hts (al_V k_349 k_350 k_351 k_1 k_352) rfl rfl rfl (by decide +kernel) ⟨Nat.le_of_ble_eq_true rfl, Nat.le_of_ble_eq_true rfl⟩) (fun U g mk a h => ⟨⟨h.1.1, va_K.moved (u := U) (U := U.calling g mk a) (Vm.Alike.refl U.vm) h.1.2⟩, xx_bl g mk a h.2⟩) (va_recv hK hP (ci := 2) (q0 := 0) rfl rfl) (fun U hU hW => ⟨⟨by rw [hU]; exact w_l hP, va_K.moved hW.alike (hK.sub [0, 1] rfl)⟩, xx_to hW (fun a _ => by rw [hU]) hxx⟩) rfl hl.1 rfl (lv_room (Nat.le_of_ble_eq_true rfl)) d_L_corrupt_4 ⟨Nat.le_of_ble_eq_true rfl, Nat.le_of_ble_eq_true rfl⟩ [] ⟨0, 16, 19, 19⟩ [⟨0, 16, 22, 13⟩] htb (fun z hz => nomatch hz) (by decide) (by decide) (hts _ k_264) (va_Nw.use rfl (hxx.1.1 "java/lang/IllegalStateException" (by simp))) (fun q9 H hz9 hk9 => ?_)
  have hP := hP.kept (fun k q hq => hk9 q.1 (hP k q hq).lt)
  have hS : va_S (w_A (wC Z cI cP p0 q0 g0 h0 S ++ oL ou cL f)) s.heap H [] := ⟨hz9, fun q h1 _ => hk9 q h1, fun z hz => nomatch hz⟩
  refine lv_astore_n (lv' := [(3, .ref q9), (0, .ref (Z 0)), (1, .int a1), (2, .ref ou)]) hx hb d_L_corrupt_19 rfl hl (by decide) rfl (fun ls hl => ?_)
  refine lv_iconst (v := 1) hx hb d_L_corrupt_20 (by decide) ?_
  exact wr_i hx hb hr hlk hP hS d_L_corrupt_21
set_option maxRecDepth 100000 in
set_option maxHeartbeats 4000000 in
/-- the law's call of corrupt where it throws -/
theorem l_corrupt_IAE (l : Launch) (dC : Nat → ClassId) (dI : Nat → Nat → Nat) (Z : Nat → Nat) (cI cP cL : ClassId) (p0 q0 g0 h0 ou : Nat) (S : Nat → Nat → Int32) (f : Nat → Int64) (a1 : Int32) (hM : Tc l y_C_corrupt ws_C_corrupt 7 103 [.ref (Z 0), .int a1] (bX dC dI Z cI cP p0 q0 g0 h0 S) "java/lang/IllegalArgumentException") : Wp l y_L_corrupt ws_L_corrupt [.ref (Z 0), .int a1, .ref ou] dC dI (wC Z cI cP p0 q0 g0 h0 S ++ oL ou cL f) (wC Z cI cP p0 q0 g0 h0 (S) ++ oL ou cL (f)) (tysL cI cP cL) 2 := by
  refine va_MetW (hh := [(0, 16, 19, 19), (0, 16, 22, 13)]) (cc := b_L_corrupt) (maxL := 4) (ret := (some .int)) (by decide) rfl ?_
  intro p e s m args below meth c s₁ B hml hv
  obtain ⟨rfl, ⟨hP, hK, hD0⟩, hxx, hnc⟩ := hv
  have hx := B.exec
  have hb := B.bytes
  have hr := B.returns
  have hts : ∀ w ∈ AL, w.before ([.ref (Z 0), .int a1, .ref ou] : List Value).toArray s = true := fun w h => atoms_spec (ws := ws_L_corrupt) B.pre w (List.mem_cons_of_mem _ h)
  have hown : s.vm.findClass "DealtSecretLaw" = some m.cls := findClass_of_methodNamed B.named
  have hlk := B.notSynchronized
  have hl := lv_entry ([.ref (Z 0), .int a1, .ref ou]) (n := 4) (Nat.le_of_ble_eq_true rfl)
  rw [lg_entry_eq]
  generalize (lg_sl ([.ref (Z 0), .int a1, .ref ou]) ++ List.replicate (4 - (lg_sl ([.ref (Z 0), .int a1, .ref ou])).length) Slot.unset).toArray = ls at hl ⊢
  have hl : lv_has ls 4 [(0, .ref (Z 0)), (1, .int a1), (2, .ref ou)] := hl
  have hD := w_self hD0
  have hS : va_S (w_A (wC Z cI cP p0 q0 g0 h0 S ++ oL ou cL f)) s.heap s.heap [] := va_S.rf
  have htb : c.exceptionTable.toList = tableOf [(0, 16, 19, 19), (0, 16, 22, 13)] := vx_table (x := y_L_corrupt) B (atoms_spec (ws := ws_L_corrupt) B.pre _ List.mem_cons_self)
  refine lv_aload_n hx hb d_L_corrupt_0 rfl (lv_at hl 2 rfl) ?_
  refine lv_iconst (v := 0) hx hb d_L_corrupt_1 (by decide) ?_
  refine lv_aload_n hx hb d_L_corrupt_2 rfl (lv_at hl 0 rfl) ?_
  refine lv_iload_n hx hb d_L_corrupt_3 rfl (lv_at hl 1 rfl) ?_
  refine tx_catchV (As := [.int a1]) (rest := [.int 0, .ref ou]) (b := Z 0) (name := "java/lang/IllegalArgumentException") ⟨hx, hb, hml, hown, hts⟩ hM (cwV 1 hts (al_V k_349 k_350 k_351 k_1 k_352) rfl rfl rfl (by decide +kernel) ⟨Nat.le_of_ble_eq_true rfl, Nat.le_of_ble_eq_true rfl⟩) (fun U g mk a h => ⟨⟨h.1.1, va_K.moved (u := U) (U := U.calling g mk a) (Vm.Alike.refl U.vm) h.1.2⟩, xx_bl g mk a h.2⟩) (va_recv hK hP (ci := 2) (q0 := 0) rfl rfl) (fun U hU hW => ⟨⟨by rw [hU]; exact w_l hP, va_K.moved hW.alike (hK.sub [0, 1] rfl)⟩, xx_to hW (fun a _ => by rw [hU]) hxx⟩) rfl hl.1 rfl (lv_room (Nat.le_of_ble_eq_true rfl)) d_L_corrupt_4 ⟨Nat.le_of_ble_eq_true rfl, Nat.le_of_ble_eq_true rfl⟩ [⟨0, 16, 19, 19⟩] ⟨0, 16, 22, 13⟩ [] htb (fun z hz => by simp only [List.mem_cons, List.not_mem_nil, or_false] at hz; rcases hz with rfl <;> first | exact Or.inr ⟨by decide, "java/lang/IllegalStateException", hts _ k_264, hnc.1⟩) (by decide) (by decide) (hts _ k_199) (va_Nw.use rfl (hxx.1.1 "java/lang/IllegalArgumentException" (by simp))) (fun q9 H hz9 hk9 => ?_)
  have hP := hP.kept (fun k q hq => hk9 q.1 (hP k q hq).lt)
  have hS : va_S (w_A (wC Z cI cP p0 q0 g0 h0 S ++ oL ou cL f)) s.heap H [] := ⟨hz9, fun q h1 _ => hk9 q h1, fun z hz => nomatch hz⟩
  refine lv_astore_n (lv' := [(3, .ref q9), (0, .ref (Z 0)), (1, .int a1), (2, .ref ou)]) hx hb d_L_corrupt_22 rfl hl (by decide) rfl (fun ls hl => ?_)
  refine lv_iconst (v := 2) hx hb d_L_corrupt_23 (by decide) ?_
  exact wr_i hx hb hr hlk hP hS d_L_corrupt_24
set_option maxRecDepth 100000 in
set_option maxHeartbeats 4000000 in
/-- the law's call of accuse where it throws -/
theorem l_accuse_ISE (l : Launch) (dC : Nat → ClassId) (dI : Nat → Nat → Nat) (Z : Nat → Nat) (cI cP cL : ClassId) (p0 q0 g0 h0 ou : Nat) (S : Nat → Nat → Int32) (f : Nat → Int64) (a1 : Int32) (hM : Tc l y_C_accuse ws_C_accuse 7 103 [.ref (Z 0), .int a1] (bX dC dI Z cI cP p0 q0 g0 h0 S) "java/lang/IllegalStateException") : Wp l y_L_accuse ws_L_accuse [.ref (Z 0), .int a1, .ref ou] dC dI (wC Z cI cP p0 q0 g0 h0 S ++ oL ou cL f) (wC Z cI cP p0 q0 g0 h0 (S) ++ oL ou cL (f)) (tysL cI cP cL) 1 := by
  refine va_MetW (hh := [(0, 16, 19, 19), (0, 16, 22, 13)]) (cc := b_L_accuse) (maxL := 4) (ret := (some .int)) (by decide) rfl ?_
  intro p e s m args below meth c s₁ B hml hv
  obtain ⟨rfl, ⟨hP, hK, hD0⟩, hxx, hnc⟩ := hv
  have hx := B.exec
  have hb := B.bytes
  have hr := B.returns
  have hts : ∀ w ∈ AL, w.before ([.ref (Z 0), .int a1, .ref ou] : List Value).toArray s = true := fun w h => atoms_spec (ws := ws_L_accuse) B.pre w (List.mem_cons_of_mem _ h)
  have hown : s.vm.findClass "DealtSecretLaw" = some m.cls := findClass_of_methodNamed B.named
  have hlk := B.notSynchronized
  have hl := lv_entry ([.ref (Z 0), .int a1, .ref ou]) (n := 4) (Nat.le_of_ble_eq_true rfl)
  rw [lg_entry_eq]
  generalize (lg_sl ([.ref (Z 0), .int a1, .ref ou]) ++ List.replicate (4 - (lg_sl ([.ref (Z 0), .int a1, .ref ou])).length) Slot.unset).toArray = ls at hl ⊢
  have hl : lv_has ls 4 [(0, .ref (Z 0)), (1, .int a1), (2, .ref ou)] := hl
  have hD := w_self hD0
  have hS : va_S (w_A (wC Z cI cP p0 q0 g0 h0 S ++ oL ou cL f)) s.heap s.heap [] := va_S.rf
  have htb : c.exceptionTable.toList = tableOf [(0, 16, 19, 19), (0, 16, 22, 13)] := vx_table (x := y_L_accuse) B (atoms_spec (ws := ws_L_accuse) B.pre _ List.mem_cons_self)
  refine lv_aload_n hx hb d_L_accuse_0 rfl (lv_at hl 2 rfl) ?_
  refine lv_iconst (v := 0) hx hb d_L_accuse_1 (by decide) ?_
  refine lv_aload_n hx hb d_L_accuse_2 rfl (lv_at hl 0 rfl) ?_
  refine lv_iload_n hx hb d_L_accuse_3 rfl (lv_at hl 1 rfl) ?_
  refine tx_catchV (As := [.int a1]) (rest := [.int 0, .ref ou]) (b := Z 0) (name := "java/lang/IllegalStateException") ⟨hx, hb, hml, hown, hts⟩ hM (cwV 1 hts (al_V k_355 k_356 k_357 k_1 k_358) rfl rfl rfl (by decide +kernel) ⟨Nat.le_of_ble_eq_true rfl, Nat.le_of_ble_eq_true rfl⟩) (fun U g mk a h => ⟨⟨h.1.1, va_K.moved (u := U) (U := U.calling g mk a) (Vm.Alike.refl U.vm) h.1.2⟩, xx_bl g mk a h.2⟩) (va_recv hK hP (ci := 2) (q0 := 0) rfl rfl) (fun U hU hW => ⟨⟨by rw [hU]; exact w_l hP, va_K.moved hW.alike (hK.sub [0, 1] rfl)⟩, xx_to hW (fun a _ => by rw [hU]) hxx⟩) rfl hl.1 rfl (lv_room (Nat.le_of_ble_eq_true rfl)) d_L_accuse_4 ⟨Nat.le_of_ble_eq_true rfl, Nat.le_of_ble_eq_true rfl⟩ [] ⟨0, 16, 19, 19⟩ [⟨0, 16, 22, 13⟩] htb (fun z hz => nomatch hz) (by decide) (by decide) (hts _ k_264) (va_Nw.use rfl (hxx.1.1 "java/lang/IllegalStateException" (by simp))) (fun q9 H hz9 hk9 => ?_)
  have hP := hP.kept (fun k q hq => hk9 q.1 (hP k q hq).lt)
  have hS : va_S (w_A (wC Z cI cP p0 q0 g0 h0 S ++ oL ou cL f)) s.heap H [] := ⟨hz9, fun q h1 _ => hk9 q h1, fun z hz => nomatch hz⟩
  refine lv_astore_n (lv' := [(3, .ref q9), (0, .ref (Z 0)), (1, .int a1), (2, .ref ou)]) hx hb d_L_accuse_19 rfl hl (by decide) rfl (fun ls hl => ?_)
  refine lv_iconst (v := 1) hx hb d_L_accuse_20 (by decide) ?_
  exact wr_i hx hb hr hlk hP hS d_L_accuse_21
set_option maxRecDepth 100000 in
set_option maxHeartbeats 4000000 in
/-- the law's call of accuse where it throws -/
theorem l_accuse_IAE (l : Launch) (dC : Nat → ClassId) (dI : Nat → Nat → Nat) (Z : Nat → Nat) (cI cP cL : ClassId) (p0 q0 g0 h0 ou : Nat) (S : Nat → Nat → Int32) (f : Nat → Int64) (a1 : Int32) (hM : Tc l y_C_accuse ws_C_accuse 7 103 [.ref (Z 0), .int a1] (bX dC dI Z cI cP p0 q0 g0 h0 S) "java/lang/IllegalArgumentException") : Wp l y_L_accuse ws_L_accuse [.ref (Z 0), .int a1, .ref ou] dC dI (wC Z cI cP p0 q0 g0 h0 S ++ oL ou cL f) (wC Z cI cP p0 q0 g0 h0 (S) ++ oL ou cL (f)) (tysL cI cP cL) 2 := by
  refine va_MetW (hh := [(0, 16, 19, 19), (0, 16, 22, 13)]) (cc := b_L_accuse) (maxL := 4) (ret := (some .int)) (by decide) rfl ?_
  intro p e s m args below meth c s₁ B hml hv
  obtain ⟨rfl, ⟨hP, hK, hD0⟩, hxx, hnc⟩ := hv
  have hx := B.exec
  have hb := B.bytes
  have hr := B.returns
  have hts : ∀ w ∈ AL, w.before ([.ref (Z 0), .int a1, .ref ou] : List Value).toArray s = true := fun w h => atoms_spec (ws := ws_L_accuse) B.pre w (List.mem_cons_of_mem _ h)
  have hown : s.vm.findClass "DealtSecretLaw" = some m.cls := findClass_of_methodNamed B.named
  have hlk := B.notSynchronized
  have hl := lv_entry ([.ref (Z 0), .int a1, .ref ou]) (n := 4) (Nat.le_of_ble_eq_true rfl)
  rw [lg_entry_eq]
  generalize (lg_sl ([.ref (Z 0), .int a1, .ref ou]) ++ List.replicate (4 - (lg_sl ([.ref (Z 0), .int a1, .ref ou])).length) Slot.unset).toArray = ls at hl ⊢
  have hl : lv_has ls 4 [(0, .ref (Z 0)), (1, .int a1), (2, .ref ou)] := hl
  have hD := w_self hD0
  have hS : va_S (w_A (wC Z cI cP p0 q0 g0 h0 S ++ oL ou cL f)) s.heap s.heap [] := va_S.rf
  have htb : c.exceptionTable.toList = tableOf [(0, 16, 19, 19), (0, 16, 22, 13)] := vx_table (x := y_L_accuse) B (atoms_spec (ws := ws_L_accuse) B.pre _ List.mem_cons_self)
  refine lv_aload_n hx hb d_L_accuse_0 rfl (lv_at hl 2 rfl) ?_
  refine lv_iconst (v := 0) hx hb d_L_accuse_1 (by decide) ?_
  refine lv_aload_n hx hb d_L_accuse_2 rfl (lv_at hl 0 rfl) ?_
  refine lv_iload_n hx hb d_L_accuse_3 rfl (lv_at hl 1 rfl) ?_
  refine tx_catchV (As := [.int a1]) (rest := [.int 0, .ref ou]) (b := Z 0) (name := "java/lang/IllegalArgumentException") ⟨hx, hb, hml, hown, hts⟩ hM (cwV 1 hts (al_V k_355 k_356 k_357 k_1 k_358) rfl rfl rfl (by decide +kernel) ⟨Nat.le_of_ble_eq_true rfl, Nat.le_of_ble_eq_true rfl⟩) (fun U g mk a h => ⟨⟨h.1.1, va_K.moved (u := U) (U := U.calling g mk a) (Vm.Alike.refl U.vm) h.1.2⟩, xx_bl g mk a h.2⟩) (va_recv hK hP (ci := 2) (q0 := 0) rfl rfl) (fun U hU hW => ⟨⟨by rw [hU]; exact w_l hP, va_K.moved hW.alike (hK.sub [0, 1] rfl)⟩, xx_to hW (fun a _ => by rw [hU]) hxx⟩) rfl hl.1 rfl (lv_room (Nat.le_of_ble_eq_true rfl)) d_L_accuse_4 ⟨Nat.le_of_ble_eq_true rfl, Nat.le_of_ble_eq_true rfl⟩ [⟨0, 16, 19, 19⟩] ⟨0, 16, 22, 13⟩ [] htb (fun z hz => by simp only [List.mem_cons, List.not_mem_nil, or_false] at hz; rcases hz with rfl <;> first | exact Or.inr ⟨by decide, "java/lang/IllegalStateException", hts _ k_264, hnc.1⟩) (by decide) (by decide) (hts _ k_199) (va_Nw.use rfl (hxx.1.1 "java/lang/IllegalArgumentException" (by simp))) (fun q9 H hz9 hk9 => ?_)
  have hP := hP.kept (fun k q hq => hk9 q.1 (hP k q hq).lt)
  have hS : va_S (w_A (wC Z cI cP p0 q0 g0 h0 S ++ oL ou cL f)) s.heap H [] := ⟨hz9, fun q h1 _ => hk9 q h1, fun z hz => nomatch hz⟩
  refine lv_astore_n (lv' := [(3, .ref q9), (0, .ref (Z 0)), (1, .int a1), (2, .ref ou)]) hx hb d_L_accuse_22 rfl hl (by decide) rfl (fun ls hl => ?_)
  refine lv_iconst (v := 2) hx hb d_L_accuse_23 (by decide) ?_
  exact wr_i hx hb hr hlk hP hS d_L_accuse_24
set_option maxRecDepth 100000 in
set_option maxHeartbeats 4000000 in
/-- the law's call of answer where it throws -/
theorem l_answer_ISE (l : Launch) (dC : Nat → ClassId) (dI : Nat → Nat → Nat) (Z : Nat → Nat) (cI cP cL : ClassId) (p0 q0 g0 h0 ou : Nat) (S : Nat → Nat → Int32) (f : Nat → Int64) (a1 a2 a3 : Int32) (hM : Tc l y_C_answer ws_C_answer 7 103 [.ref (Z 0), .int a1, .int a2, .int a3] (bX dC dI Z cI cP p0 q0 g0 h0 S) "java/lang/IllegalStateException") : Wp l y_L_answer ws_L_answer [.ref (Z 0), .int a1, .int a2, .int a3, .ref ou] dC dI (wC Z cI cP p0 q0 g0 h0 S ++ oL ou cL f) (wC Z cI cP p0 q0 g0 h0 (S) ++ oL ou cL (f)) (tysL cI cP cL) 1 := by
  refine va_MetW (hh := [(0, 19, 22, 19), (0, 19, 26, 13), (0, 19, 30, 43)]) (cc := b_L_answer) (maxL := 6) (ret := (some .int)) (by decide) rfl ?_
  intro p e s m args below meth c s₁ B hml hv
  obtain ⟨rfl, ⟨hP, hK, hD0⟩, hxx, hnc⟩ := hv
  have hx := B.exec
  have hb := B.bytes
  have hr := B.returns
  have hts : ∀ w ∈ AL, w.before ([.ref (Z 0), .int a1, .int a2, .int a3, .ref ou] : List Value).toArray s = true := fun w h => atoms_spec (ws := ws_L_answer) B.pre w (List.mem_cons_of_mem _ h)
  have hown : s.vm.findClass "DealtSecretLaw" = some m.cls := findClass_of_methodNamed B.named
  have hlk := B.notSynchronized
  have hl := lv_entry ([.ref (Z 0), .int a1, .int a2, .int a3, .ref ou]) (n := 6) (Nat.le_of_ble_eq_true rfl)
  rw [lg_entry_eq]
  generalize (lg_sl ([.ref (Z 0), .int a1, .int a2, .int a3, .ref ou]) ++ List.replicate (6 - (lg_sl ([.ref (Z 0), .int a1, .int a2, .int a3, .ref ou])).length) Slot.unset).toArray = ls at hl ⊢
  have hl : lv_has ls 6 [(0, .ref (Z 0)), (1, .int a1), (2, .int a2), (3, .int a3), (4, .ref ou)] := hl
  have hD := w_self hD0
  have hS : va_S (w_A (wC Z cI cP p0 q0 g0 h0 S ++ oL ou cL f)) s.heap s.heap [] := va_S.rf
  have htb : c.exceptionTable.toList = tableOf [(0, 19, 22, 19), (0, 19, 26, 13), (0, 19, 30, 43)] := vx_table (x := y_L_answer) B (atoms_spec (ws := ws_L_answer) B.pre _ List.mem_cons_self)
  refine lv_aload hx hb d_L_answer_0 (lv_at hl 4 rfl) ?_
  refine lv_iconst (v := 0) hx hb d_L_answer_2 (by decide) ?_
  refine lv_aload_n hx hb d_L_answer_3 rfl (lv_at hl 0 rfl) ?_
  refine lv_iload_n hx hb d_L_answer_4 rfl (lv_at hl 1 rfl) ?_
  refine lv_iload_n hx hb d_L_answer_5 rfl (lv_at hl 2 rfl) ?_
  refine lv_iload_n hx hb d_L_answer_6 rfl (lv_at hl 3 rfl) ?_
  refine tx_catchV (As := [.int a1, .int a2, .int a3]) (rest := [.int 0, .ref ou]) (b := Z 0) (name := "java/lang/IllegalStateException") ⟨hx, hb, hml, hown, hts⟩ hM (cwV 3 hts (al_V k_362 k_363 k_364 k_1 k_365) rfl rfl rfl (by decide +kernel) ⟨Nat.le_of_ble_eq_true rfl, Nat.le_of_ble_eq_true rfl⟩) (fun U g mk a h => ⟨⟨h.1.1, va_K.moved (u := U) (U := U.calling g mk a) (Vm.Alike.refl U.vm) h.1.2⟩, xx_bl g mk a h.2⟩) (va_recv hK hP (ci := 2) (q0 := 0) rfl rfl) (fun U hU hW => ⟨⟨by rw [hU]; exact w_l hP, va_K.moved hW.alike (hK.sub [0, 1] rfl)⟩, xx_to hW (fun a _ => by rw [hU]) hxx⟩) rfl hl.1 rfl (lv_room (Nat.le_of_ble_eq_true rfl)) d_L_answer_7 ⟨Nat.le_of_ble_eq_true rfl, Nat.le_of_ble_eq_true rfl⟩ [] ⟨0, 19, 22, 19⟩ [⟨0, 19, 26, 13⟩, ⟨0, 19, 30, 43⟩] htb (fun z hz => nomatch hz) (by decide) (by decide) (hts _ k_264) (va_Nw.use rfl (hxx.1.1 "java/lang/IllegalStateException" (by simp))) (fun q9 H hz9 hk9 => ?_)
  have hP := hP.kept (fun k q hq => hk9 q.1 (hP k q hq).lt)
  have hS : va_S (w_A (wC Z cI cP p0 q0 g0 h0 S ++ oL ou cL f)) s.heap H [] := ⟨hz9, fun q h1 _ => hk9 q h1, fun z hz => nomatch hz⟩
  refine lv_astore (lv' := [(5, .ref q9), (0, .ref (Z 0)), (1, .int a1), (2, .int a2), (3, .int a3), (4, .ref ou)]) hx hb d_L_answer_22 hl (by decide) rfl (fun ls hl => ?_)
  refine lv_iconst (v := 1) hx hb d_L_answer_24 (by decide) ?_
  exact wr_i hx hb hr hlk hP hS d_L_answer_25
set_option maxRecDepth 100000 in
set_option maxHeartbeats 4000000 in
/-- the law's call of answer where it throws -/
theorem l_answer_IAE (l : Launch) (dC : Nat → ClassId) (dI : Nat → Nat → Nat) (Z : Nat → Nat) (cI cP cL : ClassId) (p0 q0 g0 h0 ou : Nat) (S : Nat → Nat → Int32) (f : Nat → Int64) (a1 a2 a3 : Int32) (hM : Tc l y_C_answer ws_C_answer 7 103 [.ref (Z 0), .int a1, .int a2, .int a3] (bX dC dI Z cI cP p0 q0 g0 h0 S) "java/lang/IllegalArgumentException") : Wp l y_L_answer ws_L_answer [.ref (Z 0), .int a1, .int a2, .int a3, .ref ou] dC dI (wC Z cI cP p0 q0 g0 h0 S ++ oL ou cL f) (wC Z cI cP p0 q0 g0 h0 (S) ++ oL ou cL (f)) (tysL cI cP cL) 2 := by
  refine va_MetW (hh := [(0, 19, 22, 19), (0, 19, 26, 13), (0, 19, 30, 43)]) (cc := b_L_answer) (maxL := 6) (ret := (some .int)) (by decide) rfl ?_
  intro p e s m args below meth c s₁ B hml hv
  obtain ⟨rfl, ⟨hP, hK, hD0⟩, hxx, hnc⟩ := hv
  have hx := B.exec
  have hb := B.bytes
  have hr := B.returns
  have hts : ∀ w ∈ AL, w.before ([.ref (Z 0), .int a1, .int a2, .int a3, .ref ou] : List Value).toArray s = true := fun w h => atoms_spec (ws := ws_L_answer) B.pre w (List.mem_cons_of_mem _ h)
  have hown : s.vm.findClass "DealtSecretLaw" = some m.cls := findClass_of_methodNamed B.named
  have hlk := B.notSynchronized
  have hl := lv_entry ([.ref (Z 0), .int a1, .int a2, .int a3, .ref ou]) (n := 6) (Nat.le_of_ble_eq_true rfl)
  rw [lg_entry_eq]
  generalize (lg_sl ([.ref (Z 0), .int a1, .int a2, .int a3, .ref ou]) ++ List.replicate (6 - (lg_sl ([.ref (Z 0), .int a1, .int a2, .int a3, .ref ou])).length) Slot.unset).toArray = ls at hl ⊢
  have hl : lv_has ls 6 [(0, .ref (Z 0)), (1, .int a1), (2, .int a2), (3, .int a3), (4, .ref ou)] := hl
  have hD := w_self hD0
  have hS : va_S (w_A (wC Z cI cP p0 q0 g0 h0 S ++ oL ou cL f)) s.heap s.heap [] := va_S.rf
  have htb : c.exceptionTable.toList = tableOf [(0, 19, 22, 19), (0, 19, 26, 13), (0, 19, 30, 43)] := vx_table (x := y_L_answer) B (atoms_spec (ws := ws_L_answer) B.pre _ List.mem_cons_self)
  refine lv_aload hx hb d_L_answer_0 (lv_at hl 4 rfl) ?_
  refine lv_iconst (v := 0) hx hb d_L_answer_2 (by decide) ?_
  refine lv_aload_n hx hb d_L_answer_3 rfl (lv_at hl 0 rfl) ?_
  refine lv_iload_n hx hb d_L_answer_4 rfl (lv_at hl 1 rfl) ?_
  refine lv_iload_n hx hb d_L_answer_5 rfl (lv_at hl 2 rfl) ?_
  refine lv_iload_n hx hb d_L_answer_6 rfl (lv_at hl 3 rfl) ?_
  refine tx_catchV (As := [.int a1, .int a2, .int a3]) (rest := [.int 0, .ref ou]) (b := Z 0) (name := "java/lang/IllegalArgumentException") ⟨hx, hb, hml, hown, hts⟩ hM (cwV 3 hts (al_V k_362 k_363 k_364 k_1 k_365) rfl rfl rfl (by decide +kernel) ⟨Nat.le_of_ble_eq_true rfl, Nat.le_of_ble_eq_true rfl⟩) (fun U g mk a h => ⟨⟨h.1.1, va_K.moved (u := U) (U := U.calling g mk a) (Vm.Alike.refl U.vm) h.1.2⟩, xx_bl g mk a h.2⟩) (va_recv hK hP (ci := 2) (q0 := 0) rfl rfl) (fun U hU hW => ⟨⟨by rw [hU]; exact w_l hP, va_K.moved hW.alike (hK.sub [0, 1] rfl)⟩, xx_to hW (fun a _ => by rw [hU]) hxx⟩) rfl hl.1 rfl (lv_room (Nat.le_of_ble_eq_true rfl)) d_L_answer_7 ⟨Nat.le_of_ble_eq_true rfl, Nat.le_of_ble_eq_true rfl⟩ [⟨0, 19, 22, 19⟩] ⟨0, 19, 26, 13⟩ [⟨0, 19, 30, 43⟩] htb (fun z hz => by simp only [List.mem_cons, List.not_mem_nil, or_false] at hz; rcases hz with rfl <;> first | exact Or.inr ⟨by decide, "java/lang/IllegalStateException", hts _ k_264, hnc.1⟩) (by decide) (by decide) (hts _ k_199) (va_Nw.use rfl (hxx.1.1 "java/lang/IllegalArgumentException" (by simp))) (fun q9 H hz9 hk9 => ?_)
  have hP := hP.kept (fun k q hq => hk9 q.1 (hP k q hq).lt)
  have hS : va_S (w_A (wC Z cI cP p0 q0 g0 h0 S ++ oL ou cL f)) s.heap H [] := ⟨hz9, fun q h1 _ => hk9 q h1, fun z hz => nomatch hz⟩
  refine lv_astore (lv' := [(5, .ref q9), (0, .ref (Z 0)), (1, .int a1), (2, .int a2), (3, .int a3), (4, .ref ou)]) hx hb d_L_answer_26 hl (by decide) rfl (fun ls hl => ?_)
  refine lv_iconst (v := 2) hx hb d_L_answer_28 (by decide) ?_
  exact wr_i hx hb hr hlk hP hS d_L_answer_29
set_option maxRecDepth 100000 in
set_option maxHeartbeats 4000000 in
/-- the law's call of answer where it throws -/
theorem l_answer_NSE (l : Launch) (dC : Nat → ClassId) (dI : Nat → Nat → Nat) (Z : Nat → Nat) (cI cP cL : ClassId) (p0 q0 g0 h0 ou : Nat) (S : Nat → Nat → Int32) (f : Nat → Int64) (a1 a2 a3 : Int32) (hM : Tc l y_C_answer ws_C_answer 7 103 [.ref (Z 0), .int a1, .int a2, .int a3] (bX dC dI Z cI cP p0 q0 g0 h0 S) "java/util/NoSuchElementException") : Wp l y_L_answer ws_L_answer [.ref (Z 0), .int a1, .int a2, .int a3, .ref ou] dC dI (wC Z cI cP p0 q0 g0 h0 S ++ oL ou cL f) (wC Z cI cP p0 q0 g0 h0 (S) ++ oL ou cL (f)) (tysL cI cP cL) 3 := by
  refine va_MetW (hh := [(0, 19, 22, 19), (0, 19, 26, 13), (0, 19, 30, 43)]) (cc := b_L_answer) (maxL := 6) (ret := (some .int)) (by decide) rfl ?_
  intro p e s m args below meth c s₁ B hml hv
  obtain ⟨rfl, ⟨hP, hK, hD0⟩, hxx, hnc⟩ := hv
  have hx := B.exec
  have hb := B.bytes
  have hr := B.returns
  have hts : ∀ w ∈ AL, w.before ([.ref (Z 0), .int a1, .int a2, .int a3, .ref ou] : List Value).toArray s = true := fun w h => atoms_spec (ws := ws_L_answer) B.pre w (List.mem_cons_of_mem _ h)
  have hown : s.vm.findClass "DealtSecretLaw" = some m.cls := findClass_of_methodNamed B.named
  have hlk := B.notSynchronized
  have hl := lv_entry ([.ref (Z 0), .int a1, .int a2, .int a3, .ref ou]) (n := 6) (Nat.le_of_ble_eq_true rfl)
  rw [lg_entry_eq]
  generalize (lg_sl ([.ref (Z 0), .int a1, .int a2, .int a3, .ref ou]) ++ List.replicate (6 - (lg_sl ([.ref (Z 0), .int a1, .int a2, .int a3, .ref ou])).length) Slot.unset).toArray = ls at hl ⊢
  have hl : lv_has ls 6 [(0, .ref (Z 0)), (1, .int a1), (2, .int a2), (3, .int a3), (4, .ref ou)] := hl
  have hD := w_self hD0
  have hS : va_S (w_A (wC Z cI cP p0 q0 g0 h0 S ++ oL ou cL f)) s.heap s.heap [] := va_S.rf
  have htb : c.exceptionTable.toList = tableOf [(0, 19, 22, 19), (0, 19, 26, 13), (0, 19, 30, 43)] := vx_table (x := y_L_answer) B (atoms_spec (ws := ws_L_answer) B.pre _ List.mem_cons_self)
  refine lv_aload hx hb d_L_answer_0 (lv_at hl 4 rfl) ?_
  refine lv_iconst (v := 0) hx hb d_L_answer_2 (by decide) ?_
  refine lv_aload_n hx hb d_L_answer_3 rfl (lv_at hl 0 rfl) ?_
  refine lv_iload_n hx hb d_L_answer_4 rfl (lv_at hl 1 rfl) ?_
  refine lv_iload_n hx hb d_L_answer_5 rfl (lv_at hl 2 rfl) ?_
  refine lv_iload_n hx hb d_L_answer_6 rfl (lv_at hl 3 rfl) ?_
  refine tx_catchV (As := [.int a1, .int a2, .int a3]) (rest := [.int 0, .ref ou]) (b := Z 0) (name := "java/util/NoSuchElementException") ⟨hx, hb, hml, hown, hts⟩ hM (cwV 3 hts (al_V k_362 k_363 k_364 k_1 k_365) rfl rfl rfl (by decide +kernel) ⟨Nat.le_of_ble_eq_true rfl, Nat.le_of_ble_eq_true rfl⟩) (fun U g mk a h => ⟨⟨h.1.1, va_K.moved (u := U) (U := U.calling g mk a) (Vm.Alike.refl U.vm) h.1.2⟩, xx_bl g mk a h.2⟩) (va_recv hK hP (ci := 2) (q0 := 0) rfl rfl) (fun U hU hW => ⟨⟨by rw [hU]; exact w_l hP, va_K.moved hW.alike (hK.sub [0, 1] rfl)⟩, xx_to hW (fun a _ => by rw [hU]) hxx⟩) rfl hl.1 rfl (lv_room (Nat.le_of_ble_eq_true rfl)) d_L_answer_7 ⟨Nat.le_of_ble_eq_true rfl, Nat.le_of_ble_eq_true rfl⟩ [⟨0, 19, 22, 19⟩, ⟨0, 19, 26, 13⟩] ⟨0, 19, 30, 43⟩ [] htb (fun z hz => by simp only [List.mem_cons, List.not_mem_nil, or_false] at hz; rcases hz with rfl | rfl <;> first | exact Or.inr ⟨by decide, "java/lang/IllegalStateException", hts _ k_264, hnc.2.1⟩ | exact Or.inr ⟨by decide, "java/lang/IllegalArgumentException", hts _ k_199, hnc.2.2⟩) (by decide) (by decide) (hts _ k_361) (va_Nw.use rfl (hxx.1.1 "java/util/NoSuchElementException" (by simp))) (fun q9 H hz9 hk9 => ?_)
  have hP := hP.kept (fun k q hq => hk9 q.1 (hP k q hq).lt)
  have hS : va_S (w_A (wC Z cI cP p0 q0 g0 h0 S ++ oL ou cL f)) s.heap H [] := ⟨hz9, fun q h1 _ => hk9 q h1, fun z hz => nomatch hz⟩
  refine lv_astore (lv' := [(5, .ref q9), (0, .ref (Z 0)), (1, .int a1), (2, .int a2), (3, .int a3), (4, .ref ou)]) hx hb d_L_answer_30 hl (by decide) rfl (fun ls hl => ?_)
  refine lv_iconst (v := 3) hx hb d_L_answer_32 (by decide) ?_
  exact wr_i hx hb hr hlk hP hS d_L_answer_33
set_option maxRecDepth 100000 in
set_option maxHeartbeats 4000000 in
/-- the law's call of opening where it throws -/
theorem l_open_ISE (l : Launch) (dC : Nat → ClassId) (dI : Nat → Nat → Nat) (Z : Nat → Nat) (cI cP cL : ClassId) (p0 q0 g0 h0 ou : Nat) (S : Nat → Nat → Int32) (f : Nat → Int64) (a1 : Int32) (hM : Tc l y_C_open ws_C_open 7 103 [.ref (Z 0), .int a1] (bX dC dI Z cI cP p0 q0 g0 h0 S) "java/lang/IllegalStateException") : Wp l y_L_open ws_L_open [.ref (Z 0), .int a1, .ref ou] dC dI (wC Z cI cP p0 q0 g0 h0 S ++ oL ou cL f) (wC Z cI cP p0 q0 g0 h0 (S) ++ oL ou cL (f)) (tysL cI cP cL) 1 := by
  refine va_MetW (hh := [(0, 16, 19, 19), (0, 16, 22, 13)]) (cc := b_L_open) (maxL := 4) (ret := (some .int)) (by decide) rfl ?_
  intro p e s m args below meth c s₁ B hml hv
  obtain ⟨rfl, ⟨hP, hK, hD0⟩, hxx, hnc⟩ := hv
  have hx := B.exec
  have hb := B.bytes
  have hr := B.returns
  have hts : ∀ w ∈ AL, w.before ([.ref (Z 0), .int a1, .ref ou] : List Value).toArray s = true := fun w h => atoms_spec (ws := ws_L_open) B.pre w (List.mem_cons_of_mem _ h)
  have hown : s.vm.findClass "DealtSecretLaw" = some m.cls := findClass_of_methodNamed B.named
  have hlk := B.notSynchronized
  have hl := lv_entry ([.ref (Z 0), .int a1, .ref ou]) (n := 4) (Nat.le_of_ble_eq_true rfl)
  rw [lg_entry_eq]
  generalize (lg_sl ([.ref (Z 0), .int a1, .ref ou]) ++ List.replicate (4 - (lg_sl ([.ref (Z 0), .int a1, .ref ou])).length) Slot.unset).toArray = ls at hl ⊢
  have hl : lv_has ls 4 [(0, .ref (Z 0)), (1, .int a1), (2, .ref ou)] := hl
  have hD := w_self hD0
  have hS : va_S (w_A (wC Z cI cP p0 q0 g0 h0 S ++ oL ou cL f)) s.heap s.heap [] := va_S.rf
  have htb : c.exceptionTable.toList = tableOf [(0, 16, 19, 19), (0, 16, 22, 13)] := vx_table (x := y_L_open) B (atoms_spec (ws := ws_L_open) B.pre _ List.mem_cons_self)
  refine lv_aload_n hx hb d_L_open_0 rfl (lv_at hl 2 rfl) ?_
  refine lv_iconst (v := 0) hx hb d_L_open_1 (by decide) ?_
  refine lv_aload_n hx hb d_L_open_2 rfl (lv_at hl 0 rfl) ?_
  refine lv_iload_n hx hb d_L_open_3 rfl (lv_at hl 1 rfl) ?_
  refine tx_catchV (As := [.int a1]) (rest := [.int 0, .ref ou]) (b := Z 0) (name := "java/lang/IllegalStateException") ⟨hx, hb, hml, hown, hts⟩ hM (cwV 1 hts (al_V k_381 k_382 k_383 k_1 k_384) rfl rfl rfl (by decide +kernel) ⟨Nat.le_of_ble_eq_true rfl, Nat.le_of_ble_eq_true rfl⟩) (fun U g mk a h => ⟨⟨h.1.1, va_K.moved (u := U) (U := U.calling g mk a) (Vm.Alike.refl U.vm) h.1.2⟩, xx_bl g mk a h.2⟩) (va_recv hK hP (ci := 2) (q0 := 0) rfl rfl) (fun U hU hW => ⟨⟨by rw [hU]; exact w_l hP, va_K.moved hW.alike (hK.sub [0, 1] rfl)⟩, xx_to hW (fun a _ => by rw [hU]) hxx⟩) rfl hl.1 rfl (lv_room (Nat.le_of_ble_eq_true rfl)) d_L_open_4 ⟨Nat.le_of_ble_eq_true rfl, Nat.le_of_ble_eq_true rfl⟩ [] ⟨0, 16, 19, 19⟩ [⟨0, 16, 22, 13⟩] htb (fun z hz => nomatch hz) (by decide) (by decide) (hts _ k_264) (va_Nw.use rfl (hxx.1.1 "java/lang/IllegalStateException" (by simp))) (fun q9 H hz9 hk9 => ?_)
  have hP := hP.kept (fun k q hq => hk9 q.1 (hP k q hq).lt)
  have hS : va_S (w_A (wC Z cI cP p0 q0 g0 h0 S ++ oL ou cL f)) s.heap H [] := ⟨hz9, fun q h1 _ => hk9 q h1, fun z hz => nomatch hz⟩
  refine lv_astore_n (lv' := [(3, .ref q9), (0, .ref (Z 0)), (1, .int a1), (2, .ref ou)]) hx hb d_L_open_19 rfl hl (by decide) rfl (fun ls hl => ?_)
  refine lv_iconst (v := 1) hx hb d_L_open_20 (by decide) ?_
  exact wr_i hx hb hr hlk hP hS d_L_open_21
set_option maxRecDepth 100000 in
set_option maxHeartbeats 4000000 in
/-- the law's call of opening where it throws -/
theorem l_open_IAE (l : Launch) (dC : Nat → ClassId) (dI : Nat → Nat → Nat) (Z : Nat → Nat) (cI cP cL : ClassId) (p0 q0 g0 h0 ou : Nat) (S : Nat → Nat → Int32) (f : Nat → Int64) (a1 : Int32) (hM : Tc l y_C_open ws_C_open 7 103 [.ref (Z 0), .int a1] (bX dC dI Z cI cP p0 q0 g0 h0 S) "java/lang/IllegalArgumentException") : Wp l y_L_open ws_L_open [.ref (Z 0), .int a1, .ref ou] dC dI (wC Z cI cP p0 q0 g0 h0 S ++ oL ou cL f) (wC Z cI cP p0 q0 g0 h0 (S) ++ oL ou cL (f)) (tysL cI cP cL) 2 := by
  refine va_MetW (hh := [(0, 16, 19, 19), (0, 16, 22, 13)]) (cc := b_L_open) (maxL := 4) (ret := (some .int)) (by decide) rfl ?_
  intro p e s m args below meth c s₁ B hml hv
  obtain ⟨rfl, ⟨hP, hK, hD0⟩, hxx, hnc⟩ := hv
  have hx := B.exec
  have hb := B.bytes
  have hr := B.returns
  have hts : ∀ w ∈ AL, w.before ([.ref (Z 0), .int a1, .ref ou] : List Value).toArray s = true := fun w h => atoms_spec (ws := ws_L_open) B.pre w (List.mem_cons_of_mem _ h)
  have hown : s.vm.findClass "DealtSecretLaw" = some m.cls := findClass_of_methodNamed B.named
  have hlk := B.notSynchronized
  have hl := lv_entry ([.ref (Z 0), .int a1, .ref ou]) (n := 4) (Nat.le_of_ble_eq_true rfl)
  rw [lg_entry_eq]
  generalize (lg_sl ([.ref (Z 0), .int a1, .ref ou]) ++ List.replicate (4 - (lg_sl ([.ref (Z 0), .int a1, .ref ou])).length) Slot.unset).toArray = ls at hl ⊢
  have hl : lv_has ls 4 [(0, .ref (Z 0)), (1, .int a1), (2, .ref ou)] := hl
  have hD := w_self hD0
  have hS : va_S (w_A (wC Z cI cP p0 q0 g0 h0 S ++ oL ou cL f)) s.heap s.heap [] := va_S.rf
  have htb : c.exceptionTable.toList = tableOf [(0, 16, 19, 19), (0, 16, 22, 13)] := vx_table (x := y_L_open) B (atoms_spec (ws := ws_L_open) B.pre _ List.mem_cons_self)
  refine lv_aload_n hx hb d_L_open_0 rfl (lv_at hl 2 rfl) ?_
  refine lv_iconst (v := 0) hx hb d_L_open_1 (by decide) ?_
  refine lv_aload_n hx hb d_L_open_2 rfl (lv_at hl 0 rfl) ?_
  refine lv_iload_n hx hb d_L_open_3 rfl (lv_at hl 1 rfl) ?_
  refine tx_catchV (As := [.int a1]) (rest := [.int 0, .ref ou]) (b := Z 0) (name := "java/lang/IllegalArgumentException") ⟨hx, hb, hml, hown, hts⟩ hM (cwV 1 hts (al_V k_381 k_382 k_383 k_1 k_384) rfl rfl rfl (by decide +kernel) ⟨Nat.le_of_ble_eq_true rfl, Nat.le_of_ble_eq_true rfl⟩) (fun U g mk a h => ⟨⟨h.1.1, va_K.moved (u := U) (U := U.calling g mk a) (Vm.Alike.refl U.vm) h.1.2⟩, xx_bl g mk a h.2⟩) (va_recv hK hP (ci := 2) (q0 := 0) rfl rfl) (fun U hU hW => ⟨⟨by rw [hU]; exact w_l hP, va_K.moved hW.alike (hK.sub [0, 1] rfl)⟩, xx_to hW (fun a _ => by rw [hU]) hxx⟩) rfl hl.1 rfl (lv_room (Nat.le_of_ble_eq_true rfl)) d_L_open_4 ⟨Nat.le_of_ble_eq_true rfl, Nat.le_of_ble_eq_true rfl⟩ [⟨0, 16, 19, 19⟩] ⟨0, 16, 22, 13⟩ [] htb (fun z hz => by simp only [List.mem_cons, List.not_mem_nil, or_false] at hz; rcases hz with rfl <;> first | exact Or.inr ⟨by decide, "java/lang/IllegalStateException", hts _ k_264, hnc.1⟩) (by decide) (by decide) (hts _ k_199) (va_Nw.use rfl (hxx.1.1 "java/lang/IllegalArgumentException" (by simp))) (fun q9 H hz9 hk9 => ?_)
  have hP := hP.kept (fun k q hq => hk9 q.1 (hP k q hq).lt)
  have hS : va_S (w_A (wC Z cI cP p0 q0 g0 h0 S ++ oL ou cL f)) s.heap H [] := ⟨hz9, fun q h1 _ => hk9 q h1, fun z hz => nomatch hz⟩
  refine lv_astore_n (lv' := [(3, .ref q9), (0, .ref (Z 0)), (1, .int a1), (2, .ref ou)]) hx hb d_L_open_22 rfl hl (by decide) rfl (fun ls hl => ?_)
  refine lv_iconst (v := 2) hx hb d_L_open_23 (by decide) ?_
  exact wr_i hx hb hr hlk hP hS d_L_open_24
set_option maxRecDepth 100000 in
set_option maxHeartbeats 4000000 in
/-- the law's call of show where it throws -/
theorem l_show_ISE (l : Launch) (dC : Nat → ClassId) (dI : Nat → Nat → Nat) (Z : Nat → Nat) (cI cP cL : ClassId) (p0 q0 g0 h0 ou : Nat) (S : Nat → Nat → Int32) (f : Nat → Int64) (a1 a2 a3 : Int32) (hM : Tc l y_C_show ws_C_show 7 103 [.ref (Z 0), .int a1, .int a2, .int a3] (bX dC dI Z cI cP p0 q0 g0 h0 S) "java/lang/IllegalStateException") : Wp l y_L_show ws_L_show [.ref (Z 0), .int a1, .int a2, .int a3, .ref ou] dC dI (wC Z cI cP p0 q0 g0 h0 S ++ oL ou cL f) (wC Z cI cP p0 q0 g0 h0 (S) ++ oL ou cL (f)) (tysL cI cP cL) 1 := by
  refine va_MetW (hh := [(0, 19, 22, 19), (0, 19, 26, 13)]) (cc := b_L_show) (maxL := 6) (ret := (some .int)) (by decide) rfl ?_
  intro p e s m args below meth c s₁ B hml hv
  obtain ⟨rfl, ⟨hP, hK, hD0⟩, hxx, hnc⟩ := hv
  have hx := B.exec
  have hb := B.bytes
  have hr := B.returns
  have hts : ∀ w ∈ AL, w.before ([.ref (Z 0), .int a1, .int a2, .int a3, .ref ou] : List Value).toArray s = true := fun w h => atoms_spec (ws := ws_L_show) B.pre w (List.mem_cons_of_mem _ h)
  have hown : s.vm.findClass "DealtSecretLaw" = some m.cls := findClass_of_methodNamed B.named
  have hlk := B.notSynchronized
  have hl := lv_entry ([.ref (Z 0), .int a1, .int a2, .int a3, .ref ou]) (n := 6) (Nat.le_of_ble_eq_true rfl)
  rw [lg_entry_eq]
  generalize (lg_sl ([.ref (Z 0), .int a1, .int a2, .int a3, .ref ou]) ++ List.replicate (6 - (lg_sl ([.ref (Z 0), .int a1, .int a2, .int a3, .ref ou])).length) Slot.unset).toArray = ls at hl ⊢
  have hl : lv_has ls 6 [(0, .ref (Z 0)), (1, .int a1), (2, .int a2), (3, .int a3), (4, .ref ou)] := hl
  have hD := w_self hD0
  have hS : va_S (w_A (wC Z cI cP p0 q0 g0 h0 S ++ oL ou cL f)) s.heap s.heap [] := va_S.rf
  have htb : c.exceptionTable.toList = tableOf [(0, 19, 22, 19), (0, 19, 26, 13)] := vx_table (x := y_L_show) B (atoms_spec (ws := ws_L_show) B.pre _ List.mem_cons_self)
  refine lv_aload hx hb d_L_show_0 (lv_at hl 4 rfl) ?_
  refine lv_iconst (v := 0) hx hb d_L_show_2 (by decide) ?_
  refine lv_aload_n hx hb d_L_show_3 rfl (lv_at hl 0 rfl) ?_
  refine lv_iload_n hx hb d_L_show_4 rfl (lv_at hl 1 rfl) ?_
  refine lv_iload_n hx hb d_L_show_5 rfl (lv_at hl 2 rfl) ?_
  refine lv_iload_n hx hb d_L_show_6 rfl (lv_at hl 3 rfl) ?_
  refine tx_catchV (As := [.int a1, .int a2, .int a3]) (rest := [.int 0, .ref ou]) (b := Z 0) (name := "java/lang/IllegalStateException") ⟨hx, hb, hml, hown, hts⟩ hM (cwV 3 hts (al_V k_404 k_405 k_406 k_1 k_407) rfl rfl rfl (by decide +kernel) ⟨Nat.le_of_ble_eq_true rfl, Nat.le_of_ble_eq_true rfl⟩) (fun U g mk a h => ⟨⟨h.1.1, va_K.moved (u := U) (U := U.calling g mk a) (Vm.Alike.refl U.vm) h.1.2⟩, xx_bl g mk a h.2⟩) (va_recv hK hP (ci := 2) (q0 := 0) rfl rfl) (fun U hU hW => ⟨⟨by rw [hU]; exact w_l hP, va_K.moved hW.alike (hK.sub [0, 1] rfl)⟩, xx_to hW (fun a _ => by rw [hU]) hxx⟩) rfl hl.1 rfl (lv_room (Nat.le_of_ble_eq_true rfl)) d_L_show_7 ⟨Nat.le_of_ble_eq_true rfl, Nat.le_of_ble_eq_true rfl⟩ [] ⟨0, 19, 22, 19⟩ [⟨0, 19, 26, 13⟩] htb (fun z hz => nomatch hz) (by decide) (by decide) (hts _ k_264) (va_Nw.use rfl (hxx.1.1 "java/lang/IllegalStateException" (by simp))) (fun q9 H hz9 hk9 => ?_)
  have hP := hP.kept (fun k q hq => hk9 q.1 (hP k q hq).lt)
  have hS : va_S (w_A (wC Z cI cP p0 q0 g0 h0 S ++ oL ou cL f)) s.heap H [] := ⟨hz9, fun q h1 _ => hk9 q h1, fun z hz => nomatch hz⟩
  refine lv_astore (lv' := [(5, .ref q9), (0, .ref (Z 0)), (1, .int a1), (2, .int a2), (3, .int a3), (4, .ref ou)]) hx hb d_L_show_22 hl (by decide) rfl (fun ls hl => ?_)
  refine lv_iconst (v := 1) hx hb d_L_show_24 (by decide) ?_
  exact wr_i hx hb hr hlk hP hS d_L_show_25
set_option maxRecDepth 100000 in
set_option maxHeartbeats 4000000 in
/-- the law's call of show where it throws -/
theorem l_show_IAE (l : Launch) (dC : Nat → ClassId) (dI : Nat → Nat → Nat) (Z : Nat → Nat) (cI cP cL : ClassId) (p0 q0 g0 h0 ou : Nat) (S : Nat → Nat → Int32) (f : Nat → Int64) (a1 a2 a3 : Int32) (hM : Tc l y_C_show ws_C_show 7 103 [.ref (Z 0), .int a1, .int a2, .int a3] (bX dC dI Z cI cP p0 q0 g0 h0 S) "java/lang/IllegalArgumentException") : Wp l y_L_show ws_L_show [.ref (Z 0), .int a1, .int a2, .int a3, .ref ou] dC dI (wC Z cI cP p0 q0 g0 h0 S ++ oL ou cL f) (wC Z cI cP p0 q0 g0 h0 (S) ++ oL ou cL (f)) (tysL cI cP cL) 2 := by
  refine va_MetW (hh := [(0, 19, 22, 19), (0, 19, 26, 13)]) (cc := b_L_show) (maxL := 6) (ret := (some .int)) (by decide) rfl ?_
  intro p e s m args below meth c s₁ B hml hv
  obtain ⟨rfl, ⟨hP, hK, hD0⟩, hxx, hnc⟩ := hv
  have hx := B.exec
  have hb := B.bytes
  have hr := B.returns
  have hts : ∀ w ∈ AL, w.before ([.ref (Z 0), .int a1, .int a2, .int a3, .ref ou] : List Value).toArray s = true := fun w h => atoms_spec (ws := ws_L_show) B.pre w (List.mem_cons_of_mem _ h)
  have hown : s.vm.findClass "DealtSecretLaw" = some m.cls := findClass_of_methodNamed B.named
  have hlk := B.notSynchronized
  have hl := lv_entry ([.ref (Z 0), .int a1, .int a2, .int a3, .ref ou]) (n := 6) (Nat.le_of_ble_eq_true rfl)
  rw [lg_entry_eq]
  generalize (lg_sl ([.ref (Z 0), .int a1, .int a2, .int a3, .ref ou]) ++ List.replicate (6 - (lg_sl ([.ref (Z 0), .int a1, .int a2, .int a3, .ref ou])).length) Slot.unset).toArray = ls at hl ⊢
  have hl : lv_has ls 6 [(0, .ref (Z 0)), (1, .int a1), (2, .int a2), (3, .int a3), (4, .ref ou)] := hl
  have hD := w_self hD0
  have hS : va_S (w_A (wC Z cI cP p0 q0 g0 h0 S ++ oL ou cL f)) s.heap s.heap [] := va_S.rf
  have htb : c.exceptionTable.toList = tableOf [(0, 19, 22, 19), (0, 19, 26, 13)] := vx_table (x := y_L_show) B (atoms_spec (ws := ws_L_show) B.pre _ List.mem_cons_self)
  refine lv_aload hx hb d_L_show_0 (lv_at hl 4 rfl) ?_
  refine lv_iconst (v := 0) hx hb d_L_show_2 (by decide) ?_
  refine lv_aload_n hx hb d_L_show_3 rfl (lv_at hl 0 rfl) ?_
  refine lv_iload_n hx hb d_L_show_4 rfl (lv_at hl 1 rfl) ?_
  refine lv_iload_n hx hb d_L_show_5 rfl (lv_at hl 2 rfl) ?_
  refine lv_iload_n hx hb d_L_show_6 rfl (lv_at hl 3 rfl) ?_
  refine tx_catchV (As := [.int a1, .int a2, .int a3]) (rest := [.int 0, .ref ou]) (b := Z 0) (name := "java/lang/IllegalArgumentException") ⟨hx, hb, hml, hown, hts⟩ hM (cwV 3 hts (al_V k_404 k_405 k_406 k_1 k_407) rfl rfl rfl (by decide +kernel) ⟨Nat.le_of_ble_eq_true rfl, Nat.le_of_ble_eq_true rfl⟩) (fun U g mk a h => ⟨⟨h.1.1, va_K.moved (u := U) (U := U.calling g mk a) (Vm.Alike.refl U.vm) h.1.2⟩, xx_bl g mk a h.2⟩) (va_recv hK hP (ci := 2) (q0 := 0) rfl rfl) (fun U hU hW => ⟨⟨by rw [hU]; exact w_l hP, va_K.moved hW.alike (hK.sub [0, 1] rfl)⟩, xx_to hW (fun a _ => by rw [hU]) hxx⟩) rfl hl.1 rfl (lv_room (Nat.le_of_ble_eq_true rfl)) d_L_show_7 ⟨Nat.le_of_ble_eq_true rfl, Nat.le_of_ble_eq_true rfl⟩ [⟨0, 19, 22, 19⟩] ⟨0, 19, 26, 13⟩ [] htb (fun z hz => by simp only [List.mem_cons, List.not_mem_nil, or_false] at hz; rcases hz with rfl <;> first | exact Or.inr ⟨by decide, "java/lang/IllegalStateException", hts _ k_264, hnc.1⟩) (by decide) (by decide) (hts _ k_199) (va_Nw.use rfl (hxx.1.1 "java/lang/IllegalArgumentException" (by simp))) (fun q9 H hz9 hk9 => ?_)
  have hP := hP.kept (fun k q hq => hk9 q.1 (hP k q hq).lt)
  have hS : va_S (w_A (wC Z cI cP p0 q0 g0 h0 S ++ oL ou cL f)) s.heap H [] := ⟨hz9, fun q h1 _ => hk9 q h1, fun z hz => nomatch hz⟩
  refine lv_astore (lv' := [(5, .ref q9), (0, .ref (Z 0)), (1, .int a1), (2, .int a2), (3, .int a3), (4, .ref ou)]) hx hb d_L_show_26 hl (by decide) rfl (fun ls hl => ?_)
  refine lv_iconst (v := 2) hx hb d_L_show_28 (by decide) ?_
  exact wr_i hx hb hr hlk hP hS d_L_show_29
set_option maxRecDepth 100000 in
set_option maxHeartbeats 4000000 in
/-- the law's call of secret where it throws -/
theorem l_secret_ISE (l : Launch) (dC : Nat → ClassId) (dI : Nat → Nat → Nat) (Z : Nat → Nat) (cI cP cL : ClassId) (p0 q0 g0 h0 ou : Nat) (S : Nat → Nat → Int32) (f : Nat → Int64) (hM : Tc l y_C_secret ws_C_secret 7 103 [.ref (Z 0)] (bX dC dI Z cI cP p0 q0 g0 h0 S) "java/lang/IllegalStateException") : Wp l y_L_secret ws_L_secret [.ref (Z 0), .ref ou] dC dI (wC Z cI cP p0 q0 g0 h0 S ++ oL ou cL f) (wC Z cI cP p0 q0 g0 h0 (S) ++ oL ou cL (f)) (tysL cI cP cL) 1 := by
  refine va_MetW (hh := [(0, 8, 11, 19), (0, 8, 14, 43)]) (cc := b_L_secret) (maxL := 3) (ret := (some .int)) (by decide) rfl ?_
  intro p e s m args below meth c s₁ B hml hv
  obtain ⟨rfl, ⟨hP, hK, hD0⟩, hxx, hnc⟩ := hv
  have hx := B.exec
  have hb := B.bytes
  have hr := B.returns
  have hts : ∀ w ∈ AL, w.before ([.ref (Z 0), .ref ou] : List Value).toArray s = true := fun w h => atoms_spec (ws := ws_L_secret) B.pre w (List.mem_cons_of_mem _ h)
  have hown : s.vm.findClass "DealtSecretLaw" = some m.cls := findClass_of_methodNamed B.named
  have hlk := B.notSynchronized
  have hl := lv_entry ([.ref (Z 0), .ref ou]) (n := 3) (Nat.le_of_ble_eq_true rfl)
  rw [lg_entry_eq]
  generalize (lg_sl ([.ref (Z 0), .ref ou]) ++ List.replicate (3 - (lg_sl ([.ref (Z 0), .ref ou])).length) Slot.unset).toArray = ls at hl ⊢
  have hl : lv_has ls 3 [(0, .ref (Z 0)), (1, .ref ou)] := hl
  have hD := w_self hD0
  have hS : va_S (w_A (wC Z cI cP p0 q0 g0 h0 S ++ oL ou cL f)) s.heap s.heap [] := va_S.rf
  have htb : c.exceptionTable.toList = tableOf [(0, 8, 11, 19), (0, 8, 14, 43)] := vx_table (x := y_L_secret) B (atoms_spec (ws := ws_L_secret) B.pre _ List.mem_cons_self)
  refine lv_aload_n hx hb d_L_secret_0 rfl (lv_at hl 1 rfl) ?_
  refine lv_iconst (v := 0) hx hb d_L_secret_1 (by decide) ?_
  refine lv_aload_n hx hb d_L_secret_2 rfl (lv_at hl 0 rfl) ?_
  refine tx_catchV (As := []) (rest := [.int 0, .ref ou]) (b := Z 0) (name := "java/lang/IllegalStateException") ⟨hx, hb, hml, hown, hts⟩ hM (cwV 0 hts (al_V k_410 k_411 k_412 k_1 k_413) rfl rfl rfl (by decide +kernel) ⟨Nat.le_of_ble_eq_true rfl, Nat.le_of_ble_eq_true rfl⟩) (fun U g mk a h => ⟨⟨h.1.1, va_K.moved (u := U) (U := U.calling g mk a) (Vm.Alike.refl U.vm) h.1.2⟩, xx_bl g mk a h.2⟩) (va_recv hK hP (ci := 2) (q0 := 0) rfl rfl) (fun U hU hW => ⟨⟨by rw [hU]; exact w_l hP, va_K.moved hW.alike (hK.sub [0, 1] rfl)⟩, xx_to hW (fun a _ => by rw [hU]) hxx⟩) rfl hl.1 rfl (lv_room (Nat.le_of_ble_eq_true rfl)) d_L_secret_3 ⟨Nat.le_of_ble_eq_true rfl, Nat.le_of_ble_eq_true rfl⟩ [] ⟨0, 8, 11, 19⟩ [⟨0, 8, 14, 43⟩] htb (fun z hz => nomatch hz) (by decide) (by decide) (hts _ k_264) (va_Nw.use rfl (hxx.1.1 "java/lang/IllegalStateException" (by simp))) (fun q9 H hz9 hk9 => ?_)
  have hP := hP.kept (fun k q hq => hk9 q.1 (hP k q hq).lt)
  have hS : va_S (w_A (wC Z cI cP p0 q0 g0 h0 S ++ oL ou cL f)) s.heap H [] := ⟨hz9, fun q h1 _ => hk9 q h1, fun z hz => nomatch hz⟩
  refine lv_astore_n (lv' := [(2, .ref q9), (0, .ref (Z 0)), (1, .ref ou)]) hx hb d_L_secret_11 rfl hl (by decide) rfl (fun ls hl => ?_)
  refine lv_iconst (v := 1) hx hb d_L_secret_12 (by decide) ?_
  exact wr_i hx hb hr hlk hP hS d_L_secret_13
set_option maxRecDepth 100000 in
set_option maxHeartbeats 4000000 in
/-- the law's call of secret where it throws -/
theorem l_secret_NSE (l : Launch) (dC : Nat → ClassId) (dI : Nat → Nat → Nat) (Z : Nat → Nat) (cI cP cL : ClassId) (p0 q0 g0 h0 ou : Nat) (S : Nat → Nat → Int32) (f : Nat → Int64) (hM : Tc l y_C_secret ws_C_secret 7 103 [.ref (Z 0)] (bX dC dI Z cI cP p0 q0 g0 h0 S) "java/util/NoSuchElementException") : Wp l y_L_secret ws_L_secret [.ref (Z 0), .ref ou] dC dI (wC Z cI cP p0 q0 g0 h0 S ++ oL ou cL f) (wC Z cI cP p0 q0 g0 h0 (S) ++ oL ou cL (f)) (tysL cI cP cL) 2 := by
  refine va_MetW (hh := [(0, 8, 11, 19), (0, 8, 14, 43)]) (cc := b_L_secret) (maxL := 3) (ret := (some .int)) (by decide) rfl ?_
  intro p e s m args below meth c s₁ B hml hv
  obtain ⟨rfl, ⟨hP, hK, hD0⟩, hxx, hnc⟩ := hv
  have hx := B.exec
  have hb := B.bytes
  have hr := B.returns
  have hts : ∀ w ∈ AL, w.before ([.ref (Z 0), .ref ou] : List Value).toArray s = true := fun w h => atoms_spec (ws := ws_L_secret) B.pre w (List.mem_cons_of_mem _ h)
  have hown : s.vm.findClass "DealtSecretLaw" = some m.cls := findClass_of_methodNamed B.named
  have hlk := B.notSynchronized
  have hl := lv_entry ([.ref (Z 0), .ref ou]) (n := 3) (Nat.le_of_ble_eq_true rfl)
  rw [lg_entry_eq]
  generalize (lg_sl ([.ref (Z 0), .ref ou]) ++ List.replicate (3 - (lg_sl ([.ref (Z 0), .ref ou])).length) Slot.unset).toArray = ls at hl ⊢
  have hl : lv_has ls 3 [(0, .ref (Z 0)), (1, .ref ou)] := hl
  have hD := w_self hD0
  have hS : va_S (w_A (wC Z cI cP p0 q0 g0 h0 S ++ oL ou cL f)) s.heap s.heap [] := va_S.rf
  have htb : c.exceptionTable.toList = tableOf [(0, 8, 11, 19), (0, 8, 14, 43)] := vx_table (x := y_L_secret) B (atoms_spec (ws := ws_L_secret) B.pre _ List.mem_cons_self)
  refine lv_aload_n hx hb d_L_secret_0 rfl (lv_at hl 1 rfl) ?_
  refine lv_iconst (v := 0) hx hb d_L_secret_1 (by decide) ?_
  refine lv_aload_n hx hb d_L_secret_2 rfl (lv_at hl 0 rfl) ?_
  refine tx_catchV (As := []) (rest := [.int 0, .ref ou]) (b := Z 0) (name := "java/util/NoSuchElementException") ⟨hx, hb, hml, hown, hts⟩ hM (cwV 0 hts (al_V k_410 k_411 k_412 k_1 k_413) rfl rfl rfl (by decide +kernel) ⟨Nat.le_of_ble_eq_true rfl, Nat.le_of_ble_eq_true rfl⟩) (fun U g mk a h => ⟨⟨h.1.1, va_K.moved (u := U) (U := U.calling g mk a) (Vm.Alike.refl U.vm) h.1.2⟩, xx_bl g mk a h.2⟩) (va_recv hK hP (ci := 2) (q0 := 0) rfl rfl) (fun U hU hW => ⟨⟨by rw [hU]; exact w_l hP, va_K.moved hW.alike (hK.sub [0, 1] rfl)⟩, xx_to hW (fun a _ => by rw [hU]) hxx⟩) rfl hl.1 rfl (lv_room (Nat.le_of_ble_eq_true rfl)) d_L_secret_3 ⟨Nat.le_of_ble_eq_true rfl, Nat.le_of_ble_eq_true rfl⟩ [⟨0, 8, 11, 19⟩] ⟨0, 8, 14, 43⟩ [] htb (fun z hz => by simp only [List.mem_cons, List.not_mem_nil, or_false] at hz; rcases hz with rfl <;> first | exact Or.inr ⟨by decide, "java/lang/IllegalStateException", hts _ k_264, hnc.2.1⟩) (by decide) (by decide) (hts _ k_361) (va_Nw.use rfl (hxx.1.1 "java/util/NoSuchElementException" (by simp))) (fun q9 H hz9 hk9 => ?_)
  have hP := hP.kept (fun k q hq => hk9 q.1 (hP k q hq).lt)
  have hS : va_S (w_A (wC Z cI cP p0 q0 g0 h0 S ++ oL ou cL f)) s.heap H [] := ⟨hz9, fun q h1 _ => hk9 q h1, fun z hz => nomatch hz⟩
  refine lv_astore_n (lv' := [(2, .ref q9), (0, .ref (Z 0)), (1, .ref ou)]) hx hb d_L_secret_14 rfl hl (by decide) rfl (fun ls hl => ?_)
  refine lv_iconst (v := 2) hx hb d_L_secret_15 (by decide) ?_
  exact wr_i hx hb hr hlk hP hS d_L_secret_16
set_option maxRecDepth 100000 in
set_option maxHeartbeats 4000000 in
/-- the law's call of relation where it throws -/
theorem l_relation_ISE (l : Launch) (dC : Nat → ClassId) (dI : Nat → Nat → Nat) (Z : Nat → Nat) (cI cP cL : ClassId) (p0 q0 g0 h0 ou : Nat) (S : Nat → Nat → Int32) (f : Nat → Int64) (hM : Tc l y_C_relation ws_C_relation 7 103 [.ref (Z 0)] (bX dC dI Z cI cP p0 q0 g0 h0 S) "java/lang/IllegalStateException") : Wp l y_L_relation ws_L_relation [.ref (Z 0), .ref ou] dC dI (wC Z cI cP p0 q0 g0 h0 S ++ oL ou cL f) (wC Z cI cP p0 q0 g0 h0 (S) ++ oL ou cL (f)) (tysL cI cP cL) 1 := by
  refine va_MetW (hh := [(0, 8, 11, 19), (0, 8, 14, 43)]) (cc := b_L_relation) (maxL := 3) (ret := (some .int)) (by decide) rfl ?_
  intro p e s m args below meth c s₁ B hml hv
  obtain ⟨rfl, ⟨hP, hK, hD0⟩, hxx, hnc⟩ := hv
  have hx := B.exec
  have hb := B.bytes
  have hr := B.returns
  have hts : ∀ w ∈ AL, w.before ([.ref (Z 0), .ref ou] : List Value).toArray s = true := fun w h => atoms_spec (ws := ws_L_relation) B.pre w (List.mem_cons_of_mem _ h)
  have hown : s.vm.findClass "DealtSecretLaw" = some m.cls := findClass_of_methodNamed B.named
  have hlk := B.notSynchronized
  have hl := lv_entry ([.ref (Z 0), .ref ou]) (n := 3) (Nat.le_of_ble_eq_true rfl)
  rw [lg_entry_eq]
  generalize (lg_sl ([.ref (Z 0), .ref ou]) ++ List.replicate (3 - (lg_sl ([.ref (Z 0), .ref ou])).length) Slot.unset).toArray = ls at hl ⊢
  have hl : lv_has ls 3 [(0, .ref (Z 0)), (1, .ref ou)] := hl
  have hD := w_self hD0
  have hS : va_S (w_A (wC Z cI cP p0 q0 g0 h0 S ++ oL ou cL f)) s.heap s.heap [] := va_S.rf
  have htb : c.exceptionTable.toList = tableOf [(0, 8, 11, 19), (0, 8, 14, 43)] := vx_table (x := y_L_relation) B (atoms_spec (ws := ws_L_relation) B.pre _ List.mem_cons_self)
  refine lv_aload_n hx hb d_L_relation_0 rfl (lv_at hl 1 rfl) ?_
  refine lv_iconst (v := 0) hx hb d_L_relation_1 (by decide) ?_
  refine lv_aload_n hx hb d_L_relation_2 rfl (lv_at hl 0 rfl) ?_
  refine tx_catchV (As := []) (rest := [.int 0, .ref ou]) (b := Z 0) (name := "java/lang/IllegalStateException") ⟨hx, hb, hml, hown, hts⟩ hM (cwV 0 hts (al_V k_423 k_424 k_425 k_1 k_426) rfl rfl rfl (by decide +kernel) ⟨Nat.le_of_ble_eq_true rfl, Nat.le_of_ble_eq_true rfl⟩) (fun U g mk a h => ⟨⟨h.1.1, va_K.moved (u := U) (U := U.calling g mk a) (Vm.Alike.refl U.vm) h.1.2⟩, xx_bl g mk a h.2⟩) (va_recv hK hP (ci := 2) (q0 := 0) rfl rfl) (fun U hU hW => ⟨⟨by rw [hU]; exact w_l hP, va_K.moved hW.alike (hK.sub [0, 1] rfl)⟩, xx_to hW (fun a _ => by rw [hU]) hxx⟩) rfl hl.1 rfl (lv_room (Nat.le_of_ble_eq_true rfl)) d_L_relation_3 ⟨Nat.le_of_ble_eq_true rfl, Nat.le_of_ble_eq_true rfl⟩ [] ⟨0, 8, 11, 19⟩ [⟨0, 8, 14, 43⟩] htb (fun z hz => nomatch hz) (by decide) (by decide) (hts _ k_264) (va_Nw.use rfl (hxx.1.1 "java/lang/IllegalStateException" (by simp))) (fun q9 H hz9 hk9 => ?_)
  have hP := hP.kept (fun k q hq => hk9 q.1 (hP k q hq).lt)
  have hS : va_S (w_A (wC Z cI cP p0 q0 g0 h0 S ++ oL ou cL f)) s.heap H [] := ⟨hz9, fun q h1 _ => hk9 q h1, fun z hz => nomatch hz⟩
  refine lv_astore_n (lv' := [(2, .ref q9), (0, .ref (Z 0)), (1, .ref ou)]) hx hb d_L_relation_11 rfl hl (by decide) rfl (fun ls hl => ?_)
  refine lv_iconst (v := 1) hx hb d_L_relation_12 (by decide) ?_
  exact wr_i hx hb hr hlk hP hS d_L_relation_13
set_option maxRecDepth 100000 in
set_option maxHeartbeats 4000000 in
/-- the law's call of relation where it throws -/
theorem l_relation_NSE (l : Launch) (dC : Nat → ClassId) (dI : Nat → Nat → Nat) (Z : Nat → Nat) (cI cP cL : ClassId) (p0 q0 g0 h0 ou : Nat) (S : Nat → Nat → Int32) (f : Nat → Int64) (hM : Tc l y_C_relation ws_C_relation 7 103 [.ref (Z 0)] (bX dC dI Z cI cP p0 q0 g0 h0 S) "java/util/NoSuchElementException") : Wp l y_L_relation ws_L_relation [.ref (Z 0), .ref ou] dC dI (wC Z cI cP p0 q0 g0 h0 S ++ oL ou cL f) (wC Z cI cP p0 q0 g0 h0 (S) ++ oL ou cL (f)) (tysL cI cP cL) 2 := by
  refine va_MetW (hh := [(0, 8, 11, 19), (0, 8, 14, 43)]) (cc := b_L_relation) (maxL := 3) (ret := (some .int)) (by decide) rfl ?_
  intro p e s m args below meth c s₁ B hml hv
  obtain ⟨rfl, ⟨hP, hK, hD0⟩, hxx, hnc⟩ := hv
  have hx := B.exec
  have hb := B.bytes
  have hr := B.returns
  have hts : ∀ w ∈ AL, w.before ([.ref (Z 0), .ref ou] : List Value).toArray s = true := fun w h => atoms_spec (ws := ws_L_relation) B.pre w (List.mem_cons_of_mem _ h)
  have hown : s.vm.findClass "DealtSecretLaw" = some m.cls := findClass_of_methodNamed B.named
  have hlk := B.notSynchronized
  have hl := lv_entry ([.ref (Z 0), .ref ou]) (n := 3) (Nat.le_of_ble_eq_true rfl)
  rw [lg_entry_eq]
  generalize (lg_sl ([.ref (Z 0), .ref ou]) ++ List.replicate (3 - (lg_sl ([.ref (Z 0), .ref ou])).length) Slot.unset).toArray = ls at hl ⊢
  have hl : lv_has ls 3 [(0, .ref (Z 0)), (1, .ref ou)] := hl
  have hD := w_self hD0
  have hS : va_S (w_A (wC Z cI cP p0 q0 g0 h0 S ++ oL ou cL f)) s.heap s.heap [] := va_S.rf
  have htb : c.exceptionTable.toList = tableOf [(0, 8, 11, 19), (0, 8, 14, 43)] := vx_table (x := y_L_relation) B (atoms_spec (ws := ws_L_relation) B.pre _ List.mem_cons_self)
  refine lv_aload_n hx hb d_L_relation_0 rfl (lv_at hl 1 rfl) ?_
  refine lv_iconst (v := 0) hx hb d_L_relation_1 (by decide) ?_
  refine lv_aload_n hx hb d_L_relation_2 rfl (lv_at hl 0 rfl) ?_
  refine tx_catchV (As := []) (rest := [.int 0, .ref ou]) (b := Z 0) (name := "java/util/NoSuchElementException") ⟨hx, hb, hml, hown, hts⟩ hM (cwV 0 hts (al_V k_423 k_424 k_425 k_1 k_426) rfl rfl rfl (by decide +kernel) ⟨Nat.le_of_ble_eq_true rfl, Nat.le_of_ble_eq_true rfl⟩) (fun U g mk a h => ⟨⟨h.1.1, va_K.moved (u := U) (U := U.calling g mk a) (Vm.Alike.refl U.vm) h.1.2⟩, xx_bl g mk a h.2⟩) (va_recv hK hP (ci := 2) (q0 := 0) rfl rfl) (fun U hU hW => ⟨⟨by rw [hU]; exact w_l hP, va_K.moved hW.alike (hK.sub [0, 1] rfl)⟩, xx_to hW (fun a _ => by rw [hU]) hxx⟩) rfl hl.1 rfl (lv_room (Nat.le_of_ble_eq_true rfl)) d_L_relation_3 ⟨Nat.le_of_ble_eq_true rfl, Nat.le_of_ble_eq_true rfl⟩ [⟨0, 8, 11, 19⟩] ⟨0, 8, 14, 43⟩ [] htb (fun z hz => by simp only [List.mem_cons, List.not_mem_nil, or_false] at hz; rcases hz with rfl <;> first | exact Or.inr ⟨by decide, "java/lang/IllegalStateException", hts _ k_264, hnc.2.1⟩) (by decide) (by decide) (hts _ k_361) (va_Nw.use rfl (hxx.1.1 "java/util/NoSuchElementException" (by simp))) (fun q9 H hz9 hk9 => ?_)
  have hP := hP.kept (fun k q hq => hk9 q.1 (hP k q hq).lt)
  have hS : va_S (w_A (wC Z cI cP p0 q0 g0 h0 S ++ oL ou cL f)) s.heap H [] := ⟨hz9, fun q h1 _ => hk9 q h1, fun z hz => nomatch hz⟩
  refine lv_astore_n (lv' := [(2, .ref q9), (0, .ref (Z 0)), (1, .ref ou)]) hx hb d_L_relation_14 rfl hl (by decide) rfl (fun ls hl => ?_)
  refine lv_iconst (v := 2) hx hb d_L_relation_15 (by decide) ?_
  exact wr_i hx hb hr hlk hP hS d_L_relation_16
