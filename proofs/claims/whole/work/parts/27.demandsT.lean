set_option maxRecDepth 100000 in
set_option maxHeartbeats 4000000 in
/-- demandStage(w) where the stage is another -/
theorem t_C_demandStage (l : Launch) (hlt : l.stackTraces = false) (dC : Nat → ClassId) (dI : Nat → Nat → Nat) (Z : Nat → Nat) (cI cP : ClassId) (p0 q0 g0 h0 : Nat) (S : Nat → Nat → Int32) (w0 : Int32) (hne : ¬ S 0 0 = w0) : Tc l y_C_demandStage ws_C_demandStage 6 82 [.ref (Z 0), .int w0] (bX dC dI Z cI cP p0 q0 g0 h0 S) "java/lang/IllegalStateException" := by
  refine vx_ofW (cc := b_C_demandStage) (maxL := 2) (ret := none) (by decide) rfl ?_
  intro p e s m args below meth c s₁ B hml hemp hv
  obtain ⟨rfl, ⟨hP, hK⟩, hxx⟩ := hv
  have hx := B.exec
  have hb := B.bytes
  have hr := B.returns
  have hts : ∀ w ∈ AL, w.before ([.ref (Z 0), .int w0] : List Value).toArray s = true := fun w h => atoms_spec (ws := ws_C_demandStage) B.pre w (List.mem_cons_of_mem _ h)
  have hown : s.vm.findClass "DealtSecret" = some m.cls := findClass_of_methodNamed B.named
  have hlk := B.notSynchronized
  have hl := lv_entry ([.ref (Z 0), .int w0]) (n := 2) (Nat.le_of_ble_eq_true rfl)
  rw [lg_entry_eq]
  generalize (lg_sl ([.ref (Z 0), .int w0]) ++ List.replicate (2 - (lg_sl ([.ref (Z 0), .int w0])).length) Slot.unset).toArray = ls at hl ⊢
  have hl : lv_has ls 2 [(0, .ref (Z 0)), (1, .int w0)] := hl
  refine lv_aload_n hx hb d_C_demandStage_0 rfl (lv_at hl 0 rfl) ?_
  refine va_get (D := (dC, dI)) (ci := 2) (v := .int (S 0 0)) (C := "DealtSecret") (T := T_C) (N := 11) hx hb hts i_C hown hK hP 0 rfl rfl 5 (by decide) (hts _ k_106) (fun _ h9 => h9) rfl d_C_demandStage_1 ?_
  refine lv_iload_n hx hb d_C_demandStage_4 rfl (lv_at hl 1 rfl) ?_
  refine lv_icmp_eq (tgt := 18) hx hb d_C_demandStage_5 (by decide) (fun c_ => absurd c_ (hne)) (fun _ => ?_)
  exact tx_throw (tx := "the stage is another") hx hb hlt hemp hlk (hl.1.trans hml.symm) hown (by decide +kernel) hts xg_ISE xn_ISE (by decide +kernel) k_272 k_10 hxx (by decide +kernel) (by decide +kernel) d_C_demandStage_8 d_C_demandStage_11 d_C_demandStage_12 d_C_demandStage_14 d_C_demandStage_17 (Nat.le_of_ble_eq_true rfl) (Nat.le_of_ble_eq_true rfl) (Nat.le_of_ble_eq_true rfl) (Nat.le_of_ble_eq_true rfl)
set_option maxRecDepth 100000 in
set_option maxHeartbeats 4000000 in
/-- demandParticipant(i) where there is none -/
theorem t_C_demandParticipant (l : Launch) (hlt : l.stackTraces = false) (dC : Nat → ClassId) (dI : Nat → Nat → Nat) (Z : Nat → Nat) (cI cP : ClassId) (p0 q0 g0 h0 : Nat) (S : Nat → Nat → Int32) (i0 : Int32) (hne : ¬ isPt (S 0 1) i0) : Tc l y_C_demandParticipant ws_C_demandParticipant 6 82 [.ref (Z 0), .int i0] (bX dC dI Z cI cP p0 q0 g0 h0 S) "java/lang/IllegalArgumentException" := by
  refine vx_ofW (cc := b_C_demandParticipant) (maxL := 2) (ret := none) (by decide) rfl ?_
  intro p e s m args below meth c s₁ B hml hemp hv
  obtain ⟨rfl, ⟨hP, hK⟩, hxx⟩ := hv
  have hx := B.exec
  have hb := B.bytes
  have hr := B.returns
  have hts : ∀ w ∈ AL, w.before ([.ref (Z 0), .int i0] : List Value).toArray s = true := fun w h => atoms_spec (ws := ws_C_demandParticipant) B.pre w (List.mem_cons_of_mem _ h)
  have hown : s.vm.findClass "DealtSecret" = some m.cls := findClass_of_methodNamed B.named
  have hlk := B.notSynchronized
  have hl := lv_entry ([.ref (Z 0), .int i0]) (n := 2) (Nat.le_of_ble_eq_true rfl)
  rw [lg_entry_eq]
  generalize (lg_sl ([.ref (Z 0), .int i0]) ++ List.replicate (2 - (lg_sl ([.ref (Z 0), .int i0])).length) Slot.unset).toArray = ls at hl ⊢
  have hl : lv_has ls 2 [(0, .ref (Z 0)), (1, .int i0)] := hl
  refine lv_aload_n hx hb d_C_demandParticipant_0 rfl (lv_at hl 0 rfl) ?_
  refine lv_iload_n hx hb d_C_demandParticipant_1 rfl (lv_at hl 1 rfl) ?_
  refine ro_V (As := [.int i0]) (rest := []) (b := (Z 0)) ⟨hx, hb, hml, hown, hts⟩ (c_C_isParticipant l dC dI Z cI cP p0 q0 g0 h0 S i0) (cwV 1 hts (al_V k_156 k_157 k_632 k_1 k_158) rfl rfl rfl (by decide +kernel) ⟨Nat.le_of_ble_eq_true rfl, Nat.le_of_ble_eq_true rfl⟩) (fun U g mk a h => ⟨h.1, va_K.moved (u := U) (U := U.calling g mk a) (Vm.Alike.refl U.vm) h.2⟩) (va_recv hK hP (ci := 2) (q0 := 0) rfl rfl) (fun U hU hW => ⟨by rw [hU]; exact hP, va_K.moved hW.alike hK⟩) rfl hl.1 rfl (lv_room (Nat.le_of_ble_eq_true rfl)) d_C_demandParticipant_2 ⟨Nat.zero_le _, Nat.zero_le _⟩ ?_
  refine lv_if_ne (tgt := 18) hx hb d_C_demandParticipant_5 (by decide) (fun c_ => absurd (mz_bf hne) c_) (fun _ => ?_)
  exact tx_throw (tx := "there is no such participant") hx hb hlt hemp hlk (hl.1.trans hml.symm) hown (by decide +kernel) hts xg_IAE xn_IAE (by decide +kernel) k_204 k_8 hxx (by decide +kernel) (by decide +kernel) d_C_demandParticipant_8 d_C_demandParticipant_11 d_C_demandParticipant_12 d_C_demandParticipant_14 d_C_demandParticipant_17 (Nat.le_of_ble_eq_true rfl) (Nat.le_of_ble_eq_true rfl) (Nat.le_of_ble_eq_true rfl) (Nat.le_of_ble_eq_true rfl)
set_option maxRecDepth 100000 in
set_option maxHeartbeats 4000000 in
/-- demandCoefficient(k) where there is none -/
theorem t_C_demandCoefficient (l : Launch) (hlt : l.stackTraces = false) (dC : Nat → ClassId) (dI : Nat → Nat → Nat) (Z : Nat → Nat) (cI cP : ClassId) (p0 q0 g0 h0 : Nat) (S : Nat → Nat → Int32) (k0 : Int32) (hne : ¬ isCf (S 0 2) k0) : Tc l y_C_demandCoefficient ws_C_demandCoefficient 6 82 [.ref (Z 0), .int k0] (bX dC dI Z cI cP p0 q0 g0 h0 S) "java/lang/IllegalArgumentException" := by
  refine vx_ofW (cc := b_C_demandCoefficient) (maxL := 2) (ret := none) (by decide) rfl ?_
  intro p e s m args below meth c s₁ B hml hemp hv
  obtain ⟨rfl, ⟨hP, hK⟩, hxx⟩ := hv
  have hx := B.exec
  have hb := B.bytes
  have hr := B.returns
  have hts : ∀ w ∈ AL, w.before ([.ref (Z 0), .int k0] : List Value).toArray s = true := fun w h => atoms_spec (ws := ws_C_demandCoefficient) B.pre w (List.mem_cons_of_mem _ h)
  have hown : s.vm.findClass "DealtSecret" = some m.cls := findClass_of_methodNamed B.named
  have hlk := B.notSynchronized
  have hl := lv_entry ([.ref (Z 0), .int k0]) (n := 2) (Nat.le_of_ble_eq_true rfl)
  rw [lg_entry_eq]
  generalize (lg_sl ([.ref (Z 0), .int k0]) ++ List.replicate (2 - (lg_sl ([.ref (Z 0), .int k0])).length) Slot.unset).toArray = ls at hl ⊢
  have hl : lv_has ls 2 [(0, .ref (Z 0)), (1, .int k0)] := hl
  refine lv_aload_n hx hb d_C_demandCoefficient_0 rfl (lv_at hl 0 rfl) ?_
  refine lv_iload_n hx hb d_C_demandCoefficient_1 rfl (lv_at hl 1 rfl) ?_
  refine ro_V (As := [.int k0]) (rest := []) (b := (Z 0)) ⟨hx, hb, hml, hown, hts⟩ (c_C_isCoefficient l dC dI Z cI cP p0 q0 g0 h0 S k0) (cwV 1 hts (al_V k_149 k_150 k_631 k_1 k_151) rfl rfl rfl (by decide +kernel) ⟨Nat.le_of_ble_eq_true rfl, Nat.le_of_ble_eq_true rfl⟩) (fun U g mk a h => ⟨h.1, va_K.moved (u := U) (U := U.calling g mk a) (Vm.Alike.refl U.vm) h.2⟩) (va_recv hK hP (ci := 2) (q0 := 0) rfl rfl) (fun U hU hW => ⟨by rw [hU]; exact hP, va_K.moved hW.alike hK⟩) rfl hl.1 rfl (lv_room (Nat.le_of_ble_eq_true rfl)) d_C_demandCoefficient_2 ⟨Nat.zero_le _, Nat.zero_le _⟩ ?_
  refine lv_if_ne (tgt := 18) hx hb d_C_demandCoefficient_5 (by decide) (fun c_ => absurd (mz_bf hne) c_) (fun _ => ?_)
  exact tx_throw (tx := "there is no such coefficient") hx hb hlt hemp hlk (hl.1.trans hml.symm) hown (by decide +kernel) hts xg_IAE xn_IAE (by decide +kernel) k_204 k_8 hxx (by decide +kernel) (by decide +kernel) d_C_demandCoefficient_8 d_C_demandCoefficient_11 d_C_demandCoefficient_12 d_C_demandCoefficient_14 d_C_demandCoefficient_17 (Nat.le_of_ble_eq_true rfl) (Nat.le_of_ble_eq_true rfl) (Nat.le_of_ble_eq_true rfl) (Nat.le_of_ble_eq_true rfl)
