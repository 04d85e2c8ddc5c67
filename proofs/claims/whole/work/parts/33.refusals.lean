set_option maxRecDepth 100000 in
set_option maxHeartbeats 4000000 in
/-- the reference's coefficient in another stage -/
theorem r_M_coefficient_st (l : Launch) (dC : Nat → ClassId) (dI : Nat → Nat → Nat) (Y : Nat → Nat) (cI cZ : ClassId) (p0 q0 g0 h0 : Nat) (S : Nat → Nat → Int32) (k1 x1 y1 : Int32) (hne : ¬ S 0 0 = 1) : Wr l y_M_coefficient ws_M_coefficient 1 22 [.ref (Y 0), .int k1, .int x1, .int y1] (dC, dI) cls (tysM cI cZ) (wM Y cI cZ p0 q0 g0 h0 (S)) (wM Y cI cZ p0 q0 g0 h0 (up S 0 1 1)) (none) := by
  refine Met.ofW (cc := b_M_coefficient) (maxL := 4) (ret := none) (by decide) rfl ?_
  intro p e s m args below meth c s₁ B hml hv
  obtain ⟨rfl, hP, hK, hD0⟩ := hv
  have hx := B.exec
  have hb := B.bytes
  have hr := B.returns
  have hts : ∀ w ∈ AL, w.before ([.ref (Y 0), .int k1, .int x1, .int y1] : List Value).toArray s = true := fun w h => atoms_spec (ws := ws_M_coefficient) B.pre w (List.mem_cons_of_mem _ h)
  have hown : s.vm.findClass "DealtSecretModel" = some m.cls := findClass_of_methodNamed B.named
  have hlk := B.notSynchronized
  have hl := lv_entry ([.ref (Y 0), .int k1, .int x1, .int y1]) (n := 4) (Nat.le_of_ble_eq_true rfl)
  rw [lg_entry_eq]
  generalize (lg_sl ([.ref (Y 0), .int k1, .int x1, .int y1]) ++ List.replicate (4 - (lg_sl ([.ref (Y 0), .int k1, .int x1, .int y1])).length) Slot.unset).toArray = ls at hl ⊢
  have hl : lv_has ls 4 [(0, .ref (Y 0)), (1, .int k1), (2, .int x1), (3, .int y1)] := hl
  have hD := w_self hD0
  have hS : va_S (w_A (wM Y cI cZ p0 q0 g0 h0 (S))) s.heap s.heap [] := va_S.rf
  refine lv_aload_n hx hb d_M_coefficient_0 rfl (lv_at hl 0 rfl) ?_
  refine lv_aload_n hx hb d_M_coefficient_1 rfl (lv_at hl 0 rfl) ?_
  refine va_get (D := (dC, dI)) (ci := 3) (v := .int (S 0 0)) (C := "DealtSecretModel") (T := T_M) (N := 24) hx hb hts i_M hown hK hP 0 rfl rfl 4 (by decide) (hts _ k_447) (fun _ h9 => h9) rfl d_M_coefficient_2 ?_
  refine lv_iconst (v := 1) hx hb d_M_coefficient_5 (by decide) ?_
  refine lv_icmp_eq (tgt := 13) hx hb d_M_coefficient_6 (by decide) (fun c_ => absurd c_ (hne)) (fun _ => ?_)
  refine lv_iconst (v := 1) hx hb d_M_coefficient_9 (by decide) ?_
  refine lv_goto (tgt := 14) hx hb d_M_coefficient_10 (by decide) ?_
  refine lv_iload_n hx hb d_M_coefficient_14 rfl (lv_at hl 1 rfl) ?_
  refine lv_if_lt (tgt := 26) hx hb d_M_coefficient_15 (by decide) (fun c15 => ?_) (fun c15 => ?_)
  · refine lv_iconst (v := 1) hx hb d_M_coefficient_26 (by decide) ?_
    refine lv_goto (tgt := 31) hx hb d_M_coefficient_27 (by decide) ?_
    refine wr_V (As := [.int 1, .int 1]) (rest := []) (b := (Y 0)) ⟨hx, hb, hml, hown, hts⟩ (c_M_refuses l dC dI Y cI cZ p0 q0 g0 h0 S 1 1 1 1 (by decide) (by decide)) (cwV 2 hts (al_V k_532 k_533 k_649 k_4 k_534) rfl rfl rfl (by decide +kernel) ⟨Nat.le_of_ble_eq_true rfl, Nat.le_of_ble_eq_true rfl⟩) (va_recv hK hP (ci := 3) (q0 := 0) rfl rfl) hP hK hD hS rfl hl.1 rfl (lv_room (Nat.le_of_ble_eq_true rfl)) d_M_coefficient_31 ⟨Nat.zero_le _, Nat.zero_le _⟩ (fun H locs hP _ _ hS => ?_)
    have hD := w_addr hD (w_adM S (up S 0 1 1))
    refine lv_if_eq (tgt := 38) hx hb d_M_coefficient_34 (by decide) (fun c_ => absurd c_ (by decide)) (fun _ => ?_)
    exact wr_v hx hb hr hlk hP hS d_M_coefficient_37
  · refine lv_iload_n hx hb d_M_coefficient_18 rfl (lv_at hl 1 rfl) ?_
    refine lv_aload_n hx hb d_M_coefficient_19 rfl (lv_at hl 0 rfl) ?_
    refine va_get (D := (dC, dI)) (ci := 3) (v := .int (S 0 3)) (C := "DealtSecretModel") (T := T_M) (N := 24) hx hb hts i_M hown hK hP 0 rfl rfl 7 (by decide) (hts _ k_450) (fun _ h9 => h9) rfl d_M_coefficient_20 ?_
    refine lv_icmp_lt (tgt := 30) hx hb d_M_coefficient_23 (by decide) (fun c23 => ?_) (fun c23 => ?_)
    · refine lv_iconst (v := 0) hx hb d_M_coefficient_30 (by decide) ?_
      refine wr_V (As := [.int 1, .int 0]) (rest := []) (b := (Y 0)) ⟨hx, hb, hml, hown, hts⟩ (c_M_refuses l dC dI Y cI cZ p0 q0 g0 h0 S 1 0 1 1 (by decide) (by decide)) (cwV 2 hts (al_V k_532 k_533 k_649 k_4 k_534) rfl rfl rfl (by decide +kernel) ⟨Nat.le_of_ble_eq_true rfl, Nat.le_of_ble_eq_true rfl⟩) (va_recv hK hP (ci := 3) (q0 := 0) rfl rfl) hP hK hD hS rfl hl.1 rfl (lv_room (Nat.le_of_ble_eq_true rfl)) d_M_coefficient_31 ⟨Nat.zero_le _, Nat.zero_le _⟩ (fun H locs hP _ _ hS => ?_)
      have hD := w_addr hD (w_adM S (up S 0 1 1))
      refine lv_if_eq (tgt := 38) hx hb d_M_coefficient_34 (by decide) (fun c_ => absurd c_ (by decide)) (fun _ => ?_)
      exact wr_v hx hb hr hlk hP hS d_M_coefficient_37
    · refine lv_iconst (v := 1) hx hb d_M_coefficient_26 (by decide) ?_
      refine lv_goto (tgt := 31) hx hb d_M_coefficient_27 (by decide) ?_
      refine wr_V (As := [.int 1, .int 1]) (rest := []) (b := (Y 0)) ⟨hx, hb, hml, hown, hts⟩ (c_M_refuses l dC dI Y cI cZ p0 q0 g0 h0 S 1 1 1 1 (by decide) (by decide)) (cwV 2 hts (al_V k_532 k_533 k_649 k_4 k_534) rfl rfl rfl (by decide +kernel) ⟨Nat.le_of_ble_eq_true rfl, Nat.le_of_ble_eq_true rfl⟩) (va_recv hK hP (ci := 3) (q0 := 0) rfl rfl) hP hK hD hS rfl hl.1 rfl (lv_room (Nat.le_of_ble_eq_true rfl)) d_M_coefficient_31 ⟨Nat.zero_le _, Nat.zero_le _⟩ (fun H locs hP _ _ hS => ?_)
      have hD := w_addr hD (w_adM S (up S 0 1 1))
      refine lv_if_eq (tgt := 38) hx hb d_M_coefficient_34 (by decide) (fun c_ => absurd c_ (by decide)) (fun _ => ?_)
      exact wr_v hx hb hr hlk hP hS d_M_coefficient_37
set_option maxRecDepth 100000 in
set_option maxHeartbeats 4000000 in
/-- the reference's tamper in another stage -/
theorem r_M_tamper_st (l : Launch) (dC : Nat → ClassId) (dI : Nat → Nat → Nat) (Y : Nat → Nat) (cI cZ : ClassId) (p0 q0 g0 h0 : Nat) (S : Nat → Nat → Int32) (i1 x1 y1 : Int32) (hne : ¬ S 0 0 = 2) : Wr l y_M_tamper ws_M_tamper 1 22 [.ref (Y 0), .int i1, .int x1, .int y1] (dC, dI) cls (tysM cI cZ) (wM Y cI cZ p0 q0 g0 h0 (S)) (wM Y cI cZ p0 q0 g0 h0 (up S 0 1 1)) (none) := by
  refine Met.ofW (cc := b_M_tamper) (maxL := 4) (ret := none) (by decide) rfl ?_
  intro p e s m args below meth c s₁ B hml hv
  obtain ⟨rfl, hP, hK, hD0⟩ := hv
  have hx := B.exec
  have hb := B.bytes
  have hr := B.returns
  have hts : ∀ w ∈ AL, w.before ([.ref (Y 0), .int i1, .int x1, .int y1] : List Value).toArray s = true := fun w h => atoms_spec (ws := ws_M_tamper) B.pre w (List.mem_cons_of_mem _ h)
  have hown : s.vm.findClass "DealtSecretModel" = some m.cls := findClass_of_methodNamed B.named
  have hlk := B.notSynchronized
  have hl := lv_entry ([.ref (Y 0), .int i1, .int x1, .int y1]) (n := 4) (Nat.le_of_ble_eq_true rfl)
  rw [lg_entry_eq]
  generalize (lg_sl ([.ref (Y 0), .int i1, .int x1, .int y1]) ++ List.replicate (4 - (lg_sl ([.ref (Y 0), .int i1, .int x1, .int y1])).length) Slot.unset).toArray = ls at hl ⊢
  have hl : lv_has ls 4 [(0, .ref (Y 0)), (1, .int i1), (2, .int x1), (3, .int y1)] := hl
  have hD := w_self hD0
  have hS : va_S (w_A (wM Y cI cZ p0 q0 g0 h0 (S))) s.heap s.heap [] := va_S.rf
  refine lv_aload_n hx hb d_M_tamper_0 rfl (lv_at hl 0 rfl) ?_
  refine lv_aload_n hx hb d_M_tamper_1 rfl (lv_at hl 0 rfl) ?_
  refine va_get (D := (dC, dI)) (ci := 3) (v := .int (S 0 0)) (C := "DealtSecretModel") (T := T_M) (N := 24) hx hb hts i_M hown hK hP 0 rfl rfl 4 (by decide) (hts _ k_447) (fun _ h9 => h9) rfl d_M_tamper_2 ?_
  refine lv_iconst (v := 2) hx hb d_M_tamper_5 (by decide) ?_
  refine lv_icmp_eq (tgt := 13) hx hb d_M_tamper_6 (by decide) (fun c_ => absurd c_ (hne)) (fun _ => ?_)
  refine lv_iconst (v := 1) hx hb d_M_tamper_9 (by decide) ?_
  refine lv_goto (tgt := 14) hx hb d_M_tamper_10 (by decide) ?_
  refine lv_aload_n hx hb d_M_tamper_14 rfl (lv_at hl 0 rfl) ?_
  refine lv_iload_n hx hb d_M_tamper_15 rfl (lv_at hl 1 rfl) ?_
  refine ro_V (As := [.int i1]) (rest := [.int 1, .ref (Y 0)]) (b := (Y 0)) ⟨hx, hb, hml, hown, hts⟩ (c_M_isOne l dC dI Y cI cZ p0 q0 g0 h0 S i1) (cwV 1 hts (al_V k_558 k_559 k_655 k_4 k_560) rfl rfl rfl (by decide +kernel) ⟨Nat.le_of_ble_eq_true rfl, Nat.le_of_ble_eq_true rfl⟩) (fun U g mk a h => ⟨h.1, va_K.moved (u := U) (U := U.calling g mk a) (Vm.Alike.refl U.vm) h.2⟩) (va_recv hK hP (ci := 3) (q0 := 0) rfl rfl) (fun U hU hW => ⟨by rw [hU]; exact hP, va_K.moved hW.alike hK⟩) rfl hl.1 rfl (lv_room (Nat.le_of_ble_eq_true rfl)) d_M_tamper_16 ⟨Nat.zero_le _, Nat.zero_le _⟩ ?_
  refine lv_if_ne (tgt := 26) hx hb d_M_tamper_19 (by decide) (fun c19 => ?_) (fun c19 => ?_)
  · refine lv_iconst (v := 0) hx hb d_M_tamper_26 (by decide) ?_
    refine wr_V (As := [.int 1, .int 0]) (rest := []) (b := (Y 0)) ⟨hx, hb, hml, hown, hts⟩ (c_M_refuses l dC dI Y cI cZ p0 q0 g0 h0 S 1 0 1 1 (by decide) (by decide)) (cwV 2 hts (al_V k_532 k_533 k_649 k_4 k_534) rfl rfl rfl (by decide +kernel) ⟨Nat.le_of_ble_eq_true rfl, Nat.le_of_ble_eq_true rfl⟩) (va_recv hK hP (ci := 3) (q0 := 0) rfl rfl) hP hK hD hS rfl hl.1 rfl (lv_room (Nat.le_of_ble_eq_true rfl)) d_M_tamper_27 ⟨Nat.zero_le _, Nat.zero_le _⟩ (fun H locs hP _ _ hS => ?_)
    have hD := w_addr hD (w_adM S (up S 0 1 1))
    refine lv_if_eq (tgt := 34) hx hb d_M_tamper_30 (by decide) (fun c_ => absurd c_ (by decide)) (fun _ => ?_)
    exact wr_v hx hb hr hlk hP hS d_M_tamper_33
  · refine lv_iconst (v := 1) hx hb d_M_tamper_22 (by decide) ?_
    refine lv_goto (tgt := 27) hx hb d_M_tamper_23 (by decide) ?_
    refine wr_V (As := [.int 1, .int 1]) (rest := []) (b := (Y 0)) ⟨hx, hb, hml, hown, hts⟩ (c_M_refuses l dC dI Y cI cZ p0 q0 g0 h0 S 1 1 1 1 (by decide) (by decide)) (cwV 2 hts (al_V k_532 k_533 k_649 k_4 k_534) rfl rfl rfl (by decide +kernel) ⟨Nat.le_of_ble_eq_true rfl, Nat.le_of_ble_eq_true rfl⟩) (va_recv hK hP (ci := 3) (q0 := 0) rfl rfl) hP hK hD hS rfl hl.1 rfl (lv_room (Nat.le_of_ble_eq_true rfl)) d_M_tamper_27 ⟨Nat.zero_le _, Nat.zero_le _⟩ (fun H locs hP _ _ hS => ?_)
    have hD := w_addr hD (w_adM S (up S 0 1 1))
    refine lv_if_eq (tgt := 34) hx hb d_M_tamper_30 (by decide) (fun c_ => absurd c_ (by decide)) (fun _ => ?_)
    exact wr_v hx hb hr hlk hP hS d_M_tamper_33
set_option maxRecDepth 100000 in
set_option maxHeartbeats 4000000 in
/-- the reference's forge in another stage -/
theorem r_M_forge_st (l : Launch) (dC : Nat → ClassId) (dI : Nat → Nat → Nat) (Y : Nat → Nat) (cI cZ : ClassId) (p0 q0 g0 h0 : Nat) (S : Nat → Nat → Int32) (k1 x1 : Int32) (hne : ¬ S 0 0 = 2) : Wr l y_M_forge ws_M_forge 1 22 [.ref (Y 0), .int k1, .int x1] (dC, dI) cls (tysM cI cZ) (wM Y cI cZ p0 q0 g0 h0 (S)) (wM Y cI cZ p0 q0 g0 h0 (up S 0 1 1)) (none) := by
  refine Met.ofW (cc := b_M_forge) (maxL := 3) (ret := none) (by decide) rfl ?_
  intro p e s m args below meth c s₁ B hml hv
  obtain ⟨rfl, hP, hK, hD0⟩ := hv
  have hx := B.exec
  have hb := B.bytes
  have hr := B.returns
  have hts : ∀ w ∈ AL, w.before ([.ref (Y 0), .int k1, .int x1] : List Value).toArray s = true := fun w h => atoms_spec (ws := ws_M_forge) B.pre w (List.mem_cons_of_mem _ h)
  have hown : s.vm.findClass "DealtSecretModel" = some m.cls := findClass_of_methodNamed B.named
  have hlk := B.notSynchronized
  have hl := lv_entry ([.ref (Y 0), .int k1, .int x1]) (n := 3) (Nat.le_of_ble_eq_true rfl)
  rw [lg_entry_eq]
  generalize (lg_sl ([.ref (Y 0), .int k1, .int x1]) ++ List.replicate (3 - (lg_sl ([.ref (Y 0), .int k1, .int x1])).length) Slot.unset).toArray = ls at hl ⊢
  have hl : lv_has ls 3 [(0, .ref (Y 0)), (1, .int k1), (2, .int x1)] := hl
  have hD := w_self hD0
  have hS : va_S (w_A (wM Y cI cZ p0 q0 g0 h0 (S))) s.heap s.heap [] := va_S.rf
  refine lv_aload_n hx hb d_M_forge_0 rfl (lv_at hl 0 rfl) ?_
  refine lv_aload_n hx hb d_M_forge_1 rfl (lv_at hl 0 rfl) ?_
  refine va_get (D := (dC, dI)) (ci := 3) (v := .int (S 0 0)) (C := "DealtSecretModel") (T := T_M) (N := 24) hx hb hts i_M hown hK hP 0 rfl rfl 4 (by decide) (hts _ k_447) (fun _ h9 => h9) rfl d_M_forge_2 ?_
  refine lv_iconst (v := 2) hx hb d_M_forge_5 (by decide) ?_
  refine lv_icmp_eq (tgt := 13) hx hb d_M_forge_6 (by decide) (fun c_ => absurd c_ (hne)) (fun _ => ?_)
  refine lv_iconst (v := 1) hx hb d_M_forge_9 (by decide) ?_
  refine lv_goto (tgt := 14) hx hb d_M_forge_10 (by decide) ?_
  refine lv_iload_n hx hb d_M_forge_14 rfl (lv_at hl 1 rfl) ?_
  refine lv_if_lt (tgt := 39) hx hb d_M_forge_15 (by decide) (fun c15 => ?_) (fun c15 => ?_)
  · refine lv_iconst (v := 1) hx hb d_M_forge_39 (by decide) ?_
    refine lv_goto (tgt := 44) hx hb d_M_forge_40 (by decide) ?_
    refine wr_V (As := [.int 1, .int 1]) (rest := []) (b := (Y 0)) ⟨hx, hb, hml, hown, hts⟩ (c_M_refuses l dC dI Y cI cZ p0 q0 g0 h0 S 1 1 1 1 (by decide) (by decide)) (cwV 2 hts (al_V k_532 k_533 k_649 k_4 k_534) rfl rfl rfl (by decide +kernel) ⟨Nat.le_of_ble_eq_true rfl, Nat.le_of_ble_eq_true rfl⟩) (va_recv hK hP (ci := 3) (q0 := 0) rfl rfl) hP hK hD hS rfl hl.1 rfl (lv_room (Nat.le_of_ble_eq_true rfl)) d_M_forge_44 ⟨Nat.zero_le _, Nat.zero_le _⟩ (fun H locs hP _ _ hS => ?_)
    have hD := w_addr hD (w_adM S (up S 0 1 1))
    refine lv_if_eq (tgt := 51) hx hb d_M_forge_47 (by decide) (fun c_ => absurd c_ (by decide)) (fun _ => ?_)
    exact wr_v hx hb hr hlk hP hS d_M_forge_50
  · refine lv_iload_n hx hb d_M_forge_18 rfl (lv_at hl 1 rfl) ?_
    refine lv_aload_n hx hb d_M_forge_19 rfl (lv_at hl 0 rfl) ?_
    refine va_get (D := (dC, dI)) (ci := 3) (v := .int (S 0 3)) (C := "DealtSecretModel") (T := T_M) (N := 24) hx hb hts i_M hown hK hP 0 rfl rfl 7 (by decide) (hts _ k_450) (fun _ h9 => h9) rfl d_M_forge_20 ?_
    refine lv_icmp_ge (tgt := 39) hx hb d_M_forge_23 (by decide) (fun c23 => ?_) (fun c23 => ?_)
    · refine lv_iconst (v := 1) hx hb d_M_forge_39 (by decide) ?_
      refine lv_goto (tgt := 44) hx hb d_M_forge_40 (by decide) ?_
      refine wr_V (As := [.int 1, .int 1]) (rest := []) (b := (Y 0)) ⟨hx, hb, hml, hown, hts⟩ (c_M_refuses l dC dI Y cI cZ p0 q0 g0 h0 S 1 1 1 1 (by decide) (by decide)) (cwV 2 hts (al_V k_532 k_533 k_649 k_4 k_534) rfl rfl rfl (by decide +kernel) ⟨Nat.le_of_ble_eq_true rfl, Nat.le_of_ble_eq_true rfl⟩) (va_recv hK hP (ci := 3) (q0 := 0) rfl rfl) hP hK hD hS rfl hl.1 rfl (lv_room (Nat.le_of_ble_eq_true rfl)) d_M_forge_44 ⟨Nat.zero_le _, Nat.zero_le _⟩ (fun H locs hP _ _ hS => ?_)
      have hD := w_addr hD (w_adM S (up S 0 1 1))
      refine lv_if_eq (tgt := 51) hx hb d_M_forge_47 (by decide) (fun c_ => absurd c_ (by decide)) (fun _ => ?_)
      exact wr_v hx hb hr hlk hP hS d_M_forge_50
    · refine lv_iload_n hx hb d_M_forge_26 rfl (lv_at hl 2 rfl) ?_
      refine lv_iconst (v := 1) hx hb d_M_forge_27 (by decide) ?_
      refine lv_icmp_lt (tgt := 39) hx hb d_M_forge_28 (by decide) (fun c28 => ?_) (fun c28 => ?_)
      · refine lv_iconst (v := 1) hx hb d_M_forge_39 (by decide) ?_
        refine lv_goto (tgt := 44) hx hb d_M_forge_40 (by decide) ?_
        refine wr_V (As := [.int 1, .int 1]) (rest := []) (b := (Y 0)) ⟨hx, hb, hml, hown, hts⟩ (c_M_refuses l dC dI Y cI cZ p0 q0 g0 h0 S 1 1 1 1 (by decide) (by decide)) (cwV 2 hts (al_V k_532 k_533 k_649 k_4 k_534) rfl rfl rfl (by decide +kernel) ⟨Nat.le_of_ble_eq_true rfl, Nat.le_of_ble_eq_true rfl⟩) (va_recv hK hP (ci := 3) (q0 := 0) rfl rfl) hP hK hD hS rfl hl.1 rfl (lv_room (Nat.le_of_ble_eq_true rfl)) d_M_forge_44 ⟨Nat.zero_le _, Nat.zero_le _⟩ (fun H locs hP _ _ hS => ?_)
        have hD := w_addr hD (w_adM S (up S 0 1 1))
        refine lv_if_eq (tgt := 51) hx hb d_M_forge_47 (by decide) (fun c_ => absurd c_ (by decide)) (fun _ => ?_)
        exact wr_v hx hb hr hlk hP hS d_M_forge_50
      · refine lv_iload_n hx hb d_M_forge_31 rfl (lv_at hl 2 rfl) ?_
        refine lv_aload_n hx hb d_M_forge_32 rfl (lv_at hl 0 rfl) ?_
        refine va_get (D := (dC, dI)) (ci := 3) (v := .int (nI p0)) (C := "DealtSecretModel") (T := T_M) (N := 24) hx hb hts i_M hown hK hP 0 rfl rfl 0 (by decide) (hts _ k_443) (fun _ h9 => h9) rfl d_M_forge_33 ?_
        refine lv_icmp_lt (tgt := 43) hx hb d_M_forge_36 (by decide) (fun c36 => ?_) (fun c36 => ?_)
        · refine lv_iconst (v := 0) hx hb d_M_forge_43 (by decide) ?_
          refine wr_V (As := [.int 1, .int 0]) (rest := []) (b := (Y 0)) ⟨hx, hb, hml, hown, hts⟩ (c_M_refuses l dC dI Y cI cZ p0 q0 g0 h0 S 1 0 1 1 (by decide) (by decide)) (cwV 2 hts (al_V k_532 k_533 k_649 k_4 k_534) rfl rfl rfl (by decide +kernel) ⟨Nat.le_of_ble_eq_true rfl, Nat.le_of_ble_eq_true rfl⟩) (va_recv hK hP (ci := 3) (q0 := 0) rfl rfl) hP hK hD hS rfl hl.1 rfl (lv_room (Nat.le_of_ble_eq_true rfl)) d_M_forge_44 ⟨Nat.zero_le _, Nat.zero_le _⟩ (fun H locs hP _ _ hS => ?_)
          have hD := w_addr hD (w_adM S (up S 0 1 1))
          refine lv_if_eq (tgt := 51) hx hb d_M_forge_47 (by decide) (fun c_ => absurd c_ (by decide)) (fun _ => ?_)
          exact wr_v hx hb hr hlk hP hS d_M_forge_50
        · refine lv_iconst (v := 1) hx hb d_M_forge_39 (by decide) ?_
          refine lv_goto (tgt := 44) hx hb d_M_forge_40 (by decide) ?_
          refine wr_V (As := [.int 1, .int 1]) (rest := []) (b := (Y 0)) ⟨hx, hb, hml, hown, hts⟩ (c_M_refuses l dC dI Y cI cZ p0 q0 g0 h0 S 1 1 1 1 (by decide) (by decide)) (cwV 2 hts (al_V k_532 k_533 k_649 k_4 k_534) rfl rfl rfl (by decide +kernel) ⟨Nat.le_of_ble_eq_true rfl, Nat.le_of_ble_eq_true rfl⟩) (va_recv hK hP (ci := 3) (q0 := 0) rfl rfl) hP hK hD hS rfl hl.1 rfl (lv_room (Nat.le_of_ble_eq_true rfl)) d_M_forge_44 ⟨Nat.zero_le _, Nat.zero_le _⟩ (fun H locs hP _ _ hS => ?_)
          have hD := w_addr hD (w_adM S (up S 0 1 1))
          refine lv_if_eq (tgt := 51) hx hb d_M_forge_47 (by decide) (fun c_ => absurd c_ (by decide)) (fun _ => ?_)
          exact wr_v hx hb hr hlk hP hS d_M_forge_50
set_option maxRecDepth 100000 in
set_option maxHeartbeats 4000000 in
/-- the reference's accuse in another stage -/
theorem r_M_accuse_st (l : Launch) (dC : Nat → ClassId) (dI : Nat → Nat → Nat) (Y : Nat → Nat) (cI cZ : ClassId) (p0 q0 g0 h0 : Nat) (S : Nat → Nat → Int32) (i1 : Int32) (hne : ¬ S 0 0 = 3) : Wr l y_M_accuse ws_M_accuse 1 22 [.ref (Y 0), .int i1] (dC, dI) cls (tysM cI cZ) (wM Y cI cZ p0 q0 g0 h0 (S)) (wM Y cI cZ p0 q0 g0 h0 (up S 0 1 1)) (some (.int 0)) := by
  refine Met.ofW (cc := b_M_accuse) (maxL := 2) (ret := (some .boolean)) (by decide) rfl ?_
  intro p e s m args below meth c s₁ B hml hv
  obtain ⟨rfl, hP, hK, hD0⟩ := hv
  have hx := B.exec
  have hb := B.bytes
  have hr := B.returns
  have hts : ∀ w ∈ AL, w.before ([.ref (Y 0), .int i1] : List Value).toArray s = true := fun w h => atoms_spec (ws := ws_M_accuse) B.pre w (List.mem_cons_of_mem _ h)
  have hown : s.vm.findClass "DealtSecretModel" = some m.cls := findClass_of_methodNamed B.named
  have hlk := B.notSynchronized
  have hl := lv_entry ([.ref (Y 0), .int i1]) (n := 2) (Nat.le_of_ble_eq_true rfl)
  rw [lg_entry_eq]
  generalize (lg_sl ([.ref (Y 0), .int i1]) ++ List.replicate (2 - (lg_sl ([.ref (Y 0), .int i1])).length) Slot.unset).toArray = ls at hl ⊢
  have hl : lv_has ls 2 [(0, .ref (Y 0)), (1, .int i1)] := hl
  have hD := w_self hD0
  have hS : va_S (w_A (wM Y cI cZ p0 q0 g0 h0 (S))) s.heap s.heap [] := va_S.rf
  refine lv_aload_n hx hb d_M_accuse_0 rfl (lv_at hl 0 rfl) ?_
  refine lv_aload_n hx hb d_M_accuse_1 rfl (lv_at hl 0 rfl) ?_
  refine va_get (D := (dC, dI)) (ci := 3) (v := .int (S 0 0)) (C := "DealtSecretModel") (T := T_M) (N := 24) hx hb hts i_M hown hK hP 0 rfl rfl 4 (by decide) (hts _ k_447) (fun _ h9 => h9) rfl d_M_accuse_2 ?_
  refine lv_iconst (v := 3) hx hb d_M_accuse_5 (by decide) ?_
  refine lv_icmp_eq (tgt := 13) hx hb d_M_accuse_6 (by decide) (fun c_ => absurd c_ (hne)) (fun _ => ?_)
  refine lv_iconst (v := 1) hx hb d_M_accuse_9 (by decide) ?_
  refine lv_goto (tgt := 14) hx hb d_M_accuse_10 (by decide) ?_
  refine lv_aload_n hx hb d_M_accuse_14 rfl (lv_at hl 0 rfl) ?_
  refine lv_iload_n hx hb d_M_accuse_15 rfl (lv_at hl 1 rfl) ?_
  refine ro_V (As := [.int i1]) (rest := [.int 1, .ref (Y 0)]) (b := (Y 0)) ⟨hx, hb, hml, hown, hts⟩ (c_M_isOne l dC dI Y cI cZ p0 q0 g0 h0 S i1) (cwV 1 hts (al_V k_558 k_559 k_655 k_4 k_560) rfl rfl rfl (by decide +kernel) ⟨Nat.le_of_ble_eq_true rfl, Nat.le_of_ble_eq_true rfl⟩) (fun U g mk a h => ⟨h.1, va_K.moved (u := U) (U := U.calling g mk a) (Vm.Alike.refl U.vm) h.2⟩) (va_recv hK hP (ci := 3) (q0 := 0) rfl rfl) (fun U hU hW => ⟨by rw [hU]; exact hP, va_K.moved hW.alike hK⟩) rfl hl.1 rfl (lv_room (Nat.le_of_ble_eq_true rfl)) d_M_accuse_16 ⟨Nat.zero_le _, Nat.zero_le _⟩ ?_
  refine lv_if_ne (tgt := 26) hx hb d_M_accuse_19 (by decide) (fun c19 => ?_) (fun c19 => ?_)
  · refine lv_iconst (v := 0) hx hb d_M_accuse_26 (by decide) ?_
    refine wr_V (As := [.int 1, .int 0]) (rest := []) (b := (Y 0)) ⟨hx, hb, hml, hown, hts⟩ (c_M_refuses l dC dI Y cI cZ p0 q0 g0 h0 S 1 0 1 1 (by decide) (by decide)) (cwV 2 hts (al_V k_532 k_533 k_649 k_4 k_534) rfl rfl rfl (by decide +kernel) ⟨Nat.le_of_ble_eq_true rfl, Nat.le_of_ble_eq_true rfl⟩) (va_recv hK hP (ci := 3) (q0 := 0) rfl rfl) hP hK hD hS rfl hl.1 rfl (lv_room (Nat.le_of_ble_eq_true rfl)) d_M_accuse_27 ⟨Nat.zero_le _, Nat.zero_le _⟩ (fun H locs hP _ _ hS => ?_)
    have hD := w_addr hD (w_adM S (up S 0 1 1))
    refine lv_if_ne (tgt := 51) hx hb d_M_accuse_30 (by decide) (fun _ => ?_) (fun c_ => absurd c_ (by decide))
    refine lv_iconst (v := 0) hx hb d_M_accuse_51 (by decide) ?_
    exact wr_z hx hb hr hlk (by first | rfl | exact mz_bn _) hP hS d_M_accuse_52
  · refine lv_iconst (v := 1) hx hb d_M_accuse_22 (by decide) ?_
    refine lv_goto (tgt := 27) hx hb d_M_accuse_23 (by decide) ?_
    refine wr_V (As := [.int 1, .int 1]) (rest := []) (b := (Y 0)) ⟨hx, hb, hml, hown, hts⟩ (c_M_refuses l dC dI Y cI cZ p0 q0 g0 h0 S 1 1 1 1 (by decide) (by decide)) (cwV 2 hts (al_V k_532 k_533 k_649 k_4 k_534) rfl rfl rfl (by decide +kernel) ⟨Nat.le_of_ble_eq_true rfl, Nat.le_of_ble_eq_true rfl⟩) (va_recv hK hP (ci := 3) (q0 := 0) rfl rfl) hP hK hD hS rfl hl.1 rfl (lv_room (Nat.le_of_ble_eq_true rfl)) d_M_accuse_27 ⟨Nat.zero_le _, Nat.zero_le _⟩ (fun H locs hP _ _ hS => ?_)
    have hD := w_addr hD (w_adM S (up S 0 1 1))
    refine lv_if_ne (tgt := 51) hx hb d_M_accuse_30 (by decide) (fun _ => ?_) (fun c_ => absurd c_ (by decide))
    refine lv_iconst (v := 0) hx hb d_M_accuse_51 (by decide) ?_
    exact wr_z hx hb hr hlk (by first | rfl | exact mz_bn _) hP hS d_M_accuse_52
set_option maxRecDepth 100000 in
set_option maxHeartbeats 4000000 in
/-- the reference's answer in another stage -/
theorem r_M_answer_st (l : Launch) (dC : Nat → ClassId) (dI : Nat → Nat → Nat) (Y : Nat → Nat) (cI cZ : ClassId) (p0 q0 g0 h0 : Nat) (S : Nat → Nat → Int32) (i1 x1 y1 : Int32) (hne : ¬ S 0 0 = 4) : Wr l y_M_answer ws_M_answer 4 95 [.ref (Y 0), .int i1, .int x1, .int y1] (dC, dI) cls (tysM cI cZ) (wM Y cI cZ p0 q0 g0 h0 (S)) (wM Y cI cZ p0 q0 g0 h0 (up S 0 1 1)) (some (.int 0)) := by
  refine Met.ofW (cc := b_M_answer) (maxL := 4) (ret := (some .boolean)) (by decide) rfl ?_
  intro p e s m args below meth c s₁ B hml hv
  obtain ⟨rfl, hP, hK, hD0⟩ := hv
  have hx := B.exec
  have hb := B.bytes
  have hr := B.returns
  have hts : ∀ w ∈ AL, w.before ([.ref (Y 0), .int i1, .int x1, .int y1] : List Value).toArray s = true := fun w h => atoms_spec (ws := ws_M_answer) B.pre w (List.mem_cons_of_mem _ h)
  have hown : s.vm.findClass "DealtSecretModel" = some m.cls := findClass_of_methodNamed B.named
  have hlk := B.notSynchronized
  have hl := lv_entry ([.ref (Y 0), .int i1, .int x1, .int y1]) (n := 4) (Nat.le_of_ble_eq_true rfl)
  rw [lg_entry_eq]
  generalize (lg_sl ([.ref (Y 0), .int i1, .int x1, .int y1]) ++ List.replicate (4 - (lg_sl ([.ref (Y 0), .int i1, .int x1, .int y1])).length) Slot.unset).toArray = ls at hl ⊢
  have hl : lv_has ls 4 [(0, .ref (Y 0)), (1, .int i1), (2, .int x1), (3, .int y1)] := hl
  have hD := w_self hD0
  have hS : va_S (w_A (wM Y cI cZ p0 q0 g0 h0 (S))) s.heap s.heap [] := va_S.rf
  refine lv_aload_n hx hb d_M_answer_0 rfl (lv_at hl 0 rfl) ?_
  refine lv_aload_n hx hb d_M_answer_1 rfl (lv_at hl 0 rfl) ?_
  refine va_get (D := (dC, dI)) (ci := 3) (v := .int (S 0 0)) (C := "DealtSecretModel") (T := T_M) (N := 24) hx hb hts i_M hown hK hP 0 rfl rfl 4 (by decide) (hts _ k_447) (fun _ h9 => h9) rfl d_M_answer_2 ?_
  refine lv_iconst (v := 4) hx hb d_M_answer_5 (by decide) ?_
  refine lv_icmp_eq (tgt := 13) hx hb d_M_answer_6 (by decide) (fun c_ => absurd c_ (hne)) (fun _ => ?_)
  refine lv_iconst (v := 1) hx hb d_M_answer_9 (by decide) ?_
  refine lv_goto (tgt := 14) hx hb d_M_answer_10 (by decide) ?_
  refine lv_aload_n hx hb d_M_answer_14 rfl (lv_at hl 0 rfl) ?_
  refine lv_iload_n hx hb d_M_answer_15 rfl (lv_at hl 1 rfl) ?_
  refine ro_V (As := [.int i1]) (rest := [.int 1, .ref (Y 0)]) (b := (Y 0)) ⟨hx, hb, hml, hown, hts⟩ (c_M_isOne l dC dI Y cI cZ p0 q0 g0 h0 S i1) (cwV 1 hts (al_V k_558 k_559 k_655 k_4 k_560) rfl rfl rfl (by decide +kernel) ⟨Nat.le_of_ble_eq_true rfl, Nat.le_of_ble_eq_true rfl⟩) (fun U g mk a h => ⟨h.1, va_K.moved (u := U) (U := U.calling g mk a) (Vm.Alike.refl U.vm) h.2⟩) (va_recv hK hP (ci := 3) (q0 := 0) rfl rfl) (fun U hU hW => ⟨by rw [hU]; exact hP, va_K.moved hW.alike hK⟩) rfl hl.1 rfl (lv_room (Nat.le_of_ble_eq_true rfl)) d_M_answer_16 ⟨Nat.zero_le _, Nat.zero_le _⟩ ?_
  refine lv_if_ne (tgt := 26) hx hb d_M_answer_19 (by decide) (fun c19 => ?_) (fun c19 => ?_)
  · refine lv_iconst (v := 0) hx hb d_M_answer_26 (by decide) ?_
    refine wr_V (As := [.int 1, .int 0]) (rest := []) (b := (Y 0)) ⟨hx, hb, hml, hown, hts⟩ (c_M_refuses l dC dI Y cI cZ p0 q0 g0 h0 S 1 0 1 1 (by decide) (by decide)) (cwV 2 hts (al_V k_532 k_533 k_649 k_4 k_534) rfl rfl rfl (by decide +kernel) ⟨Nat.le_of_ble_eq_true rfl, Nat.le_of_ble_eq_true rfl⟩) (va_recv hK hP (ci := 3) (q0 := 0) rfl rfl) hP hK hD hS rfl hl.1 rfl (lv_room (Nat.le_of_ble_eq_true rfl)) d_M_answer_27 ⟨Nat.zero_le _, Nat.zero_le _⟩ (fun H locs hP _ _ hS => ?_)
    have hD := w_addr hD (w_adM S (up S 0 1 1))
    refine lv_if_eq (tgt := 35) hx hb d_M_answer_30 (by decide) (fun c_ => absurd c_ (by decide)) (fun _ => ?_)
    refine lv_iconst (v := 0) hx hb d_M_answer_33 (by decide) ?_
    exact wr_z hx hb hr hlk (by first | rfl | exact mz_bn _) hP hS d_M_answer_34
  · refine lv_iconst (v := 1) hx hb d_M_answer_22 (by decide) ?_
    refine lv_goto (tgt := 27) hx hb d_M_answer_23 (by decide) ?_
    refine wr_V (As := [.int 1, .int 1]) (rest := []) (b := (Y 0)) ⟨hx, hb, hml, hown, hts⟩ (c_M_refuses l dC dI Y cI cZ p0 q0 g0 h0 S 1 1 1 1 (by decide) (by decide)) (cwV 2 hts (al_V k_532 k_533 k_649 k_4 k_534) rfl rfl rfl (by decide +kernel) ⟨Nat.le_of_ble_eq_true rfl, Nat.le_of_ble_eq_true rfl⟩) (va_recv hK hP (ci := 3) (q0 := 0) rfl rfl) hP hK hD hS rfl hl.1 rfl (lv_room (Nat.le_of_ble_eq_true rfl)) d_M_answer_27 ⟨Nat.zero_le _, Nat.zero_le _⟩ (fun H locs hP _ _ hS => ?_)
    have hD := w_addr hD (w_adM S (up S 0 1 1))
    refine lv_if_eq (tgt := 35) hx hb d_M_answer_30 (by decide) (fun c_ => absurd c_ (by decide)) (fun _ => ?_)
    refine lv_iconst (v := 0) hx hb d_M_answer_33 (by decide) ?_
    exact wr_z hx hb hr hlk (by first | rfl | exact mz_bn _) hP hS d_M_answer_34
set_option maxRecDepth 100000 in
set_option maxHeartbeats 4000000 in
/-- the reference's opening in another stage -/
theorem r_M_open_st (l : Launch) (dC : Nat → ClassId) (dI : Nat → Nat → Nat) (Y : Nat → Nat) (cI cZ : ClassId) (p0 q0 g0 h0 : Nat) (S : Nat → Nat → Int32) (i1 : Int32) (hne : ¬ S 0 0 = 5) : Wr l y_M_open ws_M_open 5 118 [.ref (Y 0), .int i1] (dC, dI) cls (tysM cI cZ) (wM Y cI cZ p0 q0 g0 h0 (S)) (wM Y cI cZ p0 q0 g0 h0 (up S 0 1 1)) (some (.int 0)) := by
  refine Met.ofW (cc := b_M_open) (maxL := 2) (ret := (some .boolean)) (by decide) rfl ?_
  intro p e s m args below meth c s₁ B hml hv
  obtain ⟨rfl, hP, hK, hD0⟩ := hv
  have hx := B.exec
  have hb := B.bytes
  have hr := B.returns
  have hts : ∀ w ∈ AL, w.before ([.ref (Y 0), .int i1] : List Value).toArray s = true := fun w h => atoms_spec (ws := ws_M_open) B.pre w (List.mem_cons_of_mem _ h)
  have hown : s.vm.findClass "DealtSecretModel" = some m.cls := findClass_of_methodNamed B.named
  have hlk := B.notSynchronized
  have hl := lv_entry ([.ref (Y 0), .int i1]) (n := 2) (Nat.le_of_ble_eq_true rfl)
  rw [lg_entry_eq]
  generalize (lg_sl ([.ref (Y 0), .int i1]) ++ List.replicate (2 - (lg_sl ([.ref (Y 0), .int i1])).length) Slot.unset).toArray = ls at hl ⊢
  have hl : lv_has ls 2 [(0, .ref (Y 0)), (1, .int i1)] := hl
  have hD := w_self hD0
  have hS : va_S (w_A (wM Y cI cZ p0 q0 g0 h0 (S))) s.heap s.heap [] := va_S.rf
  refine lv_aload_n hx hb d_M_open_0 rfl (lv_at hl 0 rfl) ?_
  refine lv_aload_n hx hb d_M_open_1 rfl (lv_at hl 0 rfl) ?_
  refine va_get (D := (dC, dI)) (ci := 3) (v := .int (S 0 0)) (C := "DealtSecretModel") (T := T_M) (N := 24) hx hb hts i_M hown hK hP 0 rfl rfl 4 (by decide) (hts _ k_447) (fun _ h9 => h9) rfl d_M_open_2 ?_
  refine lv_iconst (v := 5) hx hb d_M_open_5 (by decide) ?_
  refine lv_icmp_eq (tgt := 13) hx hb d_M_open_6 (by decide) (fun c_ => absurd c_ (hne)) (fun _ => ?_)
  refine lv_iconst (v := 1) hx hb d_M_open_9 (by decide) ?_
  refine lv_goto (tgt := 14) hx hb d_M_open_10 (by decide) ?_
  refine lv_aload_n hx hb d_M_open_14 rfl (lv_at hl 0 rfl) ?_
  refine lv_iload_n hx hb d_M_open_15 rfl (lv_at hl 1 rfl) ?_
  refine ro_V (As := [.int i1]) (rest := [.int 1, .ref (Y 0)]) (b := (Y 0)) ⟨hx, hb, hml, hown, hts⟩ (c_M_isOne l dC dI Y cI cZ p0 q0 g0 h0 S i1) (cwV 1 hts (al_V k_558 k_559 k_655 k_4 k_560) rfl rfl rfl (by decide +kernel) ⟨Nat.le_of_ble_eq_true rfl, Nat.le_of_ble_eq_true rfl⟩) (fun U g mk a h => ⟨h.1, va_K.moved (u := U) (U := U.calling g mk a) (Vm.Alike.refl U.vm) h.2⟩) (va_recv hK hP (ci := 3) (q0 := 0) rfl rfl) (fun U hU hW => ⟨by rw [hU]; exact hP, va_K.moved hW.alike hK⟩) rfl hl.1 rfl (lv_room (Nat.le_of_ble_eq_true rfl)) d_M_open_16 ⟨Nat.zero_le _, Nat.zero_le _⟩ ?_
  refine lv_if_ne (tgt := 26) hx hb d_M_open_19 (by decide) (fun c19 => ?_) (fun c19 => ?_)
  · refine lv_iconst (v := 0) hx hb d_M_open_26 (by decide) ?_
    refine wr_V (As := [.int 1, .int 0]) (rest := []) (b := (Y 0)) ⟨hx, hb, hml, hown, hts⟩ (c_M_refuses l dC dI Y cI cZ p0 q0 g0 h0 S 1 0 1 1 (by decide) (by decide)) (cwV 2 hts (al_V k_532 k_533 k_649 k_4 k_534) rfl rfl rfl (by decide +kernel) ⟨Nat.le_of_ble_eq_true rfl, Nat.le_of_ble_eq_true rfl⟩) (va_recv hK hP (ci := 3) (q0 := 0) rfl rfl) hP hK hD hS rfl hl.1 rfl (lv_room (Nat.le_of_ble_eq_true rfl)) d_M_open_27 ⟨Nat.zero_le _, Nat.zero_le _⟩ (fun H locs hP _ _ hS => ?_)
    have hD := w_addr hD (w_adM S (up S 0 1 1))
    refine lv_if_ne (tgt := 57) hx hb d_M_open_30 (by decide) (fun _ => ?_) (fun c_ => absurd c_ (by decide))
    refine lv_iconst (v := 0) hx hb d_M_open_57 (by decide) ?_
    exact wr_z hx hb hr hlk (by first | rfl | exact mz_bn _) hP hS d_M_open_58
  · refine lv_iconst (v := 1) hx hb d_M_open_22 (by decide) ?_
    refine lv_goto (tgt := 27) hx hb d_M_open_23 (by decide) ?_
    refine wr_V (As := [.int 1, .int 1]) (rest := []) (b := (Y 0)) ⟨hx, hb, hml, hown, hts⟩ (c_M_refuses l dC dI Y cI cZ p0 q0 g0 h0 S 1 1 1 1 (by decide) (by decide)) (cwV 2 hts (al_V k_532 k_533 k_649 k_4 k_534) rfl rfl rfl (by decide +kernel) ⟨Nat.le_of_ble_eq_true rfl, Nat.le_of_ble_eq_true rfl⟩) (va_recv hK hP (ci := 3) (q0 := 0) rfl rfl) hP hK hD hS rfl hl.1 rfl (lv_room (Nat.le_of_ble_eq_true rfl)) d_M_open_27 ⟨Nat.zero_le _, Nat.zero_le _⟩ (fun H locs hP _ _ hS => ?_)
    have hD := w_addr hD (w_adM S (up S 0 1 1))
    refine lv_if_ne (tgt := 57) hx hb d_M_open_30 (by decide) (fun _ => ?_) (fun c_ => absurd c_ (by decide))
    refine lv_iconst (v := 0) hx hb d_M_open_57 (by decide) ?_
    exact wr_z hx hb hr hlk (by first | rfl | exact mz_bn _) hP hS d_M_open_58
set_option maxRecDepth 100000 in
set_option maxHeartbeats 4000000 in
/-- the reference's show in another stage -/
theorem r_M_show_st (l : Launch) (dC : Nat → ClassId) (dI : Nat → Nat → Nat) (Y : Nat → Nat) (cI cZ : ClassId) (p0 q0 g0 h0 : Nat) (S : Nat → Nat → Int32) (i1 x1 y1 : Int32) (hne : ¬ S 0 0 = 5) : Wr l y_M_show ws_M_show 5 118 [.ref (Y 0), .int i1, .int x1, .int y1] (dC, dI) cls (tysM cI cZ) (wM Y cI cZ p0 q0 g0 h0 (S)) (wM Y cI cZ p0 q0 g0 h0 (up S 0 1 1)) (some (.int 0)) := by
  refine Met.ofW (cc := b_M_show) (maxL := 4) (ret := (some .boolean)) (by decide) rfl ?_
  intro p e s m args below meth c s₁ B hml hv
  obtain ⟨rfl, hP, hK, hD0⟩ := hv
  have hx := B.exec
  have hb := B.bytes
  have hr := B.returns
  have hts : ∀ w ∈ AL, w.before ([.ref (Y 0), .int i1, .int x1, .int y1] : List Value).toArray s = true := fun w h => atoms_spec (ws := ws_M_show) B.pre w (List.mem_cons_of_mem _ h)
  have hown : s.vm.findClass "DealtSecretModel" = some m.cls := findClass_of_methodNamed B.named
  have hlk := B.notSynchronized
  have hl := lv_entry ([.ref (Y 0), .int i1, .int x1, .int y1]) (n := 4) (Nat.le_of_ble_eq_true rfl)
  rw [lg_entry_eq]
  generalize (lg_sl ([.ref (Y 0), .int i1, .int x1, .int y1]) ++ List.replicate (4 - (lg_sl ([.ref (Y 0), .int i1, .int x1, .int y1])).length) Slot.unset).toArray = ls at hl ⊢
  have hl : lv_has ls 4 [(0, .ref (Y 0)), (1, .int i1), (2, .int x1), (3, .int y1)] := hl
  have hD := w_self hD0
  have hS : va_S (w_A (wM Y cI cZ p0 q0 g0 h0 (S))) s.heap s.heap [] := va_S.rf
  refine lv_aload_n hx hb d_M_show_0 rfl (lv_at hl 0 rfl) ?_
  refine lv_aload_n hx hb d_M_show_1 rfl (lv_at hl 0 rfl) ?_
  refine va_get (D := (dC, dI)) (ci := 3) (v := .int (S 0 0)) (C := "DealtSecretModel") (T := T_M) (N := 24) hx hb hts i_M hown hK hP 0 rfl rfl 4 (by decide) (hts _ k_447) (fun _ h9 => h9) rfl d_M_show_2 ?_
  refine lv_iconst (v := 5) hx hb d_M_show_5 (by decide) ?_
  refine lv_icmp_eq (tgt := 13) hx hb d_M_show_6 (by decide) (fun c_ => absurd c_ (hne)) (fun _ => ?_)
  refine lv_iconst (v := 1) hx hb d_M_show_9 (by decide) ?_
  refine lv_goto (tgt := 14) hx hb d_M_show_10 (by decide) ?_
  refine lv_aload_n hx hb d_M_show_14 rfl (lv_at hl 0 rfl) ?_
  refine lv_iload_n hx hb d_M_show_15 rfl (lv_at hl 1 rfl) ?_
  refine ro_V (As := [.int i1]) (rest := [.int 1, .ref (Y 0)]) (b := (Y 0)) ⟨hx, hb, hml, hown, hts⟩ (c_M_isOne l dC dI Y cI cZ p0 q0 g0 h0 S i1) (cwV 1 hts (al_V k_558 k_559 k_655 k_4 k_560) rfl rfl rfl (by decide +kernel) ⟨Nat.le_of_ble_eq_true rfl, Nat.le_of_ble_eq_true rfl⟩) (fun U g mk a h => ⟨h.1, va_K.moved (u := U) (U := U.calling g mk a) (Vm.Alike.refl U.vm) h.2⟩) (va_recv hK hP (ci := 3) (q0 := 0) rfl rfl) (fun U hU hW => ⟨by rw [hU]; exact hP, va_K.moved hW.alike hK⟩) rfl hl.1 rfl (lv_room (Nat.le_of_ble_eq_true rfl)) d_M_show_16 ⟨Nat.zero_le _, Nat.zero_le _⟩ ?_
  refine lv_if_ne (tgt := 26) hx hb d_M_show_19 (by decide) (fun c19 => ?_) (fun c19 => ?_)
  · refine lv_iconst (v := 0) hx hb d_M_show_26 (by decide) ?_
    refine wr_V (As := [.int 1, .int 0]) (rest := []) (b := (Y 0)) ⟨hx, hb, hml, hown, hts⟩ (c_M_refuses l dC dI Y cI cZ p0 q0 g0 h0 S 1 0 1 1 (by decide) (by decide)) (cwV 2 hts (al_V k_532 k_533 k_649 k_4 k_534) rfl rfl rfl (by decide +kernel) ⟨Nat.le_of_ble_eq_true rfl, Nat.le_of_ble_eq_true rfl⟩) (va_recv hK hP (ci := 3) (q0 := 0) rfl rfl) hP hK hD hS rfl hl.1 rfl (lv_room (Nat.le_of_ble_eq_true rfl)) d_M_show_27 ⟨Nat.zero_le _, Nat.zero_le _⟩ (fun H locs hP _ _ hS => ?_)
    have hD := w_addr hD (w_adM S (up S 0 1 1))
    refine lv_if_ne (tgt := 55) hx hb d_M_show_30 (by decide) (fun _ => ?_) (fun c_ => absurd c_ (by decide))
    refine lv_iconst (v := 0) hx hb d_M_show_55 (by decide) ?_
    exact wr_z hx hb hr hlk (by first | rfl | exact mz_bn _) hP hS d_M_show_56
  · refine lv_iconst (v := 1) hx hb d_M_show_22 (by decide) ?_
    refine lv_goto (tgt := 27) hx hb d_M_show_23 (by decide) ?_
    refine wr_V (As := [.int 1, .int 1]) (rest := []) (b := (Y 0)) ⟨hx, hb, hml, hown, hts⟩ (c_M_refuses l dC dI Y cI cZ p0 q0 g0 h0 S 1 1 1 1 (by decide) (by decide)) (cwV 2 hts (al_V k_532 k_533 k_649 k_4 k_534) rfl rfl rfl (by decide +kernel) ⟨Nat.le_of_ble_eq_true rfl, Nat.le_of_ble_eq_true rfl⟩) (va_recv hK hP (ci := 3) (q0 := 0) rfl rfl) hP hK hD hS rfl hl.1 rfl (lv_room (Nat.le_of_ble_eq_true rfl)) d_M_show_27 ⟨Nat.zero_le _, Nat.zero_le _⟩ (fun H locs hP _ _ hS => ?_)
    have hD := w_addr hD (w_adM S (up S 0 1 1))
    refine lv_if_ne (tgt := 55) hx hb d_M_show_30 (by decide) (fun _ => ?_) (fun c_ => absurd c_ (by decide))
    refine lv_iconst (v := 0) hx hb d_M_show_55 (by decide) ?_
    exact wr_z hx hb hr hlk (by first | rfl | exact mz_bn _) hP hS d_M_show_56
set_option maxRecDepth 100000 in
set_option maxHeartbeats 4000000 in
/-- the reference's relation in another stage -/
theorem r_M_relation_st (l : Launch) (dC : Nat → ClassId) (dI : Nat → Nat → Nat) (Y : Nat → Nat) (cI cZ : ClassId) (p0 q0 g0 h0 : Nat) (S : Nat → Nat → Int32) (hne : ¬ S 0 0 = 5) : Wr l y_M_relation ws_M_relation 1 22 [.ref (Y 0)] (dC, dI) cls (tysM cI cZ) (wM Y cI cZ p0 q0 g0 h0 (S)) (wM Y cI cZ p0 q0 g0 h0 (up S 0 1 1)) (some (.int 0)) := by
  refine Met.ofW (cc := b_M_relation) (maxL := 1) (ret := (some .int)) (by decide) rfl ?_
  intro p e s m args below meth c s₁ B hml hv
  obtain ⟨rfl, hP, hK, hD0⟩ := hv
  have hx := B.exec
  have hb := B.bytes
  have hr := B.returns
  have hts : ∀ w ∈ AL, w.before ([.ref (Y 0)] : List Value).toArray s = true := fun w h => atoms_spec (ws := ws_M_relation) B.pre w (List.mem_cons_of_mem _ h)
  have hown : s.vm.findClass "DealtSecretModel" = some m.cls := findClass_of_methodNamed B.named
  have hlk := B.notSynchronized
  have hl := lv_entry ([.ref (Y 0)]) (n := 1) (Nat.le_of_ble_eq_true rfl)
  rw [lg_entry_eq]
  generalize (lg_sl ([.ref (Y 0)]) ++ List.replicate (1 - (lg_sl ([.ref (Y 0)])).length) Slot.unset).toArray = ls at hl ⊢
  have hl : lv_has ls 1 [(0, .ref (Y 0))] := hl
  have hD := w_self hD0
  have hS : va_S (w_A (wM Y cI cZ p0 q0 g0 h0 (S))) s.heap s.heap [] := va_S.rf
  refine lv_aload_n hx hb d_M_relation_0 rfl (lv_at hl 0 rfl) ?_
  refine lv_aload_n hx hb d_M_relation_1 rfl (lv_at hl 0 rfl) ?_
  refine va_get (D := (dC, dI)) (ci := 3) (v := .int (S 0 0)) (C := "DealtSecretModel") (T := T_M) (N := 24) hx hb hts i_M hown hK hP 0 rfl rfl 4 (by decide) (hts _ k_447) (fun _ h9 => h9) rfl d_M_relation_2 ?_
  refine lv_iconst (v := 5) hx hb d_M_relation_5 (by decide) ?_
  refine lv_icmp_eq (tgt := 13) hx hb d_M_relation_6 (by decide) (fun c_ => absurd c_ (hne)) (fun _ => ?_)
  refine lv_iconst (v := 1) hx hb d_M_relation_9 (by decide) ?_
  refine lv_goto (tgt := 14) hx hb d_M_relation_10 (by decide) ?_
  refine lv_aload_n hx hb d_M_relation_14 rfl (lv_at hl 0 rfl) ?_
  refine va_get (D := (dC, dI)) (ci := 3) (v := .int (S 0 5)) (C := "DealtSecretModel") (T := T_M) (N := 24) hx hb hts i_M hown hK hP 0 rfl rfl 20 (by decide) (hts _ k_463) (fun _ h9 => h9) rfl d_M_relation_15 ?_
  refine lv_if_ne (tgt := 25) hx hb d_M_relation_18 (by decide) (fun c18 => ?_) (fun c18 => ?_)
  · refine lv_iconst (v := 0) hx hb d_M_relation_25 (by decide) ?_
    refine wr_V (As := [.int 1, .int 0]) (rest := []) (b := (Y 0)) ⟨hx, hb, hml, hown, hts⟩ (c_M_refuses l dC dI Y cI cZ p0 q0 g0 h0 S 1 0 1 1 (by decide) (by decide)) (cwV 2 hts (al_V k_532 k_533 k_649 k_4 k_534) rfl rfl rfl (by decide +kernel) ⟨Nat.le_of_ble_eq_true rfl, Nat.le_of_ble_eq_true rfl⟩) (va_recv hK hP (ci := 3) (q0 := 0) rfl rfl) hP hK hD hS rfl hl.1 rfl (lv_room (Nat.le_of_ble_eq_true rfl)) d_M_relation_26 ⟨Nat.zero_le _, Nat.zero_le _⟩ (fun H locs hP _ _ hS => ?_)
    have hD := w_addr hD (w_adM S (up S 0 1 1))
    refine lv_if_eq (tgt := 34) hx hb d_M_relation_29 (by decide) (fun c_ => absurd c_ (by decide)) (fun _ => ?_)
    refine lv_iconst (v := 0) hx hb d_M_relation_32 (by decide) ?_
    exact wr_i hx hb hr hlk hP hS d_M_relation_33
  · refine lv_iconst (v := 1) hx hb d_M_relation_21 (by decide) ?_
    refine lv_goto (tgt := 26) hx hb d_M_relation_22 (by decide) ?_
    refine wr_V (As := [.int 1, .int 1]) (rest := []) (b := (Y 0)) ⟨hx, hb, hml, hown, hts⟩ (c_M_refuses l dC dI Y cI cZ p0 q0 g0 h0 S 1 1 1 1 (by decide) (by decide)) (cwV 2 hts (al_V k_532 k_533 k_649 k_4 k_534) rfl rfl rfl (by decide +kernel) ⟨Nat.le_of_ble_eq_true rfl, Nat.le_of_ble_eq_true rfl⟩) (va_recv hK hP (ci := 3) (q0 := 0) rfl rfl) hP hK hD hS rfl hl.1 rfl (lv_room (Nat.le_of_ble_eq_true rfl)) d_M_relation_26 ⟨Nat.zero_le _, Nat.zero_le _⟩ (fun H locs hP _ _ hS => ?_)
    have hD := w_addr hD (w_adM S (up S 0 1 1))
    refine lv_if_eq (tgt := 34) hx hb d_M_relation_29 (by decide) (fun c_ => absurd c_ (by decide)) (fun _ => ?_)
    refine lv_iconst (v := 0) hx hb d_M_relation_32 (by decide) ?_
    exact wr_i hx hb hr hlk hP hS d_M_relation_33
set_option maxRecDepth 100000 in
set_option maxHeartbeats 4000000 in
/-- the reference's coefficient with an argument that it refuses -/
theorem r_M_coefficient_cf (l : Launch) (dC : Nat → ClassId) (dI : Nat → Nat → Nat) (Y : Nat → Nat) (cI cZ : ClassId) (p0 q0 g0 h0 : Nat) (S : Nat → Nat → Int32) (k1 x1 y1 : Int32) (hst : S 0 0 = 1) (hne : ¬ isCf (S 0 3) k1) : Wr l y_M_coefficient ws_M_coefficient 1 22 [.ref (Y 0), .int k1, .int x1, .int y1] (dC, dI) cls (tysM cI cZ) (wM Y cI cZ p0 q0 g0 h0 (S)) (wM Y cI cZ p0 q0 g0 h0 (up S 0 1 2)) (none) := by
  refine Met.ofW (cc := b_M_coefficient) (maxL := 4) (ret := none) (by decide) rfl ?_
  intro p e s m args below meth c s₁ B hml hv
  obtain ⟨rfl, hP, hK, hD0⟩ := hv
  have hx := B.exec
  have hb := B.bytes
  have hr := B.returns
  have hts : ∀ w ∈ AL, w.before ([.ref (Y 0), .int k1, .int x1, .int y1] : List Value).toArray s = true := fun w h => atoms_spec (ws := ws_M_coefficient) B.pre w (List.mem_cons_of_mem _ h)
  have hown : s.vm.findClass "DealtSecretModel" = some m.cls := findClass_of_methodNamed B.named
  have hlk := B.notSynchronized
  have hl := lv_entry ([.ref (Y 0), .int k1, .int x1, .int y1]) (n := 4) (Nat.le_of_ble_eq_true rfl)
  rw [lg_entry_eq]
  generalize (lg_sl ([.ref (Y 0), .int k1, .int x1, .int y1]) ++ List.replicate (4 - (lg_sl ([.ref (Y 0), .int k1, .int x1, .int y1])).length) Slot.unset).toArray = ls at hl ⊢
  have hl : lv_has ls 4 [(0, .ref (Y 0)), (1, .int k1), (2, .int x1), (3, .int y1)] := hl
  have hD := w_self hD0
  have hS : va_S (w_A (wM Y cI cZ p0 q0 g0 h0 (S))) s.heap s.heap [] := va_S.rf
  refine lv_aload_n hx hb d_M_coefficient_0 rfl (lv_at hl 0 rfl) ?_
  refine lv_aload_n hx hb d_M_coefficient_1 rfl (lv_at hl 0 rfl) ?_
  refine va_get (D := (dC, dI)) (ci := 3) (v := .int (S 0 0)) (C := "DealtSecretModel") (T := T_M) (N := 24) hx hb hts i_M hown hK hP 0 rfl rfl 4 (by decide) (hts _ k_447) (fun _ h9 => h9) rfl d_M_coefficient_2 ?_
  refine lv_iconst (v := 1) hx hb d_M_coefficient_5 (by decide) ?_
  refine lv_icmp_eq (tgt := 13) hx hb d_M_coefficient_6 (by decide) (fun _ => ?_) (fun c_ => absurd (hst) c_)
  refine lv_iconst (v := 0) hx hb d_M_coefficient_13 (by decide) ?_
  refine lv_iload_n hx hb d_M_coefficient_14 rfl (lv_at hl 1 rfl) ?_
  refine lv_if_lt (tgt := 26) hx hb d_M_coefficient_15 (by decide) (fun c15 => ?_) (fun c15 => ?_)
  · refine lv_iconst (v := 1) hx hb d_M_coefficient_26 (by decide) ?_
    refine lv_goto (tgt := 31) hx hb d_M_coefficient_27 (by decide) ?_
    refine wr_V (As := [.int 0, .int 1]) (rest := []) (b := (Y 0)) ⟨hx, hb, hml, hown, hts⟩ (c_M_refuses l dC dI Y cI cZ p0 q0 g0 h0 S 0 1 2 1 (by decide) (by decide)) (cwV 2 hts (al_V k_532 k_533 k_649 k_4 k_534) rfl rfl rfl (by decide +kernel) ⟨Nat.le_of_ble_eq_true rfl, Nat.le_of_ble_eq_true rfl⟩) (va_recv hK hP (ci := 3) (q0 := 0) rfl rfl) hP hK hD hS rfl hl.1 rfl (lv_room (Nat.le_of_ble_eq_true rfl)) d_M_coefficient_31 ⟨Nat.zero_le _, Nat.zero_le _⟩ (fun H locs hP _ _ hS => ?_)
    have hD := w_addr hD (w_adM S (up S 0 1 2))
    refine lv_if_eq (tgt := 38) hx hb d_M_coefficient_34 (by decide) (fun c_ => absurd c_ (by decide)) (fun _ => ?_)
    exact wr_v hx hb hr hlk hP hS d_M_coefficient_37
  · refine lv_iload_n hx hb d_M_coefficient_18 rfl (lv_at hl 1 rfl) ?_
    refine lv_aload_n hx hb d_M_coefficient_19 rfl (lv_at hl 0 rfl) ?_
    refine va_get (D := (dC, dI)) (ci := 3) (v := .int (S 0 3)) (C := "DealtSecretModel") (T := T_M) (N := 24) hx hb hts i_M hown hK hP 0 rfl rfl 7 (by decide) (hts _ k_450) (fun _ h9 => h9) rfl d_M_coefficient_20 ?_
    refine lv_icmp_lt (tgt := 30) hx hb d_M_coefficient_23 (by decide) (fun c_ => absurd c_ (fun q => hne ⟨c15, Int32.not_le.mpr q⟩)) (fun _ => ?_)
    refine lv_iconst (v := 1) hx hb d_M_coefficient_26 (by decide) ?_
    refine lv_goto (tgt := 31) hx hb d_M_coefficient_27 (by decide) ?_
    refine wr_V (As := [.int 0, .int 1]) (rest := []) (b := (Y 0)) ⟨hx, hb, hml, hown, hts⟩ (c_M_refuses l dC dI Y cI cZ p0 q0 g0 h0 S 0 1 2 1 (by decide) (by decide)) (cwV 2 hts (al_V k_532 k_533 k_649 k_4 k_534) rfl rfl rfl (by decide +kernel) ⟨Nat.le_of_ble_eq_true rfl, Nat.le_of_ble_eq_true rfl⟩) (va_recv hK hP (ci := 3) (q0 := 0) rfl rfl) hP hK hD hS rfl hl.1 rfl (lv_room (Nat.le_of_ble_eq_true rfl)) d_M_coefficient_31 ⟨Nat.zero_le _, Nat.zero_le _⟩ (fun H locs hP _ _ hS => ?_)
    have hD := w_addr hD (w_adM S (up S 0 1 2))
    refine lv_if_eq (tgt := 38) hx hb d_M_coefficient_34 (by decide) (fun c_ => absurd c_ (by decide)) (fun _ => ?_)
    exact wr_v hx hb hr hlk hP hS d_M_coefficient_37
set_option maxRecDepth 100000 in
set_option maxHeartbeats 4000000 in
/-- the reference's tamper with an argument that it refuses -/
theorem r_M_tamper_pt (l : Launch) (dC : Nat → ClassId) (dI : Nat → Nat → Nat) (Y : Nat → Nat) (cI cZ : ClassId) (p0 q0 g0 h0 : Nat) (S : Nat → Nat → Int32) (i1 x1 y1 : Int32) (hst : S 0 0 = 2) (hne : ¬ isPt (S 0 2) i1) : Wr l y_M_tamper ws_M_tamper 1 22 [.ref (Y 0), .int i1, .int x1, .int y1] (dC, dI) cls (tysM cI cZ) (wM Y cI cZ p0 q0 g0 h0 (S)) (wM Y cI cZ p0 q0 g0 h0 (up S 0 1 2)) (none) := by
  refine Met.ofW (cc := b_M_tamper) (maxL := 4) (ret := none) (by decide) rfl ?_
  intro p e s m args below meth c s₁ B hml hv
  obtain ⟨rfl, hP, hK, hD0⟩ := hv
  have hx := B.exec
  have hb := B.bytes
  have hr := B.returns
  have hts : ∀ w ∈ AL, w.before ([.ref (Y 0), .int i1, .int x1, .int y1] : List Value).toArray s = true := fun w h => atoms_spec (ws := ws_M_tamper) B.pre w (List.mem_cons_of_mem _ h)
  have hown : s.vm.findClass "DealtSecretModel" = some m.cls := findClass_of_methodNamed B.named
  have hlk := B.notSynchronized
  have hl := lv_entry ([.ref (Y 0), .int i1, .int x1, .int y1]) (n := 4) (Nat.le_of_ble_eq_true rfl)
  rw [lg_entry_eq]
  generalize (lg_sl ([.ref (Y 0), .int i1, .int x1, .int y1]) ++ List.replicate (4 - (lg_sl ([.ref (Y 0), .int i1, .int x1, .int y1])).length) Slot.unset).toArray = ls at hl ⊢
  have hl : lv_has ls 4 [(0, .ref (Y 0)), (1, .int i1), (2, .int x1), (3, .int y1)] := hl
  have hD := w_self hD0
  have hS : va_S (w_A (wM Y cI cZ p0 q0 g0 h0 (S))) s.heap s.heap [] := va_S.rf
  refine lv_aload_n hx hb d_M_tamper_0 rfl (lv_at hl 0 rfl) ?_
  refine lv_aload_n hx hb d_M_tamper_1 rfl (lv_at hl 0 rfl) ?_
  refine va_get (D := (dC, dI)) (ci := 3) (v := .int (S 0 0)) (C := "DealtSecretModel") (T := T_M) (N := 24) hx hb hts i_M hown hK hP 0 rfl rfl 4 (by decide) (hts _ k_447) (fun _ h9 => h9) rfl d_M_tamper_2 ?_
  refine lv_iconst (v := 2) hx hb d_M_tamper_5 (by decide) ?_
  refine lv_icmp_eq (tgt := 13) hx hb d_M_tamper_6 (by decide) (fun _ => ?_) (fun c_ => absurd (hst) c_)
  refine lv_iconst (v := 0) hx hb d_M_tamper_13 (by decide) ?_
  refine lv_aload_n hx hb d_M_tamper_14 rfl (lv_at hl 0 rfl) ?_
  refine lv_iload_n hx hb d_M_tamper_15 rfl (lv_at hl 1 rfl) ?_
  refine ro_V (As := [.int i1]) (rest := [.int 0, .ref (Y 0)]) (b := (Y 0)) ⟨hx, hb, hml, hown, hts⟩ (c_M_isOne l dC dI Y cI cZ p0 q0 g0 h0 S i1) (cwV 1 hts (al_V k_558 k_559 k_655 k_4 k_560) rfl rfl rfl (by decide +kernel) ⟨Nat.le_of_ble_eq_true rfl, Nat.le_of_ble_eq_true rfl⟩) (fun U g mk a h => ⟨h.1, va_K.moved (u := U) (U := U.calling g mk a) (Vm.Alike.refl U.vm) h.2⟩) (va_recv hK hP (ci := 3) (q0 := 0) rfl rfl) (fun U hU hW => ⟨by rw [hU]; exact hP, va_K.moved hW.alike hK⟩) rfl hl.1 rfl (lv_room (Nat.le_of_ble_eq_true rfl)) d_M_tamper_16 ⟨Nat.zero_le _, Nat.zero_le _⟩ ?_
  refine lv_if_ne (tgt := 26) hx hb d_M_tamper_19 (by decide) (fun c_ => absurd (mz_bf hne) c_) (fun _ => ?_)
  refine lv_iconst (v := 1) hx hb d_M_tamper_22 (by decide) ?_
  refine lv_goto (tgt := 27) hx hb d_M_tamper_23 (by decide) ?_
  refine wr_V (As := [.int 0, .int 1]) (rest := []) (b := (Y 0)) ⟨hx, hb, hml, hown, hts⟩ (c_M_refuses l dC dI Y cI cZ p0 q0 g0 h0 S 0 1 2 1 (by decide) (by decide)) (cwV 2 hts (al_V k_532 k_533 k_649 k_4 k_534) rfl rfl rfl (by decide +kernel) ⟨Nat.le_of_ble_eq_true rfl, Nat.le_of_ble_eq_true rfl⟩) (va_recv hK hP (ci := 3) (q0 := 0) rfl rfl) hP hK hD hS rfl hl.1 rfl (lv_room (Nat.le_of_ble_eq_true rfl)) d_M_tamper_27 ⟨Nat.zero_le _, Nat.zero_le _⟩ (fun H locs hP _ _ hS => ?_)
  have hD := w_addr hD (w_adM S (up S 0 1 2))
  refine lv_if_eq (tgt := 34) hx hb d_M_tamper_30 (by decide) (fun c_ => absurd c_ (by decide)) (fun _ => ?_)
  exact wr_v hx hb hr hlk hP hS d_M_tamper_33
set_option maxRecDepth 100000 in
set_option maxHeartbeats 4000000 in
/-- the reference's forge with an argument that it refuses -/
theorem r_M_forge_fx (l : Launch) (dC : Nat → ClassId) (dI : Nat → Nat → Nat) (Y : Nat → Nat) (cI cZ : ClassId) (p0 q0 g0 h0 : Nat) (S : Nat → Nat → Int32) (k1 x1 : Int32) (hst : S 0 0 = 2) (hne : ¬ (isCf (S 0 3) k1 ∧ ¬ x1 < 1 ∧ x1 < nI p0)) : Wr l y_M_forge ws_M_forge 1 22 [.ref (Y 0), .int k1, .int x1] (dC, dI) cls (tysM cI cZ) (wM Y cI cZ p0 q0 g0 h0 (S)) (wM Y cI cZ p0 q0 g0 h0 (up S 0 1 2)) (none) := by
  refine Met.ofW (cc := b_M_forge) (maxL := 3) (ret := none) (by decide) rfl ?_
  intro p e s m args below meth c s₁ B hml hv
  obtain ⟨rfl, hP, hK, hD0⟩ := hv
  have hx := B.exec
  have hb := B.bytes
  have hr := B.returns
  have hts : ∀ w ∈ AL, w.before ([.ref (Y 0), .int k1, .int x1] : List Value).toArray s = true := fun w h => atoms_spec (ws := ws_M_forge) B.pre w (List.mem_cons_of_mem _ h)
  have hown : s.vm.findClass "DealtSecretModel" = some m.cls := findClass_of_methodNamed B.named
  have hlk := B.notSynchronized
  have hl := lv_entry ([.ref (Y 0), .int k1, .int x1]) (n := 3) (Nat.le_of_ble_eq_true rfl)
  rw [lg_entry_eq]
  generalize (lg_sl ([.ref (Y 0), .int k1, .int x1]) ++ List.replicate (3 - (lg_sl ([.ref (Y 0), .int k1, .int x1])).length) Slot.unset).toArray = ls at hl ⊢
  have hl : lv_has ls 3 [(0, .ref (Y 0)), (1, .int k1), (2, .int x1)] := hl
  have hD := w_self hD0
  have hS : va_S (w_A (wM Y cI cZ p0 q0 g0 h0 (S))) s.heap s.heap [] := va_S.rf
  refine lv_aload_n hx hb d_M_forge_0 rfl (lv_at hl 0 rfl) ?_
  refine lv_aload_n hx hb d_M_forge_1 rfl (lv_at hl 0 rfl) ?_
  refine va_get (D := (dC, dI)) (ci := 3) (v := .int (S 0 0)) (C := "DealtSecretModel") (T := T_M) (N := 24) hx hb hts i_M hown hK hP 0 rfl rfl 4 (by decide) (hts _ k_447) (fun _ h9 => h9) rfl d_M_forge_2 ?_
  refine lv_iconst (v := 2) hx hb d_M_forge_5 (by decide) ?_
  refine lv_icmp_eq (tgt := 13) hx hb d_M_forge_6 (by decide) (fun _ => ?_) (fun c_ => absurd (hst) c_)
  refine lv_iconst (v := 0) hx hb d_M_forge_13 (by decide) ?_
  refine lv_iload_n hx hb d_M_forge_14 rfl (lv_at hl 1 rfl) ?_
  refine lv_if_lt (tgt := 39) hx hb d_M_forge_15 (by decide) (fun c15 => ?_) (fun c15 => ?_)
  · refine lv_iconst (v := 1) hx hb d_M_forge_39 (by decide) ?_
    refine lv_goto (tgt := 44) hx hb d_M_forge_40 (by decide) ?_
    refine wr_V (As := [.int 0, .int 1]) (rest := []) (b := (Y 0)) ⟨hx, hb, hml, hown, hts⟩ (c_M_refuses l dC dI Y cI cZ p0 q0 g0 h0 S 0 1 2 1 (by decide) (by decide)) (cwV 2 hts (al_V k_532 k_533 k_649 k_4 k_534) rfl rfl rfl (by decide +kernel) ⟨Nat.le_of_ble_eq_true rfl, Nat.le_of_ble_eq_true rfl⟩) (va_recv hK hP (ci := 3) (q0 := 0) rfl rfl) hP hK hD hS rfl hl.1 rfl (lv_room (Nat.le_of_ble_eq_true rfl)) d_M_forge_44 ⟨Nat.zero_le _, Nat.zero_le _⟩ (fun H locs hP _ _ hS => ?_)
    have hD := w_addr hD (w_adM S (up S 0 1 2))
    refine lv_if_eq (tgt := 51) hx hb d_M_forge_47 (by decide) (fun c_ => absurd c_ (by decide)) (fun _ => ?_)
    exact wr_v hx hb hr hlk hP hS d_M_forge_50
  · refine lv_iload_n hx hb d_M_forge_18 rfl (lv_at hl 1 rfl) ?_
    refine lv_aload_n hx hb d_M_forge_19 rfl (lv_at hl 0 rfl) ?_
    refine va_get (D := (dC, dI)) (ci := 3) (v := .int (S 0 3)) (C := "DealtSecretModel") (T := T_M) (N := 24) hx hb hts i_M hown hK hP 0 rfl rfl 7 (by decide) (hts _ k_450) (fun _ h9 => h9) rfl d_M_forge_20 ?_
    refine lv_icmp_ge (tgt := 39) hx hb d_M_forge_23 (by decide) (fun c23 => ?_) (fun c23 => ?_)
    · refine lv_iconst (v := 1) hx hb d_M_forge_39 (by decide) ?_
      refine lv_goto (tgt := 44) hx hb d_M_forge_40 (by decide) ?_
      refine wr_V (As := [.int 0, .int 1]) (rest := []) (b := (Y 0)) ⟨hx, hb, hml, hown, hts⟩ (c_M_refuses l dC dI Y cI cZ p0 q0 g0 h0 S 0 1 2 1 (by decide) (by decide)) (cwV 2 hts (al_V k_532 k_533 k_649 k_4 k_534) rfl rfl rfl (by decide +kernel) ⟨Nat.le_of_ble_eq_true rfl, Nat.le_of_ble_eq_true rfl⟩) (va_recv hK hP (ci := 3) (q0 := 0) rfl rfl) hP hK hD hS rfl hl.1 rfl (lv_room (Nat.le_of_ble_eq_true rfl)) d_M_forge_44 ⟨Nat.zero_le _, Nat.zero_le _⟩ (fun H locs hP _ _ hS => ?_)
      have hD := w_addr hD (w_adM S (up S 0 1 2))
      refine lv_if_eq (tgt := 51) hx hb d_M_forge_47 (by decide) (fun c_ => absurd c_ (by decide)) (fun _ => ?_)
      exact wr_v hx hb hr hlk hP hS d_M_forge_50
    · refine lv_iload_n hx hb d_M_forge_26 rfl (lv_at hl 2 rfl) ?_
      refine lv_iconst (v := 1) hx hb d_M_forge_27 (by decide) ?_
      refine lv_icmp_lt (tgt := 39) hx hb d_M_forge_28 (by decide) (fun c28 => ?_) (fun c28 => ?_)
      · refine lv_iconst (v := 1) hx hb d_M_forge_39 (by decide) ?_
        refine lv_goto (tgt := 44) hx hb d_M_forge_40 (by decide) ?_
        refine wr_V (As := [.int 0, .int 1]) (rest := []) (b := (Y 0)) ⟨hx, hb, hml, hown, hts⟩ (c_M_refuses l dC dI Y cI cZ p0 q0 g0 h0 S 0 1 2 1 (by decide) (by decide)) (cwV 2 hts (al_V k_532 k_533 k_649 k_4 k_534) rfl rfl rfl (by decide +kernel) ⟨Nat.le_of_ble_eq_true rfl, Nat.le_of_ble_eq_true rfl⟩) (va_recv hK hP (ci := 3) (q0 := 0) rfl rfl) hP hK hD hS rfl hl.1 rfl (lv_room (Nat.le_of_ble_eq_true rfl)) d_M_forge_44 ⟨Nat.zero_le _, Nat.zero_le _⟩ (fun H locs hP _ _ hS => ?_)
        have hD := w_addr hD (w_adM S (up S 0 1 2))
        refine lv_if_eq (tgt := 51) hx hb d_M_forge_47 (by decide) (fun c_ => absurd c_ (by decide)) (fun _ => ?_)
        exact wr_v hx hb hr hlk hP hS d_M_forge_50
      · refine lv_iload_n hx hb d_M_forge_31 rfl (lv_at hl 2 rfl) ?_
        refine lv_aload_n hx hb d_M_forge_32 rfl (lv_at hl 0 rfl) ?_
        refine va_get (D := (dC, dI)) (ci := 3) (v := .int (nI p0)) (C := "DealtSecretModel") (T := T_M) (N := 24) hx hb hts i_M hown hK hP 0 rfl rfl 0 (by decide) (hts _ k_443) (fun _ h9 => h9) rfl d_M_forge_33 ?_
        refine lv_icmp_lt (tgt := 43) hx hb d_M_forge_36 (by decide) (fun c_ => absurd c_ (fun q => hne ⟨⟨c15, c23⟩, c28, q⟩)) (fun _ => ?_)
        refine lv_iconst (v := 1) hx hb d_M_forge_39 (by decide) ?_
        refine lv_goto (tgt := 44) hx hb d_M_forge_40 (by decide) ?_
        refine wr_V (As := [.int 0, .int 1]) (rest := []) (b := (Y 0)) ⟨hx, hb, hml, hown, hts⟩ (c_M_refuses l dC dI Y cI cZ p0 q0 g0 h0 S 0 1 2 1 (by decide) (by decide)) (cwV 2 hts (al_V k_532 k_533 k_649 k_4 k_534) rfl rfl rfl (by decide +kernel) ⟨Nat.le_of_ble_eq_true rfl, Nat.le_of_ble_eq_true rfl⟩) (va_recv hK hP (ci := 3) (q0 := 0) rfl rfl) hP hK hD hS rfl hl.1 rfl (lv_room (Nat.le_of_ble_eq_true rfl)) d_M_forge_44 ⟨Nat.zero_le _, Nat.zero_le _⟩ (fun H locs hP _ _ hS => ?_)
        have hD := w_addr hD (w_adM S (up S 0 1 2))
        refine lv_if_eq (tgt := 51) hx hb d_M_forge_47 (by decide) (fun c_ => absurd c_ (by decide)) (fun _ => ?_)
        exact wr_v hx hb hr hlk hP hS d_M_forge_50
set_option maxRecDepth 100000 in
set_option maxHeartbeats 4000000 in
/-- the reference's accuse with an argument that it refuses -/
theorem r_M_accuse_pt (l : Launch) (dC : Nat → ClassId) (dI : Nat → Nat → Nat) (Y : Nat → Nat) (cI cZ : ClassId) (p0 q0 g0 h0 : Nat) (S : Nat → Nat → Int32) (i1 : Int32) (hst : S 0 0 = 3) (hne : ¬ isPt (S 0 2) i1) : Wr l y_M_accuse ws_M_accuse 1 22 [.ref (Y 0), .int i1] (dC, dI) cls (tysM cI cZ) (wM Y cI cZ p0 q0 g0 h0 (S)) (wM Y cI cZ p0 q0 g0 h0 (up S 0 1 2)) (some (.int 0)) := by
  refine Met.ofW (cc := b_M_accuse) (maxL := 2) (ret := (some .boolean)) (by decide) rfl ?_
  intro p e s m args below meth c s₁ B hml hv
  obtain ⟨rfl, hP, hK, hD0⟩ := hv
  have hx := B.exec
  have hb := B.bytes
  have hr := B.returns
  have hts : ∀ w ∈ AL, w.before ([.ref (Y 0), .int i1] : List Value).toArray s = true := fun w h => atoms_spec (ws := ws_M_accuse) B.pre w (List.mem_cons_of_mem _ h)
  have hown : s.vm.findClass "DealtSecretModel" = some m.cls := findClass_of_methodNamed B.named
  have hlk := B.notSynchronized
  have hl := lv_entry ([.ref (Y 0), .int i1]) (n := 2) (Nat.le_of_ble_eq_true rfl)
  rw [lg_entry_eq]
  generalize (lg_sl ([.ref (Y 0), .int i1]) ++ List.replicate (2 - (lg_sl ([.ref (Y 0), .int i1])).length) Slot.unset).toArray = ls at hl ⊢
  have hl : lv_has ls 2 [(0, .ref (Y 0)), (1, .int i1)] := hl
  have hD := w_self hD0
  have hS : va_S (w_A (wM Y cI cZ p0 q0 g0 h0 (S))) s.heap s.heap [] := va_S.rf
  refine lv_aload_n hx hb d_M_accuse_0 rfl (lv_at hl 0 rfl) ?_
  refine lv_aload_n hx hb d_M_accuse_1 rfl (lv_at hl 0 rfl) ?_
  refine va_get (D := (dC, dI)) (ci := 3) (v := .int (S 0 0)) (C := "DealtSecretModel") (T := T_M) (N := 24) hx hb hts i_M hown hK hP 0 rfl rfl 4 (by decide) (hts _ k_447) (fun _ h9 => h9) rfl d_M_accuse_2 ?_
  refine lv_iconst (v := 3) hx hb d_M_accuse_5 (by decide) ?_
  refine lv_icmp_eq (tgt := 13) hx hb d_M_accuse_6 (by decide) (fun _ => ?_) (fun c_ => absurd (hst) c_)
  refine lv_iconst (v := 0) hx hb d_M_accuse_13 (by decide) ?_
  refine lv_aload_n hx hb d_M_accuse_14 rfl (lv_at hl 0 rfl) ?_
  refine lv_iload_n hx hb d_M_accuse_15 rfl (lv_at hl 1 rfl) ?_
  refine ro_V (As := [.int i1]) (rest := [.int 0, .ref (Y 0)]) (b := (Y 0)) ⟨hx, hb, hml, hown, hts⟩ (c_M_isOne l dC dI Y cI cZ p0 q0 g0 h0 S i1) (cwV 1 hts (al_V k_558 k_559 k_655 k_4 k_560) rfl rfl rfl (by decide +kernel) ⟨Nat.le_of_ble_eq_true rfl, Nat.le_of_ble_eq_true rfl⟩) (fun U g mk a h => ⟨h.1, va_K.moved (u := U) (U := U.calling g mk a) (Vm.Alike.refl U.vm) h.2⟩) (va_recv hK hP (ci := 3) (q0 := 0) rfl rfl) (fun U hU hW => ⟨by rw [hU]; exact hP, va_K.moved hW.alike hK⟩) rfl hl.1 rfl (lv_room (Nat.le_of_ble_eq_true rfl)) d_M_accuse_16 ⟨Nat.zero_le _, Nat.zero_le _⟩ ?_
  refine lv_if_ne (tgt := 26) hx hb d_M_accuse_19 (by decide) (fun c_ => absurd (mz_bf hne) c_) (fun _ => ?_)
  refine lv_iconst (v := 1) hx hb d_M_accuse_22 (by decide) ?_
  refine lv_goto (tgt := 27) hx hb d_M_accuse_23 (by decide) ?_
  refine wr_V (As := [.int 0, .int 1]) (rest := []) (b := (Y 0)) ⟨hx, hb, hml, hown, hts⟩ (c_M_refuses l dC dI Y cI cZ p0 q0 g0 h0 S 0 1 2 1 (by decide) (by decide)) (cwV 2 hts (al_V k_532 k_533 k_649 k_4 k_534) rfl rfl rfl (by decide +kernel) ⟨Nat.le_of_ble_eq_true rfl, Nat.le_of_ble_eq_true rfl⟩) (va_recv hK hP (ci := 3) (q0 := 0) rfl rfl) hP hK hD hS rfl hl.1 rfl (lv_room (Nat.le_of_ble_eq_true rfl)) d_M_accuse_27 ⟨Nat.zero_le _, Nat.zero_le _⟩ (fun H locs hP _ _ hS => ?_)
  have hD := w_addr hD (w_adM S (up S 0 1 2))
  refine lv_if_ne (tgt := 51) hx hb d_M_accuse_30 (by decide) (fun _ => ?_) (fun c_ => absurd c_ (by decide))
  refine lv_iconst (v := 0) hx hb d_M_accuse_51 (by decide) ?_
  exact wr_z hx hb hr hlk (by first | rfl | exact mz_bn _) hP hS d_M_accuse_52
set_option maxRecDepth 100000 in
set_option maxHeartbeats 4000000 in
/-- the reference's answer with an argument that it refuses -/
theorem r_M_answer_pt (l : Launch) (dC : Nat → ClassId) (dI : Nat → Nat → Nat) (Y : Nat → Nat) (cI cZ : ClassId) (p0 q0 g0 h0 : Nat) (S : Nat → Nat → Int32) (i1 x1 y1 : Int32) (hst : S 0 0 = 4) (hne : ¬ isPt (S 0 2) i1) : Wr l y_M_answer ws_M_answer 4 95 [.ref (Y 0), .int i1, .int x1, .int y1] (dC, dI) cls (tysM cI cZ) (wM Y cI cZ p0 q0 g0 h0 (S)) (wM Y cI cZ p0 q0 g0 h0 (up S 0 1 2)) (some (.int 0)) := by
  refine Met.ofW (cc := b_M_answer) (maxL := 4) (ret := (some .boolean)) (by decide) rfl ?_
  intro p e s m args below meth c s₁ B hml hv
  obtain ⟨rfl, hP, hK, hD0⟩ := hv
  have hx := B.exec
  have hb := B.bytes
  have hr := B.returns
  have hts : ∀ w ∈ AL, w.before ([.ref (Y 0), .int i1, .int x1, .int y1] : List Value).toArray s = true := fun w h => atoms_spec (ws := ws_M_answer) B.pre w (List.mem_cons_of_mem _ h)
  have hown : s.vm.findClass "DealtSecretModel" = some m.cls := findClass_of_methodNamed B.named
  have hlk := B.notSynchronized
  have hl := lv_entry ([.ref (Y 0), .int i1, .int x1, .int y1]) (n := 4) (Nat.le_of_ble_eq_true rfl)
  rw [lg_entry_eq]
  generalize (lg_sl ([.ref (Y 0), .int i1, .int x1, .int y1]) ++ List.replicate (4 - (lg_sl ([.ref (Y 0), .int i1, .int x1, .int y1])).length) Slot.unset).toArray = ls at hl ⊢
  have hl : lv_has ls 4 [(0, .ref (Y 0)), (1, .int i1), (2, .int x1), (3, .int y1)] := hl
  have hD := w_self hD0
  have hS : va_S (w_A (wM Y cI cZ p0 q0 g0 h0 (S))) s.heap s.heap [] := va_S.rf
  refine lv_aload_n hx hb d_M_answer_0 rfl (lv_at hl 0 rfl) ?_
  refine lv_aload_n hx hb d_M_answer_1 rfl (lv_at hl 0 rfl) ?_
  refine va_get (D := (dC, dI)) (ci := 3) (v := .int (S 0 0)) (C := "DealtSecretModel") (T := T_M) (N := 24) hx hb hts i_M hown hK hP 0 rfl rfl 4 (by decide) (hts _ k_447) (fun _ h9 => h9) rfl d_M_answer_2 ?_
  refine lv_iconst (v := 4) hx hb d_M_answer_5 (by decide) ?_
  refine lv_icmp_eq (tgt := 13) hx hb d_M_answer_6 (by decide) (fun _ => ?_) (fun c_ => absurd (hst) c_)
  refine lv_iconst (v := 0) hx hb d_M_answer_13 (by decide) ?_
  refine lv_aload_n hx hb d_M_answer_14 rfl (lv_at hl 0 rfl) ?_
  refine lv_iload_n hx hb d_M_answer_15 rfl (lv_at hl 1 rfl) ?_
  refine ro_V (As := [.int i1]) (rest := [.int 0, .ref (Y 0)]) (b := (Y 0)) ⟨hx, hb, hml, hown, hts⟩ (c_M_isOne l dC dI Y cI cZ p0 q0 g0 h0 S i1) (cwV 1 hts (al_V k_558 k_559 k_655 k_4 k_560) rfl rfl rfl (by decide +kernel) ⟨Nat.le_of_ble_eq_true rfl, Nat.le_of_ble_eq_true rfl⟩) (fun U g mk a h => ⟨h.1, va_K.moved (u := U) (U := U.calling g mk a) (Vm.Alike.refl U.vm) h.2⟩) (va_recv hK hP (ci := 3) (q0 := 0) rfl rfl) (fun U hU hW => ⟨by rw [hU]; exact hP, va_K.moved hW.alike hK⟩) rfl hl.1 rfl (lv_room (Nat.le_of_ble_eq_true rfl)) d_M_answer_16 ⟨Nat.zero_le _, Nat.zero_le _⟩ ?_
  refine lv_if_ne (tgt := 26) hx hb d_M_answer_19 (by decide) (fun c_ => absurd (mz_bf hne) c_) (fun _ => ?_)
  refine lv_iconst (v := 1) hx hb d_M_answer_22 (by decide) ?_
  refine lv_goto (tgt := 27) hx hb d_M_answer_23 (by decide) ?_
  refine wr_V (As := [.int 0, .int 1]) (rest := []) (b := (Y 0)) ⟨hx, hb, hml, hown, hts⟩ (c_M_refuses l dC dI Y cI cZ p0 q0 g0 h0 S 0 1 2 1 (by decide) (by decide)) (cwV 2 hts (al_V k_532 k_533 k_649 k_4 k_534) rfl rfl rfl (by decide +kernel) ⟨Nat.le_of_ble_eq_true rfl, Nat.le_of_ble_eq_true rfl⟩) (va_recv hK hP (ci := 3) (q0 := 0) rfl rfl) hP hK hD hS rfl hl.1 rfl (lv_room (Nat.le_of_ble_eq_true rfl)) d_M_answer_27 ⟨Nat.zero_le _, Nat.zero_le _⟩ (fun H locs hP _ _ hS => ?_)
  have hD := w_addr hD (w_adM S (up S 0 1 2))
  refine lv_if_eq (tgt := 35) hx hb d_M_answer_30 (by decide) (fun c_ => absurd c_ (by decide)) (fun _ => ?_)
  refine lv_iconst (v := 0) hx hb d_M_answer_33 (by decide) ?_
  exact wr_z hx hb hr hlk (by first | rfl | exact mz_bn _) hP hS d_M_answer_34
set_option maxRecDepth 100000 in
set_option maxHeartbeats 4000000 in
/-- the reference's opening with an argument that it refuses -/
theorem r_M_open_pt (l : Launch) (dC : Nat → ClassId) (dI : Nat → Nat → Nat) (Y : Nat → Nat) (cI cZ : ClassId) (p0 q0 g0 h0 : Nat) (S : Nat → Nat → Int32) (i1 : Int32) (hst : S 0 0 = 5) (hne : ¬ isPt (S 0 2) i1) : Wr l y_M_open ws_M_open 5 118 [.ref (Y 0), .int i1] (dC, dI) cls (tysM cI cZ) (wM Y cI cZ p0 q0 g0 h0 (S)) (wM Y cI cZ p0 q0 g0 h0 (up S 0 1 2)) (some (.int 0)) := by
  refine Met.ofW (cc := b_M_open) (maxL := 2) (ret := (some .boolean)) (by decide) rfl ?_
  intro p e s m args below meth c s₁ B hml hv
  obtain ⟨rfl, hP, hK, hD0⟩ := hv
  have hx := B.exec
  have hb := B.bytes
  have hr := B.returns
  have hts : ∀ w ∈ AL, w.before ([.ref (Y 0), .int i1] : List Value).toArray s = true := fun w h => atoms_spec (ws := ws_M_open) B.pre w (List.mem_cons_of_mem _ h)
  have hown : s.vm.findClass "DealtSecretModel" = some m.cls := findClass_of_methodNamed B.named
  have hlk := B.notSynchronized
  have hl := lv_entry ([.ref (Y 0), .int i1]) (n := 2) (Nat.le_of_ble_eq_true rfl)
  rw [lg_entry_eq]
  generalize (lg_sl ([.ref (Y 0), .int i1]) ++ List.replicate (2 - (lg_sl ([.ref (Y 0), .int i1])).length) Slot.unset).toArray = ls at hl ⊢
  have hl : lv_has ls 2 [(0, .ref (Y 0)), (1, .int i1)] := hl
  have hD := w_self hD0
  have hS : va_S (w_A (wM Y cI cZ p0 q0 g0 h0 (S))) s.heap s.heap [] := va_S.rf
  refine lv_aload_n hx hb d_M_open_0 rfl (lv_at hl 0 rfl) ?_
  refine lv_aload_n hx hb d_M_open_1 rfl (lv_at hl 0 rfl) ?_
  refine va_get (D := (dC, dI)) (ci := 3) (v := .int (S 0 0)) (C := "DealtSecretModel") (T := T_M) (N := 24) hx hb hts i_M hown hK hP 0 rfl rfl 4 (by decide) (hts _ k_447) (fun _ h9 => h9) rfl d_M_open_2 ?_
  refine lv_iconst (v := 5) hx hb d_M_open_5 (by decide) ?_
  refine lv_icmp_eq (tgt := 13) hx hb d_M_open_6 (by decide) (fun _ => ?_) (fun c_ => absurd (hst) c_)
  refine lv_iconst (v := 0) hx hb d_M_open_13 (by decide) ?_
  refine lv_aload_n hx hb d_M_open_14 rfl (lv_at hl 0 rfl) ?_
  refine lv_iload_n hx hb d_M_open_15 rfl (lv_at hl 1 rfl) ?_
  refine ro_V (As := [.int i1]) (rest := [.int 0, .ref (Y 0)]) (b := (Y 0)) ⟨hx, hb, hml, hown, hts⟩ (c_M_isOne l dC dI Y cI cZ p0 q0 g0 h0 S i1) (cwV 1 hts (al_V k_558 k_559 k_655 k_4 k_560) rfl rfl rfl (by decide +kernel) ⟨Nat.le_of_ble_eq_true rfl, Nat.le_of_ble_eq_true rfl⟩) (fun U g mk a h => ⟨h.1, va_K.moved (u := U) (U := U.calling g mk a) (Vm.Alike.refl U.vm) h.2⟩) (va_recv hK hP (ci := 3) (q0 := 0) rfl rfl) (fun U hU hW => ⟨by rw [hU]; exact hP, va_K.moved hW.alike hK⟩) rfl hl.1 rfl (lv_room (Nat.le_of_ble_eq_true rfl)) d_M_open_16 ⟨Nat.zero_le _, Nat.zero_le _⟩ ?_
  refine lv_if_ne (tgt := 26) hx hb d_M_open_19 (by decide) (fun c_ => absurd (mz_bf hne) c_) (fun _ => ?_)
  refine lv_iconst (v := 1) hx hb d_M_open_22 (by decide) ?_
  refine lv_goto (tgt := 27) hx hb d_M_open_23 (by decide) ?_
  refine wr_V (As := [.int 0, .int 1]) (rest := []) (b := (Y 0)) ⟨hx, hb, hml, hown, hts⟩ (c_M_refuses l dC dI Y cI cZ p0 q0 g0 h0 S 0 1 2 1 (by decide) (by decide)) (cwV 2 hts (al_V k_532 k_533 k_649 k_4 k_534) rfl rfl rfl (by decide +kernel) ⟨Nat.le_of_ble_eq_true rfl, Nat.le_of_ble_eq_true rfl⟩) (va_recv hK hP (ci := 3) (q0 := 0) rfl rfl) hP hK hD hS rfl hl.1 rfl (lv_room (Nat.le_of_ble_eq_true rfl)) d_M_open_27 ⟨Nat.zero_le _, Nat.zero_le _⟩ (fun H locs hP _ _ hS => ?_)
  have hD := w_addr hD (w_adM S (up S 0 1 2))
  refine lv_if_ne (tgt := 57) hx hb d_M_open_30 (by decide) (fun _ => ?_) (fun c_ => absurd c_ (by decide))
  refine lv_iconst (v := 0) hx hb d_M_open_57 (by decide) ?_
  exact wr_z hx hb hr hlk (by first | rfl | exact mz_bn _) hP hS d_M_open_58
set_option maxRecDepth 100000 in
set_option maxHeartbeats 4000000 in
/-- the reference's show with an argument that it refuses -/
theorem r_M_show_pt (l : Launch) (dC : Nat → ClassId) (dI : Nat → Nat → Nat) (Y : Nat → Nat) (cI cZ : ClassId) (p0 q0 g0 h0 : Nat) (S : Nat → Nat → Int32) (i1 x1 y1 : Int32) (hst : S 0 0 = 5) (hne : ¬ isPt (S 0 2) i1) : Wr l y_M_show ws_M_show 5 118 [.ref (Y 0), .int i1, .int x1, .int y1] (dC, dI) cls (tysM cI cZ) (wM Y cI cZ p0 q0 g0 h0 (S)) (wM Y cI cZ p0 q0 g0 h0 (up S 0 1 2)) (some (.int 0)) := by
  refine Met.ofW (cc := b_M_show) (maxL := 4) (ret := (some .boolean)) (by decide) rfl ?_
  intro p e s m args below meth c s₁ B hml hv
  obtain ⟨rfl, hP, hK, hD0⟩ := hv
  have hx := B.exec
  have hb := B.bytes
  have hr := B.returns
  have hts : ∀ w ∈ AL, w.before ([.ref (Y 0), .int i1, .int x1, .int y1] : List Value).toArray s = true := fun w h => atoms_spec (ws := ws_M_show) B.pre w (List.mem_cons_of_mem _ h)
  have hown : s.vm.findClass "DealtSecretModel" = some m.cls := findClass_of_methodNamed B.named
  have hlk := B.notSynchronized
  have hl := lv_entry ([.ref (Y 0), .int i1, .int x1, .int y1]) (n := 4) (Nat.le_of_ble_eq_true rfl)
  rw [lg_entry_eq]
  generalize (lg_sl ([.ref (Y 0), .int i1, .int x1, .int y1]) ++ List.replicate (4 - (lg_sl ([.ref (Y 0), .int i1, .int x1, .int y1])).length) Slot.unset).toArray = ls at hl ⊢
  have hl : lv_has ls 4 [(0, .ref (Y 0)), (1, .int i1), (2, .int x1), (3, .int y1)] := hl
  have hD := w_self hD0
  have hS : va_S (w_A (wM Y cI cZ p0 q0 g0 h0 (S))) s.heap s.heap [] := va_S.rf
  refine lv_aload_n hx hb d_M_show_0 rfl (lv_at hl 0 rfl) ?_
  refine lv_aload_n hx hb d_M_show_1 rfl (lv_at hl 0 rfl) ?_
  refine va_get (D := (dC, dI)) (ci := 3) (v := .int (S 0 0)) (C := "DealtSecretModel") (T := T_M) (N := 24) hx hb hts i_M hown hK hP 0 rfl rfl 4 (by decide) (hts _ k_447) (fun _ h9 => h9) rfl d_M_show_2 ?_
  refine lv_iconst (v := 5) hx hb d_M_show_5 (by decide) ?_
  refine lv_icmp_eq (tgt := 13) hx hb d_M_show_6 (by decide) (fun _ => ?_) (fun c_ => absurd (hst) c_)
  refine lv_iconst (v := 0) hx hb d_M_show_13 (by decide) ?_
  refine lv_aload_n hx hb d_M_show_14 rfl (lv_at hl 0 rfl) ?_
  refine lv_iload_n hx hb d_M_show_15 rfl (lv_at hl 1 rfl) ?_
  refine ro_V (As := [.int i1]) (rest := [.int 0, .ref (Y 0)]) (b := (Y 0)) ⟨hx, hb, hml, hown, hts⟩ (c_M_isOne l dC dI Y cI cZ p0 q0 g0 h0 S i1) (cwV 1 hts (al_V k_558 k_559 k_655 k_4 k_560) rfl rfl rfl (by decide +kernel) ⟨Nat.le_of_ble_eq_true rfl, Nat.le_of_ble_eq_true rfl⟩) (fun U g mk a h => ⟨h.1, va_K.moved (u := U) (U := U.calling g mk a) (Vm.Alike.refl U.vm) h.2⟩) (va_recv hK hP (ci := 3) (q0 := 0) rfl rfl) (fun U hU hW => ⟨by rw [hU]; exact hP, va_K.moved hW.alike hK⟩) rfl hl.1 rfl (lv_room (Nat.le_of_ble_eq_true rfl)) d_M_show_16 ⟨Nat.zero_le _, Nat.zero_le _⟩ ?_
  refine lv_if_ne (tgt := 26) hx hb d_M_show_19 (by decide) (fun c_ => absurd (mz_bf hne) c_) (fun _ => ?_)
  refine lv_iconst (v := 1) hx hb d_M_show_22 (by decide) ?_
  refine lv_goto (tgt := 27) hx hb d_M_show_23 (by decide) ?_
  refine wr_V (As := [.int 0, .int 1]) (rest := []) (b := (Y 0)) ⟨hx, hb, hml, hown, hts⟩ (c_M_refuses l dC dI Y cI cZ p0 q0 g0 h0 S 0 1 2 1 (by decide) (by decide)) (cwV 2 hts (al_V k_532 k_533 k_649 k_4 k_534) rfl rfl rfl (by decide +kernel) ⟨Nat.le_of_ble_eq_true rfl, Nat.le_of_ble_eq_true rfl⟩) (va_recv hK hP (ci := 3) (q0 := 0) rfl rfl) hP hK hD hS rfl hl.1 rfl (lv_room (Nat.le_of_ble_eq_true rfl)) d_M_show_27 ⟨Nat.zero_le _, Nat.zero_le _⟩ (fun H locs hP _ _ hS => ?_)
  have hD := w_addr hD (w_adM S (up S 0 1 2))
  refine lv_if_ne (tgt := 55) hx hb d_M_show_30 (by decide) (fun _ => ?_) (fun c_ => absurd c_ (by decide))
  refine lv_iconst (v := 0) hx hb d_M_show_55 (by decide) ?_
  exact wr_z hx hb hr hlk (by first | rfl | exact mz_bn _) hP hS d_M_show_56
set_option maxRecDepth 100000 in
set_option maxHeartbeats 4000000 in
/-- the reference's relation with an argument that it refuses -/
theorem r_M_relation_rl (l : Launch) (dC : Nat → ClassId) (dI : Nat → Nat → Nat) (Y : Nat → Nat) (cI cZ : ClassId) (p0 q0 g0 h0 : Nat) (S : Nat → Nat → Int32) (hst : S 0 0 = 5) (hne : S 0 5 = 0) : Wr l y_M_relation ws_M_relation 1 22 [.ref (Y 0)] (dC, dI) cls (tysM cI cZ) (wM Y cI cZ p0 q0 g0 h0 (S)) (wM Y cI cZ p0 q0 g0 h0 (up S 0 1 2)) (some (.int 0)) := by
  refine Met.ofW (cc := b_M_relation) (maxL := 1) (ret := (some .int)) (by decide) rfl ?_
  intro p e s m args below meth c s₁ B hml hv
  obtain ⟨rfl, hP, hK, hD0⟩ := hv
  have hx := B.exec
  have hb := B.bytes
  have hr := B.returns
  have hts : ∀ w ∈ AL, w.before ([.ref (Y 0)] : List Value).toArray s = true := fun w h => atoms_spec (ws := ws_M_relation) B.pre w (List.mem_cons_of_mem _ h)
  have hown : s.vm.findClass "DealtSecretModel" = some m.cls := findClass_of_methodNamed B.named
  have hlk := B.notSynchronized
  have hl := lv_entry ([.ref (Y 0)]) (n := 1) (Nat.le_of_ble_eq_true rfl)
  rw [lg_entry_eq]
  generalize (lg_sl ([.ref (Y 0)]) ++ List.replicate (1 - (lg_sl ([.ref (Y 0)])).length) Slot.unset).toArray = ls at hl ⊢
  have hl : lv_has ls 1 [(0, .ref (Y 0))] := hl
  have hD := w_self hD0
  have hS : va_S (w_A (wM Y cI cZ p0 q0 g0 h0 (S))) s.heap s.heap [] := va_S.rf
  refine lv_aload_n hx hb d_M_relation_0 rfl (lv_at hl 0 rfl) ?_
  refine lv_aload_n hx hb d_M_relation_1 rfl (lv_at hl 0 rfl) ?_
  refine va_get (D := (dC, dI)) (ci := 3) (v := .int (S 0 0)) (C := "DealtSecretModel") (T := T_M) (N := 24) hx hb hts i_M hown hK hP 0 rfl rfl 4 (by decide) (hts _ k_447) (fun _ h9 => h9) rfl d_M_relation_2 ?_
  refine lv_iconst (v := 5) hx hb d_M_relation_5 (by decide) ?_
  refine lv_icmp_eq (tgt := 13) hx hb d_M_relation_6 (by decide) (fun _ => ?_) (fun c_ => absurd (hst) c_)
  refine lv_iconst (v := 0) hx hb d_M_relation_13 (by decide) ?_
  refine lv_aload_n hx hb d_M_relation_14 rfl (lv_at hl 0 rfl) ?_
  refine va_get (D := (dC, dI)) (ci := 3) (v := .int (S 0 5)) (C := "DealtSecretModel") (T := T_M) (N := 24) hx hb hts i_M hown hK hP 0 rfl rfl 20 (by decide) (hts _ k_463) (fun _ h9 => h9) rfl d_M_relation_15 ?_
  refine lv_if_ne (tgt := 25) hx hb d_M_relation_18 (by decide) (fun c_ => absurd (hne) c_) (fun _ => ?_)
  refine lv_iconst (v := 1) hx hb d_M_relation_21 (by decide) ?_
  refine lv_goto (tgt := 26) hx hb d_M_relation_22 (by decide) ?_
  refine wr_V (As := [.int 0, .int 1]) (rest := []) (b := (Y 0)) ⟨hx, hb, hml, hown, hts⟩ (c_M_refuses l dC dI Y cI cZ p0 q0 g0 h0 S 0 1 2 1 (by decide) (by decide)) (cwV 2 hts (al_V k_532 k_533 k_649 k_4 k_534) rfl rfl rfl (by decide +kernel) ⟨Nat.le_of_ble_eq_true rfl, Nat.le_of_ble_eq_true rfl⟩) (va_recv hK hP (ci := 3) (q0 := 0) rfl rfl) hP hK hD hS rfl hl.1 rfl (lv_room (Nat.le_of_ble_eq_true rfl)) d_M_relation_26 ⟨Nat.zero_le _, Nat.zero_le _⟩ (fun H locs hP _ _ hS => ?_)
  have hD := w_addr hD (w_adM S (up S 0 1 2))
  refine lv_if_eq (tgt := 34) hx hb d_M_relation_29 (by decide) (fun c_ => absurd c_ (by decide)) (fun _ => ?_)
  refine lv_iconst (v := 0) hx hb d_M_relation_32 (by decide) ?_
  exact wr_i hx hb hr hlk hP hS d_M_relation_33
set_option maxRecDepth 100000 in
set_option maxHeartbeats 4000000 in
/-- the reference's corrupt in another stage -/
theorem r_M_corrupt_st (l : Launch) (dC : Nat → ClassId) (dI : Nat → Nat → Nat) (Y : Nat → Nat) (cI cZ : ClassId) (p0 q0 g0 h0 : Nat) (S : Nat → Nat → Int32) (i1 : Int32) (hne : ¬ S 0 0 = 1 ∧ ¬ S 0 0 = 2) : Wr l y_M_corrupt ws_M_corrupt 1 22 [.ref (Y 0), .int i1] (dC, dI) cls (tysM cI cZ) (wM Y cI cZ p0 q0 g0 h0 (S)) (wM Y cI cZ p0 q0 g0 h0 (up S 0 1 1)) (some (.int 0)) := by
  refine Met.ofW (cc := b_M_corrupt) (maxL := 2) (ret := (some .boolean)) (by decide) rfl ?_
  intro p e s m args below meth c s₁ B hml hv
  obtain ⟨rfl, hP, hK, hD0⟩ := hv
  have hx := B.exec
  have hb := B.bytes
  have hr := B.returns
  have hts : ∀ w ∈ AL, w.before ([.ref (Y 0), .int i1] : List Value).toArray s = true := fun w h => atoms_spec (ws := ws_M_corrupt) B.pre w (List.mem_cons_of_mem _ h)
  have hown : s.vm.findClass "DealtSecretModel" = some m.cls := findClass_of_methodNamed B.named
  have hlk := B.notSynchronized
  have hl := lv_entry ([.ref (Y 0), .int i1]) (n := 2) (Nat.le_of_ble_eq_true rfl)
  rw [lg_entry_eq]
  generalize (lg_sl ([.ref (Y 0), .int i1]) ++ List.replicate (2 - (lg_sl ([.ref (Y 0), .int i1])).length) Slot.unset).toArray = ls at hl ⊢
  have hl : lv_has ls 2 [(0, .ref (Y 0)), (1, .int i1)] := hl
  have hD := w_self hD0
  have hS : va_S (w_A (wM Y cI cZ p0 q0 g0 h0 (S))) s.heap s.heap [] := va_S.rf
  refine lv_aload_n hx hb d_M_corrupt_0 rfl (lv_at hl 0 rfl) ?_
  refine lv_aload_n hx hb d_M_corrupt_1 rfl (lv_at hl 0 rfl) ?_
  refine va_get (D := (dC, dI)) (ci := 3) (v := .int (S 0 0)) (C := "DealtSecretModel") (T := T_M) (N := 24) hx hb hts i_M hown hK hP 0 rfl rfl 4 (by decide) (hts _ k_447) (fun _ h9 => h9) rfl d_M_corrupt_2 ?_
  refine lv_iconst (v := 1) hx hb d_M_corrupt_5 (by decide) ?_
  refine lv_icmp_eq (tgt := 21) hx hb d_M_corrupt_6 (by decide) (fun c_ => absurd c_ (hne.1)) (fun _ => ?_)
  refine lv_aload_n hx hb d_M_corrupt_9 rfl (lv_at hl 0 rfl) ?_
  refine va_get (D := (dC, dI)) (ci := 3) (v := .int (S 0 0)) (C := "DealtSecretModel") (T := T_M) (N := 24) hx hb hts i_M hown hK hP 0 rfl rfl 4 (by decide) (hts _ k_447) (fun _ h9 => h9) rfl d_M_corrupt_10 ?_
  refine lv_iconst (v := 2) hx hb d_M_corrupt_13 (by decide) ?_
  refine lv_icmp_eq (tgt := 21) hx hb d_M_corrupt_14 (by decide) (fun c_ => absurd c_ (hne.2)) (fun _ => ?_)
  refine lv_iconst (v := 1) hx hb d_M_corrupt_17 (by decide) ?_
  refine lv_goto (tgt := 22) hx hb d_M_corrupt_18 (by decide) ?_
  refine lv_aload_n hx hb d_M_corrupt_22 rfl (lv_at hl 0 rfl) ?_
  refine lv_iload_n hx hb d_M_corrupt_23 rfl (lv_at hl 1 rfl) ?_
  refine ro_V (As := [.int i1]) (rest := [.int 1, .ref (Y 0)]) (b := (Y 0)) ⟨hx, hb, hml, hown, hts⟩ (c_M_isOne l dC dI Y cI cZ p0 q0 g0 h0 S i1) (cwV 1 hts (al_V k_558 k_559 k_655 k_4 k_560) rfl rfl rfl (by decide +kernel) ⟨Nat.le_of_ble_eq_true rfl, Nat.le_of_ble_eq_true rfl⟩) (fun U g mk a h => ⟨h.1, va_K.moved (u := U) (U := U.calling g mk a) (Vm.Alike.refl U.vm) h.2⟩) (va_recv hK hP (ci := 3) (q0 := 0) rfl rfl) (fun U hU hW => ⟨by rw [hU]; exact hP, va_K.moved hW.alike hK⟩) rfl hl.1 rfl (lv_room (Nat.le_of_ble_eq_true rfl)) d_M_corrupt_24 ⟨Nat.zero_le _, Nat.zero_le _⟩ ?_
  refine lv_if_ne (tgt := 34) hx hb d_M_corrupt_27 (by decide) (fun c27 => ?_) (fun c27 => ?_)
  · refine lv_iconst (v := 0) hx hb d_M_corrupt_34 (by decide) ?_
    refine wr_V (As := [.int 1, .int 0]) (rest := []) (b := (Y 0)) ⟨hx, hb, hml, hown, hts⟩ (c_M_refuses l dC dI Y cI cZ p0 q0 g0 h0 S 1 0 1 1 (by decide) (by decide)) (cwV 2 hts (al_V k_532 k_533 k_649 k_4 k_534) rfl rfl rfl (by decide +kernel) ⟨Nat.le_of_ble_eq_true rfl, Nat.le_of_ble_eq_true rfl⟩) (va_recv hK hP (ci := 3) (q0 := 0) rfl rfl) hP hK hD hS rfl hl.1 rfl (lv_room (Nat.le_of_ble_eq_true rfl)) d_M_corrupt_35 ⟨Nat.zero_le _, Nat.zero_le _⟩ (fun H locs hP _ _ hS => ?_)
    have hD := w_addr hD (w_adM S (up S 0 1 1))
    refine lv_if_ne (tgt := 50) hx hb d_M_corrupt_38 (by decide) (fun _ => ?_) (fun c_ => absurd c_ (by decide))
    refine lv_iconst (v := 0) hx hb d_M_corrupt_50 (by decide) ?_
    exact wr_z hx hb hr hlk (by first | rfl | exact mz_bn _) hP hS d_M_corrupt_51
  · refine lv_iconst (v := 1) hx hb d_M_corrupt_30 (by decide) ?_
    refine lv_goto (tgt := 35) hx hb d_M_corrupt_31 (by decide) ?_
    refine wr_V (As := [.int 1, .int 1]) (rest := []) (b := (Y 0)) ⟨hx, hb, hml, hown, hts⟩ (c_M_refuses l dC dI Y cI cZ p0 q0 g0 h0 S 1 1 1 1 (by decide) (by decide)) (cwV 2 hts (al_V k_532 k_533 k_649 k_4 k_534) rfl rfl rfl (by decide +kernel) ⟨Nat.le_of_ble_eq_true rfl, Nat.le_of_ble_eq_true rfl⟩) (va_recv hK hP (ci := 3) (q0 := 0) rfl rfl) hP hK hD hS rfl hl.1 rfl (lv_room (Nat.le_of_ble_eq_true rfl)) d_M_corrupt_35 ⟨Nat.zero_le _, Nat.zero_le _⟩ (fun H locs hP _ _ hS => ?_)
    have hD := w_addr hD (w_adM S (up S 0 1 1))
    refine lv_if_ne (tgt := 50) hx hb d_M_corrupt_38 (by decide) (fun _ => ?_) (fun c_ => absurd c_ (by decide))
    refine lv_iconst (v := 0) hx hb d_M_corrupt_50 (by decide) ?_
    exact wr_z hx hb hr hlk (by first | rfl | exact mz_bn _) hP hS d_M_corrupt_51
set_option maxRecDepth 100000 in
set_option maxHeartbeats 4000000 in
/-- the reference's corrupt of nobody -/
theorem r_M_corrupt_pt (l : Launch) (dC : Nat → ClassId) (dI : Nat → Nat → Nat) (Y : Nat → Nat) (cI cZ : ClassId) (p0 q0 g0 h0 : Nat) (S : Nat → Nat → Int32) (i1 : Int32) (hst : S 0 0 = 1 ∨ S 0 0 = 2) (hne : ¬ isPt (S 0 2) i1) : Wr l y_M_corrupt ws_M_corrupt 1 22 [.ref (Y 0), .int i1] (dC, dI) cls (tysM cI cZ) (wM Y cI cZ p0 q0 g0 h0 (S)) (wM Y cI cZ p0 q0 g0 h0 (up S 0 1 2)) (some (.int 0)) := by
  refine Met.ofW (cc := b_M_corrupt) (maxL := 2) (ret := (some .boolean)) (by decide) rfl ?_
  intro p e s m args below meth c s₁ B hml hv
  obtain ⟨rfl, hP, hK, hD0⟩ := hv
  have hx := B.exec
  have hb := B.bytes
  have hr := B.returns
  have hts : ∀ w ∈ AL, w.before ([.ref (Y 0), .int i1] : List Value).toArray s = true := fun w h => atoms_spec (ws := ws_M_corrupt) B.pre w (List.mem_cons_of_mem _ h)
  have hown : s.vm.findClass "DealtSecretModel" = some m.cls := findClass_of_methodNamed B.named
  have hlk := B.notSynchronized
  have hl := lv_entry ([.ref (Y 0), .int i1]) (n := 2) (Nat.le_of_ble_eq_true rfl)
  rw [lg_entry_eq]
  generalize (lg_sl ([.ref (Y 0), .int i1]) ++ List.replicate (2 - (lg_sl ([.ref (Y 0), .int i1])).length) Slot.unset).toArray = ls at hl ⊢
  have hl : lv_has ls 2 [(0, .ref (Y 0)), (1, .int i1)] := hl
  have hD := w_self hD0
  have hS : va_S (w_A (wM Y cI cZ p0 q0 g0 h0 (S))) s.heap s.heap [] := va_S.rf
  refine lv_aload_n hx hb d_M_corrupt_0 rfl (lv_at hl 0 rfl) ?_
  refine lv_aload_n hx hb d_M_corrupt_1 rfl (lv_at hl 0 rfl) ?_
  refine va_get (D := (dC, dI)) (ci := 3) (v := .int (S 0 0)) (C := "DealtSecretModel") (T := T_M) (N := 24) hx hb hts i_M hown hK hP 0 rfl rfl 4 (by decide) (hts _ k_447) (fun _ h9 => h9) rfl d_M_corrupt_2 ?_
  refine lv_iconst (v := 1) hx hb d_M_corrupt_5 (by decide) ?_
  refine lv_icmp_eq (tgt := 21) hx hb d_M_corrupt_6 (by decide) (fun c6 => ?_) (fun c6 => ?_)
  · refine lv_iconst (v := 0) hx hb d_M_corrupt_21 (by decide) ?_
    refine lv_aload_n hx hb d_M_corrupt_22 rfl (lv_at hl 0 rfl) ?_
    refine lv_iload_n hx hb d_M_corrupt_23 rfl (lv_at hl 1 rfl) ?_
    refine ro_V (As := [.int i1]) (rest := [.int 0, .ref (Y 0)]) (b := (Y 0)) ⟨hx, hb, hml, hown, hts⟩ (c_M_isOne l dC dI Y cI cZ p0 q0 g0 h0 S i1) (cwV 1 hts (al_V k_558 k_559 k_655 k_4 k_560) rfl rfl rfl (by decide +kernel) ⟨Nat.le_of_ble_eq_true rfl, Nat.le_of_ble_eq_true rfl⟩) (fun U g mk a h => ⟨h.1, va_K.moved (u := U) (U := U.calling g mk a) (Vm.Alike.refl U.vm) h.2⟩) (va_recv hK hP (ci := 3) (q0 := 0) rfl rfl) (fun U hU hW => ⟨by rw [hU]; exact hP, va_K.moved hW.alike hK⟩) rfl hl.1 rfl (lv_room (Nat.le_of_ble_eq_true rfl)) d_M_corrupt_24 ⟨Nat.zero_le _, Nat.zero_le _⟩ ?_
    refine lv_if_ne (tgt := 34) hx hb d_M_corrupt_27 (by decide) (fun c_ => absurd (mz_bf hne) c_) (fun _ => ?_)
    refine lv_iconst (v := 1) hx hb d_M_corrupt_30 (by decide) ?_
    refine lv_goto (tgt := 35) hx hb d_M_corrupt_31 (by decide) ?_
    refine wr_V (As := [.int 0, .int 1]) (rest := []) (b := (Y 0)) ⟨hx, hb, hml, hown, hts⟩ (c_M_refuses l dC dI Y cI cZ p0 q0 g0 h0 S 0 1 2 1 (by decide) (by decide)) (cwV 2 hts (al_V k_532 k_533 k_649 k_4 k_534) rfl rfl rfl (by decide +kernel) ⟨Nat.le_of_ble_eq_true rfl, Nat.le_of_ble_eq_true rfl⟩) (va_recv hK hP (ci := 3) (q0 := 0) rfl rfl) hP hK hD hS rfl hl.1 rfl (lv_room (Nat.le_of_ble_eq_true rfl)) d_M_corrupt_35 ⟨Nat.zero_le _, Nat.zero_le _⟩ (fun H locs hP _ _ hS => ?_)
    have hD := w_addr hD (w_adM S (up S 0 1 2))
    refine lv_if_ne (tgt := 50) hx hb d_M_corrupt_38 (by decide) (fun _ => ?_) (fun c_ => absurd c_ (by decide))
    refine lv_iconst (v := 0) hx hb d_M_corrupt_50 (by decide) ?_
    exact wr_z hx hb hr hlk (by first | rfl | exact mz_bn _) hP hS d_M_corrupt_51
  · refine lv_aload_n hx hb d_M_corrupt_9 rfl (lv_at hl 0 rfl) ?_
    refine va_get (D := (dC, dI)) (ci := 3) (v := .int (S 0 0)) (C := "DealtSecretModel") (T := T_M) (N := 24) hx hb hts i_M hown hK hP 0 rfl rfl 4 (by decide) (hts _ k_447) (fun _ h9 => h9) rfl d_M_corrupt_10 ?_
    refine lv_iconst (v := 2) hx hb d_M_corrupt_13 (by decide) ?_
    refine lv_icmp_eq (tgt := 21) hx hb d_M_corrupt_14 (by decide) (fun _ => ?_) (fun c_ => absurd (hst.elim (fun q => absurd q c6) id) c_)
    refine lv_iconst (v := 0) hx hb d_M_corrupt_21 (by decide) ?_
    refine lv_aload_n hx hb d_M_corrupt_22 rfl (lv_at hl 0 rfl) ?_
    refine lv_iload_n hx hb d_M_corrupt_23 rfl (lv_at hl 1 rfl) ?_
    refine ro_V (As := [.int i1]) (rest := [.int 0, .ref (Y 0)]) (b := (Y 0)) ⟨hx, hb, hml, hown, hts⟩ (c_M_isOne l dC dI Y cI cZ p0 q0 g0 h0 S i1) (cwV 1 hts (al_V k_558 k_559 k_655 k_4 k_560) rfl rfl rfl (by decide +kernel) ⟨Nat.le_of_ble_eq_true rfl, Nat.le_of_ble_eq_true rfl⟩) (fun U g mk a h => ⟨h.1, va_K.moved (u := U) (U := U.calling g mk a) (Vm.Alike.refl U.vm) h.2⟩) (va_recv hK hP (ci := 3) (q0 := 0) rfl rfl) (fun U hU hW => ⟨by rw [hU]; exact hP, va_K.moved hW.alike hK⟩) rfl hl.1 rfl (lv_room (Nat.le_of_ble_eq_true rfl)) d_M_corrupt_24 ⟨Nat.zero_le _, Nat.zero_le _⟩ ?_
    refine lv_if_ne (tgt := 34) hx hb d_M_corrupt_27 (by decide) (fun c_ => absurd (mz_bf hne) c_) (fun _ => ?_)
    refine lv_iconst (v := 1) hx hb d_M_corrupt_30 (by decide) ?_
    refine lv_goto (tgt := 35) hx hb d_M_corrupt_31 (by decide) ?_
    refine wr_V (As := [.int 0, .int 1]) (rest := []) (b := (Y 0)) ⟨hx, hb, hml, hown, hts⟩ (c_M_refuses l dC dI Y cI cZ p0 q0 g0 h0 S 0 1 2 1 (by decide) (by decide)) (cwV 2 hts (al_V k_532 k_533 k_649 k_4 k_534) rfl rfl rfl (by decide +kernel) ⟨Nat.le_of_ble_eq_true rfl, Nat.le_of_ble_eq_true rfl⟩) (va_recv hK hP (ci := 3) (q0 := 0) rfl rfl) hP hK hD hS rfl hl.1 rfl (lv_room (Nat.le_of_ble_eq_true rfl)) d_M_corrupt_35 ⟨Nat.zero_le _, Nat.zero_le _⟩ (fun H locs hP _ _ hS => ?_)
    have hD := w_addr hD (w_adM S (up S 0 1 2))
    refine lv_if_ne (tgt := 50) hx hb d_M_corrupt_38 (by decide) (fun _ => ?_) (fun c_ => absurd c_ (by decide))
    refine lv_iconst (v := 0) hx hb d_M_corrupt_50 (by decide) ?_
    exact wr_z hx hb hr hlk (by first | rfl | exact mz_bn _) hP hS d_M_corrupt_51
