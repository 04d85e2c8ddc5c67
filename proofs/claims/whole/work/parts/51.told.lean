set_option maxRecDepth 100000 in
set_option maxHeartbeats 4000000 in
theorem c_G_told (l : Launch) (dC : Nat → ClassId) (dI : Nat → Nat → Nat) (sz : Nat) (p1 q1 g1 h1 : Int32) : Met l y_G_told ws_G_told { frames := 3, cells := 1, slots := 4, locals := 72 } (va_Pc [.int p1, .int q1, .int g1, .int h1] (fun U => va_K (dC, dI) cls [] U ∧ sz ≤ U.heap.size)) (va_Qr (S := Unit) (fun _ => True) (fun _ a t => sz ≤ a ∧ va_P (dC, dI) cls [(a, .inr (0, [.int (nI (gP p1 q1 g1 h1)), .int (nI (gQ p1 q1 g1 h1)), .int (nI (gG p1 q1 g1 h1)), .int (nI (gH p1 q1 g1 h1))]))] t.heap) (fun q => sz ≤ q)) 1 4 (fun q => sz ≤ q) := by
  refine Met.ofW (cc := b_G_told) (maxL := 4) (ret := (some (.object "DealtSecret$Group"))) (by decide) rfl ?_
  intro p e s m args below meth c s₁ B hml hv
  obtain ⟨rfl, hK, hsz⟩ := hv
  have hx := B.exec
  have hb := B.bytes
  have hr := B.returns
  have hts : ∀ w ∈ AL, w.before ([.int p1, .int q1, .int g1, .int h1] : List Value).toArray s = true := fun w h => atoms_spec (ws := ws_G_told) B.pre w (List.mem_cons_of_mem _ h)
  have hown : s.vm.findClass "DealtSecret$Group" = some m.cls := findClass_of_methodNamed B.named
  have hlk := B.notSynchronized
  have hl := lv_entry ([.int p1, .int q1, .int g1, .int h1]) (n := 4) (Nat.le_of_ble_eq_true rfl)
  rw [lg_entry_eq]
  generalize (lg_sl ([.int p1, .int q1, .int g1, .int h1]) ++ List.replicate (4 - (lg_sl ([.int p1, .int q1, .int g1, .int h1])).length) Slot.unset).toArray = ls at hl ⊢
  have hl : lv_has ls 4 [(0, .int p1), (1, .int q1), (2, .int g1), (3, .int h1)] := hl
  have hA : ∀ q, s.heap.size ≤ q → sz ≤ q := fun q h => Nat.le_trans hsz h
  have hP : va_P (dC, dI) cls [] s.heap := fun k q h => by simp at h
  have hD : va_D (fun q => sz ≤ q) [] := ⟨fun i j x y h => by simp at h, fun k q h => by simp at h⟩
  have hS : va_S (fun q => sz ≤ q) s.heap s.heap [] := va_S.rf
  refine lv_iload_n hx hb d_G_told_0 rfl (lv_at hl 0 rfl) ?_
  refine lv_iload_n hx hb d_G_told_1 rfl (lv_at hl 1 rfl) ?_
  refine lv_iload_n hx hb d_G_told_2 rfl (lv_at hl 2 rfl) ?_
  refine lv_iload_n hx hb d_G_told_3 rfl (lv_at hl 3 rfl) ?_
  refine ro_S (As := [.int p1, .int q1, .int g1, .int h1]) (rest := []) ⟨hx, hb, hml, hown, hts⟩ (c_G_isSound l p1 q1 g1 h1) (va_cwS 4 hts (al_S k_24 k_25 k_2 k_26) rfl rfl rfl (by decide +kernel) ⟨Nat.le_of_ble_eq_true rfl, Nat.le_of_ble_eq_true rfl⟩) (fun _ _ _ _ h => h) (fun _ _ _ => trivial) rfl hl.1 rfl (lv_room (Nat.le_of_ble_eq_true rfl)) d_G_told_4 ⟨Nat.zero_le _, Nat.zero_le _⟩ ?_
  refine lv_if_eq (tgt := 24) hx hb d_G_told_7 (by decide) (fun c7 => ?_) (fun c7 => ?_)
  · have hsel := so_no (mz_b0.mp c7)
    refine va_new (D := (dC, dI)) (ci := 0) (C := "DealtSecret$Group") (T := T_G) (N := 4) (fs := [.int 0, .int 0, .int 0, .int 0]) hx hb hts i_G t_G t_G_ok hown (hts _ k_36) (hts _ k_37) (hts _ k_2) hK hP hD hS hA rfl (by decide +kernel) (by decide) (by decide) d_G_told_24 (fun gr H hP hD hS => ?_)
    have hK : va_K (dC, dI) cls [] s := hK
    have hP : va_P (dC, dI) cls [(gr, .inr (0, [.int 0, .int 0, .int 0, .int 0]))] H := hP
    have hD : va_D (fun q => sz ≤ q) [(gr, .inr (0, [.int 0, .int 0, .int 0, .int 0]))] := hD
    refine lv_dup hx hb d_G_told_27 rfl ?_
    refine lv_sipush (v := 2039) hx hb d_G_told_28 (by decide) ?_
    refine lv_sipush (v := 1019) hx hb d_G_told_31 (by decide) ?_
    refine lv_iconst (v := 4) hx hb d_G_told_34 (by decide) ?_
    refine lv_bipush (v := 9) hx hb d_G_told_35 (by decide) ?_
    have hP0 := w_l (a := []) (b := [(gr, .inr (0, [.int 0, .int 0, .int 0, .int 0]))]) hP
    have hD0 := hD
    refine wr_I (As := [.int 2039, .int 1019, .int 4, .int 9]) (rest := [.ref gr]) (b := gr) (A := fun q => sz ≤ q) ⟨hx, hb, hml, hown, hts⟩ (c_G_init l dC dI gr 2039 1019 4 9) (cwI 4 hts (al_I k_40) rfl rfl rfl (hts _ k_2) (hts _ k_38) (hts _ k_39) rfl (by decide +kernel) ⟨Nat.le_of_ble_eq_true rfl, Nat.le_of_ble_eq_true rfl⟩) (w_r (a := []) (b := [(gr, .inr (0, [.int 0, .int 0, .int 0, .int 0]))]) hP) (hK.sub [] rfl) (w_dr (a := []) (b := [(gr, .inr (0, [.int 0, .int 0, .int 0, .int 0]))]) hD) hS rfl hl.1 rfl (lv_room (Nat.le_of_ble_eq_true rfl)) d_G_told_37 ⟨by decide, by decide⟩ (fun H locs hP hkp _ hS => ?_)
    have hP := (w_keepR hP0 hD0 hkp).app hP
    have hP : va_P (dC, dI) cls ([] ++ [(gr, .inr (0, [.int 2039, .int 1019, .int 4, .int 9]))]) H := hP
    have hD : va_D (fun q => sz ≤ q) ([] ++ [(gr, .inr (0, [.int 2039, .int 1019, .int 4, .int 9]))]) := w_addr hD (by simp)
    have hP : va_P (dC, dI) cls [(gr, .inr (0, [.int 2039, .int 1019, .int 4, .int 9]))] H := hP
    have hD : va_D (fun q => sz ≤ q) [(gr, .inr (0, [.int 2039, .int 1019, .int 4, .int 9]))] := hD
    have hP : va_P (dC, dI) cls [(gr, .inr (0, [.int (nI (gP p1 q1 g1 h1)), .int (nI (gQ p1 q1 g1 h1)), .int (nI (gG p1 q1 g1 h1)), .int (nI (gH p1 q1 g1 h1))]))] H := by rw [← hsel.1, ← hsel.2.1, ← hsel.2.2.1, ← hsel.2.2.2]; exact hP
    exact W.aret hx hb hr (Or.inl ⟨_, rfl⟩) (Or.inr ⟨_, rfl⟩) (fun t ht _ => ⟨⟨(), gr, rfl, trivial, hD.2 0 _ rfl, by rw [ht]; exact hP⟩, hS.F ht⟩) hS.2.2 d_G_told_40 hlk
  · have hsel := so_yes (Classical.not_not.mp (fun z => c7 (mz_bf z)))
    refine va_new (D := (dC, dI)) (ci := 0) (C := "DealtSecret$Group") (T := T_G) (N := 4) (fs := [.int 0, .int 0, .int 0, .int 0]) hx hb hts i_G t_G t_G_ok hown (hts _ k_36) (hts _ k_37) (hts _ k_2) hK hP hD hS hA rfl (by decide +kernel) (by decide) (by decide) d_G_told_10 (fun gr H hP hD hS => ?_)
    have hK : va_K (dC, dI) cls [] s := hK
    have hP : va_P (dC, dI) cls [(gr, .inr (0, [.int 0, .int 0, .int 0, .int 0]))] H := hP
    have hD : va_D (fun q => sz ≤ q) [(gr, .inr (0, [.int 0, .int 0, .int 0, .int 0]))] := hD
    refine lv_dup hx hb d_G_told_13 rfl ?_
    refine lv_iload_n hx hb d_G_told_14 rfl (lv_at hl 0 rfl) ?_
    refine lv_iload_n hx hb d_G_told_15 rfl (lv_at hl 1 rfl) ?_
    refine lv_iload_n hx hb d_G_told_16 rfl (lv_at hl 2 rfl) ?_
    refine lv_iload_n hx hb d_G_told_17 rfl (lv_at hl 3 rfl) ?_
    have hP0 := w_l (a := []) (b := [(gr, .inr (0, [.int 0, .int 0, .int 0, .int 0]))]) hP
    have hD0 := hD
    refine wr_I (As := [.int p1, .int q1, .int g1, .int h1]) (rest := [.ref gr]) (b := gr) (A := fun q => sz ≤ q) ⟨hx, hb, hml, hown, hts⟩ (c_G_init l dC dI gr p1 q1 g1 h1) (cwI 4 hts (al_I k_40) rfl rfl rfl (hts _ k_2) (hts _ k_38) (hts _ k_39) rfl (by decide +kernel) ⟨Nat.le_of_ble_eq_true rfl, Nat.le_of_ble_eq_true rfl⟩) (w_r (a := []) (b := [(gr, .inr (0, [.int 0, .int 0, .int 0, .int 0]))]) hP) (hK.sub [] rfl) (w_dr (a := []) (b := [(gr, .inr (0, [.int 0, .int 0, .int 0, .int 0]))]) hD) hS rfl hl.1 rfl (lv_room (Nat.le_of_ble_eq_true rfl)) d_G_told_18 ⟨by decide, by decide⟩ (fun H locs hP hkp _ hS => ?_)
    have hP := (w_keepR hP0 hD0 hkp).app hP
    have hP : va_P (dC, dI) cls ([] ++ [(gr, .inr (0, [.int p1, .int q1, .int g1, .int h1]))]) H := hP
    have hD : va_D (fun q => sz ≤ q) ([] ++ [(gr, .inr (0, [.int p1, .int q1, .int g1, .int h1]))]) := w_addr hD (by simp)
    have hP : va_P (dC, dI) cls [(gr, .inr (0, [.int p1, .int q1, .int g1, .int h1]))] H := hP
    have hD : va_D (fun q => sz ≤ q) [(gr, .inr (0, [.int p1, .int q1, .int g1, .int h1]))] := hD
    refine lv_goto (tgt := 40) hx hb d_G_told_21 (by decide) ?_
    have hP : va_P (dC, dI) cls [(gr, .inr (0, [.int (nI (gP p1 q1 g1 h1)), .int (nI (gQ p1 q1 g1 h1)), .int (nI (gG p1 q1 g1 h1)), .int (nI (gH p1 q1 g1 h1))]))] H := by rw [← hsel.1, ← hsel.2.1, ← hsel.2.2.1, ← hsel.2.2.2]; exact hP
    exact W.aret hx hb hr (Or.inl ⟨_, rfl⟩) (Or.inr ⟨_, rfl⟩) (fun t ht _ => ⟨⟨(), gr, rfl, trivial, hD.2 0 _ rfl, by rw [ht]; exact hP⟩, hS.F ht⟩) hS.2.2 d_G_told_40 hlk
