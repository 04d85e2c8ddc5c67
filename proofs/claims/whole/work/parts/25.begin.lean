/-- the first j places of the row r are 0 -/
def zr (S : Nat → Nat → Int32) (r j : Nat) : Nat → Nat → Int32 := fun f k => if f = r then (if k < j then 0 else S f k) else S f k
theorem zr_0 (S : Nat → Nat → Int32) (r : Nat) : zr S r 0 = S := by
  funext f k
  simp [zr]
theorem zr_s (S : Nat → Nat → Int32) (r j : Nat) : up (zr S r j) r j 0 = zr S r (j + 1) := by
  funext f k
  unfold up zr
  by_cases h : f = r
  · rw [if_pos h, if_pos h, if_pos h]
    by_cases c : k = j
    · rw [if_pos c, if_pos (by omega)]
    · rw [if_neg c]
      by_cases d : k < j
      · rw [if_pos d, if_pos (by omega)]
      · rw [if_neg d, if_neg (by omega)]
  · rw [if_neg h, if_neg h, if_neg h]
/-- a deal begins -/
def sAn (S : Nat → Nat → Int32) : Nat → Nat → Nat → Int32
  | 0 => S
  | j + 1 => stA (sAn S j) j
def bg3 (S : Nat → Nat → Int32) (n0 t0 : Nat) (b0 : Int32) : Nat → Nat → Int32 := zr (zr (up (up (up S 0 1 (nI n0)) 0 2 (nI t0)) 0 3 b0) 1 7) 2 7
def bgS (S : Nat → Nat → Int32) (n0 t0 : Nat) (b0 : Int32) : Nat → Nat → Int32 := up (up (sAn (bg3 S n0 t0 b0) n0) 0 4 0) 0 0 1
theorem nz_01 {b : Int32} (h : b = 0 ∨ b = 1) : narrow .boolean (.int b) = .int b ∧ fits .boolean (.int b) = true := by
  rcases h with rfl | rfl <;> exact ⟨rfl, rfl⟩
set_option maxRecDepth 100000 in
set_option maxHeartbeats 4000000 in
/-- Arrays.fill of a row of seven with 0 -/
theorem c_J_fill1 (l : Launch) (dC : Nat → ClassId) (dI : Nat → Nat → Nat) (Z : Nat → Nat) (cI cP : ClassId) (p0 q0 g0 h0 : Nat) (S : Nat → Nat → Int32) : Wr l y_J_fill ws_J_fill 0 0 [.ref (Z 2), .int 0] (dC, dI) cls (tysC cI cP) (wC Z cI cP p0 q0 g0 h0 (S)) (wC Z cI cP p0 q0 g0 h0 (zr S 1 7)) (none) := by
  refine va_MetF (cc := b_J_fill) (maxL := 4) (ret := none) (by decide +kernel) rfl ?_
  intro p e s m args below meth c s₁ B hml hv
  obtain ⟨rfl, hP, hK, hD0⟩ := hv
  have hx := B.exec
  have hb := B.bytes
  have hr := B.returns
  have hts : ∀ w ∈ AL, w.before ([.ref (Z 2), .int 0] : List Value).toArray s = true := fun w h => atoms_spec (ws := ws_J_fill) B.pre w (List.mem_cons_of_mem _ h)
  have hown : s.vm.findClass "java/util/Arrays" = some m.cls := findClass_of_methodNamed B.named
  have hlk := B.notSynchronized
  have hl := lv_entry ([.ref (Z 2), .int 0]) (n := 4) (Nat.le_of_ble_eq_true rfl)
  rw [lg_entry_eq]
  generalize (lg_sl ([.ref (Z 2), .int 0]) ++ List.replicate (4 - (lg_sl ([.ref (Z 2), .int 0])).length) Slot.unset).toArray = ls at hl ⊢
  have hl : lv_has ls 4 [(0, .ref (Z 2)), (1, .int 0)] := hl
  have hD := w_self hD0
  have hS : va_S (w_A (wC Z cI cP p0 q0 g0 h0 (S))) s.heap s.heap [] := va_S.rf
  have loop : ∀ (n j : Nat) (H : Heap) (locs : List Loc) (ls : Array Slot), 7 + 1 ≤ j + n → j ≤ 7 → va_P (dC, dI) cls (wC Z cI cP p0 q0 g0 h0 (zr S 1 j)) H → va_D (w_A (wC Z cI cP p0 q0 g0 h0 (S))) (wC Z cI cP p0 q0 g0 h0 (zr S 1 j)) → va_S (w_A (wC Z cI cP p0 q0 g0 h0 (S))) s.heap H locs → lv_has ls 4 [(0, .ref (Z 2)), (1, .int 0), (2, .int (nI j)), (3, .int (nI 7))] → W p l e (headSpec ws_J_fill { frames := 0, cells := 0, slots := 0, locals := 0 }).room s m [.ref (Z 2), .int 0].toArray below meth c H locs 0 0 (MQ below (fun _ st o t => o = .returned (none) ∧ va_P (dC, dI) cls (wC Z cI cP p0 q0 g0 h0 (zr S 1 7)) t.heap ∧ va_F (w_A (wC Z cI cP p0 q0 g0 h0 (S))) st t) [.ref (Z 2), .int 0].toArray s 0 0 (w_A (wC Z cI cP p0 q0 g0 h0 (S)))) (F0 m 5 ls []) := by
    intro n
    induction n with
    | zero =>
      intro j H locs ls h1 h2
      omega
    | succ n ih =>
      intro j H locs ls h1 h2 hP hD hS hl
      refine lv_iload_n hx hb d_J_fill_5 rfl (lv_at hl 2 rfl) ?_
      refine lv_iload_n hx hb d_J_fill_6 rfl (lv_at hl 3 rfl) ?_
      refine lv_icmp_ge (tgt := 20) hx hb d_J_fill_7 (by decide) (fun c7 => ?_) (fun c7 => ?_)
      · have hk : j = 7 := by
          rcases Nat.lt_or_ge j 7 with q | q
          · exact absurd c7 (nI_ge q (by omega))
          · omega
        subst hk
        exact wr_v hx hb hr hlk hP hS d_J_fill_20
      · have hk : j < 7 := by
          rcases Nat.lt_or_ge j 7 with q | q
          · exact q
          · exact absurd (nI_le q (by omega)) c7
        refine lv_aload_n hx hb d_J_fill_10 rfl (lv_at hl 0 rfl) ?_
        refine lv_iload_n hx hb d_J_fill_11 rfl (lv_at hl 2 rfl) ?_
        refine lv_iload_n hx hb d_J_fill_12 rfl (lv_at hl 1 rfl) ?_
        refine va_iast hx hb hK hP hD hS 2 0 rfl rfl (vp_in_nI (by omega) (by decide)) d_J_fill_13 (fun H locs hP hD hS => ?_)
        rw [nI_clamp (by omega)] at hP hD
        have hP : va_P (dC, dI) cls (wC Z cI cP p0 q0 g0 h0 (up (zr S 1 j) 1 j 0)) H := by rw [← w_ca1]; exact hP
        have hD : va_D (w_A (wC Z cI cP p0 q0 g0 h0 (S))) (wC Z cI cP p0 q0 g0 h0 (up (zr S 1 j) 1 j 0)) := by rw [← w_ca1]; exact hD
        refine lv_iinc (v := (nI (j + 1))) (lv' := [(2, .int (nI (j + 1))), (0, .ref (Z 2)), (1, .int 0), (3, .int (nI 7))]) hx hb d_J_fill_14 hl (k := 2) rfl (nI_1 j) (by decide) rfl (fun ls hl => ?_)
        refine lv_goto (tgt := 5) hx hb d_J_fill_17 (by decide) ?_
        exact ih (j + 1) H locs ls (by omega) (by omega) (by rw [← zr_s]; exact hP) (by rw [← zr_s]; exact hD) hS (lv_sub hl [1, 2, 0, 3] rfl)
  refine lv_iconst (v := (nI 0)) hx hb d_J_fill_0 (by decide) ?_
  refine lv_istore_n (lv' := [(2, .int (nI 0)), (0, .ref (Z 2)), (1, .int 0)]) hx hb d_J_fill_1 rfl hl (by decide) rfl (fun ls hl => ?_)
  refine lv_aload_n hx hb d_J_fill_2 rfl (lv_at hl 1 rfl) ?_
  refine va_alen (v := nI 7) hx hb hK hP 2 0 rfl rfl rfl d_J_fill_3 ?_
  refine lv_istore_n (lv' := [(3, .int (nI 7)), (2, .int (nI 0)), (0, .ref (Z 2)), (1, .int 0)]) hx hb d_J_fill_4 rfl hl (by decide) rfl (fun ls hl => ?_)
  exact loop 8 0 _ _ ls (by omega) (by omega) (by rw [zr_0]; exact hP) (by rw [zr_0]; exact hD) hS (lv_sub hl [2, 3, 1, 0] rfl)
set_option maxRecDepth 100000 in
set_option maxHeartbeats 4000000 in
/-- Arrays.fill of a row of seven with 0 -/
theorem c_J_fill2 (l : Launch) (dC : Nat → ClassId) (dI : Nat → Nat → Nat) (Z : Nat → Nat) (cI cP : ClassId) (p0 q0 g0 h0 : Nat) (S : Nat → Nat → Int32) : Wr l y_J_fill ws_J_fill 0 0 [.ref (Z 3), .int 0] (dC, dI) cls (tysC cI cP) (wC Z cI cP p0 q0 g0 h0 (S)) (wC Z cI cP p0 q0 g0 h0 (zr S 2 7)) (none) := by
  refine va_MetF (cc := b_J_fill) (maxL := 4) (ret := none) (by decide +kernel) rfl ?_
  intro p e s m args below meth c s₁ B hml hv
  obtain ⟨rfl, hP, hK, hD0⟩ := hv
  have hx := B.exec
  have hb := B.bytes
  have hr := B.returns
  have hts : ∀ w ∈ AL, w.before ([.ref (Z 3), .int 0] : List Value).toArray s = true := fun w h => atoms_spec (ws := ws_J_fill) B.pre w (List.mem_cons_of_mem _ h)
  have hown : s.vm.findClass "java/util/Arrays" = some m.cls := findClass_of_methodNamed B.named
  have hlk := B.notSynchronized
  have hl := lv_entry ([.ref (Z 3), .int 0]) (n := 4) (Nat.le_of_ble_eq_true rfl)
  rw [lg_entry_eq]
  generalize (lg_sl ([.ref (Z 3), .int 0]) ++ List.replicate (4 - (lg_sl ([.ref (Z 3), .int 0])).length) Slot.unset).toArray = ls at hl ⊢
  have hl : lv_has ls 4 [(0, .ref (Z 3)), (1, .int 0)] := hl
  have hD := w_self hD0
  have hS : va_S (w_A (wC Z cI cP p0 q0 g0 h0 (S))) s.heap s.heap [] := va_S.rf
  have loop : ∀ (n j : Nat) (H : Heap) (locs : List Loc) (ls : Array Slot), 7 + 1 ≤ j + n → j ≤ 7 → va_P (dC, dI) cls (wC Z cI cP p0 q0 g0 h0 (zr S 2 j)) H → va_D (w_A (wC Z cI cP p0 q0 g0 h0 (S))) (wC Z cI cP p0 q0 g0 h0 (zr S 2 j)) → va_S (w_A (wC Z cI cP p0 q0 g0 h0 (S))) s.heap H locs → lv_has ls 4 [(0, .ref (Z 3)), (1, .int 0), (2, .int (nI j)), (3, .int (nI 7))] → W p l e (headSpec ws_J_fill { frames := 0, cells := 0, slots := 0, locals := 0 }).room s m [.ref (Z 3), .int 0].toArray below meth c H locs 0 0 (MQ below (fun _ st o t => o = .returned (none) ∧ va_P (dC, dI) cls (wC Z cI cP p0 q0 g0 h0 (zr S 2 7)) t.heap ∧ va_F (w_A (wC Z cI cP p0 q0 g0 h0 (S))) st t) [.ref (Z 3), .int 0].toArray s 0 0 (w_A (wC Z cI cP p0 q0 g0 h0 (S)))) (F0 m 5 ls []) := by
    intro n
    induction n with
    | zero =>
      intro j H locs ls h1 h2
      omega
    | succ n ih =>
      intro j H locs ls h1 h2 hP hD hS hl
      refine lv_iload_n hx hb d_J_fill_5 rfl (lv_at hl 2 rfl) ?_
      refine lv_iload_n hx hb d_J_fill_6 rfl (lv_at hl 3 rfl) ?_
      refine lv_icmp_ge (tgt := 20) hx hb d_J_fill_7 (by decide) (fun c7 => ?_) (fun c7 => ?_)
      · have hk : j = 7 := by
          rcases Nat.lt_or_ge j 7 with q | q
          · exact absurd c7 (nI_ge q (by omega))
          · omega
        subst hk
        exact wr_v hx hb hr hlk hP hS d_J_fill_20
      · have hk : j < 7 := by
          rcases Nat.lt_or_ge j 7 with q | q
          · exact q
          · exact absurd (nI_le q (by omega)) c7
        refine lv_aload_n hx hb d_J_fill_10 rfl (lv_at hl 0 rfl) ?_
        refine lv_iload_n hx hb d_J_fill_11 rfl (lv_at hl 2 rfl) ?_
        refine lv_iload_n hx hb d_J_fill_12 rfl (lv_at hl 1 rfl) ?_
        refine va_iast hx hb hK hP hD hS 3 0 rfl rfl (vp_in_nI (by omega) (by decide)) d_J_fill_13 (fun H locs hP hD hS => ?_)
        rw [nI_clamp (by omega)] at hP hD
        have hP : va_P (dC, dI) cls (wC Z cI cP p0 q0 g0 h0 (up (zr S 2 j) 2 j 0)) H := by rw [← w_ca2]; exact hP
        have hD : va_D (w_A (wC Z cI cP p0 q0 g0 h0 (S))) (wC Z cI cP p0 q0 g0 h0 (up (zr S 2 j) 2 j 0)) := by rw [← w_ca2]; exact hD
        refine lv_iinc (v := (nI (j + 1))) (lv' := [(2, .int (nI (j + 1))), (0, .ref (Z 3)), (1, .int 0), (3, .int (nI 7))]) hx hb d_J_fill_14 hl (k := 2) rfl (nI_1 j) (by decide) rfl (fun ls hl => ?_)
        refine lv_goto (tgt := 5) hx hb d_J_fill_17 (by decide) ?_
        exact ih (j + 1) H locs ls (by omega) (by omega) (by rw [← zr_s]; exact hP) (by rw [← zr_s]; exact hD) hS (lv_sub hl [1, 2, 0, 3] rfl)
  refine lv_iconst (v := (nI 0)) hx hb d_J_fill_0 (by decide) ?_
  refine lv_istore_n (lv' := [(2, .int (nI 0)), (0, .ref (Z 3)), (1, .int 0)]) hx hb d_J_fill_1 rfl hl (by decide) rfl (fun ls hl => ?_)
  refine lv_aload_n hx hb d_J_fill_2 rfl (lv_at hl 1 rfl) ?_
  refine va_alen (v := nI 7) hx hb hK hP 3 0 rfl rfl rfl d_J_fill_3 ?_
  refine lv_istore_n (lv' := [(3, .int (nI 7)), (2, .int (nI 0)), (0, .ref (Z 3)), (1, .int 0)]) hx hb d_J_fill_4 rfl hl (by decide) rfl (fun ls hl => ?_)
  exact loop 8 0 _ _ ls (by omega) (by omega) (by rw [zr_0]; exact hP) (by rw [zr_0]; exact hD) hS (lv_sub hl [2, 3, 1, 0] rfl)
set_option maxRecDepth 100000 in
set_option maxHeartbeats 4000000 in
/-- begin(n, t, blind) where it is allowed -/
theorem c_C_begin (l : Launch) (dC : Nat → ClassId) (dI : Nat → Nat → Nat) (Z : Nat → Nat) (cI cP : ClassId) (p0 q0 g0 h0 : Nat) (S : Nat → Nat → Int32) (n0 t0 : Nat) (b0 : Int32) (hb0 : b0 = 0 ∨ b0 = 1) (hn1 : 1 ≤ n0) (hn7 : n0 ≤ 7) (ht1 : 1 ≤ t0) (htn : t0 ≤ n0) (hnq : n0 < q0) (ok : okG p0 q0 g0 h0) : Wr l y_C_begin ws_C_begin 1 23 [.ref (Z 0), .int (nI n0), .int (nI t0), .int b0] (dC, dI) cls (tysC cI cP) (wC Z cI cP p0 q0 g0 h0 (S)) (wC Z cI cP p0 q0 g0 h0 (bgS S n0 t0 b0)) (none) := by
  refine Met.ofW (cc := b_C_begin) (maxL := 5) (ret := none) (by decide) rfl ?_
  intro p e s m args below meth c s₁ B hml hv
  obtain ⟨rfl, hP, hK, hD0⟩ := hv
  have hx := B.exec
  have hb := B.bytes
  have hr := B.returns
  have hts : ∀ w ∈ AL, w.before ([.ref (Z 0), .int (nI n0), .int (nI t0), .int b0] : List Value).toArray s = true := fun w h => atoms_spec (ws := ws_C_begin) B.pre w (List.mem_cons_of_mem _ h)
  have hown : s.vm.findClass "DealtSecret" = some m.cls := findClass_of_methodNamed B.named
  have hlk := B.notSynchronized
  have hl := lv_entry ([.ref (Z 0), .int (nI n0), .int (nI t0), .int b0]) (n := 5) (Nat.le_of_ble_eq_true rfl)
  rw [lg_entry_eq]
  generalize (lg_sl ([.ref (Z 0), .int (nI n0), .int (nI t0), .int b0]) ++ List.replicate (5 - (lg_sl ([.ref (Z 0), .int (nI n0), .int (nI t0), .int b0])).length) Slot.unset).toArray = ls at hl ⊢
  have hl : lv_has ls 5 [(0, .ref (Z 0)), (1, .int (nI n0)), (2, .int (nI t0)), (3, .int b0)] := hl
  have hD := w_self hD0
  have hS : va_S (w_A (wC Z cI cP p0 q0 g0 h0 (S))) s.heap s.heap [] := va_S.rf
  obtain ⟨okp2, okp, okq2, okq, okg, okh⟩ := id ok
  have loop : ∀ (n j : Nat) (H : Heap) (locs : List Loc) (ls : Array Slot), n0 + 1 ≤ j + n → j ≤ n0 → va_P (dC, dI) cls (wC Z cI cP p0 q0 g0 h0 (sAn (bg3 S n0 t0 b0) j)) H → va_D (w_A (wC Z cI cP p0 q0 g0 h0 (S))) (wC Z cI cP p0 q0 g0 h0 (sAn (bg3 S n0 t0 b0) j)) → va_S (w_A (wC Z cI cP p0 q0 g0 h0 (S))) s.heap H locs → lv_has ls 5 [(0, .ref (Z 0)), (1, .int (nI n0)), (2, .int (nI t0)), (3, .int b0), (4, .int (nI j))] → W p l e (headSpec ws_C_begin { frames := 1, cells := 0, slots := 0, locals := 23 }).room s m [.ref (Z 0), .int (nI n0), .int (nI t0), .int b0].toArray below meth c H locs 0 0 (MQ below (fun _ st o t => o = .returned (none) ∧ va_P (dC, dI) cls (wC Z cI cP p0 q0 g0 h0 (bgS S n0 t0 b0)) t.heap ∧ va_F (w_A (wC Z cI cP p0 q0 g0 h0 (S))) st t) [.ref (Z 0), .int (nI n0), .int (nI t0), .int b0].toArray s 0 0 (w_A (wC Z cI cP p0 q0 g0 h0 (S)))) (F0 m 76 ls []) := by
    intro n
    induction n with
    | zero =>
      intro j H locs ls h1 h2
      omega
    | succ n ih =>
      intro j H locs ls h1 h2 hP hD hS hl
      refine lv_iload hx hb d_C_begin_76 (lv_at hl 4 rfl) ?_
      refine lv_iload_n hx hb d_C_begin_78 rfl (lv_at hl 1 rfl) ?_
      refine lv_icmp_ge (tgt := 98) hx hb d_C_begin_79 (by decide) (fun c79 => ?_) (fun c79 => ?_)
      · have hk : j = n0 := by
          rcases Nat.lt_or_ge j n0 with q | q
          · exact absurd c79 (nI_ge q (by omega))
          · omega
        subst hk
        refine lv_aload_n hx hb d_C_begin_98 rfl (lv_at hl 0 rfl) ?_
        refine lv_iconst (v := 0) hx hb d_C_begin_99 (by decide) ?_
        refine va_put (D := (dC, dI)) (ci := 2) (v := .int 0) (ty := .boolean) (C := "DealtSecret") (T := T_C) (N := 11) hx hb hts i_C t_C t_C_ok n_C hown hK hP hD hS 0 rfl rfl 9 (by decide) (hts _ k_110) (fun _ h9 => h9) rfl (by decide +kernel) (rfl) (rfl) (Nat.le_of_ble_eq_true rfl) d_C_begin_100 (fun H locs hP hD hS => ?_)
        have hP : va_P (dC, dI) cls (wC Z cI cP p0 q0 g0 h0 (up (sAn (bg3 S j t0 b0) j) 0 4 0)) H := by rw [← w_cs4]; exact hP
        have hD : va_D (w_A (wC Z cI cP p0 q0 g0 h0 (S))) (wC Z cI cP p0 q0 g0 h0 (up (sAn (bg3 S j t0 b0) j) 0 4 0)) := by rw [← w_cs4]; exact hD
        refine lv_aload_n hx hb d_C_begin_103 rfl (lv_at hl 0 rfl) ?_
        refine lv_iconst (v := 1) hx hb d_C_begin_104 (by decide) ?_
        refine va_put (D := (dC, dI)) (ci := 2) (v := .int 1) (ty := .int) (C := "DealtSecret") (T := T_C) (N := 11) hx hb hts i_C t_C t_C_ok n_C hown hK hP hD hS 0 rfl rfl 5 (by decide) (hts _ k_106) (fun _ h9 => h9) rfl (by decide +kernel) (rfl) (rfl) (Nat.le_of_ble_eq_true rfl) d_C_begin_105 (fun H locs hP hD hS => ?_)
        have hP : va_P (dC, dI) cls (wC Z cI cP p0 q0 g0 h0 (up (up (sAn (bg3 S j t0 b0) j) 0 4 0) 0 0 1)) H := by rw [← w_cs0]; exact hP
        have hD : va_D (w_A (wC Z cI cP p0 q0 g0 h0 (S))) (wC Z cI cP p0 q0 g0 h0 (up (up (sAn (bg3 S j t0 b0) j) 0 4 0) 0 0 1)) := by rw [← w_cs0]; exact hD
        exact wr_v hx hb hr hlk hP hS d_C_begin_108
      · have hk : j < n0 := by
          rcases Nat.lt_or_ge j n0 with q | q
          · exact q
          · exact absurd (nI_le q (by omega)) c79
        refine lv_aload_n hx hb d_C_begin_82 rfl (lv_at hl 0 rfl) ?_
        refine va_get (D := (dC, dI)) (ci := 2) (v := .ref (Z 5)) (C := "DealtSecret") (T := T_C) (N := 11) hx hb hts i_C hown hK hP 0 rfl rfl 4 (by decide) (hts _ k_105) (fun _ h9 => h9) rfl d_C_begin_83 ?_
        refine lv_iload hx hb d_C_begin_86 (lv_at hl 4 rfl) ?_
        refine va_aldq hx hb hK hP 5 1 rfl rfl (vp_in_nI (by omega) (by decide)) d_C_begin_88 ?_
        refine x_v (y := .ref (Z (6 + j))) (by rw [nI_clamp (by omega)]; rfl) ?_
        refine wr_V (As := []) (rest := []) (b := (Z (6 + j))) ⟨hx, hb, hml, hown, hts⟩ (c_P_startAnew l dC dI Z cI cP p0 q0 g0 h0 (sAn (bg3 S n0 t0 b0) j) j (by omega)) (cwV 0 hts (al_V k_258 k_259 k_260 k_3 k_261) rfl rfl rfl (by decide +kernel) ⟨Nat.le_of_ble_eq_true rfl, Nat.le_of_ble_eq_true rfl⟩) (va_recv hK hP (ci := 1) (q0 := (6 + j)) rfl (w_part (by omega))) hP hK hD hS rfl hl.1 rfl (lv_room (Nat.le_of_ble_eq_true rfl)) d_C_begin_89 ⟨Nat.zero_le _, Nat.zero_le _⟩ (fun H locs hP _ _ hS => ?_)
        have hD := w_addr hD (w_adC (sAn (bg3 S n0 t0 b0) j) (sAn (bg3 S n0 t0 b0) (j + 1)))
        refine lv_iinc (v := (nI (j + 1))) (lv' := [(4, .int (nI (j + 1))), (0, .ref (Z 0)), (1, .int (nI n0)), (2, .int (nI t0)), (3, .int b0)]) hx hb d_C_begin_92 hl (k := 4) rfl (nI_1 j) (by decide) rfl (fun ls hl => ?_)
        refine lv_goto (tgt := 76) hx hb d_C_begin_95 (by decide) ?_
        exact ih (j + 1) H locs ls (by omega) (by omega) hP hD hS (lv_sub hl [1, 2, 3, 4, 0] rfl)
  refine lv_iload_n hx hb d_C_begin_0 rfl (lv_at hl 1 rfl) ?_
  refine lv_iconst (v := (nI 1)) hx hb d_C_begin_1 (by decide) ?_
  refine lv_icmp_lt (tgt := 32) hx hb d_C_begin_2 (by decide) (fun c_ => absurd c_ (nI_nlt hn1 (by omega))) (fun _ => ?_)
  refine lv_iload_n hx hb d_C_begin_5 rfl (lv_at hl 1 rfl) ?_
  refine lv_bipush (v := (nI 7)) hx hb d_C_begin_6 (by decide) ?_
  refine lv_icmp_gt (tgt := 32) hx hb d_C_begin_8 (by decide) (fun c_ => absurd c_ (nI_nlt hn7 (by omega))) (fun _ => ?_)
  refine lv_iload_n hx hb d_C_begin_11 rfl (lv_at hl 2 rfl) ?_
  refine lv_iconst (v := (nI 1)) hx hb d_C_begin_12 (by decide) ?_
  refine lv_icmp_lt (tgt := 32) hx hb d_C_begin_13 (by decide) (fun c_ => absurd c_ (nI_nlt ht1 (by omega))) (fun _ => ?_)
  refine lv_iload_n hx hb d_C_begin_16 rfl (lv_at hl 2 rfl) ?_
  refine lv_iload_n hx hb d_C_begin_17 rfl (lv_at hl 1 rfl) ?_
  refine lv_icmp_gt (tgt := 32) hx hb d_C_begin_18 (by decide) (fun c_ => absurd c_ (nI_nlt htn (by omega))) (fun _ => ?_)
  refine lv_aload_n hx hb d_C_begin_21 rfl (lv_at hl 0 rfl) ?_
  refine va_get (D := (dC, dI)) (ci := 2) (v := .ref (Z 1)) (C := "DealtSecret") (T := T_C) (N := 11) hx hb hts i_C hown hK hP 0 rfl rfl 0 (by decide) (hts _ k_101) (fun _ h9 => h9) rfl d_C_begin_22 ?_
  refine va_get (D := (dC, dI)) (ci := 0) (v := .int (nI q0)) (C := "DealtSecret$Group") (T := T_G) (N := 4) hx hb hts i_G hown hK hP 1 rfl rfl 1 (by decide) (hts _ k_45) (fun _ h9 => h9) rfl d_C_begin_25 ?_
  refine lv_iload_n hx hb d_C_begin_28 rfl (lv_at hl 1 rfl) ?_
  refine lv_icmp_gt (tgt := 42) hx hb d_C_begin_29 (by decide) (fun _ => ?_) (fun c_ => absurd (nI_lt hnq okq) c_)
  refine lv_aload_n hx hb d_C_begin_42 rfl (lv_at hl 0 rfl) ?_
  refine lv_iload_n hx hb d_C_begin_43 rfl (lv_at hl 1 rfl) ?_
  refine va_put (D := (dC, dI)) (ci := 2) (v := .int (nI n0)) (ty := .int) (C := "DealtSecret") (T := T_C) (N := 11) hx hb hts i_C t_C t_C_ok n_C hown hK hP hD hS 0 rfl rfl 6 (by decide) (hts _ k_107) (fun _ h9 => h9) rfl (by decide +kernel) (rfl) (rfl) (Nat.le_of_ble_eq_true rfl) d_C_begin_44 (fun H locs hP hD hS => ?_)
  have hP : va_P (dC, dI) cls (wC Z cI cP p0 q0 g0 h0 (up S 0 1 (nI n0))) H := by rw [← w_cs1]; exact hP
  have hD : va_D (w_A (wC Z cI cP p0 q0 g0 h0 (S))) (wC Z cI cP p0 q0 g0 h0 (up S 0 1 (nI n0))) := by rw [← w_cs1]; exact hD
  refine lv_aload_n hx hb d_C_begin_47 rfl (lv_at hl 0 rfl) ?_
  refine lv_iload_n hx hb d_C_begin_48 rfl (lv_at hl 2 rfl) ?_
  refine va_put (D := (dC, dI)) (ci := 2) (v := .int (nI t0)) (ty := .int) (C := "DealtSecret") (T := T_C) (N := 11) hx hb hts i_C t_C t_C_ok n_C hown hK hP hD hS 0 rfl rfl 7 (by decide) (hts _ k_108) (fun _ h9 => h9) rfl (by decide +kernel) (rfl) (rfl) (Nat.le_of_ble_eq_true rfl) d_C_begin_49 (fun H locs hP hD hS => ?_)
  have hP : va_P (dC, dI) cls (wC Z cI cP p0 q0 g0 h0 (up (up S 0 1 (nI n0)) 0 2 (nI t0))) H := by rw [← w_cs2]; exact hP
  have hD : va_D (w_A (wC Z cI cP p0 q0 g0 h0 (S))) (wC Z cI cP p0 q0 g0 h0 (up (up S 0 1 (nI n0)) 0 2 (nI t0))) := by rw [← w_cs2]; exact hD
  refine lv_aload_n hx hb d_C_begin_52 rfl (lv_at hl 0 rfl) ?_
  refine lv_iload_n hx hb d_C_begin_53 rfl (lv_at hl 3 rfl) ?_
  refine va_put (D := (dC, dI)) (ci := 2) (v := .int b0) (ty := .boolean) (C := "DealtSecret") (T := T_C) (N := 11) hx hb hts i_C t_C t_C_ok n_C hown hK hP hD hS 0 rfl rfl 8 (by decide) (hts _ k_109) (fun _ h9 => h9) rfl (by decide +kernel) ((nz_01 hb0).1) ((nz_01 hb0).2) (Nat.le_of_ble_eq_true rfl) d_C_begin_54 (fun H locs hP hD hS => ?_)
  have hP : va_P (dC, dI) cls (wC Z cI cP p0 q0 g0 h0 (up (up (up S 0 1 (nI n0)) 0 2 (nI t0)) 0 3 b0)) H := by rw [← w_cs3]; exact hP
  have hD : va_D (w_A (wC Z cI cP p0 q0 g0 h0 (S))) (wC Z cI cP p0 q0 g0 h0 (up (up (up S 0 1 (nI n0)) 0 2 (nI t0)) 0 3 b0)) := by rw [← w_cs3]; exact hD
  refine lv_aload_n hx hb d_C_begin_57 rfl (lv_at hl 0 rfl) ?_
  refine va_get (D := (dC, dI)) (ci := 2) (v := .ref (Z 2)) (C := "DealtSecret") (T := T_C) (N := 11) hx hb hts i_C hown hK hP 0 rfl rfl 1 (by decide) (hts _ k_102) (fun _ h9 => h9) rfl d_C_begin_58 ?_
  refine lv_iconst (v := 0) hx hb d_C_begin_61 (by decide) ?_
  refine wr_S (As := [.ref (Z 2), .int 0]) (rest := []) ⟨hx, hb, hml, hown, hts⟩ (c_J_fill1 l dC dI Z cI cP p0 q0 g0 h0 (up (up (up S 0 1 (nI n0)) 0 2 (nI t0)) 0 3 b0)) (va_cwS 2 hts (al_S k_255 k_256 k_9 k_257) rfl rfl rfl (by decide +kernel) ⟨Nat.le_of_ble_eq_true rfl, Nat.le_of_ble_eq_true rfl⟩) hP hK hD hS rfl hl.1 rfl (lv_room (Nat.le_of_ble_eq_true rfl)) d_C_begin_62 ⟨Nat.zero_le _, Nat.zero_le _⟩ (fun H locs hP _ _ hS => ?_)
  have hD := w_addr hD (w_adC (up (up (up S 0 1 (nI n0)) 0 2 (nI t0)) 0 3 b0) (zr (up (up (up S 0 1 (nI n0)) 0 2 (nI t0)) 0 3 b0) 1 7))
  refine lv_aload_n hx hb d_C_begin_65 rfl (lv_at hl 0 rfl) ?_
  refine va_get (D := (dC, dI)) (ci := 2) (v := .ref (Z 3)) (C := "DealtSecret") (T := T_C) (N := 11) hx hb hts i_C hown hK hP 0 rfl rfl 2 (by decide) (hts _ k_103) (fun _ h9 => h9) rfl d_C_begin_66 ?_
  refine lv_iconst (v := 0) hx hb d_C_begin_69 (by decide) ?_
  refine wr_S (As := [.ref (Z 3), .int 0]) (rest := []) ⟨hx, hb, hml, hown, hts⟩ (c_J_fill2 l dC dI Z cI cP p0 q0 g0 h0 (zr (up (up (up S 0 1 (nI n0)) 0 2 (nI t0)) 0 3 b0) 1 7)) (va_cwS 2 hts (al_S k_255 k_256 k_9 k_257) rfl rfl rfl (by decide +kernel) ⟨Nat.le_of_ble_eq_true rfl, Nat.le_of_ble_eq_true rfl⟩) hP hK hD hS rfl hl.1 rfl (lv_room (Nat.le_of_ble_eq_true rfl)) d_C_begin_70 ⟨Nat.zero_le _, Nat.zero_le _⟩ (fun H locs hP _ _ hS => ?_)
  have hD := w_addr hD (w_adC (zr (up (up (up S 0 1 (nI n0)) 0 2 (nI t0)) 0 3 b0) 1 7) (bg3 S n0 t0 b0))
  refine lv_iconst (v := (nI 0)) hx hb d_C_begin_73 (by decide) ?_
  refine lv_istore (lv' := [(4, .int (nI 0)), (0, .ref (Z 0)), (1, .int (nI n0)), (2, .int (nI t0)), (3, .int b0)]) hx hb d_C_begin_74 hl (by decide) rfl (fun ls hl => ?_)
  exact loop (n0 + 1) 0 _ _ ls (by omega) (by omega) hP hD hS (lv_sub hl [1, 2, 3, 4, 0] rfl)
