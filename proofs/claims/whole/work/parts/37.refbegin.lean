def zm (S : Nat → Nat → Int32) (j : Nat) : Nat → Nat → Int32 := fun f k => if (f = 1 ∨ f = 2 ∨ f = 3) ∧ k < j then 0 else S f k
def zn (S : Nat → Nat → Int32) (j : Nat) : Nat → Nat → Int32 := fun f k => if (f = 4 ∨ f = 5 ∨ f = 6 ∨ f = 9) ∧ k < j then 0 else S f k
theorem zm_0 (S : Nat → Nat → Int32) : zm S 0 = S := by
  funext f k
  simp [zm]
theorem zn_0 (S : Nat → Nat → Int32) : zn S 0 = S := by
  funext f k
  simp [zn]
theorem zm_s (S : Nat → Nat → Int32) (j : Nat) : up (up (up (zm S j) 1 j 0) 2 j 0) 3 j 0 = zm S (j + 1) := by
  funext f k
  unfold up zm
  by_cases a : f = 1
  · subst a
    by_cases c : k = j
    · simp [c]
    · simp [c, show k < j + 1 ↔ k < j by omega]
  by_cases a2 : f = 2
  · subst a2
    by_cases c : k = j
    · simp [c]
    · simp [c, show k < j + 1 ↔ k < j by omega]
  by_cases a3 : f = 3
  · subst a3
    by_cases c : k = j
    · simp [c]
    · simp [c, show k < j + 1 ↔ k < j by omega]
  simp [a, a2, a3]
theorem zn_s (S : Nat → Nat → Int32) (j : Nat) : up (up (up (up (zn S j) 4 j 0) 5 j 0) 6 j 0) 9 j 0 = zn S (j + 1) := by
  funext f k
  unfold up zn
  by_cases a : f = 4
  · subst a
    by_cases c : k = j
    · simp [c]
    · simp [c, show k < j + 1 ↔ k < j by omega]
  by_cases a2 : f = 5
  · subst a2
    by_cases c : k = j
    · simp [c]
    · simp [c, show k < j + 1 ↔ k < j by omega]
  by_cases a3 : f = 6
  · subst a3
    by_cases c : k = j
    · simp [c]
    · simp [c, show k < j + 1 ↔ k < j by omega]
  by_cases a4 : f = 9
  · subst a4
    by_cases c : k = j
    · simp [c]
    · simp [c, show k < j + 1 ↔ k < j by omega]
  simp [a, a2, a3, a4]
/-- the reference begins a deal -/
def bm1 (S : Nat → Nat → Int32) (n0 t0 : Nat) (b0 : Int32) : Nat → Nat → Int32 := up (up (up (up (up (up S 0 1 0) 0 2 (nI n0)) 0 3 (nI t0)) 0 4 b0) 0 0 1) 0 5 0
def bmS (S : Nat → Nat → Int32) (n0 t0 : Nat) (b0 : Int32) : Nat → Nat → Int32 := zn (zm (bm1 S n0 t0 b0) 7) 8
set_option maxRecDepth 100000 in
set_option maxHeartbeats 4000000 in
/-- the reference's begin where it is allowed -/
theorem c_M_begin (l : Launch) (dC : Nat → ClassId) (dI : Nat → Nat → Nat) (Y : Nat → Nat) (cI cZ : ClassId) (p0 q0 g0 h0 : Nat) (S : Nat → Nat → Int32) (n0 t0 : Nat) (b0 : Int32) (hb0 : b0 = 0 ∨ b0 = 1) (hn1 : 1 ≤ n0) (hn7 : n0 ≤ 7) (ht1 : 1 ≤ t0) (htn : t0 ≤ n0) (hnq : n0 < q0) (ok : okG p0 q0 g0 h0) : Wr l y_M_begin ws_M_begin 0 0 [.ref (Y 0), .int (nI n0), .int (nI t0), .int b0] (dC, dI) cls (tysM cI cZ) (wM Y cI cZ p0 q0 g0 h0 (S)) (wM Y cI cZ p0 q0 g0 h0 (bmS S n0 t0 b0)) (none) := by
  refine Met.ofW (cc := b_M_begin) (maxL := 6) (ret := none) (by decide) rfl ?_
  intro p e s m args below meth c s₁ B hml hv
  obtain ⟨rfl, hP, hK, hD0⟩ := hv
  have hx := B.exec
  have hb := B.bytes
  have hr := B.returns
  have hts : ∀ w ∈ AL, w.before ([.ref (Y 0), .int (nI n0), .int (nI t0), .int b0] : List Value).toArray s = true := fun w h => atoms_spec (ws := ws_M_begin) B.pre w (List.mem_cons_of_mem _ h)
  have hown : s.vm.findClass "DealtSecretModel" = some m.cls := findClass_of_methodNamed B.named
  have hlk := B.notSynchronized
  have hl := lv_entry ([.ref (Y 0), .int (nI n0), .int (nI t0), .int b0]) (n := 6) (Nat.le_of_ble_eq_true rfl)
  rw [lg_entry_eq]
  generalize (lg_sl ([.ref (Y 0), .int (nI n0), .int (nI t0), .int b0]) ++ List.replicate (6 - (lg_sl ([.ref (Y 0), .int (nI n0), .int (nI t0), .int b0])).length) Slot.unset).toArray = ls at hl ⊢
  have hl : lv_has ls 6 [(0, .ref (Y 0)), (1, .int (nI n0)), (2, .int (nI t0)), (3, .int b0)] := hl
  have hD := w_self hD0
  have hS : va_S (w_A (wM Y cI cZ p0 q0 g0 h0 (S))) s.heap s.heap [] := va_S.rf
  obtain ⟨okp2, okp, okq2, okq, okg, okh⟩ := id ok
  have loop2 : ∀ (n j : Nat) (H : Heap) (locs : List Loc) (ls : Array Slot), 8 + 1 ≤ j + n → j ≤ 8 → va_P (dC, dI) cls (wM Y cI cZ p0 q0 g0 h0 (zn (zm (bm1 S n0 t0 b0) 7) j)) H → va_D (w_A (wM Y cI cZ p0 q0 g0 h0 (S))) (wM Y cI cZ p0 q0 g0 h0 (zn (zm (bm1 S n0 t0 b0) 7) j)) → va_S (w_A (wM Y cI cZ p0 q0 g0 h0 (S))) s.heap H locs → lv_has ls 6 [(0, .ref (Y 0)), (1, .int (nI n0)), (2, .int (nI t0)), (3, .int b0), (4, .int 0), (5, .int (nI j))] → W p l e (headSpec ws_M_begin { frames := 0, cells := 0, slots := 0, locals := 0 }).room s m [.ref (Y 0), .int (nI n0), .int (nI t0), .int b0].toArray below meth c H locs 0 0 (MQ below (fun _ st o t => o = .returned (none) ∧ va_P (dC, dI) cls (wM Y cI cZ p0 q0 g0 h0 (bmS S n0 t0 b0)) t.heap ∧ va_F (w_A (wM Y cI cZ p0 q0 g0 h0 (S))) st t) [.ref (Y 0), .int (nI n0), .int (nI t0), .int b0].toArray s 0 0 (w_A (wM Y cI cZ p0 q0 g0 h0 (S)))) (F0 m 124 ls []) := by
    intro n
    induction n with
    | zero =>
      intro j H locs ls h1 h2
      omega
    | succ n ih =>
      intro j H locs ls h1 h2 hP hD hS hl
      refine lv_iload hx hb d_M_begin_124 (lv_at hl 5 rfl) ?_
      refine lv_bipush (v := (nI 8)) hx hb d_M_begin_126 (by decide) ?_
      refine lv_icmp_ge (tgt := 169) hx hb d_M_begin_128 (by decide) (fun c128 => ?_) (fun c128 => ?_)
      · have hk : j = 8 := by
          rcases Nat.lt_or_ge j 8 with q | q
          · exact absurd c128 (nI_ge q (by omega))
          · omega
        subst hk
        exact wr_v hx hb hr hlk hP hS d_M_begin_169
      · have hk : j < 8 := by
          rcases Nat.lt_or_ge j 8 with q | q
          · exact q
          · exact absurd (nI_le q (by omega)) c128
        refine lv_aload_n hx hb d_M_begin_131 rfl (lv_at hl 0 rfl) ?_
        refine va_get (D := (dC, dI)) (ci := 3) (v := .ref (Y 4)) (C := "DealtSecretModel") (T := T_M) (N := 24) hx hb hts i_M hown hK hP 0 rfl rfl 12 (by decide) (hts _ k_455) (fun _ h9 => h9) rfl d_M_begin_132 ?_
        refine lv_iload hx hb d_M_begin_135 (lv_at hl 5 rfl) ?_
        refine lv_iconst (v := 0) hx hb d_M_begin_137 (by decide) ?_
        refine va_zast hx hb hK hP hD hS 4 1 rfl rfl (vp_in_nI (by omega) (by decide)) d_M_begin_138 (fun H locs hP hD hS => ?_)
        rw [nI_clamp (by omega), show vp_nar .boolean 0 = 0 from rfl] at hP hD
        have hP : va_P (dC, dI) cls (wM Y cI cZ p0 q0 g0 h0 (up (zn (zm (bm1 S n0 t0 b0) 7) j) 4 j 0)) H := by rw [← w_ma4]; exact hP
        have hD : va_D (w_A (wM Y cI cZ p0 q0 g0 h0 (S))) (wM Y cI cZ p0 q0 g0 h0 (up (zn (zm (bm1 S n0 t0 b0) 7) j) 4 j 0)) := by rw [← w_ma4]; exact hD
        refine lv_aload_n hx hb d_M_begin_139 rfl (lv_at hl 0 rfl) ?_
        refine va_get (D := (dC, dI)) (ci := 3) (v := .ref (Y 5)) (C := "DealtSecretModel") (T := T_M) (N := 24) hx hb hts i_M hown hK hP 0 rfl rfl 13 (by decide) (hts _ k_456) (fun _ h9 => h9) rfl d_M_begin_140 ?_
        refine lv_iload hx hb d_M_begin_143 (lv_at hl 5 rfl) ?_
        refine lv_iconst (v := 0) hx hb d_M_begin_145 (by decide) ?_
        refine va_zast hx hb hK hP hD hS 5 1 rfl rfl (vp_in_nI (by omega) (by decide)) d_M_begin_146 (fun H locs hP hD hS => ?_)
        rw [nI_clamp (by omega), show vp_nar .boolean 0 = 0 from rfl] at hP hD
        have hP : va_P (dC, dI) cls (wM Y cI cZ p0 q0 g0 h0 (up (up (zn (zm (bm1 S n0 t0 b0) 7) j) 4 j 0) 5 j 0)) H := by rw [← w_ma5]; exact hP
        have hD : va_D (w_A (wM Y cI cZ p0 q0 g0 h0 (S))) (wM Y cI cZ p0 q0 g0 h0 (up (up (zn (zm (bm1 S n0 t0 b0) 7) j) 4 j 0) 5 j 0)) := by rw [← w_ma5]; exact hD
        refine lv_aload_n hx hb d_M_begin_147 rfl (lv_at hl 0 rfl) ?_
        refine va_get (D := (dC, dI)) (ci := 3) (v := .ref (Y 6)) (C := "DealtSecretModel") (T := T_M) (N := 24) hx hb hts i_M hown hK hP 0 rfl rfl 14 (by decide) (hts _ k_457) (fun _ h9 => h9) rfl d_M_begin_148 ?_
        refine lv_iload hx hb d_M_begin_151 (lv_at hl 5 rfl) ?_
        refine lv_iconst (v := 0) hx hb d_M_begin_153 (by decide) ?_
        refine va_zast hx hb hK hP hD hS 6 1 rfl rfl (vp_in_nI (by omega) (by decide)) d_M_begin_154 (fun H locs hP hD hS => ?_)
        rw [nI_clamp (by omega), show vp_nar .boolean 0 = 0 from rfl] at hP hD
        have hP : va_P (dC, dI) cls (wM Y cI cZ p0 q0 g0 h0 (up (up (up (zn (zm (bm1 S n0 t0 b0) 7) j) 4 j 0) 5 j 0) 6 j 0)) H := by rw [← w_ma6]; exact hP
        have hD : va_D (w_A (wM Y cI cZ p0 q0 g0 h0 (S))) (wM Y cI cZ p0 q0 g0 h0 (up (up (up (zn (zm (bm1 S n0 t0 b0) 7) j) 4 j 0) 5 j 0) 6 j 0)) := by rw [← w_ma6]; exact hD
        refine lv_aload_n hx hb d_M_begin_155 rfl (lv_at hl 0 rfl) ?_
        refine va_get (D := (dC, dI)) (ci := 3) (v := .ref (Y 9)) (C := "DealtSecretModel") (T := T_M) (N := 24) hx hb hts i_M hown hK hP 0 rfl rfl 17 (by decide) (hts _ k_460) (fun _ h9 => h9) rfl d_M_begin_156 ?_
        refine lv_iload hx hb d_M_begin_159 (lv_at hl 5 rfl) ?_
        refine lv_iconst (v := 0) hx hb d_M_begin_161 (by decide) ?_
        refine va_zast hx hb hK hP hD hS 9 1 rfl rfl (vp_in_nI (by omega) (by decide)) d_M_begin_162 (fun H locs hP hD hS => ?_)
        rw [nI_clamp (by omega), show vp_nar .boolean 0 = 0 from rfl] at hP hD
        have hP : va_P (dC, dI) cls (wM Y cI cZ p0 q0 g0 h0 (up (up (up (up (zn (zm (bm1 S n0 t0 b0) 7) j) 4 j 0) 5 j 0) 6 j 0) 9 j 0)) H := by rw [← w_ma9]; exact hP
        have hD : va_D (w_A (wM Y cI cZ p0 q0 g0 h0 (S))) (wM Y cI cZ p0 q0 g0 h0 (up (up (up (up (zn (zm (bm1 S n0 t0 b0) 7) j) 4 j 0) 5 j 0) 6 j 0) 9 j 0)) := by rw [← w_ma9]; exact hD
        refine lv_iinc (v := (nI (j + 1))) (lv' := [(5, .int (nI (j + 1))), (0, .ref (Y 0)), (1, .int (nI n0)), (2, .int (nI t0)), (3, .int b0), (4, .int 0)]) hx hb d_M_begin_163 hl (k := 5) rfl (nI_1 j) (by decide) rfl (fun ls hl => ?_)
        refine lv_goto (tgt := 124) hx hb d_M_begin_166 (by decide) ?_
        exact ih (j + 1) H locs ls (by omega) (by omega) (by rw [← zn_s]; exact hP) (by rw [← zn_s]; exact hD) hS (lv_sub hl [1, 2, 3, 4, 5, 0] rfl)
  have loop : ∀ (n j : Nat) (H : Heap) (locs : List Loc) (ls : Array Slot), 7 + 1 ≤ j + n → j ≤ 7 → va_P (dC, dI) cls (wM Y cI cZ p0 q0 g0 h0 (zm (bm1 S n0 t0 b0) j)) H → va_D (w_A (wM Y cI cZ p0 q0 g0 h0 (S))) (wM Y cI cZ p0 q0 g0 h0 (zm (bm1 S n0 t0 b0) j)) → va_S (w_A (wM Y cI cZ p0 q0 g0 h0 (S))) s.heap H locs → lv_has ls 6 [(0, .ref (Y 0)), (1, .int (nI n0)), (2, .int (nI t0)), (3, .int b0), (4, .int 0), (5, .int (nI j))] → W p l e (headSpec ws_M_begin { frames := 0, cells := 0, slots := 0, locals := 0 }).room s m [.ref (Y 0), .int (nI n0), .int (nI t0), .int b0].toArray below meth c H locs 0 0 (MQ below (fun _ st o t => o = .returned (none) ∧ va_P (dC, dI) cls (wM Y cI cZ p0 q0 g0 h0 (bmS S n0 t0 b0)) t.heap ∧ va_F (w_A (wM Y cI cZ p0 q0 g0 h0 (S))) st t) [.ref (Y 0), .int (nI n0), .int (nI t0), .int b0].toArray s 0 0 (w_A (wM Y cI cZ p0 q0 g0 h0 (S)))) (F0 m 84 ls []) := by
    intro n
    induction n with
    | zero =>
      intro j H locs ls h1 h2
      omega
    | succ n ih =>
      intro j H locs ls h1 h2 hP hD hS hl
      refine lv_iload hx hb d_M_begin_84 (lv_at hl 5 rfl) ?_
      refine lv_bipush (v := (nI 7)) hx hb d_M_begin_86 (by decide) ?_
      refine lv_icmp_ge (tgt := 121) hx hb d_M_begin_88 (by decide) (fun c88 => ?_) (fun c88 => ?_)
      · have hk : j = 7 := by
          rcases Nat.lt_or_ge j 7 with q | q
          · exact absurd c88 (nI_ge q (by omega))
          · omega
        rw [hk] at hP hD
        refine lv_iconst (v := (nI 0)) hx hb d_M_begin_121 (by decide) ?_
        refine lv_istore (lv' := [(5, .int (nI 0)), (0, .ref (Y 0)), (1, .int (nI n0)), (2, .int (nI t0)), (3, .int b0), (4, .int 0)]) hx hb d_M_begin_122 hl (by decide) rfl (fun ls hl => ?_)
        exact loop2 9 0 _ _ ls (by omega) (by omega) (by rw [zn_0]; exact hP) (by rw [zn_0]; exact hD) hS (lv_sub hl [1, 2, 3, 4, 5, 0] rfl)
      · have hk : j < 7 := by
          rcases Nat.lt_or_ge j 7 with q | q
          · exact q
          · exact absurd (nI_le q (by omega)) c88
        refine lv_aload_n hx hb d_M_begin_91 rfl (lv_at hl 0 rfl) ?_
        refine va_get (D := (dC, dI)) (ci := 3) (v := .ref (Y 1)) (C := "DealtSecretModel") (T := T_M) (N := 24) hx hb hts i_M hown hK hP 0 rfl rfl 9 (by decide) (hts _ k_452) (fun _ h9 => h9) rfl d_M_begin_92 ?_
        refine lv_iload hx hb d_M_begin_95 (lv_at hl 5 rfl) ?_
        refine lv_iconst (v := 0) hx hb d_M_begin_97 (by decide) ?_
        refine va_iast hx hb hK hP hD hS 1 0 rfl rfl (vp_in_nI (by omega) (by decide)) d_M_begin_98 (fun H locs hP hD hS => ?_)
        rw [nI_clamp (by omega)] at hP hD
        have hP : va_P (dC, dI) cls (wM Y cI cZ p0 q0 g0 h0 (up (zm (bm1 S n0 t0 b0) j) 1 j 0)) H := by rw [← w_ma1]; exact hP
        have hD : va_D (w_A (wM Y cI cZ p0 q0 g0 h0 (S))) (wM Y cI cZ p0 q0 g0 h0 (up (zm (bm1 S n0 t0 b0) j) 1 j 0)) := by rw [← w_ma1]; exact hD
        refine lv_aload_n hx hb d_M_begin_99 rfl (lv_at hl 0 rfl) ?_
        refine va_get (D := (dC, dI)) (ci := 3) (v := .ref (Y 2)) (C := "DealtSecretModel") (T := T_M) (N := 24) hx hb hts i_M hown hK hP 0 rfl rfl 10 (by decide) (hts _ k_453) (fun _ h9 => h9) rfl d_M_begin_100 ?_
        refine lv_iload hx hb d_M_begin_103 (lv_at hl 5 rfl) ?_
        refine lv_iconst (v := 0) hx hb d_M_begin_105 (by decide) ?_
        refine va_iast hx hb hK hP hD hS 2 0 rfl rfl (vp_in_nI (by omega) (by decide)) d_M_begin_106 (fun H locs hP hD hS => ?_)
        rw [nI_clamp (by omega)] at hP hD
        have hP : va_P (dC, dI) cls (wM Y cI cZ p0 q0 g0 h0 (up (up (zm (bm1 S n0 t0 b0) j) 1 j 0) 2 j 0)) H := by rw [← w_ma2]; exact hP
        have hD : va_D (w_A (wM Y cI cZ p0 q0 g0 h0 (S))) (wM Y cI cZ p0 q0 g0 h0 (up (up (zm (bm1 S n0 t0 b0) j) 1 j 0) 2 j 0)) := by rw [← w_ma2]; exact hD
        refine lv_aload_n hx hb d_M_begin_107 rfl (lv_at hl 0 rfl) ?_
        refine va_get (D := (dC, dI)) (ci := 3) (v := .ref (Y 3)) (C := "DealtSecretModel") (T := T_M) (N := 24) hx hb hts i_M hown hK hP 0 rfl rfl 11 (by decide) (hts _ k_454) (fun _ h9 => h9) rfl d_M_begin_108 ?_
        refine lv_iload hx hb d_M_begin_111 (lv_at hl 5 rfl) ?_
        refine lv_iconst (v := 0) hx hb d_M_begin_113 (by decide) ?_
        refine va_iast hx hb hK hP hD hS 3 0 rfl rfl (vp_in_nI (by omega) (by decide)) d_M_begin_114 (fun H locs hP hD hS => ?_)
        rw [nI_clamp (by omega)] at hP hD
        have hP : va_P (dC, dI) cls (wM Y cI cZ p0 q0 g0 h0 (up (up (up (zm (bm1 S n0 t0 b0) j) 1 j 0) 2 j 0) 3 j 0)) H := by rw [← w_ma3]; exact hP
        have hD : va_D (w_A (wM Y cI cZ p0 q0 g0 h0 (S))) (wM Y cI cZ p0 q0 g0 h0 (up (up (up (zm (bm1 S n0 t0 b0) j) 1 j 0) 2 j 0) 3 j 0)) := by rw [← w_ma3]; exact hD
        refine lv_iinc (v := (nI (j + 1))) (lv' := [(5, .int (nI (j + 1))), (0, .ref (Y 0)), (1, .int (nI n0)), (2, .int (nI t0)), (3, .int b0), (4, .int 0)]) hx hb d_M_begin_115 hl (k := 5) rfl (nI_1 j) (by decide) rfl (fun ls hl => ?_)
        refine lv_goto (tgt := 84) hx hb d_M_begin_118 (by decide) ?_
        exact ih (j + 1) H locs ls (by omega) (by omega) (by rw [← zm_s]; exact hP) (by rw [← zm_s]; exact hD) hS (lv_sub hl [1, 2, 3, 4, 5, 0] rfl)
  refine lv_iload_n hx hb d_M_begin_0 rfl (lv_at hl 1 rfl) ?_
  refine lv_iconst (v := (nI 1)) hx hb d_M_begin_1 (by decide) ?_
  refine lv_icmp_lt (tgt := 29) hx hb d_M_begin_2 (by decide) (fun c_ => absurd c_ (nI_nlt hn1 (by omega))) (fun _ => ?_)
  refine lv_iload_n hx hb d_M_begin_5 rfl (lv_at hl 1 rfl) ?_
  refine lv_bipush (v := (nI 7)) hx hb d_M_begin_6 (by decide) ?_
  refine lv_icmp_gt (tgt := 29) hx hb d_M_begin_8 (by decide) (fun c_ => absurd c_ (nI_nlt hn7 (by omega))) (fun _ => ?_)
  refine lv_iload_n hx hb d_M_begin_11 rfl (lv_at hl 2 rfl) ?_
  refine lv_iconst (v := (nI 1)) hx hb d_M_begin_12 (by decide) ?_
  refine lv_icmp_lt (tgt := 29) hx hb d_M_begin_13 (by decide) (fun c_ => absurd c_ (nI_nlt ht1 (by omega))) (fun _ => ?_)
  refine lv_iload_n hx hb d_M_begin_16 rfl (lv_at hl 2 rfl) ?_
  refine lv_iload_n hx hb d_M_begin_17 rfl (lv_at hl 1 rfl) ?_
  refine lv_icmp_gt (tgt := 29) hx hb d_M_begin_18 (by decide) (fun c_ => absurd c_ (nI_nlt htn (by omega))) (fun _ => ?_)
  refine lv_aload_n hx hb d_M_begin_21 rfl (lv_at hl 0 rfl) ?_
  refine va_get (D := (dC, dI)) (ci := 3) (v := .int (nI q0)) (C := "DealtSecretModel") (T := T_M) (N := 24) hx hb hts i_M hown hK hP 0 rfl rfl 1 (by decide) (hts _ k_444) (fun _ h9 => h9) rfl d_M_begin_22 ?_
  refine lv_iload_n hx hb d_M_begin_25 rfl (lv_at hl 1 rfl) ?_
  refine lv_icmp_gt (tgt := 33) hx hb d_M_begin_26 (by decide) (fun _ => ?_) (fun c_ => absurd (nI_lt hnq okq) c_)
  refine lv_iconst (v := 0) hx hb d_M_begin_33 (by decide) ?_
  refine lv_istore (lv' := [(4, .int 0), (0, .ref (Y 0)), (1, .int (nI n0)), (2, .int (nI t0)), (3, .int b0)]) hx hb d_M_begin_34 hl (by decide) rfl (fun ls hl => ?_)
  refine lv_aload_n hx hb d_M_begin_36 rfl (lv_at hl 1 rfl) ?_
  refine lv_iload hx hb d_M_begin_37 (lv_at hl 0 rfl) ?_
  refine lv_if_eq (tgt := 46) hx hb d_M_begin_39 (by decide) (fun _ => ?_) (fun c_ => absurd (rfl) c_)
  refine lv_iconst (v := 0) hx hb d_M_begin_46 (by decide) ?_
  refine va_put (D := (dC, dI)) (ci := 3) (v := .int 0) (ty := .int) (C := "DealtSecretModel") (T := T_M) (N := 24) hx hb hts i_M t_M t_M_ok n_M hown hK hP hD hS 0 rfl rfl 5 (by decide) (hts _ k_448) (fun _ h9 => h9) rfl (by decide +kernel) (rfl) (rfl) (Nat.le_of_ble_eq_true rfl) d_M_begin_47 (fun H locs hP hD hS => ?_)
  have hP : va_P (dC, dI) cls (wM Y cI cZ p0 q0 g0 h0 (up S 0 1 0)) H := by rw [← w_ms1]; exact hP
  have hD : va_D (w_A (wM Y cI cZ p0 q0 g0 h0 (S))) (wM Y cI cZ p0 q0 g0 h0 (up S 0 1 0)) := by rw [← w_ms1]; exact hD
  refine lv_iload hx hb d_M_begin_50 (lv_at hl 0 rfl) ?_
  refine lv_if_eq (tgt := 56) hx hb d_M_begin_52 (by decide) (fun _ => ?_) (fun c_ => absurd (rfl) c_)
  refine lv_aload_n hx hb d_M_begin_56 rfl (lv_at hl 1 rfl) ?_
  refine lv_iload_n hx hb d_M_begin_57 rfl (lv_at hl 2 rfl) ?_
  refine va_put (D := (dC, dI)) (ci := 3) (v := .int (nI n0)) (ty := .int) (C := "DealtSecretModel") (T := T_M) (N := 24) hx hb hts i_M t_M t_M_ok n_M hown hK hP hD hS 0 rfl rfl 6 (by decide) (hts _ k_449) (fun _ h9 => h9) rfl (by decide +kernel) (rfl) (rfl) (Nat.le_of_ble_eq_true rfl) d_M_begin_58 (fun H locs hP hD hS => ?_)
  have hP : va_P (dC, dI) cls (wM Y cI cZ p0 q0 g0 h0 (up (up S 0 1 0) 0 2 (nI n0))) H := by rw [← w_ms2]; exact hP
  have hD : va_D (w_A (wM Y cI cZ p0 q0 g0 h0 (S))) (wM Y cI cZ p0 q0 g0 h0 (up (up S 0 1 0) 0 2 (nI n0))) := by rw [← w_ms2]; exact hD
  refine lv_aload_n hx hb d_M_begin_61 rfl (lv_at hl 1 rfl) ?_
  refine lv_iload_n hx hb d_M_begin_62 rfl (lv_at hl 3 rfl) ?_
  refine va_put (D := (dC, dI)) (ci := 3) (v := .int (nI t0)) (ty := .int) (C := "DealtSecretModel") (T := T_M) (N := 24) hx hb hts i_M t_M t_M_ok n_M hown hK hP hD hS 0 rfl rfl 7 (by decide) (hts _ k_450) (fun _ h9 => h9) rfl (by decide +kernel) (rfl) (rfl) (Nat.le_of_ble_eq_true rfl) d_M_begin_63 (fun H locs hP hD hS => ?_)
  have hP : va_P (dC, dI) cls (wM Y cI cZ p0 q0 g0 h0 (up (up (up S 0 1 0) 0 2 (nI n0)) 0 3 (nI t0))) H := by rw [← w_ms3]; exact hP
  have hD : va_D (w_A (wM Y cI cZ p0 q0 g0 h0 (S))) (wM Y cI cZ p0 q0 g0 h0 (up (up (up S 0 1 0) 0 2 (nI n0)) 0 3 (nI t0))) := by rw [← w_ms3]; exact hD
  refine lv_aload_n hx hb d_M_begin_66 rfl (lv_at hl 1 rfl) ?_
  refine lv_iload_n hx hb d_M_begin_67 rfl (lv_at hl 4 rfl) ?_
  refine va_put (D := (dC, dI)) (ci := 3) (v := .int b0) (ty := .boolean) (C := "DealtSecretModel") (T := T_M) (N := 24) hx hb hts i_M t_M t_M_ok n_M hown hK hP hD hS 0 rfl rfl 8 (by decide) (hts _ k_451) (fun _ h9 => h9) rfl (by decide +kernel) ((nz_01 hb0).1) ((nz_01 hb0).2) (Nat.le_of_ble_eq_true rfl) d_M_begin_68 (fun H locs hP hD hS => ?_)
  have hP : va_P (dC, dI) cls (wM Y cI cZ p0 q0 g0 h0 (up (up (up (up S 0 1 0) 0 2 (nI n0)) 0 3 (nI t0)) 0 4 b0)) H := by rw [← w_ms4]; exact hP
  have hD : va_D (w_A (wM Y cI cZ p0 q0 g0 h0 (S))) (wM Y cI cZ p0 q0 g0 h0 (up (up (up (up S 0 1 0) 0 2 (nI n0)) 0 3 (nI t0)) 0 4 b0)) := by rw [← w_ms4]; exact hD
  refine lv_aload_n hx hb d_M_begin_71 rfl (lv_at hl 1 rfl) ?_
  refine lv_iconst (v := 1) hx hb d_M_begin_72 (by decide) ?_
  refine va_put (D := (dC, dI)) (ci := 3) (v := .int 1) (ty := .int) (C := "DealtSecretModel") (T := T_M) (N := 24) hx hb hts i_M t_M t_M_ok n_M hown hK hP hD hS 0 rfl rfl 4 (by decide) (hts _ k_447) (fun _ h9 => h9) rfl (by decide +kernel) (rfl) (rfl) (Nat.le_of_ble_eq_true rfl) d_M_begin_73 (fun H locs hP hD hS => ?_)
  have hP : va_P (dC, dI) cls (wM Y cI cZ p0 q0 g0 h0 (up (up (up (up (up S 0 1 0) 0 2 (nI n0)) 0 3 (nI t0)) 0 4 b0) 0 0 1)) H := by rw [← w_ms0]; exact hP
  have hD : va_D (w_A (wM Y cI cZ p0 q0 g0 h0 (S))) (wM Y cI cZ p0 q0 g0 h0 (up (up (up (up (up S 0 1 0) 0 2 (nI n0)) 0 3 (nI t0)) 0 4 b0) 0 0 1)) := by rw [← w_ms0]; exact hD
  refine lv_aload_n hx hb d_M_begin_76 rfl (lv_at hl 1 rfl) ?_
  refine lv_iconst (v := 0) hx hb d_M_begin_77 (by decide) ?_
  refine va_put (D := (dC, dI)) (ci := 3) (v := .int 0) (ty := .boolean) (C := "DealtSecretModel") (T := T_M) (N := 24) hx hb hts i_M t_M t_M_ok n_M hown hK hP hD hS 0 rfl rfl 20 (by decide) (hts _ k_463) (fun _ h9 => h9) rfl (by decide +kernel) (rfl) (rfl) (Nat.le_of_ble_eq_true rfl) d_M_begin_78 (fun H locs hP hD hS => ?_)
  have hP : va_P (dC, dI) cls (wM Y cI cZ p0 q0 g0 h0 (up (up (up (up (up (up S 0 1 0) 0 2 (nI n0)) 0 3 (nI t0)) 0 4 b0) 0 0 1) 0 5 0)) H := by rw [← w_ms5]; exact hP
  have hD : va_D (w_A (wM Y cI cZ p0 q0 g0 h0 (S))) (wM Y cI cZ p0 q0 g0 h0 (up (up (up (up (up (up S 0 1 0) 0 2 (nI n0)) 0 3 (nI t0)) 0 4 b0) 0 0 1) 0 5 0)) := by rw [← w_ms5]; exact hD
  refine lv_iconst (v := (nI 0)) hx hb d_M_begin_81 (by decide) ?_
  refine lv_istore (lv' := [(5, .int (nI 0)), (4, .int 0), (0, .ref (Y 0)), (1, .int (nI n0)), (2, .int (nI t0)), (3, .int b0)]) hx hb d_M_begin_82 hl (by decide) rfl (fun ls hl => ?_)
  exact loop 8 0 _ _ ls (by omega) (by omega) (by rw [zm_0]; exact hP) (by rw [zm_0]; exact hD) hS (lv_sub hl [2, 3, 4, 5, 1, 0] rfl)
set_option maxRecDepth 100000 in
set_option maxHeartbeats 4000000 in
/-- the reference's begin with numbers that no deal has -/
theorem r_M_begin (l : Launch) (dC : Nat → ClassId) (dI : Nat → Nat → Nat) (Y : Nat → Nat) (cI cZ : ClassId) (p0 q0 g0 h0 : Nat) (S : Nat → Nat → Int32) (n1 t1 b1 : Int32) (hbad : ¬ bgOk n1 t1 (nI q0)) : Wr l y_M_begin ws_M_begin 0 0 [.ref (Y 0), .int n1, .int t1, .int b1] (dC, dI) cls (tysM cI cZ) (wM Y cI cZ p0 q0 g0 h0 (S)) (wM Y cI cZ p0 q0 g0 h0 (up S 0 1 1)) (none) := by
  refine Met.ofW (cc := b_M_begin) (maxL := 6) (ret := none) (by decide) rfl ?_
  intro p e s m args below meth c s₁ B hml hv
  obtain ⟨rfl, hP, hK, hD0⟩ := hv
  have hx := B.exec
  have hb := B.bytes
  have hr := B.returns
  have hts : ∀ w ∈ AL, w.before ([.ref (Y 0), .int n1, .int t1, .int b1] : List Value).toArray s = true := fun w h => atoms_spec (ws := ws_M_begin) B.pre w (List.mem_cons_of_mem _ h)
  have hown : s.vm.findClass "DealtSecretModel" = some m.cls := findClass_of_methodNamed B.named
  have hlk := B.notSynchronized
  have hl := lv_entry ([.ref (Y 0), .int n1, .int t1, .int b1]) (n := 6) (Nat.le_of_ble_eq_true rfl)
  rw [lg_entry_eq]
  generalize (lg_sl ([.ref (Y 0), .int n1, .int t1, .int b1]) ++ List.replicate (6 - (lg_sl ([.ref (Y 0), .int n1, .int t1, .int b1])).length) Slot.unset).toArray = ls at hl ⊢
  have hl : lv_has ls 6 [(0, .ref (Y 0)), (1, .int n1), (2, .int t1), (3, .int b1)] := hl
  have hD := w_self hD0
  have hS : va_S (w_A (wM Y cI cZ p0 q0 g0 h0 (S))) s.heap s.heap [] := va_S.rf
  refine lv_iload_n hx hb d_M_begin_0 rfl (lv_at hl 1 rfl) ?_
  refine lv_iconst (v := 1) hx hb d_M_begin_1 (by decide) ?_
  refine lv_icmp_lt (tgt := 29) hx hb d_M_begin_2 (by decide) (fun c2 => ?_) (fun c2 => ?_)
  · refine lv_iconst (v := 1) hx hb d_M_begin_29 (by decide) ?_
    refine lv_goto (tgt := 34) hx hb d_M_begin_30 (by decide) ?_
    refine lv_istore (lv' := [(4, .int 1), (0, .ref (Y 0)), (1, .int n1), (2, .int t1), (3, .int b1)]) hx hb d_M_begin_34 hl (by decide) rfl (fun ls hl => ?_)
    refine lv_aload_n hx hb d_M_begin_36 rfl (lv_at hl 1 rfl) ?_
    refine lv_iload hx hb d_M_begin_37 (lv_at hl 0 rfl) ?_
    refine lv_if_eq (tgt := 46) hx hb d_M_begin_39 (by decide) (fun c_ => absurd c_ (by decide)) (fun _ => ?_)
    refine lv_iconst (v := 1) hx hb d_M_begin_42 (by decide) ?_
    refine lv_goto (tgt := 47) hx hb d_M_begin_43 (by decide) ?_
    refine va_put (D := (dC, dI)) (ci := 3) (v := .int 1) (ty := .int) (C := "DealtSecretModel") (T := T_M) (N := 24) hx hb hts i_M t_M t_M_ok n_M hown hK hP hD hS 0 rfl rfl 5 (by decide) (hts _ k_448) (fun _ h9 => h9) rfl (by decide +kernel) (rfl) (rfl) (Nat.le_of_ble_eq_true rfl) d_M_begin_47 (fun H locs hP hD hS => ?_)
    have hP : va_P (dC, dI) cls (wM Y cI cZ p0 q0 g0 h0 (up S 0 1 1)) H := by rw [← w_ms1]; exact hP
    have hD : va_D (w_A (wM Y cI cZ p0 q0 g0 h0 (S))) (wM Y cI cZ p0 q0 g0 h0 (up S 0 1 1)) := by rw [← w_ms1]; exact hD
    refine lv_iload hx hb d_M_begin_50 (lv_at hl 0 rfl) ?_
    refine lv_if_eq (tgt := 56) hx hb d_M_begin_52 (by decide) (fun c_ => absurd c_ (by decide)) (fun _ => ?_)
    exact wr_v hx hb hr hlk hP hS d_M_begin_55
  · refine lv_iload_n hx hb d_M_begin_5 rfl (lv_at hl 1 rfl) ?_
    refine lv_bipush (v := 7) hx hb d_M_begin_6 (by decide) ?_
    refine lv_icmp_gt (tgt := 29) hx hb d_M_begin_8 (by decide) (fun c8 => ?_) (fun c8 => ?_)
    · refine lv_iconst (v := 1) hx hb d_M_begin_29 (by decide) ?_
      refine lv_goto (tgt := 34) hx hb d_M_begin_30 (by decide) ?_
      refine lv_istore (lv' := [(4, .int 1), (0, .ref (Y 0)), (1, .int n1), (2, .int t1), (3, .int b1)]) hx hb d_M_begin_34 hl (by decide) rfl (fun ls hl => ?_)
      refine lv_aload_n hx hb d_M_begin_36 rfl (lv_at hl 1 rfl) ?_
      refine lv_iload hx hb d_M_begin_37 (lv_at hl 0 rfl) ?_
      refine lv_if_eq (tgt := 46) hx hb d_M_begin_39 (by decide) (fun c_ => absurd c_ (by decide)) (fun _ => ?_)
      refine lv_iconst (v := 1) hx hb d_M_begin_42 (by decide) ?_
      refine lv_goto (tgt := 47) hx hb d_M_begin_43 (by decide) ?_
      refine va_put (D := (dC, dI)) (ci := 3) (v := .int 1) (ty := .int) (C := "DealtSecretModel") (T := T_M) (N := 24) hx hb hts i_M t_M t_M_ok n_M hown hK hP hD hS 0 rfl rfl 5 (by decide) (hts _ k_448) (fun _ h9 => h9) rfl (by decide +kernel) (rfl) (rfl) (Nat.le_of_ble_eq_true rfl) d_M_begin_47 (fun H locs hP hD hS => ?_)
      have hP : va_P (dC, dI) cls (wM Y cI cZ p0 q0 g0 h0 (up S 0 1 1)) H := by rw [← w_ms1]; exact hP
      have hD : va_D (w_A (wM Y cI cZ p0 q0 g0 h0 (S))) (wM Y cI cZ p0 q0 g0 h0 (up S 0 1 1)) := by rw [← w_ms1]; exact hD
      refine lv_iload hx hb d_M_begin_50 (lv_at hl 0 rfl) ?_
      refine lv_if_eq (tgt := 56) hx hb d_M_begin_52 (by decide) (fun c_ => absurd c_ (by decide)) (fun _ => ?_)
      exact wr_v hx hb hr hlk hP hS d_M_begin_55
    · refine lv_iload_n hx hb d_M_begin_11 rfl (lv_at hl 2 rfl) ?_
      refine lv_iconst (v := 1) hx hb d_M_begin_12 (by decide) ?_
      refine lv_icmp_lt (tgt := 29) hx hb d_M_begin_13 (by decide) (fun c13 => ?_) (fun c13 => ?_)
      · refine lv_iconst (v := 1) hx hb d_M_begin_29 (by decide) ?_
        refine lv_goto (tgt := 34) hx hb d_M_begin_30 (by decide) ?_
        refine lv_istore (lv' := [(4, .int 1), (0, .ref (Y 0)), (1, .int n1), (2, .int t1), (3, .int b1)]) hx hb d_M_begin_34 hl (by decide) rfl (fun ls hl => ?_)
        refine lv_aload_n hx hb d_M_begin_36 rfl (lv_at hl 1 rfl) ?_
        refine lv_iload hx hb d_M_begin_37 (lv_at hl 0 rfl) ?_
        refine lv_if_eq (tgt := 46) hx hb d_M_begin_39 (by decide) (fun c_ => absurd c_ (by decide)) (fun _ => ?_)
        refine lv_iconst (v := 1) hx hb d_M_begin_42 (by decide) ?_
        refine lv_goto (tgt := 47) hx hb d_M_begin_43 (by decide) ?_
        refine va_put (D := (dC, dI)) (ci := 3) (v := .int 1) (ty := .int) (C := "DealtSecretModel") (T := T_M) (N := 24) hx hb hts i_M t_M t_M_ok n_M hown hK hP hD hS 0 rfl rfl 5 (by decide) (hts _ k_448) (fun _ h9 => h9) rfl (by decide +kernel) (rfl) (rfl) (Nat.le_of_ble_eq_true rfl) d_M_begin_47 (fun H locs hP hD hS => ?_)
        have hP : va_P (dC, dI) cls (wM Y cI cZ p0 q0 g0 h0 (up S 0 1 1)) H := by rw [← w_ms1]; exact hP
        have hD : va_D (w_A (wM Y cI cZ p0 q0 g0 h0 (S))) (wM Y cI cZ p0 q0 g0 h0 (up S 0 1 1)) := by rw [← w_ms1]; exact hD
        refine lv_iload hx hb d_M_begin_50 (lv_at hl 0 rfl) ?_
        refine lv_if_eq (tgt := 56) hx hb d_M_begin_52 (by decide) (fun c_ => absurd c_ (by decide)) (fun _ => ?_)
        exact wr_v hx hb hr hlk hP hS d_M_begin_55
      · refine lv_iload_n hx hb d_M_begin_16 rfl (lv_at hl 2 rfl) ?_
        refine lv_iload_n hx hb d_M_begin_17 rfl (lv_at hl 1 rfl) ?_
        refine lv_icmp_gt (tgt := 29) hx hb d_M_begin_18 (by decide) (fun c18 => ?_) (fun c18 => ?_)
        · refine lv_iconst (v := 1) hx hb d_M_begin_29 (by decide) ?_
          refine lv_goto (tgt := 34) hx hb d_M_begin_30 (by decide) ?_
          refine lv_istore (lv' := [(4, .int 1), (0, .ref (Y 0)), (1, .int n1), (2, .int t1), (3, .int b1)]) hx hb d_M_begin_34 hl (by decide) rfl (fun ls hl => ?_)
          refine lv_aload_n hx hb d_M_begin_36 rfl (lv_at hl 1 rfl) ?_
          refine lv_iload hx hb d_M_begin_37 (lv_at hl 0 rfl) ?_
          refine lv_if_eq (tgt := 46) hx hb d_M_begin_39 (by decide) (fun c_ => absurd c_ (by decide)) (fun _ => ?_)
          refine lv_iconst (v := 1) hx hb d_M_begin_42 (by decide) ?_
          refine lv_goto (tgt := 47) hx hb d_M_begin_43 (by decide) ?_
          refine va_put (D := (dC, dI)) (ci := 3) (v := .int 1) (ty := .int) (C := "DealtSecretModel") (T := T_M) (N := 24) hx hb hts i_M t_M t_M_ok n_M hown hK hP hD hS 0 rfl rfl 5 (by decide) (hts _ k_448) (fun _ h9 => h9) rfl (by decide +kernel) (rfl) (rfl) (Nat.le_of_ble_eq_true rfl) d_M_begin_47 (fun H locs hP hD hS => ?_)
          have hP : va_P (dC, dI) cls (wM Y cI cZ p0 q0 g0 h0 (up S 0 1 1)) H := by rw [← w_ms1]; exact hP
          have hD : va_D (w_A (wM Y cI cZ p0 q0 g0 h0 (S))) (wM Y cI cZ p0 q0 g0 h0 (up S 0 1 1)) := by rw [← w_ms1]; exact hD
          refine lv_iload hx hb d_M_begin_50 (lv_at hl 0 rfl) ?_
          refine lv_if_eq (tgt := 56) hx hb d_M_begin_52 (by decide) (fun c_ => absurd c_ (by decide)) (fun _ => ?_)
          exact wr_v hx hb hr hlk hP hS d_M_begin_55
        · refine lv_aload_n hx hb d_M_begin_21 rfl (lv_at hl 0 rfl) ?_
          refine va_get (D := (dC, dI)) (ci := 3) (v := .int (nI q0)) (C := "DealtSecretModel") (T := T_M) (N := 24) hx hb hts i_M hown hK hP 0 rfl rfl 1 (by decide) (hts _ k_444) (fun _ h9 => h9) rfl d_M_begin_22 ?_
          refine lv_iload_n hx hb d_M_begin_25 rfl (lv_at hl 1 rfl) ?_
          refine lv_icmp_gt (tgt := 33) hx hb d_M_begin_26 (by decide) (fun c_ => absurd c_ (fun q => hbad ⟨c2, c8, c13, c18, q⟩)) (fun _ => ?_)
          refine lv_iconst (v := 1) hx hb d_M_begin_29 (by decide) ?_
          refine lv_goto (tgt := 34) hx hb d_M_begin_30 (by decide) ?_
          refine lv_istore (lv' := [(4, .int 1), (0, .ref (Y 0)), (1, .int n1), (2, .int t1), (3, .int b1)]) hx hb d_M_begin_34 hl (by decide) rfl (fun ls hl => ?_)
          refine lv_aload_n hx hb d_M_begin_36 rfl (lv_at hl 1 rfl) ?_
          refine lv_iload hx hb d_M_begin_37 (lv_at hl 0 rfl) ?_
          refine lv_if_eq (tgt := 46) hx hb d_M_begin_39 (by decide) (fun c_ => absurd c_ (by decide)) (fun _ => ?_)
          refine lv_iconst (v := 1) hx hb d_M_begin_42 (by decide) ?_
          refine lv_goto (tgt := 47) hx hb d_M_begin_43 (by decide) ?_
          refine va_put (D := (dC, dI)) (ci := 3) (v := .int 1) (ty := .int) (C := "DealtSecretModel") (T := T_M) (N := 24) hx hb hts i_M t_M t_M_ok n_M hown hK hP hD hS 0 rfl rfl 5 (by decide) (hts _ k_448) (fun _ h9 => h9) rfl (by decide +kernel) (rfl) (rfl) (Nat.le_of_ble_eq_true rfl) d_M_begin_47 (fun H locs hP hD hS => ?_)
          have hP : va_P (dC, dI) cls (wM Y cI cZ p0 q0 g0 h0 (up S 0 1 1)) H := by rw [← w_ms1]; exact hP
          have hD : va_D (w_A (wM Y cI cZ p0 q0 g0 h0 (S))) (wM Y cI cZ p0 q0 g0 h0 (up S 0 1 1)) := by rw [← w_ms1]; exact hD
          refine lv_iload hx hb d_M_begin_50 (lv_at hl 0 rfl) ?_
          refine lv_if_eq (tgt := 56) hx hb d_M_begin_52 (by decide) (fun c_ => absurd c_ (by decide)) (fun _ => ?_)
          exact wr_v hx hb hr hlk hP hS d_M_begin_55
