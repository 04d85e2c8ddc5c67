/-- the reference's rows of differences in its state: the level k is done, the level k + 1 from j on -/
def atS (q : Nat) (S : Nat → Nat → Int32) (t k j : Nat) : Nat → Nat → Int32 := fun f i => if f = 13 then (if i < t then nI (dk q (fun m => nn (S 12 m)) (fun m => nn (S 13 m)) (if j ≤ i then k + 1 else k) i) else S 13 i) else S f i
theorem atS_ne (q : Nat) (S : Nat → Nat → Int32) (t k j : Nat) {f : Nat} (h : f ≠ 13) : atS q S t k j f = S f := by
  funext i
  simp [atS, h]
theorem atS_v (q : Nat) (S : Nat → Nat → Int32) {t k j i : Nat} (h : i < t) (hj : i < j) : atS q S t k j 13 i = nI (dk q (fun m => nn (S 12 m)) (fun m => nn (S 13 m)) k i) := by
  simp [atS, h, show ¬ j ≤ i by omega]
theorem atS_s (q : Nat) (S : Nat → Nat → Int32) {t k j : Nat} (h : j < t) : up (atS q S t k (j + 1)) 13 j (nI (dk q (fun m => nn (S 12 m)) (fun m => nn (S 13 m)) (k + 1) j)) = atS q S t k j := by
  funext f i
  unfold up atS
  by_cases a : f = 13
  · by_cases c : i = j
    · subst c
      simp [a, h]
    · simp only [a, c, if_true, if_false]
      by_cases d : j ≤ i
      · rw [if_pos (show j + 1 ≤ i by omega), if_pos d]
      · rw [if_neg (show ¬ j + 1 ≤ i by omega), if_neg d]
  · simp [a]
theorem atS_l (q : Nat) (S : Nat → Nat → Int32) (t k : Nat) : atS q S t k (k + 1) = atS q S t (k + 1) t := by
  funext f i
  unfold atS
  by_cases a : f = 13
  · simp only [a, if_true]
    by_cases b : i < t
    · rw [if_pos b, if_pos b, if_neg (show ¬ t ≤ i by omega)]
      by_cases d : k + 1 ≤ i
      · rw [if_pos d]
      · rw [if_neg d, dk_0 (by omega)]
    · rw [if_neg b, if_neg b]
  · simp [a]
theorem atS_0 (q : Nat) (S : Nat → Nat → Int32) (t : Nat) (h : ∀ j, j < t → okN (S 13 j) q) : atS q S t 0 t = S := by
  funext f i
  unfold atS
  by_cases a : f = 13
  · simp only [a, if_true]
    by_cases b : i < t
    · rw [if_pos b, if_neg (show ¬ t ≤ i by omega)]
      exact (h i b).eq.symm
    · rw [if_neg b]
  · simp [a]
/-- the reference chooses its places -/
def selM (S : Nat → Nat → Int32) : Nat → Nat → Nat → Int32
  | 0 => S
  | j + 1 => if S 9 (j + 1) = 0 then selM S j else up (up (selM S j) 12 (mz_ct (fun i => S 9 (i + 1)) j) (nI (j + 1))) 13 (mz_ct (fun i => S 9 (i + 1)) j) (S 10 (j + 1))
theorem selM_0 {S : Nat → Nat → Int32} {j : Nat} (h : S 9 (j + 1) = 0) : selM S (j + 1) = selM S j := if_pos h
theorem selM_1 {S : Nat → Nat → Int32} {j : Nat} (h : ¬ S 9 (j + 1) = 0) : selM S (j + 1) = up (up (selM S j) 12 (mz_ct (fun i => S 9 (i + 1)) j) (nI (j + 1))) 13 (mz_ct (fun i => S 9 (i + 1)) j) (S 10 (j + 1)) := if_neg h
theorem selM_ne (S : Nat → Nat → Int32) {f : Nat} (h1 : f ≠ 12) (h2 : f ≠ 13) : ∀ j, selM S j f = S f
  | 0 => rfl
  | j + 1 => by
    by_cases c : S 9 (j + 1) = 0
    · rw [selM_0 c]; exact selM_ne S h1 h2 j
    · rw [selM_1 c, up_ne _ _ _ h2, up_ne _ _ _ h1, selM_ne S h1 h2 j]
theorem selM_at (S : Nat → Nat → Int32) : ∀ j i, i < j → ¬ S 9 (i + 1) = 0 → selM S j 12 (mz_ct (fun i => S 9 (i + 1)) i) = nI (i + 1) ∧ selM S j 13 (mz_ct (fun i => S 9 (i + 1)) i) = S 10 (i + 1)
  | 0, i, h, _ => absurd h (Nat.not_lt_zero i)
  | j + 1, i, h, hk => by
    by_cases c : S 9 (j + 1) = 0
    · rw [selM_0 c]
      have hne : i ≠ j := fun z => hk (by rw [z]; exact c)
      exact selM_at S j i (by omega) hk
    · rw [selM_1 c]
      rcases (show i < j ∨ i = j by omega) with z | z
      · have hl := mz_ct_lt (f := fun i => S 9 (i + 1)) hk z
        have ih := selM_at S j i z hk
        rw [up_ne _ _ _ (show (12 : Nat) ≠ 13 by decide), up_nk _ _ _ (by omega), up_nk _ _ _ (by omega), up_ne _ _ _ (show (13 : Nat) ≠ 12 by decide)]
        exact ih
      · subst z
        rw [up_ne _ _ _ (show (12 : Nat) ≠ 13 by decide), up_at, up_at]
        exact ⟨rfl, rfl⟩
theorem mz_ct_ex {f : Nat → Int32} : ∀ k m, m < mz_ct f k → ∃ j, j < k ∧ ¬ f j = 0 ∧ mz_ct f j = m
  | 0, m, hm => absurd hm (Nat.not_lt_zero m)
  | k + 1, m, hm => by
    by_cases c : f k = 0
    · rw [mz_ct_0 c] at hm
      obtain ⟨j, a, b, d⟩ := mz_ct_ex k m hm
      exact ⟨j, by omega, b, d⟩
    · rw [mz_ct_1 c] at hm
      rcases (show m < mz_ct f k ∨ m = mz_ct f k by omega) with z | z
      · obtain ⟨j, a, b, d⟩ := mz_ct_ex k m z
        exact ⟨j, by omega, b, d⟩
      · exact ⟨k, by omega, c, z.symm⟩
/-- a search for the chosen ones ends somewhere; if there are enough, it ends with t of them -/
theorem lastC_ex (f : Nat → Int32) (t : Nat) : ∀ n, ∃ L, lastC f t n L
  | 0 => ⟨0, Nat.le_refl 0, fun i h => absurd h (Nat.not_lt_zero i), Or.inl rfl⟩
  | n + 1 => by
    obtain ⟨L, h1, h2, h3⟩ := lastC_ex f t n
    rcases h3 with h3 | h3
    · subst h3
      rcases Nat.lt_or_ge (mz_ct f L) t with c | c
      · refine ⟨L + 1, Nat.le_refl _, fun i hi => ?_, Or.inl rfl⟩
        rcases (show i < L ∨ i = L by omega) with z | z
        · exact h2 i z
        · rw [z]; exact c
      · exact ⟨L, by omega, h2, Or.inr c⟩
    · exact ⟨L, by omega, h2, Or.inr h3⟩
theorem lastC_t {f : Nat → Int32} {t n L : Nat} (h : lastC f t n L) (hc : t ≤ mz_ct f n) : mz_ct f L = t := by
  obtain ⟨h1, h2, h3⟩ := h
  have h4 : t ≤ mz_ct f L := h3.elim (fun z => by rw [z]; exact hc) id
  cases L with
  | zero => have e : mz_ct f 0 = 0 := rfl; omega
  | succ L =>
    have h5 := h2 L (by omega)
    by_cases c : f L = 0
    · rw [mz_ct_0 c] at h4 ⊢; omega
    · rw [mz_ct_1 c] at h4 ⊢; omega
theorem lastC_le {f : Nat → Int32} {t n L : Nat} (h : lastC f t n L) : mz_ct f L ≤ t := by
  obtain ⟨h1, h2, h3⟩ := h
  cases L with
  | zero => exact Nat.zero_le _
  | succ L =>
    have h5 := h2 L (by omega)
    by_cases c : f L = 0
    · rw [mz_ct_0 c]; omega
    · rw [mz_ct_1 c]; omega
set_option maxRecDepth 100000 in
set_option maxHeartbeats 4000000 in
/-- atZero() -/
theorem c_M_atZero (l : Launch) (dC : Nat → ClassId) (dI : Nat → Nat → Nat) (Y : Nat → Nat) (cI cZ : ClassId) (p0 q0 g0 h0 : Nat) (S : Nat → Nat → Int32) (t0 : Nat) (ht : S 0 3 = nI t0) (ht1 : 1 ≤ t0) (ht7 : t0 ≤ 7) (ok : okG p0 q0 g0 h0) (hX : ∀ j, j < t0 → okN (S 12 j) 8) (hY : ∀ j, j < t0 → okN (S 13 j) q0) : Wr l y_M_atZero ws_M_atZero 3 69 [.ref (Y 0)] (dC, dI) cls (tysM cI cZ) (wM Y cI cZ p0 q0 g0 h0 (S)) (wM Y cI cZ p0 q0 g0 h0 (atS q0 S t0 (t0 - 1) t0)) (some (.int (nI (hz q0 (fun m => nn (S 12 m)) (dk q0 (fun m => nn (S 12 m)) (fun m => nn (S 13 m)) (t0 - 1)) 0 t0)))) := by
  refine Met.ofW (cc := b_M_atZero) (maxL := 4) (ret := (some .int)) (by decide) rfl ?_
  intro p e s m args below meth c s₁ B hml hv
  obtain ⟨rfl, hP, hK, hD0⟩ := hv
  have hx := B.exec
  have hb := B.bytes
  have hr := B.returns
  have hts : ∀ w ∈ AL, w.before ([.ref (Y 0)] : List Value).toArray s = true := fun w h => atoms_spec (ws := ws_M_atZero) B.pre w (List.mem_cons_of_mem _ h)
  have hown : s.vm.findClass "DealtSecretModel" = some m.cls := findClass_of_methodNamed B.named
  have hlk := B.notSynchronized
  have hl := lv_entry ([.ref (Y 0)]) (n := 4) (Nat.le_of_ble_eq_true rfl)
  rw [lg_entry_eq]
  generalize (lg_sl ([.ref (Y 0)]) ++ List.replicate (4 - (lg_sl ([.ref (Y 0)])).length) Slot.unset).toArray = ls at hl ⊢
  have hl : lv_has ls 4 [(0, .ref (Y 0))] := hl
  have hD := w_self hD0
  have hS : va_S (w_A (wM Y cI cZ p0 q0 g0 h0 (S))) s.heap s.heap [] := va_S.rf
  obtain ⟨okp2, okp, okq2, okq, okg, okh⟩ := id ok
  have hdk := dk_lt (show 0 < q0 by omega) (x := (fun m => nn (S 12 m))) (y := (fun m => nn (S 13 m))) (fun j hj => (hY j hj).lt)
  have loop3 : ∀ (kk v : Nat) (H : Heap) (locs : List Loc) (ls : Array Slot), kk ≤ t0 → v = hz q0 (fun m => nn (S 12 m)) (dk q0 (fun m => nn (S 12 m)) (fun m => nn (S 13 m)) (t0 - 1)) kk (t0 - kk) → va_P (dC, dI) cls (wM Y cI cZ p0 q0 g0 h0 (atS q0 S t0 (t0 - 1) t0)) H → va_D (w_A (wM Y cI cZ p0 q0 g0 h0 (S))) (wM Y cI cZ p0 q0 g0 h0 (atS q0 S t0 (t0 - 1) t0)) → va_S (w_A (wM Y cI cZ p0 q0 g0 h0 (S))) s.heap H locs → lv_has ls 4 [(0, .ref (Y 0)), (1, .int (nI v)), (2, .int (nI kk - 1))] → W p l e (headSpec ws_M_atZero { frames := 3, cells := 0, slots := 0, locals := 69 }).room s m [.ref (Y 0)].toArray below meth c H locs 0 0 (MQ below (fun _ st o t => o = .returned (some (.int (nI (hz q0 (fun m => nn (S 12 m)) (dk q0 (fun m => nn (S 12 m)) (fun m => nn (S 13 m)) (t0 - 1)) 0 t0)))) ∧ va_P (dC, dI) cls (wM Y cI cZ p0 q0 g0 h0 (atS q0 S t0 (t0 - 1) t0)) t.heap ∧ va_F (w_A (wM Y cI cZ p0 q0 g0 h0 (S))) st t) [.ref (Y 0)].toArray s 0 0 (w_A (wM Y cI cZ p0 q0 g0 h0 (S)))) (F0 m 90 ls []) := by
    intro kk
    induction kk with
    | zero =>
      intro v H locs ls _ hv0 hP hD hS hl
      subst hv0
      refine lv_iload_n hx hb d_M_atZero_90 rfl (lv_at hl 2 rfl) ?_
      refine lv_if_lt (tgt := 138) hx hb d_M_atZero_91 (by decide) (fun _ => ?_) (fun c_ => absurd (by decide) c_)
      refine lv_iload_n hx hb d_M_atZero_138 rfl (lv_at hl 1 rfl) ?_
      exact wr_i hx hb hr hlk hP hS d_M_atZero_139
    | succ k ih =>
      intro v H locs ls hk hv0 hP hD hS hl
      have hvq : v < q0 := by rw [hv0]; exact hz_lt (by omega) _ _ _ _
      have hd := hdk (t0 - 1) k (by omega)
      have hmx := md_lt (-(nI (nn (S 12 k)))) (show 0 < q0 by omega)
      have hvm : v * md (-(nI (nn (S 12 k)))) q0 % q0 < q0 := Nat.mod_lt _ (by omega)
      have hl : lv_has ls 4 [(0, .ref (Y 0)), (1, .int (nI v)), (2, .int (nI k))] := by rw [nI_pred] at hl; exact hl
      refine lv_iload_n hx hb d_M_atZero_90 rfl (lv_at hl 2 rfl) ?_
      refine lv_if_lt (tgt := 138) hx hb d_M_atZero_91 (by decide) (fun c_ => absurd c_ (nI_pos (by omega))) (fun _ => ?_)
      refine lv_iload_n hx hb d_M_atZero_94 rfl (lv_at hl 1 rfl) ?_
      refine lv_aload_n hx hb d_M_atZero_95 rfl (lv_at hl 0 rfl) ?_
      refine lv_aload_n hx hb d_M_atZero_96 rfl (lv_at hl 0 rfl) ?_
      refine va_get (D := (dC, dI)) (ci := 3) (v := .ref (Y 12)) (C := "DealtSecretModel") (T := T_M) (N := 24) hx hb hts i_M hown hK hP 0 rfl rfl 22 (by decide) (hts _ k_465) (fun _ h9 => h9) rfl d_M_atZero_97 ?_
      refine lv_iload_n hx hb d_M_atZero_100 rfl (lv_at hl 2 rfl) ?_
      refine va_iald hx hb hK hP 12 0 rfl rfl (vp_in_nI (by omega) (by decide)) d_M_atZero_101 ?_
      refine x_i (y := (atS q0 S t0 (t0 - 1) t0) 12 k) (by rw [nI_clamp (by omega)]) ?_
      refine x_i (y := nI (nn (S 12 k))) (by rw [atS_ne q0 S _ _ _ (by decide)]; exact (hX k (by omega)).eq) ?_
      refine lv_ineg hx hb d_M_atZero_102 ?_
      refine x_i (y := -(nI (nn (S 12 k)))) (rfl) ?_
      refine ro_V (As := [.int (-(nI (nn (S 12 k))))]) (rest := [.int (nI v)]) (b := (Y 0)) ⟨hx, hb, hml, hown, hts⟩ (c_M_reduced l dC dI Y cI cZ p0 q0 g0 h0 (atS q0 S t0 (t0 - 1) t0) (-(nI (nn (S 12 k)))) ok) (cwV 1 hts (al_V k_535 k_536 k_650 k_4 k_537) rfl rfl rfl (by decide +kernel) ⟨Nat.le_of_ble_eq_true rfl, Nat.le_of_ble_eq_true rfl⟩) (fun U g mk a h => ⟨h.1, va_K.moved (u := U) (U := U.calling g mk a) (Vm.Alike.refl U.vm) h.2⟩) (va_recv hK hP (ci := 3) (q0 := 0) rfl rfl) (fun U hU hW => ⟨by rw [hU]; exact hP, va_K.moved hW.alike hK⟩) rfl hl.1 rfl (lv_room (Nat.le_of_ble_eq_true rfl)) d_M_atZero_103 ⟨Nat.zero_le _, Nat.zero_le _⟩ ?_
      refine lv_aload_n hx hb d_M_atZero_106 rfl (lv_at hl 0 rfl) ?_
      refine va_get (D := (dC, dI)) (ci := 3) (v := .int (nI q0)) (C := "DealtSecretModel") (T := T_M) (N := 24) hx hb hts i_M hown hK hP 0 rfl rfl 1 (by decide) (hts _ k_444) (fun _ h9 => h9) rfl d_M_atZero_107 ?_
      refine ro_S (As := [.int (nI v), .int (nI (md (-(nI (nn (S 12 k)))) q0)), .int (nI q0)]) (rest := []) ⟨hx, hb, hml, hown, hts⟩ (c_M_times l v (md (-(nI (nn (S 12 k)))) q0) q0 (by omega) (by omega) (by omega) (by omega)) (va_cwS 3 hts (al_S k_440 k_441 k_4 k_442) rfl rfl rfl (by decide +kernel) ⟨Nat.le_of_ble_eq_true rfl, Nat.le_of_ble_eq_true rfl⟩) (fun _ _ _ _ h => h) (fun _ _ _ => trivial) rfl hl.1 rfl (lv_room (Nat.le_of_ble_eq_true rfl)) d_M_atZero_110 ⟨Nat.zero_le _, Nat.zero_le _⟩ ?_
      refine lv_istore_n (lv' := [(3, .int (nI (v * (md (-(nI (nn (S 12 k)))) q0) % q0))), (0, .ref (Y 0)), (1, .int (nI v)), (2, .int (nI k))]) hx hb d_M_atZero_113 rfl hl (by decide) rfl (fun ls hl => ?_)
      refine lv_iload_n hx hb d_M_atZero_114 rfl (lv_at hl 0 rfl) ?_
      refine lv_i2l (v := (lN (v * md (-(nI (nn (S 12 k)))) q0 % q0))) hx hb d_M_atZero_115 (nI_l (by omega)) ?_
      refine lv_aload_n hx hb d_M_atZero_116 rfl (lv_at hl 1 rfl) ?_
      refine va_get (D := (dC, dI)) (ci := 3) (v := .ref (Y 13)) (C := "DealtSecretModel") (T := T_M) (N := 24) hx hb hts i_M hown hK hP 0 rfl rfl 23 (by decide) (hts _ k_466) (fun _ h9 => h9) rfl d_M_atZero_117 ?_
      refine lv_iload_n hx hb d_M_atZero_120 rfl (lv_at hl 3 rfl) ?_
      refine va_iald hx hb hK hP 13 0 rfl rfl (vp_in_nI (by omega) (by decide)) d_M_atZero_121 ?_
      refine x_i (y := (atS q0 S t0 (t0 - 1) t0) 13 k) (by rw [nI_clamp (by omega)]) ?_
      refine x_i (y := nI (dk q0 (fun m => nn (S 12 m)) (fun m => nn (S 13 m)) (t0 - 1) k)) (atS_v q0 S (by omega) (by omega)) ?_
      refine lv_i2l (v := (lN (dk q0 (fun m => nn (S 12 m)) (fun m => nn (S 13 m)) (t0 - 1) k))) hx hb d_M_atZero_122 (nI_l (by omega)) ?_
      refine lv_ladd hx hb d_M_atZero_123 ?_
      refine x_l (y := lN (v * md (-(nI (nn (S 12 k)))) q0 % q0 + dk q0 (fun m => nn (S 12 m)) (fun m => nn (S 13 m)) (t0 - 1) k)) (lN_add _ _) ?_
      refine lv_aload_n hx hb d_M_atZero_124 rfl (lv_at hl 1 rfl) ?_
      refine va_get (D := (dC, dI)) (ci := 3) (v := .int (nI q0)) (C := "DealtSecretModel") (T := T_M) (N := 24) hx hb hts i_M hown hK hP 0 rfl rfl 1 (by decide) (hts _ k_444) (fun _ h9 => h9) rfl d_M_atZero_125 ?_
      refine lv_i2l (v := (lN q0)) hx hb d_M_atZero_128 (nI_l okq) ?_
      refine lv_lrem hx hb d_M_atZero_129 (nz_lne (by omega) okq) ?_
      refine x_l (y := lN ((v * md (-(nI (nn (S 12 k)))) q0 % q0 + dk q0 (fun m => nn (S 12 m)) (fun m => nn (S 13 m)) (t0 - 1) k) % q0)) (nz_lrem (by omega) (by omega) okq) ?_
      refine lv_l2i (v := (nI ((v * md (-(nI (nn (S 12 k)))) q0 % q0 + dk q0 (fun m => nn (S 12 m)) (fun m => nn (S 13 m)) (t0 - 1) k) % q0))) hx hb d_M_atZero_130 (lN_i _) ?_
      refine lv_istore_n (lv' := [(1, .int (nI ((v * md (-(nI (nn (S 12 k)))) q0 % q0 + dk q0 (fun m => nn (S 12 m)) (fun m => nn (S 13 m)) (t0 - 1) k) % q0))), (3, .int (nI (v * (md (-(nI (nn (S 12 k)))) q0) % q0))), (0, .ref (Y 0)), (2, .int (nI k))]) hx hb d_M_atZero_131 rfl hl (by decide) rfl (fun ls hl => ?_)
      refine lv_iinc (v := (nI k - 1)) (lv' := [(2, .int (nI k - 1)), (1, .int (nI ((v * md (-(nI (nn (S 12 k)))) q0 % q0 + dk q0 (fun m => nn (S 12 m)) (fun m => nn (S 13 m)) (t0 - 1) k) % q0))), (3, .int (nI (v * (md (-(nI (nn (S 12 k)))) q0) % q0))), (0, .ref (Y 0))]) hx hb d_M_atZero_132 hl (k := 3) rfl (nz_dec k) (by decide) rfl (fun ls hl => ?_)
      refine lv_goto (tgt := 90) hx hb d_M_atZero_135 (by decide) ?_
      exact ih _ H locs ls (by omega) (by rw [hv0, show t0 - k = t0 - (k + 1) + 1 by omega]; rfl) hP hD hS (lv_sub hl [3, 1, 0] rfl)
  have inner : ∀ (k : Nat), (∀ (H : Heap) (locs : List Loc) (ls : Array Slot), va_P (dC, dI) cls (wM Y cI cZ p0 q0 g0 h0 (atS q0 S t0 (k + 1) t0)) H → va_D (w_A (wM Y cI cZ p0 q0 g0 h0 (S))) (wM Y cI cZ p0 q0 g0 h0 (atS q0 S t0 (k + 1) t0)) → va_S (w_A (wM Y cI cZ p0 q0 g0 h0 (S))) s.heap H locs → lv_has ls 4 [(0, .ref (Y 0)), (1, .int (nI (k + 1 + 1)))] → W p l e (headSpec ws_M_atZero { frames := 3, cells := 0, slots := 0, locals := 69 }).room s m [.ref (Y 0)].toArray below meth c H locs 0 0 (MQ below (fun _ st o t => o = .returned (some (.int (nI (hz q0 (fun m => nn (S 12 m)) (dk q0 (fun m => nn (S 12 m)) (fun m => nn (S 13 m)) (t0 - 1)) 0 t0)))) ∧ va_P (dC, dI) cls (wM Y cI cZ p0 q0 g0 h0 (atS q0 S t0 (t0 - 1) t0)) t.heap ∧ va_F (w_A (wM Y cI cZ p0 q0 g0 h0 (S))) st t) [.ref (Y 0)].toArray s 0 0 (w_A (wM Y cI cZ p0 q0 g0 h0 (S)))) (F0 m 2 ls [])) → ∀ (n j : Nat) (H : Heap) (locs : List Loc) (ls : Array Slot), j + 1 ≤ n + k → k ≤ j → j < t0 → va_P (dC, dI) cls (wM Y cI cZ p0 q0 g0 h0 (atS q0 S t0 k (j + 1))) H → va_D (w_A (wM Y cI cZ p0 q0 g0 h0 (S))) (wM Y cI cZ p0 q0 g0 h0 (atS q0 S t0 k (j + 1))) → va_S (w_A (wM Y cI cZ p0 q0 g0 h0 (S))) s.heap H locs → lv_has ls 4 [(0, .ref (Y 0)), (1, .int (nI (k + 1))), (2, .int (nI j))] → W p l e (headSpec ws_M_atZero { frames := 3, cells := 0, slots := 0, locals := 69 }).room s m [.ref (Y 0)].toArray below meth c H locs 0 0 (MQ below (fun _ st o t => o = .returned (some (.int (nI (hz q0 (fun m => nn (S 12 m)) (dk q0 (fun m => nn (S 12 m)) (fun m => nn (S 13 m)) (t0 - 1)) 0 t0)))) ∧ va_P (dC, dI) cls (wM Y cI cZ p0 q0 g0 h0 (atS q0 S t0 (t0 - 1) t0)) t.heap ∧ va_F (w_A (wM Y cI cZ p0 q0 g0 h0 (S))) st t) [.ref (Y 0)].toArray s 0 0 (w_A (wM Y cI cZ p0 q0 g0 h0 (S)))) (F0 m 17 ls []) := by
    intro k K2 n
    induction n with
    | zero =>
      intro j H locs ls h1 h2
      omega
    | succ n ih =>
      intro j H locs ls h1 h2 h3 hP hD hS hl
      have hd1 := hdk k j h3
      have hd2 := hdk k (j - 1) (by omega)
      have hm1 := md_lt (nI (dk q0 (fun m => nn (S 12 m)) (fun m => nn (S 13 m)) k j) - nI (dk q0 (fun m => nn (S 12 m)) (fun m => nn (S 13 m)) k (j - 1))) (show 0 < q0 by omega)
      have hm2 := md_lt (nI (nn (S 12 j)) - nI (nn (S 12 (j - (k + 1))))) (show 0 < q0 by omega)
      refine lv_iload_n hx hb d_M_atZero_17 rfl (lv_at hl 2 rfl) ?_
      refine lv_iload_n hx hb d_M_atZero_18 rfl (lv_at hl 1 rfl) ?_
      refine lv_icmp_lt (tgt := 75) hx hb d_M_atZero_19 (by decide) (fun c19 => ?_) (fun c19 => ?_)
      · have hk : j = k := by
          have h5 : j < k + 1 := (nI_ltI (by omega) (by omega)).mp c19
          omega
        rw [hk, atS_l] at hP hD
        refine lv_iinc (v := (nI (k + 1 + 1))) (lv' := [(1, .int (nI (k + 1 + 1))), (0, .ref (Y 0)), (2, .int (nI j))]) hx hb d_M_atZero_75 hl (k := 1) rfl (nI_1 (k + 1)) (by decide) rfl (fun ls hl => ?_)
        refine lv_goto (tgt := 2) hx hb d_M_atZero_78 (by decide) ?_
        exact K2 H locs ls hP hD hS (lv_sub hl [1, 0] rfl)
      · have hk : k < j := by
          rcases Nat.lt_or_ge k j with q | q
          · exact q
          · exact absurd (nI_lt (show j < k + 1 by omega) (by omega)) c19
        refine lv_aload_n hx hb d_M_atZero_22 rfl (lv_at hl 0 rfl) ?_
        refine va_get (D := (dC, dI)) (ci := 3) (v := .ref (Y 13)) (C := "DealtSecretModel") (T := T_M) (N := 24) hx hb hts i_M hown hK hP 0 rfl rfl 23 (by decide) (hts _ k_466) (fun _ h9 => h9) rfl d_M_atZero_23 ?_
        refine lv_iload_n hx hb d_M_atZero_26 rfl (lv_at hl 2 rfl) ?_
        refine lv_aload_n hx hb d_M_atZero_27 rfl (lv_at hl 0 rfl) ?_
        refine lv_aload_n hx hb d_M_atZero_28 rfl (lv_at hl 0 rfl) ?_
        refine lv_aload_n hx hb d_M_atZero_29 rfl (lv_at hl 0 rfl) ?_
        refine va_get (D := (dC, dI)) (ci := 3) (v := .ref (Y 13)) (C := "DealtSecretModel") (T := T_M) (N := 24) hx hb hts i_M hown hK hP 0 rfl rfl 23 (by decide) (hts _ k_466) (fun _ h9 => h9) rfl d_M_atZero_30 ?_
        refine lv_iload_n hx hb d_M_atZero_33 rfl (lv_at hl 2 rfl) ?_
        refine va_iald hx hb hK hP 13 0 rfl rfl (vp_in_nI (by omega) (by decide)) d_M_atZero_34 ?_
        refine x_i (y := (atS q0 S t0 k (j + 1)) 13 j) (by rw [nI_clamp (by omega)]) ?_
        refine x_i (y := nI (dk q0 (fun m => nn (S 12 m)) (fun m => nn (S 13 m)) k j)) (atS_v q0 S (by omega) (by omega)) ?_
        refine lv_aload_n hx hb d_M_atZero_35 rfl (lv_at hl 0 rfl) ?_
        refine va_get (D := (dC, dI)) (ci := 3) (v := .ref (Y 13)) (C := "DealtSecretModel") (T := T_M) (N := 24) hx hb hts i_M hown hK hP 0 rfl rfl 23 (by decide) (hts _ k_466) (fun _ h9 => h9) rfl d_M_atZero_36 ?_
        refine lv_iload_n hx hb d_M_atZero_39 rfl (lv_at hl 2 rfl) ?_
        refine lv_iconst (v := 1) hx hb d_M_atZero_40 (by decide) ?_
        refine lv_isub hx hb d_M_atZero_41 ?_
        refine x_i (y := nI (j - 1)) ((congrArg (fun z => nI z - 1) (show j = (j - 1) + 1 by omega)).trans (nI_pred (j - 1))) ?_
        refine va_iald hx hb hK hP 13 0 rfl rfl (vp_in_nI (by omega) (by decide)) d_M_atZero_42 ?_
        refine x_i (y := (atS q0 S t0 k (j + 1)) 13 (j - 1)) (by rw [nI_clamp (by omega)]) ?_
        refine x_i (y := nI (dk q0 (fun m => nn (S 12 m)) (fun m => nn (S 13 m)) k (j - 1))) (atS_v q0 S (by omega) (by omega)) ?_
        refine ro_V (As := [.int (nI (dk q0 (fun m => nn (S 12 m)) (fun m => nn (S 13 m)) k j)), .int (nI (dk q0 (fun m => nn (S 12 m)) (fun m => nn (S 13 m)) k (j - 1)))]) (rest := [.ref (Y 0), .int (nI j), .ref (Y 13)]) (b := (Y 0)) ⟨hx, hb, hml, hown, hts⟩ (c_M_minus l dC dI Y cI cZ p0 q0 g0 h0 (atS q0 S t0 k (j + 1)) (dk q0 (fun m => nn (S 12 m)) (fun m => nn (S 13 m)) k j) (dk q0 (fun m => nn (S 12 m)) (fun m => nn (S 13 m)) k (j - 1)) ok (by omega) (by omega)) (cwV 2 hts (al_V k_584 k_585 k_657 k_4 k_586) rfl rfl rfl (by decide +kernel) ⟨Nat.le_of_ble_eq_true rfl, Nat.le_of_ble_eq_true rfl⟩) (fun U g mk a h => ⟨h.1, va_K.moved (u := U) (U := U.calling g mk a) (Vm.Alike.refl U.vm) h.2⟩) (va_recv hK hP (ci := 3) (q0 := 0) rfl rfl) (fun U hU hW => ⟨by rw [hU]; exact hP, va_K.moved hW.alike hK⟩) rfl hl.1 rfl (lv_room (Nat.le_of_ble_eq_true rfl)) d_M_atZero_43 ⟨Nat.zero_le _, Nat.zero_le _⟩ ?_
        refine lv_aload_n hx hb d_M_atZero_46 rfl (lv_at hl 0 rfl) ?_
        refine lv_aload_n hx hb d_M_atZero_47 rfl (lv_at hl 0 rfl) ?_
        refine va_get (D := (dC, dI)) (ci := 3) (v := .ref (Y 12)) (C := "DealtSecretModel") (T := T_M) (N := 24) hx hb hts i_M hown hK hP 0 rfl rfl 22 (by decide) (hts _ k_465) (fun _ h9 => h9) rfl d_M_atZero_48 ?_
        refine lv_iload_n hx hb d_M_atZero_51 rfl (lv_at hl 2 rfl) ?_
        refine va_iald hx hb hK hP 12 0 rfl rfl (vp_in_nI (by omega) (by decide)) d_M_atZero_52 ?_
        refine x_i (y := (atS q0 S t0 k (j + 1)) 12 j) (by rw [nI_clamp (by omega)]) ?_
        refine x_i (y := nI (nn (S 12 j))) (by rw [atS_ne q0 S _ _ _ (by decide)]; exact (hX j h3).eq) ?_
        refine lv_aload_n hx hb d_M_atZero_53 rfl (lv_at hl 0 rfl) ?_
        refine va_get (D := (dC, dI)) (ci := 3) (v := .ref (Y 12)) (C := "DealtSecretModel") (T := T_M) (N := 24) hx hb hts i_M hown hK hP 0 rfl rfl 22 (by decide) (hts _ k_465) (fun _ h9 => h9) rfl d_M_atZero_54 ?_
        refine lv_iload_n hx hb d_M_atZero_57 rfl (lv_at hl 2 rfl) ?_
        refine lv_iload_n hx hb d_M_atZero_58 rfl (lv_at hl 1 rfl) ?_
        refine lv_isub hx hb d_M_atZero_59 ?_
        refine x_i (y := nI (j - (k + 1))) (pk_sub (by omega)) ?_
        refine va_iald hx hb hK hP 12 0 rfl rfl (vp_in_nI (by omega) (by decide)) d_M_atZero_60 ?_
        refine x_i (y := (atS q0 S t0 k (j + 1)) 12 (j - (k + 1))) (by rw [nI_clamp (by omega)]) ?_
        refine x_i (y := nI (nn (S 12 (j - (k + 1))))) (by rw [atS_ne q0 S _ _ _ (by decide)]; exact (hX _ (by omega)).eq) ?_
        refine lv_isub hx hb d_M_atZero_61 ?_
        refine ro_V (As := [.int ((nI (nn (S 12 j))) - (nI (nn (S 12 (j - (k + 1))))))]) (rest := [.int (nI (md (nI (dk q0 (fun m => nn (S 12 m)) (fun m => nn (S 13 m)) k j) - nI (dk q0 (fun m => nn (S 12 m)) (fun m => nn (S 13 m)) k (j - 1))) q0)), .ref (Y 0), .int (nI j), .ref (Y 13)]) (b := (Y 0)) ⟨hx, hb, hml, hown, hts⟩ (c_M_reduced l dC dI Y cI cZ p0 q0 g0 h0 (atS q0 S t0 k (j + 1)) ((nI (nn (S 12 j))) - (nI (nn (S 12 (j - (k + 1)))))) ok) (cwV 1 hts (al_V k_535 k_536 k_650 k_4 k_537) rfl rfl rfl (by decide +kernel) ⟨Nat.le_of_ble_eq_true rfl, Nat.le_of_ble_eq_true rfl⟩) (fun U g mk a h => ⟨h.1, va_K.moved (u := U) (U := U.calling g mk a) (Vm.Alike.refl U.vm) h.2⟩) (va_recv hK hP (ci := 3) (q0 := 0) rfl rfl) (fun U hU hW => ⟨by rw [hU]; exact hP, va_K.moved hW.alike hK⟩) rfl hl.1 rfl (lv_room (Nat.le_of_ble_eq_true rfl)) d_M_atZero_62 ⟨Nat.zero_le _, Nat.zero_le _⟩ ?_
        refine ro_V (As := [.int (nI (md (nI (dk q0 (fun m => nn (S 12 m)) (fun m => nn (S 13 m)) k j) - nI (dk q0 (fun m => nn (S 12 m)) (fun m => nn (S 13 m)) k (j - 1))) q0)), .int (nI (md (nI (nn (S 12 j)) - nI (nn (S 12 (j - (k + 1))))) q0))]) (rest := [.int (nI j), .ref (Y 13)]) (b := (Y 0)) ⟨hx, hb, hml, hown, hts⟩ (c_M_over l dC dI Y cI cZ p0 q0 g0 h0 (atS q0 S t0 k (j + 1)) (md (nI (dk q0 (fun m => nn (S 12 m)) (fun m => nn (S 13 m)) k j) - nI (dk q0 (fun m => nn (S 12 m)) (fun m => nn (S 13 m)) k (j - 1))) q0) (md (nI (nn (S 12 j)) - nI (nn (S 12 (j - (k + 1))))) q0) ok (by omega) (by omega)) (cwV 2 hts (al_V k_587 k_588 k_658 k_4 k_589) rfl rfl rfl (by decide +kernel) ⟨Nat.le_of_ble_eq_true rfl, Nat.le_of_ble_eq_true rfl⟩) (fun U g mk a h => ⟨h.1, va_K.moved (u := U) (U := U.calling g mk a) (Vm.Alike.refl U.vm) h.2⟩) (va_recv hK hP (ci := 3) (q0 := 0) rfl rfl) (fun U hU hW => ⟨by rw [hU]; exact hP, va_K.moved hW.alike hK⟩) rfl hl.1 rfl (lv_room (Nat.le_of_ble_eq_true rfl)) d_M_atZero_65 ⟨Nat.zero_le _, Nat.zero_le _⟩ ?_
        refine x_i (y := nI (dk q0 (fun m => nn (S 12 m)) (fun m => nn (S 13 m)) (k + 1) j)) (by rw [dk_1 (by omega)]) ?_
        refine va_iast hx hb hK hP hD hS 13 0 rfl rfl (vp_in_nI (by omega) (by decide)) d_M_atZero_68 (fun H locs hP hD hS => ?_)
        rw [nI_clamp (by omega)] at hP hD
        have hP : va_P (dC, dI) cls (wM Y cI cZ p0 q0 g0 h0 (up (atS q0 S t0 k (j + 1)) 13 j (nI (dk q0 (fun m => nn (S 12 m)) (fun m => nn (S 13 m)) (k + 1) j)))) H := by rw [← w_ma13]; exact hP
        have hD : va_D (w_A (wM Y cI cZ p0 q0 g0 h0 (S))) (wM Y cI cZ p0 q0 g0 h0 (up (atS q0 S t0 k (j + 1)) 13 j (nI (dk q0 (fun m => nn (S 12 m)) (fun m => nn (S 13 m)) (k + 1) j)))) := by rw [← w_ma13]; exact hD
        refine lv_iinc (v := (nI (j - 1))) (lv' := [(2, .int (nI (j - 1))), (0, .ref (Y 0)), (1, .int (nI (k + 1)))]) hx hb d_M_atZero_69 hl (k := 2) rfl ((nz_dec j).trans ((congrArg (fun z => nI z - 1) (show j = (j - 1) + 1 by omega)).trans (nI_pred (j - 1)))) (by decide) rfl (fun ls hl => ?_)
        refine lv_goto (tgt := 17) hx hb d_M_atZero_72 (by decide) ?_
        rw [atS_s q0 S h3] at hP hD
        exact ih (j - 1) H locs ls (by omega) (by omega) (by omega) (by rw [show j - 1 + 1 = j by omega]; exact hP) (by rw [show j - 1 + 1 = j by omega]; exact hD) hS (lv_sub hl [1, 2, 0] rfl)
  have loop : ∀ (n k : Nat) (H : Heap) (locs : List Loc) (ls : Array Slot), (t0 - 1) + 1 ≤ k + n → k ≤ (t0 - 1) → va_P (dC, dI) cls (wM Y cI cZ p0 q0 g0 h0 (atS q0 S t0 k t0)) H → va_D (w_A (wM Y cI cZ p0 q0 g0 h0 (S))) (wM Y cI cZ p0 q0 g0 h0 (atS q0 S t0 k t0)) → va_S (w_A (wM Y cI cZ p0 q0 g0 h0 (S))) s.heap H locs → lv_has ls 4 [(0, .ref (Y 0)), (1, .int (nI (k + 1)))] → W p l e (headSpec ws_M_atZero { frames := 3, cells := 0, slots := 0, locals := 69 }).room s m [.ref (Y 0)].toArray below meth c H locs 0 0 (MQ below (fun _ st o t => o = .returned (some (.int (nI (hz q0 (fun m => nn (S 12 m)) (dk q0 (fun m => nn (S 12 m)) (fun m => nn (S 13 m)) (t0 - 1)) 0 t0)))) ∧ va_P (dC, dI) cls (wM Y cI cZ p0 q0 g0 h0 (atS q0 S t0 (t0 - 1) t0)) t.heap ∧ va_F (w_A (wM Y cI cZ p0 q0 g0 h0 (S))) st t) [.ref (Y 0)].toArray s 0 0 (w_A (wM Y cI cZ p0 q0 g0 h0 (S)))) (F0 m 2 ls []) := by
    intro n
    induction n with
    | zero =>
      intro k H locs ls h1 h2
      omega
    | succ n ih =>
      intro k H locs ls h1 h2 hP hD hS hl
      refine lv_iload_n hx hb d_M_atZero_2 rfl (lv_at hl 1 rfl) ?_
      refine lv_aload_n hx hb d_M_atZero_3 rfl (lv_at hl 0 rfl) ?_
      refine va_get (D := (dC, dI)) (ci := 3) (v := .int ((atS q0 S t0 k t0) 0 3)) (C := "DealtSecretModel") (T := T_M) (N := 24) hx hb hts i_M hown hK hP 0 rfl rfl 7 (by decide) (hts _ k_450) (fun _ h9 => h9) rfl d_M_atZero_4 ?_
      refine x_i (y := nI t0) (by rw [atS_ne q0 S _ _ _ (by decide)]; exact ht) ?_
      refine lv_icmp_ge (tgt := 81) hx hb d_M_atZero_7 (by decide) (fun c7 => ?_) (fun c7 => ?_)
      · have hk : k = t0 - 1 := by
          rcases Nat.lt_or_ge (k + 1) t0 with q | q
          · exact absurd c7 (nI_ge q (by omega))
          · omega
        rw [hk] at hP hD
        refine lv_iconst (v := (nI 0)) hx hb d_M_atZero_81 (by decide) ?_
        refine lv_istore_n (lv' := [(1, .int (nI 0)), (0, .ref (Y 0))]) hx hb d_M_atZero_82 rfl hl (by decide) rfl (fun ls hl => ?_)
        refine lv_aload_n hx hb d_M_atZero_83 rfl (lv_at hl 1 rfl) ?_
        refine va_get (D := (dC, dI)) (ci := 3) (v := .int ((atS q0 S t0 (t0 - 1) t0) 0 3)) (C := "DealtSecretModel") (T := T_M) (N := 24) hx hb hts i_M hown hK hP 0 rfl rfl 7 (by decide) (hts _ k_450) (fun _ h9 => h9) rfl d_M_atZero_84 ?_
        refine x_i (y := nI t0) (by rw [atS_ne q0 S _ _ _ (by decide)]; exact ht) ?_
        refine lv_iconst (v := 1) hx hb d_M_atZero_87 (by decide) ?_
        refine lv_isub hx hb d_M_atZero_88 ?_
        refine lv_istore_n (lv' := [(2, .int ((nI t0) - 1)), (1, .int (nI 0)), (0, .ref (Y 0))]) hx hb d_M_atZero_89 rfl hl (by decide) rfl (fun ls hl => ?_)
        exact loop3 t0 0 H locs ls (Nat.le_refl _) (by rw [Nat.sub_self]; rfl) hP hD hS (lv_sub hl [2, 1, 0] rfl)
      · have hk : k + 1 < t0 := by
          rcases Nat.lt_or_ge (k + 1) t0 with q | q
          · exact q
          · exact absurd (nI_le q (by omega)) c7
        refine lv_aload_n hx hb d_M_atZero_10 rfl (lv_at hl 0 rfl) ?_
        refine va_get (D := (dC, dI)) (ci := 3) (v := .int ((atS q0 S t0 k t0) 0 3)) (C := "DealtSecretModel") (T := T_M) (N := 24) hx hb hts i_M hown hK hP 0 rfl rfl 7 (by decide) (hts _ k_450) (fun _ h9 => h9) rfl d_M_atZero_11 ?_
        refine x_i (y := nI t0) (by rw [atS_ne q0 S _ _ _ (by decide)]; exact ht) ?_
        refine lv_iconst (v := 1) hx hb d_M_atZero_14 (by decide) ?_
        refine lv_isub hx hb d_M_atZero_15 ?_
        refine x_i (y := nI (t0 - 1)) ((congrArg (fun z => nI z - 1) (show t0 = (t0 - 1) + 1 by omega)).trans (nI_pred (t0 - 1))) ?_
        refine lv_istore_n (lv' := [(2, .int (nI (t0 - 1))), (0, .ref (Y 0)), (1, .int (nI (k + 1)))]) hx hb d_M_atZero_16 rfl hl (by decide) rfl (fun ls hl => ?_)
        exact inner k (fun H locs ls hP hD hS hl => ih (k + 1) H locs ls (by omega) (by omega) hP hD hS hl) (t0 + 1) (t0 - 1) H locs ls (by omega) (by omega) (by omega) (by rw [show t0 - 1 + 1 = t0 by omega]; exact hP) (by rw [show t0 - 1 + 1 = t0 by omega]; exact hD) hS (lv_sub hl [1, 2, 0] rfl)
  refine lv_iconst (v := (nI (0 + 1))) hx hb d_M_atZero_0 (by decide) ?_
  refine lv_istore_n (lv' := [(1, .int (nI (0 + 1))), (0, .ref (Y 0))]) hx hb d_M_atZero_1 rfl hl (by decide) rfl (fun ls hl => ?_)
  exact loop (t0 + 1) 0 _ _ ls (by omega) (by omega) (by rw [atS_0 q0 S t0 hY]; exact hP) (by rw [atS_0 q0 S t0 hY]; exact hD) hS (lv_sub hl [1, 0] rfl)
