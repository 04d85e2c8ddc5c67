theorem sAn_ne (S : Nat → Nat → Int32) {f : Nat} (h7 : f ≠ 7) (h8 : f ≠ 8) (h9 : f ≠ 9) (h10 : f ≠ 10) : ∀ n, sAn S n f = S f
  | 0 => rfl
  | n + 1 => by rw [sAn, stA, up_ne _ _ _ h10, up_ne _ _ _ h9, up_ne _ _ _ h8, up_ne _ _ _ h7, sAn_ne S h7 h8 h9 h10 n]
theorem sAn_0 (S : Nat → Nat → Int32) {f : Nat} (h : f = 7 ∨ f = 8 ∨ f = 9 ∨ f = 10) : ∀ n j, j < n → sAn S n f j = 0
  | 0, j, hj => absurd hj (Nat.not_lt_zero j)
  | n + 1, j, hj => by
    by_cases c : j = n
    · subst c
      rcases h with rfl | rfl | rfl | rfl <;> simp [sAn, up]
    · have ih := sAn_0 S h n j (by omega)
      rcases h with rfl | rfl | rfl | rfl <;> simp [sAn, up, c, ih]
theorem Rl.begin {p0 q0 g0 h0 st n0 t0 : Nat} {S M : Nat → Nat → Int32} (ok : okG p0 q0 g0 h0) (R : Rl p0 q0 g0 h0 S M st n0 t0) {n t : Nat} {b : Int32} (hn1 : 1 ≤ n) (hn7 : n ≤ 7) (ht1 : 1 ≤ t) (htn : t ≤ n) (hnq : n < q0) :
    Rl p0 q0 g0 h0 (bgS S n t b) (bmS M n t b) 1 n t := by
  obtain ⟨⟨s1, s2, s3⟩, ⟨n1, n2, n3⟩, ⟨t1, t2, t3⟩, z0, ⟨b1, b2, b3⟩, hN, hA, hC, hC2, hU, hU2, hF, hK, hW3, hW4⟩ := id R
  obtain ⟨okp2, okp, okq2, okq, okg, okh⟩ := id ok
  have z1 : okN 0 p0 := ⟨0, by omega, by decide, rfl⟩
  have z2 : okN 0 q0 := ⟨0, by omega, by decide, rfl⟩
  have a0 : ∀ k, bgS S n t b 0 k = (up (up (up (up (up S 0 1 (nI n)) 0 2 (nI t)) 0 3 b) 0 4 0) 0 0 1) 0 k := fun k => by
    unfold bgS
    simp [up, sAn_ne, bg3, zr]
  have aS : ∀ ff, ff ≠ 0 → ff ≠ 1 → ff ≠ 2 → ff ≠ 7 → ff ≠ 8 → ff ≠ 9 → ff ≠ 10 → bgS S n t b ff = S ff := fun ff h0 h1 h2 h7 h8 h9 h10 => by
    unfold bgS
    rw [up_ne _ _ _ h0, up_ne _ _ _ h0, sAn_ne _ h7 h8 h9 h10]
    funext k
    simp [bg3, zr, up, h0, h1, h2]
  have aZ1 : ∀ ff, ff = 1 ∨ ff = 2 → ∀ k, k < 7 → bgS S n t b ff k = 0 := fun ff hf k hk => by
    unfold bgS
    rcases hf with rfl | rfl <;> simp [up, sAn_ne, bg3, zr, hk]
  have aF : ∀ ff, ff = 7 ∨ ff = 8 ∨ ff = 9 ∨ ff = 10 → ∀ j, j < n → bgS S n t b ff j = 0 := fun ff hf j hj => by
    unfold bgS
    rw [up_ne _ _ _ (by rcases hf with rfl | rfl | rfl | rfl <;> decide), up_ne _ _ _ (by rcases hf with rfl | rfl | rfl | rfl <;> decide)]
    exact sAn_0 _ hf n j hj
  have m0 : ∀ k, bmS M n t b 0 k = (bm1 M n t b) 0 k := fun k => by simp [bmS, zn, zm]
  have mS : ∀ ff, ff ≠ 0 → ff ≠ 1 → ff ≠ 2 → ff ≠ 3 → ff ≠ 4 → ff ≠ 5 → ff ≠ 6 → ff ≠ 9 → bmS M n t b ff = M ff := fun ff h0 h1 h2 h3 h4 h5 h6 h9 => by
    funext k
    simp [bmS, zn, zm, bm1, up, h0, h1, h2, h3, h4, h5, h6, h9]
  have mZ : ∀ ff, ff = 1 ∨ ff = 2 ∨ ff = 3 → ∀ k, k < 7 → bmS M n t b ff k = 0 := fun ff hf k hk => by
    rcases hf with rfl | rfl | rfl <;> simp [bmS, zn, zm, hk]
  have mF : ∀ ff, ff = 4 ∨ ff = 5 ∨ ff = 6 ∨ ff = 9 → ∀ k, k < 8 → bmS M n t b ff k = 0 := fun ff hf k hk => by
    rcases hf with rfl | rfl | rfl | rfl <;> simp [bmS, zn, hk]
  refine ⟨⟨by rw [a0]; simp [up]; rfl, by rw [m0]; simp [bm1, up]; rfl, by decide⟩, ⟨by rw [a0]; simp [up], by rw [m0]; simp [bm1, up], hn7⟩, ⟨by rw [a0]; simp [up], by rw [m0]; simp [bm1, up], htn⟩, Or.inr ⟨by decide, ht1, hnq⟩, ⟨by rw [a0, m0]; simp [bm1, up], by rw [a0, m0]; simp [bm1, up], by rw [a0, m0]; simp [bm1, up, b3]⟩, ?_, fun k hk => ?_, fun k hk => ?_, fun h => absurd h (by decide), fun j hj => ?_, fun h => absurd h (by decide), fun j hj => ?_, fun j hj h => ?_, fun _ j hj => ?_, fun h => absurd h (by decide)⟩
  · rw [aS 4 (by decide) (by decide) (by decide) (by decide) (by decide) (by decide) (by decide)]; exact hN
  · rw [aZ1 1 (Or.inl rfl) k (by omega), aZ1 2 (Or.inr rfl) k (by omega), mZ 1 (Or.inl rfl) k (by omega), mZ 2 (Or.inr (Or.inl rfl)) k (by omega)]
    exact ⟨rfl, rfl, z2, z2⟩
  · rw [aS 3 (by decide) (by decide) (by decide) (by decide) (by decide) (by decide) (by decide), mZ 3 (Or.inr (Or.inr rfl)) k hk]
    exact ⟨(hC k hk).1, z1⟩
  · rw [aS 5 (by decide) (by decide) (by decide) (by decide) (by decide) (by decide) (by decide), aS 6 (by decide) (by decide) (by decide) (by decide) (by decide) (by decide) (by decide), mS 7 (by decide) (by decide) (by decide) (by decide) (by decide) (by decide) (by decide) (by decide), mS 8 (by decide) (by decide) (by decide) (by decide) (by decide) (by decide) (by decide) (by decide)]
    exact hU j hj
  · rw [aF 7 (Or.inl rfl) j hj, aF 8 (Or.inr (Or.inl rfl)) j hj, aF 10 (Or.inr (Or.inr (Or.inr rfl))) j hj, mF 4 (Or.inl rfl) (j + 1) (by omega), mF 5 (Or.inr (Or.inl rfl)) (j + 1) (by omega), mF 9 (Or.inr (Or.inr (Or.inr rfl))) (j + 1) (by omega)]
    exact ⟨rfl, rfl, rfl, Or.inl rfl⟩
  · exact absurd (aF 10 (Or.inr (Or.inr (Or.inr rfl))) j hj) h
  · exact ⟨aF 9 (Or.inr (Or.inr (Or.inl rfl))) j hj, mF 6 (Or.inr (Or.inr (Or.inl rfl))) (j + 1) (by omega)⟩
section ST
variable {l : Launch} {dC : Nat → ClassId} {dI : Nat → Nat → Nat} {Z Y : Nat → Nat} {cI cP cL cJ cZ : ClassId} {p0 q0 g0 h0 ou : Nat} {S M : Nat → Nat → Int32} {f : Nat → Int64}
set_option maxRecDepth 100000 in
set_option maxHeartbeats 4000000 in
theorem s_begin (hlt : l.stackTraces = false) (ok : okG p0 q0 g0 h0) (R : Rel p0 q0 g0 h0 S M) (a1 a2 a3 : Int32) (h3 : a3 = 0 ∨ a3 = 1) : ∃ (k : Int32) (S1 M1 : Nat → Nat → Int32), Wp l y_L_begin ws_L_begin [.ref (Z 0), .int a1, .int a2, .int a3] dC dI (wC Z cI cP p0 q0 g0 h0 S ++ oL ou cL f) (wC Z cI cP p0 q0 g0 h0 S1 ++ oL ou cL f) (tysL cI cP cL) k ∧ Wr l y_M_begin ws_M_begin 0 0 [.ref (Y 0), .int a1, .int a2, .int a3] (dC, dI) cls (tysM cJ cZ) (wM Y cJ cZ p0 q0 g0 h0 M) (wM Y cJ cZ p0 q0 g0 h0 M1) none ∧ M1 0 1 = k ∧ Rel p0 q0 g0 h0 S1 M1 := by
  obtain ⟨st, n0, t0, R⟩ := R
  obtain ⟨⟨s1, s2, s3⟩, ⟨n1, n2, n3⟩, ⟨t1, t2, t3⟩, z0, ⟨b1, b2, b3⟩, hN, hA, hC, hC2, hU, hU2, hF, hK, hW3, hW4⟩ := id R
  obtain ⟨okp2, okp, okq2, okq, okg, okh⟩ := id ok
  have eM : M 0 0 = S 0 0 := s2.trans s1.symm
  by_cases c1 : bgOk a1 a2 (nI q0)
  · obtain ⟨d1, d2, d3, d4, d5⟩ := c1
    have g1 : ∀ {x : Int32}, ¬ x < 1 → ¬ x < 0 := fun {x} hx q => hx (by
      rw [Int32.lt_iff_toInt_lt] at q ⊢
      have e0 : (0 : Int32).toInt = 0 := by decide
      have e1 : (1 : Int32).toInt = 1 := by decide
      omega)
    obtain ⟨n, hn, rfl⟩ := nI_of (g1 d1)
    obtain ⟨t, ht, rfl⟩ := nI_of (g1 d3)
    have e1 : 1 ≤ n := Nat.not_lt.mp (fun q => d1 (nI_lt (b := 1) q (by decide)))
    have e2 : n ≤ 7 := Nat.not_lt.mp (fun q => d2 (nI_lt (a := 7) q hn))
    have e3 : 1 ≤ t := Nat.not_lt.mp (fun q => d3 (nI_lt (b := 1) q (by decide)))
    have e4 : t ≤ n := Nat.not_lt.mp (fun q => d4 (nI_lt q ht))
    have e5 : n < q0 := (nI_ltI hn okq).mp d5
    refine ⟨0, _, _, l_begin_go l dC dI Z cI cP cL p0 q0 g0 h0 ou S f _ _ _ _ (c_C_begin l dC dI Z cI cP p0 q0 g0 h0 S n t a3 h3 e1 e2 e3 e4 e5 ok), c_M_begin l dC dI Y cJ cZ p0 q0 g0 h0 M n t a3 h3 e1 e2 e3 e4 e5 ok, ?_, 1, n, t, R.begin ok e1 e2 e3 e4 e5⟩
    simp [bmS, zn, zm, bm1, up]
  · exact ⟨1, S, up M 0 1 1, l_begin_IAE l dC dI Z cI cP cL p0 q0 g0 h0 ou S f _ _ _ (t_C_begin l hlt dC dI Z cI cP p0 q0 g0 h0 S a1 a2 a3 c1), r_M_begin l dC dI Y cJ cZ p0 q0 g0 h0 M a1 a2 a3 c1, rfl, st, n0, t0, R.thr 1⟩
end ST
