/-! the relation between the two states -/
def fitM (p0 g0 h0 t0 : Nat) (M : Nat → Nat → Int32) (j : Nat) : Prop := (g0 ^ nn (M 7 (j + 1)) % p0) * (h0 ^ nn (M 8 (j + 1)) % p0) % p0 = mz_cs (fun k => nn (M 3 k)) (j + 1) t0 % p0
def Rl (p0 q0 g0 h0 : Nat) (S M : Nat → Nat → Int32) (st n0 t0 : Nat) : Prop :=
  (S 0 0 = nI st ∧ M 0 0 = nI st ∧ st ≤ 6) ∧ (S 0 1 = nI n0 ∧ M 0 2 = nI n0 ∧ n0 ≤ 7) ∧ (S 0 2 = nI t0 ∧ M 0 3 = nI t0 ∧ t0 ≤ n0) ∧ (st = 0 ∧ n0 = 0 ∨ 1 ≤ st ∧ 1 ≤ t0 ∧ n0 < q0) ∧
  (S 0 3 = M 0 4 ∧ S 0 4 = M 0 5 ∧ S 0 5 = M 0 6) ∧ (∀ j, j < 7 → S 4 j = nI (j + 1)) ∧
  (∀ k, k < t0 → S 1 k = M 1 k ∧ S 2 k = M 2 k ∧ okN (S 1 k) q0 ∧ okN (S 2 k) q0) ∧
  (∀ k, k < 7 → okN (S 3 k) p0 ∧ okN (M 3 k) p0) ∧ (2 ≤ st → ∀ k, k < t0 → S 3 k = M 3 k) ∧
  (∀ j, j < 7 → okN (S 5 j) q0 ∧ okN (S 6 j) q0 ∧ okN (M 7 (j + 1)) q0 ∧ okN (M 8 (j + 1)) q0) ∧ (2 ≤ st → ∀ j, j < n0 → S 5 j = M 7 (j + 1) ∧ S 6 j = M 8 (j + 1)) ∧
  (∀ j, j < n0 → S 7 j = M 4 (j + 1) ∧ S 8 j = M 5 (j + 1) ∧ S 10 j = M 9 (j + 1) ∧ (S 7 j = 0 ∨ S 7 j = 1)) ∧
  (∀ j, j < n0 → ¬ S 10 j = 0 → S 11 j = M 10 (j + 1) ∧ S 12 j = M 11 (j + 1) ∧ okN (S 11 j) q0 ∧ okN (S 12 j) q0) ∧
  (st ≤ 3 → ∀ j, j < n0 → S 9 j = 0 ∧ M 6 (j + 1) = 0) ∧ (st = 4 → ∀ j, j < n0 → (S 9 j = 0 ↔ (M 6 (j + 1) = 0 ∨ ¬ fitM p0 g0 h0 t0 M j)))
def Rel (p0 q0 g0 h0 : Nat) (S M : Nat → Nat → Int32) : Prop := ∃ st n0 t0, Rl p0 q0 g0 h0 S M st n0 t0
theorem Rl.thr {p0 q0 g0 h0 st n0 t0 : Nat} {S M : Nat → Nat → Int32} (v : Int32) (R : Rl p0 q0 g0 h0 S M st n0 t0) : Rl p0 q0 g0 h0 S (up M 0 1 v) st n0 t0 := R
theorem Rel.thr {p0 q0 g0 h0 : Nat} {S M : Nat → Nat → Int32} (v : Int32) (R : Rel p0 q0 g0 h0 S M) : Rel p0 q0 g0 h0 S (up M 0 1 v) := by
  obtain ⟨st, n0, t0, R⟩ := R
  exact ⟨st, n0, t0, R.thr v⟩
theorem Rl_0 {p0 q0 g0 h0 : Nat} (ok : okG p0 q0 g0 h0) : Rl p0 q0 g0 h0 S0 SM0 0 0 0 := by
  obtain ⟨a, b, c, d, -, -⟩ := ok
  have z1 : okN 0 p0 := ⟨0, by omega, by decide, rfl⟩
  have z2 : okN 0 q0 := ⟨0, by omega, by decide, rfl⟩
  exact ⟨⟨rfl, rfl, by decide⟩, ⟨rfl, rfl, by decide⟩, ⟨rfl, rfl, by decide⟩, Or.inl ⟨rfl, rfl⟩, ⟨rfl, rfl, rfl⟩, fun _ _ => rfl, fun k h => absurd h (Nat.not_lt_zero k), fun _ _ => ⟨z1, z1⟩, fun h => absurd h (by decide), fun _ _ => ⟨z2, z2, z2, z2⟩, fun h => absurd h (by decide), fun k h => absurd h (Nat.not_lt_zero k), fun k h => absurd h (Nat.not_lt_zero k), fun _ k h => absurd h (Nat.not_lt_zero k), fun h => absurd h (by decide)⟩
theorem up_i {S : Nat → Nat → Int32} {f k i : Nat} {v : Int32} : up S f k v f i = if i = k then v else S f i := by simp [up]
theorem mz_cs_eq {c d : Nat → Nat} (i : Nat) : ∀ n, (∀ k, k < n → c k = d k) → mz_cs c i n = mz_cs d i n
  | 0, _ => rfl
  | n + 1, h => by
    have h1 := mz_cs_eq (c := c) (d := d) i n (fun k hk => h k (by omega))
    have h2 := h n (by omega)
    have e1 : mz_cs c i (n + 1) = mz_cs c i n * c n ^ (i ^ n) := rfl
    have e2 : mz_cs d i (n + 1) = mz_cs d i n * d n ^ (i ^ n) := rfl
    rw [e1, e2, h1, h2]
/-- a fit of the class is a fit of the reference -/
theorem fit_eq {p0 g0 h0 t0 : Nat} {S M : Nat → Nat → Int32} {j u v : Nat} (h : ∀ k, k < t0 → S 3 k = M 3 k) :
    ((g0 ^ u % p0) * (h0 ^ v % p0) % p0 = mz_cp (fun k => nn (S 3 k)) (j + 1) 0 t0 % p0) = ((g0 ^ u % p0) * (h0 ^ v % p0) % p0 = mz_cs (fun k => nn (M 3 k)) (j + 1) t0 % p0) := by
  have e : mz_cp (fun k => nn (S 3 k)) (j + 1) 0 t0 = mz_cs (fun k => nn (M 3 k)) (j + 1) t0 := (mz_cp_cs _ _ _).trans (mz_cs_eq (j + 1) t0 (fun k hk => congrArg nn (h k hk)))
  exact congrArg (fun z => ((g0 ^ u % p0) * (h0 ^ v % p0) % p0 = z % p0)) e
theorem up_j {M : Nat → Nat → Int32} {f i j : Nat} {v : Int32} : up M f (i + 1) v f (j + 1) = if j = i then v else M f (j + 1) := by simp [up]
theorem Rl.same {p0 q0 g0 h0 st n0 t0 : Nat} {S M M1 : Nat → Nat → Int32} (h0' : ∀ k, k ≠ 1 → M1 0 k = M 0 k) (h : ∀ ff, ff ≠ 0 → ff ≠ 12 → ff ≠ 13 → M1 ff = M ff) (R : Rl p0 q0 g0 h0 S M st n0 t0) : Rl p0 q0 g0 h0 S M1 st n0 t0 := by
  have e : ∀ j, fitM p0 g0 h0 t0 M1 j = fitM p0 g0 h0 t0 M j := fun j => by
    unfold fitM
    rw [h 7 (by decide) (by decide) (by decide), h 8 (by decide) (by decide) (by decide), h 3 (by decide) (by decide) (by decide)]
  unfold Rl
  simp only [h0' 0 (by decide), h0' 2 (by decide), h0' 3 (by decide), h0' 4 (by decide), h0' 5 (by decide), h0' 6 (by decide), h 1 (by decide) (by decide) (by decide), h 2 (by decide) (by decide) (by decide), h 3 (by decide) (by decide) (by decide), h 4 (by decide) (by decide) (by decide), h 5 (by decide) (by decide) (by decide), h 6 (by decide) (by decide) (by decide), h 7 (by decide) (by decide) (by decide), h 8 (by decide) (by decide) (by decide), h 9 (by decide) (by decide) (by decide), h 10 (by decide) (by decide) (by decide), h 11 (by decide) (by decide) (by decide), e]
  exact R
theorem coS_eq {M : Nat → Nat → Int32} {i : Nat} (h : M 4 (i + 1) = 0 ∨ M 4 (i + 1) = 1) : coS M i = up (up M 0 1 0) 4 (i + 1) 1 := by
  unfold coS
  rcases h with h | h
  · rw [if_pos h]
  · rw [if_neg (by rw [h]; decide)]
    funext ff k
    unfold up
    by_cases c : ff = 4
    · subst c
      by_cases d : k = i + 1
      · subst d; simp [h]
      · simp [d]
    · simp [c]
theorem st_lt {st : Nat} (h : st ≤ 6) {n : Nat} (hn : n ≤ 6) : (nI st = nI n) ↔ st = n := nI_eq (by omega) (by omega)
