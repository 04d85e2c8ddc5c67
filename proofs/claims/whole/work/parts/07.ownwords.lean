/-! our own words for numbers and states -/
def nn (x : Int32) : Nat := x.toNatClampNeg
def okN (x : Int32) (B : Nat) : Prop := ∃ k : Nat, k < B ∧ k < 2 ^ 31 ∧ x = nI k
theorem okN.eq {x : Int32} {B : Nat} (h : okN x B) : x = nI (nn x) := by
  obtain ⟨k, h1, h2, rfl⟩ := h
  unfold nn
  rw [nI_clamp h2]
theorem okN.lt {x : Int32} {B : Nat} (h : okN x B) : nn x < B := by
  obtain ⟨k, h1, h2, rfl⟩ := h
  unfold nn
  rw [nI_clamp h2]
  exact h1
theorem okN.of {k B : Nat} (h : k < B) (h2 : k < 2 ^ 31) : okN (nI k) B := ⟨k, h, h2, rfl⟩
theorem nn_nI {k : Nat} (h : k < 2 ^ 31) : nn (nI k) = k := nI_clamp h
def okG (p0 q0 g0 h0 : Nat) : Prop := 2 ≤ p0 ∧ p0 < 2 ^ 31 ∧ 2 ≤ q0 ∧ q0 < 2 ^ 31 ∧ g0 < p0 ∧ h0 < p0
def isPt (n i : Int32) : Prop := ¬ i < 1 ∧ ¬ n < i
def isCf (t k : Int32) : Prop := ¬ k < 0 ∧ ¬ t ≤ k
def bnum (b x : Int32) (q : Nat) : Int32 := if b = 0 then 0 else nI (md x q)
/-- how many of the first n flags are up -/
def mz_ct (f : Nat → Int32) : Nat → Nat
  | 0 => 0
  | n + 1 => mz_ct f n + (if f n = 0 then 0 else 1)
theorem mz_ct_0 {f : Nat → Int32} {n : Nat} (h : f n = 0) : mz_ct f (n + 1) = mz_ct f n := by
  rw [mz_ct, if_pos h, Nat.add_zero]
theorem mz_ct_1 {f : Nat → Int32} {n : Nat} (h : ¬ f n = 0) : mz_ct f (n + 1) = mz_ct f n + 1 := by
  rw [mz_ct, if_neg h]
/-- 2 <= x < p, and x^q is 1 modulo p -/
def mz_el (x : Int32) (p0 q0 : Nat) : Prop := ¬ x < 2 ∧ x.toNatClampNeg < p0 ∧ x.toNatClampNeg ^ q0 % p0 = 1
/-- the numbers of a sound group -/
def mz_so (p q g h : Int32) : Prop := mz_P p.toNatClampNeg ∧ mz_P q.toNatClampNeg ∧ (p.toNatClampNeg - 1) % q.toNatClampNeg = 0 ∧ ¬ g = h ∧ mz_el g p.toNatClampNeg q.toNatClampNeg ∧ mz_el h p.toNatClampNeg q.toNatClampNeg
