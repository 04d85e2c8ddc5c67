-- DRAFT, never compiled: powers by squaring, primes, Fermat. Names mz_
/-- one turn of the squaring loop -/
theorem mz_step (m r s n : Nat) : ((if n % 2 = 1 then r * s % m else r) * (s * s % m) ^ (n / 2)) % m = (r * s ^ n) % m := by
  have hn : 2 * (n / 2) + n % 2 = n := Nat.div_add_mod n 2
  have e1 : ∀ a : Nat, (a * (s * s % m) ^ (n / 2)) % m = (a * (s * s) ^ (n / 2)) % m := fun a => by
    rw [Nat.mul_mod, ← Nat.pow_mod, ← Nat.mul_mod]
  have e2 : s ^ n = (s * s) ^ (n / 2) * s ^ (n % 2) := by
    rw [← Nat.pow_two, ← Nat.pow_mul, ← Nat.pow_add, hn]
  rw [e1, e2]
  by_cases h : n % 2 = 1
  · rw [if_pos h, h, Nat.pow_one, Nat.mul_mod, Nat.mod_mod, ← Nat.mul_mod]
    congr 1
    rw [Nat.mul_assoc, Nat.mul_comm s]
  · have h0 : n % 2 = 0 := by omega
    rw [if_neg h, h0, Nat.pow_zero, Nat.mul_one]
/-- x is a prime number, as trial division finds it -/
def mz_P (x : Nat) : Prop := 2 ≤ x ∧ ∀ d : Nat, 2 ≤ d → d * d ≤ x → ¬ d ∣ x
theorem mz_P.only {x : Nat} (h : mz_P x) {d : Nat} (hd : d ∣ x) : d = 1 ∨ d = x := by
  obtain ⟨e, he⟩ := hd
  have hx := h.1
  rcases Nat.lt_or_ge d 2 with h1 | h1
  · rcases (show d = 0 ∨ d = 1 by omega) with rfl | rfl
    · simp at he; omega
    · exact Or.inl rfl
  rcases Nat.lt_or_ge e 2 with h2 | h2
  · rcases (show e = 0 ∨ e = 1 by omega) with rfl | rfl
    · simp at he; omega
    · right; simpa using he.symm
  rcases Nat.le_total d e with h3 | h3
  · exact absurd ⟨e, he⟩ (h.2 d h1 (by rw [he]; exact Nat.mul_le_mul_left d h3))
  · exact absurd ⟨d, by rw [he, Nat.mul_comm]⟩ (h.2 e h2 (by rw [he]; exact Nat.mul_le_mul_right e h3))
theorem mz_P.coprime {x : Nat} (h : mz_P x) {k : Nat} (h0 : ¬ x ∣ k) : Nat.Coprime x k := by
  rcases h.only (Nat.gcd_dvd_left x k) with e | e
  · exact e
  · exact absurd (by rw [← e]; exact Nat.gcd_dvd_right x k) h0
/-- Pascal's triangle -/
def mz_ch : Nat → Nat → Nat
  | _, 0 => 1
  | 0, _ + 1 => 0
  | n + 1, k + 1 => mz_ch n k + mz_ch n (k + 1)
theorem mz_ch_big : ∀ (n k : Nat), n < k → mz_ch n k = 0
  | 0, k + 1, _ => rfl
  | n + 1, k + 1, h => by
    rw [mz_ch, mz_ch_big n k (by omega), mz_ch_big n (k + 1) (by omega)]
theorem mz_ch_self : ∀ n : Nat, mz_ch n n = 1
  | 0 => rfl
  | n + 1 => by rw [mz_ch, mz_ch_self n, mz_ch_big n (n + 1) (by omega)]
theorem mz_ch_0 (n : Nat) : mz_ch n 0 = 1 := by cases n <;> rfl
/-- (k + 1) * C(n + 1, k + 1) = (n + 1) * C(n, k) -/
theorem mz_ch_mul : ∀ (n k : Nat), (k + 1) * mz_ch (n + 1) (k + 1) = (n + 1) * mz_ch n k
  | 0, 0 => rfl
  | 0, k + 1 => by simp [mz_ch]
  | n + 1, 0 => by
    have h := mz_ch_mul n 0
    have e1 : mz_ch (n + 1 + 1) (0 + 1) = mz_ch (n + 1) 0 + mz_ch (n + 1) (0 + 1) := rfl
    rw [mz_ch_0] at h
    rw [e1, mz_ch_0]
    omega
  | n + 1, k + 1 => by
    have h1 := mz_ch_mul n k
    have h2 := mz_ch_mul n (k + 1)
    rw [mz_ch]
    have h3 : mz_ch (n + 1) (k + 1) = mz_ch n k + mz_ch n (k + 1) := rfl
    grind
/-- the sum of C(n, k) * a^k for k < m -/
def mz_bs (n a : Nat) : Nat → Nat
  | 0 => 0
  | m + 1 => mz_bs n a m + mz_ch n m * a ^ m
theorem mz_bs_up (n a : Nat) : ∀ m : Nat, mz_bs (n + 1) a (m + 1) = a * mz_bs n a m + mz_bs n a (m + 1)
  | 0 => by simp [mz_bs, mz_ch, mz_ch_0]
  | m + 1 => by
    have h := mz_bs_up n a m
    have e1 : mz_bs (n + 1) a (m + 1 + 1) = mz_bs (n + 1) a (m + 1) + mz_ch (n + 1) (m + 1) * a ^ (m + 1) := rfl
    have e2 : mz_bs n a (m + 1 + 1) = mz_bs n a (m + 1) + mz_ch n (m + 1) * a ^ (m + 1) := rfl
    have e3 : mz_bs n a (m + 1) = mz_bs n a m + mz_ch n m * a ^ m := rfl
    have e4 : mz_ch (n + 1) (m + 1) = mz_ch n m + mz_ch n (m + 1) := rfl
    have e5 : a ^ (m + 1) = a ^ m * a := Nat.pow_succ a m
    rw [e1, h, e2, e4, e5]
    grind
theorem mz_binom (a : Nat) : ∀ n : Nat, (a + 1) ^ n = mz_bs n a (n + 1)
  | 0 => by simp [mz_bs, mz_ch]
  | n + 1 => by
    have h := mz_binom a n
    rw [mz_bs_up, ← h]
    have e2 : mz_bs n a (n + 1 + 1) = mz_bs n a (n + 1) + mz_ch n (n + 1) * a ^ (n + 1) := rfl
    rw [e2, mz_ch_big n (n + 1) (by omega), ← h, Nat.pow_succ]
    grind
theorem mz_ch_dvd {q : Nat} (hq : mz_P q) {k : Nat} (h0 : 0 < k) (hk : k < q) : q ∣ mz_ch q k := by
  obtain ⟨n, rfl⟩ : ∃ n, q = n + 1 := ⟨q - 1, by have := hq.1; omega⟩
  obtain ⟨j, rfl⟩ : ∃ j, k = j + 1 := ⟨k - 1, by omega⟩
  have h := mz_ch_mul n j
  have hc : Nat.Coprime (n + 1) (j + 1) := hq.coprime fun hd => by
    have := Nat.le_of_dvd (by omega) hd
    omega
  exact hc.dvd_of_dvd_mul_left (by rw [h]; exact Nat.dvd_mul_right _ _)
theorem mz_bs_mod {q : Nat} (hq : mz_P q) (a : Nat) : ∀ m : Nat, m < q → mz_bs q a (m + 1) % q = 1 % q
  | 0, _ => by simp [mz_bs, mz_ch_0]
  | m + 1, h => by
    have e : mz_bs q a (m + 1 + 1) = mz_bs q a (m + 1) + mz_ch q (m + 1) * a ^ (m + 1) := rfl
    have hd : mz_ch q (m + 1) * a ^ (m + 1) % q = 0 := Nat.mod_eq_zero_of_dvd (Nat.dvd_mul_right_of_dvd (mz_ch_dvd hq (by omega) h) _)
    rw [e, Nat.add_mod, hd, mz_bs_mod hq a m (by omega), Nat.add_zero, Nat.mod_mod]
theorem mz_fermat {q : Nat} (hq : mz_P q) : ∀ a : Nat, a ^ q % q = a % q
  | 0 => by
    have := hq.1
    rw [Nat.zero_pow (by omega)]
  | a + 1 => by
    have h2 := hq.1
    have e : mz_bs q a (q + 1) = mz_bs q a q + mz_ch q q * a ^ q := rfl
    have e1 : mz_bs q a q % q = 1 % q := by
      have := mz_bs_mod hq a (q - 1) (by omega)
      rwa [Nat.sub_add_cancel (by omega)] at this
    rw [mz_binom, e, mz_ch_self, Nat.one_mul, Nat.add_mod, e1, mz_fermat hq a, ← Nat.add_mod, Nat.add_comm]
/-- the inverse: y * y^(q - 2) is 1 -/
theorem mz_inv {q : Nat} (hq : mz_P q) {y : Nat} (hy : ¬ q ∣ y) : y * y ^ (q - 2) % q = 1 := by
  have h2 := hq.1
  have e : y * y ^ (q - 2) = y ^ (q - 1) := by
    rw [Nat.mul_comm, ← Nat.pow_succ]
    congr 1
    omega
  have e2 : y * y ^ (q - 1) = y ^ q := by
    rw [Nat.mul_comm, ← Nat.pow_succ]
    congr 1
    omega
  have hf := mz_fermat hq y
  rw [e]
  -- q divides y * (y^(q-1) - 1)
  have hpos : 0 < y := Nat.pos_of_ne_zero fun h => hy (by rw [h]; exact Nat.dvd_zero q)
  have h1 : 1 ≤ y ^ (q - 1) := Nat.pow_pos hpos
  have hle : y ≤ y ^ q := by rw [← e2]; exact Nat.le_mul_of_pos_right y h1
  have hd : q ∣ y ^ q - y := Nat.dvd_of_mod_eq_zero (Nat.sub_mod_eq_zero_of_mod_eq hf)
  have hd2 : q ∣ y * (y ^ (q - 1) - 1) := by rw [Nat.mul_sub, e2, Nat.mul_one]; exact hd
  have hd3 : q ∣ y ^ (q - 1) - 1 := (hq.coprime hy).dvd_of_dvd_mul_left hd2
  obtain ⟨z, hz⟩ := hd3
  have : y ^ (q - 1) = 1 + q * z := by omega
  rw [this, Nat.add_mul_mod_self_left, Nat.mod_eq_of_lt (by omega)]
