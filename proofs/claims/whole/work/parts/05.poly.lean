/-! the polynomial's value, and the product of powers, from either end -/
def mz_pv (f : Nat → Nat) (i : Nat) : Nat → Nat → Nat
  | _, 0 => 0
  | j, n + 1 => f j + i * mz_pv f i (j + 1) n
def mz_ps (f : Nat → Nat) (i : Nat) : Nat → Nat
  | 0 => 0
  | n + 1 => mz_ps f i n + f n * i ^ n
theorem mz_pv_last (f : Nat → Nat) (i : Nat) : ∀ n j : Nat, mz_pv f i j (n + 1) = mz_pv f i j n + f (j + n) * i ^ n
  | 0, j => by simp [mz_pv]
  | n + 1, j => by
    have h := mz_pv_last f i n (j + 1)
    have e : mz_pv f i j (n + 1 + 1) = f j + i * mz_pv f i (j + 1) (n + 1) := rfl
    have e2 : mz_pv f i j (n + 1) = f j + i * mz_pv f i (j + 1) n := rfl
    rw [e, h, e2, show j + 1 + n = j + (n + 1) by omega, Nat.pow_succ]
    grind
theorem mz_pv_ps (f : Nat → Nat) (i : Nat) : ∀ n : Nat, mz_pv f i 0 n = mz_ps f i n
  | 0 => rfl
  | n + 1 => by
    rw [mz_pv_last, mz_pv_ps f i n, Nat.zero_add]
    rfl
def mz_cp (c : Nat → Nat) (i : Nat) : Nat → Nat → Nat
  | _, 0 => 1
  | j, n + 1 => c j * (mz_cp c i (j + 1) n) ^ i
def mz_cs (c : Nat → Nat) (i : Nat) : Nat → Nat
  | 0 => 1
  | n + 1 => mz_cs c i n * c n ^ (i ^ n)
theorem mz_cp_last (c : Nat → Nat) (i : Nat) : ∀ n j : Nat, mz_cp c i j (n + 1) = mz_cp c i j n * c (j + n) ^ (i ^ n)
  | 0, j => by simp [mz_cp]
  | n + 1, j => by
    have h := mz_cp_last c i n (j + 1)
    have e : mz_cp c i j (n + 1 + 1) = c j * (mz_cp c i (j + 1) (n + 1)) ^ i := rfl
    have e2 : mz_cp c i j (n + 1) = c j * (mz_cp c i (j + 1) n) ^ i := rfl
    rw [e, h, e2, Nat.mul_pow, ← Nat.pow_mul, ← Nat.pow_succ, show j + 1 + n = j + (n + 1) by omega, Nat.mul_assoc]
theorem mz_cp_cs (c : Nat → Nat) (i : Nat) : ∀ n : Nat, mz_cp c i 0 n = mz_cs c i n
  | 0 => rfl
  | n + 1 => by
    rw [mz_cp_last, mz_cp_cs c i n, Nat.zero_add]
    rfl
/-- one turn of Horner's rule modulo q -/
theorem mz_horner (q i v a : Nat) : ((v % q) * i % q + a) % q = (a + i * v) % q := by
  rw [Nat.mod_mul_mod, Nat.mod_add_mod, Nat.add_comm, Nat.mul_comm]
/-- one turn of the powers of powers modulo p -/
theorem mz_powers (p i v c : Nat) : ((v % p) ^ i % p) * c % p = (c * v ^ i) % p := by
  rw [← Nat.pow_mod, Nat.mod_mul_mod, Nat.mul_comm]
/-- one turn of the sum of powers modulo q -/
theorem mz_sumturn (q s a f : Nat) : ((s % q) + (a * (f % q) % q)) % q = (s + a * f) % q := by
  rw [Nat.mul_mod_mod, ← Nat.add_mod]
/-- x modulo q, never negative -/
def md (x : Int32) (q : Nat) : Nat := (x.toInt % (q : Int)).toNat
theorem md_lt (x : Int32) {q : Nat} (h : 0 < q) : md x q < q := by
  have h1 := Int.emod_lt_of_pos x.toInt (show (0 : Int) < q by omega)
  have h2 := Int.emod_nonneg x.toInt (show (q : Int) ≠ 0 by omega)
  unfold md
  omega
/-- the remainder of Java's % is negative where x is, and then q less than ours -/
theorem md_rem {x : Int32} {q : Nat} (h : 0 < q) (hq : q < 2 ^ 31) : (¬ (x - x / nI q * nI q) < 0 → x - x / nI q * nI q = nI (md x q)) ∧ ((x - x / nI q * nI q) < 0 → x - x / nI q * nI q + nI q = nI (md x q)) := by
  have hq' : (nI q).toInt = (q : Int) := nI_toInt hq
  have hr : (x - x / nI q * nI q).toInt = x.toInt.tmod q := by rw [rem_toInt, hq']
  have hm := md_lt x h
  have hb := tmod_bounds (a := x.toInt) (show (0 : Int) < q by omega)
  have he2 := Int.emod_nonneg x.toInt (show (q : Int) ≠ 0 by omega)
  have h0 : (0 : Int32).toInt = 0 := by decide
  have ht : x.toInt.tmod q = if 0 ≤ x.toInt.tmod q then x.toInt % q else x.toInt % q - q := by
    have ha := Int.emod_emod_of_dvd x.toInt (Int.dvd_refl (q : Int))
    have hk : (x.toInt.tmod q) % q = x.toInt % q := by
      have := Int.mul_tdiv_add_tmod x.toInt q
      have h3 : x.toInt.tmod q = x.toInt - q * x.toInt.tdiv q := by omega
      rw [h3, Int.sub_mul_emod_self_left]
    by_cases c : 0 ≤ x.toInt.tmod q
    · rw [if_pos c, ← hk, Int.emod_eq_of_lt c hb.2]
    · rw [if_neg c]
      have h4 : (x.toInt.tmod q + q) % q = x.toInt.tmod q + q := Int.emod_eq_of_lt (by omega) (by omega)
      rw [Int.add_emod_right, hk] at h4
      omega
  refine ⟨fun c => Int32.toInt_inj.mp ?_, fun c => Int32.toInt_inj.mp ?_⟩
  · rw [Int32.lt_iff_toInt_lt, hr, h0] at c
    rw [hr, ht, if_pos (by omega), nI_toInt (by omega)]
    unfold md
    omega
  · rw [Int32.lt_iff_toInt_lt, hr, h0] at c
    have h5 : (x - x / nI q * nI q + nI q).toInt = (x - x / nI q * nI q).toInt + (nI q).toInt := Jvm.Kit.i32_add (by rw [hr, hq']; omega) (by rw [hr, hq']; omega)
    rw [h5, hr, hq', ht, if_neg (by omega), nI_toInt (by omega)]
    unfold md
    omega
/-- the sign of r ^ y where y is not negative -/
theorem md_xor {r y : Int32} (hy : ¬ y < 0) : (r ^^^ y) < 0 ↔ r < 0 := by
  have key : ∀ z : Int32, z < 0 ↔ z.toBitVec.msb = true := fun z => by
    rw [Int32.lt_iff_toInt_lt, BitVec.msb_eq_toInt]
    simp
  rw [key] at hy
  rw [key, key, Int32.toBitVec_xor, BitVec.msb_xor]
  cases h : y.toBitVec.msb
  · simp
  · exact absurd h hy
theorem md_subI {x y q : Nat} (hq : q < 2 ^ 31) (hx : x < q) (hy : y < q) : (nI x - nI y).toInt = (x : Int) - y := by
  have h1 := nI_toInt (n := x) (by omega)
  have h2 := nI_toInt (n := y) (by omega)
  rw [Jvm.Kit.i32_sub (by rw [h1, h2]; omega) (by rw [h1, h2]; omega), h1, h2]
theorem md_subN {x y q : Nat} (hq : q < 2 ^ 31) (hx : x < q) (hy : y < q) : md (nI x - nI y) q = if y ≤ x then x - y else x + q - y := by
  unfold md
  rw [md_subI hq hx hy]
  by_cases c : y ≤ x
  · rw [if_pos c, Int.emod_eq_of_lt (by omega) (by omega)]
    omega
  · rw [if_neg c]
    have h4 : ((x : Int) - y + q) % q = (x : Int) - y + q := Int.emod_eq_of_lt (by omega) (by omega)
    rw [Int.add_emod_right] at h4
    rw [h4]
    omega
theorem md_sub {x y q : Nat} (hq : q < 2 ^ 31) (hx : x < q) (hy : y < q) : (if y ≤ x then nI x - nI y else nI x - nI y + nI q) = nI (md (nI x - nI y) q) := by
  have h1 := md_subI hq hx hy
  rw [md_subN hq hx hy]
  by_cases c : y ≤ x
  · rw [if_pos c, if_pos c, pk_sub c]
  · rw [if_neg c, if_neg c]
    apply Int32.toInt_inj.mp
    have h2 := nI_toInt (n := q) hq
    rw [Jvm.Kit.i32_add (by rw [h1, h2]; omega) (by rw [h1, h2]; omega), h1, h2, nI_toInt (by omega)]
    omega
/-- the sign of Java's remainder -/
theorem md_sign {x : Int32} {q : Nat} (h : 0 < q) (hq : q < 2 ^ 31) : (¬ x < 0 → ¬ (x - x / nI q * nI q) < 0) ∧ (x < 0 → ¬ (x - x / nI q * nI q) = 0 → (x - x / nI q * nI q) < 0) := by
  have hq' : (nI q).toInt = (q : Int) := nI_toInt hq
  have hr : (x - x / nI q * nI q).toInt = x.toInt.tmod q := by rw [rem_toInt, hq']
  have h0 : (0 : Int32).toInt = 0 := by decide
  refine ⟨fun c => ?_, fun c hz => ?_⟩
  · rw [Int32.lt_iff_toInt_lt, h0] at c
    rw [Int32.lt_iff_toInt_lt, h0, hr]
    have h1 := Int.tmod_nonneg (q : Int) (show 0 ≤ x.toInt by omega)
    omega
  · rw [Int32.lt_iff_toInt_lt, h0] at c
    rw [Int32.lt_iff_toInt_lt, h0, hr]
    have h1 := Int.tmod_nonneg (q : Int) (show 0 ≤ -x.toInt by omega)
    rw [Int.neg_tmod] at h1
    have h2 : x.toInt.tmod q ≠ 0 := fun e => hz (Int32.toInt_inj.mp (by rw [hr, e, h0]))
    omega
