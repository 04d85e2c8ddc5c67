/-! the secret modulo q: the reference's divided differences and the class's weights tell the same -/
def ivq (q : Nat) (d : Int) : Int := (((d % (q : Int)).toNat ^ (q - 2) % q : Nat) : Int)
theorem mz_cN {q a b : Nat} (h : a % q = b % q) : mz_c q a b := mz_c.ofMod (by rw [← Int.natCast_emod, ← Int.natCast_emod, h])
theorem mz_cM {q a : Nat} : mz_c q ((a % q : Nat) : Int) a := mz_cN (Nat.mod_mod _ _)
theorem mz_cE {q a b : Nat} (h : mz_c q a b) (ha : a < q) (hb : b < q) : a = b := by
  have h1 := h.mod
  rw [← Int.natCast_emod, ← Int.natCast_emod, Nat.mod_eq_of_lt ha, Nat.mod_eq_of_lt hb] at h1
  exact Int.ofNat.inj h1
theorem mz_c0 {q a : Nat} (h : q ∣ a) : mz_c q a 0 := by
  obtain ⟨k, rfl⟩ := h
  exact ⟨k, by simp⟩
theorem md_c (x : Int32) {q : Nat} (h : 0 < q) : mz_c q (md x q) x.toInt := by
  have h0 : 0 ≤ x.toInt % (q : Int) := Int.emod_nonneg _ (by omega)
  refine mz_c.ofMod ?_
  rw [md, Int.toNat_of_nonneg h0, Int.emod_emod_of_dvd _ (Int.dvd_refl _)]
theorem mz_iq {q : Nat} (hq : mz_P q) {y : Nat} (hy : ¬ q ∣ y) : mz_c q ((y : Int) * ((y ^ (q - 2) % q : Nat) : Int)) 1 := by
  have h := mz_inv hq hy
  have h2 : mz_c q (((y * y ^ (q - 2) : Nat)) : Int) ((1 : Nat) : Int) := mz_cN (by rw [h]; exact (Nat.mod_eq_of_lt (Nat.lt_of_lt_of_le (by decide) hq.1)).symm)
  refine ((mz_c.rf _).mu mz_cM).tr ?_
  rw [← Int.natCast_mul]
  exact h2
theorem ivq_c {q : Nat} (hq : mz_P q) {d : Int} (h : ¬ (q : Int) ∣ d) : mz_c q (d * ivq q d) 1 := by
  have h2 := hq.1
  have h0 : 0 ≤ d % (q : Int) := Int.emod_nonneg _ (by omega)
  have e : (((d % (q : Int)).toNat : Nat) : Int) = d % (q : Int) := Int.toNat_of_nonneg h0
  have hd : mz_c q d (((d % (q : Int)).toNat : Nat) : Int) := mz_c.ofMod (by rw [e, Int.emod_emod_of_dvd _ (Int.dvd_refl _)])
  have hn : ¬ q ∣ (d % (q : Int)).toNat := fun z => h (by
    have hz := (hd.tr (mz_c0 z)).mod
    exact Int.dvd_of_emod_eq_zero (by rw [hz]; simp))
  exact (hd.mu (mz_c.rf _)).tr (mz_iq hq hn)
/-- the rows of differences, level by level -/
def dk (q : Nat) (x y : Nat → Nat) : Nat → Nat → Nat
  | 0, j => y j
  | k + 1, j => if j ≤ k then dk q x y k j else md (nI (dk q x y k j) - nI (dk q x y k (j - 1))) q * (md (nI (x j) - nI (x (j - (k + 1)))) q ^ (q - 2) % q) % q
theorem dk_0 {q : Nat} {x y : Nat → Nat} {k j : Nat} (h : j ≤ k) : dk q x y (k + 1) j = dk q x y k j := if_pos h
theorem dk_1 {q : Nat} {x y : Nat → Nat} {k j : Nat} (h : ¬ j ≤ k) : dk q x y (k + 1) j = md (nI (dk q x y k j) - nI (dk q x y k (j - 1))) q * (md (nI (x j) - nI (x (j - (k + 1)))) q ^ (q - 2) % q) % q := if_neg h
theorem dk_lt {q : Nat} (hq : 0 < q) {x y : Nat → Nat} {t : Nat} (hy : ∀ j, j < t → y j < q) : ∀ k j, j < t → dk q x y k j < q
  | 0, j, h => hy j h
  | k + 1, j, h => by
    by_cases c : j ≤ k
    · rw [dk_0 c]; exact dk_lt hq hy k j h
    · rw [dk_1 c]; exact Nat.mod_lt _ hq
theorem dk_c {q : Nat} (hq : mz_P q) (hq31 : q < 2 ^ 31) {x y : Nat → Nat} {t : Nat} (hx : ∀ j, j < t → x j < 8) (hy : ∀ j, j < t → y j < q) (hv : mz_iv q (fun m => (x m : Int)) (ivq q) t) :
    ∀ k j, j < t → mz_c q (dk q x y k j) (mz_dd (fun m => (x m : Int)) (fun m => (y m : Int)) (ivq q) (j - k) (min j k + 1))
  | 0, j, h => mz_c.of (by simp [dk, mz_dd, mz_sm, mz_wt, mz_pr])
  | k + 1, j, h => by
    have h2 := hq.1
    by_cases c : j ≤ k
    · have ih := dk_c hq hq31 hx hy hv k j h
      rw [dk_0 c, show j - (k + 1) = j - k by omega, show min j (k + 1) = min j k by omega]
      exact ih
    · have ia := dk_c hq hq31 hx hy hv k j h
      have ib := dk_c hq hq31 hx hy hv k (j - 1) (by omega)
      have hs := mz_dd_step (y := fun m => (y m : Int)) hv (j - (k + 1)) k (by omega)
      rw [show j - (k + 1) + k + 1 = j by omega] at hs
      rw [show min j k + 1 = k + 1 by omega, show j - k = j - (k + 1) + 1 by omega] at ia
      rw [show min (j - 1) k + 1 = k + 1 by omega, show j - 1 - k = j - (k + 1) by omega] at ib
      rw [dk_1 c, show min j (k + 1) + 1 = k + 2 by omega]
      have la := dk_lt (by omega) (x := x) hy k j h
      have lb := dk_lt (by omega) (x := x) hy k (j - 1) (by omega)
      have m1 := md_c (nI (dk q x y k j) - nI (dk q x y k (j - 1))) (show 0 < q by omega)
      rw [md_subI hq31 la lb] at m1
      have e2 : ((md (nI (x j) - nI (x (j - (k + 1)))) q ^ (q - 2) % q : Nat) : Int) = ivq q ((x j : Int) - (x (j - (k + 1)) : Int)) := by
        rw [md, md_subI (q := 8) (by decide) (hx j h) (hx _ (by omega))]
        rfl
      refine (mz_cM.tr ?_).tr hs.sy
      rw [Int.natCast_mul, e2]
      exact (m1.tr (ia.su ib)).mu (mz_c.rf _)
/-- Horner's rule over Newton's form -/
def hz (q : Nat) (x v : Nat → Nat) : Nat → Nat → Nat
  | _, 0 => 0
  | lo, n + 1 => (hz q x v (lo + 1) n * md (-(nI (x lo))) q % q + v lo) % q
def hzI (x v : Nat → Int) : Nat → Nat → Int
  | _, 0 => 0
  | lo, n + 1 => hzI x v (lo + 1) n * (-x lo) + v lo
theorem hz_lt {q : Nat} (hq : 0 < q) (x v : Nat → Nat) : ∀ n lo, hz q x v lo n < q
  | 0, _ => hq
  | _ + 1, _ => Nat.mod_lt _ hq
theorem nI_neg8 : ∀ x, x < 8 → (-(nI x)).toInt = -(x : Int) := by decide
theorem hz_c {q : Nat} (hq : 0 < q) {x v : Nat → Nat} {w : Nat → Int} {t : Nat} (hx : ∀ j, j < t → x j < 8) (hw : ∀ j, j < t → mz_c q (v j) (w j)) : ∀ n lo, lo + n ≤ t → mz_c q (hz q x v lo n) (hzI (fun m => (x m : Int)) w lo n)
  | 0, _, _ => mz_c.rf _
  | n + 1, lo, h => by
    have ih := hz_c hq hx hw n (lo + 1) (by omega)
    have m1 := md_c (-(nI (x lo))) hq
    rw [nI_neg8 _ (hx lo (by omega))] at m1
    refine mz_cM.tr ?_
    rw [Int.natCast_add]
    refine (mz_cM.tr ?_).ad (hw lo (by omega))
    rw [Int.natCast_mul]
    exact ih.mu m1
theorem hzI_last (x v : Nat → Int) : ∀ n lo, hzI x v lo (n + 1) = hzI x v lo n + v (lo + n) * mz_pr (fun m => -x m) lo n
  | 0, lo => by simp [hzI, mz_pr]
  | n + 1, lo => by
    have ih := hzI_last x v n (lo + 1)
    have e1 : hzI x v lo (n + 1 + 1) = hzI x v (lo + 1) (n + 1) * (-x lo) + v lo := rfl
    have e2 : hzI x v lo (n + 1) = hzI x v (lo + 1) n * (-x lo) + v lo := rfl
    have e3 : mz_pr (fun m => -x m) lo (n + 1) = -x lo * mz_pr (fun m => -x m) (lo + 1) n := rfl
    rw [e1, e2, e3, ih, show lo + 1 + n = lo + (n + 1) by omega]
    grind
theorem hzI_nw (x y : Nat → Int) (iv : Int → Int) : ∀ n, hzI x (fun m => mz_dd x y iv 0 (m + 1)) 0 n = mz_nw x y iv n
  | 0 => rfl
  | n + 1 => by
    rw [hzI_last, hzI_nw x y iv n, Nat.zero_add]
    rfl
/-- what the reference tells -/
theorem hz_lg {q : Nat} (hq : mz_P q) (hq31 : q < 2 ^ 31) {x y : Nat → Nat} {t : Nat} (hx : ∀ j, j < t → x j < 8) (hy : ∀ j, j < t → y j < q) (hv : mz_iv q (fun m => (x m : Int)) (ivq q) t) :
    mz_c q (hz q x (dk q x y (t - 1)) 0 t) (mz_lg (fun m => (x m : Int)) (fun m => (y m : Int)) (ivq q) t) := by
  have h2 := hq.1
  refine (hz_c (w := fun m => mz_dd (fun m => (x m : Int)) (fun m => (y m : Int)) (ivq q) 0 (m + 1)) (by omega) hx (fun j hj => ?_) t 0 (by omega)).tr ?_
  · have h := dk_c hq hq31 hx hy hv (t - 1) j hj
    rw [show j - (t - 1) = 0 by omega, show min j (t - 1) = j by omega] at h
    exact h
  · rw [hzI_nw]
    exact mz_newton hv t (Nat.le_refl t)
/-! the class's weights -/
theorem mz_pr_mu {q : Int} {f g h : Nat → Int} : ∀ (n lo : Nat), (∀ i, lo ≤ i → i < lo + n → mz_c q (f i * g i) (h i)) → mz_c q (mz_pr f lo n * mz_pr g lo n) (mz_pr h lo n)
  | 0, _, _ => mz_c.of (by simp [mz_pr])
  | n + 1, lo, hh => by
    have h1 := hh lo (Nat.le_refl _) (by omega)
    have h2 := mz_pr_mu n (lo + 1) fun i a b => hh i (by omega) (by omega)
    refine (mz_c.of ?_).tr (h1.mu h2)
    rw [mz_pr, mz_pr]
    grind
theorem mz_pr_one : ∀ (n lo : Nat), mz_pr (fun _ => (1 : Int)) lo n = 1
  | 0, _ => rfl
  | n + 1, lo => by rw [mz_pr, mz_pr_one n (lo + 1)]; rfl
theorem mz_ct_mono {f : Nat → Int32} {i : Nat} : ∀ {j : Nat}, i ≤ j → mz_ct f i ≤ mz_ct f j
  | 0, h => by rw [show i = 0 by omega]; exact Nat.le_refl _
  | j + 1, h => by
    rcases Nat.lt_or_ge i (j + 1) with q | q
    · have ih := mz_ct_mono (f := f) (show i ≤ j by omega)
      by_cases c : f j = 0
      · rw [mz_ct_0 c]; exact ih
      · rw [mz_ct_1 c]; omega
    · rw [show i = j + 1 by omega]; exact Nat.le_refl _
theorem mz_ct_lt {f : Nat → Int32} {i j : Nat} (hi : ¬ f i = 0) (h : i < j) : mz_ct f i < mz_ct f j := by
  have h1 := mz_ct_mono (f := f) (show i + 1 ≤ j by omega)
  rw [mz_ct_1 hi] at h1
  omega
section WTC
variable {q : Nat} {f : Nat → Int32} {x : Nat → Nat} {i n : Nat}
theorem abC_c (hx : ∀ j, j < n → ¬ f j = 0 → x (mz_ct f j) = j + 1) (hf : ¬ f i = 0) : ∀ j, j ≤ n → mz_c q (abC q f i j) (mz_pr (fun m => if m = mz_ct f i then 1 else (x m : Int)) 0 (mz_ct f j))
  | 0, _ => mz_c.rf _
  | j + 1, h => by
    have ih := abC_c hx hf j (by omega)
    by_cases c0 : f j = 0
    · rw [abC_0 (Or.inr c0), mz_ct_0 c0]; exact ih
    by_cases c : j = i
    · subst c
      rw [abC_0 (Or.inl rfl), mz_ct_1 c0, mz_pr_last, Nat.zero_add, if_pos rfl, Int.mul_one]
      exact ih
    · have hne : ¬ mz_ct f j = mz_ct f i := by
        rcases Nat.lt_or_ge j i with z | z
        · have := mz_ct_lt c0 z; omega
        · have := mz_ct_lt hf (show i < j by omega); omega
      rw [abC_1 (fun z => z.elim c c0), mz_ct_1 c0, mz_pr_last, Nat.zero_add, if_neg hne, hx j (by omega) c0]
      refine mz_cM.tr ?_
      rw [Int.natCast_mul]
      exact ih.mu (mz_c.rf _)
theorem beC_c (hq : 0 < q) (hn : n ≤ 7) (hi : i < n) (hx : ∀ j, j < n → ¬ f j = 0 → x (mz_ct f j) = j + 1) (hf : ¬ f i = 0) : ∀ j, j ≤ n → mz_c q (beC q f i j) (mz_pr (fun m => if m = mz_ct f i then 1 else (x m : Int) - (x (mz_ct f i) : Int)) 0 (mz_ct f j))
  | 0, _ => mz_c.rf _
  | j + 1, h => by
    have ih := beC_c hq hn hi hx hf j (by omega)
    by_cases c0 : f j = 0
    · rw [beC_0 (Or.inr c0), mz_ct_0 c0]; exact ih
    by_cases c : j = i
    · subst c
      rw [beC_0 (Or.inl rfl), mz_ct_1 c0, mz_pr_last, Nat.zero_add, if_pos rfl, Int.mul_one]
      exact ih
    · have hne : ¬ mz_ct f j = mz_ct f i := by
        rcases Nat.lt_or_ge j i with z | z
        · have := mz_ct_lt c0 z; omega
        · have := mz_ct_lt hf (show i < j by omega); omega
      rw [beC_1 (fun z => z.elim c c0), mz_ct_1 c0, mz_pr_last, Nat.zero_add, if_neg hne, hx j (by omega) c0, hx i hi hf]
      refine mz_cM.tr ?_
      rw [Int.natCast_mul]
      have m1 := md_c (nI (j + 1) - nI (i + 1)) hq
      rw [md_subI (q := 8) (by decide) (by omega) (by omega)] at m1
      rw [hx i hi hf] at ih
      exact ih.mu m1
theorem wtC_c (hq : mz_P q) (hn : n ≤ 7) (hi : i < n) (hx : ∀ j, j < n → ¬ f j = 0 → x (mz_ct f j) = j + 1) (hf : ¬ f i = 0) (hv : mz_iv q (fun m => (x m : Int)) (ivq q) (mz_ct f n)) :
    mz_c q (wtC q f i n) (mz_lw (fun m => (x m : Int)) (ivq q) (mz_ct f i) (mz_ct f n)) := by
  have h2 := hq.1
  have hci := mz_ct_lt hf hi
  have hA := abC_c (q := q) hx hf n (Nat.le_refl n)
  have hB := beC_c (q := q) (by omega) hn hi hx hf n (Nat.le_refl n)
  generalize hb : mz_pr (fun m => if m = mz_ct f i then 1 else (x m : Int) - (x (mz_ct f i) : Int)) 0 (mz_ct f n) = B at hB
  generalize ha : mz_pr (fun m => if m = mz_ct f i then 1 else (x m : Int)) 0 (mz_ct f n) = A at hA
  have hLB : mz_c q (mz_lw (fun m => (x m : Int)) (ivq q) (mz_ct f i) (mz_ct f n) * B) A := by
    rw [← hb, ← ha, mz_lw]
    refine mz_pr_mu _ _ fun m _ hm => ?_
    by_cases c : m = mz_ct f i
    · rw [if_pos c, if_pos c, if_pos c]; exact mz_c.rf _
    · rw [if_neg c, if_neg c, if_neg c]
      have h := hv (mz_ct f i) m hci (by omega) (fun z => c z.symm)
      refine ((mz_c.of ?_).tr ((mz_c.rf (x m : Int)).mu h)).tr (mz_c.of (Int.mul_one _))
      grind
  have hWB : mz_c q (mz_pr (fun m => if m = mz_ct f i then 1 else -ivq q ((x (mz_ct f i) : Int) - (x m : Int))) 0 (mz_ct f n) * B) 1 := by
    rw [← hb]
    refine (mz_pr_mu (h := fun _ => 1) _ _ fun m _ hm => ?_).tr (mz_c.of (mz_pr_one _ _))
    by_cases c : m = mz_ct f i
    · rw [if_pos c, if_pos c]; exact mz_c.rf _
    · rw [if_neg c, if_neg c]
      have h := hv (mz_ct f i) m hci (by omega) (fun z => c z.symm)
      refine (mz_c.of ?_).tr h
      grind
  have hnd : ¬ q ∣ beC q f i n := fun z => by
    have hz := (((mz_c.rf _).mu (hB.sy.tr (mz_c0 z))).sy.tr hWB).mod
    rw [Int.mul_zero] at hz
    have h1 : (1 : Int) % (q : Int) = 1 := Int.emod_eq_of_lt (by omega) (by omega)
    rw [h1] at hz
    simp at hz
  have hinv := mz_iq hq hnd
  refine mz_cM.tr ?_
  rw [Int.natCast_mul]
  generalize (((beC q f i n ^ (q - 2) % q : Nat)) : Int) = I at hinv ⊢
  refine ((hA.tr hLB.sy).mu (mz_c.rf I)).tr ?_
  refine ((mz_c.of (Int.mul_assoc _ _ _)).tr ((mz_c.rf _).mu ((hB.sy.mu (mz_c.rf I)).tr hinv))).tr (mz_c.of (Int.mul_one _))
end WTC
theorem smC_c {q : Nat} {f U : Nat → Int32} {x y : Nat → Nat} {n : Nat} (hq : mz_P q) (hn : n ≤ 7) (hx : ∀ j, j < n → ¬ f j = 0 → x (mz_ct f j) = j + 1) (hy : ∀ j, j < n → ¬ f j = 0 → y (mz_ct f j) = nn (U j)) (hv : mz_iv q (fun m => (x m : Int)) (ivq q) (mz_ct f n)) :
    ∀ j, j ≤ n → mz_c q (smC q f U n j) (mz_sm (fun m => (y m : Int) * mz_lw (fun m => (x m : Int)) (ivq q) m (mz_ct f n)) 0 (mz_ct f j))
  | 0, _ => mz_c.rf _
  | j + 1, h => by
    have ih := smC_c hq hn hx hy hv j (by omega)
    by_cases c0 : f j = 0
    · rw [smC_0 c0, mz_ct_0 c0]; exact ih
    · rw [smC_1 c0, mz_ct_1 c0, mz_sm_last, Nat.zero_add, hy j (by omega) c0]
      refine mz_cM.tr ?_
      rw [Int.natCast_add]
      refine ih.ad (mz_cM.tr ?_)
      rw [Int.natCast_mul]
      exact (mz_c.rf _).mu (wtC_c hq hn (by omega) hx c0 hv)
/-- distinct places below q have inverses for their differences -/
theorem mz_iv_of {q : Nat} (hq : mz_P q) {x : Nat → Nat} {t : Nat} (hx : ∀ j, j < t → x j < q) (hd : ∀ i j, i < t → j < t → i ≠ j → x i ≠ x j) : mz_iv q (fun m => (x m : Int)) (ivq q) t := fun i j hi hj hne => by
  refine ivq_c hq fun z => ?_
  have h1 := hx i hi
  have h2 := hx j hj
  have h3 := hd i j hi hj hne
  obtain ⟨k, hk⟩ := z
  have hk : (x i : Int) - (x j : Int) = (q : Int) * k := hk
  have h4 : k < 1 := by
    rcases Int.lt_or_le k 1 with c | c
    · exact c
    · have := Int.mul_le_mul_of_nonneg_left c (show (0 : Int) ≤ (q : Int) by omega)
      omega
  have h5 : -1 < k := by
    rcases Int.lt_or_le (-1) k with c | c
    · exact c
    · have := Int.mul_le_mul_of_nonneg_left c (show (0 : Int) ≤ (q : Int) by omega)
      omega
  have h6 : k = 0 := by omega
  rw [h6, Int.mul_zero] at hk
  omega
/-- both tell the same secret -/
theorem mz_same {q : Nat} {f U : Nat → Int32} {x y : Nat → Nat} {n t : Nat} (hq : mz_P q) (hq31 : q < 2 ^ 31) (hn : n ≤ 7) (hnq : n < q) (ht : mz_ct f n = t)
    (hx : ∀ j, j < n → ¬ f j = 0 → x (mz_ct f j) = j + 1) (hy : ∀ j, j < n → ¬ f j = 0 → y (mz_ct f j) = nn (U j)) (hU : ∀ j, j < n → ¬ f j = 0 → okN (U j) q) :
    smC q f U n n = hz q x (dk q x y (t - 1)) 0 t := by
  have h2 := hq.1
  have hp : ∀ k, k ≤ n → ∀ m, m < mz_ct f k → ∃ j, j < k ∧ ¬ f j = 0 ∧ mz_ct f j = m := by
    intro k
    induction k with
    | zero => intro _ m hm; exact absurd hm (Nat.not_lt_zero m)
    | succ k ih =>
      intro hk m hm
      by_cases c : f k = 0
      · rw [mz_ct_0 c] at hm
        obtain ⟨j, a, b, d⟩ := ih (by omega) m hm
        exact ⟨j, by omega, b, d⟩
      · rw [mz_ct_1 c] at hm
        rcases (show m < mz_ct f k ∨ m = mz_ct f k by omega) with z | z
        · obtain ⟨j, a, b, d⟩ := ih (by omega) m z
          exact ⟨j, by omega, b, d⟩
        · exact ⟨k, by omega, c, z.symm⟩
  have hx8 : ∀ m, m < t → x m < 8 ∧ x m < q := fun m hm => by
    obtain ⟨j, a, b, d⟩ := hp n (Nat.le_refl n) m (by omega)
    rw [← d, hx j a b]; omega
  have hyq : ∀ m, m < t → y m < q := fun m hm => by
    obtain ⟨j, a, b, d⟩ := hp n (Nat.le_refl n) m (by omega)
    rw [← d, hy j a b]; exact (hU j a b).lt
  have hv := mz_iv_of hq (x := x) (t := t) (fun m hm => (hx8 m hm).2) (fun i j hi hj hne => by
    obtain ⟨i', a, b, d⟩ := hp n (Nat.le_refl n) i (by omega)
    obtain ⟨j', a2, b2, d2⟩ := hp n (Nat.le_refl n) j (by omega)
    rw [← d, ← d2, hx i' a b, hx j' a2 b2]
    intro z
    exact hne (by rw [← d, ← d2, show i' = j' by omega]))
  have hA := smC_c (U := U) (y := y) hq hn hx hy (by rw [ht]; exact hv) n (Nat.le_refl n)
  rw [ht] at hA
  have hB := hz_lg (y := y) hq hq31 (fun m hm => (hx8 m hm).1) hyq hv
  exact mz_cE (hA.tr hB.sy) (smC_lt h2 _ _ _ _) (hz_lt (by omega) _ _ _ _)
