-- DRAFT, never compiled: congruence modulo q over Int; sums and products over windows; Newton's divided differences at 0 = Lagrange at 0. Names mz_
def mz_c (q a b : Int) : Prop := ∃ k : Int, a = b + q * k
theorem mz_c.rf {q : Int} (a : Int) : mz_c q a a := ⟨0, by omega⟩
theorem mz_c.of {q a b : Int} (h : a = b) : mz_c q a b := ⟨0, by omega⟩
theorem mz_c.sy {q a b : Int} (h : mz_c q a b) : mz_c q b a := by
  obtain ⟨k, hk⟩ := h
  exact ⟨-k, by grind⟩
theorem mz_c.tr {q a b c : Int} (h : mz_c q a b) (h2 : mz_c q b c) : mz_c q a c := by
  obtain ⟨k, hk⟩ := h
  obtain ⟨j, hj⟩ := h2
  exact ⟨j + k, by grind⟩
theorem mz_c.ad {q a b c d : Int} (h : mz_c q a b) (h2 : mz_c q c d) : mz_c q (a + c) (b + d) := by
  obtain ⟨k, hk⟩ := h
  obtain ⟨j, hj⟩ := h2
  exact ⟨k + j, by grind⟩
theorem mz_c.su {q a b c d : Int} (h : mz_c q a b) (h2 : mz_c q c d) : mz_c q (a - c) (b - d) := by
  obtain ⟨k, hk⟩ := h
  obtain ⟨j, hj⟩ := h2
  exact ⟨k - j, by grind⟩
theorem mz_c.mu {q a b c d : Int} (h : mz_c q a b) (h2 : mz_c q c d) : mz_c q (a * c) (b * d) := by
  obtain ⟨k, hk⟩ := h
  obtain ⟨j, hj⟩ := h2
  exact ⟨k * d + b * j + q * k * j, by grind⟩
/-- what is congruent and within 0 .. q - 1 is the same -/
theorem mz_c.mod {q a b : Int} (h : mz_c q a b) : a % q = b % q := by
  obtain ⟨k, hk⟩ := h
  rw [hk, Int.add_mul_emod_self_left]
theorem mz_c.ofMod {q a b : Int} (h : a % q = b % q) : mz_c q a b := by
  have h1 := Int.mul_ediv_add_emod a q
  have h2 := Int.mul_ediv_add_emod b q
  exact ⟨a / q - b / q, by grind⟩
def mz_pr (f : Nat → Int) : Nat → Nat → Int
  | _, 0 => 1
  | lo, n + 1 => f lo * mz_pr f (lo + 1) n
def mz_sm (f : Nat → Int) : Nat → Nat → Int
  | _, 0 => 0
  | lo, n + 1 => f lo + mz_sm f (lo + 1) n
theorem mz_pr_last (f : Nat → Int) : ∀ (n lo : Nat), mz_pr f lo (n + 1) = mz_pr f lo n * f (lo + n)
  | 0, lo => by simp [mz_pr]
  | n + 1, lo => by
    have h := mz_pr_last f n (lo + 1)
    have e : mz_pr f lo (n + 1 + 1) = f lo * mz_pr f (lo + 1) (n + 1) := rfl
    have e2 : mz_pr f lo (n + 1) = f lo * mz_pr f (lo + 1) n := rfl
    rw [e, h, e2, show lo + 1 + n = lo + (n + 1) by omega, Int.mul_assoc]
theorem mz_sm_last (f : Nat → Int) : ∀ (n lo : Nat), mz_sm f lo (n + 1) = mz_sm f lo n + f (lo + n)
  | 0, lo => by simp [mz_sm]
  | n + 1, lo => by
    have h := mz_sm_last f n (lo + 1)
    have e : mz_sm f lo (n + 1 + 1) = f lo + mz_sm f (lo + 1) (n + 1) := rfl
    have e2 : mz_sm f lo (n + 1) = f lo + mz_sm f (lo + 1) n := rfl
    rw [e, h, e2, show lo + 1 + n = lo + (n + 1) by omega, Int.add_assoc]
theorem mz_pr_eq {f g : Nat → Int} : ∀ (n lo : Nat), (∀ i, lo ≤ i → i < lo + n → f i = g i) → mz_pr f lo n = mz_pr g lo n
  | 0, _, _ => rfl
  | n + 1, lo, h => by
    rw [mz_pr, mz_pr, h lo (Nat.le_refl _) (by omega), mz_pr_eq n (lo + 1) fun i h1 h2 => h i (by omega) (by omega)]
theorem mz_sm_c {q : Int} {f g : Nat → Int} : ∀ (n lo : Nat), (∀ i, lo ≤ i → i < lo + n → mz_c q (f i) (g i)) → mz_c q (mz_sm f lo n) (mz_sm g lo n)
  | 0, _, _ => mz_c.rf _
  | n + 1, lo, h => (h lo (Nat.le_refl _) (by omega)).ad (mz_sm_c n (lo + 1) fun i h1 h2 => h i (by omega) (by omega))
/-- termwise: f ~ (g - h) * c -/
theorem mz_sm_d {q c : Int} {f g h : Nat → Int} : ∀ (n lo : Nat), (∀ i, lo ≤ i → i < lo + n → mz_c q (f i) ((g i - h i) * c)) → mz_c q (mz_sm f lo n) ((mz_sm g lo n - mz_sm h lo n) * c)
  | 0, _, _ => mz_c.of (by simp [mz_sm])
  | n + 1, lo, hh => by
    have h1 := hh lo (Nat.le_refl _) (by omega)
    have h2 := mz_sm_d (q := q) (c := c) (f := f) (g := g) (h := h) n (lo + 1) fun i a b => hh i (by omega) (by omega)
    refine (h1.ad h2).tr (mz_c.of ?_)
    rw [mz_sm, mz_sm]
    grind
/-- the weight of the value at i in the divided difference over the window lo .. lo + n - 1 -/
def mz_wt (x : Nat → Int) (iv : Int → Int) (i lo n : Nat) : Int := mz_pr (fun m => if m = i then 1 else iv (x i - x m)) lo n
def mz_dd (x y : Nat → Int) (iv : Int → Int) (lo n : Nat) : Int := mz_sm (fun i => y i * mz_wt x iv i lo n) lo n
/-- iv is an inverse for all differences of places below t -/
def mz_iv (q : Int) (x : Nat → Int) (iv : Int → Int) (t : Nat) : Prop := ∀ i j : Nat, i < t → j < t → i ≠ j → mz_c q ((x i - x j) * iv (x i - x j)) 1
theorem mz_alg1 {q u w a b M : Int} (hu : mz_c q (u * a) 1) (hw : mz_c q (w * b) 1) {z c : Int} (hz : z = w - u) (hc : mz_c q (z * c) 1) : mz_c q (b * (M * a)) ((M * a - b * M) * c) := by
  obtain ⟨k, hk⟩ := hu
  obtain ⟨j, hj⟩ := hw
  obtain ⟨r, hr⟩ := hc
  -- a - b = (w - u) * a * b + q * (k * b - j * a), and (w - u) * c = 1 + q * r
  refine ⟨-(M * a * b * r) - M * c * (k * b - j * a), ?_⟩
  subst hz
  grind
theorem mz_alg2 {q z a c M : Int} (ha : mz_c q ((-z) * a) 1) (hc : mz_c q (z * c) 1) : mz_c q (M * a) ((0 - M) * c) := by
  obtain ⟨k, hk⟩ := ha
  obtain ⟨r, hr⟩ := hc
  -- a = a * (z c - q r) = - c (1 + q k) - q r a
  refine ⟨-(M * c * k) - M * r * a, ?_⟩
  grind
/-- the recursion of the divided differences -/
theorem mz_dd_step {q : Int} {x y : Nat → Int} {iv : Int → Int} {t : Nat} (hv : mz_iv q x iv t) (lo n : Nat) (h : lo + n + 1 < t) :
    mz_c q (mz_dd x y iv lo (n + 2)) ((mz_dd x y iv (lo + 1) (n + 1) - mz_dd x y iv lo (n + 1)) * iv (x (lo + n + 1) - x lo)) := by
  have hz := hv (lo + n + 1) lo h (by omega) (by omega)
  have e1 : mz_dd x y iv lo (n + 2) = y lo * mz_wt x iv lo lo (n + 2) + (mz_sm (fun i => y i * mz_wt x iv i lo (n + 2)) (lo + 1) n + y (lo + n + 1) * mz_wt x iv (lo + n + 1) lo (n + 2)) := by
    show y lo * _ + mz_sm _ (lo + 1) (n + 1) = _
    rw [mz_sm_last, show lo + 1 + n = lo + n + 1 by omega]
  have e2 : mz_dd x y iv (lo + 1) (n + 1) = mz_sm (fun i => y i * mz_wt x iv i (lo + 1) (n + 1)) (lo + 1) n + y (lo + n + 1) * mz_wt x iv (lo + n + 1) (lo + 1) (n + 1) := by
    show mz_sm _ (lo + 1) (n + 1) = _
    rw [mz_sm_last, show lo + 1 + n = lo + n + 1 by omega]
  have e3 : mz_dd x y iv lo (n + 1) = y lo * mz_wt x iv lo lo (n + 1) + mz_sm (fun i => y i * mz_wt x iv i lo (n + 1)) (lo + 1) n := rfl
  -- the weights, split at both ends
  have wA : ∀ i, mz_wt x iv i lo (n + 2) = (if lo = i then 1 else iv (x i - x lo)) * (mz_wt x iv i (lo + 1) n * (if lo + n + 1 = i then 1 else iv (x i - x (lo + n + 1)))) := fun i => by
    show _ * mz_pr _ (lo + 1) (n + 1) = _
    rw [mz_pr_last, show lo + 1 + n = lo + n + 1 by omega]
    rfl
  have wB : ∀ i, mz_wt x iv i (lo + 1) (n + 1) = mz_wt x iv i (lo + 1) n * (if lo + n + 1 = i then 1 else iv (x i - x (lo + n + 1))) := fun i => by
    show mz_pr _ (lo + 1) (n + 1) = _
    rw [mz_pr_last, show lo + 1 + n = lo + n + 1 by omega]
    rfl
  have wC : ∀ i, mz_wt x iv i lo (n + 1) = (if lo = i then 1 else iv (x i - x lo)) * mz_wt x iv i (lo + 1) n := fun i => rfl
  have mid : mz_c q (mz_sm (fun i => y i * mz_wt x iv i lo (n + 2)) (lo + 1) n) ((mz_sm (fun i => y i * mz_wt x iv i (lo + 1) (n + 1)) (lo + 1) n - mz_sm (fun i => y i * mz_wt x iv i lo (n + 1)) (lo + 1) n) * iv (x (lo + n + 1) - x lo)) := by
    refine mz_sm_d n (lo + 1) fun i h1 h2 => ?_
    have hu := hv i (lo + n + 1) (by omega) h (by omega)
    have hw := hv i lo (by omega) (by omega) (by omega)
    have hA := mz_alg1 (M := mz_wt x iv i (lo + 1) n) hu hw (z := x (lo + n + 1) - x lo) (by omega) hz
    have h0 := (mz_c.rf (q := q) (y i)).mu hA
    show mz_c q (y i * mz_wt x iv i lo (n + 2)) ((y i * mz_wt x iv i (lo + 1) (n + 1) - y i * mz_wt x iv i lo (n + 1)) * iv (x (lo + n + 1) - x lo))
    rw [wA, wB, wC, if_neg (by omega), if_neg (by omega)]
    refine h0.tr (mz_c.of ?_)
    grind
  have first : mz_c q (y lo * mz_wt x iv lo lo (n + 2)) ((0 - y lo * mz_wt x iv lo lo (n + 1)) * iv (x (lo + n + 1) - x lo)) := by
    have ha := hv lo (lo + n + 1) (by omega) h (by omega)
    have hA := mz_alg2 (M := mz_wt x iv lo (lo + 1) n) (z := x (lo + n + 1) - x lo) (a := iv (x lo - x (lo + n + 1))) (by rw [show -(x (lo + n + 1) - x lo) = x lo - x (lo + n + 1) by omega]; exact ha) hz
    rw [wA, wC, if_pos rfl, if_neg (by omega)]
    have h := (mz_c.rf (q := q) (y lo)).mu hA
    refine ((mz_c.of ?_).tr h).tr (mz_c.of ?_) <;> grind
  have last : y (lo + n + 1) * mz_wt x iv (lo + n + 1) lo (n + 2) = (y (lo + n + 1) * mz_wt x iv (lo + n + 1) (lo + 1) (n + 1) - 0) * iv (x (lo + n + 1) - x lo) := by
    rw [wA, wB, if_pos rfl, if_neg (by omega)]
    grind
  rw [e1, e2, e3]
  refine (first.ad (mid.ad (mz_c.of last))).tr (mz_c.of ?_)
  grind
theorem mz_sm_ac {f g : Nat → Int} (c : Int) : ∀ (n lo : Nat), mz_sm f lo n + mz_sm g lo n * c = mz_sm (fun i => f i + g i * c) lo n
  | 0, _ => by simp [mz_sm]
  | n + 1, lo => by
    have h := mz_sm_ac (f := f) (g := g) c n (lo + 1)
    have e1 : mz_sm f lo (n + 1) = f lo + mz_sm f (lo + 1) n := rfl
    have e2 : mz_sm g lo (n + 1) = g lo + mz_sm g (lo + 1) n := rfl
    have e3 : mz_sm (fun i => f i + g i * c) lo (n + 1) = (f lo + g lo * c) + mz_sm (fun i => f i + g i * c) (lo + 1) n := rfl
    rw [e1, e2, e3, ← h]
    grind
/-- Newton's sum at 0 -/
def mz_nw (x y : Nat → Int) (iv : Int → Int) : Nat → Int
  | 0 => 0
  | n + 1 => mz_nw x y iv n + mz_dd x y iv 0 (n + 1) * mz_pr (fun m => -x m) 0 n
def mz_lw (x : Nat → Int) (iv : Int → Int) (i n : Nat) : Int := mz_pr (fun m => if m = i then 1 else (-x m) * iv (x i - x m)) 0 n
def mz_lg (x y : Nat → Int) (iv : Int → Int) (n : Nat) : Int := mz_sm (fun i => y i * mz_lw x iv i n) 0 n
/-- the product of all (-x m) splits: wt * NP = lw * (-x i) for i < n, = lw for n <= i -/
theorem mz_np {x : Nat → Int} {iv : Int → Int} (i : Nat) : ∀ n : Nat, mz_wt x iv i 0 n * mz_pr (fun m => -x m) 0 n = mz_lw x iv i n * (if i < n then -x i else 1)
  | 0 => by simp [mz_wt, mz_lw, mz_pr]
  | n + 1 => by
    have h := mz_np (x := x) (iv := iv) i n
    have a1 : mz_wt x iv i 0 (n + 1) = mz_wt x iv i 0 n * (if n = i then 1 else iv (x i - x n)) := by
      unfold mz_wt; rw [mz_pr_last]; simp
    have a2 : mz_pr (fun m => -x m) 0 (n + 1) = mz_pr (fun m => -x m) 0 n * (-x n) := by rw [mz_pr_last]; simp
    have a3 : mz_lw x iv i (n + 1) = mz_lw x iv i n * (if n = i then 1 else (-x n) * iv (x i - x n)) := by
      unfold mz_lw; rw [mz_pr_last]; simp
    rw [a1, a2, a3]
    rcases Nat.lt_trichotomy i n with c | c | c
    · rw [if_neg (by omega), if_neg (by omega), if_pos (by omega)]
      rw [if_pos c] at h
      grind
    · subst c
      rw [if_pos rfl, if_pos rfl, if_pos (by omega)]
      rw [if_neg (by omega)] at h
      grind
    · rw [if_neg (by omega), if_neg (by omega), if_neg (by omega)]
      rw [if_neg (by omega)] at h
      grind
theorem mz_newton {q : Int} {x y : Nat → Int} {iv : Int → Int} {t : Nat} (hv : mz_iv q x iv t) : ∀ n : Nat, n ≤ t → mz_c q (mz_nw x y iv n) (mz_lg x y iv n)
  | 0, _ => mz_c.rf _
  | n + 1, hn => by
    have ih := mz_newton (y := y) hv n (by omega)
    -- term by term: for i < n: y i * lw(i, n) + y i * wt(i, 0, n) * iv(x i - x n) * NP n ~ y i * lw(i, n) * (-x n) * iv(x i - x n)
    have e1 : mz_dd x y iv 0 (n + 1) = mz_sm (fun i => y i * mz_wt x iv i 0 (n + 1)) 0 n + y n * mz_wt x iv n 0 (n + 1) := by
      show mz_sm _ 0 (n + 1) = _
      rw [mz_sm_last]; simp
    have e2 : mz_lg x y iv (n + 1) = mz_sm (fun i => y i * mz_lw x iv i (n + 1)) 0 n + y n * mz_lw x iv n (n + 1) := by
      show mz_sm _ 0 (n + 1) = _
      rw [mz_sm_last]; simp
    have e3 : mz_nw x y iv (n + 1) = mz_nw x y iv n + mz_dd x y iv 0 (n + 1) * mz_pr (fun m => -x m) 0 n := rfl
    have w1 : ∀ i, mz_wt x iv i 0 (n + 1) = mz_wt x iv i 0 n * (if n = i then 1 else iv (x i - x n)) := fun i => by
      unfold mz_wt; rw [mz_pr_last]; simp
    have w2 : ∀ i, mz_lw x iv i (n + 1) = mz_lw x iv i n * (if n = i then 1 else (-x n) * iv (x i - x n)) := fun i => by
      unfold mz_lw; rw [mz_pr_last]; simp
    have hN := mz_np (x := x) (iv := iv) n n
    rw [if_neg (by omega)] at hN
    have eN : y n * mz_wt x iv n 0 (n + 1) * mz_pr (fun m => -x m) 0 n = y n * mz_lw x iv n (n + 1) := by
      rw [w1, w2, if_pos rfl, if_pos rfl]
      grind
    have hS : mz_c q (mz_sm (fun i => y i * mz_lw x iv i n + y i * mz_wt x iv i 0 (n + 1) * mz_pr (fun m => -x m) 0 n) 0 n) (mz_sm (fun i => y i * mz_lw x iv i (n + 1)) 0 n) := by
      refine mz_sm_c n 0 fun i h1 h2 => ?_
      have hi := mz_np (x := x) (iv := iv) i n
      rw [if_pos (by omega)] at hi
      obtain ⟨k, hk⟩ := hv i n (by omega) (by omega) (by omega)
      rw [w1, w2, if_neg (by omega), if_neg (by omega)]
      refine ⟨-(y i * mz_lw x iv i n * k), ?_⟩
      generalize iv (x i - x n) = v at *
      generalize mz_lw x iv i n = W at *
      generalize mz_wt x iv i 0 n = V at *
      generalize mz_pr (fun m => -x m) 0 n = N at *
      grind
    have hL : mz_lg x y iv n = mz_sm (fun i => y i * mz_lw x iv i n) 0 n := rfl
    rw [e3, e1, e2]
    refine ((ih.ad (mz_c.rf _)).tr (mz_c.of (?_ : _ = mz_sm (fun i => y i * mz_lw x iv i n + y i * mz_wt x iv i 0 (n + 1) * mz_pr (fun m => -x m) 0 n) 0 n + y n * mz_lw x iv n (n + 1)))).tr (hS.ad (mz_c.rf _))
    rw [hL, ← mz_sm_ac, ← eN]
    grind
