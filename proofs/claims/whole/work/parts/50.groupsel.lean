/-! which group is taken -/
noncomputable def gP (p q g h : Int32) : Nat := @ite _ (mz_so p q g h) (Classical.propDecidable _) (nn p) 2039
noncomputable def gQ (p q g h : Int32) : Nat := @ite _ (mz_so p q g h) (Classical.propDecidable _) (nn q) 1019
noncomputable def gG (p q g h : Int32) : Nat := @ite _ (mz_so p q g h) (Classical.propDecidable _) (nn g) 4
noncomputable def gH (p q g h : Int32) : Nat := @ite _ (mz_so p q g h) (Classical.propDecidable _) (nn h) 9
theorem nn_eq {x : Int32} (h : ¬ x < 0) : x = nI (nn x) := by
  obtain ⟨k, h1, rfl⟩ := nI_of h
  rw [nn_nI h1]
theorem nn_31 (x : Int32) : nn x < 2 ^ 31 := by
  have h1 := x.toInt_lt
  unfold nn Int32.toNatClampNeg
  omega
theorem nn_pos {x : Int32} (h : 0 < nn x) : ¬ x < 0 := fun q => by
  rw [Int32.lt_iff_toInt_lt] at q
  have e0 : (0 : Int32).toInt = 0 := by decide
  unfold nn Int32.toNatClampNeg at h
  omega
theorem lt2_0 {x : Int32} (h : ¬ x < 2) : ¬ x < 0 := fun q => h (by
  rw [Int32.lt_iff_toInt_lt] at q ⊢
  have e0 : (0 : Int32).toInt = 0 := by decide
  have e2 : (2 : Int32).toInt = 2 := by decide
  omega)
theorem so_yes {p q g h : Int32} (s : mz_so p q g h) : p = nI (gP p q g h) ∧ q = nI (gQ p q g h) ∧ g = nI (gG p q g h) ∧ h = nI (gH p q g h) := by
  unfold gP gQ gG gH
  rw [if_pos s, if_pos s, if_pos s, if_pos s]
  obtain ⟨h1, h2, -, -, h5, h6⟩ := s
  exact ⟨nn_eq (nn_pos (Nat.lt_of_lt_of_le (by decide) h1.1)), nn_eq (nn_pos (Nat.lt_of_lt_of_le (by decide) h2.1)), nn_eq (lt2_0 h5.1), nn_eq (lt2_0 h6.1)⟩
theorem so_no {p q g h : Int32} (s : ¬ mz_so p q g h) : (2039 : Int32) = nI (gP p q g h) ∧ (1019 : Int32) = nI (gQ p q g h) ∧ (4 : Int32) = nI (gG p q g h) ∧ (9 : Int32) = nI (gH p q g h) := by
  unfold gP gQ gG gH
  rw [if_neg s, if_neg s, if_neg s, if_neg s]
  decide
theorem mz_P1019 : mz_P 1019 := ⟨by decide, fun d h1 h2 h3 => by
  have h4 : d < 32 := by
    rcases Nat.lt_or_ge d 32 with c | c
    · exact c
    · have := Nat.mul_le_mul c c
      omega
  exact absurd h3 ((show ∀ d, d < 32 → 2 ≤ d → ¬ d ∣ 1019 by decide) d h4 h1)⟩
theorem g_ok (p q g h : Int32) : okG (gP p q g h) (gQ p q g h) (gG p q g h) (gH p q g h) ∧ mz_P (gQ p q g h) := by
  unfold gP gQ gG gH
  by_cases s : mz_so p q g h
  · rw [if_pos s, if_pos s, if_pos s, if_pos s]
    obtain ⟨h1, h2, -, -, h5, h6⟩ := s
    exact ⟨⟨h1.1, nn_31 p, h2.1, nn_31 q, h5.2.1, h6.2.1⟩, h2⟩
  · rw [if_neg s, if_neg s, if_neg s, if_neg s]
    exact ⟨⟨by decide, by decide, by decide, by decide, by decide, by decide⟩, mz_P1019⟩
theorem w_join {D : va_G} {cl : List vw_C} {A B : Nat → Prop} {w w2 : va_W} {H : Heap} (hP : va_P D cl w H) (hD : va_D A w) (hD2 : va_D B w2) (hB : ∀ q, B q → H.size ≤ q) (hA : ∀ q, H.size ≤ q → A q) : va_D A (w ++ w2) :=
  va_D.app hD (hD2.weaken (fun _ q _ h => hA _ (hB _ h))) (fun i j x y hx hy hxy => by
    have h1 := (hP i x hx).lt
    have h2 := hB _ (hD2.2 j y hy)
    omega)
def aZ (z sz : Nat) : Nat → Prop := fun q => q = z ∨ sz ≤ q
/-- the state behind the constructors -/
def S0 : Nat → Nat → Int32 := fun f j => if f = 4 then nI (j + 1) else 0
def SM0 : Nat → Nat → Int32 := fun _ _ => 0
/-- the class's world while its participants are made -/
def wI (Z : Nat → Nat) (cI cP : ClassId) (p0 q0 g0 h0 : Nat) (n : Nat) : va_W := [(Z 0, .inr (2, fC Z S0)), (Z 1, .inr (0, [.int (nI p0), .int (nI q0), .int (nI g0), .int (nI h0)])), (Z 2, .inl (cI, 7, .inl (S0 1))), (Z 3, .inl (cI, 7, .inl (S0 2))), (Z 4, .inl (cI, 7, .inl (S0 3))), (Z 5, .inl (cP, 7, .inr (.inr (.inr (.inr (fun j => if j < n then some (Z (6 + j)) else none))))))] ++ (List.range n).map (fun j => (Z (6 + j), .inr (1, fP S0 j)))
def zZ (Z : Nat → Nat) (k q : Nat) : Nat → Nat := fun i => if i = k then q else Z i
theorem zZ_ne {Z : Nat → Nat} {k q i : Nat} (h : i ≠ k) : zZ Z k q i = Z i := if_neg h
theorem zZ_at {Z : Nat → Nat} {k q : Nat} : zZ Z k q k = q := if_pos rfl
theorem wI_s (Z : Nat → Nat) (cI cP : ClassId) (p0 q0 g0 h0 : Nat) (n q : Nat) : (wI Z cI cP p0 q0 g0 h0 n ++ ([(q, .inr (1, fP S0 n))] : va_W)).set 5 (Z 5, .inl (cP, 7, .inr (.inr (.inr (.inr (va_up (fun j => if j < n then some (Z (6 + j)) else none) n (some q))))))) = wI (zZ Z (6 + n) q) cI cP p0 q0 g0 h0 (n + 1) := by
  have e1 : (va_up (fun j => if j < n then some (Z (6 + j)) else none) n (some q)) = (fun j => if j < n + 1 then some (zZ Z (6 + n) q (6 + j)) else none) := by
    funext j
    unfold va_up
    by_cases c : j = n
    · subst c
      rw [if_pos rfl, if_pos (by omega), zZ_at]
    · rw [if_neg c]
      show (if j < n then some (Z (6 + j)) else none) = _
      by_cases d : j < n
      · rw [if_pos d, if_pos (by omega), zZ_ne (by omega)]
      · rw [if_neg d, if_neg (by omega)]
  have e2 : (List.range (n + 1)).map (fun j => ((zZ Z (6 + n) q (6 + j), .inr (1, fP S0 j)) : Nat × va_E)) = (List.range n).map (fun j => ((Z (6 + j), .inr (1, fP S0 j)) : Nat × va_E)) ++ [(q, .inr (1, fP S0 n))] := by
    rw [List.range_succ, List.map_append]
    congr 1
    · refine List.map_congr_left fun j hj => ?_
      rw [zZ_ne (by have := List.mem_range.mp hj; omega)]
    · show [(zZ Z (6 + n) q (6 + n), _)] = _
      rw [zZ_at]
  have z : ∀ i, i < 6 → zZ Z (6 + n) q i = Z i := fun i hi => zZ_ne (by omega)
  unfold wI
  rw [e1, e2]
  simp only [fC, z 0 (by decide), z 1 (by decide), z 2 (by decide), z 3 (by decide), z 4 (by decide), z 5 (by decide)]
  rfl
theorem wI_7 {D : va_G} {cl : List vw_C} {Z : Nat → Nat} {cI cP : ClassId} {p0 q0 g0 h0 : Nat} {H : Heap} (h : va_P D cl (wI Z cI cP p0 q0 g0 h0 7) H) : va_P D cl (wC Z cI cP p0 q0 g0 h0 S0) H := by
  intro k q hk
  by_cases c : k = 5
  · subst c
    have h5 : q = (Z 5, .inl (cP, 7, .inr (.inr (.inr (.inr (fun j => some (Z (6 + j)))))))) := (Option.some.inj hk).symm
    have h6 := h 5 _ rfl
    rw [h5]
    show H[Z 5]? = some (vp_cell _ _)
    have h7 : H[Z 5]? = some (vp_cell cP (7, .inr (.inr (.inr (.inr (fun j => if j < 7 then some (Z (6 + j)) else none)))))) := h6
    rw [h7, vp_cell_q, vp_cell_q]
    unfold arrV
    congr 3
    funext j
    show va_rf (if j.val < 7 then some (Z (6 + j.val)) else none) = _
    rw [if_pos j.isLt]
  · refine h k q ?_
    have e : wI Z cI cP p0 q0 g0 h0 7 = (wC Z cI cP p0 q0 g0 h0 S0).set 5 (Z 5, .inl (cP, 7, .inr (.inr (.inr (.inr (fun j => if j < 7 then some (Z (6 + j)) else none)))))) := rfl
    rw [e, List.getElem?_set_ne (fun z => c z.symm)]
    exact hk
theorem wI_a (Z : Nat → Nat) (cI cP : ClassId) (p0 q0 g0 h0 : Nat) : (wC Z cI cP p0 q0 g0 h0 S0).map Prod.fst = (wI Z cI cP p0 q0 g0 h0 7).map Prod.fst := rfl
