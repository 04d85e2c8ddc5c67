section ST
variable {l : Launch} {dC : Nat → ClassId} {dI : Nat → Nat → Nat} {Z Y : Nat → Nat} {cI cP cL cJ cZ : ClassId} {p0 q0 g0 h0 ou : Nat} {S M : Nat → Nat → Int32} {f : Nat → Int64}
set_option maxRecDepth 100000 in
set_option maxHeartbeats 4000000 in
theorem s_answer (hlt : l.stackTraces = false) (ok : okG p0 q0 g0 h0) (R : Rel p0 q0 g0 h0 S M) (a1 a2 a3 : Int32) : ∃ (k : Int32) (S1 M1 : Nat → Nat → Int32) (f1 : Nat → Int64) (r : Int32), Wp l y_L_answer ws_L_answer [.ref (Z 0), .int a1, .int a2, .int a3, .ref ou] dC dI (wC Z cI cP p0 q0 g0 h0 S ++ oL ou cL f) (wC Z cI cP p0 q0 g0 h0 S1 ++ oL ou cL f1) (tysL cI cP cL) k ∧ Wr l y_M_answer ws_M_answer 4 95 [.ref (Y 0), .int a1, .int a2, .int a3] (dC, dI) cls (tysM cJ cZ) (wM Y cJ cZ p0 q0 g0 h0 M) (wM Y cJ cZ p0 q0 g0 h0 M1) (some (.int r)) ∧ M1 0 1 = k ∧ (k = 0 → f1 0 = if r = 0 then 0 else 1) ∧ Rel p0 q0 g0 h0 S1 M1 := by
  obtain ⟨st, n0, t0, R⟩ := R
  obtain ⟨⟨s1, s2, s3⟩, ⟨n1, n2, n3⟩, ⟨t1, t2, t3⟩, z0, ⟨b1, b2, b3⟩, hN, hA, hC, hC2, hU, hU2, hF, hK, hW3, hW4⟩ := id R
  obtain ⟨okp2, okp, okq2, okq, okg, okh⟩ := id ok
  have eM : M 0 0 = S 0 0 := s2.trans s1.symm
  by_cases c1 : S 0 0 = 4
  · have hst : st = 4 := (st_lt s3 (n := 4) (by decide)).mp (s1.symm.trans c1)
    by_cases c2 : isPt (S 0 1) a1
    · obtain ⟨i, hi, rfl⟩ := isPt_nat (by rw [n1] at c2; exact c2) (by omega)
      have e := hF i hi
      by_cases c3 : S 8 i = 0
      · exact ⟨3, S, _, f, 0, l_answer_NSE l dC dI Z cI cP cL p0 q0 g0 h0 ou S f _ _ _ (t_C_answer_no l hlt dC dI Z cI cP p0 q0 g0 h0 S i n0 a2 a3 c1 n1 n3 hi c3), r_M_answer_no l dC dI Y cJ cZ p0 q0 g0 h0 M i n0 n2 n3 hi a2 a3 (eM.trans c1) (e.2.1.symm.trans c3), rfl, fun h => absurd h (by decide), st, n0, t0, R⟩
      · have hC1 := c_C_answer l dC dI Z cI cP p0 q0 g0 h0 S i n0 n1 n3 hi t0 a2 a3 c1 c3 (hN i (by omega)) t1 (by omega) ok (fun k hk => (hC k (by omega)).1)
        have hM := c_M_answer l dC dI Y cJ cZ p0 q0 g0 h0 M i n0 n2 n3 hi t0 a2 a3 (eM.trans c1) (fun q => c3 (e.2.1.trans q)) t2 (by omega) ok (fun k hk => (hC k (by omega)).2)
        generalize hM1 : (tmS (up (up M 0 1 0) 6 (i + 1) 1) i a2 a3 q0) = M1 at hM
        generalize hSa : anS S i a2 a3 q0 = Sa at hC1
        have hS5 : ∀ j, Sa 5 j = if j = i then nI (md a2 q0) else S 5 j := fun j => by rw [← hSa]; simp [anS, up]
        have hS6 : ∀ j, Sa 6 j = if j = i then bnum (S 0 3) a3 q0 else S 6 j := fun j => by rw [← hSa]; simp [anS, up]
        have hSo : ∀ ff, ff ≠ 5 → ff ≠ 6 → Sa ff = S ff := fun ff h1 h2 => by rw [← hSa, anS, rcv, up_ne _ _ _ h2, up_ne _ _ _ h1]
        have hM7 : ∀ j, M1 7 (j + 1) = if j = i then nI (md a2 q0) else M 7 (j + 1) := fun j => by rw [← hM1]; simp [up]
        have hM8 : ∀ j, M1 8 (j + 1) = if j = i then bnum (S 0 3) a3 q0 else M 8 (j + 1) := fun j => by rw [← hM1]; simp [up, b1]
        have hM6 : ∀ j, M1 6 (j + 1) = if j = i then 1 else M 6 (j + 1) := fun j => by rw [← hM1]; simp [up]
        have hMo : ∀ ff, ff ≠ 0 → ff ≠ 6 → ff ≠ 7 → ff ≠ 8 → M1 ff = M ff := fun ff h0 h1 h2 h3 => by rw [← hM1, tmS, up_ne _ _ _ h3, up_ne _ _ _ h2, up_ne _ _ _ h1, up_ne _ _ _ h0]
        have hM0 : ∀ k, k ≠ 1 → M1 0 k = M 0 k := fun k hk => by rw [← hM1]; simp [up, hk]
        have hM01 : M1 0 1 = 0 := by rw [← hM1]; simp [up]
        have fe : ((g0 ^ (nn (Sa 5 i)) % p0) * (h0 ^ (nn (Sa 6 i)) % p0) % p0 = mz_cp (fun k => nn (Sa 3 k)) (i + 1) 0 t0 % p0) = fitM p0 g0 h0 t0 M1 i := by
          rw [fit_eq (S := Sa) (M := M1) (fun k hk => by rw [hSo 3 (by decide) (by decide), hMo 3 (by decide) (by decide) (by decide) (by decide)]; exact hC2 (by omega) k hk), fitM, show Sa 5 i = M1 7 (i + 1) by rw [hS5, hM7, if_pos rfl, if_pos rfl], show Sa 6 i = M1 8 (i + 1) by rw [hS6, hM8, if_pos rfl, if_pos rfl]]
        have fe2 : ((g0 ^ (nn (M1 7 (i + 1))) % p0) * (h0 ^ (nn (M1 8 (i + 1))) % p0) % p0 = mz_cs (fun k => nn (M1 3 k)) (i + 1) t0 % p0) = fitM p0 g0 h0 t0 M1 i := rfl
        rw [fe] at hC1
        rw [fe2] at hM
        generalize hv : mz_b (fitM p0 g0 h0 t0 M1 i) = v at hC1 hM
        have hS9 : ∀ j, (up Sa 9 i v) 9 j = if j = i then v else S 9 j := fun j => up_i.trans (by rw [hSo 9 (by decide) (by decide)])
        have hT : ∀ ff, ff ≠ 5 → ff ≠ 6 → ff ≠ 9 → (up Sa 9 i v) ff = S ff := fun ff h1 h2 h3 => by rw [up_ne _ _ _ h3, hSo ff h1 h2]
        refine ⟨0, up Sa 9 i v, M1, _, v, l_answer_go l dC dI Z cI cP cL p0 q0 g0 h0 ou S f _ _ _ _ _ hC1, hM, hM01, fun _ => by simp [vp_updL], st, n0, t0, ?_⟩
        unfold Rl
        rw [hT 0 (by decide) (by decide) (by decide), hT 1 (by decide) (by decide) (by decide), hT 2 (by decide) (by decide) (by decide), hT 3 (by decide) (by decide) (by decide), hT 4 (by decide) (by decide) (by decide), hT 7 (by decide) (by decide) (by decide), hT 8 (by decide) (by decide) (by decide), hT 10 (by decide) (by decide) (by decide), hT 11 (by decide) (by decide) (by decide), hT 12 (by decide) (by decide) (by decide), up_ne _ _ _ (show (5 : Nat) ≠ 9 by decide), up_ne _ _ _ (show (6 : Nat) ≠ 9 by decide)]
        rw [hM0 0 (by decide), hM0 2 (by decide), hM0 3 (by decide), hM0 4 (by decide), hM0 5 (by decide), hM0 6 (by decide), hMo 1 (by decide) (by decide) (by decide) (by decide), hMo 2 (by decide) (by decide) (by decide) (by decide), hMo 3 (by decide) (by decide) (by decide) (by decide), hMo 4 (by decide) (by decide) (by decide) (by decide), hMo 5 (by decide) (by decide) (by decide) (by decide), hMo 9 (by decide) (by decide) (by decide) (by decide), hMo 10 (by decide) (by decide) (by decide) (by decide), hMo 11 (by decide) (by decide) (by decide) (by decide)]
        refine ⟨⟨s1, s2, s3⟩, ⟨n1, n2, n3⟩, ⟨t1, t2, t3⟩, z0, ⟨b1, b2, b3⟩, hN, hA, hC, hC2, fun j hj => ?_, fun h2 j hj => ?_, hF, hK, fun h3 => by omega, fun h4 j hj => ?_⟩
        · have h := hU j hj
          rw [hS5, hS6, hM7, hM8]
          by_cases c : j = i
          · simp only [if_pos c]; exact ⟨okN_md _ (by omega) okq, okN_bnum _ _ (by omega) okq, okN_md _ (by omega) okq, okN_bnum _ _ (by omega) okq⟩
          · simp only [if_neg c]; exact h
        · have h := hU2 h2 j hj
          rw [hS5, hS6, hM7, hM8]
          by_cases c : j = i
          · simp only [if_pos c]; exact ⟨trivial, trivial⟩
          · simp only [if_neg c]; exact h
        · rw [hS9, hM6]
          by_cases c : j = i
          · subst c
            rw [if_pos rfl, if_pos rfl, ← hv, mz_b0]
            exact ⟨Or.inr, fun q => q.elim (fun z => absurd z (by decide)) id⟩
          · rw [if_neg c, if_neg c]
            have h := hW4 h4 j hj
            have ef : fitM p0 g0 h0 t0 M1 j = fitM p0 g0 h0 t0 M j := by
              unfold fitM
              rw [hM7, hM8, if_neg c, if_neg c, hMo 3 (by decide) (by decide) (by decide) (by decide)]
            rw [ef]; exact h
    · exact ⟨2, S, up M 0 1 2, f, 0, l_answer_IAE l dC dI Z cI cP cL p0 q0 g0 h0 ou S f _ _ _ (t_C_answer_pt l hlt dC dI Z cI cP p0 q0 g0 h0 S a1 a2 a3 c1 c2), r_M_answer_pt l dC dI Y cJ cZ p0 q0 g0 h0 M a1 a2 a3 (eM.trans c1) (by rw [n2, ← n1]; exact c2), rfl, fun h => absurd h (by decide), st, n0, t0, R.thr 2⟩
  · exact ⟨1, S, up M 0 1 1, f, 0, l_answer_ISE l dC dI Z cI cP cL p0 q0 g0 h0 ou S f _ _ _ (t_C_answer_st l hlt dC dI Z cI cP p0 q0 g0 h0 S a1 a2 a3 c1), r_M_answer_st l dC dI Y cJ cZ p0 q0 g0 h0 M a1 a2 a3 (by rw [eM]; exact c1), rfl, fun h => absurd h (by decide), st, n0, t0, R.thr 1⟩
end ST
