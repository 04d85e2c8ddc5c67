section ST
variable {l : Launch} {dC : Nat → ClassId} {dI : Nat → Nat → Nat} {Z Y : Nat → Nat} {cI cP cL cJ cZ : ClassId} {p0 q0 g0 h0 ou : Nat} {S M : Nat → Nat → Int32} {f : Nat → Int64}
set_option maxRecDepth 100000 in
set_option maxHeartbeats 4000000 in
theorem s_corrupt (hlt : l.stackTraces = false) (ok : okG p0 q0 g0 h0) (R : Rel p0 q0 g0 h0 S M) (a1 : Int32) : ∃ (k : Int32) (S1 M1 : Nat → Nat → Int32) (f1 : Nat → Int64) (r : Int32), Wp l y_L_corrupt ws_L_corrupt [.ref (Z 0), .int a1, .ref ou] dC dI (wC Z cI cP p0 q0 g0 h0 S ++ oL ou cL f) (wC Z cI cP p0 q0 g0 h0 S1 ++ oL ou cL f1) (tysL cI cP cL) k ∧ Wr l y_M_corrupt ws_M_corrupt 1 22 [.ref (Y 0), .int a1] (dC, dI) cls (tysM cJ cZ) (wM Y cJ cZ p0 q0 g0 h0 M) (wM Y cJ cZ p0 q0 g0 h0 M1) (some (.int r)) ∧ M1 0 1 = k ∧ (k = 0 → f1 0 = if r = 0 then 0 else 1) ∧ Rel p0 q0 g0 h0 S1 M1 := by
  obtain ⟨st, n0, t0, R⟩ := R
  obtain ⟨⟨s1, s2, s3⟩, ⟨n1, n2, n3⟩, ⟨t1, t2, t3⟩, z0, ⟨b1, b2, b3⟩, hN, hA, hC, hC2, hU, hU2, hF, hK, hW3, hW4⟩ := id R
  obtain ⟨okp2, okp, okq2, okq, okg, okh⟩ := id ok
  have eM : M 0 0 = S 0 0 := s2.trans s1.symm
  by_cases c1 : S 0 0 = 1 ∨ S 0 0 = 2
  · by_cases c2 : isPt (S 0 1) a1
    · obtain ⟨i, hi, rfl⟩ := isPt_nat (by rw [n1] at c2; exact c2) (by omega)
      have e7 := hF i hi
      have hr : mz_b (S 7 i = 0) = mz_b (M 4 (i + 1) = 0) := by rw [e7.1]
      have hM := c_M_corrupt l dC dI Y cJ cZ p0 q0 g0 h0 M i n0 n2 n3 hi (by rw [eM]; exact c1)
      rw [coS_eq (by rw [← e7.1]; exact e7.2.2.2), ← hr] at hM
      refine ⟨0, up S 7 i 1, _, _, _, l_corrupt_go l dC dI Z cI cP cL p0 q0 g0 h0 ou S f _ _ _ (c_C_corrupt l dC dI Z cI cP p0 q0 g0 h0 S i n0 n1 n3 hi c1), hM, rfl, fun _ => by simp [vp_updL], st, n0, t0, ⟨s1, s2, s3⟩, ⟨n1, n2, n3⟩, ⟨t1, t2, t3⟩, z0, ⟨b1, b2, b3⟩, hN, hA, hC, hC2, hU, hU2, fun j hj => ?_, hK, hW3, hW4⟩
      have h := hF j hj
      show (up S 7 i 1) 7 j = (up (up M 0 1 0) 4 (i + 1) 1) 4 (j + 1) ∧ S 8 j = M 5 (j + 1) ∧ S 10 j = M 9 (j + 1) ∧ ((up S 7 i 1) 7 j = 0 ∨ (up S 7 i 1) 7 j = 1)
      rw [up_i, up_j]
      by_cases c : j = i
      · simp only [if_pos c]; exact ⟨trivial, h.2.1, h.2.2.1, Or.inr trivial⟩
      · simp only [if_neg c]; exact h
    · exact ⟨2, S, up M 0 1 2, f, 0, l_corrupt_IAE l dC dI Z cI cP cL p0 q0 g0 h0 ou S f _ (t_C_corrupt_pt l hlt dC dI Z cI cP p0 q0 g0 h0 S a1 c1 c2), r_M_corrupt_pt l dC dI Y cJ cZ p0 q0 g0 h0 M a1 (by rw [eM]; exact c1) (by rw [n2, ← n1]; exact c2), rfl, fun h => absurd h (by decide), st, n0, t0, R.thr 2⟩
  · have d1 : ¬ S 0 0 = 1 ∧ ¬ S 0 0 = 2 := ⟨fun q => c1 (Or.inl q), fun q => c1 (Or.inr q)⟩
    exact ⟨1, S, up M 0 1 1, f, 0, l_corrupt_ISE l dC dI Z cI cP cL p0 q0 g0 h0 ou S f _ (t_C_corrupt_st l hlt dC dI Z cI cP p0 q0 g0 h0 S a1 d1), r_M_corrupt_st l dC dI Y cJ cZ p0 q0 g0 h0 M a1 (by rw [eM]; exact d1), rfl, fun h => absurd h (by decide), st, n0, t0, R.thr 1⟩
set_option maxRecDepth 100000 in
set_option maxHeartbeats 4000000 in
theorem s_accuse (hlt : l.stackTraces = false) (ok : okG p0 q0 g0 h0) (R : Rel p0 q0 g0 h0 S M) (a1 : Int32) : ∃ (k : Int32) (S1 M1 : Nat → Nat → Int32) (f1 : Nat → Int64) (r : Int32), Wp l y_L_accuse ws_L_accuse [.ref (Z 0), .int a1, .ref ou] dC dI (wC Z cI cP p0 q0 g0 h0 S ++ oL ou cL f) (wC Z cI cP p0 q0 g0 h0 S1 ++ oL ou cL f1) (tysL cI cP cL) k ∧ Wr l y_M_accuse ws_M_accuse 1 22 [.ref (Y 0), .int a1] (dC, dI) cls (tysM cJ cZ) (wM Y cJ cZ p0 q0 g0 h0 M) (wM Y cJ cZ p0 q0 g0 h0 M1) (some (.int r)) ∧ M1 0 1 = k ∧ (k = 0 → f1 0 = if r = 0 then 0 else 1) ∧ Rel p0 q0 g0 h0 S1 M1 := by
  obtain ⟨st, n0, t0, R⟩ := R
  obtain ⟨⟨s1, s2, s3⟩, ⟨n1, n2, n3⟩, ⟨t1, t2, t3⟩, z0, ⟨b1, b2, b3⟩, hN, hA, hC, hC2, hU, hU2, hF, hK, hW3, hW4⟩ := id R
  obtain ⟨okp2, okp, okq2, okq, okg, okh⟩ := id ok
  have eM : M 0 0 = S 0 0 := s2.trans s1.symm
  by_cases c1 : S 0 0 = 3
  · by_cases c2 : isPt (S 0 1) a1
    · obtain ⟨i, hi, rfl⟩ := isPt_nat (by rw [n1] at c2; exact c2) (by omega)
      have e7 := hF i hi
      have hM := c_M_accuse l dC dI Y cJ cZ p0 q0 g0 h0 M i n0 n2 n3 hi (eM.trans c1)
      have hC1 := c_C_accuse l dC dI Z cI cP p0 q0 g0 h0 S i n0 n1 n3 hi c1
      unfold amS at hM
      rw [← e7.1, ← e7.2.1] at hM
      unfold acS at hC1
      by_cases d : ¬ S 7 i = 0 ∧ S 8 i = 0
      · rw [if_pos d] at hM hC1
        refine ⟨0, up S 8 i 1, _, _, _, l_accuse_go l dC dI Z cI cP cL p0 q0 g0 h0 ou S f _ _ _ hC1, hM, rfl, fun _ => by simp [vp_updL], st, n0, t0, ⟨s1, s2, s3⟩, ⟨n1, n2, n3⟩, ⟨t1, t2, t3⟩, z0, ⟨b1, b2, b3⟩, hN, hA, hC, hC2, hU, hU2, fun j hj => ?_, hK, hW3, hW4⟩
        have h := hF j hj
        show S 7 j = M 4 (j + 1) ∧ (up S 8 i 1) 8 j = (up (up M 0 1 0) 5 (i + 1) 1) 5 (j + 1) ∧ S 10 j = M 9 (j + 1) ∧ (S 7 j = 0 ∨ S 7 j = 1)
        rw [up_i, up_j]
        by_cases c : j = i
        · simp only [if_pos c]; exact ⟨h.1, trivial, h.2.2⟩
        · simp only [if_neg c]; exact h
      · rw [if_neg d] at hM hC1
        exact ⟨0, S, _, _, _, l_accuse_go l dC dI Z cI cP cL p0 q0 g0 h0 ou S f _ _ _ hC1, hM, rfl, fun _ => by simp [vp_updL], st, n0, t0, R.thr 0⟩
    · exact ⟨2, S, up M 0 1 2, f, 0, l_accuse_IAE l dC dI Z cI cP cL p0 q0 g0 h0 ou S f _ (t_C_accuse_pt l hlt dC dI Z cI cP p0 q0 g0 h0 S a1 c1 c2), r_M_accuse_pt l dC dI Y cJ cZ p0 q0 g0 h0 M a1 (eM.trans c1) (by rw [n2, ← n1]; exact c2), rfl, fun h => absurd h (by decide), st, n0, t0, R.thr 2⟩
  · exact ⟨1, S, up M 0 1 1, f, 0, l_accuse_ISE l dC dI Z cI cP cL p0 q0 g0 h0 ou S f _ (t_C_accuse_st l hlt dC dI Z cI cP p0 q0 g0 h0 S a1 c1), r_M_accuse_st l dC dI Y cJ cZ p0 q0 g0 h0 M a1 (by rw [eM]; exact c1), rfl, fun h => absurd h (by decide), st, n0, t0, R.thr 1⟩
set_option maxRecDepth 100000 in
set_option maxHeartbeats 4000000 in
theorem s_relation (hlt : l.stackTraces = false) (ok : okG p0 q0 g0 h0) (R : Rel p0 q0 g0 h0 S M) : ∃ (k : Int32) (S1 M1 : Nat → Nat → Int32) (f1 : Nat → Int64) (r : Int32), Wp l y_L_relation ws_L_relation [.ref (Z 0), .ref ou] dC dI (wC Z cI cP p0 q0 g0 h0 S ++ oL ou cL f) (wC Z cI cP p0 q0 g0 h0 S1 ++ oL ou cL f1) (tysL cI cP cL) k ∧ Wr l y_M_relation ws_M_relation 1 22 [.ref (Y 0)] (dC, dI) cls (tysM cJ cZ) (wM Y cJ cZ p0 q0 g0 h0 M) (wM Y cJ cZ p0 q0 g0 h0 M1) (some (.int r)) ∧ M1 0 1 = k ∧ (k = 0 → f1 0 = r.toInt64) ∧ Rel p0 q0 g0 h0 S1 M1 := by
  obtain ⟨st, n0, t0, R⟩ := R
  obtain ⟨⟨s1, s2, s3⟩, ⟨n1, n2, n3⟩, ⟨t1, t2, t3⟩, z0, ⟨b1, b2, b3⟩, hN, hA, hC, hC2, hU, hU2, hF, hK, hW3, hW4⟩ := id R
  obtain ⟨okp2, okp, okq2, okq, okg, okh⟩ := id ok
  have eM : M 0 0 = S 0 0 := s2.trans s1.symm
  by_cases c1 : S 0 0 = 5
  · by_cases c2 : S 0 4 = 0
    · exact ⟨2, S, up M 0 1 2, f, 0, l_relation_NSE l dC dI Z cI cP cL p0 q0 g0 h0 ou S f (t_C_relation_no l hlt dC dI Z cI cP p0 q0 g0 h0 S c1 c2), r_M_relation_rl l dC dI Y cJ cZ p0 q0 g0 h0 M (eM.trans c1) (b2.symm.trans c2), rfl, fun h => absurd h (by decide), st, n0, t0, R.thr 2⟩
    · have hM := c_M_relation l dC dI Y cJ cZ p0 q0 g0 h0 M (eM.trans c1) (by rw [← b2]; exact c2)
      rw [← b3] at hM
      exact ⟨0, S, _, _, _, l_relation_go l dC dI Z cI cP cL p0 q0 g0 h0 ou S f _ (c_C_relation l dC dI Z cI cP p0 q0 g0 h0 S c1 c2), hM, rfl, fun _ => by simp [vp_updL], st, n0, t0, R.thr 0⟩
  · exact ⟨1, S, up M 0 1 1, f, 0, l_relation_ISE l dC dI Z cI cP cL p0 q0 g0 h0 ou S f (t_C_relation_st l hlt dC dI Z cI cP p0 q0 g0 h0 S c1), r_M_relation_st l dC dI Y cJ cZ p0 q0 g0 h0 M (by rw [eM]; exact c1), rfl, fun h => absurd h (by decide), st, n0, t0, R.thr 1⟩
set_option maxRecDepth 100000 in
set_option maxHeartbeats 4000000 in
theorem s_secret (hlt : l.stackTraces = false) (ok : okG p0 q0 g0 h0) (hq : mz_P q0) (R : Rel p0 q0 g0 h0 S M) : ∃ (k : Int32) (S1 M1 : Nat → Nat → Int32) (f1 : Nat → Int64) (r : Int32), Wp l y_L_secret ws_L_secret [.ref (Z 0), .ref ou] dC dI (wC Z cI cP p0 q0 g0 h0 S ++ oL ou cL f) (wC Z cI cP p0 q0 g0 h0 S1 ++ oL ou cL f1) (tysL cI cP cL) k ∧ Wr l y_M_secret ws_M_secret 4 92 [.ref (Y 0)] (dC, dI) cls (tysM cJ cZ) (wM Y cJ cZ p0 q0 g0 h0 M) (wM Y cJ cZ p0 q0 g0 h0 M1) (some (.int r)) ∧ M1 0 1 = k ∧ (k = 0 → f1 0 = r.toInt64) ∧ Rel p0 q0 g0 h0 S1 M1 := by
  obtain ⟨st, n0, t0, R⟩ := R
  obtain ⟨⟨s1, s2, s3⟩, ⟨n1, n2, n3⟩, ⟨t1, t2, t3⟩, z0, ⟨b1, b2, b3⟩, hN, hA, hC, hC2, hU, hU2, hF, hK, hW3, hW4⟩ := id R
  obtain ⟨okp2, okp, okq2, okq, okg, okh⟩ := id ok
  have eM : M 0 0 = S 0 0 := s2.trans s1.symm
  by_cases c1 : S 0 0 = 5
  · have hst : st = 5 := (st_lt s3 (n := 5) (by decide)).mp (s1.symm.trans c1)
    have hzz : 1 ≤ t0 ∧ n0 < q0 := z0.elim (fun q => by omega) (fun q => q.2)
    have ect : ∀ j, j ≤ n0 → mz_ct (S 10) j = mz_ct (fun i => M 9 (i + 1)) j := by
      intro j
      induction j with
      | zero => intro _; rfl
      | succ j ih =>
        intro hj
        have e := (hF j (by omega)).2.2.1
        by_cases c : S 10 j = 0
        · rw [mz_ct_0 c, mz_ct_0 (f := fun i => M 9 (i + 1)) (e.symm.trans c), ih (by omega)]
        · rw [mz_ct_1 c, mz_ct_1 (f := fun i => M 9 (i + 1)) (fun q => c (e.trans q)), ih (by omega)]
    obtain ⟨L0, hL⟩ := lastC_ex (S 10) t0 n0
    have hL7 : L0 ≤ n0 := hL.1
    have hL2 : lastC (fun i => M 9 (i + 1)) t0 n0 L0 := ⟨hL.1, fun i hi => by rw [← ect i (by omega)]; exact hL.2.1 i hi, hL.2.2.imp id (fun q => by rw [← ect L0 hL7]; exact q)⟩
    rcases Nat.lt_or_ge (mz_ct (S 10) n0) t0 with c2 | c2
    · have hM := r_M_secret_few l dC dI Y cJ cZ p0 q0 g0 h0 M n0 t0 L0 (eM.trans c1) n2 n3 t2 (by omega) hL2 (by rw [← ect n0 (Nat.le_refl _)]; exact c2)
      exact ⟨2, S, _, f, 0, l_secret_NSE l dC dI Z cI cP cL p0 q0 g0 h0 ou S f (t_C_secret_few l hlt dC dI Z cI cP p0 q0 g0 h0 S n0 t0 c1 n1 n3 t1 (by omega) c2), hM, rfl, fun h => absurd h (by decide), st, n0, t0, Rl.same (M := M) (fun k hk => by rw [up_nk _ _ _ hk, selM_ne _ (by decide) (by decide), up_nk _ _ _ hk]) (fun ff h1 h2 h3 => by rw [up_ne _ _ _ h1, selM_ne _ h2 h3, up_ne _ _ _ h1]) R⟩
    · have hM := c_M_secret l dC dI Y cJ cZ p0 q0 g0 h0 M n0 t0 L0 (eM.trans c1) n2 n3 t2 hzz.1 (by omega) hL2 (by rw [← ect n0 (Nat.le_refl _)]; exact c2) (fun j hj hk => by
        have e := hF j hj
        have h := hK j hj (by rw [e.2.2.1]; exact hk)
        rw [← h.1]; exact h.2.2.1) ok
      have hC1 := c_C_secret l dC dI Z cI cP p0 q0 g0 h0 S n0 t0 L0 c1 n1 n3 t1 (by omega) hL c2 (fun j hj hk => (hK j hj hk).2.2.1) ok
      have hsame : smC q0 (S 10) (S 11) L0 L0 = hz q0 (fun m => nn (selM (up M 0 1 0) L0 12 m)) (dk q0 (fun m => nn (selM (up M 0 1 0) L0 12 m)) (fun m => nn (selM (up M 0 1 0) L0 13 m)) (t0 - 1)) 0 t0 := by
        have hsel : ∀ j, j < L0 → ¬ S 10 j = 0 → selM (up M 0 1 0) L0 12 (mz_ct (S 10) j) = nI (j + 1) ∧ selM (up M 0 1 0) L0 13 (mz_ct (S 10) j) = M 10 (j + 1) := fun j hj hk => by
          have e := (hF j (by omega)).2.2.1
          rw [ect j (by omega)]
          exact selM_at (up M 0 1 0) L0 j hj (fun q => hk (e.trans q))
        refine mz_same hq okq (by omega) (by omega) (lastC_t hL c2) (fun j hj hk => ?_) (fun j hj hk => ?_) (fun j hj hk => (hK j (by omega) hk).2.2.1)
        · show nn (selM (up M 0 1 0) L0 12 (mz_ct (S 10) j)) = j + 1
          rw [(hsel j hj hk).1, nn_nI (by omega)]
        · show nn (selM (up M 0 1 0) L0 13 (mz_ct (S 10) j)) = nn (S 11 j)
          rw [(hsel j hj hk).2, (hK j (by omega) hk).1]
      rw [← hsame] at hM
      refine ⟨0, S, _, _, _, l_secret_go l dC dI Z cI cP cL p0 q0 g0 h0 ou S f _ hC1, hM, ?_, fun _ => by simp [vp_updL], st, n0, t0, Rl.same (M := M) (fun k hk => by rw [atS_ne _ _ _ _ _ (by decide), selM_ne _ (by decide) (by decide), up_nk _ _ _ hk]) (fun ff h1 h2 h3 => by rw [atS_ne _ _ _ _ _ h3, selM_ne _ h2 h3, up_ne _ _ _ h1]) R⟩
      rw [atS_ne _ _ _ _ _ (by decide), selM_ne _ (by decide) (by decide)]
      rfl
  · exact ⟨1, S, up M 0 1 1, f, 0, l_secret_ISE l dC dI Z cI cP cL p0 q0 g0 h0 ou S f (t_C_secret_st l hlt dC dI Z cI cP p0 q0 g0 h0 S c1), r_M_secret_st l dC dI Y cJ cZ p0 q0 g0 h0 M (by rw [eM]; exact c1), rfl, fun h => absurd h (by decide), st, n0, t0, R.thr 1⟩
end ST
