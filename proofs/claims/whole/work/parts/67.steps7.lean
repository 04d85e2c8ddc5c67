section ST
variable {l : Launch} {dC : Nat → ClassId} {dI : Nat → Nat → Nat} {Z Y : Nat → Nat} {cI cP cL cJ cZ : ClassId} {p0 q0 g0 h0 ou : Nat} {S M : Nat → Nat → Int32} {f : Nat → Int64}
set_option maxRecDepth 100000 in
set_option maxHeartbeats 4000000 in
theorem s_group (ok : okG p0 q0 g0 h0) (R : Rel p0 q0 g0 h0 S M) (a1 : Int32) : ∃ r : Int32, Ro l y_C_group ws_C_group 0 0 [.ref (Z 0), .int a1] (bC dC dI Z cI cP p0 q0 g0 h0 S) r ∧ Wr l y_M_group ws_M_group 0 0 [.ref (Y 0), .int a1] (dC, dI) cls (tysM cJ cZ) (wM Y cJ cZ p0 q0 g0 h0 M) (wM Y cJ cZ p0 q0 g0 h0 (up M 0 1 0)) (some (.int r)) := by
  obtain ⟨st, n0, t0, R⟩ := R
  obtain ⟨⟨s1, s2, s3⟩, ⟨n1, n2, n3⟩, ⟨t1, t2, t3⟩, z0, ⟨b1, b2, b3⟩, hN, hA, hC, hC2, hU, hU2, hF, hK, hW3, hW4⟩ := id R
  obtain ⟨okp2, okp, okq2, okq, okg, okh⟩ := id ok
  have eM : M 0 0 = S 0 0 := s2.trans s1.symm
  exact ⟨_, c_C_group l dC dI Z cI cP p0 q0 g0 h0 S a1, c_M_group l dC dI Y cJ cZ p0 q0 g0 h0 M a1⟩
set_option maxRecDepth 100000 in
set_option maxHeartbeats 4000000 in
theorem s_stage (ok : okG p0 q0 g0 h0) (R : Rel p0 q0 g0 h0 S M) : ∃ r : Int32, Ro l y_C_stage ws_C_stage 0 0 [.ref (Z 0)] (bC dC dI Z cI cP p0 q0 g0 h0 S) r ∧ Wr l y_M_stage ws_M_stage 0 0 [.ref (Y 0)] (dC, dI) cls (tysM cJ cZ) (wM Y cJ cZ p0 q0 g0 h0 M) (wM Y cJ cZ p0 q0 g0 h0 (up M 0 1 0)) (some (.int r)) := by
  obtain ⟨st, n0, t0, R⟩ := R
  obtain ⟨⟨s1, s2, s3⟩, ⟨n1, n2, n3⟩, ⟨t1, t2, t3⟩, z0, ⟨b1, b2, b3⟩, hN, hA, hC, hC2, hU, hU2, hF, hK, hW3, hW4⟩ := id R
  obtain ⟨okp2, okp, okq2, okq, okg, okh⟩ := id ok
  have eM : M 0 0 = S 0 0 := s2.trans s1.symm
  have hM := c_M_stage l dC dI Y cJ cZ p0 q0 g0 h0 M
  rw [eM] at hM
  exact ⟨_, c_C_stage l dC dI Z cI cP p0 q0 g0 h0 S, hM⟩
set_option maxRecDepth 100000 in
set_option maxHeartbeats 4000000 in
theorem s_commitment (ok : okG p0 q0 g0 h0) (R : Rel p0 q0 g0 h0 S M) (a1 : Int32) : ∃ r : Int32, Ro l y_C_commitment ws_C_commitment 1 21 [.ref (Z 0), .int a1] (bC dC dI Z cI cP p0 q0 g0 h0 S) r ∧ Wr l y_M_commitment ws_M_commitment 0 0 [.ref (Y 0), .int a1] (dC, dI) cls (tysM cJ cZ) (wM Y cJ cZ p0 q0 g0 h0 M) (wM Y cJ cZ p0 q0 g0 h0 (up M 0 1 0)) (some (.int r)) := by
  obtain ⟨st, n0, t0, R⟩ := R
  obtain ⟨⟨s1, s2, s3⟩, ⟨n1, n2, n3⟩, ⟨t1, t2, t3⟩, z0, ⟨b1, b2, b3⟩, hN, hA, hC, hC2, hU, hU2, hF, hK, hW3, hW4⟩ := id R
  obtain ⟨okp2, okp, okq2, okq, okg, okh⟩ := id ok
  have eM : M 0 0 = S 0 0 := s2.trans s1.symm
  have hM := c_M_commitment l dC dI Y cJ cZ p0 q0 g0 h0 M a1 t0 t2 (by omega)
  have e : cmM M a1 = cmC S a1 := by
    unfold cmM cmC
    rw [eM, t2, ← t1]
    by_cases c : ¬ S 0 0 < 2 ∧ isCf (S 0 2) a1
    · rw [if_pos c, if_pos c]
      obtain ⟨k0, hk0, rfl⟩ := isCf_nat (by have h := c.2; rw [t1] at h; exact h) (by omega)
      have h2 : 2 ≤ st := by
        rcases Nat.lt_or_ge st 2 with q | q
        · exact absurd (by rw [s1]; exact nI_lt (b := 2) q (by decide)) c.1
        · exact q
      rw [nn_nI (by omega)]
      exact (hC2 h2 k0 hk0).symm
    · rw [if_neg c, if_neg c]
  rw [e] at hM
  exact ⟨_, c_C_commitment l dC dI Z cI cP p0 q0 g0 h0 S a1 t0 t1 (by omega), hM⟩
set_option maxRecDepth 100000 in
set_option maxHeartbeats 4000000 in
theorem s_share (ok : okG p0 q0 g0 h0) (R : Rel p0 q0 g0 h0 S M) (a1 a2 : Int32) : ∃ r : Int32, Ro l y_C_share ws_C_share 1 21 [.ref (Z 0), .int a1, .int a2] (bC dC dI Z cI cP p0 q0 g0 h0 S) r ∧ Wr l y_M_share ws_M_share 1 21 [.ref (Y 0), .int a1, .int a2] (dC, dI) cls (tysM cJ cZ) (wM Y cJ cZ p0 q0 g0 h0 M) (wM Y cJ cZ p0 q0 g0 h0 (up M 0 1 0)) (some (.int r)) := by
  obtain ⟨st, n0, t0, R⟩ := R
  obtain ⟨⟨s1, s2, s3⟩, ⟨n1, n2, n3⟩, ⟨t1, t2, t3⟩, z0, ⟨b1, b2, b3⟩, hN, hA, hC, hC2, hU, hU2, hF, hK, hW3, hW4⟩ := id R
  obtain ⟨okp2, okp, okq2, okq, okg, okh⟩ := id ok
  have eM : M 0 0 = S 0 0 := s2.trans s1.symm
  have hM := c_M_share l dC dI Y cJ cZ p0 q0 g0 h0 M a1 a2 n0 n2 n3
  have e : shM M a1 a2 = shC S a1 a2 := by
    unfold shM shC
    rw [eM, n2, ← n1]
    by_cases c : ¬ S 0 0 < 2 ∧ isPt (S 0 1) a1
    · rw [if_pos c, if_pos c]
      obtain ⟨j, hj, rfl⟩ := isPt_nat (by have h := c.2; rw [n1] at h; exact h) (by omega)
      have h2 : 2 ≤ st := by
        rcases Nat.lt_or_ge st 2 with q | q
        · exact absurd (by rw [s1]; exact nI_lt (b := 2) q (by decide)) c.1
        · exact q
      rw [nn_nI (by omega), Nat.add_sub_cancel, (hU2 h2 j hj).1, (hU2 h2 j hj).2]
    · rw [if_neg c, if_neg c]
  rw [e] at hM
  exact ⟨_, c_C_share l dC dI Z cI cP p0 q0 g0 h0 S a1 a2 n0 n1 n3, hM⟩
set_option maxRecDepth 100000 in
set_option maxHeartbeats 4000000 in
theorem s_fits (ok : okG p0 q0 g0 h0) (R : Rel p0 q0 g0 h0 S M) (a1 : Int32) : ∃ r : Int32, Ro l y_C_fits ws_C_fits 5 116 [.ref (Z 0), .int a1] (bC dC dI Z cI cP p0 q0 g0 h0 S) r ∧ Wr l y_M_fits ws_M_fits 4 95 [.ref (Y 0), .int a1] (dC, dI) cls (tysM cJ cZ) (wM Y cJ cZ p0 q0 g0 h0 M) (wM Y cJ cZ p0 q0 g0 h0 (up M 0 1 0)) (some (.int r)) := by
  obtain ⟨st, n0, t0, R⟩ := R
  obtain ⟨⟨s1, s2, s3⟩, ⟨n1, n2, n3⟩, ⟨t1, t2, t3⟩, z0, ⟨b1, b2, b3⟩, hN, hA, hC, hC2, hU, hU2, hF, hK, hW3, hW4⟩ := id R
  obtain ⟨okp2, okp, okq2, okq, okg, okh⟩ := id ok
  have eM : M 0 0 = S 0 0 := s2.trans s1.symm
  by_cases c : S 0 0 < 2 ∨ ¬ isPt (S 0 1) a1
  · exact ⟨0, c_C_fits_no l dC dI Z cI cP p0 q0 g0 h0 S a1 c, c_M_fits_no l dC dI Y cJ cZ p0 q0 g0 h0 M a1 (by rw [eM, n2, ← n1]; exact c)⟩
  · have d1 : ¬ S 0 0 < 2 := fun q => c (Or.inl q)
    have d2 : isPt (S 0 1) a1 := Classical.not_not.mp (fun q => c (Or.inr q))
    obtain ⟨j, hj, rfl⟩ := isPt_nat (by rw [n1] at d2; exact d2) (by omega)
    have h2 : 2 ≤ st := by
      rcases Nat.lt_or_ge st 2 with q | q
      · exact absurd (by rw [s1]; exact nI_lt (b := 2) q (by decide)) d1
      · exact q
    have hu := hU j (by omega)
    have hp := hU2 h2 j hj
    have hC1 := c_C_fits l dC dI Z cI cP p0 q0 g0 h0 S j n0 t0 n1 n3 hj d1 hu.1 hu.2.1 (hN j (by omega)) t1 (by omega) ok (fun k hk => (hC k (by omega)).1)
    rw [fit_eq (hC2 h2), hp.1, hp.2] at hC1
    exact ⟨_, hC1, c_M_fits l dC dI Y cJ cZ p0 q0 g0 h0 M j n0 n2 n3 hj t0 (by rw [eM]; exact d1) hu.2.2.1 hu.2.2.2 t2 (by omega) ok (fun k hk => (hC k (by omega)).2)⟩
set_option maxRecDepth 100000 in
set_option maxHeartbeats 4000000 in
theorem s_complaints (ok : okG p0 q0 g0 h0) (R : Rel p0 q0 g0 h0 S M) : ∃ r : Int32, Ro l y_C_complaints ws_C_complaints 0 0 [.ref (Z 0)] (bC dC dI Z cI cP p0 q0 g0 h0 S) r ∧ Wr l y_M_complaints ws_M_complaints 0 0 [.ref (Y 0)] (dC, dI) cls (tysM cJ cZ) (wM Y cJ cZ p0 q0 g0 h0 M) (wM Y cJ cZ p0 q0 g0 h0 (up M 0 1 0)) (some (.int r)) := by
  obtain ⟨st, n0, t0, R⟩ := R
  obtain ⟨⟨s1, s2, s3⟩, ⟨n1, n2, n3⟩, ⟨t1, t2, t3⟩, z0, ⟨b1, b2, b3⟩, hN, hA, hC, hC2, hU, hU2, hF, hK, hW3, hW4⟩ := id R
  obtain ⟨okp2, okp, okq2, okq, okg, okh⟩ := id ok
  have eM : M 0 0 = S 0 0 := s2.trans s1.symm
  have hs0 : n0 = 0 ∨ ¬ M 0 0 ≤ 0 := by
    rcases z0 with q | q
    · exact Or.inl q.2
    · refine Or.inr ?_
      rw [s2]
      exact nI_ge (a := 0) (b := st) (by omega) (by omega)
  have hM := c_M_complaints l dC dI Y cJ cZ p0 q0 g0 h0 M n0 n2 n3 hs0
  rw [← mz_ct_eq (f := S 8) n0 (fun j hj => (hF j hj).2.1)] at hM
  exact ⟨_, c_C_complaints l dC dI Z cI cP p0 q0 g0 h0 S n0 n1 n3, hM⟩
set_option maxRecDepth 100000 in
set_option maxHeartbeats 4000000 in
theorem s_opened (ok : okG p0 q0 g0 h0) (R : Rel p0 q0 g0 h0 S M) : ∃ r : Int32, Ro l y_C_opened ws_C_opened 0 0 [.ref (Z 0)] (bC dC dI Z cI cP p0 q0 g0 h0 S) r ∧ Wr l y_M_opened ws_M_opened 0 0 [.ref (Y 0)] (dC, dI) cls (tysM cJ cZ) (wM Y cJ cZ p0 q0 g0 h0 M) (wM Y cJ cZ p0 q0 g0 h0 (up M 0 1 0)) (some (.int r)) := by
  obtain ⟨st, n0, t0, R⟩ := R
  obtain ⟨⟨s1, s2, s3⟩, ⟨n1, n2, n3⟩, ⟨t1, t2, t3⟩, z0, ⟨b1, b2, b3⟩, hN, hA, hC, hC2, hU, hU2, hF, hK, hW3, hW4⟩ := id R
  obtain ⟨okp2, okp, okq2, okq, okg, okh⟩ := id ok
  have eM : M 0 0 = S 0 0 := s2.trans s1.symm
  have hs0 : n0 = 0 ∨ ¬ M 0 0 ≤ 0 := by
    rcases z0 with q | q
    · exact Or.inl q.2
    · refine Or.inr ?_
      rw [s2]
      exact nI_ge (a := 0) (b := st) (by omega) (by omega)
  have hM := c_M_opened l dC dI Y cJ cZ p0 q0 g0 h0 M n0 n2 n3 hs0
  rw [← mz_ct_eq (f := S 10) n0 (fun j hj => (hF j hj).2.2.1)] at hM
  exact ⟨_, c_C_opened l dC dI Z cI cP p0 q0 g0 h0 S n0 n1 n3, hM⟩
end ST
