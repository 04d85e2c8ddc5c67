set_option maxRecDepth 100000 in
set_option maxHeartbeats 4000000 in
theorem Rl.lay {p0 q0 g0 h0 st n0 t0 : Nat} {S M : Nat → Nat → Int32} (okq : q0 < 2 ^ 31) (R : Rl p0 q0 g0 h0 S M st n0 t0) (hst : st = 5) {i u v : Nat} (hi : i < n0) (hu : u < q0) (hv : v < q0) :
    Rl p0 q0 g0 h0 (lyS p0 q0 g0 h0 t0 S i u v) (mlS p0 q0 g0 h0 t0 (up M 0 1 0) i u v) st n0 t0 ∧ (mlS p0 q0 g0 h0 t0 (up M 0 1 0) i u v) 0 1 = 0 := by
  obtain ⟨⟨s1, s2, s3⟩, ⟨n1, n2, n3⟩, ⟨t1, t2, t3⟩, z0, ⟨b1, b2, b3⟩, hN, hA, hC, hC2, hU, hU2, hF, hK, hW3, hW4⟩ := id R
  have fe : ((g0 ^ u % p0) * (h0 ^ v % p0) % p0 = mz_cp (fun k => nn (S 3 k)) (i + 1) 0 t0 % p0) = ((g0 ^ u % p0) * (h0 ^ v % p0) % p0 = mz_cs (fun k => nn ((up M 0 1 0) 3 k)) (i + 1) t0 % p0) := fit_eq (hC2 (by omega))
  unfold lyS mlS
  by_cases F : (g0 ^ u % p0) * (h0 ^ v % p0) % p0 = mz_cp (fun k => nn (S 3 k)) (i + 1) 0 t0 % p0
  · have F2 := fe.mp F
    rw [if_pos F, if_pos F2]
    have e := hF i hi
    by_cases c : S 10 i = 0
    · rw [if_pos c, if_pos (show (up M 0 1 0) 9 (i + 1) = 0 from e.2.2.1.symm.trans c)]
      refine ⟨⟨⟨s1, s2, s3⟩, ⟨n1, n2, n3⟩, ⟨t1, t2, t3⟩, z0, ⟨b1, b2, b3⟩, hN, hA, hC, hC2, hU, hU2, fun j hj => ?_, fun j hj => ?_, fun h => by omega, fun h => by omega⟩, rfl⟩
      · have h := hF j hj
        refine ⟨h.1, h.2.1, ?_, h.2.2.2⟩
        show (kpt S i (nI u) (nI v)) 10 j = (up (up (up (up M 0 1 0) 9 (i + 1) 1) 10 (i + 1) (nI u)) 11 (i + 1) (nI v)) 9 (j + 1)
        have e1 : (kpt S i (nI u) (nI v)) 10 j = if j = i then 1 else S 10 j := by simp [up]
        have e2 : (up (up (up (up M 0 1 0) 9 (i + 1) 1) 10 (i + 1) (nI u)) 11 (i + 1) (nI v)) 9 (j + 1) = if j = i then 1 else M 9 (j + 1) := by simp [up]
        rw [e1, e2, h.2.2.1]
      · have e1 : (kpt S i (nI u) (nI v)) 10 j = if j = i then 1 else S 10 j := by simp [up]
        have e2 : (kpt S i (nI u) (nI v)) 11 j = if j = i then nI u else S 11 j := by simp [up]
        have e3 : (kpt S i (nI u) (nI v)) 12 j = if j = i then nI v else S 12 j := by simp [up]
        have e4 : (up (up (up (up M 0 1 0) 9 (i + 1) 1) 10 (i + 1) (nI u)) 11 (i + 1) (nI v)) 10 (j + 1) = if j = i then nI u else M 10 (j + 1) := by simp [up]
        have e5 : (up (up (up (up M 0 1 0) 9 (i + 1) 1) 10 (i + 1) (nI u)) 11 (i + 1) (nI v)) 11 (j + 1) = if j = i then nI v else M 11 (j + 1) := by simp [up]
        rw [e1, e2, e3, e4, e5]
        by_cases d : j = i
        · simp only [if_pos d]
          exact fun _ => ⟨trivial, trivial, okN.of hu (by omega), okN.of hv (by omega)⟩
        · simp only [if_neg d]
          exact hK j hj
    · have k := hK i hi c
      rw [if_neg c, if_neg (show ¬ (up M 0 1 0) 9 (i + 1) = 0 from fun q => c (e.2.2.1.trans q))]
      have ce : (S 0 4 = 0 ∧ ¬ nI v = S 12 i) = ((up M 0 1 0) 0 5 = 0 ∧ ¬ nI v = (up M 0 1 0) 11 (i + 1)) := by
        show _ = (M 0 5 = 0 ∧ ¬ nI v = M 11 (i + 1))
        rw [b2, k.2.1]
      by_cases d : S 0 4 = 0 ∧ ¬ nI v = S 12 i
      · have d2 := ce.mp d
        rw [if_pos d, if_pos d2]
        refine ⟨⟨⟨s1, s2, s3⟩, ⟨n1, n2, n3⟩, ⟨t1, t2, t3⟩, z0, ⟨b1, ((up_nk _ _ _ (by decide)).trans (up_at _ _ _ _)).trans ((up_nk _ _ _ (by decide)).trans (up_at _ _ _ _)).symm, (up_at _ _ _ _).trans (Eq.trans ?_ (up_at _ _ _ _).symm)⟩, hN, hA, hC, hC2, hU, hU2, hF, hK, fun h => by omega, fun h => by omega⟩, rfl⟩
        have e10 : (up M 0 1 0) 10 (i + 1) = S 11 i := k.1.symm
        have e11 : (up M 0 1 0) 11 (i + 1) = S 12 i := k.2.1.symm
        rw [e10, e11]
      · have d2 : ¬ ((up M 0 1 0) 0 5 = 0 ∧ ¬ nI v = (up M 0 1 0) 11 (i + 1)) := fun q => d (ce.mpr q)
        rw [if_neg d, if_neg d2]
        exact ⟨R.thr 0, rfl⟩
  · have F2 : ¬ ((g0 ^ u % p0) * (h0 ^ v % p0) % p0 = mz_cs (fun k => nn ((up M 0 1 0) 3 k)) (i + 1) t0 % p0) := fun q => F (fe.mpr q)
    rw [if_neg F, if_neg F2]
    exact ⟨R.thr 0, rfl⟩
section ST
variable {l : Launch} {dC : Nat → ClassId} {dI : Nat → Nat → Nat} {Z Y : Nat → Nat} {cI cP cL cJ cZ : ClassId} {p0 q0 g0 h0 ou : Nat} {S M : Nat → Nat → Int32} {f : Nat → Int64}
set_option maxRecDepth 100000 in
set_option maxHeartbeats 4000000 in
theorem s_open (hlt : l.stackTraces = false) (ok : okG p0 q0 g0 h0) (R : Rel p0 q0 g0 h0 S M) (a1 : Int32) : ∃ (k : Int32) (S1 M1 : Nat → Nat → Int32) (f1 : Nat → Int64) (r : Int32), Wp l y_L_open ws_L_open [.ref (Z 0), .int a1, .ref ou] dC dI (wC Z cI cP p0 q0 g0 h0 S ++ oL ou cL f) (wC Z cI cP p0 q0 g0 h0 S1 ++ oL ou cL f1) (tysL cI cP cL) k ∧ Wr l y_M_open ws_M_open 5 118 [.ref (Y 0), .int a1] (dC, dI) cls (tysM cJ cZ) (wM Y cJ cZ p0 q0 g0 h0 M) (wM Y cJ cZ p0 q0 g0 h0 M1) (some (.int r)) ∧ M1 0 1 = k ∧ (k = 0 → f1 0 = if r = 0 then 0 else 1) ∧ Rel p0 q0 g0 h0 S1 M1 := by
  obtain ⟨st, n0, t0, R⟩ := R
  obtain ⟨⟨s1, s2, s3⟩, ⟨n1, n2, n3⟩, ⟨t1, t2, t3⟩, z0, ⟨b1, b2, b3⟩, hN, hA, hC, hC2, hU, hU2, hF, hK, hW3, hW4⟩ := id R
  obtain ⟨okp2, okp, okq2, okq, okg, okh⟩ := id ok
  have eM : M 0 0 = S 0 0 := s2.trans s1.symm
  by_cases c1 : S 0 0 = 5
  · have hst : st = 5 := (st_lt s3 (n := 5) (by decide)).mp (s1.symm.trans c1)
    by_cases c2 : isPt (S 0 1) a1
    · obtain ⟨i, hi, rfl⟩ := isPt_nat (by rw [n1] at c2; exact c2) (by omega)
      have hu := hU i (by omega)
      have hp := hU2 (by omega) i hi
      have hkk : ¬ S 10 i = 0 → okN (S 11 i) q0 ∧ okN (S 12 i) q0 := fun q => (hK i hi q).2.2
      have hC1 := c_C_open l dC dI Z cI cP p0 q0 g0 h0 S i n0 n1 n3 hi t0 c1 hu.1 hu.2.1 hkk (hN i (by omega)) t1 (by omega) ok (fun k hk => (hC k (by omega)).1)
      have hM := c_M_open l dC dI Y cJ cZ p0 q0 g0 h0 M i n0 n2 n3 hi t0 (eM.trans c1) hu.2.2.1 hu.2.2.2 (fun q => by have h := hK i hi (fun z => q ((hF i hi).2.2.1.symm.trans z)); rw [← h.1, ← h.2.1]; exact h.2.2) t2 (by omega) ok (fun k hk => (hC k (by omega)).2)
      rw [fit_eq (hC2 (by omega)), hp.1, hp.2] at hC1
      have hR := R.lay okq hst hi hu.2.2.1.lt hu.2.2.2.lt
      exact ⟨0, _, _, _, _, l_open_go l dC dI Z cI cP cL p0 q0 g0 h0 ou S f _ _ _ hC1, hM, hR.2, fun _ => by simp [vp_updL], st, n0, t0, hR.1⟩
    · exact ⟨2, S, up M 0 1 2, f, 0, l_open_IAE l dC dI Z cI cP cL p0 q0 g0 h0 ou S f _ (t_C_open_pt l hlt dC dI Z cI cP p0 q0 g0 h0 S a1 c1 c2), r_M_open_pt l dC dI Y cJ cZ p0 q0 g0 h0 M a1 (eM.trans c1) (by rw [n2, ← n1]; exact c2), rfl, fun h => absurd h (by decide), st, n0, t0, R.thr 2⟩
  · exact ⟨1, S, up M 0 1 1, f, 0, l_open_ISE l dC dI Z cI cP cL p0 q0 g0 h0 ou S f _ (t_C_open_st l hlt dC dI Z cI cP p0 q0 g0 h0 S a1 c1), r_M_open_st l dC dI Y cJ cZ p0 q0 g0 h0 M a1 (by rw [eM]; exact c1), rfl, fun h => absurd h (by decide), st, n0, t0, R.thr 1⟩
set_option maxRecDepth 100000 in
set_option maxHeartbeats 4000000 in
theorem s_show (hlt : l.stackTraces = false) (ok : okG p0 q0 g0 h0) (R : Rel p0 q0 g0 h0 S M) (a1 a2 a3 : Int32) : ∃ (k : Int32) (S1 M1 : Nat → Nat → Int32) (f1 : Nat → Int64) (r : Int32), Wp l y_L_show ws_L_show [.ref (Z 0), .int a1, .int a2, .int a3, .ref ou] dC dI (wC Z cI cP p0 q0 g0 h0 S ++ oL ou cL f) (wC Z cI cP p0 q0 g0 h0 S1 ++ oL ou cL f1) (tysL cI cP cL) k ∧ Wr l y_M_show ws_M_show 5 118 [.ref (Y 0), .int a1, .int a2, .int a3] (dC, dI) cls (tysM cJ cZ) (wM Y cJ cZ p0 q0 g0 h0 M) (wM Y cJ cZ p0 q0 g0 h0 M1) (some (.int r)) ∧ M1 0 1 = k ∧ (k = 0 → f1 0 = if r = 0 then 0 else 1) ∧ Rel p0 q0 g0 h0 S1 M1 := by
  obtain ⟨st, n0, t0, R⟩ := R
  obtain ⟨⟨s1, s2, s3⟩, ⟨n1, n2, n3⟩, ⟨t1, t2, t3⟩, z0, ⟨b1, b2, b3⟩, hN, hA, hC, hC2, hU, hU2, hF, hK, hW3, hW4⟩ := id R
  obtain ⟨okp2, okp, okq2, okq, okg, okh⟩ := id ok
  have eM : M 0 0 = S 0 0 := s2.trans s1.symm
  by_cases c1 : S 0 0 = 5
  · have hst : st = 5 := (st_lt s3 (n := 5) (by decide)).mp (s1.symm.trans c1)
    by_cases c2 : isPt (S 0 1) a1
    · obtain ⟨i, hi, rfl⟩ := isPt_nat (by rw [n1] at c2; exact c2) (by omega)
      have hkk : ¬ S 10 i = 0 → okN (S 11 i) q0 ∧ okN (S 12 i) q0 := fun q => (hK i hi q).2.2
      have hC1 := c_C_show l dC dI Z cI cP p0 q0 g0 h0 S i n0 n1 n3 hi t0 a2 a3 c1 hkk (hN i (by omega)) t1 (by omega) ok (fun k hk => (hC k (by omega)).1)
      have hM := c_M_show l dC dI Y cJ cZ p0 q0 g0 h0 M i n0 n2 n3 hi t0 a2 a3 (eM.trans c1) (fun q => by have h := hK i hi (fun z => q ((hF i hi).2.2.1.symm.trans z)); rw [← h.1, ← h.2.1]; exact h.2.2) t2 (by omega) ok (fun k hk => (hC k (by omega)).2)
      rw [fit_eq (hC2 (by omega))] at hC1
      have hR := R.lay okq hst hi (md_lt a2 (show 0 < q0 by omega)) (md_lt a3 (show 0 < q0 by omega))
      exact ⟨0, _, _, _, _, l_show_go l dC dI Z cI cP cL p0 q0 g0 h0 ou S f _ _ _ _ _ hC1, hM, hR.2, fun _ => by simp [vp_updL], st, n0, t0, hR.1⟩
    · exact ⟨2, S, up M 0 1 2, f, 0, l_show_IAE l dC dI Z cI cP cL p0 q0 g0 h0 ou S f _ _ _ (t_C_show_pt l hlt dC dI Z cI cP p0 q0 g0 h0 S a1 a2 a3 c1 c2), r_M_show_pt l dC dI Y cJ cZ p0 q0 g0 h0 M a1 a2 a3 (eM.trans c1) (by rw [n2, ← n1]; exact c2), rfl, fun h => absurd h (by decide), st, n0, t0, R.thr 2⟩
  · exact ⟨1, S, up M 0 1 1, f, 0, l_show_ISE l dC dI Z cI cP cL p0 q0 g0 h0 ou S f _ _ _ (t_C_show_st l hlt dC dI Z cI cP p0 q0 g0 h0 S a1 a2 a3 c1), r_M_show_st l dC dI Y cJ cZ p0 q0 g0 h0 M a1 a2 a3 (by rw [eM]; exact c1), rfl, fun h => absurd h (by decide), st, n0, t0, R.thr 1⟩
end ST
