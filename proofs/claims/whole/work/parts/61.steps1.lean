section ST
variable {l : Launch} {dC : Nat → ClassId} {dI : Nat → Nat → Nat} {Z Y : Nat → Nat} {cI cP cL cJ cZ : ClassId} {p0 q0 g0 h0 ou : Nat} {S M : Nat → Nat → Int32} {f : Nat → Int64}
set_option maxRecDepth 100000 in
set_option maxHeartbeats 4000000 in
theorem s_coefficient (hlt : l.stackTraces = false) (ok : okG p0 q0 g0 h0) (R : Rel p0 q0 g0 h0 S M) (a1 a2 a3 : Int32) : ∃ (k : Int32) (S1 M1 : Nat → Nat → Int32), Wp l y_L_coefficient ws_L_coefficient [.ref (Z 0), .int a1, .int a2, .int a3] dC dI (wC Z cI cP p0 q0 g0 h0 S ++ oL ou cL f) (wC Z cI cP p0 q0 g0 h0 S1 ++ oL ou cL f) (tysL cI cP cL) k ∧ Wr l y_M_coefficient ws_M_coefficient 1 22 [.ref (Y 0), .int a1, .int a2, .int a3] (dC, dI) cls (tysM cJ cZ) (wM Y cJ cZ p0 q0 g0 h0 M) (wM Y cJ cZ p0 q0 g0 h0 M1) none ∧ M1 0 1 = k ∧ Rel p0 q0 g0 h0 S1 M1 := by
  obtain ⟨st, n0, t0, R⟩ := R
  obtain ⟨⟨s1, s2, s3⟩, ⟨n1, n2, n3⟩, ⟨t1, t2, t3⟩, z0, ⟨b1, b2, b3⟩, hN, hA, hC, hC2, hU, hU2, hF, hK, hW3, hW4⟩ := id R
  obtain ⟨okp2, okp, okq2, okq, okg, okh⟩ := id ok
  have eM : M 0 0 = S 0 0 := s2.trans s1.symm
  by_cases c1 : S 0 0 = 1
  · by_cases c2 : isCf (S 0 2) a1
    · obtain ⟨k0, hk0, rfl⟩ := isCf_nat (by rw [t1] at c2; exact c2) (by omega)
      refine ⟨0, _, _, l_coefficient_go l dC dI Z cI cP cL p0 q0 g0 h0 ou S f _ _ _ _ (c_C_coefficient l dC dI Z cI cP p0 q0 g0 h0 S k0 t0 a2 a3 c1 t1 (by omega) hk0 ok), c_M_coefficient l dC dI Y cJ cZ p0 q0 g0 h0 M k0 t0 a2 a3 (eM.trans c1) t2 (by omega) hk0 ok, rfl, st, n0, t0, ⟨s1, s2, s3⟩, ⟨n1, n2, n3⟩, ⟨t1, t2, t3⟩, z0, ⟨b1, b2, b3⟩, hN, fun k hk => ?_, hC, hC2, hU, hU2, hF, hK, hW3, hW4⟩
      have h := hA k hk
      have e1 : (up (up S 1 k0 (nI (md a2 q0))) 2 k0 (bnum (S 0 3) a3 q0)) 1 k = if k = k0 then nI (md a2 q0) else S 1 k := (congrFun (up_ne _ _ _ (by decide)) k).trans up_i
      have e2 : (up (up S 1 k0 (nI (md a2 q0))) 2 k0 (bnum (S 0 3) a3 q0)) 2 k = if k = k0 then bnum (S 0 3) a3 q0 else S 2 k := up_i.trans (by rw [up_ne _ _ _ (by decide)])
      have e3 : (up (up (up M 0 1 0) 1 k0 (nI (md a2 q0))) 2 k0 (bnum (M 0 4) a3 q0)) 1 k = if k = k0 then nI (md a2 q0) else M 1 k := (congrFun (up_ne _ _ _ (by decide)) k).trans up_i
      have e4 : (up (up (up M 0 1 0) 1 k0 (nI (md a2 q0))) 2 k0 (bnum (M 0 4) a3 q0)) 2 k = if k = k0 then bnum (M 0 4) a3 q0 else M 2 k := up_i.trans (by rw [up_ne _ _ _ (by decide)]; rfl)
      rw [e1, e2, e3, e4, b1]
      by_cases c : k = k0
      · simp only [if_pos c]; exact ⟨trivial, trivial, okN_md _ (by omega) okq, okN_bnum _ _ (by omega) okq⟩
      · simp only [if_neg c]; exact h
    · exact ⟨2, S, up M 0 1 2, l_coefficient_IAE l dC dI Z cI cP cL p0 q0 g0 h0 ou S f _ _ _ (t_C_coefficient_cf l hlt dC dI Z cI cP p0 q0 g0 h0 S a1 a2 a3 c1 c2), r_M_coefficient_cf l dC dI Y cJ cZ p0 q0 g0 h0 M a1 a2 a3 (eM.trans c1) (by rw [t2, ← t1]; exact c2), rfl, st, n0, t0, R.thr 2⟩
  · exact ⟨1, S, up M 0 1 1, l_coefficient_ISE l dC dI Z cI cP cL p0 q0 g0 h0 ou S f _ _ _ (t_C_coefficient_st l hlt dC dI Z cI cP p0 q0 g0 h0 S a1 a2 a3 c1), r_M_coefficient_st l dC dI Y cJ cZ p0 q0 g0 h0 M a1 a2 a3 (by rw [eM]; exact c1), rfl, st, n0, t0, R.thr 1⟩
set_option maxRecDepth 100000 in
set_option maxHeartbeats 4000000 in
theorem s_tamper (hlt : l.stackTraces = false) (ok : okG p0 q0 g0 h0) (R : Rel p0 q0 g0 h0 S M) (a1 a2 a3 : Int32) : ∃ (k : Int32) (S1 M1 : Nat → Nat → Int32), Wp l y_L_tamper ws_L_tamper [.ref (Z 0), .int a1, .int a2, .int a3] dC dI (wC Z cI cP p0 q0 g0 h0 S ++ oL ou cL f) (wC Z cI cP p0 q0 g0 h0 S1 ++ oL ou cL f) (tysL cI cP cL) k ∧ Wr l y_M_tamper ws_M_tamper 1 22 [.ref (Y 0), .int a1, .int a2, .int a3] (dC, dI) cls (tysM cJ cZ) (wM Y cJ cZ p0 q0 g0 h0 M) (wM Y cJ cZ p0 q0 g0 h0 M1) none ∧ M1 0 1 = k ∧ Rel p0 q0 g0 h0 S1 M1 := by
  obtain ⟨st, n0, t0, R⟩ := R
  obtain ⟨⟨s1, s2, s3⟩, ⟨n1, n2, n3⟩, ⟨t1, t2, t3⟩, z0, ⟨b1, b2, b3⟩, hN, hA, hC, hC2, hU, hU2, hF, hK, hW3, hW4⟩ := id R
  obtain ⟨okp2, okp, okq2, okq, okg, okh⟩ := id ok
  have eM : M 0 0 = S 0 0 := s2.trans s1.symm
  by_cases c1 : S 0 0 = 2
  · have hst : st = 2 := (st_lt s3 (n := 2) (by decide)).mp (s1.symm.trans c1)
    by_cases c2 : isPt (S 0 1) a1
    · obtain ⟨i, hi, rfl⟩ := isPt_nat (by rw [n1] at c2; exact c2) (by omega)
      have hS5 : ∀ j, (rcv S i (nI (md a2 q0)) (bnum (S 0 3) a3 q0)) 5 j = if j = i then nI (md a2 q0) else S 5 j := fun j => (congrFun (up_ne _ _ _ (by decide)) j).trans up_i
      have hS6 : ∀ j, (rcv S i (nI (md a2 q0)) (bnum (S 0 3) a3 q0)) 6 j = if j = i then bnum (S 0 3) a3 q0 else S 6 j := fun j => up_i.trans (by rw [up_ne _ _ _ (by decide)])
      have hM7 : ∀ j, (tmS (up M 0 1 0) i a2 a3 q0) 7 (j + 1) = if j = i then nI (md a2 q0) else M 7 (j + 1) := fun j => by simp [up]
      have hM8 : ∀ j, (tmS (up M 0 1 0) i a2 a3 q0) 8 (j + 1) = if j = i then bnum (S 0 3) a3 q0 else M 8 (j + 1) := fun j => by simp [up, b1]
      refine ⟨0, _, _, l_tamper_go l dC dI Z cI cP cL p0 q0 g0 h0 ou S f _ _ _ _ (c_C_tamper l dC dI Z cI cP p0 q0 g0 h0 S i n0 n1 n3 hi a2 a3 c1 ok), c_M_tamper l dC dI Y cJ cZ p0 q0 g0 h0 M i n0 n2 n3 hi a2 a3 (eM.trans c1) ok, rfl, st, n0, t0, ⟨s1, s2, s3⟩, ⟨n1, n2, n3⟩, ⟨t1, t2, t3⟩, z0, ⟨b1, b2, b3⟩, hN, hA, hC, hC2, fun j hj => ?_, fun h2 j hj => ?_, hF, hK, hW3, fun h4 => by omega⟩
      · have h := hU j hj
        rw [hS5, hS6, hM7, hM8]
        by_cases c : j = i
        · simp only [if_pos c]; exact ⟨okN_md _ (by omega) okq, okN_bnum _ _ (by omega) okq, okN_md _ (by omega) okq, okN_bnum _ _ (by omega) okq⟩
        · simp only [if_neg c]; exact h
      · have h := hU2 h2 j hj
        rw [hS5, hS6, hM7, hM8]
        by_cases c : j = i
        · simp only [if_pos c]; exact ⟨trivial, trivial⟩
        · simp only [if_neg c]; exact h
    · exact ⟨2, S, up M 0 1 2, l_tamper_IAE l dC dI Z cI cP cL p0 q0 g0 h0 ou S f _ _ _ (t_C_tamper_pt l hlt dC dI Z cI cP p0 q0 g0 h0 S a1 a2 a3 c1 c2), r_M_tamper_pt l dC dI Y cJ cZ p0 q0 g0 h0 M a1 a2 a3 (eM.trans c1) (by rw [n2, ← n1]; exact c2), rfl, st, n0, t0, R.thr 2⟩
  · exact ⟨1, S, up M 0 1 1, l_tamper_ISE l dC dI Z cI cP cL p0 q0 g0 h0 ou S f _ _ _ (t_C_tamper_st l hlt dC dI Z cI cP p0 q0 g0 h0 S a1 a2 a3 c1), r_M_tamper_st l dC dI Y cJ cZ p0 q0 g0 h0 M a1 a2 a3 (by rw [eM]; exact c1), rfl, st, n0, t0, R.thr 1⟩
set_option maxRecDepth 100000 in
set_option maxHeartbeats 4000000 in
theorem s_forge (hlt : l.stackTraces = false) (ok : okG p0 q0 g0 h0) (R : Rel p0 q0 g0 h0 S M) (a1 a2 : Int32) : ∃ (k : Int32) (S1 M1 : Nat → Nat → Int32), Wp l y_L_forge ws_L_forge [.ref (Z 0), .int a1, .int a2] dC dI (wC Z cI cP p0 q0 g0 h0 S ++ oL ou cL f) (wC Z cI cP p0 q0 g0 h0 S1 ++ oL ou cL f) (tysL cI cP cL) k ∧ Wr l y_M_forge ws_M_forge 1 22 [.ref (Y 0), .int a1, .int a2] (dC, dI) cls (tysM cJ cZ) (wM Y cJ cZ p0 q0 g0 h0 M) (wM Y cJ cZ p0 q0 g0 h0 M1) none ∧ M1 0 1 = k ∧ Rel p0 q0 g0 h0 S1 M1 := by
  obtain ⟨st, n0, t0, R⟩ := R
  obtain ⟨⟨s1, s2, s3⟩, ⟨n1, n2, n3⟩, ⟨t1, t2, t3⟩, z0, ⟨b1, b2, b3⟩, hN, hA, hC, hC2, hU, hU2, hF, hK, hW3, hW4⟩ := id R
  obtain ⟨okp2, okp, okq2, okq, okg, okh⟩ := id ok
  have eM : M 0 0 = S 0 0 := s2.trans s1.symm
  by_cases c1 : S 0 0 = 2
  · by_cases c2 : isCf (S 0 2) a1
    · by_cases c3 : a2 < 1 ∨ ¬ a2 < nI p0
      · exact ⟨2, S, up M 0 1 2, l_forge_IAE l dC dI Z cI cP cL p0 q0 g0 h0 ou S f _ _ (t_C_forge_x l hlt dC dI Z cI cP p0 q0 g0 h0 S a1 a2 c1 c2 c3), r_M_forge_fx l dC dI Y cJ cZ p0 q0 g0 h0 M a1 a2 (eM.trans c1) (fun q => c3.elim q.2.1 (fun z => z q.2.2)), rfl, st, n0, t0, R.thr 2⟩
      · have d1 : ¬ a2 < 1 := fun q => c3 (Or.inl q)
        have d2 : a2 < nI p0 := Classical.not_not.mp (fun q => c3 (Or.inr q))
        obtain ⟨k0, hk0, rfl⟩ := isCf_nat (by rw [t1] at c2; exact c2) (by omega)
        have d0 : ¬ a2 < 0 := fun q => d1 (by
          rw [Int32.lt_iff_toInt_lt] at q ⊢
          have e0 : (0 : Int32).toInt = 0 := by decide
          have e1 : (1 : Int32).toInt = 1 := by decide
          omega)
        obtain ⟨x0, hx0, rfl⟩ := nI_of d0
        have hx1 : 1 ≤ x0 := Nat.not_lt.mp (fun q => d1 (nI_lt (b := 1) q (by decide)))
        have hxp : x0 < p0 := (nI_ltI hx0 okp).mp d2
        have hS : ∀ k, (up S 3 k0 (nI x0)) 3 k = if k = k0 then nI x0 else S 3 k := fun k => up_i
        have hM : ∀ k, (up (up M 0 1 0) 3 k0 (nI x0)) 3 k = if k = k0 then nI x0 else M 3 k := fun k => up_i
        have hst : st = 2 := (st_lt s3 (n := 2) (by decide)).mp (s1.symm.trans c1)
        refine ⟨0, _, _, l_forge_go l dC dI Z cI cP cL p0 q0 g0 h0 ou S f _ _ _ (c_C_forge l dC dI Z cI cP p0 q0 g0 h0 S k0 t0 x0 c1 t1 (by omega) hk0 hx1 hxp ok), c_M_forge l dC dI Y cJ cZ p0 q0 g0 h0 M k0 t0 x0 (eM.trans c1) t2 (by omega) hk0 hx1 hxp ok, rfl, st, n0, t0, ⟨s1, s2, s3⟩, ⟨n1, n2, n3⟩, ⟨t1, t2, t3⟩, z0, ⟨b1, b2, b3⟩, hN, hA, fun k hk => ?_, fun h2 k hk => ?_, hU, hU2, hF, hK, hW3, fun h4 => by omega⟩
        · rw [hS, hM]
          by_cases c : k = k0
          · simp only [if_pos c]; exact ⟨okN.of hxp hx0, okN.of hxp hx0⟩
          · simp only [if_neg c]; exact hC k hk
        · rw [hS, hM]
          by_cases c : k = k0
          · rw [if_pos c, if_pos c]
          · simp only [if_neg c]; exact hC2 h2 k hk
    · exact ⟨2, S, up M 0 1 2, l_forge_IAE l dC dI Z cI cP cL p0 q0 g0 h0 ou S f _ _ (t_C_forge_cf l hlt dC dI Z cI cP p0 q0 g0 h0 S a1 a2 c1 c2), r_M_forge_fx l dC dI Y cJ cZ p0 q0 g0 h0 M a1 a2 (eM.trans c1) (fun q => c2 (by rw [t1, ← t2]; exact q.1)), rfl, st, n0, t0, R.thr 2⟩
  · exact ⟨1, S, up M 0 1 1, l_forge_ISE l dC dI Z cI cP cL p0 q0 g0 h0 ou S f _ _ (t_C_forge_st l hlt dC dI Z cI cP p0 q0 g0 h0 S a1 a2 c1), r_M_forge_st l dC dI Y cJ cZ p0 q0 g0 h0 M a1 a2 (by rw [eM]; exact c1), rfl, st, n0, t0, R.thr 1⟩
end ST
