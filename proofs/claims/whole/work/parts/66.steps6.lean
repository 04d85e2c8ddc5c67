theorem mz_ct_eq {f g : Nat → Int32} : ∀ n, (∀ j, j < n → f j = g j) → mz_ct f n = mz_ct g n
  | 0, _ => rfl
  | n + 1, h => by
    have ih := mz_ct_eq (f := f) (g := g) n (fun j hj => h j (by omega))
    have e := h n (by omega)
    by_cases c : f n = 0
    · rw [mz_ct_0 c, mz_ct_0 (e.symm.trans c), ih]
    · rw [mz_ct_1 c, mz_ct_1 (fun q => c (e.trans q)), ih]
theorem mz_ps_eq {c d : Nat → Nat} (i : Nat) : ∀ n, (∀ k, k < n → c k = d k) → mz_ps c i n = mz_ps d i n
  | 0, _ => rfl
  | n + 1, h => by
    have h1 := mz_ps_eq (c := c) (d := d) i n (fun k hk => h k (by omega))
    have h2 := h n (by omega)
    have e1 : mz_ps c i (n + 1) = mz_ps c i n + c n * i ^ n := rfl
    have e2 : mz_ps d i (n + 1) = mz_ps d i n + d n * i ^ n := rfl
    rw [e1, e2, h1, h2]
theorem pubC_at (p0 g0 h0 : Nat) (S : Nat → Nat → Int32) (i : Nat) : ∀ k, pubC p0 g0 h0 S k 3 i = if i < k then nI ((g0 ^ nn (S 1 i) % p0) * (h0 ^ nn (S 2 i) % p0) % p0) else S 3 i
  | 0 => rfl
  | k + 1 => by
    have ih := pubC_at p0 g0 h0 S i k
    rw [pubC, up_i]
    by_cases c : i = k
    · subst c
      rw [if_pos rfl, if_pos (by omega)]
    · rw [if_neg c, ih]
      by_cases d : i < k
      · rw [if_pos d, if_pos (by omega)]
      · rw [if_neg d, if_neg (by omega)]
theorem sndS_5 (q0 t0 : Nat) (S : Nat → Nat → Int32) (i : Nat) : ∀ k, sndS q0 t0 S k 5 i = if i < k then nI (mz_pv (fun k => nn (S 1 k)) (i + 1) 0 t0 % q0) else S 5 i
  | 0 => rfl
  | k + 1 => by
    have ih := sndS_5 q0 t0 S i k
    rw [sndS, rcv, up_ne _ _ _ (by decide), up_i]
    by_cases c : i = k
    · subst c
      rw [if_pos rfl, if_pos (by omega)]
    · rw [if_neg c, ih]
      by_cases d : i < k
      · rw [if_pos d, if_pos (by omega)]
      · rw [if_neg d, if_neg (by omega)]
theorem sndS_6 (q0 t0 : Nat) (S : Nat → Nat → Int32) (i : Nat) : ∀ k, sndS q0 t0 S k 6 i = if i < k then nI (mz_pv (fun k => nn (S 2 k)) (i + 1) 0 t0 % q0) else S 6 i
  | 0 => rfl
  | k + 1 => by
    have ih := sndS_6 q0 t0 S i k
    rw [sndS, rcv, up_i, up_ne _ _ _ (by decide)]
    by_cases c : i = k
    · subst c
      rw [if_pos rfl, if_pos (by omega)]
    · rw [if_neg c, ih]
      by_cases d : i < k
      · rw [if_pos d, if_pos (by omega)]
      · rw [if_neg d, if_neg (by omega)]
theorem sndM_7 (q0 t0 : Nat) (S : Nat → Nat → Int32) (i : Nat) : ∀ k, sndM q0 t0 S k 7 (i + 1) = if i < k then nI (mz_ps (fun k => nn (S 1 k)) (i + 1) t0 % q0) else S 7 (i + 1)
  | 0 => rfl
  | k + 1 => by
    have ih := sndM_7 q0 t0 S i k
    rw [sndM, up_ne _ _ _ (by decide), up_j]
    by_cases c : i = k
    · subst c
      rw [if_pos rfl, if_pos (by omega)]
    · rw [if_neg c, ih]
      by_cases d : i < k
      · rw [if_pos d, if_pos (by omega)]
      · rw [if_neg d, if_neg (by omega)]
theorem sndM_8 (q0 t0 : Nat) (S : Nat → Nat → Int32) (i : Nat) : ∀ k, sndM q0 t0 S k 8 (i + 1) = if i < k then nI (mz_ps (fun k => nn (S 2 k)) (i + 1) t0 % q0) else S 8 (i + 1)
  | 0 => rfl
  | k + 1 => by
    have ih := sndM_8 q0 t0 S i k
    rw [sndM, up_j, up_ne _ _ _ (by decide)]
    by_cases c : i = k
    · subst c
      rw [if_pos rfl, if_pos (by omega)]
    · rw [if_neg c, ih]
      by_cases d : i < k
      · rw [if_pos d, if_pos (by omega)]
      · rw [if_neg d, if_neg (by omega)]
theorem raiC_at (p0 g0 h0 t0 : Nat) (S : Nat → Nat → Int32) (i : Nat) : ∀ k, i < k → raiC p0 g0 h0 t0 S k 8 i = mz_b (S 7 i = 0 ∧ ¬ (g0 ^ (nn (S 5 i)) % p0) * (h0 ^ (nn (S 6 i)) % p0) % p0 = mz_cp (fun k => nn (S 3 k)) (i + 1) 0 t0 % p0)
  | 0, h => absurd h (Nat.not_lt_zero i)
  | k + 1, h => by
    rw [raiC, up_i]
    by_cases c : i = k
    · subst c
      rw [if_pos rfl]
    · rw [if_neg c, raiC_at p0 g0 h0 t0 S i k (by omega)]
theorem raiM_at (p0 g0 h0 t0 : Nat) (S : Nat → Nat → Int32) (i : Nat) : ∀ k, i < k → raiM p0 g0 h0 t0 S k 5 (i + 1) = mz_b (S 4 (i + 1) = 0 ∧ ¬ fitM p0 g0 h0 t0 S i)
  | 0, h => absurd h (Nat.not_lt_zero i)
  | k + 1, h => by
    rw [raiM, up_j]
    by_cases c : i = k
    · subst c
      rw [if_pos rfl]
      rfl
    · rw [if_neg c, raiM_at p0 g0 h0 t0 S i k (by omega)]
theorem Rl.adv1 {p0 q0 g0 h0 n0 t0 : Nat} {S M : Nat → Nat → Int32} (ok : okG p0 q0 g0 h0) (R : Rl p0 q0 g0 h0 S M 1 n0 t0) :
    Rl p0 q0 g0 h0 (up (sndS q0 t0 (pubC p0 g0 h0 S t0) n0) 0 0 2) (up (sndM q0 t0 (pubC p0 g0 h0 (up M 0 1 0) t0) n0) 0 0 2) 2 n0 t0 := by
  obtain ⟨⟨s1, s2, s3⟩, ⟨n1, n2, n3⟩, ⟨t1, t2, t3⟩, z0, ⟨b1, b2, b3⟩, hN, hA, hC, hC2, hU, hU2, hF, hK, hW3, hW4⟩ := id R
  obtain ⟨okp2, okp, okq2, okq, okg, okh⟩ := id ok
  generalize hSP : pubC p0 g0 h0 S t0 = SP
  generalize hMP : pubC p0 g0 h0 (up M 0 1 0) t0 = MP
  have p3 : ∀ i, SP 3 i = if i < t0 then nI ((g0 ^ nn (S 1 i) % p0) * (h0 ^ nn (S 2 i) % p0) % p0) else S 3 i := fun i => by rw [← hSP]; exact pubC_at p0 g0 h0 S i t0
  have q3 : ∀ i, MP 3 i = if i < t0 then nI ((g0 ^ nn (M 1 i) % p0) * (h0 ^ nn (M 2 i) % p0) % p0) else M 3 i := fun i => by rw [← hMP]; exact pubC_at p0 g0 h0 (up M 0 1 0) i t0
  have po : ∀ ff, ff ≠ 3 → SP ff = S ff := fun ff h => by rw [← hSP]; exact pubC_ne p0 g0 h0 S h t0
  have qo : ∀ ff, ff ≠ 3 → MP ff = (up M 0 1 0) ff := fun ff h => by rw [← hMP]; exact pubC_ne p0 g0 h0 (up M 0 1 0) h t0
  generalize hSS : up (sndS q0 t0 SP n0) 0 0 2 = SS
  generalize hMM : up (sndM q0 t0 MP n0) 0 0 2 = MM
  have r5 : ∀ j, SS 5 j = if j < n0 then nI (mz_pv (fun k => nn (S 1 k)) (j + 1) 0 t0 % q0) else S 5 j := fun j => by rw [← hSS, up_ne _ _ _ (by decide), sndS_5, po 1 (by decide), po 5 (by decide)]
  have r6 : ∀ j, SS 6 j = if j < n0 then nI (mz_pv (fun k => nn (S 2 k)) (j + 1) 0 t0 % q0) else S 6 j := fun j => by rw [← hSS, up_ne _ _ _ (by decide), sndS_6, po 2 (by decide), po 6 (by decide)]
  have w7 : ∀ j, MM 7 (j + 1) = if j < n0 then nI (mz_ps (fun k => nn (M 1 k)) (j + 1) t0 % q0) else M 7 (j + 1) := fun j => by rw [← hMM, up_ne _ _ _ (by decide), sndM_7, qo 1 (by decide), qo 7 (by decide)]; rfl
  have w8 : ∀ j, MM 8 (j + 1) = if j < n0 then nI (mz_ps (fun k => nn (M 2 k)) (j + 1) t0 % q0) else M 8 (j + 1) := fun j => by rw [← hMM, up_ne _ _ _ (by decide), sndM_8, qo 2 (by decide), qo 8 (by decide)]; rfl
  have r3 : SS 3 = SP 3 := by rw [← hSS, up_ne _ _ _ (by decide), sndS_ne _ _ _ (by decide) (by decide)]
  have w3 : MM 3 = MP 3 := by rw [← hMM, up_ne _ _ _ (by decide), sndM_ne _ _ _ (by decide) (by decide)]
  have ro : ∀ ff, ff ≠ 0 → ff ≠ 3 → ff ≠ 5 → ff ≠ 6 → SS ff = S ff := fun ff h0 h3 h5 h6 => by rw [← hSS, up_ne _ _ _ h0, sndS_ne _ _ _ h5 h6, po ff h3]
  have wo : ∀ ff, ff ≠ 0 → ff ≠ 3 → ff ≠ 7 → ff ≠ 8 → MM ff = M ff := fun ff h0 h3 h5 h6 => by rw [← hMM, up_ne _ _ _ h0, sndM_ne _ _ _ h5 h6, qo ff h3, up_ne _ _ _ h0]
  have r0 : ∀ k, k ≠ 0 → SS 0 k = S 0 k := fun k hk => by rw [← hSS, up_nk _ _ _ hk, sndS_ne _ _ _ (by decide) (by decide), po 0 (by decide)]
  have w0 : ∀ k, k ≠ 0 → k ≠ 1 → MM 0 k = M 0 k := fun k hk h1 => by rw [← hMM, up_nk _ _ _ hk, sndM_ne _ _ _ (by decide) (by decide), qo 0 (by decide), up_nk _ _ _ h1]
  have e00 : SS 0 0 = 2 := by rw [← hSS]; exact up_at _ _ _ _
  have f00 : MM 0 0 = 2 := by rw [← hMM]; exact up_at _ _ _ _
  have mp : ∀ a, okN (nI (a % p0)) p0 := fun a => okN.of (Nat.mod_lt _ (by omega)) (Nat.lt_trans (Nat.mod_lt _ (by omega)) okp)
  have mq : ∀ a, okN (nI (a % q0)) q0 := fun a => okN.of (Nat.mod_lt _ (by omega)) (Nat.lt_trans (Nat.mod_lt _ (by omega)) okq)
  unfold Rl
  rw [e00, f00, r0 1 (by decide), r0 2 (by decide), r0 3 (by decide), r0 4 (by decide), r0 5 (by decide), w0 2 (by decide) (by decide), w0 3 (by decide) (by decide), w0 4 (by decide) (by decide), w0 5 (by decide) (by decide), w0 6 (by decide) (by decide),
    ro 1 (by decide) (by decide) (by decide) (by decide), ro 2 (by decide) (by decide) (by decide) (by decide), ro 4 (by decide) (by decide) (by decide) (by decide), ro 7 (by decide) (by decide) (by decide) (by decide), ro 8 (by decide) (by decide) (by decide) (by decide), ro 9 (by decide) (by decide) (by decide) (by decide), ro 10 (by decide) (by decide) (by decide) (by decide), ro 11 (by decide) (by decide) (by decide) (by decide), ro 12 (by decide) (by decide) (by decide) (by decide),
    wo 1 (by decide) (by decide) (by decide) (by decide), wo 2 (by decide) (by decide) (by decide) (by decide), wo 4 (by decide) (by decide) (by decide) (by decide), wo 5 (by decide) (by decide) (by decide) (by decide), wo 6 (by decide) (by decide) (by decide) (by decide), wo 9 (by decide) (by decide) (by decide) (by decide), wo 10 (by decide) (by decide) (by decide) (by decide), wo 11 (by decide) (by decide) (by decide) (by decide)]
  refine ⟨⟨rfl, rfl, by decide⟩, ⟨n1, n2, n3⟩, ⟨t1, t2, t3⟩, z0.imp (fun q => by omega) (fun q => ⟨by decide, q.2⟩), ⟨b1, b2, b3⟩, hN, hA, fun k hk => ?_, fun _ k hk => ?_, fun j hj => ?_, fun _ j hj => ?_, hF, hK, fun _ => hW3 (by decide), fun h => absurd h (by decide)⟩
  · rw [r3, w3, p3, q3]
    by_cases c : k < t0
    · rw [if_pos c, if_pos c]; exact ⟨mp _, mp _⟩
    · rw [if_neg c, if_neg c]; exact hC k hk
  · rw [r3, w3, p3, q3, if_pos hk, if_pos hk, (hA k hk).1, (hA k hk).2.1]
  · rw [r5, r6, w7, w8]
    by_cases c : j < n0
    · rw [if_pos c, if_pos c, if_pos c, if_pos c]; exact ⟨mq _, mq _, mq _, mq _⟩
    · rw [if_neg c, if_neg c, if_neg c, if_neg c]; exact hU j hj
  · rw [r5, r6, w7, w8, if_pos hj, if_pos hj, if_pos hj, if_pos hj, mz_pv_ps, mz_pv_ps, mz_ps_eq (c := fun k => nn (S 1 k)) (d := fun k => nn (M 1 k)) (j + 1) t0 (fun k hk => congrArg nn (hA k hk).1), mz_ps_eq (c := fun k => nn (S 2 k)) (d := fun k => nn (M 2 k)) (j + 1) t0 (fun k hk => congrArg nn (hA k hk).2.1)]
    exact ⟨rfl, rfl⟩
theorem Rl.adv2 {p0 q0 g0 h0 n0 t0 : Nat} {S M : Nat → Nat → Int32} (R : Rl p0 q0 g0 h0 S M 2 n0 t0) :
    Rl p0 q0 g0 h0 (up (raiC p0 g0 h0 t0 S n0) 0 0 3) (up (raiM p0 g0 h0 t0 (up M 0 1 0) n0) 0 0 3) 3 n0 t0 := by
  obtain ⟨⟨s1, s2, s3⟩, ⟨n1, n2, n3⟩, ⟨t1, t2, t3⟩, z0, ⟨b1, b2, b3⟩, hN, hA, hC, hC2, hU, hU2, hF, hK, hW3, hW4⟩ := id R
  generalize hSS : up (raiC p0 g0 h0 t0 S n0) 0 0 3 = SS
  generalize hMM : up (raiM p0 g0 h0 t0 (up M 0 1 0) n0) 0 0 3 = MM
  have ro : ∀ ff, ff ≠ 0 → ff ≠ 8 → SS ff = S ff := fun ff h0 h8 => by rw [← hSS, up_ne _ _ _ h0, raiC_ne _ _ _ _ _ h8]
  have wo : ∀ ff, ff ≠ 0 → ff ≠ 5 → MM ff = M ff := fun ff h0 h5 => by rw [← hMM, up_ne _ _ _ h0, raiM_ne _ _ _ _ _ h5, up_ne _ _ _ h0]
  have r0 : ∀ k, k ≠ 0 → SS 0 k = S 0 k := fun k hk => by rw [← hSS, up_nk _ _ _ hk, raiC_ne _ _ _ _ _ (by decide)]
  have w0 : ∀ k, k ≠ 0 → k ≠ 1 → MM 0 k = M 0 k := fun k hk h1 => by rw [← hMM, up_nk _ _ _ hk, raiM_ne _ _ _ _ _ (by decide), up_nk _ _ _ h1]
  have e00 : SS 0 0 = 3 := by rw [← hSS]; exact up_at _ _ _ _
  have f00 : MM 0 0 = 3 := by rw [← hMM]; exact up_at _ _ _ _
  have e8 : ∀ j, j < n0 → SS 8 j = MM 5 (j + 1) := fun j hj => by
    have h := hF j hj
    have hp := hU2 (by decide) j hj
    rw [← hSS, ← hMM, up_ne _ _ _ (by decide), up_ne _ _ _ (by decide), raiC_at _ _ _ _ _ _ _ hj, raiM_at _ _ _ _ _ _ _ hj]
    have fe : ((g0 ^ (nn (S 5 j)) % p0) * (h0 ^ (nn (S 6 j)) % p0) % p0 = mz_cp (fun k => nn (S 3 k)) (j + 1) 0 t0 % p0) = fitM p0 g0 h0 t0 (up M 0 1 0) j := by
      rw [fit_eq (S := S) (M := M) (hC2 (by decide)), hp.1, hp.2]
      rfl
    rw [fe, h.1]
    rfl
  unfold Rl
  rw [e00, f00, r0 1 (by decide), r0 2 (by decide), r0 3 (by decide), r0 4 (by decide), r0 5 (by decide), w0 2 (by decide) (by decide), w0 3 (by decide) (by decide), w0 4 (by decide) (by decide), w0 5 (by decide) (by decide), w0 6 (by decide) (by decide),
    ro 1 (by decide) (by decide), ro 2 (by decide) (by decide), ro 3 (by decide) (by decide), ro 4 (by decide) (by decide), ro 5 (by decide) (by decide), ro 6 (by decide) (by decide), ro 7 (by decide) (by decide), ro 9 (by decide) (by decide), ro 10 (by decide) (by decide), ro 11 (by decide) (by decide), ro 12 (by decide) (by decide),
    wo 1 (by decide) (by decide), wo 2 (by decide) (by decide), wo 3 (by decide) (by decide), wo 4 (by decide) (by decide), wo 6 (by decide) (by decide), wo 7 (by decide) (by decide), wo 8 (by decide) (by decide), wo 9 (by decide) (by decide), wo 10 (by decide) (by decide), wo 11 (by decide) (by decide)]
  exact ⟨⟨rfl, rfl, by decide⟩, ⟨n1, n2, n3⟩, ⟨t1, t2, t3⟩, z0.imp (fun q => by omega) (fun q => ⟨by decide, q.2⟩), ⟨b1, b2, b3⟩, hN, hA, hC, fun _ => hC2 (by decide), hU, fun _ => hU2 (by decide), fun j hj => ⟨(hF j hj).1, e8 j hj, (hF j hj).2.2⟩, hK, fun _ => hW3 (by decide), fun h => absurd h (by decide)⟩
theorem Rl.advS {p0 q0 g0 h0 st st1 n0 t0 : Nat} {S M : Nat → Nat → Int32} {v : Int32} (R : Rl p0 q0 g0 h0 S M st n0 t0) (hst : 3 ≤ st) (hv : v = nI st1) (h1 : st1 ≤ 6) (h4 : 4 ≤ st1) (hs : st1 = 4 → st = 3) :
    Rl p0 q0 g0 h0 (up S 0 0 v) (up (up M 0 1 0) 0 0 v) st1 n0 t0 := by
  obtain ⟨⟨s1, s2, s3⟩, ⟨n1, n2, n3⟩, ⟨t1, t2, t3⟩, z0, ⟨b1, b2, b3⟩, hN, hA, hC, hC2, hU, hU2, hF, hK, hW3, hW4⟩ := id R
  refine ⟨⟨(up_at _ _ _ _).trans hv, (up_at _ _ _ _).trans hv, h1⟩, ⟨n1, n2, n3⟩, ⟨t1, t2, t3⟩, z0.imp (fun q => by omega) (fun q => ⟨by omega, q.2⟩), ⟨b1, b2, b3⟩, hN, hA, hC, fun _ => hC2 (by omega), hU, fun _ => hU2 (by omega), hF, hK, fun h => by omega, fun h j hj => ?_⟩
  have h3 := hW3 (by rw [hs h]; decide) j hj
  exact ⟨fun _ => Or.inl h3.2, fun _ => h3.1⟩
section ST
variable {l : Launch} {dC : Nat → ClassId} {dI : Nat → Nat → Nat} {Z Y : Nat → Nat} {cI cP cL cJ cZ : ClassId} {p0 q0 g0 h0 ou : Nat} {S M : Nat → Nat → Int32} {f : Nat → Int64}
set_option maxRecDepth 100000 in
set_option maxHeartbeats 4000000 in
theorem s_advance (hlt : l.stackTraces = false) (ok : okG p0 q0 g0 h0) (R : Rel p0 q0 g0 h0 S M) : ∃ (k : Int32) (S1 M1 : Nat → Nat → Int32) (f1 : Nat → Int64) (r : Int32), Wp l y_L_advance ws_L_advance [.ref (Z 0), .ref ou] dC dI (wC Z cI cP p0 q0 g0 h0 S ++ oL ou cL f) (wC Z cI cP p0 q0 g0 h0 S1 ++ oL ou cL f1) (tysL cI cP cL) k ∧ Wr l y_M_advance ws_M_advance 4 95 [.ref (Y 0)] (dC, dI) cls (tysM cJ cZ) (wM Y cJ cZ p0 q0 g0 h0 M) (wM Y cJ cZ p0 q0 g0 h0 M1) (some (.int r)) ∧ M1 0 1 = k ∧ (k = 0 → f1 0 = r.toInt64) ∧ Rel p0 q0 g0 h0 S1 M1 := by
  obtain ⟨st, n0, t0, R⟩ := R
  obtain ⟨⟨s1, s2, s3⟩, ⟨n1, n2, n3⟩, ⟨t1, t2, t3⟩, z0, ⟨b1, b2, b3⟩, hN, hA, hC, hC2, hU, hU2, hF, hK, hW3, hW4⟩ := id R
  obtain ⟨okp2, okp, okq2, okq, okg, okh⟩ := id ok
  have eM : M 0 0 = S 0 0 := s2.trans s1.symm
  have hzz : 1 ≤ st → 1 ≤ t0 ∧ n0 < q0 := fun h => z0.elim (fun q => by omega) (fun q => q.2)
  have uM : ∀ j, j < n0 → okN (M 7 (j + 1)) q0 := fun j hj => (hU j (by omega)).2.2.1
  have vM : ∀ j, j < n0 → okN (M 8 (j + 1)) q0 := fun j hj => (hU j (by omega)).2.2.2
  have cM : ∀ k, k < t0 → okN (M 3 k) p0 := fun k hk => (hC k (by omega)).2
  have cS : ∀ k, k < t0 → okN (S 3 k) p0 := fun k hk => (hC k (by omega)).1
  by_cases c1 : S 0 0 = 1
  · have hst : st = 1 := (st_lt s3 (n := 1) (by decide)).mp (s1.symm.trans c1)
    subst hst
    exact ⟨0, _, _, _, _, l_advance_go l dC dI Z cI cP cL p0 q0 g0 h0 ou S f _ _ (c_C_advance1 l dC dI Z cI cP p0 q0 g0 h0 S n0 t0 c1 n1 n3 t1 (by omega) ok (fun k hk => (hA k hk).2.2.1) (fun k hk => (hA k hk).2.2.2)), c_M_advance1 l dC dI Y cJ cZ p0 q0 g0 h0 M n0 t0 (eM.trans c1) n2 n3 uM vM t2 (by omega) ok cM (fun k hk => by rw [← (hA k hk).1]; exact (hA k hk).2.2.1) (fun k hk => by rw [← (hA k hk).2.1]; exact (hA k hk).2.2.2), by rw [up_nk _ _ _ (by decide), sndM_ne _ _ _ (by decide) (by decide), pubC_ne _ _ _ _ (by decide)]; rfl, fun _ => by simp [vp_updL], 2, n0, t0, R.adv1 ok⟩
  by_cases c2 : S 0 0 = 2
  · have hst : st = 2 := (st_lt s3 (n := 2) (by decide)).mp (s1.symm.trans c2)
    subst hst
    exact ⟨0, _, _, _, _, l_advance_go l dC dI Z cI cP cL p0 q0 g0 h0 ou S f _ _ (c_C_advance2 l dC dI Z cI cP p0 q0 g0 h0 S n0 t0 c2 n1 n3 hN (fun j hj => (hU j (by omega)).1) (fun j hj => (hU j (by omega)).2.1) t1 (by omega) ok cS), c_M_advance2 l dC dI Y cJ cZ p0 q0 g0 h0 M n0 t0 (eM.trans c2) n2 n3 uM vM t2 (by omega) ok cM, by rw [up_nk _ _ _ (by decide), raiM_ne _ _ _ _ _ (by decide)]; rfl, fun _ => by simp [vp_updL], 3, n0, t0, R.adv2⟩
  by_cases c3 : S 0 0 = 3
  · have hst : st = 3 := (st_lt s3 (n := 3) (by decide)).mp (s1.symm.trans c3)
    have ect : mz_ct (S 8) n0 = mz_ct (fun i => M 5 (i + 1)) n0 := mz_ct_eq n0 (fun j hj => (hF j hj).2.1)
    have hM := c_M_advance3 l dC dI Y cJ cZ p0 q0 g0 h0 M n0 t0 (eM.trans c3) n2 n3 uM vM t2 (by omega) ok cM
    rw [← ect] at hM
    by_cases d : t0 ≤ mz_ct (S 8) n0
    · exact ⟨0, _, _, _, _, l_advance_go l dC dI Z cI cP cL p0 q0 g0 h0 ou S f _ _ (c_C_advance3 l dC dI Z cI cP p0 q0 g0 h0 S n0 t0 c3 n1 n3 t1 (by omega)), hM, rfl, fun _ => by simp [vp_updL], 6, n0, t0, R.advS (by omega) (by rw [if_pos d]; rfl) (by decide) (by decide) (fun h => absurd h (by decide))⟩
    · exact ⟨0, _, _, _, _, l_advance_go l dC dI Z cI cP cL p0 q0 g0 h0 ou S f _ _ (c_C_advance3 l dC dI Z cI cP p0 q0 g0 h0 S n0 t0 c3 n1 n3 t1 (by omega)), hM, rfl, fun _ => by simp [vp_updL], 4, n0, t0, R.advS (by omega) (by rw [if_neg d]; rfl) (by decide) (by decide) (fun _ => hst)⟩
  by_cases c4 : S 0 0 = 4
  · have hst : st = 4 := (st_lt s3 (n := 4) (by decide)).mp (s1.symm.trans c4)
    have eA : allA S n0 = wlM p0 g0 h0 t0 M n0 := propext ⟨fun h i hi => by
      have e := (hF i hi).2.1
      have w := hW4 hst i hi
      rcases h i hi with q | q
      · exact Or.inl (e.symm.trans q)
      · exact Or.inr ⟨fun z => q (w.mpr (Or.inl z)), Classical.not_not.mp (fun z => q (w.mpr (Or.inr z)))⟩, fun h i hi => by
      have e := (hF i hi).2.1
      have w := hW4 hst i hi
      rcases h i hi with q | q
      · exact Or.inl (e.trans q)
      · exact Or.inr (fun z => (w.mp z).elim q.1 (fun y => y q.2))⟩
    have e5 : st5 S n0 = st5M p0 g0 h0 t0 M n0 := by unfold st5 st5M; rw [eA]
    have hM := c_M_advance4 l dC dI Y cJ cZ p0 q0 g0 h0 M n0 t0 (eM.trans c4) n2 n3 uM vM t2 (by omega) ok cM
    rw [← e5] at hM
    by_cases d : allA S n0
    · exact ⟨0, _, _, _, _, l_advance_go l dC dI Z cI cP cL p0 q0 g0 h0 ou S f _ _ (c_C_advance4 l dC dI Z cI cP p0 q0 g0 h0 S n0 c4 n1 n3), hM, rfl, fun _ => by simp [vp_updL], 5, n0, t0, R.advS (by omega) (by unfold st5; rw [if_pos d]; rfl) (by decide) (by decide) (fun h => absurd h (by decide))⟩
    · exact ⟨0, _, _, _, _, l_advance_go l dC dI Z cI cP cL p0 q0 g0 h0 ou S f _ _ (c_C_advance4 l dC dI Z cI cP p0 q0 g0 h0 S n0 c4 n1 n3), hM, rfl, fun _ => by simp [vp_updL], 6, n0, t0, R.advS (by omega) (by unfold st5; rw [if_neg d]; rfl) (by decide) (by decide) (fun h => absurd h (by decide))⟩
  have hne : S 0 0 = 0 ∨ ¬ S 0 0 < 5 := by
    rw [s1] at c1 c2 c3 c4 ⊢
    have k1 : st ≠ 1 := fun q => c1 (by rw [q]; rfl)
    have k2 : st ≠ 2 := fun q => c2 (by rw [q]; rfl)
    have k3 : st ≠ 3 := fun q => c3 (by rw [q]; rfl)
    have k4 : st ≠ 4 := fun q => c4 (by rw [q]; rfl)
    rcases Nat.eq_zero_or_pos st with q | q
    · exact Or.inl (by rw [q]; rfl)
    · exact Or.inr (nI_nlt (a := st) (b := 5) (by omega) (by omega))
  exact ⟨1, S, up M 0 1 1, f, 0, l_advance_ISE l dC dI Z cI cP cL p0 q0 g0 h0 ou S f (t_C_advance_st l hlt dC dI Z cI cP p0 q0 g0 h0 S ⟨c1, c2, c3, c4⟩), r_M_advance l dC dI Y cJ cZ p0 q0 g0 h0 M (by rw [eM]; exact hne), rfl, fun h => absurd h (by decide), st, n0, t0, R.thr 1⟩
end ST
