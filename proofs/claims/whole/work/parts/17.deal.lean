/-- the commitments are published, the shares are sent, complaints are raised: for the first of them -/
def pubC (p0 g0 h0 : Nat) (S : Nat → Nat → Int32) : Nat → Nat → Nat → Int32
  | 0 => S
  | k + 1 => up (pubC p0 g0 h0 S k) 3 k (nI ((g0 ^ nn (S 1 k) % p0) * (h0 ^ nn (S 2 k) % p0) % p0))
theorem pubC_ne (p0 g0 h0 : Nat) (S : Nat → Nat → Int32) {f : Nat} (hf : f ≠ 3) : ∀ k, pubC p0 g0 h0 S k f = S f
  | 0 => rfl
  | k + 1 => by rw [pubC, up_ne _ _ _ hf, pubC_ne p0 g0 h0 S hf k]
def sndS (q0 t0 : Nat) (S : Nat → Nat → Int32) : Nat → Nat → Nat → Int32
  | 0 => S
  | j + 1 => rcv (sndS q0 t0 S j) j (nI (mz_pv (fun k => nn (S 1 k)) (j + 1) 0 t0 % q0)) (nI (mz_pv (fun k => nn (S 2 k)) (j + 1) 0 t0 % q0))
theorem sndS_ne (q0 t0 : Nat) (S : Nat → Nat → Int32) {f : Nat} (h5 : f ≠ 5) (h6 : f ≠ 6) : ∀ k, sndS q0 t0 S k f = S f
  | 0 => rfl
  | k + 1 => by rw [sndS, rcv, up_ne _ _ _ h6, up_ne _ _ _ h5, sndS_ne q0 t0 S h5 h6 k]
noncomputable def raiC (p0 g0 h0 t0 : Nat) (S : Nat → Nat → Int32) : Nat → Nat → Nat → Int32
  | 0 => S
  | j + 1 => up (raiC p0 g0 h0 t0 S j) 8 j (mz_b (S 7 j = 0 ∧ ¬ (g0 ^ (nn (S 5 j)) % p0) * (h0 ^ (nn (S 6 j)) % p0) % p0 = mz_cp (fun k => nn (S 3 k)) (j + 1) 0 t0 % p0))
theorem raiC_ne (p0 g0 h0 t0 : Nat) (S : Nat → Nat → Int32) {f : Nat} (hf : f ≠ 8) : ∀ k, raiC p0 g0 h0 t0 S k f = S f
  | 0 => rfl
  | k + 1 => by rw [raiC, up_ne _ _ _ hf, raiC_ne p0 g0 h0 t0 S hf k]
set_option maxRecDepth 100000 in
set_option maxHeartbeats 4000000 in
/-- publishCommitments() -/
theorem c_C_publishCommitments (l : Launch) (dC : Nat → ClassId) (dI : Nat → Nat → Nat) (Z : Nat → Nat) (cI cP : ClassId) (p0 q0 g0 h0 : Nat) (S : Nat → Nat → Int32) (t0 : Nat) (ht : S 0 2 = nI t0) (ht7 : t0 ≤ 7) (ok : okG p0 q0 g0 h0) (hA : ∀ k, k < t0 → okN (S 1 k) q0) (hB : ∀ k, k < t0 → okN (S 2 k) q0) : Wr l y_C_publishCommitments ws_C_publishCommitments 3 71 [.ref (Z 0)] (dC, dI) cls (tysC cI cP) (wC Z cI cP p0 q0 g0 h0 (S)) (wC Z cI cP p0 q0 g0 h0 (pubC p0 g0 h0 S t0)) (none) := by
  refine Met.ofW (cc := b_C_publishCommitments) (maxL := 2) (ret := none) (by decide) rfl ?_
  intro p e s m args below meth c s₁ B hml hv
  obtain ⟨rfl, hP, hK, hD0⟩ := hv
  have hx := B.exec
  have hb := B.bytes
  have hr := B.returns
  have hts : ∀ w ∈ AL, w.before ([.ref (Z 0)] : List Value).toArray s = true := fun w h => atoms_spec (ws := ws_C_publishCommitments) B.pre w (List.mem_cons_of_mem _ h)
  have hown : s.vm.findClass "DealtSecret" = some m.cls := findClass_of_methodNamed B.named
  have hlk := B.notSynchronized
  have hl := lv_entry ([.ref (Z 0)]) (n := 2) (Nat.le_of_ble_eq_true rfl)
  rw [lg_entry_eq]
  generalize (lg_sl ([.ref (Z 0)]) ++ List.replicate (2 - (lg_sl ([.ref (Z 0)])).length) Slot.unset).toArray = ls at hl ⊢
  have hl : lv_has ls 2 [(0, .ref (Z 0))] := hl
  have hD := w_self hD0
  have hS : va_S (w_A (wC Z cI cP p0 q0 g0 h0 (S))) s.heap s.heap [] := va_S.rf
  obtain ⟨okp2, okp, okq2, okq, okg, okh⟩ := id ok
  have loop : ∀ (n k : Nat) (H : Heap) (locs : List Loc) (ls : Array Slot), t0 + 1 ≤ k + n → k ≤ t0 → va_P (dC, dI) cls (wC Z cI cP p0 q0 g0 h0 (pubC p0 g0 h0 S k)) H → va_D (w_A (wC Z cI cP p0 q0 g0 h0 (S))) (wC Z cI cP p0 q0 g0 h0 (pubC p0 g0 h0 S k)) → va_S (w_A (wC Z cI cP p0 q0 g0 h0 (S))) s.heap H locs → lv_has ls 2 [(0, .ref (Z 0)), (1, .int (nI k))] → W p l e (headSpec ws_C_publishCommitments { frames := 3, cells := 0, slots := 0, locals := 71 }).room s m [.ref (Z 0)].toArray below meth c H locs 0 0 (MQ below (fun _ st o t => o = .returned (none) ∧ va_P (dC, dI) cls (wC Z cI cP p0 q0 g0 h0 (pubC p0 g0 h0 S t0)) t.heap ∧ va_F (w_A (wC Z cI cP p0 q0 g0 h0 (S))) st t) [.ref (Z 0)].toArray s 0 0 (w_A (wC Z cI cP p0 q0 g0 h0 (S)))) (F0 m 2 ls []) := by
    intro n
    induction n with
    | zero =>
      intro k H locs ls h1 h2
      omega
    | succ n ih =>
      intro k H locs ls h1 h2 hP hD hS hl
      refine lv_iload_n hx hb d_C_publishCommitments_2 rfl (lv_at hl 1 rfl) ?_
      refine lv_aload_n hx hb d_C_publishCommitments_3 rfl (lv_at hl 0 rfl) ?_
      refine va_get (D := (dC, dI)) (ci := 2) (v := .int ((pubC p0 g0 h0 S k) 0 2)) (C := "DealtSecret") (T := T_C) (N := 11) hx hb hts i_C hown hK hP 0 rfl rfl 7 (by decide) (hts _ k_108) (fun _ h9 => h9) rfl d_C_publishCommitments_4 ?_
      refine x_i (y := nI t0) (by rw [pubC_ne p0 g0 h0 S (by decide) k]; exact ht) ?_
      refine lv_icmp_ge (tgt := 41) hx hb d_C_publishCommitments_7 (by decide) (fun c7 => ?_) (fun c7 => ?_)
      · have hk : k = t0 := by
          rcases Nat.lt_or_ge k t0 with q | q
          · exact absurd c7 (nI_ge q (by omega))
          · omega
        subst hk
        exact wr_v hx hb hr hlk hP hS d_C_publishCommitments_41
      · have hk : k < t0 := by
          rcases Nat.lt_or_ge k t0 with q | q
          · exact q
          · exact absurd (nI_le q (by omega)) c7
        have hAl := (hA k hk).lt
        have hBl := (hB k hk).lt
        refine lv_aload_n hx hb d_C_publishCommitments_10 rfl (lv_at hl 0 rfl) ?_
        refine va_get (D := (dC, dI)) (ci := 2) (v := .ref (Z 4)) (C := "DealtSecret") (T := T_C) (N := 11) hx hb hts i_C hown hK hP 0 rfl rfl 3 (by decide) (hts _ k_104) (fun _ h9 => h9) rfl d_C_publishCommitments_11 ?_
        refine lv_iload_n hx hb d_C_publishCommitments_14 rfl (lv_at hl 1 rfl) ?_
        refine lv_aload_n hx hb d_C_publishCommitments_15 rfl (lv_at hl 0 rfl) ?_
        refine va_get (D := (dC, dI)) (ci := 2) (v := .ref (Z 1)) (C := "DealtSecret") (T := T_C) (N := 11) hx hb hts i_C hown hK hP 0 rfl rfl 0 (by decide) (hts _ k_101) (fun _ h9 => h9) rfl d_C_publishCommitments_16 ?_
        refine lv_aload_n hx hb d_C_publishCommitments_19 rfl (lv_at hl 0 rfl) ?_
        refine va_get (D := (dC, dI)) (ci := 2) (v := .ref (Z 2)) (C := "DealtSecret") (T := T_C) (N := 11) hx hb hts i_C hown hK hP 0 rfl rfl 1 (by decide) (hts _ k_102) (fun _ h9 => h9) rfl d_C_publishCommitments_20 ?_
        refine lv_iload_n hx hb d_C_publishCommitments_23 rfl (lv_at hl 1 rfl) ?_
        refine va_iald hx hb hK hP 2 0 rfl rfl (vp_in_nI (by omega) (by decide)) d_C_publishCommitments_24 ?_
        refine x_i (y := (pubC p0 g0 h0 S k) 1 k) (by rw [nI_clamp (by omega)]) ?_
        refine x_i (y := nI (nn (S 1 k))) (by rw [pubC_ne p0 g0 h0 S (by decide) k]; exact (hA k hk).eq) ?_
        refine lv_aload_n hx hb d_C_publishCommitments_25 rfl (lv_at hl 0 rfl) ?_
        refine va_get (D := (dC, dI)) (ci := 2) (v := .ref (Z 3)) (C := "DealtSecret") (T := T_C) (N := 11) hx hb hts i_C hown hK hP 0 rfl rfl 2 (by decide) (hts _ k_103) (fun _ h9 => h9) rfl d_C_publishCommitments_26 ?_
        refine lv_iload_n hx hb d_C_publishCommitments_29 rfl (lv_at hl 1 rfl) ?_
        refine va_iald hx hb hK hP 3 0 rfl rfl (vp_in_nI (by omega) (by decide)) d_C_publishCommitments_30 ?_
        refine x_i (y := (pubC p0 g0 h0 S k) 2 k) (by rw [nI_clamp (by omega)]) ?_
        refine x_i (y := nI (nn (S 2 k))) (by rw [pubC_ne p0 g0 h0 S (by decide) k]; exact (hB k hk).eq) ?_
        refine ro_V (As := [.int (nI (nn (S 1 k))), .int (nI (nn (S 2 k)))]) (rest := [.int (nI k), .ref (Z 4)]) (b := (Z 1)) ⟨hx, hb, hml, hown, hts⟩ (c_G_commit l dC dI (Z 1) p0 q0 g0 h0 (nn (S 1 k)) (nn (S 2 k)) (by omega) (by omega) okg okh okp2 okp) (cwV 2 hts (al_V k_169 k_170 k_171 k_2 k_172) rfl rfl rfl (by decide +kernel) ⟨Nat.le_of_ble_eq_true rfl, Nat.le_of_ble_eq_true rfl⟩) (fun U g mk a h => ⟨h.1, va_K.moved (u := U) (U := U.calling g mk a) (Vm.Alike.refl U.vm) h.2⟩) (va_recv hK hP (ci := 0) (q0 := 1) rfl rfl) (fun U hU hW => ⟨by rw [hU]; exact (hP.sub [1] rfl), va_K.moved hW.alike (hK.sub [] rfl)⟩) rfl hl.1 rfl (lv_room (Nat.le_of_ble_eq_true rfl)) d_C_publishCommitments_31 ⟨Nat.zero_le _, Nat.zero_le _⟩ ?_
        refine va_iast hx hb hK hP hD hS 4 0 rfl rfl (vp_in_nI (by omega) (by decide)) d_C_publishCommitments_34 (fun H locs hP hD hS => ?_)
        rw [nI_clamp (by omega)] at hP hD
        have hP : va_P (dC, dI) cls (wC Z cI cP p0 q0 g0 h0 (up (pubC p0 g0 h0 S k) 3 k (nI ((g0 ^ nn (S 1 k) % p0) * (h0 ^ nn (S 2 k) % p0) % p0)))) H := by rw [← w_ca3]; exact hP
        have hD : va_D (w_A (wC Z cI cP p0 q0 g0 h0 (S))) (wC Z cI cP p0 q0 g0 h0 (up (pubC p0 g0 h0 S k) 3 k (nI ((g0 ^ nn (S 1 k) % p0) * (h0 ^ nn (S 2 k) % p0) % p0)))) := by rw [← w_ca3]; exact hD
        refine lv_iinc (v := (nI (k + 1))) (lv' := [(1, .int (nI (k + 1))), (0, .ref (Z 0))]) hx hb d_C_publishCommitments_35 hl (k := 1) rfl (nI_1 k) (by decide) rfl (fun ls hl => ?_)
        refine lv_goto (tgt := 2) hx hb d_C_publishCommitments_38 (by decide) ?_
        exact ih (k + 1) H locs ls (by omega) (by omega) hP hD hS (lv_sub hl [1, 0] rfl)
  refine lv_iconst (v := (nI 0)) hx hb d_C_publishCommitments_0 (by decide) ?_
  refine lv_istore_n (lv' := [(1, .int (nI 0)), (0, .ref (Z 0))]) hx hb d_C_publishCommitments_1 rfl hl (by decide) rfl (fun ls hl => ?_)
  exact loop (t0 + 1) 0 _ _ ls (by omega) (by omega) hP hD hS (lv_sub hl [1, 0] rfl)
set_option maxRecDepth 100000 in
set_option maxHeartbeats 4000000 in
/-- sendShares() -/
theorem c_C_sendShares (l : Launch) (dC : Nat → ClassId) (dI : Nat → Nat → Nat) (Z : Nat → Nat) (cI cP : ClassId) (p0 q0 g0 h0 : Nat) (S : Nat → Nat → Int32) (n0 t0 : Nat) (hn : S 0 1 = nI n0) (hn7 : n0 ≤ 7) (ht : S 0 2 = nI t0) (ht7 : t0 ≤ 7) (ok : okG p0 q0 g0 h0) (hA : ∀ k, k < t0 → okN (S 1 k) q0) (hB : ∀ k, k < t0 → okN (S 2 k) q0) : Wr l y_C_sendShares ws_C_sendShares 2 46 [.ref (Z 0)] (dC, dI) cls (tysC cI cP) (wC Z cI cP p0 q0 g0 h0 (S)) (wC Z cI cP p0 q0 g0 h0 (sndS q0 t0 S n0)) (none) := by
  refine Met.ofW (cc := b_C_sendShares) (maxL := 2) (ret := none) (by decide) rfl ?_
  intro p e s m args below meth c s₁ B hml hv
  obtain ⟨rfl, hP, hK, hD0⟩ := hv
  have hx := B.exec
  have hb := B.bytes
  have hr := B.returns
  have hts : ∀ w ∈ AL, w.before ([.ref (Z 0)] : List Value).toArray s = true := fun w h => atoms_spec (ws := ws_C_sendShares) B.pre w (List.mem_cons_of_mem _ h)
  have hown : s.vm.findClass "DealtSecret" = some m.cls := findClass_of_methodNamed B.named
  have hlk := B.notSynchronized
  have hl := lv_entry ([.ref (Z 0)]) (n := 2) (Nat.le_of_ble_eq_true rfl)
  rw [lg_entry_eq]
  generalize (lg_sl ([.ref (Z 0)]) ++ List.replicate (2 - (lg_sl ([.ref (Z 0)])).length) Slot.unset).toArray = ls at hl ⊢
  have hl : lv_has ls 2 [(0, .ref (Z 0))] := hl
  have hD := w_self hD0
  have hS : va_S (w_A (wC Z cI cP p0 q0 g0 h0 (S))) s.heap s.heap [] := va_S.rf
  obtain ⟨okp2, okp, okq2, okq, okg, okh⟩ := id ok
  have loop : ∀ (n j : Nat) (H : Heap) (locs : List Loc) (ls : Array Slot), n0 + 1 ≤ j + n → j ≤ n0 → va_P (dC, dI) cls (wC Z cI cP p0 q0 g0 h0 (sndS q0 t0 S j)) H → va_D (w_A (wC Z cI cP p0 q0 g0 h0 (S))) (wC Z cI cP p0 q0 g0 h0 (sndS q0 t0 S j)) → va_S (w_A (wC Z cI cP p0 q0 g0 h0 (S))) s.heap H locs → lv_has ls 2 [(0, .ref (Z 0)), (1, .int (nI (j + 1)))] → W p l e (headSpec ws_C_sendShares { frames := 2, cells := 0, slots := 0, locals := 46 }).room s m [.ref (Z 0)].toArray below meth c H locs 0 0 (MQ below (fun _ st o t => o = .returned (none) ∧ va_P (dC, dI) cls (wC Z cI cP p0 q0 g0 h0 (sndS q0 t0 S n0)) t.heap ∧ va_F (w_A (wC Z cI cP p0 q0 g0 h0 (S))) st t) [.ref (Z 0)].toArray s 0 0 (w_A (wC Z cI cP p0 q0 g0 h0 (S)))) (F0 m 2 ls []) := by
    intro n
    induction n with
    | zero =>
      intro j H locs ls h1 h2
      omega
    | succ n ih =>
      intro j H locs ls h1 h2 hP hD hS hl
      refine lv_iload_n hx hb d_C_sendShares_2 rfl (lv_at hl 1 rfl) ?_
      refine lv_aload_n hx hb d_C_sendShares_3 rfl (lv_at hl 0 rfl) ?_
      refine va_get (D := (dC, dI)) (ci := 2) (v := .int ((sndS q0 t0 S j) 0 1)) (C := "DealtSecret") (T := T_C) (N := 11) hx hb hts i_C hown hK hP 0 rfl rfl 6 (by decide) (hts _ k_107) (fun _ h9 => h9) rfl d_C_sendShares_4 ?_
      refine x_i (y := nI n0) (by rw [sndS_ne q0 t0 S (by decide) (by decide) j]; exact hn) ?_
      refine lv_icmp_gt (tgt := 45) hx hb d_C_sendShares_7 (by decide) (fun c7 => ?_) (fun c7 => ?_)
      · have hk : j = n0 := by
          have h5 : n0 < j + 1 := (nI_ltI (by omega) (by omega)).mp c7
          omega
        subst hk
        exact wr_v hx hb hr hlk hP hS d_C_sendShares_45
      · have hk : j < n0 := by
          rcases Nat.lt_or_ge j n0 with q | q
          · exact q
          · exact absurd (nI_lt (show n0 < j + 1 by omega) (by omega)) c7
        refine lv_aload_n hx hb d_C_sendShares_10 rfl (lv_at hl 0 rfl) ?_
        refine va_get (D := (dC, dI)) (ci := 2) (v := .ref (Z 5)) (C := "DealtSecret") (T := T_C) (N := 11) hx hb hts i_C hown hK hP 0 rfl rfl 4 (by decide) (hts _ k_105) (fun _ h9 => h9) rfl d_C_sendShares_11 ?_
        refine lv_iload_n hx hb d_C_sendShares_14 rfl (lv_at hl 1 rfl) ?_
        refine lv_iconst (v := 1) hx hb d_C_sendShares_15 (by decide) ?_
        refine lv_isub hx hb d_C_sendShares_16 ?_
        refine x_i (y := nI j) (nI_pred j) ?_
        refine va_aldq hx hb hK hP 5 1 rfl rfl (vp_in_nI (by omega) (by decide)) d_C_sendShares_17 ?_
        refine x_v (y := .ref (Z (6 + j))) (by rw [nI_clamp (by omega)]; rfl) ?_
        refine lv_aload_n hx hb d_C_sendShares_18 rfl (lv_at hl 0 rfl) ?_
        refine lv_iload_n hx hb d_C_sendShares_19 rfl (lv_at hl 1 rfl) ?_
        refine lv_aload_n hx hb d_C_sendShares_20 rfl (lv_at hl 0 rfl) ?_
        refine va_get (D := (dC, dI)) (ci := 2) (v := .ref (Z 2)) (C := "DealtSecret") (T := T_C) (N := 11) hx hb hts i_C hown hK hP 0 rfl rfl 1 (by decide) (hts _ k_102) (fun _ h9 => h9) rfl d_C_sendShares_21 ?_
        refine ro_V (As := [.int (nI (j + 1)), .ref (Z 2)]) (rest := [.ref (Z (6 + j))]) (b := (Z 0)) ⟨hx, hb, hml, hown, hts⟩ (c_C_valueAt_a l dC dI Z cI cP p0 q0 g0 h0 (sndS q0 t0 S j) (j + 1) t0 (by omega) (by rw [sndS_ne q0 t0 S (by decide) (by decide) j]; exact ht) ht7 ok (by rw [sndS_ne q0 t0 S (by decide) (by decide) j]; exact hA)) (cwV 2 hts (al_V k_310 k_311 k_642 k_1 k_312) rfl rfl rfl (by decide +kernel) ⟨Nat.le_of_ble_eq_true rfl, Nat.le_of_ble_eq_true rfl⟩) (fun U g mk a h => ⟨h.1, va_K.moved (u := U) (U := U.calling g mk a) (Vm.Alike.refl U.vm) h.2⟩) (va_recv hK hP (ci := 2) (q0 := 0) rfl rfl) (fun U hU hW => ⟨by rw [hU]; exact hP, va_K.moved hW.alike hK⟩) rfl hl.1 rfl (lv_room (Nat.le_of_ble_eq_true rfl)) d_C_sendShares_24 ⟨Nat.zero_le _, Nat.zero_le _⟩ ?_
        refine x_i (y := nI (mz_pv (fun k => nn (S 1 k)) (j + 1) 0 t0 % q0)) (by rw [sndS_ne q0 t0 S (by decide) (by decide) j]) ?_
        refine lv_aload_n hx hb d_C_sendShares_27 rfl (lv_at hl 0 rfl) ?_
        refine lv_iload_n hx hb d_C_sendShares_28 rfl (lv_at hl 1 rfl) ?_
        refine lv_aload_n hx hb d_C_sendShares_29 rfl (lv_at hl 0 rfl) ?_
        refine va_get (D := (dC, dI)) (ci := 2) (v := .ref (Z 3)) (C := "DealtSecret") (T := T_C) (N := 11) hx hb hts i_C hown hK hP 0 rfl rfl 2 (by decide) (hts _ k_103) (fun _ h9 => h9) rfl d_C_sendShares_30 ?_
        refine ro_V (As := [.int (nI (j + 1)), .ref (Z 3)]) (rest := [.int (nI (mz_pv (fun k => nn (S 1 k)) (j + 1) 0 t0 % q0)), .ref (Z (6 + j))]) (b := (Z 0)) ⟨hx, hb, hml, hown, hts⟩ (c_C_valueAt_b l dC dI Z cI cP p0 q0 g0 h0 (sndS q0 t0 S j) (j + 1) t0 (by omega) (by rw [sndS_ne q0 t0 S (by decide) (by decide) j]; exact ht) ht7 ok (by rw [sndS_ne q0 t0 S (by decide) (by decide) j]; exact hB)) (cwV 2 hts (al_V k_310 k_311 k_642 k_1 k_312) rfl rfl rfl (by decide +kernel) ⟨Nat.le_of_ble_eq_true rfl, Nat.le_of_ble_eq_true rfl⟩) (fun U g mk a h => ⟨h.1, va_K.moved (u := U) (U := U.calling g mk a) (Vm.Alike.refl U.vm) h.2⟩) (va_recv hK hP (ci := 2) (q0 := 0) rfl rfl) (fun U hU hW => ⟨by rw [hU]; exact hP, va_K.moved hW.alike hK⟩) rfl hl.1 rfl (lv_room (Nat.le_of_ble_eq_true rfl)) d_C_sendShares_33 ⟨Nat.zero_le _, Nat.zero_le _⟩ ?_
        refine x_i (y := nI (mz_pv (fun k => nn (S 2 k)) (j + 1) 0 t0 % q0)) (by rw [sndS_ne q0 t0 S (by decide) (by decide) j]) ?_
        refine wr_V (As := [.int (nI (mz_pv (fun k => nn (S 1 k)) (j + 1) 0 t0 % q0)), .int (nI (mz_pv (fun k => nn (S 2 k)) (j + 1) 0 t0 % q0))]) (rest := []) (b := (Z (6 + j))) ⟨hx, hb, hml, hown, hts⟩ (c_P_receive l dC dI Z cI cP p0 q0 g0 h0 (sndS q0 t0 S j) j (by omega) (nI (mz_pv (fun k => nn (S 1 k)) (j + 1) 0 t0 % q0)) (nI (mz_pv (fun k => nn (S 2 k)) (j + 1) 0 t0 % q0))) (cwV 2 hts (al_V k_321 k_322 k_323 k_3 k_324) rfl rfl rfl (by decide +kernel) ⟨Nat.le_of_ble_eq_true rfl, Nat.le_of_ble_eq_true rfl⟩) (va_recv hK hP (ci := 1) (q0 := (6 + j)) rfl (w_part (by omega))) hP hK hD hS rfl hl.1 rfl (lv_room (Nat.le_of_ble_eq_true rfl)) d_C_sendShares_36 ⟨Nat.zero_le _, Nat.zero_le _⟩ (fun H locs hP _ _ hS => ?_)
        have hD := w_addr hD (w_adC (sndS q0 t0 S j) (sndS q0 t0 S (j + 1)))
        refine lv_iinc (v := (nI (j + 1 + 1))) (lv' := [(1, .int (nI (j + 1 + 1))), (0, .ref (Z 0))]) hx hb d_C_sendShares_39 hl (k := 1) rfl (nI_1 (j + 1)) (by decide) rfl (fun ls hl => ?_)
        refine lv_goto (tgt := 2) hx hb d_C_sendShares_42 (by decide) ?_
        exact ih (j + 1) H locs ls (by omega) (by omega) hP hD hS (lv_sub hl [1, 0] rfl)
  refine lv_iconst (v := (nI (0 + 1))) hx hb d_C_sendShares_0 (by decide) ?_
  refine lv_istore_n (lv' := [(1, .int (nI (0 + 1))), (0, .ref (Z 0))]) hx hb d_C_sendShares_1 rfl hl (by decide) rfl (fun ls hl => ?_)
  exact loop (n0 + 1) 0 _ _ ls (by omega) (by omega) hP hD hS (lv_sub hl [1, 0] rfl)
set_option maxRecDepth 100000 in
set_option maxHeartbeats 4000000 in
/-- raiseComplaints() -/
theorem c_C_raiseComplaints (l : Launch) (dC : Nat → ClassId) (dI : Nat → Nat → Nat) (Z : Nat → Nat) (cI cP : ClassId) (p0 q0 g0 h0 : Nat) (S : Nat → Nat → Int32) (n0 t0 : Nat) (hn : S 0 1 = nI n0) (hn7 : n0 ≤ 7) (hN : ∀ j, j < 7 → S 4 j = nI (j + 1)) (hU : ∀ j, j < n0 → okN (S 5 j) q0) (hV : ∀ j, j < n0 → okN (S 6 j) q0) (ht : S 0 2 = nI t0) (ht7 : t0 ≤ 7) (ok : okG p0 q0 g0 h0) (hC : ∀ k, k < t0 → okN (S 3 k) p0) : Wr l y_C_raiseComplaints ws_C_raiseComplaints 5 116 [.ref (Z 0)] (dC, dI) cls (tysC cI cP) (wC Z cI cP p0 q0 g0 h0 (S)) (wC Z cI cP p0 q0 g0 h0 (raiC p0 g0 h0 t0 S n0)) (none) := by
  refine Met.ofW (cc := b_C_raiseComplaints) (maxL := 3) (ret := none) (by decide) rfl ?_
  intro p e s m args below meth c s₁ B hml hv
  obtain ⟨rfl, hP, hK, hD0⟩ := hv
  have hx := B.exec
  have hb := B.bytes
  have hr := B.returns
  have hts : ∀ w ∈ AL, w.before ([.ref (Z 0)] : List Value).toArray s = true := fun w h => atoms_spec (ws := ws_C_raiseComplaints) B.pre w (List.mem_cons_of_mem _ h)
  have hown : s.vm.findClass "DealtSecret" = some m.cls := findClass_of_methodNamed B.named
  have hlk := B.notSynchronized
  have hl := lv_entry ([.ref (Z 0)]) (n := 3) (Nat.le_of_ble_eq_true rfl)
  rw [lg_entry_eq]
  generalize (lg_sl ([.ref (Z 0)]) ++ List.replicate (3 - (lg_sl ([.ref (Z 0)])).length) Slot.unset).toArray = ls at hl ⊢
  have hl : lv_has ls 3 [(0, .ref (Z 0))] := hl
  have hD := w_self hD0
  have hS : va_S (w_A (wC Z cI cP p0 q0 g0 h0 (S))) s.heap s.heap [] := va_S.rf
  obtain ⟨okp2, okp, okq2, okq, okg, okh⟩ := id ok
  have loop : ∀ (n j : Nat) (H : Heap) (locs : List Loc) (ls : Array Slot), n0 + 1 ≤ j + n → j ≤ n0 → va_P (dC, dI) cls (wC Z cI cP p0 q0 g0 h0 (raiC p0 g0 h0 t0 S j)) H → va_D (w_A (wC Z cI cP p0 q0 g0 h0 (S))) (wC Z cI cP p0 q0 g0 h0 (raiC p0 g0 h0 t0 S j)) → va_S (w_A (wC Z cI cP p0 q0 g0 h0 (S))) s.heap H locs → lv_has ls 3 [(0, .ref (Z 0)), (1, .int (nI j))] → W p l e (headSpec ws_C_raiseComplaints { frames := 5, cells := 0, slots := 0, locals := 116 }).room s m [.ref (Z 0)].toArray below meth c H locs 0 0 (MQ below (fun _ st o t => o = .returned (none) ∧ va_P (dC, dI) cls (wC Z cI cP p0 q0 g0 h0 (raiC p0 g0 h0 t0 S n0)) t.heap ∧ va_F (w_A (wC Z cI cP p0 q0 g0 h0 (S))) st t) [.ref (Z 0)].toArray s 0 0 (w_A (wC Z cI cP p0 q0 g0 h0 (S)))) (F0 m 2 ls []) := by
    intro n
    induction n with
    | zero =>
      intro j H locs ls h1 h2
      omega
    | succ n ih =>
      intro j H locs ls h1 h2 hP hD hS hl
      refine lv_iload_n hx hb d_C_raiseComplaints_2 rfl (lv_at hl 1 rfl) ?_
      refine lv_aload_n hx hb d_C_raiseComplaints_3 rfl (lv_at hl 0 rfl) ?_
      refine va_get (D := (dC, dI)) (ci := 2) (v := .int ((raiC p0 g0 h0 t0 S j) 0 1)) (C := "DealtSecret") (T := T_C) (N := 11) hx hb hts i_C hown hK hP 0 rfl rfl 6 (by decide) (hts _ k_107) (fun _ h9 => h9) rfl d_C_raiseComplaints_4 ?_
      refine x_i (y := nI n0) (by rw [raiC_ne p0 g0 h0 t0 S (by decide) j]; exact hn) ?_
      refine lv_icmp_ge (tgt := 47) hx hb d_C_raiseComplaints_7 (by decide) (fun c7 => ?_) (fun c7 => ?_)
      · have hk : j = n0 := by
          rcases Nat.lt_or_ge j n0 with q | q
          · exact absurd c7 (nI_ge q (by omega))
          · omega
        subst hk
        exact wr_v hx hb hr hlk hP hS d_C_raiseComplaints_47
      · have hk : j < n0 := by
          rcases Nat.lt_or_ge j n0 with q | q
          · exact q
          · exact absurd (nI_le q (by omega)) c7
        refine lv_aload_n hx hb d_C_raiseComplaints_10 rfl (lv_at hl 0 rfl) ?_
        refine va_get (D := (dC, dI)) (ci := 2) (v := .ref (Z 5)) (C := "DealtSecret") (T := T_C) (N := 11) hx hb hts i_C hown hK hP 0 rfl rfl 4 (by decide) (hts _ k_105) (fun _ h9 => h9) rfl d_C_raiseComplaints_11 ?_
        refine lv_iload_n hx hb d_C_raiseComplaints_14 rfl (lv_at hl 1 rfl) ?_
        refine va_aldq hx hb hK hP 5 1 rfl rfl (vp_in_nI (by omega) (by decide)) d_C_raiseComplaints_15 ?_
        refine x_v (y := .ref (Z (6 + j))) (by rw [nI_clamp (by omega)]; rfl) ?_
        refine lv_astore_n (lv' := [(2, .ref (Z (6 + j))), (0, .ref (Z 0)), (1, .int (nI j))]) hx hb d_C_raiseComplaints_16 rfl hl (by decide) rfl (fun ls hl => ?_)
        refine lv_aload_n hx hb d_C_raiseComplaints_17 rfl (lv_at hl 0 rfl) ?_
        refine lv_aload_n hx hb d_C_raiseComplaints_18 rfl (lv_at hl 0 rfl) ?_
        refine va_get (D := (dC, dI)) (ci := 1) (v := .int ((raiC p0 g0 h0 t0 S j) 7 j)) (C := "DealtSecret$Participant") (T := T_P) (N := 9) hx hb hts i_P hown hK hP (6 + j) (w_part (by omega)) rfl 3 (by decide) (hts _ k_71) (fun _ h9 => h9) rfl d_C_raiseComplaints_19 ?_
        refine x_i (y := S 7 j) (by rw [raiC_ne p0 g0 h0 t0 S (by decide) j]) ?_
        refine lv_if_ne (tgt := 37) hx hb d_C_raiseComplaints_22 (by decide) (fun c22 => ?_) (fun c22 => ?_)
        · refine lv_iconst (v := 0) hx hb d_C_raiseComplaints_37 (by decide) ?_
          refine x_i (y := mz_b (S 7 j = 0 ∧ ¬ (g0 ^ (nn (S 5 j)) % p0) * (h0 ^ (nn (S 6 j)) % p0) % p0 = mz_cp (fun k => nn (S 3 k)) (j + 1) 0 t0 % p0)) ((mz_bf (fun q => by first | exact c22 q.1 | exact c30 (mz_bf q.2))).symm) ?_
          refine va_put (D := (dC, dI)) (ci := 1) (v := .int (mz_b (S 7 j = 0 ∧ ¬ (g0 ^ (nn (S 5 j)) % p0) * (h0 ^ (nn (S 6 j)) % p0) % p0 = mz_cp (fun k => nn (S 3 k)) (j + 1) 0 t0 % p0))) (ty := .boolean) (C := "DealtSecret$Participant") (T := T_P) (N := 9) hx hb hts i_P t_P t_P_ok n_P hown hK hP hD hS (6 + j) (w_part (by omega)) rfl 4 (by decide) (hts _ k_73) (fun _ h9 => h9) rfl (by decide +kernel) (mz_bn _) (mz_bfit _) (Nat.le_of_ble_eq_true rfl) d_C_raiseComplaints_38 (fun H locs hP hD hS => ?_)
          have hP : va_P (dC, dI) cls (wC Z cI cP p0 q0 g0 h0 (up (raiC p0 g0 h0 t0 S j) 8 j (mz_b (S 7 j = 0 ∧ ¬ (g0 ^ (nn (S 5 j)) % p0) * (h0 ^ (nn (S 6 j)) % p0) % p0 = mz_cp (fun k => nn (S 3 k)) (j + 1) 0 t0 % p0)))) H := by rw [← w_pt4 (by omega)]; exact hP
          have hD : va_D (w_A (wC Z cI cP p0 q0 g0 h0 (S))) (wC Z cI cP p0 q0 g0 h0 (up (raiC p0 g0 h0 t0 S j) 8 j (mz_b (S 7 j = 0 ∧ ¬ (g0 ^ (nn (S 5 j)) % p0) * (h0 ^ (nn (S 6 j)) % p0) % p0 = mz_cp (fun k => nn (S 3 k)) (j + 1) 0 t0 % p0)))) := by rw [← w_pt4 (by omega)]; exact hD
          refine lv_iinc (v := (nI (j + 1))) (lv' := [(1, .int (nI (j + 1))), (2, .ref (Z (6 + j))), (0, .ref (Z 0))]) hx hb d_C_raiseComplaints_41 hl (k := 2) rfl (nI_1 j) (by decide) rfl (fun ls hl => ?_)
          refine lv_goto (tgt := 2) hx hb d_C_raiseComplaints_44 (by decide) ?_
          exact ih (j + 1) H locs ls (by omega) (by omega) hP hD hS (lv_sub hl [2, 0] rfl)
        · refine lv_aload_n hx hb d_C_raiseComplaints_25 rfl (lv_at hl 1 rfl) ?_
          refine lv_aload_n hx hb d_C_raiseComplaints_26 rfl (lv_at hl 0 rfl) ?_
          refine ro_V (As := [.ref (Z (6 + j))]) (rest := [.ref (Z (6 + j))]) (b := (Z 0)) ⟨hx, hb, hml, hown, hts⟩ (c_C_isShareRight l dC dI Z cI cP p0 q0 g0 h0 (raiC p0 g0 h0 t0 S j) j t0 (by omega) (by rw [raiC_ne p0 g0 h0 t0 S (by decide) j]; exact hN j (by omega)) (by rw [raiC_ne p0 g0 h0 t0 S (by decide) j]; exact hU j hk) (by rw [raiC_ne p0 g0 h0 t0 S (by decide) j]; exact hV j hk) (by rw [raiC_ne p0 g0 h0 t0 S (by decide) j]; exact ht) ht7 ok (by rw [raiC_ne p0 g0 h0 t0 S (by decide) j]; exact hC)) (cwV 1 hts (al_V k_163 k_164 k_633 k_1 k_165) rfl rfl rfl (by decide +kernel) ⟨Nat.le_of_ble_eq_true rfl, Nat.le_of_ble_eq_true rfl⟩) (fun U g mk a h => ⟨h.1, va_K.moved (u := U) (U := U.calling g mk a) (Vm.Alike.refl U.vm) h.2⟩) (va_recv hK hP (ci := 2) (q0 := 0) rfl rfl) (fun U hU hW => ⟨by rw [hU]; exact hP, va_K.moved hW.alike hK⟩) rfl hl.1 rfl (lv_room (Nat.le_of_ble_eq_true rfl)) d_C_raiseComplaints_27 ⟨Nat.zero_le _, Nat.zero_le _⟩ ?_
          refine x_i (y := mz_b ((g0 ^ (nn (S 5 j)) % p0) * (h0 ^ (nn (S 6 j)) % p0) % p0 = mz_cp (fun k => nn (S 3 k)) (j + 1) 0 t0 % p0)) (by rw [raiC_ne p0 g0 h0 t0 S (by decide) j, raiC_ne p0 g0 h0 t0 S (by decide) j, raiC_ne p0 g0 h0 t0 S (by decide) j]) ?_
          refine lv_if_ne (tgt := 37) hx hb d_C_raiseComplaints_30 (by decide) (fun c30 => ?_) (fun c30 => ?_)
          · refine lv_iconst (v := 0) hx hb d_C_raiseComplaints_37 (by decide) ?_
            refine x_i (y := mz_b (S 7 j = 0 ∧ ¬ (g0 ^ (nn (S 5 j)) % p0) * (h0 ^ (nn (S 6 j)) % p0) % p0 = mz_cp (fun k => nn (S 3 k)) (j + 1) 0 t0 % p0)) ((mz_bf (fun q => by first | exact c22 q.1 | exact c30 (mz_bf q.2))).symm) ?_
            refine va_put (D := (dC, dI)) (ci := 1) (v := .int (mz_b (S 7 j = 0 ∧ ¬ (g0 ^ (nn (S 5 j)) % p0) * (h0 ^ (nn (S 6 j)) % p0) % p0 = mz_cp (fun k => nn (S 3 k)) (j + 1) 0 t0 % p0))) (ty := .boolean) (C := "DealtSecret$Participant") (T := T_P) (N := 9) hx hb hts i_P t_P t_P_ok n_P hown hK hP hD hS (6 + j) (w_part (by omega)) rfl 4 (by decide) (hts _ k_73) (fun _ h9 => h9) rfl (by decide +kernel) (mz_bn _) (mz_bfit _) (Nat.le_of_ble_eq_true rfl) d_C_raiseComplaints_38 (fun H locs hP hD hS => ?_)
            have hP : va_P (dC, dI) cls (wC Z cI cP p0 q0 g0 h0 (up (raiC p0 g0 h0 t0 S j) 8 j (mz_b (S 7 j = 0 ∧ ¬ (g0 ^ (nn (S 5 j)) % p0) * (h0 ^ (nn (S 6 j)) % p0) % p0 = mz_cp (fun k => nn (S 3 k)) (j + 1) 0 t0 % p0)))) H := by rw [← w_pt4 (by omega)]; exact hP
            have hD : va_D (w_A (wC Z cI cP p0 q0 g0 h0 (S))) (wC Z cI cP p0 q0 g0 h0 (up (raiC p0 g0 h0 t0 S j) 8 j (mz_b (S 7 j = 0 ∧ ¬ (g0 ^ (nn (S 5 j)) % p0) * (h0 ^ (nn (S 6 j)) % p0) % p0 = mz_cp (fun k => nn (S 3 k)) (j + 1) 0 t0 % p0)))) := by rw [← w_pt4 (by omega)]; exact hD
            refine lv_iinc (v := (nI (j + 1))) (lv' := [(1, .int (nI (j + 1))), (2, .ref (Z (6 + j))), (0, .ref (Z 0))]) hx hb d_C_raiseComplaints_41 hl (k := 2) rfl (nI_1 j) (by decide) rfl (fun ls hl => ?_)
            refine lv_goto (tgt := 2) hx hb d_C_raiseComplaints_44 (by decide) ?_
            exact ih (j + 1) H locs ls (by omega) (by omega) hP hD hS (lv_sub hl [2, 0] rfl)
          · refine lv_iconst (v := 1) hx hb d_C_raiseComplaints_33 (by decide) ?_
            refine x_i (y := mz_b (S 7 j = 0 ∧ ¬ (g0 ^ (nn (S 5 j)) % p0) * (h0 ^ (nn (S 6 j)) % p0) % p0 = mz_cp (fun k => nn (S 3 k)) (j + 1) 0 t0 % p0)) ((mz_bt ⟨c22, mz_b0.mp c30⟩).symm) ?_
            refine lv_goto (tgt := 38) hx hb d_C_raiseComplaints_34 (by decide) ?_
            refine va_put (D := (dC, dI)) (ci := 1) (v := .int (mz_b (S 7 j = 0 ∧ ¬ (g0 ^ (nn (S 5 j)) % p0) * (h0 ^ (nn (S 6 j)) % p0) % p0 = mz_cp (fun k => nn (S 3 k)) (j + 1) 0 t0 % p0))) (ty := .boolean) (C := "DealtSecret$Participant") (T := T_P) (N := 9) hx hb hts i_P t_P t_P_ok n_P hown hK hP hD hS (6 + j) (w_part (by omega)) rfl 4 (by decide) (hts _ k_73) (fun _ h9 => h9) rfl (by decide +kernel) (mz_bn _) (mz_bfit _) (Nat.le_of_ble_eq_true rfl) d_C_raiseComplaints_38 (fun H locs hP hD hS => ?_)
            have hP : va_P (dC, dI) cls (wC Z cI cP p0 q0 g0 h0 (up (raiC p0 g0 h0 t0 S j) 8 j (mz_b (S 7 j = 0 ∧ ¬ (g0 ^ (nn (S 5 j)) % p0) * (h0 ^ (nn (S 6 j)) % p0) % p0 = mz_cp (fun k => nn (S 3 k)) (j + 1) 0 t0 % p0)))) H := by rw [← w_pt4 (by omega)]; exact hP
            have hD : va_D (w_A (wC Z cI cP p0 q0 g0 h0 (S))) (wC Z cI cP p0 q0 g0 h0 (up (raiC p0 g0 h0 t0 S j) 8 j (mz_b (S 7 j = 0 ∧ ¬ (g0 ^ (nn (S 5 j)) % p0) * (h0 ^ (nn (S 6 j)) % p0) % p0 = mz_cp (fun k => nn (S 3 k)) (j + 1) 0 t0 % p0)))) := by rw [← w_pt4 (by omega)]; exact hD
            refine lv_iinc (v := (nI (j + 1))) (lv' := [(1, .int (nI (j + 1))), (2, .ref (Z (6 + j))), (0, .ref (Z 0))]) hx hb d_C_raiseComplaints_41 hl (k := 2) rfl (nI_1 j) (by decide) rfl (fun ls hl => ?_)
            refine lv_goto (tgt := 2) hx hb d_C_raiseComplaints_44 (by decide) ?_
            exact ih (j + 1) H locs ls (by omega) (by omega) hP hD hS (lv_sub hl [2, 0] rfl)
  refine lv_iconst (v := (nI 0)) hx hb d_C_raiseComplaints_0 (by decide) ?_
  refine lv_istore_n (lv' := [(1, .int (nI 0)), (0, .ref (Z 0))]) hx hb d_C_raiseComplaints_1 rfl hl (by decide) rfl (fun ls hl => ?_)
  exact loop (n0 + 1) 0 _ _ ls (by omega) (by omega) hP hD hS (lv_sub hl [1, 0] rfl)
