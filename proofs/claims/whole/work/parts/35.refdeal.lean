def sndM (q0 t0 : Nat) (S : Nat → Nat → Int32) : Nat → Nat → Nat → Int32
  | 0 => S
  | j + 1 => up (up (sndM q0 t0 S j) 7 (j + 1) (nI (mz_ps (fun k => nn (S 1 k)) (j + 1) t0 % q0))) 8 (j + 1) (nI (mz_ps (fun k => nn (S 2 k)) (j + 1) t0 % q0))
theorem sndM_ne (q0 t0 : Nat) (S : Nat → Nat → Int32) {f : Nat} (h5 : f ≠ 7) (h6 : f ≠ 8) : ∀ k, sndM q0 t0 S k f = S f
  | 0 => rfl
  | k + 1 => by rw [sndM, up_ne _ _ _ h6, up_ne _ _ _ h5, sndM_ne q0 t0 S h5 h6 k]
/-- all complaints among the first j are answered well -/
def wlM (p0 g0 h0 t0 : Nat) (S : Nat → Nat → Int32) (j : Nat) : Prop := ∀ i, i < j → S 5 (i + 1) = 0 ∨ (¬ S 6 (i + 1) = 0 ∧ (g0 ^ (nn (S 7 (i + 1))) % p0) * (h0 ^ (nn (S 8 (i + 1))) % p0) % p0 = mz_cs (fun k => nn (S 3 k)) (i + 1) t0 % p0)
theorem wlM_s {p0 g0 h0 t0 : Nat} {S : Nat → Nat → Int32} {j : Nat} : wlM p0 g0 h0 t0 S (j + 1) ↔ wlM p0 g0 h0 t0 S j ∧ (S 5 (j + 1) = 0 ∨ (¬ S 6 (j + 1) = 0 ∧ (g0 ^ (nn (S 7 (j + 1))) % p0) * (h0 ^ (nn (S 8 (j + 1))) % p0) % p0 = mz_cs (fun k => nn (S 3 k)) (j + 1) t0 % p0)) := by
  refine ⟨fun h => ⟨fun i hi => h i (by omega), h j (by omega)⟩, fun h i hi => ?_⟩
  rcases (show i < j ∨ i = j by omega) with q | rfl
  · exact h.1 i q
  · exact h.2
noncomputable def raiM (p0 g0 h0 t0 : Nat) (S : Nat → Nat → Int32) : Nat → Nat → Nat → Int32
  | 0 => S
  | j + 1 => up (raiM p0 g0 h0 t0 S j) 5 (j + 1) (mz_b (S 4 (j + 1) = 0 ∧ ¬ (g0 ^ (nn (S 7 (j + 1))) % p0) * (h0 ^ (nn (S 8 (j + 1))) % p0) % p0 = mz_cs (fun k => nn (S 3 k)) (j + 1) t0 % p0))
theorem raiM_ne (p0 g0 h0 t0 : Nat) (S : Nat → Nat → Int32) {f : Nat} (hf : f ≠ 5) : ∀ k, raiM p0 g0 h0 t0 S k f = S f
  | 0 => rfl
  | k + 1 => by rw [raiM, up_ne _ _ _ hf, raiM_ne p0 g0 h0 t0 S hf k]
theorem mz_bz (P : Prop) : vp_nar .boolean (mz_b P) = mz_b P := by
  rcases mz_b01 P with h | h <;> rw [h] <;> rfl
set_option maxRecDepth 100000 in
set_option maxHeartbeats 4000000 in
/-- deal() -/
theorem c_M_deal (l : Launch) (dC : Nat → ClassId) (dI : Nat → Nat → Nat) (Y : Nat → Nat) (cI cZ : ClassId) (p0 q0 g0 h0 : Nat) (S : Nat → Nat → Int32) (n0 t0 : Nat) (hn : S 0 2 = nI n0) (hn7 : n0 ≤ 7) (ht : S 0 3 = nI t0) (ht7 : t0 ≤ 7) (ok : okG p0 q0 g0 h0) (hA : ∀ k, k < t0 → okN (S 1 k) q0) (hB : ∀ k, k < t0 → okN (S 2 k) q0) : Wr l y_M_deal ws_M_deal 3 69 [.ref (Y 0)] (dC, dI) cls (tysM cI cZ) (wM Y cI cZ p0 q0 g0 h0 (S)) (wM Y cI cZ p0 q0 g0 h0 (sndM q0 t0 (pubC p0 g0 h0 S t0) n0)) (none) := by
  refine Met.ofW (cc := b_M_deal) (maxL := 2) (ret := none) (by decide) rfl ?_
  intro p e s m args below meth c s₁ B hml hv
  obtain ⟨rfl, hP, hK, hD0⟩ := hv
  have hx := B.exec
  have hb := B.bytes
  have hr := B.returns
  have hts : ∀ w ∈ AL, w.before ([.ref (Y 0)] : List Value).toArray s = true := fun w h => atoms_spec (ws := ws_M_deal) B.pre w (List.mem_cons_of_mem _ h)
  have hown : s.vm.findClass "DealtSecretModel" = some m.cls := findClass_of_methodNamed B.named
  have hlk := B.notSynchronized
  have hl := lv_entry ([.ref (Y 0)]) (n := 2) (Nat.le_of_ble_eq_true rfl)
  rw [lg_entry_eq]
  generalize (lg_sl ([.ref (Y 0)]) ++ List.replicate (2 - (lg_sl ([.ref (Y 0)])).length) Slot.unset).toArray = ls at hl ⊢
  have hl : lv_has ls 2 [(0, .ref (Y 0))] := hl
  have hD := w_self hD0
  have hS : va_S (w_A (wM Y cI cZ p0 q0 g0 h0 (S))) s.heap s.heap [] := va_S.rf
  obtain ⟨okp2, okp, okq2, okq, okg, okh⟩ := id ok
  have loop2 : ∀ (n j : Nat) (H : Heap) (locs : List Loc) (ls : Array Slot), n0 + 1 ≤ j + n → j ≤ n0 → va_P (dC, dI) cls (wM Y cI cZ p0 q0 g0 h0 (sndM q0 t0 (pubC p0 g0 h0 S t0) j)) H → va_D (w_A (wM Y cI cZ p0 q0 g0 h0 (S))) (wM Y cI cZ p0 q0 g0 h0 (sndM q0 t0 (pubC p0 g0 h0 S t0) j)) → va_S (w_A (wM Y cI cZ p0 q0 g0 h0 (S))) s.heap H locs → lv_has ls 2 [(0, .ref (Y 0)), (1, .int (nI (j + 1)))] → W p l e (headSpec ws_M_deal { frames := 3, cells := 0, slots := 0, locals := 69 }).room s m [.ref (Y 0)].toArray below meth c H locs 0 0 (MQ below (fun _ st o t => o = .returned (none) ∧ va_P (dC, dI) cls (wM Y cI cZ p0 q0 g0 h0 (sndM q0 t0 (pubC p0 g0 h0 S t0) n0)) t.heap ∧ va_F (w_A (wM Y cI cZ p0 q0 g0 h0 (S))) st t) [.ref (Y 0)].toArray s 0 0 (w_A (wM Y cI cZ p0 q0 g0 h0 (S)))) (F0 m 40 ls []) := by
    intro n
    induction n with
    | zero =>
      intro j H locs ls h1 h2
      omega
    | succ n ih =>
      intro j H locs ls h1 h2 hP hD hS hl
      refine lv_iload_n hx hb d_M_deal_40 rfl (lv_at hl 1 rfl) ?_
      refine lv_aload_n hx hb d_M_deal_41 rfl (lv_at hl 0 rfl) ?_
      refine va_get (D := (dC, dI)) (ci := 3) (v := .int ((sndM q0 t0 (pubC p0 g0 h0 S t0) j) 0 2)) (C := "DealtSecretModel") (T := T_M) (N := 24) hx hb hts i_M hown hK hP 0 rfl rfl 6 (by decide) (hts _ k_449) (fun _ h9 => h9) rfl d_M_deal_42 ?_
      refine x_i (y := nI n0) (by rw [sndM_ne q0 t0 (pubC p0 g0 h0 S t0) (by decide) (by decide) j, pubC_ne p0 g0 h0 S (by decide) t0]; exact hn) ?_
      refine lv_icmp_gt (tgt := 84) hx hb d_M_deal_45 (by decide) (fun c45 => ?_) (fun c45 => ?_)
      · have hk : j = n0 := by
          have h5 : n0 < j + 1 := (nI_ltI (by omega) (by omega)).mp c45
          omega
        subst hk
        exact wr_v hx hb hr hlk hP hS d_M_deal_84
      · have hk : j < n0 := by
          rcases Nat.lt_or_ge j n0 with q | q
          · exact q
          · exact absurd (nI_lt (show n0 < j + 1 by omega) (by omega)) c45
        refine lv_aload_n hx hb d_M_deal_48 rfl (lv_at hl 0 rfl) ?_
        refine va_get (D := (dC, dI)) (ci := 3) (v := .ref (Y 7)) (C := "DealtSecretModel") (T := T_M) (N := 24) hx hb hts i_M hown hK hP 0 rfl rfl 15 (by decide) (hts _ k_458) (fun _ h9 => h9) rfl d_M_deal_49 ?_
        refine lv_iload_n hx hb d_M_deal_52 rfl (lv_at hl 1 rfl) ?_
        refine lv_aload_n hx hb d_M_deal_53 rfl (lv_at hl 0 rfl) ?_
        refine lv_aload_n hx hb d_M_deal_54 rfl (lv_at hl 0 rfl) ?_
        refine va_get (D := (dC, dI)) (ci := 3) (v := .ref (Y 1)) (C := "DealtSecretModel") (T := T_M) (N := 24) hx hb hts i_M hown hK hP 0 rfl rfl 9 (by decide) (hts _ k_452) (fun _ h9 => h9) rfl d_M_deal_55 ?_
        refine lv_iload_n hx hb d_M_deal_58 rfl (lv_at hl 1 rfl) ?_
        refine ro_V (As := [.ref (Y 1), .int (nI (j + 1))]) (rest := [.int (nI (j + 1)), .ref (Y 7)]) (b := (Y 0)) ⟨hx, hb, hml, hown, hts⟩ (c_M_at_a l dC dI Y cI cZ p0 q0 g0 h0 (sndM q0 t0 (pubC p0 g0 h0 S t0) j) (j + 1) t0 ok (by omega) (by rw [sndM_ne q0 t0 (pubC p0 g0 h0 S t0) (by decide) (by decide) j, pubC_ne p0 g0 h0 S (by decide) t0]; exact ht) ht7 (by rw [sndM_ne q0 t0 (pubC p0 g0 h0 S t0) (by decide) (by decide) j, pubC_ne p0 g0 h0 S (by decide) t0]; exact hA)) (cwV 2 hts (al_V k_551 k_552 k_654 k_4 k_553) rfl rfl rfl (by decide +kernel) ⟨Nat.le_of_ble_eq_true rfl, Nat.le_of_ble_eq_true rfl⟩) (fun U g mk a h => ⟨h.1, va_K.moved (u := U) (U := U.calling g mk a) (Vm.Alike.refl U.vm) h.2⟩) (va_recv hK hP (ci := 3) (q0 := 0) rfl rfl) (fun U hU hW => ⟨by rw [hU]; exact hP, va_K.moved hW.alike hK⟩) rfl hl.1 rfl (lv_room (Nat.le_of_ble_eq_true rfl)) d_M_deal_59 ⟨Nat.zero_le _, Nat.zero_le _⟩ ?_
        refine x_i (y := nI (mz_ps (fun k => nn ((pubC p0 g0 h0 S t0) 1 k)) (j + 1) t0 % q0)) (by rw [sndM_ne q0 t0 (pubC p0 g0 h0 S t0) (by decide) (by decide) j]) ?_
        refine va_iast hx hb hK hP hD hS 7 0 rfl rfl (vp_in_nI (by omega) (by decide)) d_M_deal_62 (fun H locs hP hD hS => ?_)
        rw [nI_clamp (by omega)] at hP hD
        have hP : va_P (dC, dI) cls (wM Y cI cZ p0 q0 g0 h0 (up (sndM q0 t0 (pubC p0 g0 h0 S t0) j) 7 (j + 1) (nI (mz_ps (fun k => nn ((pubC p0 g0 h0 S t0) 1 k)) (j + 1) t0 % q0)))) H := by rw [← w_ma7]; exact hP
        have hD : va_D (w_A (wM Y cI cZ p0 q0 g0 h0 (S))) (wM Y cI cZ p0 q0 g0 h0 (up (sndM q0 t0 (pubC p0 g0 h0 S t0) j) 7 (j + 1) (nI (mz_ps (fun k => nn ((pubC p0 g0 h0 S t0) 1 k)) (j + 1) t0 % q0)))) := by rw [← w_ma7]; exact hD
        refine lv_aload_n hx hb d_M_deal_63 rfl (lv_at hl 0 rfl) ?_
        refine va_get (D := (dC, dI)) (ci := 3) (v := .ref (Y 8)) (C := "DealtSecretModel") (T := T_M) (N := 24) hx hb hts i_M hown hK hP 0 rfl rfl 16 (by decide) (hts _ k_459) (fun _ h9 => h9) rfl d_M_deal_64 ?_
        refine lv_iload_n hx hb d_M_deal_67 rfl (lv_at hl 1 rfl) ?_
        refine lv_aload_n hx hb d_M_deal_68 rfl (lv_at hl 0 rfl) ?_
        refine lv_aload_n hx hb d_M_deal_69 rfl (lv_at hl 0 rfl) ?_
        refine va_get (D := (dC, dI)) (ci := 3) (v := .ref (Y 2)) (C := "DealtSecretModel") (T := T_M) (N := 24) hx hb hts i_M hown hK hP 0 rfl rfl 10 (by decide) (hts _ k_453) (fun _ h9 => h9) rfl d_M_deal_70 ?_
        refine lv_iload_n hx hb d_M_deal_73 rfl (lv_at hl 1 rfl) ?_
        refine ro_V (As := [.ref (Y 2), .int (nI (j + 1))]) (rest := [.int (nI (j + 1)), .ref (Y 8)]) (b := (Y 0)) ⟨hx, hb, hml, hown, hts⟩ (c_M_at_b l dC dI Y cI cZ p0 q0 g0 h0 (up (sndM q0 t0 (pubC p0 g0 h0 S t0) j) 7 (j + 1) (nI (mz_ps (fun k => nn ((pubC p0 g0 h0 S t0) 1 k)) (j + 1) t0 % q0))) (j + 1) t0 ok (by omega) (by rw [up_ne _ _ _ (by decide), sndM_ne q0 t0 (pubC p0 g0 h0 S t0) (by decide) (by decide) j, pubC_ne p0 g0 h0 S (by decide) t0]; exact ht) ht7 (by rw [up_ne _ _ _ (by decide), sndM_ne q0 t0 (pubC p0 g0 h0 S t0) (by decide) (by decide) j, pubC_ne p0 g0 h0 S (by decide) t0]; exact hB)) (cwV 2 hts (al_V k_551 k_552 k_654 k_4 k_553) rfl rfl rfl (by decide +kernel) ⟨Nat.le_of_ble_eq_true rfl, Nat.le_of_ble_eq_true rfl⟩) (fun U g mk a h => ⟨h.1, va_K.moved (u := U) (U := U.calling g mk a) (Vm.Alike.refl U.vm) h.2⟩) (va_recv hK hP (ci := 3) (q0 := 0) rfl rfl) (fun U hU hW => ⟨by rw [hU]; exact hP, va_K.moved hW.alike hK⟩) rfl hl.1 rfl (lv_room (Nat.le_of_ble_eq_true rfl)) d_M_deal_74 ⟨Nat.zero_le _, Nat.zero_le _⟩ ?_
        refine x_i (y := nI (mz_ps (fun k => nn ((pubC p0 g0 h0 S t0) 2 k)) (j + 1) t0 % q0)) (by rw [up_ne _ _ _ (by decide), sndM_ne q0 t0 (pubC p0 g0 h0 S t0) (by decide) (by decide) j]) ?_
        refine va_iast hx hb hK hP hD hS 8 0 rfl rfl (vp_in_nI (by omega) (by decide)) d_M_deal_77 (fun H locs hP hD hS => ?_)
        rw [nI_clamp (by omega)] at hP hD
        have hP : va_P (dC, dI) cls (wM Y cI cZ p0 q0 g0 h0 (up (up (sndM q0 t0 (pubC p0 g0 h0 S t0) j) 7 (j + 1) (nI (mz_ps (fun k => nn ((pubC p0 g0 h0 S t0) 1 k)) (j + 1) t0 % q0))) 8 (j + 1) (nI (mz_ps (fun k => nn ((pubC p0 g0 h0 S t0) 2 k)) (j + 1) t0 % q0)))) H := by rw [← w_ma8]; exact hP
        have hD : va_D (w_A (wM Y cI cZ p0 q0 g0 h0 (S))) (wM Y cI cZ p0 q0 g0 h0 (up (up (sndM q0 t0 (pubC p0 g0 h0 S t0) j) 7 (j + 1) (nI (mz_ps (fun k => nn ((pubC p0 g0 h0 S t0) 1 k)) (j + 1) t0 % q0))) 8 (j + 1) (nI (mz_ps (fun k => nn ((pubC p0 g0 h0 S t0) 2 k)) (j + 1) t0 % q0)))) := by rw [← w_ma8]; exact hD
        refine lv_iinc (v := (nI (j + 1 + 1))) (lv' := [(1, .int (nI (j + 1 + 1))), (0, .ref (Y 0))]) hx hb d_M_deal_78 hl (k := 1) rfl (nI_1 (j + 1)) (by decide) rfl (fun ls hl => ?_)
        refine lv_goto (tgt := 40) hx hb d_M_deal_81 (by decide) ?_
        exact ih (j + 1) H locs ls (by omega) (by omega) hP hD hS (lv_sub hl [1, 0] rfl)
  have loop : ∀ (n k : Nat) (H : Heap) (locs : List Loc) (ls : Array Slot), t0 + 1 ≤ k + n → k ≤ t0 → va_P (dC, dI) cls (wM Y cI cZ p0 q0 g0 h0 (pubC p0 g0 h0 S k)) H → va_D (w_A (wM Y cI cZ p0 q0 g0 h0 (S))) (wM Y cI cZ p0 q0 g0 h0 (pubC p0 g0 h0 S k)) → va_S (w_A (wM Y cI cZ p0 q0 g0 h0 (S))) s.heap H locs → lv_has ls 2 [(0, .ref (Y 0)), (1, .int (nI k))] → W p l e (headSpec ws_M_deal { frames := 3, cells := 0, slots := 0, locals := 69 }).room s m [.ref (Y 0)].toArray below meth c H locs 0 0 (MQ below (fun _ st o t => o = .returned (none) ∧ va_P (dC, dI) cls (wM Y cI cZ p0 q0 g0 h0 (sndM q0 t0 (pubC p0 g0 h0 S t0) n0)) t.heap ∧ va_F (w_A (wM Y cI cZ p0 q0 g0 h0 (S))) st t) [.ref (Y 0)].toArray s 0 0 (w_A (wM Y cI cZ p0 q0 g0 h0 (S)))) (F0 m 2 ls []) := by
    intro n
    induction n with
    | zero =>
      intro k H locs ls h1 h2
      omega
    | succ n ih =>
      intro k H locs ls h1 h2 hP hD hS hl
      refine lv_iload_n hx hb d_M_deal_2 rfl (lv_at hl 1 rfl) ?_
      refine lv_aload_n hx hb d_M_deal_3 rfl (lv_at hl 0 rfl) ?_
      refine va_get (D := (dC, dI)) (ci := 3) (v := .int ((pubC p0 g0 h0 S k) 0 3)) (C := "DealtSecretModel") (T := T_M) (N := 24) hx hb hts i_M hown hK hP 0 rfl rfl 7 (by decide) (hts _ k_450) (fun _ h9 => h9) rfl d_M_deal_4 ?_
      refine x_i (y := nI t0) (by rw [pubC_ne p0 g0 h0 S (by decide) k]; exact ht) ?_
      refine lv_icmp_ge (tgt := 38) hx hb d_M_deal_7 (by decide) (fun c7 => ?_) (fun c7 => ?_)
      · have hk : k = t0 := by
          rcases Nat.lt_or_ge k t0 with q | q
          · exact absurd c7 (nI_ge q (by omega))
          · omega
        rw [hk] at hP hD
        refine lv_iconst (v := (nI (0 + 1))) hx hb d_M_deal_38 (by decide) ?_
        refine lv_istore_n (lv' := [(1, .int (nI (0 + 1))), (0, .ref (Y 0))]) hx hb d_M_deal_39 rfl hl (by decide) rfl (fun ls hl => ?_)
        exact loop2 (n0 + 1) 0 _ _ ls (by omega) (by omega) hP hD hS (lv_sub hl [1, 0] rfl)
      · have hk : k < t0 := by
          rcases Nat.lt_or_ge k t0 with q | q
          · exact q
          · exact absurd (nI_le q (by omega)) c7
        have hAl := (hA k hk).lt
        have hBl := (hB k hk).lt
        refine lv_aload_n hx hb d_M_deal_10 rfl (lv_at hl 0 rfl) ?_
        refine va_get (D := (dC, dI)) (ci := 3) (v := .ref (Y 3)) (C := "DealtSecretModel") (T := T_M) (N := 24) hx hb hts i_M hown hK hP 0 rfl rfl 11 (by decide) (hts _ k_454) (fun _ h9 => h9) rfl d_M_deal_11 ?_
        refine lv_iload_n hx hb d_M_deal_14 rfl (lv_at hl 1 rfl) ?_
        refine lv_aload_n hx hb d_M_deal_15 rfl (lv_at hl 0 rfl) ?_
        refine lv_aload_n hx hb d_M_deal_16 rfl (lv_at hl 0 rfl) ?_
        refine va_get (D := (dC, dI)) (ci := 3) (v := .ref (Y 1)) (C := "DealtSecretModel") (T := T_M) (N := 24) hx hb hts i_M hown hK hP 0 rfl rfl 9 (by decide) (hts _ k_452) (fun _ h9 => h9) rfl d_M_deal_17 ?_
        refine lv_iload_n hx hb d_M_deal_20 rfl (lv_at hl 1 rfl) ?_
        refine va_iald hx hb hK hP 1 0 rfl rfl (vp_in_nI (by omega) (by decide)) d_M_deal_21 ?_
        refine x_i (y := (pubC p0 g0 h0 S k) 1 k) (by rw [nI_clamp (by omega)]) ?_
        refine x_i (y := nI (nn (S 1 k))) (by rw [pubC_ne p0 g0 h0 S (by decide) k]; exact (hA k hk).eq) ?_
        refine lv_aload_n hx hb d_M_deal_22 rfl (lv_at hl 0 rfl) ?_
        refine va_get (D := (dC, dI)) (ci := 3) (v := .ref (Y 2)) (C := "DealtSecretModel") (T := T_M) (N := 24) hx hb hts i_M hown hK hP 0 rfl rfl 10 (by decide) (hts _ k_453) (fun _ h9 => h9) rfl d_M_deal_23 ?_
        refine lv_iload_n hx hb d_M_deal_26 rfl (lv_at hl 1 rfl) ?_
        refine va_iald hx hb hK hP 2 0 rfl rfl (vp_in_nI (by omega) (by decide)) d_M_deal_27 ?_
        refine x_i (y := (pubC p0 g0 h0 S k) 2 k) (by rw [nI_clamp (by omega)]) ?_
        refine x_i (y := nI (nn (S 2 k))) (by rw [pubC_ne p0 g0 h0 S (by decide) k]; exact (hB k hk).eq) ?_
        refine ro_V (As := [.int (nI (nn (S 1 k))), .int (nI (nn (S 2 k)))]) (rest := [.int (nI k), .ref (Y 3)]) (b := (Y 0)) ⟨hx, hb, hml, hown, hts⟩ (c_M_paired l dC dI Y cI cZ p0 q0 g0 h0 (pubC p0 g0 h0 S k) (nn (S 1 k)) (nn (S 2 k)) ok (by omega) (by omega)) (cwV 2 hts (al_V k_545 k_546 k_652 k_4 k_547) rfl rfl rfl (by decide +kernel) ⟨Nat.le_of_ble_eq_true rfl, Nat.le_of_ble_eq_true rfl⟩) (fun U g mk a h => ⟨h.1, va_K.moved (u := U) (U := U.calling g mk a) (Vm.Alike.refl U.vm) h.2⟩) (va_recv hK hP (ci := 3) (q0 := 0) rfl rfl) (fun U hU hW => ⟨by rw [hU]; exact hP, va_K.moved hW.alike hK⟩) rfl hl.1 rfl (lv_room (Nat.le_of_ble_eq_true rfl)) d_M_deal_28 ⟨Nat.zero_le _, Nat.zero_le _⟩ ?_
        refine va_iast hx hb hK hP hD hS 3 0 rfl rfl (vp_in_nI (by omega) (by decide)) d_M_deal_31 (fun H locs hP hD hS => ?_)
        rw [nI_clamp (by omega)] at hP hD
        have hP : va_P (dC, dI) cls (wM Y cI cZ p0 q0 g0 h0 (up (pubC p0 g0 h0 S k) 3 k (nI ((g0 ^ nn (S 1 k) % p0) * (h0 ^ nn (S 2 k) % p0) % p0)))) H := by rw [← w_ma3]; exact hP
        have hD : va_D (w_A (wM Y cI cZ p0 q0 g0 h0 (S))) (wM Y cI cZ p0 q0 g0 h0 (up (pubC p0 g0 h0 S k) 3 k (nI ((g0 ^ nn (S 1 k) % p0) * (h0 ^ nn (S 2 k) % p0) % p0)))) := by rw [← w_ma3]; exact hD
        refine lv_iinc (v := (nI (k + 1))) (lv' := [(1, .int (nI (k + 1))), (0, .ref (Y 0))]) hx hb d_M_deal_32 hl (k := 1) rfl (nI_1 k) (by decide) rfl (fun ls hl => ?_)
        refine lv_goto (tgt := 2) hx hb d_M_deal_35 (by decide) ?_
        exact ih (k + 1) H locs ls (by omega) (by omega) hP hD hS (lv_sub hl [1, 0] rfl)
  refine lv_iconst (v := (nI 0)) hx hb d_M_deal_0 (by decide) ?_
  refine lv_istore_n (lv' := [(1, .int (nI 0)), (0, .ref (Y 0))]) hx hb d_M_deal_1 rfl hl (by decide) rfl (fun ls hl => ?_)
  exact loop (t0 + 1) 0 _ _ ls (by omega) (by omega) hP hD hS (lv_sub hl [1, 0] rfl)
