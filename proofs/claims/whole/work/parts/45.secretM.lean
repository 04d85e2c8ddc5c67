set_option maxRecDepth 100000 in
set_option maxHeartbeats 4000000 in
/-- the reference's secret in another stage -/
theorem r_M_secret_st (l : Launch) (dC : Nat → ClassId) (dI : Nat → Nat → Nat) (Y : Nat → Nat) (cI cZ : ClassId) (p0 q0 g0 h0 : Nat) (S : Nat → Nat → Int32) (hne : ¬ S 0 0 = 5) : Wr l y_M_secret ws_M_secret 4 92 [.ref (Y 0)] (dC, dI) cls (tysM cI cZ) (wM Y cI cZ p0 q0 g0 h0 (S)) (wM Y cI cZ p0 q0 g0 h0 (up S 0 1 1)) (some (.int 0)) := by
  refine Met.ofW (cc := b_M_secret) (maxL := 3) (ret := (some .int)) (by decide) rfl ?_
  intro p e s m args below meth c s₁ B hml hv
  obtain ⟨rfl, hP, hK, hD0⟩ := hv
  have hx := B.exec
  have hb := B.bytes
  have hr := B.returns
  have hts : ∀ w ∈ AL, w.before ([.ref (Y 0)] : List Value).toArray s = true := fun w h => atoms_spec (ws := ws_M_secret) B.pre w (List.mem_cons_of_mem _ h)
  have hown : s.vm.findClass "DealtSecretModel" = some m.cls := findClass_of_methodNamed B.named
  have hlk := B.notSynchronized
  have hl := lv_entry ([.ref (Y 0)]) (n := 3) (Nat.le_of_ble_eq_true rfl)
  rw [lg_entry_eq]
  generalize (lg_sl ([.ref (Y 0)]) ++ List.replicate (3 - (lg_sl ([.ref (Y 0)])).length) Slot.unset).toArray = ls at hl ⊢
  have hl : lv_has ls 3 [(0, .ref (Y 0))] := hl
  have hD := w_self hD0
  have hS : va_S (w_A (wM Y cI cZ p0 q0 g0 h0 (S))) s.heap s.heap [] := va_S.rf
  refine lv_aload_n hx hb d_M_secret_0 rfl (lv_at hl 0 rfl) ?_
  refine lv_aload_n hx hb d_M_secret_1 rfl (lv_at hl 0 rfl) ?_
  refine va_get (D := (dC, dI)) (ci := 3) (v := .int (S 0 0)) (C := "DealtSecretModel") (T := T_M) (N := 24) hx hb hts i_M hown hK hP 0 rfl rfl 4 (by decide) (hts _ k_447) (fun _ h9 => h9) rfl d_M_secret_2 ?_
  refine lv_iconst (v := 5) hx hb d_M_secret_5 (by decide) ?_
  refine lv_icmp_eq (tgt := 13) hx hb d_M_secret_6 (by decide) (fun c_ => absurd c_ (hne)) (fun _ => ?_)
  refine lv_iconst (v := 1) hx hb d_M_secret_9 (by decide) ?_
  refine lv_goto (tgt := 14) hx hb d_M_secret_10 (by decide) ?_
  refine lv_iconst (v := 0) hx hb d_M_secret_14 (by decide) ?_
  refine wr_V (As := [.int 1, .int 0]) (rest := []) (b := (Y 0)) ⟨hx, hb, hml, hown, hts⟩ (c_M_refuses l dC dI Y cI cZ p0 q0 g0 h0 S 1 0 1 1 (by decide) (by decide)) (cwV 2 hts (al_V k_532 k_533 k_649 k_4 k_534) rfl rfl rfl (by decide +kernel) ⟨Nat.le_of_ble_eq_true rfl, Nat.le_of_ble_eq_true rfl⟩) (va_recv hK hP (ci := 3) (q0 := 0) rfl rfl) hP hK hD hS rfl hl.1 rfl (lv_room (Nat.le_of_ble_eq_true rfl)) d_M_secret_15 ⟨Nat.zero_le _, Nat.zero_le _⟩ (fun H locs hP _ _ hS => ?_)
  have hD := w_addr hD (w_adM S (up S 0 1 1))
  refine lv_if_eq (tgt := 23) hx hb d_M_secret_18 (by decide) (fun c_ => absurd c_ (by decide)) (fun _ => ?_)
  refine lv_iconst (v := 0) hx hb d_M_secret_21 (by decide) ?_
  exact wr_i hx hb hr hlk hP hS d_M_secret_22
set_option maxRecDepth 100000 in
set_option maxHeartbeats 4000000 in
/-- the reference's secret of too few pairs -/
theorem r_M_secret_few (l : Launch) (dC : Nat → ClassId) (dI : Nat → Nat → Nat) (Y : Nat → Nat) (cI cZ : ClassId) (p0 q0 g0 h0 : Nat) (S : Nat → Nat → Int32) (n0 t0 L0 : Nat) (hst : S 0 0 = 5) (hn : S 0 2 = nI n0) (hn7 : n0 ≤ 7) (ht : S 0 3 = nI t0) (ht7 : t0 ≤ 7) (hL : lastC (fun i => S 9 (i + 1)) t0 n0 L0) (hfew : mz_ct (fun i => S 9 (i + 1)) n0 < t0) : Wr l y_M_secret ws_M_secret 4 92 [.ref (Y 0)] (dC, dI) cls (tysM cI cZ) (wM Y cI cZ p0 q0 g0 h0 (S)) (wM Y cI cZ p0 q0 g0 h0 (up (selM (up S 0 1 0) L0) 0 1 2)) (some (.int 0)) := by
  refine Met.ofW (cc := b_M_secret) (maxL := 3) (ret := (some .int)) (by decide) rfl ?_
  intro p e s m args below meth c s₁ B hml hv
  obtain ⟨rfl, hP, hK, hD0⟩ := hv
  have hx := B.exec
  have hb := B.bytes
  have hr := B.returns
  have hts : ∀ w ∈ AL, w.before ([.ref (Y 0)] : List Value).toArray s = true := fun w h => atoms_spec (ws := ws_M_secret) B.pre w (List.mem_cons_of_mem _ h)
  have hown : s.vm.findClass "DealtSecretModel" = some m.cls := findClass_of_methodNamed B.named
  have hlk := B.notSynchronized
  have hl := lv_entry ([.ref (Y 0)]) (n := 3) (Nat.le_of_ble_eq_true rfl)
  rw [lg_entry_eq]
  generalize (lg_sl ([.ref (Y 0)]) ++ List.replicate (3 - (lg_sl ([.ref (Y 0)])).length) Slot.unset).toArray = ls at hl ⊢
  have hl : lv_has ls 3 [(0, .ref (Y 0))] := hl
  have hD := w_self hD0
  have hS : va_S (w_A (wM Y cI cZ p0 q0 g0 h0 (S))) s.heap s.heap [] := va_S.rf
  obtain ⟨hL1, hL2, hL3⟩ := id hL
  have hcl := lastC_le hL
  have hcm := mz_ct_mono (f := fun i => S 9 (i + 1)) hL1
  have loop : ∀ (n j : Nat) (H : Heap) (locs : List Loc) (ls : Array Slot), L0 + 1 ≤ j + n → j ≤ L0 → va_P (dC, dI) cls (wM Y cI cZ p0 q0 g0 h0 (selM (up S 0 1 0) j)) H → va_D (w_A (wM Y cI cZ p0 q0 g0 h0 (S))) (wM Y cI cZ p0 q0 g0 h0 (selM (up S 0 1 0) j)) → va_S (w_A (wM Y cI cZ p0 q0 g0 h0 (S))) s.heap H locs → lv_has ls 3 [(0, .ref (Y 0)), (1, .int (nI (mz_ct (fun i => S 9 (i + 1)) j))), (2, .int (nI (j + 1)))] → W p l e (headSpec ws_M_secret { frames := 4, cells := 0, slots := 0, locals := 92 }).room s m [.ref (Y 0)].toArray below meth c H locs 0 0 (MQ below (fun _ st o t => o = .returned (some (.int 0)) ∧ va_P (dC, dI) cls (wM Y cI cZ p0 q0 g0 h0 (up (selM (up S 0 1 0) L0) 0 1 2)) t.heap ∧ va_F (w_A (wM Y cI cZ p0 q0 g0 h0 (S))) st t) [.ref (Y 0)].toArray s 0 0 (w_A (wM Y cI cZ p0 q0 g0 h0 (S)))) (F0 m 27 ls []) := by
    intro n
    induction n with
    | zero =>
      intro j H locs ls h1 h2
      omega
    | succ n ih =>
      intro j H locs ls h1 h2 hP hD hS hl
      have hcj := mz_ct_le (fun i => S 9 (i + 1)) j
      refine lv_iload_n hx hb d_M_secret_27 rfl (lv_at hl 2 rfl) ?_
      refine lv_aload_n hx hb d_M_secret_28 rfl (lv_at hl 0 rfl) ?_
      refine va_get (D := (dC, dI)) (ci := 3) (v := .int ((selM (up S 0 1 0) j) 0 2)) (C := "DealtSecretModel") (T := T_M) (N := 24) hx hb hts i_M hown hK hP 0 rfl rfl 6 (by decide) (hts _ k_449) (fun _ h9 => h9) rfl d_M_secret_29 ?_
      refine x_i (y := nI n0) (by rw [selM_ne (up S 0 1 0) (by decide) (by decide) j]; exact hn) ?_
      refine lv_icmp_gt (tgt := 80) hx hb d_M_secret_32 (by decide) (fun c32 => ?_) (fun c32 => ?_)
      · have hk : j = L0 := by
          have h5 : n0 < j + 1 := (nI_ltI (by omega) (by omega)).mp c32
          omega
        rw [hk] at hP hD hl
        refine lv_iload_n hx hb d_M_secret_80 rfl (lv_at hl 1 rfl) ?_
        refine lv_aload_n hx hb d_M_secret_81 rfl (lv_at hl 0 rfl) ?_
        refine va_get (D := (dC, dI)) (ci := 3) (v := .int ((selM (up S 0 1 0) L0) 0 3)) (C := "DealtSecretModel") (T := T_M) (N := 24) hx hb hts i_M hown hK hP 0 rfl rfl 7 (by decide) (hts _ k_450) (fun _ h9 => h9) rfl d_M_secret_82 ?_
        refine x_i (y := nI t0) (by rw [selM_ne (up S 0 1 0) (by decide) (by decide) L0]; exact ht) ?_
        refine lv_icmp_ge (tgt := 95) hx hb d_M_secret_85 (by decide) (fun c_ => absurd c_ (nI_ge (by omega) (by omega))) (fun _ => ?_)
        refine lv_aload_n hx hb d_M_secret_88 rfl (lv_at hl 0 rfl) ?_
        refine lv_iconst (v := 2) hx hb d_M_secret_89 (by decide) ?_
        refine va_put (D := (dC, dI)) (ci := 3) (v := .int 2) (ty := .int) (C := "DealtSecretModel") (T := T_M) (N := 24) hx hb hts i_M t_M t_M_ok n_M hown hK hP hD hS 0 rfl rfl 5 (by decide) (hts _ k_448) (fun _ h9 => h9) rfl (by decide +kernel) (rfl) (rfl) (Nat.le_of_ble_eq_true rfl) d_M_secret_90 (fun H locs hP hD hS => ?_)
        have hP : va_P (dC, dI) cls (wM Y cI cZ p0 q0 g0 h0 (up (selM (up S 0 1 0) L0) 0 1 2)) H := by rw [← w_ms1]; exact hP
        have hD : va_D (w_A (wM Y cI cZ p0 q0 g0 h0 (S))) (wM Y cI cZ p0 q0 g0 h0 (up (selM (up S 0 1 0) L0) 0 1 2)) := by rw [← w_ms1]; exact hD
        refine lv_iconst (v := 0) hx hb d_M_secret_93 (by decide) ?_
        exact wr_i hx hb hr hlk hP hS d_M_secret_94
      · have hk : j < n0 := by
          rcases Nat.lt_or_ge j n0 with q | q
          · exact q
          · exact absurd (nI_lt (show n0 < j + 1 by omega) (by omega)) c32
        refine lv_iload_n hx hb d_M_secret_35 rfl (lv_at hl 1 rfl) ?_
        refine lv_aload_n hx hb d_M_secret_36 rfl (lv_at hl 0 rfl) ?_
        refine va_get (D := (dC, dI)) (ci := 3) (v := .int ((selM (up S 0 1 0) j) 0 3)) (C := "DealtSecretModel") (T := T_M) (N := 24) hx hb hts i_M hown hK hP 0 rfl rfl 7 (by decide) (hts _ k_450) (fun _ h9 => h9) rfl d_M_secret_37 ?_
        refine x_i (y := nI t0) (by rw [selM_ne (up S 0 1 0) (by decide) (by decide) j]; exact ht) ?_
        refine lv_icmp_ge (tgt := 80) hx hb d_M_secret_40 (by decide) (fun c40 => ?_) (fun c40 => ?_)
        · have hk : j = L0 := by
            rcases Nat.lt_or_ge (mz_ct (fun i => S 9 (i + 1)) j) t0 with q | q
            · exact absurd c40 (nI_ge q (by omega))
            · rcases Nat.lt_or_ge j L0 with z | z
              · exact absurd (hL2 j z) (by omega)
              · omega
          rw [hk] at hP hD hl
          refine lv_iload_n hx hb d_M_secret_80 rfl (lv_at hl 1 rfl) ?_
          refine lv_aload_n hx hb d_M_secret_81 rfl (lv_at hl 0 rfl) ?_
          refine va_get (D := (dC, dI)) (ci := 3) (v := .int ((selM (up S 0 1 0) L0) 0 3)) (C := "DealtSecretModel") (T := T_M) (N := 24) hx hb hts i_M hown hK hP 0 rfl rfl 7 (by decide) (hts _ k_450) (fun _ h9 => h9) rfl d_M_secret_82 ?_
          refine x_i (y := nI t0) (by rw [selM_ne (up S 0 1 0) (by decide) (by decide) L0]; exact ht) ?_
          refine lv_icmp_ge (tgt := 95) hx hb d_M_secret_85 (by decide) (fun c_ => absurd c_ (nI_ge (by omega) (by omega))) (fun _ => ?_)
          refine lv_aload_n hx hb d_M_secret_88 rfl (lv_at hl 0 rfl) ?_
          refine lv_iconst (v := 2) hx hb d_M_secret_89 (by decide) ?_
          refine va_put (D := (dC, dI)) (ci := 3) (v := .int 2) (ty := .int) (C := "DealtSecretModel") (T := T_M) (N := 24) hx hb hts i_M t_M t_M_ok n_M hown hK hP hD hS 0 rfl rfl 5 (by decide) (hts _ k_448) (fun _ h9 => h9) rfl (by decide +kernel) (rfl) (rfl) (Nat.le_of_ble_eq_true rfl) d_M_secret_90 (fun H locs hP hD hS => ?_)
          have hP : va_P (dC, dI) cls (wM Y cI cZ p0 q0 g0 h0 (up (selM (up S 0 1 0) L0) 0 1 2)) H := by rw [← w_ms1]; exact hP
          have hD : va_D (w_A (wM Y cI cZ p0 q0 g0 h0 (S))) (wM Y cI cZ p0 q0 g0 h0 (up (selM (up S 0 1 0) L0) 0 1 2)) := by rw [← w_ms1]; exact hD
          refine lv_iconst (v := 0) hx hb d_M_secret_93 (by decide) ?_
          exact wr_i hx hb hr hlk hP hS d_M_secret_94
        · have hc : mz_ct (fun i => S 9 (i + 1)) j < t0 := by
            rcases Nat.lt_or_ge (mz_ct (fun i => S 9 (i + 1)) j) t0 with q | q
            · exact q
            · exact absurd (nI_le q (by omega)) c40
          have hk2 : j < L0 := by
            rcases Nat.lt_or_ge j L0 with z | z
            · exact z
            · have e : j = L0 := by omega
              subst e
              omega
          refine lv_aload_n hx hb d_M_secret_43 rfl (lv_at hl 0 rfl) ?_
          refine va_get (D := (dC, dI)) (ci := 3) (v := .ref (Y 9)) (C := "DealtSecretModel") (T := T_M) (N := 24) hx hb hts i_M hown hK hP 0 rfl rfl 17 (by decide) (hts _ k_460) (fun _ h9 => h9) rfl d_M_secret_44 ?_
          refine lv_iload_n hx hb d_M_secret_47 rfl (lv_at hl 2 rfl) ?_
          refine va_zald hx hb hK hP 9 1 rfl rfl (vp_in_nI (by omega) (by decide)) d_M_secret_48 ?_
          refine x_i (y := (selM (up S 0 1 0) j) 9 (j + 1)) (by rw [nI_clamp (by omega)]) ?_
          refine x_i (y := S 9 (j + 1)) (by rw [selM_ne (up S 0 1 0) (by decide) (by decide) j]; rfl) ?_
          refine lv_if_eq (tgt := 74) hx hb d_M_secret_49 (by decide) (fun c49 => ?_) (fun c49 => ?_)
          · refine lv_iinc (v := (nI (j + 1 + 1))) (lv' := [(2, .int (nI (j + 1 + 1))), (0, .ref (Y 0)), (1, .int (nI (mz_ct (fun i => S 9 (i + 1)) j)))]) hx hb d_M_secret_74 hl (k := 2) rfl (nI_1 (j + 1)) (by decide) rfl (fun ls hl => ?_)
            refine lv_goto (tgt := 27) hx hb d_M_secret_77 (by decide) ?_
            exact ih (j + 1) H locs ls (by omega) (by omega) (by rw [selM_0 (show (up S 0 1 0) 9 (j + 1) = 0 from c49)]; exact hP) (by rw [selM_0 (show (up S 0 1 0) 9 (j + 1) = 0 from c49)]; exact hD) hS (by rw [mz_ct_0 (f := fun i => S 9 (i + 1)) c49]; exact lv_sub hl [1, 2, 0] rfl)
          · refine lv_aload_n hx hb d_M_secret_52 rfl (lv_at hl 0 rfl) ?_
            refine va_get (D := (dC, dI)) (ci := 3) (v := .ref (Y 12)) (C := "DealtSecretModel") (T := T_M) (N := 24) hx hb hts i_M hown hK hP 0 rfl rfl 22 (by decide) (hts _ k_465) (fun _ h9 => h9) rfl d_M_secret_53 ?_
            refine lv_iload_n hx hb d_M_secret_56 rfl (lv_at hl 1 rfl) ?_
            refine lv_iload_n hx hb d_M_secret_57 rfl (lv_at hl 2 rfl) ?_
            refine va_iast hx hb hK hP hD hS 12 0 rfl rfl (vp_in_nI (by omega) (by decide)) d_M_secret_58 (fun H locs hP hD hS => ?_)
            rw [nI_clamp (by omega)] at hP hD
            have hP : va_P (dC, dI) cls (wM Y cI cZ p0 q0 g0 h0 (up (selM (up S 0 1 0) j) 12 (mz_ct (fun i => S 9 (i + 1)) j) (nI (j + 1)))) H := by rw [← w_ma12]; exact hP
            have hD : va_D (w_A (wM Y cI cZ p0 q0 g0 h0 (S))) (wM Y cI cZ p0 q0 g0 h0 (up (selM (up S 0 1 0) j) 12 (mz_ct (fun i => S 9 (i + 1)) j) (nI (j + 1)))) := by rw [← w_ma12]; exact hD
            refine lv_aload_n hx hb d_M_secret_59 rfl (lv_at hl 0 rfl) ?_
            refine va_get (D := (dC, dI)) (ci := 3) (v := .ref (Y 13)) (C := "DealtSecretModel") (T := T_M) (N := 24) hx hb hts i_M hown hK hP 0 rfl rfl 23 (by decide) (hts _ k_466) (fun _ h9 => h9) rfl d_M_secret_60 ?_
            refine lv_iload_n hx hb d_M_secret_63 rfl (lv_at hl 1 rfl) ?_
            refine lv_aload_n hx hb d_M_secret_64 rfl (lv_at hl 0 rfl) ?_
            refine va_get (D := (dC, dI)) (ci := 3) (v := .ref (Y 10)) (C := "DealtSecretModel") (T := T_M) (N := 24) hx hb hts i_M hown hK hP 0 rfl rfl 18 (by decide) (hts _ k_461) (fun _ h9 => h9) rfl d_M_secret_65 ?_
            refine lv_iload_n hx hb d_M_secret_68 rfl (lv_at hl 2 rfl) ?_
            refine va_iald hx hb hK hP 10 0 rfl rfl (vp_in_nI (by omega) (by decide)) d_M_secret_69 ?_
            refine x_i (y := (up (selM (up S 0 1 0) j) 12 (mz_ct (fun i => S 9 (i + 1)) j) (nI (j + 1))) 10 (j + 1)) (by rw [nI_clamp (by omega)]) ?_
            refine x_i (y := S 10 (j + 1)) (by rw [up_ne _ _ _ (by decide), selM_ne (up S 0 1 0) (by decide) (by decide) j]; rfl) ?_
            refine va_iast hx hb hK hP hD hS 13 0 rfl rfl (vp_in_nI (by omega) (by decide)) d_M_secret_70 (fun H locs hP hD hS => ?_)
            rw [nI_clamp (by omega)] at hP hD
            have hP : va_P (dC, dI) cls (wM Y cI cZ p0 q0 g0 h0 (up (up (selM (up S 0 1 0) j) 12 (mz_ct (fun i => S 9 (i + 1)) j) (nI (j + 1))) 13 (mz_ct (fun i => S 9 (i + 1)) j) (S 10 (j + 1)))) H := by rw [← w_ma13]; exact hP
            have hD : va_D (w_A (wM Y cI cZ p0 q0 g0 h0 (S))) (wM Y cI cZ p0 q0 g0 h0 (up (up (selM (up S 0 1 0) j) 12 (mz_ct (fun i => S 9 (i + 1)) j) (nI (j + 1))) 13 (mz_ct (fun i => S 9 (i + 1)) j) (S 10 (j + 1)))) := by rw [← w_ma13]; exact hD
            refine lv_iinc (v := (nI (mz_ct (fun i => S 9 (i + 1)) (j + 1)))) (lv' := [(1, .int (nI (mz_ct (fun i => S 9 (i + 1)) (j + 1)))), (0, .ref (Y 0)), (2, .int (nI (j + 1)))]) hx hb d_M_secret_71 hl (k := 1) rfl ((nI_1 _).trans (by rw [mz_ct_1 (f := fun i => S 9 (i + 1)) c49])) (by decide) rfl (fun ls hl => ?_)
            refine lv_iinc (v := (nI (j + 1 + 1))) (lv' := [(2, .int (nI (j + 1 + 1))), (1, .int (nI (mz_ct (fun i => S 9 (i + 1)) (j + 1)))), (0, .ref (Y 0))]) hx hb d_M_secret_74 hl (k := 2) rfl (nI_1 (j + 1)) (by decide) rfl (fun ls hl => ?_)
            refine lv_goto (tgt := 27) hx hb d_M_secret_77 (by decide) ?_
            exact ih (j + 1) H locs ls (by omega) (by omega) (by rw [selM_1 (show ¬ (up S 0 1 0) 9 (j + 1) = 0 from c49)]; exact hP) (by rw [selM_1 (show ¬ (up S 0 1 0) 9 (j + 1) = 0 from c49)]; exact hD) hS (lv_sub hl [2, 1, 0] rfl)
  refine lv_aload_n hx hb d_M_secret_0 rfl (lv_at hl 0 rfl) ?_
  refine lv_aload_n hx hb d_M_secret_1 rfl (lv_at hl 0 rfl) ?_
  refine va_get (D := (dC, dI)) (ci := 3) (v := .int (S 0 0)) (C := "DealtSecretModel") (T := T_M) (N := 24) hx hb hts i_M hown hK hP 0 rfl rfl 4 (by decide) (hts _ k_447) (fun _ h9 => h9) rfl d_M_secret_2 ?_
  refine lv_iconst (v := 5) hx hb d_M_secret_5 (by decide) ?_
  refine lv_icmp_eq (tgt := 13) hx hb d_M_secret_6 (by decide) (fun _ => ?_) (fun c_ => absurd (hst) c_)
  refine lv_iconst (v := 0) hx hb d_M_secret_13 (by decide) ?_
  refine lv_iconst (v := 0) hx hb d_M_secret_14 (by decide) ?_
  refine wr_V (As := [.int 0, .int 0]) (rest := []) (b := (Y 0)) ⟨hx, hb, hml, hown, hts⟩ (c_M_refuses l dC dI Y cI cZ p0 q0 g0 h0 S 0 0 0 0 (by decide) (by decide)) (cwV 2 hts (al_V k_532 k_533 k_649 k_4 k_534) rfl rfl rfl (by decide +kernel) ⟨Nat.le_of_ble_eq_true rfl, Nat.le_of_ble_eq_true rfl⟩) (va_recv hK hP (ci := 3) (q0 := 0) rfl rfl) hP hK hD hS rfl hl.1 rfl (lv_room (Nat.le_of_ble_eq_true rfl)) d_M_secret_15 ⟨Nat.zero_le _, Nat.zero_le _⟩ (fun H locs hP _ _ hS => ?_)
  have hD := w_addr hD (w_adM S (up S 0 1 0))
  refine lv_if_eq (tgt := 23) hx hb d_M_secret_18 (by decide) (fun _ => ?_) (fun c_ => absurd (rfl) c_)
  refine lv_iconst (v := (nI (mz_ct (fun i => S 9 (i + 1)) 0))) hx hb d_M_secret_23 (by rfl) ?_
  refine lv_istore_n (lv' := [(1, .int (nI (mz_ct (fun i => S 9 (i + 1)) 0))), (0, .ref (Y 0))]) hx hb d_M_secret_24 rfl hl (by decide) rfl (fun ls hl => ?_)
  refine lv_iconst (v := (nI (0 + 1))) hx hb d_M_secret_25 (by decide) ?_
  refine lv_istore_n (lv' := [(2, .int (nI (0 + 1))), (1, .int (nI (mz_ct (fun i => S 9 (i + 1)) 0))), (0, .ref (Y 0))]) hx hb d_M_secret_26 rfl hl (by decide) rfl (fun ls hl => ?_)
  exact loop (L0 + 1) 0 _ _ ls (by omega) (by omega) hP hD hS (lv_sub hl [2, 1, 0] rfl)
set_option maxRecDepth 100000 in
set_option maxHeartbeats 4000000 in
/-- the reference's secret where it is allowed -/
theorem c_M_secret (l : Launch) (dC : Nat → ClassId) (dI : Nat → Nat → Nat) (Y : Nat → Nat) (cI cZ : ClassId) (p0 q0 g0 h0 : Nat) (S : Nat → Nat → Int32) (n0 t0 L0 : Nat) (hst : S 0 0 = 5) (hn : S 0 2 = nI n0) (hn7 : n0 ≤ 7) (ht : S 0 3 = nI t0) (ht1 : 1 ≤ t0) (ht7 : t0 ≤ 7) (hL : lastC (fun i => S 9 (i + 1)) t0 n0 L0) (hct : t0 ≤ mz_ct (fun i => S 9 (i + 1)) n0) (hU : ∀ j, j < n0 → ¬ S 9 (j + 1) = 0 → okN (S 10 (j + 1)) q0) (ok : okG p0 q0 g0 h0) : Wr l y_M_secret ws_M_secret 4 92 [.ref (Y 0)] (dC, dI) cls (tysM cI cZ) (wM Y cI cZ p0 q0 g0 h0 (S)) (wM Y cI cZ p0 q0 g0 h0 (atS q0 (selM (up S 0 1 0) L0) t0 (t0 - 1) t0)) (some (.int (nI (hz q0 (fun m => nn (selM (up S 0 1 0) L0 12 m)) (dk q0 (fun m => nn (selM (up S 0 1 0) L0 12 m)) (fun m => nn (selM (up S 0 1 0) L0 13 m)) (t0 - 1)) 0 t0)))) := by
  refine Met.ofW (cc := b_M_secret) (maxL := 3) (ret := (some .int)) (by decide) rfl ?_
  intro p e s m args below meth c s₁ B hml hv
  obtain ⟨rfl, hP, hK, hD0⟩ := hv
  have hx := B.exec
  have hb := B.bytes
  have hr := B.returns
  have hts : ∀ w ∈ AL, w.before ([.ref (Y 0)] : List Value).toArray s = true := fun w h => atoms_spec (ws := ws_M_secret) B.pre w (List.mem_cons_of_mem _ h)
  have hown : s.vm.findClass "DealtSecretModel" = some m.cls := findClass_of_methodNamed B.named
  have hlk := B.notSynchronized
  have hl := lv_entry ([.ref (Y 0)]) (n := 3) (Nat.le_of_ble_eq_true rfl)
  rw [lg_entry_eq]
  generalize (lg_sl ([.ref (Y 0)]) ++ List.replicate (3 - (lg_sl ([.ref (Y 0)])).length) Slot.unset).toArray = ls at hl ⊢
  have hl : lv_has ls 3 [(0, .ref (Y 0))] := hl
  have hD := w_self hD0
  have hS : va_S (w_A (wM Y cI cZ p0 q0 g0 h0 (S))) s.heap s.heap [] := va_S.rf
  obtain ⟨okp2, okp, okq2, okq, okg, okh⟩ := id ok
  obtain ⟨hL1, hL2, hL3⟩ := id hL
  have hcl := lastC_le hL
  have hct2 := lastC_t hL hct
  have hsel : ∀ m, m < t0 → ∃ j, j < n0 ∧ ¬ S 9 (j + 1) = 0 ∧ selM (up S 0 1 0) L0 12 m = nI (j + 1) ∧ selM (up S 0 1 0) L0 13 m = S 10 (j + 1) := fun m hm => by
    obtain ⟨j, a, b, d⟩ := mz_ct_ex (f := fun i => S 9 (i + 1)) L0 m (by omega)
    have h := selM_at (up S 0 1 0) L0 j a b
    have d2 : mz_ct (fun i => (up S 0 1 0) 9 (i + 1)) j = m := d
    rw [d2] at h
    exact ⟨j, by omega, b, h.1, h.2⟩
  have loop : ∀ (n j : Nat) (H : Heap) (locs : List Loc) (ls : Array Slot), L0 + 1 ≤ j + n → j ≤ L0 → va_P (dC, dI) cls (wM Y cI cZ p0 q0 g0 h0 (selM (up S 0 1 0) j)) H → va_D (w_A (wM Y cI cZ p0 q0 g0 h0 (S))) (wM Y cI cZ p0 q0 g0 h0 (selM (up S 0 1 0) j)) → va_S (w_A (wM Y cI cZ p0 q0 g0 h0 (S))) s.heap H locs → lv_has ls 3 [(0, .ref (Y 0)), (1, .int (nI (mz_ct (fun i => S 9 (i + 1)) j))), (2, .int (nI (j + 1)))] → W p l e (headSpec ws_M_secret { frames := 4, cells := 0, slots := 0, locals := 92 }).room s m [.ref (Y 0)].toArray below meth c H locs 0 0 (MQ below (fun _ st o t => o = .returned (some (.int (nI (hz q0 (fun m => nn (selM (up S 0 1 0) L0 12 m)) (dk q0 (fun m => nn (selM (up S 0 1 0) L0 12 m)) (fun m => nn (selM (up S 0 1 0) L0 13 m)) (t0 - 1)) 0 t0)))) ∧ va_P (dC, dI) cls (wM Y cI cZ p0 q0 g0 h0 (atS q0 (selM (up S 0 1 0) L0) t0 (t0 - 1) t0)) t.heap ∧ va_F (w_A (wM Y cI cZ p0 q0 g0 h0 (S))) st t) [.ref (Y 0)].toArray s 0 0 (w_A (wM Y cI cZ p0 q0 g0 h0 (S)))) (F0 m 27 ls []) := by
    intro n
    induction n with
    | zero =>
      intro j H locs ls h1 h2
      omega
    | succ n ih =>
      intro j H locs ls h1 h2 hP hD hS hl
      have hcj := mz_ct_le (fun i => S 9 (i + 1)) j
      refine lv_iload_n hx hb d_M_secret_27 rfl (lv_at hl 2 rfl) ?_
      refine lv_aload_n hx hb d_M_secret_28 rfl (lv_at hl 0 rfl) ?_
      refine va_get (D := (dC, dI)) (ci := 3) (v := .int ((selM (up S 0 1 0) j) 0 2)) (C := "DealtSecretModel") (T := T_M) (N := 24) hx hb hts i_M hown hK hP 0 rfl rfl 6 (by decide) (hts _ k_449) (fun _ h9 => h9) rfl d_M_secret_29 ?_
      refine x_i (y := nI n0) (by rw [selM_ne (up S 0 1 0) (by decide) (by decide) j]; exact hn) ?_
      refine lv_icmp_gt (tgt := 80) hx hb d_M_secret_32 (by decide) (fun c32 => ?_) (fun c32 => ?_)
      · have hk : j = L0 := by
          have h5 : n0 < j + 1 := (nI_ltI (by omega) (by omega)).mp c32
          omega
        rw [hk] at hP hD hl
        refine lv_iload_n hx hb d_M_secret_80 rfl (lv_at hl 1 rfl) ?_
        refine lv_aload_n hx hb d_M_secret_81 rfl (lv_at hl 0 rfl) ?_
        refine va_get (D := (dC, dI)) (ci := 3) (v := .int ((selM (up S 0 1 0) L0) 0 3)) (C := "DealtSecretModel") (T := T_M) (N := 24) hx hb hts i_M hown hK hP 0 rfl rfl 7 (by decide) (hts _ k_450) (fun _ h9 => h9) rfl d_M_secret_82 ?_
        refine x_i (y := nI t0) (by rw [selM_ne (up S 0 1 0) (by decide) (by decide) L0]; exact ht) ?_
        refine lv_icmp_ge (tgt := 95) hx hb d_M_secret_85 (by decide) (fun _ => ?_) (fun c_ => absurd (nI_le (by omega) (by omega)) c_)
        refine lv_aload_n hx hb d_M_secret_95 rfl (lv_at hl 0 rfl) ?_
        refine wr_V (As := []) (rest := []) (b := (Y 0)) ⟨hx, hb, hml, hown, hts⟩ (c_M_atZero l dC dI Y cI cZ p0 q0 g0 h0 (selM (up S 0 1 0) L0) t0 (by rw [selM_ne (up S 0 1 0) (by decide) (by decide) L0]; exact ht) ht1 ht7 ok (fun m hm => by obtain ⟨j, a, b, d, -⟩ := hsel m hm; rw [d]; exact okN.of (by omega) (by omega)) (fun m hm => by obtain ⟨j, a, b, -, d⟩ := hsel m hm; rw [d]; exact hU j a b)) (cwV 0 hts (al_V k_598 k_599 k_659 k_4 k_600) rfl rfl rfl (by decide +kernel) ⟨Nat.le_of_ble_eq_true rfl, Nat.le_of_ble_eq_true rfl⟩) (va_recv hK hP (ci := 3) (q0 := 0) rfl rfl) hP hK hD hS rfl hl.1 rfl (lv_room (Nat.le_of_ble_eq_true rfl)) d_M_secret_96 ⟨Nat.zero_le _, Nat.zero_le _⟩ (fun H locs hP _ _ hS => ?_)
        have hD := w_addr hD (w_adM (selM (up S 0 1 0) L0) (atS q0 (selM (up S 0 1 0) L0) t0 (t0 - 1) t0))
        exact wr_i hx hb hr hlk hP hS d_M_secret_99
      · have hk : j < n0 := by
          rcases Nat.lt_or_ge j n0 with q | q
          · exact q
          · exact absurd (nI_lt (show n0 < j + 1 by omega) (by omega)) c32
        refine lv_iload_n hx hb d_M_secret_35 rfl (lv_at hl 1 rfl) ?_
        refine lv_aload_n hx hb d_M_secret_36 rfl (lv_at hl 0 rfl) ?_
        refine va_get (D := (dC, dI)) (ci := 3) (v := .int ((selM (up S 0 1 0) j) 0 3)) (C := "DealtSecretModel") (T := T_M) (N := 24) hx hb hts i_M hown hK hP 0 rfl rfl 7 (by decide) (hts _ k_450) (fun _ h9 => h9) rfl d_M_secret_37 ?_
        refine x_i (y := nI t0) (by rw [selM_ne (up S 0 1 0) (by decide) (by decide) j]; exact ht) ?_
        refine lv_icmp_ge (tgt := 80) hx hb d_M_secret_40 (by decide) (fun c40 => ?_) (fun c40 => ?_)
        · have hk : j = L0 := by
            rcases Nat.lt_or_ge (mz_ct (fun i => S 9 (i + 1)) j) t0 with q | q
            · exact absurd c40 (nI_ge q (by omega))
            · rcases Nat.lt_or_ge j L0 with z | z
              · exact absurd (hL2 j z) (by omega)
              · omega
          rw [hk] at hP hD hl
          refine lv_iload_n hx hb d_M_secret_80 rfl (lv_at hl 1 rfl) ?_
          refine lv_aload_n hx hb d_M_secret_81 rfl (lv_at hl 0 rfl) ?_
          refine va_get (D := (dC, dI)) (ci := 3) (v := .int ((selM (up S 0 1 0) L0) 0 3)) (C := "DealtSecretModel") (T := T_M) (N := 24) hx hb hts i_M hown hK hP 0 rfl rfl 7 (by decide) (hts _ k_450) (fun _ h9 => h9) rfl d_M_secret_82 ?_
          refine x_i (y := nI t0) (by rw [selM_ne (up S 0 1 0) (by decide) (by decide) L0]; exact ht) ?_
          refine lv_icmp_ge (tgt := 95) hx hb d_M_secret_85 (by decide) (fun _ => ?_) (fun c_ => absurd (nI_le (by omega) (by omega)) c_)
          refine lv_aload_n hx hb d_M_secret_95 rfl (lv_at hl 0 rfl) ?_
          refine wr_V (As := []) (rest := []) (b := (Y 0)) ⟨hx, hb, hml, hown, hts⟩ (c_M_atZero l dC dI Y cI cZ p0 q0 g0 h0 (selM (up S 0 1 0) L0) t0 (by rw [selM_ne (up S 0 1 0) (by decide) (by decide) L0]; exact ht) ht1 ht7 ok (fun m hm => by obtain ⟨j, a, b, d, -⟩ := hsel m hm; rw [d]; exact okN.of (by omega) (by omega)) (fun m hm => by obtain ⟨j, a, b, -, d⟩ := hsel m hm; rw [d]; exact hU j a b)) (cwV 0 hts (al_V k_598 k_599 k_659 k_4 k_600) rfl rfl rfl (by decide +kernel) ⟨Nat.le_of_ble_eq_true rfl, Nat.le_of_ble_eq_true rfl⟩) (va_recv hK hP (ci := 3) (q0 := 0) rfl rfl) hP hK hD hS rfl hl.1 rfl (lv_room (Nat.le_of_ble_eq_true rfl)) d_M_secret_96 ⟨Nat.zero_le _, Nat.zero_le _⟩ (fun H locs hP _ _ hS => ?_)
          have hD := w_addr hD (w_adM (selM (up S 0 1 0) L0) (atS q0 (selM (up S 0 1 0) L0) t0 (t0 - 1) t0))
          exact wr_i hx hb hr hlk hP hS d_M_secret_99
        · have hc : mz_ct (fun i => S 9 (i + 1)) j < t0 := by
            rcases Nat.lt_or_ge (mz_ct (fun i => S 9 (i + 1)) j) t0 with q | q
            · exact q
            · exact absurd (nI_le q (by omega)) c40
          have hk2 : j < L0 := by
            rcases Nat.lt_or_ge j L0 with z | z
            · exact z
            · have e : j = L0 := by omega
              subst e
              omega
          refine lv_aload_n hx hb d_M_secret_43 rfl (lv_at hl 0 rfl) ?_
          refine va_get (D := (dC, dI)) (ci := 3) (v := .ref (Y 9)) (C := "DealtSecretModel") (T := T_M) (N := 24) hx hb hts i_M hown hK hP 0 rfl rfl 17 (by decide) (hts _ k_460) (fun _ h9 => h9) rfl d_M_secret_44 ?_
          refine lv_iload_n hx hb d_M_secret_47 rfl (lv_at hl 2 rfl) ?_
          refine va_zald hx hb hK hP 9 1 rfl rfl (vp_in_nI (by omega) (by decide)) d_M_secret_48 ?_
          refine x_i (y := (selM (up S 0 1 0) j) 9 (j + 1)) (by rw [nI_clamp (by omega)]) ?_
          refine x_i (y := S 9 (j + 1)) (by rw [selM_ne (up S 0 1 0) (by decide) (by decide) j]; rfl) ?_
          refine lv_if_eq (tgt := 74) hx hb d_M_secret_49 (by decide) (fun c49 => ?_) (fun c49 => ?_)
          · refine lv_iinc (v := (nI (j + 1 + 1))) (lv' := [(2, .int (nI (j + 1 + 1))), (0, .ref (Y 0)), (1, .int (nI (mz_ct (fun i => S 9 (i + 1)) j)))]) hx hb d_M_secret_74 hl (k := 2) rfl (nI_1 (j + 1)) (by decide) rfl (fun ls hl => ?_)
            refine lv_goto (tgt := 27) hx hb d_M_secret_77 (by decide) ?_
            exact ih (j + 1) H locs ls (by omega) (by omega) (by rw [selM_0 (show (up S 0 1 0) 9 (j + 1) = 0 from c49)]; exact hP) (by rw [selM_0 (show (up S 0 1 0) 9 (j + 1) = 0 from c49)]; exact hD) hS (by rw [mz_ct_0 (f := fun i => S 9 (i + 1)) c49]; exact lv_sub hl [1, 2, 0] rfl)
          · refine lv_aload_n hx hb d_M_secret_52 rfl (lv_at hl 0 rfl) ?_
            refine va_get (D := (dC, dI)) (ci := 3) (v := .ref (Y 12)) (C := "DealtSecretModel") (T := T_M) (N := 24) hx hb hts i_M hown hK hP 0 rfl rfl 22 (by decide) (hts _ k_465) (fun _ h9 => h9) rfl d_M_secret_53 ?_
            refine lv_iload_n hx hb d_M_secret_56 rfl (lv_at hl 1 rfl) ?_
            refine lv_iload_n hx hb d_M_secret_57 rfl (lv_at hl 2 rfl) ?_
            refine va_iast hx hb hK hP hD hS 12 0 rfl rfl (vp_in_nI (by omega) (by decide)) d_M_secret_58 (fun H locs hP hD hS => ?_)
            rw [nI_clamp (by omega)] at hP hD
            have hP : va_P (dC, dI) cls (wM Y cI cZ p0 q0 g0 h0 (up (selM (up S 0 1 0) j) 12 (mz_ct (fun i => S 9 (i + 1)) j) (nI (j + 1)))) H := by rw [← w_ma12]; exact hP
            have hD : va_D (w_A (wM Y cI cZ p0 q0 g0 h0 (S))) (wM Y cI cZ p0 q0 g0 h0 (up (selM (up S 0 1 0) j) 12 (mz_ct (fun i => S 9 (i + 1)) j) (nI (j + 1)))) := by rw [← w_ma12]; exact hD
            refine lv_aload_n hx hb d_M_secret_59 rfl (lv_at hl 0 rfl) ?_
            refine va_get (D := (dC, dI)) (ci := 3) (v := .ref (Y 13)) (C := "DealtSecretModel") (T := T_M) (N := 24) hx hb hts i_M hown hK hP 0 rfl rfl 23 (by decide) (hts _ k_466) (fun _ h9 => h9) rfl d_M_secret_60 ?_
            refine lv_iload_n hx hb d_M_secret_63 rfl (lv_at hl 1 rfl) ?_
            refine lv_aload_n hx hb d_M_secret_64 rfl (lv_at hl 0 rfl) ?_
            refine va_get (D := (dC, dI)) (ci := 3) (v := .ref (Y 10)) (C := "DealtSecretModel") (T := T_M) (N := 24) hx hb hts i_M hown hK hP 0 rfl rfl 18 (by decide) (hts _ k_461) (fun _ h9 => h9) rfl d_M_secret_65 ?_
            refine lv_iload_n hx hb d_M_secret_68 rfl (lv_at hl 2 rfl) ?_
            refine va_iald hx hb hK hP 10 0 rfl rfl (vp_in_nI (by omega) (by decide)) d_M_secret_69 ?_
            refine x_i (y := (up (selM (up S 0 1 0) j) 12 (mz_ct (fun i => S 9 (i + 1)) j) (nI (j + 1))) 10 (j + 1)) (by rw [nI_clamp (by omega)]) ?_
            refine x_i (y := S 10 (j + 1)) (by rw [up_ne _ _ _ (by decide), selM_ne (up S 0 1 0) (by decide) (by decide) j]; rfl) ?_
            refine va_iast hx hb hK hP hD hS 13 0 rfl rfl (vp_in_nI (by omega) (by decide)) d_M_secret_70 (fun H locs hP hD hS => ?_)
            rw [nI_clamp (by omega)] at hP hD
            have hP : va_P (dC, dI) cls (wM Y cI cZ p0 q0 g0 h0 (up (up (selM (up S 0 1 0) j) 12 (mz_ct (fun i => S 9 (i + 1)) j) (nI (j + 1))) 13 (mz_ct (fun i => S 9 (i + 1)) j) (S 10 (j + 1)))) H := by rw [← w_ma13]; exact hP
            have hD : va_D (w_A (wM Y cI cZ p0 q0 g0 h0 (S))) (wM Y cI cZ p0 q0 g0 h0 (up (up (selM (up S 0 1 0) j) 12 (mz_ct (fun i => S 9 (i + 1)) j) (nI (j + 1))) 13 (mz_ct (fun i => S 9 (i + 1)) j) (S 10 (j + 1)))) := by rw [← w_ma13]; exact hD
            refine lv_iinc (v := (nI (mz_ct (fun i => S 9 (i + 1)) (j + 1)))) (lv' := [(1, .int (nI (mz_ct (fun i => S 9 (i + 1)) (j + 1)))), (0, .ref (Y 0)), (2, .int (nI (j + 1)))]) hx hb d_M_secret_71 hl (k := 1) rfl ((nI_1 _).trans (by rw [mz_ct_1 (f := fun i => S 9 (i + 1)) c49])) (by decide) rfl (fun ls hl => ?_)
            refine lv_iinc (v := (nI (j + 1 + 1))) (lv' := [(2, .int (nI (j + 1 + 1))), (1, .int (nI (mz_ct (fun i => S 9 (i + 1)) (j + 1)))), (0, .ref (Y 0))]) hx hb d_M_secret_74 hl (k := 2) rfl (nI_1 (j + 1)) (by decide) rfl (fun ls hl => ?_)
            refine lv_goto (tgt := 27) hx hb d_M_secret_77 (by decide) ?_
            exact ih (j + 1) H locs ls (by omega) (by omega) (by rw [selM_1 (show ¬ (up S 0 1 0) 9 (j + 1) = 0 from c49)]; exact hP) (by rw [selM_1 (show ¬ (up S 0 1 0) 9 (j + 1) = 0 from c49)]; exact hD) hS (lv_sub hl [2, 1, 0] rfl)
  refine lv_aload_n hx hb d_M_secret_0 rfl (lv_at hl 0 rfl) ?_
  refine lv_aload_n hx hb d_M_secret_1 rfl (lv_at hl 0 rfl) ?_
  refine va_get (D := (dC, dI)) (ci := 3) (v := .int (S 0 0)) (C := "DealtSecretModel") (T := T_M) (N := 24) hx hb hts i_M hown hK hP 0 rfl rfl 4 (by decide) (hts _ k_447) (fun _ h9 => h9) rfl d_M_secret_2 ?_
  refine lv_iconst (v := 5) hx hb d_M_secret_5 (by decide) ?_
  refine lv_icmp_eq (tgt := 13) hx hb d_M_secret_6 (by decide) (fun _ => ?_) (fun c_ => absurd (hst) c_)
  refine lv_iconst (v := 0) hx hb d_M_secret_13 (by decide) ?_
  refine lv_iconst (v := 0) hx hb d_M_secret_14 (by decide) ?_
  refine wr_V (As := [.int 0, .int 0]) (rest := []) (b := (Y 0)) ⟨hx, hb, hml, hown, hts⟩ (c_M_refuses l dC dI Y cI cZ p0 q0 g0 h0 S 0 0 0 0 (by decide) (by decide)) (cwV 2 hts (al_V k_532 k_533 k_649 k_4 k_534) rfl rfl rfl (by decide +kernel) ⟨Nat.le_of_ble_eq_true rfl, Nat.le_of_ble_eq_true rfl⟩) (va_recv hK hP (ci := 3) (q0 := 0) rfl rfl) hP hK hD hS rfl hl.1 rfl (lv_room (Nat.le_of_ble_eq_true rfl)) d_M_secret_15 ⟨Nat.zero_le _, Nat.zero_le _⟩ (fun H locs hP _ _ hS => ?_)
  have hD := w_addr hD (w_adM S (up S 0 1 0))
  refine lv_if_eq (tgt := 23) hx hb d_M_secret_18 (by decide) (fun _ => ?_) (fun c_ => absurd (rfl) c_)
  refine lv_iconst (v := (nI (mz_ct (fun i => S 9 (i + 1)) 0))) hx hb d_M_secret_23 (by rfl) ?_
  refine lv_istore_n (lv' := [(1, .int (nI (mz_ct (fun i => S 9 (i + 1)) 0))), (0, .ref (Y 0))]) hx hb d_M_secret_24 rfl hl (by decide) rfl (fun ls hl => ?_)
  refine lv_iconst (v := (nI (0 + 1))) hx hb d_M_secret_25 (by decide) ?_
  refine lv_istore_n (lv' := [(2, .int (nI (0 + 1))), (1, .int (nI (mz_ct (fun i => S 9 (i + 1)) 0))), (0, .ref (Y 0))]) hx hb d_M_secret_26 rfl hl (by decide) rfl (fun ls hl => ?_)
  exact loop (L0 + 1) 0 _ _ ls (by omega) (by omega) hP hD hS (lv_sub hl [2, 1, 0] rfl)
