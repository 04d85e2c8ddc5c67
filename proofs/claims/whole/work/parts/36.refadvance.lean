noncomputable def st5M (p0 g0 h0 t0 : Nat) (S : Nat → Nat → Int32) (n0 : Nat) : Int32 := @ite _ (wlM p0 g0 h0 t0 S n0) (Classical.propDecidable _) 5 6
set_option maxRecDepth 100000 in
set_option maxHeartbeats 4000000 in
/-- the reference's advance in stage 1 -/
theorem c_M_advance1 (l : Launch) (dC : Nat → ClassId) (dI : Nat → Nat → Nat) (Y : Nat → Nat) (cI cZ : ClassId) (p0 q0 g0 h0 : Nat) (S : Nat → Nat → Int32) (n0 t0 : Nat) (hst : S 0 0 = 1) (hn : S 0 2 = nI n0) (hn7 : n0 ≤ 7) (hU : ∀ j, j < n0 → okN (S 7 (j + 1)) q0) (hV : ∀ j, j < n0 → okN (S 8 (j + 1)) q0) (ht : S 0 3 = nI t0) (ht7 : t0 ≤ 7) (ok : okG p0 q0 g0 h0) (hC : ∀ k, k < t0 → okN (S 3 k) p0) (hA : ∀ k, k < t0 → okN (S 1 k) q0) (hB : ∀ k, k < t0 → okN (S 2 k) q0) : Wr l y_M_advance ws_M_advance 4 95 [.ref (Y 0)] (dC, dI) cls (tysM cI cZ) (wM Y cI cZ p0 q0 g0 h0 (S)) (wM Y cI cZ p0 q0 g0 h0 (up (sndM q0 t0 (pubC p0 g0 h0 (up S 0 1 0) t0) n0) 0 0 2)) (some (.int 2)) := by
  refine Met.ofW (cc := b_M_advance) (maxL := 4) (ret := (some .int)) (by decide) rfl ?_
  intro p e s m args below meth c s₁ B hml hv
  obtain ⟨rfl, hP, hK, hD0⟩ := hv
  have hx := B.exec
  have hb := B.bytes
  have hr := B.returns
  have hts : ∀ w ∈ AL, w.before ([.ref (Y 0)] : List Value).toArray s = true := fun w h => atoms_spec (ws := ws_M_advance) B.pre w (List.mem_cons_of_mem _ h)
  have hown : s.vm.findClass "DealtSecretModel" = some m.cls := findClass_of_methodNamed B.named
  have hlk := B.notSynchronized
  have hl := lv_entry ([.ref (Y 0)]) (n := 4) (Nat.le_of_ble_eq_true rfl)
  rw [lg_entry_eq]
  generalize (lg_sl ([.ref (Y 0)]) ++ List.replicate (4 - (lg_sl ([.ref (Y 0)])).length) Slot.unset).toArray = ls at hl ⊢
  have hl : lv_has ls 4 [(0, .ref (Y 0))] := hl
  have hD := w_self hD0
  have hS : va_S (w_A (wM Y cI cZ p0 q0 g0 h0 (S))) s.heap s.heap [] := va_S.rf
  obtain ⟨okp2, okp, okq2, okq, okg, okh⟩ := id ok
  have hct := mz_ct_le (fun i => S 5 (i + 1)) n0
  have k115 : ∀ (H : Heap) (locs : List Loc) (ls : Array Slot), va_P (dC, dI) cls (wM Y cI cZ p0 q0 g0 h0 (up S 0 1 0)) H → va_D (w_A (wM Y cI cZ p0 q0 g0 h0 (S))) (wM Y cI cZ p0 q0 g0 h0 (up S 0 1 0)) → va_S (w_A (wM Y cI cZ p0 q0 g0 h0 (S))) s.heap H locs → lv_has ls 4 [(0, .ref (Y 0)), (1, .int (nI (mz_ct (fun i => S 5 (i + 1)) n0))), (2, .int (mz_b (wlM p0 g0 h0 t0 S n0))), (3, .int (nI (n0 + 1)))] → W p l e (headSpec ws_M_advance { frames := 4, cells := 0, slots := 0, locals := 95 }).room s m [.ref (Y 0)].toArray below meth c H locs 0 0 (MQ below (fun _ st o t => o = .returned (some (.int 2)) ∧ va_P (dC, dI) cls (wM Y cI cZ p0 q0 g0 h0 (up (sndM q0 t0 (pubC p0 g0 h0 (up S 0 1 0) t0) n0) 0 0 2)) t.heap ∧ va_F (w_A (wM Y cI cZ p0 q0 g0 h0 (S))) st t) [.ref (Y 0)].toArray s 0 0 (w_A (wM Y cI cZ p0 q0 g0 h0 (S)))) (F0 m 115 ls []) := by
    intro H locs ls hP hD hS hl
    refine lv_aload_n hx hb d_M_advance_115 rfl (lv_at hl 0 rfl) ?_
    refine va_get (D := (dC, dI)) (ci := 3) (v := .int ((up S 0 1 0) 0 0)) (C := "DealtSecretModel") (T := T_M) (N := 24) hx hb hts i_M hown hK hP 0 rfl rfl 4 (by decide) (hts _ k_447) (fun _ h9 => h9) rfl d_M_advance_116 ?_
    refine x_i (y := 1) (hst) ?_
    refine lv_iconst (v := 1) hx hb d_M_advance_119 (by decide) ?_
    refine lv_icmp_ne (tgt := 127) hx hb d_M_advance_120 (by decide) (fun c_ => absurd (rfl) c_) (fun _ => ?_)
    refine lv_aload_n hx hb d_M_advance_123 rfl (lv_at hl 0 rfl) ?_
    refine wr_V (As := []) (rest := []) (b := (Y 0)) ⟨hx, hb, hml, hown, hts⟩ (c_M_deal l dC dI Y cI cZ p0 q0 g0 h0 (up S 0 1 0) n0 t0 hn hn7 ht ht7 ok hA hB) (cwV 0 hts (al_V k_548 k_549 k_653 k_4 k_550) rfl rfl rfl (by decide +kernel) ⟨Nat.le_of_ble_eq_true rfl, Nat.le_of_ble_eq_true rfl⟩) (va_recv hK hP (ci := 3) (q0 := 0) rfl rfl) hP hK hD hS rfl hl.1 rfl (lv_room (Nat.le_of_ble_eq_true rfl)) d_M_advance_124 ⟨Nat.zero_le _, Nat.zero_le _⟩ (fun H locs hP _ _ hS => ?_)
    have hD := w_addr hD (w_adM (up S 0 1 0) (sndM q0 t0 (pubC p0 g0 h0 (up S 0 1 0) t0) n0))
    refine lv_aload_n hx hb d_M_advance_127 rfl (lv_at hl 0 rfl) ?_
    refine va_get (D := (dC, dI)) (ci := 3) (v := .int ((sndM q0 t0 (pubC p0 g0 h0 (up S 0 1 0) t0) n0) 0 0)) (C := "DealtSecretModel") (T := T_M) (N := 24) hx hb hts i_M hown hK hP 0 rfl rfl 4 (by decide) (hts _ k_447) (fun _ h9 => h9) rfl d_M_advance_128 ?_
    refine x_i (y := 1) (by rw [sndM_ne q0 t0 (pubC p0 g0 h0 (up S 0 1 0) t0) (by decide) (by decide) n0, pubC_ne p0 g0 h0 (up S 0 1 0) (by decide) t0]; exact hst) ?_
    refine lv_iconst (v := 2) hx hb d_M_advance_131 (by decide) ?_
    refine lv_icmp_ne (tgt := 191) hx hb d_M_advance_132 (by decide) (fun _ => ?_) (fun c_ => absurd c_ (show ¬ (1 : Int32) = 2 by decide))
    refine lv_aload_n hx hb d_M_advance_191 rfl (lv_at hl 0 rfl) ?_
    refine va_get (D := (dC, dI)) (ci := 3) (v := .int ((sndM q0 t0 (pubC p0 g0 h0 (up S 0 1 0) t0) n0) 0 0)) (C := "DealtSecretModel") (T := T_M) (N := 24) hx hb hts i_M hown hK hP 0 rfl rfl 4 (by decide) (hts _ k_447) (fun _ h9 => h9) rfl d_M_advance_192 ?_
    refine x_i (y := 1) (by rw [sndM_ne q0 t0 (pubC p0 g0 h0 (up S 0 1 0) t0) (by decide) (by decide) n0, pubC_ne p0 g0 h0 (up S 0 1 0) (by decide) t0]; exact hst) ?_
    refine lv_iconst (v := 3) hx hb d_M_advance_195 (by decide) ?_
    refine lv_icmp_ne (tgt := 207) hx hb d_M_advance_196 (by decide) (fun _ => ?_) (fun c_ => absurd c_ (show ¬ (1 : Int32) = 3 by decide))
    refine lv_aload_n hx hb d_M_advance_207 rfl (lv_at hl 0 rfl) ?_
    refine va_get (D := (dC, dI)) (ci := 3) (v := .int ((sndM q0 t0 (pubC p0 g0 h0 (up S 0 1 0) t0) n0) 0 0)) (C := "DealtSecretModel") (T := T_M) (N := 24) hx hb hts i_M hown hK hP 0 rfl rfl 4 (by decide) (hts _ k_447) (fun _ h9 => h9) rfl d_M_advance_208 ?_
    refine x_i (y := 1) (by rw [sndM_ne q0 t0 (pubC p0 g0 h0 (up S 0 1 0) t0) (by decide) (by decide) n0, pubC_ne p0 g0 h0 (up S 0 1 0) (by decide) t0]; exact hst) ?_
    refine lv_iconst (v := 4) hx hb d_M_advance_211 (by decide) ?_
    refine lv_icmp_ne (tgt := 223) hx hb d_M_advance_212 (by decide) (fun _ => ?_) (fun c_ => absurd c_ (show ¬ (1 : Int32) = 4 by decide))
    refine lv_iconst (v := 0) hx hb d_M_advance_223 (by decide) ?_
    refine lv_istore_n (lv' := [(3, .int 0), (0, .ref (Y 0)), (1, .int (nI (mz_ct (fun i => S 5 (i + 1)) n0))), (2, .int (mz_b (wlM p0 g0 h0 t0 S n0)))]) hx hb d_M_advance_224 rfl hl (by decide) rfl (fun ls hl => ?_)
    refine lv_aload_n hx hb d_M_advance_225 rfl (lv_at hl 1 rfl) ?_
    refine lv_iload_n hx hb d_M_advance_226 rfl (lv_at hl 0 rfl) ?_
    refine lv_if_eq (tgt := 235) hx hb d_M_advance_227 (by decide) (fun _ => ?_) (fun c_ => absurd (rfl) c_)
    refine lv_aload_n hx hb d_M_advance_235 rfl (lv_at hl 1 rfl) ?_
    refine va_get (D := (dC, dI)) (ci := 3) (v := .int ((sndM q0 t0 (pubC p0 g0 h0 (up S 0 1 0) t0) n0) 0 0)) (C := "DealtSecretModel") (T := T_M) (N := 24) hx hb hts i_M hown hK hP 0 rfl rfl 4 (by decide) (hts _ k_447) (fun _ h9 => h9) rfl d_M_advance_236 ?_
    refine x_i (y := 1) (by rw [sndM_ne q0 t0 (pubC p0 g0 h0 (up S 0 1 0) t0) (by decide) (by decide) n0, pubC_ne p0 g0 h0 (up S 0 1 0) (by decide) t0]; exact hst) ?_
    refine lv_iconst (v := 1) hx hb d_M_advance_239 (by decide) ?_
    refine lv_iadd hx hb d_M_advance_240 ?_
    refine x_i (y := 2) (by decide) ?_
    refine va_put (D := (dC, dI)) (ci := 3) (v := .int 2) (ty := .int) (C := "DealtSecretModel") (T := T_M) (N := 24) hx hb hts i_M t_M t_M_ok n_M hown hK hP hD hS 0 rfl rfl 4 (by decide) (hts _ k_447) (fun _ h9 => h9) rfl (by decide +kernel) (rfl) (rfl) (Nat.le_of_ble_eq_true rfl) d_M_advance_241 (fun H locs hP hD hS => ?_)
    have hP : va_P (dC, dI) cls (wM Y cI cZ p0 q0 g0 h0 (up (sndM q0 t0 (pubC p0 g0 h0 (up S 0 1 0) t0) n0) 0 0 2)) H := by rw [← w_ms0]; exact hP
    have hD : va_D (w_A (wM Y cI cZ p0 q0 g0 h0 (S))) (wM Y cI cZ p0 q0 g0 h0 (up (sndM q0 t0 (pubC p0 g0 h0 (up S 0 1 0) t0) n0) 0 0 2)) := by rw [← w_ms0]; exact hD
    refine lv_aload_n hx hb d_M_advance_244 rfl (lv_at hl 1 rfl) ?_
    refine va_get (D := (dC, dI)) (ci := 3) (v := .int ((up (sndM q0 t0 (pubC p0 g0 h0 (up S 0 1 0) t0) n0) 0 0 2) 0 0)) (C := "DealtSecretModel") (T := T_M) (N := 24) hx hb hts i_M hown hK hP 0 rfl rfl 4 (by decide) (hts _ k_447) (fun _ h9 => h9) rfl d_M_advance_245 ?_
    refine x_i (y := 2) (up_at _ _ _ _) ?_
    exact wr_i hx hb hr hlk hP hS d_M_advance_248
  have loop : ∀ (n j : Nat) (H : Heap) (locs : List Loc) (ls : Array Slot), n0 + 1 ≤ j + n → j ≤ n0 → va_P (dC, dI) cls (wM Y cI cZ p0 q0 g0 h0 (up S 0 1 0)) H → va_D (w_A (wM Y cI cZ p0 q0 g0 h0 (S))) (wM Y cI cZ p0 q0 g0 h0 (up S 0 1 0)) → va_S (w_A (wM Y cI cZ p0 q0 g0 h0 (S))) s.heap H locs → lv_has ls 4 [(0, .ref (Y 0)), (1, .int (nI (mz_ct (fun i => S 5 (i + 1)) j))), (2, .int (mz_b (wlM p0 g0 h0 t0 S j))), (3, .int (nI (j + 1)))] → W p l e (headSpec ws_M_advance { frames := 4, cells := 0, slots := 0, locals := 95 }).room s m [.ref (Y 0)].toArray below meth c H locs 0 0 (MQ below (fun _ st o t => o = .returned (some (.int 2)) ∧ va_P (dC, dI) cls (wM Y cI cZ p0 q0 g0 h0 (up (sndM q0 t0 (pubC p0 g0 h0 (up S 0 1 0) t0) n0) 0 0 2)) t.heap ∧ va_F (w_A (wM Y cI cZ p0 q0 g0 h0 (S))) st t) [.ref (Y 0)].toArray s 0 0 (w_A (wM Y cI cZ p0 q0 g0 h0 (S)))) (F0 m 36 ls []) := by
    intro n
    induction n with
    | zero =>
      intro j H locs ls h1 h2
      omega
    | succ n ih =>
      intro j H locs ls h1 h2 hP hD hS hl
      refine lv_iload_n hx hb d_M_advance_36 rfl (lv_at hl 3 rfl) ?_
      refine lv_aload_n hx hb d_M_advance_37 rfl (lv_at hl 0 rfl) ?_
      refine va_get (D := (dC, dI)) (ci := 3) (v := .int ((up S 0 1 0) 0 2)) (C := "DealtSecretModel") (T := T_M) (N := 24) hx hb hts i_M hown hK hP 0 rfl rfl 6 (by decide) (hts _ k_449) (fun _ h9 => h9) rfl d_M_advance_38 ?_
      refine x_i (y := nI n0) (hn) ?_
      refine lv_icmp_gt (tgt := 115) hx hb d_M_advance_41 (by decide) (fun c41 => ?_) (fun c41 => ?_)
      · have hk : j = n0 := by
          have h5 : n0 < j + 1 := (nI_ltI (by omega) (by omega)).mp c41
          omega
        rw [hk] at hl
        exact k115 H locs ls hP hD hS (lv_sub hl [0, 1, 2, 3] rfl)
      · have hk : j < n0 := by
          rcases Nat.lt_or_ge j n0 with q | q
          · exact q
          · exact absurd (nI_lt (show n0 < j + 1 by omega) (by omega)) c41
        have hul := (hU j hk).lt
        have hvl := (hV j hk).lt
        refine lv_aload_n hx hb d_M_advance_44 rfl (lv_at hl 0 rfl) ?_
        refine va_get (D := (dC, dI)) (ci := 3) (v := .ref (Y 5)) (C := "DealtSecretModel") (T := T_M) (N := 24) hx hb hts i_M hown hK hP 0 rfl rfl 13 (by decide) (hts _ k_456) (fun _ h9 => h9) rfl d_M_advance_45 ?_
        refine lv_iload_n hx hb d_M_advance_48 rfl (lv_at hl 3 rfl) ?_
        refine va_zald hx hb hK hP 5 1 rfl rfl (vp_in_nI (by omega) (by decide)) d_M_advance_49 ?_
        refine x_i (y := (up S 0 1 0) 5 (j + 1)) (by rw [nI_clamp (by omega)]) ?_
        refine x_i (y := S 5 (j + 1)) (rfl) ?_
        refine lv_if_eq (tgt := 59) hx hb d_M_advance_50 (by decide) (fun c50 => ?_) (fun c50 => ?_)
        · refine lv_iload_n hx hb d_M_advance_59 rfl (lv_at hl 1 rfl) ?_
          refine lv_istore_n (lv' := [(1, .int (nI (mz_ct (fun i => S 5 (i + 1)) j))), (0, .ref (Y 0)), (2, .int (mz_b (wlM p0 g0 h0 t0 S j))), (3, .int (nI (j + 1)))]) hx hb d_M_advance_60 rfl hl (by decide) rfl (fun ls hl => ?_)
          refine lv_iload_n hx hb d_M_advance_61 rfl (lv_at hl 2 rfl) ?_
          refine lv_if_eq (tgt := 107) hx hb d_M_advance_62 (by decide) (fun c62 => ?_) (fun c62 => ?_)
          · refine lv_iconst (v := 0) hx hb d_M_advance_107 (by decide) ?_
            refine x_i (y := mz_b (wlM p0 g0 h0 t0 S (j + 1))) ((mz_bf (fun q => by first | exact mz_b0.mp c62 (wlM_s.mp q).1 | exact (wlM_s.mp q).2.elim c71 (fun z => z.1 c80) | exact (wlM_s.mp q).2.elim c71 (fun z => mz_b0.mp c100 z.2))).symm) ?_
            refine lv_istore_n (lv' := [(2, .int (mz_b (wlM p0 g0 h0 t0 S (j + 1)))), (1, .int (nI (mz_ct (fun i => S 5 (i + 1)) j))), (0, .ref (Y 0)), (3, .int (nI (j + 1)))]) hx hb d_M_advance_108 rfl hl (by decide) rfl (fun ls hl => ?_)
            refine lv_iinc (v := (nI (j + 1 + 1))) (lv' := [(3, .int (nI (j + 1 + 1))), (2, .int (mz_b (wlM p0 g0 h0 t0 S (j + 1)))), (1, .int (nI (mz_ct (fun i => S 5 (i + 1)) j))), (0, .ref (Y 0))]) hx hb d_M_advance_109 hl (k := 3) rfl (nI_1 (j + 1)) (by decide) rfl (fun ls hl => ?_)
            refine lv_goto (tgt := 36) hx hb d_M_advance_112 (by decide) ?_
            exact ih (j + 1) H locs ls (by omega) (by omega) hP hD hS (by rw [mz_ct_0 (f := (fun i => S 5 (i + 1))) c50]; exact lv_sub hl [3, 2, 1, 0] rfl)
          · refine lv_aload_n hx hb d_M_advance_65 rfl (lv_at hl 1 rfl) ?_
            refine va_get (D := (dC, dI)) (ci := 3) (v := .ref (Y 5)) (C := "DealtSecretModel") (T := T_M) (N := 24) hx hb hts i_M hown hK hP 0 rfl rfl 13 (by decide) (hts _ k_456) (fun _ h9 => h9) rfl d_M_advance_66 ?_
            refine lv_iload_n hx hb d_M_advance_69 rfl (lv_at hl 3 rfl) ?_
            refine va_zald hx hb hK hP 5 1 rfl rfl (vp_in_nI (by omega) (by decide)) d_M_advance_70 ?_
            refine x_i (y := (up S 0 1 0) 5 (j + 1)) (by rw [nI_clamp (by omega)]) ?_
            refine x_i (y := S 5 (j + 1)) (rfl) ?_
            refine lv_if_eq (tgt := 103) hx hb d_M_advance_71 (by decide) (fun c71 => ?_) (fun c71 => ?_)
            · refine lv_iconst (v := 1) hx hb d_M_advance_103 (by decide) ?_
              refine x_i (y := mz_b (wlM p0 g0 h0 t0 S (j + 1))) ((mz_bt (wlM_s.mpr ⟨Classical.not_not.mp (fun z => c62 (mz_bf z)), by first | exact Or.inl c71 | exact Or.inr ⟨c80, Classical.not_not.mp (fun z => c100 (mz_bf z))⟩⟩)).symm) ?_
              refine lv_goto (tgt := 108) hx hb d_M_advance_104 (by decide) ?_
              refine lv_istore_n (lv' := [(2, .int (mz_b (wlM p0 g0 h0 t0 S (j + 1)))), (1, .int (nI (mz_ct (fun i => S 5 (i + 1)) j))), (0, .ref (Y 0)), (3, .int (nI (j + 1)))]) hx hb d_M_advance_108 rfl hl (by decide) rfl (fun ls hl => ?_)
              refine lv_iinc (v := (nI (j + 1 + 1))) (lv' := [(3, .int (nI (j + 1 + 1))), (2, .int (mz_b (wlM p0 g0 h0 t0 S (j + 1)))), (1, .int (nI (mz_ct (fun i => S 5 (i + 1)) j))), (0, .ref (Y 0))]) hx hb d_M_advance_109 hl (k := 3) rfl (nI_1 (j + 1)) (by decide) rfl (fun ls hl => ?_)
              refine lv_goto (tgt := 36) hx hb d_M_advance_112 (by decide) ?_
              exact ih (j + 1) H locs ls (by omega) (by omega) hP hD hS (by rw [mz_ct_0 (f := (fun i => S 5 (i + 1))) c50]; exact lv_sub hl [3, 2, 1, 0] rfl)
            · refine lv_aload_n hx hb d_M_advance_74 rfl (lv_at hl 1 rfl) ?_
              refine va_get (D := (dC, dI)) (ci := 3) (v := .ref (Y 6)) (C := "DealtSecretModel") (T := T_M) (N := 24) hx hb hts i_M hown hK hP 0 rfl rfl 14 (by decide) (hts _ k_457) (fun _ h9 => h9) rfl d_M_advance_75 ?_
              refine lv_iload_n hx hb d_M_advance_78 rfl (lv_at hl 3 rfl) ?_
              refine va_zald hx hb hK hP 6 1 rfl rfl (vp_in_nI (by omega) (by decide)) d_M_advance_79 ?_
              refine x_i (y := (up S 0 1 0) 6 (j + 1)) (by rw [nI_clamp (by omega)]) ?_
              refine x_i (y := S 6 (j + 1)) (rfl) ?_
              refine lv_if_eq (tgt := 107) hx hb d_M_advance_80 (by decide) (fun c80 => ?_) (fun c80 => ?_)
              · refine lv_iconst (v := 0) hx hb d_M_advance_107 (by decide) ?_
                refine x_i (y := mz_b (wlM p0 g0 h0 t0 S (j + 1))) ((mz_bf (fun q => by first | exact mz_b0.mp c62 (wlM_s.mp q).1 | exact (wlM_s.mp q).2.elim c71 (fun z => z.1 c80) | exact (wlM_s.mp q).2.elim c71 (fun z => mz_b0.mp c100 z.2))).symm) ?_
                refine lv_istore_n (lv' := [(2, .int (mz_b (wlM p0 g0 h0 t0 S (j + 1)))), (1, .int (nI (mz_ct (fun i => S 5 (i + 1)) j))), (0, .ref (Y 0)), (3, .int (nI (j + 1)))]) hx hb d_M_advance_108 rfl hl (by decide) rfl (fun ls hl => ?_)
                refine lv_iinc (v := (nI (j + 1 + 1))) (lv' := [(3, .int (nI (j + 1 + 1))), (2, .int (mz_b (wlM p0 g0 h0 t0 S (j + 1)))), (1, .int (nI (mz_ct (fun i => S 5 (i + 1)) j))), (0, .ref (Y 0))]) hx hb d_M_advance_109 hl (k := 3) rfl (nI_1 (j + 1)) (by decide) rfl (fun ls hl => ?_)
                refine lv_goto (tgt := 36) hx hb d_M_advance_112 (by decide) ?_
                exact ih (j + 1) H locs ls (by omega) (by omega) hP hD hS (by rw [mz_ct_0 (f := (fun i => S 5 (i + 1))) c50]; exact lv_sub hl [3, 2, 1, 0] rfl)
              · refine lv_aload_n hx hb d_M_advance_83 rfl (lv_at hl 1 rfl) ?_
                refine lv_iload_n hx hb d_M_advance_84 rfl (lv_at hl 3 rfl) ?_
                refine lv_aload_n hx hb d_M_advance_85 rfl (lv_at hl 1 rfl) ?_
                refine va_get (D := (dC, dI)) (ci := 3) (v := .ref (Y 7)) (C := "DealtSecretModel") (T := T_M) (N := 24) hx hb hts i_M hown hK hP 0 rfl rfl 15 (by decide) (hts _ k_458) (fun _ h9 => h9) rfl d_M_advance_86 ?_
                refine lv_iload_n hx hb d_M_advance_89 rfl (lv_at hl 3 rfl) ?_
                refine va_iald hx hb hK hP 7 0 rfl rfl (vp_in_nI (by omega) (by decide)) d_M_advance_90 ?_
                refine x_i (y := (up S 0 1 0) 7 (j + 1)) (by rw [nI_clamp (by omega)]) ?_
                refine x_i (y := nI (nn (S 7 (j + 1)))) ((hU j hk).eq) ?_
                refine lv_aload_n hx hb d_M_advance_91 rfl (lv_at hl 1 rfl) ?_
                refine va_get (D := (dC, dI)) (ci := 3) (v := .ref (Y 8)) (C := "DealtSecretModel") (T := T_M) (N := 24) hx hb hts i_M hown hK hP 0 rfl rfl 16 (by decide) (hts _ k_459) (fun _ h9 => h9) rfl d_M_advance_92 ?_
                refine lv_iload_n hx hb d_M_advance_95 rfl (lv_at hl 3 rfl) ?_
                refine va_iald hx hb hK hP 8 0 rfl rfl (vp_in_nI (by omega) (by decide)) d_M_advance_96 ?_
                refine x_i (y := (up S 0 1 0) 8 (j + 1)) (by rw [nI_clamp (by omega)]) ?_
                refine x_i (y := nI (nn (S 8 (j + 1)))) ((hV j hk).eq) ?_
                refine ro_V (As := [.int (nI (j + 1)), .int (nI (nn (S 7 (j + 1)))), .int (nI (nn (S 8 (j + 1))))]) (rest := []) (b := (Y 0)) ⟨hx, hb, hml, hown, hts⟩ (c_M_fit l dC dI Y cI cZ p0 q0 g0 h0 (up S 0 1 0) (j + 1) (nn (S 7 (j + 1))) (nn (S 8 (j + 1))) t0 ok (by omega) (by omega) (by omega) ht ht7 hC) (cwV 3 hts (al_V k_542 k_543 k_651 k_4 k_544) rfl rfl rfl (by decide +kernel) ⟨Nat.le_of_ble_eq_true rfl, Nat.le_of_ble_eq_true rfl⟩) (fun U g mk a h => ⟨h.1, va_K.moved (u := U) (U := U.calling g mk a) (Vm.Alike.refl U.vm) h.2⟩) (va_recv hK hP (ci := 3) (q0 := 0) rfl rfl) (fun U hU hW => ⟨by rw [hU]; exact hP, va_K.moved hW.alike hK⟩) rfl hl.1 rfl (lv_room (Nat.le_of_ble_eq_true rfl)) d_M_advance_97 ⟨Nat.zero_le _, Nat.zero_le _⟩ ?_
                refine lv_if_eq (tgt := 107) hx hb d_M_advance_100 (by decide) (fun c100 => ?_) (fun c100 => ?_)
                · refine lv_iconst (v := 0) hx hb d_M_advance_107 (by decide) ?_
                  refine x_i (y := mz_b (wlM p0 g0 h0 t0 S (j + 1))) ((mz_bf (fun q => by first | exact mz_b0.mp c62 (wlM_s.mp q).1 | exact (wlM_s.mp q).2.elim c71 (fun z => z.1 c80) | exact (wlM_s.mp q).2.elim c71 (fun z => mz_b0.mp c100 z.2))).symm) ?_
                  refine lv_istore_n (lv' := [(2, .int (mz_b (wlM p0 g0 h0 t0 S (j + 1)))), (1, .int (nI (mz_ct (fun i => S 5 (i + 1)) j))), (0, .ref (Y 0)), (3, .int (nI (j + 1)))]) hx hb d_M_advance_108 rfl hl (by decide) rfl (fun ls hl => ?_)
                  refine lv_iinc (v := (nI (j + 1 + 1))) (lv' := [(3, .int (nI (j + 1 + 1))), (2, .int (mz_b (wlM p0 g0 h0 t0 S (j + 1)))), (1, .int (nI (mz_ct (fun i => S 5 (i + 1)) j))), (0, .ref (Y 0))]) hx hb d_M_advance_109 hl (k := 3) rfl (nI_1 (j + 1)) (by decide) rfl (fun ls hl => ?_)
                  refine lv_goto (tgt := 36) hx hb d_M_advance_112 (by decide) ?_
                  exact ih (j + 1) H locs ls (by omega) (by omega) hP hD hS (by rw [mz_ct_0 (f := (fun i => S 5 (i + 1))) c50]; exact lv_sub hl [3, 2, 1, 0] rfl)
                · refine lv_iconst (v := 1) hx hb d_M_advance_103 (by decide) ?_
                  refine x_i (y := mz_b (wlM p0 g0 h0 t0 S (j + 1))) ((mz_bt (wlM_s.mpr ⟨Classical.not_not.mp (fun z => c62 (mz_bf z)), by first | exact Or.inl c71 | exact Or.inr ⟨c80, Classical.not_not.mp (fun z => c100 (mz_bf z))⟩⟩)).symm) ?_
                  refine lv_goto (tgt := 108) hx hb d_M_advance_104 (by decide) ?_
                  refine lv_istore_n (lv' := [(2, .int (mz_b (wlM p0 g0 h0 t0 S (j + 1)))), (1, .int (nI (mz_ct (fun i => S 5 (i + 1)) j))), (0, .ref (Y 0)), (3, .int (nI (j + 1)))]) hx hb d_M_advance_108 rfl hl (by decide) rfl (fun ls hl => ?_)
                  refine lv_iinc (v := (nI (j + 1 + 1))) (lv' := [(3, .int (nI (j + 1 + 1))), (2, .int (mz_b (wlM p0 g0 h0 t0 S (j + 1)))), (1, .int (nI (mz_ct (fun i => S 5 (i + 1)) j))), (0, .ref (Y 0))]) hx hb d_M_advance_109 hl (k := 3) rfl (nI_1 (j + 1)) (by decide) rfl (fun ls hl => ?_)
                  refine lv_goto (tgt := 36) hx hb d_M_advance_112 (by decide) ?_
                  exact ih (j + 1) H locs ls (by omega) (by omega) hP hD hS (by rw [mz_ct_0 (f := (fun i => S 5 (i + 1))) c50]; exact lv_sub hl [3, 2, 1, 0] rfl)
        · refine lv_iload_n hx hb d_M_advance_53 rfl (lv_at hl 1 rfl) ?_
          refine lv_iconst (v := 1) hx hb d_M_advance_54 (by decide) ?_
          refine lv_iadd hx hb d_M_advance_55 ?_
          refine x_i (y := nI (mz_ct (fun i => S 5 (i + 1)) (j + 1))) ((nI_1 _).trans (by rw [mz_ct_1 (f := (fun i => S 5 (i + 1))) c50])) ?_
          refine lv_goto (tgt := 60) hx hb d_M_advance_56 (by decide) ?_
          refine lv_istore_n (lv' := [(1, .int (nI (mz_ct (fun i => S 5 (i + 1)) (j + 1)))), (0, .ref (Y 0)), (2, .int (mz_b (wlM p0 g0 h0 t0 S j))), (3, .int (nI (j + 1)))]) hx hb d_M_advance_60 rfl hl (by decide) rfl (fun ls hl => ?_)
          refine lv_iload_n hx hb d_M_advance_61 rfl (lv_at hl 2 rfl) ?_
          refine lv_if_eq (tgt := 107) hx hb d_M_advance_62 (by decide) (fun c62 => ?_) (fun c62 => ?_)
          · refine lv_iconst (v := 0) hx hb d_M_advance_107 (by decide) ?_
            refine x_i (y := mz_b (wlM p0 g0 h0 t0 S (j + 1))) ((mz_bf (fun q => by first | exact mz_b0.mp c62 (wlM_s.mp q).1 | exact (wlM_s.mp q).2.elim c71 (fun z => z.1 c80) | exact (wlM_s.mp q).2.elim c71 (fun z => mz_b0.mp c100 z.2))).symm) ?_
            refine lv_istore_n (lv' := [(2, .int (mz_b (wlM p0 g0 h0 t0 S (j + 1)))), (1, .int (nI (mz_ct (fun i => S 5 (i + 1)) (j + 1)))), (0, .ref (Y 0)), (3, .int (nI (j + 1)))]) hx hb d_M_advance_108 rfl hl (by decide) rfl (fun ls hl => ?_)
            refine lv_iinc (v := (nI (j + 1 + 1))) (lv' := [(3, .int (nI (j + 1 + 1))), (2, .int (mz_b (wlM p0 g0 h0 t0 S (j + 1)))), (1, .int (nI (mz_ct (fun i => S 5 (i + 1)) (j + 1)))), (0, .ref (Y 0))]) hx hb d_M_advance_109 hl (k := 3) rfl (nI_1 (j + 1)) (by decide) rfl (fun ls hl => ?_)
            refine lv_goto (tgt := 36) hx hb d_M_advance_112 (by decide) ?_
            exact ih (j + 1) H locs ls (by omega) (by omega) hP hD hS (lv_sub hl [3, 2, 1, 0] rfl)
          · refine lv_aload_n hx hb d_M_advance_65 rfl (lv_at hl 1 rfl) ?_
            refine va_get (D := (dC, dI)) (ci := 3) (v := .ref (Y 5)) (C := "DealtSecretModel") (T := T_M) (N := 24) hx hb hts i_M hown hK hP 0 rfl rfl 13 (by decide) (hts _ k_456) (fun _ h9 => h9) rfl d_M_advance_66 ?_
            refine lv_iload_n hx hb d_M_advance_69 rfl (lv_at hl 3 rfl) ?_
            refine va_zald hx hb hK hP 5 1 rfl rfl (vp_in_nI (by omega) (by decide)) d_M_advance_70 ?_
            refine x_i (y := (up S 0 1 0) 5 (j + 1)) (by rw [nI_clamp (by omega)]) ?_
            refine x_i (y := S 5 (j + 1)) (rfl) ?_
            refine lv_if_eq (tgt := 103) hx hb d_M_advance_71 (by decide) (fun c71 => ?_) (fun c71 => ?_)
            · refine lv_iconst (v := 1) hx hb d_M_advance_103 (by decide) ?_
              refine x_i (y := mz_b (wlM p0 g0 h0 t0 S (j + 1))) ((mz_bt (wlM_s.mpr ⟨Classical.not_not.mp (fun z => c62 (mz_bf z)), by first | exact Or.inl c71 | exact Or.inr ⟨c80, Classical.not_not.mp (fun z => c100 (mz_bf z))⟩⟩)).symm) ?_
              refine lv_goto (tgt := 108) hx hb d_M_advance_104 (by decide) ?_
              refine lv_istore_n (lv' := [(2, .int (mz_b (wlM p0 g0 h0 t0 S (j + 1)))), (1, .int (nI (mz_ct (fun i => S 5 (i + 1)) (j + 1)))), (0, .ref (Y 0)), (3, .int (nI (j + 1)))]) hx hb d_M_advance_108 rfl hl (by decide) rfl (fun ls hl => ?_)
              refine lv_iinc (v := (nI (j + 1 + 1))) (lv' := [(3, .int (nI (j + 1 + 1))), (2, .int (mz_b (wlM p0 g0 h0 t0 S (j + 1)))), (1, .int (nI (mz_ct (fun i => S 5 (i + 1)) (j + 1)))), (0, .ref (Y 0))]) hx hb d_M_advance_109 hl (k := 3) rfl (nI_1 (j + 1)) (by decide) rfl (fun ls hl => ?_)
              refine lv_goto (tgt := 36) hx hb d_M_advance_112 (by decide) ?_
              exact ih (j + 1) H locs ls (by omega) (by omega) hP hD hS (lv_sub hl [3, 2, 1, 0] rfl)
            · refine lv_aload_n hx hb d_M_advance_74 rfl (lv_at hl 1 rfl) ?_
              refine va_get (D := (dC, dI)) (ci := 3) (v := .ref (Y 6)) (C := "DealtSecretModel") (T := T_M) (N := 24) hx hb hts i_M hown hK hP 0 rfl rfl 14 (by decide) (hts _ k_457) (fun _ h9 => h9) rfl d_M_advance_75 ?_
              refine lv_iload_n hx hb d_M_advance_78 rfl (lv_at hl 3 rfl) ?_
              refine va_zald hx hb hK hP 6 1 rfl rfl (vp_in_nI (by omega) (by decide)) d_M_advance_79 ?_
              refine x_i (y := (up S 0 1 0) 6 (j + 1)) (by rw [nI_clamp (by omega)]) ?_
              refine x_i (y := S 6 (j + 1)) (rfl) ?_
              refine lv_if_eq (tgt := 107) hx hb d_M_advance_80 (by decide) (fun c80 => ?_) (fun c80 => ?_)
              · refine lv_iconst (v := 0) hx hb d_M_advance_107 (by decide) ?_
                refine x_i (y := mz_b (wlM p0 g0 h0 t0 S (j + 1))) ((mz_bf (fun q => by first | exact mz_b0.mp c62 (wlM_s.mp q).1 | exact (wlM_s.mp q).2.elim c71 (fun z => z.1 c80) | exact (wlM_s.mp q).2.elim c71 (fun z => mz_b0.mp c100 z.2))).symm) ?_
                refine lv_istore_n (lv' := [(2, .int (mz_b (wlM p0 g0 h0 t0 S (j + 1)))), (1, .int (nI (mz_ct (fun i => S 5 (i + 1)) (j + 1)))), (0, .ref (Y 0)), (3, .int (nI (j + 1)))]) hx hb d_M_advance_108 rfl hl (by decide) rfl (fun ls hl => ?_)
                refine lv_iinc (v := (nI (j + 1 + 1))) (lv' := [(3, .int (nI (j + 1 + 1))), (2, .int (mz_b (wlM p0 g0 h0 t0 S (j + 1)))), (1, .int (nI (mz_ct (fun i => S 5 (i + 1)) (j + 1)))), (0, .ref (Y 0))]) hx hb d_M_advance_109 hl (k := 3) rfl (nI_1 (j + 1)) (by decide) rfl (fun ls hl => ?_)
                refine lv_goto (tgt := 36) hx hb d_M_advance_112 (by decide) ?_
                exact ih (j + 1) H locs ls (by omega) (by omega) hP hD hS (lv_sub hl [3, 2, 1, 0] rfl)
              · refine lv_aload_n hx hb d_M_advance_83 rfl (lv_at hl 1 rfl) ?_
                refine lv_iload_n hx hb d_M_advance_84 rfl (lv_at hl 3 rfl) ?_
                refine lv_aload_n hx hb d_M_advance_85 rfl (lv_at hl 1 rfl) ?_
                refine va_get (D := (dC, dI)) (ci := 3) (v := .ref (Y 7)) (C := "DealtSecretModel") (T := T_M) (N := 24) hx hb hts i_M hown hK hP 0 rfl rfl 15 (by decide) (hts _ k_458) (fun _ h9 => h9) rfl d_M_advance_86 ?_
                refine lv_iload_n hx hb d_M_advance_89 rfl (lv_at hl 3 rfl) ?_
                refine va_iald hx hb hK hP 7 0 rfl rfl (vp_in_nI (by omega) (by decide)) d_M_advance_90 ?_
                refine x_i (y := (up S 0 1 0) 7 (j + 1)) (by rw [nI_clamp (by omega)]) ?_
                refine x_i (y := nI (nn (S 7 (j + 1)))) ((hU j hk).eq) ?_
                refine lv_aload_n hx hb d_M_advance_91 rfl (lv_at hl 1 rfl) ?_
                refine va_get (D := (dC, dI)) (ci := 3) (v := .ref (Y 8)) (C := "DealtSecretModel") (T := T_M) (N := 24) hx hb hts i_M hown hK hP 0 rfl rfl 16 (by decide) (hts _ k_459) (fun _ h9 => h9) rfl d_M_advance_92 ?_
                refine lv_iload_n hx hb d_M_advance_95 rfl (lv_at hl 3 rfl) ?_
                refine va_iald hx hb hK hP 8 0 rfl rfl (vp_in_nI (by omega) (by decide)) d_M_advance_96 ?_
                refine x_i (y := (up S 0 1 0) 8 (j + 1)) (by rw [nI_clamp (by omega)]) ?_
                refine x_i (y := nI (nn (S 8 (j + 1)))) ((hV j hk).eq) ?_
                refine ro_V (As := [.int (nI (j + 1)), .int (nI (nn (S 7 (j + 1)))), .int (nI (nn (S 8 (j + 1))))]) (rest := []) (b := (Y 0)) ⟨hx, hb, hml, hown, hts⟩ (c_M_fit l dC dI Y cI cZ p0 q0 g0 h0 (up S 0 1 0) (j + 1) (nn (S 7 (j + 1))) (nn (S 8 (j + 1))) t0 ok (by omega) (by omega) (by omega) ht ht7 hC) (cwV 3 hts (al_V k_542 k_543 k_651 k_4 k_544) rfl rfl rfl (by decide +kernel) ⟨Nat.le_of_ble_eq_true rfl, Nat.le_of_ble_eq_true rfl⟩) (fun U g mk a h => ⟨h.1, va_K.moved (u := U) (U := U.calling g mk a) (Vm.Alike.refl U.vm) h.2⟩) (va_recv hK hP (ci := 3) (q0 := 0) rfl rfl) (fun U hU hW => ⟨by rw [hU]; exact hP, va_K.moved hW.alike hK⟩) rfl hl.1 rfl (lv_room (Nat.le_of_ble_eq_true rfl)) d_M_advance_97 ⟨Nat.zero_le _, Nat.zero_le _⟩ ?_
                refine lv_if_eq (tgt := 107) hx hb d_M_advance_100 (by decide) (fun c100 => ?_) (fun c100 => ?_)
                · refine lv_iconst (v := 0) hx hb d_M_advance_107 (by decide) ?_
                  refine x_i (y := mz_b (wlM p0 g0 h0 t0 S (j + 1))) ((mz_bf (fun q => by first | exact mz_b0.mp c62 (wlM_s.mp q).1 | exact (wlM_s.mp q).2.elim c71 (fun z => z.1 c80) | exact (wlM_s.mp q).2.elim c71 (fun z => mz_b0.mp c100 z.2))).symm) ?_
                  refine lv_istore_n (lv' := [(2, .int (mz_b (wlM p0 g0 h0 t0 S (j + 1)))), (1, .int (nI (mz_ct (fun i => S 5 (i + 1)) (j + 1)))), (0, .ref (Y 0)), (3, .int (nI (j + 1)))]) hx hb d_M_advance_108 rfl hl (by decide) rfl (fun ls hl => ?_)
                  refine lv_iinc (v := (nI (j + 1 + 1))) (lv' := [(3, .int (nI (j + 1 + 1))), (2, .int (mz_b (wlM p0 g0 h0 t0 S (j + 1)))), (1, .int (nI (mz_ct (fun i => S 5 (i + 1)) (j + 1)))), (0, .ref (Y 0))]) hx hb d_M_advance_109 hl (k := 3) rfl (nI_1 (j + 1)) (by decide) rfl (fun ls hl => ?_)
                  refine lv_goto (tgt := 36) hx hb d_M_advance_112 (by decide) ?_
                  exact ih (j + 1) H locs ls (by omega) (by omega) hP hD hS (lv_sub hl [3, 2, 1, 0] rfl)
                · refine lv_iconst (v := 1) hx hb d_M_advance_103 (by decide) ?_
                  refine x_i (y := mz_b (wlM p0 g0 h0 t0 S (j + 1))) ((mz_bt (wlM_s.mpr ⟨Classical.not_not.mp (fun z => c62 (mz_bf z)), by first | exact Or.inl c71 | exact Or.inr ⟨c80, Classical.not_not.mp (fun z => c100 (mz_bf z))⟩⟩)).symm) ?_
                  refine lv_goto (tgt := 108) hx hb d_M_advance_104 (by decide) ?_
                  refine lv_istore_n (lv' := [(2, .int (mz_b (wlM p0 g0 h0 t0 S (j + 1)))), (1, .int (nI (mz_ct (fun i => S 5 (i + 1)) (j + 1)))), (0, .ref (Y 0)), (3, .int (nI (j + 1)))]) hx hb d_M_advance_108 rfl hl (by decide) rfl (fun ls hl => ?_)
                  refine lv_iinc (v := (nI (j + 1 + 1))) (lv' := [(3, .int (nI (j + 1 + 1))), (2, .int (mz_b (wlM p0 g0 h0 t0 S (j + 1)))), (1, .int (nI (mz_ct (fun i => S 5 (i + 1)) (j + 1)))), (0, .ref (Y 0))]) hx hb d_M_advance_109 hl (k := 3) rfl (nI_1 (j + 1)) (by decide) rfl (fun ls hl => ?_)
                  refine lv_goto (tgt := 36) hx hb d_M_advance_112 (by decide) ?_
                  exact ih (j + 1) H locs ls (by omega) (by omega) hP hD hS (lv_sub hl [3, 2, 1, 0] rfl)
  refine lv_aload_n hx hb d_M_advance_0 rfl (lv_at hl 0 rfl) ?_
  refine lv_aload_n hx hb d_M_advance_1 rfl (lv_at hl 0 rfl) ?_
  refine va_get (D := (dC, dI)) (ci := 3) (v := .int (S 0 0)) (C := "DealtSecretModel") (T := T_M) (N := 24) hx hb hts i_M hown hK hP 0 rfl rfl 4 (by decide) (hts _ k_447) (fun _ h9 => h9) rfl d_M_advance_2 ?_
  refine x_i (y := 1) (hst) ?_
  refine lv_if_eq (tgt := 16) hx hb d_M_advance_5 (by decide) (fun c_ => absurd c_ (by decide)) (fun _ => ?_)
  refine lv_aload_n hx hb d_M_advance_8 rfl (lv_at hl 0 rfl) ?_
  refine va_get (D := (dC, dI)) (ci := 3) (v := .int (S 0 0)) (C := "DealtSecretModel") (T := T_M) (N := 24) hx hb hts i_M hown hK hP 0 rfl rfl 4 (by decide) (hts _ k_447) (fun _ h9 => h9) rfl d_M_advance_9 ?_
  refine x_i (y := 1) (hst) ?_
  refine lv_iconst (v := 5) hx hb d_M_advance_12 (by decide) ?_
  refine lv_icmp_lt (tgt := 20) hx hb d_M_advance_13 (by decide) (fun _ => ?_) (fun c_ => absurd (by decide) c_)
  refine lv_iconst (v := 0) hx hb d_M_advance_20 (by decide) ?_
  refine lv_iconst (v := 0) hx hb d_M_advance_21 (by decide) ?_
  refine wr_V (As := [.int 0, .int 0]) (rest := []) (b := (Y 0)) ⟨hx, hb, hml, hown, hts⟩ (c_M_refuses l dC dI Y cI cZ p0 q0 g0 h0 S 0 0 0 0 (by decide) (by decide)) (cwV 2 hts (al_V k_532 k_533 k_649 k_4 k_534) rfl rfl rfl (by decide +kernel) ⟨Nat.le_of_ble_eq_true rfl, Nat.le_of_ble_eq_true rfl⟩) (va_recv hK hP (ci := 3) (q0 := 0) rfl rfl) hP hK hD hS rfl hl.1 rfl (lv_room (Nat.le_of_ble_eq_true rfl)) d_M_advance_22 ⟨Nat.zero_le _, Nat.zero_le _⟩ (fun H locs hP _ _ hS => ?_)
  have hD := w_addr hD (w_adM S (up S 0 1 0))
  refine lv_if_eq (tgt := 30) hx hb d_M_advance_25 (by decide) (fun _ => ?_) (fun c_ => absurd (by decide) c_)
  refine lv_iconst (v := (nI (mz_ct (fun i => S 5 (i + 1)) 0))) hx hb d_M_advance_30 (by rfl) ?_
  refine lv_istore_n (lv' := [(1, .int (nI (mz_ct (fun i => S 5 (i + 1)) 0))), (0, .ref (Y 0))]) hx hb d_M_advance_31 rfl hl (by decide) rfl (fun ls hl => ?_)
  refine lv_iconst (v := 1) hx hb d_M_advance_32 (by decide) ?_
  refine x_i (y := mz_b (wlM p0 g0 h0 t0 S 0)) ((mz_bt (fun i hi => absurd hi (Nat.not_lt_zero i))).symm) ?_
  refine lv_istore_n (lv' := [(2, .int (mz_b (wlM p0 g0 h0 t0 S 0))), (1, .int (nI (mz_ct (fun i => S 5 (i + 1)) 0))), (0, .ref (Y 0))]) hx hb d_M_advance_33 rfl hl (by decide) rfl (fun ls hl => ?_)
  refine lv_iconst (v := (nI (0 + 1))) hx hb d_M_advance_34 (by decide) ?_
  refine lv_istore_n (lv' := [(3, .int (nI (0 + 1))), (2, .int (mz_b (wlM p0 g0 h0 t0 S 0))), (1, .int (nI (mz_ct (fun i => S 5 (i + 1)) 0))), (0, .ref (Y 0))]) hx hb d_M_advance_35 rfl hl (by decide) rfl (fun ls hl => ?_)
  exact loop (n0 + 1) 0 _ _ ls (by omega) (by omega) hP hD hS (lv_sub hl [3, 2, 1, 0] rfl)
set_option maxRecDepth 100000 in
set_option maxHeartbeats 4000000 in
/-- the reference's advance in stage 2 -/
theorem c_M_advance2 (l : Launch) (dC : Nat → ClassId) (dI : Nat → Nat → Nat) (Y : Nat → Nat) (cI cZ : ClassId) (p0 q0 g0 h0 : Nat) (S : Nat → Nat → Int32) (n0 t0 : Nat) (hst : S 0 0 = 2) (hn : S 0 2 = nI n0) (hn7 : n0 ≤ 7) (hU : ∀ j, j < n0 → okN (S 7 (j + 1)) q0) (hV : ∀ j, j < n0 → okN (S 8 (j + 1)) q0) (ht : S 0 3 = nI t0) (ht7 : t0 ≤ 7) (ok : okG p0 q0 g0 h0) (hC : ∀ k, k < t0 → okN (S 3 k) p0) : Wr l y_M_advance ws_M_advance 4 95 [.ref (Y 0)] (dC, dI) cls (tysM cI cZ) (wM Y cI cZ p0 q0 g0 h0 (S)) (wM Y cI cZ p0 q0 g0 h0 (up (raiM p0 g0 h0 t0 (up S 0 1 0) n0) 0 0 3)) (some (.int 3)) := by
  refine Met.ofW (cc := b_M_advance) (maxL := 4) (ret := (some .int)) (by decide) rfl ?_
  intro p e s m args below meth c s₁ B hml hv
  obtain ⟨rfl, hP, hK, hD0⟩ := hv
  have hx := B.exec
  have hb := B.bytes
  have hr := B.returns
  have hts : ∀ w ∈ AL, w.before ([.ref (Y 0)] : List Value).toArray s = true := fun w h => atoms_spec (ws := ws_M_advance) B.pre w (List.mem_cons_of_mem _ h)
  have hown : s.vm.findClass "DealtSecretModel" = some m.cls := findClass_of_methodNamed B.named
  have hlk := B.notSynchronized
  have hl := lv_entry ([.ref (Y 0)]) (n := 4) (Nat.le_of_ble_eq_true rfl)
  rw [lg_entry_eq]
  generalize (lg_sl ([.ref (Y 0)]) ++ List.replicate (4 - (lg_sl ([.ref (Y 0)])).length) Slot.unset).toArray = ls at hl ⊢
  have hl : lv_has ls 4 [(0, .ref (Y 0))] := hl
  have hD := w_self hD0
  have hS : va_S (w_A (wM Y cI cZ p0 q0 g0 h0 (S))) s.heap s.heap [] := va_S.rf
  obtain ⟨okp2, okp, okq2, okq, okg, okh⟩ := id ok
  have hct := mz_ct_le (fun i => S 5 (i + 1)) n0
  have loopR : ∀ (n j : Nat) (H : Heap) (locs : List Loc) (ls : Array Slot), n0 + 1 ≤ j + n → j ≤ n0 → va_P (dC, dI) cls (wM Y cI cZ p0 q0 g0 h0 (raiM p0 g0 h0 t0 (up S 0 1 0) j)) H → va_D (w_A (wM Y cI cZ p0 q0 g0 h0 (S))) (wM Y cI cZ p0 q0 g0 h0 (raiM p0 g0 h0 t0 (up S 0 1 0) j)) → va_S (w_A (wM Y cI cZ p0 q0 g0 h0 (S))) s.heap H locs → lv_has ls 4 [(0, .ref (Y 0)), (1, .int (nI (mz_ct (fun i => S 5 (i + 1)) n0))), (2, .int (mz_b (wlM p0 g0 h0 t0 S n0))), (3, .int (nI (j + 1)))] → W p l e (headSpec ws_M_advance { frames := 4, cells := 0, slots := 0, locals := 95 }).room s m [.ref (Y 0)].toArray below meth c H locs 0 0 (MQ below (fun _ st o t => o = .returned (some (.int 3)) ∧ va_P (dC, dI) cls (wM Y cI cZ p0 q0 g0 h0 (up (raiM p0 g0 h0 t0 (up S 0 1 0) n0) 0 0 3)) t.heap ∧ va_F (w_A (wM Y cI cZ p0 q0 g0 h0 (S))) st t) [.ref (Y 0)].toArray s 0 0 (w_A (wM Y cI cZ p0 q0 g0 h0 (S)))) (F0 m 137 ls []) := by
    intro n
    induction n with
    | zero =>
      intro j H locs ls h1 h2
      omega
    | succ n ih =>
      intro j H locs ls h1 h2 hP hD hS hl
      refine lv_iload_n hx hb d_M_advance_137 rfl (lv_at hl 3 rfl) ?_
      refine lv_aload_n hx hb d_M_advance_138 rfl (lv_at hl 0 rfl) ?_
      refine va_get (D := (dC, dI)) (ci := 3) (v := .int ((raiM p0 g0 h0 t0 (up S 0 1 0) j) 0 2)) (C := "DealtSecretModel") (T := T_M) (N := 24) hx hb hts i_M hown hK hP 0 rfl rfl 6 (by decide) (hts _ k_449) (fun _ h9 => h9) rfl d_M_advance_139 ?_
      refine x_i (y := nI n0) (by rw [raiM_ne p0 g0 h0 t0 (up S 0 1 0) (by decide) j]; exact hn) ?_
      refine lv_icmp_gt (tgt := 191) hx hb d_M_advance_142 (by decide) (fun c142 => ?_) (fun c142 => ?_)
      · have hk : j = n0 := by
          have h5 : n0 < j + 1 := (nI_ltI (by omega) (by omega)).mp c142
          omega
        rw [hk] at hP hD
        refine lv_aload_n hx hb d_M_advance_191 rfl (lv_at hl 0 rfl) ?_
        refine va_get (D := (dC, dI)) (ci := 3) (v := .int ((raiM p0 g0 h0 t0 (up S 0 1 0) n0) 0 0)) (C := "DealtSecretModel") (T := T_M) (N := 24) hx hb hts i_M hown hK hP 0 rfl rfl 4 (by decide) (hts _ k_447) (fun _ h9 => h9) rfl d_M_advance_192 ?_
        refine x_i (y := 2) (by rw [raiM_ne p0 g0 h0 t0 (up S 0 1 0) (by decide) n0]; exact hst) ?_
        refine lv_iconst (v := 3) hx hb d_M_advance_195 (by decide) ?_
        refine lv_icmp_ne (tgt := 207) hx hb d_M_advance_196 (by decide) (fun _ => ?_) (fun c_ => absurd c_ (show ¬ (2 : Int32) = 3 by decide))
        refine lv_aload_n hx hb d_M_advance_207 rfl (lv_at hl 0 rfl) ?_
        refine va_get (D := (dC, dI)) (ci := 3) (v := .int ((raiM p0 g0 h0 t0 (up S 0 1 0) n0) 0 0)) (C := "DealtSecretModel") (T := T_M) (N := 24) hx hb hts i_M hown hK hP 0 rfl rfl 4 (by decide) (hts _ k_447) (fun _ h9 => h9) rfl d_M_advance_208 ?_
        refine x_i (y := 2) (by rw [raiM_ne p0 g0 h0 t0 (up S 0 1 0) (by decide) n0]; exact hst) ?_
        refine lv_iconst (v := 4) hx hb d_M_advance_211 (by decide) ?_
        refine lv_icmp_ne (tgt := 223) hx hb d_M_advance_212 (by decide) (fun _ => ?_) (fun c_ => absurd c_ (show ¬ (2 : Int32) = 4 by decide))
        refine lv_iconst (v := 0) hx hb d_M_advance_223 (by decide) ?_
        refine lv_istore_n (lv' := [(3, .int 0), (0, .ref (Y 0)), (1, .int (nI (mz_ct (fun i => S 5 (i + 1)) n0))), (2, .int (mz_b (wlM p0 g0 h0 t0 S n0)))]) hx hb d_M_advance_224 rfl hl (by decide) rfl (fun ls hl => ?_)
        refine lv_aload_n hx hb d_M_advance_225 rfl (lv_at hl 1 rfl) ?_
        refine lv_iload_n hx hb d_M_advance_226 rfl (lv_at hl 0 rfl) ?_
        refine lv_if_eq (tgt := 235) hx hb d_M_advance_227 (by decide) (fun _ => ?_) (fun c_ => absurd (rfl) c_)
        refine lv_aload_n hx hb d_M_advance_235 rfl (lv_at hl 1 rfl) ?_
        refine va_get (D := (dC, dI)) (ci := 3) (v := .int ((raiM p0 g0 h0 t0 (up S 0 1 0) n0) 0 0)) (C := "DealtSecretModel") (T := T_M) (N := 24) hx hb hts i_M hown hK hP 0 rfl rfl 4 (by decide) (hts _ k_447) (fun _ h9 => h9) rfl d_M_advance_236 ?_
        refine x_i (y := 2) (by rw [raiM_ne p0 g0 h0 t0 (up S 0 1 0) (by decide) n0]; exact hst) ?_
        refine lv_iconst (v := 1) hx hb d_M_advance_239 (by decide) ?_
        refine lv_iadd hx hb d_M_advance_240 ?_
        refine x_i (y := 3) (by decide) ?_
        refine va_put (D := (dC, dI)) (ci := 3) (v := .int 3) (ty := .int) (C := "DealtSecretModel") (T := T_M) (N := 24) hx hb hts i_M t_M t_M_ok n_M hown hK hP hD hS 0 rfl rfl 4 (by decide) (hts _ k_447) (fun _ h9 => h9) rfl (by decide +kernel) (rfl) (rfl) (Nat.le_of_ble_eq_true rfl) d_M_advance_241 (fun H locs hP hD hS => ?_)
        have hP : va_P (dC, dI) cls (wM Y cI cZ p0 q0 g0 h0 (up (raiM p0 g0 h0 t0 (up S 0 1 0) n0) 0 0 3)) H := by rw [← w_ms0]; exact hP
        have hD : va_D (w_A (wM Y cI cZ p0 q0 g0 h0 (S))) (wM Y cI cZ p0 q0 g0 h0 (up (raiM p0 g0 h0 t0 (up S 0 1 0) n0) 0 0 3)) := by rw [← w_ms0]; exact hD
        refine lv_aload_n hx hb d_M_advance_244 rfl (lv_at hl 1 rfl) ?_
        refine va_get (D := (dC, dI)) (ci := 3) (v := .int ((up (raiM p0 g0 h0 t0 (up S 0 1 0) n0) 0 0 3) 0 0)) (C := "DealtSecretModel") (T := T_M) (N := 24) hx hb hts i_M hown hK hP 0 rfl rfl 4 (by decide) (hts _ k_447) (fun _ h9 => h9) rfl d_M_advance_245 ?_
        refine x_i (y := 3) (up_at _ _ _ _) ?_
        exact wr_i hx hb hr hlk hP hS d_M_advance_248
      · have hk : j < n0 := by
          rcases Nat.lt_or_ge j n0 with q | q
          · exact q
          · exact absurd (nI_lt (show n0 < j + 1 by omega) (by omega)) c142
        have hul := (hU j hk).lt
        have hvl := (hV j hk).lt
        refine lv_aload_n hx hb d_M_advance_145 rfl (lv_at hl 0 rfl) ?_
        refine va_get (D := (dC, dI)) (ci := 3) (v := .ref (Y 5)) (C := "DealtSecretModel") (T := T_M) (N := 24) hx hb hts i_M hown hK hP 0 rfl rfl 13 (by decide) (hts _ k_456) (fun _ h9 => h9) rfl d_M_advance_146 ?_
        refine lv_iload_n hx hb d_M_advance_149 rfl (lv_at hl 3 rfl) ?_
        refine lv_aload_n hx hb d_M_advance_150 rfl (lv_at hl 0 rfl) ?_
        refine va_get (D := (dC, dI)) (ci := 3) (v := .ref (Y 4)) (C := "DealtSecretModel") (T := T_M) (N := 24) hx hb hts i_M hown hK hP 0 rfl rfl 12 (by decide) (hts _ k_455) (fun _ h9 => h9) rfl d_M_advance_151 ?_
        refine lv_iload_n hx hb d_M_advance_154 rfl (lv_at hl 3 rfl) ?_
        refine va_zald hx hb hK hP 4 1 rfl rfl (vp_in_nI (by omega) (by decide)) d_M_advance_155 ?_
        refine x_i (y := (raiM p0 g0 h0 t0 (up S 0 1 0) j) 4 (j + 1)) (by rw [nI_clamp (by omega)]) ?_
        refine x_i (y := S 4 (j + 1)) (by rw [raiM_ne p0 g0 h0 t0 (up S 0 1 0) (by decide) j]; rfl) ?_
        refine lv_if_ne (tgt := 183) hx hb d_M_advance_156 (by decide) (fun c156 => ?_) (fun c156 => ?_)
        · refine lv_iconst (v := 0) hx hb d_M_advance_183 (by decide) ?_
          refine x_i (y := mz_b (S 4 (j + 1) = 0 ∧ ¬ (g0 ^ (nn (S 7 (j + 1))) % p0) * (h0 ^ (nn (S 8 (j + 1))) % p0) % p0 = mz_cs (fun k => nn (S 3 k)) (j + 1) t0 % p0)) ((mz_bf (fun q => by first | exact c156 q.1 | exact c176 (mz_bf q.2))).symm) ?_
          refine va_zast hx hb hK hP hD hS 5 1 rfl rfl (vp_in_nI (by omega) (by decide)) d_M_advance_184 (fun H locs hP hD hS => ?_)
          rw [nI_clamp (by omega), show vp_nar .boolean (mz_b (S 4 (j + 1) = 0 ∧ ¬ (g0 ^ (nn (S 7 (j + 1))) % p0) * (h0 ^ (nn (S 8 (j + 1))) % p0) % p0 = mz_cs (fun k => nn (S 3 k)) (j + 1) t0 % p0)) = (mz_b (S 4 (j + 1) = 0 ∧ ¬ (g0 ^ (nn (S 7 (j + 1))) % p0) * (h0 ^ (nn (S 8 (j + 1))) % p0) % p0 = mz_cs (fun k => nn (S 3 k)) (j + 1) t0 % p0)) from mz_bz _] at hP hD
          have hP : va_P (dC, dI) cls (wM Y cI cZ p0 q0 g0 h0 (up (raiM p0 g0 h0 t0 (up S 0 1 0) j) 5 (j + 1) (mz_b (S 4 (j + 1) = 0 ∧ ¬ (g0 ^ (nn (S 7 (j + 1))) % p0) * (h0 ^ (nn (S 8 (j + 1))) % p0) % p0 = mz_cs (fun k => nn (S 3 k)) (j + 1) t0 % p0)))) H := by rw [← w_ma5]; exact hP
          have hD : va_D (w_A (wM Y cI cZ p0 q0 g0 h0 (S))) (wM Y cI cZ p0 q0 g0 h0 (up (raiM p0 g0 h0 t0 (up S 0 1 0) j) 5 (j + 1) (mz_b (S 4 (j + 1) = 0 ∧ ¬ (g0 ^ (nn (S 7 (j + 1))) % p0) * (h0 ^ (nn (S 8 (j + 1))) % p0) % p0 = mz_cs (fun k => nn (S 3 k)) (j + 1) t0 % p0)))) := by rw [← w_ma5]; exact hD
          refine lv_iinc (v := (nI (j + 1 + 1))) (lv' := [(3, .int (nI (j + 1 + 1))), (0, .ref (Y 0)), (1, .int (nI (mz_ct (fun i => S 5 (i + 1)) n0))), (2, .int (mz_b (wlM p0 g0 h0 t0 S n0)))]) hx hb d_M_advance_185 hl (k := 3) rfl (nI_1 (j + 1)) (by decide) rfl (fun ls hl => ?_)
          refine lv_goto (tgt := 137) hx hb d_M_advance_188 (by decide) ?_
          exact ih (j + 1) H locs ls (by omega) (by omega) hP hD hS (lv_sub hl [1, 2, 3, 0] rfl)
        · refine lv_aload_n hx hb d_M_advance_159 rfl (lv_at hl 0 rfl) ?_
          refine lv_iload_n hx hb d_M_advance_160 rfl (lv_at hl 3 rfl) ?_
          refine lv_aload_n hx hb d_M_advance_161 rfl (lv_at hl 0 rfl) ?_
          refine va_get (D := (dC, dI)) (ci := 3) (v := .ref (Y 7)) (C := "DealtSecretModel") (T := T_M) (N := 24) hx hb hts i_M hown hK hP 0 rfl rfl 15 (by decide) (hts _ k_458) (fun _ h9 => h9) rfl d_M_advance_162 ?_
          refine lv_iload_n hx hb d_M_advance_165 rfl (lv_at hl 3 rfl) ?_
          refine va_iald hx hb hK hP 7 0 rfl rfl (vp_in_nI (by omega) (by decide)) d_M_advance_166 ?_
          refine x_i (y := (raiM p0 g0 h0 t0 (up S 0 1 0) j) 7 (j + 1)) (by rw [nI_clamp (by omega)]) ?_
          refine x_i (y := nI (nn (S 7 (j + 1)))) (by rw [raiM_ne p0 g0 h0 t0 (up S 0 1 0) (by decide) j]; exact (hU j hk).eq) ?_
          refine lv_aload_n hx hb d_M_advance_167 rfl (lv_at hl 0 rfl) ?_
          refine va_get (D := (dC, dI)) (ci := 3) (v := .ref (Y 8)) (C := "DealtSecretModel") (T := T_M) (N := 24) hx hb hts i_M hown hK hP 0 rfl rfl 16 (by decide) (hts _ k_459) (fun _ h9 => h9) rfl d_M_advance_168 ?_
          refine lv_iload_n hx hb d_M_advance_171 rfl (lv_at hl 3 rfl) ?_
          refine va_iald hx hb hK hP 8 0 rfl rfl (vp_in_nI (by omega) (by decide)) d_M_advance_172 ?_
          refine x_i (y := (raiM p0 g0 h0 t0 (up S 0 1 0) j) 8 (j + 1)) (by rw [nI_clamp (by omega)]) ?_
          refine x_i (y := nI (nn (S 8 (j + 1)))) (by rw [raiM_ne p0 g0 h0 t0 (up S 0 1 0) (by decide) j]; exact (hV j hk).eq) ?_
          refine ro_V (As := [.int (nI (j + 1)), .int (nI (nn (S 7 (j + 1)))), .int (nI (nn (S 8 (j + 1))))]) (rest := [.int (nI (j + 1)), .ref (Y 5)]) (b := (Y 0)) ⟨hx, hb, hml, hown, hts⟩ (c_M_fit l dC dI Y cI cZ p0 q0 g0 h0 (raiM p0 g0 h0 t0 (up S 0 1 0) j) (j + 1) (nn (S 7 (j + 1))) (nn (S 8 (j + 1))) t0 ok (by omega) (by omega) (by omega) (by rw [raiM_ne p0 g0 h0 t0 (up S 0 1 0) (by decide) j]; exact ht) ht7 (by rw [raiM_ne p0 g0 h0 t0 (up S 0 1 0) (by decide) j]; exact hC)) (cwV 3 hts (al_V k_542 k_543 k_651 k_4 k_544) rfl rfl rfl (by decide +kernel) ⟨Nat.le_of_ble_eq_true rfl, Nat.le_of_ble_eq_true rfl⟩) (fun U g mk a h => ⟨h.1, va_K.moved (u := U) (U := U.calling g mk a) (Vm.Alike.refl U.vm) h.2⟩) (va_recv hK hP (ci := 3) (q0 := 0) rfl rfl) (fun U hU hW => ⟨by rw [hU]; exact hP, va_K.moved hW.alike hK⟩) rfl hl.1 rfl (lv_room (Nat.le_of_ble_eq_true rfl)) d_M_advance_173 ⟨Nat.zero_le _, Nat.zero_le _⟩ ?_
          refine x_i (y := mz_b ((g0 ^ (nn (S 7 (j + 1))) % p0) * (h0 ^ (nn (S 8 (j + 1))) % p0) % p0 = mz_cs (fun k => nn (S 3 k)) (j + 1) t0 % p0)) (by rw [raiM_ne p0 g0 h0 t0 (up S 0 1 0) (by decide) j]; rfl) ?_
          refine lv_if_ne (tgt := 183) hx hb d_M_advance_176 (by decide) (fun c176 => ?_) (fun c176 => ?_)
          · refine lv_iconst (v := 0) hx hb d_M_advance_183 (by decide) ?_
            refine x_i (y := mz_b (S 4 (j + 1) = 0 ∧ ¬ (g0 ^ (nn (S 7 (j + 1))) % p0) * (h0 ^ (nn (S 8 (j + 1))) % p0) % p0 = mz_cs (fun k => nn (S 3 k)) (j + 1) t0 % p0)) ((mz_bf (fun q => by first | exact c156 q.1 | exact c176 (mz_bf q.2))).symm) ?_
            refine va_zast hx hb hK hP hD hS 5 1 rfl rfl (vp_in_nI (by omega) (by decide)) d_M_advance_184 (fun H locs hP hD hS => ?_)
            rw [nI_clamp (by omega), show vp_nar .boolean (mz_b (S 4 (j + 1) = 0 ∧ ¬ (g0 ^ (nn (S 7 (j + 1))) % p0) * (h0 ^ (nn (S 8 (j + 1))) % p0) % p0 = mz_cs (fun k => nn (S 3 k)) (j + 1) t0 % p0)) = (mz_b (S 4 (j + 1) = 0 ∧ ¬ (g0 ^ (nn (S 7 (j + 1))) % p0) * (h0 ^ (nn (S 8 (j + 1))) % p0) % p0 = mz_cs (fun k => nn (S 3 k)) (j + 1) t0 % p0)) from mz_bz _] at hP hD
            have hP : va_P (dC, dI) cls (wM Y cI cZ p0 q0 g0 h0 (up (raiM p0 g0 h0 t0 (up S 0 1 0) j) 5 (j + 1) (mz_b (S 4 (j + 1) = 0 ∧ ¬ (g0 ^ (nn (S 7 (j + 1))) % p0) * (h0 ^ (nn (S 8 (j + 1))) % p0) % p0 = mz_cs (fun k => nn (S 3 k)) (j + 1) t0 % p0)))) H := by rw [← w_ma5]; exact hP
            have hD : va_D (w_A (wM Y cI cZ p0 q0 g0 h0 (S))) (wM Y cI cZ p0 q0 g0 h0 (up (raiM p0 g0 h0 t0 (up S 0 1 0) j) 5 (j + 1) (mz_b (S 4 (j + 1) = 0 ∧ ¬ (g0 ^ (nn (S 7 (j + 1))) % p0) * (h0 ^ (nn (S 8 (j + 1))) % p0) % p0 = mz_cs (fun k => nn (S 3 k)) (j + 1) t0 % p0)))) := by rw [← w_ma5]; exact hD
            refine lv_iinc (v := (nI (j + 1 + 1))) (lv' := [(3, .int (nI (j + 1 + 1))), (0, .ref (Y 0)), (1, .int (nI (mz_ct (fun i => S 5 (i + 1)) n0))), (2, .int (mz_b (wlM p0 g0 h0 t0 S n0)))]) hx hb d_M_advance_185 hl (k := 3) rfl (nI_1 (j + 1)) (by decide) rfl (fun ls hl => ?_)
            refine lv_goto (tgt := 137) hx hb d_M_advance_188 (by decide) ?_
            exact ih (j + 1) H locs ls (by omega) (by omega) hP hD hS (lv_sub hl [1, 2, 3, 0] rfl)
          · refine lv_iconst (v := 1) hx hb d_M_advance_179 (by decide) ?_
            refine x_i (y := mz_b (S 4 (j + 1) = 0 ∧ ¬ (g0 ^ (nn (S 7 (j + 1))) % p0) * (h0 ^ (nn (S 8 (j + 1))) % p0) % p0 = mz_cs (fun k => nn (S 3 k)) (j + 1) t0 % p0)) ((mz_bt ⟨c156, mz_b0.mp c176⟩).symm) ?_
            refine lv_goto (tgt := 184) hx hb d_M_advance_180 (by decide) ?_
            refine va_zast hx hb hK hP hD hS 5 1 rfl rfl (vp_in_nI (by omega) (by decide)) d_M_advance_184 (fun H locs hP hD hS => ?_)
            rw [nI_clamp (by omega), show vp_nar .boolean (mz_b (S 4 (j + 1) = 0 ∧ ¬ (g0 ^ (nn (S 7 (j + 1))) % p0) * (h0 ^ (nn (S 8 (j + 1))) % p0) % p0 = mz_cs (fun k => nn (S 3 k)) (j + 1) t0 % p0)) = (mz_b (S 4 (j + 1) = 0 ∧ ¬ (g0 ^ (nn (S 7 (j + 1))) % p0) * (h0 ^ (nn (S 8 (j + 1))) % p0) % p0 = mz_cs (fun k => nn (S 3 k)) (j + 1) t0 % p0)) from mz_bz _] at hP hD
            have hP : va_P (dC, dI) cls (wM Y cI cZ p0 q0 g0 h0 (up (raiM p0 g0 h0 t0 (up S 0 1 0) j) 5 (j + 1) (mz_b (S 4 (j + 1) = 0 ∧ ¬ (g0 ^ (nn (S 7 (j + 1))) % p0) * (h0 ^ (nn (S 8 (j + 1))) % p0) % p0 = mz_cs (fun k => nn (S 3 k)) (j + 1) t0 % p0)))) H := by rw [← w_ma5]; exact hP
            have hD : va_D (w_A (wM Y cI cZ p0 q0 g0 h0 (S))) (wM Y cI cZ p0 q0 g0 h0 (up (raiM p0 g0 h0 t0 (up S 0 1 0) j) 5 (j + 1) (mz_b (S 4 (j + 1) = 0 ∧ ¬ (g0 ^ (nn (S 7 (j + 1))) % p0) * (h0 ^ (nn (S 8 (j + 1))) % p0) % p0 = mz_cs (fun k => nn (S 3 k)) (j + 1) t0 % p0)))) := by rw [← w_ma5]; exact hD
            refine lv_iinc (v := (nI (j + 1 + 1))) (lv' := [(3, .int (nI (j + 1 + 1))), (0, .ref (Y 0)), (1, .int (nI (mz_ct (fun i => S 5 (i + 1)) n0))), (2, .int (mz_b (wlM p0 g0 h0 t0 S n0)))]) hx hb d_M_advance_185 hl (k := 3) rfl (nI_1 (j + 1)) (by decide) rfl (fun ls hl => ?_)
            refine lv_goto (tgt := 137) hx hb d_M_advance_188 (by decide) ?_
            exact ih (j + 1) H locs ls (by omega) (by omega) hP hD hS (lv_sub hl [1, 2, 3, 0] rfl)
  have k115 : ∀ (H : Heap) (locs : List Loc) (ls : Array Slot), va_P (dC, dI) cls (wM Y cI cZ p0 q0 g0 h0 (up S 0 1 0)) H → va_D (w_A (wM Y cI cZ p0 q0 g0 h0 (S))) (wM Y cI cZ p0 q0 g0 h0 (up S 0 1 0)) → va_S (w_A (wM Y cI cZ p0 q0 g0 h0 (S))) s.heap H locs → lv_has ls 4 [(0, .ref (Y 0)), (1, .int (nI (mz_ct (fun i => S 5 (i + 1)) n0))), (2, .int (mz_b (wlM p0 g0 h0 t0 S n0))), (3, .int (nI (n0 + 1)))] → W p l e (headSpec ws_M_advance { frames := 4, cells := 0, slots := 0, locals := 95 }).room s m [.ref (Y 0)].toArray below meth c H locs 0 0 (MQ below (fun _ st o t => o = .returned (some (.int 3)) ∧ va_P (dC, dI) cls (wM Y cI cZ p0 q0 g0 h0 (up (raiM p0 g0 h0 t0 (up S 0 1 0) n0) 0 0 3)) t.heap ∧ va_F (w_A (wM Y cI cZ p0 q0 g0 h0 (S))) st t) [.ref (Y 0)].toArray s 0 0 (w_A (wM Y cI cZ p0 q0 g0 h0 (S)))) (F0 m 115 ls []) := by
    intro H locs ls hP hD hS hl
    refine lv_aload_n hx hb d_M_advance_115 rfl (lv_at hl 0 rfl) ?_
    refine va_get (D := (dC, dI)) (ci := 3) (v := .int ((up S 0 1 0) 0 0)) (C := "DealtSecretModel") (T := T_M) (N := 24) hx hb hts i_M hown hK hP 0 rfl rfl 4 (by decide) (hts _ k_447) (fun _ h9 => h9) rfl d_M_advance_116 ?_
    refine x_i (y := 2) (hst) ?_
    refine lv_iconst (v := 1) hx hb d_M_advance_119 (by decide) ?_
    refine lv_icmp_ne (tgt := 127) hx hb d_M_advance_120 (by decide) (fun _ => ?_) (fun c_ => absurd c_ (show ¬ (2 : Int32) = 1 by decide))
    refine lv_aload_n hx hb d_M_advance_127 rfl (lv_at hl 0 rfl) ?_
    refine va_get (D := (dC, dI)) (ci := 3) (v := .int ((up S 0 1 0) 0 0)) (C := "DealtSecretModel") (T := T_M) (N := 24) hx hb hts i_M hown hK hP 0 rfl rfl 4 (by decide) (hts _ k_447) (fun _ h9 => h9) rfl d_M_advance_128 ?_
    refine x_i (y := 2) (hst) ?_
    refine lv_iconst (v := 2) hx hb d_M_advance_131 (by decide) ?_
    refine lv_icmp_ne (tgt := 191) hx hb d_M_advance_132 (by decide) (fun c_ => absurd (rfl) c_) (fun _ => ?_)
    refine lv_iconst (v := (nI (0 + 1))) hx hb d_M_advance_135 (by decide) ?_
    refine lv_istore_n (lv' := [(3, .int (nI (0 + 1))), (0, .ref (Y 0)), (1, .int (nI (mz_ct (fun i => S 5 (i + 1)) n0))), (2, .int (mz_b (wlM p0 g0 h0 t0 S n0)))]) hx hb d_M_advance_136 rfl hl (by decide) rfl (fun ls hl => ?_)
    exact loopR (n0 + 1) 0 _ _ ls (by omega) (by omega) hP hD hS (lv_sub hl [1, 2, 3, 0] rfl)
  have loop : ∀ (n j : Nat) (H : Heap) (locs : List Loc) (ls : Array Slot), n0 + 1 ≤ j + n → j ≤ n0 → va_P (dC, dI) cls (wM Y cI cZ p0 q0 g0 h0 (up S 0 1 0)) H → va_D (w_A (wM Y cI cZ p0 q0 g0 h0 (S))) (wM Y cI cZ p0 q0 g0 h0 (up S 0 1 0)) → va_S (w_A (wM Y cI cZ p0 q0 g0 h0 (S))) s.heap H locs → lv_has ls 4 [(0, .ref (Y 0)), (1, .int (nI (mz_ct (fun i => S 5 (i + 1)) j))), (2, .int (mz_b (wlM p0 g0 h0 t0 S j))), (3, .int (nI (j + 1)))] → W p l e (headSpec ws_M_advance { frames := 4, cells := 0, slots := 0, locals := 95 }).room s m [.ref (Y 0)].toArray below meth c H locs 0 0 (MQ below (fun _ st o t => o = .returned (some (.int 3)) ∧ va_P (dC, dI) cls (wM Y cI cZ p0 q0 g0 h0 (up (raiM p0 g0 h0 t0 (up S 0 1 0) n0) 0 0 3)) t.heap ∧ va_F (w_A (wM Y cI cZ p0 q0 g0 h0 (S))) st t) [.ref (Y 0)].toArray s 0 0 (w_A (wM Y cI cZ p0 q0 g0 h0 (S)))) (F0 m 36 ls []) := by
    intro n
    induction n with
    | zero =>
      intro j H locs ls h1 h2
      omega
    | succ n ih =>
      intro j H locs ls h1 h2 hP hD hS hl
      refine lv_iload_n hx hb d_M_advance_36 rfl (lv_at hl 3 rfl) ?_
      refine lv_aload_n hx hb d_M_advance_37 rfl (lv_at hl 0 rfl) ?_
      refine va_get (D := (dC, dI)) (ci := 3) (v := .int ((up S 0 1 0) 0 2)) (C := "DealtSecretModel") (T := T_M) (N := 24) hx hb hts i_M hown hK hP 0 rfl rfl 6 (by decide) (hts _ k_449) (fun _ h9 => h9) rfl d_M_advance_38 ?_
      refine x_i (y := nI n0) (hn) ?_
      refine lv_icmp_gt (tgt := 115) hx hb d_M_advance_41 (by decide) (fun c41 => ?_) (fun c41 => ?_)
      · have hk : j = n0 := by
          have h5 : n0 < j + 1 := (nI_ltI (by omega) (by omega)).mp c41
          omega
        rw [hk] at hl
        exact k115 H locs ls hP hD hS (lv_sub hl [0, 1, 2, 3] rfl)
      · have hk : j < n0 := by
          rcases Nat.lt_or_ge j n0 with q | q
          · exact q
          · exact absurd (nI_lt (show n0 < j + 1 by omega) (by omega)) c41
        have hul := (hU j hk).lt
        have hvl := (hV j hk).lt
        refine lv_aload_n hx hb d_M_advance_44 rfl (lv_at hl 0 rfl) ?_
        refine va_get (D := (dC, dI)) (ci := 3) (v := .ref (Y 5)) (C := "DealtSecretModel") (T := T_M) (N := 24) hx hb hts i_M hown hK hP 0 rfl rfl 13 (by decide) (hts _ k_456) (fun _ h9 => h9) rfl d_M_advance_45 ?_
        refine lv_iload_n hx hb d_M_advance_48 rfl (lv_at hl 3 rfl) ?_
        refine va_zald hx hb hK hP 5 1 rfl rfl (vp_in_nI (by omega) (by decide)) d_M_advance_49 ?_
        refine x_i (y := (up S 0 1 0) 5 (j + 1)) (by rw [nI_clamp (by omega)]) ?_
        refine x_i (y := S 5 (j + 1)) (rfl) ?_
        refine lv_if_eq (tgt := 59) hx hb d_M_advance_50 (by decide) (fun c50 => ?_) (fun c50 => ?_)
        · refine lv_iload_n hx hb d_M_advance_59 rfl (lv_at hl 1 rfl) ?_
          refine lv_istore_n (lv' := [(1, .int (nI (mz_ct (fun i => S 5 (i + 1)) j))), (0, .ref (Y 0)), (2, .int (mz_b (wlM p0 g0 h0 t0 S j))), (3, .int (nI (j + 1)))]) hx hb d_M_advance_60 rfl hl (by decide) rfl (fun ls hl => ?_)
          refine lv_iload_n hx hb d_M_advance_61 rfl (lv_at hl 2 rfl) ?_
          refine lv_if_eq (tgt := 107) hx hb d_M_advance_62 (by decide) (fun c62 => ?_) (fun c62 => ?_)
          · refine lv_iconst (v := 0) hx hb d_M_advance_107 (by decide) ?_
            refine x_i (y := mz_b (wlM p0 g0 h0 t0 S (j + 1))) ((mz_bf (fun q => by first | exact mz_b0.mp c62 (wlM_s.mp q).1 | exact (wlM_s.mp q).2.elim c71 (fun z => z.1 c80) | exact (wlM_s.mp q).2.elim c71 (fun z => mz_b0.mp c100 z.2))).symm) ?_
            refine lv_istore_n (lv' := [(2, .int (mz_b (wlM p0 g0 h0 t0 S (j + 1)))), (1, .int (nI (mz_ct (fun i => S 5 (i + 1)) j))), (0, .ref (Y 0)), (3, .int (nI (j + 1)))]) hx hb d_M_advance_108 rfl hl (by decide) rfl (fun ls hl => ?_)
            refine lv_iinc (v := (nI (j + 1 + 1))) (lv' := [(3, .int (nI (j + 1 + 1))), (2, .int (mz_b (wlM p0 g0 h0 t0 S (j + 1)))), (1, .int (nI (mz_ct (fun i => S 5 (i + 1)) j))), (0, .ref (Y 0))]) hx hb d_M_advance_109 hl (k := 3) rfl (nI_1 (j + 1)) (by decide) rfl (fun ls hl => ?_)
            refine lv_goto (tgt := 36) hx hb d_M_advance_112 (by decide) ?_
            exact ih (j + 1) H locs ls (by omega) (by omega) hP hD hS (by rw [mz_ct_0 (f := (fun i => S 5 (i + 1))) c50]; exact lv_sub hl [3, 2, 1, 0] rfl)
          · refine lv_aload_n hx hb d_M_advance_65 rfl (lv_at hl 1 rfl) ?_
            refine va_get (D := (dC, dI)) (ci := 3) (v := .ref (Y 5)) (C := "DealtSecretModel") (T := T_M) (N := 24) hx hb hts i_M hown hK hP 0 rfl rfl 13 (by decide) (hts _ k_456) (fun _ h9 => h9) rfl d_M_advance_66 ?_
            refine lv_iload_n hx hb d_M_advance_69 rfl (lv_at hl 3 rfl) ?_
            refine va_zald hx hb hK hP 5 1 rfl rfl (vp_in_nI (by omega) (by decide)) d_M_advance_70 ?_
            refine x_i (y := (up S 0 1 0) 5 (j + 1)) (by rw [nI_clamp (by omega)]) ?_
            refine x_i (y := S 5 (j + 1)) (rfl) ?_
            refine lv_if_eq (tgt := 103) hx hb d_M_advance_71 (by decide) (fun c71 => ?_) (fun c71 => ?_)
            · refine lv_iconst (v := 1) hx hb d_M_advance_103 (by decide) ?_
              refine x_i (y := mz_b (wlM p0 g0 h0 t0 S (j + 1))) ((mz_bt (wlM_s.mpr ⟨Classical.not_not.mp (fun z => c62 (mz_bf z)), by first | exact Or.inl c71 | exact Or.inr ⟨c80, Classical.not_not.mp (fun z => c100 (mz_bf z))⟩⟩)).symm) ?_
              refine lv_goto (tgt := 108) hx hb d_M_advance_104 (by decide) ?_
              refine lv_istore_n (lv' := [(2, .int (mz_b (wlM p0 g0 h0 t0 S (j + 1)))), (1, .int (nI (mz_ct (fun i => S 5 (i + 1)) j))), (0, .ref (Y 0)), (3, .int (nI (j + 1)))]) hx hb d_M_advance_108 rfl hl (by decide) rfl (fun ls hl => ?_)
              refine lv_iinc (v := (nI (j + 1 + 1))) (lv' := [(3, .int (nI (j + 1 + 1))), (2, .int (mz_b (wlM p0 g0 h0 t0 S (j + 1)))), (1, .int (nI (mz_ct (fun i => S 5 (i + 1)) j))), (0, .ref (Y 0))]) hx hb d_M_advance_109 hl (k := 3) rfl (nI_1 (j + 1)) (by decide) rfl (fun ls hl => ?_)
              refine lv_goto (tgt := 36) hx hb d_M_advance_112 (by decide) ?_
              exact ih (j + 1) H locs ls (by omega) (by omega) hP hD hS (by rw [mz_ct_0 (f := (fun i => S 5 (i + 1))) c50]; exact lv_sub hl [3, 2, 1, 0] rfl)
            · refine lv_aload_n hx hb d_M_advance_74 rfl (lv_at hl 1 rfl) ?_
              refine va_get (D := (dC, dI)) (ci := 3) (v := .ref (Y 6)) (C := "DealtSecretModel") (T := T_M) (N := 24) hx hb hts i_M hown hK hP 0 rfl rfl 14 (by decide) (hts _ k_457) (fun _ h9 => h9) rfl d_M_advance_75 ?_
              refine lv_iload_n hx hb d_M_advance_78 rfl (lv_at hl 3 rfl) ?_
              refine va_zald hx hb hK hP 6 1 rfl rfl (vp_in_nI (by omega) (by decide)) d_M_advance_79 ?_
              refine x_i (y := (up S 0 1 0) 6 (j + 1)) (by rw [nI_clamp (by omega)]) ?_
              refine x_i (y := S 6 (j + 1)) (rfl) ?_
              refine lv_if_eq (tgt := 107) hx hb d_M_advance_80 (by decide) (fun c80 => ?_) (fun c80 => ?_)
              · refine lv_iconst (v := 0) hx hb d_M_advance_107 (by decide) ?_
                refine x_i (y := mz_b (wlM p0 g0 h0 t0 S (j + 1))) ((mz_bf (fun q => by first | exact mz_b0.mp c62 (wlM_s.mp q).1 | exact (wlM_s.mp q).2.elim c71 (fun z => z.1 c80) | exact (wlM_s.mp q).2.elim c71 (fun z => mz_b0.mp c100 z.2))).symm) ?_
                refine lv_istore_n (lv' := [(2, .int (mz_b (wlM p0 g0 h0 t0 S (j + 1)))), (1, .int (nI (mz_ct (fun i => S 5 (i + 1)) j))), (0, .ref (Y 0)), (3, .int (nI (j + 1)))]) hx hb d_M_advance_108 rfl hl (by decide) rfl (fun ls hl => ?_)
                refine lv_iinc (v := (nI (j + 1 + 1))) (lv' := [(3, .int (nI (j + 1 + 1))), (2, .int (mz_b (wlM p0 g0 h0 t0 S (j + 1)))), (1, .int (nI (mz_ct (fun i => S 5 (i + 1)) j))), (0, .ref (Y 0))]) hx hb d_M_advance_109 hl (k := 3) rfl (nI_1 (j + 1)) (by decide) rfl (fun ls hl => ?_)
                refine lv_goto (tgt := 36) hx hb d_M_advance_112 (by decide) ?_
                exact ih (j + 1) H locs ls (by omega) (by omega) hP hD hS (by rw [mz_ct_0 (f := (fun i => S 5 (i + 1))) c50]; exact lv_sub hl [3, 2, 1, 0] rfl)
              · refine lv_aload_n hx hb d_M_advance_83 rfl (lv_at hl 1 rfl) ?_
                refine lv_iload_n hx hb d_M_advance_84 rfl (lv_at hl 3 rfl) ?_
                refine lv_aload_n hx hb d_M_advance_85 rfl (lv_at hl 1 rfl) ?_
                refine va_get (D := (dC, dI)) (ci := 3) (v := .ref (Y 7)) (C := "DealtSecretModel") (T := T_M) (N := 24) hx hb hts i_M hown hK hP 0 rfl rfl 15 (by decide) (hts _ k_458) (fun _ h9 => h9) rfl d_M_advance_86 ?_
                refine lv_iload_n hx hb d_M_advance_89 rfl (lv_at hl 3 rfl) ?_
                refine va_iald hx hb hK hP 7 0 rfl rfl (vp_in_nI (by omega) (by decide)) d_M_advance_90 ?_
                refine x_i (y := (up S 0 1 0) 7 (j + 1)) (by rw [nI_clamp (by omega)]) ?_
                refine x_i (y := nI (nn (S 7 (j + 1)))) ((hU j hk).eq) ?_
                refine lv_aload_n hx hb d_M_advance_91 rfl (lv_at hl 1 rfl) ?_
                refine va_get (D := (dC, dI)) (ci := 3) (v := .ref (Y 8)) (C := "DealtSecretModel") (T := T_M) (N := 24) hx hb hts i_M hown hK hP 0 rfl rfl 16 (by decide) (hts _ k_459) (fun _ h9 => h9) rfl d_M_advance_92 ?_
                refine lv_iload_n hx hb d_M_advance_95 rfl (lv_at hl 3 rfl) ?_
                refine va_iald hx hb hK hP 8 0 rfl rfl (vp_in_nI (by omega) (by decide)) d_M_advance_96 ?_
                refine x_i (y := (up S 0 1 0) 8 (j + 1)) (by rw [nI_clamp (by omega)]) ?_
                refine x_i (y := nI (nn (S 8 (j + 1)))) ((hV j hk).eq) ?_
                refine ro_V (As := [.int (nI (j + 1)), .int (nI (nn (S 7 (j + 1)))), .int (nI (nn (S 8 (j + 1))))]) (rest := []) (b := (Y 0)) ⟨hx, hb, hml, hown, hts⟩ (c_M_fit l dC dI Y cI cZ p0 q0 g0 h0 (up S 0 1 0) (j + 1) (nn (S 7 (j + 1))) (nn (S 8 (j + 1))) t0 ok (by omega) (by omega) (by omega) ht ht7 hC) (cwV 3 hts (al_V k_542 k_543 k_651 k_4 k_544) rfl rfl rfl (by decide +kernel) ⟨Nat.le_of_ble_eq_true rfl, Nat.le_of_ble_eq_true rfl⟩) (fun U g mk a h => ⟨h.1, va_K.moved (u := U) (U := U.calling g mk a) (Vm.Alike.refl U.vm) h.2⟩) (va_recv hK hP (ci := 3) (q0 := 0) rfl rfl) (fun U hU hW => ⟨by rw [hU]; exact hP, va_K.moved hW.alike hK⟩) rfl hl.1 rfl (lv_room (Nat.le_of_ble_eq_true rfl)) d_M_advance_97 ⟨Nat.zero_le _, Nat.zero_le _⟩ ?_
                refine lv_if_eq (tgt := 107) hx hb d_M_advance_100 (by decide) (fun c100 => ?_) (fun c100 => ?_)
                · refine lv_iconst (v := 0) hx hb d_M_advance_107 (by decide) ?_
                  refine x_i (y := mz_b (wlM p0 g0 h0 t0 S (j + 1))) ((mz_bf (fun q => by first | exact mz_b0.mp c62 (wlM_s.mp q).1 | exact (wlM_s.mp q).2.elim c71 (fun z => z.1 c80) | exact (wlM_s.mp q).2.elim c71 (fun z => mz_b0.mp c100 z.2))).symm) ?_
                  refine lv_istore_n (lv' := [(2, .int (mz_b (wlM p0 g0 h0 t0 S (j + 1)))), (1, .int (nI (mz_ct (fun i => S 5 (i + 1)) j))), (0, .ref (Y 0)), (3, .int (nI (j + 1)))]) hx hb d_M_advance_108 rfl hl (by decide) rfl (fun ls hl => ?_)
                  refine lv_iinc (v := (nI (j + 1 + 1))) (lv' := [(3, .int (nI (j + 1 + 1))), (2, .int (mz_b (wlM p0 g0 h0 t0 S (j + 1)))), (1, .int (nI (mz_ct (fun i => S 5 (i + 1)) j))), (0, .ref (Y 0))]) hx hb d_M_advance_109 hl (k := 3) rfl (nI_1 (j + 1)) (by decide) rfl (fun ls hl => ?_)
                  refine lv_goto (tgt := 36) hx hb d_M_advance_112 (by decide) ?_
                  exact ih (j + 1) H locs ls (by omega) (by omega) hP hD hS (by rw [mz_ct_0 (f := (fun i => S 5 (i + 1))) c50]; exact lv_sub hl [3, 2, 1, 0] rfl)
                · refine lv_iconst (v := 1) hx hb d_M_advance_103 (by decide) ?_
                  refine x_i (y := mz_b (wlM p0 g0 h0 t0 S (j + 1))) ((mz_bt (wlM_s.mpr ⟨Classical.not_not.mp (fun z => c62 (mz_bf z)), by first | exact Or.inl c71 | exact Or.inr ⟨c80, Classical.not_not.mp (fun z => c100 (mz_bf z))⟩⟩)).symm) ?_
                  refine lv_goto (tgt := 108) hx hb d_M_advance_104 (by decide) ?_
                  refine lv_istore_n (lv' := [(2, .int (mz_b (wlM p0 g0 h0 t0 S (j + 1)))), (1, .int (nI (mz_ct (fun i => S 5 (i + 1)) j))), (0, .ref (Y 0)), (3, .int (nI (j + 1)))]) hx hb d_M_advance_108 rfl hl (by decide) rfl (fun ls hl => ?_)
                  refine lv_iinc (v := (nI (j + 1 + 1))) (lv' := [(3, .int (nI (j + 1 + 1))), (2, .int (mz_b (wlM p0 g0 h0 t0 S (j + 1)))), (1, .int (nI (mz_ct (fun i => S 5 (i + 1)) j))), (0, .ref (Y 0))]) hx hb d_M_advance_109 hl (k := 3) rfl (nI_1 (j + 1)) (by decide) rfl (fun ls hl => ?_)
                  refine lv_goto (tgt := 36) hx hb d_M_advance_112 (by decide) ?_
                  exact ih (j + 1) H locs ls (by omega) (by omega) hP hD hS (by rw [mz_ct_0 (f := (fun i => S 5 (i + 1))) c50]; exact lv_sub hl [3, 2, 1, 0] rfl)
        · refine lv_iload_n hx hb d_M_advance_53 rfl (lv_at hl 1 rfl) ?_
          refine lv_iconst (v := 1) hx hb d_M_advance_54 (by decide) ?_
          refine lv_iadd hx hb d_M_advance_55 ?_
          refine x_i (y := nI (mz_ct (fun i => S 5 (i + 1)) (j + 1))) ((nI_1 _).trans (by rw [mz_ct_1 (f := (fun i => S 5 (i + 1))) c50])) ?_
          refine lv_goto (tgt := 60) hx hb d_M_advance_56 (by decide) ?_
          refine lv_istore_n (lv' := [(1, .int (nI (mz_ct (fun i => S 5 (i + 1)) (j + 1)))), (0, .ref (Y 0)), (2, .int (mz_b (wlM p0 g0 h0 t0 S j))), (3, .int (nI (j + 1)))]) hx hb d_M_advance_60 rfl hl (by decide) rfl (fun ls hl => ?_)
          refine lv_iload_n hx hb d_M_advance_61 rfl (lv_at hl 2 rfl) ?_
          refine lv_if_eq (tgt := 107) hx hb d_M_advance_62 (by decide) (fun c62 => ?_) (fun c62 => ?_)
          · refine lv_iconst (v := 0) hx hb d_M_advance_107 (by decide) ?_
            refine x_i (y := mz_b (wlM p0 g0 h0 t0 S (j + 1))) ((mz_bf (fun q => by first | exact mz_b0.mp c62 (wlM_s.mp q).1 | exact (wlM_s.mp q).2.elim c71 (fun z => z.1 c80) | exact (wlM_s.mp q).2.elim c71 (fun z => mz_b0.mp c100 z.2))).symm) ?_
            refine lv_istore_n (lv' := [(2, .int (mz_b (wlM p0 g0 h0 t0 S (j + 1)))), (1, .int (nI (mz_ct (fun i => S 5 (i + 1)) (j + 1)))), (0, .ref (Y 0)), (3, .int (nI (j + 1)))]) hx hb d_M_advance_108 rfl hl (by decide) rfl (fun ls hl => ?_)
            refine lv_iinc (v := (nI (j + 1 + 1))) (lv' := [(3, .int (nI (j + 1 + 1))), (2, .int (mz_b (wlM p0 g0 h0 t0 S (j + 1)))), (1, .int (nI (mz_ct (fun i => S 5 (i + 1)) (j + 1)))), (0, .ref (Y 0))]) hx hb d_M_advance_109 hl (k := 3) rfl (nI_1 (j + 1)) (by decide) rfl (fun ls hl => ?_)
            refine lv_goto (tgt := 36) hx hb d_M_advance_112 (by decide) ?_
            exact ih (j + 1) H locs ls (by omega) (by omega) hP hD hS (lv_sub hl [3, 2, 1, 0] rfl)
          · refine lv_aload_n hx hb d_M_advance_65 rfl (lv_at hl 1 rfl) ?_
            refine va_get (D := (dC, dI)) (ci := 3) (v := .ref (Y 5)) (C := "DealtSecretModel") (T := T_M) (N := 24) hx hb hts i_M hown hK hP 0 rfl rfl 13 (by decide) (hts _ k_456) (fun _ h9 => h9) rfl d_M_advance_66 ?_
            refine lv_iload_n hx hb d_M_advance_69 rfl (lv_at hl 3 rfl) ?_
            refine va_zald hx hb hK hP 5 1 rfl rfl (vp_in_nI (by omega) (by decide)) d_M_advance_70 ?_
            refine x_i (y := (up S 0 1 0) 5 (j + 1)) (by rw [nI_clamp (by omega)]) ?_
            refine x_i (y := S 5 (j + 1)) (rfl) ?_
            refine lv_if_eq (tgt := 103) hx hb d_M_advance_71 (by decide) (fun c71 => ?_) (fun c71 => ?_)
            · refine lv_iconst (v := 1) hx hb d_M_advance_103 (by decide) ?_
              refine x_i (y := mz_b (wlM p0 g0 h0 t0 S (j + 1))) ((mz_bt (wlM_s.mpr ⟨Classical.not_not.mp (fun z => c62 (mz_bf z)), by first | exact Or.inl c71 | exact Or.inr ⟨c80, Classical.not_not.mp (fun z => c100 (mz_bf z))⟩⟩)).symm) ?_
              refine lv_goto (tgt := 108) hx hb d_M_advance_104 (by decide) ?_
              refine lv_istore_n (lv' := [(2, .int (mz_b (wlM p0 g0 h0 t0 S (j + 1)))), (1, .int (nI (mz_ct (fun i => S 5 (i + 1)) (j + 1)))), (0, .ref (Y 0)), (3, .int (nI (j + 1)))]) hx hb d_M_advance_108 rfl hl (by decide) rfl (fun ls hl => ?_)
              refine lv_iinc (v := (nI (j + 1 + 1))) (lv' := [(3, .int (nI (j + 1 + 1))), (2, .int (mz_b (wlM p0 g0 h0 t0 S (j + 1)))), (1, .int (nI (mz_ct (fun i => S 5 (i + 1)) (j + 1)))), (0, .ref (Y 0))]) hx hb d_M_advance_109 hl (k := 3) rfl (nI_1 (j + 1)) (by decide) rfl (fun ls hl => ?_)
              refine lv_goto (tgt := 36) hx hb d_M_advance_112 (by decide) ?_
              exact ih (j + 1) H locs ls (by omega) (by omega) hP hD hS (lv_sub hl [3, 2, 1, 0] rfl)
            · refine lv_aload_n hx hb d_M_advance_74 rfl (lv_at hl 1 rfl) ?_
              refine va_get (D := (dC, dI)) (ci := 3) (v := .ref (Y 6)) (C := "DealtSecretModel") (T := T_M) (N := 24) hx hb hts i_M hown hK hP 0 rfl rfl 14 (by decide) (hts _ k_457) (fun _ h9 => h9) rfl d_M_advance_75 ?_
              refine lv_iload_n hx hb d_M_advance_78 rfl (lv_at hl 3 rfl) ?_
              refine va_zald hx hb hK hP 6 1 rfl rfl (vp_in_nI (by omega) (by decide)) d_M_advance_79 ?_
              refine x_i (y := (up S 0 1 0) 6 (j + 1)) (by rw [nI_clamp (by omega)]) ?_
              refine x_i (y := S 6 (j + 1)) (rfl) ?_
              refine lv_if_eq (tgt := 107) hx hb d_M_advance_80 (by decide) (fun c80 => ?_) (fun c80 => ?_)
              · refine lv_iconst (v := 0) hx hb d_M_advance_107 (by decide) ?_
                refine x_i (y := mz_b (wlM p0 g0 h0 t0 S (j + 1))) ((mz_bf (fun q => by first | exact mz_b0.mp c62 (wlM_s.mp q).1 | exact (wlM_s.mp q).2.elim c71 (fun z => z.1 c80) | exact (wlM_s.mp q).2.elim c71 (fun z => mz_b0.mp c100 z.2))).symm) ?_
                refine lv_istore_n (lv' := [(2, .int (mz_b (wlM p0 g0 h0 t0 S (j + 1)))), (1, .int (nI (mz_ct (fun i => S 5 (i + 1)) (j + 1)))), (0, .ref (Y 0)), (3, .int (nI (j + 1)))]) hx hb d_M_advance_108 rfl hl (by decide) rfl (fun ls hl => ?_)
                refine lv_iinc (v := (nI (j + 1 + 1))) (lv' := [(3, .int (nI (j + 1 + 1))), (2, .int (mz_b (wlM p0 g0 h0 t0 S (j + 1)))), (1, .int (nI (mz_ct (fun i => S 5 (i + 1)) (j + 1)))), (0, .ref (Y 0))]) hx hb d_M_advance_109 hl (k := 3) rfl (nI_1 (j + 1)) (by decide) rfl (fun ls hl => ?_)
                refine lv_goto (tgt := 36) hx hb d_M_advance_112 (by decide) ?_
                exact ih (j + 1) H locs ls (by omega) (by omega) hP hD hS (lv_sub hl [3, 2, 1, 0] rfl)
              · refine lv_aload_n hx hb d_M_advance_83 rfl (lv_at hl 1 rfl) ?_
                refine lv_iload_n hx hb d_M_advance_84 rfl (lv_at hl 3 rfl) ?_
                refine lv_aload_n hx hb d_M_advance_85 rfl (lv_at hl 1 rfl) ?_
                refine va_get (D := (dC, dI)) (ci := 3) (v := .ref (Y 7)) (C := "DealtSecretModel") (T := T_M) (N := 24) hx hb hts i_M hown hK hP 0 rfl rfl 15 (by decide) (hts _ k_458) (fun _ h9 => h9) rfl d_M_advance_86 ?_
                refine lv_iload_n hx hb d_M_advance_89 rfl (lv_at hl 3 rfl) ?_
                refine va_iald hx hb hK hP 7 0 rfl rfl (vp_in_nI (by omega) (by decide)) d_M_advance_90 ?_
                refine x_i (y := (up S 0 1 0) 7 (j + 1)) (by rw [nI_clamp (by omega)]) ?_
                refine x_i (y := nI (nn (S 7 (j + 1)))) ((hU j hk).eq) ?_
                refine lv_aload_n hx hb d_M_advance_91 rfl (lv_at hl 1 rfl) ?_
                refine va_get (D := (dC, dI)) (ci := 3) (v := .ref (Y 8)) (C := "DealtSecretModel") (T := T_M) (N := 24) hx hb hts i_M hown hK hP 0 rfl rfl 16 (by decide) (hts _ k_459) (fun _ h9 => h9) rfl d_M_advance_92 ?_
                refine lv_iload_n hx hb d_M_advance_95 rfl (lv_at hl 3 rfl) ?_
                refine va_iald hx hb hK hP 8 0 rfl rfl (vp_in_nI (by omega) (by decide)) d_M_advance_96 ?_
                refine x_i (y := (up S 0 1 0) 8 (j + 1)) (by rw [nI_clamp (by omega)]) ?_
                refine x_i (y := nI (nn (S 8 (j + 1)))) ((hV j hk).eq) ?_
                refine ro_V (As := [.int (nI (j + 1)), .int (nI (nn (S 7 (j + 1)))), .int (nI (nn (S 8 (j + 1))))]) (rest := []) (b := (Y 0)) ⟨hx, hb, hml, hown, hts⟩ (c_M_fit l dC dI Y cI cZ p0 q0 g0 h0 (up S 0 1 0) (j + 1) (nn (S 7 (j + 1))) (nn (S 8 (j + 1))) t0 ok (by omega) (by omega) (by omega) ht ht7 hC) (cwV 3 hts (al_V k_542 k_543 k_651 k_4 k_544) rfl rfl rfl (by decide +kernel) ⟨Nat.le_of_ble_eq_true rfl, Nat.le_of_ble_eq_true rfl⟩) (fun U g mk a h => ⟨h.1, va_K.moved (u := U) (U := U.calling g mk a) (Vm.Alike.refl U.vm) h.2⟩) (va_recv hK hP (ci := 3) (q0 := 0) rfl rfl) (fun U hU hW => ⟨by rw [hU]; exact hP, va_K.moved hW.alike hK⟩) rfl hl.1 rfl (lv_room (Nat.le_of_ble_eq_true rfl)) d_M_advance_97 ⟨Nat.zero_le _, Nat.zero_le _⟩ ?_
                refine lv_if_eq (tgt := 107) hx hb d_M_advance_100 (by decide) (fun c100 => ?_) (fun c100 => ?_)
                · refine lv_iconst (v := 0) hx hb d_M_advance_107 (by decide) ?_
                  refine x_i (y := mz_b (wlM p0 g0 h0 t0 S (j + 1))) ((mz_bf (fun q => by first | exact mz_b0.mp c62 (wlM_s.mp q).1 | exact (wlM_s.mp q).2.elim c71 (fun z => z.1 c80) | exact (wlM_s.mp q).2.elim c71 (fun z => mz_b0.mp c100 z.2))).symm) ?_
                  refine lv_istore_n (lv' := [(2, .int (mz_b (wlM p0 g0 h0 t0 S (j + 1)))), (1, .int (nI (mz_ct (fun i => S 5 (i + 1)) (j + 1)))), (0, .ref (Y 0)), (3, .int (nI (j + 1)))]) hx hb d_M_advance_108 rfl hl (by decide) rfl (fun ls hl => ?_)
                  refine lv_iinc (v := (nI (j + 1 + 1))) (lv' := [(3, .int (nI (j + 1 + 1))), (2, .int (mz_b (wlM p0 g0 h0 t0 S (j + 1)))), (1, .int (nI (mz_ct (fun i => S 5 (i + 1)) (j + 1)))), (0, .ref (Y 0))]) hx hb d_M_advance_109 hl (k := 3) rfl (nI_1 (j + 1)) (by decide) rfl (fun ls hl => ?_)
                  refine lv_goto (tgt := 36) hx hb d_M_advance_112 (by decide) ?_
                  exact ih (j + 1) H locs ls (by omega) (by omega) hP hD hS (lv_sub hl [3, 2, 1, 0] rfl)
                · refine lv_iconst (v := 1) hx hb d_M_advance_103 (by decide) ?_
                  refine x_i (y := mz_b (wlM p0 g0 h0 t0 S (j + 1))) ((mz_bt (wlM_s.mpr ⟨Classical.not_not.mp (fun z => c62 (mz_bf z)), by first | exact Or.inl c71 | exact Or.inr ⟨c80, Classical.not_not.mp (fun z => c100 (mz_bf z))⟩⟩)).symm) ?_
                  refine lv_goto (tgt := 108) hx hb d_M_advance_104 (by decide) ?_
                  refine lv_istore_n (lv' := [(2, .int (mz_b (wlM p0 g0 h0 t0 S (j + 1)))), (1, .int (nI (mz_ct (fun i => S 5 (i + 1)) (j + 1)))), (0, .ref (Y 0)), (3, .int (nI (j + 1)))]) hx hb d_M_advance_108 rfl hl (by decide) rfl (fun ls hl => ?_)
                  refine lv_iinc (v := (nI (j + 1 + 1))) (lv' := [(3, .int (nI (j + 1 + 1))), (2, .int (mz_b (wlM p0 g0 h0 t0 S (j + 1)))), (1, .int (nI (mz_ct (fun i => S 5 (i + 1)) (j + 1)))), (0, .ref (Y 0))]) hx hb d_M_advance_109 hl (k := 3) rfl (nI_1 (j + 1)) (by decide) rfl (fun ls hl => ?_)
                  refine lv_goto (tgt := 36) hx hb d_M_advance_112 (by decide) ?_
                  exact ih (j + 1) H locs ls (by omega) (by omega) hP hD hS (lv_sub hl [3, 2, 1, 0] rfl)
  refine lv_aload_n hx hb d_M_advance_0 rfl (lv_at hl 0 rfl) ?_
  refine lv_aload_n hx hb d_M_advance_1 rfl (lv_at hl 0 rfl) ?_
  refine va_get (D := (dC, dI)) (ci := 3) (v := .int (S 0 0)) (C := "DealtSecretModel") (T := T_M) (N := 24) hx hb hts i_M hown hK hP 0 rfl rfl 4 (by decide) (hts _ k_447) (fun _ h9 => h9) rfl d_M_advance_2 ?_
  refine x_i (y := 2) (hst) ?_
  refine lv_if_eq (tgt := 16) hx hb d_M_advance_5 (by decide) (fun c_ => absurd c_ (by decide)) (fun _ => ?_)
  refine lv_aload_n hx hb d_M_advance_8 rfl (lv_at hl 0 rfl) ?_
  refine va_get (D := (dC, dI)) (ci := 3) (v := .int (S 0 0)) (C := "DealtSecretModel") (T := T_M) (N := 24) hx hb hts i_M hown hK hP 0 rfl rfl 4 (by decide) (hts _ k_447) (fun _ h9 => h9) rfl d_M_advance_9 ?_
  refine x_i (y := 2) (hst) ?_
  refine lv_iconst (v := 5) hx hb d_M_advance_12 (by decide) ?_
  refine lv_icmp_lt (tgt := 20) hx hb d_M_advance_13 (by decide) (fun _ => ?_) (fun c_ => absurd (by decide) c_)
  refine lv_iconst (v := 0) hx hb d_M_advance_20 (by decide) ?_
  refine lv_iconst (v := 0) hx hb d_M_advance_21 (by decide) ?_
  refine wr_V (As := [.int 0, .int 0]) (rest := []) (b := (Y 0)) ⟨hx, hb, hml, hown, hts⟩ (c_M_refuses l dC dI Y cI cZ p0 q0 g0 h0 S 0 0 0 0 (by decide) (by decide)) (cwV 2 hts (al_V k_532 k_533 k_649 k_4 k_534) rfl rfl rfl (by decide +kernel) ⟨Nat.le_of_ble_eq_true rfl, Nat.le_of_ble_eq_true rfl⟩) (va_recv hK hP (ci := 3) (q0 := 0) rfl rfl) hP hK hD hS rfl hl.1 rfl (lv_room (Nat.le_of_ble_eq_true rfl)) d_M_advance_22 ⟨Nat.zero_le _, Nat.zero_le _⟩ (fun H locs hP _ _ hS => ?_)
  have hD := w_addr hD (w_adM S (up S 0 1 0))
  refine lv_if_eq (tgt := 30) hx hb d_M_advance_25 (by decide) (fun _ => ?_) (fun c_ => absurd (by decide) c_)
  refine lv_iconst (v := (nI (mz_ct (fun i => S 5 (i + 1)) 0))) hx hb d_M_advance_30 (by rfl) ?_
  refine lv_istore_n (lv' := [(1, .int (nI (mz_ct (fun i => S 5 (i + 1)) 0))), (0, .ref (Y 0))]) hx hb d_M_advance_31 rfl hl (by decide) rfl (fun ls hl => ?_)
  refine lv_iconst (v := 1) hx hb d_M_advance_32 (by decide) ?_
  refine x_i (y := mz_b (wlM p0 g0 h0 t0 S 0)) ((mz_bt (fun i hi => absurd hi (Nat.not_lt_zero i))).symm) ?_
  refine lv_istore_n (lv' := [(2, .int (mz_b (wlM p0 g0 h0 t0 S 0))), (1, .int (nI (mz_ct (fun i => S 5 (i + 1)) 0))), (0, .ref (Y 0))]) hx hb d_M_advance_33 rfl hl (by decide) rfl (fun ls hl => ?_)
  refine lv_iconst (v := (nI (0 + 1))) hx hb d_M_advance_34 (by decide) ?_
  refine lv_istore_n (lv' := [(3, .int (nI (0 + 1))), (2, .int (mz_b (wlM p0 g0 h0 t0 S 0))), (1, .int (nI (mz_ct (fun i => S 5 (i + 1)) 0))), (0, .ref (Y 0))]) hx hb d_M_advance_35 rfl hl (by decide) rfl (fun ls hl => ?_)
  exact loop (n0 + 1) 0 _ _ ls (by omega) (by omega) hP hD hS (lv_sub hl [3, 2, 1, 0] rfl)
set_option maxRecDepth 100000 in
set_option maxHeartbeats 4000000 in
/-- the reference's advance in stage 3 -/
theorem c_M_advance3 (l : Launch) (dC : Nat → ClassId) (dI : Nat → Nat → Nat) (Y : Nat → Nat) (cI cZ : ClassId) (p0 q0 g0 h0 : Nat) (S : Nat → Nat → Int32) (n0 t0 : Nat) (hst : S 0 0 = 3) (hn : S 0 2 = nI n0) (hn7 : n0 ≤ 7) (hU : ∀ j, j < n0 → okN (S 7 (j + 1)) q0) (hV : ∀ j, j < n0 → okN (S 8 (j + 1)) q0) (ht : S 0 3 = nI t0) (ht7 : t0 ≤ 7) (ok : okG p0 q0 g0 h0) (hC : ∀ k, k < t0 → okN (S 3 k) p0) : Wr l y_M_advance ws_M_advance 4 95 [.ref (Y 0)] (dC, dI) cls (tysM cI cZ) (wM Y cI cZ p0 q0 g0 h0 (S)) (wM Y cI cZ p0 q0 g0 h0 (up (up S 0 1 0) 0 0 (if t0 ≤ mz_ct (fun i => S 5 (i + 1)) n0 then 6 else 4))) (some (.int (if t0 ≤ mz_ct (fun i => S 5 (i + 1)) n0 then 6 else 4))) := by
  refine Met.ofW (cc := b_M_advance) (maxL := 4) (ret := (some .int)) (by decide) rfl ?_
  intro p e s m args below meth c s₁ B hml hv
  obtain ⟨rfl, hP, hK, hD0⟩ := hv
  have hx := B.exec
  have hb := B.bytes
  have hr := B.returns
  have hts : ∀ w ∈ AL, w.before ([.ref (Y 0)] : List Value).toArray s = true := fun w h => atoms_spec (ws := ws_M_advance) B.pre w (List.mem_cons_of_mem _ h)
  have hown : s.vm.findClass "DealtSecretModel" = some m.cls := findClass_of_methodNamed B.named
  have hlk := B.notSynchronized
  have hl := lv_entry ([.ref (Y 0)]) (n := 4) (Nat.le_of_ble_eq_true rfl)
  rw [lg_entry_eq]
  generalize (lg_sl ([.ref (Y 0)]) ++ List.replicate (4 - (lg_sl ([.ref (Y 0)])).length) Slot.unset).toArray = ls at hl ⊢
  have hl : lv_has ls 4 [(0, .ref (Y 0))] := hl
  have hD := w_self hD0
  have hS : va_S (w_A (wM Y cI cZ p0 q0 g0 h0 (S))) s.heap s.heap [] := va_S.rf
  obtain ⟨okp2, okp, okq2, okq, okg, okh⟩ := id ok
  have hct := mz_ct_le (fun i => S 5 (i + 1)) n0
  have k115 : ∀ (H : Heap) (locs : List Loc) (ls : Array Slot), va_P (dC, dI) cls (wM Y cI cZ p0 q0 g0 h0 (up S 0 1 0)) H → va_D (w_A (wM Y cI cZ p0 q0 g0 h0 (S))) (wM Y cI cZ p0 q0 g0 h0 (up S 0 1 0)) → va_S (w_A (wM Y cI cZ p0 q0 g0 h0 (S))) s.heap H locs → lv_has ls 4 [(0, .ref (Y 0)), (1, .int (nI (mz_ct (fun i => S 5 (i + 1)) n0))), (2, .int (mz_b (wlM p0 g0 h0 t0 S n0))), (3, .int (nI (n0 + 1)))] → W p l e (headSpec ws_M_advance { frames := 4, cells := 0, slots := 0, locals := 95 }).room s m [.ref (Y 0)].toArray below meth c H locs 0 0 (MQ below (fun _ st o t => o = .returned (some (.int (if t0 ≤ mz_ct (fun i => S 5 (i + 1)) n0 then 6 else 4))) ∧ va_P (dC, dI) cls (wM Y cI cZ p0 q0 g0 h0 (up (up S 0 1 0) 0 0 (if t0 ≤ mz_ct (fun i => S 5 (i + 1)) n0 then 6 else 4))) t.heap ∧ va_F (w_A (wM Y cI cZ p0 q0 g0 h0 (S))) st t) [.ref (Y 0)].toArray s 0 0 (w_A (wM Y cI cZ p0 q0 g0 h0 (S)))) (F0 m 115 ls []) := by
    intro H locs ls hP hD hS hl
    refine lv_aload_n hx hb d_M_advance_115 rfl (lv_at hl 0 rfl) ?_
    refine va_get (D := (dC, dI)) (ci := 3) (v := .int ((up S 0 1 0) 0 0)) (C := "DealtSecretModel") (T := T_M) (N := 24) hx hb hts i_M hown hK hP 0 rfl rfl 4 (by decide) (hts _ k_447) (fun _ h9 => h9) rfl d_M_advance_116 ?_
    refine x_i (y := 3) (hst) ?_
    refine lv_iconst (v := 1) hx hb d_M_advance_119 (by decide) ?_
    refine lv_icmp_ne (tgt := 127) hx hb d_M_advance_120 (by decide) (fun _ => ?_) (fun c_ => absurd c_ (show ¬ (3 : Int32) = 1 by decide))
    refine lv_aload_n hx hb d_M_advance_127 rfl (lv_at hl 0 rfl) ?_
    refine va_get (D := (dC, dI)) (ci := 3) (v := .int ((up S 0 1 0) 0 0)) (C := "DealtSecretModel") (T := T_M) (N := 24) hx hb hts i_M hown hK hP 0 rfl rfl 4 (by decide) (hts _ k_447) (fun _ h9 => h9) rfl d_M_advance_128 ?_
    refine x_i (y := 3) (hst) ?_
    refine lv_iconst (v := 2) hx hb d_M_advance_131 (by decide) ?_
    refine lv_icmp_ne (tgt := 191) hx hb d_M_advance_132 (by decide) (fun _ => ?_) (fun c_ => absurd c_ (show ¬ (3 : Int32) = 2 by decide))
    refine lv_aload_n hx hb d_M_advance_191 rfl (lv_at hl 0 rfl) ?_
    refine va_get (D := (dC, dI)) (ci := 3) (v := .int ((up S 0 1 0) 0 0)) (C := "DealtSecretModel") (T := T_M) (N := 24) hx hb hts i_M hown hK hP 0 rfl rfl 4 (by decide) (hts _ k_447) (fun _ h9 => h9) rfl d_M_advance_192 ?_
    refine x_i (y := 3) (hst) ?_
    refine lv_iconst (v := 3) hx hb d_M_advance_195 (by decide) ?_
    refine lv_icmp_ne (tgt := 207) hx hb d_M_advance_196 (by decide) (fun c_ => absurd (rfl) c_) (fun _ => ?_)
    refine lv_iload_n hx hb d_M_advance_199 rfl (lv_at hl 1 rfl) ?_
    refine lv_aload_n hx hb d_M_advance_200 rfl (lv_at hl 0 rfl) ?_
    refine va_get (D := (dC, dI)) (ci := 3) (v := .int ((up S 0 1 0) 0 3)) (C := "DealtSecretModel") (T := T_M) (N := 24) hx hb hts i_M hown hK hP 0 rfl rfl 7 (by decide) (hts _ k_450) (fun _ h9 => h9) rfl d_M_advance_201 ?_
    refine x_i (y := nI t0) (ht) ?_
    refine lv_icmp_ge (tgt := 219) hx hb d_M_advance_204 (by decide) (fun c204 => ?_) (fun c204 => ?_)
    · have hlt : t0 ≤ mz_ct (fun i => S 5 (i + 1)) n0 := Nat.not_lt.mp (fun q => absurd c204 (nI_ge q (by omega)))
      refine lv_iconst (v := 1) hx hb d_M_advance_219 (by decide) ?_
      refine lv_goto (tgt := 224) hx hb d_M_advance_220 (by decide) ?_
      refine lv_istore_n (lv' := [(3, .int 1), (0, .ref (Y 0)), (1, .int (nI (mz_ct (fun i => S 5 (i + 1)) n0))), (2, .int (mz_b (wlM p0 g0 h0 t0 S n0)))]) hx hb d_M_advance_224 rfl hl (by decide) rfl (fun ls hl => ?_)
      refine lv_aload_n hx hb d_M_advance_225 rfl (lv_at hl 1 rfl) ?_
      refine lv_iload_n hx hb d_M_advance_226 rfl (lv_at hl 0 rfl) ?_
      refine lv_if_eq (tgt := 235) hx hb d_M_advance_227 (by decide) (fun c_ => absurd c_ (by decide)) (fun _ => ?_)
      refine lv_bipush (v := 6) hx hb d_M_advance_230 (by decide) ?_
      refine x_i (y := (if t0 ≤ mz_ct (fun i => S 5 (i + 1)) n0 then 6 else 4)) ((if_pos hlt).symm) ?_
      refine lv_goto (tgt := 241) hx hb d_M_advance_232 (by decide) ?_
      refine va_put (D := (dC, dI)) (ci := 3) (v := .int (if t0 ≤ mz_ct (fun i => S 5 (i + 1)) n0 then 6 else 4)) (ty := .int) (C := "DealtSecretModel") (T := T_M) (N := 24) hx hb hts i_M t_M t_M_ok n_M hown hK hP hD hS 0 rfl rfl 4 (by decide) (hts _ k_447) (fun _ h9 => h9) rfl (by decide +kernel) (rfl) (rfl) (Nat.le_of_ble_eq_true rfl) d_M_advance_241 (fun H locs hP hD hS => ?_)
      have hP : va_P (dC, dI) cls (wM Y cI cZ p0 q0 g0 h0 (up (up S 0 1 0) 0 0 (if t0 ≤ mz_ct (fun i => S 5 (i + 1)) n0 then 6 else 4))) H := by rw [← w_ms0]; exact hP
      have hD : va_D (w_A (wM Y cI cZ p0 q0 g0 h0 (S))) (wM Y cI cZ p0 q0 g0 h0 (up (up S 0 1 0) 0 0 (if t0 ≤ mz_ct (fun i => S 5 (i + 1)) n0 then 6 else 4))) := by rw [← w_ms0]; exact hD
      refine lv_aload_n hx hb d_M_advance_244 rfl (lv_at hl 1 rfl) ?_
      refine va_get (D := (dC, dI)) (ci := 3) (v := .int ((up (up S 0 1 0) 0 0 (if t0 ≤ mz_ct (fun i => S 5 (i + 1)) n0 then 6 else 4)) 0 0)) (C := "DealtSecretModel") (T := T_M) (N := 24) hx hb hts i_M hown hK hP 0 rfl rfl 4 (by decide) (hts _ k_447) (fun _ h9 => h9) rfl d_M_advance_245 ?_
      refine x_i (y := (if t0 ≤ mz_ct (fun i => S 5 (i + 1)) n0 then 6 else 4)) (up_at _ _ _ _) ?_
      exact wr_i hx hb hr hlk hP hS d_M_advance_248
    · have hlt : ¬ t0 ≤ mz_ct (fun i => S 5 (i + 1)) n0 := fun q => c204 (nI_le q (by omega))
      refine lv_aload_n hx hb d_M_advance_207 rfl (lv_at hl 0 rfl) ?_
      refine va_get (D := (dC, dI)) (ci := 3) (v := .int ((up S 0 1 0) 0 0)) (C := "DealtSecretModel") (T := T_M) (N := 24) hx hb hts i_M hown hK hP 0 rfl rfl 4 (by decide) (hts _ k_447) (fun _ h9 => h9) rfl d_M_advance_208 ?_
      refine x_i (y := 3) (hst) ?_
      refine lv_iconst (v := 4) hx hb d_M_advance_211 (by decide) ?_
      refine lv_icmp_ne (tgt := 223) hx hb d_M_advance_212 (by decide) (fun _ => ?_) (fun c_ => absurd c_ (show ¬ (3 : Int32) = 4 by decide))
      refine lv_iconst (v := 0) hx hb d_M_advance_223 (by decide) ?_
      refine lv_istore_n (lv' := [(3, .int 0), (0, .ref (Y 0)), (1, .int (nI (mz_ct (fun i => S 5 (i + 1)) n0))), (2, .int (mz_b (wlM p0 g0 h0 t0 S n0)))]) hx hb d_M_advance_224 rfl hl (by decide) rfl (fun ls hl => ?_)
      refine lv_aload_n hx hb d_M_advance_225 rfl (lv_at hl 1 rfl) ?_
      refine lv_iload_n hx hb d_M_advance_226 rfl (lv_at hl 0 rfl) ?_
      refine lv_if_eq (tgt := 235) hx hb d_M_advance_227 (by decide) (fun _ => ?_) (fun c_ => absurd (rfl) c_)
      refine lv_aload_n hx hb d_M_advance_235 rfl (lv_at hl 1 rfl) ?_
      refine va_get (D := (dC, dI)) (ci := 3) (v := .int ((up S 0 1 0) 0 0)) (C := "DealtSecretModel") (T := T_M) (N := 24) hx hb hts i_M hown hK hP 0 rfl rfl 4 (by decide) (hts _ k_447) (fun _ h9 => h9) rfl d_M_advance_236 ?_
      refine x_i (y := 3) (hst) ?_
      refine lv_iconst (v := 1) hx hb d_M_advance_239 (by decide) ?_
      refine lv_iadd hx hb d_M_advance_240 ?_
      refine x_i (y := (if t0 ≤ mz_ct (fun i => S 5 (i + 1)) n0 then 6 else 4)) ((if_neg hlt).symm) ?_
      refine va_put (D := (dC, dI)) (ci := 3) (v := .int (if t0 ≤ mz_ct (fun i => S 5 (i + 1)) n0 then 6 else 4)) (ty := .int) (C := "DealtSecretModel") (T := T_M) (N := 24) hx hb hts i_M t_M t_M_ok n_M hown hK hP hD hS 0 rfl rfl 4 (by decide) (hts _ k_447) (fun _ h9 => h9) rfl (by decide +kernel) (rfl) (rfl) (Nat.le_of_ble_eq_true rfl) d_M_advance_241 (fun H locs hP hD hS => ?_)
      have hP : va_P (dC, dI) cls (wM Y cI cZ p0 q0 g0 h0 (up (up S 0 1 0) 0 0 (if t0 ≤ mz_ct (fun i => S 5 (i + 1)) n0 then 6 else 4))) H := by rw [← w_ms0]; exact hP
      have hD : va_D (w_A (wM Y cI cZ p0 q0 g0 h0 (S))) (wM Y cI cZ p0 q0 g0 h0 (up (up S 0 1 0) 0 0 (if t0 ≤ mz_ct (fun i => S 5 (i + 1)) n0 then 6 else 4))) := by rw [← w_ms0]; exact hD
      refine lv_aload_n hx hb d_M_advance_244 rfl (lv_at hl 1 rfl) ?_
      refine va_get (D := (dC, dI)) (ci := 3) (v := .int ((up (up S 0 1 0) 0 0 (if t0 ≤ mz_ct (fun i => S 5 (i + 1)) n0 then 6 else 4)) 0 0)) (C := "DealtSecretModel") (T := T_M) (N := 24) hx hb hts i_M hown hK hP 0 rfl rfl 4 (by decide) (hts _ k_447) (fun _ h9 => h9) rfl d_M_advance_245 ?_
      refine x_i (y := (if t0 ≤ mz_ct (fun i => S 5 (i + 1)) n0 then 6 else 4)) (up_at _ _ _ _) ?_
      exact wr_i hx hb hr hlk hP hS d_M_advance_248
  have loop : ∀ (n j : Nat) (H : Heap) (locs : List Loc) (ls : Array Slot), n0 + 1 ≤ j + n → j ≤ n0 → va_P (dC, dI) cls (wM Y cI cZ p0 q0 g0 h0 (up S 0 1 0)) H → va_D (w_A (wM Y cI cZ p0 q0 g0 h0 (S))) (wM Y cI cZ p0 q0 g0 h0 (up S 0 1 0)) → va_S (w_A (wM Y cI cZ p0 q0 g0 h0 (S))) s.heap H locs → lv_has ls 4 [(0, .ref (Y 0)), (1, .int (nI (mz_ct (fun i => S 5 (i + 1)) j))), (2, .int (mz_b (wlM p0 g0 h0 t0 S j))), (3, .int (nI (j + 1)))] → W p l e (headSpec ws_M_advance { frames := 4, cells := 0, slots := 0, locals := 95 }).room s m [.ref (Y 0)].toArray below meth c H locs 0 0 (MQ below (fun _ st o t => o = .returned (some (.int (if t0 ≤ mz_ct (fun i => S 5 (i + 1)) n0 then 6 else 4))) ∧ va_P (dC, dI) cls (wM Y cI cZ p0 q0 g0 h0 (up (up S 0 1 0) 0 0 (if t0 ≤ mz_ct (fun i => S 5 (i + 1)) n0 then 6 else 4))) t.heap ∧ va_F (w_A (wM Y cI cZ p0 q0 g0 h0 (S))) st t) [.ref (Y 0)].toArray s 0 0 (w_A (wM Y cI cZ p0 q0 g0 h0 (S)))) (F0 m 36 ls []) := by
    intro n
    induction n with
    | zero =>
      intro j H locs ls h1 h2
      omega
    | succ n ih =>
      intro j H locs ls h1 h2 hP hD hS hl
      refine lv_iload_n hx hb d_M_advance_36 rfl (lv_at hl 3 rfl) ?_
      refine lv_aload_n hx hb d_M_advance_37 rfl (lv_at hl 0 rfl) ?_
      refine va_get (D := (dC, dI)) (ci := 3) (v := .int ((up S 0 1 0) 0 2)) (C := "DealtSecretModel") (T := T_M) (N := 24) hx hb hts i_M hown hK hP 0 rfl rfl 6 (by decide) (hts _ k_449) (fun _ h9 => h9) rfl d_M_advance_38 ?_
      refine x_i (y := nI n0) (hn) ?_
      refine lv_icmp_gt (tgt := 115) hx hb d_M_advance_41 (by decide) (fun c41 => ?_) (fun c41 => ?_)
      · have hk : j = n0 := by
          have h5 : n0 < j + 1 := (nI_ltI (by omega) (by omega)).mp c41
          omega
        rw [hk] at hl
        exact k115 H locs ls hP hD hS (lv_sub hl [0, 1, 2, 3] rfl)
      · have hk : j < n0 := by
          rcases Nat.lt_or_ge j n0 with q | q
          · exact q
          · exact absurd (nI_lt (show n0 < j + 1 by omega) (by omega)) c41
        have hul := (hU j hk).lt
        have hvl := (hV j hk).lt
        refine lv_aload_n hx hb d_M_advance_44 rfl (lv_at hl 0 rfl) ?_
        refine va_get (D := (dC, dI)) (ci := 3) (v := .ref (Y 5)) (C := "DealtSecretModel") (T := T_M) (N := 24) hx hb hts i_M hown hK hP 0 rfl rfl 13 (by decide) (hts _ k_456) (fun _ h9 => h9) rfl d_M_advance_45 ?_
        refine lv_iload_n hx hb d_M_advance_48 rfl (lv_at hl 3 rfl) ?_
        refine va_zald hx hb hK hP 5 1 rfl rfl (vp_in_nI (by omega) (by decide)) d_M_advance_49 ?_
        refine x_i (y := (up S 0 1 0) 5 (j + 1)) (by rw [nI_clamp (by omega)]) ?_
        refine x_i (y := S 5 (j + 1)) (rfl) ?_
        refine lv_if_eq (tgt := 59) hx hb d_M_advance_50 (by decide) (fun c50 => ?_) (fun c50 => ?_)
        · refine lv_iload_n hx hb d_M_advance_59 rfl (lv_at hl 1 rfl) ?_
          refine lv_istore_n (lv' := [(1, .int (nI (mz_ct (fun i => S 5 (i + 1)) j))), (0, .ref (Y 0)), (2, .int (mz_b (wlM p0 g0 h0 t0 S j))), (3, .int (nI (j + 1)))]) hx hb d_M_advance_60 rfl hl (by decide) rfl (fun ls hl => ?_)
          refine lv_iload_n hx hb d_M_advance_61 rfl (lv_at hl 2 rfl) ?_
          refine lv_if_eq (tgt := 107) hx hb d_M_advance_62 (by decide) (fun c62 => ?_) (fun c62 => ?_)
          · refine lv_iconst (v := 0) hx hb d_M_advance_107 (by decide) ?_
            refine x_i (y := mz_b (wlM p0 g0 h0 t0 S (j + 1))) ((mz_bf (fun q => by first | exact mz_b0.mp c62 (wlM_s.mp q).1 | exact (wlM_s.mp q).2.elim c71 (fun z => z.1 c80) | exact (wlM_s.mp q).2.elim c71 (fun z => mz_b0.mp c100 z.2))).symm) ?_
            refine lv_istore_n (lv' := [(2, .int (mz_b (wlM p0 g0 h0 t0 S (j + 1)))), (1, .int (nI (mz_ct (fun i => S 5 (i + 1)) j))), (0, .ref (Y 0)), (3, .int (nI (j + 1)))]) hx hb d_M_advance_108 rfl hl (by decide) rfl (fun ls hl => ?_)
            refine lv_iinc (v := (nI (j + 1 + 1))) (lv' := [(3, .int (nI (j + 1 + 1))), (2, .int (mz_b (wlM p0 g0 h0 t0 S (j + 1)))), (1, .int (nI (mz_ct (fun i => S 5 (i + 1)) j))), (0, .ref (Y 0))]) hx hb d_M_advance_109 hl (k := 3) rfl (nI_1 (j + 1)) (by decide) rfl (fun ls hl => ?_)
            refine lv_goto (tgt := 36) hx hb d_M_advance_112 (by decide) ?_
            exact ih (j + 1) H locs ls (by omega) (by omega) hP hD hS (by rw [mz_ct_0 (f := (fun i => S 5 (i + 1))) c50]; exact lv_sub hl [3, 2, 1, 0] rfl)
          · refine lv_aload_n hx hb d_M_advance_65 rfl (lv_at hl 1 rfl) ?_
            refine va_get (D := (dC, dI)) (ci := 3) (v := .ref (Y 5)) (C := "DealtSecretModel") (T := T_M) (N := 24) hx hb hts i_M hown hK hP 0 rfl rfl 13 (by decide) (hts _ k_456) (fun _ h9 => h9) rfl d_M_advance_66 ?_
            refine lv_iload_n hx hb d_M_advance_69 rfl (lv_at hl 3 rfl) ?_
            refine va_zald hx hb hK hP 5 1 rfl rfl (vp_in_nI (by omega) (by decide)) d_M_advance_70 ?_
            refine x_i (y := (up S 0 1 0) 5 (j + 1)) (by rw [nI_clamp (by omega)]) ?_
            refine x_i (y := S 5 (j + 1)) (rfl) ?_
            refine lv_if_eq (tgt := 103) hx hb d_M_advance_71 (by decide) (fun c71 => ?_) (fun c71 => ?_)
            · refine lv_iconst (v := 1) hx hb d_M_advance_103 (by decide) ?_
              refine x_i (y := mz_b (wlM p0 g0 h0 t0 S (j + 1))) ((mz_bt (wlM_s.mpr ⟨Classical.not_not.mp (fun z => c62 (mz_bf z)), by first | exact Or.inl c71 | exact Or.inr ⟨c80, Classical.not_not.mp (fun z => c100 (mz_bf z))⟩⟩)).symm) ?_
              refine lv_goto (tgt := 108) hx hb d_M_advance_104 (by decide) ?_
              refine lv_istore_n (lv' := [(2, .int (mz_b (wlM p0 g0 h0 t0 S (j + 1)))), (1, .int (nI (mz_ct (fun i => S 5 (i + 1)) j))), (0, .ref (Y 0)), (3, .int (nI (j + 1)))]) hx hb d_M_advance_108 rfl hl (by decide) rfl (fun ls hl => ?_)
              refine lv_iinc (v := (nI (j + 1 + 1))) (lv' := [(3, .int (nI (j + 1 + 1))), (2, .int (mz_b (wlM p0 g0 h0 t0 S (j + 1)))), (1, .int (nI (mz_ct (fun i => S 5 (i + 1)) j))), (0, .ref (Y 0))]) hx hb d_M_advance_109 hl (k := 3) rfl (nI_1 (j + 1)) (by decide) rfl (fun ls hl => ?_)
              refine lv_goto (tgt := 36) hx hb d_M_advance_112 (by decide) ?_
              exact ih (j + 1) H locs ls (by omega) (by omega) hP hD hS (by rw [mz_ct_0 (f := (fun i => S 5 (i + 1))) c50]; exact lv_sub hl [3, 2, 1, 0] rfl)
            · refine lv_aload_n hx hb d_M_advance_74 rfl (lv_at hl 1 rfl) ?_
              refine va_get (D := (dC, dI)) (ci := 3) (v := .ref (Y 6)) (C := "DealtSecretModel") (T := T_M) (N := 24) hx hb hts i_M hown hK hP 0 rfl rfl 14 (by decide) (hts _ k_457) (fun _ h9 => h9) rfl d_M_advance_75 ?_
              refine lv_iload_n hx hb d_M_advance_78 rfl (lv_at hl 3 rfl) ?_
              refine va_zald hx hb hK hP 6 1 rfl rfl (vp_in_nI (by omega) (by decide)) d_M_advance_79 ?_
              refine x_i (y := (up S 0 1 0) 6 (j + 1)) (by rw [nI_clamp (by omega)]) ?_
              refine x_i (y := S 6 (j + 1)) (rfl) ?_
              refine lv_if_eq (tgt := 107) hx hb d_M_advance_80 (by decide) (fun c80 => ?_) (fun c80 => ?_)
              · refine lv_iconst (v := 0) hx hb d_M_advance_107 (by decide) ?_
                refine x_i (y := mz_b (wlM p0 g0 h0 t0 S (j + 1))) ((mz_bf (fun q => by first | exact mz_b0.mp c62 (wlM_s.mp q).1 | exact (wlM_s.mp q).2.elim c71 (fun z => z.1 c80) | exact (wlM_s.mp q).2.elim c71 (fun z => mz_b0.mp c100 z.2))).symm) ?_
                refine lv_istore_n (lv' := [(2, .int (mz_b (wlM p0 g0 h0 t0 S (j + 1)))), (1, .int (nI (mz_ct (fun i => S 5 (i + 1)) j))), (0, .ref (Y 0)), (3, .int (nI (j + 1)))]) hx hb d_M_advance_108 rfl hl (by decide) rfl (fun ls hl => ?_)
                refine lv_iinc (v := (nI (j + 1 + 1))) (lv' := [(3, .int (nI (j + 1 + 1))), (2, .int (mz_b (wlM p0 g0 h0 t0 S (j + 1)))), (1, .int (nI (mz_ct (fun i => S 5 (i + 1)) j))), (0, .ref (Y 0))]) hx hb d_M_advance_109 hl (k := 3) rfl (nI_1 (j + 1)) (by decide) rfl (fun ls hl => ?_)
                refine lv_goto (tgt := 36) hx hb d_M_advance_112 (by decide) ?_
                exact ih (j + 1) H locs ls (by omega) (by omega) hP hD hS (by rw [mz_ct_0 (f := (fun i => S 5 (i + 1))) c50]; exact lv_sub hl [3, 2, 1, 0] rfl)
              · refine lv_aload_n hx hb d_M_advance_83 rfl (lv_at hl 1 rfl) ?_
                refine lv_iload_n hx hb d_M_advance_84 rfl (lv_at hl 3 rfl) ?_
                refine lv_aload_n hx hb d_M_advance_85 rfl (lv_at hl 1 rfl) ?_
                refine va_get (D := (dC, dI)) (ci := 3) (v := .ref (Y 7)) (C := "DealtSecretModel") (T := T_M) (N := 24) hx hb hts i_M hown hK hP 0 rfl rfl 15 (by decide) (hts _ k_458) (fun _ h9 => h9) rfl d_M_advance_86 ?_
                refine lv_iload_n hx hb d_M_advance_89 rfl (lv_at hl 3 rfl) ?_
                refine va_iald hx hb hK hP 7 0 rfl rfl (vp_in_nI (by omega) (by decide)) d_M_advance_90 ?_
                refine x_i (y := (up S 0 1 0) 7 (j + 1)) (by rw [nI_clamp (by omega)]) ?_
                refine x_i (y := nI (nn (S 7 (j + 1)))) ((hU j hk).eq) ?_
                refine lv_aload_n hx hb d_M_advance_91 rfl (lv_at hl 1 rfl) ?_
                refine va_get (D := (dC, dI)) (ci := 3) (v := .ref (Y 8)) (C := "DealtSecretModel") (T := T_M) (N := 24) hx hb hts i_M hown hK hP 0 rfl rfl 16 (by decide) (hts _ k_459) (fun _ h9 => h9) rfl d_M_advance_92 ?_
                refine lv_iload_n hx hb d_M_advance_95 rfl (lv_at hl 3 rfl) ?_
                refine va_iald hx hb hK hP 8 0 rfl rfl (vp_in_nI (by omega) (by decide)) d_M_advance_96 ?_
                refine x_i (y := (up S 0 1 0) 8 (j + 1)) (by rw [nI_clamp (by omega)]) ?_
                refine x_i (y := nI (nn (S 8 (j + 1)))) ((hV j hk).eq) ?_
                refine ro_V (As := [.int (nI (j + 1)), .int (nI (nn (S 7 (j + 1)))), .int (nI (nn (S 8 (j + 1))))]) (rest := []) (b := (Y 0)) ⟨hx, hb, hml, hown, hts⟩ (c_M_fit l dC dI Y cI cZ p0 q0 g0 h0 (up S 0 1 0) (j + 1) (nn (S 7 (j + 1))) (nn (S 8 (j + 1))) t0 ok (by omega) (by omega) (by omega) ht ht7 hC) (cwV 3 hts (al_V k_542 k_543 k_651 k_4 k_544) rfl rfl rfl (by decide +kernel) ⟨Nat.le_of_ble_eq_true rfl, Nat.le_of_ble_eq_true rfl⟩) (fun U g mk a h => ⟨h.1, va_K.moved (u := U) (U := U.calling g mk a) (Vm.Alike.refl U.vm) h.2⟩) (va_recv hK hP (ci := 3) (q0 := 0) rfl rfl) (fun U hU hW => ⟨by rw [hU]; exact hP, va_K.moved hW.alike hK⟩) rfl hl.1 rfl (lv_room (Nat.le_of_ble_eq_true rfl)) d_M_advance_97 ⟨Nat.zero_le _, Nat.zero_le _⟩ ?_
                refine lv_if_eq (tgt := 107) hx hb d_M_advance_100 (by decide) (fun c100 => ?_) (fun c100 => ?_)
                · refine lv_iconst (v := 0) hx hb d_M_advance_107 (by decide) ?_
                  refine x_i (y := mz_b (wlM p0 g0 h0 t0 S (j + 1))) ((mz_bf (fun q => by first | exact mz_b0.mp c62 (wlM_s.mp q).1 | exact (wlM_s.mp q).2.elim c71 (fun z => z.1 c80) | exact (wlM_s.mp q).2.elim c71 (fun z => mz_b0.mp c100 z.2))).symm) ?_
                  refine lv_istore_n (lv' := [(2, .int (mz_b (wlM p0 g0 h0 t0 S (j + 1)))), (1, .int (nI (mz_ct (fun i => S 5 (i + 1)) j))), (0, .ref (Y 0)), (3, .int (nI (j + 1)))]) hx hb d_M_advance_108 rfl hl (by decide) rfl (fun ls hl => ?_)
                  refine lv_iinc (v := (nI (j + 1 + 1))) (lv' := [(3, .int (nI (j + 1 + 1))), (2, .int (mz_b (wlM p0 g0 h0 t0 S (j + 1)))), (1, .int (nI (mz_ct (fun i => S 5 (i + 1)) j))), (0, .ref (Y 0))]) hx hb d_M_advance_109 hl (k := 3) rfl (nI_1 (j + 1)) (by decide) rfl (fun ls hl => ?_)
                  refine lv_goto (tgt := 36) hx hb d_M_advance_112 (by decide) ?_
                  exact ih (j + 1) H locs ls (by omega) (by omega) hP hD hS (by rw [mz_ct_0 (f := (fun i => S 5 (i + 1))) c50]; exact lv_sub hl [3, 2, 1, 0] rfl)
                · refine lv_iconst (v := 1) hx hb d_M_advance_103 (by decide) ?_
                  refine x_i (y := mz_b (wlM p0 g0 h0 t0 S (j + 1))) ((mz_bt (wlM_s.mpr ⟨Classical.not_not.mp (fun z => c62 (mz_bf z)), by first | exact Or.inl c71 | exact Or.inr ⟨c80, Classical.not_not.mp (fun z => c100 (mz_bf z))⟩⟩)).symm) ?_
                  refine lv_goto (tgt := 108) hx hb d_M_advance_104 (by decide) ?_
                  refine lv_istore_n (lv' := [(2, .int (mz_b (wlM p0 g0 h0 t0 S (j + 1)))), (1, .int (nI (mz_ct (fun i => S 5 (i + 1)) j))), (0, .ref (Y 0)), (3, .int (nI (j + 1)))]) hx hb d_M_advance_108 rfl hl (by decide) rfl (fun ls hl => ?_)
                  refine lv_iinc (v := (nI (j + 1 + 1))) (lv' := [(3, .int (nI (j + 1 + 1))), (2, .int (mz_b (wlM p0 g0 h0 t0 S (j + 1)))), (1, .int (nI (mz_ct (fun i => S 5 (i + 1)) j))), (0, .ref (Y 0))]) hx hb d_M_advance_109 hl (k := 3) rfl (nI_1 (j + 1)) (by decide) rfl (fun ls hl => ?_)
                  refine lv_goto (tgt := 36) hx hb d_M_advance_112 (by decide) ?_
                  exact ih (j + 1) H locs ls (by omega) (by omega) hP hD hS (by rw [mz_ct_0 (f := (fun i => S 5 (i + 1))) c50]; exact lv_sub hl [3, 2, 1, 0] rfl)
        · refine lv_iload_n hx hb d_M_advance_53 rfl (lv_at hl 1 rfl) ?_
          refine lv_iconst (v := 1) hx hb d_M_advance_54 (by decide) ?_
          refine lv_iadd hx hb d_M_advance_55 ?_
          refine x_i (y := nI (mz_ct (fun i => S 5 (i + 1)) (j + 1))) ((nI_1 _).trans (by rw [mz_ct_1 (f := (fun i => S 5 (i + 1))) c50])) ?_
          refine lv_goto (tgt := 60) hx hb d_M_advance_56 (by decide) ?_
          refine lv_istore_n (lv' := [(1, .int (nI (mz_ct (fun i => S 5 (i + 1)) (j + 1)))), (0, .ref (Y 0)), (2, .int (mz_b (wlM p0 g0 h0 t0 S j))), (3, .int (nI (j + 1)))]) hx hb d_M_advance_60 rfl hl (by decide) rfl (fun ls hl => ?_)
          refine lv_iload_n hx hb d_M_advance_61 rfl (lv_at hl 2 rfl) ?_
          refine lv_if_eq (tgt := 107) hx hb d_M_advance_62 (by decide) (fun c62 => ?_) (fun c62 => ?_)
          · refine lv_iconst (v := 0) hx hb d_M_advance_107 (by decide) ?_
            refine x_i (y := mz_b (wlM p0 g0 h0 t0 S (j + 1))) ((mz_bf (fun q => by first | exact mz_b0.mp c62 (wlM_s.mp q).1 | exact (wlM_s.mp q).2.elim c71 (fun z => z.1 c80) | exact (wlM_s.mp q).2.elim c71 (fun z => mz_b0.mp c100 z.2))).symm) ?_
            refine lv_istore_n (lv' := [(2, .int (mz_b (wlM p0 g0 h0 t0 S (j + 1)))), (1, .int (nI (mz_ct (fun i => S 5 (i + 1)) (j + 1)))), (0, .ref (Y 0)), (3, .int (nI (j + 1)))]) hx hb d_M_advance_108 rfl hl (by decide) rfl (fun ls hl => ?_)
            refine lv_iinc (v := (nI (j + 1 + 1))) (lv' := [(3, .int (nI (j + 1 + 1))), (2, .int (mz_b (wlM p0 g0 h0 t0 S (j + 1)))), (1, .int (nI (mz_ct (fun i => S 5 (i + 1)) (j + 1)))), (0, .ref (Y 0))]) hx hb d_M_advance_109 hl (k := 3) rfl (nI_1 (j + 1)) (by decide) rfl (fun ls hl => ?_)
            refine lv_goto (tgt := 36) hx hb d_M_advance_112 (by decide) ?_
            exact ih (j + 1) H locs ls (by omega) (by omega) hP hD hS (lv_sub hl [3, 2, 1, 0] rfl)
          · refine lv_aload_n hx hb d_M_advance_65 rfl (lv_at hl 1 rfl) ?_
            refine va_get (D := (dC, dI)) (ci := 3) (v := .ref (Y 5)) (C := "DealtSecretModel") (T := T_M) (N := 24) hx hb hts i_M hown hK hP 0 rfl rfl 13 (by decide) (hts _ k_456) (fun _ h9 => h9) rfl d_M_advance_66 ?_
            refine lv_iload_n hx hb d_M_advance_69 rfl (lv_at hl 3 rfl) ?_
            refine va_zald hx hb hK hP 5 1 rfl rfl (vp_in_nI (by omega) (by decide)) d_M_advance_70 ?_
            refine x_i (y := (up S 0 1 0) 5 (j + 1)) (by rw [nI_clamp (by omega)]) ?_
            refine x_i (y := S 5 (j + 1)) (rfl) ?_
            refine lv_if_eq (tgt := 103) hx hb d_M_advance_71 (by decide) (fun c71 => ?_) (fun c71 => ?_)
            · refine lv_iconst (v := 1) hx hb d_M_advance_103 (by decide) ?_
              refine x_i (y := mz_b (wlM p0 g0 h0 t0 S (j + 1))) ((mz_bt (wlM_s.mpr ⟨Classical.not_not.mp (fun z => c62 (mz_bf z)), by first | exact Or.inl c71 | exact Or.inr ⟨c80, Classical.not_not.mp (fun z => c100 (mz_bf z))⟩⟩)).symm) ?_
              refine lv_goto (tgt := 108) hx hb d_M_advance_104 (by decide) ?_
              refine lv_istore_n (lv' := [(2, .int (mz_b (wlM p0 g0 h0 t0 S (j + 1)))), (1, .int (nI (mz_ct (fun i => S 5 (i + 1)) (j + 1)))), (0, .ref (Y 0)), (3, .int (nI (j + 1)))]) hx hb d_M_advance_108 rfl hl (by decide) rfl (fun ls hl => ?_)
              refine lv_iinc (v := (nI (j + 1 + 1))) (lv' := [(3, .int (nI (j + 1 + 1))), (2, .int (mz_b (wlM p0 g0 h0 t0 S (j + 1)))), (1, .int (nI (mz_ct (fun i => S 5 (i + 1)) (j + 1)))), (0, .ref (Y 0))]) hx hb d_M_advance_109 hl (k := 3) rfl (nI_1 (j + 1)) (by decide) rfl (fun ls hl => ?_)
              refine lv_goto (tgt := 36) hx hb d_M_advance_112 (by decide) ?_
              exact ih (j + 1) H locs ls (by omega) (by omega) hP hD hS (lv_sub hl [3, 2, 1, 0] rfl)
            · refine lv_aload_n hx hb d_M_advance_74 rfl (lv_at hl 1 rfl) ?_
              refine va_get (D := (dC, dI)) (ci := 3) (v := .ref (Y 6)) (C := "DealtSecretModel") (T := T_M) (N := 24) hx hb hts i_M hown hK hP 0 rfl rfl 14 (by decide) (hts _ k_457) (fun _ h9 => h9) rfl d_M_advance_75 ?_
              refine lv_iload_n hx hb d_M_advance_78 rfl (lv_at hl 3 rfl) ?_
              refine va_zald hx hb hK hP 6 1 rfl rfl (vp_in_nI (by omega) (by decide)) d_M_advance_79 ?_
              refine x_i (y := (up S 0 1 0) 6 (j + 1)) (by rw [nI_clamp (by omega)]) ?_
              refine x_i (y := S 6 (j + 1)) (rfl) ?_
              refine lv_if_eq (tgt := 107) hx hb d_M_advance_80 (by decide) (fun c80 => ?_) (fun c80 => ?_)
              · refine lv_iconst (v := 0) hx hb d_M_advance_107 (by decide) ?_
                refine x_i (y := mz_b (wlM p0 g0 h0 t0 S (j + 1))) ((mz_bf (fun q => by first | exact mz_b0.mp c62 (wlM_s.mp q).1 | exact (wlM_s.mp q).2.elim c71 (fun z => z.1 c80) | exact (wlM_s.mp q).2.elim c71 (fun z => mz_b0.mp c100 z.2))).symm) ?_
                refine lv_istore_n (lv' := [(2, .int (mz_b (wlM p0 g0 h0 t0 S (j + 1)))), (1, .int (nI (mz_ct (fun i => S 5 (i + 1)) (j + 1)))), (0, .ref (Y 0)), (3, .int (nI (j + 1)))]) hx hb d_M_advance_108 rfl hl (by decide) rfl (fun ls hl => ?_)
                refine lv_iinc (v := (nI (j + 1 + 1))) (lv' := [(3, .int (nI (j + 1 + 1))), (2, .int (mz_b (wlM p0 g0 h0 t0 S (j + 1)))), (1, .int (nI (mz_ct (fun i => S 5 (i + 1)) (j + 1)))), (0, .ref (Y 0))]) hx hb d_M_advance_109 hl (k := 3) rfl (nI_1 (j + 1)) (by decide) rfl (fun ls hl => ?_)
                refine lv_goto (tgt := 36) hx hb d_M_advance_112 (by decide) ?_
                exact ih (j + 1) H locs ls (by omega) (by omega) hP hD hS (lv_sub hl [3, 2, 1, 0] rfl)
              · refine lv_aload_n hx hb d_M_advance_83 rfl (lv_at hl 1 rfl) ?_
                refine lv_iload_n hx hb d_M_advance_84 rfl (lv_at hl 3 rfl) ?_
                refine lv_aload_n hx hb d_M_advance_85 rfl (lv_at hl 1 rfl) ?_
                refine va_get (D := (dC, dI)) (ci := 3) (v := .ref (Y 7)) (C := "DealtSecretModel") (T := T_M) (N := 24) hx hb hts i_M hown hK hP 0 rfl rfl 15 (by decide) (hts _ k_458) (fun _ h9 => h9) rfl d_M_advance_86 ?_
                refine lv_iload_n hx hb d_M_advance_89 rfl (lv_at hl 3 rfl) ?_
                refine va_iald hx hb hK hP 7 0 rfl rfl (vp_in_nI (by omega) (by decide)) d_M_advance_90 ?_
                refine x_i (y := (up S 0 1 0) 7 (j + 1)) (by rw [nI_clamp (by omega)]) ?_
                refine x_i (y := nI (nn (S 7 (j + 1)))) ((hU j hk).eq) ?_
                refine lv_aload_n hx hb d_M_advance_91 rfl (lv_at hl 1 rfl) ?_
                refine va_get (D := (dC, dI)) (ci := 3) (v := .ref (Y 8)) (C := "DealtSecretModel") (T := T_M) (N := 24) hx hb hts i_M hown hK hP 0 rfl rfl 16 (by decide) (hts _ k_459) (fun _ h9 => h9) rfl d_M_advance_92 ?_
                refine lv_iload_n hx hb d_M_advance_95 rfl (lv_at hl 3 rfl) ?_
                refine va_iald hx hb hK hP 8 0 rfl rfl (vp_in_nI (by omega) (by decide)) d_M_advance_96 ?_
                refine x_i (y := (up S 0 1 0) 8 (j + 1)) (by rw [nI_clamp (by omega)]) ?_
                refine x_i (y := nI (nn (S 8 (j + 1)))) ((hV j hk).eq) ?_
                refine ro_V (As := [.int (nI (j + 1)), .int (nI (nn (S 7 (j + 1)))), .int (nI (nn (S 8 (j + 1))))]) (rest := []) (b := (Y 0)) ⟨hx, hb, hml, hown, hts⟩ (c_M_fit l dC dI Y cI cZ p0 q0 g0 h0 (up S 0 1 0) (j + 1) (nn (S 7 (j + 1))) (nn (S 8 (j + 1))) t0 ok (by omega) (by omega) (by omega) ht ht7 hC) (cwV 3 hts (al_V k_542 k_543 k_651 k_4 k_544) rfl rfl rfl (by decide +kernel) ⟨Nat.le_of_ble_eq_true rfl, Nat.le_of_ble_eq_true rfl⟩) (fun U g mk a h => ⟨h.1, va_K.moved (u := U) (U := U.calling g mk a) (Vm.Alike.refl U.vm) h.2⟩) (va_recv hK hP (ci := 3) (q0 := 0) rfl rfl) (fun U hU hW => ⟨by rw [hU]; exact hP, va_K.moved hW.alike hK⟩) rfl hl.1 rfl (lv_room (Nat.le_of_ble_eq_true rfl)) d_M_advance_97 ⟨Nat.zero_le _, Nat.zero_le _⟩ ?_
                refine lv_if_eq (tgt := 107) hx hb d_M_advance_100 (by decide) (fun c100 => ?_) (fun c100 => ?_)
                · refine lv_iconst (v := 0) hx hb d_M_advance_107 (by decide) ?_
                  refine x_i (y := mz_b (wlM p0 g0 h0 t0 S (j + 1))) ((mz_bf (fun q => by first | exact mz_b0.mp c62 (wlM_s.mp q).1 | exact (wlM_s.mp q).2.elim c71 (fun z => z.1 c80) | exact (wlM_s.mp q).2.elim c71 (fun z => mz_b0.mp c100 z.2))).symm) ?_
                  refine lv_istore_n (lv' := [(2, .int (mz_b (wlM p0 g0 h0 t0 S (j + 1)))), (1, .int (nI (mz_ct (fun i => S 5 (i + 1)) (j + 1)))), (0, .ref (Y 0)), (3, .int (nI (j + 1)))]) hx hb d_M_advance_108 rfl hl (by decide) rfl (fun ls hl => ?_)
                  refine lv_iinc (v := (nI (j + 1 + 1))) (lv' := [(3, .int (nI (j + 1 + 1))), (2, .int (mz_b (wlM p0 g0 h0 t0 S (j + 1)))), (1, .int (nI (mz_ct (fun i => S 5 (i + 1)) (j + 1)))), (0, .ref (Y 0))]) hx hb d_M_advance_109 hl (k := 3) rfl (nI_1 (j + 1)) (by decide) rfl (fun ls hl => ?_)
                  refine lv_goto (tgt := 36) hx hb d_M_advance_112 (by decide) ?_
                  exact ih (j + 1) H locs ls (by omega) (by omega) hP hD hS (lv_sub hl [3, 2, 1, 0] rfl)
                · refine lv_iconst (v := 1) hx hb d_M_advance_103 (by decide) ?_
                  refine x_i (y := mz_b (wlM p0 g0 h0 t0 S (j + 1))) ((mz_bt (wlM_s.mpr ⟨Classical.not_not.mp (fun z => c62 (mz_bf z)), by first | exact Or.inl c71 | exact Or.inr ⟨c80, Classical.not_not.mp (fun z => c100 (mz_bf z))⟩⟩)).symm) ?_
                  refine lv_goto (tgt := 108) hx hb d_M_advance_104 (by decide) ?_
                  refine lv_istore_n (lv' := [(2, .int (mz_b (wlM p0 g0 h0 t0 S (j + 1)))), (1, .int (nI (mz_ct (fun i => S 5 (i + 1)) (j + 1)))), (0, .ref (Y 0)), (3, .int (nI (j + 1)))]) hx hb d_M_advance_108 rfl hl (by decide) rfl (fun ls hl => ?_)
                  refine lv_iinc (v := (nI (j + 1 + 1))) (lv' := [(3, .int (nI (j + 1 + 1))), (2, .int (mz_b (wlM p0 g0 h0 t0 S (j + 1)))), (1, .int (nI (mz_ct (fun i => S 5 (i + 1)) (j + 1)))), (0, .ref (Y 0))]) hx hb d_M_advance_109 hl (k := 3) rfl (nI_1 (j + 1)) (by decide) rfl (fun ls hl => ?_)
                  refine lv_goto (tgt := 36) hx hb d_M_advance_112 (by decide) ?_
                  exact ih (j + 1) H locs ls (by omega) (by omega) hP hD hS (lv_sub hl [3, 2, 1, 0] rfl)
  refine lv_aload_n hx hb d_M_advance_0 rfl (lv_at hl 0 rfl) ?_
  refine lv_aload_n hx hb d_M_advance_1 rfl (lv_at hl 0 rfl) ?_
  refine va_get (D := (dC, dI)) (ci := 3) (v := .int (S 0 0)) (C := "DealtSecretModel") (T := T_M) (N := 24) hx hb hts i_M hown hK hP 0 rfl rfl 4 (by decide) (hts _ k_447) (fun _ h9 => h9) rfl d_M_advance_2 ?_
  refine x_i (y := 3) (hst) ?_
  refine lv_if_eq (tgt := 16) hx hb d_M_advance_5 (by decide) (fun c_ => absurd c_ (by decide)) (fun _ => ?_)
  refine lv_aload_n hx hb d_M_advance_8 rfl (lv_at hl 0 rfl) ?_
  refine va_get (D := (dC, dI)) (ci := 3) (v := .int (S 0 0)) (C := "DealtSecretModel") (T := T_M) (N := 24) hx hb hts i_M hown hK hP 0 rfl rfl 4 (by decide) (hts _ k_447) (fun _ h9 => h9) rfl d_M_advance_9 ?_
  refine x_i (y := 3) (hst) ?_
  refine lv_iconst (v := 5) hx hb d_M_advance_12 (by decide) ?_
  refine lv_icmp_lt (tgt := 20) hx hb d_M_advance_13 (by decide) (fun _ => ?_) (fun c_ => absurd (by decide) c_)
  refine lv_iconst (v := 0) hx hb d_M_advance_20 (by decide) ?_
  refine lv_iconst (v := 0) hx hb d_M_advance_21 (by decide) ?_
  refine wr_V (As := [.int 0, .int 0]) (rest := []) (b := (Y 0)) ⟨hx, hb, hml, hown, hts⟩ (c_M_refuses l dC dI Y cI cZ p0 q0 g0 h0 S 0 0 0 0 (by decide) (by decide)) (cwV 2 hts (al_V k_532 k_533 k_649 k_4 k_534) rfl rfl rfl (by decide +kernel) ⟨Nat.le_of_ble_eq_true rfl, Nat.le_of_ble_eq_true rfl⟩) (va_recv hK hP (ci := 3) (q0 := 0) rfl rfl) hP hK hD hS rfl hl.1 rfl (lv_room (Nat.le_of_ble_eq_true rfl)) d_M_advance_22 ⟨Nat.zero_le _, Nat.zero_le _⟩ (fun H locs hP _ _ hS => ?_)
  have hD := w_addr hD (w_adM S (up S 0 1 0))
  refine lv_if_eq (tgt := 30) hx hb d_M_advance_25 (by decide) (fun _ => ?_) (fun c_ => absurd (by decide) c_)
  refine lv_iconst (v := (nI (mz_ct (fun i => S 5 (i + 1)) 0))) hx hb d_M_advance_30 (by rfl) ?_
  refine lv_istore_n (lv' := [(1, .int (nI (mz_ct (fun i => S 5 (i + 1)) 0))), (0, .ref (Y 0))]) hx hb d_M_advance_31 rfl hl (by decide) rfl (fun ls hl => ?_)
  refine lv_iconst (v := 1) hx hb d_M_advance_32 (by decide) ?_
  refine x_i (y := mz_b (wlM p0 g0 h0 t0 S 0)) ((mz_bt (fun i hi => absurd hi (Nat.not_lt_zero i))).symm) ?_
  refine lv_istore_n (lv' := [(2, .int (mz_b (wlM p0 g0 h0 t0 S 0))), (1, .int (nI (mz_ct (fun i => S 5 (i + 1)) 0))), (0, .ref (Y 0))]) hx hb d_M_advance_33 rfl hl (by decide) rfl (fun ls hl => ?_)
  refine lv_iconst (v := (nI (0 + 1))) hx hb d_M_advance_34 (by decide) ?_
  refine lv_istore_n (lv' := [(3, .int (nI (0 + 1))), (2, .int (mz_b (wlM p0 g0 h0 t0 S 0))), (1, .int (nI (mz_ct (fun i => S 5 (i + 1)) 0))), (0, .ref (Y 0))]) hx hb d_M_advance_35 rfl hl (by decide) rfl (fun ls hl => ?_)
  exact loop (n0 + 1) 0 _ _ ls (by omega) (by omega) hP hD hS (lv_sub hl [3, 2, 1, 0] rfl)
set_option maxRecDepth 100000 in
set_option maxHeartbeats 4000000 in
/-- the reference's advance in stage 4 -/
theorem c_M_advance4 (l : Launch) (dC : Nat → ClassId) (dI : Nat → Nat → Nat) (Y : Nat → Nat) (cI cZ : ClassId) (p0 q0 g0 h0 : Nat) (S : Nat → Nat → Int32) (n0 t0 : Nat) (hst : S 0 0 = 4) (hn : S 0 2 = nI n0) (hn7 : n0 ≤ 7) (hU : ∀ j, j < n0 → okN (S 7 (j + 1)) q0) (hV : ∀ j, j < n0 → okN (S 8 (j + 1)) q0) (ht : S 0 3 = nI t0) (ht7 : t0 ≤ 7) (ok : okG p0 q0 g0 h0) (hC : ∀ k, k < t0 → okN (S 3 k) p0) : Wr l y_M_advance ws_M_advance 4 95 [.ref (Y 0)] (dC, dI) cls (tysM cI cZ) (wM Y cI cZ p0 q0 g0 h0 (S)) (wM Y cI cZ p0 q0 g0 h0 (up (up S 0 1 0) 0 0 (st5M p0 g0 h0 t0 S n0))) (some (.int (st5M p0 g0 h0 t0 S n0))) := by
  refine Met.ofW (cc := b_M_advance) (maxL := 4) (ret := (some .int)) (by decide) rfl ?_
  intro p e s m args below meth c s₁ B hml hv
  obtain ⟨rfl, hP, hK, hD0⟩ := hv
  have hx := B.exec
  have hb := B.bytes
  have hr := B.returns
  have hts : ∀ w ∈ AL, w.before ([.ref (Y 0)] : List Value).toArray s = true := fun w h => atoms_spec (ws := ws_M_advance) B.pre w (List.mem_cons_of_mem _ h)
  have hown : s.vm.findClass "DealtSecretModel" = some m.cls := findClass_of_methodNamed B.named
  have hlk := B.notSynchronized
  have hl := lv_entry ([.ref (Y 0)]) (n := 4) (Nat.le_of_ble_eq_true rfl)
  rw [lg_entry_eq]
  generalize (lg_sl ([.ref (Y 0)]) ++ List.replicate (4 - (lg_sl ([.ref (Y 0)])).length) Slot.unset).toArray = ls at hl ⊢
  have hl : lv_has ls 4 [(0, .ref (Y 0))] := hl
  have hD := w_self hD0
  have hS : va_S (w_A (wM Y cI cZ p0 q0 g0 h0 (S))) s.heap s.heap [] := va_S.rf
  obtain ⟨okp2, okp, okq2, okq, okg, okh⟩ := id ok
  have hct := mz_ct_le (fun i => S 5 (i + 1)) n0
  have k115 : ∀ (H : Heap) (locs : List Loc) (ls : Array Slot), va_P (dC, dI) cls (wM Y cI cZ p0 q0 g0 h0 (up S 0 1 0)) H → va_D (w_A (wM Y cI cZ p0 q0 g0 h0 (S))) (wM Y cI cZ p0 q0 g0 h0 (up S 0 1 0)) → va_S (w_A (wM Y cI cZ p0 q0 g0 h0 (S))) s.heap H locs → lv_has ls 4 [(0, .ref (Y 0)), (1, .int (nI (mz_ct (fun i => S 5 (i + 1)) n0))), (2, .int (mz_b (wlM p0 g0 h0 t0 S n0))), (3, .int (nI (n0 + 1)))] → W p l e (headSpec ws_M_advance { frames := 4, cells := 0, slots := 0, locals := 95 }).room s m [.ref (Y 0)].toArray below meth c H locs 0 0 (MQ below (fun _ st o t => o = .returned (some (.int (st5M p0 g0 h0 t0 S n0))) ∧ va_P (dC, dI) cls (wM Y cI cZ p0 q0 g0 h0 (up (up S 0 1 0) 0 0 (st5M p0 g0 h0 t0 S n0))) t.heap ∧ va_F (w_A (wM Y cI cZ p0 q0 g0 h0 (S))) st t) [.ref (Y 0)].toArray s 0 0 (w_A (wM Y cI cZ p0 q0 g0 h0 (S)))) (F0 m 115 ls []) := by
    intro H locs ls hP hD hS hl
    refine lv_aload_n hx hb d_M_advance_115 rfl (lv_at hl 0 rfl) ?_
    refine va_get (D := (dC, dI)) (ci := 3) (v := .int ((up S 0 1 0) 0 0)) (C := "DealtSecretModel") (T := T_M) (N := 24) hx hb hts i_M hown hK hP 0 rfl rfl 4 (by decide) (hts _ k_447) (fun _ h9 => h9) rfl d_M_advance_116 ?_
    refine x_i (y := 4) (hst) ?_
    refine lv_iconst (v := 1) hx hb d_M_advance_119 (by decide) ?_
    refine lv_icmp_ne (tgt := 127) hx hb d_M_advance_120 (by decide) (fun _ => ?_) (fun c_ => absurd c_ (show ¬ (4 : Int32) = 1 by decide))
    refine lv_aload_n hx hb d_M_advance_127 rfl (lv_at hl 0 rfl) ?_
    refine va_get (D := (dC, dI)) (ci := 3) (v := .int ((up S 0 1 0) 0 0)) (C := "DealtSecretModel") (T := T_M) (N := 24) hx hb hts i_M hown hK hP 0 rfl rfl 4 (by decide) (hts _ k_447) (fun _ h9 => h9) rfl d_M_advance_128 ?_
    refine x_i (y := 4) (hst) ?_
    refine lv_iconst (v := 2) hx hb d_M_advance_131 (by decide) ?_
    refine lv_icmp_ne (tgt := 191) hx hb d_M_advance_132 (by decide) (fun _ => ?_) (fun c_ => absurd c_ (show ¬ (4 : Int32) = 2 by decide))
    refine lv_aload_n hx hb d_M_advance_191 rfl (lv_at hl 0 rfl) ?_
    refine va_get (D := (dC, dI)) (ci := 3) (v := .int ((up S 0 1 0) 0 0)) (C := "DealtSecretModel") (T := T_M) (N := 24) hx hb hts i_M hown hK hP 0 rfl rfl 4 (by decide) (hts _ k_447) (fun _ h9 => h9) rfl d_M_advance_192 ?_
    refine x_i (y := 4) (hst) ?_
    refine lv_iconst (v := 3) hx hb d_M_advance_195 (by decide) ?_
    refine lv_icmp_ne (tgt := 207) hx hb d_M_advance_196 (by decide) (fun _ => ?_) (fun c_ => absurd c_ (show ¬ (4 : Int32) = 3 by decide))
    refine lv_aload_n hx hb d_M_advance_207 rfl (lv_at hl 0 rfl) ?_
    refine va_get (D := (dC, dI)) (ci := 3) (v := .int ((up S 0 1 0) 0 0)) (C := "DealtSecretModel") (T := T_M) (N := 24) hx hb hts i_M hown hK hP 0 rfl rfl 4 (by decide) (hts _ k_447) (fun _ h9 => h9) rfl d_M_advance_208 ?_
    refine x_i (y := 4) (hst) ?_
    refine lv_iconst (v := 4) hx hb d_M_advance_211 (by decide) ?_
    refine lv_icmp_ne (tgt := 223) hx hb d_M_advance_212 (by decide) (fun c_ => absurd (rfl) c_) (fun _ => ?_)
    refine lv_iload_n hx hb d_M_advance_215 rfl (lv_at hl 2 rfl) ?_
    refine lv_if_ne (tgt := 223) hx hb d_M_advance_216 (by decide) (fun c216 => ?_) (fun c216 => ?_)
    · have hw : wlM p0 g0 h0 t0 S n0 := Classical.not_not.mp (fun z => c216 (mz_bf z))
      refine lv_iconst (v := 0) hx hb d_M_advance_223 (by decide) ?_
      refine lv_istore_n (lv' := [(3, .int 0), (0, .ref (Y 0)), (1, .int (nI (mz_ct (fun i => S 5 (i + 1)) n0))), (2, .int (mz_b (wlM p0 g0 h0 t0 S n0)))]) hx hb d_M_advance_224 rfl hl (by decide) rfl (fun ls hl => ?_)
      refine lv_aload_n hx hb d_M_advance_225 rfl (lv_at hl 1 rfl) ?_
      refine lv_iload_n hx hb d_M_advance_226 rfl (lv_at hl 0 rfl) ?_
      refine lv_if_eq (tgt := 235) hx hb d_M_advance_227 (by decide) (fun _ => ?_) (fun c_ => absurd (rfl) c_)
      refine lv_aload_n hx hb d_M_advance_235 rfl (lv_at hl 1 rfl) ?_
      refine va_get (D := (dC, dI)) (ci := 3) (v := .int ((up S 0 1 0) 0 0)) (C := "DealtSecretModel") (T := T_M) (N := 24) hx hb hts i_M hown hK hP 0 rfl rfl 4 (by decide) (hts _ k_447) (fun _ h9 => h9) rfl d_M_advance_236 ?_
      refine x_i (y := 4) (hst) ?_
      refine lv_iconst (v := 1) hx hb d_M_advance_239 (by decide) ?_
      refine lv_iadd hx hb d_M_advance_240 ?_
      refine x_i (y := (st5M p0 g0 h0 t0 S n0)) ((show (4 : Int32) + 1 = 5 by decide).trans (if_pos hw).symm) ?_
      refine va_put (D := (dC, dI)) (ci := 3) (v := .int (st5M p0 g0 h0 t0 S n0)) (ty := .int) (C := "DealtSecretModel") (T := T_M) (N := 24) hx hb hts i_M t_M t_M_ok n_M hown hK hP hD hS 0 rfl rfl 4 (by decide) (hts _ k_447) (fun _ h9 => h9) rfl (by decide +kernel) (rfl) (rfl) (Nat.le_of_ble_eq_true rfl) d_M_advance_241 (fun H locs hP hD hS => ?_)
      have hP : va_P (dC, dI) cls (wM Y cI cZ p0 q0 g0 h0 (up (up S 0 1 0) 0 0 (st5M p0 g0 h0 t0 S n0))) H := by rw [← w_ms0]; exact hP
      have hD : va_D (w_A (wM Y cI cZ p0 q0 g0 h0 (S))) (wM Y cI cZ p0 q0 g0 h0 (up (up S 0 1 0) 0 0 (st5M p0 g0 h0 t0 S n0))) := by rw [← w_ms0]; exact hD
      refine lv_aload_n hx hb d_M_advance_244 rfl (lv_at hl 1 rfl) ?_
      refine va_get (D := (dC, dI)) (ci := 3) (v := .int ((up (up S 0 1 0) 0 0 (st5M p0 g0 h0 t0 S n0)) 0 0)) (C := "DealtSecretModel") (T := T_M) (N := 24) hx hb hts i_M hown hK hP 0 rfl rfl 4 (by decide) (hts _ k_447) (fun _ h9 => h9) rfl d_M_advance_245 ?_
      refine x_i (y := (st5M p0 g0 h0 t0 S n0)) (up_at _ _ _ _) ?_
      exact wr_i hx hb hr hlk hP hS d_M_advance_248
    · have hw : ¬ wlM p0 g0 h0 t0 S n0 := mz_b0.mp c216
      refine lv_iconst (v := 1) hx hb d_M_advance_219 (by decide) ?_
      refine lv_goto (tgt := 224) hx hb d_M_advance_220 (by decide) ?_
      refine lv_istore_n (lv' := [(3, .int 1), (0, .ref (Y 0)), (1, .int (nI (mz_ct (fun i => S 5 (i + 1)) n0))), (2, .int (mz_b (wlM p0 g0 h0 t0 S n0)))]) hx hb d_M_advance_224 rfl hl (by decide) rfl (fun ls hl => ?_)
      refine lv_aload_n hx hb d_M_advance_225 rfl (lv_at hl 1 rfl) ?_
      refine lv_iload_n hx hb d_M_advance_226 rfl (lv_at hl 0 rfl) ?_
      refine lv_if_eq (tgt := 235) hx hb d_M_advance_227 (by decide) (fun c_ => absurd c_ (by decide)) (fun _ => ?_)
      refine lv_bipush (v := 6) hx hb d_M_advance_230 (by decide) ?_
      refine x_i (y := (st5M p0 g0 h0 t0 S n0)) ((if_neg hw).symm) ?_
      refine lv_goto (tgt := 241) hx hb d_M_advance_232 (by decide) ?_
      refine va_put (D := (dC, dI)) (ci := 3) (v := .int (st5M p0 g0 h0 t0 S n0)) (ty := .int) (C := "DealtSecretModel") (T := T_M) (N := 24) hx hb hts i_M t_M t_M_ok n_M hown hK hP hD hS 0 rfl rfl 4 (by decide) (hts _ k_447) (fun _ h9 => h9) rfl (by decide +kernel) (rfl) (rfl) (Nat.le_of_ble_eq_true rfl) d_M_advance_241 (fun H locs hP hD hS => ?_)
      have hP : va_P (dC, dI) cls (wM Y cI cZ p0 q0 g0 h0 (up (up S 0 1 0) 0 0 (st5M p0 g0 h0 t0 S n0))) H := by rw [← w_ms0]; exact hP
      have hD : va_D (w_A (wM Y cI cZ p0 q0 g0 h0 (S))) (wM Y cI cZ p0 q0 g0 h0 (up (up S 0 1 0) 0 0 (st5M p0 g0 h0 t0 S n0))) := by rw [← w_ms0]; exact hD
      refine lv_aload_n hx hb d_M_advance_244 rfl (lv_at hl 1 rfl) ?_
      refine va_get (D := (dC, dI)) (ci := 3) (v := .int ((up (up S 0 1 0) 0 0 (st5M p0 g0 h0 t0 S n0)) 0 0)) (C := "DealtSecretModel") (T := T_M) (N := 24) hx hb hts i_M hown hK hP 0 rfl rfl 4 (by decide) (hts _ k_447) (fun _ h9 => h9) rfl d_M_advance_245 ?_
      refine x_i (y := (st5M p0 g0 h0 t0 S n0)) (up_at _ _ _ _) ?_
      exact wr_i hx hb hr hlk hP hS d_M_advance_248
  have loop : ∀ (n j : Nat) (H : Heap) (locs : List Loc) (ls : Array Slot), n0 + 1 ≤ j + n → j ≤ n0 → va_P (dC, dI) cls (wM Y cI cZ p0 q0 g0 h0 (up S 0 1 0)) H → va_D (w_A (wM Y cI cZ p0 q0 g0 h0 (S))) (wM Y cI cZ p0 q0 g0 h0 (up S 0 1 0)) → va_S (w_A (wM Y cI cZ p0 q0 g0 h0 (S))) s.heap H locs → lv_has ls 4 [(0, .ref (Y 0)), (1, .int (nI (mz_ct (fun i => S 5 (i + 1)) j))), (2, .int (mz_b (wlM p0 g0 h0 t0 S j))), (3, .int (nI (j + 1)))] → W p l e (headSpec ws_M_advance { frames := 4, cells := 0, slots := 0, locals := 95 }).room s m [.ref (Y 0)].toArray below meth c H locs 0 0 (MQ below (fun _ st o t => o = .returned (some (.int (st5M p0 g0 h0 t0 S n0))) ∧ va_P (dC, dI) cls (wM Y cI cZ p0 q0 g0 h0 (up (up S 0 1 0) 0 0 (st5M p0 g0 h0 t0 S n0))) t.heap ∧ va_F (w_A (wM Y cI cZ p0 q0 g0 h0 (S))) st t) [.ref (Y 0)].toArray s 0 0 (w_A (wM Y cI cZ p0 q0 g0 h0 (S)))) (F0 m 36 ls []) := by
    intro n
    induction n with
    | zero =>
      intro j H locs ls h1 h2
      omega
    | succ n ih =>
      intro j H locs ls h1 h2 hP hD hS hl
      refine lv_iload_n hx hb d_M_advance_36 rfl (lv_at hl 3 rfl) ?_
      refine lv_aload_n hx hb d_M_advance_37 rfl (lv_at hl 0 rfl) ?_
      refine va_get (D := (dC, dI)) (ci := 3) (v := .int ((up S 0 1 0) 0 2)) (C := "DealtSecretModel") (T := T_M) (N := 24) hx hb hts i_M hown hK hP 0 rfl rfl 6 (by decide) (hts _ k_449) (fun _ h9 => h9) rfl d_M_advance_38 ?_
      refine x_i (y := nI n0) (hn) ?_
      refine lv_icmp_gt (tgt := 115) hx hb d_M_advance_41 (by decide) (fun c41 => ?_) (fun c41 => ?_)
      · have hk : j = n0 := by
          have h5 : n0 < j + 1 := (nI_ltI (by omega) (by omega)).mp c41
          omega
        rw [hk] at hl
        exact k115 H locs ls hP hD hS (lv_sub hl [0, 1, 2, 3] rfl)
      · have hk : j < n0 := by
          rcases Nat.lt_or_ge j n0 with q | q
          · exact q
          · exact absurd (nI_lt (show n0 < j + 1 by omega) (by omega)) c41
        have hul := (hU j hk).lt
        have hvl := (hV j hk).lt
        refine lv_aload_n hx hb d_M_advance_44 rfl (lv_at hl 0 rfl) ?_
        refine va_get (D := (dC, dI)) (ci := 3) (v := .ref (Y 5)) (C := "DealtSecretModel") (T := T_M) (N := 24) hx hb hts i_M hown hK hP 0 rfl rfl 13 (by decide) (hts _ k_456) (fun _ h9 => h9) rfl d_M_advance_45 ?_
        refine lv_iload_n hx hb d_M_advance_48 rfl (lv_at hl 3 rfl) ?_
        refine va_zald hx hb hK hP 5 1 rfl rfl (vp_in_nI (by omega) (by decide)) d_M_advance_49 ?_
        refine x_i (y := (up S 0 1 0) 5 (j + 1)) (by rw [nI_clamp (by omega)]) ?_
        refine x_i (y := S 5 (j + 1)) (rfl) ?_
        refine lv_if_eq (tgt := 59) hx hb d_M_advance_50 (by decide) (fun c50 => ?_) (fun c50 => ?_)
        · refine lv_iload_n hx hb d_M_advance_59 rfl (lv_at hl 1 rfl) ?_
          refine lv_istore_n (lv' := [(1, .int (nI (mz_ct (fun i => S 5 (i + 1)) j))), (0, .ref (Y 0)), (2, .int (mz_b (wlM p0 g0 h0 t0 S j))), (3, .int (nI (j + 1)))]) hx hb d_M_advance_60 rfl hl (by decide) rfl (fun ls hl => ?_)
          refine lv_iload_n hx hb d_M_advance_61 rfl (lv_at hl 2 rfl) ?_
          refine lv_if_eq (tgt := 107) hx hb d_M_advance_62 (by decide) (fun c62 => ?_) (fun c62 => ?_)
          · refine lv_iconst (v := 0) hx hb d_M_advance_107 (by decide) ?_
            refine x_i (y := mz_b (wlM p0 g0 h0 t0 S (j + 1))) ((mz_bf (fun q => by first | exact mz_b0.mp c62 (wlM_s.mp q).1 | exact (wlM_s.mp q).2.elim c71 (fun z => z.1 c80) | exact (wlM_s.mp q).2.elim c71 (fun z => mz_b0.mp c100 z.2))).symm) ?_
            refine lv_istore_n (lv' := [(2, .int (mz_b (wlM p0 g0 h0 t0 S (j + 1)))), (1, .int (nI (mz_ct (fun i => S 5 (i + 1)) j))), (0, .ref (Y 0)), (3, .int (nI (j + 1)))]) hx hb d_M_advance_108 rfl hl (by decide) rfl (fun ls hl => ?_)
            refine lv_iinc (v := (nI (j + 1 + 1))) (lv' := [(3, .int (nI (j + 1 + 1))), (2, .int (mz_b (wlM p0 g0 h0 t0 S (j + 1)))), (1, .int (nI (mz_ct (fun i => S 5 (i + 1)) j))), (0, .ref (Y 0))]) hx hb d_M_advance_109 hl (k := 3) rfl (nI_1 (j + 1)) (by decide) rfl (fun ls hl => ?_)
            refine lv_goto (tgt := 36) hx hb d_M_advance_112 (by decide) ?_
            exact ih (j + 1) H locs ls (by omega) (by omega) hP hD hS (by rw [mz_ct_0 (f := (fun i => S 5 (i + 1))) c50]; exact lv_sub hl [3, 2, 1, 0] rfl)
          · refine lv_aload_n hx hb d_M_advance_65 rfl (lv_at hl 1 rfl) ?_
            refine va_get (D := (dC, dI)) (ci := 3) (v := .ref (Y 5)) (C := "DealtSecretModel") (T := T_M) (N := 24) hx hb hts i_M hown hK hP 0 rfl rfl 13 (by decide) (hts _ k_456) (fun _ h9 => h9) rfl d_M_advance_66 ?_
            refine lv_iload_n hx hb d_M_advance_69 rfl (lv_at hl 3 rfl) ?_
            refine va_zald hx hb hK hP 5 1 rfl rfl (vp_in_nI (by omega) (by decide)) d_M_advance_70 ?_
            refine x_i (y := (up S 0 1 0) 5 (j + 1)) (by rw [nI_clamp (by omega)]) ?_
            refine x_i (y := S 5 (j + 1)) (rfl) ?_
            refine lv_if_eq (tgt := 103) hx hb d_M_advance_71 (by decide) (fun c71 => ?_) (fun c71 => ?_)
            · refine lv_iconst (v := 1) hx hb d_M_advance_103 (by decide) ?_
              refine x_i (y := mz_b (wlM p0 g0 h0 t0 S (j + 1))) ((mz_bt (wlM_s.mpr ⟨Classical.not_not.mp (fun z => c62 (mz_bf z)), by first | exact Or.inl c71 | exact Or.inr ⟨c80, Classical.not_not.mp (fun z => c100 (mz_bf z))⟩⟩)).symm) ?_
              refine lv_goto (tgt := 108) hx hb d_M_advance_104 (by decide) ?_
              refine lv_istore_n (lv' := [(2, .int (mz_b (wlM p0 g0 h0 t0 S (j + 1)))), (1, .int (nI (mz_ct (fun i => S 5 (i + 1)) j))), (0, .ref (Y 0)), (3, .int (nI (j + 1)))]) hx hb d_M_advance_108 rfl hl (by decide) rfl (fun ls hl => ?_)
              refine lv_iinc (v := (nI (j + 1 + 1))) (lv' := [(3, .int (nI (j + 1 + 1))), (2, .int (mz_b (wlM p0 g0 h0 t0 S (j + 1)))), (1, .int (nI (mz_ct (fun i => S 5 (i + 1)) j))), (0, .ref (Y 0))]) hx hb d_M_advance_109 hl (k := 3) rfl (nI_1 (j + 1)) (by decide) rfl (fun ls hl => ?_)
              refine lv_goto (tgt := 36) hx hb d_M_advance_112 (by decide) ?_
              exact ih (j + 1) H locs ls (by omega) (by omega) hP hD hS (by rw [mz_ct_0 (f := (fun i => S 5 (i + 1))) c50]; exact lv_sub hl [3, 2, 1, 0] rfl)
            · refine lv_aload_n hx hb d_M_advance_74 rfl (lv_at hl 1 rfl) ?_
              refine va_get (D := (dC, dI)) (ci := 3) (v := .ref (Y 6)) (C := "DealtSecretModel") (T := T_M) (N := 24) hx hb hts i_M hown hK hP 0 rfl rfl 14 (by decide) (hts _ k_457) (fun _ h9 => h9) rfl d_M_advance_75 ?_
              refine lv_iload_n hx hb d_M_advance_78 rfl (lv_at hl 3 rfl) ?_
              refine va_zald hx hb hK hP 6 1 rfl rfl (vp_in_nI (by omega) (by decide)) d_M_advance_79 ?_
              refine x_i (y := (up S 0 1 0) 6 (j + 1)) (by rw [nI_clamp (by omega)]) ?_
              refine x_i (y := S 6 (j + 1)) (rfl) ?_
              refine lv_if_eq (tgt := 107) hx hb d_M_advance_80 (by decide) (fun c80 => ?_) (fun c80 => ?_)
              · refine lv_iconst (v := 0) hx hb d_M_advance_107 (by decide) ?_
                refine x_i (y := mz_b (wlM p0 g0 h0 t0 S (j + 1))) ((mz_bf (fun q => by first | exact mz_b0.mp c62 (wlM_s.mp q).1 | exact (wlM_s.mp q).2.elim c71 (fun z => z.1 c80) | exact (wlM_s.mp q).2.elim c71 (fun z => mz_b0.mp c100 z.2))).symm) ?_
                refine lv_istore_n (lv' := [(2, .int (mz_b (wlM p0 g0 h0 t0 S (j + 1)))), (1, .int (nI (mz_ct (fun i => S 5 (i + 1)) j))), (0, .ref (Y 0)), (3, .int (nI (j + 1)))]) hx hb d_M_advance_108 rfl hl (by decide) rfl (fun ls hl => ?_)
                refine lv_iinc (v := (nI (j + 1 + 1))) (lv' := [(3, .int (nI (j + 1 + 1))), (2, .int (mz_b (wlM p0 g0 h0 t0 S (j + 1)))), (1, .int (nI (mz_ct (fun i => S 5 (i + 1)) j))), (0, .ref (Y 0))]) hx hb d_M_advance_109 hl (k := 3) rfl (nI_1 (j + 1)) (by decide) rfl (fun ls hl => ?_)
                refine lv_goto (tgt := 36) hx hb d_M_advance_112 (by decide) ?_
                exact ih (j + 1) H locs ls (by omega) (by omega) hP hD hS (by rw [mz_ct_0 (f := (fun i => S 5 (i + 1))) c50]; exact lv_sub hl [3, 2, 1, 0] rfl)
              · refine lv_aload_n hx hb d_M_advance_83 rfl (lv_at hl 1 rfl) ?_
                refine lv_iload_n hx hb d_M_advance_84 rfl (lv_at hl 3 rfl) ?_
                refine lv_aload_n hx hb d_M_advance_85 rfl (lv_at hl 1 rfl) ?_
                refine va_get (D := (dC, dI)) (ci := 3) (v := .ref (Y 7)) (C := "DealtSecretModel") (T := T_M) (N := 24) hx hb hts i_M hown hK hP 0 rfl rfl 15 (by decide) (hts _ k_458) (fun _ h9 => h9) rfl d_M_advance_86 ?_
                refine lv_iload_n hx hb d_M_advance_89 rfl (lv_at hl 3 rfl) ?_
                refine va_iald hx hb hK hP 7 0 rfl rfl (vp_in_nI (by omega) (by decide)) d_M_advance_90 ?_
                refine x_i (y := (up S 0 1 0) 7 (j + 1)) (by rw [nI_clamp (by omega)]) ?_
                refine x_i (y := nI (nn (S 7 (j + 1)))) ((hU j hk).eq) ?_
                refine lv_aload_n hx hb d_M_advance_91 rfl (lv_at hl 1 rfl) ?_
                refine va_get (D := (dC, dI)) (ci := 3) (v := .ref (Y 8)) (C := "DealtSecretModel") (T := T_M) (N := 24) hx hb hts i_M hown hK hP 0 rfl rfl 16 (by decide) (hts _ k_459) (fun _ h9 => h9) rfl d_M_advance_92 ?_
                refine lv_iload_n hx hb d_M_advance_95 rfl (lv_at hl 3 rfl) ?_
                refine va_iald hx hb hK hP 8 0 rfl rfl (vp_in_nI (by omega) (by decide)) d_M_advance_96 ?_
                refine x_i (y := (up S 0 1 0) 8 (j + 1)) (by rw [nI_clamp (by omega)]) ?_
                refine x_i (y := nI (nn (S 8 (j + 1)))) ((hV j hk).eq) ?_
                refine ro_V (As := [.int (nI (j + 1)), .int (nI (nn (S 7 (j + 1)))), .int (nI (nn (S 8 (j + 1))))]) (rest := []) (b := (Y 0)) ⟨hx, hb, hml, hown, hts⟩ (c_M_fit l dC dI Y cI cZ p0 q0 g0 h0 (up S 0 1 0) (j + 1) (nn (S 7 (j + 1))) (nn (S 8 (j + 1))) t0 ok (by omega) (by omega) (by omega) ht ht7 hC) (cwV 3 hts (al_V k_542 k_543 k_651 k_4 k_544) rfl rfl rfl (by decide +kernel) ⟨Nat.le_of_ble_eq_true rfl, Nat.le_of_ble_eq_true rfl⟩) (fun U g mk a h => ⟨h.1, va_K.moved (u := U) (U := U.calling g mk a) (Vm.Alike.refl U.vm) h.2⟩) (va_recv hK hP (ci := 3) (q0 := 0) rfl rfl) (fun U hU hW => ⟨by rw [hU]; exact hP, va_K.moved hW.alike hK⟩) rfl hl.1 rfl (lv_room (Nat.le_of_ble_eq_true rfl)) d_M_advance_97 ⟨Nat.zero_le _, Nat.zero_le _⟩ ?_
                refine lv_if_eq (tgt := 107) hx hb d_M_advance_100 (by decide) (fun c100 => ?_) (fun c100 => ?_)
                · refine lv_iconst (v := 0) hx hb d_M_advance_107 (by decide) ?_
                  refine x_i (y := mz_b (wlM p0 g0 h0 t0 S (j + 1))) ((mz_bf (fun q => by first | exact mz_b0.mp c62 (wlM_s.mp q).1 | exact (wlM_s.mp q).2.elim c71 (fun z => z.1 c80) | exact (wlM_s.mp q).2.elim c71 (fun z => mz_b0.mp c100 z.2))).symm) ?_
                  refine lv_istore_n (lv' := [(2, .int (mz_b (wlM p0 g0 h0 t0 S (j + 1)))), (1, .int (nI (mz_ct (fun i => S 5 (i + 1)) j))), (0, .ref (Y 0)), (3, .int (nI (j + 1)))]) hx hb d_M_advance_108 rfl hl (by decide) rfl (fun ls hl => ?_)
                  refine lv_iinc (v := (nI (j + 1 + 1))) (lv' := [(3, .int (nI (j + 1 + 1))), (2, .int (mz_b (wlM p0 g0 h0 t0 S (j + 1)))), (1, .int (nI (mz_ct (fun i => S 5 (i + 1)) j))), (0, .ref (Y 0))]) hx hb d_M_advance_109 hl (k := 3) rfl (nI_1 (j + 1)) (by decide) rfl (fun ls hl => ?_)
                  refine lv_goto (tgt := 36) hx hb d_M_advance_112 (by decide) ?_
                  exact ih (j + 1) H locs ls (by omega) (by omega) hP hD hS (by rw [mz_ct_0 (f := (fun i => S 5 (i + 1))) c50]; exact lv_sub hl [3, 2, 1, 0] rfl)
                · refine lv_iconst (v := 1) hx hb d_M_advance_103 (by decide) ?_
                  refine x_i (y := mz_b (wlM p0 g0 h0 t0 S (j + 1))) ((mz_bt (wlM_s.mpr ⟨Classical.not_not.mp (fun z => c62 (mz_bf z)), by first | exact Or.inl c71 | exact Or.inr ⟨c80, Classical.not_not.mp (fun z => c100 (mz_bf z))⟩⟩)).symm) ?_
                  refine lv_goto (tgt := 108) hx hb d_M_advance_104 (by decide) ?_
                  refine lv_istore_n (lv' := [(2, .int (mz_b (wlM p0 g0 h0 t0 S (j + 1)))), (1, .int (nI (mz_ct (fun i => S 5 (i + 1)) j))), (0, .ref (Y 0)), (3, .int (nI (j + 1)))]) hx hb d_M_advance_108 rfl hl (by decide) rfl (fun ls hl => ?_)
                  refine lv_iinc (v := (nI (j + 1 + 1))) (lv' := [(3, .int (nI (j + 1 + 1))), (2, .int (mz_b (wlM p0 g0 h0 t0 S (j + 1)))), (1, .int (nI (mz_ct (fun i => S 5 (i + 1)) j))), (0, .ref (Y 0))]) hx hb d_M_advance_109 hl (k := 3) rfl (nI_1 (j + 1)) (by decide) rfl (fun ls hl => ?_)
                  refine lv_goto (tgt := 36) hx hb d_M_advance_112 (by decide) ?_
                  exact ih (j + 1) H locs ls (by omega) (by omega) hP hD hS (by rw [mz_ct_0 (f := (fun i => S 5 (i + 1))) c50]; exact lv_sub hl [3, 2, 1, 0] rfl)
        · refine lv_iload_n hx hb d_M_advance_53 rfl (lv_at hl 1 rfl) ?_
          refine lv_iconst (v := 1) hx hb d_M_advance_54 (by decide) ?_
          refine lv_iadd hx hb d_M_advance_55 ?_
          refine x_i (y := nI (mz_ct (fun i => S 5 (i + 1)) (j + 1))) ((nI_1 _).trans (by rw [mz_ct_1 (f := (fun i => S 5 (i + 1))) c50])) ?_
          refine lv_goto (tgt := 60) hx hb d_M_advance_56 (by decide) ?_
          refine lv_istore_n (lv' := [(1, .int (nI (mz_ct (fun i => S 5 (i + 1)) (j + 1)))), (0, .ref (Y 0)), (2, .int (mz_b (wlM p0 g0 h0 t0 S j))), (3, .int (nI (j + 1)))]) hx hb d_M_advance_60 rfl hl (by decide) rfl (fun ls hl => ?_)
          refine lv_iload_n hx hb d_M_advance_61 rfl (lv_at hl 2 rfl) ?_
          refine lv_if_eq (tgt := 107) hx hb d_M_advance_62 (by decide) (fun c62 => ?_) (fun c62 => ?_)
          · refine lv_iconst (v := 0) hx hb d_M_advance_107 (by decide) ?_
            refine x_i (y := mz_b (wlM p0 g0 h0 t0 S (j + 1))) ((mz_bf (fun q => by first | exact mz_b0.mp c62 (wlM_s.mp q).1 | exact (wlM_s.mp q).2.elim c71 (fun z => z.1 c80) | exact (wlM_s.mp q).2.elim c71 (fun z => mz_b0.mp c100 z.2))).symm) ?_
            refine lv_istore_n (lv' := [(2, .int (mz_b (wlM p0 g0 h0 t0 S (j + 1)))), (1, .int (nI (mz_ct (fun i => S 5 (i + 1)) (j + 1)))), (0, .ref (Y 0)), (3, .int (nI (j + 1)))]) hx hb d_M_advance_108 rfl hl (by decide) rfl (fun ls hl => ?_)
            refine lv_iinc (v := (nI (j + 1 + 1))) (lv' := [(3, .int (nI (j + 1 + 1))), (2, .int (mz_b (wlM p0 g0 h0 t0 S (j + 1)))), (1, .int (nI (mz_ct (fun i => S 5 (i + 1)) (j + 1)))), (0, .ref (Y 0))]) hx hb d_M_advance_109 hl (k := 3) rfl (nI_1 (j + 1)) (by decide) rfl (fun ls hl => ?_)
            refine lv_goto (tgt := 36) hx hb d_M_advance_112 (by decide) ?_
            exact ih (j + 1) H locs ls (by omega) (by omega) hP hD hS (lv_sub hl [3, 2, 1, 0] rfl)
          · refine lv_aload_n hx hb d_M_advance_65 rfl (lv_at hl 1 rfl) ?_
            refine va_get (D := (dC, dI)) (ci := 3) (v := .ref (Y 5)) (C := "DealtSecretModel") (T := T_M) (N := 24) hx hb hts i_M hown hK hP 0 rfl rfl 13 (by decide) (hts _ k_456) (fun _ h9 => h9) rfl d_M_advance_66 ?_
            refine lv_iload_n hx hb d_M_advance_69 rfl (lv_at hl 3 rfl) ?_
            refine va_zald hx hb hK hP 5 1 rfl rfl (vp_in_nI (by omega) (by decide)) d_M_advance_70 ?_
            refine x_i (y := (up S 0 1 0) 5 (j + 1)) (by rw [nI_clamp (by omega)]) ?_
            refine x_i (y := S 5 (j + 1)) (rfl) ?_
            refine lv_if_eq (tgt := 103) hx hb d_M_advance_71 (by decide) (fun c71 => ?_) (fun c71 => ?_)
            · refine lv_iconst (v := 1) hx hb d_M_advance_103 (by decide) ?_
              refine x_i (y := mz_b (wlM p0 g0 h0 t0 S (j + 1))) ((mz_bt (wlM_s.mpr ⟨Classical.not_not.mp (fun z => c62 (mz_bf z)), by first | exact Or.inl c71 | exact Or.inr ⟨c80, Classical.not_not.mp (fun z => c100 (mz_bf z))⟩⟩)).symm) ?_
              refine lv_goto (tgt := 108) hx hb d_M_advance_104 (by decide) ?_
              refine lv_istore_n (lv' := [(2, .int (mz_b (wlM p0 g0 h0 t0 S (j + 1)))), (1, .int (nI (mz_ct (fun i => S 5 (i + 1)) (j + 1)))), (0, .ref (Y 0)), (3, .int (nI (j + 1)))]) hx hb d_M_advance_108 rfl hl (by decide) rfl (fun ls hl => ?_)
              refine lv_iinc (v := (nI (j + 1 + 1))) (lv' := [(3, .int (nI (j + 1 + 1))), (2, .int (mz_b (wlM p0 g0 h0 t0 S (j + 1)))), (1, .int (nI (mz_ct (fun i => S 5 (i + 1)) (j + 1)))), (0, .ref (Y 0))]) hx hb d_M_advance_109 hl (k := 3) rfl (nI_1 (j + 1)) (by decide) rfl (fun ls hl => ?_)
              refine lv_goto (tgt := 36) hx hb d_M_advance_112 (by decide) ?_
              exact ih (j + 1) H locs ls (by omega) (by omega) hP hD hS (lv_sub hl [3, 2, 1, 0] rfl)
            · refine lv_aload_n hx hb d_M_advance_74 rfl (lv_at hl 1 rfl) ?_
              refine va_get (D := (dC, dI)) (ci := 3) (v := .ref (Y 6)) (C := "DealtSecretModel") (T := T_M) (N := 24) hx hb hts i_M hown hK hP 0 rfl rfl 14 (by decide) (hts _ k_457) (fun _ h9 => h9) rfl d_M_advance_75 ?_
              refine lv_iload_n hx hb d_M_advance_78 rfl (lv_at hl 3 rfl) ?_
              refine va_zald hx hb hK hP 6 1 rfl rfl (vp_in_nI (by omega) (by decide)) d_M_advance_79 ?_
              refine x_i (y := (up S 0 1 0) 6 (j + 1)) (by rw [nI_clamp (by omega)]) ?_
              refine x_i (y := S 6 (j + 1)) (rfl) ?_
              refine lv_if_eq (tgt := 107) hx hb d_M_advance_80 (by decide) (fun c80 => ?_) (fun c80 => ?_)
              · refine lv_iconst (v := 0) hx hb d_M_advance_107 (by decide) ?_
                refine x_i (y := mz_b (wlM p0 g0 h0 t0 S (j + 1))) ((mz_bf (fun q => by first | exact mz_b0.mp c62 (wlM_s.mp q).1 | exact (wlM_s.mp q).2.elim c71 (fun z => z.1 c80) | exact (wlM_s.mp q).2.elim c71 (fun z => mz_b0.mp c100 z.2))).symm) ?_
                refine lv_istore_n (lv' := [(2, .int (mz_b (wlM p0 g0 h0 t0 S (j + 1)))), (1, .int (nI (mz_ct (fun i => S 5 (i + 1)) (j + 1)))), (0, .ref (Y 0)), (3, .int (nI (j + 1)))]) hx hb d_M_advance_108 rfl hl (by decide) rfl (fun ls hl => ?_)
                refine lv_iinc (v := (nI (j + 1 + 1))) (lv' := [(3, .int (nI (j + 1 + 1))), (2, .int (mz_b (wlM p0 g0 h0 t0 S (j + 1)))), (1, .int (nI (mz_ct (fun i => S 5 (i + 1)) (j + 1)))), (0, .ref (Y 0))]) hx hb d_M_advance_109 hl (k := 3) rfl (nI_1 (j + 1)) (by decide) rfl (fun ls hl => ?_)
                refine lv_goto (tgt := 36) hx hb d_M_advance_112 (by decide) ?_
                exact ih (j + 1) H locs ls (by omega) (by omega) hP hD hS (lv_sub hl [3, 2, 1, 0] rfl)
              · refine lv_aload_n hx hb d_M_advance_83 rfl (lv_at hl 1 rfl) ?_
                refine lv_iload_n hx hb d_M_advance_84 rfl (lv_at hl 3 rfl) ?_
                refine lv_aload_n hx hb d_M_advance_85 rfl (lv_at hl 1 rfl) ?_
                refine va_get (D := (dC, dI)) (ci := 3) (v := .ref (Y 7)) (C := "DealtSecretModel") (T := T_M) (N := 24) hx hb hts i_M hown hK hP 0 rfl rfl 15 (by decide) (hts _ k_458) (fun _ h9 => h9) rfl d_M_advance_86 ?_
                refine lv_iload_n hx hb d_M_advance_89 rfl (lv_at hl 3 rfl) ?_
                refine va_iald hx hb hK hP 7 0 rfl rfl (vp_in_nI (by omega) (by decide)) d_M_advance_90 ?_
                refine x_i (y := (up S 0 1 0) 7 (j + 1)) (by rw [nI_clamp (by omega)]) ?_
                refine x_i (y := nI (nn (S 7 (j + 1)))) ((hU j hk).eq) ?_
                refine lv_aload_n hx hb d_M_advance_91 rfl (lv_at hl 1 rfl) ?_
                refine va_get (D := (dC, dI)) (ci := 3) (v := .ref (Y 8)) (C := "DealtSecretModel") (T := T_M) (N := 24) hx hb hts i_M hown hK hP 0 rfl rfl 16 (by decide) (hts _ k_459) (fun _ h9 => h9) rfl d_M_advance_92 ?_
                refine lv_iload_n hx hb d_M_advance_95 rfl (lv_at hl 3 rfl) ?_
                refine va_iald hx hb hK hP 8 0 rfl rfl (vp_in_nI (by omega) (by decide)) d_M_advance_96 ?_
                refine x_i (y := (up S 0 1 0) 8 (j + 1)) (by rw [nI_clamp (by omega)]) ?_
                refine x_i (y := nI (nn (S 8 (j + 1)))) ((hV j hk).eq) ?_
                refine ro_V (As := [.int (nI (j + 1)), .int (nI (nn (S 7 (j + 1)))), .int (nI (nn (S 8 (j + 1))))]) (rest := []) (b := (Y 0)) ⟨hx, hb, hml, hown, hts⟩ (c_M_fit l dC dI Y cI cZ p0 q0 g0 h0 (up S 0 1 0) (j + 1) (nn (S 7 (j + 1))) (nn (S 8 (j + 1))) t0 ok (by omega) (by omega) (by omega) ht ht7 hC) (cwV 3 hts (al_V k_542 k_543 k_651 k_4 k_544) rfl rfl rfl (by decide +kernel) ⟨Nat.le_of_ble_eq_true rfl, Nat.le_of_ble_eq_true rfl⟩) (fun U g mk a h => ⟨h.1, va_K.moved (u := U) (U := U.calling g mk a) (Vm.Alike.refl U.vm) h.2⟩) (va_recv hK hP (ci := 3) (q0 := 0) rfl rfl) (fun U hU hW => ⟨by rw [hU]; exact hP, va_K.moved hW.alike hK⟩) rfl hl.1 rfl (lv_room (Nat.le_of_ble_eq_true rfl)) d_M_advance_97 ⟨Nat.zero_le _, Nat.zero_le _⟩ ?_
                refine lv_if_eq (tgt := 107) hx hb d_M_advance_100 (by decide) (fun c100 => ?_) (fun c100 => ?_)
                · refine lv_iconst (v := 0) hx hb d_M_advance_107 (by decide) ?_
                  refine x_i (y := mz_b (wlM p0 g0 h0 t0 S (j + 1))) ((mz_bf (fun q => by first | exact mz_b0.mp c62 (wlM_s.mp q).1 | exact (wlM_s.mp q).2.elim c71 (fun z => z.1 c80) | exact (wlM_s.mp q).2.elim c71 (fun z => mz_b0.mp c100 z.2))).symm) ?_
                  refine lv_istore_n (lv' := [(2, .int (mz_b (wlM p0 g0 h0 t0 S (j + 1)))), (1, .int (nI (mz_ct (fun i => S 5 (i + 1)) (j + 1)))), (0, .ref (Y 0)), (3, .int (nI (j + 1)))]) hx hb d_M_advance_108 rfl hl (by decide) rfl (fun ls hl => ?_)
                  refine lv_iinc (v := (nI (j + 1 + 1))) (lv' := [(3, .int (nI (j + 1 + 1))), (2, .int (mz_b (wlM p0 g0 h0 t0 S (j + 1)))), (1, .int (nI (mz_ct (fun i => S 5 (i + 1)) (j + 1)))), (0, .ref (Y 0))]) hx hb d_M_advance_109 hl (k := 3) rfl (nI_1 (j + 1)) (by decide) rfl (fun ls hl => ?_)
                  refine lv_goto (tgt := 36) hx hb d_M_advance_112 (by decide) ?_
                  exact ih (j + 1) H locs ls (by omega) (by omega) hP hD hS (lv_sub hl [3, 2, 1, 0] rfl)
                · refine lv_iconst (v := 1) hx hb d_M_advance_103 (by decide) ?_
                  refine x_i (y := mz_b (wlM p0 g0 h0 t0 S (j + 1))) ((mz_bt (wlM_s.mpr ⟨Classical.not_not.mp (fun z => c62 (mz_bf z)), by first | exact Or.inl c71 | exact Or.inr ⟨c80, Classical.not_not.mp (fun z => c100 (mz_bf z))⟩⟩)).symm) ?_
                  refine lv_goto (tgt := 108) hx hb d_M_advance_104 (by decide) ?_
                  refine lv_istore_n (lv' := [(2, .int (mz_b (wlM p0 g0 h0 t0 S (j + 1)))), (1, .int (nI (mz_ct (fun i => S 5 (i + 1)) (j + 1)))), (0, .ref (Y 0)), (3, .int (nI (j + 1)))]) hx hb d_M_advance_108 rfl hl (by decide) rfl (fun ls hl => ?_)
                  refine lv_iinc (v := (nI (j + 1 + 1))) (lv' := [(3, .int (nI (j + 1 + 1))), (2, .int (mz_b (wlM p0 g0 h0 t0 S (j + 1)))), (1, .int (nI (mz_ct (fun i => S 5 (i + 1)) (j + 1)))), (0, .ref (Y 0))]) hx hb d_M_advance_109 hl (k := 3) rfl (nI_1 (j + 1)) (by decide) rfl (fun ls hl => ?_)
                  refine lv_goto (tgt := 36) hx hb d_M_advance_112 (by decide) ?_
                  exact ih (j + 1) H locs ls (by omega) (by omega) hP hD hS (lv_sub hl [3, 2, 1, 0] rfl)
  refine lv_aload_n hx hb d_M_advance_0 rfl (lv_at hl 0 rfl) ?_
  refine lv_aload_n hx hb d_M_advance_1 rfl (lv_at hl 0 rfl) ?_
  refine va_get (D := (dC, dI)) (ci := 3) (v := .int (S 0 0)) (C := "DealtSecretModel") (T := T_M) (N := 24) hx hb hts i_M hown hK hP 0 rfl rfl 4 (by decide) (hts _ k_447) (fun _ h9 => h9) rfl d_M_advance_2 ?_
  refine x_i (y := 4) (hst) ?_
  refine lv_if_eq (tgt := 16) hx hb d_M_advance_5 (by decide) (fun c_ => absurd c_ (by decide)) (fun _ => ?_)
  refine lv_aload_n hx hb d_M_advance_8 rfl (lv_at hl 0 rfl) ?_
  refine va_get (D := (dC, dI)) (ci := 3) (v := .int (S 0 0)) (C := "DealtSecretModel") (T := T_M) (N := 24) hx hb hts i_M hown hK hP 0 rfl rfl 4 (by decide) (hts _ k_447) (fun _ h9 => h9) rfl d_M_advance_9 ?_
  refine x_i (y := 4) (hst) ?_
  refine lv_iconst (v := 5) hx hb d_M_advance_12 (by decide) ?_
  refine lv_icmp_lt (tgt := 20) hx hb d_M_advance_13 (by decide) (fun _ => ?_) (fun c_ => absurd (by decide) c_)
  refine lv_iconst (v := 0) hx hb d_M_advance_20 (by decide) ?_
  refine lv_iconst (v := 0) hx hb d_M_advance_21 (by decide) ?_
  refine wr_V (As := [.int 0, .int 0]) (rest := []) (b := (Y 0)) ⟨hx, hb, hml, hown, hts⟩ (c_M_refuses l dC dI Y cI cZ p0 q0 g0 h0 S 0 0 0 0 (by decide) (by decide)) (cwV 2 hts (al_V k_532 k_533 k_649 k_4 k_534) rfl rfl rfl (by decide +kernel) ⟨Nat.le_of_ble_eq_true rfl, Nat.le_of_ble_eq_true rfl⟩) (va_recv hK hP (ci := 3) (q0 := 0) rfl rfl) hP hK hD hS rfl hl.1 rfl (lv_room (Nat.le_of_ble_eq_true rfl)) d_M_advance_22 ⟨Nat.zero_le _, Nat.zero_le _⟩ (fun H locs hP _ _ hS => ?_)
  have hD := w_addr hD (w_adM S (up S 0 1 0))
  refine lv_if_eq (tgt := 30) hx hb d_M_advance_25 (by decide) (fun _ => ?_) (fun c_ => absurd (by decide) c_)
  refine lv_iconst (v := (nI (mz_ct (fun i => S 5 (i + 1)) 0))) hx hb d_M_advance_30 (by rfl) ?_
  refine lv_istore_n (lv' := [(1, .int (nI (mz_ct (fun i => S 5 (i + 1)) 0))), (0, .ref (Y 0))]) hx hb d_M_advance_31 rfl hl (by decide) rfl (fun ls hl => ?_)
  refine lv_iconst (v := 1) hx hb d_M_advance_32 (by decide) ?_
  refine x_i (y := mz_b (wlM p0 g0 h0 t0 S 0)) ((mz_bt (fun i hi => absurd hi (Nat.not_lt_zero i))).symm) ?_
  refine lv_istore_n (lv' := [(2, .int (mz_b (wlM p0 g0 h0 t0 S 0))), (1, .int (nI (mz_ct (fun i => S 5 (i + 1)) 0))), (0, .ref (Y 0))]) hx hb d_M_advance_33 rfl hl (by decide) rfl (fun ls hl => ?_)
  refine lv_iconst (v := (nI (0 + 1))) hx hb d_M_advance_34 (by decide) ?_
  refine lv_istore_n (lv' := [(3, .int (nI (0 + 1))), (2, .int (mz_b (wlM p0 g0 h0 t0 S 0))), (1, .int (nI (mz_ct (fun i => S 5 (i + 1)) 0))), (0, .ref (Y 0))]) hx hb d_M_advance_35 rfl hl (by decide) rfl (fun ls hl => ?_)
  exact loop (n0 + 1) 0 _ _ ls (by omega) (by omega) hP hD hS (lv_sub hl [3, 2, 1, 0] rfl)
set_option maxRecDepth 100000 in
set_option maxHeartbeats 4000000 in
/-- the reference's advance where no stage follows -/
theorem r_M_advance (l : Launch) (dC : Nat → ClassId) (dI : Nat → Nat → Nat) (Y : Nat → Nat) (cI cZ : ClassId) (p0 q0 g0 h0 : Nat) (S : Nat → Nat → Int32) (hne : S 0 0 = 0 ∨ ¬ S 0 0 < 5) : Wr l y_M_advance ws_M_advance 4 95 [.ref (Y 0)] (dC, dI) cls (tysM cI cZ) (wM Y cI cZ p0 q0 g0 h0 (S)) (wM Y cI cZ p0 q0 g0 h0 (up S 0 1 1)) (some (.int 0)) := by
  refine Met.ofW (cc := b_M_advance) (maxL := 4) (ret := (some .int)) (by decide) rfl ?_
  intro p e s m args below meth c s₁ B hml hv
  obtain ⟨rfl, hP, hK, hD0⟩ := hv
  have hx := B.exec
  have hb := B.bytes
  have hr := B.returns
  have hts : ∀ w ∈ AL, w.before ([.ref (Y 0)] : List Value).toArray s = true := fun w h => atoms_spec (ws := ws_M_advance) B.pre w (List.mem_cons_of_mem _ h)
  have hown : s.vm.findClass "DealtSecretModel" = some m.cls := findClass_of_methodNamed B.named
  have hlk := B.notSynchronized
  have hl := lv_entry ([.ref (Y 0)]) (n := 4) (Nat.le_of_ble_eq_true rfl)
  rw [lg_entry_eq]
  generalize (lg_sl ([.ref (Y 0)]) ++ List.replicate (4 - (lg_sl ([.ref (Y 0)])).length) Slot.unset).toArray = ls at hl ⊢
  have hl : lv_has ls 4 [(0, .ref (Y 0))] := hl
  have hD := w_self hD0
  have hS : va_S (w_A (wM Y cI cZ p0 q0 g0 h0 (S))) s.heap s.heap [] := va_S.rf
  refine lv_aload_n hx hb d_M_advance_0 rfl (lv_at hl 0 rfl) ?_
  refine lv_aload_n hx hb d_M_advance_1 rfl (lv_at hl 0 rfl) ?_
  refine va_get (D := (dC, dI)) (ci := 3) (v := .int (S 0 0)) (C := "DealtSecretModel") (T := T_M) (N := 24) hx hb hts i_M hown hK hP 0 rfl rfl 4 (by decide) (hts _ k_447) (fun _ h9 => h9) rfl d_M_advance_2 ?_
  refine lv_if_eq (tgt := 16) hx hb d_M_advance_5 (by decide) (fun c5 => ?_) (fun c5 => ?_)
  · refine lv_iconst (v := 1) hx hb d_M_advance_16 (by decide) ?_
    refine lv_goto (tgt := 21) hx hb d_M_advance_17 (by decide) ?_
    refine lv_iconst (v := 0) hx hb d_M_advance_21 (by decide) ?_
    refine wr_V (As := [.int 1, .int 0]) (rest := []) (b := (Y 0)) ⟨hx, hb, hml, hown, hts⟩ (c_M_refuses l dC dI Y cI cZ p0 q0 g0 h0 S 1 0 1 1 (by decide) (by decide)) (cwV 2 hts (al_V k_532 k_533 k_649 k_4 k_534) rfl rfl rfl (by decide +kernel) ⟨Nat.le_of_ble_eq_true rfl, Nat.le_of_ble_eq_true rfl⟩) (va_recv hK hP (ci := 3) (q0 := 0) rfl rfl) hP hK hD hS rfl hl.1 rfl (lv_room (Nat.le_of_ble_eq_true rfl)) d_M_advance_22 ⟨Nat.zero_le _, Nat.zero_le _⟩ (fun H locs hP _ _ hS => ?_)
    have hD := w_addr hD (w_adM S (up S 0 1 1))
    refine lv_if_eq (tgt := 30) hx hb d_M_advance_25 (by decide) (fun c_ => absurd c_ (by decide)) (fun _ => ?_)
    refine lv_iconst (v := 0) hx hb d_M_advance_28 (by decide) ?_
    exact wr_i hx hb hr hlk hP hS d_M_advance_29
  · refine lv_aload_n hx hb d_M_advance_8 rfl (lv_at hl 0 rfl) ?_
    refine va_get (D := (dC, dI)) (ci := 3) (v := .int (S 0 0)) (C := "DealtSecretModel") (T := T_M) (N := 24) hx hb hts i_M hown hK hP 0 rfl rfl 4 (by decide) (hts _ k_447) (fun _ h9 => h9) rfl d_M_advance_9 ?_
    refine lv_iconst (v := 5) hx hb d_M_advance_12 (by decide) ?_
    refine lv_icmp_lt (tgt := 20) hx hb d_M_advance_13 (by decide) (fun c_ => absurd c_ (hne.resolve_left c5)) (fun _ => ?_)
    refine lv_iconst (v := 1) hx hb d_M_advance_16 (by decide) ?_
    refine lv_goto (tgt := 21) hx hb d_M_advance_17 (by decide) ?_
    refine lv_iconst (v := 0) hx hb d_M_advance_21 (by decide) ?_
    refine wr_V (As := [.int 1, .int 0]) (rest := []) (b := (Y 0)) ⟨hx, hb, hml, hown, hts⟩ (c_M_refuses l dC dI Y cI cZ p0 q0 g0 h0 S 1 0 1 1 (by decide) (by decide)) (cwV 2 hts (al_V k_532 k_533 k_649 k_4 k_534) rfl rfl rfl (by decide +kernel) ⟨Nat.le_of_ble_eq_true rfl, Nat.le_of_ble_eq_true rfl⟩) (va_recv hK hP (ci := 3) (q0 := 0) rfl rfl) hP hK hD hS rfl hl.1 rfl (lv_room (Nat.le_of_ble_eq_true rfl)) d_M_advance_22 ⟨Nat.zero_le _, Nat.zero_le _⟩ (fun H locs hP _ _ hS => ?_)
    have hD := w_addr hD (w_adM S (up S 0 1 1))
    refine lv_if_eq (tgt := 30) hx hb d_M_advance_25 (by decide) (fun c_ => absurd c_ (by decide)) (fun _ => ?_)
    refine lv_iconst (v := 0) hx hb d_M_advance_28 (by decide) ?_
    exact wr_i hx hb hr hlk hP hS d_M_advance_29
