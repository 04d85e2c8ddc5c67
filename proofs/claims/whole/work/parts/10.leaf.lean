set_option maxRecDepth 100000 in
set_option maxHeartbeats 4000000 in
/-- powerModulo(b, e, m) = b^e modulo m -/
theorem c_G_powerModulo (l : Launch) (b0 e0 m0 : Nat) (hb0 : b0 < 2 ^ 31) (he0 : e0 < 2 ^ 31) (h2 : 2 ≤ m0) (hm0 : m0 < 2 ^ 31) : Ro l y_G_powerModulo ws_G_powerModulo 0 0 [.int (nI b0), .int (nI e0), .int (nI m0)] (fun _ => True) (nI (b0 ^ e0 % m0)) := by
  refine Met.ofW (cc := b_G_powerModulo) (maxL := 8) (ret := (some .int)) (by decide) rfl ?_
  intro p e s m args below meth c s₁ B hml hv
  obtain ⟨rfl, -⟩ := hv
  have hx := B.exec
  have hb := B.bytes
  have hr := B.returns
  have hts : ∀ w ∈ AL, w.before ([.int (nI b0), .int (nI e0), .int (nI m0)] : List Value).toArray s = true := fun w h => atoms_spec (ws := ws_G_powerModulo) B.pre w (List.mem_cons_of_mem _ h)
  have hown : s.vm.findClass "DealtSecret$Group" = some m.cls := findClass_of_methodNamed B.named
  have hlk := B.notSynchronized
  have hl := lv_entry ([.int (nI b0), .int (nI e0), .int (nI m0)]) (n := 8) (Nat.le_of_ble_eq_true rfl)
  rw [lg_entry_eq]
  generalize (lg_sl ([.int (nI b0), .int (nI e0), .int (nI m0)]) ++ List.replicate (8 - (lg_sl ([.int (nI b0), .int (nI e0), .int (nI m0)])).length) Slot.unset).toArray = ls at hl ⊢
  have hl : lv_has ls 8 [(0, .int (nI b0)), (1, .int (nI e0)), (2, .int (nI m0))] := hl
  have loop : ∀ (n r0 s0 k0 : Nat) (ls : Array Slot), k0 < n → k0 < 2 ^ 31 → r0 < m0 → s0 < 2 ^ 31 → r0 * s0 ^ k0 % m0 = b0 ^ e0 % m0 → lv_has ls 8 [(0, .int (nI b0)), (1, .int (nI e0)), (2, .int (nI m0)), (3, .long (lN r0)), (5, .long (lN s0)), (7, .int (nI k0))] → W p l e (headSpec ws_G_powerModulo { frames := 0, cells := 0, slots := 0, locals := 0 }).room s m [.int (nI b0), .int (nI e0), .int (nI m0)].toArray below meth c s.heap [] 0 0 (MQ below (QcRead (nI (b0 ^ e0 % m0))) [.int (nI b0), .int (nI e0), .int (nI m0)].toArray s 0 0 (fun _ => False)) (F0 m 9 ls []) := by
    intro n
    induction n with
    | zero =>
      intro r0 s0 k0 ls h1
      exact absurd h1 (Nat.not_lt_zero _)
    | succ n ih =>
      intro r0 s0 k0 ls hk hk2 hr0 hs0 hI hl
      have hss := nz_m31 hs0 hs0
      have hrs := nz_m31 (Nat.lt_trans hr0 hm0) hs0
      have hst := mz_step m0 r0 s0 k0
      refine lv_iload hx hb d_G_powerModulo_9 (lv_at hl 5 rfl) ?_
      refine lv_if_le (tgt := 49) hx hb d_G_powerModulo_11 (by decide) (fun c11 => ?_) (fun c11 => ?_)
      · have hk0 : k0 = 0 := by
          rcases Nat.eq_zero_or_pos k0 with q | q
          · exact q
          · exact absurd c11 (nI_nle q hk2)
        subst hk0
        refine lv_lload_n hx hb d_G_powerModulo_49 rfl (lv_at hl 3 rfl) ?_
        refine lv_l2i (v := (nI r0)) hx hb d_G_powerModulo_50 (lN_i r0) ?_
        exact ro_i hx hb hr hlk d_G_powerModulo_51 (by rw [← hI, Nat.pow_zero, Nat.mul_one, Nat.mod_eq_of_lt hr0])
      · have hkp : 0 < k0 := by
          rcases Nat.eq_zero_or_pos k0 with q | q
          · exact absurd (by rw [q]; decide) c11
          · exact q
        refine lv_iload hx hb d_G_powerModulo_14 (lv_at hl 5 rfl) ?_
        refine lv_iconst (v := 1) hx hb d_G_powerModulo_16 (by decide) ?_
        refine lv_iand hx hb d_G_powerModulo_17 ?_
        refine x_i (y := nI (k0 % 2)) (pk_andN (by omega) 1 (by decide)) ?_
        refine lv_iconst (v := (nI 1)) hx hb d_G_powerModulo_18 (by decide) ?_
        refine lv_icmp_ne (tgt := 30) hx hb d_G_powerModulo_19 (by decide) (fun c19 => ?_) (fun c19 => ?_)
        · have hke : ¬ k0 % 2 = 1 := fun q => c19 (by rw [q])
          rw [if_neg hke] at hst
          refine lv_lload hx hb d_G_powerModulo_30 (lv_at hl 4 rfl) ?_
          refine lv_lload hx hb d_G_powerModulo_32 (lv_at hl 4 rfl) ?_
          refine lv_lmul hx hb d_G_powerModulo_34 ?_
          refine x_l (y := lN (s0 * s0)) (lN_mul _ _) ?_
          refine lv_iload_n hx hb d_G_powerModulo_35 rfl (lv_at hl 2 rfl) ?_
          refine lv_i2l (v := (lN m0)) hx hb d_G_powerModulo_36 (nI_l hm0) ?_
          refine lv_lrem hx hb d_G_powerModulo_37 (nz_lne (by omega) hm0) ?_
          refine x_l (y := lN (s0 * s0 % m0)) (nz_lrem (by omega) (by omega) hm0) ?_
          refine lv_lstore (lv' := [(5, .long (lN (s0 * s0 % m0))), (0, .int (nI b0)), (1, .int (nI e0)), (2, .int (nI m0)), (3, .long (lN r0)), (7, .int (nI k0))]) hx hb d_G_powerModulo_38 hl (by decide) rfl (fun ls hl => ?_)
          refine lv_iload hx hb d_G_powerModulo_40 (lv_at hl 5 rfl) ?_
          refine lv_iconst (v := 1) hx hb d_G_powerModulo_42 (by decide) ?_
          refine lv_ishr hx hb d_G_powerModulo_43 ?_
          refine x_i (y := nI (k0 / 2)) (pk_shrN hk2 _ 1 (by decide)) ?_
          refine lv_istore (lv' := [(7, .int (nI (k0 / 2))), (5, .long (lN (s0 * s0 % m0))), (0, .int (nI b0)), (1, .int (nI e0)), (2, .int (nI m0)), (3, .long (lN r0))]) hx hb d_G_powerModulo_44 hl (by decide) rfl (fun ls hl => ?_)
          refine lv_goto (tgt := 9) hx hb d_G_powerModulo_46 (by decide) ?_
          exact ih r0 (s0 * s0 % m0) (k0 / 2) ls (by omega) (by omega) (by first | exact hr0 | exact Nat.mod_lt _ (by omega)) (Nat.lt_trans (Nat.mod_lt _ (by omega)) hm0) (hst.trans hI) (lv_sub hl [2, 3, 4, 5, 1, 0] rfl)
        · have hko : k0 % 2 = 1 := (nI_eq (by omega) (by omega)).mp c19
          rw [if_pos hko] at hst
          refine lv_lload_n hx hb d_G_powerModulo_22 rfl (lv_at hl 3 rfl) ?_
          refine lv_lload hx hb d_G_powerModulo_23 (lv_at hl 4 rfl) ?_
          refine lv_lmul hx hb d_G_powerModulo_25 ?_
          refine x_l (y := lN (r0 * s0)) (lN_mul _ _) ?_
          refine lv_iload_n hx hb d_G_powerModulo_26 rfl (lv_at hl 2 rfl) ?_
          refine lv_i2l (v := (lN m0)) hx hb d_G_powerModulo_27 (nI_l hm0) ?_
          refine lv_lrem hx hb d_G_powerModulo_28 (nz_lne (by omega) hm0) ?_
          refine x_l (y := lN (r0 * s0 % m0)) (nz_lrem (by omega) (by omega) hm0) ?_
          refine lv_lstore_n (lv' := [(3, .long (lN (r0 * s0 % m0))), (0, .int (nI b0)), (1, .int (nI e0)), (2, .int (nI m0)), (5, .long (lN s0)), (7, .int (nI k0))]) hx hb d_G_powerModulo_29 rfl hl (by decide) rfl (fun ls hl => ?_)
          refine lv_lload hx hb d_G_powerModulo_30 (lv_at hl 4 rfl) ?_
          refine lv_lload hx hb d_G_powerModulo_32 (lv_at hl 4 rfl) ?_
          refine lv_lmul hx hb d_G_powerModulo_34 ?_
          refine x_l (y := lN (s0 * s0)) (lN_mul _ _) ?_
          refine lv_iload_n hx hb d_G_powerModulo_35 rfl (lv_at hl 3 rfl) ?_
          refine lv_i2l (v := (lN m0)) hx hb d_G_powerModulo_36 (nI_l hm0) ?_
          refine lv_lrem hx hb d_G_powerModulo_37 (nz_lne (by omega) hm0) ?_
          refine x_l (y := lN (s0 * s0 % m0)) (nz_lrem (by omega) (by omega) hm0) ?_
          refine lv_lstore (lv' := [(5, .long (lN (s0 * s0 % m0))), (3, .long (lN (r0 * s0 % m0))), (0, .int (nI b0)), (1, .int (nI e0)), (2, .int (nI m0)), (7, .int (nI k0))]) hx hb d_G_powerModulo_38 hl (by decide) rfl (fun ls hl => ?_)
          refine lv_iload hx hb d_G_powerModulo_40 (lv_at hl 5 rfl) ?_
          refine lv_iconst (v := 1) hx hb d_G_powerModulo_42 (by decide) ?_
          refine lv_ishr hx hb d_G_powerModulo_43 ?_
          refine x_i (y := nI (k0 / 2)) (pk_shrN hk2 _ 1 (by decide)) ?_
          refine lv_istore (lv' := [(7, .int (nI (k0 / 2))), (5, .long (lN (s0 * s0 % m0))), (3, .long (lN (r0 * s0 % m0))), (0, .int (nI b0)), (1, .int (nI e0)), (2, .int (nI m0))]) hx hb d_G_powerModulo_44 hl (by decide) rfl (fun ls hl => ?_)
          refine lv_goto (tgt := 9) hx hb d_G_powerModulo_46 (by decide) ?_
          exact ih (r0 * s0 % m0) (s0 * s0 % m0) (k0 / 2) ls (by omega) (by omega) (by first | exact hr0 | exact Nat.mod_lt _ (by omega)) (Nat.lt_trans (Nat.mod_lt _ (by omega)) hm0) (hst.trans hI) (lv_sub hl [3, 4, 5, 2, 1, 0] rfl)
  refine lv_lconst (v := (lN 1)) hx hb d_G_powerModulo_0 (by decide) ?_
  refine lv_lstore_n (lv' := [(3, .long (lN 1)), (0, .int (nI b0)), (1, .int (nI e0)), (2, .int (nI m0))]) hx hb d_G_powerModulo_1 rfl hl (by decide) rfl (fun ls hl => ?_)
  refine lv_iload_n hx hb d_G_powerModulo_2 rfl (lv_at hl 1 rfl) ?_
  refine lv_i2l (v := (lN b0)) hx hb d_G_powerModulo_3 (nI_l hb0) ?_
  refine lv_lstore (lv' := [(5, .long (lN b0)), (3, .long (lN 1)), (0, .int (nI b0)), (1, .int (nI e0)), (2, .int (nI m0))]) hx hb d_G_powerModulo_4 hl (by decide) rfl (fun ls hl => ?_)
  refine lv_iload_n hx hb d_G_powerModulo_6 rfl (lv_at hl 3 rfl) ?_
  refine lv_istore (lv' := [(7, .int (nI e0)), (5, .long (lN b0)), (3, .long (lN 1)), (0, .int (nI b0)), (1, .int (nI e0)), (2, .int (nI m0))]) hx hb d_G_powerModulo_7 hl (by decide) rfl (fun ls hl => ?_)
  exact loop (e0 + 1) 1 b0 e0 ls (by omega) he0 (by omega) hb0 (by rw [Nat.one_mul]) (lv_sub hl [3, 4, 5, 2, 1, 0] rfl)
set_option maxRecDepth 100000 in
set_option maxHeartbeats 4000000 in
/-- isPrime(x): is x a prime number -/
theorem c_G_isPrime (l : Launch) (x0 : Int32) : Ro l y_G_isPrime ws_G_isPrime 0 0 [.int x0] (fun _ => True) (mz_b (mz_P x0.toNatClampNeg)) := by
  refine Met.ofW (cc := b_G_isPrime) (maxL := 2) (ret := (some .boolean)) (by decide) rfl ?_
  intro p e s m args below meth c s₁ B hml hv
  obtain ⟨rfl, -⟩ := hv
  have hx := B.exec
  have hb := B.bytes
  have hr := B.returns
  have hts : ∀ w ∈ AL, w.before ([.int x0] : List Value).toArray s = true := fun w h => atoms_spec (ws := ws_G_isPrime) B.pre w (List.mem_cons_of_mem _ h)
  have hown : s.vm.findClass "DealtSecret$Group" = some m.cls := findClass_of_methodNamed B.named
  have hlk := B.notSynchronized
  have hl := lv_entry ([.int x0]) (n := 2) (Nat.le_of_ble_eq_true rfl)
  rw [lg_entry_eq]
  generalize (lg_sl ([.int x0]) ++ List.replicate (2 - (lg_sl ([.int x0])).length) Slot.unset).toArray = ls at hl ⊢
  have hl : lv_has ls 2 [(0, .int x0)] := hl
  by_cases hx2 : x0 < 2
  · refine lv_iload_n hx hb d_G_isPrime_0 rfl (lv_at hl 0 rfl) ?_
    refine lv_iconst (v := 2) hx hb d_G_isPrime_1 (by decide) ?_
    refine lv_icmp_lt (tgt := 11) hx hb d_G_isPrime_2 (by decide) (fun _ => ?_) (fun c_ => absurd (hx2) c_)
    refine lv_iload_n hx hb d_G_isPrime_11 rfl (lv_at hl 0 rfl) ?_
    refine lv_iconst (v := 2) hx hb d_G_isPrime_12 (by decide) ?_
    refine lv_icmp_ne (tgt := 20) hx hb d_G_isPrime_13 (by decide) (fun _ => ?_) (fun c_ => absurd c_ (show ¬ x0 = 2 from fun q => by rw [q] at hx2; exact absurd hx2 (by decide)))
    refine lv_iconst (v := 0) hx hb d_G_isPrime_20 (by decide) ?_
    exact ro_z hx hb hr hlk d_G_isPrime_21 (by first | rfl | exact mz_bn _) ((mz_bf fun q => absurd q.1 (Nat.not_le.mpr (nz_lt2 hx2))).symm)
  · obtain ⟨j, hj2, hj, rfl⟩ := nz_ge2 hx2
    rw [nI_clamp hj]
    have loop : j % 2 = 1 → ∀ (n d : Nat) (ls : Array Slot), j + 3 ≤ d + n → d ≤ j + 2 → d < 46343 → 3 ≤ d → d % 2 = 1 → (∀ f : Nat, 2 ≤ f → f < d → ¬ f ∣ j) → lv_has ls 2 [(0, .int (nI j)), (1, .int (nI d))] → W p l e (headSpec ws_G_isPrime { frames := 0, cells := 0, slots := 0, locals := 0 }).room s m [Value.int (nI j)].toArray below meth c s.heap [] 0 0 (MQ below (QcRead (mz_b (mz_P (j)))) [Value.int (nI j)].toArray s 0 0 (fun _ => False)) (F0 m 24 ls []) := by
      intro ho n
      induction n with
      | zero =>
        intro d ls h1 h2
        omega
      | succ n ih =>
        intro d ls h1 h2 h20 h3 h4 hI hl
        have hjd : j / d < 2 ^ 31 := Nat.lt_of_le_of_lt (Nat.div_le_self j d) hj
        have hd31 : d < 2 ^ 31 := by omega
        refine lv_iload_n hx hb d_G_isPrime_24 rfl (lv_at hl 1 rfl) ?_
        refine lv_iload_n hx hb d_G_isPrime_25 rfl (lv_at hl 0 rfl) ?_
        refine lv_iload_n hx hb d_G_isPrime_26 rfl (lv_at hl 1 rfl) ?_
        refine lv_idiv hx hb d_G_isPrime_27 (nz_ine (by omega) hd31) ?_
        refine x_i (y := nI (j / d)) (pk_div hj (by omega) hd31) ?_
        refine lv_icmp_gt (tgt := 45) hx hb d_G_isPrime_28 (by decide) (fun c28 => ?_) (fun c28 => ?_)
        · have hdd : j < d * d := by
            have h5 : j / d < d := (nI_ltI hjd hd31).mp c28
            exact (Nat.div_lt_iff_lt_mul (by omega)).mp h5
          refine lv_iconst (v := 1) hx hb d_G_isPrime_45 (by decide) ?_
          exact ro_z hx hb hr hlk d_G_isPrime_46 (by first | rfl | exact mz_bn _) ((mz_bt ⟨hj2, fun f hf1 hf2 hf3 => by
              rcases Nat.lt_or_ge f d with q | q
              · exact hI f hf1 q hf3
              · exact absurd (Nat.le_trans (Nat.mul_le_mul q q) hf2) (Nat.not_le.mpr hdd)⟩).symm)
        · have hdd : d * d ≤ j := by
            have h5 : ¬ j / d < d := fun q => c28 ((nI_ltI hjd hd31).mpr q)
            exact (Nat.le_div_iff_mul_le (by omega)).mp (Nat.not_lt.mp h5)
          have hd46 : d < 46341 := by
            rcases Nat.lt_or_ge d 46341 with q | q
            · exact q
            · exact absurd (Nat.le_trans (Nat.mul_le_mul q q) hdd) (by omega)
          have hdj : d ≤ j := Nat.le_trans (Nat.le_mul_of_pos_left d (by omega)) hdd
          refine lv_iload_n hx hb d_G_isPrime_31 rfl (lv_at hl 0 rfl) ?_
          refine lv_iload_n hx hb d_G_isPrime_32 rfl (lv_at hl 1 rfl) ?_
          refine lv_irem hx hb d_G_isPrime_33 (nz_ine (by omega) hd31) ?_
          refine x_i (y := nI (j % d)) (pk_rem hj (by omega) hd31) ?_
          refine lv_if_ne (tgt := 39) hx hb d_G_isPrime_34 (by decide) (fun c34 => ?_) (fun c34 => ?_)
          · have hnd : ¬ d ∣ j := fun q => c34 (by rw [Nat.mod_eq_zero_of_dvd q]; rfl)
            refine lv_iinc (v := (nI (d + 2))) (lv' := [(1, .int (nI (d + 2))), (0, .int (nI j))]) hx hb d_G_isPrime_39 hl (k := 1) rfl (nI_add d 2) (by decide) rfl (fun ls hl => ?_)
            refine lv_goto (tgt := 24) hx hb d_G_isPrime_42 (by decide) ?_
            exact ih (d + 2) ls (by omega) (by omega) (by omega) (by omega) (by omega) (fun f hf1 hf2 => by
              rcases (show f < d ∨ f = d ∨ f = d + 1 by omega) with q | q | q
              · exact hI f hf1 q
              · rw [q]; exact hnd
              · intro z
                have z2 : 2 ∣ j := Nat.dvd_trans ⟨(d + 1) / 2, by omega⟩ z
                omega) (lv_sub hl [1, 0] rfl)
          · have hdv : d ∣ j := Nat.dvd_of_mod_eq_zero (by
              rcases Nat.eq_zero_or_pos (j % d) with q | q
              · exact q
              · exact absurd c34 (nI_ne0 q (Nat.lt_of_le_of_lt (Nat.mod_le j d) hj)))
            refine lv_iconst (v := 0) hx hb d_G_isPrime_37 (by decide) ?_
            exact ro_z hx hb hr hlk d_G_isPrime_38 (by first | rfl | exact mz_bn _) ((mz_bf fun q => (q.2 d (by omega) hdd) hdv).symm)
    refine lv_iload_n hx hb d_G_isPrime_0 rfl (lv_at hl 0 rfl) ?_
    refine lv_iconst (v := 2) hx hb d_G_isPrime_1 (by decide) ?_
    refine lv_icmp_lt (tgt := 11) hx hb d_G_isPrime_2 (by decide) (fun c_ => absurd c_ (hx2)) (fun _ => ?_)
    refine lv_iload_n hx hb d_G_isPrime_5 rfl (lv_at hl 0 rfl) ?_
    refine lv_iconst (v := (nI 2)) hx hb d_G_isPrime_6 (by decide) ?_
    refine lv_irem hx hb d_G_isPrime_7 (by decide) ?_
    refine x_i (y := nI (j % 2)) (pk_rem hj (by omega) (by omega)) ?_
    refine lv_if_ne (tgt := 22) hx hb d_G_isPrime_8 (by decide) (fun c8 => ?_) (fun c8 => ?_)
    · have hodd : j % 2 = 1 := by
        rcases (show j % 2 = 0 ∨ j % 2 = 1 by omega) with q | q
        · exact absurd (by rw [q]; rfl) c8
        · exact q
      refine lv_iconst (v := (nI 3)) hx hb d_G_isPrime_22 (by decide) ?_
      refine lv_istore_n (lv' := [(1, .int (nI 3)), (0, .int (nI j))]) hx hb d_G_isPrime_23 rfl hl (by decide) rfl (fun ls hl => ?_)
      exact loop hodd (j + 3) 3 ls (by omega) (by omega) (by omega) (by omega) (by omega) (fun f hf1 hf2 hf3 => by
        have h9 : f = 2 := by omega
        subst h9
        omega) (lv_sub hl [1, 0] rfl)
    · have hev : j % 2 = 0 := by
        rcases (show j % 2 = 0 ∨ j % 2 = 1 by omega) with q | q
        · exact q
        · rw [q] at c8; exact absurd c8 (by decide)
      refine lv_iload_n hx hb d_G_isPrime_11 rfl (lv_at hl 0 rfl) ?_
      refine lv_iconst (v := (nI 2)) hx hb d_G_isPrime_12 (by decide) ?_
      refine lv_icmp_ne (tgt := 20) hx hb d_G_isPrime_13 (by decide) (fun c13 => ?_) (fun c13 => ?_)
      · have hne : ¬ j = 2 := fun q => c13 (by rw [q])
        refine lv_iconst (v := 0) hx hb d_G_isPrime_20 (by decide) ?_
        exact ro_z hx hb hr hlk d_G_isPrime_21 (by first | rfl | exact mz_bn _) ((mz_bf fun q => (q.2 2 (by omega) (by omega)) ⟨j / 2, by omega⟩).symm)
      · have heq : j = 2 := (nI_eq hj (by omega)).mp c13
        refine lv_iconst (v := 1) hx hb d_G_isPrime_16 (by decide) ?_
        refine lv_goto (tgt := 21) hx hb d_G_isPrime_17 (by decide) ?_
        exact ro_z hx hb hr hlk d_G_isPrime_21 (by first | rfl | exact mz_bn _) ((mz_bt ⟨hj2, fun f hf1 hf2 => by rw [heq] at hf2; exact absurd (Nat.le_trans (Nat.mul_le_mul hf1 hf1) hf2) (by decide)⟩).symm)
set_option maxRecDepth 100000 in
set_option maxHeartbeats 4000000 in
/-- isElement(x, p, q): 2 <= x < p and x^q is 1 modulo p -/
theorem c_G_isElement (l : Launch) (x0 : Int32) (p0 q0 : Nat) (hp2 : 2 ≤ p0) (hp : p0 < 2 ^ 31) (hq : q0 < 2 ^ 31) : Ro l y_G_isElement ws_G_isElement 1 27 [.int x0, .int (nI p0), .int (nI q0)] (fun _ => True) (mz_b (mz_el x0 p0 q0)) := by
  refine Met.ofW (cc := b_G_isElement) (maxL := 3) (ret := (some .boolean)) (by decide) rfl ?_
  intro p e s m args below meth c s₁ B hml hv
  obtain ⟨rfl, -⟩ := hv
  have hx := B.exec
  have hb := B.bytes
  have hr := B.returns
  have hts : ∀ w ∈ AL, w.before ([.int x0, .int (nI p0), .int (nI q0)] : List Value).toArray s = true := fun w h => atoms_spec (ws := ws_G_isElement) B.pre w (List.mem_cons_of_mem _ h)
  have hown : s.vm.findClass "DealtSecret$Group" = some m.cls := findClass_of_methodNamed B.named
  have hlk := B.notSynchronized
  have hl := lv_entry ([.int x0, .int (nI p0), .int (nI q0)]) (n := 3) (Nat.le_of_ble_eq_true rfl)
  rw [lg_entry_eq]
  generalize (lg_sl ([.int x0, .int (nI p0), .int (nI q0)]) ++ List.replicate (3 - (lg_sl ([.int x0, .int (nI p0), .int (nI q0)])).length) Slot.unset).toArray = ls at hl ⊢
  have hl : lv_has ls 3 [(0, .int x0), (1, .int (nI p0)), (2, .int (nI q0))] := hl
  by_cases hx2 : x0 < 2
  · refine lv_iload_n hx hb d_G_isElement_0 rfl (lv_at hl 0 rfl) ?_
    refine lv_iconst (v := 2) hx hb d_G_isElement_1 (by decide) ?_
    refine lv_icmp_lt (tgt := 24) hx hb d_G_isElement_2 (by decide) (fun _ => ?_) (fun c_ => absurd (hx2) c_)
    refine lv_iconst (v := 0) hx hb d_G_isElement_24 (by decide) ?_
    exact ro_z hx hb hr hlk d_G_isElement_25 (by first | rfl | exact mz_bn _) ((mz_bf fun q => q.1 hx2).symm)
  · obtain ⟨j, hj2, hj, rfl⟩ := nz_ge2 hx2
    refine lv_iload_n hx hb d_G_isElement_0 rfl (lv_at hl 0 rfl) ?_
    refine lv_iconst (v := 2) hx hb d_G_isElement_1 (by decide) ?_
    refine lv_icmp_lt (tgt := 24) hx hb d_G_isElement_2 (by decide) (fun c_ => absurd c_ (hx2)) (fun _ => ?_)
    refine lv_iload_n hx hb d_G_isElement_5 rfl (lv_at hl 0 rfl) ?_
    refine lv_iload_n hx hb d_G_isElement_6 rfl (lv_at hl 1 rfl) ?_
    refine lv_icmp_ge (tgt := 24) hx hb d_G_isElement_7 (by decide) (fun c7 => ?_) (fun c7 => ?_)
    · have hjp : ¬ j < p0 := fun q => absurd c7 (nI_ge q hp)
      refine lv_iconst (v := 0) hx hb d_G_isElement_24 (by decide) ?_
      exact ro_z hx hb hr hlk d_G_isElement_25 (by first | rfl | exact mz_bn _) ((mz_bf fun q => by
          have q2 := q.2
          rw [nI_clamp hj] at q2
          first | exact hjp q2.1 | exact h1 q2.2).symm)
    · have hjp : j < p0 := by
        rcases Nat.lt_or_ge j p0 with q | q
        · exact q
        · exact absurd (nI_le q hj) c7
      refine lv_iload_n hx hb d_G_isElement_10 rfl (lv_at hl 0 rfl) ?_
      refine lv_iload_n hx hb d_G_isElement_11 rfl (lv_at hl 2 rfl) ?_
      refine lv_iload_n hx hb d_G_isElement_12 rfl (lv_at hl 1 rfl) ?_
      refine ro_S (As := [.int (nI j), .int (nI q0), .int (nI p0)]) (rest := []) ⟨hx, hb, hml, hown, hts⟩ (c_G_powerModulo l j q0 p0 hj hq hp2 hp) (va_cwS 3 hts (al_S k_30 k_31 k_2 k_32) rfl rfl rfl (by decide +kernel) ⟨Nat.le_of_ble_eq_true rfl, Nat.le_of_ble_eq_true rfl⟩) (fun _ _ _ _ h => h) (fun _ _ _ => trivial) rfl hl.1 rfl (lv_room (Nat.le_of_ble_eq_true rfl)) d_G_isElement_13 ⟨Nat.zero_le _, Nat.zero_le _⟩ ?_
      refine lv_iconst (v := (nI 1)) hx hb d_G_isElement_16 (by decide) ?_
      refine lv_icmp_ne (tgt := 24) hx hb d_G_isElement_17 (by decide) (fun c17 => ?_) (fun c17 => ?_)
      · have h1 : ¬ j ^ q0 % p0 = 1 := fun q => c17 (by rw [q])
        refine lv_iconst (v := 0) hx hb d_G_isElement_24 (by decide) ?_
        exact ro_z hx hb hr hlk d_G_isElement_25 (by first | rfl | exact mz_bn _) ((mz_bf fun q => by
            have q2 := q.2
            rw [nI_clamp hj] at q2
            first | exact hjp q2.1 | exact h1 q2.2).symm)
      · have h1 : j ^ q0 % p0 = 1 := (nI_eq (Nat.lt_trans (Nat.mod_lt _ (by omega)) hp) (by omega)).mp c17
        refine lv_iconst (v := 1) hx hb d_G_isElement_20 (by decide) ?_
        refine lv_goto (tgt := 25) hx hb d_G_isElement_21 (by decide) ?_
        exact ro_z hx hb hr hlk d_G_isElement_25 (by first | rfl | exact mz_bn _) ((mz_bt ⟨hx2, by rw [nI_clamp hj]; exact hjp, by rw [nI_clamp hj]; exact h1⟩).symm)
set_option maxRecDepth 100000 in
set_option maxHeartbeats 4000000 in
/-- isSound(p, q, g, h) -/
theorem c_G_isSound (l : Launch) (p1 q1 g1 h1 : Int32) : Ro l y_G_isSound ws_G_isSound 2 49 [.int p1, .int q1, .int g1, .int h1] (fun _ => True) (mz_b (mz_so p1 q1 g1 h1)) := by
  refine Met.ofW (cc := b_G_isSound) (maxL := 4) (ret := (some .boolean)) (by decide) rfl ?_
  intro p e s m args below meth c s₁ B hml hv
  obtain ⟨rfl, -⟩ := hv
  have hx := B.exec
  have hb := B.bytes
  have hr := B.returns
  have hts : ∀ w ∈ AL, w.before ([.int p1, .int q1, .int g1, .int h1] : List Value).toArray s = true := fun w h => atoms_spec (ws := ws_G_isSound) B.pre w (List.mem_cons_of_mem _ h)
  have hown : s.vm.findClass "DealtSecret$Group" = some m.cls := findClass_of_methodNamed B.named
  have hlk := B.notSynchronized
  have hl := lv_entry ([.int p1, .int q1, .int g1, .int h1]) (n := 4) (Nat.le_of_ble_eq_true rfl)
  rw [lg_entry_eq]
  generalize (lg_sl ([.int p1, .int q1, .int g1, .int h1]) ++ List.replicate (4 - (lg_sl ([.int p1, .int q1, .int g1, .int h1])).length) Slot.unset).toArray = ls at hl ⊢
  have hl : lv_has ls 4 [(0, .int p1), (1, .int q1), (2, .int g1), (3, .int h1)] := hl
  by_cases hp2 : p1 < 2
  · refine lv_iload_n hx hb d_G_isSound_0 rfl (lv_at hl 0 rfl) ?_
    refine lv_iconst (v := 2) hx hb d_G_isSound_1 (by decide) ?_
    refine lv_icmp_lt (tgt := 59) hx hb d_G_isSound_2 (by decide) (fun _ => ?_) (fun c_ => absurd (hp2) c_)
    refine lv_iconst (v := 0) hx hb d_G_isSound_59 (by decide) ?_
    exact ro_z hx hb hr hlk d_G_isSound_60 (by first | rfl | exact mz_bn _) ((mz_bf fun q => absurd q.1.1 (Nat.not_le.mpr (nz_lt2 hp2))).symm)
  · by_cases hq2 : q1 < 2
    · refine lv_iload_n hx hb d_G_isSound_0 rfl (lv_at hl 0 rfl) ?_
      refine lv_iconst (v := 2) hx hb d_G_isSound_1 (by decide) ?_
      refine lv_icmp_lt (tgt := 59) hx hb d_G_isSound_2 (by decide) (fun c_ => absurd c_ (hp2)) (fun _ => ?_)
      refine lv_iload_n hx hb d_G_isSound_5 rfl (lv_at hl 1 rfl) ?_
      refine lv_iconst (v := 2) hx hb d_G_isSound_6 (by decide) ?_
      refine lv_icmp_lt (tgt := 59) hx hb d_G_isSound_7 (by decide) (fun _ => ?_) (fun c_ => absurd (hq2) c_)
      refine lv_iconst (v := 0) hx hb d_G_isSound_59 (by decide) ?_
      exact ro_z hx hb hr hlk d_G_isSound_60 (by first | rfl | exact mz_bn _) ((mz_bf fun q => absurd q.2.1.1 (Nat.not_le.mpr (nz_lt2 hq2))).symm)
    · obtain ⟨p0, hp02, hp0, rfl⟩ := nz_ge2 hp2
      obtain ⟨q0, hq02, hq0, rfl⟩ := nz_ge2 hq2
      refine lv_iload_n hx hb d_G_isSound_0 rfl (lv_at hl 0 rfl) ?_
      refine lv_iconst (v := 2) hx hb d_G_isSound_1 (by decide) ?_
      refine lv_icmp_lt (tgt := 59) hx hb d_G_isSound_2 (by decide) (fun c_ => absurd c_ (hp2)) (fun _ => ?_)
      refine lv_iload_n hx hb d_G_isSound_5 rfl (lv_at hl 1 rfl) ?_
      refine lv_iconst (v := 2) hx hb d_G_isSound_6 (by decide) ?_
      refine lv_icmp_lt (tgt := 59) hx hb d_G_isSound_7 (by decide) (fun c_ => absurd c_ (hq2)) (fun _ => ?_)
      refine lv_iload_n hx hb d_G_isSound_10 rfl (lv_at hl 0 rfl) ?_
      refine lv_iconst (v := (nI 1)) hx hb d_G_isSound_11 (by decide) ?_
      refine lv_isub hx hb d_G_isSound_12 ?_
      refine x_i (y := nI (p0 - 1)) (pk_sub (by omega)) ?_
      refine lv_iload_n hx hb d_G_isSound_13 rfl (lv_at hl 1 rfl) ?_
      refine lv_irem hx hb d_G_isSound_14 (nz_ine (by omega) hq0) ?_
      refine x_i (y := nI ((p0 - 1) % q0)) (pk_rem (by omega) (by omega) hq0) ?_
      refine lv_if_ne (tgt := 59) hx hb d_G_isSound_15 (by decide) (fun c15 => ?_) (fun c15 => ?_)
      · have h5 : ¬ (p0 - 1) % q0 = 0 := fun q => c15 (by rw [q]; rfl)
        refine lv_iconst (v := 0) hx hb d_G_isSound_59 (by decide) ?_
        exact ro_z hx hb hr hlk d_G_isSound_60 (by first | rfl | exact mz_bn _) ((mz_bf fun q => by
            obtain ⟨q10, q9, q5, q6, q7, q8⟩ := q
            rw [nI_clamp hp0, nI_clamp hq0] at q5 q7 q8
            first | exact h5 q5 | exact q6 h6 | exact h7 q7 | exact h8 q8 | exact h9 q9 | exact h10 q10).symm)
      · have h5 : (p0 - 1) % q0 = 0 := by
          rcases Nat.eq_zero_or_pos ((p0 - 1) % q0) with q | q
          · exact q
          · exact absurd c15 (nI_ne0 q (Nat.lt_trans (Nat.mod_lt _ (by omega)) hq0))
        refine lv_iload_n hx hb d_G_isSound_18 rfl (lv_at hl 2 rfl) ?_
        refine lv_iload_n hx hb d_G_isSound_19 rfl (lv_at hl 3 rfl) ?_
        refine lv_icmp_eq (tgt := 59) hx hb d_G_isSound_20 (by decide) (fun h6 => ?_) (fun h6 => ?_)
        · refine lv_iconst (v := 0) hx hb d_G_isSound_59 (by decide) ?_
          exact ro_z hx hb hr hlk d_G_isSound_60 (by first | rfl | exact mz_bn _) ((mz_bf fun q => by
              obtain ⟨q10, q9, q5, q6, q7, q8⟩ := q
              rw [nI_clamp hp0, nI_clamp hq0] at q5 q7 q8
              first | exact h5 q5 | exact q6 h6 | exact h7 q7 | exact h8 q8 | exact h9 q9 | exact h10 q10).symm)
        · refine lv_iload_n hx hb d_G_isSound_23 rfl (lv_at hl 2 rfl) ?_
          refine lv_iload_n hx hb d_G_isSound_24 rfl (lv_at hl 0 rfl) ?_
          refine lv_iload_n hx hb d_G_isSound_25 rfl (lv_at hl 1 rfl) ?_
          refine ro_S (As := [.int g1, .int (nI p0), .int (nI q0)]) (rest := []) ⟨hx, hb, hml, hown, hts⟩ (c_G_isElement l g1 p0 q0 hp02 hp0 hq0) (va_cwS 3 hts (al_S k_27 k_28 k_2 k_29) rfl rfl rfl (by decide +kernel) ⟨Nat.le_of_ble_eq_true rfl, Nat.le_of_ble_eq_true rfl⟩) (fun _ _ _ _ h => h) (fun _ _ _ => trivial) rfl hl.1 rfl (lv_room (Nat.le_of_ble_eq_true rfl)) d_G_isSound_26 ⟨Nat.zero_le _, Nat.zero_le _⟩ ?_
          refine lv_if_eq (tgt := 59) hx hb d_G_isSound_29 (by decide) (fun c29 => ?_) (fun c29 => ?_)
          · have h7 := mz_b0.mp c29
            refine lv_iconst (v := 0) hx hb d_G_isSound_59 (by decide) ?_
            exact ro_z hx hb hr hlk d_G_isSound_60 (by first | rfl | exact mz_bn _) ((mz_bf fun q => by
                obtain ⟨q10, q9, q5, q6, q7, q8⟩ := q
                rw [nI_clamp hp0, nI_clamp hq0] at q5 q7 q8
                first | exact h5 q5 | exact q6 h6 | exact h7 q7 | exact h8 q8 | exact h9 q9 | exact h10 q10).symm)
          · have h7 : mz_el g1 p0 q0 := Classical.not_not.mp (fun z => c29 (mz_b0.mpr z))
            refine lv_iload_n hx hb d_G_isSound_32 rfl (lv_at hl 3 rfl) ?_
            refine lv_iload_n hx hb d_G_isSound_33 rfl (lv_at hl 0 rfl) ?_
            refine lv_iload_n hx hb d_G_isSound_34 rfl (lv_at hl 1 rfl) ?_
            refine ro_S (As := [.int h1, .int (nI p0), .int (nI q0)]) (rest := []) ⟨hx, hb, hml, hown, hts⟩ (c_G_isElement l h1 p0 q0 hp02 hp0 hq0) (va_cwS 3 hts (al_S k_27 k_28 k_2 k_29) rfl rfl rfl (by decide +kernel) ⟨Nat.le_of_ble_eq_true rfl, Nat.le_of_ble_eq_true rfl⟩) (fun _ _ _ _ h => h) (fun _ _ _ => trivial) rfl hl.1 rfl (lv_room (Nat.le_of_ble_eq_true rfl)) d_G_isSound_35 ⟨Nat.zero_le _, Nat.zero_le _⟩ ?_
            refine lv_if_eq (tgt := 59) hx hb d_G_isSound_38 (by decide) (fun c38 => ?_) (fun c38 => ?_)
            · have h8 := mz_b0.mp c38
              refine lv_iconst (v := 0) hx hb d_G_isSound_59 (by decide) ?_
              exact ro_z hx hb hr hlk d_G_isSound_60 (by first | rfl | exact mz_bn _) ((mz_bf fun q => by
                  obtain ⟨q10, q9, q5, q6, q7, q8⟩ := q
                  rw [nI_clamp hp0, nI_clamp hq0] at q5 q7 q8
                  first | exact h5 q5 | exact q6 h6 | exact h7 q7 | exact h8 q8 | exact h9 q9 | exact h10 q10).symm)
            · have h8 : mz_el h1 p0 q0 := Classical.not_not.mp (fun z => c38 (mz_b0.mpr z))
              refine lv_iload_n hx hb d_G_isSound_41 rfl (lv_at hl 1 rfl) ?_
              refine ro_S (As := [.int (nI q0)]) (rest := []) ⟨hx, hb, hml, hown, hts⟩ (c_G_isPrime l (nI q0)) (va_cwS 1 hts (al_S k_33 k_34 k_2 k_35) rfl rfl rfl (by decide +kernel) ⟨Nat.le_of_ble_eq_true rfl, Nat.le_of_ble_eq_true rfl⟩) (fun _ _ _ _ h => h) (fun _ _ _ => trivial) rfl hl.1 rfl (lv_room (Nat.le_of_ble_eq_true rfl)) d_G_isSound_42 ⟨Nat.zero_le _, Nat.zero_le _⟩ ?_
              refine lv_if_eq (tgt := 59) hx hb d_G_isSound_45 (by decide) (fun c45 => ?_) (fun c45 => ?_)
              · have h9 := mz_b0.mp c45
                refine lv_iconst (v := 0) hx hb d_G_isSound_59 (by decide) ?_
                exact ro_z hx hb hr hlk d_G_isSound_60 (by first | rfl | exact mz_bn _) ((mz_bf fun q => by
                    obtain ⟨q10, q9, q5, q6, q7, q8⟩ := q
                    rw [nI_clamp hp0, nI_clamp hq0] at q5 q7 q8
                    first | exact h5 q5 | exact q6 h6 | exact h7 q7 | exact h8 q8 | exact h9 q9 | exact h10 q10).symm)
              · have h9 : mz_P (nI q0).toNatClampNeg := Classical.not_not.mp (fun z => c45 (mz_b0.mpr z))
                refine lv_iload_n hx hb d_G_isSound_48 rfl (lv_at hl 0 rfl) ?_
                refine ro_S (As := [.int (nI p0)]) (rest := []) ⟨hx, hb, hml, hown, hts⟩ (c_G_isPrime l (nI p0)) (va_cwS 1 hts (al_S k_33 k_34 k_2 k_35) rfl rfl rfl (by decide +kernel) ⟨Nat.le_of_ble_eq_true rfl, Nat.le_of_ble_eq_true rfl⟩) (fun _ _ _ _ h => h) (fun _ _ _ => trivial) rfl hl.1 rfl (lv_room (Nat.le_of_ble_eq_true rfl)) d_G_isSound_49 ⟨Nat.zero_le _, Nat.zero_le _⟩ ?_
                refine lv_if_eq (tgt := 59) hx hb d_G_isSound_52 (by decide) (fun c52 => ?_) (fun c52 => ?_)
                · have h10 := mz_b0.mp c52
                  refine lv_iconst (v := 0) hx hb d_G_isSound_59 (by decide) ?_
                  exact ro_z hx hb hr hlk d_G_isSound_60 (by first | rfl | exact mz_bn _) ((mz_bf fun q => by
                      obtain ⟨q10, q9, q5, q6, q7, q8⟩ := q
                      rw [nI_clamp hp0, nI_clamp hq0] at q5 q7 q8
                      first | exact h5 q5 | exact q6 h6 | exact h7 q7 | exact h8 q8 | exact h9 q9 | exact h10 q10).symm)
                · have h10 : mz_P (nI p0).toNatClampNeg := Classical.not_not.mp (fun z => c52 (mz_b0.mpr z))
                  refine lv_iconst (v := 1) hx hb d_G_isSound_55 (by decide) ?_
                  refine lv_goto (tgt := 60) hx hb d_G_isSound_56 (by decide) ?_
                  exact ro_z hx hb hr hlk d_G_isSound_60 (by first | rfl | exact mz_bn _) ((mz_bt ⟨h10, h9, by rw [nI_clamp hp0, nI_clamp hq0]; exact h5, h6, by rw [nI_clamp hp0, nI_clamp hq0]; exact h7, by rw [nI_clamp hp0, nI_clamp hq0]; exact h8⟩).symm)
set_option maxRecDepth 100000 in
set_option maxHeartbeats 4000000 in
/-- the reference's times(x, y, m) -/
theorem c_M_times (l : Launch) (x0 y0 m0 : Nat) (hx0 : x0 < 2 ^ 31) (hy0 : y0 < 2 ^ 31) (h1 : 0 < m0) (hm0 : m0 < 2 ^ 31) : Ro l y_M_times ws_M_times 0 0 [.int (nI x0), .int (nI y0), .int (nI m0)] (fun _ => True) (nI (x0 * y0 % m0)) := by
  refine Met.ofW (cc := b_M_times) (maxL := 3) (ret := (some .int)) (by decide) rfl ?_
  intro p e s m args below meth c s₁ B hml hv
  obtain ⟨rfl, -⟩ := hv
  have hx := B.exec
  have hb := B.bytes
  have hr := B.returns
  have hts : ∀ w ∈ AL, w.before ([.int (nI x0), .int (nI y0), .int (nI m0)] : List Value).toArray s = true := fun w h => atoms_spec (ws := ws_M_times) B.pre w (List.mem_cons_of_mem _ h)
  have hown : s.vm.findClass "DealtSecretModel" = some m.cls := findClass_of_methodNamed B.named
  have hlk := B.notSynchronized
  have hl := lv_entry ([.int (nI x0), .int (nI y0), .int (nI m0)]) (n := 3) (Nat.le_of_ble_eq_true rfl)
  rw [lg_entry_eq]
  generalize (lg_sl ([.int (nI x0), .int (nI y0), .int (nI m0)]) ++ List.replicate (3 - (lg_sl ([.int (nI x0), .int (nI y0), .int (nI m0)])).length) Slot.unset).toArray = ls at hl ⊢
  have hl : lv_has ls 3 [(0, .int (nI x0)), (1, .int (nI y0)), (2, .int (nI m0))] := hl
  have hxy := nz_m31 hx0 hy0
  refine lv_iload_n hx hb d_M_times_0 rfl (lv_at hl 0 rfl) ?_
  refine lv_i2l (v := (lN x0)) hx hb d_M_times_1 (nI_l hx0) ?_
  refine lv_iload_n hx hb d_M_times_2 rfl (lv_at hl 1 rfl) ?_
  refine lv_i2l (v := (lN y0)) hx hb d_M_times_3 (nI_l hy0) ?_
  refine lv_lmul hx hb d_M_times_4 ?_
  refine x_l (y := lN (x0 * y0)) (lN_mul _ _) ?_
  refine lv_iload_n hx hb d_M_times_5 rfl (lv_at hl 2 rfl) ?_
  refine lv_i2l (v := (lN m0)) hx hb d_M_times_6 (nI_l hm0) ?_
  refine lv_lrem hx hb d_M_times_7 (nz_lne h1 hm0) ?_
  refine x_l (y := lN (x0 * y0 % m0)) (nz_lrem hxy h1 hm0) ?_
  refine lv_l2i (v := (nI (x0 * y0 % m0))) hx hb d_M_times_8 (lN_i _) ?_
  exact ro_i hx hb hr hlk d_M_times_9 (rfl)
set_option maxRecDepth 100000 in
set_option maxHeartbeats 4000000 in
/-- the reference's power(x, e, m) = x^e modulo m -/
theorem c_M_power (l : Launch) (b0 e0 m0 : Nat) (hb0 : b0 < 2 ^ 31) (he0 : e0 < 2 ^ 31) (h1 : 0 < m0) (hm0 : m0 < 2 ^ 31) : Ro l y_M_power ws_M_power 1 22 [.int (nI b0), .int (nI e0), .int (nI m0)] (fun _ => True) (nI (b0 ^ e0 % m0)) := by
  refine Met.ofW (cc := b_M_power) (maxL := 6) (ret := (some .int)) (by decide) rfl ?_
  intro p e s m args below meth c s₁ B hml hv
  obtain ⟨rfl, -⟩ := hv
  have hx := B.exec
  have hb := B.bytes
  have hr := B.returns
  have hts : ∀ w ∈ AL, w.before ([.int (nI b0), .int (nI e0), .int (nI m0)] : List Value).toArray s = true := fun w h => atoms_spec (ws := ws_M_power) B.pre w (List.mem_cons_of_mem _ h)
  have hown : s.vm.findClass "DealtSecretModel" = some m.cls := findClass_of_methodNamed B.named
  have hlk := B.notSynchronized
  have hl := lv_entry ([.int (nI b0), .int (nI e0), .int (nI m0)]) (n := 6) (Nat.le_of_ble_eq_true rfl)
  rw [lg_entry_eq]
  generalize (lg_sl ([.int (nI b0), .int (nI e0), .int (nI m0)]) ++ List.replicate (6 - (lg_sl ([.int (nI b0), .int (nI e0), .int (nI m0)])).length) Slot.unset).toArray = ls at hl ⊢
  have hl : lv_has ls 6 [(0, .int (nI b0)), (1, .int (nI e0)), (2, .int (nI m0))] := hl
  have loop : ∀ (n r0 s0 k0 : Nat) (ls : Array Slot), k0 < n → k0 < 2 ^ 31 → r0 < m0 → s0 < m0 → r0 * s0 ^ k0 % m0 = b0 ^ e0 % m0 → lv_has ls 6 [(0, .int (nI b0)), (1, .int (nI e0)), (2, .int (nI m0)), (3, .int (nI r0)), (4, .int (nI s0)), (5, .int (nI k0))] → W p l e (headSpec ws_M_power { frames := 1, cells := 0, slots := 0, locals := 22 }).room s m [.int (nI b0), .int (nI e0), .int (nI m0)].toArray below meth c s.heap [] 0 0 (MQ below (QcRead (nI (b0 ^ e0 % m0))) [.int (nI b0), .int (nI e0), .int (nI m0)].toArray s 0 0 (fun _ => False)) (F0 m 12 ls []) := by
    intro n
    induction n with
    | zero =>
      intro r0 s0 k0 ls h1
      exact absurd h1 (Nat.not_lt_zero _)
    | succ n ih =>
      intro r0 s0 k0 ls hk hk2 hr0 hs0 hI hl
      have hst := mz_step m0 r0 s0 k0
      refine lv_iload hx hb d_M_power_12 (lv_at hl 5 rfl) ?_
      refine lv_if_le (tgt := 56) hx hb d_M_power_14 (by decide) (fun c14 => ?_) (fun c14 => ?_)
      · have hk0 : k0 = 0 := by
          rcases Nat.eq_zero_or_pos k0 with q | q
          · exact q
          · exact absurd c14 (nI_nle q hk2)
        subst hk0
        refine lv_iload_n hx hb d_M_power_56 rfl (lv_at hl 3 rfl) ?_
        exact ro_i hx hb hr hlk d_M_power_57 (by rw [← hI, Nat.pow_zero, Nat.mul_one, Nat.mod_eq_of_lt hr0])
      · have hkp : 0 < k0 := by
          rcases Nat.eq_zero_or_pos k0 with q | q
          · exact absurd (by rw [q]; decide) c14
          · exact q
        refine lv_iload hx hb d_M_power_17 (lv_at hl 5 rfl) ?_
        refine lv_iconst (v := (nI 2)) hx hb d_M_power_19 (by decide) ?_
        refine lv_irem hx hb d_M_power_20 (by decide) ?_
        refine x_i (y := nI (k0 % 2)) (pk_rem hk2 (by omega) (by omega)) ?_
        refine lv_iconst (v := (nI 1)) hx hb d_M_power_21 (by decide) ?_
        refine lv_icmp_ne (tgt := 35) hx hb d_M_power_22 (by decide) (fun c22 => ?_) (fun c22 => ?_)
        · have hke : ¬ k0 % 2 = 1 := fun q => c22 (by rw [q])
          rw [if_neg hke] at hst
          refine lv_iload_n hx hb d_M_power_35 rfl (lv_at hl 3 rfl) ?_
          refine lv_istore_n (lv' := [(3, .int (nI r0)), (0, .int (nI b0)), (1, .int (nI e0)), (2, .int (nI m0)), (4, .int (nI s0)), (5, .int (nI k0))]) hx hb d_M_power_36 rfl hl (by decide) rfl (fun ls hl => ?_)
          refine lv_iload hx hb d_M_power_37 (lv_at hl 4 rfl) ?_
          refine lv_iload hx hb d_M_power_39 (lv_at hl 4 rfl) ?_
          refine lv_iload_n hx hb d_M_power_41 rfl (lv_at hl 3 rfl) ?_
          refine ro_S (As := [.int (nI s0), .int (nI s0), .int (nI m0)]) (rest := []) ⟨hx, hb, hml, hown, hts⟩ (c_M_times l s0 s0 m0 (by omega) (by omega) h1 hm0) (va_cwS 3 hts (al_S k_440 k_441 k_4 k_442) rfl rfl rfl (by decide +kernel) ⟨Nat.le_of_ble_eq_true rfl, Nat.le_of_ble_eq_true rfl⟩) (fun _ _ _ _ h => h) (fun _ _ _ => trivial) rfl hl.1 rfl (lv_room (Nat.le_of_ble_eq_true rfl)) d_M_power_42 ⟨Nat.zero_le _, Nat.zero_le _⟩ ?_
          refine lv_istore (lv' := [(4, .int (nI (s0 * s0 % m0))), (3, .int (nI r0)), (0, .int (nI b0)), (1, .int (nI e0)), (2, .int (nI m0)), (5, .int (nI k0))]) hx hb d_M_power_45 hl (by decide) rfl (fun ls hl => ?_)
          refine lv_iload hx hb d_M_power_47 (lv_at hl 5 rfl) ?_
          refine lv_iconst (v := (nI 2)) hx hb d_M_power_49 (by decide) ?_
          refine lv_idiv hx hb d_M_power_50 (by decide) ?_
          refine x_i (y := nI (k0 / 2)) (pk_div hk2 (by omega) (by omega)) ?_
          refine lv_istore (lv' := [(5, .int (nI (k0 / 2))), (4, .int (nI (s0 * s0 % m0))), (3, .int (nI r0)), (0, .int (nI b0)), (1, .int (nI e0)), (2, .int (nI m0))]) hx hb d_M_power_51 hl (by decide) rfl (fun ls hl => ?_)
          refine lv_goto (tgt := 12) hx hb d_M_power_53 (by decide) ?_
          exact ih r0 (s0 * s0 % m0) (k0 / 2) ls (by omega) (by omega) (by first | exact hr0 | exact Nat.mod_lt _ h1) (Nat.mod_lt _ h1) (hst.trans hI) (lv_sub hl [3, 4, 5, 2, 1, 0] rfl)
        · have hko : k0 % 2 = 1 := (nI_eq (by omega) (by omega)).mp c22
          rw [if_pos hko] at hst
          refine lv_iload_n hx hb d_M_power_25 rfl (lv_at hl 3 rfl) ?_
          refine lv_iload hx hb d_M_power_26 (lv_at hl 4 rfl) ?_
          refine lv_iload_n hx hb d_M_power_28 rfl (lv_at hl 2 rfl) ?_
          refine ro_S (As := [.int (nI r0), .int (nI s0), .int (nI m0)]) (rest := []) ⟨hx, hb, hml, hown, hts⟩ (c_M_times l r0 s0 m0 (by omega) (by omega) h1 hm0) (va_cwS 3 hts (al_S k_440 k_441 k_4 k_442) rfl rfl rfl (by decide +kernel) ⟨Nat.le_of_ble_eq_true rfl, Nat.le_of_ble_eq_true rfl⟩) (fun _ _ _ _ h => h) (fun _ _ _ => trivial) rfl hl.1 rfl (lv_room (Nat.le_of_ble_eq_true rfl)) d_M_power_29 ⟨Nat.zero_le _, Nat.zero_le _⟩ ?_
          refine lv_goto (tgt := 36) hx hb d_M_power_32 (by decide) ?_
          refine lv_istore_n (lv' := [(3, .int (nI (r0 * s0 % m0))), (0, .int (nI b0)), (1, .int (nI e0)), (2, .int (nI m0)), (4, .int (nI s0)), (5, .int (nI k0))]) hx hb d_M_power_36 rfl hl (by decide) rfl (fun ls hl => ?_)
          refine lv_iload hx hb d_M_power_37 (lv_at hl 4 rfl) ?_
          refine lv_iload hx hb d_M_power_39 (lv_at hl 4 rfl) ?_
          refine lv_iload_n hx hb d_M_power_41 rfl (lv_at hl 3 rfl) ?_
          refine ro_S (As := [.int (nI s0), .int (nI s0), .int (nI m0)]) (rest := []) ⟨hx, hb, hml, hown, hts⟩ (c_M_times l s0 s0 m0 (by omega) (by omega) h1 hm0) (va_cwS 3 hts (al_S k_440 k_441 k_4 k_442) rfl rfl rfl (by decide +kernel) ⟨Nat.le_of_ble_eq_true rfl, Nat.le_of_ble_eq_true rfl⟩) (fun _ _ _ _ h => h) (fun _ _ _ => trivial) rfl hl.1 rfl (lv_room (Nat.le_of_ble_eq_true rfl)) d_M_power_42 ⟨Nat.zero_le _, Nat.zero_le _⟩ ?_
          refine lv_istore (lv' := [(4, .int (nI (s0 * s0 % m0))), (3, .int (nI (r0 * s0 % m0))), (0, .int (nI b0)), (1, .int (nI e0)), (2, .int (nI m0)), (5, .int (nI k0))]) hx hb d_M_power_45 hl (by decide) rfl (fun ls hl => ?_)
          refine lv_iload hx hb d_M_power_47 (lv_at hl 5 rfl) ?_
          refine lv_iconst (v := (nI 2)) hx hb d_M_power_49 (by decide) ?_
          refine lv_idiv hx hb d_M_power_50 (by decide) ?_
          refine x_i (y := nI (k0 / 2)) (pk_div hk2 (by omega) (by omega)) ?_
          refine lv_istore (lv' := [(5, .int (nI (k0 / 2))), (4, .int (nI (s0 * s0 % m0))), (3, .int (nI (r0 * s0 % m0))), (0, .int (nI b0)), (1, .int (nI e0)), (2, .int (nI m0))]) hx hb d_M_power_51 hl (by decide) rfl (fun ls hl => ?_)
          refine lv_goto (tgt := 12) hx hb d_M_power_53 (by decide) ?_
          exact ih (r0 * s0 % m0) (s0 * s0 % m0) (k0 / 2) ls (by omega) (by omega) (by first | exact hr0 | exact Nat.mod_lt _ h1) (Nat.mod_lt _ h1) (hst.trans hI) (lv_sub hl [3, 4, 5, 2, 1, 0] rfl)
  refine lv_iconst (v := (nI 1)) hx hb d_M_power_0 (by decide) ?_
  refine lv_iload_n hx hb d_M_power_1 rfl (lv_at hl 2 rfl) ?_
  refine lv_irem hx hb d_M_power_2 (nz_ine h1 hm0) ?_
  refine x_i (y := nI (1 % m0)) (pk_rem (by omega) h1 hm0) ?_
  refine lv_istore_n (lv' := [(3, .int (nI (1 % m0))), (0, .int (nI b0)), (1, .int (nI e0)), (2, .int (nI m0))]) hx hb d_M_power_3 rfl hl (by decide) rfl (fun ls hl => ?_)
  refine lv_iload_n hx hb d_M_power_4 rfl (lv_at hl 1 rfl) ?_
  refine lv_iload_n hx hb d_M_power_5 rfl (lv_at hl 3 rfl) ?_
  refine lv_irem hx hb d_M_power_6 (nz_ine h1 hm0) ?_
  refine x_i (y := nI (b0 % m0)) (pk_rem hb0 h1 hm0) ?_
  refine lv_istore (lv' := [(4, .int (nI (b0 % m0))), (3, .int (nI (1 % m0))), (0, .int (nI b0)), (1, .int (nI e0)), (2, .int (nI m0))]) hx hb d_M_power_7 hl (by decide) rfl (fun ls hl => ?_)
  refine lv_iload_n hx hb d_M_power_9 rfl (lv_at hl 3 rfl) ?_
  refine lv_istore (lv' := [(5, .int (nI e0)), (4, .int (nI (b0 % m0))), (3, .int (nI (1 % m0))), (0, .int (nI b0)), (1, .int (nI e0)), (2, .int (nI m0))]) hx hb d_M_power_10 hl (by decide) rfl (fun ls hl => ?_)
  exact loop (e0 + 1) (1 % m0) (b0 % m0) e0 ls (by omega) he0 (Nat.mod_lt _ h1) (Nat.mod_lt _ h1) (by rw [Nat.mul_mod, Nat.mod_mod, ← Nat.mul_mod, Nat.one_mul, ← Nat.pow_mod]) (lv_sub hl [3, 4, 5, 2, 1, 0] rfl)
set_option maxRecDepth 100000 in
set_option maxHeartbeats 4000000 in
/-- the reference's prime(x) -/
theorem c_M_prime (l : Launch) (x0 : Int32) : Ro l y_M_prime ws_M_prime 0 0 [.int x0] (fun _ => True) (mz_b (mz_P x0.toNatClampNeg)) := by
  refine Met.ofW (cc := b_M_prime) (maxL := 2) (ret := (some .boolean)) (by decide) rfl ?_
  intro p e s m args below meth c s₁ B hml hv
  obtain ⟨rfl, -⟩ := hv
  have hx := B.exec
  have hb := B.bytes
  have hr := B.returns
  have hts : ∀ w ∈ AL, w.before ([.int x0] : List Value).toArray s = true := fun w h => atoms_spec (ws := ws_M_prime) B.pre w (List.mem_cons_of_mem _ h)
  have hown : s.vm.findClass "DealtSecretModel" = some m.cls := findClass_of_methodNamed B.named
  have hlk := B.notSynchronized
  have hl := lv_entry ([.int x0]) (n := 2) (Nat.le_of_ble_eq_true rfl)
  rw [lg_entry_eq]
  generalize (lg_sl ([.int x0]) ++ List.replicate (2 - (lg_sl ([.int x0])).length) Slot.unset).toArray = ls at hl ⊢
  have hl : lv_has ls 2 [(0, .int x0)] := hl
  by_cases hx2 : x0 < 2
  · refine lv_iload_n hx hb d_M_prime_0 rfl (lv_at hl 0 rfl) ?_
    refine lv_iconst (v := 2) hx hb d_M_prime_1 (by decide) ?_
    refine lv_icmp_ge (tgt := 7) hx hb d_M_prime_2 (by decide) (fun c_ => absurd c_ (Int32.not_le.mpr hx2)) (fun _ => ?_)
    refine lv_iconst (v := 0) hx hb d_M_prime_5 (by decide) ?_
    exact ro_z hx hb hr hlk d_M_prime_6 (by first | rfl | exact mz_bn _) ((mz_bf fun q => absurd q.1 (Nat.not_le.mpr (nz_lt2 hx2))).symm)
  · obtain ⟨j, hj2, hj, rfl⟩ := nz_ge2 hx2
    rw [nI_clamp hj]
    have loop : ∀ (n d : Nat) (ls : Array Slot), j + 2 ≤ d + n → d ≤ j + 1 → d < 46342 → 2 ≤ d → (∀ f : Nat, 2 ≤ f → f < d → ¬ f ∣ j) → lv_has ls 2 [(0, .int (nI j)), (1, .int (nI d))] → W p l e (headSpec ws_M_prime { frames := 0, cells := 0, slots := 0, locals := 0 }).room s m [Value.int (nI j)].toArray below meth c s.heap [] 0 0 (MQ below (QcRead (mz_b (mz_P j))) [Value.int (nI j)].toArray s 0 0 (fun _ => False)) (F0 m 9 ls []) := by
      intro n
      induction n with
      | zero =>
        intro d ls h1 h2
        omega
      | succ n ih =>
        intro d ls h1 h2 h20 h3 hI hl
        refine lv_iload_n hx hb d_M_prime_9 rfl (lv_at hl 1 rfl) ?_
        refine lv_ldc (v := (nI 46340)) hx hb hown (hts _ k_436) d_M_prime_10 ?_
        refine lv_icmp_gt (tgt := 36) hx hb d_M_prime_12 (by decide) (fun c12 => ?_) (fun c12 => ?_)
        · have hdd : j < d * d := by
            have h5 : 46340 < d := (nI_ltI (by omega) (by omega)).mp c12
            have h6 : d = 46341 := by omega
            subst h6
            omega
          refine lv_iconst (v := 1) hx hb d_M_prime_36 (by decide) ?_
          exact ro_z hx hb hr hlk d_M_prime_37 (by first | rfl | exact mz_bn _) ((mz_bt ⟨hj2, fun f hf1 hf2 hf3 => by
              rcases Nat.lt_or_ge f d with q | q
              · exact hI f hf1 q hf3
              · exact absurd (Nat.le_trans (Nat.mul_le_mul q q) hf2) (Nat.not_le.mpr hdd)⟩).symm)
        · have hd46 : d ≤ 46340 := by
            rcases Nat.lt_or_ge 46340 d with q | q
            · exact absurd (nI_lt q (by omega)) c12
            · exact q
          have hd2 : d * d ≤ 46340 * 46340 := Nat.mul_le_mul hd46 hd46
          refine lv_iload_n hx hb d_M_prime_15 rfl (lv_at hl 1 rfl) ?_
          refine lv_iload_n hx hb d_M_prime_16 rfl (lv_at hl 1 rfl) ?_
          refine lv_imul hx hb d_M_prime_17 ?_
          refine x_i (y := nI (d * d)) (pk_mul d d) ?_
          refine lv_iload_n hx hb d_M_prime_18 rfl (lv_at hl 0 rfl) ?_
          refine lv_icmp_gt (tgt := 36) hx hb d_M_prime_19 (by decide) (fun c19 => ?_) (fun c19 => ?_)
          · have hdd : j < d * d := (nI_ltI hj (by omega)).mp c19
            refine lv_iconst (v := 1) hx hb d_M_prime_36 (by decide) ?_
            exact ro_z hx hb hr hlk d_M_prime_37 (by first | rfl | exact mz_bn _) ((mz_bt ⟨hj2, fun f hf1 hf2 hf3 => by
                rcases Nat.lt_or_ge f d with q | q
                · exact hI f hf1 q hf3
                · exact absurd (Nat.le_trans (Nat.mul_le_mul q q) hf2) (Nat.not_le.mpr hdd)⟩).symm)
          · have hdd : d * d ≤ j := by
              rcases Nat.lt_or_ge j (d * d) with q | q
              · exact absurd (nI_lt q (by omega)) c19
              · exact q
            have hdj : d ≤ j := Nat.le_trans (Nat.le_mul_of_pos_left d (by omega)) hdd
            refine lv_iload_n hx hb d_M_prime_22 rfl (lv_at hl 0 rfl) ?_
            refine lv_iload_n hx hb d_M_prime_23 rfl (lv_at hl 1 rfl) ?_
            refine lv_irem hx hb d_M_prime_24 (nz_ine (by omega) (by omega)) ?_
            refine x_i (y := nI (j % d)) (pk_rem hj (by omega) (by omega)) ?_
            refine lv_if_ne (tgt := 30) hx hb d_M_prime_25 (by decide) (fun c25 => ?_) (fun c25 => ?_)
            · have hnd : ¬ d ∣ j := fun q => c25 (by rw [Nat.mod_eq_zero_of_dvd q]; rfl)
              refine lv_iinc (v := (nI (d + 1))) (lv' := [(1, .int (nI (d + 1))), (0, .int (nI j))]) hx hb d_M_prime_30 hl (k := 1) rfl (nI_1 d) (by decide) rfl (fun ls hl => ?_)
              refine lv_goto (tgt := 9) hx hb d_M_prime_33 (by decide) ?_
              exact ih (d + 1) ls (by omega) (by omega) (by omega) (by omega) (fun f hf1 hf2 => by
                rcases (show f < d ∨ f = d by omega) with q | q
                · exact hI f hf1 q
                · rw [q]; exact hnd) (lv_sub hl [1, 0] rfl)
            · have hdv : d ∣ j := Nat.dvd_of_mod_eq_zero (by
                rcases Nat.eq_zero_or_pos (j % d) with q | q
                · exact q
                · exact absurd c25 (nI_ne0 q (Nat.lt_of_le_of_lt (Nat.mod_le j d) hj)))
              refine lv_iconst (v := 0) hx hb d_M_prime_28 (by decide) ?_
              exact ro_z hx hb hr hlk d_M_prime_29 (by first | rfl | exact mz_bn _) ((mz_bf fun q => (q.2 d h3 hdd) hdv).symm)
    refine lv_iload_n hx hb d_M_prime_0 rfl (lv_at hl 0 rfl) ?_
    refine lv_iconst (v := 2) hx hb d_M_prime_1 (by decide) ?_
    refine lv_icmp_ge (tgt := 7) hx hb d_M_prime_2 (by decide) (fun _ => ?_) (fun c_ => absurd (Int32.not_lt.mp hx2) c_)
    refine lv_iconst (v := (nI 2)) hx hb d_M_prime_7 (by decide) ?_
    refine lv_istore_n (lv' := [(1, .int (nI 2)), (0, .int (nI j))]) hx hb d_M_prime_8 rfl hl (by decide) rfl (fun ls hl => ?_)
    exact loop j 2 ls (by omega) (by omega) (by omega) (by omega) (fun f hf1 hf2 => by omega) (lv_sub hl [1, 0] rfl)
set_option maxRecDepth 100000 in
set_option maxHeartbeats 4000000 in
/-- Math.floorMod(x, q) -/
theorem c_J_floorMod (l : Launch) (x0 : Int32) (q0 : Nat) (h1 : 0 < q0) (hm0 : q0 < 2 ^ 31) : Ro l y_J_floorMod ws_J_floorMod 0 0 [.int x0, .int (nI q0)] (fun _ => True) (nI (md x0 q0)) := by
  refine va_MetF (cc := b_J_floorMod) (maxL := 3) (ret := (some .int)) (by decide +kernel) rfl ?_
  intro p e s m args below meth c s₁ B hml hv
  obtain ⟨rfl, -⟩ := hv
  have hx := B.exec
  have hb := B.bytes
  have hr := B.returns
  have hts : ∀ w ∈ AL, w.before ([.int x0, .int (nI q0)] : List Value).toArray s = true := fun w h => atoms_spec (ws := ws_J_floorMod) B.pre w (List.mem_cons_of_mem _ h)
  have hown : s.vm.findClass "java/lang/Math" = some m.cls := findClass_of_methodNamed B.named
  have hlk := B.notSynchronized
  have hl := lv_entry ([.int x0, .int (nI q0)]) (n := 3) (Nat.le_of_ble_eq_true rfl)
  rw [lg_entry_eq]
  generalize (lg_sl ([.int x0, .int (nI q0)]) ++ List.replicate (3 - (lg_sl ([.int x0, .int (nI q0)])).length) Slot.unset).toArray = ls at hl ⊢
  have hl : lv_has ls 3 [(0, .int x0), (1, .int (nI q0))] := hl
  have hmd := md_rem (x := x0) (q := q0) h1 hm0
  have hxo := md_xor (r := x0) (y := nI q0) (nI_pos hm0)
  have hsg := md_sign (x := x0) h1 hm0
  refine lv_iload_n hx hb d_J_floorMod_0 rfl (lv_at hl 0 rfl) ?_
  refine lv_iload_n hx hb d_J_floorMod_1 rfl (lv_at hl 1 rfl) ?_
  refine lv_irem hx hb d_J_floorMod_2 (nz_ine h1 hm0) ?_
  refine lv_istore_n (lv' := [(2, .int (x0 - x0 / (nI q0) * (nI q0))), (0, .int x0), (1, .int (nI q0))]) hx hb d_J_floorMod_3 rfl hl (by decide) rfl (fun ls hl => ?_)
  refine lv_iload_n hx hb d_J_floorMod_4 rfl (lv_at hl 1 rfl) ?_
  refine lv_iload_n hx hb d_J_floorMod_5 rfl (lv_at hl 2 rfl) ?_
  refine lv_ixor hx hb d_J_floorMod_6 ?_
  refine lv_if_ge (tgt := 18) hx hb d_J_floorMod_7 (by decide) (fun c7 => ?_) (fun c7 => ?_)
  · refine lv_iload_n hx hb d_J_floorMod_18 rfl (lv_at hl 0 rfl) ?_
    exact ro_i hx hb hr hlk d_J_floorMod_19 (hmd.1 (by first | exact hsg.1 (fun q => Int32.not_le.mpr (hxo.mpr q) c7) | (rw [c11]; decide)))
  · refine lv_iload_n hx hb d_J_floorMod_10 rfl (lv_at hl 0 rfl) ?_
    refine lv_if_eq (tgt := 18) hx hb d_J_floorMod_11 (by decide) (fun c11 => ?_) (fun c11 => ?_)
    · refine lv_iload_n hx hb d_J_floorMod_18 rfl (lv_at hl 0 rfl) ?_
      exact ro_i hx hb hr hlk d_J_floorMod_19 (hmd.1 (by first | exact hsg.1 (fun q => Int32.not_le.mpr (hxo.mpr q) c7) | (rw [c11]; decide)))
    · refine lv_iload_n hx hb d_J_floorMod_14 rfl (lv_at hl 0 rfl) ?_
      refine lv_iload_n hx hb d_J_floorMod_15 rfl (lv_at hl 2 rfl) ?_
      refine lv_iadd hx hb d_J_floorMod_16 ?_
      exact ro_i hx hb hr hlk d_J_floorMod_17 (hmd.2 (hsg.2 (hxo.mp (Int32.not_le.mp c7)) c11))
