/-- the products over the chosen ones but i, the weight, the sum: as the class makes them, modulo q -/
def abC (q0 : Nat) (f : Nat → Int32) (i : Nat) : Nat → Nat
  | 0 => 1
  | j + 1 => if j = i ∨ f j = 0 then abC q0 f i j else abC q0 f i j * (j + 1) % q0
def beC (q0 : Nat) (f : Nat → Int32) (i : Nat) : Nat → Nat
  | 0 => 1
  | j + 1 => if j = i ∨ f j = 0 then beC q0 f i j else beC q0 f i j * md (nI (j + 1) - nI (i + 1)) q0 % q0
def wtC (q0 : Nat) (f : Nat → Int32) (i n : Nat) : Nat := abC q0 f i n * (beC q0 f i n ^ (q0 - 2) % q0) % q0
def smC (q0 : Nat) (f U : Nat → Int32) (n : Nat) : Nat → Nat
  | 0 => 0
  | j + 1 => if f j = 0 then smC q0 f U n j else (smC q0 f U n j + nn (U j) * wtC q0 f j n % q0) % q0
theorem abC_0 {q0 : Nat} {f : Nat → Int32} {i j : Nat} (h : j = i ∨ f j = 0) : abC q0 f i (j + 1) = abC q0 f i j := if_pos h
theorem abC_1 {q0 : Nat} {f : Nat → Int32} {i j : Nat} (h : ¬ (j = i ∨ f j = 0)) : abC q0 f i (j + 1) = abC q0 f i j * (j + 1) % q0 := if_neg h
theorem beC_0 {q0 : Nat} {f : Nat → Int32} {i j : Nat} (h : j = i ∨ f j = 0) : beC q0 f i (j + 1) = beC q0 f i j := if_pos h
theorem beC_1 {q0 : Nat} {f : Nat → Int32} {i j : Nat} (h : ¬ (j = i ∨ f j = 0)) : beC q0 f i (j + 1) = beC q0 f i j * md (nI (j + 1) - nI (i + 1)) q0 % q0 := if_neg h
theorem smC_0 {q0 : Nat} {f U : Nat → Int32} {n j : Nat} (h : f j = 0) : smC q0 f U n (j + 1) = smC q0 f U n j := if_pos h
theorem smC_1 {q0 : Nat} {f U : Nat → Int32} {n j : Nat} (h : ¬ f j = 0) : smC q0 f U n (j + 1) = (smC q0 f U n j + nn (U j) * wtC q0 f j n % q0) % q0 := if_neg h
theorem abC_lt {q0 : Nat} (hq : 2 ≤ q0) (f : Nat → Int32) (i : Nat) : ∀ j, abC q0 f i j < q0
  | 0 => hq
  | j + 1 => by
    by_cases c : j = i ∨ f j = 0
    · rw [abC_0 c]; exact abC_lt hq f i j
    · rw [abC_1 c]; exact Nat.mod_lt _ (by omega)
theorem beC_lt {q0 : Nat} (hq : 2 ≤ q0) (f : Nat → Int32) (i : Nat) : ∀ j, beC q0 f i j < q0
  | 0 => hq
  | j + 1 => by
    by_cases c : j = i ∨ f j = 0
    · rw [beC_0 c]; exact beC_lt hq f i j
    · rw [beC_1 c]; exact Nat.mod_lt _ (by omega)
theorem smC_lt {q0 : Nat} (hq : 2 ≤ q0) (f U : Nat → Int32) (n : Nat) : ∀ j, smC q0 f U n j < q0
  | 0 => by show 0 < q0; omega
  | j + 1 => by
    by_cases c : f j = 0
    · rw [smC_0 c]; exact smC_lt hq f U n j
    · rw [smC_1 c]; exact Nat.mod_lt _ (by omega)
/-- where the search for the chosen ones ends -/
def lastC (f : Nat → Int32) (t n L : Nat) : Prop := L ≤ n ∧ (∀ i, i < L → mz_ct f i < t) ∧ (L = n ∨ t ≤ mz_ct f L)
set_option maxRecDepth 100000 in
set_option maxHeartbeats 4000000 in
/-- lastOfTheChosen() -/
theorem c_C_lastOfTheChosen (l : Launch) (dC : Nat → ClassId) (dI : Nat → Nat → Nat) (Z : Nat → Nat) (cI cP : ClassId) (p0 q0 g0 h0 : Nat) (S : Nat → Nat → Int32) (n0 t0 L0 : Nat) (hn : S 0 1 = nI n0) (hn7 : n0 ≤ 7) (ht : S 0 2 = nI t0) (ht7 : t0 ≤ 7) (hL : lastC (S 10) t0 n0 L0) : Ro l y_C_lastOfTheChosen ws_C_lastOfTheChosen 0 0 [.ref (Z 0)] (bC dC dI Z cI cP p0 q0 g0 h0 S) (nI L0) := by
  refine Met.ofW (cc := b_C_lastOfTheChosen) (maxL := 3) (ret := (some .int)) (by decide) rfl ?_
  intro p e s m args below meth c s₁ B hml hv
  obtain ⟨rfl, hP, hK⟩ := hv
  have hx := B.exec
  have hb := B.bytes
  have hr := B.returns
  have hts : ∀ w ∈ AL, w.before ([.ref (Z 0)] : List Value).toArray s = true := fun w h => atoms_spec (ws := ws_C_lastOfTheChosen) B.pre w (List.mem_cons_of_mem _ h)
  have hown : s.vm.findClass "DealtSecret" = some m.cls := findClass_of_methodNamed B.named
  have hlk := B.notSynchronized
  have hl := lv_entry ([.ref (Z 0)]) (n := 3) (Nat.le_of_ble_eq_true rfl)
  rw [lg_entry_eq]
  generalize (lg_sl ([.ref (Z 0)]) ++ List.replicate (3 - (lg_sl ([.ref (Z 0)])).length) Slot.unset).toArray = ls at hl ⊢
  have hl : lv_has ls 3 [(0, .ref (Z 0))] := hl
  obtain ⟨hL1, hL2, hL3⟩ := hL
  have loop : ∀ (n j : Nat) (ls : Array Slot), L0 + 1 ≤ j + n → j ≤ L0 → mz_ct (S 10) j ≤ t0 → lv_has ls 3 [(0, .ref (Z 0)), (1, .int (nI (t0 - mz_ct (S 10) j))), (2, .int (nI j))] → W p l e (headSpec ws_C_lastOfTheChosen { frames := 0, cells := 0, slots := 0, locals := 0 }).room s m [.ref (Z 0)].toArray below meth c s.heap [] 0 0 (MQ below (QcRead (nI L0)) [.ref (Z 0)].toArray s 0 0 (fun _ => False)) (F0 m 7 ls []) := by
    intro n
    induction n with
    | zero =>
      intro j ls h1 h2
      omega
    | succ n ih =>
      intro j ls h1 h2 h3 hl
      refine lv_iload_n hx hb d_C_lastOfTheChosen_7 rfl (lv_at hl 2 rfl) ?_
      refine lv_aload_n hx hb d_C_lastOfTheChosen_8 rfl (lv_at hl 0 rfl) ?_
      refine va_get (D := (dC, dI)) (ci := 2) (v := .int (S 0 1)) (C := "DealtSecret") (T := T_C) (N := 11) hx hb hts i_C hown hK hP 0 rfl rfl 6 (by decide) (hts _ k_107) (fun _ h9 => h9) rfl d_C_lastOfTheChosen_9 ?_
      refine x_i (y := nI n0) (hn) ?_
      refine lv_icmp_ge (tgt := 40) hx hb d_C_lastOfTheChosen_12 (by decide) (fun c12 => ?_) (fun c12 => ?_)
      · have hk : j = L0 := by
          rcases Nat.lt_or_ge j n0 with q | q
          · exact absurd c12 (nI_ge q (by omega))
          · omega
        subst hk
        refine lv_iload_n hx hb d_C_lastOfTheChosen_40 rfl (lv_at hl 2 rfl) ?_
        exact ro_i hx hb hr hlk d_C_lastOfTheChosen_41 (rfl)
      · have hk : j < n0 := by
          rcases Nat.lt_or_ge j n0 with q | q
          · exact q
          · exact absurd (nI_le q (by omega)) c12
        refine lv_iload_n hx hb d_C_lastOfTheChosen_15 rfl (lv_at hl 1 rfl) ?_
        refine lv_if_le (tgt := 40) hx hb d_C_lastOfTheChosen_16 (by decide) (fun c16 => ?_) (fun c16 => ?_)
        · have hk2 : j = L0 := by
            rcases Nat.lt_or_ge (mz_ct (S 10) j) t0 with q | q
            · exact absurd c16 (nI_ge (a := 0) (b := t0 - mz_ct (S 10) j) (by omega) (by omega))
            · rcases Nat.lt_or_ge j L0 with z | z
              · exact absurd (hL2 j z) (by omega)
              · omega
          subst hk2
          refine lv_iload_n hx hb d_C_lastOfTheChosen_40 rfl (lv_at hl 2 rfl) ?_
          exact ro_i hx hb hr hlk d_C_lastOfTheChosen_41 (rfl)
        · have hc : mz_ct (S 10) j < t0 := by
            rcases Nat.lt_or_ge (mz_ct (S 10) j) t0 with q | q
            · exact q
            · exact absurd (by rw [show t0 - mz_ct (S 10) j = 0 by omega]; decide) c16
          have hk2 : j < L0 := by
            rcases Nat.lt_or_ge j L0 with z | z
            · exact z
            · have e : j = L0 := by omega
              subst e
              omega
          refine lv_aload_n hx hb d_C_lastOfTheChosen_19 rfl (lv_at hl 0 rfl) ?_
          refine va_get (D := (dC, dI)) (ci := 2) (v := .ref (Z 5)) (C := "DealtSecret") (T := T_C) (N := 11) hx hb hts i_C hown hK hP 0 rfl rfl 4 (by decide) (hts _ k_105) (fun _ h9 => h9) rfl d_C_lastOfTheChosen_20 ?_
          refine lv_iload_n hx hb d_C_lastOfTheChosen_23 rfl (lv_at hl 2 rfl) ?_
          refine va_aldq hx hb hK hP 5 1 rfl rfl (vp_in_nI (by omega) (by decide)) d_C_lastOfTheChosen_24 ?_
          refine x_v (y := .ref (Z (6 + j))) (by rw [nI_clamp (by omega)]; rfl) ?_
          refine va_get (D := (dC, dI)) (ci := 1) (v := .int (S 10 j)) (C := "DealtSecret$Participant") (T := T_P) (N := 9) hx hb hts i_P hown hK hP (6 + j) (w_part (by omega)) rfl 6 (by decide) (hts _ k_77) (fun _ h9 => h9) rfl d_C_lastOfTheChosen_25 ?_
          refine lv_if_eq (tgt := 34) hx hb d_C_lastOfTheChosen_28 (by decide) (fun c28 => ?_) (fun c28 => ?_)
          · have h4 : mz_ct (S 10) (j + 1) ≤ t0 := by rw [mz_ct_0 c28]; omega
            refine lv_iinc (v := (nI (j + 1))) (lv' := [(2, .int (nI (j + 1))), (0, .ref (Z 0)), (1, .int (nI (t0 - mz_ct (S 10) j)))]) hx hb d_C_lastOfTheChosen_34 hl (k := 2) rfl (nI_1 j) (by decide) rfl (fun ls hl => ?_)
            refine lv_goto (tgt := 7) hx hb d_C_lastOfTheChosen_37 (by decide) ?_
            exact ih (j + 1) ls (by omega) (by omega) h4 (by rw [mz_ct_0 c28]; exact lv_sub hl [1, 2, 0] rfl)
          · have h4 : mz_ct (S 10) (j + 1) ≤ t0 := by rw [mz_ct_1 c28]; omega
            refine lv_iinc (v := (nI (t0 - mz_ct (S 10) (j + 1)))) (lv' := [(1, .int (nI (t0 - mz_ct (S 10) (j + 1)))), (0, .ref (Z 0)), (2, .int (nI j))]) hx hb d_C_lastOfTheChosen_31 hl (k := 1) rfl ((nz_dec _).trans (by rw [mz_ct_1 c28, show t0 - mz_ct (S 10) j = (t0 - (mz_ct (S 10) j + 1)) + 1 by omega]; exact nI_pred _)) (by decide) rfl (fun ls hl => ?_)
            refine lv_iinc (v := (nI (j + 1))) (lv' := [(2, .int (nI (j + 1))), (1, .int (nI (t0 - mz_ct (S 10) (j + 1)))), (0, .ref (Z 0))]) hx hb d_C_lastOfTheChosen_34 hl (k := 2) rfl (nI_1 j) (by decide) rfl (fun ls hl => ?_)
            refine lv_goto (tgt := 7) hx hb d_C_lastOfTheChosen_37 (by decide) ?_
            exact ih (j + 1) ls (by omega) (by omega) h4 (lv_sub hl [2, 1, 0] rfl)
  refine lv_aload_n hx hb d_C_lastOfTheChosen_0 rfl (lv_at hl 0 rfl) ?_
  refine va_get (D := (dC, dI)) (ci := 2) (v := .int (S 0 2)) (C := "DealtSecret") (T := T_C) (N := 11) hx hb hts i_C hown hK hP 0 rfl rfl 7 (by decide) (hts _ k_108) (fun _ h9 => h9) rfl d_C_lastOfTheChosen_1 ?_
  refine x_i (y := nI (t0 - mz_ct (S 10) 0)) (ht) ?_
  refine lv_istore_n (lv' := [(1, .int (nI (t0 - mz_ct (S 10) 0))), (0, .ref (Z 0))]) hx hb d_C_lastOfTheChosen_4 rfl hl (by decide) rfl (fun ls hl => ?_)
  refine lv_iconst (v := (nI 0)) hx hb d_C_lastOfTheChosen_5 (by decide) ?_
  refine lv_istore_n (lv' := [(2, .int (nI 0)), (1, .int (nI (t0 - mz_ct (S 10) 0))), (0, .ref (Z 0))]) hx hb d_C_lastOfTheChosen_6 rfl hl (by decide) rfl (fun ls hl => ?_)
  exact loop (L0 + 1) 0 ls (by omega) (by omega) (Nat.zero_le _) (lv_sub hl [2, 1, 0] rfl)
set_option maxRecDepth 100000 in
set_option maxHeartbeats 4000000 in
/-- weightAtZero(i, last) -/
theorem c_C_weightAtZero (l : Launch) (dC : Nat → ClassId) (dI : Nat → Nat → Nat) (Z : Nat → Nat) (cI cP : ClassId) (p0 q0 g0 h0 : Nat) (S : Nat → Nat → Int32) (i0 L0 : Nat) (hi : i0 < L0) (hL : L0 ≤ 7) (ok : okG p0 q0 g0 h0) : Ro l y_C_weightAtZero ws_C_weightAtZero 3 65 [.ref (Z 0), .int (nI (i0 + 1)), .int (nI L0)] (bC dC dI Z cI cP p0 q0 g0 h0 S) (nI (wtC q0 (S 10) i0 L0)) := by
  refine Met.ofW (cc := b_C_weightAtZero) (maxL := 6) (ret := (some .int)) (by decide) rfl ?_
  intro p e s m args below meth c s₁ B hml hv
  obtain ⟨rfl, hP, hK⟩ := hv
  have hx := B.exec
  have hb := B.bytes
  have hr := B.returns
  have hts : ∀ w ∈ AL, w.before ([.ref (Z 0), .int (nI (i0 + 1)), .int (nI L0)] : List Value).toArray s = true := fun w h => atoms_spec (ws := ws_C_weightAtZero) B.pre w (List.mem_cons_of_mem _ h)
  have hown : s.vm.findClass "DealtSecret" = some m.cls := findClass_of_methodNamed B.named
  have hlk := B.notSynchronized
  have hl := lv_entry ([.ref (Z 0), .int (nI (i0 + 1)), .int (nI L0)]) (n := 6) (Nat.le_of_ble_eq_true rfl)
  rw [lg_entry_eq]
  generalize (lg_sl ([.ref (Z 0), .int (nI (i0 + 1)), .int (nI L0)]) ++ List.replicate (6 - (lg_sl ([.ref (Z 0), .int (nI (i0 + 1)), .int (nI L0)])).length) Slot.unset).toArray = ls at hl ⊢
  have hl : lv_has ls 6 [(0, .ref (Z 0)), (1, .int (nI (i0 + 1))), (2, .int (nI L0))] := hl
  obtain ⟨okp2, okp, okq2, okq, okg, okh⟩ := id ok
  have loop : ∀ (n j : Nat) (ls : Array Slot), L0 + 1 ≤ j + n → j ≤ L0 → lv_has ls 6 [(0, .ref (Z 0)), (1, .int (nI (i0 + 1))), (2, .int (nI L0)), (3, .int (nI (abC q0 (S 10) i0 j))), (4, .int (nI (beC q0 (S 10) i0 j))), (5, .int (nI (j + 1)))] → W p l e (headSpec ws_C_weightAtZero { frames := 3, cells := 0, slots := 0, locals := 65 }).room s m [.ref (Z 0), .int (nI (i0 + 1)), .int (nI L0)].toArray below meth c s.heap [] 0 0 (MQ below (QcRead (nI (wtC q0 (S 10) i0 L0))) [.ref (Z 0), .int (nI (i0 + 1)), .int (nI L0)].toArray s 0 0 (fun _ => False)) (F0 m 8 ls []) := by
    intro n
    induction n with
    | zero =>
      intro j ls h1 h2
      omega
    | succ n ih =>
      intro j ls h1 h2 hl
      have ha := abC_lt okq2 (S 10) i0 j
      have hbe := beC_lt okq2 (S 10) i0 j
      have hm := md_lt (nI (j + 1) - nI (i0 + 1)) (show 0 < q0 by omega)
      refine lv_iload hx hb d_C_weightAtZero_8 (lv_at hl 5 rfl) ?_
      refine lv_iload_n hx hb d_C_weightAtZero_10 rfl (lv_at hl 2 rfl) ?_
      refine lv_icmp_gt (tgt := 73) hx hb d_C_weightAtZero_11 (by decide) (fun c11 => ?_) (fun c11 => ?_)
      · have hk : j = L0 := by
          have h5 : L0 < j + 1 := (nI_ltI (by omega) (by omega)).mp c11
          omega
        rw [hk] at hl ha hbe
        refine lv_aload_n hx hb d_C_weightAtZero_73 rfl (lv_at hl 0 rfl) ?_
        refine va_get (D := (dC, dI)) (ci := 2) (v := .ref (Z 1)) (C := "DealtSecret") (T := T_C) (N := 11) hx hb hts i_C hown hK hP 0 rfl rfl 0 (by decide) (hts _ k_101) (fun _ h9 => h9) rfl d_C_weightAtZero_74 ?_
        refine lv_iload_n hx hb d_C_weightAtZero_77 rfl (lv_at hl 3 rfl) ?_
        refine lv_iload hx hb d_C_weightAtZero_78 (lv_at hl 4 rfl) ?_
        refine ro_V (As := [.int (nI (abC q0 (S 10) i0 (L0))), .int (nI (beC q0 (S 10) i0 (L0)))]) (rest := []) (b := (Z 1)) ⟨hx, hb, hml, hown, hts⟩ (c_G_quotient l dC dI (Z 1) p0 q0 g0 h0 (abC q0 (S 10) i0 L0) (beC q0 (S 10) i0 L0) (by omega) (by omega) okq2 okq) (cwV 2 hts (al_V k_397 k_398 k_399 k_2 k_400) rfl rfl rfl (by decide +kernel) ⟨Nat.le_of_ble_eq_true rfl, Nat.le_of_ble_eq_true rfl⟩) (fun U g mk a h => ⟨h.1, va_K.moved (u := U) (U := U.calling g mk a) (Vm.Alike.refl U.vm) h.2⟩) (va_recv hK hP (ci := 0) (q0 := 1) rfl rfl) (fun U hU hW => ⟨by rw [hU]; exact (hP.sub [1] rfl), va_K.moved hW.alike (hK.sub [] rfl)⟩) rfl hl.1 rfl (lv_room (Nat.le_of_ble_eq_true rfl)) d_C_weightAtZero_80 ⟨Nat.zero_le _, Nat.zero_le _⟩ ?_
        exact ro_i hx hb hr hlk d_C_weightAtZero_83 (rfl)
      · have hk : j < L0 := by
          rcases Nat.lt_or_ge j L0 with q | q
          · exact q
          · exact absurd (nI_lt (show L0 < j + 1 by omega) (by omega)) c11
        refine lv_iload hx hb d_C_weightAtZero_14 (lv_at hl 5 rfl) ?_
        refine lv_iload_n hx hb d_C_weightAtZero_16 rfl (lv_at hl 1 rfl) ?_
        refine lv_icmp_eq (tgt := 67) hx hb d_C_weightAtZero_17 (by decide) (fun c17 => ?_) (fun c17 => ?_)
        · have hj : j = i0 ∨ S 10 j = 0 := Or.inl (by have := (nI_eq (by omega) (by omega)).mp c17; omega)
          refine lv_iinc (v := (nI (j + 1 + 1))) (lv' := [(5, .int (nI (j + 1 + 1))), (0, .ref (Z 0)), (1, .int (nI (i0 + 1))), (2, .int (nI L0)), (3, .int (nI (abC q0 (S 10) i0 j))), (4, .int (nI (beC q0 (S 10) i0 j)))]) hx hb d_C_weightAtZero_67 hl (k := 5) rfl (nI_1 (j + 1)) (by decide) rfl (fun ls hl => ?_)
          refine lv_goto (tgt := 8) hx hb d_C_weightAtZero_70 (by decide) ?_
          exact ih (j + 1) ls (by omega) (by omega) (by rw [abC_0 hj, beC_0 hj]; exact lv_sub hl [1, 2, 3, 4, 5, 0] rfl)
        · have hji : ¬ j = i0 := fun q => c17 (by rw [q])
          refine lv_aload_n hx hb d_C_weightAtZero_20 rfl (lv_at hl 0 rfl) ?_
          refine va_get (D := (dC, dI)) (ci := 2) (v := .ref (Z 5)) (C := "DealtSecret") (T := T_C) (N := 11) hx hb hts i_C hown hK hP 0 rfl rfl 4 (by decide) (hts _ k_105) (fun _ h9 => h9) rfl d_C_weightAtZero_21 ?_
          refine lv_iload hx hb d_C_weightAtZero_24 (lv_at hl 5 rfl) ?_
          refine lv_iconst (v := 1) hx hb d_C_weightAtZero_26 (by decide) ?_
          refine lv_isub hx hb d_C_weightAtZero_27 ?_
          refine x_i (y := nI j) (nI_pred j) ?_
          refine va_aldq hx hb hK hP 5 1 rfl rfl (vp_in_nI (by omega) (by decide)) d_C_weightAtZero_28 ?_
          refine x_v (y := .ref (Z (6 + j))) (by rw [nI_clamp (by omega)]; rfl) ?_
          refine va_get (D := (dC, dI)) (ci := 1) (v := .int (S 10 j)) (C := "DealtSecret$Participant") (T := T_P) (N := 9) hx hb hts i_P hown hK hP (6 + j) (w_part (by omega)) rfl 6 (by decide) (hts _ k_77) (fun _ h9 => h9) rfl d_C_weightAtZero_29 ?_
          refine lv_if_eq (tgt := 67) hx hb d_C_weightAtZero_32 (by decide) (fun c32 => ?_) (fun c32 => ?_)
          · have hj : j = i0 ∨ S 10 j = 0 := Or.inr c32
            refine lv_iinc (v := (nI (j + 1 + 1))) (lv' := [(5, .int (nI (j + 1 + 1))), (0, .ref (Z 0)), (1, .int (nI (i0 + 1))), (2, .int (nI L0)), (3, .int (nI (abC q0 (S 10) i0 j))), (4, .int (nI (beC q0 (S 10) i0 j)))]) hx hb d_C_weightAtZero_67 hl (k := 5) rfl (nI_1 (j + 1)) (by decide) rfl (fun ls hl => ?_)
            refine lv_goto (tgt := 8) hx hb d_C_weightAtZero_70 (by decide) ?_
            exact ih (j + 1) ls (by omega) (by omega) (by rw [abC_0 hj, beC_0 hj]; exact lv_sub hl [1, 2, 3, 4, 5, 0] rfl)
          · have hj : ¬ (j = i0 ∨ S 10 j = 0) := fun q => q.elim hji c32
            refine lv_aload_n hx hb d_C_weightAtZero_35 rfl (lv_at hl 0 rfl) ?_
            refine va_get (D := (dC, dI)) (ci := 2) (v := .ref (Z 1)) (C := "DealtSecret") (T := T_C) (N := 11) hx hb hts i_C hown hK hP 0 rfl rfl 0 (by decide) (hts _ k_101) (fun _ h9 => h9) rfl d_C_weightAtZero_36 ?_
            refine lv_iload_n hx hb d_C_weightAtZero_39 rfl (lv_at hl 3 rfl) ?_
            refine lv_iload hx hb d_C_weightAtZero_40 (lv_at hl 5 rfl) ?_
            refine ro_V (As := [.int (nI (abC q0 (S 10) i0 j)), .int (nI (j + 1))]) (rest := []) (b := (Z 1)) ⟨hx, hb, hml, hown, hts⟩ (c_G_times l dC dI (Z 1) p0 q0 g0 h0 (abC q0 (S 10) i0 j) (j + 1) (by omega) (by omega) (by omega) okq) (cwV 2 hts (al_V k_313 k_314 k_315 k_2 k_316) rfl rfl rfl (by decide +kernel) ⟨Nat.le_of_ble_eq_true rfl, Nat.le_of_ble_eq_true rfl⟩) (fun U g mk a h => ⟨h.1, va_K.moved (u := U) (U := U.calling g mk a) (Vm.Alike.refl U.vm) h.2⟩) (va_recv hK hP (ci := 0) (q0 := 1) rfl rfl) (fun U hU hW => ⟨by rw [hU]; exact (hP.sub [1] rfl), va_K.moved hW.alike (hK.sub [] rfl)⟩) rfl hl.1 rfl (lv_room (Nat.le_of_ble_eq_true rfl)) d_C_weightAtZero_42 ⟨Nat.zero_le _, Nat.zero_le _⟩ ?_
            refine x_i (y := nI (abC q0 (S 10) i0 (j + 1))) (by rw [abC_1 hj]) ?_
            refine lv_istore_n (lv' := [(3, .int (nI (abC q0 (S 10) i0 (j + 1)))), (0, .ref (Z 0)), (1, .int (nI (i0 + 1))), (2, .int (nI L0)), (4, .int (nI (beC q0 (S 10) i0 j))), (5, .int (nI (j + 1)))]) hx hb d_C_weightAtZero_45 rfl hl (by decide) rfl (fun ls hl => ?_)
            refine lv_aload_n hx hb d_C_weightAtZero_46 rfl (lv_at hl 1 rfl) ?_
            refine va_get (D := (dC, dI)) (ci := 2) (v := .ref (Z 1)) (C := "DealtSecret") (T := T_C) (N := 11) hx hb hts i_C hown hK hP 0 rfl rfl 0 (by decide) (hts _ k_101) (fun _ h9 => h9) rfl d_C_weightAtZero_47 ?_
            refine lv_iload hx hb d_C_weightAtZero_50 (lv_at hl 4 rfl) ?_
            refine lv_aload_n hx hb d_C_weightAtZero_52 rfl (lv_at hl 1 rfl) ?_
            refine va_get (D := (dC, dI)) (ci := 2) (v := .ref (Z 1)) (C := "DealtSecret") (T := T_C) (N := 11) hx hb hts i_C hown hK hP 0 rfl rfl 0 (by decide) (hts _ k_101) (fun _ h9 => h9) rfl d_C_weightAtZero_53 ?_
            refine lv_iload hx hb d_C_weightAtZero_56 (lv_at hl 5 rfl) ?_
            refine lv_iload_n hx hb d_C_weightAtZero_58 rfl (lv_at hl 2 rfl) ?_
            refine ro_V (As := [.int (nI (j + 1)), .int (nI (i0 + 1))]) (rest := [.int (nI (beC q0 (S 10) i0 j)), .ref (Z 1)]) (b := (Z 1)) ⟨hx, hb, hml, hown, hts⟩ (c_G_minus l dC dI (Z 1) p0 q0 g0 h0 (j + 1) (i0 + 1) (by omega) okq) (cwV 2 hts (al_V k_392 k_393 k_394 k_2 k_395) rfl rfl rfl (by decide +kernel) ⟨Nat.le_of_ble_eq_true rfl, Nat.le_of_ble_eq_true rfl⟩) (fun U g mk a h => ⟨h.1, va_K.moved (u := U) (U := U.calling g mk a) (Vm.Alike.refl U.vm) h.2⟩) (va_recv hK hP (ci := 0) (q0 := 1) rfl rfl) (fun U hU hW => ⟨by rw [hU]; exact (hP.sub [1] rfl), va_K.moved hW.alike (hK.sub [] rfl)⟩) rfl hl.1 rfl (lv_room (Nat.le_of_ble_eq_true rfl)) d_C_weightAtZero_59 ⟨Nat.zero_le _, Nat.zero_le _⟩ ?_
            refine ro_V (As := [.int (nI (beC q0 (S 10) i0 j)), .int (nI (md (nI (j + 1) - nI (i0 + 1)) q0))]) (rest := []) (b := (Z 1)) ⟨hx, hb, hml, hown, hts⟩ (c_G_times l dC dI (Z 1) p0 q0 g0 h0 (beC q0 (S 10) i0 j) (md (nI (j + 1) - nI (i0 + 1)) q0) (by omega) (by omega) (by omega) okq) (cwV 2 hts (al_V k_313 k_314 k_315 k_2 k_316) rfl rfl rfl (by decide +kernel) ⟨Nat.le_of_ble_eq_true rfl, Nat.le_of_ble_eq_true rfl⟩) (fun U g mk a h => ⟨h.1, va_K.moved (u := U) (U := U.calling g mk a) (Vm.Alike.refl U.vm) h.2⟩) (va_recv hK hP (ci := 0) (q0 := 1) rfl rfl) (fun U hU hW => ⟨by rw [hU]; exact (hP.sub [1] rfl), va_K.moved hW.alike (hK.sub [] rfl)⟩) rfl hl.1 rfl (lv_room (Nat.le_of_ble_eq_true rfl)) d_C_weightAtZero_62 ⟨Nat.zero_le _, Nat.zero_le _⟩ ?_
            refine x_i (y := nI (beC q0 (S 10) i0 (j + 1))) (by rw [beC_1 hj]) ?_
            refine lv_istore (lv' := [(4, .int (nI (beC q0 (S 10) i0 (j + 1)))), (3, .int (nI (abC q0 (S 10) i0 (j + 1)))), (0, .ref (Z 0)), (1, .int (nI (i0 + 1))), (2, .int (nI L0)), (5, .int (nI (j + 1)))]) hx hb d_C_weightAtZero_65 hl (by decide) rfl (fun ls hl => ?_)
            refine lv_iinc (v := (nI (j + 1 + 1))) (lv' := [(5, .int (nI (j + 1 + 1))), (4, .int (nI (beC q0 (S 10) i0 (j + 1)))), (3, .int (nI (abC q0 (S 10) i0 (j + 1)))), (0, .ref (Z 0)), (1, .int (nI (i0 + 1))), (2, .int (nI L0))]) hx hb d_C_weightAtZero_67 hl (k := 5) rfl (nI_1 (j + 1)) (by decide) rfl (fun ls hl => ?_)
            refine lv_goto (tgt := 8) hx hb d_C_weightAtZero_70 (by decide) ?_
            exact ih (j + 1) ls (by omega) (by omega) (lv_sub hl [3, 4, 5, 2, 1, 0] rfl)
  refine lv_iconst (v := (nI (abC q0 (S 10) i0 0))) hx hb d_C_weightAtZero_0 (by rfl) ?_
  refine lv_istore_n (lv' := [(3, .int (nI (abC q0 (S 10) i0 0))), (0, .ref (Z 0)), (1, .int (nI (i0 + 1))), (2, .int (nI L0))]) hx hb d_C_weightAtZero_1 rfl hl (by decide) rfl (fun ls hl => ?_)
  refine lv_iconst (v := (nI (beC q0 (S 10) i0 0))) hx hb d_C_weightAtZero_2 (by rfl) ?_
  refine lv_istore (lv' := [(4, .int (nI (beC q0 (S 10) i0 0))), (3, .int (nI (abC q0 (S 10) i0 0))), (0, .ref (Z 0)), (1, .int (nI (i0 + 1))), (2, .int (nI L0))]) hx hb d_C_weightAtZero_3 hl (by decide) rfl (fun ls hl => ?_)
  refine lv_iconst (v := (nI (0 + 1))) hx hb d_C_weightAtZero_5 (by decide) ?_
  refine lv_istore (lv' := [(5, .int (nI (0 + 1))), (4, .int (nI (beC q0 (S 10) i0 0))), (3, .int (nI (abC q0 (S 10) i0 0))), (0, .ref (Z 0)), (1, .int (nI (i0 + 1))), (2, .int (nI L0))]) hx hb d_C_weightAtZero_6 hl (by decide) rfl (fun ls hl => ?_)
  exact loop (L0 + 1) 0 ls (by omega) (by omega) (lv_sub hl [3, 4, 5, 2, 1, 0] rfl)
set_option maxRecDepth 100000 in
set_option maxHeartbeats 4000000 in
/-- secret() where it is allowed -/
theorem c_C_secret (l : Launch) (dC : Nat → ClassId) (dI : Nat → Nat → Nat) (Z : Nat → Nat) (cI cP : ClassId) (p0 q0 g0 h0 : Nat) (S : Nat → Nat → Int32) (n0 t0 L0 : Nat) (hst : S 0 0 = 5) (hn : S 0 1 = nI n0) (hn7 : n0 ≤ 7) (ht : S 0 2 = nI t0) (ht7 : t0 ≤ 7) (hL : lastC (S 10) t0 n0 L0) (hct : t0 ≤ mz_ct (S 10) n0) (hU : ∀ j, j < n0 → ¬ S 10 j = 0 → okN (S 11 j) q0) (ok : okG p0 q0 g0 h0) : Ro l y_C_secret ws_C_secret 4 90 [.ref (Z 0)] (bC dC dI Z cI cP p0 q0 g0 h0 S) (nI (smC q0 (S 10) (S 11) L0 L0)) := by
  refine Met.ofW (cc := b_C_secret) (maxL := 5) (ret := (some .int)) (by decide) rfl ?_
  intro p e s m args below meth c s₁ B hml hv
  obtain ⟨rfl, hP, hK⟩ := hv
  have hx := B.exec
  have hb := B.bytes
  have hr := B.returns
  have hts : ∀ w ∈ AL, w.before ([.ref (Z 0)] : List Value).toArray s = true := fun w h => atoms_spec (ws := ws_C_secret) B.pre w (List.mem_cons_of_mem _ h)
  have hown : s.vm.findClass "DealtSecret" = some m.cls := findClass_of_methodNamed B.named
  have hlk := B.notSynchronized
  have hl := lv_entry ([.ref (Z 0)]) (n := 5) (Nat.le_of_ble_eq_true rfl)
  rw [lg_entry_eq]
  generalize (lg_sl ([.ref (Z 0)]) ++ List.replicate (5 - (lg_sl ([.ref (Z 0)])).length) Slot.unset).toArray = ls at hl ⊢
  have hl : lv_has ls 5 [(0, .ref (Z 0))] := hl
  obtain ⟨okp2, okp, okq2, okq, okg, okh⟩ := id ok
  have hL7 : L0 ≤ n0 := hL.1
  have hcl := mz_ct_le (S 10) n0
  have loop : ∀ (n j : Nat) (ls : Array Slot), L0 + 1 ≤ j + n → j ≤ L0 → lv_has ls 5 [(0, .ref (Z 0)), (1, .int (nI L0)), (2, .int (nI (smC q0 (S 10) (S 11) L0 j))), (3, .int (nI (j + 1)))] → W p l e (headSpec ws_C_secret { frames := 4, cells := 0, slots := 0, locals := 90 }).room s m [.ref (Z 0)].toArray below meth c s.heap [] 0 0 (MQ below (QcRead (nI (smC q0 (S 10) (S 11) L0 L0))) [.ref (Z 0)].toArray s 0 0 (fun _ => False)) (F0 m 35 ls []) := by
    intro n
    induction n with
    | zero =>
      intro j ls h1 h2
      omega
    | succ n ih =>
      intro j ls h1 h2 hl
      have hs := smC_lt okq2 (S 10) (S 11) L0 j
      have hw : wtC q0 (S 10) j L0 < q0 := Nat.mod_lt _ (by omega)
      have hp : nn (S 11 j) * wtC q0 (S 10) j L0 % q0 < q0 := Nat.mod_lt _ (by omega)
      refine lv_iload_n hx hb d_C_secret_35 rfl (lv_at hl 3 rfl) ?_
      refine lv_iload_n hx hb d_C_secret_36 rfl (lv_at hl 1 rfl) ?_
      refine lv_icmp_gt (tgt := 97) hx hb d_C_secret_37 (by decide) (fun c37 => ?_) (fun c37 => ?_)
      · have hk : j = L0 := by
          have h5 : L0 < j + 1 := (nI_ltI (by omega) (by omega)).mp c37
          omega
        rw [hk] at hl
        refine lv_iload_n hx hb d_C_secret_97 rfl (lv_at hl 2 rfl) ?_
        exact ro_i hx hb hr hlk d_C_secret_98 (rfl)
      · have hk : j < L0 := by
          rcases Nat.lt_or_ge j L0 with q | q
          · exact q
          · exact absurd (nI_lt (show L0 < j + 1 by omega) (by omega)) c37
        refine lv_aload_n hx hb d_C_secret_40 rfl (lv_at hl 0 rfl) ?_
        refine va_get (D := (dC, dI)) (ci := 2) (v := .ref (Z 5)) (C := "DealtSecret") (T := T_C) (N := 11) hx hb hts i_C hown hK hP 0 rfl rfl 4 (by decide) (hts _ k_105) (fun _ h9 => h9) rfl d_C_secret_41 ?_
        refine lv_iload_n hx hb d_C_secret_44 rfl (lv_at hl 3 rfl) ?_
        refine lv_iconst (v := 1) hx hb d_C_secret_45 (by decide) ?_
        refine lv_isub hx hb d_C_secret_46 ?_
        refine x_i (y := nI j) (nI_pred j) ?_
        refine va_aldq hx hb hK hP 5 1 rfl rfl (vp_in_nI (by omega) (by decide)) d_C_secret_47 ?_
        refine x_v (y := .ref (Z (6 + j))) (by rw [nI_clamp (by omega)]; rfl) ?_
        refine va_get (D := (dC, dI)) (ci := 1) (v := .int (S 10 j)) (C := "DealtSecret$Participant") (T := T_P) (N := 9) hx hb hts i_P hown hK hP (6 + j) (w_part (by omega)) rfl 6 (by decide) (hts _ k_77) (fun _ h9 => h9) rfl d_C_secret_48 ?_
        refine lv_if_eq (tgt := 91) hx hb d_C_secret_51 (by decide) (fun c51 => ?_) (fun c51 => ?_)
        · refine lv_iinc (v := (nI (j + 1 + 1))) (lv' := [(3, .int (nI (j + 1 + 1))), (0, .ref (Z 0)), (1, .int (nI L0)), (2, .int (nI (smC q0 (S 10) (S 11) L0 j)))]) hx hb d_C_secret_91 hl (k := 3) rfl (nI_1 (j + 1)) (by decide) rfl (fun ls hl => ?_)
          refine lv_goto (tgt := 35) hx hb d_C_secret_94 (by decide) ?_
          exact ih (j + 1) ls (by omega) (by omega) (by rw [smC_0 c51]; exact lv_sub hl [1, 2, 3, 0] rfl)
        · have hu := hU j (by omega) c51
          have hul := hu.lt
          refine lv_aload_n hx hb d_C_secret_54 rfl (lv_at hl 0 rfl) ?_
          refine va_get (D := (dC, dI)) (ci := 2) (v := .ref (Z 1)) (C := "DealtSecret") (T := T_C) (N := 11) hx hb hts i_C hown hK hP 0 rfl rfl 0 (by decide) (hts _ k_101) (fun _ h9 => h9) rfl d_C_secret_55 ?_
          refine lv_aload_n hx hb d_C_secret_58 rfl (lv_at hl 0 rfl) ?_
          refine va_get (D := (dC, dI)) (ci := 2) (v := .ref (Z 5)) (C := "DealtSecret") (T := T_C) (N := 11) hx hb hts i_C hown hK hP 0 rfl rfl 4 (by decide) (hts _ k_105) (fun _ h9 => h9) rfl d_C_secret_59 ?_
          refine lv_iload_n hx hb d_C_secret_62 rfl (lv_at hl 3 rfl) ?_
          refine lv_iconst (v := 1) hx hb d_C_secret_63 (by decide) ?_
          refine lv_isub hx hb d_C_secret_64 ?_
          refine x_i (y := nI j) (nI_pred j) ?_
          refine va_aldq hx hb hK hP 5 1 rfl rfl (vp_in_nI (by omega) (by decide)) d_C_secret_65 ?_
          refine x_v (y := .ref (Z (6 + j))) (by rw [nI_clamp (by omega)]; rfl) ?_
          refine va_get (D := (dC, dI)) (ci := 1) (v := .int (S 11 j)) (C := "DealtSecret$Participant") (T := T_P) (N := 9) hx hb hts i_P hown hK hP (6 + j) (w_part (by omega)) rfl 7 (by decide) (hts _ k_79) (fun _ h9 => h9) rfl d_C_secret_66 ?_
          refine x_i (y := nI (nn (S 11 j))) (hu.eq) ?_
          refine lv_aload_n hx hb d_C_secret_69 rfl (lv_at hl 0 rfl) ?_
          refine lv_iload_n hx hb d_C_secret_70 rfl (lv_at hl 3 rfl) ?_
          refine lv_iload_n hx hb d_C_secret_71 rfl (lv_at hl 1 rfl) ?_
          refine ro_V (As := [.int (nI (j + 1)), .int (nI L0)]) (rest := [.int (nI (nn (S 11 j))), .ref (Z 1)]) (b := (Z 0)) ⟨hx, hb, hml, hown, hts⟩ (c_C_weightAtZero l dC dI Z cI cP p0 q0 g0 h0 S j L0 hk (by omega) ok) (cwV 2 hts (al_V k_418 k_419 k_648 k_1 k_420) rfl rfl rfl (by decide +kernel) ⟨Nat.le_of_ble_eq_true rfl, Nat.le_of_ble_eq_true rfl⟩) (fun U g mk a h => ⟨h.1, va_K.moved (u := U) (U := U.calling g mk a) (Vm.Alike.refl U.vm) h.2⟩) (va_recv hK hP (ci := 2) (q0 := 0) rfl rfl) (fun U hU hW => ⟨by rw [hU]; exact hP, va_K.moved hW.alike hK⟩) rfl hl.1 rfl (lv_room (Nat.le_of_ble_eq_true rfl)) d_C_secret_72 ⟨Nat.zero_le _, Nat.zero_le _⟩ ?_
          refine ro_V (As := [.int (nI (nn (S 11 j))), .int (nI (wtC q0 (S 10) j L0))]) (rest := []) (b := (Z 1)) ⟨hx, hb, hml, hown, hts⟩ (c_G_times l dC dI (Z 1) p0 q0 g0 h0 (nn (S 11 j)) (wtC q0 (S 10) j L0) (by omega) (by omega) (by omega) okq) (cwV 2 hts (al_V k_313 k_314 k_315 k_2 k_316) rfl rfl rfl (by decide +kernel) ⟨Nat.le_of_ble_eq_true rfl, Nat.le_of_ble_eq_true rfl⟩) (fun U g mk a h => ⟨h.1, va_K.moved (u := U) (U := U.calling g mk a) (Vm.Alike.refl U.vm) h.2⟩) (va_recv hK hP (ci := 0) (q0 := 1) rfl rfl) (fun U hU hW => ⟨by rw [hU]; exact (hP.sub [1] rfl), va_K.moved hW.alike (hK.sub [] rfl)⟩) rfl hl.1 rfl (lv_room (Nat.le_of_ble_eq_true rfl)) d_C_secret_75 ⟨Nat.zero_le _, Nat.zero_le _⟩ ?_
          refine lv_istore (lv' := [(4, .int (nI (nn (S 11 j) * wtC q0 (S 10) j L0 % q0))), (0, .ref (Z 0)), (1, .int (nI L0)), (2, .int (nI (smC q0 (S 10) (S 11) L0 j))), (3, .int (nI (j + 1)))]) hx hb d_C_secret_78 hl (by decide) rfl (fun ls hl => ?_)
          refine lv_aload_n hx hb d_C_secret_80 rfl (lv_at hl 1 rfl) ?_
          refine va_get (D := (dC, dI)) (ci := 2) (v := .ref (Z 1)) (C := "DealtSecret") (T := T_C) (N := 11) hx hb hts i_C hown hK hP 0 rfl rfl 0 (by decide) (hts _ k_101) (fun _ h9 => h9) rfl d_C_secret_81 ?_
          refine lv_iload_n hx hb d_C_secret_84 rfl (lv_at hl 3 rfl) ?_
          refine lv_iload hx hb d_C_secret_85 (lv_at hl 0 rfl) ?_
          refine ro_V (As := [.int (nI (smC q0 (S 10) (S 11) L0 j)), .int (nI (nn (S 11 j) * wtC q0 (S 10) j L0 % q0))]) (rest := []) (b := (Z 1)) ⟨hx, hb, hml, hown, hts⟩ (c_G_plus l dC dI (Z 1) p0 q0 g0 h0 (smC q0 (S 10) (S 11) L0 j) (nn (S 11 j) * wtC q0 (S 10) j L0 % q0) (by omega) (by omega) (by omega) okq) (cwV 2 hts (al_V k_317 k_318 k_319 k_2 k_320) rfl rfl rfl (by decide +kernel) ⟨Nat.le_of_ble_eq_true rfl, Nat.le_of_ble_eq_true rfl⟩) (fun U g mk a h => ⟨h.1, va_K.moved (u := U) (U := U.calling g mk a) (Vm.Alike.refl U.vm) h.2⟩) (va_recv hK hP (ci := 0) (q0 := 1) rfl rfl) (fun U hU hW => ⟨by rw [hU]; exact (hP.sub [1] rfl), va_K.moved hW.alike (hK.sub [] rfl)⟩) rfl hl.1 rfl (lv_room (Nat.le_of_ble_eq_true rfl)) d_C_secret_87 ⟨Nat.zero_le _, Nat.zero_le _⟩ ?_
          refine x_i (y := nI (smC q0 (S 10) (S 11) L0 (j + 1))) (by rw [smC_1 c51]) ?_
          refine lv_istore_n (lv' := [(2, .int (nI (smC q0 (S 10) (S 11) L0 (j + 1)))), (4, .int (nI (nn (S 11 j) * wtC q0 (S 10) j L0 % q0))), (0, .ref (Z 0)), (1, .int (nI L0)), (3, .int (nI (j + 1)))]) hx hb d_C_secret_90 rfl hl (by decide) rfl (fun ls hl => ?_)
          refine lv_iinc (v := (nI (j + 1 + 1))) (lv' := [(3, .int (nI (j + 1 + 1))), (2, .int (nI (smC q0 (S 10) (S 11) L0 (j + 1)))), (4, .int (nI (nn (S 11 j) * wtC q0 (S 10) j L0 % q0))), (0, .ref (Z 0)), (1, .int (nI L0))]) hx hb d_C_secret_91 hl (k := 4) rfl (nI_1 (j + 1)) (by decide) rfl (fun ls hl => ?_)
          refine lv_goto (tgt := 35) hx hb d_C_secret_94 (by decide) ?_
          exact ih (j + 1) ls (by omega) (by omega) (lv_sub hl [3, 4, 1, 0] rfl)
  refine lv_aload_n hx hb d_C_secret_0 rfl (lv_at hl 0 rfl) ?_
  refine lv_iconst (v := 5) hx hb d_C_secret_1 (by decide) ?_
  refine rv_V (As := [.int 5]) (rest := []) (b := (Z 0)) ⟨hx, hb, hml, hown, hts⟩ (c_C_demandStage l dC dI Z cI cP p0 q0 g0 h0 S 5 hst) (cwV 1 hts (al_V k_269 k_270 k_637 k_1 k_271) rfl rfl rfl (by decide +kernel) ⟨Nat.le_of_ble_eq_true rfl, Nat.le_of_ble_eq_true rfl⟩) (fun U g mk a h => ⟨h.1, va_K.moved (u := U) (U := U.calling g mk a) (Vm.Alike.refl U.vm) h.2⟩) (va_recv hK hP (ci := 2) (q0 := 0) rfl rfl) (fun U hU hW => ⟨by rw [hU]; exact hP, va_K.moved hW.alike hK⟩) rfl hl.1 rfl (lv_room (Nat.le_of_ble_eq_true rfl)) d_C_secret_2 ⟨Nat.zero_le _, Nat.zero_le _⟩ ?_
  refine lv_aload_n hx hb d_C_secret_5 rfl (lv_at hl 0 rfl) ?_
  refine ro_V (As := []) (rest := []) (b := (Z 0)) ⟨hx, hb, hml, hown, hts⟩ (c_C_opened l dC dI Z cI cP p0 q0 g0 h0 S n0 hn hn7) (cwV 0 hts (al_V k_414 k_191 k_192 k_1 k_193) rfl rfl rfl (by decide +kernel) ⟨Nat.le_of_ble_eq_true rfl, Nat.le_of_ble_eq_true rfl⟩) (fun U g mk a h => ⟨h.1, va_K.moved (u := U) (U := U.calling g mk a) (Vm.Alike.refl U.vm) h.2⟩) (va_recv hK hP (ci := 2) (q0 := 0) rfl rfl) (fun U hU hW => ⟨by rw [hU]; exact hP, va_K.moved hW.alike hK⟩) rfl hl.1 rfl (lv_room (Nat.le_of_ble_eq_true rfl)) d_C_secret_6 ⟨Nat.zero_le _, Nat.zero_le _⟩ ?_
  refine lv_aload_n hx hb d_C_secret_9 rfl (lv_at hl 0 rfl) ?_
  refine va_get (D := (dC, dI)) (ci := 2) (v := .int (S 0 2)) (C := "DealtSecret") (T := T_C) (N := 11) hx hb hts i_C hown hK hP 0 rfl rfl 7 (by decide) (hts _ k_108) (fun _ h9 => h9) rfl d_C_secret_10 ?_
  refine x_i (y := nI t0) (ht) ?_
  refine lv_icmp_ge (tgt := 26) hx hb d_C_secret_13 (by decide) (fun _ => ?_) (fun c_ => absurd (nI_le hct (by omega)) c_)
  refine lv_aload_n hx hb d_C_secret_26 rfl (lv_at hl 0 rfl) ?_
  refine ro_V (As := []) (rest := []) (b := (Z 0)) ⟨hx, hb, hml, hown, hts⟩ (c_C_lastOfTheChosen l dC dI Z cI cP p0 q0 g0 h0 S n0 t0 L0 hn hn7 ht ht7 hL) (cwV 0 hts (al_V k_415 k_416 k_647 k_1 k_417) rfl rfl rfl (by decide +kernel) ⟨Nat.le_of_ble_eq_true rfl, Nat.le_of_ble_eq_true rfl⟩) (fun U g mk a h => ⟨h.1, va_K.moved (u := U) (U := U.calling g mk a) (Vm.Alike.refl U.vm) h.2⟩) (va_recv hK hP (ci := 2) (q0 := 0) rfl rfl) (fun U hU hW => ⟨by rw [hU]; exact hP, va_K.moved hW.alike hK⟩) rfl hl.1 rfl (lv_room (Nat.le_of_ble_eq_true rfl)) d_C_secret_27 ⟨Nat.zero_le _, Nat.zero_le _⟩ ?_
  refine lv_istore_n (lv' := [(1, .int (nI L0)), (0, .ref (Z 0))]) hx hb d_C_secret_30 rfl hl (by decide) rfl (fun ls hl => ?_)
  refine lv_iconst (v := (nI (smC q0 (S 10) (S 11) L0 0))) hx hb d_C_secret_31 (by rfl) ?_
  refine lv_istore_n (lv' := [(2, .int (nI (smC q0 (S 10) (S 11) L0 0))), (1, .int (nI L0)), (0, .ref (Z 0))]) hx hb d_C_secret_32 rfl hl (by decide) rfl (fun ls hl => ?_)
  refine lv_iconst (v := (nI (0 + 1))) hx hb d_C_secret_33 (by decide) ?_
  refine lv_istore_n (lv' := [(3, .int (nI (0 + 1))), (2, .int (nI (smC q0 (S 10) (S 11) L0 0))), (1, .int (nI L0)), (0, .ref (Z 0))]) hx hb d_C_secret_34 rfl hl (by decide) rfl (fun ls hl => ?_)
  exact loop (L0 + 1) 0 ls (by omega) (by omega) (lv_sub hl [3, 2, 1, 0] rfl)
