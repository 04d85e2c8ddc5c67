theorem wI_len (Z : Nat → Nat) (cI cP : ClassId) (p0 q0 g0 h0 n : Nat) : (wI Z cI cP p0 q0 g0 h0 n).length = 6 + n := by simp [wI]; omega
theorem w_lastg {w : va_W} {x : Nat × va_E} {n : Nat} (h : w.length = n) : (w ++ [x])[n]? = some x := by
  subst h
  simp
theorem wI_0 (Z : Nat → Nat) (cI cP : ClassId) (p0 q0 g0 h0 : Nat) : wI Z cI cP p0 q0 g0 h0 0 = [(Z 0, .inr (2, fC Z S0)), (Z 1, .inr (0, [.int (nI p0), .int (nI q0), .int (nI g0), .int (nI h0)])), (Z 2, .inl (cI, 7, .inl (S0 1))), (Z 3, .inl (cI, 7, .inl (S0 2))), (Z 4, .inl (cI, 7, .inl (S0 3))), (Z 5, .inl (cP, 7, .inr (.inr (.inr (.inr (fun _ => none))))))] := by
  have e : (fun j => if j < 0 then some (Z (6 + j)) else none) = (fun _ => (none : Option Nat)) := by
    funext j
    rw [if_neg (Nat.not_lt_zero j)]
  unfold wI
  rw [e]
  rfl
set_option maxRecDepth 100000 in
set_option maxHeartbeats 4000000 in
theorem c_C_init (l : Launch) (dC : Nat → ClassId) (dI : Nat → Nat → Nat) (z sz : Nat) (p1 q1 g1 h1 : Int32) : Met l y_C_init ws_C_init { frames := 4, cells := 12, slots := 95, locals := 95 } (va_Pc [.ref z, .int p1, .int q1, .int g1, .int h1] (fun U => va_P (dC, dI) cls [(z, .inr (2, [.null, .null, .null, .null, .null, .int 0, .int 0, .int 0, .int 0, .int 0, .int 0]))] U.heap ∧ va_K (dC, dI) cls [] U ∧ sz ≤ U.heap.size ∧ va_AO "DealtSecret$Participant" U)) (va_Qv (S := (Nat → Nat) × ClassId × ClassId) (fun u => u.1 0 = z) (fun u t => va_P (dC, dI) cls (wC u.1 u.2.1 u.2.2 (gP p1 q1 g1 h1) (gQ p1 q1 g1 h1) (gG p1 q1 g1 h1) (gH p1 q1 g1 h1) S0) t.heap ∧ va_K (dC, dI) cls (tysC u.2.1 u.2.2) t ∧ va_D (aZ z sz) (wC u.1 u.2.1 u.2.2 (gP p1 q1 g1 h1) (gQ p1 q1 g1 h1) (gG p1 q1 g1 h1) (gH p1 q1 g1 h1) S0)) (aZ z sz)) 12 95 (aZ z sz) := by
  refine Met.ofW (cc := b_C_init) (maxL := 6) (ret := none) (by decide) rfl ?_
  intro p e s m args below meth c s₁ B hml hv
  obtain ⟨rfl, hP, hK, hsz, hAO⟩ := hv
  have hx := B.exec
  have hb := B.bytes
  have hr := B.returns
  have hts : ∀ w ∈ AL, w.before ([.ref z, .int p1, .int q1, .int g1, .int h1] : List Value).toArray s = true := fun w h => atoms_spec (ws := ws_C_init) B.pre w (List.mem_cons_of_mem _ h)
  have hown : s.vm.findClass "DealtSecret" = some m.cls := findClass_of_methodNamed B.named
  have hlk := B.notSynchronized
  have hl := lv_entry ([.ref z, .int p1, .int q1, .int g1, .int h1]) (n := 6) (Nat.le_of_ble_eq_true rfl)
  rw [lg_entry_eq]
  generalize (lg_sl ([.ref z, .int p1, .int q1, .int g1, .int h1]) ++ List.replicate (6 - (lg_sl ([.ref z, .int p1, .int q1, .int g1, .int h1])).length) Slot.unset).toArray = ls at hl ⊢
  have hl : lv_has ls 6 [(0, .ref z), (1, .int p1), (2, .int q1), (3, .int g1), (4, .int h1)] := hl
  have hin : meth.name = "<init>" := (name_of_methodNamed B.named B.method).1
  have hA : ∀ q, s.heap.size ≤ q → aZ z sz q := fun q h => Or.inr (Nat.le_trans hsz h)
  have hD : va_D (aZ z sz) [(z, .inr (2, [.null, .null, .null, .null, .null, .int 0, .int 0, .int 0, .int 0, .int 0, .int 0]))] := ⟨fun i j x y h1 h2 _ => by have a1 := (List.getElem?_eq_some_iff.mp h1).1; have a2 := (List.getElem?_eq_some_iff.mp h2).1; simp at a1 a2; omega, fun k q h => by have a1 := (List.getElem?_eq_some_iff.mp h).1; have e : k = 0 := by { simp at a1; omega }; subst e; cases h; exact Or.inl rfl⟩
  have hS : va_S (aZ z sz) s.heap s.heap [] := va_S.rf
  have loop : ∀ (cI cP : ClassId), va_K (dC, dI) cls (tysC cI cP) s → ∀ (n j : Nat) (Z : Nat → Nat) (H : Heap) (locs : List Loc) (ls : Array Slot), 7 + 1 ≤ j + n → j ≤ 7 → Z 0 = z → va_P (dC, dI) cls (wI Z cI cP (gP p1 q1 g1 h1) (gQ p1 q1 g1 h1) (gG p1 q1 g1 h1) (gH p1 q1 g1 h1) j) H → va_D (aZ z sz) (wI Z cI cP (gP p1 q1 g1 h1) (gQ p1 q1 g1 h1) (gG p1 q1 g1 h1) (gH p1 q1 g1 h1) j) → va_S (aZ z sz) s.heap H locs → lv_has ls 6 [(0, .ref z), (1, .int p1), (2, .int q1), (3, .int g1), (4, .int h1), (5, .int (nI (j + 1)))] → W p l e (headSpec ws_C_init { frames := 4, cells := 12, slots := 95, locals := 95 }).room s m [.ref z, .int p1, .int q1, .int g1, .int h1].toArray below meth c H locs (5 + j) (32 + 9 * j) (MQ below (va_Qv (S := (Nat → Nat) × ClassId × ClassId) (fun u => u.1 0 = z) (fun u t => va_P (dC, dI) cls (wC u.1 u.2.1 u.2.2 (gP p1 q1 g1 h1) (gQ p1 q1 g1 h1) (gG p1 q1 g1 h1) (gH p1 q1 g1 h1) S0) t.heap ∧ va_K (dC, dI) cls (tysC u.2.1 u.2.2) t ∧ va_D (aZ z sz) (wC u.1 u.2.1 u.2.2 (gP p1 q1 g1 h1) (gQ p1 q1 g1 h1) (gG p1 q1 g1 h1) (gH p1 q1 g1 h1) S0)) (aZ z sz)) [.ref z, .int p1, .int q1, .int g1, .int h1].toArray s 12 95 (aZ z sz)) (F0 m 52 ls []) := by
    intro cI cP hK n
    induction n with
    | zero =>
      intro j Z H locs ls b1 b2
      omega
    | succ n ih =>
      intro j Z H locs ls b1 b2 hZ hP hD hS hl
      refine lv_iload hx hb d_C_init_52 (lv_at hl 5 rfl) ?_
      refine lv_bipush (v := (nI 7)) hx hb d_C_init_54 (by decide) ?_
      refine lv_icmp_gt (tgt := 83) hx hb d_C_init_56 (by decide) (fun c56 => ?_) (fun c56 => ?_)
      · have hk : j = 7 := by
          have h5 : 7 < j + 1 := (nI_ltI (by omega) (by omega)).mp c56
          omega
        subst hk
        exact W.vret hx hb hr (fun t ht hW => ⟨⟨(Z, cI, cP), rfl, hZ, by rw [ht]; exact wI_7 hP, va_K.moved hW.alike hK, w_addr hD (wI_a Z cI cP _ _ _ _)⟩, hS.F ht⟩) hS.2.2 d_C_init_83 hlk
      · have hk : j < 7 := by
          rcases Nat.lt_or_ge j 7 with q | q
          · exact q
          · exact absurd (nI_lt (show 7 < j + 1 by omega) (by omega)) c56
        refine lv_aload_n hx hb d_C_init_59 rfl (lv_at hl 0 rfl) ?_
        refine va_get (D := (dC, dI)) (ci := 2) (v := .ref (Z 5)) (C := "DealtSecret") (T := T_C) (N := 11) hx hb hts i_C hown hK hP 0 (by rw [← hZ]; rfl) rfl 4 (by decide) (hts _ k_105) (fun _ h9 => h9) rfl d_C_init_60 ?_
        refine lv_iload hx hb d_C_init_63 (lv_at hl 5 rfl) ?_
        refine lv_iconst (v := 1) hx hb d_C_init_65 (by decide) ?_
        refine lv_isub hx hb d_C_init_66 ?_
        refine x_i (y := nI j) (nI_pred j) ?_
        refine va_new (D := (dC, dI)) (ci := 1) (C := "DealtSecret$Participant") (T := T_P) (N := 9) (fs := [.int 0, .int 0, .int 0, .int 0, .int 0, .int 0, .int 0, .int 0, .int 0]) hx hb hts i_P t_P t_P_ok hown (hts _ k_58) (hts _ k_59) (hts _ k_3) hK hP hD hS hA rfl (by decide +kernel) (by show 5 + j + 1 ≤ 12; omega) (by show 32 + 9 * j + 9 ≤ 95; omega) d_C_init_67 (fun pa H hP hD hS => ?_)
        refine lv_dup hx hb d_C_init_70 rfl ?_
        refine lv_iload hx hb d_C_init_71 (lv_at hl 5 rfl) ?_
        have hP0 := w_l (a := (wI Z cI cP (gP p1 q1 g1 h1) (gQ p1 q1 g1 h1) (gG p1 q1 g1 h1) (gH p1 q1 g1 h1) j)) (b := [(pa, .inr (1, [.int 0, .int 0, .int 0, .int 0, .int 0, .int 0, .int 0, .int 0, .int 0]))]) hP
        have hD0 := hD
        refine wr_I (As := [.int (nI (j + 1))]) (rest := [.ref pa, .int (nI j), .ref (Z 5)]) (b := pa) (A := aZ z sz) ⟨hx, hb, hml, hown, hts⟩ (c_P_init l dC dI pa (nI (j + 1))) (cwI 1 hts (al_I k_62) rfl rfl rfl (hts _ k_3) (hts _ k_60) (hts _ k_61) rfl (by decide +kernel) ⟨Nat.le_of_ble_eq_true rfl, Nat.le_of_ble_eq_true rfl⟩) (w_r (a := (wI Z cI cP (gP p1 q1 g1 h1) (gQ p1 q1 g1 h1) (gG p1 q1 g1 h1) (gH p1 q1 g1 h1) j)) (b := [(pa, .inr (1, [.int 0, .int 0, .int 0, .int 0, .int 0, .int 0, .int 0, .int 0, .int 0]))]) hP) (hK.sub [] rfl) (w_dr (a := (wI Z cI cP (gP p1 q1 g1 h1) (gQ p1 q1 g1 h1) (gG p1 q1 g1 h1) (gH p1 q1 g1 h1) j)) (b := [(pa, .inr (1, [.int 0, .int 0, .int 0, .int 0, .int 0, .int 0, .int 0, .int 0, .int 0]))]) hD) hS rfl hl.1 rfl (lv_room (Nat.le_of_ble_eq_true rfl)) d_C_init_73 ⟨by show 5 + j + 1 ≤ 12; omega, by show 32 + 9 * j + 9 ≤ 95; omega⟩ (fun H locs hP hkp _ hS => ?_)
        have hP := (w_keepR hP0 hD0 hkp).app hP
        have hP : va_P (dC, dI) cls ((wI Z cI cP (gP p1 q1 g1 h1) (gQ p1 q1 g1 h1) (gG p1 q1 g1 h1) (gH p1 q1 g1 h1) j) ++ [(pa, .inr (1, [.int (nI (j + 1)), .int 0, .int 0, .int 0, .int 0, .int 0, .int 0, .int 0, .int 0]))]) H := hP
        have hD : va_D (aZ z sz) ((wI Z cI cP (gP p1 q1 g1 h1) (gQ p1 q1 g1 h1) (gG p1 q1 g1 h1) (gH p1 q1 g1 h1) j) ++ [(pa, .inr (1, [.int (nI (j + 1)), .int 0, .int 0, .int 0, .int 0, .int 0, .int 0, .int 0, .int 0]))]) := w_addr hD (by simp)
        refine va_astq (r := ("DealtSecret$Participant", T_P, 9)) hx hb hK hP hD hS 5 1 (6 + j) 1 rfl rfl (w_lastg (wI_len Z cI cP _ _ _ _ j)) rfl (vp_in_nI (by omega) (by decide)) d_C_init_76 (fun H locs hP hD hS => ?_)
        rw [nI_clamp (by omega)] at hP hD
        have hP : va_P (dC, dI) cls ((wI Z cI cP (gP p1 q1 g1 h1) (gQ p1 q1 g1 h1) (gG p1 q1 g1 h1) (gH p1 q1 g1 h1) j ++ ([(pa, .inr (1, fP S0 j))] : va_W)).set 5 (Z 5, .inl (cP, 7, .inr (.inr (.inr (.inr (va_up (fun i => if i < j then some (Z (6 + i)) else none) j (some pa)))))))) H := hP
        have hD : va_D (aZ z sz) ((wI Z cI cP (gP p1 q1 g1 h1) (gQ p1 q1 g1 h1) (gG p1 q1 g1 h1) (gH p1 q1 g1 h1) j ++ ([(pa, .inr (1, fP S0 j))] : va_W)).set 5 (Z 5, .inl (cP, 7, .inr (.inr (.inr (.inr (va_up (fun i => if i < j then some (Z (6 + i)) else none) j (some pa)))))))) := hD
        rw [wI_s] at hP hD
        refine lv_iinc (v := (nI (j + 1 + 1))) (lv' := [(5, .int (nI (j + 1 + 1))), (0, .ref z), (1, .int p1), (2, .int q1), (3, .int g1), (4, .int h1)]) hx hb d_C_init_77 hl (k := 5) rfl (nI_1 (j + 1)) (by decide) rfl (fun ls hl => ?_)
        refine lv_goto (tgt := 52) hx hb d_C_init_80 (by decide) ?_
        refine W.cs (cells' := 5 + (j + 1)) (slots' := 32 + 9 * (j + 1)) (by omega) (by omega) ?_
        exact ih (j + 1) (zZ Z (6 + j) pa) H locs ls (by omega) (by omega) ((zZ_ne (by omega)).trans hZ) hP hD hS (lv_sub hl [1, 2, 3, 4, 5, 0] rfl)
  refine lv_aload_n hx hb d_C_init_0 rfl (lv_at hl 0 rfl) ?_
  refine W.objInit hx hb hown (hts _ k_18) (hts _ k_19) (hts _ k_20) rfl (by rw [hml]; exact hl.1) rfl d_C_init_1 (Nat.le_of_ble_eq_true rfl) (Nat.le_of_ble_eq_true rfl) ?_
  refine W.eq (g2 := F0 m 4 ls []) rfl ?_
  refine lv_aload_n hx hb d_C_init_4 rfl (lv_at hl 0 rfl) ?_
  refine lv_iload_n hx hb d_C_init_5 rfl (lv_at hl 1 rfl) ?_
  refine lv_iload_n hx hb d_C_init_6 rfl (lv_at hl 2 rfl) ?_
  refine lv_iload_n hx hb d_C_init_7 rfl (lv_at hl 3 rfl) ?_
  refine lv_iload hx hb d_C_init_8 (lv_at hl 4 rfl) ?_
  refine va_callr (pc := 10) (rest := [.ref z]) (va_runS (As := [.int p1, .int q1, .int g1, .int h1]) ⟨hx, hb, hml, hown, hts⟩ (c_G_told l dC dI s.heap.size p1 q1 g1 h1) (va_cwS 4 hts (al_S k_21 k_22 k_2 k_23) rfl rfl rfl (by decide +kernel) ⟨Nat.le_of_ble_eq_true rfl, Nat.le_of_ble_eq_true rfl⟩) ⟨fun a U g mk q => ⟨q.1, va_K.moved (u := U) (U := U.calling g mk a) (Vm.Alike.refl U.vm) q.2.1, q.2.2⟩, fun U hU hW => ⟨rfl, va_K.moved hW.alike hK, by rw [hU]; exact Nat.le_refl _⟩⟩ rfl rfl hl.1 rfl (lv_room (Nat.le_of_ble_eq_true rfl)) d_C_init_10 ⟨by decide, by decide⟩) hS (fun q h1 h2 => absurd h2 (Nat.not_le.mpr h1)) (fun q h => hA q h) (fun u gr t H locs ht hal _ hB hzz hkp hS => ?_)
  have hPg : va_P (dC, dI) cls [(gr, .inr (0, [.int (nI (gP p1 q1 g1 h1)), .int (nI (gQ p1 q1 g1 h1)), .int (nI (gG p1 q1 g1 h1)), .int (nI (gH p1 q1 g1 h1))]))] H := by rw [← ht]; exact hB.2
  have hD := w_join (w2 := [(gr, .inr (0, [.int (nI (gP p1 q1 g1 h1)), .int (nI (gQ p1 q1 g1 h1)), .int (nI (gG p1 q1 g1 h1)), .int (nI (gH p1 q1 g1 h1))]))]) hP hD (B := fun q => s.heap.size ≤ q) ⟨fun i j x y h1 h2 _ => by have a1 := (List.getElem?_eq_some_iff.mp h1).1; have a2 := (List.getElem?_eq_some_iff.mp h2).1; simp at a1 a2; omega, fun k q h => by have a1 := (List.getElem?_eq_some_iff.mp h).1; have e : k = 0 := by { simp at a1; omega }; subst e; cases h; exact hB.1⟩ (fun _ h => h) (fun q h => hA q h)
  have hP := (hP.kept (fun k q hq => hkp q.1 (hP k q hq).lt (Nat.not_le.mpr (hP k q hq).lt))).app hPg
  have hP : va_P (dC, dI) cls [(z, .inr (2, [.null, .null, .null, .null, .null, .int 0, .int 0, .int 0, .int 0, .int 0, .int 0])), (gr, .inr (0, [.int (nI (gP p1 q1 g1 h1)), .int (nI (gQ p1 q1 g1 h1)), .int (nI (gG p1 q1 g1 h1)), .int (nI (gH p1 q1 g1 h1))]))] H := hP
  have hD : va_D (aZ z sz) [(z, .inr (2, [.null, .null, .null, .null, .null, .int 0, .int 0, .int 0, .int 0, .int 0, .int 0])), (gr, .inr (0, [.int (nI (gP p1 q1 g1 h1)), .int (nI (gQ p1 q1 g1 h1)), .int (nI (gG p1 q1 g1 h1)), .int (nI (gH p1 q1 g1 h1))]))] := hD
  refine va_putF (D := (dC, dI)) (ci := 2) (v := .ref gr) (ty := .object "DealtSecret$Group") (C := "DealtSecret") (T := T_C) (N := 11) hx hb hts i_C t_C t_C_ok n_C hown hK hP hD hS 0 rfl rfl 0 (by decide) (hts _ k_101) (fun _ h9 => h9) rfl hin rfl (by decide +kernel) rfl rfl (Nat.le_of_ble_eq_true rfl) d_C_init_13 (fun H locs hP hD hS => ?_)
  have hP : va_P (dC, dI) cls [(z, .inr (2, [.ref gr, .null, .null, .null, .null, .int 0, .int 0, .int 0, .int 0, .int 0, .int 0])), (gr, .inr (0, [.int (nI (gP p1 q1 g1 h1)), .int (nI (gQ p1 q1 g1 h1)), .int (nI (gG p1 q1 g1 h1)), .int (nI (gH p1 q1 g1 h1))]))] H := hP
  have hD : va_D (aZ z sz) [(z, .inr (2, [.ref gr, .null, .null, .null, .null, .int 0, .int 0, .int 0, .int 0, .int 0, .int 0])), (gr, .inr (0, [.int (nI (gP p1 q1 g1 h1)), .int (nI (gQ p1 q1 g1 h1)), .int (nI (gG p1 q1 g1 h1)), .int (nI (gH p1 q1 g1 h1))]))] := hD
  refine lv_aload_n hx hb d_C_init_16 rfl (lv_at hl 0 rfl) ?_
  refine lv_bipush (v := 7) hx hb d_C_init_17 (by decide) ?_
  refine va_newa (D := (dC, dI)) (atype := .int) (ty := .int) (a0 := (7, .inl (fun _ => 0))) (N' := 7) hx hb (hts _ k_100) rfl hK hP hD hS hA (fun _ => rfl) (by decide) (by decide) (by decide) (by decide) (by decide) d_C_init_19 (fun a1 cI H hK hP hD hS => ?_)
  have hK : va_K (dC, dI) cls [(cI, .int)] s := hK
  have hP : va_P (dC, dI) cls [(z, .inr (2, [.ref gr, .null, .null, .null, .null, .int 0, .int 0, .int 0, .int 0, .int 0, .int 0])), (gr, .inr (0, [.int (nI (gP p1 q1 g1 h1)), .int (nI (gQ p1 q1 g1 h1)), .int (nI (gG p1 q1 g1 h1)), .int (nI (gH p1 q1 g1 h1))])), (a1, .inl (cI, 7, .inl (fun _ => 0)))] H := hP
  have hD : va_D (aZ z sz) [(z, .inr (2, [.ref gr, .null, .null, .null, .null, .int 0, .int 0, .int 0, .int 0, .int 0, .int 0])), (gr, .inr (0, [.int (nI (gP p1 q1 g1 h1)), .int (nI (gQ p1 q1 g1 h1)), .int (nI (gG p1 q1 g1 h1)), .int (nI (gH p1 q1 g1 h1))])), (a1, .inl (cI, 7, .inl (fun _ => 0)))] := hD
  refine va_putF (D := (dC, dI)) (ci := 2) (v := .ref a1) (ty := .array .int) (C := "DealtSecret") (T := T_C) (N := 11) hx hb hts i_C t_C t_C_ok n_C hown hK hP hD hS 0 rfl rfl 1 (by decide) (hts _ k_102) (fun _ h9 => h9) rfl hin rfl (by decide +kernel) rfl rfl (Nat.le_of_ble_eq_true rfl) d_C_init_21 (fun H locs hP hD hS => ?_)
  have hP : va_P (dC, dI) cls [(z, .inr (2, [.ref gr, .ref a1, .null, .null, .null, .int 0, .int 0, .int 0, .int 0, .int 0, .int 0])), (gr, .inr (0, [.int (nI (gP p1 q1 g1 h1)), .int (nI (gQ p1 q1 g1 h1)), .int (nI (gG p1 q1 g1 h1)), .int (nI (gH p1 q1 g1 h1))])), (a1, .inl (cI, 7, .inl (fun _ => 0)))] H := hP
  have hD : va_D (aZ z sz) [(z, .inr (2, [.ref gr, .ref a1, .null, .null, .null, .int 0, .int 0, .int 0, .int 0, .int 0, .int 0])), (gr, .inr (0, [.int (nI (gP p1 q1 g1 h1)), .int (nI (gQ p1 q1 g1 h1)), .int (nI (gG p1 q1 g1 h1)), .int (nI (gH p1 q1 g1 h1))])), (a1, .inl (cI, 7, .inl (fun _ => 0)))] := hD
  refine lv_aload_n hx hb d_C_init_24 rfl (lv_at hl 0 rfl) ?_
  refine lv_bipush (v := 7) hx hb d_C_init_25 (by decide) ?_
  refine va_newa (D := (dC, dI)) (atype := .int) (ty := .int) (a0 := (7, .inl (fun _ => 0))) (N' := 7) hx hb (hts _ k_100) rfl hK hP hD hS hA (fun _ => rfl) (by decide) (by decide) (by decide) (by decide) (by decide) d_C_init_27 (fun a2 cI2 H hK hP hD hS => ?_)
  have e9 : cI = cI2 := Option.some.inj ((hK.2 0 _ rfl).2.symm.trans (hK.2 1 _ rfl).2)
  subst e9
  have hK := hK.sub [0] rfl
  have hK : va_K (dC, dI) cls [(cI, .int)] s := hK
  have hP : va_P (dC, dI) cls [(z, .inr (2, [.ref gr, .ref a1, .null, .null, .null, .int 0, .int 0, .int 0, .int 0, .int 0, .int 0])), (gr, .inr (0, [.int (nI (gP p1 q1 g1 h1)), .int (nI (gQ p1 q1 g1 h1)), .int (nI (gG p1 q1 g1 h1)), .int (nI (gH p1 q1 g1 h1))])), (a1, .inl (cI, 7, .inl (fun _ => 0))), (a2, .inl (cI, 7, .inl (fun _ => 0)))] H := hP
  have hD : va_D (aZ z sz) [(z, .inr (2, [.ref gr, .ref a1, .null, .null, .null, .int 0, .int 0, .int 0, .int 0, .int 0, .int 0])), (gr, .inr (0, [.int (nI (gP p1 q1 g1 h1)), .int (nI (gQ p1 q1 g1 h1)), .int (nI (gG p1 q1 g1 h1)), .int (nI (gH p1 q1 g1 h1))])), (a1, .inl (cI, 7, .inl (fun _ => 0))), (a2, .inl (cI, 7, .inl (fun _ => 0)))] := hD
  refine va_putF (D := (dC, dI)) (ci := 2) (v := .ref a2) (ty := .array .int) (C := "DealtSecret") (T := T_C) (N := 11) hx hb hts i_C t_C t_C_ok n_C hown hK hP hD hS 0 rfl rfl 2 (by decide) (hts _ k_103) (fun _ h9 => h9) rfl hin rfl (by decide +kernel) rfl rfl (Nat.le_of_ble_eq_true rfl) d_C_init_29 (fun H locs hP hD hS => ?_)
  have hP : va_P (dC, dI) cls [(z, .inr (2, [.ref gr, .ref a1, .ref a2, .null, .null, .int 0, .int 0, .int 0, .int 0, .int 0, .int 0])), (gr, .inr (0, [.int (nI (gP p1 q1 g1 h1)), .int (nI (gQ p1 q1 g1 h1)), .int (nI (gG p1 q1 g1 h1)), .int (nI (gH p1 q1 g1 h1))])), (a1, .inl (cI, 7, .inl (fun _ => 0))), (a2, .inl (cI, 7, .inl (fun _ => 0)))] H := hP
  have hD : va_D (aZ z sz) [(z, .inr (2, [.ref gr, .ref a1, .ref a2, .null, .null, .int 0, .int 0, .int 0, .int 0, .int 0, .int 0])), (gr, .inr (0, [.int (nI (gP p1 q1 g1 h1)), .int (nI (gQ p1 q1 g1 h1)), .int (nI (gG p1 q1 g1 h1)), .int (nI (gH p1 q1 g1 h1))])), (a1, .inl (cI, 7, .inl (fun _ => 0))), (a2, .inl (cI, 7, .inl (fun _ => 0)))] := hD
  refine lv_aload_n hx hb d_C_init_32 rfl (lv_at hl 0 rfl) ?_
  refine lv_bipush (v := 7) hx hb d_C_init_33 (by decide) ?_
  refine va_newa (D := (dC, dI)) (atype := .int) (ty := .int) (a0 := (7, .inl (fun _ => 0))) (N' := 7) hx hb (hts _ k_100) rfl hK hP hD hS hA (fun _ => rfl) (by decide) (by decide) (by decide) (by decide) (by decide) d_C_init_35 (fun a3 cI3 H hK hP hD hS => ?_)
  have e9 : cI = cI3 := Option.some.inj ((hK.2 0 _ rfl).2.symm.trans (hK.2 1 _ rfl).2)
  subst e9
  have hK := hK.sub [0] rfl
  have hK : va_K (dC, dI) cls [(cI, .int)] s := hK
  have hP : va_P (dC, dI) cls [(z, .inr (2, [.ref gr, .ref a1, .ref a2, .null, .null, .int 0, .int 0, .int 0, .int 0, .int 0, .int 0])), (gr, .inr (0, [.int (nI (gP p1 q1 g1 h1)), .int (nI (gQ p1 q1 g1 h1)), .int (nI (gG p1 q1 g1 h1)), .int (nI (gH p1 q1 g1 h1))])), (a1, .inl (cI, 7, .inl (fun _ => 0))), (a2, .inl (cI, 7, .inl (fun _ => 0))), (a3, .inl (cI, 7, .inl (fun _ => 0)))] H := hP
  have hD : va_D (aZ z sz) [(z, .inr (2, [.ref gr, .ref a1, .ref a2, .null, .null, .int 0, .int 0, .int 0, .int 0, .int 0, .int 0])), (gr, .inr (0, [.int (nI (gP p1 q1 g1 h1)), .int (nI (gQ p1 q1 g1 h1)), .int (nI (gG p1 q1 g1 h1)), .int (nI (gH p1 q1 g1 h1))])), (a1, .inl (cI, 7, .inl (fun _ => 0))), (a2, .inl (cI, 7, .inl (fun _ => 0))), (a3, .inl (cI, 7, .inl (fun _ => 0)))] := hD
  refine va_putF (D := (dC, dI)) (ci := 2) (v := .ref a3) (ty := .array .int) (C := "DealtSecret") (T := T_C) (N := 11) hx hb hts i_C t_C t_C_ok n_C hown hK hP hD hS 0 rfl rfl 3 (by decide) (hts _ k_104) (fun _ h9 => h9) rfl hin rfl (by decide +kernel) rfl rfl (Nat.le_of_ble_eq_true rfl) d_C_init_37 (fun H locs hP hD hS => ?_)
  have hP : va_P (dC, dI) cls [(z, .inr (2, [.ref gr, .ref a1, .ref a2, .ref a3, .null, .int 0, .int 0, .int 0, .int 0, .int 0, .int 0])), (gr, .inr (0, [.int (nI (gP p1 q1 g1 h1)), .int (nI (gQ p1 q1 g1 h1)), .int (nI (gG p1 q1 g1 h1)), .int (nI (gH p1 q1 g1 h1))])), (a1, .inl (cI, 7, .inl (fun _ => 0))), (a2, .inl (cI, 7, .inl (fun _ => 0))), (a3, .inl (cI, 7, .inl (fun _ => 0)))] H := hP
  have hD : va_D (aZ z sz) [(z, .inr (2, [.ref gr, .ref a1, .ref a2, .ref a3, .null, .int 0, .int 0, .int 0, .int 0, .int 0, .int 0])), (gr, .inr (0, [.int (nI (gP p1 q1 g1 h1)), .int (nI (gQ p1 q1 g1 h1)), .int (nI (gG p1 q1 g1 h1)), .int (nI (gH p1 q1 g1 h1))])), (a1, .inl (cI, 7, .inl (fun _ => 0))), (a2, .inl (cI, 7, .inl (fun _ => 0))), (a3, .inl (cI, 7, .inl (fun _ => 0)))] := hD
  refine lv_aload_n hx hb d_C_init_40 rfl (lv_at hl 0 rfl) ?_
  refine lv_bipush (v := 7) hx hb d_C_init_41 (by decide) ?_
  refine va_newq (D := (dC, dI)) (C := "DealtSecret$Participant") (N' := 7) hx hb hown (hts _ k_58) hAO hK hP hD hS hA (by decide) (by decide) (by decide) (by decide) (by decide) d_C_init_43 (fun pq cP H hK hP hD hS => ?_)
  have hK : va_K (dC, dI) cls [(cI, .int), (cP, .object "DealtSecret$Participant")] s := hK
  have hP : va_P (dC, dI) cls [(z, .inr (2, [.ref gr, .ref a1, .ref a2, .ref a3, .null, .int 0, .int 0, .int 0, .int 0, .int 0, .int 0])), (gr, .inr (0, [.int (nI (gP p1 q1 g1 h1)), .int (nI (gQ p1 q1 g1 h1)), .int (nI (gG p1 q1 g1 h1)), .int (nI (gH p1 q1 g1 h1))])), (a1, .inl (cI, 7, .inl (fun _ => 0))), (a2, .inl (cI, 7, .inl (fun _ => 0))), (a3, .inl (cI, 7, .inl (fun _ => 0))), (pq, .inl (cP, 7, .inr (.inr (.inr (.inr (fun _ => none))))))] H := hP
  have hD : va_D (aZ z sz) [(z, .inr (2, [.ref gr, .ref a1, .ref a2, .ref a3, .null, .int 0, .int 0, .int 0, .int 0, .int 0, .int 0])), (gr, .inr (0, [.int (nI (gP p1 q1 g1 h1)), .int (nI (gQ p1 q1 g1 h1)), .int (nI (gG p1 q1 g1 h1)), .int (nI (gH p1 q1 g1 h1))])), (a1, .inl (cI, 7, .inl (fun _ => 0))), (a2, .inl (cI, 7, .inl (fun _ => 0))), (a3, .inl (cI, 7, .inl (fun _ => 0))), (pq, .inl (cP, 7, .inr (.inr (.inr (.inr (fun _ => none))))))] := hD
  refine va_putF (D := (dC, dI)) (ci := 2) (v := .ref pq) (ty := .array (.object "DealtSecret$Participant")) (C := "DealtSecret") (T := T_C) (N := 11) hx hb hts i_C t_C t_C_ok n_C hown hK hP hD hS 0 rfl rfl 4 (by decide) (hts _ k_105) (fun _ h9 => h9) rfl hin rfl (by decide +kernel) rfl rfl (Nat.le_of_ble_eq_true rfl) d_C_init_46 (fun H locs hP hD hS => ?_)
  have hP : va_P (dC, dI) cls [(z, .inr (2, [.ref gr, .ref a1, .ref a2, .ref a3, .ref pq, .int 0, .int 0, .int 0, .int 0, .int 0, .int 0])), (gr, .inr (0, [.int (nI (gP p1 q1 g1 h1)), .int (nI (gQ p1 q1 g1 h1)), .int (nI (gG p1 q1 g1 h1)), .int (nI (gH p1 q1 g1 h1))])), (a1, .inl (cI, 7, .inl (fun _ => 0))), (a2, .inl (cI, 7, .inl (fun _ => 0))), (a3, .inl (cI, 7, .inl (fun _ => 0))), (pq, .inl (cP, 7, .inr (.inr (.inr (.inr (fun _ => none))))))] H := hP
  have hD : va_D (aZ z sz) [(z, .inr (2, [.ref gr, .ref a1, .ref a2, .ref a3, .ref pq, .int 0, .int 0, .int 0, .int 0, .int 0, .int 0])), (gr, .inr (0, [.int (nI (gP p1 q1 g1 h1)), .int (nI (gQ p1 q1 g1 h1)), .int (nI (gG p1 q1 g1 h1)), .int (nI (gH p1 q1 g1 h1))])), (a1, .inl (cI, 7, .inl (fun _ => 0))), (a2, .inl (cI, 7, .inl (fun _ => 0))), (a3, .inl (cI, 7, .inl (fun _ => 0))), (pq, .inl (cP, 7, .inr (.inr (.inr (.inr (fun _ => none))))))] := hD
  refine lv_iconst (v := (nI (0 + 1))) hx hb d_C_init_49 (by decide) ?_
  refine lv_istore (lv' := [(5, .int (nI (0 + 1))), (0, .ref z), (1, .int p1), (2, .int q1), (3, .int g1), (4, .int h1)]) hx hb d_C_init_50 hl (by decide) rfl (fun ls hl => ?_)
  refine W.cs (cells' := 5 + 0) (slots' := 32 + 9 * 0) (by decide) (by decide) ?_
  exact loop cI cP hK 8 0 (fun i => ([z, gr, a1, a2, a3, pq] : List Nat).getD i 0) H locs ls (by omega) (by omega) rfl (by rw [wI_0]; exact hP) (by rw [wI_0]; exact hD) hS (lv_sub hl [1, 2, 3, 4, 5, 0] rfl)
