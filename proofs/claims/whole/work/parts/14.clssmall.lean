theorem nz_dec (k : Nat) : nI k + Int32.ofInt (-1) = nI k - 1 := by
  rw [Int32.sub_eq_add_neg]
  exact congrArg (fun z => nI k + z) (by decide)
set_option maxRecDepth 100000 in
set_option maxHeartbeats 4000000 in
/-- stage() -/
theorem c_C_stage (l : Launch) (dC : Nat → ClassId) (dI : Nat → Nat → Nat) (Z : Nat → Nat) (cI cP : ClassId) (p0 q0 g0 h0 : Nat) (S : Nat → Nat → Int32) : Ro l y_C_stage ws_C_stage 0 0 [.ref (Z 0)] (bC dC dI Z cI cP p0 q0 g0 h0 S) (S 0 0) := by
  refine Met.ofW (cc := b_C_stage) (maxL := 1) (ret := (some .int)) (by decide) rfl ?_
  intro p e s m args below meth c s₁ B hml hv
  obtain ⟨rfl, hP, hK⟩ := hv
  have hx := B.exec
  have hb := B.bytes
  have hr := B.returns
  have hts : ∀ w ∈ AL, w.before ([.ref (Z 0)] : List Value).toArray s = true := fun w h => atoms_spec (ws := ws_C_stage) B.pre w (List.mem_cons_of_mem _ h)
  have hown : s.vm.findClass "DealtSecret" = some m.cls := findClass_of_methodNamed B.named
  have hlk := B.notSynchronized
  have hl := lv_entry ([.ref (Z 0)]) (n := 1) (Nat.le_of_ble_eq_true rfl)
  rw [lg_entry_eq]
  generalize (lg_sl ([.ref (Z 0)]) ++ List.replicate (1 - (lg_sl ([.ref (Z 0)])).length) Slot.unset).toArray = ls at hl ⊢
  have hl : lv_has ls 1 [(0, .ref (Z 0))] := hl
  refine lv_aload_n hx hb d_C_stage_0 rfl (lv_at hl 0 rfl) ?_
  refine va_get (D := (dC, dI)) (ci := 2) (v := .int (S 0 0)) (C := "DealtSecret") (T := T_C) (N := 11) hx hb hts i_C hown hK hP 0 rfl rfl 5 (by decide) (hts _ k_106) (fun _ h9 => h9) rfl d_C_stage_1 ?_
  exact ro_i hx hb hr hlk d_C_stage_4 (rfl)
set_option maxRecDepth 100000 in
set_option maxHeartbeats 4000000 in
/-- isParticipant(i) -/
theorem c_C_isParticipant (l : Launch) (dC : Nat → ClassId) (dI : Nat → Nat → Nat) (Z : Nat → Nat) (cI cP : ClassId) (p0 q0 g0 h0 : Nat) (S : Nat → Nat → Int32) (i0 : Int32) : Ro l y_C_isParticipant ws_C_isParticipant 0 0 [.ref (Z 0), .int i0] (bC dC dI Z cI cP p0 q0 g0 h0 S) (mz_b (isPt (S 0 1) i0)) := by
  refine Met.ofW (cc := b_C_isParticipant) (maxL := 2) (ret := (some .boolean)) (by decide) rfl ?_
  intro p e s m args below meth c s₁ B hml hv
  obtain ⟨rfl, hP, hK⟩ := hv
  have hx := B.exec
  have hb := B.bytes
  have hr := B.returns
  have hts : ∀ w ∈ AL, w.before ([.ref (Z 0), .int i0] : List Value).toArray s = true := fun w h => atoms_spec (ws := ws_C_isParticipant) B.pre w (List.mem_cons_of_mem _ h)
  have hown : s.vm.findClass "DealtSecret" = some m.cls := findClass_of_methodNamed B.named
  have hlk := B.notSynchronized
  have hl := lv_entry ([.ref (Z 0), .int i0]) (n := 2) (Nat.le_of_ble_eq_true rfl)
  rw [lg_entry_eq]
  generalize (lg_sl ([.ref (Z 0), .int i0]) ++ List.replicate (2 - (lg_sl ([.ref (Z 0), .int i0])).length) Slot.unset).toArray = ls at hl ⊢
  have hl : lv_has ls 2 [(0, .ref (Z 0)), (1, .int i0)] := hl
  refine lv_iload_n hx hb d_C_isParticipant_0 rfl (lv_at hl 1 rfl) ?_
  refine lv_iconst (v := 1) hx hb d_C_isParticipant_1 (by decide) ?_
  refine lv_icmp_lt (tgt := 17) hx hb d_C_isParticipant_2 (by decide) (fun c2 => ?_) (fun c2 => ?_)
  · refine lv_iconst (v := 0) hx hb d_C_isParticipant_17 (by decide) ?_
    exact ro_z hx hb hr hlk d_C_isParticipant_18 (by first | rfl | exact mz_bn _) ((mz_bf fun q => by first | exact q.1 c2 | exact q.2 c10).symm)
  · refine lv_iload_n hx hb d_C_isParticipant_5 rfl (lv_at hl 1 rfl) ?_
    refine lv_aload_n hx hb d_C_isParticipant_6 rfl (lv_at hl 0 rfl) ?_
    refine va_get (D := (dC, dI)) (ci := 2) (v := .int (S 0 1)) (C := "DealtSecret") (T := T_C) (N := 11) hx hb hts i_C hown hK hP 0 rfl rfl 6 (by decide) (hts _ k_107) (fun _ h9 => h9) rfl d_C_isParticipant_7 ?_
    refine lv_icmp_gt (tgt := 17) hx hb d_C_isParticipant_10 (by decide) (fun c10 => ?_) (fun c10 => ?_)
    · refine lv_iconst (v := 0) hx hb d_C_isParticipant_17 (by decide) ?_
      exact ro_z hx hb hr hlk d_C_isParticipant_18 (by first | rfl | exact mz_bn _) ((mz_bf fun q => by first | exact q.1 c2 | exact q.2 c10).symm)
    · refine lv_iconst (v := 1) hx hb d_C_isParticipant_13 (by decide) ?_
      refine lv_goto (tgt := 18) hx hb d_C_isParticipant_14 (by decide) ?_
      exact ro_z hx hb hr hlk d_C_isParticipant_18 (by first | rfl | exact mz_bn _) ((mz_bt ⟨c2, c10⟩).symm)
set_option maxRecDepth 100000 in
set_option maxHeartbeats 4000000 in
/-- isCoefficient(k) -/
theorem c_C_isCoefficient (l : Launch) (dC : Nat → ClassId) (dI : Nat → Nat → Nat) (Z : Nat → Nat) (cI cP : ClassId) (p0 q0 g0 h0 : Nat) (S : Nat → Nat → Int32) (k0 : Int32) : Ro l y_C_isCoefficient ws_C_isCoefficient 0 0 [.ref (Z 0), .int k0] (bC dC dI Z cI cP p0 q0 g0 h0 S) (mz_b (isCf (S 0 2) k0)) := by
  refine Met.ofW (cc := b_C_isCoefficient) (maxL := 2) (ret := (some .boolean)) (by decide) rfl ?_
  intro p e s m args below meth c s₁ B hml hv
  obtain ⟨rfl, hP, hK⟩ := hv
  have hx := B.exec
  have hb := B.bytes
  have hr := B.returns
  have hts : ∀ w ∈ AL, w.before ([.ref (Z 0), .int k0] : List Value).toArray s = true := fun w h => atoms_spec (ws := ws_C_isCoefficient) B.pre w (List.mem_cons_of_mem _ h)
  have hown : s.vm.findClass "DealtSecret" = some m.cls := findClass_of_methodNamed B.named
  have hlk := B.notSynchronized
  have hl := lv_entry ([.ref (Z 0), .int k0]) (n := 2) (Nat.le_of_ble_eq_true rfl)
  rw [lg_entry_eq]
  generalize (lg_sl ([.ref (Z 0), .int k0]) ++ List.replicate (2 - (lg_sl ([.ref (Z 0), .int k0])).length) Slot.unset).toArray = ls at hl ⊢
  have hl : lv_has ls 2 [(0, .ref (Z 0)), (1, .int k0)] := hl
  refine lv_iload_n hx hb d_C_isCoefficient_0 rfl (lv_at hl 1 rfl) ?_
  refine lv_if_lt (tgt := 16) hx hb d_C_isCoefficient_1 (by decide) (fun c1 => ?_) (fun c1 => ?_)
  · refine lv_iconst (v := 0) hx hb d_C_isCoefficient_16 (by decide) ?_
    exact ro_z hx hb hr hlk d_C_isCoefficient_17 (by first | rfl | exact mz_bn _) ((mz_bf fun q => by first | exact q.1 c1 | exact q.2 c9).symm)
  · refine lv_iload_n hx hb d_C_isCoefficient_4 rfl (lv_at hl 1 rfl) ?_
    refine lv_aload_n hx hb d_C_isCoefficient_5 rfl (lv_at hl 0 rfl) ?_
    refine va_get (D := (dC, dI)) (ci := 2) (v := .int (S 0 2)) (C := "DealtSecret") (T := T_C) (N := 11) hx hb hts i_C hown hK hP 0 rfl rfl 7 (by decide) (hts _ k_108) (fun _ h9 => h9) rfl d_C_isCoefficient_6 ?_
    refine lv_icmp_ge (tgt := 16) hx hb d_C_isCoefficient_9 (by decide) (fun c9 => ?_) (fun c9 => ?_)
    · refine lv_iconst (v := 0) hx hb d_C_isCoefficient_16 (by decide) ?_
      exact ro_z hx hb hr hlk d_C_isCoefficient_17 (by first | rfl | exact mz_bn _) ((mz_bf fun q => by first | exact q.1 c1 | exact q.2 c9).symm)
    · refine lv_iconst (v := 1) hx hb d_C_isCoefficient_12 (by decide) ?_
      refine lv_goto (tgt := 17) hx hb d_C_isCoefficient_13 (by decide) ?_
      exact ro_z hx hb hr hlk d_C_isCoefficient_17 (by first | rfl | exact mz_bn _) ((mz_bt ⟨c1, c9⟩).symm)
set_option maxRecDepth 100000 in
set_option maxHeartbeats 4000000 in
/-- isDealt() -/
theorem c_C_isDealt (l : Launch) (dC : Nat → ClassId) (dI : Nat → Nat → Nat) (Z : Nat → Nat) (cI cP : ClassId) (p0 q0 g0 h0 : Nat) (S : Nat → Nat → Int32) : Ro l y_C_isDealt ws_C_isDealt 0 0 [.ref (Z 0)] (bC dC dI Z cI cP p0 q0 g0 h0 S) (mz_b (¬ S 0 0 < 2)) := by
  refine Met.ofW (cc := b_C_isDealt) (maxL := 1) (ret := (some .boolean)) (by decide) rfl ?_
  intro p e s m args below meth c s₁ B hml hv
  obtain ⟨rfl, hP, hK⟩ := hv
  have hx := B.exec
  have hb := B.bytes
  have hr := B.returns
  have hts : ∀ w ∈ AL, w.before ([.ref (Z 0)] : List Value).toArray s = true := fun w h => atoms_spec (ws := ws_C_isDealt) B.pre w (List.mem_cons_of_mem _ h)
  have hown : s.vm.findClass "DealtSecret" = some m.cls := findClass_of_methodNamed B.named
  have hlk := B.notSynchronized
  have hl := lv_entry ([.ref (Z 0)]) (n := 1) (Nat.le_of_ble_eq_true rfl)
  rw [lg_entry_eq]
  generalize (lg_sl ([.ref (Z 0)]) ++ List.replicate (1 - (lg_sl ([.ref (Z 0)])).length) Slot.unset).toArray = ls at hl ⊢
  have hl : lv_has ls 1 [(0, .ref (Z 0))] := hl
  refine lv_aload_n hx hb d_C_isDealt_0 rfl (lv_at hl 0 rfl) ?_
  refine va_get (D := (dC, dI)) (ci := 2) (v := .int (S 0 0)) (C := "DealtSecret") (T := T_C) (N := 11) hx hb hts i_C hown hK hP 0 rfl rfl 5 (by decide) (hts _ k_106) (fun _ h9 => h9) rfl d_C_isDealt_1 ?_
  refine lv_iconst (v := 2) hx hb d_C_isDealt_4 (by decide) ?_
  refine lv_icmp_lt (tgt := 12) hx hb d_C_isDealt_5 (by decide) (fun c5 => ?_) (fun c5 => ?_)
  · refine lv_iconst (v := 0) hx hb d_C_isDealt_12 (by decide) ?_
    exact ro_z hx hb hr hlk d_C_isDealt_13 (by first | rfl | exact mz_bn _) ((mz_bf fun q => q c5).symm)
  · refine lv_iconst (v := 1) hx hb d_C_isDealt_8 (by decide) ?_
    refine lv_goto (tgt := 13) hx hb d_C_isDealt_9 (by decide) ?_
    exact ro_z hx hb hr hlk d_C_isDealt_13 (by first | rfl | exact mz_bn _) ((mz_bt c5).symm)
set_option maxRecDepth 100000 in
set_option maxHeartbeats 4000000 in
/-- blindNumber(x) -/
theorem c_C_blindNumber (l : Launch) (dC : Nat → ClassId) (dI : Nat → Nat → Nat) (Z : Nat → Nat) (cI cP : ClassId) (p0 q0 g0 h0 : Nat) (S : Nat → Nat → Int32) (x0 : Int32) (ok : okG p0 q0 g0 h0) : Ro l y_C_blindNumber ws_C_blindNumber 2 43 [.ref (Z 0), .int x0] (bC dC dI Z cI cP p0 q0 g0 h0 S) (bnum (S 0 3) x0 q0) := by
  refine Met.ofW (cc := b_C_blindNumber) (maxL := 2) (ret := (some .int)) (by decide) rfl ?_
  intro p e s m args below meth c s₁ B hml hv
  obtain ⟨rfl, hP, hK⟩ := hv
  have hx := B.exec
  have hb := B.bytes
  have hr := B.returns
  have hts : ∀ w ∈ AL, w.before ([.ref (Z 0), .int x0] : List Value).toArray s = true := fun w h => atoms_spec (ws := ws_C_blindNumber) B.pre w (List.mem_cons_of_mem _ h)
  have hown : s.vm.findClass "DealtSecret" = some m.cls := findClass_of_methodNamed B.named
  have hlk := B.notSynchronized
  have hl := lv_entry ([.ref (Z 0), .int x0]) (n := 2) (Nat.le_of_ble_eq_true rfl)
  rw [lg_entry_eq]
  generalize (lg_sl ([.ref (Z 0), .int x0]) ++ List.replicate (2 - (lg_sl ([.ref (Z 0), .int x0])).length) Slot.unset).toArray = ls at hl ⊢
  have hl : lv_has ls 2 [(0, .ref (Z 0)), (1, .int x0)] := hl
  obtain ⟨okp2, okp, okq2, okq, okg, okh⟩ := id ok
  refine lv_aload_n hx hb d_C_blindNumber_0 rfl (lv_at hl 0 rfl) ?_
  refine va_get (D := (dC, dI)) (ci := 2) (v := .int (S 0 3)) (C := "DealtSecret") (T := T_C) (N := 11) hx hb hts i_C hown hK hP 0 rfl rfl 8 (by decide) (hts _ k_109) (fun _ h9 => h9) rfl d_C_blindNumber_1 ?_
  refine lv_if_eq (tgt := 18) hx hb d_C_blindNumber_4 (by decide) (fun c4 => ?_) (fun c4 => ?_)
  · refine lv_iconst (v := 0) hx hb d_C_blindNumber_18 (by decide) ?_
    exact ro_i hx hb hr hlk d_C_blindNumber_19 ((if_pos c4).symm)
  · refine lv_aload_n hx hb d_C_blindNumber_7 rfl (lv_at hl 0 rfl) ?_
    refine va_get (D := (dC, dI)) (ci := 2) (v := .ref (Z 1)) (C := "DealtSecret") (T := T_C) (N := 11) hx hb hts i_C hown hK hP 0 rfl rfl 0 (by decide) (hts _ k_101) (fun _ h9 => h9) rfl d_C_blindNumber_8 ?_
    refine lv_iload_n hx hb d_C_blindNumber_11 rfl (lv_at hl 1 rfl) ?_
    refine ro_V (As := [.int x0]) (rest := []) (b := (Z 1)) ⟨hx, hb, hml, hown, hts⟩ (c_G_number l dC dI (Z 1) p0 q0 g0 h0 x0 (by omega) okq) (cwV 1 hts (al_V k_288 k_289 k_290 k_2 k_291) rfl rfl rfl (by decide +kernel) ⟨Nat.le_of_ble_eq_true rfl, Nat.le_of_ble_eq_true rfl⟩) (fun U g mk a h => ⟨h.1, va_K.moved (u := U) (U := U.calling g mk a) (Vm.Alike.refl U.vm) h.2⟩) (va_recv hK hP (ci := 0) (q0 := 1) rfl rfl) (fun U hU hW => ⟨by rw [hU]; exact (hP.sub [1] rfl), va_K.moved hW.alike (hK.sub [] rfl)⟩) rfl hl.1 rfl (lv_room (Nat.le_of_ble_eq_true rfl)) d_C_blindNumber_12 ⟨Nat.zero_le _, Nat.zero_le _⟩ ?_
    refine lv_goto (tgt := 19) hx hb d_C_blindNumber_15 (by decide) ?_
    exact ro_i hx hb hr hlk d_C_blindNumber_19 ((if_neg c4).symm)
set_option maxRecDepth 100000 in
set_option maxHeartbeats 4000000 in
/-- publishedAt(i): the product of published[k]^(i^k) modulo p -/
theorem c_C_publishedAt (l : Launch) (dC : Nat → ClassId) (dI : Nat → Nat → Nat) (Z : Nat → Nat) (cI cP : ClassId) (p0 q0 g0 h0 : Nat) (S : Nat → Nat → Int32) (i0 t0 : Nat) (hi0 : i0 < 2 ^ 31) (ht : S 0 2 = nI t0) (ht7 : t0 ≤ 7) (ok : okG p0 q0 g0 h0) (hC : ∀ k, k < t0 → okN (S 3 k) p0) : Ro l y_C_publishedAt ws_C_publishedAt 2 49 [.ref (Z 0), .int (nI i0)] (bC dC dI Z cI cP p0 q0 g0 h0 S) (nI (mz_cp (fun k => nn (S 3 k)) i0 0 t0 % p0)) := by
  refine Met.ofW (cc := b_C_publishedAt) (maxL := 4) (ret := (some .int)) (by decide) rfl ?_
  intro p e s m args below meth c s₁ B hml hv
  obtain ⟨rfl, hP, hK⟩ := hv
  have hx := B.exec
  have hb := B.bytes
  have hr := B.returns
  have hts : ∀ w ∈ AL, w.before ([.ref (Z 0), .int (nI i0)] : List Value).toArray s = true := fun w h => atoms_spec (ws := ws_C_publishedAt) B.pre w (List.mem_cons_of_mem _ h)
  have hown : s.vm.findClass "DealtSecret" = some m.cls := findClass_of_methodNamed B.named
  have hlk := B.notSynchronized
  have hl := lv_entry ([.ref (Z 0), .int (nI i0)]) (n := 4) (Nat.le_of_ble_eq_true rfl)
  rw [lg_entry_eq]
  generalize (lg_sl ([.ref (Z 0), .int (nI i0)]) ++ List.replicate (4 - (lg_sl ([.ref (Z 0), .int (nI i0)])).length) Slot.unset).toArray = ls at hl ⊢
  have hl : lv_has ls 4 [(0, .ref (Z 0)), (1, .int (nI i0))] := hl
  obtain ⟨okp2, okp, okq2, okq, okg, okh⟩ := id ok
  have loop : ∀ (kk v : Nat) (ls : Array Slot), kk ≤ t0 → v = mz_cp (fun k => nn (S 3 k)) i0 kk (t0 - kk) % p0 → lv_has ls 4 [(0, .ref (Z 0)), (1, .int (nI i0)), (2, .int (nI v)), (3, .int (nI kk - 1))] → W p l e (headSpec ws_C_publishedAt { frames := 2, cells := 0, slots := 0, locals := 49 }).room s m [.ref (Z 0), .int (nI i0)].toArray below meth c s.heap [] 0 0 (MQ below (QcRead (nI (mz_cp (fun k => nn (S 3 k)) i0 0 t0 % p0))) [.ref (Z 0), .int (nI i0)].toArray s 0 0 (fun _ => False)) (F0 m 9 ls []) := by
    intro kk
    induction kk with
    | zero =>
      intro v ls _ hv0 hl
      refine lv_iload_n hx hb d_C_publishedAt_9 rfl (lv_at hl 3 rfl) ?_
      refine lv_if_lt (tgt := 42) hx hb d_C_publishedAt_10 (by decide) (fun _ => ?_) (fun c_ => absurd (by decide) c_)
      refine lv_iload_n hx hb d_C_publishedAt_42 rfl (lv_at hl 2 rfl) ?_
      exact ro_i hx hb hr hlk d_C_publishedAt_43 (by rw [hv0, Nat.sub_zero])
    | succ k ih =>
      intro v ls hk hv0 hl
      have hvp : v < p0 := by rw [hv0]; exact Nat.mod_lt _ (by omega)
      have hck := hC k (by omega)
      have hckl := hck.lt
      have hvi : v ^ i0 % p0 < p0 := Nat.mod_lt _ (by omega)
      have hl : lv_has ls 4 [(0, .ref (Z 0)), (1, .int (nI i0)), (2, .int (nI v)), (3, .int (nI k))] := by rw [nI_pred] at hl; exact hl
      refine lv_iload_n hx hb d_C_publishedAt_9 rfl (lv_at hl 3 rfl) ?_
      refine lv_if_lt (tgt := 42) hx hb d_C_publishedAt_10 (by decide) (fun c_ => absurd c_ (nI_pos (by omega))) (fun _ => ?_)
      refine lv_aload_n hx hb d_C_publishedAt_13 rfl (lv_at hl 0 rfl) ?_
      refine va_get (D := (dC, dI)) (ci := 2) (v := .ref (Z 1)) (C := "DealtSecret") (T := T_C) (N := 11) hx hb hts i_C hown hK hP 0 rfl rfl 0 (by decide) (hts _ k_101) (fun _ h9 => h9) rfl d_C_publishedAt_14 ?_
      refine lv_aload_n hx hb d_C_publishedAt_17 rfl (lv_at hl 0 rfl) ?_
      refine va_get (D := (dC, dI)) (ci := 2) (v := .ref (Z 1)) (C := "DealtSecret") (T := T_C) (N := 11) hx hb hts i_C hown hK hP 0 rfl rfl 0 (by decide) (hts _ k_101) (fun _ h9 => h9) rfl d_C_publishedAt_18 ?_
      refine lv_iload_n hx hb d_C_publishedAt_21 rfl (lv_at hl 2 rfl) ?_
      refine lv_iload_n hx hb d_C_publishedAt_22 rfl (lv_at hl 1 rfl) ?_
      refine ro_V (As := [.int (nI v), .int (nI i0)]) (rest := [.ref (Z 1)]) (b := (Z 1)) ⟨hx, hb, hml, hown, hts⟩ (c_G_power l dC dI (Z 1) p0 q0 g0 h0 v i0 (by omega) hi0 okp2 okp) (cwV 2 hts (al_V k_184 k_174 k_175 k_2 k_176) rfl rfl rfl (by decide +kernel) ⟨Nat.le_of_ble_eq_true rfl, Nat.le_of_ble_eq_true rfl⟩) (fun U g mk a h => ⟨h.1, va_K.moved (u := U) (U := U.calling g mk a) (Vm.Alike.refl U.vm) h.2⟩) (va_recv hK hP (ci := 0) (q0 := 1) rfl rfl) (fun U hU hW => ⟨by rw [hU]; exact (hP.sub [1] rfl), va_K.moved hW.alike (hK.sub [] rfl)⟩) rfl hl.1 rfl (lv_room (Nat.le_of_ble_eq_true rfl)) d_C_publishedAt_23 ⟨Nat.zero_le _, Nat.zero_le _⟩ ?_
      refine lv_aload_n hx hb d_C_publishedAt_26 rfl (lv_at hl 0 rfl) ?_
      refine va_get (D := (dC, dI)) (ci := 2) (v := .ref (Z 4)) (C := "DealtSecret") (T := T_C) (N := 11) hx hb hts i_C hown hK hP 0 rfl rfl 3 (by decide) (hts _ k_104) (fun _ h9 => h9) rfl d_C_publishedAt_27 ?_
      refine lv_iload_n hx hb d_C_publishedAt_30 rfl (lv_at hl 3 rfl) ?_
      refine va_iald hx hb hK hP 4 0 rfl rfl (vp_in_nI (by omega) (by decide)) d_C_publishedAt_31 ?_
      refine x_i (y := S 3 k) (by rw [nI_clamp (by omega)]) ?_
      refine x_i (y := nI (nn (S 3 k))) (hck.eq) ?_
      refine ro_V (As := [.int (nI (v ^ i0 % p0)), .int (nI (nn (S 3 k)))]) (rest := []) (b := (Z 1)) ⟨hx, hb, hml, hown, hts⟩ (c_G_product l dC dI (Z 1) p0 q0 g0 h0 (v ^ i0 % p0) (nn (S 3 k)) (by omega) (by omega) (by omega) okp) (cwV 2 hts (al_V k_185 k_178 k_179 k_2 k_180) rfl rfl rfl (by decide +kernel) ⟨Nat.le_of_ble_eq_true rfl, Nat.le_of_ble_eq_true rfl⟩) (fun U g mk a h => ⟨h.1, va_K.moved (u := U) (U := U.calling g mk a) (Vm.Alike.refl U.vm) h.2⟩) (va_recv hK hP (ci := 0) (q0 := 1) rfl rfl) (fun U hU hW => ⟨by rw [hU]; exact (hP.sub [1] rfl), va_K.moved hW.alike (hK.sub [] rfl)⟩) rfl hl.1 rfl (lv_room (Nat.le_of_ble_eq_true rfl)) d_C_publishedAt_32 ⟨Nat.zero_le _, Nat.zero_le _⟩ ?_
      refine lv_istore_n (lv' := [(2, .int (nI ((v ^ i0 % p0) * nn (S 3 k) % p0))), (0, .ref (Z 0)), (1, .int (nI i0)), (3, .int (nI k))]) hx hb d_C_publishedAt_35 rfl hl (by decide) rfl (fun ls hl => ?_)
      refine lv_iinc (v := (nI k - 1)) (lv' := [(3, .int (nI k - 1)), (2, .int (nI ((v ^ i0 % p0) * nn (S 3 k) % p0))), (0, .ref (Z 0)), (1, .int (nI i0))]) hx hb d_C_publishedAt_36 hl (k := 3) rfl (nz_dec k) (by decide) rfl (fun ls hl => ?_)
      refine lv_goto (tgt := 9) hx hb d_C_publishedAt_39 (by decide) ?_
      exact ih _ ls (by omega) (by rw [hv0, mz_powers, show t0 - k = t0 - (k + 1) + 1 by omega]; rfl) (lv_sub hl [2, 3, 1, 0] rfl)
  refine lv_iconst (v := (nI 1)) hx hb d_C_publishedAt_0 (by decide) ?_
  refine lv_istore_n (lv' := [(2, .int (nI 1)), (0, .ref (Z 0)), (1, .int (nI i0))]) hx hb d_C_publishedAt_1 rfl hl (by decide) rfl (fun ls hl => ?_)
  refine lv_aload_n hx hb d_C_publishedAt_2 rfl (lv_at hl 1 rfl) ?_
  refine va_get (D := (dC, dI)) (ci := 2) (v := .int (S 0 2)) (C := "DealtSecret") (T := T_C) (N := 11) hx hb hts i_C hown hK hP 0 rfl rfl 7 (by decide) (hts _ k_108) (fun _ h9 => h9) rfl d_C_publishedAt_3 ?_
  refine x_i (y := nI t0) (ht) ?_
  refine lv_iconst (v := 1) hx hb d_C_publishedAt_6 (by decide) ?_
  refine lv_isub hx hb d_C_publishedAt_7 ?_
  refine lv_istore_n (lv' := [(3, .int ((nI t0) - 1)), (2, .int (nI 1)), (0, .ref (Z 0)), (1, .int (nI i0))]) hx hb d_C_publishedAt_8 rfl hl (by decide) rfl (fun ls hl => ?_)
  exact loop t0 1 ls (Nat.le_refl _) (by rw [Nat.sub_self]; exact (Nat.mod_eq_of_lt (by omega)).symm) (lv_sub hl [2, 3, 1, 0] rfl)
set_option maxRecDepth 100000 in
set_option maxHeartbeats 4000000 in
/-- valueAt(i, a): the polynomial at i modulo q -/
theorem c_C_valueAt_a (l : Launch) (dC : Nat → ClassId) (dI : Nat → Nat → Nat) (Z : Nat → Nat) (cI cP : ClassId) (p0 q0 g0 h0 : Nat) (S : Nat → Nat → Int32) (i0 t0 : Nat) (hi0 : i0 < 2 ^ 31) (ht : S 0 2 = nI t0) (ht7 : t0 ≤ 7) (ok : okG p0 q0 g0 h0) (hC : ∀ k, k < t0 → okN (S 1 k) q0) : Ro l y_C_valueAt ws_C_valueAt 1 22 [.ref (Z 0), .int (nI i0), .ref (Z 2)] (bC dC dI Z cI cP p0 q0 g0 h0 S) (nI (mz_pv (fun k => nn (S 1 k)) i0 0 t0 % q0)) := by
  refine Met.ofW (cc := b_C_valueAt) (maxL := 5) (ret := (some .int)) (by decide) rfl ?_
  intro p e s m args below meth c s₁ B hml hv
  obtain ⟨rfl, hP, hK⟩ := hv
  have hx := B.exec
  have hb := B.bytes
  have hr := B.returns
  have hts : ∀ w ∈ AL, w.before ([.ref (Z 0), .int (nI i0), .ref (Z 2)] : List Value).toArray s = true := fun w h => atoms_spec (ws := ws_C_valueAt) B.pre w (List.mem_cons_of_mem _ h)
  have hown : s.vm.findClass "DealtSecret" = some m.cls := findClass_of_methodNamed B.named
  have hlk := B.notSynchronized
  have hl := lv_entry ([.ref (Z 0), .int (nI i0), .ref (Z 2)]) (n := 5) (Nat.le_of_ble_eq_true rfl)
  rw [lg_entry_eq]
  generalize (lg_sl ([.ref (Z 0), .int (nI i0), .ref (Z 2)]) ++ List.replicate (5 - (lg_sl ([.ref (Z 0), .int (nI i0), .ref (Z 2)])).length) Slot.unset).toArray = ls at hl ⊢
  have hl : lv_has ls 5 [(0, .ref (Z 0)), (1, .int (nI i0)), (2, .ref (Z 2))] := hl
  obtain ⟨okp2, okp, okq2, okq, okg, okh⟩ := id ok
  have loop : ∀ (kk v : Nat) (ls : Array Slot), kk ≤ t0 → v = mz_pv (fun k => nn (S 1 k)) i0 kk (t0 - kk) % q0 → lv_has ls 5 [(0, .ref (Z 0)), (1, .int (nI i0)), (2, .ref (Z 2)), (3, .int (nI v)), (4, .int (nI kk - 1))] → W p l e (headSpec ws_C_valueAt { frames := 1, cells := 0, slots := 0, locals := 22 }).room s m [.ref (Z 0), .int (nI i0), .ref (Z 2)].toArray below meth c s.heap [] 0 0 (MQ below (QcRead (nI (mz_pv (fun k => nn (S 1 k)) i0 0 t0 % q0))) [.ref (Z 0), .int (nI i0), .ref (Z 2)].toArray s 0 0 (fun _ => False)) (F0 m 10 ls []) := by
    intro kk
    induction kk with
    | zero =>
      intro v ls _ hv0 hl
      refine lv_iload hx hb d_C_valueAt_10 (lv_at hl 4 rfl) ?_
      refine lv_if_lt (tgt := 42) hx hb d_C_valueAt_12 (by decide) (fun _ => ?_) (fun c_ => absurd (by decide) c_)
      refine lv_iload_n hx hb d_C_valueAt_42 rfl (lv_at hl 3 rfl) ?_
      exact ro_i hx hb hr hlk d_C_valueAt_43 (by rw [hv0, Nat.sub_zero])
    | succ k ih =>
      intro v ls hk hv0 hl
      have hvq : v < q0 := by rw [hv0]; exact Nat.mod_lt _ (by omega)
      have hck := hC k (by omega)
      have hckl := hck.lt
      have hvi : v * i0 % q0 < q0 := Nat.mod_lt _ (by omega)
      have hl : lv_has ls 5 [(0, .ref (Z 0)), (1, .int (nI i0)), (2, .ref (Z 2)), (3, .int (nI v)), (4, .int (nI k))] := by rw [nI_pred] at hl; exact hl
      refine lv_iload hx hb d_C_valueAt_10 (lv_at hl 4 rfl) ?_
      refine lv_if_lt (tgt := 42) hx hb d_C_valueAt_12 (by decide) (fun c_ => absurd c_ (nI_pos (by omega))) (fun _ => ?_)
      refine lv_aload_n hx hb d_C_valueAt_15 rfl (lv_at hl 0 rfl) ?_
      refine va_get (D := (dC, dI)) (ci := 2) (v := .ref (Z 1)) (C := "DealtSecret") (T := T_C) (N := 11) hx hb hts i_C hown hK hP 0 rfl rfl 0 (by decide) (hts _ k_101) (fun _ h9 => h9) rfl d_C_valueAt_16 ?_
      refine lv_aload_n hx hb d_C_valueAt_19 rfl (lv_at hl 0 rfl) ?_
      refine va_get (D := (dC, dI)) (ci := 2) (v := .ref (Z 1)) (C := "DealtSecret") (T := T_C) (N := 11) hx hb hts i_C hown hK hP 0 rfl rfl 0 (by decide) (hts _ k_101) (fun _ h9 => h9) rfl d_C_valueAt_20 ?_
      refine lv_iload_n hx hb d_C_valueAt_23 rfl (lv_at hl 3 rfl) ?_
      refine lv_iload_n hx hb d_C_valueAt_24 rfl (lv_at hl 1 rfl) ?_
      refine ro_V (As := [.int (nI v), .int (nI i0)]) (rest := [.ref (Z 1)]) (b := (Z 1)) ⟨hx, hb, hml, hown, hts⟩ (c_G_times l dC dI (Z 1) p0 q0 g0 h0 v i0 (by omega) hi0 (by omega) okq) (cwV 2 hts (al_V k_313 k_314 k_315 k_2 k_316) rfl rfl rfl (by decide +kernel) ⟨Nat.le_of_ble_eq_true rfl, Nat.le_of_ble_eq_true rfl⟩) (fun U g mk a h => ⟨h.1, va_K.moved (u := U) (U := U.calling g mk a) (Vm.Alike.refl U.vm) h.2⟩) (va_recv hK hP (ci := 0) (q0 := 1) rfl rfl) (fun U hU hW => ⟨by rw [hU]; exact (hP.sub [1] rfl), va_K.moved hW.alike (hK.sub [] rfl)⟩) rfl hl.1 rfl (lv_room (Nat.le_of_ble_eq_true rfl)) d_C_valueAt_25 ⟨Nat.zero_le _, Nat.zero_le _⟩ ?_
      refine lv_aload_n hx hb d_C_valueAt_28 rfl (lv_at hl 2 rfl) ?_
      refine lv_iload hx hb d_C_valueAt_29 (lv_at hl 4 rfl) ?_
      refine va_iald hx hb hK hP 2 0 rfl rfl (vp_in_nI (by omega) (by decide)) d_C_valueAt_31 ?_
      refine x_i (y := S 1 k) (by rw [nI_clamp (by omega)]) ?_
      refine x_i (y := nI (nn (S 1 k))) (hck.eq) ?_
      refine ro_V (As := [.int (nI (v * i0 % q0)), .int (nI (nn (S 1 k)))]) (rest := []) (b := (Z 1)) ⟨hx, hb, hml, hown, hts⟩ (c_G_plus l dC dI (Z 1) p0 q0 g0 h0 (v * i0 % q0) (nn (S 1 k)) (by omega) (by omega) (by omega) okq) (cwV 2 hts (al_V k_317 k_318 k_319 k_2 k_320) rfl rfl rfl (by decide +kernel) ⟨Nat.le_of_ble_eq_true rfl, Nat.le_of_ble_eq_true rfl⟩) (fun U g mk a h => ⟨h.1, va_K.moved (u := U) (U := U.calling g mk a) (Vm.Alike.refl U.vm) h.2⟩) (va_recv hK hP (ci := 0) (q0 := 1) rfl rfl) (fun U hU hW => ⟨by rw [hU]; exact (hP.sub [1] rfl), va_K.moved hW.alike (hK.sub [] rfl)⟩) rfl hl.1 rfl (lv_room (Nat.le_of_ble_eq_true rfl)) d_C_valueAt_32 ⟨Nat.zero_le _, Nat.zero_le _⟩ ?_
      refine lv_istore_n (lv' := [(3, .int (nI ((v * i0 % q0 + nn (S 1 k)) % q0))), (0, .ref (Z 0)), (1, .int (nI i0)), (2, .ref (Z 2)), (4, .int (nI k))]) hx hb d_C_valueAt_35 rfl hl (by decide) rfl (fun ls hl => ?_)
      refine lv_iinc (v := (nI k - 1)) (lv' := [(4, .int (nI k - 1)), (3, .int (nI ((v * i0 % q0 + nn (S 1 k)) % q0))), (0, .ref (Z 0)), (1, .int (nI i0)), (2, .ref (Z 2))]) hx hb d_C_valueAt_36 hl (k := 4) rfl (nz_dec k) (by decide) rfl (fun ls hl => ?_)
      refine lv_goto (tgt := 10) hx hb d_C_valueAt_39 (by decide) ?_
      exact ih _ ls (by omega) (by rw [hv0, mz_horner, show t0 - k = t0 - (k + 1) + 1 by omega]; rfl) (lv_sub hl [2, 3, 4, 1, 0] rfl)
  refine lv_iconst (v := (nI 0)) hx hb d_C_valueAt_0 (by decide) ?_
  refine lv_istore_n (lv' := [(3, .int (nI 0)), (0, .ref (Z 0)), (1, .int (nI i0)), (2, .ref (Z 2))]) hx hb d_C_valueAt_1 rfl hl (by decide) rfl (fun ls hl => ?_)
  refine lv_aload_n hx hb d_C_valueAt_2 rfl (lv_at hl 1 rfl) ?_
  refine va_get (D := (dC, dI)) (ci := 2) (v := .int (S 0 2)) (C := "DealtSecret") (T := T_C) (N := 11) hx hb hts i_C hown hK hP 0 rfl rfl 7 (by decide) (hts _ k_108) (fun _ h9 => h9) rfl d_C_valueAt_3 ?_
  refine x_i (y := nI t0) (ht) ?_
  refine lv_iconst (v := 1) hx hb d_C_valueAt_6 (by decide) ?_
  refine lv_isub hx hb d_C_valueAt_7 ?_
  refine lv_istore (lv' := [(4, .int ((nI t0) - 1)), (3, .int (nI 0)), (0, .ref (Z 0)), (1, .int (nI i0)), (2, .ref (Z 2))]) hx hb d_C_valueAt_8 hl (by decide) rfl (fun ls hl => ?_)
  exact loop t0 0 ls (Nat.le_refl _) (by rw [Nat.sub_self]; exact (Nat.zero_mod _).symm) (lv_sub hl [2, 3, 4, 1, 0] rfl)
set_option maxRecDepth 100000 in
set_option maxHeartbeats 4000000 in
/-- valueAt(i, b): the polynomial at i modulo q -/
theorem c_C_valueAt_b (l : Launch) (dC : Nat → ClassId) (dI : Nat → Nat → Nat) (Z : Nat → Nat) (cI cP : ClassId) (p0 q0 g0 h0 : Nat) (S : Nat → Nat → Int32) (i0 t0 : Nat) (hi0 : i0 < 2 ^ 31) (ht : S 0 2 = nI t0) (ht7 : t0 ≤ 7) (ok : okG p0 q0 g0 h0) (hC : ∀ k, k < t0 → okN (S 2 k) q0) : Ro l y_C_valueAt ws_C_valueAt 1 22 [.ref (Z 0), .int (nI i0), .ref (Z 3)] (bC dC dI Z cI cP p0 q0 g0 h0 S) (nI (mz_pv (fun k => nn (S 2 k)) i0 0 t0 % q0)) := by
  refine Met.ofW (cc := b_C_valueAt) (maxL := 5) (ret := (some .int)) (by decide) rfl ?_
  intro p e s m args below meth c s₁ B hml hv
  obtain ⟨rfl, hP, hK⟩ := hv
  have hx := B.exec
  have hb := B.bytes
  have hr := B.returns
  have hts : ∀ w ∈ AL, w.before ([.ref (Z 0), .int (nI i0), .ref (Z 3)] : List Value).toArray s = true := fun w h => atoms_spec (ws := ws_C_valueAt) B.pre w (List.mem_cons_of_mem _ h)
  have hown : s.vm.findClass "DealtSecret" = some m.cls := findClass_of_methodNamed B.named
  have hlk := B.notSynchronized
  have hl := lv_entry ([.ref (Z 0), .int (nI i0), .ref (Z 3)]) (n := 5) (Nat.le_of_ble_eq_true rfl)
  rw [lg_entry_eq]
  generalize (lg_sl ([.ref (Z 0), .int (nI i0), .ref (Z 3)]) ++ List.replicate (5 - (lg_sl ([.ref (Z 0), .int (nI i0), .ref (Z 3)])).length) Slot.unset).toArray = ls at hl ⊢
  have hl : lv_has ls 5 [(0, .ref (Z 0)), (1, .int (nI i0)), (2, .ref (Z 3))] := hl
  obtain ⟨okp2, okp, okq2, okq, okg, okh⟩ := id ok
  have loop : ∀ (kk v : Nat) (ls : Array Slot), kk ≤ t0 → v = mz_pv (fun k => nn (S 2 k)) i0 kk (t0 - kk) % q0 → lv_has ls 5 [(0, .ref (Z 0)), (1, .int (nI i0)), (2, .ref (Z 3)), (3, .int (nI v)), (4, .int (nI kk - 1))] → W p l e (headSpec ws_C_valueAt { frames := 1, cells := 0, slots := 0, locals := 22 }).room s m [.ref (Z 0), .int (nI i0), .ref (Z 3)].toArray below meth c s.heap [] 0 0 (MQ below (QcRead (nI (mz_pv (fun k => nn (S 2 k)) i0 0 t0 % q0))) [.ref (Z 0), .int (nI i0), .ref (Z 3)].toArray s 0 0 (fun _ => False)) (F0 m 10 ls []) := by
    intro kk
    induction kk with
    | zero =>
      intro v ls _ hv0 hl
      refine lv_iload hx hb d_C_valueAt_10 (lv_at hl 4 rfl) ?_
      refine lv_if_lt (tgt := 42) hx hb d_C_valueAt_12 (by decide) (fun _ => ?_) (fun c_ => absurd (by decide) c_)
      refine lv_iload_n hx hb d_C_valueAt_42 rfl (lv_at hl 3 rfl) ?_
      exact ro_i hx hb hr hlk d_C_valueAt_43 (by rw [hv0, Nat.sub_zero])
    | succ k ih =>
      intro v ls hk hv0 hl
      have hvq : v < q0 := by rw [hv0]; exact Nat.mod_lt _ (by omega)
      have hck := hC k (by omega)
      have hckl := hck.lt
      have hvi : v * i0 % q0 < q0 := Nat.mod_lt _ (by omega)
      have hl : lv_has ls 5 [(0, .ref (Z 0)), (1, .int (nI i0)), (2, .ref (Z 3)), (3, .int (nI v)), (4, .int (nI k))] := by rw [nI_pred] at hl; exact hl
      refine lv_iload hx hb d_C_valueAt_10 (lv_at hl 4 rfl) ?_
      refine lv_if_lt (tgt := 42) hx hb d_C_valueAt_12 (by decide) (fun c_ => absurd c_ (nI_pos (by omega))) (fun _ => ?_)
      refine lv_aload_n hx hb d_C_valueAt_15 rfl (lv_at hl 0 rfl) ?_
      refine va_get (D := (dC, dI)) (ci := 2) (v := .ref (Z 1)) (C := "DealtSecret") (T := T_C) (N := 11) hx hb hts i_C hown hK hP 0 rfl rfl 0 (by decide) (hts _ k_101) (fun _ h9 => h9) rfl d_C_valueAt_16 ?_
      refine lv_aload_n hx hb d_C_valueAt_19 rfl (lv_at hl 0 rfl) ?_
      refine va_get (D := (dC, dI)) (ci := 2) (v := .ref (Z 1)) (C := "DealtSecret") (T := T_C) (N := 11) hx hb hts i_C hown hK hP 0 rfl rfl 0 (by decide) (hts _ k_101) (fun _ h9 => h9) rfl d_C_valueAt_20 ?_
      refine lv_iload_n hx hb d_C_valueAt_23 rfl (lv_at hl 3 rfl) ?_
      refine lv_iload_n hx hb d_C_valueAt_24 rfl (lv_at hl 1 rfl) ?_
      refine ro_V (As := [.int (nI v), .int (nI i0)]) (rest := [.ref (Z 1)]) (b := (Z 1)) ⟨hx, hb, hml, hown, hts⟩ (c_G_times l dC dI (Z 1) p0 q0 g0 h0 v i0 (by omega) hi0 (by omega) okq) (cwV 2 hts (al_V k_313 k_314 k_315 k_2 k_316) rfl rfl rfl (by decide +kernel) ⟨Nat.le_of_ble_eq_true rfl, Nat.le_of_ble_eq_true rfl⟩) (fun U g mk a h => ⟨h.1, va_K.moved (u := U) (U := U.calling g mk a) (Vm.Alike.refl U.vm) h.2⟩) (va_recv hK hP (ci := 0) (q0 := 1) rfl rfl) (fun U hU hW => ⟨by rw [hU]; exact (hP.sub [1] rfl), va_K.moved hW.alike (hK.sub [] rfl)⟩) rfl hl.1 rfl (lv_room (Nat.le_of_ble_eq_true rfl)) d_C_valueAt_25 ⟨Nat.zero_le _, Nat.zero_le _⟩ ?_
      refine lv_aload_n hx hb d_C_valueAt_28 rfl (lv_at hl 2 rfl) ?_
      refine lv_iload hx hb d_C_valueAt_29 (lv_at hl 4 rfl) ?_
      refine va_iald hx hb hK hP 3 0 rfl rfl (vp_in_nI (by omega) (by decide)) d_C_valueAt_31 ?_
      refine x_i (y := S 2 k) (by rw [nI_clamp (by omega)]) ?_
      refine x_i (y := nI (nn (S 2 k))) (hck.eq) ?_
      refine ro_V (As := [.int (nI (v * i0 % q0)), .int (nI (nn (S 2 k)))]) (rest := []) (b := (Z 1)) ⟨hx, hb, hml, hown, hts⟩ (c_G_plus l dC dI (Z 1) p0 q0 g0 h0 (v * i0 % q0) (nn (S 2 k)) (by omega) (by omega) (by omega) okq) (cwV 2 hts (al_V k_317 k_318 k_319 k_2 k_320) rfl rfl rfl (by decide +kernel) ⟨Nat.le_of_ble_eq_true rfl, Nat.le_of_ble_eq_true rfl⟩) (fun U g mk a h => ⟨h.1, va_K.moved (u := U) (U := U.calling g mk a) (Vm.Alike.refl U.vm) h.2⟩) (va_recv hK hP (ci := 0) (q0 := 1) rfl rfl) (fun U hU hW => ⟨by rw [hU]; exact (hP.sub [1] rfl), va_K.moved hW.alike (hK.sub [] rfl)⟩) rfl hl.1 rfl (lv_room (Nat.le_of_ble_eq_true rfl)) d_C_valueAt_32 ⟨Nat.zero_le _, Nat.zero_le _⟩ ?_
      refine lv_istore_n (lv' := [(3, .int (nI ((v * i0 % q0 + nn (S 2 k)) % q0))), (0, .ref (Z 0)), (1, .int (nI i0)), (2, .ref (Z 3)), (4, .int (nI k))]) hx hb d_C_valueAt_35 rfl hl (by decide) rfl (fun ls hl => ?_)
      refine lv_iinc (v := (nI k - 1)) (lv' := [(4, .int (nI k - 1)), (3, .int (nI ((v * i0 % q0 + nn (S 2 k)) % q0))), (0, .ref (Z 0)), (1, .int (nI i0)), (2, .ref (Z 3))]) hx hb d_C_valueAt_36 hl (k := 4) rfl (nz_dec k) (by decide) rfl (fun ls hl => ?_)
      refine lv_goto (tgt := 10) hx hb d_C_valueAt_39 (by decide) ?_
      exact ih _ ls (by omega) (by rw [hv0, mz_horner, show t0 - k = t0 - (k + 1) + 1 by omega]; rfl) (lv_sub hl [2, 3, 4, 1, 0] rfl)
  refine lv_iconst (v := (nI 0)) hx hb d_C_valueAt_0 (by decide) ?_
  refine lv_istore_n (lv' := [(3, .int (nI 0)), (0, .ref (Z 0)), (1, .int (nI i0)), (2, .ref (Z 3))]) hx hb d_C_valueAt_1 rfl hl (by decide) rfl (fun ls hl => ?_)
  refine lv_aload_n hx hb d_C_valueAt_2 rfl (lv_at hl 1 rfl) ?_
  refine va_get (D := (dC, dI)) (ci := 2) (v := .int (S 0 2)) (C := "DealtSecret") (T := T_C) (N := 11) hx hb hts i_C hown hK hP 0 rfl rfl 7 (by decide) (hts _ k_108) (fun _ h9 => h9) rfl d_C_valueAt_3 ?_
  refine x_i (y := nI t0) (ht) ?_
  refine lv_iconst (v := 1) hx hb d_C_valueAt_6 (by decide) ?_
  refine lv_isub hx hb d_C_valueAt_7 ?_
  refine lv_istore (lv' := [(4, .int ((nI t0) - 1)), (3, .int (nI 0)), (0, .ref (Z 0)), (1, .int (nI i0)), (2, .ref (Z 3))]) hx hb d_C_valueAt_8 hl (by decide) rfl (fun ls hl => ?_)
  exact loop t0 0 ls (Nat.le_refl _) (by rw [Nat.sub_self]; exact (Nat.zero_mod _).symm) (lv_sub hl [2, 3, 4, 1, 0] rfl)
set_option maxRecDepth 100000 in
set_option maxHeartbeats 4000000 in
/-- isPairRight(one, u, v): does the pair fit -/
theorem c_C_isPairRight (l : Launch) (dC : Nat → ClassId) (dI : Nat → Nat → Nat) (Z : Nat → Nat) (cI cP : ClassId) (p0 q0 g0 h0 : Nat) (S : Nat → Nat → Int32) (j u0 v0 t0 : Nat) (hj : j < 7) (hN : S 4 j = nI (j + 1)) (hu0 : u0 < 2 ^ 31) (hv0 : v0 < 2 ^ 31) (ht : S 0 2 = nI t0) (ht7 : t0 ≤ 7) (ok : okG p0 q0 g0 h0) (hC : ∀ k, k < t0 → okN (S 3 k) p0) : Ro l y_C_isPairRight ws_C_isPairRight 3 72 [.ref (Z 0), .ref (Z (6 + j)), .int (nI u0), .int (nI v0)] (bC dC dI Z cI cP p0 q0 g0 h0 S) (mz_b ((g0 ^ u0 % p0) * (h0 ^ v0 % p0) % p0 = mz_cp (fun k => nn (S 3 k)) (j + 1) 0 t0 % p0)) := by
  refine Met.ofW (cc := b_C_isPairRight) (maxL := 4) (ret := (some .boolean)) (by decide) rfl ?_
  intro p e s m args below meth c s₁ B hml hv
  obtain ⟨rfl, hP, hK⟩ := hv
  have hx := B.exec
  have hb := B.bytes
  have hr := B.returns
  have hts : ∀ w ∈ AL, w.before ([.ref (Z 0), .ref (Z (6 + j)), .int (nI u0), .int (nI v0)] : List Value).toArray s = true := fun w h => atoms_spec (ws := ws_C_isPairRight) B.pre w (List.mem_cons_of_mem _ h)
  have hown : s.vm.findClass "DealtSecret" = some m.cls := findClass_of_methodNamed B.named
  have hlk := B.notSynchronized
  have hl := lv_entry ([.ref (Z 0), .ref (Z (6 + j)), .int (nI u0), .int (nI v0)]) (n := 4) (Nat.le_of_ble_eq_true rfl)
  rw [lg_entry_eq]
  generalize (lg_sl ([.ref (Z 0), .ref (Z (6 + j)), .int (nI u0), .int (nI v0)]) ++ List.replicate (4 - (lg_sl ([.ref (Z 0), .ref (Z (6 + j)), .int (nI u0), .int (nI v0)])).length) Slot.unset).toArray = ls at hl ⊢
  have hl : lv_has ls 4 [(0, .ref (Z 0)), (1, .ref (Z (6 + j))), (2, .int (nI u0)), (3, .int (nI v0))] := hl
  obtain ⟨okp2, okp, okq2, okq, okg, okh⟩ := id ok
  refine lv_aload_n hx hb d_C_isPairRight_0 rfl (lv_at hl 0 rfl) ?_
  refine va_get (D := (dC, dI)) (ci := 2) (v := .ref (Z 1)) (C := "DealtSecret") (T := T_C) (N := 11) hx hb hts i_C hown hK hP 0 rfl rfl 0 (by decide) (hts _ k_101) (fun _ h9 => h9) rfl d_C_isPairRight_1 ?_
  refine lv_iload_n hx hb d_C_isPairRight_4 rfl (lv_at hl 2 rfl) ?_
  refine lv_iload_n hx hb d_C_isPairRight_5 rfl (lv_at hl 3 rfl) ?_
  refine ro_V (As := [.int (nI u0), .int (nI v0)]) (rest := []) (b := (Z 1)) ⟨hx, hb, hml, hown, hts⟩ (c_G_commit l dC dI (Z 1) p0 q0 g0 h0 u0 v0 hu0 hv0 okg okh okp2 okp) (cwV 2 hts (al_V k_169 k_170 k_171 k_2 k_172) rfl rfl rfl (by decide +kernel) ⟨Nat.le_of_ble_eq_true rfl, Nat.le_of_ble_eq_true rfl⟩) (fun U g mk a h => ⟨h.1, va_K.moved (u := U) (U := U.calling g mk a) (Vm.Alike.refl U.vm) h.2⟩) (va_recv hK hP (ci := 0) (q0 := 1) rfl rfl) (fun U hU hW => ⟨by rw [hU]; exact (hP.sub [1] rfl), va_K.moved hW.alike (hK.sub [] rfl)⟩) rfl hl.1 rfl (lv_room (Nat.le_of_ble_eq_true rfl)) d_C_isPairRight_6 ⟨Nat.zero_le _, Nat.zero_le _⟩ ?_
  refine lv_aload_n hx hb d_C_isPairRight_9 rfl (lv_at hl 0 rfl) ?_
  refine lv_aload_n hx hb d_C_isPairRight_10 rfl (lv_at hl 1 rfl) ?_
  refine va_get (D := (dC, dI)) (ci := 1) (v := .int (S 4 j)) (C := "DealtSecret$Participant") (T := T_P) (N := 9) hx hb hts i_P hown hK hP (6 + j) (w_part (hj)) rfl 0 (by decide) (hts _ k_65) (fun _ h9 => h9) rfl d_C_isPairRight_11 ?_
  refine x_i (y := nI (j + 1)) (hN) ?_
  refine ro_V (As := [.int (nI (j + 1))]) (rest := [.int (nI ((g0 ^ u0 % p0) * (h0 ^ v0 % p0) % p0))]) (b := (Z 0)) ⟨hx, hb, hml, hown, hts⟩ (c_C_publishedAt l dC dI Z cI cP p0 q0 g0 h0 S (j + 1) t0 (by omega) ht ht7 ok hC) (cwV 1 hts (al_V k_181 k_182 k_635 k_1 k_183) rfl rfl rfl (by decide +kernel) ⟨Nat.le_of_ble_eq_true rfl, Nat.le_of_ble_eq_true rfl⟩) (fun U g mk a h => ⟨h.1, va_K.moved (u := U) (U := U.calling g mk a) (Vm.Alike.refl U.vm) h.2⟩) (va_recv hK hP (ci := 2) (q0 := 0) rfl rfl) (fun U hU hW => ⟨by rw [hU]; exact hP, va_K.moved hW.alike hK⟩) rfl hl.1 rfl (lv_room (Nat.le_of_ble_eq_true rfl)) d_C_isPairRight_14 ⟨Nat.zero_le _, Nat.zero_le _⟩ ?_
  refine lv_icmp_ne (tgt := 24) hx hb d_C_isPairRight_17 (by decide) (fun c17 => ?_) (fun c17 => ?_)
  · have hne : ¬ (g0 ^ u0 % p0) * (h0 ^ v0 % p0) % p0 = mz_cp (fun k => nn (S 3 k)) (j + 1) 0 t0 % p0 := fun q => c17 (by rw [q])
    refine lv_iconst (v := 0) hx hb d_C_isPairRight_24 (by decide) ?_
    exact ro_z hx hb hr hlk d_C_isPairRight_25 (by first | rfl | exact mz_bn _) ((mz_bf hne).symm)
  · have heq : (g0 ^ u0 % p0) * (h0 ^ v0 % p0) % p0 = mz_cp (fun k => nn (S 3 k)) (j + 1) 0 t0 % p0 := (nI_eq (Nat.lt_trans (Nat.mod_lt _ (by omega)) okp) (Nat.lt_trans (Nat.mod_lt _ (by omega)) okp)).mp c17
    refine lv_iconst (v := 1) hx hb d_C_isPairRight_20 (by decide) ?_
    refine lv_goto (tgt := 25) hx hb d_C_isPairRight_21 (by decide) ?_
    exact ro_z hx hb hr hlk d_C_isPairRight_25 (by first | rfl | exact mz_bn _) ((mz_bt heq).symm)
set_option maxRecDepth 100000 in
set_option maxHeartbeats 4000000 in
/-- isShareRight(one): does its share fit -/
theorem c_C_isShareRight (l : Launch) (dC : Nat → ClassId) (dI : Nat → Nat → Nat) (Z : Nat → Nat) (cI cP : ClassId) (p0 q0 g0 h0 : Nat) (S : Nat → Nat → Int32) (j t0 : Nat) (hj : j < 7) (hN : S 4 j = nI (j + 1)) (hu : okN (S 5 j) q0) (hv : okN (S 6 j) q0) (ht : S 0 2 = nI t0) (ht7 : t0 ≤ 7) (ok : okG p0 q0 g0 h0) (hC : ∀ k, k < t0 → okN (S 3 k) p0) : Ro l y_C_isShareRight ws_C_isShareRight 4 95 [.ref (Z 0), .ref (Z (6 + j))] (bC dC dI Z cI cP p0 q0 g0 h0 S) (mz_b ((g0 ^ (nn (S 5 j)) % p0) * (h0 ^ (nn (S 6 j)) % p0) % p0 = mz_cp (fun k => nn (S 3 k)) (j + 1) 0 t0 % p0)) := by
  refine Met.ofW (cc := b_C_isShareRight) (maxL := 2) (ret := (some .boolean)) (by decide) rfl ?_
  intro p e s m args below meth c s₁ B hml hv
  obtain ⟨rfl, hP, hK⟩ := hv
  have hx := B.exec
  have hb := B.bytes
  have hr := B.returns
  have hts : ∀ w ∈ AL, w.before ([.ref (Z 0), .ref (Z (6 + j))] : List Value).toArray s = true := fun w h => atoms_spec (ws := ws_C_isShareRight) B.pre w (List.mem_cons_of_mem _ h)
  have hown : s.vm.findClass "DealtSecret" = some m.cls := findClass_of_methodNamed B.named
  have hlk := B.notSynchronized
  have hl := lv_entry ([.ref (Z 0), .ref (Z (6 + j))]) (n := 2) (Nat.le_of_ble_eq_true rfl)
  rw [lg_entry_eq]
  generalize (lg_sl ([.ref (Z 0), .ref (Z (6 + j))]) ++ List.replicate (2 - (lg_sl ([.ref (Z 0), .ref (Z (6 + j))])).length) Slot.unset).toArray = ls at hl ⊢
  have hl : lv_has ls 2 [(0, .ref (Z 0)), (1, .ref (Z (6 + j)))] := hl
  obtain ⟨okp2, okp, okq2, okq, okg, okh⟩ := id ok
  have hul := hu.lt
  have hvl := hv.lt
  refine lv_aload_n hx hb d_C_isShareRight_0 rfl (lv_at hl 0 rfl) ?_
  refine lv_aload_n hx hb d_C_isShareRight_1 rfl (lv_at hl 1 rfl) ?_
  refine lv_aload_n hx hb d_C_isShareRight_2 rfl (lv_at hl 1 rfl) ?_
  refine va_get (D := (dC, dI)) (ci := 1) (v := .int (S 5 j)) (C := "DealtSecret$Participant") (T := T_P) (N := 9) hx hb hts i_P hown hK hP (6 + j) (w_part (hj)) rfl 1 (by decide) (hts _ k_67) (fun _ h9 => h9) rfl d_C_isShareRight_3 ?_
  refine x_i (y := nI (nn (S 5 j))) (hu.eq) ?_
  refine lv_aload_n hx hb d_C_isShareRight_6 rfl (lv_at hl 1 rfl) ?_
  refine va_get (D := (dC, dI)) (ci := 1) (v := .int (S 6 j)) (C := "DealtSecret$Participant") (T := T_P) (N := 9) hx hb hts i_P hown hK hP (6 + j) (w_part (hj)) rfl 2 (by decide) (hts _ k_69) (fun _ h9 => h9) rfl d_C_isShareRight_7 ?_
  refine x_i (y := nI (nn (S 6 j))) (hv.eq) ?_
  refine ro_V (As := [.ref (Z (6 + j)), .int (nI (nn (S 5 j))), .int (nI (nn (S 6 j)))]) (rest := []) (b := (Z 0)) ⟨hx, hb, hml, hown, hts⟩ (c_C_isPairRight l dC dI Z cI cP p0 q0 g0 h0 S j (nn (S 5 j)) (nn (S 6 j)) t0 hj hN (by omega) (by omega) ht ht7 ok hC) (cwV 3 hts (al_V k_166 k_167 k_634 k_1 k_168) rfl rfl rfl (by decide +kernel) ⟨Nat.le_of_ble_eq_true rfl, Nat.le_of_ble_eq_true rfl⟩) (fun U g mk a h => ⟨h.1, va_K.moved (u := U) (U := U.calling g mk a) (Vm.Alike.refl U.vm) h.2⟩) (va_recv hK hP (ci := 2) (q0 := 0) rfl rfl) (fun U hU hW => ⟨by rw [hU]; exact hP, va_K.moved hW.alike hK⟩) rfl hl.1 rfl (lv_room (Nat.le_of_ble_eq_true rfl)) d_C_isShareRight_10 ⟨Nat.zero_le _, Nat.zero_le _⟩ ?_
  exact ro_z hx hb hr hlk d_C_isShareRight_13 (by first | rfl | exact mz_bn _) (rfl)
set_option maxRecDepth 100000 in
set_option maxHeartbeats 4000000 in
/-- complaints() -/
theorem c_C_complaints (l : Launch) (dC : Nat → ClassId) (dI : Nat → Nat → Nat) (Z : Nat → Nat) (cI cP : ClassId) (p0 q0 g0 h0 : Nat) (S : Nat → Nat → Int32) (n0 : Nat) (hn : S 0 1 = nI n0) (hn7 : n0 ≤ 7) : Ro l y_C_complaints ws_C_complaints 0 0 [.ref (Z 0)] (bC dC dI Z cI cP p0 q0 g0 h0 S) (nI (mz_ct (S 8) n0)) := by
  refine Met.ofW (cc := b_C_complaints) (maxL := 3) (ret := (some .int)) (by decide) rfl ?_
  intro p e s m args below meth c s₁ B hml hv
  obtain ⟨rfl, hP, hK⟩ := hv
  have hx := B.exec
  have hb := B.bytes
  have hr := B.returns
  have hts : ∀ w ∈ AL, w.before ([.ref (Z 0)] : List Value).toArray s = true := fun w h => atoms_spec (ws := ws_C_complaints) B.pre w (List.mem_cons_of_mem _ h)
  have hown : s.vm.findClass "DealtSecret" = some m.cls := findClass_of_methodNamed B.named
  have hlk := B.notSynchronized
  have hl := lv_entry ([.ref (Z 0)]) (n := 3) (Nat.le_of_ble_eq_true rfl)
  rw [lg_entry_eq]
  generalize (lg_sl ([.ref (Z 0)]) ++ List.replicate (3 - (lg_sl ([.ref (Z 0)])).length) Slot.unset).toArray = ls at hl ⊢
  have hl : lv_has ls 3 [(0, .ref (Z 0))] := hl
  have loop : ∀ (n j : Nat) (ls : Array Slot), n0 + 1 ≤ j + n → j ≤ n0 → lv_has ls 3 [(0, .ref (Z 0)), (1, .int (nI (mz_ct (S 8) j))), (2, .int (nI j))] → W p l e (headSpec ws_C_complaints { frames := 0, cells := 0, slots := 0, locals := 0 }).room s m [.ref (Z 0)].toArray below meth c s.heap [] 0 0 (MQ below (QcRead (nI (mz_ct (S 8) n0))) [.ref (Z 0)].toArray s 0 0 (fun _ => False)) (F0 m 4 ls []) := by
    intro n
    induction n with
    | zero =>
      intro j ls h1 h2
      omega
    | succ n ih =>
      intro j ls h1 h2 hl
      refine lv_iload_n hx hb d_C_complaints_4 rfl (lv_at hl 2 rfl) ?_
      refine lv_aload_n hx hb d_C_complaints_5 rfl (lv_at hl 0 rfl) ?_
      refine va_get (D := (dC, dI)) (ci := 2) (v := .int (S 0 1)) (C := "DealtSecret") (T := T_C) (N := 11) hx hb hts i_C hown hK hP 0 rfl rfl 6 (by decide) (hts _ k_107) (fun _ h9 => h9) rfl d_C_complaints_6 ?_
      refine x_i (y := nI n0) (hn) ?_
      refine lv_icmp_ge (tgt := 33) hx hb d_C_complaints_9 (by decide) (fun c9 => ?_) (fun c9 => ?_)
      · have hk : j = n0 := by
          rcases Nat.lt_or_ge j n0 with q | q
          · exact absurd c9 (nI_ge q (by omega))
          · omega
        subst hk
        refine lv_iload_n hx hb d_C_complaints_33 rfl (lv_at hl 1 rfl) ?_
        exact ro_i hx hb hr hlk d_C_complaints_34 (rfl)
      · have hk : j < n0 := by
          rcases Nat.lt_or_ge j n0 with q | q
          · exact q
          · exact absurd (nI_le q (by omega)) c9
        refine lv_aload_n hx hb d_C_complaints_12 rfl (lv_at hl 0 rfl) ?_
        refine va_get (D := (dC, dI)) (ci := 2) (v := .ref (Z 5)) (C := "DealtSecret") (T := T_C) (N := 11) hx hb hts i_C hown hK hP 0 rfl rfl 4 (by decide) (hts _ k_105) (fun _ h9 => h9) rfl d_C_complaints_13 ?_
        refine lv_iload_n hx hb d_C_complaints_16 rfl (lv_at hl 2 rfl) ?_
        refine va_aldq hx hb hK hP 5 1 rfl rfl (vp_in_nI (by omega) (by decide)) d_C_complaints_17 ?_
        refine x_v (y := .ref (Z (6 + j))) (by rw [nI_clamp (by omega)]; rfl) ?_
        refine va_get (D := (dC, dI)) (ci := 1) (v := .int (S 8 j)) (C := "DealtSecret$Participant") (T := T_P) (N := 9) hx hb hts i_P hown hK hP (6 + j) (w_part (by omega)) rfl 4 (by decide) (hts _ k_73) (fun _ h9 => h9) rfl d_C_complaints_18 ?_
        refine lv_if_eq (tgt := 27) hx hb d_C_complaints_21 (by decide) (fun c21 => ?_) (fun c21 => ?_)
        · refine lv_iinc (v := (nI (j + 1))) (lv' := [(2, .int (nI (j + 1))), (0, .ref (Z 0)), (1, .int (nI (mz_ct (S 8) j)))]) hx hb d_C_complaints_27 hl (k := 2) rfl (nI_1 j) (by decide) rfl (fun ls hl => ?_)
          refine lv_goto (tgt := 4) hx hb d_C_complaints_30 (by decide) ?_
          exact ih (j + 1) ls (by omega) (by omega) (by rw [mz_ct_0 c21]; exact lv_sub hl [1, 2, 0] rfl)
        · refine lv_iinc (v := (nI (mz_ct (S 8) (j + 1)))) (lv' := [(1, .int (nI (mz_ct (S 8) (j + 1)))), (0, .ref (Z 0)), (2, .int (nI j))]) hx hb d_C_complaints_24 hl (k := 1) rfl ((nI_1 _).trans (by rw [mz_ct_1 c21])) (by decide) rfl (fun ls hl => ?_)
          refine lv_iinc (v := (nI (j + 1))) (lv' := [(2, .int (nI (j + 1))), (1, .int (nI (mz_ct (S 8) (j + 1)))), (0, .ref (Z 0))]) hx hb d_C_complaints_27 hl (k := 2) rfl (nI_1 j) (by decide) rfl (fun ls hl => ?_)
          refine lv_goto (tgt := 4) hx hb d_C_complaints_30 (by decide) ?_
          exact ih (j + 1) ls (by omega) (by omega) (lv_sub hl [2, 1, 0] rfl)
  refine lv_iconst (v := (nI (mz_ct (S 8) 0))) hx hb d_C_complaints_0 (by rfl) ?_
  refine lv_istore_n (lv' := [(1, .int (nI (mz_ct (S 8) 0))), (0, .ref (Z 0))]) hx hb d_C_complaints_1 rfl hl (by decide) rfl (fun ls hl => ?_)
  refine lv_iconst (v := (nI 0)) hx hb d_C_complaints_2 (by decide) ?_
  refine lv_istore_n (lv' := [(2, .int (nI 0)), (1, .int (nI (mz_ct (S 8) 0))), (0, .ref (Z 0))]) hx hb d_C_complaints_3 rfl hl (by decide) rfl (fun ls hl => ?_)
  exact loop (n0 + 1) 0 ls (by omega) (by omega) (lv_sub hl [2, 1, 0] rfl)
set_option maxRecDepth 100000 in
set_option maxHeartbeats 4000000 in
/-- opened() -/
theorem c_C_opened (l : Launch) (dC : Nat → ClassId) (dI : Nat → Nat → Nat) (Z : Nat → Nat) (cI cP : ClassId) (p0 q0 g0 h0 : Nat) (S : Nat → Nat → Int32) (n0 : Nat) (hn : S 0 1 = nI n0) (hn7 : n0 ≤ 7) : Ro l y_C_opened ws_C_opened 0 0 [.ref (Z 0)] (bC dC dI Z cI cP p0 q0 g0 h0 S) (nI (mz_ct (S 10) n0)) := by
  refine Met.ofW (cc := b_C_opened) (maxL := 3) (ret := (some .int)) (by decide) rfl ?_
  intro p e s m args below meth c s₁ B hml hv
  obtain ⟨rfl, hP, hK⟩ := hv
  have hx := B.exec
  have hb := B.bytes
  have hr := B.returns
  have hts : ∀ w ∈ AL, w.before ([.ref (Z 0)] : List Value).toArray s = true := fun w h => atoms_spec (ws := ws_C_opened) B.pre w (List.mem_cons_of_mem _ h)
  have hown : s.vm.findClass "DealtSecret" = some m.cls := findClass_of_methodNamed B.named
  have hlk := B.notSynchronized
  have hl := lv_entry ([.ref (Z 0)]) (n := 3) (Nat.le_of_ble_eq_true rfl)
  rw [lg_entry_eq]
  generalize (lg_sl ([.ref (Z 0)]) ++ List.replicate (3 - (lg_sl ([.ref (Z 0)])).length) Slot.unset).toArray = ls at hl ⊢
  have hl : lv_has ls 3 [(0, .ref (Z 0))] := hl
  have loop : ∀ (n j : Nat) (ls : Array Slot), n0 + 1 ≤ j + n → j ≤ n0 → lv_has ls 3 [(0, .ref (Z 0)), (1, .int (nI (mz_ct (S 10) j))), (2, .int (nI j))] → W p l e (headSpec ws_C_opened { frames := 0, cells := 0, slots := 0, locals := 0 }).room s m [.ref (Z 0)].toArray below meth c s.heap [] 0 0 (MQ below (QcRead (nI (mz_ct (S 10) n0))) [.ref (Z 0)].toArray s 0 0 (fun _ => False)) (F0 m 4 ls []) := by
    intro n
    induction n with
    | zero =>
      intro j ls h1 h2
      omega
    | succ n ih =>
      intro j ls h1 h2 hl
      refine lv_iload_n hx hb d_C_opened_4 rfl (lv_at hl 2 rfl) ?_
      refine lv_aload_n hx hb d_C_opened_5 rfl (lv_at hl 0 rfl) ?_
      refine va_get (D := (dC, dI)) (ci := 2) (v := .int (S 0 1)) (C := "DealtSecret") (T := T_C) (N := 11) hx hb hts i_C hown hK hP 0 rfl rfl 6 (by decide) (hts _ k_107) (fun _ h9 => h9) rfl d_C_opened_6 ?_
      refine x_i (y := nI n0) (hn) ?_
      refine lv_icmp_ge (tgt := 33) hx hb d_C_opened_9 (by decide) (fun c9 => ?_) (fun c9 => ?_)
      · have hk : j = n0 := by
          rcases Nat.lt_or_ge j n0 with q | q
          · exact absurd c9 (nI_ge q (by omega))
          · omega
        subst hk
        refine lv_iload_n hx hb d_C_opened_33 rfl (lv_at hl 1 rfl) ?_
        exact ro_i hx hb hr hlk d_C_opened_34 (rfl)
      · have hk : j < n0 := by
          rcases Nat.lt_or_ge j n0 with q | q
          · exact q
          · exact absurd (nI_le q (by omega)) c9
        refine lv_aload_n hx hb d_C_opened_12 rfl (lv_at hl 0 rfl) ?_
        refine va_get (D := (dC, dI)) (ci := 2) (v := .ref (Z 5)) (C := "DealtSecret") (T := T_C) (N := 11) hx hb hts i_C hown hK hP 0 rfl rfl 4 (by decide) (hts _ k_105) (fun _ h9 => h9) rfl d_C_opened_13 ?_
        refine lv_iload_n hx hb d_C_opened_16 rfl (lv_at hl 2 rfl) ?_
        refine va_aldq hx hb hK hP 5 1 rfl rfl (vp_in_nI (by omega) (by decide)) d_C_opened_17 ?_
        refine x_v (y := .ref (Z (6 + j))) (by rw [nI_clamp (by omega)]; rfl) ?_
        refine va_get (D := (dC, dI)) (ci := 1) (v := .int (S 10 j)) (C := "DealtSecret$Participant") (T := T_P) (N := 9) hx hb hts i_P hown hK hP (6 + j) (w_part (by omega)) rfl 6 (by decide) (hts _ k_77) (fun _ h9 => h9) rfl d_C_opened_18 ?_
        refine lv_if_eq (tgt := 27) hx hb d_C_opened_21 (by decide) (fun c21 => ?_) (fun c21 => ?_)
        · refine lv_iinc (v := (nI (j + 1))) (lv' := [(2, .int (nI (j + 1))), (0, .ref (Z 0)), (1, .int (nI (mz_ct (S 10) j)))]) hx hb d_C_opened_27 hl (k := 2) rfl (nI_1 j) (by decide) rfl (fun ls hl => ?_)
          refine lv_goto (tgt := 4) hx hb d_C_opened_30 (by decide) ?_
          exact ih (j + 1) ls (by omega) (by omega) (by rw [mz_ct_0 c21]; exact lv_sub hl [1, 2, 0] rfl)
        · refine lv_iinc (v := (nI (mz_ct (S 10) (j + 1)))) (lv' := [(1, .int (nI (mz_ct (S 10) (j + 1)))), (0, .ref (Z 0)), (2, .int (nI j))]) hx hb d_C_opened_24 hl (k := 1) rfl ((nI_1 _).trans (by rw [mz_ct_1 c21])) (by decide) rfl (fun ls hl => ?_)
          refine lv_iinc (v := (nI (j + 1))) (lv' := [(2, .int (nI (j + 1))), (1, .int (nI (mz_ct (S 10) (j + 1)))), (0, .ref (Z 0))]) hx hb d_C_opened_27 hl (k := 2) rfl (nI_1 j) (by decide) rfl (fun ls hl => ?_)
          refine lv_goto (tgt := 4) hx hb d_C_opened_30 (by decide) ?_
          exact ih (j + 1) ls (by omega) (by omega) (lv_sub hl [2, 1, 0] rfl)
  refine lv_iconst (v := (nI (mz_ct (S 10) 0))) hx hb d_C_opened_0 (by rfl) ?_
  refine lv_istore_n (lv' := [(1, .int (nI (mz_ct (S 10) 0))), (0, .ref (Z 0))]) hx hb d_C_opened_1 rfl hl (by decide) rfl (fun ls hl => ?_)
  refine lv_iconst (v := (nI 0)) hx hb d_C_opened_2 (by decide) ?_
  refine lv_istore_n (lv' := [(2, .int (nI 0)), (1, .int (nI (mz_ct (S 10) 0))), (0, .ref (Z 0))]) hx hb d_C_opened_3 rfl hl (by decide) rfl (fun ls hl => ?_)
  exact loop (n0 + 1) 0 ls (by omega) (by omega) (lv_sub hl [2, 1, 0] rfl)
