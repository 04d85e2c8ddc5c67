section LW
variable {p : Program} {l : Launch} {e : Env} {s : State} {m : MethodId} {below : List Frame} {meth : Method} {c : Code} {H : Heap} {locs : List Loc} {Q : State → Prop} {ls : Array Slot} {b n0 it : Nat} {xs : Nat → Int32}
variable {dC : Nat → ClassId} {dI : Nat → Nat → Nat} {Z Y : Nat → Nat} {cI cP cL cJ cZ : ClassId} {p0 q0 g0 h0 ou : Nat} {S M : Nat → Nat → Int32} {f : Nat → Int64}
set_option maxRecDepth 100000 in
set_option maxHeartbeats 4000000 in
theorem lw_advance (hx : p.tables.exec = Jvm.exec) (hb : c.code = code) (hml : c.maxLocals = 7) (hown : s.vm.findClass "DealtSecretLaw" = some m.cls) (hts : ∀ w ∈ AL, w.before #[Value.ref b] s = true) (hX : va_X b n0 xs s s.heap) (hbl : b < s.heap.size) (hn0 : n0 ≤ 2052) (hK : va_K (dC, dI) cls (tysW cI cP cL cJ cZ) s) (hxx : xx s) (hnc : xnc s) (hlt : l.stackTraces = false) (ok : okG p0 q0 g0 h0) (hq : mz_P q0) (hit : 4 + 4 * it + 4 ≤ n0) (R : Rel p0 q0 g0 h0 S M) (hP : va_P (dC, dI) cls (wW Z Y cI cP cL cJ cZ p0 q0 g0 h0 ou S M f) H) (hD : va_D (A0 s) (wW Z Y cI cP cL cJ cZ p0 q0 g0 h0 ou S M f)) (hS : va_S (A0 s) s.heap H locs) (hl : lv_has ls 7 [(0, .ref b), (1, .ref (Z 0)), (2, .ref (Y 0)), (3, .ref ou), (4, .int (nI (4 + 4 * it)))]) (K : ∀ (S M : Nat → Nat → Int32) (f : Nat → Int64) (H : Heap) (locs : List Loc) (ls : Array Slot), Rel p0 q0 g0 h0 S M → va_P (dC, dI) cls (wW Z Y cI cP cL cJ cZ p0 q0 g0 h0 ou S M f) H → va_D (A0 s) (wW Z Y cI cP cL cJ cZ p0 q0 g0 h0 ou S M f) → va_S (A0 s) s.heap H locs → lv_has ls 7 [(0, .ref b), (1, .ref (Z 0)), (2, .ref (Y 0)), (3, .ref ou), (4, .int (nI (4 + 4 * it)))] → W p l e room_1 s m #[Value.ref b] below meth c H locs (29 + it) (236 + 6 * it) Q (F0 m 1058 ls [])) : W p l e room_1 s m #[Value.ref b] below meth c H locs (28 + it) (230 + 6 * it) Q (F0 m 329 ls []) := by
  obtain ⟨k, S1, M1, f1, r, hWp, hMr, hk, hout, R1⟩ := s_advance (l := l) (dC := dC) (dI := dI) (Z := Z) (Y := Y) (cI := cI) (cP := cP) (cJ := cJ) (cZ := cZ) (cL := cL) (ou := ou) (f := f) hlt ok R 
  refine lv_aload_n hx hb d_law_329 rfl (lv_at hl 1 rfl) ?_
  refine lv_aload_n hx hb d_law_330 rfl (lv_at hl 3 rfl) ?_
  refine wp_S (As := [.ref (Z 0), .ref ou]) (rest := []) (A := A0 s) ⟨hx, hb, hml, hown, hts⟩ hWp (vx_cwSW 2 hts (al_W k_298 k_299 k_0 kw_advance) rfl rfl rfl (by decide +kernel) ⟨Nat.le_of_ble_eq_true rfl, Nat.le_of_ble_eq_true rfl⟩) (w_l hP) (hK.sub [0, 1, 2] rfl) (w_dl hD) hS (fun U hU hW => ⟨xx_to hW (fun a ha => by rw [hU]; exact hS.2.1 a ha (Nat.not_le.mpr ha)) hxx, xnc_to hW.alike hnc⟩) rfl hl.1 rfl (lv_room (Nat.le_of_ble_eq_true rfl)) d_law_331 ⟨by show 28 + it + 1 ≤ 671672; omega, by show 230 + 6 * it + 6 ≤ 7081053; omega⟩ (fun H locs hP1 hkp _ hS => ?_)
  have hP := hP1.app (w_keep (w_r hP) hD hkp)
  have hD : va_D (A0 s) (wW Z Y cI cP cL cJ cZ p0 q0 g0 h0 ou S1 M f1) := w_addr hD (w_adW S S1 M M f f1)
  refine lv_istore (lv' := [(5, .int k), (0, .ref b), (1, .ref (Z 0)), (2, .ref (Y 0)), (3, .ref ou), (4, .int (nI (4 + 4 * it)))]) hx hb d_law_334 hl (by decide) rfl (fun ls hl => ?_)
  refine lv_aload_n hx hb d_law_336 rfl (lv_at hl 3 rfl) ?_
  refine wr_V (As := []) (rest := []) (b := Y 0) (A := A0 s) ⟨hx, hb, hml, hown, hts⟩ hMr (cwV 0 hts (al_V k_538 k_539 k_540 k_4 k_541) rfl rfl rfl (by decide +kernel) ⟨Nat.le_of_ble_eq_true rfl, Nat.le_of_ble_eq_true rfl⟩) (va_recv hK (w_r hP) (ci := 3) (q0 := 0) rfl rfl) (w_r hP) (hK.sub [3, 4] rfl) (w_dr hD) hS rfl hl.1 rfl (lv_room (Nat.le_of_ble_eq_true rfl)) d_law_337 ⟨by show 28 + it + 1 ≤ 671672; omega, by show 230 + 6 * it + 6 ≤ 7081053; omega⟩ (fun H locs hP1 hkp _ hS => ?_)
  have hP := (w_keepR (w_l hP) hD hkp).app hP1
  have hD : va_D (A0 s) (wW Z Y cI cP cL cJ cZ p0 q0 g0 h0 ou S1 M1 f1) := w_addr hD (w_adW S1 S1 M M1 f1 f1)
  refine lv_istore (lv' := [(6, .int r), (5, .int k), (0, .ref b), (1, .ref (Z 0)), (2, .ref (Y 0)), (3, .ref ou), (4, .int (nI (4 + 4 * it)))]) hx hb d_law_340 hl (by decide) rfl (fun ls hl => ?_)
  refine lv_aload_n hx hb d_law_342 rfl (lv_at hl 4 rfl) ?_
  refine ro_V (As := []) (rest := []) (b := Y 0) ⟨hx, hb, hml, hown, hts⟩ (c_M_thrown l dC dI Y cJ cZ p0 q0 g0 h0 M1) (cwV 0 hts (al_V k_516 k_517 k_518 k_4 k_519) rfl rfl rfl (by decide +kernel) ⟨Nat.le_of_ble_eq_true rfl, Nat.le_of_ble_eq_true rfl⟩) (fun U g mk a h => ⟨h.1, va_K.moved (u := U) (U := U.calling g mk a) (Vm.Alike.refl U.vm) h.2⟩) (va_recv hK (w_r hP) (ci := 3) (q0 := 0) rfl rfl) (fun U hU hW => ⟨by rw [hU]; exact w_r hP, va_K.moved hW.alike (hK.sub [3, 4] rfl)⟩) rfl hl.1 rfl (lv_room (Nat.le_of_ble_eq_true rfl)) d_law_343 ⟨by show 28 + it + 1 ≤ 671672; omega, by show 230 + 6 * it + 6 ≤ 7081053; omega⟩ ?_
  refine x_i (y := k) hk ?_
  refine lv_iload hx hb d_law_346 (lv_at hl 1 rfl) ?_
  refine lv_icmp_eq (tgt := 353) hx hb d_law_348 (by decide) (fun _ => ?_) (fun c_ => absurd (rfl) c_)
  refine lv_iload hx hb d_law_353 (lv_at hl 1 rfl) ?_
  refine lv_if_ne (tgt := 370) hx hb d_law_355 (by decide) (fun c355 => ?_) (fun c355 => ?_)
  · refine lv_goto (tgt := 1058) hx hb d_law_370 (by decide) ?_
    refine W.cs (cells' := 29 + it) (slots' := 236 + 6 * it) (by omega) (by omega) ?_
    exact K S1 M1 f1 H locs ls R1 hP hD hS (lv_sub hl [2, 3, 4, 5, 6] rfl)
  · refine lv_aload_n hx hb d_law_358 rfl (lv_at hl 5 rfl) ?_
    refine lv_iconst (v := 0) hx hb d_law_359 (by decide) ?_
    refine va_lald (n := 1) (f := f1) hx hb hK hP 13 2 rfl rfl (vp_in_nI (n := 0) (N := 1) (by decide) (by decide)) d_law_360 ?_
    refine x_l (y := r.toInt64) (hout c355) ?_
    refine lv_iload hx hb d_law_361 (lv_at hl 0 rfl) ?_
    refine lv_i2l (v := r.toInt64) hx hb d_law_363 (rfl) ?_
    refine W.lcmp hx hb d_law_364 ?_
    refine lv_if_eq (tgt := 370) hx hb d_law_365 (by decide) (fun _ => ?_) (fun c_ => absurd (lg_cmp_self _) c_)
    refine lv_goto (tgt := 1058) hx hb d_law_370 (by decide) ?_
    refine W.cs (cells' := 29 + it) (slots' := 236 + 6 * it) (by omega) (by omega) ?_
    exact K S1 M1 f1 H locs ls R1 hP hD hS (lv_sub hl [2, 3, 4, 5, 6] rfl)
set_option maxRecDepth 100000 in
set_option maxHeartbeats 4000000 in
theorem lw_corrupt (hx : p.tables.exec = Jvm.exec) (hb : c.code = code) (hml : c.maxLocals = 7) (hown : s.vm.findClass "DealtSecretLaw" = some m.cls) (hts : ∀ w ∈ AL, w.before #[Value.ref b] s = true) (hX : va_X b n0 xs s s.heap) (hbl : b < s.heap.size) (hn0 : n0 ≤ 2052) (hK : va_K (dC, dI) cls (tysW cI cP cL cJ cZ) s) (hxx : xx s) (hnc : xnc s) (hlt : l.stackTraces = false) (ok : okG p0 q0 g0 h0) (hq : mz_P q0) (hit : 4 + 4 * it + 4 ≤ n0) (R : Rel p0 q0 g0 h0 S M) (hP : va_P (dC, dI) cls (wW Z Y cI cP cL cJ cZ p0 q0 g0 h0 ou S M f) H) (hD : va_D (A0 s) (wW Z Y cI cP cL cJ cZ p0 q0 g0 h0 ou S M f)) (hS : va_S (A0 s) s.heap H locs) (hl : lv_has ls 7 [(0, .ref b), (1, .ref (Z 0)), (2, .ref (Y 0)), (3, .ref ou), (4, .int (nI (4 + 4 * it)))]) (K : ∀ (S M : Nat → Nat → Int32) (f : Nat → Int64) (H : Heap) (locs : List Loc) (ls : Array Slot), Rel p0 q0 g0 h0 S M → va_P (dC, dI) cls (wW Z Y cI cP cL cJ cZ p0 q0 g0 h0 ou S M f) H → va_D (A0 s) (wW Z Y cI cP cL cJ cZ p0 q0 g0 h0 ou S M f) → va_S (A0 s) s.heap H locs → lv_has ls 7 [(0, .ref b), (1, .ref (Z 0)), (2, .ref (Y 0)), (3, .ref ou), (4, .int (nI (4 + 4 * it)))] → W p l e room_1 s m #[Value.ref b] below meth c H locs (29 + it) (236 + 6 * it) Q (F0 m 1058 ls [])) : W p l e room_1 s m #[Value.ref b] below meth c H locs (28 + it) (230 + 6 * it) Q (F0 m 481 ls []) := by
  obtain ⟨k, S1, M1, f1, r, hWp, hMr, hk, hout, R1⟩ := s_corrupt (l := l) (dC := dC) (dI := dI) (Z := Z) (Y := Y) (cI := cI) (cP := cP) (cJ := cJ) (cZ := cZ) (cL := cL) (ou := ou) (f := f) hlt ok R (xs (4 + 4 * it + 1))
  refine lv_aload_n hx hb d_law_481 rfl (lv_at hl 1 rfl) ?_
  refine lv_aload_n hx hb d_law_482 rfl (lv_at hl 0 rfl) ?_
  refine lv_iload hx hb d_law_483 (lv_at hl 4 rfl) ?_
  refine lv_iconst (v := (nI 1)) hx hb d_law_485 (by decide) ?_
  refine lv_iadd hx hb d_law_486 ?_
  refine x_i (y := nI (4 + 4 * it + 1)) (nI_pl _ _) ?_
  refine va_sld (A := A0 s) hx hb hX hbl (Nat.not_le.mpr hbl) hS (vp_in_nI (by omega) (by omega)) d_law_487 ?_
  refine x_i (y := xs (4 + 4 * it + 1)) (by rw [nI_clamp (by omega)]) ?_
  refine lv_aload_n hx hb d_law_488 rfl (lv_at hl 3 rfl) ?_
  refine wp_S (As := [.ref (Z 0), .int (xs (4 + 4 * it + 1)), .ref ou]) (rest := []) (A := A0 s) ⟨hx, hb, hml, hown, hts⟩ hWp (vx_cwSW 3 hts (al_W k_347 k_348 k_0 kw_corrupt) rfl rfl rfl (by decide +kernel) ⟨Nat.le_of_ble_eq_true rfl, Nat.le_of_ble_eq_true rfl⟩) (w_l hP) (hK.sub [0, 1, 2] rfl) (w_dl hD) hS (fun U hU hW => ⟨xx_to hW (fun a ha => by rw [hU]; exact hS.2.1 a ha (Nat.not_le.mpr ha)) hxx, xnc_to hW.alike hnc⟩) rfl hl.1 rfl (lv_room (Nat.le_of_ble_eq_true rfl)) d_law_489 ⟨by show 28 + it + 1 ≤ 671672; omega, by show 230 + 6 * it + 6 ≤ 7081053; omega⟩ (fun H locs hP1 hkp _ hS => ?_)
  have hP := hP1.app (w_keep (w_r hP) hD hkp)
  have hD : va_D (A0 s) (wW Z Y cI cP cL cJ cZ p0 q0 g0 h0 ou S1 M f1) := w_addr hD (w_adW S S1 M M f f1)
  refine lv_istore (lv' := [(5, .int k), (0, .ref b), (1, .ref (Z 0)), (2, .ref (Y 0)), (3, .ref ou), (4, .int (nI (4 + 4 * it)))]) hx hb d_law_492 hl (by decide) rfl (fun ls hl => ?_)
  refine lv_aload_n hx hb d_law_494 rfl (lv_at hl 3 rfl) ?_
  refine lv_aload_n hx hb d_law_495 rfl (lv_at hl 1 rfl) ?_
  refine lv_iload hx hb d_law_496 (lv_at hl 5 rfl) ?_
  refine lv_iconst (v := (nI 1)) hx hb d_law_498 (by decide) ?_
  refine lv_iadd hx hb d_law_499 ?_
  refine x_i (y := nI (4 + 4 * it + 1)) (nI_pl _ _) ?_
  refine va_sld (A := A0 s) hx hb hX hbl (Nat.not_le.mpr hbl) hS (vp_in_nI (by omega) (by omega)) d_law_500 ?_
  refine x_i (y := xs (4 + 4 * it + 1)) (by rw [nI_clamp (by omega)]) ?_
  refine wr_V (As := [.int (xs (4 + 4 * it + 1))]) (rest := []) (b := Y 0) (A := A0 s) ⟨hx, hb, hml, hown, hts⟩ hMr (cwV 1 hts (al_V k_565 k_566 k_567 k_4 k_568) rfl rfl rfl (by decide +kernel) ⟨Nat.le_of_ble_eq_true rfl, Nat.le_of_ble_eq_true rfl⟩) (va_recv hK (w_r hP) (ci := 3) (q0 := 0) rfl rfl) (w_r hP) (hK.sub [3, 4] rfl) (w_dr hD) hS rfl hl.1 rfl (lv_room (Nat.le_of_ble_eq_true rfl)) d_law_501 ⟨by show 28 + it + 1 ≤ 671672; omega, by show 230 + 6 * it + 6 ≤ 7081053; omega⟩ (fun H locs hP1 hkp _ hS => ?_)
  have hP := (w_keepR (w_l hP) hD hkp).app hP1
  have hD : va_D (A0 s) (wW Z Y cI cP cL cJ cZ p0 q0 g0 h0 ou S1 M1 f1) := w_addr hD (w_adW S1 S1 M M1 f1 f1)
  refine lv_istore (lv' := [(6, .int r), (5, .int k), (0, .ref b), (1, .ref (Z 0)), (2, .ref (Y 0)), (3, .ref ou), (4, .int (nI (4 + 4 * it)))]) hx hb d_law_504 hl (by decide) rfl (fun ls hl => ?_)
  refine lv_aload_n hx hb d_law_506 rfl (lv_at hl 4 rfl) ?_
  refine ro_V (As := []) (rest := []) (b := Y 0) ⟨hx, hb, hml, hown, hts⟩ (c_M_thrown l dC dI Y cJ cZ p0 q0 g0 h0 M1) (cwV 0 hts (al_V k_516 k_517 k_518 k_4 k_519) rfl rfl rfl (by decide +kernel) ⟨Nat.le_of_ble_eq_true rfl, Nat.le_of_ble_eq_true rfl⟩) (fun U g mk a h => ⟨h.1, va_K.moved (u := U) (U := U.calling g mk a) (Vm.Alike.refl U.vm) h.2⟩) (va_recv hK (w_r hP) (ci := 3) (q0 := 0) rfl rfl) (fun U hU hW => ⟨by rw [hU]; exact w_r hP, va_K.moved hW.alike (hK.sub [3, 4] rfl)⟩) rfl hl.1 rfl (lv_room (Nat.le_of_ble_eq_true rfl)) d_law_507 ⟨by show 28 + it + 1 ≤ 671672; omega, by show 230 + 6 * it + 6 ≤ 7081053; omega⟩ ?_
  refine x_i (y := k) hk ?_
  refine lv_iload hx hb d_law_510 (lv_at hl 1 rfl) ?_
  refine lv_icmp_eq (tgt := 517) hx hb d_law_512 (by decide) (fun _ => ?_) (fun c_ => absurd (rfl) c_)
  refine lv_iload hx hb d_law_517 (lv_at hl 1 rfl) ?_
  refine lv_if_ne (tgt := 541) hx hb d_law_519 (by decide) (fun c519 => ?_) (fun c519 => ?_)
  · refine lv_goto (tgt := 1058) hx hb d_law_541 (by decide) ?_
    refine W.cs (cells' := 29 + it) (slots' := 236 + 6 * it) (by omega) (by omega) ?_
    exact K S1 M1 f1 H locs ls R1 hP hD hS (lv_sub hl [2, 3, 4, 5, 6] rfl)
  · refine lv_aload_n hx hb d_law_522 rfl (lv_at hl 5 rfl) ?_
    refine lv_iconst (v := 0) hx hb d_law_523 (by decide) ?_
    refine va_lald (n := 1) (f := f1) hx hb hK hP 13 2 rfl rfl (vp_in_nI (n := 0) (N := 1) (by decide) (by decide)) d_law_524 ?_
    refine x_l (y := (if r = 0 then 0 else 1)) (hout c519) ?_
    refine lv_iload hx hb d_law_525 (lv_at hl 0 rfl) ?_
    refine lv_if_eq (tgt := 534) hx hb d_law_527 (by decide) (fun hr0 => ?_) (fun hr0 => ?_)
    · refine lv_lconst (v := 0) hx hb d_law_534 (by decide) ?_
      refine W.lcmp hx hb d_law_535 ?_
      refine lv_if_eq (tgt := 541) hx hb d_law_536 (by decide) (fun _ => ?_) (fun c_ => absurd (by first | (rw [if_pos hr0]; exact lg_cmp_self _) | (rw [if_neg hr0]; exact lg_cmp_self _)) c_)
      refine lv_goto (tgt := 1058) hx hb d_law_541 (by decide) ?_
      refine W.cs (cells' := 29 + it) (slots' := 236 + 6 * it) (by omega) (by omega) ?_
      exact K S1 M1 f1 H locs ls R1 hP hD hS (lv_sub hl [2, 3, 4, 5, 6] rfl)
    · refine lv_lconst (v := 1) hx hb d_law_530 (by decide) ?_
      refine lv_goto (tgt := 535) hx hb d_law_531 (by decide) ?_
      refine W.lcmp hx hb d_law_535 ?_
      refine lv_if_eq (tgt := 541) hx hb d_law_536 (by decide) (fun _ => ?_) (fun c_ => absurd (by first | (rw [if_pos hr0]; exact lg_cmp_self _) | (rw [if_neg hr0]; exact lg_cmp_self _)) c_)
      refine lv_goto (tgt := 1058) hx hb d_law_541 (by decide) ?_
      refine W.cs (cells' := 29 + it) (slots' := 236 + 6 * it) (by omega) (by omega) ?_
      exact K S1 M1 f1 H locs ls R1 hP hD hS (lv_sub hl [2, 3, 4, 5, 6] rfl)
set_option maxRecDepth 100000 in
set_option maxHeartbeats 4000000 in
theorem lw_accuse (hx : p.tables.exec = Jvm.exec) (hb : c.code = code) (hml : c.maxLocals = 7) (hown : s.vm.findClass "DealtSecretLaw" = some m.cls) (hts : ∀ w ∈ AL, w.before #[Value.ref b] s = true) (hX : va_X b n0 xs s s.heap) (hbl : b < s.heap.size) (hn0 : n0 ≤ 2052) (hK : va_K (dC, dI) cls (tysW cI cP cL cJ cZ) s) (hxx : xx s) (hnc : xnc s) (hlt : l.stackTraces = false) (ok : okG p0 q0 g0 h0) (hq : mz_P q0) (hit : 4 + 4 * it + 4 ≤ n0) (R : Rel p0 q0 g0 h0 S M) (hP : va_P (dC, dI) cls (wW Z Y cI cP cL cJ cZ p0 q0 g0 h0 ou S M f) H) (hD : va_D (A0 s) (wW Z Y cI cP cL cJ cZ p0 q0 g0 h0 ou S M f)) (hS : va_S (A0 s) s.heap H locs) (hl : lv_has ls 7 [(0, .ref b), (1, .ref (Z 0)), (2, .ref (Y 0)), (3, .ref ou), (4, .int (nI (4 + 4 * it)))]) (K : ∀ (S M : Nat → Nat → Int32) (f : Nat → Int64) (H : Heap) (locs : List Loc) (ls : Array Slot), Rel p0 q0 g0 h0 S M → va_P (dC, dI) cls (wW Z Y cI cP cL cJ cZ p0 q0 g0 h0 ou S M f) H → va_D (A0 s) (wW Z Y cI cP cL cJ cZ p0 q0 g0 h0 ou S M f) → va_S (A0 s) s.heap H locs → lv_has ls 7 [(0, .ref b), (1, .ref (Z 0)), (2, .ref (Y 0)), (3, .ref ou), (4, .int (nI (4 + 4 * it)))] → W p l e room_1 s m #[Value.ref b] below meth c H locs (29 + it) (236 + 6 * it) Q (F0 m 1058 ls [])) : W p l e room_1 s m #[Value.ref b] below meth c H locs (28 + it) (230 + 6 * it) Q (F0 m 544 ls []) := by
  obtain ⟨k, S1, M1, f1, r, hWp, hMr, hk, hout, R1⟩ := s_accuse (l := l) (dC := dC) (dI := dI) (Z := Z) (Y := Y) (cI := cI) (cP := cP) (cJ := cJ) (cZ := cZ) (cL := cL) (ou := ou) (f := f) hlt ok R (xs (4 + 4 * it + 1))
  refine lv_aload_n hx hb d_law_544 rfl (lv_at hl 1 rfl) ?_
  refine lv_aload_n hx hb d_law_545 rfl (lv_at hl 0 rfl) ?_
  refine lv_iload hx hb d_law_546 (lv_at hl 4 rfl) ?_
  refine lv_iconst (v := (nI 1)) hx hb d_law_548 (by decide) ?_
  refine lv_iadd hx hb d_law_549 ?_
  refine x_i (y := nI (4 + 4 * it + 1)) (nI_pl _ _) ?_
  refine va_sld (A := A0 s) hx hb hX hbl (Nat.not_le.mpr hbl) hS (vp_in_nI (by omega) (by omega)) d_law_550 ?_
  refine x_i (y := xs (4 + 4 * it + 1)) (by rw [nI_clamp (by omega)]) ?_
  refine lv_aload_n hx hb d_law_551 rfl (lv_at hl 3 rfl) ?_
  refine wp_S (As := [.ref (Z 0), .int (xs (4 + 4 * it + 1)), .ref ou]) (rest := []) (A := A0 s) ⟨hx, hb, hml, hown, hts⟩ hWp (vx_cwSW 3 hts (al_W k_353 k_354 k_0 kw_accuse) rfl rfl rfl (by decide +kernel) ⟨Nat.le_of_ble_eq_true rfl, Nat.le_of_ble_eq_true rfl⟩) (w_l hP) (hK.sub [0, 1, 2] rfl) (w_dl hD) hS (fun U hU hW => ⟨xx_to hW (fun a ha => by rw [hU]; exact hS.2.1 a ha (Nat.not_le.mpr ha)) hxx, xnc_to hW.alike hnc⟩) rfl hl.1 rfl (lv_room (Nat.le_of_ble_eq_true rfl)) d_law_552 ⟨by show 28 + it + 1 ≤ 671672; omega, by show 230 + 6 * it + 6 ≤ 7081053; omega⟩ (fun H locs hP1 hkp _ hS => ?_)
  have hP := hP1.app (w_keep (w_r hP) hD hkp)
  have hD : va_D (A0 s) (wW Z Y cI cP cL cJ cZ p0 q0 g0 h0 ou S1 M f1) := w_addr hD (w_adW S S1 M M f f1)
  refine lv_istore (lv' := [(5, .int k), (0, .ref b), (1, .ref (Z 0)), (2, .ref (Y 0)), (3, .ref ou), (4, .int (nI (4 + 4 * it)))]) hx hb d_law_555 hl (by decide) rfl (fun ls hl => ?_)
  refine lv_aload_n hx hb d_law_557 rfl (lv_at hl 3 rfl) ?_
  refine lv_aload_n hx hb d_law_558 rfl (lv_at hl 1 rfl) ?_
  refine lv_iload hx hb d_law_559 (lv_at hl 5 rfl) ?_
  refine lv_iconst (v := (nI 1)) hx hb d_law_561 (by decide) ?_
  refine lv_iadd hx hb d_law_562 ?_
  refine x_i (y := nI (4 + 4 * it + 1)) (nI_pl _ _) ?_
  refine va_sld (A := A0 s) hx hb hX hbl (Nat.not_le.mpr hbl) hS (vp_in_nI (by omega) (by omega)) d_law_563 ?_
  refine x_i (y := xs (4 + 4 * it + 1)) (by rw [nI_clamp (by omega)]) ?_
  refine wr_V (As := [.int (xs (4 + 4 * it + 1))]) (rest := []) (b := Y 0) (A := A0 s) ⟨hx, hb, hml, hown, hts⟩ hMr (cwV 1 hts (al_V k_569 k_570 k_571 k_4 k_572) rfl rfl rfl (by decide +kernel) ⟨Nat.le_of_ble_eq_true rfl, Nat.le_of_ble_eq_true rfl⟩) (va_recv hK (w_r hP) (ci := 3) (q0 := 0) rfl rfl) (w_r hP) (hK.sub [3, 4] rfl) (w_dr hD) hS rfl hl.1 rfl (lv_room (Nat.le_of_ble_eq_true rfl)) d_law_564 ⟨by show 28 + it + 1 ≤ 671672; omega, by show 230 + 6 * it + 6 ≤ 7081053; omega⟩ (fun H locs hP1 hkp _ hS => ?_)
  have hP := (w_keepR (w_l hP) hD hkp).app hP1
  have hD : va_D (A0 s) (wW Z Y cI cP cL cJ cZ p0 q0 g0 h0 ou S1 M1 f1) := w_addr hD (w_adW S1 S1 M M1 f1 f1)
  refine lv_istore (lv' := [(6, .int r), (5, .int k), (0, .ref b), (1, .ref (Z 0)), (2, .ref (Y 0)), (3, .ref ou), (4, .int (nI (4 + 4 * it)))]) hx hb d_law_567 hl (by decide) rfl (fun ls hl => ?_)
  refine lv_aload_n hx hb d_law_569 rfl (lv_at hl 4 rfl) ?_
  refine ro_V (As := []) (rest := []) (b := Y 0) ⟨hx, hb, hml, hown, hts⟩ (c_M_thrown l dC dI Y cJ cZ p0 q0 g0 h0 M1) (cwV 0 hts (al_V k_516 k_517 k_518 k_4 k_519) rfl rfl rfl (by decide +kernel) ⟨Nat.le_of_ble_eq_true rfl, Nat.le_of_ble_eq_true rfl⟩) (fun U g mk a h => ⟨h.1, va_K.moved (u := U) (U := U.calling g mk a) (Vm.Alike.refl U.vm) h.2⟩) (va_recv hK (w_r hP) (ci := 3) (q0 := 0) rfl rfl) (fun U hU hW => ⟨by rw [hU]; exact w_r hP, va_K.moved hW.alike (hK.sub [3, 4] rfl)⟩) rfl hl.1 rfl (lv_room (Nat.le_of_ble_eq_true rfl)) d_law_570 ⟨by show 28 + it + 1 ≤ 671672; omega, by show 230 + 6 * it + 6 ≤ 7081053; omega⟩ ?_
  refine x_i (y := k) hk ?_
  refine lv_iload hx hb d_law_573 (lv_at hl 1 rfl) ?_
  refine lv_icmp_eq (tgt := 580) hx hb d_law_575 (by decide) (fun _ => ?_) (fun c_ => absurd (rfl) c_)
  refine lv_iload hx hb d_law_580 (lv_at hl 1 rfl) ?_
  refine lv_if_ne (tgt := 604) hx hb d_law_582 (by decide) (fun c582 => ?_) (fun c582 => ?_)
  · refine lv_goto (tgt := 1058) hx hb d_law_604 (by decide) ?_
    refine W.cs (cells' := 29 + it) (slots' := 236 + 6 * it) (by omega) (by omega) ?_
    exact K S1 M1 f1 H locs ls R1 hP hD hS (lv_sub hl [2, 3, 4, 5, 6] rfl)
  · refine lv_aload_n hx hb d_law_585 rfl (lv_at hl 5 rfl) ?_
    refine lv_iconst (v := 0) hx hb d_law_586 (by decide) ?_
    refine va_lald (n := 1) (f := f1) hx hb hK hP 13 2 rfl rfl (vp_in_nI (n := 0) (N := 1) (by decide) (by decide)) d_law_587 ?_
    refine x_l (y := (if r = 0 then 0 else 1)) (hout c582) ?_
    refine lv_iload hx hb d_law_588 (lv_at hl 0 rfl) ?_
    refine lv_if_eq (tgt := 597) hx hb d_law_590 (by decide) (fun hr0 => ?_) (fun hr0 => ?_)
    · refine lv_lconst (v := 0) hx hb d_law_597 (by decide) ?_
      refine W.lcmp hx hb d_law_598 ?_
      refine lv_if_eq (tgt := 604) hx hb d_law_599 (by decide) (fun _ => ?_) (fun c_ => absurd (by first | (rw [if_pos hr0]; exact lg_cmp_self _) | (rw [if_neg hr0]; exact lg_cmp_self _)) c_)
      refine lv_goto (tgt := 1058) hx hb d_law_604 (by decide) ?_
      refine W.cs (cells' := 29 + it) (slots' := 236 + 6 * it) (by omega) (by omega) ?_
      exact K S1 M1 f1 H locs ls R1 hP hD hS (lv_sub hl [2, 3, 4, 5, 6] rfl)
    · refine lv_lconst (v := 1) hx hb d_law_593 (by decide) ?_
      refine lv_goto (tgt := 598) hx hb d_law_594 (by decide) ?_
      refine W.lcmp hx hb d_law_598 ?_
      refine lv_if_eq (tgt := 604) hx hb d_law_599 (by decide) (fun _ => ?_) (fun c_ => absurd (by first | (rw [if_pos hr0]; exact lg_cmp_self _) | (rw [if_neg hr0]; exact lg_cmp_self _)) c_)
      refine lv_goto (tgt := 1058) hx hb d_law_604 (by decide) ?_
      refine W.cs (cells' := 29 + it) (slots' := 236 + 6 * it) (by omega) (by omega) ?_
      exact K S1 M1 f1 H locs ls R1 hP hD hS (lv_sub hl [2, 3, 4, 5, 6] rfl)
set_option maxRecDepth 100000 in
set_option maxHeartbeats 4000000 in
theorem lw_secret (hx : p.tables.exec = Jvm.exec) (hb : c.code = code) (hml : c.maxLocals = 7) (hown : s.vm.findClass "DealtSecretLaw" = some m.cls) (hts : ∀ w ∈ AL, w.before #[Value.ref b] s = true) (hX : va_X b n0 xs s s.heap) (hbl : b < s.heap.size) (hn0 : n0 ≤ 2052) (hK : va_K (dC, dI) cls (tysW cI cP cL cJ cZ) s) (hxx : xx s) (hnc : xnc s) (hlt : l.stackTraces = false) (ok : okG p0 q0 g0 h0) (hq : mz_P q0) (hit : 4 + 4 * it + 4 ≤ n0) (R : Rel p0 q0 g0 h0 S M) (hP : va_P (dC, dI) cls (wW Z Y cI cP cL cJ cZ p0 q0 g0 h0 ou S M f) H) (hD : va_D (A0 s) (wW Z Y cI cP cL cJ cZ p0 q0 g0 h0 ou S M f)) (hS : va_S (A0 s) s.heap H locs) (hl : lv_has ls 7 [(0, .ref b), (1, .ref (Z 0)), (2, .ref (Y 0)), (3, .ref ou), (4, .int (nI (4 + 4 * it)))]) (K : ∀ (S M : Nat → Nat → Int32) (f : Nat → Int64) (H : Heap) (locs : List Loc) (ls : Array Slot), Rel p0 q0 g0 h0 S M → va_P (dC, dI) cls (wW Z Y cI cP cL cJ cZ p0 q0 g0 h0 ou S M f) H → va_D (A0 s) (wW Z Y cI cP cL cJ cZ p0 q0 g0 h0 ou S M f) → va_S (A0 s) s.heap H locs → lv_has ls 7 [(0, .ref b), (1, .ref (Z 0)), (2, .ref (Y 0)), (3, .ref ou), (4, .int (nI (4 + 4 * it)))] → W p l e room_1 s m #[Value.ref b] below meth c H locs (29 + it) (236 + 6 * it) Q (F0 m 1058 ls [])) : W p l e room_1 s m #[Value.ref b] below meth c H locs (28 + it) (230 + 6 * it) Q (F0 m 844 ls []) := by
  obtain ⟨k, S1, M1, f1, r, hWp, hMr, hk, hout, R1⟩ := s_secret (l := l) (dC := dC) (dI := dI) (Z := Z) (Y := Y) (cI := cI) (cP := cP) (cJ := cJ) (cZ := cZ) (cL := cL) (ou := ou) (f := f) hlt ok hq R 
  refine lv_aload_n hx hb d_law_844 rfl (lv_at hl 1 rfl) ?_
  refine lv_aload_n hx hb d_law_845 rfl (lv_at hl 3 rfl) ?_
  refine wp_S (As := [.ref (Z 0), .ref ou]) (rest := []) (A := A0 s) ⟨hx, hb, hml, hown, hts⟩ hWp (vx_cwSW 2 hts (al_W k_408 k_409 k_0 kw_secret) rfl rfl rfl (by decide +kernel) ⟨Nat.le_of_ble_eq_true rfl, Nat.le_of_ble_eq_true rfl⟩) (w_l hP) (hK.sub [0, 1, 2] rfl) (w_dl hD) hS (fun U hU hW => ⟨xx_to hW (fun a ha => by rw [hU]; exact hS.2.1 a ha (Nat.not_le.mpr ha)) hxx, xnc_to hW.alike hnc⟩) rfl hl.1 rfl (lv_room (Nat.le_of_ble_eq_true rfl)) d_law_846 ⟨by show 28 + it + 1 ≤ 671672; omega, by show 230 + 6 * it + 6 ≤ 7081053; omega⟩ (fun H locs hP1 hkp _ hS => ?_)
  have hP := hP1.app (w_keep (w_r hP) hD hkp)
  have hD : va_D (A0 s) (wW Z Y cI cP cL cJ cZ p0 q0 g0 h0 ou S1 M f1) := w_addr hD (w_adW S S1 M M f f1)
  refine lv_istore (lv' := [(5, .int k), (0, .ref b), (1, .ref (Z 0)), (2, .ref (Y 0)), (3, .ref ou), (4, .int (nI (4 + 4 * it)))]) hx hb d_law_849 hl (by decide) rfl (fun ls hl => ?_)
  refine lv_aload_n hx hb d_law_851 rfl (lv_at hl 3 rfl) ?_
  refine wr_V (As := []) (rest := []) (b := Y 0) (A := A0 s) ⟨hx, hb, hml, hown, hts⟩ hMr (cwV 0 hts (al_V k_594 k_595 k_596 k_4 k_597) rfl rfl rfl (by decide +kernel) ⟨Nat.le_of_ble_eq_true rfl, Nat.le_of_ble_eq_true rfl⟩) (va_recv hK (w_r hP) (ci := 3) (q0 := 0) rfl rfl) (w_r hP) (hK.sub [3, 4] rfl) (w_dr hD) hS rfl hl.1 rfl (lv_room (Nat.le_of_ble_eq_true rfl)) d_law_852 ⟨by show 28 + it + 1 ≤ 671672; omega, by show 230 + 6 * it + 6 ≤ 7081053; omega⟩ (fun H locs hP1 hkp _ hS => ?_)
  have hP := (w_keepR (w_l hP) hD hkp).app hP1
  have hD : va_D (A0 s) (wW Z Y cI cP cL cJ cZ p0 q0 g0 h0 ou S1 M1 f1) := w_addr hD (w_adW S1 S1 M M1 f1 f1)
  refine lv_istore (lv' := [(6, .int r), (5, .int k), (0, .ref b), (1, .ref (Z 0)), (2, .ref (Y 0)), (3, .ref ou), (4, .int (nI (4 + 4 * it)))]) hx hb d_law_855 hl (by decide) rfl (fun ls hl => ?_)
  refine lv_aload_n hx hb d_law_857 rfl (lv_at hl 4 rfl) ?_
  refine ro_V (As := []) (rest := []) (b := Y 0) ⟨hx, hb, hml, hown, hts⟩ (c_M_thrown l dC dI Y cJ cZ p0 q0 g0 h0 M1) (cwV 0 hts (al_V k_516 k_517 k_518 k_4 k_519) rfl rfl rfl (by decide +kernel) ⟨Nat.le_of_ble_eq_true rfl, Nat.le_of_ble_eq_true rfl⟩) (fun U g mk a h => ⟨h.1, va_K.moved (u := U) (U := U.calling g mk a) (Vm.Alike.refl U.vm) h.2⟩) (va_recv hK (w_r hP) (ci := 3) (q0 := 0) rfl rfl) (fun U hU hW => ⟨by rw [hU]; exact w_r hP, va_K.moved hW.alike (hK.sub [3, 4] rfl)⟩) rfl hl.1 rfl (lv_room (Nat.le_of_ble_eq_true rfl)) d_law_858 ⟨by show 28 + it + 1 ≤ 671672; omega, by show 230 + 6 * it + 6 ≤ 7081053; omega⟩ ?_
  refine x_i (y := k) hk ?_
  refine lv_iload hx hb d_law_861 (lv_at hl 1 rfl) ?_
  refine lv_icmp_eq (tgt := 868) hx hb d_law_863 (by decide) (fun _ => ?_) (fun c_ => absurd (rfl) c_)
  refine lv_iload hx hb d_law_868 (lv_at hl 1 rfl) ?_
  refine lv_if_ne (tgt := 885) hx hb d_law_870 (by decide) (fun c870 => ?_) (fun c870 => ?_)
  · refine lv_goto (tgt := 1058) hx hb d_law_885 (by decide) ?_
    refine W.cs (cells' := 29 + it) (slots' := 236 + 6 * it) (by omega) (by omega) ?_
    exact K S1 M1 f1 H locs ls R1 hP hD hS (lv_sub hl [2, 3, 4, 5, 6] rfl)
  · refine lv_aload_n hx hb d_law_873 rfl (lv_at hl 5 rfl) ?_
    refine lv_iconst (v := 0) hx hb d_law_874 (by decide) ?_
    refine va_lald (n := 1) (f := f1) hx hb hK hP 13 2 rfl rfl (vp_in_nI (n := 0) (N := 1) (by decide) (by decide)) d_law_875 ?_
    refine x_l (y := r.toInt64) (hout c870) ?_
    refine lv_iload hx hb d_law_876 (lv_at hl 0 rfl) ?_
    refine lv_i2l (v := r.toInt64) hx hb d_law_878 (rfl) ?_
    refine W.lcmp hx hb d_law_879 ?_
    refine lv_if_eq (tgt := 885) hx hb d_law_880 (by decide) (fun _ => ?_) (fun c_ => absurd (lg_cmp_self _) c_)
    refine lv_goto (tgt := 1058) hx hb d_law_885 (by decide) ?_
    refine W.cs (cells' := 29 + it) (slots' := 236 + 6 * it) (by omega) (by omega) ?_
    exact K S1 M1 f1 H locs ls R1 hP hD hS (lv_sub hl [2, 3, 4, 5, 6] rfl)
set_option maxRecDepth 100000 in
set_option maxHeartbeats 4000000 in
theorem lw_relation (hx : p.tables.exec = Jvm.exec) (hb : c.code = code) (hml : c.maxLocals = 7) (hown : s.vm.findClass "DealtSecretLaw" = some m.cls) (hts : ∀ w ∈ AL, w.before #[Value.ref b] s = true) (hX : va_X b n0 xs s s.heap) (hbl : b < s.heap.size) (hn0 : n0 ≤ 2052) (hK : va_K (dC, dI) cls (tysW cI cP cL cJ cZ) s) (hxx : xx s) (hnc : xnc s) (hlt : l.stackTraces = false) (ok : okG p0 q0 g0 h0) (hq : mz_P q0) (hit : 4 + 4 * it + 4 ≤ n0) (R : Rel p0 q0 g0 h0 S M) (hP : va_P (dC, dI) cls (wW Z Y cI cP cL cJ cZ p0 q0 g0 h0 ou S M f) H) (hD : va_D (A0 s) (wW Z Y cI cP cL cJ cZ p0 q0 g0 h0 ou S M f)) (hS : va_S (A0 s) s.heap H locs) (hl : lv_has ls 7 [(0, .ref b), (1, .ref (Z 0)), (2, .ref (Y 0)), (3, .ref ou), (4, .int (nI (4 + 4 * it)))]) (K : ∀ (S M : Nat → Nat → Int32) (f : Nat → Int64) (H : Heap) (locs : List Loc) (ls : Array Slot), Rel p0 q0 g0 h0 S M → va_P (dC, dI) cls (wW Z Y cI cP cL cJ cZ p0 q0 g0 h0 ou S M f) H → va_D (A0 s) (wW Z Y cI cP cL cJ cZ p0 q0 g0 h0 ou S M f) → va_S (A0 s) s.heap H locs → lv_has ls 7 [(0, .ref b), (1, .ref (Z 0)), (2, .ref (Y 0)), (3, .ref ou), (4, .int (nI (4 + 4 * it)))] → W p l e room_1 s m #[Value.ref b] below meth c H locs (29 + it) (236 + 6 * it) Q (F0 m 1058 ls [])) : W p l e room_1 s m #[Value.ref b] below meth c H locs (28 + it) (230 + 6 * it) Q (F0 m 888 ls []) := by
  obtain ⟨k, S1, M1, f1, r, hWp, hMr, hk, hout, R1⟩ := s_relation (l := l) (dC := dC) (dI := dI) (Z := Z) (Y := Y) (cI := cI) (cP := cP) (cJ := cJ) (cZ := cZ) (cL := cL) (ou := ou) (f := f) hlt ok R 
  refine lv_aload_n hx hb d_law_888 rfl (lv_at hl 1 rfl) ?_
  refine lv_aload_n hx hb d_law_889 rfl (lv_at hl 3 rfl) ?_
  refine wp_S (As := [.ref (Z 0), .ref ou]) (rest := []) (A := A0 s) ⟨hx, hb, hml, hown, hts⟩ hWp (vx_cwSW 2 hts (al_W k_421 k_422 k_0 kw_relation) rfl rfl rfl (by decide +kernel) ⟨Nat.le_of_ble_eq_true rfl, Nat.le_of_ble_eq_true rfl⟩) (w_l hP) (hK.sub [0, 1, 2] rfl) (w_dl hD) hS (fun U hU hW => ⟨xx_to hW (fun a ha => by rw [hU]; exact hS.2.1 a ha (Nat.not_le.mpr ha)) hxx, xnc_to hW.alike hnc⟩) rfl hl.1 rfl (lv_room (Nat.le_of_ble_eq_true rfl)) d_law_890 ⟨by show 28 + it + 1 ≤ 671672; omega, by show 230 + 6 * it + 6 ≤ 7081053; omega⟩ (fun H locs hP1 hkp _ hS => ?_)
  have hP := hP1.app (w_keep (w_r hP) hD hkp)
  have hD : va_D (A0 s) (wW Z Y cI cP cL cJ cZ p0 q0 g0 h0 ou S1 M f1) := w_addr hD (w_adW S S1 M M f f1)
  refine lv_istore (lv' := [(5, .int k), (0, .ref b), (1, .ref (Z 0)), (2, .ref (Y 0)), (3, .ref ou), (4, .int (nI (4 + 4 * it)))]) hx hb d_law_893 hl (by decide) rfl (fun ls hl => ?_)
  refine lv_aload_n hx hb d_law_895 rfl (lv_at hl 3 rfl) ?_
  refine wr_V (As := []) (rest := []) (b := Y 0) (A := A0 s) ⟨hx, hb, hml, hown, hts⟩ hMr (cwV 0 hts (al_V k_601 k_602 k_603 k_4 k_604) rfl rfl rfl (by decide +kernel) ⟨Nat.le_of_ble_eq_true rfl, Nat.le_of_ble_eq_true rfl⟩) (va_recv hK (w_r hP) (ci := 3) (q0 := 0) rfl rfl) (w_r hP) (hK.sub [3, 4] rfl) (w_dr hD) hS rfl hl.1 rfl (lv_room (Nat.le_of_ble_eq_true rfl)) d_law_896 ⟨by show 28 + it + 1 ≤ 671672; omega, by show 230 + 6 * it + 6 ≤ 7081053; omega⟩ (fun H locs hP1 hkp _ hS => ?_)
  have hP := (w_keepR (w_l hP) hD hkp).app hP1
  have hD : va_D (A0 s) (wW Z Y cI cP cL cJ cZ p0 q0 g0 h0 ou S1 M1 f1) := w_addr hD (w_adW S1 S1 M M1 f1 f1)
  refine lv_istore (lv' := [(6, .int r), (5, .int k), (0, .ref b), (1, .ref (Z 0)), (2, .ref (Y 0)), (3, .ref ou), (4, .int (nI (4 + 4 * it)))]) hx hb d_law_899 hl (by decide) rfl (fun ls hl => ?_)
  refine lv_aload_n hx hb d_law_901 rfl (lv_at hl 4 rfl) ?_
  refine ro_V (As := []) (rest := []) (b := Y 0) ⟨hx, hb, hml, hown, hts⟩ (c_M_thrown l dC dI Y cJ cZ p0 q0 g0 h0 M1) (cwV 0 hts (al_V k_516 k_517 k_518 k_4 k_519) rfl rfl rfl (by decide +kernel) ⟨Nat.le_of_ble_eq_true rfl, Nat.le_of_ble_eq_true rfl⟩) (fun U g mk a h => ⟨h.1, va_K.moved (u := U) (U := U.calling g mk a) (Vm.Alike.refl U.vm) h.2⟩) (va_recv hK (w_r hP) (ci := 3) (q0 := 0) rfl rfl) (fun U hU hW => ⟨by rw [hU]; exact w_r hP, va_K.moved hW.alike (hK.sub [3, 4] rfl)⟩) rfl hl.1 rfl (lv_room (Nat.le_of_ble_eq_true rfl)) d_law_902 ⟨by show 28 + it + 1 ≤ 671672; omega, by show 230 + 6 * it + 6 ≤ 7081053; omega⟩ ?_
  refine x_i (y := k) hk ?_
  refine lv_iload hx hb d_law_905 (lv_at hl 1 rfl) ?_
  refine lv_icmp_eq (tgt := 912) hx hb d_law_907 (by decide) (fun _ => ?_) (fun c_ => absurd (rfl) c_)
  refine lv_iload hx hb d_law_912 (lv_at hl 1 rfl) ?_
  refine lv_if_ne (tgt := 929) hx hb d_law_914 (by decide) (fun c914 => ?_) (fun c914 => ?_)
  · refine lv_goto (tgt := 1058) hx hb d_law_929 (by decide) ?_
    refine W.cs (cells' := 29 + it) (slots' := 236 + 6 * it) (by omega) (by omega) ?_
    exact K S1 M1 f1 H locs ls R1 hP hD hS (lv_sub hl [2, 3, 4, 5, 6] rfl)
  · refine lv_aload_n hx hb d_law_917 rfl (lv_at hl 5 rfl) ?_
    refine lv_iconst (v := 0) hx hb d_law_918 (by decide) ?_
    refine va_lald (n := 1) (f := f1) hx hb hK hP 13 2 rfl rfl (vp_in_nI (n := 0) (N := 1) (by decide) (by decide)) d_law_919 ?_
    refine x_l (y := r.toInt64) (hout c914) ?_
    refine lv_iload hx hb d_law_920 (lv_at hl 0 rfl) ?_
    refine lv_i2l (v := r.toInt64) hx hb d_law_922 (rfl) ?_
    refine W.lcmp hx hb d_law_923 ?_
    refine lv_if_eq (tgt := 929) hx hb d_law_924 (by decide) (fun _ => ?_) (fun c_ => absurd (lg_cmp_self _) c_)
    refine lv_goto (tgt := 1058) hx hb d_law_929 (by decide) ?_
    refine W.cs (cells' := 29 + it) (slots' := 236 + 6 * it) (by omega) (by omega) ?_
    exact K S1 M1 f1 H locs ls R1 hP hD hS (lv_sub hl [2, 3, 4, 5, 6] rfl)
end LW
