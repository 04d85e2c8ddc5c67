section LW
variable {p : Program} {l : Launch} {e : Env} {s : State} {m : MethodId} {below : List Frame} {meth : Method} {c : Code} {H : Heap} {locs : List Loc} {Q : State → Prop} {ls : Array Slot} {b n0 it : Nat} {xs : Nat → Int32}
variable {dC : Nat → ClassId} {dI : Nat → Nat → Nat} {Z Y : Nat → Nat} {cI cP cL cJ cZ : ClassId} {p0 q0 g0 h0 ou : Nat} {S M : Nat → Nat → Int32} {f : Nat → Int64}
set_option maxRecDepth 100000 in
set_option maxHeartbeats 4000000 in
theorem lw_answer (hx : p.tables.exec = Jvm.exec) (hb : c.code = code) (hml : c.maxLocals = 7) (hown : s.vm.findClass "DealtSecretLaw" = some m.cls) (hts : ∀ w ∈ AL, w.before #[Value.ref b] s = true) (hX : va_X b n0 xs s s.heap) (hbl : b < s.heap.size) (hn0 : n0 ≤ 2052) (hK : va_K (dC, dI) cls (tysW cI cP cL cJ cZ) s) (hxx : xx s) (hnc : xnc s) (hlt : l.stackTraces = false) (ok : okG p0 q0 g0 h0) (hq : mz_P q0) (hit : 4 + 4 * it + 4 ≤ n0) (R : Rel p0 q0 g0 h0 S M) (hP : va_P (dC, dI) cls (wW Z Y cI cP cL cJ cZ p0 q0 g0 h0 ou S M f) H) (hD : va_D (A0 s) (wW Z Y cI cP cL cJ cZ p0 q0 g0 h0 ou S M f)) (hS : va_S (A0 s) s.heap H locs) (hl : lv_has ls 7 [(0, .ref b), (1, .ref (Z 0)), (2, .ref (Y 0)), (3, .ref ou), (4, .int (nI (4 + 4 * it)))]) (K : ∀ (S M : Nat → Nat → Int32) (f : Nat → Int64) (H : Heap) (locs : List Loc) (ls : Array Slot), Rel p0 q0 g0 h0 S M → va_P (dC, dI) cls (wW Z Y cI cP cL cJ cZ p0 q0 g0 h0 ou S M f) H → va_D (A0 s) (wW Z Y cI cP cL cJ cZ p0 q0 g0 h0 ou S M f) → va_S (A0 s) s.heap H locs → lv_has ls 7 [(0, .ref b), (1, .ref (Z 0)), (2, .ref (Y 0)), (3, .ref ou), (4, .int (nI (4 + 4 * it)))] → W p l e room_1 s m #[Value.ref b] below meth c H locs (29 + it) (236 + 6 * it) Q (F0 m 1058 ls [])) : W p l e room_1 s m #[Value.ref b] below meth c H locs (28 + it) (230 + 6 * it) Q (F0 m 607 ls []) := by
  obtain ⟨k, S1, M1, f1, r, hWp, hMr, hk, hout, R1⟩ := s_answer (l := l) (dC := dC) (dI := dI) (Z := Z) (Y := Y) (cI := cI) (cP := cP) (cJ := cJ) (cZ := cZ) (cL := cL) (ou := ou) (f := f) hlt ok R (xs (4 + 4 * it + 1)) (xs (4 + 4 * it + 2)) (xs (4 + 4 * it + 3))
  refine lv_aload_n hx hb d_law_607 rfl (lv_at hl 1 rfl) ?_
  refine lv_aload_n hx hb d_law_608 rfl (lv_at hl 0 rfl) ?_
  refine lv_iload hx hb d_law_609 (lv_at hl 4 rfl) ?_
  refine lv_iconst (v := (nI 1)) hx hb d_law_611 (by decide) ?_
  refine lv_iadd hx hb d_law_612 ?_
  refine x_i (y := nI (4 + 4 * it + 1)) (nI_pl _ _) ?_
  refine va_sld (A := A0 s) hx hb hX hbl (Nat.not_le.mpr hbl) hS (vp_in_nI (by omega) (by omega)) d_law_613 ?_
  refine x_i (y := xs (4 + 4 * it + 1)) (by rw [nI_clamp (by omega)]) ?_
  refine lv_aload_n hx hb d_law_614 rfl (lv_at hl 0 rfl) ?_
  refine lv_iload hx hb d_law_615 (lv_at hl 4 rfl) ?_
  refine lv_iconst (v := (nI 2)) hx hb d_law_617 (by decide) ?_
  refine lv_iadd hx hb d_law_618 ?_
  refine x_i (y := nI (4 + 4 * it + 2)) (nI_pl _ _) ?_
  refine va_sld (A := A0 s) hx hb hX hbl (Nat.not_le.mpr hbl) hS (vp_in_nI (by omega) (by omega)) d_law_619 ?_
  refine x_i (y := xs (4 + 4 * it + 2)) (by rw [nI_clamp (by omega)]) ?_
  refine lv_aload_n hx hb d_law_620 rfl (lv_at hl 0 rfl) ?_
  refine lv_iload hx hb d_law_621 (lv_at hl 4 rfl) ?_
  refine lv_iconst (v := (nI 3)) hx hb d_law_623 (by decide) ?_
  refine lv_iadd hx hb d_law_624 ?_
  refine x_i (y := nI (4 + 4 * it + 3)) (nI_pl _ _) ?_
  refine va_sld (A := A0 s) hx hb hX hbl (Nat.not_le.mpr hbl) hS (vp_in_nI (by omega) (by omega)) d_law_625 ?_
  refine x_i (y := xs (4 + 4 * it + 3)) (by rw [nI_clamp (by omega)]) ?_
  refine lv_aload_n hx hb d_law_626 rfl (lv_at hl 3 rfl) ?_
  refine wp_S (As := [.ref (Z 0), .int (xs (4 + 4 * it + 1)), .int (xs (4 + 4 * it + 2)), .int (xs (4 + 4 * it + 3)), .ref ou]) (rest := []) (A := A0 s) ⟨hx, hb, hml, hown, hts⟩ hWp (vx_cwSW 5 hts (al_W k_359 k_360 k_0 kw_answer) rfl rfl rfl (by decide +kernel) ⟨Nat.le_of_ble_eq_true rfl, Nat.le_of_ble_eq_true rfl⟩) (w_l hP) (hK.sub [0, 1, 2] rfl) (w_dl hD) hS (fun U hU hW => ⟨xx_to hW (fun a ha => by rw [hU]; exact hS.2.1 a ha (Nat.not_le.mpr ha)) hxx, xnc_to hW.alike hnc⟩) rfl hl.1 rfl (lv_room (Nat.le_of_ble_eq_true rfl)) d_law_627 ⟨by show 28 + it + 1 ≤ 671672; omega, by show 230 + 6 * it + 6 ≤ 7081053; omega⟩ (fun H locs hP1 hkp _ hS => ?_)
  have hP := hP1.app (w_keep (w_r hP) hD hkp)
  have hD : va_D (A0 s) (wW Z Y cI cP cL cJ cZ p0 q0 g0 h0 ou S1 M f1) := w_addr hD (w_adW S S1 M M f f1)
  refine lv_istore (lv' := [(5, .int k), (0, .ref b), (1, .ref (Z 0)), (2, .ref (Y 0)), (3, .ref ou), (4, .int (nI (4 + 4 * it)))]) hx hb d_law_630 hl (by decide) rfl (fun ls hl => ?_)
  refine lv_aload_n hx hb d_law_632 rfl (lv_at hl 3 rfl) ?_
  refine lv_aload_n hx hb d_law_633 rfl (lv_at hl 1 rfl) ?_
  refine lv_iload hx hb d_law_634 (lv_at hl 5 rfl) ?_
  refine lv_iconst (v := (nI 1)) hx hb d_law_636 (by decide) ?_
  refine lv_iadd hx hb d_law_637 ?_
  refine x_i (y := nI (4 + 4 * it + 1)) (nI_pl _ _) ?_
  refine va_sld (A := A0 s) hx hb hX hbl (Nat.not_le.mpr hbl) hS (vp_in_nI (by omega) (by omega)) d_law_638 ?_
  refine x_i (y := xs (4 + 4 * it + 1)) (by rw [nI_clamp (by omega)]) ?_
  refine lv_aload_n hx hb d_law_639 rfl (lv_at hl 1 rfl) ?_
  refine lv_iload hx hb d_law_640 (lv_at hl 5 rfl) ?_
  refine lv_iconst (v := (nI 2)) hx hb d_law_642 (by decide) ?_
  refine lv_iadd hx hb d_law_643 ?_
  refine x_i (y := nI (4 + 4 * it + 2)) (nI_pl _ _) ?_
  refine va_sld (A := A0 s) hx hb hX hbl (Nat.not_le.mpr hbl) hS (vp_in_nI (by omega) (by omega)) d_law_644 ?_
  refine x_i (y := xs (4 + 4 * it + 2)) (by rw [nI_clamp (by omega)]) ?_
  refine lv_aload_n hx hb d_law_645 rfl (lv_at hl 1 rfl) ?_
  refine lv_iload hx hb d_law_646 (lv_at hl 5 rfl) ?_
  refine lv_iconst (v := (nI 3)) hx hb d_law_648 (by decide) ?_
  refine lv_iadd hx hb d_law_649 ?_
  refine x_i (y := nI (4 + 4 * it + 3)) (nI_pl _ _) ?_
  refine va_sld (A := A0 s) hx hb hX hbl (Nat.not_le.mpr hbl) hS (vp_in_nI (by omega) (by omega)) d_law_650 ?_
  refine x_i (y := xs (4 + 4 * it + 3)) (by rw [nI_clamp (by omega)]) ?_
  refine wr_V (As := [.int (xs (4 + 4 * it + 1)), .int (xs (4 + 4 * it + 2)), .int (xs (4 + 4 * it + 3))]) (rest := []) (b := Y 0) (A := A0 s) ⟨hx, hb, hml, hown, hts⟩ hMr (cwV 3 hts (al_V k_573 k_574 k_575 k_4 k_576) rfl rfl rfl (by decide +kernel) ⟨Nat.le_of_ble_eq_true rfl, Nat.le_of_ble_eq_true rfl⟩) (va_recv hK (w_r hP) (ci := 3) (q0 := 0) rfl rfl) (w_r hP) (hK.sub [3, 4] rfl) (w_dr hD) hS rfl hl.1 rfl (lv_room (Nat.le_of_ble_eq_true rfl)) d_law_651 ⟨by show 28 + it + 1 ≤ 671672; omega, by show 230 + 6 * it + 6 ≤ 7081053; omega⟩ (fun H locs hP1 hkp _ hS => ?_)
  have hP := (w_keepR (w_l hP) hD hkp).app hP1
  have hD : va_D (A0 s) (wW Z Y cI cP cL cJ cZ p0 q0 g0 h0 ou S1 M1 f1) := w_addr hD (w_adW S1 S1 M M1 f1 f1)
  refine lv_istore (lv' := [(6, .int r), (5, .int k), (0, .ref b), (1, .ref (Z 0)), (2, .ref (Y 0)), (3, .ref ou), (4, .int (nI (4 + 4 * it)))]) hx hb d_law_654 hl (by decide) rfl (fun ls hl => ?_)
  refine lv_aload_n hx hb d_law_656 rfl (lv_at hl 4 rfl) ?_
  refine ro_V (As := []) (rest := []) (b := Y 0) ⟨hx, hb, hml, hown, hts⟩ (c_M_thrown l dC dI Y cJ cZ p0 q0 g0 h0 M1) (cwV 0 hts (al_V k_516 k_517 k_518 k_4 k_519) rfl rfl rfl (by decide +kernel) ⟨Nat.le_of_ble_eq_true rfl, Nat.le_of_ble_eq_true rfl⟩) (fun U g mk a h => ⟨h.1, va_K.moved (u := U) (U := U.calling g mk a) (Vm.Alike.refl U.vm) h.2⟩) (va_recv hK (w_r hP) (ci := 3) (q0 := 0) rfl rfl) (fun U hU hW => ⟨by rw [hU]; exact w_r hP, va_K.moved hW.alike (hK.sub [3, 4] rfl)⟩) rfl hl.1 rfl (lv_room (Nat.le_of_ble_eq_true rfl)) d_law_657 ⟨by show 28 + it + 1 ≤ 671672; omega, by show 230 + 6 * it + 6 ≤ 7081053; omega⟩ ?_
  refine x_i (y := k) hk ?_
  refine lv_iload hx hb d_law_660 (lv_at hl 1 rfl) ?_
  refine lv_icmp_eq (tgt := 667) hx hb d_law_662 (by decide) (fun _ => ?_) (fun c_ => absurd (rfl) c_)
  refine lv_iload hx hb d_law_667 (lv_at hl 1 rfl) ?_
  refine lv_if_ne (tgt := 691) hx hb d_law_669 (by decide) (fun c669 => ?_) (fun c669 => ?_)
  · refine lv_goto (tgt := 1058) hx hb d_law_691 (by decide) ?_
    refine W.cs (cells' := 29 + it) (slots' := 236 + 6 * it) (by omega) (by omega) ?_
    exact K S1 M1 f1 H locs ls R1 hP hD hS (lv_sub hl [2, 3, 4, 5, 6] rfl)
  · refine lv_aload_n hx hb d_law_672 rfl (lv_at hl 5 rfl) ?_
    refine lv_iconst (v := 0) hx hb d_law_673 (by decide) ?_
    refine va_lald (n := 1) (f := f1) hx hb hK hP 13 2 rfl rfl (vp_in_nI (n := 0) (N := 1) (by decide) (by decide)) d_law_674 ?_
    refine x_l (y := (if r = 0 then 0 else 1)) (hout c669) ?_
    refine lv_iload hx hb d_law_675 (lv_at hl 0 rfl) ?_
    refine lv_if_eq (tgt := 684) hx hb d_law_677 (by decide) (fun hr0 => ?_) (fun hr0 => ?_)
    · refine lv_lconst (v := 0) hx hb d_law_684 (by decide) ?_
      refine W.lcmp hx hb d_law_685 ?_
      refine lv_if_eq (tgt := 691) hx hb d_law_686 (by decide) (fun _ => ?_) (fun c_ => absurd (by first | (rw [if_pos hr0]; exact lg_cmp_self _) | (rw [if_neg hr0]; exact lg_cmp_self _)) c_)
      refine lv_goto (tgt := 1058) hx hb d_law_691 (by decide) ?_
      refine W.cs (cells' := 29 + it) (slots' := 236 + 6 * it) (by omega) (by omega) ?_
      exact K S1 M1 f1 H locs ls R1 hP hD hS (lv_sub hl [2, 3, 4, 5, 6] rfl)
    · refine lv_lconst (v := 1) hx hb d_law_680 (by decide) ?_
      refine lv_goto (tgt := 685) hx hb d_law_681 (by decide) ?_
      refine W.lcmp hx hb d_law_685 ?_
      refine lv_if_eq (tgt := 691) hx hb d_law_686 (by decide) (fun _ => ?_) (fun c_ => absurd (by first | (rw [if_pos hr0]; exact lg_cmp_self _) | (rw [if_neg hr0]; exact lg_cmp_self _)) c_)
      refine lv_goto (tgt := 1058) hx hb d_law_691 (by decide) ?_
      refine W.cs (cells' := 29 + it) (slots' := 236 + 6 * it) (by omega) (by omega) ?_
      exact K S1 M1 f1 H locs ls R1 hP hD hS (lv_sub hl [2, 3, 4, 5, 6] rfl)
set_option maxRecDepth 100000 in
set_option maxHeartbeats 4000000 in
theorem lw_open (hx : p.tables.exec = Jvm.exec) (hb : c.code = code) (hml : c.maxLocals = 7) (hown : s.vm.findClass "DealtSecretLaw" = some m.cls) (hts : ∀ w ∈ AL, w.before #[Value.ref b] s = true) (hX : va_X b n0 xs s s.heap) (hbl : b < s.heap.size) (hn0 : n0 ≤ 2052) (hK : va_K (dC, dI) cls (tysW cI cP cL cJ cZ) s) (hxx : xx s) (hnc : xnc s) (hlt : l.stackTraces = false) (ok : okG p0 q0 g0 h0) (hq : mz_P q0) (hit : 4 + 4 * it + 4 ≤ n0) (R : Rel p0 q0 g0 h0 S M) (hP : va_P (dC, dI) cls (wW Z Y cI cP cL cJ cZ p0 q0 g0 h0 ou S M f) H) (hD : va_D (A0 s) (wW Z Y cI cP cL cJ cZ p0 q0 g0 h0 ou S M f)) (hS : va_S (A0 s) s.heap H locs) (hl : lv_has ls 7 [(0, .ref b), (1, .ref (Z 0)), (2, .ref (Y 0)), (3, .ref ou), (4, .int (nI (4 + 4 * it)))]) (K : ∀ (S M : Nat → Nat → Int32) (f : Nat → Int64) (H : Heap) (locs : List Loc) (ls : Array Slot), Rel p0 q0 g0 h0 S M → va_P (dC, dI) cls (wW Z Y cI cP cL cJ cZ p0 q0 g0 h0 ou S M f) H → va_D (A0 s) (wW Z Y cI cP cL cJ cZ p0 q0 g0 h0 ou S M f) → va_S (A0 s) s.heap H locs → lv_has ls 7 [(0, .ref b), (1, .ref (Z 0)), (2, .ref (Y 0)), (3, .ref ou), (4, .int (nI (4 + 4 * it)))] → W p l e room_1 s m #[Value.ref b] below meth c H locs (29 + it) (236 + 6 * it) Q (F0 m 1058 ls [])) : W p l e room_1 s m #[Value.ref b] below meth c H locs (28 + it) (230 + 6 * it) Q (F0 m 694 ls []) := by
  obtain ⟨k, S1, M1, f1, r, hWp, hMr, hk, hout, R1⟩ := s_open (l := l) (dC := dC) (dI := dI) (Z := Z) (Y := Y) (cI := cI) (cP := cP) (cJ := cJ) (cZ := cZ) (cL := cL) (ou := ou) (f := f) hlt ok R (xs (4 + 4 * it + 1))
  refine lv_aload_n hx hb d_law_694 rfl (lv_at hl 1 rfl) ?_
  refine lv_aload_n hx hb d_law_695 rfl (lv_at hl 0 rfl) ?_
  refine lv_iload hx hb d_law_696 (lv_at hl 4 rfl) ?_
  refine lv_iconst (v := (nI 1)) hx hb d_law_698 (by decide) ?_
  refine lv_iadd hx hb d_law_699 ?_
  refine x_i (y := nI (4 + 4 * it + 1)) (nI_pl _ _) ?_
  refine va_sld (A := A0 s) hx hb hX hbl (Nat.not_le.mpr hbl) hS (vp_in_nI (by omega) (by omega)) d_law_700 ?_
  refine x_i (y := xs (4 + 4 * it + 1)) (by rw [nI_clamp (by omega)]) ?_
  refine lv_aload_n hx hb d_law_701 rfl (lv_at hl 3 rfl) ?_
  refine wp_S (As := [.ref (Z 0), .int (xs (4 + 4 * it + 1)), .ref ou]) (rest := []) (A := A0 s) ⟨hx, hb, hml, hown, hts⟩ hWp (vx_cwSW 3 hts (al_W k_379 k_380 k_0 kw_open) rfl rfl rfl (by decide +kernel) ⟨Nat.le_of_ble_eq_true rfl, Nat.le_of_ble_eq_true rfl⟩) (w_l hP) (hK.sub [0, 1, 2] rfl) (w_dl hD) hS (fun U hU hW => ⟨xx_to hW (fun a ha => by rw [hU]; exact hS.2.1 a ha (Nat.not_le.mpr ha)) hxx, xnc_to hW.alike hnc⟩) rfl hl.1 rfl (lv_room (Nat.le_of_ble_eq_true rfl)) d_law_702 ⟨by show 28 + it + 1 ≤ 671672; omega, by show 230 + 6 * it + 6 ≤ 7081053; omega⟩ (fun H locs hP1 hkp _ hS => ?_)
  have hP := hP1.app (w_keep (w_r hP) hD hkp)
  have hD : va_D (A0 s) (wW Z Y cI cP cL cJ cZ p0 q0 g0 h0 ou S1 M f1) := w_addr hD (w_adW S S1 M M f f1)
  refine lv_istore (lv' := [(5, .int k), (0, .ref b), (1, .ref (Z 0)), (2, .ref (Y 0)), (3, .ref ou), (4, .int (nI (4 + 4 * it)))]) hx hb d_law_705 hl (by decide) rfl (fun ls hl => ?_)
  refine lv_aload_n hx hb d_law_707 rfl (lv_at hl 3 rfl) ?_
  refine lv_aload_n hx hb d_law_708 rfl (lv_at hl 1 rfl) ?_
  refine lv_iload hx hb d_law_709 (lv_at hl 5 rfl) ?_
  refine lv_iconst (v := (nI 1)) hx hb d_law_711 (by decide) ?_
  refine lv_iadd hx hb d_law_712 ?_
  refine x_i (y := nI (4 + 4 * it + 1)) (nI_pl _ _) ?_
  refine va_sld (A := A0 s) hx hb hX hbl (Nat.not_le.mpr hbl) hS (vp_in_nI (by omega) (by omega)) d_law_713 ?_
  refine x_i (y := xs (4 + 4 * it + 1)) (by rw [nI_clamp (by omega)]) ?_
  refine wr_V (As := [.int (xs (4 + 4 * it + 1))]) (rest := []) (b := Y 0) (A := A0 s) ⟨hx, hb, hml, hown, hts⟩ hMr (cwV 1 hts (al_V k_577 k_578 k_579 k_4 k_580) rfl rfl rfl (by decide +kernel) ⟨Nat.le_of_ble_eq_true rfl, Nat.le_of_ble_eq_true rfl⟩) (va_recv hK (w_r hP) (ci := 3) (q0 := 0) rfl rfl) (w_r hP) (hK.sub [3, 4] rfl) (w_dr hD) hS rfl hl.1 rfl (lv_room (Nat.le_of_ble_eq_true rfl)) d_law_714 ⟨by show 28 + it + 1 ≤ 671672; omega, by show 230 + 6 * it + 6 ≤ 7081053; omega⟩ (fun H locs hP1 hkp _ hS => ?_)
  have hP := (w_keepR (w_l hP) hD hkp).app hP1
  have hD : va_D (A0 s) (wW Z Y cI cP cL cJ cZ p0 q0 g0 h0 ou S1 M1 f1) := w_addr hD (w_adW S1 S1 M M1 f1 f1)
  refine lv_istore (lv' := [(6, .int r), (5, .int k), (0, .ref b), (1, .ref (Z 0)), (2, .ref (Y 0)), (3, .ref ou), (4, .int (nI (4 + 4 * it)))]) hx hb d_law_717 hl (by decide) rfl (fun ls hl => ?_)
  refine lv_aload_n hx hb d_law_719 rfl (lv_at hl 4 rfl) ?_
  refine ro_V (As := []) (rest := []) (b := Y 0) ⟨hx, hb, hml, hown, hts⟩ (c_M_thrown l dC dI Y cJ cZ p0 q0 g0 h0 M1) (cwV 0 hts (al_V k_516 k_517 k_518 k_4 k_519) rfl rfl rfl (by decide +kernel) ⟨Nat.le_of_ble_eq_true rfl, Nat.le_of_ble_eq_true rfl⟩) (fun U g mk a h => ⟨h.1, va_K.moved (u := U) (U := U.calling g mk a) (Vm.Alike.refl U.vm) h.2⟩) (va_recv hK (w_r hP) (ci := 3) (q0 := 0) rfl rfl) (fun U hU hW => ⟨by rw [hU]; exact w_r hP, va_K.moved hW.alike (hK.sub [3, 4] rfl)⟩) rfl hl.1 rfl (lv_room (Nat.le_of_ble_eq_true rfl)) d_law_720 ⟨by show 28 + it + 1 ≤ 671672; omega, by show 230 + 6 * it + 6 ≤ 7081053; omega⟩ ?_
  refine x_i (y := k) hk ?_
  refine lv_iload hx hb d_law_723 (lv_at hl 1 rfl) ?_
  refine lv_icmp_eq (tgt := 730) hx hb d_law_725 (by decide) (fun _ => ?_) (fun c_ => absurd (rfl) c_)
  refine lv_iload hx hb d_law_730 (lv_at hl 1 rfl) ?_
  refine lv_if_ne (tgt := 754) hx hb d_law_732 (by decide) (fun c732 => ?_) (fun c732 => ?_)
  · refine lv_goto (tgt := 1058) hx hb d_law_754 (by decide) ?_
    refine W.cs (cells' := 29 + it) (slots' := 236 + 6 * it) (by omega) (by omega) ?_
    exact K S1 M1 f1 H locs ls R1 hP hD hS (lv_sub hl [2, 3, 4, 5, 6] rfl)
  · refine lv_aload_n hx hb d_law_735 rfl (lv_at hl 5 rfl) ?_
    refine lv_iconst (v := 0) hx hb d_law_736 (by decide) ?_
    refine va_lald (n := 1) (f := f1) hx hb hK hP 13 2 rfl rfl (vp_in_nI (n := 0) (N := 1) (by decide) (by decide)) d_law_737 ?_
    refine x_l (y := (if r = 0 then 0 else 1)) (hout c732) ?_
    refine lv_iload hx hb d_law_738 (lv_at hl 0 rfl) ?_
    refine lv_if_eq (tgt := 747) hx hb d_law_740 (by decide) (fun hr0 => ?_) (fun hr0 => ?_)
    · refine lv_lconst (v := 0) hx hb d_law_747 (by decide) ?_
      refine W.lcmp hx hb d_law_748 ?_
      refine lv_if_eq (tgt := 754) hx hb d_law_749 (by decide) (fun _ => ?_) (fun c_ => absurd (by first | (rw [if_pos hr0]; exact lg_cmp_self _) | (rw [if_neg hr0]; exact lg_cmp_self _)) c_)
      refine lv_goto (tgt := 1058) hx hb d_law_754 (by decide) ?_
      refine W.cs (cells' := 29 + it) (slots' := 236 + 6 * it) (by omega) (by omega) ?_
      exact K S1 M1 f1 H locs ls R1 hP hD hS (lv_sub hl [2, 3, 4, 5, 6] rfl)
    · refine lv_lconst (v := 1) hx hb d_law_743 (by decide) ?_
      refine lv_goto (tgt := 748) hx hb d_law_744 (by decide) ?_
      refine W.lcmp hx hb d_law_748 ?_
      refine lv_if_eq (tgt := 754) hx hb d_law_749 (by decide) (fun _ => ?_) (fun c_ => absurd (by first | (rw [if_pos hr0]; exact lg_cmp_self _) | (rw [if_neg hr0]; exact lg_cmp_self _)) c_)
      refine lv_goto (tgt := 1058) hx hb d_law_754 (by decide) ?_
      refine W.cs (cells' := 29 + it) (slots' := 236 + 6 * it) (by omega) (by omega) ?_
      exact K S1 M1 f1 H locs ls R1 hP hD hS (lv_sub hl [2, 3, 4, 5, 6] rfl)
set_option maxRecDepth 100000 in
set_option maxHeartbeats 4000000 in
theorem lw_show (hx : p.tables.exec = Jvm.exec) (hb : c.code = code) (hml : c.maxLocals = 7) (hown : s.vm.findClass "DealtSecretLaw" = some m.cls) (hts : ∀ w ∈ AL, w.before #[Value.ref b] s = true) (hX : va_X b n0 xs s s.heap) (hbl : b < s.heap.size) (hn0 : n0 ≤ 2052) (hK : va_K (dC, dI) cls (tysW cI cP cL cJ cZ) s) (hxx : xx s) (hnc : xnc s) (hlt : l.stackTraces = false) (ok : okG p0 q0 g0 h0) (hq : mz_P q0) (hit : 4 + 4 * it + 4 ≤ n0) (R : Rel p0 q0 g0 h0 S M) (hP : va_P (dC, dI) cls (wW Z Y cI cP cL cJ cZ p0 q0 g0 h0 ou S M f) H) (hD : va_D (A0 s) (wW Z Y cI cP cL cJ cZ p0 q0 g0 h0 ou S M f)) (hS : va_S (A0 s) s.heap H locs) (hl : lv_has ls 7 [(0, .ref b), (1, .ref (Z 0)), (2, .ref (Y 0)), (3, .ref ou), (4, .int (nI (4 + 4 * it)))]) (K : ∀ (S M : Nat → Nat → Int32) (f : Nat → Int64) (H : Heap) (locs : List Loc) (ls : Array Slot), Rel p0 q0 g0 h0 S M → va_P (dC, dI) cls (wW Z Y cI cP cL cJ cZ p0 q0 g0 h0 ou S M f) H → va_D (A0 s) (wW Z Y cI cP cL cJ cZ p0 q0 g0 h0 ou S M f) → va_S (A0 s) s.heap H locs → lv_has ls 7 [(0, .ref b), (1, .ref (Z 0)), (2, .ref (Y 0)), (3, .ref ou), (4, .int (nI (4 + 4 * it)))] → W p l e room_1 s m #[Value.ref b] below meth c H locs (29 + it) (236 + 6 * it) Q (F0 m 1058 ls [])) : W p l e room_1 s m #[Value.ref b] below meth c H locs (28 + it) (230 + 6 * it) Q (F0 m 757 ls []) := by
  obtain ⟨k, S1, M1, f1, r, hWp, hMr, hk, hout, R1⟩ := s_show (l := l) (dC := dC) (dI := dI) (Z := Z) (Y := Y) (cI := cI) (cP := cP) (cJ := cJ) (cZ := cZ) (cL := cL) (ou := ou) (f := f) hlt ok R (xs (4 + 4 * it + 1)) (xs (4 + 4 * it + 2)) (xs (4 + 4 * it + 3))
  refine lv_aload_n hx hb d_law_757 rfl (lv_at hl 1 rfl) ?_
  refine lv_aload_n hx hb d_law_758 rfl (lv_at hl 0 rfl) ?_
  refine lv_iload hx hb d_law_759 (lv_at hl 4 rfl) ?_
  refine lv_iconst (v := (nI 1)) hx hb d_law_761 (by decide) ?_
  refine lv_iadd hx hb d_law_762 ?_
  refine x_i (y := nI (4 + 4 * it + 1)) (nI_pl _ _) ?_
  refine va_sld (A := A0 s) hx hb hX hbl (Nat.not_le.mpr hbl) hS (vp_in_nI (by omega) (by omega)) d_law_763 ?_
  refine x_i (y := xs (4 + 4 * it + 1)) (by rw [nI_clamp (by omega)]) ?_
  refine lv_aload_n hx hb d_law_764 rfl (lv_at hl 0 rfl) ?_
  refine lv_iload hx hb d_law_765 (lv_at hl 4 rfl) ?_
  refine lv_iconst (v := (nI 2)) hx hb d_law_767 (by decide) ?_
  refine lv_iadd hx hb d_law_768 ?_
  refine x_i (y := nI (4 + 4 * it + 2)) (nI_pl _ _) ?_
  refine va_sld (A := A0 s) hx hb hX hbl (Nat.not_le.mpr hbl) hS (vp_in_nI (by omega) (by omega)) d_law_769 ?_
  refine x_i (y := xs (4 + 4 * it + 2)) (by rw [nI_clamp (by omega)]) ?_
  refine lv_aload_n hx hb d_law_770 rfl (lv_at hl 0 rfl) ?_
  refine lv_iload hx hb d_law_771 (lv_at hl 4 rfl) ?_
  refine lv_iconst (v := (nI 3)) hx hb d_law_773 (by decide) ?_
  refine lv_iadd hx hb d_law_774 ?_
  refine x_i (y := nI (4 + 4 * it + 3)) (nI_pl _ _) ?_
  refine va_sld (A := A0 s) hx hb hX hbl (Nat.not_le.mpr hbl) hS (vp_in_nI (by omega) (by omega)) d_law_775 ?_
  refine x_i (y := xs (4 + 4 * it + 3)) (by rw [nI_clamp (by omega)]) ?_
  refine lv_aload_n hx hb d_law_776 rfl (lv_at hl 3 rfl) ?_
  refine wp_S (As := [.ref (Z 0), .int (xs (4 + 4 * it + 1)), .int (xs (4 + 4 * it + 2)), .int (xs (4 + 4 * it + 3)), .ref ou]) (rest := []) (A := A0 s) ⟨hx, hb, hml, hown, hts⟩ hWp (vx_cwSW 5 hts (al_W k_402 k_403 k_0 kw_show) rfl rfl rfl (by decide +kernel) ⟨Nat.le_of_ble_eq_true rfl, Nat.le_of_ble_eq_true rfl⟩) (w_l hP) (hK.sub [0, 1, 2] rfl) (w_dl hD) hS (fun U hU hW => ⟨xx_to hW (fun a ha => by rw [hU]; exact hS.2.1 a ha (Nat.not_le.mpr ha)) hxx, xnc_to hW.alike hnc⟩) rfl hl.1 rfl (lv_room (Nat.le_of_ble_eq_true rfl)) d_law_777 ⟨by show 28 + it + 1 ≤ 671672; omega, by show 230 + 6 * it + 6 ≤ 7081053; omega⟩ (fun H locs hP1 hkp _ hS => ?_)
  have hP := hP1.app (w_keep (w_r hP) hD hkp)
  have hD : va_D (A0 s) (wW Z Y cI cP cL cJ cZ p0 q0 g0 h0 ou S1 M f1) := w_addr hD (w_adW S S1 M M f f1)
  refine lv_istore (lv' := [(5, .int k), (0, .ref b), (1, .ref (Z 0)), (2, .ref (Y 0)), (3, .ref ou), (4, .int (nI (4 + 4 * it)))]) hx hb d_law_780 hl (by decide) rfl (fun ls hl => ?_)
  refine lv_aload_n hx hb d_law_782 rfl (lv_at hl 3 rfl) ?_
  refine lv_aload_n hx hb d_law_783 rfl (lv_at hl 1 rfl) ?_
  refine lv_iload hx hb d_law_784 (lv_at hl 5 rfl) ?_
  refine lv_iconst (v := (nI 1)) hx hb d_law_786 (by decide) ?_
  refine lv_iadd hx hb d_law_787 ?_
  refine x_i (y := nI (4 + 4 * it + 1)) (nI_pl _ _) ?_
  refine va_sld (A := A0 s) hx hb hX hbl (Nat.not_le.mpr hbl) hS (vp_in_nI (by omega) (by omega)) d_law_788 ?_
  refine x_i (y := xs (4 + 4 * it + 1)) (by rw [nI_clamp (by omega)]) ?_
  refine lv_aload_n hx hb d_law_789 rfl (lv_at hl 1 rfl) ?_
  refine lv_iload hx hb d_law_790 (lv_at hl 5 rfl) ?_
  refine lv_iconst (v := (nI 2)) hx hb d_law_792 (by decide) ?_
  refine lv_iadd hx hb d_law_793 ?_
  refine x_i (y := nI (4 + 4 * it + 2)) (nI_pl _ _) ?_
  refine va_sld (A := A0 s) hx hb hX hbl (Nat.not_le.mpr hbl) hS (vp_in_nI (by omega) (by omega)) d_law_794 ?_
  refine x_i (y := xs (4 + 4 * it + 2)) (by rw [nI_clamp (by omega)]) ?_
  refine lv_aload_n hx hb d_law_795 rfl (lv_at hl 1 rfl) ?_
  refine lv_iload hx hb d_law_796 (lv_at hl 5 rfl) ?_
  refine lv_iconst (v := (nI 3)) hx hb d_law_798 (by decide) ?_
  refine lv_iadd hx hb d_law_799 ?_
  refine x_i (y := nI (4 + 4 * it + 3)) (nI_pl _ _) ?_
  refine va_sld (A := A0 s) hx hb hX hbl (Nat.not_le.mpr hbl) hS (vp_in_nI (by omega) (by omega)) d_law_800 ?_
  refine x_i (y := xs (4 + 4 * it + 3)) (by rw [nI_clamp (by omega)]) ?_
  refine wr_V (As := [.int (xs (4 + 4 * it + 1)), .int (xs (4 + 4 * it + 2)), .int (xs (4 + 4 * it + 3))]) (rest := []) (b := Y 0) (A := A0 s) ⟨hx, hb, hml, hown, hts⟩ hMr (cwV 3 hts (al_V k_590 k_591 k_592 k_4 k_593) rfl rfl rfl (by decide +kernel) ⟨Nat.le_of_ble_eq_true rfl, Nat.le_of_ble_eq_true rfl⟩) (va_recv hK (w_r hP) (ci := 3) (q0 := 0) rfl rfl) (w_r hP) (hK.sub [3, 4] rfl) (w_dr hD) hS rfl hl.1 rfl (lv_room (Nat.le_of_ble_eq_true rfl)) d_law_801 ⟨by show 28 + it + 1 ≤ 671672; omega, by show 230 + 6 * it + 6 ≤ 7081053; omega⟩ (fun H locs hP1 hkp _ hS => ?_)
  have hP := (w_keepR (w_l hP) hD hkp).app hP1
  have hD : va_D (A0 s) (wW Z Y cI cP cL cJ cZ p0 q0 g0 h0 ou S1 M1 f1) := w_addr hD (w_adW S1 S1 M M1 f1 f1)
  refine lv_istore (lv' := [(6, .int r), (5, .int k), (0, .ref b), (1, .ref (Z 0)), (2, .ref (Y 0)), (3, .ref ou), (4, .int (nI (4 + 4 * it)))]) hx hb d_law_804 hl (by decide) rfl (fun ls hl => ?_)
  refine lv_aload_n hx hb d_law_806 rfl (lv_at hl 4 rfl) ?_
  refine ro_V (As := []) (rest := []) (b := Y 0) ⟨hx, hb, hml, hown, hts⟩ (c_M_thrown l dC dI Y cJ cZ p0 q0 g0 h0 M1) (cwV 0 hts (al_V k_516 k_517 k_518 k_4 k_519) rfl rfl rfl (by decide +kernel) ⟨Nat.le_of_ble_eq_true rfl, Nat.le_of_ble_eq_true rfl⟩) (fun U g mk a h => ⟨h.1, va_K.moved (u := U) (U := U.calling g mk a) (Vm.Alike.refl U.vm) h.2⟩) (va_recv hK (w_r hP) (ci := 3) (q0 := 0) rfl rfl) (fun U hU hW => ⟨by rw [hU]; exact w_r hP, va_K.moved hW.alike (hK.sub [3, 4] rfl)⟩) rfl hl.1 rfl (lv_room (Nat.le_of_ble_eq_true rfl)) d_law_807 ⟨by show 28 + it + 1 ≤ 671672; omega, by show 230 + 6 * it + 6 ≤ 7081053; omega⟩ ?_
  refine x_i (y := k) hk ?_
  refine lv_iload hx hb d_law_810 (lv_at hl 1 rfl) ?_
  refine lv_icmp_eq (tgt := 817) hx hb d_law_812 (by decide) (fun _ => ?_) (fun c_ => absurd (rfl) c_)
  refine lv_iload hx hb d_law_817 (lv_at hl 1 rfl) ?_
  refine lv_if_ne (tgt := 841) hx hb d_law_819 (by decide) (fun c819 => ?_) (fun c819 => ?_)
  · refine lv_goto (tgt := 1058) hx hb d_law_841 (by decide) ?_
    refine W.cs (cells' := 29 + it) (slots' := 236 + 6 * it) (by omega) (by omega) ?_
    exact K S1 M1 f1 H locs ls R1 hP hD hS (lv_sub hl [2, 3, 4, 5, 6] rfl)
  · refine lv_aload_n hx hb d_law_822 rfl (lv_at hl 5 rfl) ?_
    refine lv_iconst (v := 0) hx hb d_law_823 (by decide) ?_
    refine va_lald (n := 1) (f := f1) hx hb hK hP 13 2 rfl rfl (vp_in_nI (n := 0) (N := 1) (by decide) (by decide)) d_law_824 ?_
    refine x_l (y := (if r = 0 then 0 else 1)) (hout c819) ?_
    refine lv_iload hx hb d_law_825 (lv_at hl 0 rfl) ?_
    refine lv_if_eq (tgt := 834) hx hb d_law_827 (by decide) (fun hr0 => ?_) (fun hr0 => ?_)
    · refine lv_lconst (v := 0) hx hb d_law_834 (by decide) ?_
      refine W.lcmp hx hb d_law_835 ?_
      refine lv_if_eq (tgt := 841) hx hb d_law_836 (by decide) (fun _ => ?_) (fun c_ => absurd (by first | (rw [if_pos hr0]; exact lg_cmp_self _) | (rw [if_neg hr0]; exact lg_cmp_self _)) c_)
      refine lv_goto (tgt := 1058) hx hb d_law_841 (by decide) ?_
      refine W.cs (cells' := 29 + it) (slots' := 236 + 6 * it) (by omega) (by omega) ?_
      exact K S1 M1 f1 H locs ls R1 hP hD hS (lv_sub hl [2, 3, 4, 5, 6] rfl)
    · refine lv_lconst (v := 1) hx hb d_law_830 (by decide) ?_
      refine lv_goto (tgt := 835) hx hb d_law_831 (by decide) ?_
      refine W.lcmp hx hb d_law_835 ?_
      refine lv_if_eq (tgt := 841) hx hb d_law_836 (by decide) (fun _ => ?_) (fun c_ => absurd (by first | (rw [if_pos hr0]; exact lg_cmp_self _) | (rw [if_neg hr0]; exact lg_cmp_self _)) c_)
      refine lv_goto (tgt := 1058) hx hb d_law_841 (by decide) ?_
      refine W.cs (cells' := 29 + it) (slots' := 236 + 6 * it) (by omega) (by omega) ?_
      exact K S1 M1 f1 H locs ls R1 hP hD hS (lv_sub hl [2, 3, 4, 5, 6] rfl)
end LW
