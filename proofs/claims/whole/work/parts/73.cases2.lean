section LW
variable {p : Program} {l : Launch} {e : Env} {s : State} {m : MethodId} {below : List Frame} {meth : Method} {c : Code} {H : Heap} {locs : List Loc} {Q : State → Prop} {ls : Array Slot} {b n0 it : Nat} {xs : Nat → Int32}
variable {dC : Nat → ClassId} {dI : Nat → Nat → Nat} {Z Y : Nat → Nat} {cI cP cL cJ cZ : ClassId} {p0 q0 g0 h0 ou : Nat} {S M : Nat → Nat → Int32} {f : Nat → Int64}
set_option maxRecDepth 100000 in
set_option maxHeartbeats 4000000 in
theorem lw_begin (hx : p.tables.exec = Jvm.exec) (hb : c.code = code) (hml : c.maxLocals = 7) (hown : s.vm.findClass "DealtSecretLaw" = some m.cls) (hts : ∀ w ∈ AL, w.before #[Value.ref b] s = true) (hX : va_X b n0 xs s s.heap) (hbl : b < s.heap.size) (hn0 : n0 ≤ 2052) (hK : va_K (dC, dI) cls (tysW cI cP cL cJ cZ) s) (hxx : xx s) (hnc : xnc s) (hlt : l.stackTraces = false) (ok : okG p0 q0 g0 h0) (hq : mz_P q0) (hit : 4 + 4 * it + 4 ≤ n0) (R : Rel p0 q0 g0 h0 S M) (hP : va_P (dC, dI) cls (wW Z Y cI cP cL cJ cZ p0 q0 g0 h0 ou S M f) H) (hD : va_D (A0 s) (wW Z Y cI cP cL cJ cZ p0 q0 g0 h0 ou S M f)) (hS : va_S (A0 s) s.heap H locs) (hl : lv_has ls 7 [(0, .ref b), (1, .ref (Z 0)), (2, .ref (Y 0)), (3, .ref ou), (4, .int (nI (4 + 4 * it)))]) (K : ∀ (S M : Nat → Nat → Int32) (f : Nat → Int64) (H : Heap) (locs : List Loc) (ls : Array Slot), Rel p0 q0 g0 h0 S M → va_P (dC, dI) cls (wW Z Y cI cP cL cJ cZ p0 q0 g0 h0 ou S M f) H → va_D (A0 s) (wW Z Y cI cP cL cJ cZ p0 q0 g0 h0 ou S M f) → va_S (A0 s) s.heap H locs → lv_has ls 7 [(0, .ref b), (1, .ref (Z 0)), (2, .ref (Y 0)), (3, .ref ou), (4, .int (nI (4 + 4 * it)))] → W p l e room_1 s m #[Value.ref b] below meth c H locs (29 + it) (236 + 6 * it) Q (F0 m 1058 ls [])) : W p l e room_1 s m #[Value.ref b] below meth c H locs (28 + it) (230 + 6 * it) Q (F0 m 193 ls []) := by
  have h3 : (if xs (4 + 4 * it + 3) = 0 then (0 : Int32) else 1) = 0 ∨ (if xs (4 + 4 * it + 3) = 0 then (0 : Int32) else 1) = 1 := by by_cases q : xs (4 + 4 * it + 3) = 0 <;> simp [q]
  obtain ⟨k, S1, M1, hWp, hMr, hk, R1⟩ := s_begin (l := l) (dC := dC) (dI := dI) (Z := Z) (Y := Y) (cI := cI) (cP := cP) (cJ := cJ) (cZ := cZ) (cL := cL) (ou := ou) (f := f) hlt ok R (xs (4 + 4 * it + 1)) (xs (4 + 4 * it + 2)) (if xs (4 + 4 * it + 3) = 0 then (0 : Int32) else 1) h3
  refine lv_aload_n hx hb d_law_193 rfl (lv_at hl 1 rfl) ?_
  refine lv_aload_n hx hb d_law_194 rfl (lv_at hl 0 rfl) ?_
  refine lv_iload hx hb d_law_195 (lv_at hl 4 rfl) ?_
  refine lv_iconst (v := (nI 1)) hx hb d_law_197 (by decide) ?_
  refine lv_iadd hx hb d_law_198 ?_
  refine x_i (y := nI (4 + 4 * it + 1)) (nI_pl _ _) ?_
  refine va_sld (A := A0 s) hx hb hX hbl (Nat.not_le.mpr hbl) hS (vp_in_nI (by omega) (by omega)) d_law_199 ?_
  refine x_i (y := xs (4 + 4 * it + 1)) (by rw [nI_clamp (by omega)]) ?_
  refine lv_aload_n hx hb d_law_200 rfl (lv_at hl 0 rfl) ?_
  refine lv_iload hx hb d_law_201 (lv_at hl 4 rfl) ?_
  refine lv_iconst (v := (nI 2)) hx hb d_law_203 (by decide) ?_
  refine lv_iadd hx hb d_law_204 ?_
  refine x_i (y := nI (4 + 4 * it + 2)) (nI_pl _ _) ?_
  refine va_sld (A := A0 s) hx hb hX hbl (Nat.not_le.mpr hbl) hS (vp_in_nI (by omega) (by omega)) d_law_205 ?_
  refine x_i (y := xs (4 + 4 * it + 2)) (by rw [nI_clamp (by omega)]) ?_
  refine lv_aload_n hx hb d_law_206 rfl (lv_at hl 0 rfl) ?_
  refine lv_iload hx hb d_law_207 (lv_at hl 4 rfl) ?_
  refine lv_iconst (v := (nI 3)) hx hb d_law_209 (by decide) ?_
  refine lv_iadd hx hb d_law_210 ?_
  refine x_i (y := nI (4 + 4 * it + 3)) (nI_pl _ _) ?_
  refine va_sld (A := A0 s) hx hb hX hbl (Nat.not_le.mpr hbl) hS (vp_in_nI (by omega) (by omega)) d_law_211 ?_
  refine x_i (y := xs (4 + 4 * it + 3)) (by rw [nI_clamp (by omega)]) ?_
  refine lv_if_eq (tgt := 219) hx hb d_law_212 (by decide) (fun c212 => ?_) (fun c212 => ?_)
  · refine lv_iconst (v := 0) hx hb d_law_219 (by decide) ?_
    refine x_i (y := if xs (4 + 4 * it + 3) = 0 then (0 : Int32) else 1) ((if_pos c212).symm) ?_
    refine wp_S (As := [.ref (Z 0), .int (xs (4 + 4 * it + 1)), .int (xs (4 + 4 * it + 2)), .int (if xs (4 + 4 * it + 3) = 0 then (0 : Int32) else 1)]) (rest := []) (A := A0 s) ⟨hx, hb, hml, hown, hts⟩ hWp (vx_cwSW 4 hts (al_W k_197 k_198 k_0 kw_begin) rfl rfl rfl (by decide +kernel) ⟨Nat.le_of_ble_eq_true rfl, Nat.le_of_ble_eq_true rfl⟩) (w_l hP) (hK.sub [0, 1, 2] rfl) (w_dl hD) hS (fun U hU hW => ⟨xx_to hW (fun a ha => by rw [hU]; exact hS.2.1 a ha (Nat.not_le.mpr ha)) hxx, xnc_to hW.alike hnc⟩) rfl hl.1 rfl (lv_room (Nat.le_of_ble_eq_true rfl)) d_law_220 ⟨by show 28 + it + 1 ≤ 671672; omega, by show 230 + 6 * it + 6 ≤ 7081053; omega⟩ (fun H locs hP1 hkp _ hS => ?_)
    have hP := hP1.app (w_keep (w_r hP) hD hkp)
    have hD : va_D (A0 s) (wW Z Y cI cP cL cJ cZ p0 q0 g0 h0 ou S1 M f) := w_addr hD (w_adW S S1 M M f f)
    refine lv_istore (lv' := [(5, .int k), (0, .ref b), (1, .ref (Z 0)), (2, .ref (Y 0)), (3, .ref ou), (4, .int (nI (4 + 4 * it)))]) hx hb d_law_223 hl (by decide) rfl (fun ls hl => ?_)
    refine lv_aload_n hx hb d_law_225 rfl (lv_at hl 3 rfl) ?_
    refine lv_aload_n hx hb d_law_226 rfl (lv_at hl 1 rfl) ?_
    refine lv_iload hx hb d_law_227 (lv_at hl 5 rfl) ?_
    refine lv_iconst (v := (nI 1)) hx hb d_law_229 (by decide) ?_
    refine lv_iadd hx hb d_law_230 ?_
    refine x_i (y := nI (4 + 4 * it + 1)) (nI_pl _ _) ?_
    refine va_sld (A := A0 s) hx hb hX hbl (Nat.not_le.mpr hbl) hS (vp_in_nI (by omega) (by omega)) d_law_231 ?_
    refine x_i (y := xs (4 + 4 * it + 1)) (by rw [nI_clamp (by omega)]) ?_
    refine lv_aload_n hx hb d_law_232 rfl (lv_at hl 1 rfl) ?_
    refine lv_iload hx hb d_law_233 (lv_at hl 5 rfl) ?_
    refine lv_iconst (v := (nI 2)) hx hb d_law_235 (by decide) ?_
    refine lv_iadd hx hb d_law_236 ?_
    refine x_i (y := nI (4 + 4 * it + 2)) (nI_pl _ _) ?_
    refine va_sld (A := A0 s) hx hb hX hbl (Nat.not_le.mpr hbl) hS (vp_in_nI (by omega) (by omega)) d_law_237 ?_
    refine x_i (y := xs (4 + 4 * it + 2)) (by rw [nI_clamp (by omega)]) ?_
    refine lv_aload_n hx hb d_law_238 rfl (lv_at hl 1 rfl) ?_
    refine lv_iload hx hb d_law_239 (lv_at hl 5 rfl) ?_
    refine lv_iconst (v := (nI 3)) hx hb d_law_241 (by decide) ?_
    refine lv_iadd hx hb d_law_242 ?_
    refine x_i (y := nI (4 + 4 * it + 3)) (nI_pl _ _) ?_
    refine va_sld (A := A0 s) hx hb hX hbl (Nat.not_le.mpr hbl) hS (vp_in_nI (by omega) (by omega)) d_law_243 ?_
    refine x_i (y := xs (4 + 4 * it + 3)) (by rw [nI_clamp (by omega)]) ?_
    refine lv_if_eq (tgt := 251) hx hb d_law_244 (by decide) (fun c244 => ?_) (fun c244 => ?_)
    · refine lv_iconst (v := 0) hx hb d_law_251 (by decide) ?_
      refine x_i (y := if xs (4 + 4 * it + 3) = 0 then (0 : Int32) else 1) ((if_pos c244).symm) ?_
      refine wr_V (As := [.int (xs (4 + 4 * it + 1)), .int (xs (4 + 4 * it + 2)), .int (if xs (4 + 4 * it + 3) = 0 then (0 : Int32) else 1)]) (rest := []) (b := Y 0) (A := A0 s) ⟨hx, hb, hml, hown, hts⟩ hMr (cwV 3 hts (al_V k_524 k_525 k_526 k_4 k_527) rfl rfl rfl (by decide +kernel) ⟨Nat.le_of_ble_eq_true rfl, Nat.le_of_ble_eq_true rfl⟩) (va_recv hK (w_r hP) (ci := 3) (q0 := 0) rfl rfl) (w_r hP) (hK.sub [3, 4] rfl) (w_dr hD) hS rfl hl.1 rfl (lv_room (Nat.le_of_ble_eq_true rfl)) d_law_252 ⟨by show 28 + it + 1 ≤ 671672; omega, by show 230 + 6 * it + 6 ≤ 7081053; omega⟩ (fun H locs hP1 hkp _ hS => ?_)
      have hP := (w_keepR (w_l hP) hD hkp).app hP1
      have hD : va_D (A0 s) (wW Z Y cI cP cL cJ cZ p0 q0 g0 h0 ou S1 M1 f) := w_addr hD (w_adW S1 S1 M M1 f f)
      refine lv_aload_n hx hb d_law_255 rfl (lv_at hl 3 rfl) ?_
      refine ro_V (As := []) (rest := []) (b := Y 0) ⟨hx, hb, hml, hown, hts⟩ (c_M_thrown l dC dI Y cJ cZ p0 q0 g0 h0 M1) (cwV 0 hts (al_V k_516 k_517 k_518 k_4 k_519) rfl rfl rfl (by decide +kernel) ⟨Nat.le_of_ble_eq_true rfl, Nat.le_of_ble_eq_true rfl⟩) (fun U g mk a h => ⟨h.1, va_K.moved (u := U) (U := U.calling g mk a) (Vm.Alike.refl U.vm) h.2⟩) (va_recv hK (w_r hP) (ci := 3) (q0 := 0) rfl rfl) (fun U hU hW => ⟨by rw [hU]; exact w_r hP, va_K.moved hW.alike (hK.sub [3, 4] rfl)⟩) rfl hl.1 rfl (lv_room (Nat.le_of_ble_eq_true rfl)) d_law_256 ⟨by show 28 + it + 1 ≤ 671672; omega, by show 230 + 6 * it + 6 ≤ 7081053; omega⟩ ?_
      refine x_i (y := k) hk ?_
      refine lv_iload hx hb d_law_259 (lv_at hl 0 rfl) ?_
      refine lv_icmp_eq (tgt := 266) hx hb d_law_261 (by decide) (fun _ => ?_) (fun c_ => absurd (rfl) c_)
      refine lv_goto (tgt := 1058) hx hb d_law_266 (by decide) ?_
      refine W.cs (cells' := 29 + it) (slots' := 236 + 6 * it) (by omega) (by omega) ?_
      exact K S1 M1 f H locs ls R1 hP hD hS (lv_sub hl [1, 2, 3, 4, 5] rfl)
    · refine lv_iconst (v := 1) hx hb d_law_247 (by decide) ?_
      refine x_i (y := if xs (4 + 4 * it + 3) = 0 then (0 : Int32) else 1) ((if_neg c244).symm) ?_
      refine lv_goto (tgt := 252) hx hb d_law_248 (by decide) ?_
      refine wr_V (As := [.int (xs (4 + 4 * it + 1)), .int (xs (4 + 4 * it + 2)), .int (if xs (4 + 4 * it + 3) = 0 then (0 : Int32) else 1)]) (rest := []) (b := Y 0) (A := A0 s) ⟨hx, hb, hml, hown, hts⟩ hMr (cwV 3 hts (al_V k_524 k_525 k_526 k_4 k_527) rfl rfl rfl (by decide +kernel) ⟨Nat.le_of_ble_eq_true rfl, Nat.le_of_ble_eq_true rfl⟩) (va_recv hK (w_r hP) (ci := 3) (q0 := 0) rfl rfl) (w_r hP) (hK.sub [3, 4] rfl) (w_dr hD) hS rfl hl.1 rfl (lv_room (Nat.le_of_ble_eq_true rfl)) d_law_252 ⟨by show 28 + it + 1 ≤ 671672; omega, by show 230 + 6 * it + 6 ≤ 7081053; omega⟩ (fun H locs hP1 hkp _ hS => ?_)
      have hP := (w_keepR (w_l hP) hD hkp).app hP1
      have hD : va_D (A0 s) (wW Z Y cI cP cL cJ cZ p0 q0 g0 h0 ou S1 M1 f) := w_addr hD (w_adW S1 S1 M M1 f f)
      refine lv_aload_n hx hb d_law_255 rfl (lv_at hl 3 rfl) ?_
      refine ro_V (As := []) (rest := []) (b := Y 0) ⟨hx, hb, hml, hown, hts⟩ (c_M_thrown l dC dI Y cJ cZ p0 q0 g0 h0 M1) (cwV 0 hts (al_V k_516 k_517 k_518 k_4 k_519) rfl rfl rfl (by decide +kernel) ⟨Nat.le_of_ble_eq_true rfl, Nat.le_of_ble_eq_true rfl⟩) (fun U g mk a h => ⟨h.1, va_K.moved (u := U) (U := U.calling g mk a) (Vm.Alike.refl U.vm) h.2⟩) (va_recv hK (w_r hP) (ci := 3) (q0 := 0) rfl rfl) (fun U hU hW => ⟨by rw [hU]; exact w_r hP, va_K.moved hW.alike (hK.sub [3, 4] rfl)⟩) rfl hl.1 rfl (lv_room (Nat.le_of_ble_eq_true rfl)) d_law_256 ⟨by show 28 + it + 1 ≤ 671672; omega, by show 230 + 6 * it + 6 ≤ 7081053; omega⟩ ?_
      refine x_i (y := k) hk ?_
      refine lv_iload hx hb d_law_259 (lv_at hl 0 rfl) ?_
      refine lv_icmp_eq (tgt := 266) hx hb d_law_261 (by decide) (fun _ => ?_) (fun c_ => absurd (rfl) c_)
      refine lv_goto (tgt := 1058) hx hb d_law_266 (by decide) ?_
      refine W.cs (cells' := 29 + it) (slots' := 236 + 6 * it) (by omega) (by omega) ?_
      exact K S1 M1 f H locs ls R1 hP hD hS (lv_sub hl [1, 2, 3, 4, 5] rfl)
  · refine lv_iconst (v := 1) hx hb d_law_215 (by decide) ?_
    refine x_i (y := if xs (4 + 4 * it + 3) = 0 then (0 : Int32) else 1) ((if_neg c212).symm) ?_
    refine lv_goto (tgt := 220) hx hb d_law_216 (by decide) ?_
    refine wp_S (As := [.ref (Z 0), .int (xs (4 + 4 * it + 1)), .int (xs (4 + 4 * it + 2)), .int (if xs (4 + 4 * it + 3) = 0 then (0 : Int32) else 1)]) (rest := []) (A := A0 s) ⟨hx, hb, hml, hown, hts⟩ hWp (vx_cwSW 4 hts (al_W k_197 k_198 k_0 kw_begin) rfl rfl rfl (by decide +kernel) ⟨Nat.le_of_ble_eq_true rfl, Nat.le_of_ble_eq_true rfl⟩) (w_l hP) (hK.sub [0, 1, 2] rfl) (w_dl hD) hS (fun U hU hW => ⟨xx_to hW (fun a ha => by rw [hU]; exact hS.2.1 a ha (Nat.not_le.mpr ha)) hxx, xnc_to hW.alike hnc⟩) rfl hl.1 rfl (lv_room (Nat.le_of_ble_eq_true rfl)) d_law_220 ⟨by show 28 + it + 1 ≤ 671672; omega, by show 230 + 6 * it + 6 ≤ 7081053; omega⟩ (fun H locs hP1 hkp _ hS => ?_)
    have hP := hP1.app (w_keep (w_r hP) hD hkp)
    have hD : va_D (A0 s) (wW Z Y cI cP cL cJ cZ p0 q0 g0 h0 ou S1 M f) := w_addr hD (w_adW S S1 M M f f)
    refine lv_istore (lv' := [(5, .int k), (0, .ref b), (1, .ref (Z 0)), (2, .ref (Y 0)), (3, .ref ou), (4, .int (nI (4 + 4 * it)))]) hx hb d_law_223 hl (by decide) rfl (fun ls hl => ?_)
    refine lv_aload_n hx hb d_law_225 rfl (lv_at hl 3 rfl) ?_
    refine lv_aload_n hx hb d_law_226 rfl (lv_at hl 1 rfl) ?_
    refine lv_iload hx hb d_law_227 (lv_at hl 5 rfl) ?_
    refine lv_iconst (v := (nI 1)) hx hb d_law_229 (by decide) ?_
    refine lv_iadd hx hb d_law_230 ?_
    refine x_i (y := nI (4 + 4 * it + 1)) (nI_pl _ _) ?_
    refine va_sld (A := A0 s) hx hb hX hbl (Nat.not_le.mpr hbl) hS (vp_in_nI (by omega) (by omega)) d_law_231 ?_
    refine x_i (y := xs (4 + 4 * it + 1)) (by rw [nI_clamp (by omega)]) ?_
    refine lv_aload_n hx hb d_law_232 rfl (lv_at hl 1 rfl) ?_
    refine lv_iload hx hb d_law_233 (lv_at hl 5 rfl) ?_
    refine lv_iconst (v := (nI 2)) hx hb d_law_235 (by decide) ?_
    refine lv_iadd hx hb d_law_236 ?_
    refine x_i (y := nI (4 + 4 * it + 2)) (nI_pl _ _) ?_
    refine va_sld (A := A0 s) hx hb hX hbl (Nat.not_le.mpr hbl) hS (vp_in_nI (by omega) (by omega)) d_law_237 ?_
    refine x_i (y := xs (4 + 4 * it + 2)) (by rw [nI_clamp (by omega)]) ?_
    refine lv_aload_n hx hb d_law_238 rfl (lv_at hl 1 rfl) ?_
    refine lv_iload hx hb d_law_239 (lv_at hl 5 rfl) ?_
    refine lv_iconst (v := (nI 3)) hx hb d_law_241 (by decide) ?_
    refine lv_iadd hx hb d_law_242 ?_
    refine x_i (y := nI (4 + 4 * it + 3)) (nI_pl _ _) ?_
    refine va_sld (A := A0 s) hx hb hX hbl (Nat.not_le.mpr hbl) hS (vp_in_nI (by omega) (by omega)) d_law_243 ?_
    refine x_i (y := xs (4 + 4 * it + 3)) (by rw [nI_clamp (by omega)]) ?_
    refine lv_if_eq (tgt := 251) hx hb d_law_244 (by decide) (fun c244 => ?_) (fun c244 => ?_)
    · refine lv_iconst (v := 0) hx hb d_law_251 (by decide) ?_
      refine x_i (y := if xs (4 + 4 * it + 3) = 0 then (0 : Int32) else 1) ((if_pos c244).symm) ?_
      refine wr_V (As := [.int (xs (4 + 4 * it + 1)), .int (xs (4 + 4 * it + 2)), .int (if xs (4 + 4 * it + 3) = 0 then (0 : Int32) else 1)]) (rest := []) (b := Y 0) (A := A0 s) ⟨hx, hb, hml, hown, hts⟩ hMr (cwV 3 hts (al_V k_524 k_525 k_526 k_4 k_527) rfl rfl rfl (by decide +kernel) ⟨Nat.le_of_ble_eq_true rfl, Nat.le_of_ble_eq_true rfl⟩) (va_recv hK (w_r hP) (ci := 3) (q0 := 0) rfl rfl) (w_r hP) (hK.sub [3, 4] rfl) (w_dr hD) hS rfl hl.1 rfl (lv_room (Nat.le_of_ble_eq_true rfl)) d_law_252 ⟨by show 28 + it + 1 ≤ 671672; omega, by show 230 + 6 * it + 6 ≤ 7081053; omega⟩ (fun H locs hP1 hkp _ hS => ?_)
      have hP := (w_keepR (w_l hP) hD hkp).app hP1
      have hD : va_D (A0 s) (wW Z Y cI cP cL cJ cZ p0 q0 g0 h0 ou S1 M1 f) := w_addr hD (w_adW S1 S1 M M1 f f)
      refine lv_aload_n hx hb d_law_255 rfl (lv_at hl 3 rfl) ?_
      refine ro_V (As := []) (rest := []) (b := Y 0) ⟨hx, hb, hml, hown, hts⟩ (c_M_thrown l dC dI Y cJ cZ p0 q0 g0 h0 M1) (cwV 0 hts (al_V k_516 k_517 k_518 k_4 k_519) rfl rfl rfl (by decide +kernel) ⟨Nat.le_of_ble_eq_true rfl, Nat.le_of_ble_eq_true rfl⟩) (fun U g mk a h => ⟨h.1, va_K.moved (u := U) (U := U.calling g mk a) (Vm.Alike.refl U.vm) h.2⟩) (va_recv hK (w_r hP) (ci := 3) (q0 := 0) rfl rfl) (fun U hU hW => ⟨by rw [hU]; exact w_r hP, va_K.moved hW.alike (hK.sub [3, 4] rfl)⟩) rfl hl.1 rfl (lv_room (Nat.le_of_ble_eq_true rfl)) d_law_256 ⟨by show 28 + it + 1 ≤ 671672; omega, by show 230 + 6 * it + 6 ≤ 7081053; omega⟩ ?_
      refine x_i (y := k) hk ?_
      refine lv_iload hx hb d_law_259 (lv_at hl 0 rfl) ?_
      refine lv_icmp_eq (tgt := 266) hx hb d_law_261 (by decide) (fun _ => ?_) (fun c_ => absurd (rfl) c_)
      refine lv_goto (tgt := 1058) hx hb d_law_266 (by decide) ?_
      refine W.cs (cells' := 29 + it) (slots' := 236 + 6 * it) (by omega) (by omega) ?_
      exact K S1 M1 f H locs ls R1 hP hD hS (lv_sub hl [1, 2, 3, 4, 5] rfl)
    · refine lv_iconst (v := 1) hx hb d_law_247 (by decide) ?_
      refine x_i (y := if xs (4 + 4 * it + 3) = 0 then (0 : Int32) else 1) ((if_neg c244).symm) ?_
      refine lv_goto (tgt := 252) hx hb d_law_248 (by decide) ?_
      refine wr_V (As := [.int (xs (4 + 4 * it + 1)), .int (xs (4 + 4 * it + 2)), .int (if xs (4 + 4 * it + 3) = 0 then (0 : Int32) else 1)]) (rest := []) (b := Y 0) (A := A0 s) ⟨hx, hb, hml, hown, hts⟩ hMr (cwV 3 hts (al_V k_524 k_525 k_526 k_4 k_527) rfl rfl rfl (by decide +kernel) ⟨Nat.le_of_ble_eq_true rfl, Nat.le_of_ble_eq_true rfl⟩) (va_recv hK (w_r hP) (ci := 3) (q0 := 0) rfl rfl) (w_r hP) (hK.sub [3, 4] rfl) (w_dr hD) hS rfl hl.1 rfl (lv_room (Nat.le_of_ble_eq_true rfl)) d_law_252 ⟨by show 28 + it + 1 ≤ 671672; omega, by show 230 + 6 * it + 6 ≤ 7081053; omega⟩ (fun H locs hP1 hkp _ hS => ?_)
      have hP := (w_keepR (w_l hP) hD hkp).app hP1
      have hD : va_D (A0 s) (wW Z Y cI cP cL cJ cZ p0 q0 g0 h0 ou S1 M1 f) := w_addr hD (w_adW S1 S1 M M1 f f)
      refine lv_aload_n hx hb d_law_255 rfl (lv_at hl 3 rfl) ?_
      refine ro_V (As := []) (rest := []) (b := Y 0) ⟨hx, hb, hml, hown, hts⟩ (c_M_thrown l dC dI Y cJ cZ p0 q0 g0 h0 M1) (cwV 0 hts (al_V k_516 k_517 k_518 k_4 k_519) rfl rfl rfl (by decide +kernel) ⟨Nat.le_of_ble_eq_true rfl, Nat.le_of_ble_eq_true rfl⟩) (fun U g mk a h => ⟨h.1, va_K.moved (u := U) (U := U.calling g mk a) (Vm.Alike.refl U.vm) h.2⟩) (va_recv hK (w_r hP) (ci := 3) (q0 := 0) rfl rfl) (fun U hU hW => ⟨by rw [hU]; exact w_r hP, va_K.moved hW.alike (hK.sub [3, 4] rfl)⟩) rfl hl.1 rfl (lv_room (Nat.le_of_ble_eq_true rfl)) d_law_256 ⟨by show 28 + it + 1 ≤ 671672; omega, by show 230 + 6 * it + 6 ≤ 7081053; omega⟩ ?_
      refine x_i (y := k) hk ?_
      refine lv_iload hx hb d_law_259 (lv_at hl 0 rfl) ?_
      refine lv_icmp_eq (tgt := 266) hx hb d_law_261 (by decide) (fun _ => ?_) (fun c_ => absurd (rfl) c_)
      refine lv_goto (tgt := 1058) hx hb d_law_266 (by decide) ?_
      refine W.cs (cells' := 29 + it) (slots' := 236 + 6 * it) (by omega) (by omega) ?_
      exact K S1 M1 f H locs ls R1 hP hD hS (lv_sub hl [1, 2, 3, 4, 5] rfl)
set_option maxRecDepth 100000 in
set_option maxHeartbeats 4000000 in
theorem lw_coefficient (hx : p.tables.exec = Jvm.exec) (hb : c.code = code) (hml : c.maxLocals = 7) (hown : s.vm.findClass "DealtSecretLaw" = some m.cls) (hts : ∀ w ∈ AL, w.before #[Value.ref b] s = true) (hX : va_X b n0 xs s s.heap) (hbl : b < s.heap.size) (hn0 : n0 ≤ 2052) (hK : va_K (dC, dI) cls (tysW cI cP cL cJ cZ) s) (hxx : xx s) (hnc : xnc s) (hlt : l.stackTraces = false) (ok : okG p0 q0 g0 h0) (hq : mz_P q0) (hit : 4 + 4 * it + 4 ≤ n0) (R : Rel p0 q0 g0 h0 S M) (hP : va_P (dC, dI) cls (wW Z Y cI cP cL cJ cZ p0 q0 g0 h0 ou S M f) H) (hD : va_D (A0 s) (wW Z Y cI cP cL cJ cZ p0 q0 g0 h0 ou S M f)) (hS : va_S (A0 s) s.heap H locs) (hl : lv_has ls 7 [(0, .ref b), (1, .ref (Z 0)), (2, .ref (Y 0)), (3, .ref ou), (4, .int (nI (4 + 4 * it)))]) (K : ∀ (S M : Nat → Nat → Int32) (f : Nat → Int64) (H : Heap) (locs : List Loc) (ls : Array Slot), Rel p0 q0 g0 h0 S M → va_P (dC, dI) cls (wW Z Y cI cP cL cJ cZ p0 q0 g0 h0 ou S M f) H → va_D (A0 s) (wW Z Y cI cP cL cJ cZ p0 q0 g0 h0 ou S M f) → va_S (A0 s) s.heap H locs → lv_has ls 7 [(0, .ref b), (1, .ref (Z 0)), (2, .ref (Y 0)), (3, .ref ou), (4, .int (nI (4 + 4 * it)))] → W p l e room_1 s m #[Value.ref b] below meth c H locs (29 + it) (236 + 6 * it) Q (F0 m 1058 ls [])) : W p l e room_1 s m #[Value.ref b] below meth c H locs (28 + it) (230 + 6 * it) Q (F0 m 269 ls []) := by
  obtain ⟨k, S1, M1, hWp, hMr, hk, R1⟩ := s_coefficient (l := l) (dC := dC) (dI := dI) (Z := Z) (Y := Y) (cI := cI) (cP := cP) (cJ := cJ) (cZ := cZ) (cL := cL) (ou := ou) (f := f) hlt ok R (xs (4 + 4 * it + 1)) (xs (4 + 4 * it + 2)) (xs (4 + 4 * it + 3))
  refine lv_aload_n hx hb d_law_269 rfl (lv_at hl 1 rfl) ?_
  refine lv_aload_n hx hb d_law_270 rfl (lv_at hl 0 rfl) ?_
  refine lv_iload hx hb d_law_271 (lv_at hl 4 rfl) ?_
  refine lv_iconst (v := (nI 1)) hx hb d_law_273 (by decide) ?_
  refine lv_iadd hx hb d_law_274 ?_
  refine x_i (y := nI (4 + 4 * it + 1)) (nI_pl _ _) ?_
  refine va_sld (A := A0 s) hx hb hX hbl (Nat.not_le.mpr hbl) hS (vp_in_nI (by omega) (by omega)) d_law_275 ?_
  refine x_i (y := xs (4 + 4 * it + 1)) (by rw [nI_clamp (by omega)]) ?_
  refine lv_aload_n hx hb d_law_276 rfl (lv_at hl 0 rfl) ?_
  refine lv_iload hx hb d_law_277 (lv_at hl 4 rfl) ?_
  refine lv_iconst (v := (nI 2)) hx hb d_law_279 (by decide) ?_
  refine lv_iadd hx hb d_law_280 ?_
  refine x_i (y := nI (4 + 4 * it + 2)) (nI_pl _ _) ?_
  refine va_sld (A := A0 s) hx hb hX hbl (Nat.not_le.mpr hbl) hS (vp_in_nI (by omega) (by omega)) d_law_281 ?_
  refine x_i (y := xs (4 + 4 * it + 2)) (by rw [nI_clamp (by omega)]) ?_
  refine lv_aload_n hx hb d_law_282 rfl (lv_at hl 0 rfl) ?_
  refine lv_iload hx hb d_law_283 (lv_at hl 4 rfl) ?_
  refine lv_iconst (v := (nI 3)) hx hb d_law_285 (by decide) ?_
  refine lv_iadd hx hb d_law_286 ?_
  refine x_i (y := nI (4 + 4 * it + 3)) (nI_pl _ _) ?_
  refine va_sld (A := A0 s) hx hb hX hbl (Nat.not_le.mpr hbl) hS (vp_in_nI (by omega) (by omega)) d_law_287 ?_
  refine x_i (y := xs (4 + 4 * it + 3)) (by rw [nI_clamp (by omega)]) ?_
  refine wp_S (As := [.ref (Z 0), .int (xs (4 + 4 * it + 1)), .int (xs (4 + 4 * it + 2)), .int (xs (4 + 4 * it + 3))]) (rest := []) (A := A0 s) ⟨hx, hb, hml, hown, hts⟩ hWp (vx_cwSW 4 hts (al_W k_262 k_263 k_0 kw_coefficient) rfl rfl rfl (by decide +kernel) ⟨Nat.le_of_ble_eq_true rfl, Nat.le_of_ble_eq_true rfl⟩) (w_l hP) (hK.sub [0, 1, 2] rfl) (w_dl hD) hS (fun U hU hW => ⟨xx_to hW (fun a ha => by rw [hU]; exact hS.2.1 a ha (Nat.not_le.mpr ha)) hxx, xnc_to hW.alike hnc⟩) rfl hl.1 rfl (lv_room (Nat.le_of_ble_eq_true rfl)) d_law_288 ⟨by show 28 + it + 1 ≤ 671672; omega, by show 230 + 6 * it + 6 ≤ 7081053; omega⟩ (fun H locs hP1 hkp _ hS => ?_)
  have hP := hP1.app (w_keep (w_r hP) hD hkp)
  have hD : va_D (A0 s) (wW Z Y cI cP cL cJ cZ p0 q0 g0 h0 ou S1 M f) := w_addr hD (w_adW S S1 M M f f)
  refine lv_istore (lv' := [(5, .int k), (0, .ref b), (1, .ref (Z 0)), (2, .ref (Y 0)), (3, .ref ou), (4, .int (nI (4 + 4 * it)))]) hx hb d_law_291 hl (by decide) rfl (fun ls hl => ?_)
  refine lv_aload_n hx hb d_law_293 rfl (lv_at hl 3 rfl) ?_
  refine lv_aload_n hx hb d_law_294 rfl (lv_at hl 1 rfl) ?_
  refine lv_iload hx hb d_law_295 (lv_at hl 5 rfl) ?_
  refine lv_iconst (v := (nI 1)) hx hb d_law_297 (by decide) ?_
  refine lv_iadd hx hb d_law_298 ?_
  refine x_i (y := nI (4 + 4 * it + 1)) (nI_pl _ _) ?_
  refine va_sld (A := A0 s) hx hb hX hbl (Nat.not_le.mpr hbl) hS (vp_in_nI (by omega) (by omega)) d_law_299 ?_
  refine x_i (y := xs (4 + 4 * it + 1)) (by rw [nI_clamp (by omega)]) ?_
  refine lv_aload_n hx hb d_law_300 rfl (lv_at hl 1 rfl) ?_
  refine lv_iload hx hb d_law_301 (lv_at hl 5 rfl) ?_
  refine lv_iconst (v := (nI 2)) hx hb d_law_303 (by decide) ?_
  refine lv_iadd hx hb d_law_304 ?_
  refine x_i (y := nI (4 + 4 * it + 2)) (nI_pl _ _) ?_
  refine va_sld (A := A0 s) hx hb hX hbl (Nat.not_le.mpr hbl) hS (vp_in_nI (by omega) (by omega)) d_law_305 ?_
  refine x_i (y := xs (4 + 4 * it + 2)) (by rw [nI_clamp (by omega)]) ?_
  refine lv_aload_n hx hb d_law_306 rfl (lv_at hl 1 rfl) ?_
  refine lv_iload hx hb d_law_307 (lv_at hl 5 rfl) ?_
  refine lv_iconst (v := (nI 3)) hx hb d_law_309 (by decide) ?_
  refine lv_iadd hx hb d_law_310 ?_
  refine x_i (y := nI (4 + 4 * it + 3)) (nI_pl _ _) ?_
  refine va_sld (A := A0 s) hx hb hX hbl (Nat.not_le.mpr hbl) hS (vp_in_nI (by omega) (by omega)) d_law_311 ?_
  refine x_i (y := xs (4 + 4 * it + 3)) (by rw [nI_clamp (by omega)]) ?_
  refine wr_V (As := [.int (xs (4 + 4 * it + 1)), .int (xs (4 + 4 * it + 2)), .int (xs (4 + 4 * it + 3))]) (rest := []) (b := Y 0) (A := A0 s) ⟨hx, hb, hml, hown, hts⟩ hMr (cwV 3 hts (al_V k_528 k_529 k_530 k_4 k_531) rfl rfl rfl (by decide +kernel) ⟨Nat.le_of_ble_eq_true rfl, Nat.le_of_ble_eq_true rfl⟩) (va_recv hK (w_r hP) (ci := 3) (q0 := 0) rfl rfl) (w_r hP) (hK.sub [3, 4] rfl) (w_dr hD) hS rfl hl.1 rfl (lv_room (Nat.le_of_ble_eq_true rfl)) d_law_312 ⟨by show 28 + it + 1 ≤ 671672; omega, by show 230 + 6 * it + 6 ≤ 7081053; omega⟩ (fun H locs hP1 hkp _ hS => ?_)
  have hP := (w_keepR (w_l hP) hD hkp).app hP1
  have hD : va_D (A0 s) (wW Z Y cI cP cL cJ cZ p0 q0 g0 h0 ou S1 M1 f) := w_addr hD (w_adW S1 S1 M M1 f f)
  refine lv_aload_n hx hb d_law_315 rfl (lv_at hl 3 rfl) ?_
  refine ro_V (As := []) (rest := []) (b := Y 0) ⟨hx, hb, hml, hown, hts⟩ (c_M_thrown l dC dI Y cJ cZ p0 q0 g0 h0 M1) (cwV 0 hts (al_V k_516 k_517 k_518 k_4 k_519) rfl rfl rfl (by decide +kernel) ⟨Nat.le_of_ble_eq_true rfl, Nat.le_of_ble_eq_true rfl⟩) (fun U g mk a h => ⟨h.1, va_K.moved (u := U) (U := U.calling g mk a) (Vm.Alike.refl U.vm) h.2⟩) (va_recv hK (w_r hP) (ci := 3) (q0 := 0) rfl rfl) (fun U hU hW => ⟨by rw [hU]; exact w_r hP, va_K.moved hW.alike (hK.sub [3, 4] rfl)⟩) rfl hl.1 rfl (lv_room (Nat.le_of_ble_eq_true rfl)) d_law_316 ⟨by show 28 + it + 1 ≤ 671672; omega, by show 230 + 6 * it + 6 ≤ 7081053; omega⟩ ?_
  refine x_i (y := k) hk ?_
  refine lv_iload hx hb d_law_319 (lv_at hl 0 rfl) ?_
  refine lv_icmp_eq (tgt := 326) hx hb d_law_321 (by decide) (fun _ => ?_) (fun c_ => absurd (rfl) c_)
  refine lv_goto (tgt := 1058) hx hb d_law_326 (by decide) ?_
  refine W.cs (cells' := 29 + it) (slots' := 236 + 6 * it) (by omega) (by omega) ?_
  exact K S1 M1 f H locs ls R1 hP hD hS (lv_sub hl [1, 2, 3, 4, 5] rfl)
set_option maxRecDepth 100000 in
set_option maxHeartbeats 4000000 in
theorem lw_tamper (hx : p.tables.exec = Jvm.exec) (hb : c.code = code) (hml : c.maxLocals = 7) (hown : s.vm.findClass "DealtSecretLaw" = some m.cls) (hts : ∀ w ∈ AL, w.before #[Value.ref b] s = true) (hX : va_X b n0 xs s s.heap) (hbl : b < s.heap.size) (hn0 : n0 ≤ 2052) (hK : va_K (dC, dI) cls (tysW cI cP cL cJ cZ) s) (hxx : xx s) (hnc : xnc s) (hlt : l.stackTraces = false) (ok : okG p0 q0 g0 h0) (hq : mz_P q0) (hit : 4 + 4 * it + 4 ≤ n0) (R : Rel p0 q0 g0 h0 S M) (hP : va_P (dC, dI) cls (wW Z Y cI cP cL cJ cZ p0 q0 g0 h0 ou S M f) H) (hD : va_D (A0 s) (wW Z Y cI cP cL cJ cZ p0 q0 g0 h0 ou S M f)) (hS : va_S (A0 s) s.heap H locs) (hl : lv_has ls 7 [(0, .ref b), (1, .ref (Z 0)), (2, .ref (Y 0)), (3, .ref ou), (4, .int (nI (4 + 4 * it)))]) (K : ∀ (S M : Nat → Nat → Int32) (f : Nat → Int64) (H : Heap) (locs : List Loc) (ls : Array Slot), Rel p0 q0 g0 h0 S M → va_P (dC, dI) cls (wW Z Y cI cP cL cJ cZ p0 q0 g0 h0 ou S M f) H → va_D (A0 s) (wW Z Y cI cP cL cJ cZ p0 q0 g0 h0 ou S M f) → va_S (A0 s) s.heap H locs → lv_has ls 7 [(0, .ref b), (1, .ref (Z 0)), (2, .ref (Y 0)), (3, .ref ou), (4, .int (nI (4 + 4 * it)))] → W p l e room_1 s m #[Value.ref b] below meth c H locs (29 + it) (236 + 6 * it) Q (F0 m 1058 ls [])) : W p l e room_1 s m #[Value.ref b] below meth c H locs (28 + it) (230 + 6 * it) Q (F0 m 373 ls []) := by
  obtain ⟨k, S1, M1, hWp, hMr, hk, R1⟩ := s_tamper (l := l) (dC := dC) (dI := dI) (Z := Z) (Y := Y) (cI := cI) (cP := cP) (cJ := cJ) (cZ := cZ) (cL := cL) (ou := ou) (f := f) hlt ok R (xs (4 + 4 * it + 1)) (xs (4 + 4 * it + 2)) (xs (4 + 4 * it + 3))
  refine lv_aload_n hx hb d_law_373 rfl (lv_at hl 1 rfl) ?_
  refine lv_aload_n hx hb d_law_374 rfl (lv_at hl 0 rfl) ?_
  refine lv_iload hx hb d_law_375 (lv_at hl 4 rfl) ?_
  refine lv_iconst (v := (nI 1)) hx hb d_law_377 (by decide) ?_
  refine lv_iadd hx hb d_law_378 ?_
  refine x_i (y := nI (4 + 4 * it + 1)) (nI_pl _ _) ?_
  refine va_sld (A := A0 s) hx hb hX hbl (Nat.not_le.mpr hbl) hS (vp_in_nI (by omega) (by omega)) d_law_379 ?_
  refine x_i (y := xs (4 + 4 * it + 1)) (by rw [nI_clamp (by omega)]) ?_
  refine lv_aload_n hx hb d_law_380 rfl (lv_at hl 0 rfl) ?_
  refine lv_iload hx hb d_law_381 (lv_at hl 4 rfl) ?_
  refine lv_iconst (v := (nI 2)) hx hb d_law_383 (by decide) ?_
  refine lv_iadd hx hb d_law_384 ?_
  refine x_i (y := nI (4 + 4 * it + 2)) (nI_pl _ _) ?_
  refine va_sld (A := A0 s) hx hb hX hbl (Nat.not_le.mpr hbl) hS (vp_in_nI (by omega) (by omega)) d_law_385 ?_
  refine x_i (y := xs (4 + 4 * it + 2)) (by rw [nI_clamp (by omega)]) ?_
  refine lv_aload_n hx hb d_law_386 rfl (lv_at hl 0 rfl) ?_
  refine lv_iload hx hb d_law_387 (lv_at hl 4 rfl) ?_
  refine lv_iconst (v := (nI 3)) hx hb d_law_389 (by decide) ?_
  refine lv_iadd hx hb d_law_390 ?_
  refine x_i (y := nI (4 + 4 * it + 3)) (nI_pl _ _) ?_
  refine va_sld (A := A0 s) hx hb hX hbl (Nat.not_le.mpr hbl) hS (vp_in_nI (by omega) (by omega)) d_law_391 ?_
  refine x_i (y := xs (4 + 4 * it + 3)) (by rw [nI_clamp (by omega)]) ?_
  refine wp_S (As := [.ref (Z 0), .int (xs (4 + 4 * it + 1)), .int (xs (4 + 4 * it + 2)), .int (xs (4 + 4 * it + 3))]) (rest := []) (A := A0 s) ⟨hx, hb, hml, hown, hts⟩ hWp (vx_cwSW 4 hts (al_W k_332 k_333 k_0 kw_tamper) rfl rfl rfl (by decide +kernel) ⟨Nat.le_of_ble_eq_true rfl, Nat.le_of_ble_eq_true rfl⟩) (w_l hP) (hK.sub [0, 1, 2] rfl) (w_dl hD) hS (fun U hU hW => ⟨xx_to hW (fun a ha => by rw [hU]; exact hS.2.1 a ha (Nat.not_le.mpr ha)) hxx, xnc_to hW.alike hnc⟩) rfl hl.1 rfl (lv_room (Nat.le_of_ble_eq_true rfl)) d_law_392 ⟨by show 28 + it + 1 ≤ 671672; omega, by show 230 + 6 * it + 6 ≤ 7081053; omega⟩ (fun H locs hP1 hkp _ hS => ?_)
  have hP := hP1.app (w_keep (w_r hP) hD hkp)
  have hD : va_D (A0 s) (wW Z Y cI cP cL cJ cZ p0 q0 g0 h0 ou S1 M f) := w_addr hD (w_adW S S1 M M f f)
  refine lv_istore (lv' := [(5, .int k), (0, .ref b), (1, .ref (Z 0)), (2, .ref (Y 0)), (3, .ref ou), (4, .int (nI (4 + 4 * it)))]) hx hb d_law_395 hl (by decide) rfl (fun ls hl => ?_)
  refine lv_aload_n hx hb d_law_397 rfl (lv_at hl 3 rfl) ?_
  refine lv_aload_n hx hb d_law_398 rfl (lv_at hl 1 rfl) ?_
  refine lv_iload hx hb d_law_399 (lv_at hl 5 rfl) ?_
  refine lv_iconst (v := (nI 1)) hx hb d_law_401 (by decide) ?_
  refine lv_iadd hx hb d_law_402 ?_
  refine x_i (y := nI (4 + 4 * it + 1)) (nI_pl _ _) ?_
  refine va_sld (A := A0 s) hx hb hX hbl (Nat.not_le.mpr hbl) hS (vp_in_nI (by omega) (by omega)) d_law_403 ?_
  refine x_i (y := xs (4 + 4 * it + 1)) (by rw [nI_clamp (by omega)]) ?_
  refine lv_aload_n hx hb d_law_404 rfl (lv_at hl 1 rfl) ?_
  refine lv_iload hx hb d_law_405 (lv_at hl 5 rfl) ?_
  refine lv_iconst (v := (nI 2)) hx hb d_law_407 (by decide) ?_
  refine lv_iadd hx hb d_law_408 ?_
  refine x_i (y := nI (4 + 4 * it + 2)) (nI_pl _ _) ?_
  refine va_sld (A := A0 s) hx hb hX hbl (Nat.not_le.mpr hbl) hS (vp_in_nI (by omega) (by omega)) d_law_409 ?_
  refine x_i (y := xs (4 + 4 * it + 2)) (by rw [nI_clamp (by omega)]) ?_
  refine lv_aload_n hx hb d_law_410 rfl (lv_at hl 1 rfl) ?_
  refine lv_iload hx hb d_law_411 (lv_at hl 5 rfl) ?_
  refine lv_iconst (v := (nI 3)) hx hb d_law_413 (by decide) ?_
  refine lv_iadd hx hb d_law_414 ?_
  refine x_i (y := nI (4 + 4 * it + 3)) (nI_pl _ _) ?_
  refine va_sld (A := A0 s) hx hb hX hbl (Nat.not_le.mpr hbl) hS (vp_in_nI (by omega) (by omega)) d_law_415 ?_
  refine x_i (y := xs (4 + 4 * it + 3)) (by rw [nI_clamp (by omega)]) ?_
  refine wr_V (As := [.int (xs (4 + 4 * it + 1)), .int (xs (4 + 4 * it + 2)), .int (xs (4 + 4 * it + 3))]) (rest := []) (b := Y 0) (A := A0 s) ⟨hx, hb, hml, hown, hts⟩ hMr (cwV 3 hts (al_V k_554 k_555 k_556 k_4 k_557) rfl rfl rfl (by decide +kernel) ⟨Nat.le_of_ble_eq_true rfl, Nat.le_of_ble_eq_true rfl⟩) (va_recv hK (w_r hP) (ci := 3) (q0 := 0) rfl rfl) (w_r hP) (hK.sub [3, 4] rfl) (w_dr hD) hS rfl hl.1 rfl (lv_room (Nat.le_of_ble_eq_true rfl)) d_law_416 ⟨by show 28 + it + 1 ≤ 671672; omega, by show 230 + 6 * it + 6 ≤ 7081053; omega⟩ (fun H locs hP1 hkp _ hS => ?_)
  have hP := (w_keepR (w_l hP) hD hkp).app hP1
  have hD : va_D (A0 s) (wW Z Y cI cP cL cJ cZ p0 q0 g0 h0 ou S1 M1 f) := w_addr hD (w_adW S1 S1 M M1 f f)
  refine lv_aload_n hx hb d_law_419 rfl (lv_at hl 3 rfl) ?_
  refine ro_V (As := []) (rest := []) (b := Y 0) ⟨hx, hb, hml, hown, hts⟩ (c_M_thrown l dC dI Y cJ cZ p0 q0 g0 h0 M1) (cwV 0 hts (al_V k_516 k_517 k_518 k_4 k_519) rfl rfl rfl (by decide +kernel) ⟨Nat.le_of_ble_eq_true rfl, Nat.le_of_ble_eq_true rfl⟩) (fun U g mk a h => ⟨h.1, va_K.moved (u := U) (U := U.calling g mk a) (Vm.Alike.refl U.vm) h.2⟩) (va_recv hK (w_r hP) (ci := 3) (q0 := 0) rfl rfl) (fun U hU hW => ⟨by rw [hU]; exact w_r hP, va_K.moved hW.alike (hK.sub [3, 4] rfl)⟩) rfl hl.1 rfl (lv_room (Nat.le_of_ble_eq_true rfl)) d_law_420 ⟨by show 28 + it + 1 ≤ 671672; omega, by show 230 + 6 * it + 6 ≤ 7081053; omega⟩ ?_
  refine x_i (y := k) hk ?_
  refine lv_iload hx hb d_law_423 (lv_at hl 0 rfl) ?_
  refine lv_icmp_eq (tgt := 430) hx hb d_law_425 (by decide) (fun _ => ?_) (fun c_ => absurd (rfl) c_)
  refine lv_goto (tgt := 1058) hx hb d_law_430 (by decide) ?_
  refine W.cs (cells' := 29 + it) (slots' := 236 + 6 * it) (by omega) (by omega) ?_
  exact K S1 M1 f H locs ls R1 hP hD hS (lv_sub hl [1, 2, 3, 4, 5] rfl)
set_option maxRecDepth 100000 in
set_option maxHeartbeats 4000000 in
theorem lw_forge (hx : p.tables.exec = Jvm.exec) (hb : c.code = code) (hml : c.maxLocals = 7) (hown : s.vm.findClass "DealtSecretLaw" = some m.cls) (hts : ∀ w ∈ AL, w.before #[Value.ref b] s = true) (hX : va_X b n0 xs s s.heap) (hbl : b < s.heap.size) (hn0 : n0 ≤ 2052) (hK : va_K (dC, dI) cls (tysW cI cP cL cJ cZ) s) (hxx : xx s) (hnc : xnc s) (hlt : l.stackTraces = false) (ok : okG p0 q0 g0 h0) (hq : mz_P q0) (hit : 4 + 4 * it + 4 ≤ n0) (R : Rel p0 q0 g0 h0 S M) (hP : va_P (dC, dI) cls (wW Z Y cI cP cL cJ cZ p0 q0 g0 h0 ou S M f) H) (hD : va_D (A0 s) (wW Z Y cI cP cL cJ cZ p0 q0 g0 h0 ou S M f)) (hS : va_S (A0 s) s.heap H locs) (hl : lv_has ls 7 [(0, .ref b), (1, .ref (Z 0)), (2, .ref (Y 0)), (3, .ref ou), (4, .int (nI (4 + 4 * it)))]) (K : ∀ (S M : Nat → Nat → Int32) (f : Nat → Int64) (H : Heap) (locs : List Loc) (ls : Array Slot), Rel p0 q0 g0 h0 S M → va_P (dC, dI) cls (wW Z Y cI cP cL cJ cZ p0 q0 g0 h0 ou S M f) H → va_D (A0 s) (wW Z Y cI cP cL cJ cZ p0 q0 g0 h0 ou S M f) → va_S (A0 s) s.heap H locs → lv_has ls 7 [(0, .ref b), (1, .ref (Z 0)), (2, .ref (Y 0)), (3, .ref ou), (4, .int (nI (4 + 4 * it)))] → W p l e room_1 s m #[Value.ref b] below meth c H locs (29 + it) (236 + 6 * it) Q (F0 m 1058 ls [])) : W p l e room_1 s m #[Value.ref b] below meth c H locs (28 + it) (230 + 6 * it) Q (F0 m 433 ls []) := by
  obtain ⟨k, S1, M1, hWp, hMr, hk, R1⟩ := s_forge (l := l) (dC := dC) (dI := dI) (Z := Z) (Y := Y) (cI := cI) (cP := cP) (cJ := cJ) (cZ := cZ) (cL := cL) (ou := ou) (f := f) hlt ok R (xs (4 + 4 * it + 1)) (xs (4 + 4 * it + 2))
  refine lv_aload_n hx hb d_law_433 rfl (lv_at hl 1 rfl) ?_
  refine lv_aload_n hx hb d_law_434 rfl (lv_at hl 0 rfl) ?_
  refine lv_iload hx hb d_law_435 (lv_at hl 4 rfl) ?_
  refine lv_iconst (v := (nI 1)) hx hb d_law_437 (by decide) ?_
  refine lv_iadd hx hb d_law_438 ?_
  refine x_i (y := nI (4 + 4 * it + 1)) (nI_pl _ _) ?_
  refine va_sld (A := A0 s) hx hb hX hbl (Nat.not_le.mpr hbl) hS (vp_in_nI (by omega) (by omega)) d_law_439 ?_
  refine x_i (y := xs (4 + 4 * it + 1)) (by rw [nI_clamp (by omega)]) ?_
  refine lv_aload_n hx hb d_law_440 rfl (lv_at hl 0 rfl) ?_
  refine lv_iload hx hb d_law_441 (lv_at hl 4 rfl) ?_
  refine lv_iconst (v := (nI 2)) hx hb d_law_443 (by decide) ?_
  refine lv_iadd hx hb d_law_444 ?_
  refine x_i (y := nI (4 + 4 * it + 2)) (nI_pl _ _) ?_
  refine va_sld (A := A0 s) hx hb hX hbl (Nat.not_le.mpr hbl) hS (vp_in_nI (by omega) (by omega)) d_law_445 ?_
  refine x_i (y := xs (4 + 4 * it + 2)) (by rw [nI_clamp (by omega)]) ?_
  refine wp_S (As := [.ref (Z 0), .int (xs (4 + 4 * it + 1)), .int (xs (4 + 4 * it + 2))]) (rest := []) (A := A0 s) ⟨hx, hb, hml, hown, hts⟩ hWp (vx_cwSW 3 hts (al_W k_341 k_342 k_0 kw_forge) rfl rfl rfl (by decide +kernel) ⟨Nat.le_of_ble_eq_true rfl, Nat.le_of_ble_eq_true rfl⟩) (w_l hP) (hK.sub [0, 1, 2] rfl) (w_dl hD) hS (fun U hU hW => ⟨xx_to hW (fun a ha => by rw [hU]; exact hS.2.1 a ha (Nat.not_le.mpr ha)) hxx, xnc_to hW.alike hnc⟩) rfl hl.1 rfl (lv_room (Nat.le_of_ble_eq_true rfl)) d_law_446 ⟨by show 28 + it + 1 ≤ 671672; omega, by show 230 + 6 * it + 6 ≤ 7081053; omega⟩ (fun H locs hP1 hkp _ hS => ?_)
  have hP := hP1.app (w_keep (w_r hP) hD hkp)
  have hD : va_D (A0 s) (wW Z Y cI cP cL cJ cZ p0 q0 g0 h0 ou S1 M f) := w_addr hD (w_adW S S1 M M f f)
  refine lv_istore (lv' := [(5, .int k), (0, .ref b), (1, .ref (Z 0)), (2, .ref (Y 0)), (3, .ref ou), (4, .int (nI (4 + 4 * it)))]) hx hb d_law_449 hl (by decide) rfl (fun ls hl => ?_)
  refine lv_aload_n hx hb d_law_451 rfl (lv_at hl 3 rfl) ?_
  refine lv_aload_n hx hb d_law_452 rfl (lv_at hl 1 rfl) ?_
  refine lv_iload hx hb d_law_453 (lv_at hl 5 rfl) ?_
  refine lv_iconst (v := (nI 1)) hx hb d_law_455 (by decide) ?_
  refine lv_iadd hx hb d_law_456 ?_
  refine x_i (y := nI (4 + 4 * it + 1)) (nI_pl _ _) ?_
  refine va_sld (A := A0 s) hx hb hX hbl (Nat.not_le.mpr hbl) hS (vp_in_nI (by omega) (by omega)) d_law_457 ?_
  refine x_i (y := xs (4 + 4 * it + 1)) (by rw [nI_clamp (by omega)]) ?_
  refine lv_aload_n hx hb d_law_458 rfl (lv_at hl 1 rfl) ?_
  refine lv_iload hx hb d_law_459 (lv_at hl 5 rfl) ?_
  refine lv_iconst (v := (nI 2)) hx hb d_law_461 (by decide) ?_
  refine lv_iadd hx hb d_law_462 ?_
  refine x_i (y := nI (4 + 4 * it + 2)) (nI_pl _ _) ?_
  refine va_sld (A := A0 s) hx hb hX hbl (Nat.not_le.mpr hbl) hS (vp_in_nI (by omega) (by omega)) d_law_463 ?_
  refine x_i (y := xs (4 + 4 * it + 2)) (by rw [nI_clamp (by omega)]) ?_
  refine wr_V (As := [.int (xs (4 + 4 * it + 1)), .int (xs (4 + 4 * it + 2))]) (rest := []) (b := Y 0) (A := A0 s) ⟨hx, hb, hml, hown, hts⟩ hMr (cwV 2 hts (al_V k_561 k_562 k_563 k_4 k_564) rfl rfl rfl (by decide +kernel) ⟨Nat.le_of_ble_eq_true rfl, Nat.le_of_ble_eq_true rfl⟩) (va_recv hK (w_r hP) (ci := 3) (q0 := 0) rfl rfl) (w_r hP) (hK.sub [3, 4] rfl) (w_dr hD) hS rfl hl.1 rfl (lv_room (Nat.le_of_ble_eq_true rfl)) d_law_464 ⟨by show 28 + it + 1 ≤ 671672; omega, by show 230 + 6 * it + 6 ≤ 7081053; omega⟩ (fun H locs hP1 hkp _ hS => ?_)
  have hP := (w_keepR (w_l hP) hD hkp).app hP1
  have hD : va_D (A0 s) (wW Z Y cI cP cL cJ cZ p0 q0 g0 h0 ou S1 M1 f) := w_addr hD (w_adW S1 S1 M M1 f f)
  refine lv_aload_n hx hb d_law_467 rfl (lv_at hl 3 rfl) ?_
  refine ro_V (As := []) (rest := []) (b := Y 0) ⟨hx, hb, hml, hown, hts⟩ (c_M_thrown l dC dI Y cJ cZ p0 q0 g0 h0 M1) (cwV 0 hts (al_V k_516 k_517 k_518 k_4 k_519) rfl rfl rfl (by decide +kernel) ⟨Nat.le_of_ble_eq_true rfl, Nat.le_of_ble_eq_true rfl⟩) (fun U g mk a h => ⟨h.1, va_K.moved (u := U) (U := U.calling g mk a) (Vm.Alike.refl U.vm) h.2⟩) (va_recv hK (w_r hP) (ci := 3) (q0 := 0) rfl rfl) (fun U hU hW => ⟨by rw [hU]; exact w_r hP, va_K.moved hW.alike (hK.sub [3, 4] rfl)⟩) rfl hl.1 rfl (lv_room (Nat.le_of_ble_eq_true rfl)) d_law_468 ⟨by show 28 + it + 1 ≤ 671672; omega, by show 230 + 6 * it + 6 ≤ 7081053; omega⟩ ?_
  refine x_i (y := k) hk ?_
  refine lv_iload hx hb d_law_471 (lv_at hl 0 rfl) ?_
  refine lv_icmp_eq (tgt := 478) hx hb d_law_473 (by decide) (fun _ => ?_) (fun c_ => absurd (rfl) c_)
  refine lv_goto (tgt := 1058) hx hb d_law_478 (by decide) ?_
  refine W.cs (cells' := 29 + it) (slots' := 236 + 6 * it) (by omega) (by omega) ?_
  exact K S1 M1 f H locs ls R1 hP hD hS (lv_sub hl [1, 2, 3, 4, 5] rfl)
end LW
