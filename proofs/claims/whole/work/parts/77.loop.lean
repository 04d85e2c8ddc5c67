theorem sub4_lt {n a : Nat} (hn : n ≤ 2052) (ha : a < 2 ^ 31) (h : n < a + 4) : nI n - 4 < nI a := by
  rcases Nat.lt_or_ge n 4 with c | c
  · have hneg : nI n - 4 < 0 := (show ∀ n, n < 4 → nI n - 4 < 0 by decide) n c
    rw [Int32.lt_iff_toInt_lt] at hneg ⊢
    have h0 : ¬ nI a < 0 := nI_pos ha
    rw [Int32.lt_iff_toInt_lt] at h0
    have e0 : (0 : Int32).toInt = 0 := by decide
    omega
  · have e : nI n - 4 = nI (n - 4) := pk_sub c
    rw [e]
    exact nI_lt (by omega) ha
section LW
variable {p : Program} {l : Launch} {e : Env} {s : State} {m : MethodId} {below : List Frame} {meth : Method} {c : Code} {H : Heap} {locs : List Loc} {Q : State → Prop} {ls : Array Slot} {b n0 it : Nat} {xs : Nat → Int32}
variable {dC : Nat → ClassId} {dI : Nat → Nat → Nat} {Z Y : Nat → Nat} {cI cP cL cJ cZ : ClassId} {p0 q0 g0 h0 ou : Nat} {S M : Nat → Nat → Int32} {f : Nat → Int64}
set_option maxRecDepth 100000 in
set_option maxHeartbeats 4000000 in
theorem lw_loop (hr : meth.sig.returnType = ret) (hlk : meth.locks = false) (hx : p.tables.exec = Jvm.exec) (hb : c.code = code) (hml : c.maxLocals = 7) (hown : s.vm.findClass "DealtSecretLaw" = some m.cls) (hts : ∀ w ∈ AL, w.before #[Value.ref b] s = true) (hX : va_X b n0 xs s s.heap) (hbl : b < s.heap.size) (hn0 : n0 ≤ 2052) (hK : va_K (dC, dI) cls (tysW cI cP cL cJ cZ) s) (hxx : xx s) (hnc : xnc s) (hlt : l.stackTraces = false) (ok : okG p0 q0 g0 h0) (hq : mz_P q0) : ∀ (n it : Nat) (S M : Nat → Nat → Int32) (f : Nat → Int64) (H : Heap) (locs : List Loc) (ls : Array Slot), 514 ≤ it + n → it ≤ 513 → Rel p0 q0 g0 h0 S M → va_P (dC, dI) cls (wW Z Y cI cP cL cJ cZ p0 q0 g0 h0 ou S M f) H → va_D (A0 s) (wW Z Y cI cP cL cJ cZ p0 q0 g0 h0 ou S M f) → va_S (A0 s) s.heap H locs → lv_has ls 7 [(0, .ref b), (1, .ref (Z 0)), (2, .ref (Y 0)), (3, .ref ou), (4, .int (nI (4 + 4 * it)))] → W p l e room_1 s m #[Value.ref b] below meth c H locs (28 + it) (230 + 6 * it) (lw_Z below #[Value.ref b] s) (F0 m 63 ls []) := by
  intro n
  induction n with
  | zero =>
    intro it S M f H locs ls h1 h2
    omega
  | succ n ih =>
    intro it S M f H locs ls h1 h2 R hP hD hS hl
    have K : it ≤ 512 → ∀ (S M : Nat → Nat → Int32) (f : Nat → Int64) (H : Heap) (locs : List Loc) (ls : Array Slot), Rel p0 q0 g0 h0 S M → va_P (dC, dI) cls (wW Z Y cI cP cL cJ cZ p0 q0 g0 h0 ou S M f) H → va_D (A0 s) (wW Z Y cI cP cL cJ cZ p0 q0 g0 h0 ou S M f) → va_S (A0 s) s.heap H locs → lv_has ls 7 [(0, .ref b), (1, .ref (Z 0)), (2, .ref (Y 0)), (3, .ref ou), (4, .int (nI (4 + 4 * it)))] → W p l e room_1 s m #[Value.ref b] below meth c H locs (29 + it) (236 + 6 * it) (lw_Z below #[Value.ref b] s) (F0 m 1058 ls []) := by
      intro h5 S M f H locs ls R hP hD hS hl
      refine lv_iinc (v := (nI (4 + 4 * (it + 1)))) (lv' := [(4, .int (nI (4 + 4 * (it + 1)))), (0, .ref b), (1, .ref (Z 0)), (2, .ref (Y 0)), (3, .ref ou)]) hx hb d_law_1058 hl (k := 4) rfl ((nI_pl (4 + 4 * it) 4).trans (congrArg nI (by omega))) (by decide) rfl (fun ls hl => ?_)
      refine lv_goto (tgt := 63) hx hb d_law_1061 (by decide) ?_
      refine W.cs (cells' := 28 + (it + 1)) (slots' := 230 + 6 * (it + 1)) (by omega) (by omega) ?_
      exact ih (it + 1) S M f H locs ls (by omega) (by omega) R hP hD hS (lv_sub hl [1, 2, 3, 4, 0] rfl)
    refine lv_iload hx hb d_law_63 (lv_at hl 4 rfl) ?_
    refine lv_aload_n hx hb d_law_65 rfl (lv_at hl 0 rfl) ?_
    refine va_slen (A := A0 s) hx hb hX hbl (Nat.not_le.mpr hbl) hS d_law_66 ?_
    refine x_i (y := nI n0) rfl ?_
    refine lv_iconst (v := 4) hx hb d_law_67 (by decide) ?_
    refine lv_isub hx hb d_law_68 ?_
    refine lv_icmp_gt (tgt := 1064) hx hb d_law_69 (by decide) (fun c69 => ?_) (fun c69 => ?_)
    · refine lv_iconst (v := 1) hx hb d_law_1064 (by decide) ?_
      refine va_forget (fun q hq => hS.2.2 q hq) ?_
      refine W.widen (k := 671672) (n := 7081053) (by omega) (by omega) ?_
      exact lw_ret hx hb hr hlk d_law_1065
    · have hit : 4 + 4 * it + 4 ≤ n0 := by
        rcases Nat.lt_or_ge n0 (4 + 4 * it + 4) with q | q
        · exact absurd (sub4_lt hn0 (by omega) q) c69
        · exact q
      refine lv_aload_n hx hb d_law_72 rfl (lv_at hl 0 rfl) ?_
      refine lv_iload hx hb d_law_73 (lv_at hl 4 rfl) ?_
      refine va_sld (A := A0 s) hx hb hX hbl (Nat.not_le.mpr hbl) hS (vp_in_nI (by omega) (by omega)) d_law_75 ?_
      refine x_i (y := xs (4 + 4 * it)) (by rw [nI_clamp (by omega)]) ?_
      refine lv_bipush (v := 31) hx hb d_law_76 (by decide) ?_
      refine lv_iand hx hb d_law_78 ?_
      generalize ((xs (4 + 4 * it)) &&& 31) = v
      by_cases e0 : v = 0
      · refine lv_tableIn (tgt := 168) hx hb d_law_79 (by rw [e0]; decide) (by rw [e0]; decide) (by rw [e0]; rfl) (by decide) ?_
        exact lw_group hx hb hml hown hts hX hbl hn0 hK hxx hnc hlt ok hq hit R hP hD hS (lv_sub hl [0, 1, 2, 3, 4] rfl) (K (by omega))
      by_cases e1 : v = 1
      · refine lv_tableIn (tgt := 193) hx hb d_law_79 (by rw [e1]; decide) (by rw [e1]; decide) (by rw [e1]; rfl) (by decide) ?_
        exact lw_begin hx hb hml hown hts hX hbl hn0 hK hxx hnc hlt ok hq hit R hP hD hS (lv_sub hl [0, 1, 2, 3, 4] rfl) (K (by omega))
      by_cases e2 : v = 2
      · refine lv_tableIn (tgt := 269) hx hb d_law_79 (by rw [e2]; decide) (by rw [e2]; decide) (by rw [e2]; rfl) (by decide) ?_
        exact lw_coefficient hx hb hml hown hts hX hbl hn0 hK hxx hnc hlt ok hq hit R hP hD hS (lv_sub hl [0, 1, 2, 3, 4] rfl) (K (by omega))
      by_cases e3 : v = 3
      · refine lv_tableIn (tgt := 329) hx hb d_law_79 (by rw [e3]; decide) (by rw [e3]; decide) (by rw [e3]; rfl) (by decide) ?_
        exact lw_advance hx hb hml hown hts hX hbl hn0 hK hxx hnc hlt ok hq hit R hP hD hS (lv_sub hl [0, 1, 2, 3, 4] rfl) (K (by omega))
      by_cases e4 : v = 4
      · refine lv_tableIn (tgt := 373) hx hb d_law_79 (by rw [e4]; decide) (by rw [e4]; decide) (by rw [e4]; rfl) (by decide) ?_
        exact lw_tamper hx hb hml hown hts hX hbl hn0 hK hxx hnc hlt ok hq hit R hP hD hS (lv_sub hl [0, 1, 2, 3, 4] rfl) (K (by omega))
      by_cases e5 : v = 5
      · refine lv_tableIn (tgt := 433) hx hb d_law_79 (by rw [e5]; decide) (by rw [e5]; decide) (by rw [e5]; rfl) (by decide) ?_
        exact lw_forge hx hb hml hown hts hX hbl hn0 hK hxx hnc hlt ok hq hit R hP hD hS (lv_sub hl [0, 1, 2, 3, 4] rfl) (K (by omega))
      by_cases e6 : v = 6
      · refine lv_tableIn (tgt := 481) hx hb d_law_79 (by rw [e6]; decide) (by rw [e6]; decide) (by rw [e6]; rfl) (by decide) ?_
        exact lw_corrupt hx hb hml hown hts hX hbl hn0 hK hxx hnc hlt ok hq hit R hP hD hS (lv_sub hl [0, 1, 2, 3, 4] rfl) (K (by omega))
      by_cases e7 : v = 7
      · refine lv_tableIn (tgt := 544) hx hb d_law_79 (by rw [e7]; decide) (by rw [e7]; decide) (by rw [e7]; rfl) (by decide) ?_
        exact lw_accuse hx hb hml hown hts hX hbl hn0 hK hxx hnc hlt ok hq hit R hP hD hS (lv_sub hl [0, 1, 2, 3, 4] rfl) (K (by omega))
      by_cases e8 : v = 8
      · refine lv_tableIn (tgt := 607) hx hb d_law_79 (by rw [e8]; decide) (by rw [e8]; decide) (by rw [e8]; rfl) (by decide) ?_
        exact lw_answer hx hb hml hown hts hX hbl hn0 hK hxx hnc hlt ok hq hit R hP hD hS (lv_sub hl [0, 1, 2, 3, 4] rfl) (K (by omega))
      by_cases e9 : v = 9
      · refine lv_tableIn (tgt := 694) hx hb d_law_79 (by rw [e9]; decide) (by rw [e9]; decide) (by rw [e9]; rfl) (by decide) ?_
        exact lw_open hx hb hml hown hts hX hbl hn0 hK hxx hnc hlt ok hq hit R hP hD hS (lv_sub hl [0, 1, 2, 3, 4] rfl) (K (by omega))
      by_cases e10 : v = 10
      · refine lv_tableIn (tgt := 757) hx hb d_law_79 (by rw [e10]; decide) (by rw [e10]; decide) (by rw [e10]; rfl) (by decide) ?_
        exact lw_show hx hb hml hown hts hX hbl hn0 hK hxx hnc hlt ok hq hit R hP hD hS (lv_sub hl [0, 1, 2, 3, 4] rfl) (K (by omega))
      by_cases e11 : v = 11
      · refine lv_tableIn (tgt := 844) hx hb d_law_79 (by rw [e11]; decide) (by rw [e11]; decide) (by rw [e11]; rfl) (by decide) ?_
        exact lw_secret hx hb hml hown hts hX hbl hn0 hK hxx hnc hlt ok hq hit R hP hD hS (lv_sub hl [0, 1, 2, 3, 4] rfl) (K (by omega))
      by_cases e12 : v = 12
      · refine lv_tableIn (tgt := 888) hx hb d_law_79 (by rw [e12]; decide) (by rw [e12]; decide) (by rw [e12]; rfl) (by decide) ?_
        exact lw_relation hx hb hml hown hts hX hbl hn0 hK hxx hnc hlt ok hq hit R hP hD hS (lv_sub hl [0, 1, 2, 3, 4] rfl) (K (by omega))
      by_cases e13 : v = 13
      · refine lv_tableIn (tgt := 932) hx hb d_law_79 (by rw [e13]; decide) (by rw [e13]; decide) (by rw [e13]; rfl) (by decide) ?_
        exact lw_stage hx hb hml hown hts hX hbl hn0 hK hxx hnc hlt ok hq hit R hP hD hS (lv_sub hl [0, 1, 2, 3, 4] rfl) (K (by omega))
      by_cases e14 : v = 14
      · refine lv_tableIn (tgt := 945) hx hb d_law_79 (by rw [e14]; decide) (by rw [e14]; decide) (by rw [e14]; rfl) (by decide) ?_
        exact lw_commitment hx hb hml hown hts hX hbl hn0 hK hxx hnc hlt ok hq hit R hP hD hS (lv_sub hl [0, 1, 2, 3, 4] rfl) (K (by omega))
      by_cases e15 : v = 15
      · refine lv_tableIn (tgt := 970) hx hb d_law_79 (by rw [e15]; decide) (by rw [e15]; decide) (by rw [e15]; rfl) (by decide) ?_
        exact lw_share hx hb hml hown hts hX hbl hn0 hK hxx hnc hlt ok hq hit R hP hD hS (lv_sub hl [0, 1, 2, 3, 4] rfl) (K (by omega))
      by_cases e16 : v = 16
      · refine lv_tableIn (tgt := 1007) hx hb d_law_79 (by rw [e16]; decide) (by rw [e16]; decide) (by rw [e16]; rfl) (by decide) ?_
        exact lw_fits hx hb hml hown hts hX hbl hn0 hK hxx hnc hlt ok hq hit R hP hD hS (lv_sub hl [0, 1, 2, 3, 4] rfl) (K (by omega))
      by_cases e17 : v = 17
      · refine lv_tableIn (tgt := 1032) hx hb d_law_79 (by rw [e17]; decide) (by rw [e17]; decide) (by rw [e17]; rfl) (by decide) ?_
        exact lw_complaints hx hb hml hown hts hX hbl hn0 hK hxx hnc hlt ok hq hit R hP hD hS (lv_sub hl [0, 1, 2, 3, 4] rfl) (K (by omega))
      by_cases e18 : v = 18
      · refine lv_tableIn (tgt := 1045) hx hb d_law_79 (by rw [e18]; decide) (by rw [e18]; decide) (by rw [e18]; rfl) (by decide) ?_
        exact lw_opened hx hb hml hown hts hX hbl hn0 hK hxx hnc hlt ok hq hit R hP hD hS (lv_sub hl [0, 1, 2, 3, 4] rfl) (K (by omega))
      have u0 := lv_neT e0 (a := 0) (by decide)
      have u1 := lv_neT e1 (a := 1) (by decide)
      have u2 := lv_neT e2 (a := 2) (by decide)
      have u3 := lv_neT e3 (a := 3) (by decide)
      have u4 := lv_neT e4 (a := 4) (by decide)
      have u5 := lv_neT e5 (a := 5) (by decide)
      have u6 := lv_neT e6 (a := 6) (by decide)
      have u7 := lv_neT e7 (a := 7) (by decide)
      have u8 := lv_neT e8 (a := 8) (by decide)
      have u9 := lv_neT e9 (a := 9) (by decide)
      have u10 := lv_neT e10 (a := 10) (by decide)
      have u11 := lv_neT e11 (a := 11) (by decide)
      have u12 := lv_neT e12 (a := 12) (by decide)
      have u13 := lv_neT e13 (a := 13) (by decide)
      have u14 := lv_neT e14 (a := 14) (by decide)
      have u15 := lv_neT e15 (a := 15) (by decide)
      have u16 := lv_neT e16 (a := 16) (by decide)
      have u17 := lv_neT e17 (a := 17) (by decide)
      have u18 := lv_neT e18 (a := 18) (by decide)
      refine lv_tableOut (tgt := 1058) hx hb d_law_79 (by omega) (by decide) ?_
      refine W.widen (k := 29 + it) (n := 236 + 6 * it) (by omega) (by omega) ?_
      exact K (by omega) S M f H locs ls R hP hD hS (lv_sub hl [0, 1, 2, 3, 4] rfl)
end LW
