section LW
variable {p : Program} {l : Launch} {e : Env} {s : State} {m : MethodId} {below : List Frame} {meth : Method} {c : Code} {H : Heap} {locs : List Loc} {Q : State → Prop} {ls : Array Slot} {b n0 it : Nat} {xs : Nat → Int32}
variable {dC : Nat → ClassId} {dI : Nat → Nat → Nat} {Z Y : Nat → Nat} {cI cP cL cJ cZ : ClassId} {p0 q0 g0 h0 ou : Nat} {S M : Nat → Nat → Int32} {f : Nat → Int64}
set_option maxRecDepth 100000 in
set_option maxHeartbeats 4000000 in
theorem lw_group (hx : p.tables.exec = Jvm.exec) (hb : c.code = code) (hml : c.maxLocals = 7) (hown : s.vm.findClass "DealtSecretLaw" = some m.cls) (hts : ∀ w ∈ AL, w.before #[Value.ref b] s = true) (hX : va_X b n0 xs s s.heap) (hbl : b < s.heap.size) (hn0 : n0 ≤ 2052) (hK : va_K (dC, dI) cls (tysW cI cP cL cJ cZ) s) (hxx : xx s) (hnc : xnc s) (hlt : l.stackTraces = false) (ok : okG p0 q0 g0 h0) (hq : mz_P q0) (hit : 4 + 4 * it + 4 ≤ n0) (R : Rel p0 q0 g0 h0 S M) (hP : va_P (dC, dI) cls (wW Z Y cI cP cL cJ cZ p0 q0 g0 h0 ou S M f) H) (hD : va_D (A0 s) (wW Z Y cI cP cL cJ cZ p0 q0 g0 h0 ou S M f)) (hS : va_S (A0 s) s.heap H locs) (hl : lv_has ls 7 [(0, .ref b), (1, .ref (Z 0)), (2, .ref (Y 0)), (3, .ref ou), (4, .int (nI (4 + 4 * it)))]) (K : ∀ (S M : Nat → Nat → Int32) (f : Nat → Int64) (H : Heap) (locs : List Loc) (ls : Array Slot), Rel p0 q0 g0 h0 S M → va_P (dC, dI) cls (wW Z Y cI cP cL cJ cZ p0 q0 g0 h0 ou S M f) H → va_D (A0 s) (wW Z Y cI cP cL cJ cZ p0 q0 g0 h0 ou S M f) → va_S (A0 s) s.heap H locs → lv_has ls 7 [(0, .ref b), (1, .ref (Z 0)), (2, .ref (Y 0)), (3, .ref ou), (4, .int (nI (4 + 4 * it)))] → W p l e room_1 s m #[Value.ref b] below meth c H locs (29 + it) (236 + 6 * it) Q (F0 m 1058 ls [])) : W p l e room_1 s m #[Value.ref b] below meth c H locs (28 + it) (230 + 6 * it) Q (F0 m 168 ls []) := by
  obtain ⟨r, hCr, hMr⟩ := s_group (l := l) (dC := dC) (dI := dI) (Z := Z) (Y := Y) (cI := cI) (cP := cP) (cJ := cJ) (cZ := cZ) ok R (xs (4 + 4 * it + 1))
  refine lv_aload_n hx hb d_law_168 rfl (lv_at hl 1 rfl) ?_
  refine lv_aload_n hx hb d_law_169 rfl (lv_at hl 0 rfl) ?_
  refine lv_iload hx hb d_law_170 (lv_at hl 4 rfl) ?_
  refine lv_iconst (v := (nI 1)) hx hb d_law_172 (by decide) ?_
  refine lv_iadd hx hb d_law_173 ?_
  refine x_i (y := nI (4 + 4 * it + 1)) (nI_pl _ _) ?_
  refine va_sld (A := A0 s) hx hb hX hbl (Nat.not_le.mpr hbl) hS (vp_in_nI (by omega) (by omega)) d_law_174 ?_
  refine x_i (y := xs (4 + 4 * it + 1)) (by rw [nI_clamp (by omega)]) ?_
  refine ro_V (As := [.int (xs (4 + 4 * it + 1))]) (rest := []) (b := Z 0) ⟨hx, hb, hml, hown, hts⟩ hCr (cwV 1 hts (al_V k_134 k_135 k_136 k_1 k_137) rfl rfl rfl (by decide +kernel) ⟨Nat.le_of_ble_eq_true rfl, Nat.le_of_ble_eq_true rfl⟩) (fun U g mk a h => ⟨h.1, va_K.moved (u := U) (U := U.calling g mk a) (Vm.Alike.refl U.vm) h.2⟩) (va_recv hK hP (ci := 2) (q0 := 0) rfl rfl) (fun U hU hW => ⟨by rw [hU]; exact w_l (w_l hP), va_K.moved hW.alike (hK.sub [0, 1] rfl)⟩) rfl hl.1 rfl (lv_room (Nat.le_of_ble_eq_true rfl)) d_law_175 ⟨by show 28 + it ≤ 671672; omega, by show 230 + 6 * it ≤ 7081053; omega⟩ ?_
  refine lv_aload_n hx hb d_law_178 rfl (lv_at hl 2 rfl) ?_
  refine lv_aload_n hx hb d_law_179 rfl (lv_at hl 0 rfl) ?_
  refine lv_iload hx hb d_law_180 (lv_at hl 4 rfl) ?_
  refine lv_iconst (v := (nI 1)) hx hb d_law_182 (by decide) ?_
  refine lv_iadd hx hb d_law_183 ?_
  refine x_i (y := nI (4 + 4 * it + 1)) (nI_pl _ _) ?_
  refine va_sld (A := A0 s) hx hb hX hbl (Nat.not_le.mpr hbl) hS (vp_in_nI (by omega) (by omega)) d_law_184 ?_
  refine x_i (y := xs (4 + 4 * it + 1)) (by rw [nI_clamp (by omega)]) ?_
  refine wr_V (As := [.int (xs (4 + 4 * it + 1))]) (rest := [.int r]) (b := Y 0) (A := A0 s) ⟨hx, hb, hml, hown, hts⟩ hMr (cwV 1 hts (al_V k_520 k_521 k_522 k_4 k_523) rfl rfl rfl (by decide +kernel) ⟨Nat.le_of_ble_eq_true rfl, Nat.le_of_ble_eq_true rfl⟩) (va_recv hK (w_r hP) (ci := 3) (q0 := 0) rfl rfl) (w_r hP) (hK.sub [3, 4] rfl) (w_dr hD) hS rfl hl.1 rfl (lv_room (Nat.le_of_ble_eq_true rfl)) d_law_185 ⟨by show 28 + it ≤ 671672; omega, by show 230 + 6 * it ≤ 7081053; omega⟩ (fun H locs hP1 hkp _ hS => ?_)
  have hP := (w_keepR (w_l hP) hD hkp).app hP1
  have hD : va_D (A0 s) (wW Z Y cI cP cL cJ cZ p0 q0 g0 h0 ou S (up M 0 1 0) f) := w_addr hD (w_adW S S M (up M 0 1 0) f f)
  refine lv_icmp_eq (tgt := 1058) hx hb d_law_188 (by decide) (fun _ => ?_) (fun c_ => absurd (rfl) c_)
  refine W.widen (k := 29 + it) (n := 236 + 6 * it) (by omega) (by omega) ?_
  exact K S (up M 0 1 0) f H locs ls (R.thr 0) hP hD hS (lv_sub hl [0, 1, 2, 3, 4] rfl)
set_option maxRecDepth 100000 in
set_option maxHeartbeats 4000000 in
theorem lw_stage (hx : p.tables.exec = Jvm.exec) (hb : c.code = code) (hml : c.maxLocals = 7) (hown : s.vm.findClass "DealtSecretLaw" = some m.cls) (hts : ∀ w ∈ AL, w.before #[Value.ref b] s = true) (hX : va_X b n0 xs s s.heap) (hbl : b < s.heap.size) (hn0 : n0 ≤ 2052) (hK : va_K (dC, dI) cls (tysW cI cP cL cJ cZ) s) (hxx : xx s) (hnc : xnc s) (hlt : l.stackTraces = false) (ok : okG p0 q0 g0 h0) (hq : mz_P q0) (hit : 4 + 4 * it + 4 ≤ n0) (R : Rel p0 q0 g0 h0 S M) (hP : va_P (dC, dI) cls (wW Z Y cI cP cL cJ cZ p0 q0 g0 h0 ou S M f) H) (hD : va_D (A0 s) (wW Z Y cI cP cL cJ cZ p0 q0 g0 h0 ou S M f)) (hS : va_S (A0 s) s.heap H locs) (hl : lv_has ls 7 [(0, .ref b), (1, .ref (Z 0)), (2, .ref (Y 0)), (3, .ref ou), (4, .int (nI (4 + 4 * it)))]) (K : ∀ (S M : Nat → Nat → Int32) (f : Nat → Int64) (H : Heap) (locs : List Loc) (ls : Array Slot), Rel p0 q0 g0 h0 S M → va_P (dC, dI) cls (wW Z Y cI cP cL cJ cZ p0 q0 g0 h0 ou S M f) H → va_D (A0 s) (wW Z Y cI cP cL cJ cZ p0 q0 g0 h0 ou S M f) → va_S (A0 s) s.heap H locs → lv_has ls 7 [(0, .ref b), (1, .ref (Z 0)), (2, .ref (Y 0)), (3, .ref ou), (4, .int (nI (4 + 4 * it)))] → W p l e room_1 s m #[Value.ref b] below meth c H locs (29 + it) (236 + 6 * it) Q (F0 m 1058 ls [])) : W p l e room_1 s m #[Value.ref b] below meth c H locs (28 + it) (230 + 6 * it) Q (F0 m 932 ls []) := by
  obtain ⟨r, hCr, hMr⟩ := s_stage (l := l) (dC := dC) (dI := dI) (Z := Z) (Y := Y) (cI := cI) (cP := cP) (cJ := cJ) (cZ := cZ) ok R 
  refine lv_aload_n hx hb d_law_932 rfl (lv_at hl 1 rfl) ?_
  refine ro_V (As := []) (rest := []) (b := Z 0) ⟨hx, hb, hml, hown, hts⟩ hCr (cwV 0 hts (al_V k_138 k_139 k_140 k_1 k_141) rfl rfl rfl (by decide +kernel) ⟨Nat.le_of_ble_eq_true rfl, Nat.le_of_ble_eq_true rfl⟩) (fun U g mk a h => ⟨h.1, va_K.moved (u := U) (U := U.calling g mk a) (Vm.Alike.refl U.vm) h.2⟩) (va_recv hK hP (ci := 2) (q0 := 0) rfl rfl) (fun U hU hW => ⟨by rw [hU]; exact w_l (w_l hP), va_K.moved hW.alike (hK.sub [0, 1] rfl)⟩) rfl hl.1 rfl (lv_room (Nat.le_of_ble_eq_true rfl)) d_law_933 ⟨by show 28 + it ≤ 671672; omega, by show 230 + 6 * it ≤ 7081053; omega⟩ ?_
  refine lv_aload_n hx hb d_law_936 rfl (lv_at hl 2 rfl) ?_
  refine wr_V (As := []) (rest := [.int r]) (b := Y 0) (A := A0 s) ⟨hx, hb, hml, hown, hts⟩ hMr (cwV 0 hts (al_V k_605 k_606 k_607 k_4 k_608) rfl rfl rfl (by decide +kernel) ⟨Nat.le_of_ble_eq_true rfl, Nat.le_of_ble_eq_true rfl⟩) (va_recv hK (w_r hP) (ci := 3) (q0 := 0) rfl rfl) (w_r hP) (hK.sub [3, 4] rfl) (w_dr hD) hS rfl hl.1 rfl (lv_room (Nat.le_of_ble_eq_true rfl)) d_law_937 ⟨by show 28 + it ≤ 671672; omega, by show 230 + 6 * it ≤ 7081053; omega⟩ (fun H locs hP1 hkp _ hS => ?_)
  have hP := (w_keepR (w_l hP) hD hkp).app hP1
  have hD : va_D (A0 s) (wW Z Y cI cP cL cJ cZ p0 q0 g0 h0 ou S (up M 0 1 0) f) := w_addr hD (w_adW S S M (up M 0 1 0) f f)
  refine lv_icmp_eq (tgt := 1058) hx hb d_law_940 (by decide) (fun _ => ?_) (fun c_ => absurd (rfl) c_)
  refine W.widen (k := 29 + it) (n := 236 + 6 * it) (by omega) (by omega) ?_
  exact K S (up M 0 1 0) f H locs ls (R.thr 0) hP hD hS (lv_sub hl [0, 1, 2, 3, 4] rfl)
set_option maxRecDepth 100000 in
set_option maxHeartbeats 4000000 in
theorem lw_commitment (hx : p.tables.exec = Jvm.exec) (hb : c.code = code) (hml : c.maxLocals = 7) (hown : s.vm.findClass "DealtSecretLaw" = some m.cls) (hts : ∀ w ∈ AL, w.before #[Value.ref b] s = true) (hX : va_X b n0 xs s s.heap) (hbl : b < s.heap.size) (hn0 : n0 ≤ 2052) (hK : va_K (dC, dI) cls (tysW cI cP cL cJ cZ) s) (hxx : xx s) (hnc : xnc s) (hlt : l.stackTraces = false) (ok : okG p0 q0 g0 h0) (hq : mz_P q0) (hit : 4 + 4 * it + 4 ≤ n0) (R : Rel p0 q0 g0 h0 S M) (hP : va_P (dC, dI) cls (wW Z Y cI cP cL cJ cZ p0 q0 g0 h0 ou S M f) H) (hD : va_D (A0 s) (wW Z Y cI cP cL cJ cZ p0 q0 g0 h0 ou S M f)) (hS : va_S (A0 s) s.heap H locs) (hl : lv_has ls 7 [(0, .ref b), (1, .ref (Z 0)), (2, .ref (Y 0)), (3, .ref ou), (4, .int (nI (4 + 4 * it)))]) (K : ∀ (S M : Nat → Nat → Int32) (f : Nat → Int64) (H : Heap) (locs : List Loc) (ls : Array Slot), Rel p0 q0 g0 h0 S M → va_P (dC, dI) cls (wW Z Y cI cP cL cJ cZ p0 q0 g0 h0 ou S M f) H → va_D (A0 s) (wW Z Y cI cP cL cJ cZ p0 q0 g0 h0 ou S M f) → va_S (A0 s) s.heap H locs → lv_has ls 7 [(0, .ref b), (1, .ref (Z 0)), (2, .ref (Y 0)), (3, .ref ou), (4, .int (nI (4 + 4 * it)))] → W p l e room_1 s m #[Value.ref b] below meth c H locs (29 + it) (236 + 6 * it) Q (F0 m 1058 ls [])) : W p l e room_1 s m #[Value.ref b] below meth c H locs (28 + it) (230 + 6 * it) Q (F0 m 945 ls []) := by
  obtain ⟨r, hCr, hMr⟩ := s_commitment (l := l) (dC := dC) (dI := dI) (Z := Z) (Y := Y) (cI := cI) (cP := cP) (cJ := cJ) (cZ := cZ) ok R (xs (4 + 4 * it + 1))
  refine lv_aload_n hx hb d_law_945 rfl (lv_at hl 1 rfl) ?_
  refine lv_aload_n hx hb d_law_946 rfl (lv_at hl 0 rfl) ?_
  refine lv_iload hx hb d_law_947 (lv_at hl 4 rfl) ?_
  refine lv_iconst (v := (nI 1)) hx hb d_law_949 (by decide) ?_
  refine lv_iadd hx hb d_law_950 ?_
  refine x_i (y := nI (4 + 4 * it + 1)) (nI_pl _ _) ?_
  refine va_sld (A := A0 s) hx hb hX hbl (Nat.not_le.mpr hbl) hS (vp_in_nI (by omega) (by omega)) d_law_951 ?_
  refine x_i (y := xs (4 + 4 * it + 1)) (by rw [nI_clamp (by omega)]) ?_
  refine ro_V (As := [.int (xs (4 + 4 * it + 1))]) (rest := []) (b := Z 0) ⟨hx, hb, hml, hown, hts⟩ hCr (cwV 1 hts (al_V k_142 k_143 k_144 k_1 k_145) rfl rfl rfl (by decide +kernel) ⟨Nat.le_of_ble_eq_true rfl, Nat.le_of_ble_eq_true rfl⟩) (fun U g mk a h => ⟨h.1, va_K.moved (u := U) (U := U.calling g mk a) (Vm.Alike.refl U.vm) h.2⟩) (va_recv hK hP (ci := 2) (q0 := 0) rfl rfl) (fun U hU hW => ⟨by rw [hU]; exact w_l (w_l hP), va_K.moved hW.alike (hK.sub [0, 1] rfl)⟩) rfl hl.1 rfl (lv_room (Nat.le_of_ble_eq_true rfl)) d_law_952 ⟨by show 28 + it ≤ 671672; omega, by show 230 + 6 * it ≤ 7081053; omega⟩ ?_
  refine lv_aload_n hx hb d_law_955 rfl (lv_at hl 2 rfl) ?_
  refine lv_aload_n hx hb d_law_956 rfl (lv_at hl 0 rfl) ?_
  refine lv_iload hx hb d_law_957 (lv_at hl 4 rfl) ?_
  refine lv_iconst (v := (nI 1)) hx hb d_law_959 (by decide) ?_
  refine lv_iadd hx hb d_law_960 ?_
  refine x_i (y := nI (4 + 4 * it + 1)) (nI_pl _ _) ?_
  refine va_sld (A := A0 s) hx hb hX hbl (Nat.not_le.mpr hbl) hS (vp_in_nI (by omega) (by omega)) d_law_961 ?_
  refine x_i (y := xs (4 + 4 * it + 1)) (by rw [nI_clamp (by omega)]) ?_
  refine wr_V (As := [.int (xs (4 + 4 * it + 1))]) (rest := [.int r]) (b := Y 0) (A := A0 s) ⟨hx, hb, hml, hown, hts⟩ hMr (cwV 1 hts (al_V k_609 k_610 k_611 k_4 k_612) rfl rfl rfl (by decide +kernel) ⟨Nat.le_of_ble_eq_true rfl, Nat.le_of_ble_eq_true rfl⟩) (va_recv hK (w_r hP) (ci := 3) (q0 := 0) rfl rfl) (w_r hP) (hK.sub [3, 4] rfl) (w_dr hD) hS rfl hl.1 rfl (lv_room (Nat.le_of_ble_eq_true rfl)) d_law_962 ⟨by show 28 + it ≤ 671672; omega, by show 230 + 6 * it ≤ 7081053; omega⟩ (fun H locs hP1 hkp _ hS => ?_)
  have hP := (w_keepR (w_l hP) hD hkp).app hP1
  have hD : va_D (A0 s) (wW Z Y cI cP cL cJ cZ p0 q0 g0 h0 ou S (up M 0 1 0) f) := w_addr hD (w_adW S S M (up M 0 1 0) f f)
  refine lv_icmp_eq (tgt := 1058) hx hb d_law_965 (by decide) (fun _ => ?_) (fun c_ => absurd (rfl) c_)
  refine W.widen (k := 29 + it) (n := 236 + 6 * it) (by omega) (by omega) ?_
  exact K S (up M 0 1 0) f H locs ls (R.thr 0) hP hD hS (lv_sub hl [0, 1, 2, 3, 4] rfl)
set_option maxRecDepth 100000 in
set_option maxHeartbeats 4000000 in
theorem lw_share (hx : p.tables.exec = Jvm.exec) (hb : c.code = code) (hml : c.maxLocals = 7) (hown : s.vm.findClass "DealtSecretLaw" = some m.cls) (hts : ∀ w ∈ AL, w.before #[Value.ref b] s = true) (hX : va_X b n0 xs s s.heap) (hbl : b < s.heap.size) (hn0 : n0 ≤ 2052) (hK : va_K (dC, dI) cls (tysW cI cP cL cJ cZ) s) (hxx : xx s) (hnc : xnc s) (hlt : l.stackTraces = false) (ok : okG p0 q0 g0 h0) (hq : mz_P q0) (hit : 4 + 4 * it + 4 ≤ n0) (R : Rel p0 q0 g0 h0 S M) (hP : va_P (dC, dI) cls (wW Z Y cI cP cL cJ cZ p0 q0 g0 h0 ou S M f) H) (hD : va_D (A0 s) (wW Z Y cI cP cL cJ cZ p0 q0 g0 h0 ou S M f)) (hS : va_S (A0 s) s.heap H locs) (hl : lv_has ls 7 [(0, .ref b), (1, .ref (Z 0)), (2, .ref (Y 0)), (3, .ref ou), (4, .int (nI (4 + 4 * it)))]) (K : ∀ (S M : Nat → Nat → Int32) (f : Nat → Int64) (H : Heap) (locs : List Loc) (ls : Array Slot), Rel p0 q0 g0 h0 S M → va_P (dC, dI) cls (wW Z Y cI cP cL cJ cZ p0 q0 g0 h0 ou S M f) H → va_D (A0 s) (wW Z Y cI cP cL cJ cZ p0 q0 g0 h0 ou S M f) → va_S (A0 s) s.heap H locs → lv_has ls 7 [(0, .ref b), (1, .ref (Z 0)), (2, .ref (Y 0)), (3, .ref ou), (4, .int (nI (4 + 4 * it)))] → W p l e room_1 s m #[Value.ref b] below meth c H locs (29 + it) (236 + 6 * it) Q (F0 m 1058 ls [])) : W p l e room_1 s m #[Value.ref b] below meth c H locs (28 + it) (230 + 6 * it) Q (F0 m 970 ls []) := by
  obtain ⟨r, hCr, hMr⟩ := s_share (l := l) (dC := dC) (dI := dI) (Z := Z) (Y := Y) (cI := cI) (cP := cP) (cJ := cJ) (cZ := cZ) ok R (xs (4 + 4 * it + 1)) (xs (4 + 4 * it + 2))
  refine lv_aload_n hx hb d_law_970 rfl (lv_at hl 1 rfl) ?_
  refine lv_aload_n hx hb d_law_971 rfl (lv_at hl 0 rfl) ?_
  refine lv_iload hx hb d_law_972 (lv_at hl 4 rfl) ?_
  refine lv_iconst (v := (nI 1)) hx hb d_law_974 (by decide) ?_
  refine lv_iadd hx hb d_law_975 ?_
  refine x_i (y := nI (4 + 4 * it + 1)) (nI_pl _ _) ?_
  refine va_sld (A := A0 s) hx hb hX hbl (Nat.not_le.mpr hbl) hS (vp_in_nI (by omega) (by omega)) d_law_976 ?_
  refine x_i (y := xs (4 + 4 * it + 1)) (by rw [nI_clamp (by omega)]) ?_
  refine lv_aload_n hx hb d_law_977 rfl (lv_at hl 0 rfl) ?_
  refine lv_iload hx hb d_law_978 (lv_at hl 4 rfl) ?_
  refine lv_iconst (v := (nI 2)) hx hb d_law_980 (by decide) ?_
  refine lv_iadd hx hb d_law_981 ?_
  refine x_i (y := nI (4 + 4 * it + 2)) (nI_pl _ _) ?_
  refine va_sld (A := A0 s) hx hb hX hbl (Nat.not_le.mpr hbl) hS (vp_in_nI (by omega) (by omega)) d_law_982 ?_
  refine x_i (y := xs (4 + 4 * it + 2)) (by rw [nI_clamp (by omega)]) ?_
  refine ro_V (As := [.int (xs (4 + 4 * it + 1)), .int (xs (4 + 4 * it + 2))]) (rest := []) (b := Z 0) ⟨hx, hb, hml, hown, hts⟩ hCr (cwV 2 hts (al_V k_152 k_153 k_154 k_1 k_155) rfl rfl rfl (by decide +kernel) ⟨Nat.le_of_ble_eq_true rfl, Nat.le_of_ble_eq_true rfl⟩) (fun U g mk a h => ⟨h.1, va_K.moved (u := U) (U := U.calling g mk a) (Vm.Alike.refl U.vm) h.2⟩) (va_recv hK hP (ci := 2) (q0 := 0) rfl rfl) (fun U hU hW => ⟨by rw [hU]; exact w_l (w_l hP), va_K.moved hW.alike (hK.sub [0, 1] rfl)⟩) rfl hl.1 rfl (lv_room (Nat.le_of_ble_eq_true rfl)) d_law_983 ⟨by show 28 + it ≤ 671672; omega, by show 230 + 6 * it ≤ 7081053; omega⟩ ?_
  refine lv_aload_n hx hb d_law_986 rfl (lv_at hl 2 rfl) ?_
  refine lv_aload_n hx hb d_law_987 rfl (lv_at hl 0 rfl) ?_
  refine lv_iload hx hb d_law_988 (lv_at hl 4 rfl) ?_
  refine lv_iconst (v := (nI 1)) hx hb d_law_990 (by decide) ?_
  refine lv_iadd hx hb d_law_991 ?_
  refine x_i (y := nI (4 + 4 * it + 1)) (nI_pl _ _) ?_
  refine va_sld (A := A0 s) hx hb hX hbl (Nat.not_le.mpr hbl) hS (vp_in_nI (by omega) (by omega)) d_law_992 ?_
  refine x_i (y := xs (4 + 4 * it + 1)) (by rw [nI_clamp (by omega)]) ?_
  refine lv_aload_n hx hb d_law_993 rfl (lv_at hl 0 rfl) ?_
  refine lv_iload hx hb d_law_994 (lv_at hl 4 rfl) ?_
  refine lv_iconst (v := (nI 2)) hx hb d_law_996 (by decide) ?_
  refine lv_iadd hx hb d_law_997 ?_
  refine x_i (y := nI (4 + 4 * it + 2)) (nI_pl _ _) ?_
  refine va_sld (A := A0 s) hx hb hX hbl (Nat.not_le.mpr hbl) hS (vp_in_nI (by omega) (by omega)) d_law_998 ?_
  refine x_i (y := xs (4 + 4 * it + 2)) (by rw [nI_clamp (by omega)]) ?_
  refine wr_V (As := [.int (xs (4 + 4 * it + 1)), .int (xs (4 + 4 * it + 2))]) (rest := [.int r]) (b := Y 0) (A := A0 s) ⟨hx, hb, hml, hown, hts⟩ hMr (cwV 2 hts (al_V k_613 k_614 k_615 k_4 k_616) rfl rfl rfl (by decide +kernel) ⟨Nat.le_of_ble_eq_true rfl, Nat.le_of_ble_eq_true rfl⟩) (va_recv hK (w_r hP) (ci := 3) (q0 := 0) rfl rfl) (w_r hP) (hK.sub [3, 4] rfl) (w_dr hD) hS rfl hl.1 rfl (lv_room (Nat.le_of_ble_eq_true rfl)) d_law_999 ⟨by show 28 + it ≤ 671672; omega, by show 230 + 6 * it ≤ 7081053; omega⟩ (fun H locs hP1 hkp _ hS => ?_)
  have hP := (w_keepR (w_l hP) hD hkp).app hP1
  have hD : va_D (A0 s) (wW Z Y cI cP cL cJ cZ p0 q0 g0 h0 ou S (up M 0 1 0) f) := w_addr hD (w_adW S S M (up M 0 1 0) f f)
  refine lv_icmp_eq (tgt := 1058) hx hb d_law_1002 (by decide) (fun _ => ?_) (fun c_ => absurd (rfl) c_)
  refine W.widen (k := 29 + it) (n := 236 + 6 * it) (by omega) (by omega) ?_
  exact K S (up M 0 1 0) f H locs ls (R.thr 0) hP hD hS (lv_sub hl [0, 1, 2, 3, 4] rfl)
set_option maxRecDepth 100000 in
set_option maxHeartbeats 4000000 in
theorem lw_fits (hx : p.tables.exec = Jvm.exec) (hb : c.code = code) (hml : c.maxLocals = 7) (hown : s.vm.findClass "DealtSecretLaw" = some m.cls) (hts : ∀ w ∈ AL, w.before #[Value.ref b] s = true) (hX : va_X b n0 xs s s.heap) (hbl : b < s.heap.size) (hn0 : n0 ≤ 2052) (hK : va_K (dC, dI) cls (tysW cI cP cL cJ cZ) s) (hxx : xx s) (hnc : xnc s) (hlt : l.stackTraces = false) (ok : okG p0 q0 g0 h0) (hq : mz_P q0) (hit : 4 + 4 * it + 4 ≤ n0) (R : Rel p0 q0 g0 h0 S M) (hP : va_P (dC, dI) cls (wW Z Y cI cP cL cJ cZ p0 q0 g0 h0 ou S M f) H) (hD : va_D (A0 s) (wW Z Y cI cP cL cJ cZ p0 q0 g0 h0 ou S M f)) (hS : va_S (A0 s) s.heap H locs) (hl : lv_has ls 7 [(0, .ref b), (1, .ref (Z 0)), (2, .ref (Y 0)), (3, .ref ou), (4, .int (nI (4 + 4 * it)))]) (K : ∀ (S M : Nat → Nat → Int32) (f : Nat → Int64) (H : Heap) (locs : List Loc) (ls : Array Slot), Rel p0 q0 g0 h0 S M → va_P (dC, dI) cls (wW Z Y cI cP cL cJ cZ p0 q0 g0 h0 ou S M f) H → va_D (A0 s) (wW Z Y cI cP cL cJ cZ p0 q0 g0 h0 ou S M f) → va_S (A0 s) s.heap H locs → lv_has ls 7 [(0, .ref b), (1, .ref (Z 0)), (2, .ref (Y 0)), (3, .ref ou), (4, .int (nI (4 + 4 * it)))] → W p l e room_1 s m #[Value.ref b] below meth c H locs (29 + it) (236 + 6 * it) Q (F0 m 1058 ls [])) : W p l e room_1 s m #[Value.ref b] below meth c H locs (28 + it) (230 + 6 * it) Q (F0 m 1007 ls []) := by
  obtain ⟨r, hCr, hMr⟩ := s_fits (l := l) (dC := dC) (dI := dI) (Z := Z) (Y := Y) (cI := cI) (cP := cP) (cJ := cJ) (cZ := cZ) ok R (xs (4 + 4 * it + 1))
  refine lv_aload_n hx hb d_law_1007 rfl (lv_at hl 1 rfl) ?_
  refine lv_aload_n hx hb d_law_1008 rfl (lv_at hl 0 rfl) ?_
  refine lv_iload hx hb d_law_1009 (lv_at hl 4 rfl) ?_
  refine lv_iconst (v := (nI 1)) hx hb d_law_1011 (by decide) ?_
  refine lv_iadd hx hb d_law_1012 ?_
  refine x_i (y := nI (4 + 4 * it + 1)) (nI_pl _ _) ?_
  refine va_sld (A := A0 s) hx hb hX hbl (Nat.not_le.mpr hbl) hS (vp_in_nI (by omega) (by omega)) d_law_1013 ?_
  refine x_i (y := xs (4 + 4 * it + 1)) (by rw [nI_clamp (by omega)]) ?_
  refine ro_V (As := [.int (xs (4 + 4 * it + 1))]) (rest := []) (b := Z 0) ⟨hx, hb, hml, hown, hts⟩ hCr (cwV 1 hts (al_V k_159 k_160 k_161 k_1 k_162) rfl rfl rfl (by decide +kernel) ⟨Nat.le_of_ble_eq_true rfl, Nat.le_of_ble_eq_true rfl⟩) (fun U g mk a h => ⟨h.1, va_K.moved (u := U) (U := U.calling g mk a) (Vm.Alike.refl U.vm) h.2⟩) (va_recv hK hP (ci := 2) (q0 := 0) rfl rfl) (fun U hU hW => ⟨by rw [hU]; exact w_l (w_l hP), va_K.moved hW.alike (hK.sub [0, 1] rfl)⟩) rfl hl.1 rfl (lv_room (Nat.le_of_ble_eq_true rfl)) d_law_1014 ⟨by show 28 + it ≤ 671672; omega, by show 230 + 6 * it ≤ 7081053; omega⟩ ?_
  refine lv_aload_n hx hb d_law_1017 rfl (lv_at hl 2 rfl) ?_
  refine lv_aload_n hx hb d_law_1018 rfl (lv_at hl 0 rfl) ?_
  refine lv_iload hx hb d_law_1019 (lv_at hl 4 rfl) ?_
  refine lv_iconst (v := (nI 1)) hx hb d_law_1021 (by decide) ?_
  refine lv_iadd hx hb d_law_1022 ?_
  refine x_i (y := nI (4 + 4 * it + 1)) (nI_pl _ _) ?_
  refine va_sld (A := A0 s) hx hb hX hbl (Nat.not_le.mpr hbl) hS (vp_in_nI (by omega) (by omega)) d_law_1023 ?_
  refine x_i (y := xs (4 + 4 * it + 1)) (by rw [nI_clamp (by omega)]) ?_
  refine wr_V (As := [.int (xs (4 + 4 * it + 1))]) (rest := [.int r]) (b := Y 0) (A := A0 s) ⟨hx, hb, hml, hown, hts⟩ hMr (cwV 1 hts (al_V k_617 k_618 k_619 k_4 k_620) rfl rfl rfl (by decide +kernel) ⟨Nat.le_of_ble_eq_true rfl, Nat.le_of_ble_eq_true rfl⟩) (va_recv hK (w_r hP) (ci := 3) (q0 := 0) rfl rfl) (w_r hP) (hK.sub [3, 4] rfl) (w_dr hD) hS rfl hl.1 rfl (lv_room (Nat.le_of_ble_eq_true rfl)) d_law_1024 ⟨by show 28 + it ≤ 671672; omega, by show 230 + 6 * it ≤ 7081053; omega⟩ (fun H locs hP1 hkp _ hS => ?_)
  have hP := (w_keepR (w_l hP) hD hkp).app hP1
  have hD : va_D (A0 s) (wW Z Y cI cP cL cJ cZ p0 q0 g0 h0 ou S (up M 0 1 0) f) := w_addr hD (w_adW S S M (up M 0 1 0) f f)
  refine lv_icmp_eq (tgt := 1058) hx hb d_law_1027 (by decide) (fun _ => ?_) (fun c_ => absurd (rfl) c_)
  refine W.widen (k := 29 + it) (n := 236 + 6 * it) (by omega) (by omega) ?_
  exact K S (up M 0 1 0) f H locs ls (R.thr 0) hP hD hS (lv_sub hl [0, 1, 2, 3, 4] rfl)
set_option maxRecDepth 100000 in
set_option maxHeartbeats 4000000 in
theorem lw_complaints (hx : p.tables.exec = Jvm.exec) (hb : c.code = code) (hml : c.maxLocals = 7) (hown : s.vm.findClass "DealtSecretLaw" = some m.cls) (hts : ∀ w ∈ AL, w.before #[Value.ref b] s = true) (hX : va_X b n0 xs s s.heap) (hbl : b < s.heap.size) (hn0 : n0 ≤ 2052) (hK : va_K (dC, dI) cls (tysW cI cP cL cJ cZ) s) (hxx : xx s) (hnc : xnc s) (hlt : l.stackTraces = false) (ok : okG p0 q0 g0 h0) (hq : mz_P q0) (hit : 4 + 4 * it + 4 ≤ n0) (R : Rel p0 q0 g0 h0 S M) (hP : va_P (dC, dI) cls (wW Z Y cI cP cL cJ cZ p0 q0 g0 h0 ou S M f) H) (hD : va_D (A0 s) (wW Z Y cI cP cL cJ cZ p0 q0 g0 h0 ou S M f)) (hS : va_S (A0 s) s.heap H locs) (hl : lv_has ls 7 [(0, .ref b), (1, .ref (Z 0)), (2, .ref (Y 0)), (3, .ref ou), (4, .int (nI (4 + 4 * it)))]) (K : ∀ (S M : Nat → Nat → Int32) (f : Nat → Int64) (H : Heap) (locs : List Loc) (ls : Array Slot), Rel p0 q0 g0 h0 S M → va_P (dC, dI) cls (wW Z Y cI cP cL cJ cZ p0 q0 g0 h0 ou S M f) H → va_D (A0 s) (wW Z Y cI cP cL cJ cZ p0 q0 g0 h0 ou S M f) → va_S (A0 s) s.heap H locs → lv_has ls 7 [(0, .ref b), (1, .ref (Z 0)), (2, .ref (Y 0)), (3, .ref ou), (4, .int (nI (4 + 4 * it)))] → W p l e room_1 s m #[Value.ref b] below meth c H locs (29 + it) (236 + 6 * it) Q (F0 m 1058 ls [])) : W p l e room_1 s m #[Value.ref b] below meth c H locs (28 + it) (230 + 6 * it) Q (F0 m 1032 ls []) := by
  obtain ⟨r, hCr, hMr⟩ := s_complaints (l := l) (dC := dC) (dI := dI) (Z := Z) (Y := Y) (cI := cI) (cP := cP) (cJ := cJ) (cZ := cZ) ok R 
  refine lv_aload_n hx hb d_law_1032 rfl (lv_at hl 1 rfl) ?_
  refine ro_V (As := []) (rest := []) (b := Z 0) ⟨hx, hb, hml, hown, hts⟩ hCr (cwV 0 hts (al_V k_186 k_187 k_188 k_1 k_189) rfl rfl rfl (by decide +kernel) ⟨Nat.le_of_ble_eq_true rfl, Nat.le_of_ble_eq_true rfl⟩) (fun U g mk a h => ⟨h.1, va_K.moved (u := U) (U := U.calling g mk a) (Vm.Alike.refl U.vm) h.2⟩) (va_recv hK hP (ci := 2) (q0 := 0) rfl rfl) (fun U hU hW => ⟨by rw [hU]; exact w_l (w_l hP), va_K.moved hW.alike (hK.sub [0, 1] rfl)⟩) rfl hl.1 rfl (lv_room (Nat.le_of_ble_eq_true rfl)) d_law_1033 ⟨by show 28 + it ≤ 671672; omega, by show 230 + 6 * it ≤ 7081053; omega⟩ ?_
  refine lv_aload_n hx hb d_law_1036 rfl (lv_at hl 2 rfl) ?_
  refine wr_V (As := []) (rest := [.int r]) (b := Y 0) (A := A0 s) ⟨hx, hb, hml, hown, hts⟩ hMr (cwV 0 hts (al_V k_621 k_622 k_623 k_4 k_624) rfl rfl rfl (by decide +kernel) ⟨Nat.le_of_ble_eq_true rfl, Nat.le_of_ble_eq_true rfl⟩) (va_recv hK (w_r hP) (ci := 3) (q0 := 0) rfl rfl) (w_r hP) (hK.sub [3, 4] rfl) (w_dr hD) hS rfl hl.1 rfl (lv_room (Nat.le_of_ble_eq_true rfl)) d_law_1037 ⟨by show 28 + it ≤ 671672; omega, by show 230 + 6 * it ≤ 7081053; omega⟩ (fun H locs hP1 hkp _ hS => ?_)
  have hP := (w_keepR (w_l hP) hD hkp).app hP1
  have hD : va_D (A0 s) (wW Z Y cI cP cL cJ cZ p0 q0 g0 h0 ou S (up M 0 1 0) f) := w_addr hD (w_adW S S M (up M 0 1 0) f f)
  refine lv_icmp_eq (tgt := 1058) hx hb d_law_1040 (by decide) (fun _ => ?_) (fun c_ => absurd (rfl) c_)
  refine W.widen (k := 29 + it) (n := 236 + 6 * it) (by omega) (by omega) ?_
  exact K S (up M 0 1 0) f H locs ls (R.thr 0) hP hD hS (lv_sub hl [0, 1, 2, 3, 4] rfl)
set_option maxRecDepth 100000 in
set_option maxHeartbeats 4000000 in
theorem lw_opened (hx : p.tables.exec = Jvm.exec) (hb : c.code = code) (hml : c.maxLocals = 7) (hown : s.vm.findClass "DealtSecretLaw" = some m.cls) (hts : ∀ w ∈ AL, w.before #[Value.ref b] s = true) (hX : va_X b n0 xs s s.heap) (hbl : b < s.heap.size) (hn0 : n0 ≤ 2052) (hK : va_K (dC, dI) cls (tysW cI cP cL cJ cZ) s) (hxx : xx s) (hnc : xnc s) (hlt : l.stackTraces = false) (ok : okG p0 q0 g0 h0) (hq : mz_P q0) (hit : 4 + 4 * it + 4 ≤ n0) (R : Rel p0 q0 g0 h0 S M) (hP : va_P (dC, dI) cls (wW Z Y cI cP cL cJ cZ p0 q0 g0 h0 ou S M f) H) (hD : va_D (A0 s) (wW Z Y cI cP cL cJ cZ p0 q0 g0 h0 ou S M f)) (hS : va_S (A0 s) s.heap H locs) (hl : lv_has ls 7 [(0, .ref b), (1, .ref (Z 0)), (2, .ref (Y 0)), (3, .ref ou), (4, .int (nI (4 + 4 * it)))]) (K : ∀ (S M : Nat → Nat → Int32) (f : Nat → Int64) (H : Heap) (locs : List Loc) (ls : Array Slot), Rel p0 q0 g0 h0 S M → va_P (dC, dI) cls (wW Z Y cI cP cL cJ cZ p0 q0 g0 h0 ou S M f) H → va_D (A0 s) (wW Z Y cI cP cL cJ cZ p0 q0 g0 h0 ou S M f) → va_S (A0 s) s.heap H locs → lv_has ls 7 [(0, .ref b), (1, .ref (Z 0)), (2, .ref (Y 0)), (3, .ref ou), (4, .int (nI (4 + 4 * it)))] → W p l e room_1 s m #[Value.ref b] below meth c H locs (29 + it) (236 + 6 * it) Q (F0 m 1058 ls [])) : W p l e room_1 s m #[Value.ref b] below meth c H locs (28 + it) (230 + 6 * it) Q (F0 m 1045 ls []) := by
  obtain ⟨r, hCr, hMr⟩ := s_opened (l := l) (dC := dC) (dI := dI) (Z := Z) (Y := Y) (cI := cI) (cP := cP) (cJ := cJ) (cZ := cZ) ok R 
  refine lv_aload_n hx hb d_law_1045 rfl (lv_at hl 1 rfl) ?_
  refine ro_V (As := []) (rest := []) (b := Z 0) ⟨hx, hb, hml, hown, hts⟩ hCr (cwV 0 hts (al_V k_190 k_191 k_192 k_1 k_193) rfl rfl rfl (by decide +kernel) ⟨Nat.le_of_ble_eq_true rfl, Nat.le_of_ble_eq_true rfl⟩) (fun U g mk a h => ⟨h.1, va_K.moved (u := U) (U := U.calling g mk a) (Vm.Alike.refl U.vm) h.2⟩) (va_recv hK hP (ci := 2) (q0 := 0) rfl rfl) (fun U hU hW => ⟨by rw [hU]; exact w_l (w_l hP), va_K.moved hW.alike (hK.sub [0, 1] rfl)⟩) rfl hl.1 rfl (lv_room (Nat.le_of_ble_eq_true rfl)) d_law_1046 ⟨by show 28 + it ≤ 671672; omega, by show 230 + 6 * it ≤ 7081053; omega⟩ ?_
  refine lv_aload_n hx hb d_law_1049 rfl (lv_at hl 2 rfl) ?_
  refine wr_V (As := []) (rest := [.int r]) (b := Y 0) (A := A0 s) ⟨hx, hb, hml, hown, hts⟩ hMr (cwV 0 hts (al_V k_625 k_626 k_627 k_4 k_628) rfl rfl rfl (by decide +kernel) ⟨Nat.le_of_ble_eq_true rfl, Nat.le_of_ble_eq_true rfl⟩) (va_recv hK (w_r hP) (ci := 3) (q0 := 0) rfl rfl) (w_r hP) (hK.sub [3, 4] rfl) (w_dr hD) hS rfl hl.1 rfl (lv_room (Nat.le_of_ble_eq_true rfl)) d_law_1050 ⟨by show 28 + it ≤ 671672; omega, by show 230 + 6 * it ≤ 7081053; omega⟩ (fun H locs hP1 hkp _ hS => ?_)
  have hP := (w_keepR (w_l hP) hD hkp).app hP1
  have hD : va_D (A0 s) (wW Z Y cI cP cL cJ cZ p0 q0 g0 h0 ou S (up M 0 1 0) f) := w_addr hD (w_adW S S M (up M 0 1 0) f f)
  refine lv_icmp_eq (tgt := 1058) hx hb d_law_1053 (by decide) (fun _ => ?_) (fun c_ => absurd (rfl) c_)
  refine W.widen (k := 29 + it) (n := 236 + 6 * it) (by omega) (by omega) ?_
  exact K S (up M 0 1 0) f H locs ls (R.thr 0) hP hD hS (lv_sub hl [0, 1, 2, 3, 4] rfl)
end LW
