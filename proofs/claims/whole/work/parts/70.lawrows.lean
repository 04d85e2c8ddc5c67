theorem kw_begin : (Jvm.Cond.codeWith ({ cls := "DealtSecretLaw", name := "begin", desc := "(LDealtSecret;IIZ)I" } : Jvm.MethodName) method_3_code (5 : Nat) (Option.some Jvm.ClassFile.FieldType.int) [((0 : Nat), (7 : Nat), (10 : Nat), (13 : Nat))]) ∈ AL := al_t1 209 rfl rfl
theorem kw_coefficient : (Jvm.Cond.codeWith ({ cls := "DealtSecretLaw", name := "coefficient", desc := "(LDealtSecret;III)I" } : Jvm.MethodName) method_4_code (5 : Nat) (Option.some Jvm.ClassFile.FieldType.int) [((0 : Nat), (7 : Nat), (10 : Nat), (19 : Nat)), ((0 : Nat), (7 : Nat), (14 : Nat), (13 : Nat))]) ∈ AL := al_t2 52 rfl rfl
theorem kw_advance : (Jvm.Cond.codeWith ({ cls := "DealtSecretLaw", name := "advance", desc := "(LDealtSecret;[J)I" } : Jvm.MethodName) method_5_code (3 : Nat) (Option.some Jvm.ClassFile.FieldType.int) [((0 : Nat), (8 : Nat), (11 : Nat), (19 : Nat))]) ∈ AL := al_t2 96 rfl rfl
theorem kw_tamper : (Jvm.Cond.codeWith ({ cls := "DealtSecretLaw", name := "tamper", desc := "(LDealtSecret;III)I" } : Jvm.MethodName) method_6_code (5 : Nat) (Option.some Jvm.ClassFile.FieldType.int) [((0 : Nat), (7 : Nat), (10 : Nat), (19 : Nat)), ((0 : Nat), (7 : Nat), (14 : Nat), (13 : Nat))]) ∈ AL := al_t2 137 rfl rfl
theorem kw_forge : (Jvm.Cond.codeWith ({ cls := "DealtSecretLaw", name := "forge", desc := "(LDealtSecret;II)I" } : Jvm.MethodName) method_7_code (4 : Nat) (Option.some Jvm.ClassFile.FieldType.int) [((0 : Nat), (6 : Nat), (9 : Nat), (19 : Nat)), ((0 : Nat), (6 : Nat), (12 : Nat), (13 : Nat))]) ∈ AL := al_t2 149 rfl rfl
theorem kw_corrupt : (Jvm.Cond.codeWith ({ cls := "DealtSecretLaw", name := "corrupt", desc := "(LDealtSecret;I[J)I" } : Jvm.MethodName) method_8_code (4 : Nat) (Option.some Jvm.ClassFile.FieldType.int) [((0 : Nat), (16 : Nat), (19 : Nat), (19 : Nat)), ((0 : Nat), (16 : Nat), (22 : Nat), (13 : Nat))]) ∈ AL := al_t2 157 rfl rfl
theorem kw_accuse : (Jvm.Cond.codeWith ({ cls := "DealtSecretLaw", name := "accuse", desc := "(LDealtSecret;I[J)I" } : Jvm.MethodName) method_9_code (4 : Nat) (Option.some Jvm.ClassFile.FieldType.int) [((0 : Nat), (16 : Nat), (19 : Nat), (19 : Nat)), ((0 : Nat), (16 : Nat), (22 : Nat), (13 : Nat))]) ∈ AL := al_t2 164 rfl rfl
theorem kw_answer : (Jvm.Cond.codeWith ({ cls := "DealtSecretLaw", name := "answer", desc := "(LDealtSecret;III[J)I" } : Jvm.MethodName) method_10_code (6 : Nat) (Option.some Jvm.ClassFile.FieldType.int) [((0 : Nat), (19 : Nat), (22 : Nat), (19 : Nat)), ((0 : Nat), (19 : Nat), (26 : Nat), (13 : Nat)), ((0 : Nat), (19 : Nat), (30 : Nat), (43 : Nat))]) ∈ AL := al_t2 171 rfl rfl
theorem kw_open : (Jvm.Cond.codeWith ({ cls := "DealtSecretLaw", name := "open", desc := "(LDealtSecret;I[J)I" } : Jvm.MethodName) method_11_code (4 : Nat) (Option.some Jvm.ClassFile.FieldType.int) [((0 : Nat), (16 : Nat), (19 : Nat), (19 : Nat)), ((0 : Nat), (16 : Nat), (22 : Nat), (13 : Nat))]) ∈ AL := al_t2 195 rfl rfl
theorem kw_show : (Jvm.Cond.codeWith ({ cls := "DealtSecretLaw", name := "show", desc := "(LDealtSecret;III[J)I" } : Jvm.MethodName) method_12_code (6 : Nat) (Option.some Jvm.ClassFile.FieldType.int) [((0 : Nat), (19 : Nat), (22 : Nat), (19 : Nat)), ((0 : Nat), (19 : Nat), (26 : Nat), (13 : Nat))]) ∈ AL := al_t2 220 rfl rfl
theorem kw_secret : (Jvm.Cond.codeWith ({ cls := "DealtSecretLaw", name := "secret", desc := "(LDealtSecret;[J)I" } : Jvm.MethodName) method_13_code (3 : Nat) (Option.some Jvm.ClassFile.FieldType.int) [((0 : Nat), (8 : Nat), (11 : Nat), (19 : Nat)), ((0 : Nat), (8 : Nat), (14 : Nat), (43 : Nat))]) ∈ AL := al_t2 227 rfl rfl
theorem kw_relation : (Jvm.Cond.codeWith ({ cls := "DealtSecretLaw", name := "relation", desc := "(LDealtSecret;[J)I" } : Jvm.MethodName) method_14_code (3 : Nat) (Option.some Jvm.ClassFile.FieldType.int) [((0 : Nat), (8 : Nat), (11 : Nat), (19 : Nat)), ((0 : Nat), (8 : Nat), (14 : Nat), (43 : Nat))]) ∈ AL := al_t3 4 rfl rfl
theorem al_W {own : String} {idx n : Nat} {y : MethodName} {c : ByteArray} {r : Option FieldType} {hh : List (Nat × Nat × Nat × Nat)} (h1 : Cond.methodLink own idx y ∈ AL) (h2 : Cond.static y ∈ AL) (h3 : Cond.initialized y.cls ∈ AL) (h5 : Cond.codeWith y c n r hh ∈ AL) : GoodIn AL (va_wsS own idx y (.codeWith y c n r hh :: AL)) := al_sub (by
  intro w hw
  simp only [va_wsS, List.cons_append, List.nil_append, List.mem_cons] at hw
  rcases hw with rfl | rfl | rfl | rfl | h
  · exact h1
  · exact h2
  · exact h3
  · exact h5
  · exact h)
theorem xnc_to {s U : State} (hvm : s.vm.Alike U.vm) (h : xnc s) : xnc U := ⟨va_Nc.moved hvm h.1, va_Nc.moved hvm h.2.1, va_Nc.moved hvm h.2.2⟩
theorem nI_pl (a b : Nat) : nI a + nI b = nI (a + b) := nI_add a b
theorem lg_cmp_self (x : Int64) : lg_cmp x x = 0 := by
  unfold lg_cmp
  rw [if_neg (fun h => Int64.lt_irrefl h), if_pos rfl]
abbrev A0 (s : State) : Nat → Prop := fun q => s.heap.size ≤ q
abbrev wW (Z Y : Nat → Nat) (cI cP cL cJ cZ : ClassId) (p0 q0 g0 h0 ou : Nat) (S M : Nat → Nat → Int32) (f : Nat → Int64) : va_W := (wC Z cI cP p0 q0 g0 h0 S ++ oL ou cL f) ++ wM Y cJ cZ p0 q0 g0 h0 M
abbrev tysW (cI cP cL cJ cZ : ClassId) : List (ClassId × FieldType) := [(cI, .int), (cP, .object "DealtSecret$Participant"), (cL, .long), (cJ, .int), (cZ, .boolean)]
theorem w_adW {Z Y : Nat → Nat} {cI cP cL cJ cZ : ClassId} {p0 q0 g0 h0 ou : Nat} (S S1 M M1 : Nat → Nat → Int32) (f f1 : Nat → Int64) : (wW Z Y cI cP cL cJ cZ p0 q0 g0 h0 ou S1 M1 f1).map Prod.fst = (wW Z Y cI cP cL cJ cZ p0 q0 g0 h0 ou S M f).map Prod.fst := by
  rw [List.map_append, w_adL S S1 f f1, w_adM M M1, ← List.map_append]
section WPS
variable {p : Program} {l : Launch} {e : Env} {R : Room} {s : State} {m : MethodId} {args : Array Value} {below : List Frame} {meth : Method} {c : Code} {H H0 : Heap} {locs : List Loc} {cells slots : Nat} {Q : State → Prop}
variable {cc : ByteArray} {pc : Nat} {ls : Array Slot} {rest : List Value} {dC : Nat → ClassId} {dI : Nat → Nat → Nat} {tys : List (ClassId × FieldType)} {w0 w1 : va_W} {A : Nat → Prop}
variable {Ts ws : List Cond} {own : String} {nL n index maxL : Nat} {y : MethodName} {bytes : ByteArray} {ret : Option FieldType} {hh : List (Nat × Nat × Nat × Nat)} {As st : List Value} {k : Int32}
/-- behind the call of a wrapper -/
theorem wp_S (S : CallFix p m c cc nL s args Ts own) (hM : Wp l y ws As dC dI w0 w1 tys k) (cw : vx_CSW R s args own index y bytes maxL ret hh ws { frames := 8, cells := 1, slots := 6, locals := 170 } 1 6 n)
    (hP : va_P (dC, dI) cls w0 H) (hK : va_K (dC, dI) cls tys s) (hD : va_D A w0) (hS : va_S A H0 H locs) (hxx : ∀ U : State, U.heap = H → s.WarmedH U.vm → xx U ∧ xnc U)
    (hn : As.length = n) (hsz : ls.size = nL) (hst : st = As.reverse ++ rest) (hW : 2 * (F0 m pc ls st).monitorRoom + (rest.map fun v => v.category).sum ≤ 8) (hdg : decode cc pc = .ok (.invokestatic index, 3)) (hf : cells + 1 ≤ R.cells ∧ slots + 6 ≤ R.slots)
    (kk : ∀ (H1 : Heap) (locs1 : List Loc), va_P (dC, dI) cls w1 H1 → (∀ q : Nat, q < H.size → ¬ w_A w0 q → H1[q]? = H[q]?) → H.size ≤ H1.size → va_S A H0 H1 locs1 → W p l e R s m args below meth c H1 locs1 (cells + 1) (slots + 6) Q (F0 m (pc + 3) ls (.int k :: rest))) : W p l e R s m args below meth c H locs cells slots Q (F0 m pc ls st) := by
  have hr := vx_runSW (p := p) (e := e) (below := below) (meth := meth) (H := H) (locs := locs) (cells := cells) (slots := slots) (g := F0 m pc ls st) (rest := rest) S hM cw ⟨fun a U g mk q => ⟨q.1, ⟨q.2.1.1, va_K.moved (u := U) (U := U.calling g mk a) (Vm.Alike.refl U.vm) q.2.1.2.1, q.2.1.2.2⟩, xx_bl g mk a q.2.2.1, xnc_to (s := U) (U := U.calling g mk a) (Vm.Alike.refl U.vm) q.2.2.2⟩, fun U hU hW => ⟨rfl, ⟨by rw [hU]; exact hP, va_K.moved hW.alike hK, hD.weaken (fun _ _ _ _ => trivial)⟩, hxx U hU hW⟩⟩ rfl hn hsz hst hW hdg hf
  intro T hT X
  obtain ⟨v', st₀, t, T', L, h0, X', hL, e1, e2, ⟨hv, hP1, hz, hk⟩, stp⟩ := hr T hT X
  cases hv
  rw [h0] at hz hk
  obtain ⟨t2, a1, b1⟩ := kk T'.heap (locs ++ L) (by rw [e1]; exact hP1) (fun q h1 h2 => by rw [e1]; exact hk q h1 h2) (by rw [e1]; exact hz)
    ⟨Nat.le_trans hS.1 (by rw [e1]; exact hz), fun q h1 h2 => by rw [e1, hk q (Nat.lt_of_lt_of_le h1 hS.1) (fun z => h2 (w_A.of hD z))]; exact hS.2.1 q h1 h2, fun q hq => by
      rcases List.mem_append.mp hq with h | h
      · exact hS.2.2 q h
      · exact w_A.of hD (hL q h)⟩ T' rfl X'
  exact ⟨t2, stp t2 a1, b1⟩
end WPS
