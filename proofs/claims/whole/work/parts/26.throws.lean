/-! throwing: what the start says of the exceptions, the throw itself, a call that throws -/
abbrev xC : List String := ["java/lang/IllegalStateException", "java/lang/IllegalArgumentException", "java/util/NoSuchElementException"]
abbrev xS : List (Nat × String) := [(53, "no deal has these numbers"), (115, "no stage follows this one"), (125, "a commitment is 1 .. p - 1"), (127, "the stage is another"), (137, "this participant has not complained"), (160, "too few pairs are open"), (181, "no two pairs tell the relation"), (196, "there is no such participant"), (198, "there is no such coefficient")]
abbrev xUp : List String := ["java/lang/RuntimeException", "java/lang/Exception"]
abbrev xDn : List String := ["java/lang/RuntimeException", "java/lang/Exception", Bundle.tN]
def xx (U : State) : Prop := ((∀ X ∈ xC, va_Nw (.castable X X) U) ∧ ∀ X ∈ xDn, va_Nw (.declares (Bundle.initS X)) U) ∧ vx_Zq Bundle.tN "UNASSIGNED_STACK" Bundle.steD (fun _ => False) U U.heap ∧ vx_Zq Bundle.tN "SUPPRESSED_SENTINEL" Bundle.listD (fun _ => False) U U.heap ∧ ∀ q ∈ xS, ∃ a, vk_R "DealtSecret" q.1 q.2 a U
theorem xx_bl {U : State} (g : JFrame) (mk : MethodId) (a : Array Value) (h : xx U) : xx (U.calling g mk a) :=
  ⟨⟨fun X hX => va_Nw.same rfl (u := U) rfl (h.1.1 X hX), fun X hX => va_Nw.same rfl (u := U) rfl (h.1.2 X hX)⟩, h.2.1.moved (u := U) (U := U.calling g mk a) (Vm.Alike.refl U.vm), h.2.2.1.moved (u := U) (U := U.calling g mk a) (Vm.Alike.refl U.vm), fun q hq => by
    obtain ⟨b, hb⟩ := h.2.2.2 q hq
    exact ⟨b, vk_R.same (u := U) rfl hb⟩⟩
theorem xx_to {s U : State} (hW : s.WarmedH U.vm) (hH : ∀ a : Nat, a < s.heap.size → U.heap[a]? = s.heap[a]?) (h : xx s) : xx U :=
  ⟨⟨fun X hX => va_Nw.warmC hW (h.1.1 X hX), fun X hX => va_Nw.warmD hW (h.1.2 X hX)⟩, (h.2.1.moved hW.alike).kept (fun a ha _ => hH a ha), (h.2.2.1.moved hW.alike).kept (fun a ha _ => hH a ha), fun q hq => by
    obtain ⟨b, hb⟩ := h.2.2.2 q hq
    exact ⟨b, hb.warm hW⟩⟩
def tX (X : String) : String → State → State → Prop := fun E st t => E = X ∧ va_F (fun _ => False) st t
/-- a method that throws an object of the class X, and changes nothing that was there -/
abbrev Tc (l : Launch) (y : MethodName) (ws : List Cond) (fr lo : Nat) (av : List Value) (B : State → Prop) (X : String) : Prop :=
  vx_Met l y ws { frames := fr, cells := 1, slots := 6, locals := lo } (va_Pc av B) (fun _ _ _ _ => False) (tX X) 1 6 (fun _ => False)
abbrev tQ (below : List Frame) (X : String) (a : Array Value) (s : State) : State → Prop := vx_MQ below (fun _ _ _ _ => False) (tX X) a s 1 6 (fun _ => False)
section TX
variable {p : Program} {l : Launch} {e : Env} {R : Room} {s : State} {m : MethodId} {args : Array Value} {below : List Frame} {meth : Method} {c : Code} {H : Heap} {locs : List Loc} {cells slots : Nat} {Q : State → Prop}
variable {cc : ByteArray} {pc : Nat} {ls : Array Slot} {rest : List Value}
theorem tx_throw (hx : p.tables.exec = Jvm.exec) (hb : c.code = cc) (hl : l.stackTraces = false) (hemp : ∀ x ∈ c.exceptionTable.toList, False) (hlk : meth.locks = false) (hsz : ls.size = c.maxLocals)
    {X tx : String} {ic ik is : Nat} (hown : s.vm.findClass "DealtSecret" = some m.cls) (hfit : Bundle.fit X = true)
    (hts : ∀ w ∈ AL, w.before args s = true) (hg : ∀ w ∈ (vx_atS "DealtSecret" ic X xUp).filter goodWord, w ∈ AL) (hng : ∀ w ∈ (vx_atS "DealtSecret" ic X xUp).filter (fun w => !goodWord w), w ∈ [Cond.castable X X, Cond.declares (Bundle.initS "java/lang/RuntimeException"), Cond.declares (Bundle.initS "java/lang/Exception"), Cond.declares (Bundle.initS Bundle.tN)])
    (hgood : ∀ w ∈ Cond.classLink "DealtSecret" ik X :: Cond.initialized X :: vx_atS "DealtSecret" ic X xUp, vx_ot w = true)
    (hk : Cond.classLink "DealtSecret" ik X ∈ AL) (hini : Cond.initialized X ∈ AL) (hxx : xx s) (hX : X ∈ xC) (hq : (is, tx) ∈ xS)
    (d0 : decode cc pc = .ok (.new ik, 3)) (d3 : decode cc (pc + 3) = .ok (.dup, 1)) (d4 : decode cc (pc + 4) = .ok (.ldc is, 2)) (d6 : decode cc (pc + 6) = .ok (.invokespecial ic, 3)) (d9 : decode cc (pc + 9) = .ok (.athrow, 1))
    (hfr : 5 < R.frames) (hlo : (rest.map fun v => v.category).sum + 82 ≤ R.locals) (hc : 0 + 1 ≤ R.cells) (hs : 0 + 6 ≤ R.slots) :
    W p l e R s m args below meth c s.heap [] 0 0 (tQ below X args s) (F0 m pc ls rest) := by
  obtain ⟨sa, hsa⟩ := hxx.2.2.2 _ hq
  refine vx_throwS hx hb hl hown hfit (names := xUp) (by decide +kernel) (hts _ hk) (hts _ hini) hsa (vx_hat (fun w h => hts w (hg w h)) hng (vx_c (va_Nw.use rfl (hxx.1.1 X hX)) (vx_c (va_Nw.use rfl (hxx.1.2 _ (by simp))) (vx_c (va_Nw.use rfl (hxx.1.2 _ (by simp))) (vx_c (va_Nw.use rfl (hxx.1.2 _ (by simp))) vx_n))))) hgood hxx.2.1 hxx.2.2.1 va_S.rf hsz d0 d3 d4 d6 d9 (fun x hx => (hemp x hx).elim) hfr (by show _ + (13 * (2 + 1) + 43) ≤ _; omega) hc hs hlk (fun t _ hz hk => ⟨rfl, hz, fun q h1 _ => hk q h1⟩) (fun z hz => by cases hz) (Nat.le_refl _) (Nat.le_refl _)
section TXC
variable {Ts ws : List Cond} {own C X : String} {nL n index maxL fr lo : Nat} {y : MethodName} {bytes : ByteArray} {ret : Option FieldType} {B : State → Prop} {As st : List Value} {b : Addr}
/-- a call that throws, and the exception leaves the caller too -/
theorem tx_passV (S : CallFix p m c cc nL s args Ts own) (hM : Tc l y ws fr lo (.ref b :: As) B X) (cw : CallW R s args own C index y bytes maxL ret ws { frames := fr, cells := 1, slots := 6, locals := lo } 1 6 n)
    (hbl : ∀ (U : State) (g : JFrame) (mk : MethodId) (a : Array Value), B U → B (U.calling g mk a)) (hrec : ∃ cellB : Cell, s.heap[b]? = some cellB ∧ cellB.vm.isStatics = false ∧ s.vm.findClass C = some cellB.cls) (hB : ∀ U : State, U.heap = s.heap → s.WarmedH U.vm → B U)
    (hn : As.length = n) (hsz : ls.size = nL) (hst : st = As.reverse ++ .ref b :: rest) (hW : 2 * (F0 m pc ls st).monitorRoom + (rest.map fun v => v.category).sum ≤ 8) (hdg : decode cc pc = .ok (.invokevirtual index, 3)) (hf : 0 + 1 ≤ R.cells ∧ 0 + 6 ≤ R.slots)
    (hemp : ∀ x ∈ c.exceptionTable.toList, False) (hlk : meth.locks = false) : W p l e R s m args below meth c s.heap [] 0 0 (tQ below X args s) (F0 m pc ls st) := by
  have hr : vx_Run p l e R s m args below meth c s.heap [] 0 0 1 6 (F0 m pc ls st) rest ((fun _ _ _ _ => False) (Value.ref b :: As).toArray) (tX X) (fun _ => False) := vx_runV (As := As) (rest := rest) (b := b) S hM cw ⟨fun a U g mk q => ⟨q.1, hbl U g mk a q.2⟩, hrec, fun U hU hW => ⟨rfl, hB U hU hW⟩⟩ rfl hn hsz hst hW hdg hf
  intro T hT X0
  rcases hr T hT X0 with ⟨v, st₀, t, T', L, h0, X', hL, e1, e2, hF, st1⟩ | ⟨q, st₀, t, T', L, E, ce, h0, X', hL, e1, e2, ⟨hE, hz, hkeep⟩, hce, hcv, hcl, st1⟩
  · exact hF.elim
  · subst hE
    rw [h0] at hz hkeep
    have k : vx_W p l e R s m args below meth c T'.heap ([] ++ L) (0 + 1) (0 + 6) (tQ below E args s) (F0 m pc ls rest) q := vx_out (ce := ce) (fun x hx => (hemp x hx).elim) hlk (by rw [e1]; exact hce) hcv hcl (fun t9 ht9 _ => ⟨rfl, by rw [ht9, e1]; exact hz, fun q9 h1 h2 => by rw [ht9, e1]; exact hkeep q9 h1 h2⟩) (fun z hz => hL z (by simpa using hz)) (Nat.le_refl _) (Nat.le_refl _)
    obtain ⟨t2, a1, b1⟩ := k T' rfl X'
    exact ⟨t2, st1.trans a1, b1⟩
end TXC
end TX
abbrev bX (dC : Nat → ClassId) (dI : Nat → Nat → Nat) (Z : Nat → Nat) (cI cP : ClassId) (p0 q0 g0 h0 : Nat) (S : Nat → Nat → Int32) : State → Prop := fun U => bC dC dI Z cI cP p0 q0 g0 h0 S U ∧ xx U
theorem xg_ISE : ∀ w ∈ (vx_atS "DealtSecret" 117 "java/lang/IllegalStateException" xUp).filter goodWord, w ∈ AL := by decide +kernel
theorem xn_ISE : ∀ w ∈ (vx_atS "DealtSecret" 117 "java/lang/IllegalStateException" xUp).filter (fun w => !goodWord w), w ∈ [Cond.castable "java/lang/IllegalStateException" "java/lang/IllegalStateException", Cond.declares (Bundle.initS "java/lang/RuntimeException"), Cond.declares (Bundle.initS "java/lang/Exception"), Cond.declares (Bundle.initS Bundle.tN)] := by decide +kernel
theorem xg_IAE : ∀ w ∈ (vx_atS "DealtSecret" 55 "java/lang/IllegalArgumentException" xUp).filter goodWord, w ∈ AL := by decide +kernel
theorem xn_IAE : ∀ w ∈ (vx_atS "DealtSecret" 55 "java/lang/IllegalArgumentException" xUp).filter (fun w => !goodWord w), w ∈ [Cond.castable "java/lang/IllegalArgumentException" "java/lang/IllegalArgumentException", Cond.declares (Bundle.initS "java/lang/RuntimeException"), Cond.declares (Bundle.initS "java/lang/Exception"), Cond.declares (Bundle.initS Bundle.tN)] := by decide +kernel
