/-! throwing a NoSuchElementException: its constructor hands the text on by its pool's index 13 -/
/-- the words of such a throw: the constructor hands on by the index ix to Y's, and Y's chain by the usual index -/
def nxCh (X : String) (ix : Nat) (rx : ByteArray) (Y : String) (r : List String) : List Cond := Bundle.passSAtoms X Y ix rx ++ Bundle.chainSAtoms Y r
def nxAt (own : String) (ic : Nat) (X : String) (ix : Nat) (rx : ByteArray) (Y : String) (r : List String) : List Cond :=
  [.methodLink own ic (Bundle.initS X), .instantiable X 6, .castable X X] ++ Bundle.throwableAtoms ++ Bundle.throwableSAtoms ++ nxCh X ix rx Y r ++
  [.selects X Bundle.tFill0 Bundle.tFill0, .selects X Bundle.tFill Bundle.tFill, .isRef (.static Bundle.tN "UNASSIGNED_STACK" Bundle.steD), .isRef (.static Bundle.tN "SUPPRESSED_SENTINEL" Bundle.listD)] ++
  (["cause", "stackTrace", "suppressedExceptions", "detailMessage", "backtrace"].zip ["Ljava/lang/Throwable;", Bundle.steD, Bundle.listD, "Ljava/lang/String;", "Ljava/lang/Object;"]).map (fun q => .lays X Bundle.tN q.1 q.2) ++
  [.fieldLink Bundle.tN 198 Bundle.tN "backtrace" "Ljava/lang/Object;", .lays Bundle.tN Bundle.tN "backtrace" "Ljava/lang/Object;"]
theorem nx_chain {args : Array Value} {s : State} {pl : Platform} (hpl : pl.magicAccessors = ({} : Platform).magicAccessors) {top : MethodId} (htop : s.methodNamed? (Bundle.initS Bundle.tN) = some top) {ix : Nat} {rx : ByteArray} {X Y : String} {r : List String}
    (x0 : decode rx 0 = .ok (.aload_n 0, 1)) (x1 : decode rx 1 = .ok (.aload_n 1, 1)) (x2 : decode rx 2 = .ok (.invokespecial ix, 3)) (x5 : decode rx 5 = .ok (.return_, 1)) (hX : Bundle.fit X = true) (hn : ∀ n ∈ Y :: r, Bundle.fit n = true) (h : ∀ c ∈ nxCh X ix rx Y r, c.before args s = true) :
    ∃ (P : PassC) (Ps : List PassC), Ps.length = (Y :: r).length ∧ P.LinksS pl s ∧ (∀ Q, Q ∈ Ps → Q.LinksS pl s) ∧ s.methodNamed? (Bundle.initS X) = some P.m ∧ P.sup = firstOf top (Ps.map (·.toPassT)) ∧ PassesOn top (Ps.map (·.toPassT)) := by
  obtain ⟨P, L, hm, hs⟩ := PassC.ofS_atoms (args := args) (s := s) hpl (X := X) (Y := Y) (Bundle.fit_spec hX).1 (Bundle.fit_spec (hn Y List.mem_cons_self)).2 x0 x1 x2 x5 (fun c hc => h c (List.mem_append_left _ hc))
  obtain ⟨P', Ps, hlen, L', hL, hm', hsup, hpass⟩ := Bundle.chainS (args := args) hpl htop r Y (hn Y List.mem_cons_self) (fun n hn' => hn n (List.mem_cons_of_mem _ hn')) (fun c hc => h c (List.mem_append_right _ hc))
  exact ⟨P, P' :: Ps, by simp [hlen], L, fun Q hQ => (List.mem_cons.mp hQ).elim (fun e => e ▸ L') (hL Q), hm, Option.some.inj (hs.symm.trans hm'), hsup, hpass⟩
section NX
variable {p : Program} {l : Launch} {e : Env} {R : Room} {s : State} {m : MethodId} {args : Array Value} {below : List Frame} {meth : Method} {c : Code} {T : State} {locs : List Loc} {cells slots : Nat}
set_option maxHeartbeats 4000000 in
theorem nx_ctor (X : Stand p l e R s m args below meth c T locs cells slots) (hexec : p.tables.exec = Jvm.exec) (htr : e.platform.stackTraces = false) {own cls Y : String} {r : List String} {ic ix : Nat} {rx : ByteArray}
    (x0 : decode rx 0 = .ok (.aload_n 0, 1)) (x1 : decode rx 1 = .ok (.aload_n 1, 1)) (x2 : decode rx 2 = .ok (.invokespecial ix, 3)) (x5 : decode rx 5 = .ok (.return_, 1))
    (hown : s.vm.findClass own = some m.cls) (hcls : Bundle.fit cls = true) (hnames : ∀ n ∈ Y :: r, Bundle.fit n = true)
    (h : ∀ a ∈ nxAt own ic cls ix rx Y r, a.before args s = true)
    (hlocs : ∀ x ∈ locs, ∀ cell, s.heap[x.base]? = some cell → cell.vm.isStatics = false)
    {a : Addr} {cX : ClassId} {kX : Class} (hfX : s.vm.findClass cls = some cX) (hkX : s.vm.classes[cX]? = some kX) (hcell : T.heap[a]? = some (freshCell cX kX)) (hnew : s.heap.size ≤ a)
    {msg : Value} (hmsg : msg.isRef = true)
    {g : JFrame} (hg : g.method = m) (hsize : g.locals.size = c.maxLocals) (hlocked : g.locked = none) (hentered : g.entered = []) {rest : List Value} (hstack : g.stack = msg :: .ref a :: .ref a :: rest)
    (hd6 : decode c.code g.pc = .ok (.invokespecial ic, 3)) (hd9 : decode c.code (g.pc + 3) = .ok (.athrow, 1)) (hout : ∀ x ∈ c.exceptionTable.toList, covers x (g.pc + 3) = false)
    (hRf : (Y :: r).length + 3 < R.frames) (hRl : 2 * g.monitorRoom + ((Value.ref a :: rest).map fun v => v.category).sum + (13 * ((Y :: r).length + 1) + 42) ≤ R.locals) (hlocks : meth.locks = false) :
    ∃ U : State, Steps p.tables e below (T.setTop g) U ∧ U.status = .running ∧ Ended U below (.threw a) ∧ s.WarmedH U.vm ∧ s.sameButNew ({ U with vm := s.vm } : State) locs cells slots ∧
      ∃ ce, U.heap[a]? = some ce ∧ s.vm.findClass cls = some ce.cls ∧ ce.vm = .none := by
  have p1 : e.platform.frameOwnsMonitors = true := by rw [X.admits.platform]
  have p2 : e.platform.finalization = false := by rw [X.admits.platform]
  have hpl : e.platform.magicAccessors = ({} : Platform).magicAccessors := by rw [X.admits.platform]
  have u : ∀ x, x ∈ nxAt own ic cls ix rx Y r → x.holds args s none s [] = true := fun x hx => h x hx
  obtain ⟨K, Z0, L, -, YY⟩ := ThrowableC.of_atoms (args := args) p1 p2 hpl (fun x hx => h x (by simp [nxAt, hx]))
  obtain ⟨Z, M, LZ, LM, hnZ⟩ := Init0T.ofS_atoms (args := args) hpl L YY (fun x hx => h x (by simp [nxAt, hx]))
  obtain ⟨P, Ps, hlen, LP, hL, hPm, k1, k2⟩ := nx_chain (args := args) hpl hnZ x0 x1 x2 x5 hcls hnames (fun x hx => h x (by simp [nxAt, hx]))
  have hf : s.vm.findClass cls = some P.m.cls := findClass_of_methodNamed hPm
  cases Option.some.inj (hfX.symm.trans hf)
  obtain ⟨c1, kX', hc1, hk, hord, -, -, -⟩ := Cond.instantiable_spec (u (.instantiable cls 6) (by simp [nxAt]))
  cases Option.some.inj (hc1.symm.trans hf)
  cases Option.some.inj (hkX.symm.trans hk)
  have s0 : selectMethod e.platform s.vm P.m.cls K.fill0 = .method K.fill0 := by
    obtain ⟨c2, r2, m2, q1, q2, q3, q4, -⟩ := Cond.selects_spec (u (.selects cls Bundle.tFill0 Bundle.tFill0) (by simp [nxAt]))
    cases Option.some.inj (q1.symm.trans hf)
    cases Option.some.inj (q2.symm.trans (State.methodFound?_of_named YY.fill0 (by decide)))
    cases Option.some.inj (q3.symm.trans YY.fill0)
    rw [Launch.admits_selectMethod X.admits]; exact q4
  have sF : selectMethod e.platform s.vm P.m.cls K.fill = .method K.fill := by
    obtain ⟨c2, r2, m2, q1, q2, q3, q4, -⟩ := Cond.selects_spec (u (.selects cls Bundle.tFill Bundle.tFill) (by simp [nxAt]))
    cases Option.some.inj (q1.symm.trans hf)
    cases Option.some.inj (q2.symm.trans (State.methodFound?_of_named YY.fill (by decide)))
    cases Option.some.inj (q3.symm.trans YY.fill)
    rw [Launch.admits_selectMethod X.admits]; exact q4
  obtain ⟨cS0, hS0, hiss⟩ := YY.statics
  obtain ⟨u0, hu0⟩ := Cond.staticRefV YY.unassigned L.unassignedStatic L.statics hS0 hiss (u (.isRef (.static Bundle.tN "UNASSIGNED_STACK" Bundle.steD)) (by simp [nxAt]))
  obtain ⟨sen, hsen⟩ := Cond.staticRefV YY.sentinel L.sentinelStatic L.statics hS0 hiss (u (.isRef (.static Bundle.tN "SUPPRESSED_SENTINEL" Bundle.listD)) (by simp [nxAt]))
  obtain ⟨ci, i9, fB, hk9, hg9, ha9, hsB, -, hnB, htB, hffB⟩ := Cond.ownField (t := .object "java/lang/Object") YY.found L.cls (by decide +kernel) (u (.fieldLink Bundle.tN 198 Bundle.tN "backtrace" "Ljava/lang/Object;") (by simp [nxAt])) (u (.lays Bundle.tN Bundle.tN "backtrace" "Ljava/lang/Object;") (by simp [nxAt])) e.platform hpl
  obtain ⟨cS, hS1, heS, -, hkeep⟩ := X.same.2.2.2.2.2 K.aS cS0 hS0
  have hcS : T.heap[K.aS]? = some cS := hS1
  have hno : ∀ i, (⟨K.aS, i⟩ : Loc) ∉ locs := fun i hm => by
    have := hlocs _ hm cS0 hS0
    rw [hiss] at this; cases this
  have hkn : cS.vm ≠ .unknown := by
    rw [heS]; intro hu
    rw [show cS0.vm = .unknown from hu] at hiss
    cases hiss
  have hne : K.aS ≠ a := Nat.ne_of_lt (Nat.lt_of_lt_of_le (Array.getElem?_eq_some_iff.mp hS0).1 hnew)
  obtain ⟨iM, hffM⟩ := YY.msg
  obtain ⟨tC, dC, hdC, nC⟩ := Cond.laysAt hf hk YY.cause (u (.lays cls Bundle.tN "cause" "Ljava/lang/Throwable;") (by simp [nxAt]))
  obtain ⟨tS, dS, hdS, nS⟩ := Cond.laysAt hf hk YY.stack (u (.lays cls Bundle.tN "stackTrace" Bundle.steD) (by simp [nxAt]))
  obtain ⟨tP, dP, hdP, nP⟩ := Cond.laysAt hf hk YY.supp (u (.lays cls Bundle.tN "suppressedExceptions" Bundle.listD) (by simp [nxAt]))
  obtain ⟨tM, dM, hdM, nM⟩ := Cond.laysAt hf hk hffM (u (.lays cls Bundle.tN "detailMessage" "Ljava/lang/String;") (by simp [nxAt]))
  obtain ⟨tB, dB, hdB, nB⟩ := Cond.laysAt hf hk hffB (u (.lays cls Bundle.tN "backtrace" "Ljava/lang/Object;") (by simp [nxAt]))
  have bC := Cond.laysApart hdB hdC nB nC (by rw [hnB, YY.causeName]; decide)
  have bS := Cond.laysApart hdB hdS nB nS (by rw [hnB, YY.stackName]; decide)
  have bP := Cond.laysApart hdB hdP nB nP (by rw [hnB, YY.suppName]; decide)
  have hskip : SkipFacts K e.platform s (fun u => u) u0 ((preparedCellV K.toThrowableT (freshCell P.m.cls kX) a u0 sen).withEntry T.cur) :=
    ⟨{ ci198 := ci, i198 := i9, fBack := fB }, ⟨hk9, hg9, ha9, hsB⟩, by
      have := fresh_default (c := P.m.cls) tB
      rw [htB] at this
      simpa [preparedCellV, Cell.setSlot, Cell.withEntry, Array.getElem?_setIfInBounds, bC, bS, bP, bC.symm, bS.symm, bP.symm, defaultValue] using this, fun _ _ => rfl⟩
  obtain ⟨tm, mC, cdC, kC, v1, hnC, -, -, -, -, -, -, -, hW1, st1⟩ := Steps.initColdS (tb := p.tables) (e := e) (below := below) (s := s) (U := T) X.here hexec X.warmed hpl hown (t := Bundle.initS cls) rfl rfl (Bundle.fit_spec hcls).2
    (u (.methodLink own ic (Bundle.initS cls)) (by simp [nxAt])) (h (.instanceMethod (Bundle.initS cls)) (by simp [nxAt, nxCh, Bundle.passSAtoms])) (bytes := rx) (maxL := 2) (h (.code (Bundle.initS cls) rx 2 none) (by simp [nxAt, nxCh, Bundle.passSAtoms]))
    (f := g) hg (a := a) (msg := msg) (rest := .ref a :: rest) hstack hd6
  cases Option.some.inj (hnC.symm.trans hPm)
  obtain ⟨v2, X2, st2⟩ := (X.noted hW1).ctorMessageOffV hexec (g := { g with stack := .ref a :: rest }) hg hsize K L Z LZ M LM (P :: Ps)
    (fun Q hQ => by rcases List.mem_cons.mp hQ with rfl | hQ; exact LP; exact hL Q hQ) ⟨k1, k2⟩ (u0 := u0) (sen := sen) (self := a) hmsg (cell := freshCell P.m.cls kX) (cellS := cS)
    hcell (fun _ => by simp) (by simp) rfl rfl s0 sF hcS hne hkn (by rw [hkeep _ (hno _)]; exact hu0) (by rw [hkeep _ (hno _)]; exact hsen)
    (Takes.of_laid hk hord tC (by rw [YY.causeType]; rfl)) (Takes.of_laid hk hord tS (by rw [YY.stackType]; exact fits_refV_array _ u0)) (Takes.of_laid hk hord tP (by rw [YY.suppType]; exact fits_refV_object _ sen))
    (Takes.of_laid hk hord tM (by rw [YY.msgType]; exact fits_refV_object _ ⟨msg, hmsg⟩)) YY.objLocals hskip htr [] hd6
    (by simp only [List.length_cons, hlen]; omega) (by simp only [List.length_cons, hlen]; exact hRl)
  obtain ⟨hw, hrun, hend, hWU, hsame⟩ := X2.athrowLeaves hexec (g := { g with stack := .ref a :: rest, pc := g.pc + 3 }) hg hlocked hentered hout (a := a) (rest := rest) rfl hd9 hlocks
  have hlt : a < ((T.setVm v1).setVm v2).heap.size := (Array.getElem?_eq_some_iff.mp hcell).1
  have hU := heapAt_setCell_self (s := (T.setVm v1).setVm v2) (plainBareV K.toThrowableT (freshCell P.m.cls kX) a u0 sen msg) hlt
  refine ⟨_, st1 _ (fun acts => ?_), hrun, hend, hWU, hsame.weaken (fun y hy hlt' => ?_) (Nat.le_refl _) (Nat.le_refl _), _, hU, hf, rfl⟩
  · rw [doInvoke_state]
    exact st2 _ hw
  · rcases List.mem_append.mp hy with h1 | h1
    · exact h1
    · exfalso
      have hb : y.base = a := by
        simp only [List.mem_cons, List.not_mem_nil, or_false] at h1
        rcases h1 with rfl | rfl | rfl | rfl | rfl <;> rfl
      rw [hb] at hlt'
      exact Nat.not_lt.mpr hnew hlt'
end NX
