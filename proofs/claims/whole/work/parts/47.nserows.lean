section NY
variable {p : Program} {l : Launch} {e : Env} {R : Room} {s : State} {m : MethodId} {args : Array Value} {below : List Frame} {meth : Method} {c : Code}
variable {cc : ByteArray} {pc : Nat} {ls : Array Slot} {rest : List Value}
abbrev nxN : String := "java/util/NoSuchElementException"
def nxL : List Cond := (nxAt "DealtSecret" 139 nxN 13 prog_14_method_4_code "java/lang/RuntimeException" ["java/lang/Exception"]).filter vx_no
theorem nx_g : ∀ w ∈ nxL.filter goodWord, w ∈ AL := by decide +kernel
theorem nx_n : ∀ w ∈ nxL.filter (fun w => !goodWord w), w ∈ [Cond.castable nxN nxN, Cond.declares (Bundle.initS "java/lang/RuntimeException"), Cond.declares (Bundle.initS "java/lang/Exception"), Cond.declares (Bundle.initS Bundle.tN)] := by decide +kernel
set_option maxHeartbeats 4000000 in
theorem nx_throw (hx : p.tables.exec = Jvm.exec) (hb : c.code = cc) (hl : l.stackTraces = false) (hemp : ∀ x ∈ c.exceptionTable.toList, False) (hlk : meth.locks = false) (hsz : ls.size = c.maxLocals)
    {tx : String} {is : Nat} (hown : s.vm.findClass "DealtSecret" = some m.cls) (hts : ∀ w ∈ AL, w.before args s = true) (hk : Cond.classLink "DealtSecret" 135 nxN ∈ AL) (hini : Cond.initialized nxN ∈ AL) (hxx : xx s) (hq : (is, tx) ∈ xS)
    (d0 : decode cc pc = .ok (.new 135, 3)) (d3 : decode cc (pc + 3) = .ok (.dup, 1)) (d4 : decode cc (pc + 4) = .ok (.ldc is, 2)) (d6 : decode cc (pc + 6) = .ok (.invokespecial 139, 3)) (d9 : decode cc (pc + 9) = .ok (.athrow, 1))
    (hfr : 5 < R.frames) (hlo : (rest.map fun v => v.category).sum + 82 ≤ R.locals) (hc : 0 + 1 ≤ R.cells) (hs : 0 + 6 ≤ R.slots) :
    W p l e R s m args below meth c s.heap [] 0 0 (tQ below nxN args s) (F0 m pc ls rest) := by
  obtain ⟨sa, hstr⟩ := hxx.2.2.2 _ hq
  have hat : ∀ w ∈ nxL, w.before args s = true := vx_hat (fun w h => hts w (nx_g w h)) nx_n (vx_c (va_Nw.use rfl (hxx.1.1 nxN (by simp))) (vx_c (va_Nw.use rfl (hxx.1.2 _ (by simp))) (vx_c (va_Nw.use rfl (hxx.1.2 _ (by simp))) (vx_c (va_Nw.use rfl (hxx.1.2 _ (by simp))) vx_n))))
  have h : ∀ w ∈ nxAt "DealtSecret" 139 nxN 13 prog_14_method_4_code "java/lang/RuntimeException" ["java/lang/Exception"], w.before args s = true := vx_own hat (vx_isRefq hxx.2.1.1) (vx_isRefq hxx.2.2.1.1) hxx.2.1.2.word hxx.2.2.1.2.word
  intro T hT X
  have htr : e.platform.stackTraces = false := (show e.platform.stackTraces = l.stackTraces by rw [X.admits.platform]).trans hl
  have hins : (Cond.instantiable nxN 6).before args s = true := h _ (by simp [nxAt])
  obtain ⟨vm₁, cX, kX, hfX, hkX, -, -, X₁, st1⟩ := X.newCold hx (own := "DealtSecret") (C := nxN) (index := 135) (n := 6) hown (hts _ hk) hins (hts _ hini)
    (g := F0 m pc ls rest) rfl (by rw [hb]; exact d0) hc hs
  generalize hT1 : (T.setVm vm₁).pushCell { cls := cX, slots := kX.instanceTypes.map defaultValue, vm := .none } = T1 at X₁ st1
  have hcat : (Value.ref T.heap.size).category = 1 := rfl
  have hcellA : T1.heap[T.heap.size]? = some (freshCell cX kX) := by rw [← hT1]; exact State.heap_pushCell_size _ _
  have d3' : decode c.code (pc + 3) = .ok (.dup, 1) := by rw [hb]; exact d3
  have d4' : decode c.code (pc + 4) = .ok (.ldc is, 2) := by rw [hb]; exact d4
  obtain ⟨U, hsteps, hrun, hend, hW, hsame, ce, hce, hcl, hvm⟩ := nx_ctor X₁ hx htr (own := "DealtSecret") (cls := nxN) (Y := "java/lang/RuntimeException") (r := ["java/lang/Exception"]) (ic := 139) (ix := 13) (rx := prog_14_method_4_code) (by decide +kernel) (by decide +kernel) (by decide +kernel) (by decide +kernel) hown (by decide +kernel) (by decide +kernel) h (fun x hx => nomatch hx) hfX hkX hcellA (by rw [hT]; exact Nat.le_refl _) (msg := .ref sa) rfl
    (g := { method := m, pc := pc + 6, locals := ls, stack := .ref sa :: .ref T.heap.size :: .ref T.heap.size :: rest, locked := none }) rfl hsz rfl rfl (rest := rest) rfl
    (by rw [hb]; exact d6) (by rw [hb]; exact d9) (fun x hx => (hemp x hx).elim) hfr (by simp only [List.map_cons, List.sum_cons, hcat]; show 2 * 0 + _ + (13 * (2 + 1) + 42) ≤ _; omega) hlk
  obtain ⟨f1, f2⟩ := vx_frame hsame
  refine ⟨U, ?_, .threw T.heap.size, hrun, hend, Or.inr ⟨T.heap.size, rfl, nxN, ce, [], ⟨rfl, f1, fun q hq _ => f2 q hq (fun z hz => nomatch hz)⟩, hce, hvm, hcl, hW, hsame, fun z hz => nomatch hz⟩⟩
  refine st1 _ ?_
  show Steps p.tables e below (T1.setTop { method := m, pc := pc + 3, locals := ls, stack := .ref T.heap.size :: rest, locked := none }) _
  jvm_step X₁.here [X₁.here.top, hx, d3', Value.category]
  exact X₁.ldcString hx (own := "DealtSecret") (text := tx) (index := is) (a := sa) hown hstr.1 hstr.2
    (g := { method := m, pc := pc + 4, locals := ls, stack := .ref T.heap.size :: .ref T.heap.size :: rest, locked := none }) rfl d4' _ hsteps
end NY
