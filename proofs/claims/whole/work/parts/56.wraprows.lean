/-! the law's wrappers: a call of the class, its exceptions told as a number, its answer laid into out -/
abbrev oL (ou : Nat) (cL : ClassId) (f : Nat → Int64) : va_W := [(ou, .inl (cL, 1, .inr (.inl f)))]
abbrev tysL (cI cP cL : ClassId) : List (ClassId × FieldType) := [(cI, .int), (cP, .object "DealtSecret$Participant"), (cL, .long)]
def xnc (U : State) : Prop := va_Nc "java/lang/IllegalArgumentException" "java/lang/IllegalStateException" U ∧ va_Nc "java/util/NoSuchElementException" "java/lang/IllegalStateException" U ∧ va_Nc "java/util/NoSuchElementException" "java/lang/IllegalArgumentException" U
abbrev Wp (l : Launch) (y : MethodName) (ws : List Cond) (av : List Value) (dC : Nat → ClassId) (dI : Nat → Nat → Nat) (w0 w1 : va_W) (tys : List (ClassId × FieldType)) (k : Int32) : Prop :=
  Met l y ws { frames := 8, cells := 1, slots := 6, locals := 170 } (va_Pc av (fun U => (va_P (dC, dI) cls w0 U.heap ∧ va_K (dC, dI) cls tys U ∧ va_D (fun _ => True) w0) ∧ xx U ∧ xnc U)) (fun _ st o t => o = .returned (some (.int k)) ∧ va_P (dC, dI) cls w1 t.heap ∧ va_F (w_A w0) st t) 1 6 (w_A w0)
theorem w_adL {Z : Nat → Nat} {cI cP cL : ClassId} {p0 q0 g0 h0 ou : Nat} (S S1 : Nat → Nat → Int32) (f f1 : Nat → Int64) : (wC Z cI cP p0 q0 g0 h0 S1 ++ oL ou cL f1).map Prod.fst = (wC Z cI cP p0 q0 g0 h0 S ++ oL ou cL f).map Prod.fst := by
  rw [List.map_append, List.map_append, w_adC S S1]
  rfl
theorem w_setL {Z : Nat → Nat} {cI cP cL : ClassId} {p0 q0 g0 h0 ou : Nat} {S : Nat → Nat → Int32} {f f1 : Nat → Int64} : (wC Z cI cP p0 q0 g0 h0 S ++ oL ou cL f).set 13 (ou, .inl (cL, 1, .inr (.inl f1))) = wC Z cI cP p0 q0 g0 h0 S ++ oL ou cL f1 := rfl
section TK
variable {p : Program} {l : Launch} {e : Env} {R : Room} {s : State} {m : MethodId} {args : Array Value} {below : List Frame} {meth : Method} {c : Code} {Q : State → Prop}
variable {cc : ByteArray} {pc : Nat} {ls : Array Slot} {rest : List Value}
variable {Ts ws : List Cond} {own C X name : String} {nL n index maxL fr lo : Nat} {y : MethodName} {bytes : ByteArray} {ret : Option FieldType} {B : State → Prop} {As st : List Value} {b : Addr}
/-- a call that throws, and a row of this method's table takes it -/
theorem tx_catchV (S : CallFix p m c cc nL s args Ts own) (hM : Tc l y ws fr lo (.ref b :: As) B X) (cw : CallW R s args own C index y bytes maxL ret ws { frames := fr, cells := 1, slots := 6, locals := lo } 1 6 n)
    (hbl : ∀ (U : State) (g : JFrame) (mk : MethodId) (a : Array Value), B U → B (U.calling g mk a)) (hrec : ∃ cellB : Cell, s.heap[b]? = some cellB ∧ cellB.vm.isStatics = false ∧ s.vm.findClass C = some cellB.cls) (hB : ∀ U : State, U.heap = s.heap → s.WarmedH U.vm → B U)
    (hn : As.length = n) (hsz : ls.size = nL) (hst : st = As.reverse ++ .ref b :: rest) (hW : 2 * (F0 m pc ls st).monitorRoom + (rest.map fun v => v.category).sum ≤ 8) (hdg : decode cc pc = .ok (.invokevirtual index, 3)) (hf : 0 + 1 ≤ R.cells ∧ 0 + 6 ≤ R.slots)
    (pre : List ExceptionTableEntry) (x : ExceptionTableEntry) (suf : List ExceptionTableEntry) (hsplit : c.exceptionTable.toList = pre ++ x :: suf)
    (hpass : ∀ z ∈ pre, covers z pc = false ∨ (z.catchType ≠ 0 ∧ ∃ nm : String, (Cond.classLink own z.catchType nm).before args s = true ∧ va_Nc X nm s)) (hx : covers x pc = true) (h0 : x.catchType ≠ 0)
    (hlink : (Cond.classLink own x.catchType name).before args s = true) (hcast : (Cond.castable X name).before args s = true)
    (kk : ∀ (q : Nat) (H1 : Heap), s.heap.size ≤ H1.size → (∀ z : Nat, z < s.heap.size → H1[z]? = s.heap[z]?) → W p l e R s m args below meth c H1 [] 1 6 Q (F0 m x.handlerPc ls [.ref q])) : W p l e R s m args below meth c s.heap [] 0 0 Q (F0 m pc ls st) := by
  have hown : s.vm.findClass own = some m.cls := S.2.2.2.1
  have hr : vx_Run p l e R s m args below meth c s.heap [] 0 0 1 6 (F0 m pc ls st) rest ((fun _ _ _ _ => False) (Value.ref b :: As).toArray) (tX X) (fun _ => False) := vx_runV (As := As) (rest := rest) (b := b) S hM cw ⟨fun a U g mk q => ⟨q.1, hbl U g mk a q.2⟩, hrec, fun U hU hW => ⟨rfl, hB U hU hW⟩⟩ rfl hn hsz hst hW hdg hf
  intro T hT X0
  rcases hr T hT X0 with ⟨v, st₀, t, T', L, h1, X', hL, e1, e2, hF, st1⟩ | ⟨q, st₀, t, T', L, E, ce, h1, X', hL, e1, e2, ⟨hE, hz, hkeep⟩, hce, hcv, hcl, st1⟩
  · exact hF.elim
  · subst hE
    rw [h1] at hz hkeep
    have hL0 : L = [] := List.eq_nil_iff_forall_not_mem.mpr (fun z hz => hL z hz)
    subst hL0
    have k : vx_W p l e R s m args below meth c T'.heap [] 1 6 Q (F0 m pc ls rest) q := vx_catch (ce := ce) hown pre x suf hsplit hpass hx h0 hlink hcast (by rw [e1]; exact hce) hcv hcl (kk q T'.heap (by rw [e1]; exact hz) (fun z hz2 => by rw [e1]; exact hkeep z hz2 (fun h => h)))
    obtain ⟨t2, a1, b1⟩ := k T' rfl X'
    exact ⟨t2, st1.trans a1, b1⟩
end TK
