/-! OUR OWN ROWS: the top of the stack under another name; contracts of methods that only read (the heap stays the same heap) -/
section RX
variable {p : Program} {l : Launch} {e : Env} {R : Room} {s : State} {m : MethodId} {args : Array Value} {below : List Frame} {meth : Method} {c : Code} {H : Heap} {locs : List Loc} {cells slots : Nat} {Q : State → Prop}
variable {cc : ByteArray} {pc : Nat} {ls : Array Slot} {rest : List Value}
theorem x_i {x y : Int32} (h : x = y) (k : W p l e R s m args below meth c H locs cells slots Q (F0 m pc ls (.int y :: rest))) : W p l e R s m args below meth c H locs cells slots Q (F0 m pc ls (.int x :: rest)) := by
  rw [h]
  exact k
theorem x_l {x y : Int64} (h : x = y) (k : W p l e R s m args below meth c H locs cells slots Q (F0 m pc ls (.long y :: rest))) : W p l e R s m args below meth c H locs cells slots Q (F0 m pc ls (.long x :: rest)) := by
  rw [h]
  exact k
theorem x_v {x y : Value} (h : x = y) (k : W p l e R s m args below meth c H locs cells slots Q (F0 m pc ls (y :: rest))) : W p l e R s m args below meth c H locs cells slots Q (F0 m pc ls (x :: rest)) := by
  rw [h]
  exact k
/-- a method that only reads, and answers r -/
abbrev Ro (l : Launch) (y : MethodName) (ws : List Cond) (fr lo : Nat) (av : List Value) (B : State → Prop) (r : Int32) : Prop :=
  Met l y ws { frames := fr, cells := 0, slots := 0, locals := lo } (va_Pc av B) (QcRead r) 0 0 (fun _ => False)
theorem ro_i {v r : Int32} (hx : p.tables.exec = Jvm.exec) (hb : c.code = cc) (hr : meth.sig.returnType = some .int) (hk : meth.locks = false) (hdg : decode cc pc = .ok (.ireturn, 1)) (ev : v = r) :
    W p l e R s m args below meth c s.heap [] cells slots (MQ below (QcRead r) args s cells slots (fun _ => False)) (F0 m pc ls [.int v]) := by
  subst ev
  exact W.iret hx hb hr (fun t ht _ => ⟨rfl, ht⟩) (fun q hq => by cases hq) hdg hk
theorem ro_z {v r : Int32} (hx : p.tables.exec = Jvm.exec) (hb : c.code = cc) (hr : meth.sig.returnType = some .boolean) (hk : meth.locks = false) (hdg : decode cc pc = .ok (.ireturn, 1)) (hn : narrow .boolean (.int v) = .int v) (ev : v = r) :
    W p l e R s m args below meth c s.heap [] cells slots (MQ below (QcRead r) args s cells slots (fun _ => False)) (F0 m pc ls [.int v]) := by
  subst ev
  exact W.zret hx hb hr hn (fun t ht _ => ⟨rfl, ht⟩) (fun q hq => by cases hq) hdg hk
section RXC
variable {Ts ws : List Cond} {own C : String} {nL n index maxL fr lo : Nat} {y : MethodName} {bytes : ByteArray} {ret : Option FieldType} {B : State → Prop} {r : Int32} {As st : List Value} {b : Addr}
/-- a static method that only reads is called -/
theorem ro_S (S : CallFix p m c cc nL s args Ts own) (hM : Ro l y ws fr lo As B r) (cw : CallB R s args own index y bytes maxL ret ws { frames := fr, cells := 0, slots := 0, locals := lo } 0 0 n ∧ (Cond.static y).before args s = true)
    (hbl : ∀ (U : State) (g : JFrame) (mk : MethodId) (a : Array Value), B U → B (U.calling g mk a)) (hB : ∀ U : State, U.heap = H → s.WarmedH U.vm → B U)
    (hn : As.length = n) (hsz : ls.size = nL) (hst : st = As.reverse ++ rest) (hW : 2 * (F0 m pc ls st).monitorRoom + (rest.map fun v => v.category).sum ≤ 8) (hdg : decode cc pc = .ok (.invokestatic index, 3)) (hf : cells ≤ R.cells ∧ slots ≤ R.slots)
    (kk : W p l e R s m args below meth c H locs cells slots Q (F0 m (pc + 3) ls (.int r :: rest))) : W p l e R s m args below meth c H locs cells slots Q (F0 m pc ls st) :=
  W.callR (a := As.toArray) (W.runS (As := As) (rest := rest) S hM cw ⟨fun a U g mk q => ⟨q.1, hbl U g mk a q.2⟩, fun U hU hW => ⟨rfl, hB U hU hW⟩⟩ rfl hn hsz hst hW hdg hf) kk
/-- a method of an object that only reads is called -/
theorem ro_V (S : CallFix p m c cc nL s args Ts own) (hM : Ro l y ws fr lo (.ref b :: As) B r) (cw : CallW R s args own C index y bytes maxL ret ws { frames := fr, cells := 0, slots := 0, locals := lo } 0 0 n)
    (hbl : ∀ (U : State) (g : JFrame) (mk : MethodId) (a : Array Value), B U → B (U.calling g mk a)) (hrec : ∃ cellB : Cell, H[b]? = some cellB ∧ cellB.vm.isStatics = false ∧ s.vm.findClass C = some cellB.cls) (hB : ∀ U : State, U.heap = H → s.WarmedH U.vm → B U)
    (hn : As.length = n) (hsz : ls.size = nL) (hst : st = As.reverse ++ .ref b :: rest) (hW : 2 * (F0 m pc ls st).monitorRoom + (rest.map fun v => v.category).sum ≤ 8) (hdg : decode cc pc = .ok (.invokevirtual index, 3)) (hf : cells ≤ R.cells ∧ slots ≤ R.slots)
    (kk : W p l e R s m args below meth c H locs cells slots Q (F0 m (pc + 3) ls (.int r :: rest))) : W p l e R s m args below meth c H locs cells slots Q (F0 m pc ls st) :=
  W.callR (a := (Value.ref b :: As).toArray) (W.runV (As := As) (rest := rest) (b := b) S hM cw ⟨fun a U g mk q => ⟨q.1, hbl U g mk a q.2⟩, hrec, fun U hU hW => ⟨rfl, hB U hU hW⟩⟩ rfl hn hsz hst hW hdg hf) kk
end RXC
end RX
/-- a truth as a Java boolean -/
noncomputable def mz_b (P : Prop) : Int32 := @ite _ P (Classical.propDecidable P) 1 0
theorem mz_bt {P : Prop} (h : P) : mz_b P = 1 := if_pos h
theorem mz_bf {P : Prop} (h : ¬ P) : mz_b P = 0 := if_neg h
theorem mz_b0 {P : Prop} : mz_b P = 0 ↔ ¬ P := by
  by_cases h : P
  · rw [mz_bt h]; exact ⟨fun q => absurd q (by decide), fun q => absurd h q⟩
  · rw [mz_bf h]; exact ⟨fun _ => h, fun _ => rfl⟩
theorem mz_b01 (P : Prop) : mz_b P = 0 ∨ mz_b P = 1 := by
  by_cases h : P
  · exact Or.inr (mz_bt h)
  · exact Or.inl (mz_bf h)
theorem mz_bc {P P' : Prop} (h : P ↔ P') : mz_b P = mz_b P' := by
  by_cases q : P
  · rw [mz_bt q, mz_bt (h.mp q)]
  · rw [mz_bf q, mz_bf (fun z => q (h.mpr z))]
theorem mz_bn (P : Prop) : narrow .boolean (.int (mz_b P)) = .int (mz_b P) := by
  rcases mz_b01 P with h | h <;> rw [h] <;> rfl
/-- numbers -/
theorem nz_m31 {a b : Nat} (ha : a < 2 ^ 31) (hb : b < 2 ^ 31) : a * b < 2 ^ 62 := Nat.lt_of_lt_of_le (Nat.mul_lt_mul'' ha hb) (by decide)
theorem nz_lne {a : Nat} (h0 : 0 < a) (h : a < 2 ^ 31) : ¬ lN a = 0 := fun q => by
  have h1 : a = 0 := (pk_lEQ (a := a) (b := 0) (by omega) (by omega)).mp q
  omega
theorem nz_ine {a : Nat} (h0 : 0 < a) (h : a < 2 ^ 31) : ¬ nI a = 0 := nI_ne0 h0 h
/-- x % m over longs -/
theorem nz_lrem {a m : Nat} (ha : a < 2 ^ 62) (h0 : 0 < m) (hm : m < 2 ^ 31) : lN a - lN a / lN m * lN m = lN (a % m) := pk_lRem (by omega) h0 (by omega)
theorem nz_2 : (2 : Int32) = nI 2 := rfl
theorem nz_1 : (1 : Int32) = nI 1 := rfl
/-- what is not below 2 is a number from 2 on -/
theorem nz_ge2 {x : Int32} (h : ¬ x < 2) : ∃ j : Nat, 2 ≤ j ∧ j < 2 ^ 31 ∧ x = nI j := by
  have h2 : (2 : Int32).toInt = 2 := by decide
  have h1 : (0 : Int32).toInt = 0 := by decide
  have h0 : ¬ x < 0 := fun q => h (by rw [Int32.lt_iff_toInt_lt] at q ⊢; omega)
  obtain ⟨j, hj, rfl⟩ := nI_of h0
  refine ⟨j, ?_, hj, rfl⟩
  rcases Nat.lt_or_ge j 2 with q | q
  · exact absurd (by rw [nz_2]; exact nI_lt q (by decide)) h
  · exact q
theorem nz_lt2 {x : Int32} (h : x < 2) : x.toNatClampNeg < 2 := by
  rcases Nat.lt_or_ge x.toNatClampNeg 2 with q | q
  · exact q
  · exfalso
    have h1 : (x.toNatClampNeg : Int) = x.toInt.toNat := rfl
    rw [Int32.lt_iff_toInt_lt] at h
    have h2 : (2 : Int32).toInt = 2 := by decide
    have h3 : x.toNatClampNeg = x.toInt.toNat := rfl
    omega
