/-! OUR OWN ROWS: methods that write within a world and make nothing; places in a world with a stretch of like cells -/
def w_A (w : va_W) : Nat → Prop := fun q => ∃ (k : Nat) (e : va_E), w[k]? = some (q, e)
theorem w_A.of {A : Nat → Prop} {w : va_W} (h : va_D A w) {q : Nat} (hq : w_A w q) : A q := by
  obtain ⟨k, e, h1⟩ := hq
  exact h.2 k (q, e) h1
theorem w_self {A : Nat → Prop} {w : va_W} (h : va_D A w) : va_D (w_A w) w := ⟨h.1, fun k q hk => ⟨k, q.2, hk⟩⟩
/-- a world with the same addresses -/
theorem w_addr {A : Nat → Prop} {w w1 : va_W} (h : va_D A w) (e : w1.map Prod.fst = w.map Prod.fst) : va_D A w1 := by
  have key : ∀ (k : Nat) (q : Nat × va_E), w1[k]? = some q → ∃ q0, w[k]? = some q0 ∧ q0.1 = q.1 := by
    intro k q hk
    have h1 : (w1.map Prod.fst)[k]? = some q.1 := by rw [List.getElem?_map, hk]; rfl
    rw [e, List.getElem?_map] at h1
    cases h2 : w[k]? with
    | none => rw [h2] at h1; cases h1
    | some q0 => rw [h2] at h1; exact ⟨q0, rfl, Option.some.inj h1⟩
  refine ⟨fun i j x y hx hy hxy => ?_, fun k q hk => ?_⟩
  · obtain ⟨x0, a1, a2⟩ := key i x hx
    obtain ⟨y0, b1, b2⟩ := key j y hy
    exact h.1 i j x0 y0 a1 b1 (by rw [a2, b2]; exact hxy)
  · obtain ⟨q0, a1, a2⟩ := key k q hk
    rw [← a2]
    exact h.2 k q0 a1
/-- the rest of a world stays -/
theorem w_keep {D : va_G} {cl : List vw_C} {A : Nat → Prop} {w1 w2 : va_W} {H H1 : Heap} (hP : va_P D cl w2 H) (hD : va_D A (w1 ++ w2)) (hk : ∀ q : Nat, q < H.size → ¬ w_A w1 q → H1[q]? = H[q]?) : va_P D cl w2 H1 := by
  refine hP.kept fun k q hq => hk q.1 (hP k q hq).lt fun h => ?_
  obtain ⟨j, e, hj⟩ := h
  have h1 : (w1 ++ w2)[w1.length + k]? = some q := by rw [List.getElem?_append_right (by omega), Nat.add_sub_cancel_left]; exact hq
  have h2 : (w1 ++ w2)[j]? = some (q.1, e) := by rw [List.getElem?_append_left (List.getElem?_eq_some_iff.mp hj).1]; exact hj
  have h3 := hD.1 _ _ _ _ h1 h2 rfl
  have h4 := (List.getElem?_eq_some_iff.mp hj).1
  omega
theorem w_get {X : va_W} {f : Nat → Nat × va_E} {n j : Nat} (hj : j < n) : (X ++ (List.range n).map f)[X.length + j]? = some (f j) := by
  rw [List.getElem?_append_right (by omega), Nat.add_sub_cancel_left, List.getElem?_map, List.getElem?_range hj]
  rfl
theorem w_set {X : va_W} {f f' : Nat → Nat × va_E} {n j : Nat} (hj : j < n) (h : ∀ i, i < n → i ≠ j → f' i = f i) : (X ++ (List.range n).map f).set (X.length + j) (f' j) = X ++ (List.range n).map f' := by
  apply List.ext_getElem?
  intro k
  by_cases hk : k = X.length + j
  · subst hk
    rw [List.getElem?_set_self (by simp; omega), w_get hj]
  · rw [List.getElem?_set_ne (fun q => hk q.symm)]
    rcases Nat.lt_or_ge k X.length with q | q
    · rw [List.getElem?_append_left q, List.getElem?_append_left q]
    · rw [List.getElem?_append_right q, List.getElem?_append_right q, List.getElem?_map, List.getElem?_map]
      rcases Nat.lt_or_ge (k - X.length) n with z | z
      · rw [List.getElem?_range z]
        show some _ = some _
        rw [h _ z (by omega)]
      · rw [List.getElem?_eq_none (by simpa using z)]
        rfl
/-- a method that writes within the world w0, makes it w1, and answers v -/
abbrev Wr (l : Launch) (y : MethodName) (ws : List Cond) (fr lo : Nat) (av : List Value) (D : va_G) (cl : List vw_C) (tys : List (ClassId × FieldType)) (w0 w1 : va_W) (v : Option Value) : Prop :=
  Met l y ws { frames := fr, cells := 0, slots := 0, locals := lo } (va_Pc av (fun U => va_P D cl w0 U.heap ∧ va_K D cl tys U ∧ va_D (fun _ => True) w0)) (fun _ st o t => o = .returned v ∧ va_P D cl w1 t.heap ∧ va_F (w_A w0) st t) 0 0 (w_A w0)
section WX
variable {p : Program} {l : Launch} {e : Env} {R : Room} {s : State} {m : MethodId} {args : Array Value} {below : List Frame} {meth : Method} {c : Code} {H H0 : Heap} {locs : List Loc} {cells slots : Nat} {Q : State → Prop}
variable {cc : ByteArray} {pc : Nat} {ls : Array Slot} {rest : List Value} {D : va_G} {cl : List vw_C} {tys : List (ClassId × FieldType)} {w0 w1 : va_W} {A : Nat → Prop}
theorem wr_v (hx : p.tables.exec = Jvm.exec) (hb : c.code = cc) (hr : meth.sig.returnType = none) (hk : meth.locks = false) (hP : va_P D cl w1 H) (hS : va_S (w_A w0) s.heap H locs) (hdg : decode cc pc = .ok (.return_, 1)) :
    W p l e R s m args below meth c H locs cells slots (MQ below (fun _ st o t => o = .returned none ∧ va_P D cl w1 t.heap ∧ va_F (w_A w0) st t) args s cells slots (w_A w0)) (F0 m pc ls []) :=
  W.vret hx hb hr (fun t ht _ => ⟨rfl, by rw [ht]; exact hP, hS.F ht⟩) hS.2.2 hdg hk
theorem wr_i {v : Int32} (hx : p.tables.exec = Jvm.exec) (hb : c.code = cc) (hr : meth.sig.returnType = some .int) (hk : meth.locks = false) (hP : va_P D cl w1 H) (hS : va_S (w_A w0) s.heap H locs) (hdg : decode cc pc = .ok (.ireturn, 1)) :
    W p l e R s m args below meth c H locs cells slots (MQ below (fun _ st o t => o = .returned (some (.int v)) ∧ va_P D cl w1 t.heap ∧ va_F (w_A w0) st t) args s cells slots (w_A w0)) (F0 m pc ls [.int v]) :=
  W.iret hx hb hr (fun t ht _ => ⟨rfl, by rw [ht]; exact hP, hS.F ht⟩) hS.2.2 hdg hk
theorem wr_z {v : Int32} (hx : p.tables.exec = Jvm.exec) (hb : c.code = cc) (hr : meth.sig.returnType = some .boolean) (hk : meth.locks = false) (hn : narrow .boolean (.int v) = .int v) (hP : va_P D cl w1 H) (hS : va_S (w_A w0) s.heap H locs) (hdg : decode cc pc = .ok (.ireturn, 1)) :
    W p l e R s m args below meth c H locs cells slots (MQ below (fun _ st o t => o = .returned (some (.int v)) ∧ va_P D cl w1 t.heap ∧ va_F (w_A w0) st t) args s cells slots (w_A w0)) (F0 m pc ls [.int v]) :=
  W.zret hx hb hr hn (fun t ht _ => ⟨rfl, by rw [ht]; exact hP, hS.F ht⟩) hS.2.2 hdg hk
section WXC
variable {Ts ws : List Cond} {own C : String} {nL n index maxL fr lo : Nat} {y : MethodName} {bytes : ByteArray} {ret : Option FieldType} {As st : List Value} {b : Addr} {v : Option Value}
/-- behind the call of a method that writes within w0 -/
theorem wr_go {a : Array Value} (hr : CallRun p l e R s m args below meth c H locs cells slots 0 0 (F0 m pc ls st) rest ((fun _ st o t => o = .returned v ∧ va_P D cl w1 t.heap ∧ va_F (w_A w0) st t) a) (w_A w0)) (hD : va_D A w0) (hS : va_S A H0 H locs)
    (kk : ∀ (H1 : Heap) (locs1 : List Loc), va_P D cl w1 H1 → (∀ q : Nat, q < H.size → ¬ w_A w0 q → H1[q]? = H[q]?) → H.size ≤ H1.size → va_S A H0 H1 locs1 → W p l e R s m args below meth c H1 locs1 cells slots Q (F0 m (pc + 3) ls (v.toList ++ rest))) : W p l e R s m args below meth c H locs cells slots Q (F0 m pc ls st) := by
  intro T hT X
  obtain ⟨v', st₀, t, T', L, h0, X', hL, e1, ⟨hv, hP1, hz, hk⟩, st⟩ := hr T hT X
  cases hv
  rw [h0] at hz hk
  obtain ⟨t2, a1, b1⟩ := kk T'.heap (locs ++ L) (by rw [e1]; exact hP1) (fun q h1 h2 => by rw [e1]; exact hk q h1 h2) (by rw [e1]; exact hz)
    ⟨Nat.le_trans hS.1 (by rw [e1]; exact hz), fun q h1 h2 => by rw [e1, hk q (Nat.lt_of_lt_of_le h1 hS.1) (fun z => h2 (w_A.of hD z))]; exact hS.2.1 q h1 h2, fun q hq => by
      rcases List.mem_append.mp hq with h | h
      · exact hS.2.2 q h
      · exact w_A.of hD (hL q h)⟩ T' rfl X'
  exact ⟨t2, st t2 a1, b1⟩
theorem wr_bl {av : List Value} : FrameBlind (va_Pc av (fun U => va_P D cl w0 U.heap ∧ va_K D cl tys U ∧ va_D (fun _ => True) w0)) :=
  fun a U g mk q => ⟨q.1, q.2.1, va_K.moved (u := U) (U := U.calling g mk a) (Vm.Alike.refl U.vm) q.2.2.1, q.2.2.2⟩
theorem wr_V (S : CallFix p m c cc nL s args Ts own) (hM : Wr l y ws fr lo (.ref b :: As) D cl tys w0 w1 v) (cw : CallW R s args own C index y bytes maxL ret ws { frames := fr, cells := 0, slots := 0, locals := lo } 0 0 n)
    (hrec : ∃ cellB : Cell, H[b]? = some cellB ∧ cellB.vm.isStatics = false ∧ s.vm.findClass C = some cellB.cls) (hP : va_P D cl w0 H) (hK : va_K D cl tys s) (hD : va_D A w0) (hS : va_S A H0 H locs)
    (hn : As.length = n) (hsz : ls.size = nL) (hst : st = As.reverse ++ .ref b :: rest) (hW : 2 * (F0 m pc ls st).monitorRoom + (rest.map fun v => v.category).sum ≤ 8) (hdg : decode cc pc = .ok (.invokevirtual index, 3)) (hf : cells ≤ R.cells ∧ slots ≤ R.slots)
    (kk : ∀ (H1 : Heap) (locs1 : List Loc), va_P D cl w1 H1 → (∀ q : Nat, q < H.size → ¬ w_A w0 q → H1[q]? = H[q]?) → H.size ≤ H1.size → va_S A H0 H1 locs1 → W p l e R s m args below meth c H1 locs1 cells slots Q (F0 m (pc + 3) ls (v.toList ++ rest))) : W p l e R s m args below meth c H locs cells slots Q (F0 m pc ls st) :=
  wr_go (a := (Value.ref b :: As).toArray) (W.runV (As := As) (rest := rest) (b := b) S hM cw ⟨wr_bl, hrec, fun U hU hW => ⟨rfl, by rw [hU]; exact hP, va_K.moved hW.alike hK, hD.weaken (fun _ _ _ _ => trivial)⟩⟩ rfl hn hsz hst hW hdg hf) hD hS kk
end WXC
end WX
/-- one number of a state -/
def up (S : Nat → Nat → Int32) (f k : Nat) (v : Int32) : Nat → Nat → Int32 := fun f' k' => if f' = f then (if k' = k then v else S f' k') else S f' k'
theorem up_row (S : Nat → Nat → Int32) (f k : Nat) (v : Int32) : (up S f k v) f = upd (S f) k v := by
  funext j
  by_cases h : j = k
  · simp [up, upd, h]
  · simp [up, upd, h]
theorem up_ne (S : Nat → Nat → Int32) {f f' : Nat} (k : Nat) (v : Int32) (h : f' ≠ f) : (up S f k v) f' = S f' := by
  funext j
  simp [up, h]
theorem up_at (S : Nat → Nat → Int32) (f k : Nat) (v : Int32) : up S f k v f k = v := by simp [up]
theorem up_nk (S : Nat → Nat → Int32) (f : Nat) {k k' : Nat} (v : Int32) (h : k' ≠ k) : up S f k v f k' = S f k' := by simp [up, h]
