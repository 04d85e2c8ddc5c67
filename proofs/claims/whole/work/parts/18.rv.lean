/-! methods that only read and answer nothing; static methods that write -/
def QcVoid : Array Value → State → Outcome → State → Prop := fun _ st o t => o = .returned none ∧ t.heap = st.heap
abbrev Rv (l : Launch) (y : MethodName) (ws : List Cond) (fr lo : Nat) (av : List Value) (B : State → Prop) : Prop :=
  Met l y ws { frames := fr, cells := 0, slots := 0, locals := lo } (va_Pc av B) QcVoid 0 0 (fun _ => False)
section RV
variable {p : Program} {l : Launch} {e : Env} {R : Room} {s : State} {m : MethodId} {args : Array Value} {below : List Frame} {meth : Method} {c : Code} {H H0 : Heap} {locs : List Loc} {cells slots : Nat} {Q : State → Prop}
variable {cc : ByteArray} {pc : Nat} {ls : Array Slot} {rest : List Value} {D : va_G} {cl : List vw_C} {tys : List (ClassId × FieldType)} {w0 w1 : va_W} {A : Nat → Prop}
theorem rv_v (hx : p.tables.exec = Jvm.exec) (hb : c.code = cc) (hr : meth.sig.returnType = none) (hk : meth.locks = false) (hdg : decode cc pc = .ok (.return_, 1)) :
    W p l e R s m args below meth c s.heap [] cells slots (MQ below QcVoid args s cells slots (fun _ => False)) (F0 m pc ls []) :=
  W.vret hx hb hr (fun t ht _ => ⟨rfl, ht⟩) (fun q hq => by cases hq) hdg hk
section RVC
variable {Ts ws : List Cond} {own C : String} {nL n index maxL fr lo : Nat} {y : MethodName} {bytes : ByteArray} {ret : Option FieldType} {B : State → Prop} {As st : List Value} {b : Addr} {v : Option Value}
theorem rv_V (S : CallFix p m c cc nL s args Ts own) (hM : Rv l y ws fr lo (.ref b :: As) B) (cw : CallW R s args own C index y bytes maxL ret ws { frames := fr, cells := 0, slots := 0, locals := lo } 0 0 n)
    (hbl : ∀ (U : State) (g : JFrame) (mk : MethodId) (a : Array Value), B U → B (U.calling g mk a)) (hrec : ∃ cellB : Cell, H[b]? = some cellB ∧ cellB.vm.isStatics = false ∧ s.vm.findClass C = some cellB.cls) (hB : ∀ U : State, U.heap = H → s.WarmedH U.vm → B U)
    (hn : As.length = n) (hsz : ls.size = nL) (hst : st = As.reverse ++ .ref b :: rest) (hW : 2 * (F0 m pc ls st).monitorRoom + (rest.map fun v => v.category).sum ≤ 8) (hdg : decode cc pc = .ok (.invokevirtual index, 3)) (hf : cells ≤ R.cells ∧ slots ≤ R.slots)
    (kk : W p l e R s m args below meth c H locs cells slots Q (F0 m (pc + 3) ls rest)) : W p l e R s m args below meth c H locs cells slots Q (F0 m pc ls st) := by
  have hr : CallRun p l e R s m args below meth c H locs cells slots 0 0 (F0 m pc ls st) rest (QcVoid (Value.ref b :: As).toArray) (fun _ => False) := W.runV (As := As) (rest := rest) (b := b) S hM cw ⟨fun a U g mk q => ⟨q.1, hbl U g mk a q.2⟩, hrec, fun U hU hW => ⟨rfl, hB U hU hW⟩⟩ rfl hn hsz hst hW hdg hf
  intro T hT X
  obtain ⟨v, st₀, t, T', L, h0, X', hL, e1, ⟨hv, hh⟩, st1⟩ := hr T hT X
  cases hv
  obtain ⟨t2, a1, b1⟩ := kk T' (by rw [e1, hh, h0]) (Stand.forget X' (fun q h => (hL q h).elim))
  exact ⟨t2, st1 t2 a1, b1⟩
theorem wr_S (S : CallFix p m c cc nL s args Ts own) (hM : Wr l y ws fr lo As D cl tys w0 w1 v) (cw : CallB R s args own index y bytes maxL ret ws { frames := fr, cells := 0, slots := 0, locals := lo } 0 0 n ∧ (Cond.static y).before args s = true)
    (hP : va_P D cl w0 H) (hK : va_K D cl tys s) (hD : va_D A w0) (hS : va_S A H0 H locs)
    (hn : As.length = n) (hsz : ls.size = nL) (hst : st = As.reverse ++ rest) (hW : 2 * (F0 m pc ls st).monitorRoom + (rest.map fun v => v.category).sum ≤ 8) (hdg : decode cc pc = .ok (.invokestatic index, 3)) (hf : cells ≤ R.cells ∧ slots ≤ R.slots)
    (kk : ∀ (H1 : Heap) (locs1 : List Loc), va_P D cl w1 H1 → (∀ q : Nat, q < H.size → ¬ w_A w0 q → H1[q]? = H[q]?) → H.size ≤ H1.size → va_S A H0 H1 locs1 → W p l e R s m args below meth c H1 locs1 cells slots Q (F0 m (pc + 3) ls (v.toList ++ rest))) : W p l e R s m args below meth c H locs cells slots Q (F0 m pc ls st) :=
  wr_go (a := As.toArray) (W.runS (As := As) (rest := rest) S hM cw ⟨wr_bl, fun U hU hW => ⟨rfl, by rw [hU]; exact hP, va_K.moved hW.alike hK, hD.weaken (fun _ _ _ _ => trivial)⟩⟩ rfl hn hsz hst hW hdg hf) hD hS kk
end RVC
end RV
theorem isPt_of {n0 j : Nat} (hn : n0 < 2 ^ 31) (hj : j < n0) : isPt (nI n0) (nI (j + 1)) := ⟨fun q => absurd ((nI_ltI (a := j + 1) (b := 1) (by omega) (by omega)).mp q) (by omega), nI_nlt (by omega) (by omega)⟩
theorem isCf_of {t0 k : Nat} (ht : t0 < 2 ^ 31) (hk : k < t0) : isCf (nI t0) (nI k) := ⟨nI_pos (by omega), nI_ge hk ht⟩
theorem isCf_nat {t0 : Nat} {k : Int32} (h : isCf (nI t0) k) (ht : t0 < 2 ^ 31) : ∃ k0 : Nat, k0 < t0 ∧ k = nI k0 := by
  obtain ⟨k0, h1, rfl⟩ := nI_of h.1
  refine ⟨k0, ?_, rfl⟩
  rcases Nat.lt_or_ge k0 t0 with q | q
  · exact q
  · exact absurd (nI_le q h1) h.2
theorem isPt_nat {n0 : Nat} {i : Int32} (h : isPt (nI n0) i) (hn : n0 < 2 ^ 31) : ∃ j : Nat, j < n0 ∧ i = nI (j + 1) := by
  have h0 : ¬ i < 0 := fun q => h.1 (by
    rw [Int32.lt_iff_toInt_lt] at q ⊢
    have e0 : (0 : Int32).toInt = 0 := by decide
    have e1 : (1 : Int32).toInt = 1 := by decide
    omega)
  obtain ⟨k0, h1, rfl⟩ := nI_of h0
  have h2 : ¬ k0 < 1 := fun q => h.1 (nI_lt (b := 1) q (by decide))
  refine ⟨k0 - 1, ?_, by rw [Nat.sub_add_cancel (by omega)]⟩
  rcases Nat.lt_or_ge n0 k0 with q | q
  · exact absurd (nI_lt q h1) h.2
  · omega
/-- what commitment(k) tells -/
noncomputable def cmC (S : Nat → Nat → Int32) (k : Int32) : Int32 := @ite _ (¬ S 0 0 < 2 ∧ isCf (S 0 2) k) (Classical.propDecidable _) (S 3 (nn k)) 0
theorem okN_bnum (b x : Int32) {q : Nat} (h : 0 < q) (hq : q < 2 ^ 31) : okN (bnum b x q) q := by
  unfold bnum
  by_cases c : b = 0
  · rw [if_pos c]; exact ⟨0, h, by omega, rfl⟩
  · rw [if_neg c]; exact ⟨md x q, md_lt x h, Nat.lt_trans (md_lt x h) hq, rfl⟩
theorem okN_md (x : Int32) {q : Nat} (h : 0 < q) (hq : q < 2 ^ 31) : okN (nI (md x q)) q := ⟨md x q, md_lt x h, Nat.lt_trans (md_lt x h) hq, rfl⟩
