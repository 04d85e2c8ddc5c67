/-! the worlds behind one write -/
theorem w_pt0 {Z : Nat → Nat} {cI cP : ClassId} {p0 q0 g0 h0 : Nat} {S : Nat → Nat → Int32} {j : Nat} {v : Int32} (hj : j < 7) : (wC Z cI cP p0 q0 g0 h0 S).set (6 + j) (Z (6 + j), .inr (1, (fP S j).set 0 (.int v))) = wC Z cI cP p0 q0 g0 h0 (up S 4 j v) := by
  have e : (Z (6 + j), (.inr (1, (fP S j).set 0 (.int v)) : va_E)) = (fun i => (Z (6 + i), (.inr (1, fP (up S 4 j v) i) : va_E))) j := by
    simp [fP, up]
  rw [e]
  exact w_set (X := wX Z cI cP p0 q0 g0 h0 S) (f := fun i => (Z (6 + i), .inr (1, fP S i))) (f' := fun i => (Z (6 + i), .inr (1, fP (up S 4 j v) i))) hj (fun i _ hne => by simp [fP, up, hne])
theorem w_pt1 {Z : Nat → Nat} {cI cP : ClassId} {p0 q0 g0 h0 : Nat} {S : Nat → Nat → Int32} {j : Nat} {v : Int32} (hj : j < 7) : (wC Z cI cP p0 q0 g0 h0 S).set (6 + j) (Z (6 + j), .inr (1, (fP S j).set 1 (.int v))) = wC Z cI cP p0 q0 g0 h0 (up S 5 j v) := by
  have e : (Z (6 + j), (.inr (1, (fP S j).set 1 (.int v)) : va_E)) = (fun i => (Z (6 + i), (.inr (1, fP (up S 5 j v) i) : va_E))) j := by
    simp [fP, up]
  rw [e]
  exact w_set (X := wX Z cI cP p0 q0 g0 h0 S) (f := fun i => (Z (6 + i), .inr (1, fP S i))) (f' := fun i => (Z (6 + i), .inr (1, fP (up S 5 j v) i))) hj (fun i _ hne => by simp [fP, up, hne])
theorem w_pt2 {Z : Nat → Nat} {cI cP : ClassId} {p0 q0 g0 h0 : Nat} {S : Nat → Nat → Int32} {j : Nat} {v : Int32} (hj : j < 7) : (wC Z cI cP p0 q0 g0 h0 S).set (6 + j) (Z (6 + j), .inr (1, (fP S j).set 2 (.int v))) = wC Z cI cP p0 q0 g0 h0 (up S 6 j v) := by
  have e : (Z (6 + j), (.inr (1, (fP S j).set 2 (.int v)) : va_E)) = (fun i => (Z (6 + i), (.inr (1, fP (up S 6 j v) i) : va_E))) j := by
    simp [fP, up]
  rw [e]
  exact w_set (X := wX Z cI cP p0 q0 g0 h0 S) (f := fun i => (Z (6 + i), .inr (1, fP S i))) (f' := fun i => (Z (6 + i), .inr (1, fP (up S 6 j v) i))) hj (fun i _ hne => by simp [fP, up, hne])
theorem w_pt3 {Z : Nat → Nat} {cI cP : ClassId} {p0 q0 g0 h0 : Nat} {S : Nat → Nat → Int32} {j : Nat} {v : Int32} (hj : j < 7) : (wC Z cI cP p0 q0 g0 h0 S).set (6 + j) (Z (6 + j), .inr (1, (fP S j).set 3 (.int v))) = wC Z cI cP p0 q0 g0 h0 (up S 7 j v) := by
  have e : (Z (6 + j), (.inr (1, (fP S j).set 3 (.int v)) : va_E)) = (fun i => (Z (6 + i), (.inr (1, fP (up S 7 j v) i) : va_E))) j := by
    simp [fP, up]
  rw [e]
  exact w_set (X := wX Z cI cP p0 q0 g0 h0 S) (f := fun i => (Z (6 + i), .inr (1, fP S i))) (f' := fun i => (Z (6 + i), .inr (1, fP (up S 7 j v) i))) hj (fun i _ hne => by simp [fP, up, hne])
theorem w_pt4 {Z : Nat → Nat} {cI cP : ClassId} {p0 q0 g0 h0 : Nat} {S : Nat → Nat → Int32} {j : Nat} {v : Int32} (hj : j < 7) : (wC Z cI cP p0 q0 g0 h0 S).set (6 + j) (Z (6 + j), .inr (1, (fP S j).set 4 (.int v))) = wC Z cI cP p0 q0 g0 h0 (up S 8 j v) := by
  have e : (Z (6 + j), (.inr (1, (fP S j).set 4 (.int v)) : va_E)) = (fun i => (Z (6 + i), (.inr (1, fP (up S 8 j v) i) : va_E))) j := by
    simp [fP, up]
  rw [e]
  exact w_set (X := wX Z cI cP p0 q0 g0 h0 S) (f := fun i => (Z (6 + i), .inr (1, fP S i))) (f' := fun i => (Z (6 + i), .inr (1, fP (up S 8 j v) i))) hj (fun i _ hne => by simp [fP, up, hne])
theorem w_pt5 {Z : Nat → Nat} {cI cP : ClassId} {p0 q0 g0 h0 : Nat} {S : Nat → Nat → Int32} {j : Nat} {v : Int32} (hj : j < 7) : (wC Z cI cP p0 q0 g0 h0 S).set (6 + j) (Z (6 + j), .inr (1, (fP S j).set 5 (.int v))) = wC Z cI cP p0 q0 g0 h0 (up S 9 j v) := by
  have e : (Z (6 + j), (.inr (1, (fP S j).set 5 (.int v)) : va_E)) = (fun i => (Z (6 + i), (.inr (1, fP (up S 9 j v) i) : va_E))) j := by
    simp [fP, up]
  rw [e]
  exact w_set (X := wX Z cI cP p0 q0 g0 h0 S) (f := fun i => (Z (6 + i), .inr (1, fP S i))) (f' := fun i => (Z (6 + i), .inr (1, fP (up S 9 j v) i))) hj (fun i _ hne => by simp [fP, up, hne])
theorem w_pt6 {Z : Nat → Nat} {cI cP : ClassId} {p0 q0 g0 h0 : Nat} {S : Nat → Nat → Int32} {j : Nat} {v : Int32} (hj : j < 7) : (wC Z cI cP p0 q0 g0 h0 S).set (6 + j) (Z (6 + j), .inr (1, (fP S j).set 6 (.int v))) = wC Z cI cP p0 q0 g0 h0 (up S 10 j v) := by
  have e : (Z (6 + j), (.inr (1, (fP S j).set 6 (.int v)) : va_E)) = (fun i => (Z (6 + i), (.inr (1, fP (up S 10 j v) i) : va_E))) j := by
    simp [fP, up]
  rw [e]
  exact w_set (X := wX Z cI cP p0 q0 g0 h0 S) (f := fun i => (Z (6 + i), .inr (1, fP S i))) (f' := fun i => (Z (6 + i), .inr (1, fP (up S 10 j v) i))) hj (fun i _ hne => by simp [fP, up, hne])
theorem w_pt7 {Z : Nat → Nat} {cI cP : ClassId} {p0 q0 g0 h0 : Nat} {S : Nat → Nat → Int32} {j : Nat} {v : Int32} (hj : j < 7) : (wC Z cI cP p0 q0 g0 h0 S).set (6 + j) (Z (6 + j), .inr (1, (fP S j).set 7 (.int v))) = wC Z cI cP p0 q0 g0 h0 (up S 11 j v) := by
  have e : (Z (6 + j), (.inr (1, (fP S j).set 7 (.int v)) : va_E)) = (fun i => (Z (6 + i), (.inr (1, fP (up S 11 j v) i) : va_E))) j := by
    simp [fP, up]
  rw [e]
  exact w_set (X := wX Z cI cP p0 q0 g0 h0 S) (f := fun i => (Z (6 + i), .inr (1, fP S i))) (f' := fun i => (Z (6 + i), .inr (1, fP (up S 11 j v) i))) hj (fun i _ hne => by simp [fP, up, hne])
theorem w_pt8 {Z : Nat → Nat} {cI cP : ClassId} {p0 q0 g0 h0 : Nat} {S : Nat → Nat → Int32} {j : Nat} {v : Int32} (hj : j < 7) : (wC Z cI cP p0 q0 g0 h0 S).set (6 + j) (Z (6 + j), .inr (1, (fP S j).set 8 (.int v))) = wC Z cI cP p0 q0 g0 h0 (up S 12 j v) := by
  have e : (Z (6 + j), (.inr (1, (fP S j).set 8 (.int v)) : va_E)) = (fun i => (Z (6 + i), (.inr (1, fP (up S 12 j v) i) : va_E))) j := by
    simp [fP, up]
  rw [e]
  exact w_set (X := wX Z cI cP p0 q0 g0 h0 S) (f := fun i => (Z (6 + i), .inr (1, fP S i))) (f' := fun i => (Z (6 + i), .inr (1, fP (up S 12 j v) i))) hj (fun i _ hne => by simp [fP, up, hne])
theorem w_adC {Z : Nat → Nat} {cI cP : ClassId} {p0 q0 g0 h0 : Nat} (S S1 : Nat → Nat → Int32) : (wC Z cI cP p0 q0 g0 h0 S1).map Prod.fst = (wC Z cI cP p0 q0 g0 h0 S).map Prod.fst := rfl
theorem w_adM {Y : Nat → Nat} {cI cZ : ClassId} {p0 q0 g0 h0 : Nat} (S S1 : Nat → Nat → Int32) : (wM Y cI cZ p0 q0 g0 h0 S1).map Prod.fst = (wM Y cI cZ p0 q0 g0 h0 S).map Prod.fst := rfl
theorem mz_bfit (P : Prop) : fits .boolean (.int (mz_b P)) = true := by
  rcases mz_b01 P with h | h <;> rw [h] <;> rfl
/-- a participant starts anew, gets a share, its pair is kept -/
abbrev stA (S : Nat → Nat → Int32) (j : Nat) : Nat → Nat → Int32 := up (up (up (up S 7 j 0) 8 j 0) 9 j 0) 10 j 0
abbrev rcv (S : Nat → Nat → Int32) (j : Nat) (u v : Int32) : Nat → Nat → Int32 := up (up S 5 j u) 6 j v
abbrev kpt (S : Nat → Nat → Int32) (j : Nat) (u v : Int32) : Nat → Nat → Int32 := up (up (up S 10 j 1) 11 j u) 12 j v
