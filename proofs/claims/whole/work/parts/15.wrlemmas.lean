/-! the worlds behind one write -/
theorem w_pt0 {Z : Nat → Nat} {cI cP : ClassId} {p0 q0 g0 h0 : Nat} {S : Nat → Nat → Int32} {j : Nat} {v : Int32} (hj : j < 7) : (wC Z cI cP p0 q0 g0 h0 S).set (6 + j) (Z (6 + j), .inr (1, (fP S j).set 0 (.int v))) = wC Z cI cP p0 q0 g0 h0 (up S 4 j v) := by
  have e : (Z (6 + j), (.inr (1, (fP S j).set 0 (.int v)) : va_E)) = (fun i => (Z (6 + i), (.inr (1, fP (up S 4 j v) i) : va_E))) j := by
    simp [fP, up]
  rw [e]
  exact w_set (X := wX Z cI cP p0 q0 g0 h0 S) (f := fun i => (Z (6 + i), .inr (1, fP S i))) (f' := fun i => (Z (6 + i), .inr (1, fP (up S 4 j v) i))) hj (fun i _ hne => by simp [fP, up, hne])
theorem w_pt1 {Z : Nat → Nat} {cI cP : ClassId} {p0 q0 g0 h0 : Nat} {S : Nat → Nat → Int32} {j : Nat} {v : Int32} (hj : j < 7) : (wC Z cI cP p0 q0 g0 h0 S).set (6 + j) (Z (6 + j), .inr (1, (fP S j).set 1 (.int v))) = wC Z cI cP p0 q0 g0 h0 (up S 5 j v) := by
  have e : (Z (6 + j), (.inr (1, (fP S j).set 1 (.int v)) : va_E)) = (fun i => (Z (6 + i), (.inr (1, fP (up S 5 j v) i) : va_E))) j := by
    simp [fP, up]
  rw [e]
  exact w_set (X := wX Z cI cP p0 q0 g0 h0 S) (f := fun i => (Z (6 + i), .inr (1, fP S i))) (f' := fun i => (Z (6 + i), .inr (1, fP (up S 5 j v) i))) hj (fun i _ hne => by simp [fP, up, hne])
theorem w_pt2 {Z : Nat → Nat} {cI cP : ClassId} {p0 q0 g0 h0 : Nat} {S : Nat → Nat → Int32} {j : Nat} {v : Int32} (hj : j < 7) : (wC Z cI cP p0 q0 g0 h0 S).set (6 + j) (Z (6 + j), .inr (1, (fP S j).set 2 (.int v))) = wC Z cI cP p0 q0 g0 h0 (up S 6 j v) := by
  have e : (Z (6 + j), (.inr (1, (fP S j).set 2 (.int v)) : va_E)) = (fun i => (Z (6 + i), (.inr (1, fP (up S 6 j v) i) : va_E))) j := by
    simp [fP, up]
  rw [e]
  exact w_set (X := wX Z cI cP p0 q0 g0 h0 S) (f := fun i => (Z (6 + i), .inr (1, fP S i))) (f' := fun i => (Z (6 + i), .inr (1, fP (up S 6 j v) i))) hj (fun i _ hne => by simp [fP, up, hne])
theorem w_pt3 {Z : Nat → Nat} {cI cP : ClassId} {p0 q0 g0 h0 : Nat} {S : Nat → Nat → Int32} {j : Nat} {v : Int32} (hj : j < 7) : (wC Z cI cP p0 q0 g0 h0 S).set (6 + j) (Z (6 + j), .inr (1, (fP S j).set 3 (.int v))) = wC Z cI cP p0 q0 g0 h0 (up S 7 j v) := by
  have e : (Z (6 + j), (.inr (1, (fP S j).set 3 (.int v)) : va_E)) = (fun i => (Z (6 + i), (.inr (1, fP (up S 7 j v) i) : va_E))) j := by
    simp [fP, up]
  rw [e]
  exact w_set (X := wX Z cI cP p0 q0 g0 h0 S) (f := fun i => (Z (6 + i), .inr (1, fP S i))) (f' := fun i => (Z (6 + i), .inr (1, fP (up S 7 j v) i))) hj (fun i _ hne => by simp [fP, up, hne])
theorem w_pt4 {Z : Nat → Nat} {cI cP : ClassId} {p0 q0 g0 h0 : Nat} {S : Nat → Nat → Int32} {j : Nat} {v : Int32} (hj : j < 7) : (wC Z cI cP p0 q0 g0 h0 S).set (6 + j) (Z (6 + j), .inr (1, (fP S j).set 4 (.int v))) = wC Z cI cP p0 q0 g0 h0 (up S 8 j v) := by
  have e : (Z (6 + j), (.inr (1, (fP S j).set 4 (.int v)) : va_E)) = (fun i => (Z (6 + i), (.inr (1, fP (up S 8 j v) i) : va_E))) j := by
    simp [fP, up]
  rw [e]
  exact w_set (X := wX Z cI cP p0 q0 g0 h0 S) (f := fun i => (Z (6 + i), .inr (1, fP S i))) (f' := fun i => (Z (6 + i), .inr (1, fP (up S 8 j v) i))) hj (fun i _ hne => by simp [fP, up, hne])
theorem w_pt5 {Z : Nat → Nat} {cI cP : ClassId} {p0 q0 g0 h0 : Nat} {S : Nat → Nat → Int32} {j : Nat} {v : Int32} (hj : j < 7) : (wC Z cI cP p0 q0 g0 h0 S).set (6 + j) (Z (6 + j), .inr (1, (fP S j).set 5 (.int v))) = wC Z cI cP p0 q0 g0 h0 (up S 9 j v) := by
  have e : (Z (6 + j), (.inr (1, (fP S j).set 5 (.int v)) : va_E)) = (fun i => (Z (6 + i), (.inr (1, fP (up S 9 j v) i) : va_E))) j := by
    simp [fP, up]
  rw [e]
  exact w_set (X := wX Z cI cP p0 q0 g0 h0 S) (f := fun i => (Z (6 + i), .inr (1, fP S i))) (f' := fun i => (Z (6 + i), .inr (1, fP (up S 9 j v) i))) hj (fun i _ hne => by simp [fP, up, hne])
theorem w_pt6 {Z : Nat → Nat} {cI cP : ClassId} {p0 q0 g0 h0 : Nat} {S : Nat → Nat → Int32} {j : Nat} {v : Int32} (hj : j < 7) : (wC Z cI cP p0 q0 g0 h0 S).set (6 + j) (Z (6 + j), .inr (1, (fP S j).set 6 (.int v))) = wC Z cI cP p0 q0 g0 h0 (up S 10 j v) := by
  have e : (Z (6 + j), (.inr (1, (fP S j).set 6 (.int v)) : va_E)) = (fun i => (Z (6 + i), (.inr (1, fP (up S 10 j v) i) : va_E))) j := by
    simp [fP, up]
  rw [e]
  exact w_set (X := wX Z cI cP p0 q0 g0 h0 S) (f := fun i => (Z (6 + i), .inr (1, fP S i))) (f' := fun i => (Z (6 + i), .inr (1, fP (up S 10 j v) i))) hj (fun i _ hne => by simp [fP, up, hne])
theorem w_pt7 {Z : Nat → Nat} {cI cP : ClassId} {p0 q0 g0 h0 : Nat} {S : Nat → Nat → Int32} {j : Nat} {v : Int32} (hj : j < 7) : (wC Z cI cP p0 q0 g0 h0 S).set (6 + j) (Z (6 + j), .inr (1, (fP S j).set 7 (.int v))) = wC Z cI cP p0 q0 g0 h0 (up S 11 j v) := by
  have e : (Z (6 + j), (.inr (1, (fP S j).set 7 (.int v)) : va_E)) = (fun i => (Z (6 + i), (.inr (1, fP (up S 11 j v) i) : va_E))) j := by
    simp [fP, up]
  rw [e]
  exact w_set (X := wX Z cI cP p0 q0 g0 h0 S) (f := fun i => (Z (6 + i), .inr (1, fP S i))) (f' := fun i => (Z (6 + i), .inr (1, fP (up S 11 j v) i))) hj (fun i _ hne => by simp [fP, up, hne])
theorem w_pt8 {Z : Nat → Nat} {cI cP : ClassId} {p0 q0 g0 h0 : Nat} {S : Nat → Nat → Int32} {j : Nat} {v : Int32} (hj : j < 7) : (wC Z cI cP p0 q0 g0 h0 S).set (6 + j) (Z (6 + j), .inr (1, (fP S j).set 8 (.int v))) = wC Z cI cP p0 q0 g0 h0 (up S 12 j v) := by
  have e : (Z (6 + j), (.inr (1, (fP S j).set 8 (.int v)) : va_E)) = (fun i => (Z (6 + i), (.inr (1, fP (up S 12 j v) i) : va_E))) j := by
    simp [fP, up]
  rw [e]
  exact w_set (X := wX Z cI cP p0 q0 g0 h0 S) (f := fun i => (Z (6 + i), .inr (1, fP S i))) (f' := fun i => (Z (6 + i), .inr (1, fP (up S 12 j v) i))) hj (fun i _ hne => by simp [fP, up, hne])
theorem w_cs0 {Z : Nat → Nat} {cI cP : ClassId} {p0 q0 g0 h0 : Nat} {S : Nat → Nat → Int32} {v : Int32} : (wC Z cI cP p0 q0 g0 h0 S).set 0 (Z 0, .inr (2, (fC Z S).set 5 (.int v))) = wC Z cI cP p0 q0 g0 h0 (up S 0 0 v) := rfl
theorem w_cs1 {Z : Nat → Nat} {cI cP : ClassId} {p0 q0 g0 h0 : Nat} {S : Nat → Nat → Int32} {v : Int32} : (wC Z cI cP p0 q0 g0 h0 S).set 0 (Z 0, .inr (2, (fC Z S).set 6 (.int v))) = wC Z cI cP p0 q0 g0 h0 (up S 0 1 v) := rfl
theorem w_cs2 {Z : Nat → Nat} {cI cP : ClassId} {p0 q0 g0 h0 : Nat} {S : Nat → Nat → Int32} {v : Int32} : (wC Z cI cP p0 q0 g0 h0 S).set 0 (Z 0, .inr (2, (fC Z S).set 7 (.int v))) = wC Z cI cP p0 q0 g0 h0 (up S 0 2 v) := rfl
theorem w_cs3 {Z : Nat → Nat} {cI cP : ClassId} {p0 q0 g0 h0 : Nat} {S : Nat → Nat → Int32} {v : Int32} : (wC Z cI cP p0 q0 g0 h0 S).set 0 (Z 0, .inr (2, (fC Z S).set 8 (.int v))) = wC Z cI cP p0 q0 g0 h0 (up S 0 3 v) := rfl
theorem w_cs4 {Z : Nat → Nat} {cI cP : ClassId} {p0 q0 g0 h0 : Nat} {S : Nat → Nat → Int32} {v : Int32} : (wC Z cI cP p0 q0 g0 h0 S).set 0 (Z 0, .inr (2, (fC Z S).set 9 (.int v))) = wC Z cI cP p0 q0 g0 h0 (up S 0 4 v) := rfl
theorem w_cs5 {Z : Nat → Nat} {cI cP : ClassId} {p0 q0 g0 h0 : Nat} {S : Nat → Nat → Int32} {v : Int32} : (wC Z cI cP p0 q0 g0 h0 S).set 0 (Z 0, .inr (2, (fC Z S).set 10 (.int v))) = wC Z cI cP p0 q0 g0 h0 (up S 0 5 v) := rfl
theorem w_ca1 {Z : Nat → Nat} {cI cP : ClassId} {p0 q0 g0 h0 : Nat} {S : Nat → Nat → Int32} {k : Nat} {v : Int32} : (wC Z cI cP p0 q0 g0 h0 S).set 2 (Z 2, .inl (cI, 7, .inl (upd (S 1) k v))) = wC Z cI cP p0 q0 g0 h0 (up S 1 k v) := rfl
theorem w_ca2 {Z : Nat → Nat} {cI cP : ClassId} {p0 q0 g0 h0 : Nat} {S : Nat → Nat → Int32} {k : Nat} {v : Int32} : (wC Z cI cP p0 q0 g0 h0 S).set 3 (Z 3, .inl (cI, 7, .inl (upd (S 2) k v))) = wC Z cI cP p0 q0 g0 h0 (up S 2 k v) := rfl
theorem w_ca3 {Z : Nat → Nat} {cI cP : ClassId} {p0 q0 g0 h0 : Nat} {S : Nat → Nat → Int32} {k : Nat} {v : Int32} : (wC Z cI cP p0 q0 g0 h0 S).set 4 (Z 4, .inl (cI, 7, .inl (upd (S 3) k v))) = wC Z cI cP p0 q0 g0 h0 (up S 3 k v) := rfl
theorem w_ms0 {Y : Nat → Nat} {cI cZ : ClassId} {p0 q0 g0 h0 : Nat} {S : Nat → Nat → Int32} {v : Int32} : (wM Y cI cZ p0 q0 g0 h0 S).set 0 (Y 0, .inr (3, (fM Y p0 q0 g0 h0 S).set 4 (.int v))) = wM Y cI cZ p0 q0 g0 h0 (up S 0 0 v) := rfl
theorem w_ms1 {Y : Nat → Nat} {cI cZ : ClassId} {p0 q0 g0 h0 : Nat} {S : Nat → Nat → Int32} {v : Int32} : (wM Y cI cZ p0 q0 g0 h0 S).set 0 (Y 0, .inr (3, (fM Y p0 q0 g0 h0 S).set 5 (.int v))) = wM Y cI cZ p0 q0 g0 h0 (up S 0 1 v) := rfl
theorem w_ms2 {Y : Nat → Nat} {cI cZ : ClassId} {p0 q0 g0 h0 : Nat} {S : Nat → Nat → Int32} {v : Int32} : (wM Y cI cZ p0 q0 g0 h0 S).set 0 (Y 0, .inr (3, (fM Y p0 q0 g0 h0 S).set 6 (.int v))) = wM Y cI cZ p0 q0 g0 h0 (up S 0 2 v) := rfl
theorem w_ms3 {Y : Nat → Nat} {cI cZ : ClassId} {p0 q0 g0 h0 : Nat} {S : Nat → Nat → Int32} {v : Int32} : (wM Y cI cZ p0 q0 g0 h0 S).set 0 (Y 0, .inr (3, (fM Y p0 q0 g0 h0 S).set 7 (.int v))) = wM Y cI cZ p0 q0 g0 h0 (up S 0 3 v) := rfl
theorem w_ms4 {Y : Nat → Nat} {cI cZ : ClassId} {p0 q0 g0 h0 : Nat} {S : Nat → Nat → Int32} {v : Int32} : (wM Y cI cZ p0 q0 g0 h0 S).set 0 (Y 0, .inr (3, (fM Y p0 q0 g0 h0 S).set 8 (.int v))) = wM Y cI cZ p0 q0 g0 h0 (up S 0 4 v) := rfl
theorem w_ms5 {Y : Nat → Nat} {cI cZ : ClassId} {p0 q0 g0 h0 : Nat} {S : Nat → Nat → Int32} {v : Int32} : (wM Y cI cZ p0 q0 g0 h0 S).set 0 (Y 0, .inr (3, (fM Y p0 q0 g0 h0 S).set 20 (.int v))) = wM Y cI cZ p0 q0 g0 h0 (up S 0 5 v) := rfl
theorem w_ms6 {Y : Nat → Nat} {cI cZ : ClassId} {p0 q0 g0 h0 : Nat} {S : Nat → Nat → Int32} {v : Int32} : (wM Y cI cZ p0 q0 g0 h0 S).set 0 (Y 0, .inr (3, (fM Y p0 q0 g0 h0 S).set 21 (.int v))) = wM Y cI cZ p0 q0 g0 h0 (up S 0 6 v) := rfl
theorem w_ma1 {Y : Nat → Nat} {cI cZ : ClassId} {p0 q0 g0 h0 : Nat} {S : Nat → Nat → Int32} {k : Nat} {v : Int32} : (wM Y cI cZ p0 q0 g0 h0 S).set 1 (Y 1, .inl (cI, 7, .inl (upd (S 1) k v))) = wM Y cI cZ p0 q0 g0 h0 (up S 1 k v) := rfl
theorem w_ma2 {Y : Nat → Nat} {cI cZ : ClassId} {p0 q0 g0 h0 : Nat} {S : Nat → Nat → Int32} {k : Nat} {v : Int32} : (wM Y cI cZ p0 q0 g0 h0 S).set 2 (Y 2, .inl (cI, 7, .inl (upd (S 2) k v))) = wM Y cI cZ p0 q0 g0 h0 (up S 2 k v) := rfl
theorem w_ma3 {Y : Nat → Nat} {cI cZ : ClassId} {p0 q0 g0 h0 : Nat} {S : Nat → Nat → Int32} {k : Nat} {v : Int32} : (wM Y cI cZ p0 q0 g0 h0 S).set 3 (Y 3, .inl (cI, 7, .inl (upd (S 3) k v))) = wM Y cI cZ p0 q0 g0 h0 (up S 3 k v) := rfl
theorem w_ma4 {Y : Nat → Nat} {cI cZ : ClassId} {p0 q0 g0 h0 : Nat} {S : Nat → Nat → Int32} {k : Nat} {v : Int32} : (wM Y cI cZ p0 q0 g0 h0 S).set 4 (Y 4, .inl (cZ, 8, .inl (upd (S 4) k v))) = wM Y cI cZ p0 q0 g0 h0 (up S 4 k v) := rfl
theorem w_ma5 {Y : Nat → Nat} {cI cZ : ClassId} {p0 q0 g0 h0 : Nat} {S : Nat → Nat → Int32} {k : Nat} {v : Int32} : (wM Y cI cZ p0 q0 g0 h0 S).set 5 (Y 5, .inl (cZ, 8, .inl (upd (S 5) k v))) = wM Y cI cZ p0 q0 g0 h0 (up S 5 k v) := rfl
theorem w_ma6 {Y : Nat → Nat} {cI cZ : ClassId} {p0 q0 g0 h0 : Nat} {S : Nat → Nat → Int32} {k : Nat} {v : Int32} : (wM Y cI cZ p0 q0 g0 h0 S).set 6 (Y 6, .inl (cZ, 8, .inl (upd (S 6) k v))) = wM Y cI cZ p0 q0 g0 h0 (up S 6 k v) := rfl
theorem w_ma7 {Y : Nat → Nat} {cI cZ : ClassId} {p0 q0 g0 h0 : Nat} {S : Nat → Nat → Int32} {k : Nat} {v : Int32} : (wM Y cI cZ p0 q0 g0 h0 S).set 7 (Y 7, .inl (cI, 8, .inl (upd (S 7) k v))) = wM Y cI cZ p0 q0 g0 h0 (up S 7 k v) := rfl
theorem w_ma8 {Y : Nat → Nat} {cI cZ : ClassId} {p0 q0 g0 h0 : Nat} {S : Nat → Nat → Int32} {k : Nat} {v : Int32} : (wM Y cI cZ p0 q0 g0 h0 S).set 8 (Y 8, .inl (cI, 8, .inl (upd (S 8) k v))) = wM Y cI cZ p0 q0 g0 h0 (up S 8 k v) := rfl
theorem w_ma9 {Y : Nat → Nat} {cI cZ : ClassId} {p0 q0 g0 h0 : Nat} {S : Nat → Nat → Int32} {k : Nat} {v : Int32} : (wM Y cI cZ p0 q0 g0 h0 S).set 9 (Y 9, .inl (cZ, 8, .inl (upd (S 9) k v))) = wM Y cI cZ p0 q0 g0 h0 (up S 9 k v) := rfl
theorem w_ma10 {Y : Nat → Nat} {cI cZ : ClassId} {p0 q0 g0 h0 : Nat} {S : Nat → Nat → Int32} {k : Nat} {v : Int32} : (wM Y cI cZ p0 q0 g0 h0 S).set 10 (Y 10, .inl (cI, 8, .inl (upd (S 10) k v))) = wM Y cI cZ p0 q0 g0 h0 (up S 10 k v) := rfl
theorem w_ma11 {Y : Nat → Nat} {cI cZ : ClassId} {p0 q0 g0 h0 : Nat} {S : Nat → Nat → Int32} {k : Nat} {v : Int32} : (wM Y cI cZ p0 q0 g0 h0 S).set 11 (Y 11, .inl (cI, 8, .inl (upd (S 11) k v))) = wM Y cI cZ p0 q0 g0 h0 (up S 11 k v) := rfl
theorem w_ma12 {Y : Nat → Nat} {cI cZ : ClassId} {p0 q0 g0 h0 : Nat} {S : Nat → Nat → Int32} {k : Nat} {v : Int32} : (wM Y cI cZ p0 q0 g0 h0 S).set 12 (Y 12, .inl (cI, 7, .inl (upd (S 12) k v))) = wM Y cI cZ p0 q0 g0 h0 (up S 12 k v) := rfl
theorem w_ma13 {Y : Nat → Nat} {cI cZ : ClassId} {p0 q0 g0 h0 : Nat} {S : Nat → Nat → Int32} {k : Nat} {v : Int32} : (wM Y cI cZ p0 q0 g0 h0 S).set 13 (Y 13, .inl (cI, 7, .inl (upd (S 13) k v))) = wM Y cI cZ p0 q0 g0 h0 (up S 13 k v) := rfl
theorem w_adC {Z : Nat → Nat} {cI cP : ClassId} {p0 q0 g0 h0 : Nat} (S S1 : Nat → Nat → Int32) : (wC Z cI cP p0 q0 g0 h0 S1).map Prod.fst = (wC Z cI cP p0 q0 g0 h0 S).map Prod.fst := rfl
theorem w_adM {Y : Nat → Nat} {cI cZ : ClassId} {p0 q0 g0 h0 : Nat} (S S1 : Nat → Nat → Int32) : (wM Y cI cZ p0 q0 g0 h0 S1).map Prod.fst = (wM Y cI cZ p0 q0 g0 h0 S).map Prod.fst := rfl
theorem mz_bfit (P : Prop) : fits .boolean (.int (mz_b P)) = true := by
  rcases mz_b01 P with h | h <;> rw [h] <;> rfl
/-- a participant starts anew, gets a share, its pair is kept -/
abbrev stA (S : Nat → Nat → Int32) (j : Nat) : Nat → Nat → Int32 := up (up (up (up S 7 j 0) 8 j 0) 9 j 0) 10 j 0
abbrev rcv (S : Nat → Nat → Int32) (j : Nat) (u v : Int32) : Nat → Nat → Int32 := up (up S 5 j u) 6 j v
abbrev kpt (S : Nat → Nat → Int32) (j : Nat) (u v : Int32) : Nat → Nat → Int32 := up (up (up S 10 j 1) 11 j u) 12 j v
