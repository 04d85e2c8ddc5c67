set_option maxRecDepth 100000 in
set_option maxHeartbeats 4000000 in
/-- cell(script, k) -/
theorem c_L_cell (l : Launch) (b n0 : Nat) (xs : Nat → Int32) (k0 : Nat) (hk0 : k0 < 2 ^ 31) (hn0 : n0 < 2 ^ 31) : Ro l y_L_cell ws_L_cell 0 0 [.ref b, .int (nI k0)] (fun U => va_X b n0 xs U U.heap ∧ b < U.heap.size) (if k0 < n0 then xs k0 else 0) := by
  refine Met.ofW (cc := b_L_cell) (maxL := 2) (ret := (some .int)) (by decide) rfl ?_
  intro p e s m args below meth c s₁ B hml hv
  obtain ⟨rfl, hX, hbl⟩ := hv
  have hx := B.exec
  have hb := B.bytes
  have hr := B.returns
  have hts : ∀ w ∈ AL, w.before ([.ref b, .int (nI k0)] : List Value).toArray s = true := fun w h => atoms_spec (ws := ws_L_cell) B.pre w (List.mem_cons_of_mem _ h)
  have hown : s.vm.findClass "DealtSecretLaw" = some m.cls := findClass_of_methodNamed B.named
  have hlk := B.notSynchronized
  have hl := lv_entry ([.ref b, .int (nI k0)]) (n := 2) (Nat.le_of_ble_eq_true rfl)
  rw [lg_entry_eq]
  generalize (lg_sl ([.ref b, .int (nI k0)]) ++ List.replicate (2 - (lg_sl ([.ref b, .int (nI k0)])).length) Slot.unset).toArray = ls at hl ⊢
  have hl : lv_has ls 2 [(0, .ref b), (1, .int (nI k0))] := hl
  refine lv_iload_n hx hb d_L_cell_0 rfl (lv_at hl 1 rfl) ?_
  refine lv_aload_n hx hb d_L_cell_1 rfl (lv_at hl 0 rfl) ?_
  refine va_slen (A := fun _ => False) hx hb hX hbl (fun h => h) va_S.rf d_L_cell_2 ?_
  refine x_i (y := nI n0) rfl ?_
  refine lv_icmp_ge (tgt := 12) hx hb d_L_cell_3 (by decide) (fun c3 => ?_) (fun c3 => ?_)
  · have hk : ¬ k0 < n0 := fun q => absurd c3 (nI_ge q hn0)
    refine lv_iconst (v := 0) hx hb d_L_cell_12 (by decide) ?_
    exact ro_i hx hb hr hlk d_L_cell_13 ((if_neg hk).symm)
  · have hk : k0 < n0 := Nat.not_le.mp (fun q => c3 (nI_le q hk0))
    refine lv_aload_n hx hb d_L_cell_6 rfl (lv_at hl 0 rfl) ?_
    refine lv_iload_n hx hb d_L_cell_7 rfl (lv_at hl 1 rfl) ?_
    refine va_sld (A := fun _ => False) hx hb hX hbl (fun h => h) va_S.rf (vp_in_nI hk hn0) d_L_cell_8 ?_
    refine x_i (y := xs k0) (by rw [nI_clamp hk0]) ?_
    refine lv_goto (tgt := 13) hx hb d_L_cell_9 (by decide) ?_
    exact ro_i hx hb hr hlk d_L_cell_13 ((if_pos hk).symm)
