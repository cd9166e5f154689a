/-! the script's cell: some int, and nothing changed -/
theorem hyL_cell : yL_cell.cls ≠ "java/lang/invoke/MethodHandle" ∧ yL_cell.cls ≠ "java/lang/invoke/VarHandle" ∧ (parseMethodDescriptor yL_cell.desc).map (fun d => d.parameters.length) = some 2 := by decide +kernel
def zCell (l : Launch) (b N : Nat) (xs : Nat → Int32) (k : Nat) : Prop := ∀ sz, Met l yL_cell wsL_cell (zR 0) (va_Pc [.ref b, .int (nI k)] (fun U => U.heap.size = sz ∧ b < sz ∧ va_X b N xs U U.heap)) (va_Qi (S := Unit) (fun _ _ => True) (fun _ _ => True) (fun q => sz ≤ q)) 0 0 (fun q => sz ≤ q)
set_option maxHeartbeats 1000000 in
theorem kL_cell (l : Launch) (b N : Nat) (xs : Nat → Int32) (k : Nat) (hk : k < 2 ^ 31) (hN : N < 2 ^ 31) : zCell l b N xs k := by
  intro sz
  refine Met.ofW (cc := cL_cell) (maxL := 2) (ret := some .int) (by decide +kernel) rfl ?_
  intro p e s m args below meth c s₁ B hml hv
  obtain ⟨rfl, hsz, hbl, hX⟩ := hv
  subst hsz
  have hts := atoms_spec (ws := wsL_cell) B.pre
  have ho : s.vm.findClass RL = some m.cls := findClass_of_methodNamed B.named
  have hl := lv_entry [.ref b, .int (nI k)] (n := 2) (Nat.le_of_ble_eq_true rfl)
  have hx := B.exec
  have hb := B.bytes
  have hr := B.returns
  have hlk := B.notSynchronized
  have hbA : ¬ s.heap.size ≤ b := Nat.not_le.mpr hbl
  have hS : va_S (fun q => s.heap.size ≤ q) s.heap s.heap [] := va_S.rf
  rw [lg_entry_eq]
  generalize (lg_sl ([.ref b, .int (nI k)]) ++ List.replicate (2 - (lg_sl ([.ref b, .int (nI k)])).length) Slot.unset).toArray = la at hl ⊢
  have hl : lv_has la 2 [(0, .ref b), (1, .int (nI k))] := hl
  refine lv_iload_n hx hb dL_cell_0 rfl (lv_at hl 1 rfl) ?_
  refine lv_aload_n hx hb dL_cell_1 rfl (lv_at hl 0 rfl) ?_
  refine va_slen hx hb hX hbl hbA hS dL_cell_2 ?_
  refine lv_icmp_ge (tgt := 12) hx hb dL_cell_3 (by decide) (fun q => ?_) (fun q => ?_)
  · refine lv_ldc hx hb ho (hts (.constant RL 7 40503) (by decide +kernel)) dL_cell_12 ?_
    refine lv_iload_n hx hb dL_cell_14 rfl (lv_at hl 1 rfl) ?_
    refine lv_iconst (v := 3) hx hb dL_cell_15 (by decide +kernel) ?_
    refine lv_iadd hx hb dL_cell_16 ?_
    refine lv_imul hx hb dL_cell_17 ?_
    exact W.iret hx hb hr (fun u hu hW => ⟨⟨_, (), rfl, trivial, trivial⟩, hS.F hu⟩) hS.2.2 dL_cell_18 hlk
  · have hkN : k < N := by
      have q : ¬ nI N ≤ nI k := q
      apply Nat.not_le.mp
      intro h
      exact q (Int32.le_iff_toInt_le.mpr (by rw [nI_toInt hN, nI_toInt hk]; omega))
    refine lv_aload_n hx hb dL_cell_6 rfl (lv_at hl 0 rfl) ?_
    refine lv_iload_n hx hb dL_cell_7 rfl (lv_at hl 1 rfl) ?_
    refine va_sld hx hb hX hbl hbA hS (vp_in_nI hkN hN) dL_cell_8 ?_
    refine lv_goto (tgt := 18) hx hb dL_cell_9 (by decide) ?_
    exact W.iret hx hb hr (fun u hu hW => ⟨⟨_, (), rfl, trivial, trivial⟩, hS.F hu⟩) hS.2.2 dL_cell_18 hlk
