/-! what holds at the start -/
set_option maxRecDepth 20000 in
theorem nst_tab : ∀ w ∈ zNests, w ∈ tables_1 := List.forall_mem_cons.mpr ⟨List.mem_of_getElem? (i := 36) (by decide +kernel), List.forall_mem_cons.mpr ⟨List.mem_of_getElem? (i := 51) (by decide +kernel), List.forall_mem_cons.mpr ⟨List.mem_of_getElem? (i := 53) (by decide +kernel), List.forall_mem_cons.mpr ⟨List.mem_of_getElem? (i := 57) (by decide +kernel), List.forall_mem_cons.mpr ⟨List.mem_of_getElem? (i := 59) (by decide +kernel), List.forall_mem_cons.mpr ⟨List.mem_of_getElem? (i := 61) (by decide +kernel), List.forall_mem_cons.mpr ⟨List.mem_of_getElem? (i := 62) (by decide +kernel), List.forall_mem_cons.mpr ⟨List.mem_of_getElem? (i := 69) (by decide +kernel), List.forall_mem_cons.mpr ⟨List.mem_of_getElem? (i := 107) (by decide +kernel), List.forall_mem_cons.mpr ⟨List.mem_of_getElem? (i := 113) (by decide +kernel), List.forall_mem_cons.mpr ⟨List.mem_of_getElem? (i := 118) (by decide +kernel), List.forall_mem_cons.mpr ⟨List.mem_of_getElem? (i := 120) (by decide +kernel), List.forall_mem_cons.mpr ⟨List.mem_of_getElem? (i := 123) (by decide +kernel), List.forall_mem_cons.mpr ⟨List.mem_of_getElem? (i := 170) (by decide +kernel), List.forall_mem_cons.mpr ⟨List.mem_of_getElem? (i := 185) (by decide +kernel), List.forall_mem_cons.mpr ⟨List.mem_of_getElem? (i := 512) (by decide +kernel), List.forall_mem_cons.mpr ⟨List.mem_of_getElem? (i := 514) (by decide +kernel), List.forall_mem_cons.mpr ⟨List.mem_of_getElem? (i := 29) (by decide +kernel), List.forall_mem_cons.mpr ⟨List.mem_of_getElem? (i := 46) (by decide +kernel), List.forall_mem_cons.mpr ⟨List.mem_of_getElem? (i := 180) (by decide +kernel), List.forall_mem_cons.mpr ⟨List.mem_of_getElem? (i := 409) (by decide +kernel), List.forall_mem_cons.mpr ⟨List.mem_of_getElem? (i := 410) (by decide +kernel), List.forall_mem_cons.mpr ⟨List.mem_of_getElem? (i := 441) (by decide +kernel), fun _ h => absurd h List.not_mem_nil⟩⟩⟩⟩⟩⟩⟩⟩⟩⟩⟩⟩⟩⟩⟩⟩⟩⟩⟩⟩⟩⟩⟩
theorem nst_in : ∀ w ∈ zNests, w ∈ lw_tbl := fun w h => List.mem_append_right _ (nst_tab w h)
section ZS0
variable {p : Program} {s : State} {m : MethodId} {meth : Method} {c : Code} {b L : Nat} {xs : Nat → Int32}
theorem st_nst (hts : ∀ w ∈ lw_tbl, w.before #[Value.ref b] s = true) : zNst s := fun w hw => by
  have h1 := List.all_eq_true.mp zNests_all w hw
  have h2 := hts w (nst_in w hw)
  cases w <;> first | (cases h1; done) | exact va_Nw.of rfl h2
theorem st_stat {nm : String} {f : Nat → Int32} (h1 : (Cond.laysStatic "WrongedMeters" nm "[I").before #[Value.ref b] s = true) (h2 : (Cond.initialized "WrongedMeters").before #[Value.ref b] s = true) (h3 : (Cond.arrayOf (.static "WrongedMeters" nm "[I") .int).before #[Value.ref b] s = true) (h4 : (Cond.eq (.length (.static "WrongedMeters" nm "[I")) (.int 4)).before #[Value.ref b] s = true) (g0 : (Cond.eq (.elem (.static "WrongedMeters" nm "[I") (.int 0)) (.int (f 0))).before #[Value.ref b] s = true) (g1 : (Cond.eq (.elem (.static "WrongedMeters" nm "[I") (.int 1)) (.int (f 1))).before #[Value.ref b] s = true) (g2 : (Cond.eq (.elem (.static "WrongedMeters" nm "[I") (.int 2)) (.int (f 2))).before #[Value.ref b] s = true) (g3 : (Cond.eq (.elem (.static "WrongedMeters" nm "[I") (.int 3)) (.int (f 3))).before #[Value.ref b] s = true) : zStat nm f (zLA s) s s.heap := by
  have hA : ∀ a : Nat, a < s.heap.size → ¬ zLA s a := fun a h => Nat.not_le.mpr h
  obtain ⟨r, e1, e2⟩ := va_Tof (N := 4) (f := fun j => .int (f j)) (A := zLA s) (by decide) h3 (va_eqt h4) (fun j hj => by
    rcases (show j = 0 ∨ j = 1 ∨ j = 2 ∨ j = 3 by omega) with rfl | rfl | rfl | rfl
    · exact va_eqt g0
    · exact va_eqt g1
    · exact va_eqt g2
    · exact va_eqt g3) hA
  exact ⟨r, va_Zof h1 h2 e1 hA, e2⟩
theorem st_sts (hts : ∀ w ∈ lw_tbl, w.before #[Value.ref b] s = true) (hgv : (Jvm.Cond.and given_1 narrow_1).before #[Value.ref b] s = true) : zSts (zLA s) s s.heap := by
  have hs := flat_of_before _ hgv
  have hi := hts (.initialized "WrongedMeters") (by decide +kernel)
  exact ⟨st_stat (hts (.laysStatic "WrongedMeters" "SETTING_LEAST" "[I") (by decide +kernel)) hi (hs _ (by decide +kernel)) (hs _ (by decide +kernel)) (hs _ (by decide +kernel)) (hs _ (by decide +kernel)) (hs _ (by decide +kernel)) (hs _ (by decide +kernel)),
    st_stat (hts (.laysStatic "WrongedMeters" "SETTING_MOST" "[I") (by decide +kernel)) hi (hs _ (by decide +kernel)) (hs _ (by decide +kernel)) (hs _ (by decide +kernel)) (hs _ (by decide +kernel)) (hs _ (by decide +kernel)) (hs _ (by decide +kernel)),
    st_stat (hts (.laysStatic "WrongedMeters" "SETTING_FIRST" "[I") (by decide +kernel)) hi (hs _ (by decide +kernel)) (hs _ (by decide +kernel)) (hs _ (by decide +kernel)) (hs _ (by decide +kernel)) (hs _ (by decide +kernel)) (hs _ (by decide +kernel))⟩
theorem st_ao (hts : ∀ w ∈ lw_tbl, w.before #[Value.ref b] s = true) : zAO s := ⟨va_AO.of (hts (.arrayOver (.object "WrongedMeters$House")) (by decide +kernel)), va_AO.of (hts (.arrayOver (.object "WrongedMeters$Street")) (by decide +kernel)), va_AO.of (hts (.arrayOver (.object "WrongedMeters$Town")) (by decide +kernel))⟩
theorem st_obj {C : String} (h : va_AO C s) : ∃ cA : ClassId, ArrOfT s cA (.object C) ∧ va_RA s cA (.object C) := by
  obtain ⟨comp, cA, k, f1, -, f2, f3, f4⟩ := Cond.arrayOver_spec h
  exact ⟨cA, fun n z => ⟨(fun k h => by cases h), k, f2, comp, f3⟩, k, comp, f2, f3, f1, f4⟩
theorem st_int (h : (Cond.arrayClass .int).before #[Value.ref b] s = true) : ∃ cA : ClassId, ArrOfT s cA .int ∧ va_RA s cA .int := by
  obtain ⟨cA, k, comp, f1, f2, f3⟩ := Cond.arrayClass_spec h
  exact ⟨cA, fun n z => ⟨(fun k h => by cases h), k, f2, comp, f3⟩, f1⟩
theorem st_K (hts : ∀ w ∈ lw_tbl, w.before #[Value.ref b] s = true) : ∃ (D : va_G) (cy : Nat → ClassId), va_K D vwCl (ztys cy) s := by
  obtain ⟨c0, s0, k0⟩ := u_known (C := RX0) (T := TX0) (N := 3) (n := 3) hts inX0 (hts (.instantiable RX0 3) (by decide +kernel))
  obtain ⟨c1, s1, k1⟩ := u_known (C := RX1) (T := TX1) (N := 14) (n := 14) hts inX1 (hts (.instantiable RX1 14) (by decide +kernel))
  obtain ⟨c2, s2, k2⟩ := u_known (C := RX2) (T := TX2) (N := 3) (n := 3) hts inX2 (hts (.instantiable RX2 3) (by decide +kernel))
  obtain ⟨c3, s3, k3⟩ := u_known (C := RX3) (T := TX3) (N := 10) (n := 10) hts inX3 (hts (.instantiable RX3 10) (by decide +kernel))
  obtain ⟨c4, s4, k4⟩ := u_known (C := RX4) (T := TX4) (N := 2) (n := 2) hts inX4 (hts (.instantiable RX4 2) (by decide +kernel))
  obtain ⟨c5, s5, k5⟩ := u_known (C := RX5) (T := TX5) (N := 13) (n := 13) hts inX5 (hts (.instantiable RX5 13) (by decide +kernel))
  obtain ⟨c6, s6, k6⟩ := u_known (C := RX6) (T := TX6) (N := 4) (n := 4) hts inX6 (hts (.instantiable RX6 4) (by decide +kernel))
  obtain ⟨a0, i0, j0⟩ := st_int (hts (.arrayClass .int) (by decide +kernel))
  obtain ⟨o1, o2, o3⟩ := st_ao hts
  obtain ⟨a1, i1, j1⟩ := st_obj o1
  obtain ⟨a2, i2, j2⟩ := st_obj o2
  obtain ⟨a3, i3, j3⟩ := st_obj o3
  refine ⟨(fun k => if k = 0 then c0 else if k = 1 then c1 else if k = 2 then c2 else if k = 3 then c3 else if k = 4 then c4 else if k = 5 then c5 else c6, fun k => if k = 0 then s0 else if k = 1 then s1 else if k = 2 then s2 else if k = 3 then s3 else if k = 4 then s4 else if k = 5 then s5 else s6), fun k => if k = 0 then a0 else if k = 1 then a1 else if k = 2 then a2 else a3, fun k q hq => ?_, fun k q hq => ?_⟩
  · match k, hq with
    | 0, hq => cases hq; exact k0
    | 1, hq => cases hq; exact k1
    | 2, hq => cases hq; exact k2
    | 3, hq => cases hq; exact k3
    | 4, hq => cases hq; exact k4
    | 5, hq => cases hq; exact k5
    | 6, hq => cases hq; exact k6
    | k + 7, hq => simp at hq
  · match k, hq with
    | 0, hq => cases hq; exact ⟨i0, j0⟩
    | 1, hq => cases hq; exact ⟨i1, j1⟩
    | 2, hq => cases hq; exact ⟨i2, j2⟩
    | 3, hq => cases hq; exact ⟨i3, j3⟩
    | k + 4, hq => simp [ztys] at hq
end ZS0
