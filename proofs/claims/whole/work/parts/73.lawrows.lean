/-! the law's walk: two worlds side by side -/
abbrev zLA (s : State) : Nat → Prop := fun q => s.heap.size ≤ q
/-- what holds all along the law's walk -/
def zLC (p : Program) (s : State) (m : MethodId) (b : Nat) (meth : Method) (c : Code) (N : Nat) (xs : Nat → Int32) (D : va_G) (cy : Nat → ClassId) (ad1 ad2 : Nat → Nat) : Prop :=
  CallFix p m c cL_law 4 s #[Value.ref b] wsL_law RL ∧ va_K D vwCl (ztys cy) s ∧ zNst s ∧ zSts (zLA s) s s.heap ∧ va_X b N xs s s.heap ∧ b < s.heap.size ∧ (zJ 271 ad1 ∧ ∀ i, i < 271 → s.heap.size ≤ ad1 i) ∧ (zJ 8 ad2 ∧ ∀ i, i < 8 → s.heap.size ≤ ad2 i) ∧ (∀ i j, i < 271 → j < 8 → ad1 i ≠ ad2 j) ∧ meth.sig.returnType = ret ∧ meth.locks = false ∧ N ≤ 1536
/-- the law at pc, with the locals of its loop at i, comes to its end -/
def Zl (p : Program) (l : Launch) (e : Env) (s : State) (m : MethodId) (b : Nat) (below : List Frame) (meth : Method) (c : Code) (D : va_G) (cy : Nat → ClassId) (ad1 ad2 : Nat → Nat) (pc i : Nat) (st : List Value) (t u : zM) : Prop :=
  ∀ (H : Heap) (locs : List Loc) (la : Array Slot), va_P D vwCl (zw (zK6 cy) 271 ad1 t) H → va_P D vwCl (zw (zK7 cy) 8 ad2 u) H → va_S (zLA s) s.heap H locs → lv_has la 4 [(3, .int (nI i)), (2, .ref (ad2 0)), (1, .ref (ad1 270)), (0, .ref b)] → W p l e room_1 s m #[Value.ref b] below meth c H locs 600000 7302250 (lw_Z below #[Value.ref b] s) (F0 m pc la st)
section ZL
variable {p : Program} {l : Launch} {e : Env} {s : State} {m : MethodId} {b : Nat} {below : List Frame} {meth : Method} {c : Code} {N : Nat} {xs : Nat → Int32} {D : va_G} {cy : Nat → ClassId} {ad1 ad2 : Nat → Nat} {i : Nat} {st : List Value} {t u : zM}
theorem zLbA (hb : b < s.heap.size) : ¬ zLA s b := Nat.not_le.mpr hb
theorem l_a1 (C : zLC p s m b meth c N xs D cy ad1 ad2) (pc : Nat) (hd : decode cL_law pc = .ok (.aload_n 1, 1)) (kk : Zl p l e s m b below meth c D cy ad1 ad2 (pc + 1) i (.ref (ad1 270) :: st) t u) : Zl p l e s m b below meth c D cy ad1 ad2 pc i st t u := fun H locs la hP1 hP2 hS hl =>
  lv_aload_n C.1.1 C.1.2.1 hd rfl (lv_at hl 2 rfl) (kk H locs la hP1 hP2 hS hl)
theorem l_a2 (C : zLC p s m b meth c N xs D cy ad1 ad2) (pc : Nat) (hd : decode cL_law pc = .ok (.aload_n 2, 1)) (kk : Zl p l e s m b below meth c D cy ad1 ad2 (pc + 1) i (.ref (ad2 0) :: st) t u) : Zl p l e s m b below meth c D cy ad1 ad2 pc i st t u := fun H locs la hP1 hP2 hS hl =>
  lv_aload_n C.1.1 C.1.2.1 hd rfl (lv_at hl 1 rfl) (kk H locs la hP1 hP2 hS hl)
/-- an argument out of the script -/
theorem l_arg (C : zLC p s m b meth c N xs D cy ad1 ad2) (pc k : Nat) {x : Int} (hd1 : decode cL_law pc = .ok (.aload_n 0, 1)) (hd2 : decode cL_law (pc + 1) = .ok (.iload_n 3, 1)) (hd3 : decode cL_law (pc + 2) = .ok (.iconst x, 1)) (hd4 : decode cL_law (pc + 3) = .ok (.iadd, 1)) (hd5 : decode cL_law (pc + 4) = .ok (.iaload, 1)) (hx : Int32.ofInt x = nI k) (hi : i + k < N) (kk : Zl p l e s m b below meth c D cy ad1 ad2 (pc + 5) i (.int (xs (i + k)) :: st) t u) : Zl p l e s m b below meth c D cy ad1 ad2 pc i st t u := fun H locs la hP1 hP2 hS hl => by
  have hN := C.2.2.2.2.2.2.2.2.2.2.2
  refine lv_aload_n C.1.1 C.1.2.1 hd1 rfl (lv_at hl 3 rfl) ?_
  refine lv_iload_n C.1.1 C.1.2.1 hd2 rfl (lv_at hl 0 rfl) ?_
  refine lv_iconst C.1.1 C.1.2.1 hd3 hx ?_
  refine lv_iadd C.1.1 C.1.2.1 hd4 ?_
  rw [nI_add]
  refine va_sld C.1.1 C.1.2.1 C.2.2.2.2.1 C.2.2.2.2.2.1 (zLbA C.2.2.2.2.2.1) hS (vp_in_nI hi (by omega)) hd5 ?_
  rw [nI_clamp (by omega)]
  exact kk H locs la hP1 hP2 hS hl
theorem l_bit (C : zLC p s m b meth c N xs D cy ad1 ad2) (pc : Nat) {x : Int32} {o1 o2 : Int} (hd1 : decode cL_law pc = .ok (.ifCond .eq o1, 3)) (hd2 : decode cL_law (pc + 3) = .ok (.iconst 1, 1)) (hd3 : decode cL_law (pc + 4) = .ok (.goto o2, 3)) (hd4 : decode cL_law (pc + 7) = .ok (.iconst 0, 1)) (h1 : (pc : Int) + o1 = ((pc + 7 : Nat) : Int)) (h2 : ((pc + 4 : Nat) : Int) + o2 = ((pc + 8 : Nat) : Int)) (kk : Zl p l e s m b below meth c D cy ad1 ad2 (pc + 8) i (.int (if x = 0 then 0 else 1) :: st) t u) : Zl p l e s m b below meth c D cy ad1 ad2 pc i (.int x :: st) t u := fun H locs la hP1 hP2 hS hl => by
  refine lv_if_eq (tgt := pc + 7) C.1.1 C.1.2.1 hd1 h1 (fun q => ?_) (fun q => ?_)
  · rw [if_pos q] at kk
    exact lv_iconst (v := 0) C.1.1 C.1.2.1 hd4 (by decide +kernel) (kk H locs la hP1 hP2 hS hl)
  · rw [if_neg q] at kk
    refine lv_iconst (v := 1) C.1.1 C.1.2.1 hd2 (by decide +kernel) ?_
    exact lv_goto (tgt := pc + 8) C.1.1 C.1.2.1 hd3 h2 (kk H locs la hP1 hP2 hS hl)
/-- alike: on -/
theorem l_eq (C : zLC p s m b meth c N xs D cy ad1 ad2) (pc tgt : Nat) {x y : Int32} {off : Int} (hd : decode cL_law pc = .ok (.if_icmp .eq off, 3)) (ht : (pc : Int) + off = (tgt : Int)) (hxy : x = y) (kk : Zl p l e s m b below meth c D cy ad1 ad2 tgt i st t u) : Zl p l e s m b below meth c D cy ad1 ad2 pc i (.int y :: .int x :: st) t u := fun H locs la hP1 hP2 hS hl =>
  lv_icmp_eq (tgt := tgt) C.1.1 C.1.2.1 hd ht (fun _ => kk H locs la hP1 hP2 hS hl) (fun q => absurd hxy q)
theorem zLf1 (C : zLC p s m b meth c N xs D cy ad1 ad2) {H : Heap} (hz : s.heap.size ≤ H.size) : ∀ q, va_A (zw (zK6 cy) 271 ad1 t) H.size q → zLA s q := fun q hq => by
  rcases zA_iff.mp hq with ⟨k, hk, rfl⟩ | h2
  · exact C.2.2.2.2.2.2.1.2 k hk
  · exact Nat.le_trans hz h2
theorem zLf2 (C : zLC p s m b meth c N xs D cy ad1 ad2) {H : Heap} (hz : s.heap.size ≤ H.size) : ∀ q, va_A (zw (zK7 cy) 8 ad2 u) H.size q → zLA s q := fun q hq => by
  rcases zA_iff.mp hq with ⟨k, hk, rfl⟩ | h2
  · exact C.2.2.2.2.2.2.2.1.2 k hk
  · exact Nat.le_trans hz h2
theorem zLk2 (C : zLC p s m b meth c N xs D cy ad1 ad2) {H H1 : Heap} (hP2 : va_P D vwCl (zw (zK7 cy) 8 ad2 u) H) (hk : ∀ q : Nat, q < H.size → ¬ va_A (zw (zK6 cy) 271 ad1 t) H.size q → H1[q]? = H[q]?) : va_P D vwCl (zw (zK7 cy) 8 ad2 u) H1 := hP2.kept (fun k x hx => by
  have hlt := (hP2 k x hx).lt
  obtain ⟨hk2, rfl⟩ := zw_in hx
  refine hk _ hlt (fun q => ?_)
  rcases zA_iff.mp q with ⟨j, hj, e⟩ | h2
  · exact C.2.2.2.2.2.2.2.2.1 j k hj hk2 e.symm
  · exact absurd hlt (Nat.not_lt.mpr h2))
theorem zLk1 (C : zLC p s m b meth c N xs D cy ad1 ad2) {H H1 : Heap} (hP1 : va_P D vwCl (zw (zK6 cy) 271 ad1 t) H) (hk : ∀ q : Nat, q < H.size → ¬ va_A (zw (zK7 cy) 8 ad2 u) H.size q → H1[q]? = H[q]?) : va_P D vwCl (zw (zK6 cy) 271 ad1 t) H1 := hP1.kept (fun k x hx => by
  have hlt := (hP1 k x hx).lt
  obtain ⟨hk2, rfl⟩ := zw_in hx
  refine hk _ hlt (fun q => ?_)
  rcases zA_iff.mp q with ⟨j, hj, e⟩ | h2
  · exact C.2.2.2.2.2.2.2.2.1 k j hk2 hj e
  · exact absurd hlt (Nat.not_lt.mpr h2))
theorem l_c1 (C : zLC p s m b meth c N xs D cy ad1 ad2) (pc : Nat) {idx mL k9 d9 : Nat} {y : MethodName} {bytes : ByteArray} {ret9 : Option FieldType} {ws9 ws8 : List Cond} {As st0 : List Value} {F : Int32} {S : zM} (hM : zI l y ws9 d9 D cy (zK6 cy) 271 ad1 t (.ref (ad1 270) :: As) (fun r t1 => r = F ∧ t1 = S)) (hd : decode cL_law pc = .ok (.invokevirtual idx, 3)) (hws : ws9 = .code y bytes mL ret9 :: ws8) (hG : GoodIn wsL_law (wsV RL idx RX6 y ws9)) (hy : y.cls = RX6 ∧ y.cls ≠ "java/lang/invoke/MethodHandle" ∧ y.cls ≠ "java/lang/invoke/VarHandle" ∧ (parseMethodDescriptor y.desc).map (fun d => d.parameters.length) = some k9) (hdd : d9 ≤ 11) (hmL : mL ≤ 20) (hn : As.length = k9) (hst : st0 = As.reverse ++ .ref (ad1 270) :: st) (hcat : (st.map fun v => v.category).sum ≤ 8) (kk : Zl p l e s m b below meth c D cy ad1 ad2 (pc + 3) i (.int F :: st) S u) : Zl p l e s m b below meth c D cy ad1 ad2 pc i st0 t u := fun H locs la hP1 hP2 hS hl => by
  have hcw : vwCl[6]? = some (RX6, TX6, 4) := rfl
  have hF := zLf1 (t := t) C hS.1
  exact va_calli (va_runV (As := As) (rest := st) C.1 (hM H.size) (cwV k9 C.1.2.2.2.2 hG hws rfl rfl hy ⟨by show d9 + 1 ≤ 14; omega, by show 8 + (mL + 11) + 40 * d9 ≤ 532; omega⟩) ⟨fun a U g mk q => ⟨q.1, q.2.1, q.2.2.1, va_K.moved (u := U) (U := U.calling g mk a) (Vm.Alike.refl U.vm) q.2.2.2.1, zNst.same (u := U) (U := U.calling g mk a) rfl q.2.2.2.2⟩, va_recv C.2.1 hP1 hcw (zw_at (c := 270) (by decide) rfl), fun U hU hW => ⟨rfl, by rw [hU], by rw [hU]; exact hP1, va_K.moved hW.alike C.2.1, zNst.warm hW C.2.2.1⟩⟩ rfl hn hl.1 hst (lv_room hcat) hd ⟨Nat.le_refl _, Nat.le_refl _⟩) hS (fun q _ h => hF q h) (fun q h => hF q h) (fun r v u9 H1 locs1 hu _ hp hB _ hk1 hS1 => by
    obtain ⟨e1, e2⟩ := hp
    subst e1; subst e2
    exact kk H1 locs1 la (by rw [← hu]; exact hB) (zLk2 C hP2 hk1) hS1 hl)
theorem l_c2 (C : zLC p s m b meth c N xs D cy ad1 ad2) (pc : Nat) {idx mL k9 d9 : Nat} {y : MethodName} {bytes : ByteArray} {ret9 : Option FieldType} {ws9 ws8 : List Cond} {As st0 : List Value} {F : Int32} {S : zM} (hM : zI l y ws9 d9 D cy (zK7 cy) 8 ad2 u (.ref (ad2 0) :: As) (fun r t1 => r = F ∧ t1 = S)) (hd : decode cL_law pc = .ok (.invokevirtual idx, 3)) (hws : ws9 = .code y bytes mL ret9 :: ws8) (hG : GoodIn wsL_law (wsV RL idx RX7 y ws9)) (hy : y.cls = RX7 ∧ y.cls ≠ "java/lang/invoke/MethodHandle" ∧ y.cls ≠ "java/lang/invoke/VarHandle" ∧ (parseMethodDescriptor y.desc).map (fun d => d.parameters.length) = some k9) (hdd : d9 ≤ 11) (hmL : mL ≤ 20) (hn : As.length = k9) (hst : st0 = As.reverse ++ .ref (ad2 0) :: st) (hcat : (st.map fun v => v.category).sum ≤ 8) (kk : Zl p l e s m b below meth c D cy ad1 ad2 (pc + 3) i (.int F :: st) t S) : Zl p l e s m b below meth c D cy ad1 ad2 pc i st0 t u := fun H locs la hP1 hP2 hS hl => by
  have hcw : vwCl[7]? = some (RX7, TX7, 16) := rfl
  have hF := zLf2 (u := u) C hS.1
  exact va_calli (va_runV (As := As) (rest := st) C.1 (hM H.size) (cwV k9 C.1.2.2.2.2 hG hws rfl rfl hy ⟨by show d9 + 1 ≤ 14; omega, by show 8 + (mL + 11) + 40 * d9 ≤ 532; omega⟩) ⟨fun a U g mk q => ⟨q.1, q.2.1, q.2.2.1, va_K.moved (u := U) (U := U.calling g mk a) (Vm.Alike.refl U.vm) q.2.2.2.1, zNst.same (u := U) (U := U.calling g mk a) rfl q.2.2.2.2⟩, va_recv C.2.1 hP2 hcw (zw_at (c := 0) (by decide) rfl), fun U hU hW => ⟨rfl, by rw [hU], by rw [hU]; exact hP2, va_K.moved hW.alike C.2.1, zNst.warm hW C.2.2.1⟩⟩ rfl hn hl.1 hst (lv_room hcat) hd ⟨Nat.le_refl _, Nat.le_refl _⟩) hS (fun q _ h => hF q h) (fun q h => hF q h) (fun r v u9 H1 locs1 hu _ hp hB _ hk1 hS1 => by
    obtain ⟨e1, e2⟩ := hp
    subst e1; subst e2
    exact kk H1 locs1 la (zLk1 C hP1 hk1) (by rw [← hu]; exact hB) hS1 hl)
theorem l_cS (C : zLC p s m b meth c N xs D cy ad1 ad2) (pc : Nat) {idx mL k9 d9 : Nat} {y : MethodName} {bytes : ByteArray} {ret9 : Option FieldType} {ws9 ws8 : List Cond} {As st0 : List Value} {F : Int32} {S : zM} (hM : zIS l y ws9 d9 D cy (zK6 cy) 271 ad1 t (.ref (ad1 270) :: As) (fun r t1 => r = F ∧ t1 = S)) (hd : decode cL_law pc = .ok (.invokevirtual idx, 3)) (hws : ws9 = .code y bytes mL ret9 :: ws8) (hG : GoodIn wsL_law (wsV RL idx RX6 y ws9)) (hy : y.cls = RX6 ∧ y.cls ≠ "java/lang/invoke/MethodHandle" ∧ y.cls ≠ "java/lang/invoke/VarHandle" ∧ (parseMethodDescriptor y.desc).map (fun d => d.parameters.length) = some k9) (hdd : d9 ≤ 11) (hmL : mL ≤ 20) (hn : As.length = k9) (hst : st0 = As.reverse ++ .ref (ad1 270) :: st) (hcat : (st.map fun v => v.category).sum ≤ 8) (kk : Zl p l e s m b below meth c D cy ad1 ad2 (pc + 3) i (.int F :: st) S u) : Zl p l e s m b below meth c D cy ad1 ad2 pc i st0 t u := fun H locs la hP1 hP2 hS hl => by
  have hcw : vwCl[6]? = some (RX6, TX6, 4) := rfl
  have hF := zLf1 (t := t) C hS.1
  exact va_calli (va_runV (As := As) (rest := st) C.1 (hM H.size) (cwV k9 C.1.2.2.2.2 hG hws rfl rfl hy ⟨by show d9 + 1 ≤ 14; omega, by show 8 + (mL + 11) + 40 * d9 ≤ 532; omega⟩) ⟨fun a U g mk q => ⟨q.1, ⟨q.2.1.1, q.2.1.2.1, va_K.moved (u := U) (U := U.calling g mk a) (Vm.Alike.refl U.vm) q.2.1.2.2.1, zNst.same (u := U) (U := U.calling g mk a) rfl q.2.1.2.2.2⟩, zSts.moved (u := U) (U := U.calling g mk a) (Vm.Alike.refl U.vm) q.2.2⟩, va_recv C.2.1 hP1 hcw (zw_at (c := 270) (by decide) rfl), fun U hU hW => ⟨rfl, ⟨by rw [hU], by rw [hU]; exact hP1, va_K.moved hW.alike C.2.1, zNst.warm hW C.2.2.1⟩, by rw [hU]; exact zSts.moved hW.alike ((C.2.2.2.1.kept hS.2.1).narrow hF)⟩⟩ rfl hn hl.1 hst (lv_room hcat) hd ⟨Nat.le_refl _, Nat.le_refl _⟩) hS (fun q _ h => hF q h) (fun q h => hF q h) (fun r v u9 H1 locs1 hu _ hp hB _ hk1 hS1 => by
    obtain ⟨e1, e2⟩ := hp
    subst e1; subst e2
    exact kk H1 locs1 la (by rw [← hu]; exact hB) (zLk2 C hP2 hk1) hS1 hl)
end ZL
