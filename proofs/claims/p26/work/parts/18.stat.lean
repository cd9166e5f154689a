/-! the class's three static tables, which nobody writes -/
def zStat (nm : String) (f : Nat → Int32) (A : Nat → Prop) (U : State) (H : Heap) : Prop := ∃ r : Nat, va_Z "WrongedMeters" nm "[I" (.ref r) A U H ∧ va_T .int r 4 (fun j => .int (f j)) A U H
theorem zStat.moved {nm : String} {f : Nat → Int32} {A : Nat → Prop} {u U : State} {H : Heap} (hvm : u.vm.Alike U.vm) (h : zStat nm f A u H) : zStat nm f A U H := by
  obtain ⟨r, h1, h2⟩ := h
  exact ⟨r, va_Z.moved hvm h1, va_T.moved hvm h2⟩
theorem zStat.kept {nm : String} {f : Nat → Int32} {A : Nat → Prop} {U : State} {H H1 : Heap} (h : zStat nm f A U H) (hq : ∀ a : Nat, a < H.size → ¬ A a → H1[a]? = H[a]?) : zStat nm f A U H1 := by
  obtain ⟨r, h1, h2⟩ := h
  exact ⟨r, h1.kept hq, h2.kept hq⟩
theorem zStat.narrow {nm : String} {f : Nat → Int32} {A B : Nat → Prop} {U : State} {H : Heap} (h : zStat nm f A U H) (hAB : ∀ q, B q → A q) : zStat nm f B U H := by
  obtain ⟨r, h1, h2⟩ := h
  exact ⟨r, h1.narrow hAB, h2.narrow hAB⟩
def zLeast (j : Nat) : Int32 := ([0, 1, 1, 5] : List Int32).getD j 0
def zMost (j : Nat) : Int32 := ([12, 50, 99, 400] : List Int32).getD j 0
def zFirst (j : Nat) : Int32 := ([3, 7, 50, 60] : List Int32).getD j 0
def zSts (A : Nat → Prop) (U : State) (H : Heap) : Prop := zStat "SETTING_LEAST" zLeast A U H ∧ zStat "SETTING_MOST" zMost A U H ∧ zStat "SETTING_FIRST" zFirst A U H
theorem zSts.moved {A : Nat → Prop} {u U : State} {H : Heap} (hvm : u.vm.Alike U.vm) (h : zSts A u H) : zSts A U H := ⟨h.1.moved hvm, h.2.1.moved hvm, h.2.2.moved hvm⟩
theorem zSts.kept {A : Nat → Prop} {U : State} {H H1 : Heap} (h : zSts A U H) (hq : ∀ a : Nat, a < H.size → ¬ A a → H1[a]? = H[a]?) : zSts A U H1 := ⟨h.1.kept hq, h.2.1.kept hq, h.2.2.kept hq⟩
theorem zSts.narrow {A B : Nat → Prop} {U : State} {H : Heap} (h : zSts A U H) (hAB : ∀ q, B q → A q) : zSts B U H := ⟨h.1.narrow hAB, h.2.1.narrow hAB, h.2.2.narrow hAB⟩
/-- a contract of a method that reads the tables -/
def zIS (l : Launch) (y : MethodName) (ws : List Cond) (d : Nat) (D : va_G) (cy : Nat → ClassId) (K : zK) (n : Nat) (ad : Nat → Nat) (t : zM) (av : List Value) (post : Int32 → zM → Prop) : Prop :=
  ∀ sz, Met l y ws (zR d) (va_Pc av (fun U => (U.heap.size = sz ∧ va_P D vwCl (zw K n ad t) U.heap ∧ va_K D vwCl (ztys cy) U ∧ zNst U) ∧ zSts (va_A (zw K n ad t) sz) U U.heap)) (zEi D K n ad t sz post) 0 0 (va_A (zw K n ad t) sz)
section ZSS
variable {l : Launch} {y : MethodName} {ws ws8 : List Cond} {d : Nat} {D : va_G} {cy : Nat → ClassId} {K : zK} {n : Nat} {ad : Nat → Nat} {t : zM} {av : List Value} {cc : ByteArray} {mL : Nat} {ret : Option FieldType} {own : String}
theorem z_startIS {post : Int32 → zM → Prop} (hws : ws = .code y cc mL ret :: ws8) (hy : plainName y.cls = true) (hown : y.cls = own) (hJ : zJ n ad) (hlen : (lg_sl av).length ≤ mL) (body : ∀ (p : Program) (e : Env) (s : State) (m : MethodId) (args : Array Value) (below : List Frame) (meth : Method) (c : Code) (A : Nat → Prop), A = va_A (zw K n ad t) s.heap.size → ∀ (Q : State → Prop), Q = MQ below (zEi D K n ad t s.heap.size post) args s 0 0 A → (zC p s m args meth c cc mL ret own ws D cy n ad A ∧ zSts A s s.heap) → Zw p l e (zR d) s m args below meth c D A K n ad mL Q 0 (lv_args 0 av) [] t) : zIS l y ws d D cy K n ad t av post := by
  intro sz
  refine Met.ofW (cc := cc) (maxL := mL) (ret := ret) hy hws ?_
  intro p e s m args below meth c s₁ B hml hv
  obtain ⟨rfl, ⟨hsz, hP, hK, hN⟩, hZ⟩ := hv
  subst hsz
  have hts := atoms_spec (ws := ws) B.pre
  have ho : s.vm.findClass own = some m.cls := hown ▸ findClass_of_methodNamed B.named
  have hl := lv_entry av (n := mL) hlen
  have := body p e s m av.toArray below meth c _ rfl _ rfl ⟨⟨⟨B.exec, B.bytes, hml, ho, hts⟩, hK, zG.self hJ, fun q h => zA_iff.mpr (Or.inr h), B.returns, B.notSynchronized, hN⟩, hZ⟩ s.heap [] _ hP va_S.rf hl
  rw [lg_entry_eq]
  exact this
end ZSS
section ZST
variable {p : Program} {l : Launch} {e : Env} {R : Room} {s : State} {m : MethodId} {args : Array Value} {below : List Frame} {meth : Method} {c : Code} {D : va_G} {A : Nat → Prop} {K : zK} {n : Nat} {ad : Nat → Nat} {nL : Nat} {Q : State → Prop} {ls ls' : List (Nat × Value)} {st : List Value} {t : zM} {cc : ByteArray} {ret : Option FieldType} {own : String} {ws : List Cond} {cy : Nat → ClassId}
theorem z_getsN (C : zC p s m args meth c cc nL ret own ws D cy n ad A) (pc : Nat) {idx r : Nat} {nm host : String} (hZ : va_Z "WrongedMeters" nm "[I" (.ref r) A s s.heap) (hd : decode cc pc = .ok (.getstatic idx, 3)) (hw : Cond.fieldLinkNest own idx "WrongedMeters" nm "[I" host ∈ zNests) (kk : Zw p l e R s m args below meth c D A K n ad nL Q (pc + 3) ls (.ref r :: st) t) : Zw p l e R s m args below meth c D A K n ad nL Q (pc) ls st t := fun H locs la hP hS hl =>
  va_getsN C.1.1 C.1.2.1 hZ hS C.1.2.2.2.1 (va_Nw.use rfl (C.2.2.2.2.2.2 _ hw)) (fun _ h9 => h9) hd (kk H locs la hP hS hl)
theorem z_tald (C : zC p s m args meth c cc nL ret own ws D cy n ad A) (pc : Nat) {r N : Nat} {f : Nat → Int32} {i : Int32} (hT : va_T .int r N (fun j => .int (f j)) A s s.heap) (hd : decode cc pc = .ok (.iaload, 1)) (hin : vp_in i N) (kk : Zw p l e R s m args below meth c D A K n ad nL Q (pc + 1) ls (.int (f i.toNatClampNeg) :: st) t) : Zw p l e R s m args below meth c D A K n ad nL Q (pc) ls (.int i :: .ref r :: st) t := fun H locs la hP hS hl =>
  va_ti C.1.1 C.1.2.1 hT hS hin rfl hd (kk H locs la hP hS hl)
theorem z_virtISe (C : zC p s m args meth c cc nL ret own ws D cy n ad A) (hZ : zSts A s s.heap) (pc : Nat) {idx mL k9 d d9 : Nat} {y : MethodName} {bytes : ByteArray} {ret9 : Option FieldType} {ws9 ws8 : List Cond} {As st0 : List Value} {b id ci N : Nat} {Cn : String} {T : u_T} {fs : (Nat → Int32) → List Value} {F : Int32} {S : zM} (hM : zIS l y ws9 d9 D cy K n ad t (.ref b :: As) (fun r t1 => r = F ∧ t1 = S)) (hd : decode cc pc = .ok (.invokevirtual idx, 3)) (hws : ws9 = .code y bytes mL ret9 :: ws8) (hG : GoodIn ws (wsV own idx Cn y ws9)) (hy : y.cls = Cn ∧ y.cls ≠ "java/lang/invoke/MethodHandle" ∧ y.cls ≠ "java/lang/invoke/VarHandle" ∧ (parseMethodDescriptor y.desc).map (fun d => d.parameters.length) = some k9) (hR : R = zR d) (hdd : d9 < d) (hmL : mL ≤ 20) (hid : id < n) (hb9 : b = ad id) (he : ∀ f, K ad id f = .inr (ci, fs f)) (hc : vwCl[ci]? = some (Cn, T, N)) (hn : As.length = k9) (hst : st0 = As.reverse ++ .ref b :: st) (hcat : (st.map fun v => v.category).sum ≤ 8) (kk : Zw p l e R s m args below meth c D A K n ad nL Q (pc + 3) ls (.int F :: st) S) : Zw p l e R s m args below meth c D A K n ad nL Q (pc) ls st0 t := fun H locs la hP hS hl => by
  subst hR; subst hb9
  exact va_calli (va_runV (As := As) (rest := st) C.1 (hM H.size) (cwV k9 C.1.2.2.2.2 hG hws rfl rfl hy ⟨by show d9 + 1 ≤ d; omega, by show 8 + (mL + 11) + 40 * d9 ≤ 40 * d; omega⟩) ⟨fun a U g mk q => ⟨q.1, ⟨q.2.1.1, q.2.1.2.1, va_K.moved (u := U) (U := U.calling g mk a) (Vm.Alike.refl U.vm) q.2.1.2.2.1, zNst.same (u := U) (U := U.calling g mk a) rfl q.2.1.2.2.2⟩, zSts.moved (u := U) (U := U.calling g mk a) (Vm.Alike.refl U.vm) q.2.2⟩, va_recv C.2.1 hP hc (zw_at hid (he _)), fun U hU hW => ⟨rfl, ⟨by rw [hU], by rw [hU]; exact hP, va_K.moved hW.alike C.2.1, zNst.warm hW C.2.2.2.2.2.2⟩, by rw [hU]; exact zSts.moved hW.alike ((hZ.kept hS.2.1).narrow (fun q h => C.2.2.1.free C.2.2.2.1 hS.1 q h))⟩⟩ rfl hn hl.1 hst (lv_room hcat) hd ⟨Nat.zero_le _, Nat.zero_le _⟩) hS (fun q _ h => C.2.2.1.free C.2.2.2.1 hS.1 q h) (fun q h => C.2.2.1.free C.2.2.2.1 hS.1 q h) (fun r u u9 H1 locs1 hu _ hp hB _ _ hS1 => by
    obtain ⟨e1, e2⟩ := hp
    subst e1; subst e2
    exact kk H1 locs1 la (by rw [← hu]; exact hB) hS1 hl)
end ZST
