/-! making: worlds that grow. A world of n cells by ids: cell c lies at ad c and holds ε c -/
def zu {α : Type} (f : Nat → α) (c : Nat) (v : α) : Nat → α := fun j => if j = c then v else f j
theorem zu_eq {α : Type} (f : Nat → α) (c : Nat) (v : α) : zu f c v c = v := if_pos rfl
theorem zu_ne {α : Type} (f : Nat → α) {c j : Nat} (v : α) (h : j ≠ c) : zu f c v j = f j := if_neg h
def zv (n : Nat) (ad : Nat → Nat) (ε : Nat → va_E) : va_W := (List.range n).map fun c => (ad c, ε c)
theorem zv_at {n : Nat} {ad : Nat → Nat} {ε : Nat → va_E} {c : Nat} {e : va_E} (hc : c < n) (he : ε c = e) : (zv n ad ε)[c]? = some (ad c, e) := by
  subst he
  simp [zv, hc]
theorem zv_in {n : Nat} {ad : Nat → Nat} {ε : Nat → va_E} {k : Nat} {q : Nat × va_E} (h : (zv n ad ε)[k]? = some q) : k < n ∧ q = (ad k, ε k) := by
  have hk : k < n := by
    have := (List.getElem?_eq_some_iff.mp h).1
    simpa [zv] using this
  refine ⟨hk, ?_⟩
  rw [zv_at hk rfl] at h
  exact (Option.some.inj h).symm
theorem zv_set {n : Nat} {ad : Nat → Nat} {ε : Nat → va_E} {c : Nat} {e : va_E} (hc : c < n) : (zv n ad ε).set c (ad c, e) = zv n ad (zu ε c e) := by
  apply List.ext_getElem?
  intro j
  rw [List.getElem?_set]
  by_cases h : c = j
  · subst h
    simp [zv, zu, hc]
  · rw [if_neg h]
    by_cases hj : j < n
    · rw [zv_at hj rfl, zv_at hj rfl, zu_ne _ _ (fun q => h q.symm)]
    · have h1 : ∀ ε', (zv n ad ε')[j]? = none := fun ε' => by simp [zv, hj]
      rw [h1, h1]
theorem zv_push (n : Nat) (ad : Nat → Nat) (ε : Nat → va_E) (q : Nat) (e : va_E) : zv n ad ε ++ [(q, e)] = zv (n + 1) (zu ad n q) (zu ε n e) := by
  unfold zv
  rw [List.range_succ, List.map_append]
  congr 1
  · apply List.map_congr_left
    intro c hc
    have h : c < n := List.mem_range.mp hc
    rw [zu_ne _ _ (by omega), zu_ne _ _ (by omega)]
  · simp [zu_eq]
/-- the array classes of objects are there -/
def zAO (U : State) : Prop := va_AO "WrongedMeters$House" U ∧ va_AO "WrongedMeters$Street" U ∧ va_AO "WrongedMeters$Town" U
theorem zAO.moved {u U : State} (hvm : u.vm.Alike U.vm) (h : zAO u) : zAO U := ⟨va_AO.moved hvm h.1, va_AO.moved hvm h.2.1, va_AO.moved hvm h.2.2⟩
theorem zvA {A : Nat → Prop} {n : Nat} {ad : Nat → Nat} {ε : Nat → va_E} {a b : Nat} (hD : va_D A (zv n ad ε)) (hA : ∀ q, a ≤ q → A q) (hz : a ≤ b) : ∀ q, va_A (zv n ad ε) b q → A q := by
  rintro q (⟨k, e, h⟩ | h)
  · exact hD.2 k _ h
  · exact hA q (Nat.le_trans hz h)
/-- what holds all along a constructor's walk -/
def zXC (p : Program) (s : State) (m : MethodId) (args : Array Value) (meth : Method) (c : Code) (cc : ByteArray) (nL : Nat) (own : String) (ws : List Cond) (D : va_G) (cy : Nat → ClassId) (A : Nat → Prop) : Prop :=
  CallFix p m c cc nL s args ws own ∧ va_K D vwCl (ztys cy) s ∧ (∀ q, s.heap.size ≤ q → A q) ∧ meth.sig.returnType = none ∧ meth.locks = false ∧ zNst s ∧ zSts A s s.heap ∧ meth.name = "<init>" ∧ zAO s
def Zx (p : Program) (l : Launch) (e : Env) (R : Room) (s : State) (m : MethodId) (args : Array Value) (below : List Frame) (meth : Method) (c : Code) (D : va_G) (A : Nat → Prop) (nL : Nat) (Q : State → Prop) (mc ms : Nat) (pc : Nat) (ls : List (Nat × Value)) (st : List Value) (n : Nat) (ad : Nat → Nat) (ε : Nat → va_E) : Prop :=
  ∀ (H : Heap) (locs : List Loc) (la : Array Slot), va_P D vwCl (zv n ad ε) H → va_D A (zv n ad ε) → va_S A s.heap H locs → lv_has la nL ls → W p l e R s m args below meth c H locs mc ms Q (F0 m pc la st)
def zXR (d mc ms : Nat) : Room := { frames := d, cells := mc, slots := ms, locals := 40 * d }
abbrev zXpost (D : va_G) (n : Nat) (ad : Nat → Nat) (ε : Nat → va_E) (sz : Nat) (post : Nat → (Nat → Nat) → (Nat → va_E) → Prop) : Array Value → State → Outcome → State → Prop :=
  va_Qv (S := Nat × (Nat → Nat) × (Nat → va_E)) (fun u => post u.1 u.2.1 u.2.2) (fun u U => va_P D vwCl (zv u.1 u.2.1 u.2.2) U.heap ∧ va_D (va_A (zv n ad ε) sz) (zv u.1 u.2.1 u.2.2)) (va_A (zv n ad ε) sz)
/-- a constructor's contract: it makes mc cells of ms slots -/
def zXV (l : Launch) (y : MethodName) (ws : List Cond) (d mc ms : Nat) (D : va_G) (cy : Nat → ClassId) (n : Nat) (ad : Nat → Nat) (ε : Nat → va_E) (av : List Value) (post : Nat → (Nat → Nat) → (Nat → va_E) → Prop) : Prop :=
  ∀ sz, Met l y ws (zXR d mc ms) (va_Pc av (fun U => U.heap.size = sz ∧ va_P D vwCl (zv n ad ε) U.heap ∧ va_D (fun _ => True) (zv n ad ε) ∧ va_K D vwCl (ztys cy) U ∧ (zNst U ∧ zAO U) ∧ zSts (va_A (zv n ad ε) sz) U U.heap)) (zXpost D n ad ε sz post) mc ms (va_A (zv n ad ε) sz)
theorem x_start {l : Launch} {y : MethodName} {ws ws8 : List Cond} {d mc ms : Nat} {D : va_G} {cy : Nat → ClassId} {n : Nat} {ad : Nat → Nat} {ε : Nat → va_E} {av : List Value} {cc : ByteArray} {mL : Nat} {own : String} {post : Nat → (Nat → Nat) → (Nat → va_E) → Prop} (hws : ws = .code y cc mL none :: ws8) (hy : plainName y.cls = true) (hown : y.cls = own) (hnm : y.name = "<init>") (hlen : (lg_sl av).length ≤ mL) (body : ∀ (p : Program) (e : Env) (s : State) (m : MethodId) (args : Array Value) (below : List Frame) (meth : Method) (c : Code) (A : Nat → Prop), A = va_A (zv n ad ε) s.heap.size → ∀ (Q : State → Prop), Q = MQ below (zXpost D n ad ε s.heap.size post) args s mc ms A → zXC p s m args meth c cc mL own ws D cy A → Zx p l e (zXR d mc ms) s m args below meth c D A mL Q 0 0 0 (lv_args 0 av) [] n ad ε) : zXV l y ws d mc ms D cy n ad ε av post := by
  intro sz
  refine Met.ofW (cc := cc) (maxL := mL) (ret := none) hy hws ?_
  intro p e s m args below meth c s₁ B hml hv
  obtain ⟨rfl, hsz, hP, hD0, hK, ⟨hN, hO⟩, hZ⟩ := hv
  subst hsz
  have hts := atoms_spec (ws := ws) B.pre
  have ho : s.vm.findClass own = some m.cls := hown ▸ findClass_of_methodNamed B.named
  have hin : meth.name = "<init>" := ((name_of_methodNamed B.named B.method).1).trans hnm
  have hl := lv_entry av (n := mL) hlen
  have := body p e s m av.toArray below meth c _ rfl _ rfl ⟨⟨B.exec, B.bytes, hml, ho, hts⟩, hK, fun q h => Or.inr h, B.returns, B.notSynchronized, hN, hZ, hin, hO⟩ s.heap [] _ hP (hD0.self) va_S.rf hl
  rw [lg_entry_eq]
  exact this
section ZX
variable {p : Program} {l : Launch} {e : Env} {R : Room} {s : State} {m : MethodId} {args : Array Value} {below : List Frame} {meth : Method} {c : Code} {D : va_G} {A : Nat → Prop} {n : Nat} {ad : Nat → Nat} {ε : Nat → va_E} {nL : Nat} {Q : State → Prop} {ls ls' : List (Nat × Value)} {st : List Value} {cc : ByteArray} {own : String} {ws : List Cond} {cy : Nat → ClassId} {mc ms : Nat}
theorem x_iconst (C : zXC p s m args meth c cc nL own ws D cy A) (pc : Nat) {x : Int} {v : Int32} (hd : decode cc pc = .ok (.iconst x, 1)) (hv : Int32.ofInt x = v) (kk : Zx p l e R s m args below meth c D A nL Q mc ms (pc + 1) ls (.int v :: st) n ad ε) : Zx p l e R s m args below meth c D A nL Q mc ms (pc) ls st n ad ε := fun H locs la hP hD hS hl => lv_iconst C.1.1 C.1.2.1 hd hv (kk H locs la hP hD hS hl)
theorem x_bipush (C : zXC p s m args meth c cc nL own ws D cy A) (pc : Nat) {x : Int} {v : Int32} (hd : decode cc pc = .ok (.bipush x, 2)) (hv : (Int8.ofInt x).toInt32 = v) (kk : Zx p l e R s m args below meth c D A nL Q mc ms (pc + 2) ls (.int v :: st) n ad ε) : Zx p l e R s m args below meth c D A nL Q mc ms (pc) ls st n ad ε := fun H locs la hP hD hS hl => lv_bipush C.1.1 C.1.2.1 hd hv (kk H locs la hP hD hS hl)
theorem x_sipush (C : zXC p s m args meth c cc nL own ws D cy A) (pc : Nat) {x : Int} {v : Int32} (hd : decode cc pc = .ok (.sipush x, 3)) (hv : (Int16.ofInt x).toInt32 = v) (kk : Zx p l e R s m args below meth c D A nL Q mc ms (pc + 3) ls (.int v :: st) n ad ε) : Zx p l e R s m args below meth c D A nL Q mc ms (pc) ls st n ad ε := fun H locs la hP hD hS hl => lv_sipush C.1.1 C.1.2.1 hd hv (kk H locs la hP hD hS hl)
theorem x_aload_n (C : zXC p s m args meth c cc nL own ws D cy A) (pc : Nat) {k : Fin 4} {x : Nat} (i pl : Nat) (hd : decode cc pc = .ok (.aload_n k, 1)) (hi : (k : Nat) = i) (hx : ls[pl]? = some (i, .ref x)) (kk : Zx p l e R s m args below meth c D A nL Q mc ms (pc + 1) ls (.ref x :: st) n ad ε) : Zx p l e R s m args below meth c D A nL Q mc ms (pc) ls st n ad ε := fun H locs la hP hD hS hl => lv_aload_n C.1.1 C.1.2.1 hd hi (lv_at hl pl hx) (kk H locs la hP hD hS hl)
theorem x_iload_n (C : zXC p s m args meth c cc nL own ws D cy A) (pc : Nat) {k : Fin 4} {x : Int32} (i pl : Nat) (hd : decode cc pc = .ok (.iload_n k, 1)) (hi : (k : Nat) = i) (hx : ls[pl]? = some (i, .int x)) (kk : Zx p l e R s m args below meth c D A nL Q mc ms (pc + 1) ls (.int x :: st) n ad ε) : Zx p l e R s m args below meth c D A nL Q mc ms (pc) ls st n ad ε := fun H locs la hP hD hS hl => lv_iload_n C.1.1 C.1.2.1 hd hi (lv_at hl pl hx) (kk H locs la hP hD hS hl)
theorem x_istore_n (C : zXC p s m args meth c cc nL own ws D cy A) (pc : Nat) {k : Fin 4} {x : Int32} (i : Nat) (ls' : List (Nat × Value)) (hd : decode cc pc = .ok (.istore_n k, 1)) (hi : (k : Nat) = i) (hn : i < nL) (hf : (i, Value.int x) :: ls.filter (fun q => !(q.1 == i) && !(q.1 + 1 == i && q.2.category == 2)) = ls') (kk : Zx p l e R s m args below meth c D A nL Q mc ms (pc + 1) ls' st n ad ε) : Zx p l e R s m args below meth c D A nL Q mc ms (pc) ls (.int x :: st) n ad ε := fun H locs la hP hD hS hl => lv_istore_n C.1.1 C.1.2.1 hd hi hl hn hf (fun la hl => kk H locs la hP hD hS hl)
theorem x_iinc (C : zXC p s m args meth c cc nL own ws D cy A) (pc : Nat) {x : Int} {v w : Int32} (i pl : Nat) (ls' : List (Nat × Value)) (hd : decode cc pc = .ok (.iinc i x, 3)) (hk : ls[pl]? = some (i, .int w)) (hv : w + Int32.ofInt x = v) (hn : i < nL) (hf : (i, Value.int v) :: ls.filter (fun q => !(q.1 == i) && !(q.1 + 1 == i && q.2.category == 2)) = ls') (kk : Zx p l e R s m args below meth c D A nL Q mc ms (pc + 3) ls' st n ad ε) : Zx p l e R s m args below meth c D A nL Q mc ms (pc) ls st n ad ε := fun H locs la hP hD hS hl => lv_iinc C.1.1 C.1.2.1 hd hl hk hv hn hf (fun la hl => kk H locs la hP hD hS hl)
theorem x_dup (C : zXC p s m args meth c cc nL own ws D cy A) (pc : Nat) {va : Value} (hd : decode cc pc = .ok (.dup, 1)) (hv : va.category = 1) (kk : Zx p l e R s m args below meth c D A nL Q mc ms (pc + 1) ls (va :: va :: st) n ad ε) : Zx p l e R s m args below meth c D A nL Q mc ms (pc) ls (va :: st) n ad ε := fun H locs la hP hD hS hl => lv_dup C.1.1 C.1.2.1 hd hv (kk H locs la hP hD hS hl)
theorem x_icmp_ge (C : zXC p s m args meth c cc nL own ws D cy A) (pc : Nat) {x y : Int32} {off : Int} (tgt : Nat) (hd : decode cc pc = .ok (.if_icmp .ge off, 3)) (ht : (pc : Int) + off = (tgt : Int)) (kt : y ≤ x → Zx p l e R s m args below meth c D A nL Q mc ms (tgt) ls st n ad ε) (kf : ¬ (y ≤ x) → Zx p l e R s m args below meth c D A nL Q mc ms (pc + 3) ls st n ad ε) : Zx p l e R s m args below meth c D A nL Q mc ms (pc) ls (.int y :: .int x :: st) n ad ε := fun H locs la hP hD hS hl => lv_icmp_ge C.1.1 C.1.2.1 hd ht (fun q => kt q H locs la hP hD hS hl) (fun q => kf q H locs la hP hD hS hl)
theorem x_goto (C : zXC p s m args meth c cc nL own ws D cy A) (pc : Nat) {off : Int} (tgt : Nat) (hd : decode cc pc = .ok (.goto off, 3)) (ht : (pc : Int) + off = (tgt : Int)) (kk : Zx p l e R s m args below meth c D A nL Q mc ms (tgt) ls st n ad ε) : Zx p l e R s m args below meth c D A nL Q mc ms (pc) ls st n ad ε := fun H locs la hP hD hS hl => lv_goto C.1.1 C.1.2.1 hd ht (kk H locs la hP hD hS hl)
theorem x_ls {pc : Nat} (ks : List Nat) (ls' : List (Nat × Value)) (h : lv_pick ls ks = ls') (kk : Zx p l e R s m args below meth c D A nL Q mc ms pc ls' st n ad ε) : Zx p l e R s m args below meth c D A nL Q mc ms pc ls st n ad ε := fun H locs la hP hD hS hl => kk H locs la hP hD hS (lv_sub hl ks h)
theorem x_wd {pc mc2 ms2 : Nat} (h1 : mc = mc2) (h2 : ms = ms2) (kk : Zx p l e R s m args below meth c D A nL Q mc2 ms2 pc ls st n ad ε) : Zx p l e R s m args below meth c D A nL Q mc ms pc ls st n ad ε := by
  subst h1; subst h2; exact kk
theorem x_obj (C : zXC p s m args meth c cc nL own ws D cy A) (pc : Nat) {idx d q1 q2 : Nat} {a : Nat} (hd : decode cc pc = .ok (.invokespecial idx, 3)) (h1 : Cond.methodLink own idx objectInit ∈ ws) (h2 : Cond.instanceMethod objectInit ∈ ws) (h3 : Cond.code objectInit ⟨#[0xb1]⟩ 1 none ∈ ws) (hR : R = zXR d q1 q2) (hd0 : 0 < d) (hcat : (st.map fun v => v.category).sum ≤ 8) (kk : Zx p l e R s m args below meth c D A nL Q mc ms (pc + 3) ls st n ad ε) : Zx p l e R s m args below meth c D A nL Q mc ms (pc) ls (.ref a :: st) n ad ε := fun H locs la hP hD hS hl => by
  subst hR
  refine W.objInit C.1.1 C.1.2.1 C.1.2.2.2.1 (C.1.2.2.2.2 _ h1) (C.1.2.2.2.2 _ h2) (C.1.2.2.2.2 _ h3) rfl (hl.1.trans C.1.2.2.1.symm) rfl hd (show 1 ≤ d from hd0) (by show 2 * 0 + _ + 12 ≤ 40 * d; omega) ?_
  exact W.eq (g2 := F0 m (pc + 3) la st) rfl (kk H locs la hP hD hS hl)
theorem x_put (C : zXC p s m args meth c cc nL own ws D cy A) (pc : Nat) {ci idx N : Nat} {Cn : String} {T : u_T} {fs : List Value} {v : Value} {ty : FieldType}  {a : Nat} (id : Nat) (k : Nat) (ha : ad id = a) (hd : decode cc pc = .ok (.putfield idx, 3)) (hid : id < n) (he : ε id = .inr (ci, fs)) (hin : ∀ w ∈ u_ws Cn T N, w ∈ ws) (ty0 : Nat → FieldType) (hty : ∀ k, k < N → parseFieldDescriptor (T k).2.2.1 = some (ty0 k)) (hnm : ∀ a, a < N → ∀ b, b < N → a ≠ b → (T a).2.1 ≠ (T b).2.1) (hc : vwCl[ci]? = some (Cn, T, N)) (hk : k < N) (hw : Cond.fieldLink own idx (T k).1 (T k).2.1 (T k).2.2.1 ∈ ws) (hfin : (T k).2.2.2 = false) (hdd : parseFieldDescriptor (T k).2.2.1 = some ty) (hnn : narrow ty v = v) (hfit : fits ty v = true) (hl9 : k < fs.length) (kk : Zx p l e R s m args below meth c D A nL Q mc ms (pc + 3) ls st n ad (zu ε id (.inr (ci, fs.set k v)))) : Zx p l e R s m args below meth c D A nL Q mc ms (pc) ls (v :: .ref a :: st) n ad ε := fun H locs la hP hD hS hl => by
  subst ha
  exact va_put C.1.1 C.1.2.1 C.1.2.2.2.2 hin ty0 hty hnm C.1.2.2.2.1 C.2.1 hP hD hS id (zv_at hid he) hc k hk (C.1.2.2.2.2 _ hw) (fun _ h9 => h9) hfin hdd hnn hfit hl9 hd (fun H1 locs1 hP1 hD1 hS1 => kk H1 locs1 la (by rw [← zv_set hid]; exact hP1) (by rw [← zv_set hid]; exact hD1) hS1 hl)
theorem x_putF (C : zXC p s m args meth c cc nL own ws D cy A) (pc : Nat) {ci idx N : Nat} {Cn : String} {T : u_T} {fs : List Value} {v : Value} {ty : FieldType}  {a : Nat} (id : Nat) (k : Nat) (ha : ad id = a) (hd : decode cc pc = .ok (.putfield idx, 3)) (hid : id < n) (he : ε id = .inr (ci, fs)) (hin : ∀ w ∈ u_ws Cn T N, w ∈ ws) (ty0 : Nat → FieldType) (hty : ∀ k, k < N → parseFieldDescriptor (T k).2.2.1 = some (ty0 k)) (hnm : ∀ a, a < N → ∀ b, b < N → a ≠ b → (T a).2.1 ≠ (T b).2.1) (hc : vwCl[ci]? = some (Cn, T, N)) (hk : k < N) (hw : Cond.fieldLink own idx (T k).1 (T k).2.1 (T k).2.2.1 ∈ ws) (hfin : (T k).2.2.2 = true) (hdecl : (T k).1 = own) (hdd : parseFieldDescriptor (T k).2.2.1 = some ty) (hnn : narrow ty v = v) (hfit : fits ty v = true) (hl9 : k < fs.length) (kk : Zx p l e R s m args below meth c D A nL Q mc ms (pc + 3) ls st n ad (zu ε id (.inr (ci, fs.set k v)))) : Zx p l e R s m args below meth c D A nL Q mc ms (pc) ls (v :: .ref a :: st) n ad ε := fun H locs la hP hD hS hl => by
  subst ha
  exact va_putF C.1.1 C.1.2.1 C.1.2.2.2.2 hin ty0 hty hnm C.1.2.2.2.1 C.2.1 hP hD hS id (zv_at hid he) hc k hk (C.1.2.2.2.2 _ hw) (fun _ h9 => h9) hfin C.2.2.2.2.2.2.2.1 hdecl hdd hnn hfit hl9 hd (fun H1 locs1 hP1 hD1 hS1 => kk H1 locs1 la (by rw [← zv_set hid]; exact hP1) (by rw [← zv_set hid]; exact hD1) hS1 hl)
theorem x_getr (C : zXC p s m args meth c cc nL own ws D cy A) (pc : Nat) {ci idx N : Nat} {Cn : String} {T : u_T} {fs : List Value} {a9 : Nat}  {a : Nat} (id : Nat) (k : Nat) (ha : ad id = a) (hd : decode cc pc = .ok (.getfield idx, 3)) (hid : id < n) (he : ε id = .inr (ci, fs)) (hin : ∀ w ∈ u_ws Cn T N, w ∈ ws) (hc : vwCl[ci]? = some (Cn, T, N)) (hk : k < N) (hw : Cond.fieldLink own idx (T k).1 (T k).2.1 (T k).2.2.1 ∈ ws) (hv : fs[k]? = some (.ref a9)) (kk : Zx p l e R s m args below meth c D A nL Q mc ms (pc + 3) ls (.ref a9 :: st) n ad ε) : Zx p l e R s m args below meth c D A nL Q mc ms (pc) ls (.ref a :: st) n ad ε := fun H locs la hP hD hS hl => by
  subst ha
  exact va_get C.1.1 C.1.2.1 C.1.2.2.2.2 hin C.1.2.2.2.1 C.2.1 hP id (zv_at hid he) hc k hk (C.1.2.2.2.2 _ hw) (fun _ h9 => h9) hv hd (kk H locs la hP hD hS hl)
theorem x_iast (C : zXC p s m args meth c cc nL own ws D cy A) (pc : Nat) {nn : Nat} {f : Nat → Int32} {i x : Int32} {a : Nat} (id k : Nat) (ha : ad id = a) (hd : decode cc pc = .ok (.iastore, 1)) (hid : id < n) (he : ε id = .inl (cy 0, nn, .inl f)) (hi : i = nI k) (hk : k < nn) (hnn : nn < 2 ^ 31) (kk : Zx p l e R s m args below meth c D A nL Q mc ms (pc + 1) ls st n ad (zu ε id (.inl (cy 0, nn, .inl (upd f k x))))) : Zx p l e R s m args below meth c D A nL Q mc ms (pc) ls (.int x :: .int i :: .ref a :: st) n ad ε := fun H locs la hP hD hS hl => by
  subst ha
  subst hi
  refine va_iast C.1.1 C.1.2.1 C.2.1 hP hD hS id 0 (zv_at hid he) rfl (vp_in_nI hk hnn) hd (fun H1 locs1 hP1 hD1 hS1 => ?_)
  rw [nI_clamp (by omega)] at hP1 hD1
  exact kk H1 locs1 la (by rw [← zv_set hid]; exact hP1) (by rw [← zv_set hid]; exact hD1) hS1 hl
theorem x_astq (C : zXC p s m args meth c cc nL own ws D cy A) (pc : Nat) {nn t0 ci N : Nat} {Cn : String} {T : u_T} {f : Nat → Option Nat} {i : Int32} {vs : List Value} {a v : Nat} (id k idv : Nat) (ha : ad id = a) (hav : ad idv = v) (hd : decode cc pc = .ok (.aastore, 1)) (hid : id < n) (he : ε id = .inl (cy t0, nn, .inr (.inr (.inr (.inr f))))) (ht : (ztys cy)[t0]? = some (cy t0, .object Cn)) (hidv : idv < n) (hev : ε idv = .inr (ci, vs)) (hc : vwCl[ci]? = some (Cn, T, N)) (hi : i = nI k) (hk : k < nn) (hnn : nn < 2 ^ 31) (kk : Zx p l e R s m args below meth c D A nL Q mc ms (pc + 1) ls st n ad (zu ε id (.inl (cy t0, nn, .inr (.inr (.inr (.inr (va_up f k (some v)))))))) ) : Zx p l e R s m args below meth c D A nL Q mc ms (pc) ls (.ref v :: .int i :: .ref a :: st) n ad ε := fun H locs la hP hD hS hl => by
  subst ha; subst hav
  subst hi
  refine va_astq C.1.1 C.1.2.1 C.2.1 hP hD hS id t0 idv ci (zv_at hid he) ht (zv_at hidv hev) hc (vp_in_nI hk hnn) hd (fun H1 locs1 hP1 hD1 hS1 => ?_)
  rw [nI_clamp (by omega)] at hP1 hD1
  exact kk H1 locs1 la (by rw [← zv_set hid]; exact hP1) (by rw [← zv_set hid]; exact hD1) hS1 hl
theorem x_new (C : zXC p s m args meth c cc nL own ws D cy A) (pc : Nat) {Cn : String} {T : u_T} {N ci idx : Nat} {fs : List Value} (ty : Nat → FieldType) (hd : decode cc pc = .ok (.new idx, 3)) (hin : ∀ w ∈ u_ws Cn T N, w ∈ ws) (hty : ∀ k, k < N → parseFieldDescriptor (T k).2.2.1 = some (ty k)) (hcl : Cond.classLink own idx Cn ∈ ws) (hinst : Cond.instantiable Cn N ∈ ws) (hini : Cond.initialized Cn ∈ ws) (hc : vwCl[ci]? = some (Cn, T, N)) (hfs : ∀ j, j < N → defaultValue (ty j) = vp_V fs j) (hcells : mc + 1 ≤ R.cells) (hslots : ms + N ≤ R.slots) (kk : ∀ q : Nat, Zx p l e R s m args below meth c D A nL Q (mc + 1) (ms + N) (pc + 3) ls (.ref q :: st) (n + 1) (zu ad n q) (zu ε n (.inr (ci, fs)))) : Zx p l e R s m args below meth c D A nL Q mc ms (pc) ls st n ad ε := fun H locs la hP hD hS hl =>
  va_new C.1.1 C.1.2.1 C.1.2.2.2.2 hin ty hty C.1.2.2.2.1 (C.1.2.2.2.2 _ hcl) (C.1.2.2.2.2 _ hinst) (C.1.2.2.2.2 _ hini) C.2.1 hP hD hS C.2.2.1 hc hfs hcells hslots hd (fun q H1 hP1 hD1 hS1 => kk q H1 locs la (by rw [← zv_push]; exact hP1) (by rw [← zv_push]; exact hD1) hS1 hl)
theorem x_ints (C : zXC p s m args meth c cc nL own ws D cy A) (pc : Nat) {x : Int32} (N : Nat) (hd : decode cc pc = .ok (.newarray .int, 2)) (harr : Cond.arrayClass .int ∈ ws) (hx : ¬ x < 0) (hN : x.toNatClampNeg = N) (hb : N * 4 ≤ 536870912) (hcells : mc + 1 ≤ R.cells) (hslots : ms + N ≤ R.slots) (kk : ∀ q : Nat, Zx p l e R s m args below meth c D A nL Q (mc + 1) (ms + N) (pc + 2) ls (.ref q :: st) (n + 1) (zu ad n q) (zu ε n (.inl (cy 0, N, .inl (fun _ => 0))))) : Zx p l e R s m args below meth c D A nL Q mc ms (pc) ls (.int x :: st) n ad ε := fun H locs la hP hD hS hl =>
  va_newa (atype := .int) C.1.1 C.1.2.1 (C.1.2.2.2.2 _ harr) (ty := .int) rfl C.2.1 hP hD hS C.2.2.1 (a0 := (N, .inl (fun _ => 0))) (fun _ => rfl) hx hN hb hcells hslots hd (fun q cA H1 hK1 hP1 hD1 hS1 => by
    have e : cA = cy 0 := by
      have h1 : va_RA s cA .int := (hK1.2 4 _ rfl).2
      have h2 : va_RA s (cy 0) .int := (C.2.1.2 0 _ rfl).2
      exact Option.some.inj (h1.symm.trans h2)
    subst e
    exact kk q H1 locs la (by rw [← zv_push]; exact hP1) (by rw [← zv_push]; exact hD1) hS1 hl)
theorem x_objs (C : zXC p s m args meth c cc nL own ws D cy A) (pc : Nat) {x : Int32} {idx t0 : Nat} {Cn : String} (N : Nat) (hd : decode cc pc = .ok (.anewarray idx, 3)) (hcl : Cond.classLink own idx Cn ∈ ws) (hov : va_AO Cn s) (ht : (ztys cy)[t0]? = some (cy t0, .object Cn)) (hx : ¬ x < 0) (hN : x.toNatClampNeg = N) (hb : N * 4 ≤ 536870912) (hcells : mc + 1 ≤ R.cells) (hslots : ms + N ≤ R.slots) (kk : ∀ q : Nat, Zx p l e R s m args below meth c D A nL Q (mc + 1) (ms + N) (pc + 3) ls (.ref q :: st) (n + 1) (zu ad n q) (zu ε n (.inl (cy t0, N, .inr (.inr (.inr (.inr (fun _ => none)))))))) : Zx p l e R s m args below meth c D A nL Q mc ms (pc) ls (.int x :: st) n ad ε := fun H locs la hP hD hS hl =>
  va_newq C.1.1 C.1.2.1 C.1.2.2.2.1 (C.1.2.2.2.2 _ hcl) hov C.2.1 hP hD hS C.2.2.1 hx hN hb hcells hslots hd (fun q cA H1 hK1 hP1 hD1 hS1 => by
    have e : cA = cy t0 := by
      obtain ⟨_, _, _, _, _, h1⟩ := (hK1.2 4 _ rfl).2
      obtain ⟨_, _, _, _, _, h2⟩ := (C.2.1.2 t0 _ ht).2
      exact Option.some.inj (h1.symm.trans h2)
    subst e
    exact kk q H1 locs la (by rw [← zv_push]; exact hP1) (by rw [← zv_push]; exact hD1) hS1 hl)
theorem x_getsN (C : zXC p s m args meth c cc nL own ws D cy A) (pc : Nat) {idx r : Nat} {nm host : String} (hZ : va_Z "WrongedMeters" nm "[I" (.ref r) A s s.heap) (hd : decode cc pc = .ok (.getstatic idx, 3)) (hw : Cond.fieldLinkNest own idx "WrongedMeters" nm "[I" host ∈ zNests) (kk : Zx p l e R s m args below meth c D A nL Q mc ms (pc + 3) ls (.ref r :: st) n ad ε) : Zx p l e R s m args below meth c D A nL Q mc ms (pc) ls st n ad ε := fun H locs la hP hD hS hl =>
  va_getsN C.1.1 C.1.2.1 hZ hS C.1.2.2.2.1 (va_Nw.use rfl (C.2.2.2.2.2.1 _ hw)) (fun _ h9 => h9) hd (kk H locs la hP hD hS hl)
theorem x_tald (C : zXC p s m args meth c cc nL own ws D cy A) (pc : Nat) {r N : Nat} {f : Nat → Int32} {i : Int32} (hT : va_T .int r N (fun j => .int (f j)) A s s.heap) (hd : decode cc pc = .ok (.iaload, 1)) (hin : vp_in i N) (kk : Zx p l e R s m args below meth c D A nL Q mc ms (pc + 1) ls (.int (f i.toNatClampNeg) :: st) n ad ε) : Zx p l e R s m args below meth c D A nL Q mc ms (pc) ls (.int i :: .ref r :: st) n ad ε := fun H locs la hP hD hS hl =>
  va_ti C.1.1 C.1.2.1 hT hS hin rfl hd (kk H locs la hP hD hS hl)
theorem x_vret (C : zXC p s m args meth c cc nL own ws D cy A) (pc : Nat) {post : Nat → (Nat → Nat) → (Nat → va_E) → Prop} {n0 : Nat} {ad0 : Nat → Nat} {ε0 : Nat → va_E} (hA : A = va_A (zv n0 ad0 ε0) s.heap.size) (hQ : Q = MQ below (zXpost D n0 ad0 ε0 s.heap.size post) args s mc ms A) (hd : decode cc pc = .ok (.return_, 1)) (hp : post n ad ε) : Zx p l e R s m args below meth c D A nL Q mc ms pc ls [] n ad ε := fun H locs la hP hD hS hl => by
  subst hA; subst hQ
  exact W.vret C.1.1 C.1.2.1 C.2.2.2.1 (fun u hu hW => ⟨⟨(n, ad, ε), rfl, hp, by rw [hu]; exact hP, hD⟩, hS.F hu⟩) hS.2.2 hd C.2.2.2.2.1
theorem x_init (C : zXC p s m args meth c cc nL own ws D cy A) (pc : Nat) {idx mL d d9 q1 q2 mc9 ms9 : Nat} {y : MethodName} {bytes : ByteArray} {ws9 ws8 : List Cond} {b : Nat} {post : Nat → (Nat → Nat) → (Nat → va_E) → Prop} (hM : zXV l y ws9 d9 mc9 ms9 D cy n ad ε [.ref b] post) (hd : decode cc pc = .ok (.invokespecial idx, 3)) (hws : ws9 = .code y bytes mL none :: ws8) (hG : GoodIn ws ws9) (hw : Cond.methodLink own idx y ∈ ws) (hin : Cond.instanceMethod y ∈ ws) (hini : Cond.initialized y.cls ∈ ws) (hnm : y.name = "<init>") (hy : y.cls ≠ "java/lang/invoke/MethodHandle" ∧ y.cls ≠ "java/lang/invoke/VarHandle" ∧ (parseMethodDescriptor y.desc).map (fun d => d.parameters.length) = some 0) (hR : R = zXR d q1 q2) (hdd : d9 < d) (hmL : mL ≤ 20) (hc : mc + mc9 ≤ q1) (hs : ms + ms9 ≤ q2) (hcat : (st.map fun v => v.category).sum ≤ 8) (kk : ∀ (n1 : Nat) (ad1 : Nat → Nat) (ε1 : Nat → va_E), post n1 ad1 ε1 → Zx p l e R s m args below meth c D A nL Q (mc + mc9) (ms + ms9) (pc + 3) ls st n1 ad1 ε1) : Zx p l e R s m args below meth c D A nL Q mc ms (pc) ls (.ref b :: st) n ad ε := fun H locs la hP hD hS hl => by
  subst hR
  have hI := zvA hD C.2.2.1 hS.1
  exact va_callv (va_runI (As := []) (rest := st) C.1 (hM H.size) (cwI 0 C.1.2.2.2.2 hG hws rfl rfl (C.1.2.2.2.2 _ hini) (C.1.2.2.2.2 _ hw) (C.1.2.2.2.2 _ hin) hnm hy ⟨by show d9 + 1 ≤ d; omega, by show 8 + (mL + 11) + 40 * d9 ≤ 40 * d; omega⟩) ⟨fun a U g mk q => ⟨q.1, q.2.1, q.2.2.1, q.2.2.2.1, va_K.moved (u := U) (U := U.calling g mk a) (Vm.Alike.refl U.vm) q.2.2.2.2.1, ⟨zNst.same (u := U) (U := U.calling g mk a) rfl q.2.2.2.2.2.1.1, zAO.moved (u := U) (U := U.calling g mk a) (Vm.Alike.refl U.vm) q.2.2.2.2.2.1.2⟩, zSts.moved (u := U) (U := U.calling g mk a) (Vm.Alike.refl U.vm) q.2.2.2.2.2.2⟩, fun U hU hW => ⟨rfl, by rw [hU], by rw [hU]; exact hP, hD.weaken (fun _ _ _ _ => trivial), va_K.moved hW.alike C.2.1, ⟨zNst.warm hW C.2.2.2.2.2.1, zAO.moved hW.alike C.2.2.2.2.2.2.2.2⟩, by rw [hU]; exact zSts.moved hW.alike ((C.2.2.2.2.2.2.1.kept hS.2.1).narrow hI)⟩⟩ rfl rfl hl.1 rfl (lv_room hcat) hd ⟨hc, hs⟩) hS (fun q _ h => hI q h) (fun q h => hI q h) (fun u u9 H1 locs1 hu _ hp hB _ _ hS1 => kk u.1 u.2.1 u.2.2 hp H1 locs1 la (by rw [← hu]; exact hB.1) (hB.2.weaken (fun k q _ h => hI q.1 h)) hS1 hl)
theorem x_initN (C : zXC p s m args meth c cc nL own ws D cy A) (pc : Nat) {idx mL d d9 q1 q2 mc9 ms9 : Nat} {y : MethodName} {bytes : ByteArray} {ws9 ws8 : List Cond} {b : Nat} {host : String} {post : Nat → (Nat → Nat) → (Nat → va_E) → Prop} (hM : zXV l y ws9 d9 mc9 ms9 D cy n ad ε [.ref b] post) (hd : decode cc pc = .ok (.invokespecial idx, 3)) (hws : ws9 = .code y bytes mL none :: ws8) (hG : GoodIn ws ws9) (hw : Cond.methodLinkNest own idx y host ∈ zNests) (hin : Cond.instanceMethod y ∈ ws) (hini : Cond.initialized y.cls ∈ ws) (hnm : y.name = "<init>") (hy : y.cls ≠ "java/lang/invoke/MethodHandle" ∧ y.cls ≠ "java/lang/invoke/VarHandle" ∧ (parseMethodDescriptor y.desc).map (fun d => d.parameters.length) = some 0) (hR : R = zXR d q1 q2) (hdd : d9 < d) (hmL : mL ≤ 20) (hc : mc + mc9 ≤ q1) (hs : ms + ms9 ≤ q2) (hcat : (st.map fun v => v.category).sum ≤ 8) (kk : ∀ (n1 : Nat) (ad1 : Nat → Nat) (ε1 : Nat → va_E), post n1 ad1 ε1 → Zx p l e R s m args below meth c D A nL Q (mc + mc9) (ms + ms9) (pc + 3) ls st n1 ad1 ε1) : Zx p l e R s m args below meth c D A nL Q mc ms (pc) ls (.ref b :: st) n ad ε := fun H locs la hP hD hS hl => by
  subst hR
  have hI := zvA hD C.2.2.1 hS.1
  exact va_callv (va_runIN (As := []) (rest := st) C.1 (hM H.size) ⟨va_cnB 0 C.1.2.2.2.2 hG hws rfl rfl (C.2.2.2.2.2.1 _ hw) (C.1.2.2.2.2 _ hini) hy ⟨by show d9 + 1 ≤ d; omega, by show 8 + (mL + 11) + 40 * d9 ≤ 40 * d; omega⟩, hnm, C.1.2.2.2.2 _ hin⟩ ⟨fun a U g mk q => ⟨q.1, q.2.1, q.2.2.1, q.2.2.2.1, va_K.moved (u := U) (U := U.calling g mk a) (Vm.Alike.refl U.vm) q.2.2.2.2.1, ⟨zNst.same (u := U) (U := U.calling g mk a) rfl q.2.2.2.2.2.1.1, zAO.moved (u := U) (U := U.calling g mk a) (Vm.Alike.refl U.vm) q.2.2.2.2.2.1.2⟩, zSts.moved (u := U) (U := U.calling g mk a) (Vm.Alike.refl U.vm) q.2.2.2.2.2.2⟩, fun U hU hW => ⟨rfl, by rw [hU], by rw [hU]; exact hP, hD.weaken (fun _ _ _ _ => trivial), va_K.moved hW.alike C.2.1, ⟨zNst.warm hW C.2.2.2.2.2.1, zAO.moved hW.alike C.2.2.2.2.2.2.2.2⟩, by rw [hU]; exact zSts.moved hW.alike ((C.2.2.2.2.2.2.1.kept hS.2.1).narrow hI)⟩⟩ rfl rfl hl.1 rfl (lv_room hcat) hd ⟨hc, hs⟩) hS (fun q _ h => hI q h) (fun q h => hI q h) (fun u u9 H1 locs1 hu _ hp hB _ _ hS1 => kk u.1 u.2.1 u.2.2 hp H1 locs1 la (by rw [← hu]; exact hB.1) (hB.2.weaken (fun k q _ h => hI q.1 h)) hS1 hl)
end ZX
