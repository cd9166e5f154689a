/-! the law's start -/
theorem hfs_Top : ∀ j, j < 4 → defaultValue (tyX6 j) = vp_V [.null, .null, .null, .null] j := by decide +kernel
section ZLS
variable {p : Program} {l : Launch} {e : Env} {s : State} {m : MethodId} {b : Nat} {below : List Frame} {meth : Method} {c : Code} {D : va_G} {cy : Nat → ClassId} {n : Nat} {ad : Nat → Nat} {ε : Nat → va_E} {Q : State → Prop} {mc ms : Nat} {st : List Value} {H : Heap} {locs : List Loc} {la : Array Slot} {ls : List (Nat × Value)}
theorem l_init (F : CallFix p m c cL_law 11 s #[Value.ref b] wsL_law RL) (hK : va_K D vwCl (ztys cy) s) (hNs : zNst s) (hZ : zSts (zLA s) s s.heap) (hO : zAO s) (pc : Nat) {idx mL d9 mc9 ms9 : Nat} {y : MethodName} {bytes : ByteArray} {ws9 ws8 : List Cond} {o : Nat} {post : Nat → (Nat → Nat) → (Nat → va_E) → Prop} (hM : zXV l y ws9 d9 mc9 ms9 D cy n ad ε [.ref o] post) (hd : decode cL_law pc = .ok (.invokespecial idx, 3)) (hws : ws9 = .code y bytes mL none :: ws8) (hG : GoodIn wsL_law ws9) (hw : Cond.methodLink RL idx y ∈ wsL_law) (hin : Cond.instanceMethod y ∈ wsL_law) (hini : Cond.initialized y.cls ∈ wsL_law) (hnm : y.name = "<init>") (hy : y.cls ≠ "java/lang/invoke/MethodHandle" ∧ y.cls ≠ "java/lang/invoke/VarHandle" ∧ (parseMethodDescriptor y.desc).map (fun d => d.parameters.length) = some 0) (hdd : d9 ≤ 9) (hmL : mL ≤ 20) (hc : mc + mc9 ≤ 600000) (hs : ms + ms9 ≤ 7302250) (hcat : (st.map fun v => v.category).sum ≤ 8) (hP : va_P D vwCl (zv n ad ε) H) (hD : va_D (zLA s) (zv n ad ε)) (hS : va_S (zLA s) s.heap H locs) (hl : lv_has la 11 ls)
    (kk : ∀ (n1 : Nat) (ad1 : Nat → Nat) (ε1 : Nat → va_E) (H1 : Heap) (locs1 : List Loc), post n1 ad1 ε1 → va_P D vwCl (zv n1 ad1 ε1) H1 → va_D (zLA s) (zv n1 ad1 ε1) → va_S (zLA s) s.heap H1 locs1 → W p l e room_1 s m #[Value.ref b] below meth c H1 locs1 (mc + mc9) (ms + ms9) Q (F0 m (pc + 3) la st)) : W p l e room_1 s m #[Value.ref b] below meth c H locs mc ms Q (F0 m pc la (.ref o :: st)) := by
  have hI := zvA hD (fun q h => h) hS.1
  exact va_callv (va_runI (As := []) (rest := st) F (hM H.size) (cwI 0 F.2.2.2.2 hG hws rfl rfl (F.2.2.2.2 _ hini) (F.2.2.2.2 _ hw) (F.2.2.2.2 _ hin) hnm hy ⟨by show d9 + 1 ≤ 10; omega, by show 8 + (mL + 11) + 40 * d9 ≤ 418; omega⟩) ⟨fun a U g mk q => ⟨q.1, q.2.1, q.2.2.1, q.2.2.2.1, va_K.moved (u := U) (U := U.calling g mk a) (Vm.Alike.refl U.vm) q.2.2.2.2.1, ⟨zNst.same (u := U) (U := U.calling g mk a) rfl q.2.2.2.2.2.1.1, zAO.moved (u := U) (U := U.calling g mk a) (Vm.Alike.refl U.vm) q.2.2.2.2.2.1.2⟩, zSts.moved (u := U) (U := U.calling g mk a) (Vm.Alike.refl U.vm) q.2.2.2.2.2.2⟩, fun U hU hW => ⟨rfl, by rw [hU], by rw [hU]; exact hP, hD.weaken (fun _ _ _ _ => trivial), va_K.moved hW.alike hK, ⟨zNst.warm hW hNs, zAO.moved hW.alike hO⟩, by rw [hU]; exact zSts.moved hW.alike ((hZ.kept hS.2.1).narrow hI)⟩⟩ rfl rfl hl.1 rfl (lv_room hcat) hd ⟨hc, hs⟩) hS (fun q _ h => hI q h) (fun q h => hI q h) (fun u u9 H1 locs1 hu _ hp hB _ _ hS1 => kk u.1 u.2.1 u.2.2 H1 locs1 hp (by rw [← hu]; exact hB.1) (hB.2.weaken (fun k q _ h => hI q.1 h)) hS1)
/-- another array of ints -/
theorem l_ints (F : CallFix p m c cL_law 11 s #[Value.ref b] wsL_law RL) (hK : va_K D vwCl (ztys cy) s) (pc : Nat) (N : Nat) (hd : decode cL_law pc = .ok (.newarray .int, 2)) (hb : N < 1000) (hcells : mc + 1 ≤ 600000) (hslots : ms + N ≤ 7302250) (hP : va_P D vwCl (zv n ad ε) H) (hD : va_D (zLA s) (zv n ad ε)) (hS : va_S (zLA s) s.heap H locs)
    (kk : ∀ (q : Nat) (H1 : Heap), va_P D vwCl (zv (n + 1) (zu ad n q) (zu ε n (.inl (cy 0, N, .inl (fun _ => 0))))) H1 → va_D (zLA s) (zv (n + 1) (zu ad n q) (zu ε n (.inl (cy 0, N, .inl (fun _ => 0))))) → va_S (zLA s) s.heap H1 locs → W p l e room_1 s m #[Value.ref b] below meth c H1 locs (mc + 1) (ms + N) Q (F0 m (pc + 2) la (.ref q :: st))) : W p l e room_1 s m #[Value.ref b] below meth c H locs mc ms Q (F0 m pc la (.int (nI N) :: st)) :=
  va_newa (atype := .int) F.1 F.2.1 (F.2.2.2.2 (.arrayClass .int) (by decide +kernel)) (ty := .int) rfl hK hP hD hS (fun _ h => h) (a0 := (N, .inl (fun _ => 0))) (fun _ => rfl) (nI_pos (by omega)) (nI_clamp (by omega)) (by show N * 4 ≤ 536870912; omega) hcells hslots hd (fun q cA H1 hK1 hP1 hD1 hS1 => by
    have e : cA = cy 0 := by
      have h1 : va_RA s cA .int := (hK1.2 4 _ rfl).2
      have h2 : va_RA s (cy 0) .int := (hK.2 0 _ rfl).2
      exact Option.some.inj (h1.symm.trans h2)
    subst e
    exact kk q H1 (by rw [← zv_push]; exact hP1) (by rw [← zv_push]; exact hD1) hS1)
theorem l_ias (F : CallFix p m c cL_law 11 s #[Value.ref b] wsL_law RL) (hK : va_K D vwCl (ztys cy) s) (pc : Nat) {f : Nat → Int32} {i x : Int32} {a : Nat} (id k nn : Nat) (ha : ad id = a) (hd : decode cL_law pc = .ok (.iastore, 1)) (hid : id < n) (he : ε id = .inl (cy 0, nn, .inl f)) (hi : i = nI k) (hk : k < nn) (hnn : nn < 2 ^ 31) (hP : va_P D vwCl (zv n ad ε) H) (hD : va_D (zLA s) (zv n ad ε)) (hS : va_S (zLA s) s.heap H locs)
    (kk : ∀ (H1 : Heap) (locs1 : List Loc), va_P D vwCl (zv n ad (zu ε id (.inl (cy 0, nn, .inl (upd f k x))))) H1 → va_D (zLA s) (zv n ad (zu ε id (.inl (cy 0, nn, .inl (upd f k x))))) → va_S (zLA s) s.heap H1 locs1 → W p l e room_1 s m #[Value.ref b] below meth c H1 locs1 mc ms Q (F0 m (pc + 1) la st)) : W p l e room_1 s m #[Value.ref b] below meth c H locs mc ms Q (F0 m pc la (.int x :: .int i :: .ref a :: st)) := by
  subst ha
  subst hi
  refine va_iast F.1 F.2.1 hK hP hD hS id 0 (zv_at hid he) rfl (vp_in_nI hk hnn) hd (fun H1 locs1 hP1 hD1 hS1 => ?_)
  rw [nI_clamp (by omega)] at hP1 hD1
  exact kk H1 locs1 (by rw [← zv_set hid]; exact hP1) (by rw [← zv_set hid]; exact hD1) hS1
end ZLS
theorem zTopI.fr {cy : Nat → ClassId} {ad ad1 : Nat → Nat} {ε ε1 : Nat → va_E} (h : zTopI cy ad ε 0 1) (ha : ∀ c, c < 271 → ad1 c = ad c) (he : ∀ c, c < 271 → ε1 c = ε c) : zTopI cy ad1 ε1 0 1 := by
  obtain ⟨g1, g2, g3, g4, g5, g6⟩ := h
  refine ⟨?_, g2.fr2 (fun c q1 q2 => ha c (by omega)) (fun c q1 q2 => he c (by omega)) (he _ (by omega)), g3.fr2 (fun c q1 q2 => ha c (by omega)) (fun c q1 q2 => he c (by omega)) (he _ (by omega)), g4.fr2 (fun c q1 q2 => ha c (by omega)) (fun c q1 q2 => he c (by omega)) (he _ (by omega)), ?_, ?_⟩
  · rw [he 0 (by decide), g1, ha 1 (by decide), ha (1 + 38) (by decide), ha (1 + 76) (by decide), ha (1 + 268) (by decide)]
  · rw [he _ (by decide), g5, ha _ (by decide)]
  · rw [he _ (by decide)]; exact g6
/-! the seven tables -/
def lLen (j : Nat) : Nat := if j < 3 then 64 else if j = 3 then 32 else if j = 4 then 44 else if j = 5 then 60 else 14
def lMk (cy : Nat → ClassId) (j : Nat) (ad : Nat → Nat) (ε : Nat → va_E) : Prop := zTopI cy ad ε 0 1 ∧ ∀ i, i < j → ε (271 + i) = .inl (cy 0, lLen i, .inl (fun _ => 0))
def lG (b : Nat) (ad : Nat → Nat) : Nat → List (Nat × Value)
  | 0 => [(1, .ref (ad 0)), (0, .ref b)]
  | j + 1 => (2 + j, .ref (ad (271 + j))) :: lG b ad j
theorem lG_fr (b : Nat) {ad ad1 : Nat → Nat} : ∀ j, (∀ k, k < 271 + j → ad1 k = ad k) → lG b ad1 j = lG b ad j := by
  intro j
  induction j with
  | zero =>
    intro h
    show [(1, Value.ref (ad1 0)), (0, Value.ref b)] = [(1, Value.ref (ad 0)), (0, Value.ref b)]
    rw [h 0 (by omega)]
  | succ j ih =>
    intro h
    show (2 + j, Value.ref (ad1 (271 + j))) :: lG b ad1 j = (2 + j, Value.ref (ad (271 + j))) :: lG b ad j
    rw [h _ (by omega), ih (fun k hk => h k (by omega))]
theorem lLen_lt (j : Nat) : lLen j < 1000 := by
  unfold lLen
  repeat' split
  all_goals decide
section ZMK
variable {p : Program} {l : Launch} {e : Env} {s : State} {m : MethodId} {b : Nat} {below : List Frame} {meth : Method} {c : Code} {D : va_G} {cy : Nat → ClassId} {n : Nat} {ad : Nat → Nat} {ε : Nat → va_E} {Q : State → Prop} {mc ms : Nat} {st : List Value} {H : Heap} {locs : List Loc} {la : Array Slot}
theorem l_mk (F : CallFix p m c cL_law 11 s #[Value.ref b] wsL_law RL) (hK : va_K D vwCl (ztys cy) s) (pc j : Nat) {x : Int} (hd1 : decode cL_law pc = .ok (.bipush x, 2)) (hv : (Int8.ofInt x).toInt32 = nI (lLen j)) (hd2 : decode cL_law (pc + 2) = .ok (.newarray .int, 2)) (hcells : mc + 1 ≤ 600000) (hslots : ms + lLen j ≤ 7302250) (hM : lMk cy j ad ε) (hP : va_P D vwCl (zv (271 + j) ad ε) H) (hD : va_D (zLA s) (zv (271 + j) ad ε)) (hS : va_S (zLA s) s.heap H locs) (hl : lv_has la 11 (lG b ad j))
    (kk : ∀ (ad1 : Nat → Nat) (ε1 : Nat → va_E) (H1 : Heap), lMk cy (j + 1) ad1 ε1 → va_P D vwCl (zv (271 + (j + 1)) ad1 ε1) H1 → va_D (zLA s) (zv (271 + (j + 1)) ad1 ε1) → va_S (zLA s) s.heap H1 locs → lv_has la 11 (lG b ad1 j) → W p l e room_1 s m #[Value.ref b] below meth c H1 locs (mc + 1) (ms + lLen j) Q (F0 m (pc + 4) la [.ref (ad1 (271 + j))])) : W p l e room_1 s m #[Value.ref b] below meth c H locs mc ms Q (F0 m pc la []) := by
  refine lv_bipush F.1 F.2.1 hd1 hv ?_
  refine l_ints F hK (pc + 2) (lLen j) hd2 (lLen_lt j) hcells hslots hP hD hS (fun q H1 hP hD hS => ?_)
  have a1 : ∀ k, k < 271 + j → zu ad (271 + j) q k = ad k := fun k hk => zu_ne _ _ (by omega)
  have a2 : ∀ k, k < 271 + j → zu ε (271 + j) (.inl (cy 0, lLen j, .inl (fun _ => 0))) k = ε k := fun k hk => zu_ne _ _ (by omega)
  have a3 : zu ad (271 + j) q (271 + j) = q := zu_eq _ _ _
  have := kk (zu ad (271 + j) q) (zu ε (271 + j) (.inl (cy 0, lLen j, .inl (fun _ => 0)))) H1 ⟨hM.1.fr (fun k hk => a1 k (by omega)) (fun k hk => a2 k (by omega)), fun i hi => ?_⟩ hP hD hS (by rw [lG_fr b j a1]; exact hl)
  · rw [a3] at this
    exact this
  · by_cases hij : i = j
    · subst hij
      exact zu_eq _ _ _
    · rw [a2 _ (by omega)]
      exact hM.2 i (by omega)
end ZMK
set_option maxHeartbeats 4000000 in
set_option maxRecDepth 100000 in
/-- from the entry, for every script of at most 260 ints, the law comes to its end with true -/
theorem whole_start {p : Program} {e : Env} {s : State} {m : MethodId} {below : List Frame} {meth : Method} {c : Code} (l : Launch) (hflags : l.flags = flags0) {b L : Nat} {xs : Nat → Int32} (hL : L ≤ 260) (C0 : lw_At p s m meth c b L xs) : W p l e room_1 s m #[Value.ref b] below meth c s.heap [] 0 0 (lw_Z below #[Value.ref b] s) (entryFrame m ([Value.ref b] : List Value).toArray 11) := by
  obtain ⟨hx, hb, hr, hml, hown, hts0, hX, hbl, hlocks, hgv⟩ := id C0
  have hts : ∀ w ∈ wsL_law, w.before #[Value.ref b] s = true := fun w h => hts0 w (wsL_law_in w h)
  have F : CallFix p m c cL_law 11 s #[Value.ref b] wsL_law RL := ⟨hx, hb, hml, hown, hts⟩
  obtain ⟨D, cy, hK⟩ := st_K hts0
  have hNs := st_nst hts0
  have hZ := st_sts hts0 hgv
  have hO := st_ao hts0
  have hA : ∀ q : Nat, s.heap.size ≤ q → zLA s q := fun _ h => h
  have hS : va_S (zLA s) s.heap s.heap [] := va_S.rf
  have hP : va_P D vwCl (zv 0 (fun _ => 0) (fun _ => .inr (0, []))) s.heap := fun k q h => by simp [zv] at h
  have hD : va_D (zLA s) (zv 0 (fun _ => 0) (fun _ => .inr (0, []))) := ⟨fun i j p q h => by simp [zv] at h, fun k q h => by simp [zv] at h⟩
  have hl := lv_entry ([.ref b]) (n := 11) (Nat.le_of_ble_eq_true rfl)
  rw [lg_entry_eq]
  generalize (lg_sl ([.ref b]) ++ List.replicate (11 - (lg_sl ([.ref b])).length) Slot.unset).toArray = ls at hl ⊢
  have hl : lv_has ls 11 [(0, .ref b)] := hl
  -- the class's object
  refine va_new (ci := 6) (fs := [.null, .null, .null, .null]) (C := RX6) (T := TX6) (N := 4) hx hb hts0 inX6 tyX6 tyX6_ok hown (hts0 (.classLink RL 37 RX6) (by decide +kernel)) (hts0 (.instantiable RX6 4) (by decide +kernel)) (hts0 (.initialized RX6) (by decide +kernel)) hK hP hD hS hA rfl hfs_Top (Nat.le_of_ble_eq_true rfl) (Nat.le_of_ble_eq_true rfl) dL_law_0 (fun q0 H hP hD hS => ?_)
  rw [zv_push] at hP hD
  refine lv_dup hx hb dL_law_3 rfl ?_
  generalize hA1 : zu (fun _ => 0) 0 q0 = A1 at hP hD
  have a0 : A1 0 = q0 := by rw [← hA1]; exact zu_eq _ _ _
  generalize hE1 : zu (fun _ => (.inr (0, []) : va_E)) 0 (.inr (6, [.null, .null, .null, .null])) = E1 at hP hD
  have e0 : E1 0 = .inr (6, [.null, .null, .null, .null]) := by rw [← hE1]; exact zu_eq _ _ _
  refine l_init F hK hNs hZ hO 4 (o := q0) (a0 ▸ kX6_init l D cy 1 A1 E1 0 (by decide) e0) dL_law_4 rfl gL_law_X6_init (by decide +kernel) (by decide +kernel) (by decide +kernel) rfl hyX6_init (by decide) (by decide) (Nat.le_of_ble_eq_true rfl) (Nat.le_of_ble_eq_true rfl) (Nat.le_of_ble_eq_true rfl) hP hD hS hl (fun n1 ad1 ε1 H1 locs1 hp hP hD hS => ?_)
  obtain ⟨rfl, z1, t1⟩ := hp
  have q01 : ad1 0 = q0 := (z1.2.1 0 (by decide)).trans a0
  refine lv_astore_n (lv' := lG b ad1 0) hx hb dL_law_7 rfl hl (by decide) (by rw [← q01]; rfl) (fun ls hl => ?_)
  have M0 : lMk cy 0 ad1 ε1 := ⟨t1, fun i hi => absurd hi (by omega)⟩
  have hP0 : va_P D vwCl (zv (271 + 0) ad1 ε1) H1 := hP
  have hD0 : va_D (zLA s) (zv (271 + 0) ad1 ε1) := hD
  refine l_mk F hK 8 0 dL_law_8 (by decide +kernel) dL_law_10 (Nat.le_of_ble_eq_true rfl) (Nat.le_of_ble_eq_true rfl) M0 hP0 hD0 hS hl (fun ad2 ε2 H2 M1 hP2 hD2 hS hl => ?_)
  refine lv_astore_n (lv' := lG b ad2 1) hx hb dL_law_12 rfl hl (by decide) rfl (fun ls hl => ?_)
  refine l_mk F hK 13 1 dL_law_13 (by decide +kernel) dL_law_15 (Nat.le_of_ble_eq_true rfl) (Nat.le_of_ble_eq_true rfl) M1 hP2 hD2 hS hl (fun ad3 ε3 H3 M2 hP3 hD3 hS hl => ?_)
  refine lv_astore_n (lv' := lG b ad3 2) hx hb dL_law_17 rfl hl (by decide) rfl (fun ls hl => ?_)
  refine l_mk F hK 18 2 dL_law_18 (by decide +kernel) dL_law_20 (Nat.le_of_ble_eq_true rfl) (Nat.le_of_ble_eq_true rfl) M2 hP3 hD3 hS hl (fun ad4 ε4 H4 M3 hP4 hD4 hS hl => ?_)
  refine lv_astore (lv' := lG b ad4 3) hx hb dL_law_22 hl (by decide) rfl (fun ls hl => ?_)
  refine l_mk F hK 24 3 dL_law_24 (by decide +kernel) dL_law_26 (Nat.le_of_ble_eq_true rfl) (Nat.le_of_ble_eq_true rfl) M3 hP4 hD4 hS hl (fun ad5 ε5 H5 M4 hP5 hD5 hS hl => ?_)
  refine lv_astore (lv' := lG b ad5 4) hx hb dL_law_28 hl (by decide) rfl (fun ls hl => ?_)
  refine l_mk F hK 30 4 dL_law_30 (by decide +kernel) dL_law_32 (Nat.le_of_ble_eq_true rfl) (Nat.le_of_ble_eq_true rfl) M4 hP5 hD5 hS hl (fun ad6 ε6 H6 M5 hP6 hD6 hS hl => ?_)
  refine lv_astore (lv' := lG b ad6 5) hx hb dL_law_34 hl (by decide) rfl (fun ls hl => ?_)
  refine l_mk F hK 36 5 dL_law_36 (by decide +kernel) dL_law_38 (Nat.le_of_ble_eq_true rfl) (Nat.le_of_ble_eq_true rfl) M5 hP6 hD6 hS hl (fun ad7 ε7 H7 M6 hP7 hD7 hS hl => ?_)
  refine lv_astore (lv' := lG b ad7 6) hx hb dL_law_40 hl (by decide) rfl (fun ls hl => ?_)
  refine l_mk F hK 42 6 dL_law_42 (by decide +kernel) dL_law_44 (Nat.le_of_ble_eq_true rfl) (Nat.le_of_ble_eq_true rfl) M6 hP7 hD7 hS hl (fun ad8 ε8 H8 M7 hP8 hD8 hS hl => ?_)
  refine lv_astore (lv' := lG b ad8 7) hx hb dL_law_46 hl (by decide) rfl (fun ls hl => ?_)
  refine W.widen (k := 600000) (n := 7302250) (Nat.le_of_ble_eq_true rfl) (Nat.le_of_ble_eq_true rfl) ?_
  have x0 : ε8 277 = .inl (cy 0, 14, .inl (fun _ => 0)) := M7.2 6 (by decide)
  refine lv_aload hx hb dL_law_48 (lv_at hl 0 rfl) ?_
  refine lv_bipush (v := nI 10) hx hb dL_law_50 (by decide +kernel) ?_
  refine lv_iconst (v := 3) hx hb dL_law_52 (by decide +kernel) ?_
  refine l_ias F hK 53 (f := (fun _ => (0 : Int32))) 277 10 14 rfl dL_law_53 (by decide) x0 rfl (by decide) (by decide) hP8 hD8 hS (fun HH0 locs0 hPP0 hDD0 hS => ?_)
  have y0 : (zu ε8 277 (.inl (cy 0, 14, .inl (upd (fun _ => (0 : Int32)) 10 3)) : va_E)) 277 = .inl (cy 0, 14, .inl (upd (fun _ => (0 : Int32)) 10 3)) := zu_eq _ _ _
  refine lv_aload hx hb dL_law_54 (lv_at hl 0 rfl) ?_
  refine lv_bipush (v := nI 11) hx hb dL_law_56 (by decide +kernel) ?_
  refine lv_bipush (v := 7) hx hb dL_law_58 (by decide +kernel) ?_
  refine l_ias F hK 60 (f := (upd (fun _ => (0 : Int32)) 10 3)) 277 11 14 rfl dL_law_60 (by decide) y0 rfl (by decide) (by decide) hPP0 hDD0 hS (fun HH1 locs1 hPP1 hDD1 hS => ?_)
  have y1 : (zu (zu ε8 277 (.inl (cy 0, 14, .inl (upd (fun _ => (0 : Int32)) 10 3)) : va_E)) 277 (.inl (cy 0, 14, .inl (upd (upd (fun _ => (0 : Int32)) 10 3) 11 7)) : va_E)) 277 = .inl (cy 0, 14, .inl (upd (upd (fun _ => (0 : Int32)) 10 3) 11 7)) := zu_eq _ _ _
  refine lv_aload hx hb dL_law_61 (lv_at hl 0 rfl) ?_
  refine lv_bipush (v := nI 12) hx hb dL_law_63 (by decide +kernel) ?_
  refine lv_bipush (v := 50) hx hb dL_law_65 (by decide +kernel) ?_
  refine l_ias F hK 67 (f := (upd (upd (fun _ => (0 : Int32)) 10 3) 11 7)) 277 12 14 rfl dL_law_67 (by decide) y1 rfl (by decide) (by decide) hPP1 hDD1 hS (fun HH2 locs2 hPP2 hDD2 hS => ?_)
  have y2 : (zu (zu (zu ε8 277 (.inl (cy 0, 14, .inl (upd (fun _ => (0 : Int32)) 10 3)) : va_E)) 277 (.inl (cy 0, 14, .inl (upd (upd (fun _ => (0 : Int32)) 10 3) 11 7)) : va_E)) 277 (.inl (cy 0, 14, .inl (upd (upd (upd (fun _ => (0 : Int32)) 10 3) 11 7) 12 50)) : va_E)) 277 = .inl (cy 0, 14, .inl (upd (upd (upd (fun _ => (0 : Int32)) 10 3) 11 7) 12 50)) := zu_eq _ _ _
  refine lv_aload hx hb dL_law_68 (lv_at hl 0 rfl) ?_
  refine lv_bipush (v := nI 13) hx hb dL_law_70 (by decide +kernel) ?_
  refine lv_bipush (v := 60) hx hb dL_law_72 (by decide +kernel) ?_
  refine l_ias F hK 74 (f := (upd (upd (upd (fun _ => (0 : Int32)) 10 3) 11 7) 12 50)) 277 13 14 rfl dL_law_74 (by decide) y2 rfl (by decide) (by decide) hPP2 hDD2 hS (fun HH3 locs3 hPP3 hDD3 hS => ?_)
  have y3 : (zu (zu (zu (zu ε8 277 (.inl (cy 0, 14, .inl (upd (fun _ => (0 : Int32)) 10 3)) : va_E)) 277 (.inl (cy 0, 14, .inl (upd (upd (fun _ => (0 : Int32)) 10 3) 11 7)) : va_E)) 277 (.inl (cy 0, 14, .inl (upd (upd (upd (fun _ => (0 : Int32)) 10 3) 11 7) 12 50)) : va_E)) 277 (.inl (cy 0, 14, .inl (upd (upd (upd (upd (fun _ => (0 : Int32)) 10 3) 11 7) 12 50) 13 60)) : va_E)) 277 = .inl (cy 0, 14, .inl (upd (upd (upd (upd (fun _ => (0 : Int32)) 10 3) 11 7) 12 50) 13 60)) := zu_eq _ _ _
  refine lv_iconst (v := nI 0) hx hb dL_law_75 (by decide +kernel) ?_
  refine lv_istore (lv' := (9, .int (nI 0)) :: lG b ad8 7) hx hb dL_law_76 hl (by decide) rfl (fun ls hl => ?_)
  have hz : ∀ k, k ≠ 277 → (zu (zu (zu (zu ε8 277 (.inl (cy 0, 14, .inl (upd (fun _ => (0 : Int32)) 10 3)) : va_E)) 277 (.inl (cy 0, 14, .inl (upd (upd (fun _ => (0 : Int32)) 10 3) 11 7)) : va_E)) 277 (.inl (cy 0, 14, .inl (upd (upd (upd (fun _ => (0 : Int32)) 10 3) 11 7) 12 50)) : va_E)) 277 (.inl (cy 0, 14, .inl (upd (upd (upd (upd (fun _ => (0 : Int32)) 10 3) 11 7) 12 50) 13 60)) : va_E)) k = ε8 k := fun k hk => by
    rw [zu_ne _ _ hk, zu_ne _ _ hk, zu_ne _ _ hk, zu_ne _ _ hk]
  generalize (zu (zu (zu (zu ε8 277 (.inl (cy 0, 14, .inl (upd (fun _ => (0 : Int32)) 10 3)) : va_E)) 277 (.inl (cy 0, 14, .inl (upd (upd (fun _ => (0 : Int32)) 10 3) 11 7)) : va_E)) 277 (.inl (cy 0, 14, .inl (upd (upd (upd (fun _ => (0 : Int32)) 10 3) 11 7) 12 50)) : va_E)) 277 (.inl (cy 0, 14, .inl (upd (upd (upd (upd (fun _ => (0 : Int32)) 10 3) 11 7) 12 50) 13 60)) : va_E)) = ε9 at hz y3 hPP3 hDD3
  have hP9 : va_P D vwCl (zv 278 ad8 ε9) HH3 := hPP3
  have hD9 : va_D (zLA s) (zv 278 ad8 ε9) := hDD3
  have T9 : zTopI cy ad8 ε9 0 1 := M7.1.fr (fun _ _ => rfl) (fun k hk => hz k (by omega))
  have C : zLC p s m b meth c L xs D cy (fun c => ad8 (zpiL c)) := ⟨F, hK, hNs, hZ, hX, hbl, worldL_J (n := 278) (by decide) hD9, hr, hlocks, hL⟩
  refine law_loop C 64 0 zt1 rfl zLR_0 HH3 locs3 ls (worldL (n := 278) (by decide) hP9 T9 (fun k h1 h2 => ?_)) hS hl
  rcases (show k = 271 ∨ k = 272 ∨ k = 273 ∨ k = 274 ∨ k = 275 ∨ k = 276 ∨ k = 277 by omega) with rfl | rfl | rfl | rfl | rfl | rfl | rfl
  · exact (hz 271 (by decide)).trans ((M7.2 0 (by decide)).trans rfl)
  · exact (hz 272 (by decide)).trans ((M7.2 1 (by decide)).trans rfl)
  · exact (hz 273 (by decide)).trans ((M7.2 2 (by decide)).trans rfl)
  · exact (hz 274 (by decide)).trans ((M7.2 3 (by decide)).trans rfl)
  · exact (hz 275 (by decide)).trans ((M7.2 4 (by decide)).trans rfl)
  · exact (hz 276 (by decide)).trans ((M7.2 5 (by decide)).trans rfl)
  · exact y3.trans rfl
