/-! the law's start -/
theorem hfs_Top : ∀ j, j < 4 → defaultValue (tyX6 j) = vp_V [.null, .null, .null, .null] j := by decide +kernel
theorem hfs_Mod : ∀ j, j < 16 → defaultValue (tyX7 j) = vp_V [.null, .null, .null, .null, .int 0, .int 0, .null, .int 0, .null, .int 0, .int 0, .int 0, .int 0, .int 0, .int 0, .null] j := by decide +kernel
section ZLS
variable {p : Program} {l : Launch} {e : Env} {s : State} {m : MethodId} {b : Nat} {below : List Frame} {meth : Method} {c : Code} {D : va_G} {cy : Nat → ClassId} {n : Nat} {ad : Nat → Nat} {ε : Nat → va_E} {Q : State → Prop} {mc ms : Nat} {st : List Value} {H : Heap} {locs : List Loc} {la : Array Slot} {ls : List (Nat × Value)}
theorem l_init (F : CallFix p m c cL_law 4 s #[Value.ref b] wsL_law RL) (hK : va_K D vwCl (ztys cy) s) (hNs : zNst s) (hZ : zSts (zLA s) s s.heap) (hO : zAO s) (pc : Nat) {idx mL d9 mc9 ms9 : Nat} {y : MethodName} {bytes : ByteArray} {ws9 ws8 : List Cond} {o : Nat} {post : Nat → (Nat → Nat) → (Nat → va_E) → Prop} (hM : zXV l y ws9 d9 mc9 ms9 D cy n ad ε [.ref o] post) (hd : decode cL_law pc = .ok (.invokespecial idx, 3)) (hws : ws9 = .code y bytes mL none :: ws8) (hG : GoodIn wsL_law ws9) (hw : Cond.methodLink RL idx y ∈ wsL_law) (hin : Cond.instanceMethod y ∈ wsL_law) (hini : Cond.initialized y.cls ∈ wsL_law) (hnm : y.name = "<init>") (hy : y.cls ≠ "java/lang/invoke/MethodHandle" ∧ y.cls ≠ "java/lang/invoke/VarHandle" ∧ (parseMethodDescriptor y.desc).map (fun d => d.parameters.length) = some 0) (hdd : d9 ≤ 11) (hmL : mL ≤ 20) (hc : mc + mc9 ≤ 600000) (hs : ms + ms9 ≤ 7302250) (hcat : (st.map fun v => v.category).sum ≤ 8) (hP : va_P D vwCl (zv n ad ε) H) (hD : va_D (zLA s) (zv n ad ε)) (hS : va_S (zLA s) s.heap H locs) (hl : lv_has la 4 ls)
    (kk : ∀ (n1 : Nat) (ad1 : Nat → Nat) (ε1 : Nat → va_E) (H1 : Heap) (locs1 : List Loc), post n1 ad1 ε1 → va_P D vwCl (zv n1 ad1 ε1) H1 → va_D (zLA s) (zv n1 ad1 ε1) → va_S (zLA s) s.heap H1 locs1 → W p l e room_1 s m #[Value.ref b] below meth c H1 locs1 (mc + mc9) (ms + ms9) Q (F0 m (pc + 3) la st)) : W p l e room_1 s m #[Value.ref b] below meth c H locs mc ms Q (F0 m pc la (.ref o :: st)) := by
  have hI := zvA hD (fun q h => h) hS.1
  exact va_callv (va_runI (As := []) (rest := st) F (hM H.size) (cwI 0 F.2.2.2.2 hG hws rfl rfl (F.2.2.2.2 _ hini) (F.2.2.2.2 _ hw) (F.2.2.2.2 _ hin) hnm hy ⟨by show d9 + 1 ≤ 14; omega, by show 8 + (mL + 11) + 40 * d9 ≤ 532; omega⟩) ⟨fun a U g mk q => ⟨q.1, q.2.1, q.2.2.1, q.2.2.2.1, va_K.moved (u := U) (U := U.calling g mk a) (Vm.Alike.refl U.vm) q.2.2.2.2.1, ⟨zNst.same (u := U) (U := U.calling g mk a) rfl q.2.2.2.2.2.1.1, zAO.moved (u := U) (U := U.calling g mk a) (Vm.Alike.refl U.vm) q.2.2.2.2.2.1.2⟩, zSts.moved (u := U) (U := U.calling g mk a) (Vm.Alike.refl U.vm) q.2.2.2.2.2.2⟩, fun U hU hW => ⟨rfl, by rw [hU], by rw [hU]; exact hP, hD.weaken (fun _ _ _ _ => trivial), va_K.moved hW.alike hK, ⟨zNst.warm hW hNs, zAO.moved hW.alike hO⟩, by rw [hU]; exact zSts.moved hW.alike ((hZ.kept hS.2.1).narrow hI)⟩⟩ rfl rfl hl.1 rfl (lv_room hcat) hd ⟨hc, hs⟩) hS (fun q _ h => hI q h) (fun q h => hI q h) (fun u u9 H1 locs1 hu _ hp hB _ _ hS1 => kk u.1 u.2.1 u.2.2 H1 locs1 hp (by rw [← hu]; exact hB.1) (hB.2.weaken (fun k q _ h => hI q.1 h)) hS1)
end ZLS
theorem zTopI.fr {cy : Nat → ClassId} {ad ad1 : Nat → Nat} {ε ε1 : Nat → va_E} (h : zTopI cy ad ε 0 1) (ha : ∀ c, c < 271 → ad1 c = ad c) (he : ∀ c, c < 271 → ε1 c = ε c) : zTopI cy ad1 ε1 0 1 := by
  obtain ⟨g1, g2, g3, g4, g5, g6⟩ := h
  refine ⟨?_, g2.fr2 (fun c q1 q2 => ha c (by omega)) (fun c q1 q2 => he c (by omega)) (he _ (by omega)), g3.fr2 (fun c q1 q2 => ha c (by omega)) (fun c q1 q2 => he c (by omega)) (he _ (by omega)), g4.fr2 (fun c q1 q2 => ha c (by omega)) (fun c q1 q2 => he c (by omega)) (he _ (by omega)), ?_, ?_⟩
  · rw [he 0 (by decide), g1, ha 1 (by decide), ha (1 + 38) (by decide), ha (1 + 76) (by decide), ha (1 + 268) (by decide)]
  · rw [he _ (by decide), g5, ha _ (by decide)]
  · rw [he _ (by decide)]; exact g6
set_option maxHeartbeats 4000000 in
set_option maxRecDepth 100000 in
/-- from the entry, for every script of at most 1536 ints, the law comes to its end with true -/
theorem whole_start {p : Program} {e : Env} {s : State} {m : MethodId} {below : List Frame} {meth : Method} {c : Code} (l : Launch) (hflags : l.flags = flags0) {b L : Nat} {xs : Nat → Int32} (hL : L ≤ 1536) (C0 : lw_At p s m meth c b L xs) : W p l e room_1 s m #[Value.ref b] below meth c s.heap [] 0 0 (lw_Z below #[Value.ref b] s) (entryFrame m ([Value.ref b] : List Value).toArray 4) := by
  obtain ⟨hx, hb, hr, hml, hown, hts0, hX, hbl, hlocks, hgv⟩ := id C0
  have hts : ∀ w ∈ wsL_law, w.before #[Value.ref b] s = true := fun w h => hts0 w (wsL_law_in w h)
  have F : CallFix p m c cL_law 4 s #[Value.ref b] wsL_law RL := ⟨hx, hb, hml, hown, hts⟩
  obtain ⟨D, cy, hK⟩ := st_K hts0
  have hNs := st_nst hts0
  have hZ := st_sts hts0 hgv
  have hO := st_ao hts0
  have hA : ∀ q : Nat, s.heap.size ≤ q → zLA s q := fun _ h => h
  have hS : va_S (zLA s) s.heap s.heap [] := va_S.rf
  have hP : va_P D vwCl (zv 0 (fun _ => 0) (fun _ => .inr (0, []))) s.heap := fun k q h => by simp [zv] at h
  have hD : va_D (zLA s) (zv 0 (fun _ => 0) (fun _ => .inr (0, []))) := ⟨fun i j p q h => by simp [zv] at h, fun k q h => by simp [zv] at h⟩
  have hl := lv_entry ([.ref b]) (n := 4) (Nat.le_of_ble_eq_true rfl)
  rw [lg_entry_eq]
  generalize (lg_sl ([.ref b]) ++ List.replicate (4 - (lg_sl ([.ref b])).length) Slot.unset).toArray = ls at hl ⊢
  have hl : lv_has ls 4 [(0, .ref b)] := hl
  -- the class's object
  refine va_new (ci := 6) (fs := [.null, .null, .null, .null]) (C := RX6) (T := TX6) (N := 4) hx hb hts0 inX6 tyX6 tyX6_ok hown (hts0 (.classLink RL 7 RX6) (by decide +kernel)) (hts0 (.instantiable RX6 4) (by decide +kernel)) (hts0 (.initialized RX6) (by decide +kernel)) hK hP hD hS hA rfl hfs_Top (Nat.le_of_ble_eq_true rfl) (Nat.le_of_ble_eq_true rfl) dL_law_0 (fun q0 H hP hD hS => ?_)
  rw [zv_push] at hP hD
  refine lv_dup hx hb dL_law_3 rfl ?_
  generalize hA1 : zu (fun _ => 0) 0 q0 = A1 at hP hD
  have a0 : A1 0 = q0 := by rw [← hA1]; exact zu_eq _ _ _
  generalize hE1 : zu (fun _ => (.inr (0, []) : va_E)) 0 (.inr (6, [.null, .null, .null, .null])) = E1 at hP hD
  have e0 : E1 0 = .inr (6, [.null, .null, .null, .null]) := by rw [← hE1]; exact zu_eq _ _ _
  refine l_init F hK hNs hZ hO 4 (o := q0) (a0 ▸ kX6_init l D cy 1 A1 E1 0 (by decide) e0) dL_law_4 rfl gL_law_X6_init (by decide +kernel) (by decide +kernel) (by decide +kernel) rfl hyX6_init (by decide) (by decide) (Nat.le_of_ble_eq_true rfl) (Nat.le_of_ble_eq_true rfl) (Nat.le_of_ble_eq_true rfl) hP hD hS hl (fun n1 ad1 ε1 H1 locs1 hp hP hD hS => ?_)
  obtain ⟨rfl, z1, t1⟩ := hp
  have q01 : ad1 0 = q0 := (z1.2.1 0 (by decide)).trans a0
  refine lv_astore_n (lv' := [(1, .ref q0), (0, .ref b)]) hx hb dL_law_7 rfl hl (by decide) rfl (fun ls hl => ?_)
  -- the reference's object
  refine va_new (ci := 7) (fs := [.null, .null, .null, .null, .int 0, .int 0, .null, .int 0, .null, .int 0, .int 0, .int 0, .int 0, .int 0, .int 0, .null]) (C := RX7) (T := TX7) (N := 16) hx hb hts0 inX7 tyX7 tyX7_ok hown (hts0 (.classLink RL 10 RX7) (by decide +kernel)) (hts0 (.instantiable RX7 16) (by decide +kernel)) (hts0 (.initialized RX7) (by decide +kernel)) hK hP hD hS hA rfl hfs_Mod (Nat.le_of_ble_eq_true rfl) (Nat.le_of_ble_eq_true rfl) dL_law_8 (fun q1 H hP hD hS => ?_)
  rw [zv_push] at hP hD
  refine lv_dup hx hb dL_law_11 rfl ?_
  generalize hA2 : zu ad1 (1 + 270) q1 = A2 at hP hD
  have a1 : A2 271 = q1 := by rw [← hA2]; exact zu_eq _ _ _
  have a2 : ∀ k, k < 271 → A2 k = ad1 k := fun k hk => by rw [← hA2]; exact zu_ne _ _ (by omega)
  generalize hE2 : zu ε1 (1 + 270) (.inr (7, [.null, .null, .null, .null, .int 0, .int 0, .null, .int 0, .null, .int 0, .int 0, .int 0, .int 0, .int 0, .int 0, .null]) : va_E) = E2 at hP hD
  have e1 : E2 271 = eM0 := by rw [← hE2]; exact zu_eq _ _ _
  have e2 : ∀ k, k < 271 → E2 k = ε1 k := fun k hk => by rw [← hE2]; exact zu_ne _ _ (by omega)
  refine l_init F hK hNs hZ hO 12 (o := q1) (a1 ▸ kX7_init l D cy (1 + 270 + 1) A2 E2 271 (by decide) e1) dL_law_12 rfl gL_law_X7_init (by decide +kernel) (by decide +kernel) (by decide +kernel) rfl hyX7_init (by decide) (by decide) (Nat.le_of_ble_eq_true rfl) (Nat.le_of_ble_eq_true rfl) (Nat.le_of_ble_eq_true rfl) hP hD hS hl (fun n2 ad2 ε2 H2 locs2 hp hP hD hS => ?_)
  obtain ⟨rfl, z2, t2⟩ := hp
  have q11 : ad2 271 = q1 := (z2.2.1 271 (by decide)).trans a1
  have q02 : ad2 0 = q0 := ((z2.2.1 0 (by decide)).trans (a2 0 (by decide))).trans q01
  have t1' : zTopI cy ad2 ε2 0 1 := t1.fr (fun k hk => (z2.2.1 k (by omega)).trans (a2 k hk)) (fun k hk => (z2.2.2 k (by omega) (by omega)).trans (e2 k hk))
  refine W.widen (k := 600000) (n := 7302250) (Nat.le_of_ble_eq_true rfl) (Nat.le_of_ble_eq_true rfl) ?_
  refine lv_astore_n (lv' := [(2, .ref q1), (1, .ref q0), (0, .ref b)]) hx hb dL_law_15 rfl hl (by decide) rfl (fun ls hl => ?_)
  refine lv_iconst (v := nI 0) hx hb dL_law_16 (by decide +kernel) ?_
  refine lv_istore_n (lv' := [(3, .int (nI 0)), (2, .ref q1), (1, .ref q0), (0, .ref b)]) hx hb dL_law_17 rfl hl (by decide) rfl (fun ls hl => ?_)
  have hJ1 := world6_J (n := 1 + 270 + 1 + 7) (by decide) hD
  have hJ2 : zJ 8 (fun c => ad2 (271 + c)) := fun i j hi hj e => by
    have := hD.1 (271 + i) (271 + j) _ _ (zv_at (by omega) rfl) (zv_at (by omega) rfl) e
    omega
  have hdis : ∀ i j, i < 271 → j < 8 → (fun c => ad2 (zpi c)) i ≠ (fun c => ad2 (271 + c)) j := fun i j hi hj e => by
    have h1 := zpi_ok i hi
    have := hD.1 (zpi i) (271 + j) _ _ (zv_at (by omega) rfl) (zv_at (by omega) rfl) e
    omega
  have C : zLC p s m b meth c L xs D cy (fun c => ad2 (zpi c)) (fun c => ad2 (271 + c)) := ⟨F, hK, hNs, hZ, hX, hbl, hJ1, ⟨hJ2, fun i hi => hD.2 (271 + i) _ (zv_at (by omega) rfl)⟩, hdis, hr, hlocks, hL⟩
  refine law_loop C (L + 1) 0 zt0 zu0 (Nat.zero_le _) (by omega) zRl_0 H2 locs2 ls (world6 (n := 1 + 270 + 1 + 7) (by decide) hP t1') (world7 (n := 1 + 270 + 1 + 7) (by decide) hP t2) hS ?_
  have e3 : (fun c => ad2 (zpi c)) 270 = q0 := q02
  have e4 : (fun c => ad2 (271 + c)) 0 = q1 := q11
  rw [e3, e4]
  exact hl
