theorem zTI.fr2 {cy : Nat → ClassId} {ad ad1 : Nat → Nat} {ε ε1 : Nat → va_E} {b m : Nat} (h : zTI cy ad ε b m 24 4 4) (ha : ∀ c, m ≤ c → c < m + 37 → ad1 c = ad c) (he : ∀ c, m ≤ c → c < m + 37 → ε1 c = ε c) (hb : ε1 b = ε b) : zTI cy ad1 ε1 b m 24 4 4 := by
  obtain ⟨g1, ⟨fh, g2, g3⟩, ⟨fs, g4, g5⟩, ⟨g6, g7⟩, ⟨g, g8, g9⟩, g10, g11⟩ := h
  refine ⟨?_, ⟨fh, ?_, fun i9 hi9 => ?_⟩, ⟨fs, ?_, fun i9 hi9 => ?_⟩, ⟨?_, ?_⟩, ⟨g, ?_, g9⟩, fun i9 hi9 => ?_, fun i9 hi9 => ?_⟩
  · rw [hb, g1, eT_fr (fun c h1 h => ha c h1 (by omega))]
  · rw [he _ (by omega) (by omega)]; exact g2
  · rw [ha _ (by omega) (by omega)]; exact g3 i9 hi9
  · rw [he _ (by omega) (by omega)]; exact g4
  · rw [ha _ (by omega) (by omega)]; exact g5 i9 hi9
  · rw [he _ (by omega) (by omega), ha _ (by omega) (by omega)]; exact g6
  · rw [he _ (by omega) (by omega)]; exact g7
  · rw [he _ (by omega) (by omega)]; exact g8
  · rw [he _ (by omega) (by omega)]; exact g10 i9 hi9
  · exact (g11 i9 hi9).fr (ha _ (by omega) (by omega)) (he _ (by omega) (by omega)) (he _ (by omega) (by omega))
theorem zHI.fr2 {cy : Nat → ClassId} {ad ad1 : Nat → Nat} {ε ε1 : Nat → va_E} {b m : Nat} (h : zHI cy ad ε b m 5) (ha : ∀ c, m ≤ c → c < m + 191 → ad1 c = ad c) (he : ∀ c, m ≤ c → c < m + 191 → ε1 c = ε c) (hb : ε1 b = ε b) : zHI cy ad1 ε1 b m 5 := by
  obtain ⟨h1, ⟨f, h2, h3⟩, h4⟩ := h
  refine ⟨by rw [hb, h1, ha m (by omega) (by omega)], ⟨f, by rw [he m (by omega) (by omega)]; exact h2, fun i hi => by rw [ha _ (by omega) (by omega)]; exact h3 i hi⟩, fun i hi => (h4 i hi).fr2 (fun c q1 q2 => ha c (by omega) (by omega)) (fun c q1 q2 => he c (by omega) (by omega)) (he _ (by omega) (by omega))⟩
theorem zGr.trans {n n1 n2 : Nat} {ad ad1 ad2 : Nat → Nat} {ε ε1 ε2 : Nat → va_E} {b : Nat} (h : zGr n ad ε b n1 ad1 ε1) (h2 : zGr n1 ad1 ε1 b n2 ad2 ε2) : zGr n ad ε b n2 ad2 ε2 :=
  ⟨Nat.le_trans h.1 h2.1, fun c hc => (h2.2.1 c (Nat.lt_of_lt_of_le hc h.1)).trans (h.2.1 c hc), fun c hc hcb => (h2.2.2 c (Nat.lt_of_lt_of_le hc h.1) hcb).trans (h.2.2 c hc hcb)⟩
/-- a new object, made ready, then laid into a field of b -/
theorem zGr.stage {n n2 : Nat} {ad ad2 : Nat → Nat} {ε ε2 : Nat → va_E} {b q : Nat} {e0 e1 : va_E} (hb : b < n) (h : zGr (n + 1) (zu ad n q) (zu ε n e0) n n2 ad2 ε2) : zGr n ad ε b n2 ad2 (zu ε2 b e1) ∧ ad2 n = q ∧ ε2 b = ε b :=
  ⟨⟨by have := h.1; omega, fun c hc => (h.2.1 c (by omega)).trans (zu_ne _ _ (by omega)), fun c hc hcb => (zu_ne _ _ hcb).trans ((h.2.2 c (by omega) (by omega)).trans (zu_ne _ _ (by omega)))⟩, (h.2.1 n (by omega)).trans (zu_eq _ _ _), (h.2.2 b (by omega) (by omega)).trans (zu_ne _ _ (by omega))⟩
def eOr (a : Nat) : va_E := .inr (3, [.ref a, .int 0, .int 0, .int 0, .int 0, .int 0, .int 0, .int 0, .int 0, .int 0])
/-- the class's own object and all that it makes -/
def zTopI (cy : Nat → ClassId) (ad : Nat → Nat) (ε : Nat → va_E) (b m : Nat) : Prop := ε b = .inr (6, [.ref (ad m), .ref (ad (m + 38)), .ref (ad (m + 76)), .ref (ad (m + 268))]) ∧ zTI cy ad ε m (m + 1) 24 4 4 ∧ zTI cy ad ε (m + 38) (m + 39) 24 4 4 ∧ zHI cy ad ε (m + 76) (m + 77) 5 ∧ ε (m + 268) = eOr (ad (m + 269)) ∧ ε (m + 269) = .inl (cy 0, 60, .inl (fun _ => 0))
set_option maxRecDepth 20000 in
theorem oX6 : (Cond.methodLink RX6 1 objectInit ∈ wsX6_init ∧ Cond.instanceMethod objectInit ∈ wsX6_init ∧ Cond.code objectInit ⟨#[0xb1]⟩ 1 none ∈ wsX6_init) ∧ (∀ w ∈ u_ws RX6 TX6 4, w ∈ wsX6_init) ∧ (∀ w ∈ u_ws RX5 TX5 13, w ∈ wsX6_init) ∧ (∀ w ∈ u_ws RX0 TX0 3, w ∈ wsX6_init) ∧ (∀ w ∈ u_ws RX3 TX3 10, w ∈ wsX6_init) := by decide +kernel
set_option maxRecDepth 20000 in
theorem oX6b : (Cond.classLink RX6 7 RX5 ∈ wsX6_init ∧ Cond.classLink RX6 19 RX0 ∈ wsX6_init ∧ Cond.classLink RX6 26 RX3 ∈ wsX6_init) ∧ (Cond.instantiable RX5 13 ∈ wsX6_init ∧ Cond.instantiable RX0 3 ∈ wsX6_init ∧ Cond.instantiable RX3 10 ∈ wsX6_init) ∧ (Cond.initialized RX5 ∈ wsX6_init ∧ Cond.initialized RX0 ∈ wsX6_init ∧ Cond.initialized RX3 ∈ wsX6_init) := by decide +kernel
set_option maxRecDepth 20000 in
theorem oX6f : (Cond.fieldLink RX6 10 "WrongedMeters" "town" "LWrongedMeters$Town;" ∈ wsX6_init ∧ Cond.fieldLink RX6 16 "WrongedMeters" "trial" "LWrongedMeters$Town;" ∈ wsX6_init ∧ Cond.fieldLink RX6 22 "WrongedMeters" "history" "LWrongedMeters$History;" ∈ wsX6_init ∧ Cond.fieldLink RX6 29 "WrongedMeters" "orders" "LWrongedMeters$Orders;" ∈ wsX6_init) ∧ Cond.methodLink RX6 9 yX5_init ∈ wsX6_init ∧ Cond.methodLink RX6 21 yX0_init ∈ wsX6_init ∧ Cond.instanceMethod yX5_init ∈ wsX6_init ∧ Cond.instanceMethod yX0_init ∈ wsX6_init ∧ Cond.instanceMethod yX3_init ∈ wsX6_init := by decide +kernel
theorem hfs_Hist : ∀ j, j < 3 → defaultValue (tyX0 j) = vp_V [.null, .int 0, .int 0] j := by decide +kernel
theorem hfs_Ord : ∀ j, j < 10 → defaultValue (tyX3 j) = vp_V [.null, .int 0, .int 0, .int 0, .int 0, .int 0, .int 0, .int 0, .int 0, .int 0] j := by decide +kernel
set_option maxHeartbeats 3000000 in
set_option maxRecDepth 100000 in
theorem kX6_init (l : Launch) (D : va_G) (cy : Nat → ClassId) (n : Nat) (ad : Nat → Nat) (ε : Nat → va_E) (b : Nat) (hb : b < n) (he : ε b = .inr (6, [.null, .null, .null, .null])) : zXV l yX6_init wsX6_init 4 270 3802 D cy n ad ε [.ref (ad b)] (fun n1 ad1 ε1 => n1 = n + 270 ∧ zGr n ad ε b n1 ad1 ε1 ∧ zTopI cy ad1 ε1 b n) := by
  refine x_start (cc := cX6_init) (mL := 1) (own := RX6) rfl (by decide +kernel) rfl rfl (Nat.le_of_ble_eq_true rfl) ?_
  intro p e s m args below meth c A hA Q hQ C
  refine x_aload_n C 0 0 0 dX6_init_0 rfl rfl ?_
  refine x_obj C 1 (d := 4) dX6_init_1 oX6.1.1 oX6.1.2.1 oX6.1.2.2 rfl (by decide) (Nat.le_of_ble_eq_true rfl) ?_
  refine x_aload_n C 4 0 0 dX6_init_4 rfl rfl ?_
  refine x_new C 5 tyX5 dX6_init_5 oX6.2.2.1 tyX5_ok oX6b.1.1 oX6b.2.1.1 oX6b.2.2.1 (ci := 5) rfl hfs_Town (Nat.le_of_ble_eq_true rfl) (Nat.le_of_ble_eq_true rfl) (fun q1 => ?_)
  refine x_dup C 8 dX6_init_8 rfl ?_
  have en1 : zu ad n q1 n = q1 := zu_eq _ _ _
  refine x_init C 9 (b := q1) (en1 ▸ kX5_init l D cy (n + 1) (zu ad n q1) _ n (by omega) (zu_eq _ _ _)) dX6_init_9 rfl gX6_init_X5_init oX6f.2.1 oX6f.2.2.2.1 oX6b.2.2.1 rfl hyX5_init rfl (by decide) (by decide) (Nat.le_of_ble_eq_true rfl) (Nat.le_of_ble_eq_true rfl) (Nat.le_of_ble_eq_true rfl) (fun n2 ad2 ε2 hp => ?_)
  obtain ⟨rfl, z1, t1⟩ := hp
  obtain ⟨G1, f1, f2⟩ := zGr.stage (b := b) (e1 := .inr (6, [.ref q1, .null, .null, .null])) hb z1
  refine x_putF C 12 (ty := .object RX5) b 0 (G1.2.1 b hb) dX6_init_12 (by omega) (f2.trans he) oX6.2.1 tyX6 tyX6_ok nmX6 rfl (by decide) oX6f.1.1 rfl rfl (by decide +kernel) rfl rfl (Nat.le_of_ble_eq_true rfl) ?_
  have T1 : zTI cy ad2 (zu ε2 b (.inr (6, [.ref q1, .null, .null, .null]))) n (n + 1) 24 4 4 := t1.fr2 (fun _ _ _ => rfl) (fun c q _ => zu_ne _ _ (by omega)) (zu_ne _ _ (by omega))
  have hb1 : (zu ε2 b (.inr (6, [.ref q1, .null, .null, .null]) : va_E)) b = .inr (6, [.ref q1, .null, .null, .null]) := zu_eq _ _ _
  generalize hε3 : zu ε2 b (.inr (6, [.ref q1, .null, .null, .null]) : va_E) = ε3 at G1 T1 hb1
  have hε3' : zu ε2 b (.inr (6, ([.null, .null, .null, .null] : List Value).set 0 (.ref q1)) : va_E) = ε3 := hε3
  rw [hε3']
  -- the trial
  refine x_aload_n C 15 0 0 dX6_init_15 rfl rfl ?_
  refine x_new C 16 tyX5 dX6_init_16 oX6.2.2.1 tyX5_ok oX6b.1.1 oX6b.2.1.1 oX6b.2.2.1 (ci := 5) rfl hfs_Town (Nat.le_of_ble_eq_true rfl) (Nat.le_of_ble_eq_true rfl) (fun q2 => ?_)
  refine x_dup C 19 dX6_init_19 rfl ?_
  rw [show n + 1 + 37 = n + 38 by omega]
  have en2 : zu ad2 (n + 38) q2 (n + 38) = q2 := zu_eq _ _ _
  refine x_init C 20 (b := q2) (en2 ▸ kX5_init l D cy (n + 38 + 1) (zu ad2 (n + 38) q2) _ (n + 38) (by omega) (zu_eq _ _ _)) dX6_init_20 rfl gX6_init_X5_init oX6f.2.1 oX6f.2.2.2.1 oX6b.2.2.1 rfl hyX5_init rfl (by decide) (by decide) (Nat.le_of_ble_eq_true rfl) (Nat.le_of_ble_eq_true rfl) (Nat.le_of_ble_eq_true rfl) (fun n4 ad4 ε4 hp => ?_)
  obtain ⟨rfl, z2, t2⟩ := hp
  obtain ⟨G2, f3, f4⟩ := zGr.stage (b := b) (e1 := .inr (6, [.ref q1, .ref q2, .null, .null])) (by omega) z2
  refine x_putF C 23 (ty := .object RX5) b 1 ((G2.2.1 b (by omega)).trans (G1.2.1 b hb)) dX6_init_23 (by omega) (f4.trans hb1) oX6.2.1 tyX6 tyX6_ok nmX6 rfl (by decide) oX6f.1.2.1 rfl rfl (by decide +kernel) rfl rfl (Nat.le_of_ble_eq_true rfl) ?_
  have T2 : zTI cy ad4 (zu ε4 b (.inr (6, [.ref q1, .ref q2, .null, .null]))) (n + 38) (n + 39) 24 4 4 := (show n + 38 + 1 = n + 39 by omega) ▸ t2.fr2 (fun _ _ _ => rfl) (fun c q _ => zu_ne _ _ (by omega)) (zu_ne _ _ (by omega))
  have hb2 : (zu ε4 b (.inr (6, [.ref q1, .ref q2, .null, .null]) : va_E)) b = .inr (6, [.ref q1, .ref q2, .null, .null]) := zu_eq _ _ _
  generalize hε5 : zu ε4 b (.inr (6, [.ref q1, .ref q2, .null, .null]) : va_E) = ε5 at G2 T2 hb2
  have hε5' : zu ε4 b (.inr (6, ([.ref q1, .null, .null, .null] : List Value).set 1 (.ref q2)) : va_E) = ε5 := hε5
  rw [hε5']
  -- the history
  refine x_aload_n C 26 0 0 dX6_init_26 rfl rfl ?_
  refine x_new C 27 tyX0 dX6_init_27 oX6.2.2.2.1 tyX0_ok oX6b.1.2.1 oX6b.2.1.2.1 oX6b.2.2.2.1 (ci := 0) rfl hfs_Hist (Nat.le_of_ble_eq_true rfl) (Nat.le_of_ble_eq_true rfl) (fun q3 => ?_)
  refine x_dup C 30 dX6_init_30 rfl ?_
  rw [show n + 38 + 1 + 37 = n + 76 by omega]
  have en3 : zu ad4 (n + 76) q3 (n + 76) = q3 := zu_eq _ _ _
  refine x_init C 31 (b := q3) (en3 ▸ kX0_init l D cy (n + 76 + 1) (zu ad4 (n + 76) q3) _ (n + 76) (by omega) (zu_eq _ _ _)) dX6_init_31 rfl gX6_init_X0_init oX6f.2.2.1 oX6f.2.2.2.2.1 oX6b.2.2.2.1 rfl hyX0_init rfl (by decide) (by decide) (Nat.le_of_ble_eq_true rfl) (Nat.le_of_ble_eq_true rfl) (Nat.le_of_ble_eq_true rfl) (fun n6 ad6 ε6 hp => ?_)
  obtain ⟨rfl, z3, t3⟩ := hp
  obtain ⟨G3, f5, f6⟩ := zGr.stage (b := b) (e1 := .inr (6, [.ref q1, .ref q2, .ref q3, .null])) (by omega) z3
  refine x_putF C 34 (ty := .object RX0) b 2 ((G3.2.1 b (by omega)).trans ((G2.2.1 b (by omega)).trans (G1.2.1 b hb))) dX6_init_34 (by omega) (f6.trans hb2) oX6.2.1 tyX6 tyX6_ok nmX6 rfl (by decide) oX6f.1.2.2.1 rfl rfl (by decide +kernel) rfl rfl (Nat.le_of_ble_eq_true rfl) ?_
  have T3 : zHI cy ad6 (zu ε6 b (.inr (6, [.ref q1, .ref q2, .ref q3, .null]))) (n + 76) (n + 77) 5 := (show n + 76 + 1 = n + 77 by omega) ▸ t3.fr2 (fun _ _ _ => rfl) (fun c q _ => zu_ne _ _ (by omega)) (zu_ne _ _ (by omega))
  have hb3 : (zu ε6 b (.inr (6, [.ref q1, .ref q2, .ref q3, .null]) : va_E)) b = .inr (6, [.ref q1, .ref q2, .ref q3, .null]) := zu_eq _ _ _
  generalize hε7 : zu ε6 b (.inr (6, [.ref q1, .ref q2, .ref q3, .null]) : va_E) = ε7 at G3 T3 hb3
  have hε7' : zu ε6 b (.inr (6, ([.ref q1, .ref q2, .null, .null] : List Value).set 2 (.ref q3)) : va_E) = ε7 := hε7
  rw [hε7']
  -- the orders
  refine x_aload_n C 37 0 0 dX6_init_37 rfl rfl ?_
  refine x_new C 38 tyX3 dX6_init_38 oX6.2.2.2.2 tyX3_ok oX6b.1.2.2 oX6b.2.1.2.2 oX6b.2.2.2.2 (ci := 3) rfl hfs_Ord (Nat.le_of_ble_eq_true rfl) (Nat.le_of_ble_eq_true rfl) (fun q4 => ?_)
  refine x_dup C 41 dX6_init_41 rfl ?_
  rw [show n + 76 + 1 + 191 = n + 268 by omega]
  have en4 : zu ad6 (n + 268) q4 (n + 268) = q4 := zu_eq _ _ _
  refine x_initN C 42 (b := q4) (en4 ▸ kX3_init l D cy (n + 268 + 1) (zu ad6 (n + 268) q4) _ (n + 268) (by omega) (zu_eq _ _ _)) dX6_init_42 rfl gX6_init_X3_init_n28 nst_m6_28 oX6f.2.2.2.2.2 oX6b.2.2.2.2 rfl hyX3_init rfl (by decide) (by decide) (Nat.le_of_ble_eq_true rfl) (Nat.le_of_ble_eq_true rfl) (Nat.le_of_ble_eq_true rfl) (fun n8 ad8 ε8 hp => ?_)
  obtain ⟨rfl, z4, t4, t5⟩ := hp
  obtain ⟨G4, f7, f8⟩ := zGr.stage (b := b) (e1 := .inr (6, [.ref q1, .ref q2, .ref q3, .ref q4])) (by omega) z4
  refine x_putF C 45 (ty := .object RX3) b 3 ((G4.2.1 b (by omega)).trans ((G3.2.1 b (by omega)).trans ((G2.2.1 b (by omega)).trans (G1.2.1 b hb)))) dX6_init_45 (by omega) (f8.trans hb3) oX6.2.1 tyX6 tyX6_ok nmX6 rfl (by decide) oX6f.1.2.2.2 rfl rfl (by decide +kernel) rfl rfl (Nat.le_of_ble_eq_true rfl) ?_
  have hb4 : (zu ε8 b (.inr (6, [.ref q1, .ref q2, .ref q3, .ref q4]) : va_E)) b = .inr (6, [.ref q1, .ref q2, .ref q3, .ref q4]) := zu_eq _ _ _
  have o1 : (zu ε8 b (.inr (6, [.ref q1, .ref q2, .ref q3, .ref q4]) : va_E)) (n + 268) = eOr (ad8 (n + 269)) := (zu_ne _ _ (by omega)).trans t4
  have o2 : (zu ε8 b (.inr (6, [.ref q1, .ref q2, .ref q3, .ref q4]) : va_E)) (n + 269) = .inl (cy 0, 60, .inl (fun _ => 0)) := (zu_ne _ _ (by omega)).trans t5
  generalize hε9 : zu ε8 b (.inr (6, [.ref q1, .ref q2, .ref q3, .ref q4]) : va_E) = ε9 at G4 hb4 o1 o2
  have hε9' : zu ε8 b (.inr (6, ([.ref q1, .ref q2, .ref q3, .null] : List Value).set 3 (.ref q4)) : va_E) = ε9 := hε9
  rw [hε9']
  have G34 := G3.trans (by rw [show n + 76 + 1 + 191 = n + 268 by omega]; exact G4)
  have G234 := G2.trans (by rw [show n + 38 + 1 + 37 = n + 76 by omega]; exact G34)
  have G := G1.trans (by rw [show n + 1 + 37 = n + 38 by omega]; exact G234)
  refine x_vret C 48 hA hQ dX6_init_48 ⟨by omega, G, ?_, ?_, ?_, ?_, o1, o2⟩
  · rw [hb4, G234.2.1 n (by omega), f1, G34.2.1 (n + 38) (by omega), f3, G4.2.1 (n + 76) (by omega), f5, f7]
  · exact T1.fr2 (fun c q1 q2 => G234.2.1 c (by omega)) (fun c q1 q2 => G234.2.2 c (by omega) (by omega)) (G234.2.2 n (by omega) (by omega))
  · exact T2.fr2 (fun c q1 q2 => G34.2.1 c (by omega)) (fun c q1 q2 => G34.2.2 c (by omega) (by omega)) (G34.2.2 _ (by omega) (by omega))
  · exact T3.fr2 (fun c q1 q2 => G4.2.1 c (by omega)) (fun c q1 q2 => G4.2.2 c (by omega) (by omega)) (G4.2.2 _ (by omega) (by omega))
