/-! the history's, the class's own and the reference's constructors -/
def eHi (a : Nat) : va_E := .inr (0, [.ref a, .int 0, .int 0])
def zHI (cy : Nat → ClassId) (ad : Nat → Nat) (ε : Nat → va_E) (b m k : Nat) : Prop := ε b = eHi (ad m) ∧ (∃ f : Nat → Option Nat, ε m = eR (cy 3) 5 f ∧ ∀ i, i < k → f i = some (ad (m + 1 + 38 * i))) ∧ ∀ i, i < k → zTI cy ad ε (m + 1 + 38 * i) (m + 2 + 38 * i) 24 4 4
theorem zHI.fr {cy : Nat → ClassId} {ad ad1 : Nat → Nat} {ε ε1 : Nat → va_E} {b m k : Nat} (N : Nat) (h : zHI cy ad ε b m k) (hb : b < N) (hk : m + 1 + 38 * k ≤ N) (ha : ∀ c, c < N → ad1 c = ad c) (he : ∀ c, c < N → ε1 c = ε c) (hm : m < N) : zHI cy ad1 ε1 b m k := by
  obtain ⟨h1, ⟨f, h2, h3⟩, h4⟩ := h
  refine ⟨by rw [he b hb, h1, ha m hm], ⟨f, by rw [he m hm]; exact h2, fun i hi => by rw [ha _ (by omega)]; exact h3 i hi⟩, fun i hi => (h4 i hi).fr N (by omega) (by omega) (Or.inr (by omega)) ha he⟩
theorem zHI.town {cy : Nat → ClassId} {ad ad1 : Nat → Nat} {ε ε1 : Nat → va_E} {b m k : Nat} {f : Nat → Option Nat} (h : zHI cy ad ε b m k) (hb : b < m) (h0 : ε m = eR (cy 3) 5 f) (ha : ∀ c, c < m + 1 + 38 * k → ad1 c = ad c) (he : ∀ c, c < m + 1 + 38 * k → c ≠ m → ε1 c = ε c) (he1 : ε1 m = eR (cy 3) 5 (va_up f k (some (ad1 (m + 1 + 38 * k))))) (he2 : zTI cy ad1 ε1 (m + 1 + 38 * k) (m + 2 + 38 * k) 24 4 4) : zHI cy ad1 ε1 b m (k + 1) := by
  obtain ⟨h1, ⟨f2, h2, h3⟩, h4⟩ := h
  have ef : f2 = f := by
    have := h2.symm.trans h0
    cases this
    rfl
  subst ef
  refine ⟨by rw [he b (by omega) (by omega), h1, ha m (by omega)], ⟨_, he1, fun i hi => ?_⟩, fun i hi => ?_⟩
  · by_cases e : i = k
    · subst e; simp [va_up]
    · simp only [va_up, if_neg e]
      rw [ha _ (by omega)]
      exact h3 i (by omega)
  · by_cases e : i = k
    · subst e; exact he2
    · have q := h4 i (by omega)
      obtain ⟨g1, ⟨fh, g2, g3⟩, ⟨fs, g4, g5⟩, ⟨g6, g7⟩, ⟨g, g8, g9⟩, g10, g11⟩ := q
      refine ⟨?_, ⟨fh, ?_, fun i9 hi9 => ?_⟩, ⟨fs, ?_, fun i9 hi9 => ?_⟩, ⟨?_, ?_⟩, ⟨g, ?_, g9⟩, fun i9 hi9 => ?_, fun i9 hi9 => ?_⟩
      · rw [he _ (by omega) (by omega), g1, eT_fr (fun c _ h => ha c (by omega))]
      · rw [he _ (by omega) (by omega)]; exact g2
      · rw [ha _ (by omega)]; exact g3 i9 hi9
      · rw [he _ (by omega) (by omega)]; exact g4
      · rw [ha _ (by omega)]; exact g5 i9 hi9
      · rw [he _ (by omega) (by omega), ha _ (by omega)]; exact g6
      · rw [he _ (by omega) (by omega)]; exact g7
      · rw [he _ (by omega) (by omega)]; exact g8
      · rw [he _ (by omega) (by omega)]; exact g10 i9 hi9
      · exact (g11 i9 hi9).fr (ha _ (by omega)) (he _ (by omega) (by omega)) (he _ (by omega) (by omega))
set_option maxRecDepth 20000 in
theorem oX0 : (Cond.methodLink RX0 5 objectInit ∈ wsX0_init ∧ Cond.instanceMethod objectInit ∈ wsX0_init ∧ Cond.code objectInit ⟨#[0xb1]⟩ 1 none ∈ wsX0_init) ∧ (∀ w ∈ u_ws RX0 TX0 3, w ∈ wsX0_init) ∧ (∀ w ∈ u_ws RX5 TX5 13, w ∈ wsX0_init) ∧ Cond.classLink RX0 11 RX5 ∈ wsX0_init ∧ Cond.instantiable RX5 13 ∈ wsX0_init ∧ Cond.initialized RX5 ∈ wsX0_init ∧ Cond.fieldLink RX0 13 "WrongedMeters$History" "states" "[LWrongedMeters$Town;" ∈ wsX0_init ∧ Cond.methodLink RX0 17 yX5_init ∈ wsX0_init ∧ Cond.instanceMethod yX5_init ∈ wsX0_init := by decide +kernel
set_option maxHeartbeats 3000000 in
set_option maxRecDepth 100000 in
theorem kX0_init (l : Launch) (D : va_G) (cy : Nat → ClassId) (n : Nat) (ad : Nat → Nat) (ε : Nat → va_E) (b : Nat) (hb : b < n) (he : ε b = .inr (0, [.null, .int 0, .int 0])) : zXV l yX0_init wsX0_init 3 191 2665 D cy n ad ε [.ref (ad b)] (fun n1 ad1 ε1 => n1 = n + 191 ∧ zGr n ad ε b n1 ad1 ε1 ∧ zHI cy ad1 ε1 b n 5) := by
  refine x_start (cc := cX0_init) (mL := 2) (own := RX0) rfl (by decide +kernel) rfl rfl (Nat.le_of_ble_eq_true rfl) ?_
  intro p e s m args below meth c A hA Q hQ C
  have aoT := C.2.2.2.2.2.2.2.2.2.2
  have L1 : ∀ (j k : Nat) (ad1 : Nat → Nat) (ε1 : Nat → va_E), 5 ≤ k + j → k ≤ 5 → (∀ c, c < n → ad1 c = ad c) → (∀ c, c < n → c ≠ b → ε1 c = ε c) → zHI cy ad1 ε1 b n k → Zx p l e (zXR 3 191 2665) s m args below meth c D A 2 Q (1 + 38 * k) (5 + 532 * k) 14 [(1, .int (nI k)), (0, .ref (ad b))] [] (n + 1 + 38 * k) ad1 ε1 := by
    have fin : ∀ (k : Nat) (ad1 : Nat → Nat) (ε1 : Nat → va_E), k = 5 → (∀ c, c < n → ad1 c = ad c) → (∀ c, c < n → c ≠ b → ε1 c = ε c) → zHI cy ad1 ε1 b n k → Zx p l e (zXR 3 191 2665) s m args below meth c D A 2 Q (1 + 38 * k) (5 + 532 * k) 38 [(1, .int (nI k)), (0, .ref (ad b))] [] (n + 1 + 38 * k) ad1 ε1 := by
      intro k ad1 ε1 hk h1 h2 h3
      subst hk
      exact x_vret C 38 hA hQ dX0_init_38 ⟨by omega, ⟨by omega, h1, h2⟩, h3⟩
    intro j
    induction j with
    | zero =>
      intro k ad1 ε1 hj hk h1 h2 h3
      refine x_iload_n C 14 1 0 dX0_init_14 rfl rfl ?_
      refine x_iconst C 15 (v := 5) dX0_init_15 (by decide +kernel) ?_
      refine x_icmp_ge C 16 38 dX0_init_16 (by decide) (fun _ => fin k ad1 ε1 (by omega) h1 h2 h3) (fun h => absurd (zge (b := 5) (by omega) (by decide) h) (by omega))
    | succ j ih =>
      intro k ad1 ε1 hj hk h1 h2 h3
      refine x_iload_n C 14 1 0 dX0_init_14 rfl rfl ?_
      refine x_iconst C 15 (v := 5) dX0_init_15 (by decide +kernel) ?_
      refine x_icmp_ge C 16 38 dX0_init_16 (by decide) (fun h => fin k ad1 ε1 (by have := zle (a := 5) (by decide) (by omega) h; omega) h1 h2 h3) (fun h => ?_)
      have hk2 : k < 5 := zge (b := 5) (by omega) (by decide) h
      obtain ⟨f, hf, -⟩ := h3.2.1
      refine x_aload_n C 19 0 1 dX0_init_19 rfl rfl ?_
      refine x_getr C 20 b 0 (h1 b hb) dX0_init_20 (by omega) h3.1 oX0.2.1 rfl (by decide) oX0.2.2.2.2.2.2.1 rfl ?_
      refine x_iload_n C 23 1 0 dX0_init_23 rfl rfl ?_
      refine x_new C 24 tyX5 dX0_init_24 oX0.2.2.1 tyX5_ok oX0.2.2.2.1 oX0.2.2.2.2.1 oX0.2.2.2.2.2.1 (ci := 5) rfl hfs_Town (by show 1 + 38 * k + 1 ≤ 191; omega) (by show 5 + 532 * k + 13 ≤ 2665; omega) (fun q => ?_)
      refine x_dup C 27 dX0_init_27 rfl ?_
      have en : zu ad1 (n + 1 + 38 * k) q (n + 1 + 38 * k) = q := zu_eq _ _ _
      refine x_init C 28 (b := q) (en ▸ kX5_init l D cy (n + 1 + 38 * k + 1) (zu ad1 (n + 1 + 38 * k) q) _ (n + 1 + 38 * k) (by omega) (zu_eq _ _ _)) dX0_init_28 rfl gX0_init_X5_init oX0.2.2.2.2.2.2.2.1 oX0.2.2.2.2.2.2.2.2 oX0.2.2.2.2.2.1 rfl hyX5_init rfl (by decide) (by decide) (by omega) (by omega) (Nat.le_of_ble_eq_true rfl) (fun n2 ad2 ε2 hp => ?_)
      obtain ⟨rfl, ⟨-, g1, g2⟩, g3⟩ := hp
      have a1 : ∀ c, c < n + 1 + 38 * k → ad2 c = ad1 c := fun c hc => (g1 c (by omega)).trans (zu_ne _ _ (by omega))
      have a2 : ∀ c, c < n + 1 + 38 * k → ε2 c = ε1 c := fun c hc => (g2 c (by omega) (by omega)).trans (zu_ne _ _ (by omega))
      refine x_astq C 31 n k (n + 1 + 38 * k) (a1 _ (by omega)) ((g1 _ (by omega)).trans en) dX0_init_31 (by omega) ((a2 _ (by omega)).trans hf) (t0 := 3) rfl (by omega) g3.1 (ci := 5) rfl rfl hk2 (by decide) ?_
      refine x_iinc C 32 (v := nI (k + 1)) 1 0 [(1, .int (nI (k + 1))), (0, .ref (ad b))] dX0_init_32 rfl (nI_1 _) (by decide) rfl ?_
      refine x_goto C 35 14 dX0_init_35 (by decide) ?_
      refine x_wd (mc2 := 1 + 38 * (k + 1)) (ms2 := 5 + 532 * (k + 1)) (by omega) (by omega) ?_
      rw [show n + 1 + 38 * k + 1 + 37 = n + 1 + 38 * (k + 1) by omega]
      refine ih (k + 1) ad2 _ (by omega) (by omega) (fun c hc => (a1 c (by omega)).trans (h1 c hc)) (fun c hc hcb => (zu_ne _ _ (by omega)).trans ((a2 c (by omega)).trans (h2 c hc hcb))) ?_
      refine h3.town hb hf a1 (fun c hc hcm => (zu_ne _ _ hcm).trans (a2 c hc)) ?_ ?_
      · rw [zu_eq, g1 _ (by omega), en]
      · rw [show n + 2 + 38 * k = n + 1 + 38 * k + 1 by omega]
        obtain ⟨q1, ⟨fh, q2, q3⟩, ⟨fs, q4, q5⟩, ⟨q6, q7⟩, ⟨g, q8, q9⟩, q10, q11⟩ := g3
        refine ⟨?_, ⟨fh, ?_, q3⟩, ⟨fs, ?_, q5⟩, ⟨?_, ?_⟩, ⟨g, ?_, q9⟩, fun i9 hi9 => ?_, fun i9 hi9 => ?_⟩
        · rw [zu_ne _ _ (by omega)]; exact q1
        · rw [zu_ne _ _ (by omega)]; exact q2
        · rw [zu_ne _ _ (by omega)]; exact q4
        · rw [zu_ne _ _ (by omega)]; exact q6
        · rw [zu_ne _ _ (by omega)]; exact q7
        · rw [zu_ne _ _ (by omega)]; exact q8
        · rw [zu_ne _ _ (by omega)]; exact q10 i9 hi9
        · exact (q11 i9 hi9).fr rfl (zu_ne _ _ (by omega)) (zu_ne _ _ (by omega))
  refine x_aload_n C 0 0 0 dX0_init_0 rfl rfl ?_
  refine x_obj C 1 (d := 3) dX0_init_1 oX0.1.1 oX0.1.2.1 oX0.1.2.2 rfl (by decide) (Nat.le_of_ble_eq_true rfl) ?_
  refine x_aload_n C 4 0 0 dX0_init_4 rfl rfl ?_
  refine x_iconst C 5 (v := 5) dX0_init_5 (by decide +kernel) ?_
  refine x_objs C 6 (t0 := 3) 5 dX0_init_6 oX0.2.2.2.1 aoT rfl (by decide +kernel) (by decide +kernel) (Nat.le_of_ble_eq_true rfl) (Nat.le_of_ble_eq_true rfl) (Nat.le_of_ble_eq_true rfl) (fun q => ?_)
  refine x_putF C 9 (ty := .array (.object RX5)) b 0 (zu_ne _ _ (by omega)) dX0_init_9 (by omega) ((zu_ne _ _ (by omega)).trans he) oX0.2.1 tyX0 tyX0_ok nmX0 rfl (by decide) oX0.2.2.2.2.2.2.1 rfl rfl (by decide +kernel) rfl rfl (Nat.le_of_ble_eq_true rfl) ?_
  refine x_iconst C 12 (v := 0) dX0_init_12 (by decide +kernel) ?_
  refine x_istore_n C 13 1 [(1, .int (nI 0)), (0, .ref (ad b))] dX0_init_13 rfl (by decide) rfl ?_
  refine L1 5 0 _ _ (by omega) (by omega) (fun c hc => zu_ne _ _ (by omega)) (fun c hc hcb => ?_) ⟨?_, ⟨fun _ => none, ?_, fun i hi => absurd hi (by omega)⟩, fun i hi => absurd hi (by omega)⟩
  · rw [zu_ne _ _ hcb, zu_ne _ _ (by omega)]
  · rw [zu_eq, zu_eq]; rfl
  · rw [zu_ne _ _ (by omega), zu_eq]
