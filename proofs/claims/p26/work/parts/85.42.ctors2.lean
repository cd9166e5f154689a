/-! a town's making: b the town, from m on what it makes; k houses, j streets, q settings stand -/
def eT (ad : Nat → Nat) (m : Nat) : va_E := .inr (5, [.ref (ad m), .ref (ad (m + 1)), .ref (ad (m + 2)), .ref (ad (m + 4)), .int 0, .int 0, .int 0, .int 0, .int 0, .int 0, .int 0, .int 0, .int 0])
abbrev eR (c : ClassId) (n : Nat) (f : Nat → Option Nat) : va_E := .inl (c, n, .inr (.inr (.inr (.inr f))))
def zTI (cy : Nat → ClassId) (ad : Nat → Nat) (ε : Nat → va_E) (b m k j q : Nat) : Prop :=
  ε b = eT ad m ∧ (∃ fh : Nat → Option Nat, ε m = eR (cy 1) 24 fh ∧ ∀ i, i < k → fh i = some (ad (m + 5 + i))) ∧ (∃ fs : Nat → Option Nat, ε (m + 1) = eR (cy 2) 4 fs ∧ ∀ i, i < j → fs i = some (ad (m + 29 + 2 * i))) ∧ (ε (m + 2) = .inr (2, [.ref (ad (m + 3)), .int 0, .int 0]) ∧ ε (m + 3) = .inl (cy 0, 60, .inl (fun _ => 0))) ∧ (∃ g : Nat → Int32, ε (m + 4) = .inl (cy 0, 4, .inl g) ∧ ∀ i, i < q → g i = zFirst i) ∧ (∀ i, i < k → ε (m + 5 + i) = eH) ∧ ∀ i, i < j → zStB cy ad ε (m + 29 + 2 * i) (m + 30 + 2 * i)
theorem eT_fr {ad ad1 : Nat → Nat} {m : Nat} (h : ∀ c, m ≤ c → c < m + 5 → ad1 c = ad c) : eT ad1 m = eT ad m := by
  unfold eT
  rw [h m (by omega) (by omega), h (m + 1) (by omega) (by omega), h (m + 2) (by omega) (by omega), h (m + 4) (by omega) (by omega)]
theorem zStB.fr {cy : Nat → ClassId} {ad ad1 : Nat → Nat} {ε ε1 : Nat → va_E} {b m : Nat} (h : zStB cy ad ε b m) (h1 : ad1 m = ad m) (h2 : ε1 b = ε b) (h3 : ε1 m = ε m) : zStB cy ad1 ε1 b m := by
  unfold zStB
  rw [h1, h2, h3]
  exact h
theorem zTI.fr {cy : Nat → ClassId} {ad ad1 : Nat → Nat} {ε ε1 : Nat → va_E} {b m k j q : Nat} (N : Nat) (h : zTI cy ad ε b m k j q) (hb : b < N) (hk : m + 5 + k ≤ N) (hj : j = 0 ∨ m + 29 + 2 * j ≤ N) (ha : ∀ c, c < N → ad1 c = ad c) (he : ∀ c, c < N → ε1 c = ε c) : zTI cy ad1 ε1 b m k j q := by
  obtain ⟨h1, ⟨fh, h2, h3⟩, ⟨fs, h4, h5⟩, ⟨h6, h7⟩, ⟨g, h8, h9⟩, h10, h11⟩ := h
  refine ⟨?_, ⟨fh, ?_, fun i hi => ?_⟩, ⟨fs, ?_, fun i hi => ?_⟩, ⟨?_, ?_⟩, ⟨g, ?_, h9⟩, fun i hi => ?_, fun i hi => ?_⟩
  · rw [he b hb, h1, eT_fr (fun c _ h => ha c (by omega))]
  · rw [he _ (by omega)]; exact h2
  · rw [ha _ (by omega)]; exact h3 i hi
  · rw [he _ (by omega)]; exact h4
  · rw [ha _ (by omega)]; exact h5 i hi
  · rw [he _ (by omega), ha _ (by omega)]; exact h6
  · rw [he _ (by omega)]; exact h7
  · rw [he _ (by omega)]; exact h8
  · rw [he _ (by omega)]; exact h10 i hi
  · exact (h11 i hi).fr (ha _ (by omega)) (he _ (by omega)) (he _ (by omega))
theorem zTI.house {cy : Nat → ClassId} {ad ad1 : Nat → Nat} {ε ε1 : Nat → va_E} {b m k : Nat} {fh : Nat → Option Nat} (h : zTI cy ad ε b m k 0 0) (hb : b < m) (h0 : ε m = eR (cy 1) 24 fh) (ha : ∀ c, c < m + 5 + k → ad1 c = ad c) (he : ∀ c, c < m + 5 + k → c ≠ m → ε1 c = ε c) (he1 : ε1 m = eR (cy 1) 24 (va_up fh k (some (ad1 (m + 5 + k))))) (he2 : ε1 (m + 5 + k) = eH) : zTI cy ad1 ε1 b m (k + 1) 0 0 := by
  obtain ⟨h1, ⟨fh2, h2, h3⟩, ⟨fs, h4, h5⟩, ⟨h6, h7⟩, ⟨g, h8, h9⟩, h10, h11⟩ := h
  have ef : fh2 = fh := by
    have := h2.symm.trans h0
    cases this
    rfl
  subst ef
  refine ⟨?_, ⟨_, he1, fun i hi => ?_⟩, ⟨fs, ?_, fun i hi => absurd hi (by omega)⟩, ⟨?_, ?_⟩, ⟨g, ?_, h9⟩, fun i hi => ?_, fun i hi => absurd hi (by omega)⟩
  · rw [he b (by omega) (by omega), h1, eT_fr (fun c _ h => ha c (by omega))]
  · by_cases e : i = k
    · subst e; simp [va_up]
    · simp only [va_up, if_neg e]
      rw [ha _ (by omega)]
      exact h3 i (by omega)
  · rw [he _ (by omega) (by omega)]; exact h4
  · rw [he _ (by omega) (by omega), ha _ (by omega)]; exact h6
  · rw [he _ (by omega) (by omega)]; exact h7
  · rw [he _ (by omega) (by omega)]; exact h8
  · by_cases e : i = k
    · subst e; exact he2
    · rw [he _ (by omega) (by omega)]; exact h10 i (by omega)
theorem zTI.street {cy : Nat → ClassId} {ad ad1 : Nat → Nat} {ε ε1 : Nat → va_E} {b m j : Nat} {fs : Nat → Option Nat} (h : zTI cy ad ε b m 24 j 0) (hb : b < m) (h0 : ε (m + 1) = eR (cy 2) 4 fs) (ha : ∀ c, c < m + 29 + 2 * j → ad1 c = ad c) (he : ∀ c, c < m + 29 + 2 * j → c ≠ m + 1 → ε1 c = ε c) (he1 : ε1 (m + 1) = eR (cy 2) 4 (va_up fs j (some (ad1 (m + 29 + 2 * j))))) (he2 : zStB cy ad1 ε1 (m + 29 + 2 * j) (m + 30 + 2 * j)) : zTI cy ad1 ε1 b m 24 (j + 1) 0 := by
  obtain ⟨h1, ⟨fh, h2, h3⟩, ⟨fs2, h4, h5⟩, ⟨h6, h7⟩, ⟨g, h8, h9⟩, h10, h11⟩ := h
  have ef : fs2 = fs := by
    have := h4.symm.trans h0
    cases this
    rfl
  subst ef
  refine ⟨?_, ⟨fh, ?_, fun i hi => ?_⟩, ⟨_, he1, fun i hi => ?_⟩, ⟨?_, ?_⟩, ⟨g, ?_, h9⟩, fun i hi => ?_, fun i hi => ?_⟩
  · rw [he b (by omega) (by omega), h1, eT_fr (fun c _ h => ha c (by omega))]
  · rw [he _ (by omega) (by omega)]; exact h2
  · rw [ha _ (by omega)]; exact h3 i hi
  · by_cases e : i = j
    · subst e; simp [va_up]
    · simp only [va_up, if_neg e]
      rw [ha _ (by omega)]
      exact h5 i (by omega)
  · rw [he _ (by omega) (by omega), ha _ (by omega)]; exact h6
  · rw [he _ (by omega) (by omega)]; exact h7
  · rw [he _ (by omega) (by omega)]; exact h8
  · rw [he _ (by omega) (by omega)]; exact h10 i hi
  · by_cases e : i = j
    · subst e; exact he2
    · exact (h11 i (by omega)).fr (ha _ (by omega)) (he _ (by omega) (by omega)) (he _ (by omega) (by omega))
theorem zTI.setting {cy : Nat → ClassId} {ad : Nat → Nat} {ε : Nat → va_E} {b m q : Nat} {g : Nat → Int32} (h : zTI cy ad ε b m 24 4 q) (hb : b < m) (h0 : ε (m + 4) = .inl (cy 0, 4, .inl g)) : zTI cy ad (zu ε (m + 4) (.inl (cy 0, 4, .inl (upd g q (zFirst q))))) b m 24 4 (q + 1) := by
  obtain ⟨h1, ⟨fh, h2, h3⟩, ⟨fs, h4, h5⟩, ⟨h6, h7⟩, ⟨g2, h8, h9⟩, h10, h11⟩ := h
  have ef : g2 = g := by
    have := h8.symm.trans h0
    cases this
    rfl
  subst ef
  refine ⟨?_, ⟨fh, ?_, h3⟩, ⟨fs, ?_, h5⟩, ⟨?_, ?_⟩, ⟨_, zu_eq _ _ _, fun i hi => ?_⟩, fun i hi => ?_, fun i hi => ?_⟩
  · rw [zu_ne _ _ (by omega)]; exact h1
  · rw [zu_ne _ _ (by omega)]; exact h2
  · rw [zu_ne _ _ (by omega)]; exact h4
  · rw [zu_ne _ _ (by omega)]; exact h6
  · rw [zu_ne _ _ (by omega)]; exact h7
  · by_cases e : i = q
    · subst e; exact pk_us
    · rw [pk_un e]; exact h9 i (by omega)
  · rw [zu_ne _ _ (by omega)]; exact h10 i hi
  · exact (h11 i hi).fr rfl (zu_ne _ _ (by omega)) (zu_ne _ _ (by omega))
set_option maxRecDepth 20000 in
theorem oX5 : (Cond.methodLink RX5 3 objectInit ∈ wsX5_init ∧ Cond.instanceMethod objectInit ∈ wsX5_init ∧ Cond.code objectInit ⟨#[0xb1]⟩ 1 none ∈ wsX5_init) ∧ (∀ w ∈ u_ws RX5 TX5 13, w ∈ wsX5_init) ∧ Cond.arrayClass .int ∈ wsX5_init ∧ (Cond.classLink RX5 9 RX1 ∈ wsX5_init ∧ Cond.classLink RX5 17 RX4 ∈ wsX5_init ∧ Cond.classLink RX5 23 RX2 ∈ wsX5_init) ∧ (Cond.instantiable RX1 14 ∈ wsX5_init ∧ Cond.instantiable RX4 2 ∈ wsX5_init ∧ Cond.instantiable RX2 3 ∈ wsX5_init) ∧ (Cond.initialized RX1 ∈ wsX5_init ∧ Cond.initialized RX4 ∈ wsX5_init ∧ Cond.initialized RX2 ∈ wsX5_init) := by decide +kernel
set_option maxRecDepth 20000 in
theorem oX5f : Cond.fieldLink RX5 11 "WrongedMeters$Town" "houses" "[LWrongedMeters$House;" ∈ wsX5_init ∧ Cond.fieldLink RX5 19 "WrongedMeters$Town" "streets" "[LWrongedMeters$Street;" ∈ wsX5_init ∧ Cond.fieldLink RX5 26 "WrongedMeters$Town" "ledger" "LWrongedMeters$Ledger;" ∈ wsX5_init ∧ Cond.fieldLink RX5 30 "WrongedMeters$Town" "settings" "[I" ∈ wsX5_init := by decide +kernel
set_option maxRecDepth 20000 in
theorem oX5m : (∀ w ∈ u_ws RX1 TX1 14, w ∈ wsX5_init) ∧ (∀ w ∈ u_ws RX4 TX4 2, w ∈ wsX5_init) ∧ (∀ w ∈ u_ws RX2 TX2 3, w ∈ wsX5_init) ∧ Cond.instanceMethod yX1_init ∈ wsX5_init ∧ Cond.instanceMethod yX2_init ∈ wsX5_init ∧ Cond.instanceMethod yX4_init ∈ wsX5_init ∧ Cond.methodLink RX5 35 yX4_init ∈ wsX5_init := by decide +kernel
def eT0 : va_E := .inr (5, [.null, .null, .null, .null, .int 0, .int 0, .int 0, .int 0, .int 0, .int 0, .int 0, .int 0, .int 0])
theorem hfs_House : ∀ j, j < 14 → defaultValue (tyX1 j) = vp_V [.int 0, .int 0, .int 0, .int 0, .int 0, .int 0, .int 0, .int 0, .int 0, .int 0, .int 0, .int 0, .int 0, .int 0] j := by decide +kernel
theorem hfs_Led : ∀ j, j < 3 → defaultValue (tyX2 j) = vp_V [.null, .int 0, .int 0] j := by decide +kernel
theorem hfs_Str : ∀ j, j < 2 → defaultValue (tyX4 j) = vp_V [.null, .int 0] j := by decide +kernel
theorem hfs_Town : ∀ j, j < 13 → defaultValue (tyX5 j) = vp_V [.null, .null, .null, .null, .int 0, .int 0, .int 0, .int 0, .int 0, .int 0, .int 0, .int 0, .int 0] j := by decide +kernel
set_option maxHeartbeats 3000000 in
set_option maxRecDepth 100000 in
theorem kX5_init (l : Launch) (D : va_G) (cy : Nat → ClassId) (n : Nat) (ad : Nat → Nat) (ε : Nat → va_E) (b : Nat) (hb : b < n) (he : ε b = eT0) : zXV l yX5_init wsX5_init 2 37 519 D cy n ad ε [.ref (ad b)] (fun n1 ad1 ε1 => n1 = n + 37 ∧ zGr n ad ε b n1 ad1 ε1 ∧ zTI cy ad1 ε1 b n 24 4 4) := by
  refine x_start (cc := cX5_init) (mL := 2) (own := RX5) rfl (by decide +kernel) rfl rfl (Nat.le_of_ble_eq_true rfl) ?_
  intro p e s m args below meth c A hA Q hQ C
  obtain ⟨rz, hz, ht⟩ := C.2.2.2.2.2.2.1.2.2
  have aoH := C.2.2.2.2.2.2.2.2.1
  have aoS := C.2.2.2.2.2.2.2.2.2.1
  -- the last loop: settings
  have L3 : ∀ (j k : Nat) (ad1 : Nat → Nat) (ε1 : Nat → va_E), 4 ≤ k + j → k ≤ 4 → (∀ c, c < n → ad1 c = ad c) → (∀ c, c < n → c ≠ b → ε1 c = ε c) → zTI cy ad1 ε1 b n 24 4 k → Zx p l e (zXR 2 37 519) s m args below meth c D A 2 Q 37 519 94 [(1, .int (nI k)), (0, .ref (ad b))] [] (n + 37) ad1 ε1 := by
    intro j
    induction j with
    | zero =>
      intro k ad1 ε1 hj hk h1 h2 h3
      refine x_iload_n C 94 1 0 dX5_init_94 rfl rfl ?_
      refine x_iconst C 95 (v := 4) dX5_init_95 (by decide +kernel) ?_
      refine x_icmp_ge C 96 116 dX5_init_96 (by decide) (fun _ => ?_) (fun h => absurd (zge (b := 4) (by omega) (by decide) h) (by omega))
      have e4 : k = 4 := by omega
      exact x_vret C 116 hA hQ dX5_init_116 ⟨rfl, ⟨by omega, h1, h2⟩, e4 ▸ h3⟩
    | succ j ih =>
      intro k ad1 ε1 hj hk h1 h2 h3
      refine x_iload_n C 94 1 0 dX5_init_94 rfl rfl ?_
      refine x_iconst C 95 (v := 4) dX5_init_95 (by decide +kernel) ?_
      refine x_icmp_ge C 96 116 dX5_init_96 (by decide) (fun h => ?_) (fun h => ?_)
      · have e4 : k = 4 := by have := zle (a := 4) (by decide) (by omega) h; omega
        exact x_vret C 116 hA hQ dX5_init_116 ⟨rfl, ⟨by omega, h1, h2⟩, e4 ▸ h3⟩
      · have hk2 : k < 4 := zge (b := 4) (by omega) (by decide) h
        obtain ⟨g, hg, -⟩ := h3.2.2.2.2.1
        refine x_aload_n C 99 0 1 dX5_init_99 rfl rfl ?_
        refine x_getr C 100 b 3 (h1 b hb) dX5_init_100 (by omega) h3.1 oX5.2.1 rfl (by decide) oX5f.2.2.2 rfl ?_
        refine x_iload_n C 103 1 0 dX5_init_103 rfl rfl ?_
        refine x_getsN C 104 hz dX5_init_104 nst_f5_36 ?_
        refine x_iload_n C 107 1 0 dX5_init_107 rfl rfl ?_
        refine x_tald C 108 ht dX5_init_108 (vp_in_nI hk2 (by decide)) ?_
        rw [nI_clamp (by omega)]
        refine x_iast C 109 (n + 4) k rfl dX5_init_109 (by omega) hg rfl hk2 (by decide) ?_
        refine x_iinc C 110 (v := nI (k + 1)) 1 0 [(1, .int (nI (k + 1))), (0, .ref (ad b))] dX5_init_110 rfl (nI_1 _) (by decide) rfl ?_
        refine x_goto C 113 94 dX5_init_113 (by decide) ?_
        exact ih (k + 1) ad1 _ (by omega) (by omega) h1 (fun c hc hcb => (zu_ne _ _ (by omega)).trans (h2 c hc hcb)) (h3.setting hb hg)
  -- streets
  have L2 : ∀ (j k : Nat) (ad1 : Nat → Nat) (ε1 : Nat → va_E), 4 ≤ k + j → k ≤ 4 → (∀ c, c < n → ad1 c = ad c) → (∀ c, c < n → c ≠ b → ε1 c = ε c) → zTI cy ad1 ε1 b n 24 k 0 → Zx p l e (zXR 2 37 519) s m args below meth c D A 2 Q (29 + 2 * k) (431 + 22 * k) 68 [(1, .int (nI k)), (0, .ref (ad b))] [] (n + 29 + 2 * k) ad1 ε1 := by
    have fin : ∀ (k : Nat) (ad1 : Nat → Nat) (ε1 : Nat → va_E), k = 4 → (∀ c, c < n → ad1 c = ad c) → (∀ c, c < n → c ≠ b → ε1 c = ε c) → zTI cy ad1 ε1 b n 24 k 0 → Zx p l e (zXR 2 37 519) s m args below meth c D A 2 Q (29 + 2 * k) (431 + 22 * k) 92 [(1, .int (nI k)), (0, .ref (ad b))] [] (n + 29 + 2 * k) ad1 ε1 := by
      intro k ad1 ε1 hk h1 h2 h3
      subst hk
      refine x_iconst C 92 (v := 0) dX5_init_92 (by decide +kernel) ?_
      refine x_istore_n C 93 1 [(1, .int (nI 0)), (0, .ref (ad b))] dX5_init_93 rfl (by decide) rfl ?_
      exact L3 4 0 ad1 ε1 (by omega) (by omega) h1 h2 h3
    intro j
    induction j with
    | zero =>
      intro k ad1 ε1 hj hk h1 h2 h3
      refine x_iload_n C 68 1 0 dX5_init_68 rfl rfl ?_
      refine x_iconst C 69 (v := 4) dX5_init_69 (by decide +kernel) ?_
      refine x_icmp_ge C 70 92 dX5_init_70 (by decide) (fun _ => fin k ad1 ε1 (by omega) h1 h2 h3) (fun h => absurd (zge (b := 4) (by omega) (by decide) h) (by omega))
    | succ j ih =>
      intro k ad1 ε1 hj hk h1 h2 h3
      refine x_iload_n C 68 1 0 dX5_init_68 rfl rfl ?_
      refine x_iconst C 69 (v := 4) dX5_init_69 (by decide +kernel) ?_
      refine x_icmp_ge C 70 92 dX5_init_70 (by decide) (fun h => fin k ad1 ε1 (by have := zle (a := 4) (by decide) (by omega) h; omega) h1 h2 h3) (fun h => ?_)
      have hk2 : k < 4 := zge (b := 4) (by omega) (by decide) h
      obtain ⟨fs, hfs, -⟩ := h3.2.2.1
      refine x_aload_n C 73 0 1 dX5_init_73 rfl rfl ?_
      refine x_getr C 74 b 1 (h1 b hb) dX5_init_74 (by omega) h3.1 oX5.2.1 rfl (by decide) oX5f.2.1 rfl ?_
      refine x_iload_n C 77 1 0 dX5_init_77 rfl rfl ?_
      refine x_new C 78 tyX4 dX5_init_78 oX5m.2.1 tyX4_ok oX5.2.2.2.1.2.1 oX5.2.2.2.2.1.2.1 oX5.2.2.2.2.2.2.1 (ci := 4) rfl hfs_Str (by show 29 + 2 * k + 1 ≤ 37; omega) (by show 431 + 22 * k + 2 ≤ 519; omega) (fun q => ?_)
      refine x_dup C 81 dX5_init_81 rfl ?_
      have en : zu ad1 (n + 29 + 2 * k) q (n + 29 + 2 * k) = q := zu_eq _ _ _
      refine x_init C 82 (b := q) (en ▸ kX4_init l D cy (n + 29 + 2 * k + 1) (zu ad1 (n + 29 + 2 * k) q) _ (n + 29 + 2 * k) (by omega) (zu_eq _ _ _)) dX5_init_82 rfl gX5_init_X4_init oX5m.2.2.2.2.2.2 oX5m.2.2.2.2.2.1 oX5.2.2.2.2.2.2.1 rfl hyX4_init rfl (by decide) (by decide) (by omega) (by omega) (Nat.le_of_ble_eq_true rfl) (fun n2 ad2 ε2 hp => ?_)
      obtain ⟨rfl, ⟨-, g1, g2⟩, g3⟩ := hp
      have g4 : zStB cy ad2 ε2 (n + 29 + 2 * k) (n + 30 + 2 * k) := by rw [show n + 30 + 2 * k = n + 29 + 2 * k + 1 by omega]; exact g3
      have a1 : ∀ c, c < n + 29 + 2 * k → ad2 c = ad1 c := fun c hc => (g1 c (by omega)).trans (zu_ne _ _ (by omega))
      have a2 : ∀ c, c < n + 29 + 2 * k → ε2 c = ε1 c := fun c hc => (g2 c (by omega) (by omega)).trans (zu_ne _ _ (by omega))
      refine x_astq C 85 (n + 1) k (n + 29 + 2 * k) (a1 _ (by omega)) ((g1 _ (by omega)).trans en) dX5_init_85 (by omega) ((a2 _ (by omega)).trans hfs) (t0 := 2) rfl (by omega) g3.1 (ci := 4) rfl rfl hk2 (by decide) ?_
      refine x_iinc C 86 (v := nI (k + 1)) 1 0 [(1, .int (nI (k + 1))), (0, .ref (ad b))] dX5_init_86 rfl (nI_1 _) (by decide) rfl ?_
      refine x_goto C 89 68 dX5_init_89 (by decide) ?_
      refine x_wd (mc2 := 29 + 2 * (k + 1)) (ms2 := 431 + 22 * (k + 1)) (by omega) (by omega) ?_
      refine ih (k + 1) ad2 _ (by omega) (by omega) (fun c hc => (a1 c (by omega)).trans (h1 c hc)) (fun c hc hcb => (zu_ne _ _ (by omega)).trans ((a2 c (by omega)).trans (h2 c hc hcb))) ?_
      refine h3.street hb hfs a1 (fun c hc hcm => (zu_ne _ _ hcm).trans (a2 c hc)) ?_ (g4.fr rfl (zu_ne _ _ (by omega)) (zu_ne _ _ (by omega)))
      rw [zu_eq, g1 _ (by omega), en]
  -- houses
  have L1 : ∀ (j k : Nat) (ad1 : Nat → Nat) (ε1 : Nat → va_E), 24 ≤ k + j → k ≤ 24 → (∀ c, c < n → ad1 c = ad c) → (∀ c, c < n → c ≠ b → ε1 c = ε c) → zTI cy ad1 ε1 b n k 0 0 → Zx p l e (zXR 2 37 519) s m args below meth c D A 2 Q (5 + k) (95 + 14 * k) 41 [(1, .int (nI k)), (0, .ref (ad b))] [] (n + 5 + k) ad1 ε1 := by
    have fin : ∀ (k : Nat) (ad1 : Nat → Nat) (ε1 : Nat → va_E), k = 24 → (∀ c, c < n → ad1 c = ad c) → (∀ c, c < n → c ≠ b → ε1 c = ε c) → zTI cy ad1 ε1 b n k 0 0 → Zx p l e (zXR 2 37 519) s m args below meth c D A 2 Q (5 + k) (95 + 14 * k) 66 [(1, .int (nI k)), (0, .ref (ad b))] [] (n + 5 + k) ad1 ε1 := by
      intro k ad1 ε1 hk h1 h2 h3
      subst hk
      refine x_iconst C 66 (v := 0) dX5_init_66 (by decide +kernel) ?_
      refine x_istore_n C 67 1 [(1, .int (nI 0)), (0, .ref (ad b))] dX5_init_67 rfl (by decide) rfl ?_
      exact L2 4 0 ad1 ε1 (by omega) (by omega) h1 h2 h3
    intro j
    induction j with
    | zero =>
      intro k ad1 ε1 hj hk h1 h2 h3
      refine x_iload_n C 41 1 0 dX5_init_41 rfl rfl ?_
      refine x_bipush C 42 (v := 24) dX5_init_42 (by decide +kernel) ?_
      refine x_icmp_ge C 44 66 dX5_init_44 (by decide) (fun _ => fin k ad1 ε1 (by omega) h1 h2 h3) (fun h => absurd (zge (b := 24) (by omega) (by decide) h) (by omega))
    | succ j ih =>
      intro k ad1 ε1 hj hk h1 h2 h3
      refine x_iload_n C 41 1 0 dX5_init_41 rfl rfl ?_
      refine x_bipush C 42 (v := 24) dX5_init_42 (by decide +kernel) ?_
      refine x_icmp_ge C 44 66 dX5_init_44 (by decide) (fun h => fin k ad1 ε1 (by have := zle (a := 24) (by decide) (by omega) h; omega) h1 h2 h3) (fun h => ?_)
      have hk2 : k < 24 := zge (b := 24) (by omega) (by decide) h
      obtain ⟨fh, hfh, -⟩ := h3.2.1
      refine x_aload_n C 47 0 1 dX5_init_47 rfl rfl ?_
      refine x_getr C 48 b 0 (h1 b hb) dX5_init_48 (by omega) h3.1 oX5.2.1 rfl (by decide) oX5f.1 rfl ?_
      refine x_iload_n C 51 1 0 dX5_init_51 rfl rfl ?_
      refine x_new C 52 tyX1 dX5_init_52 oX5m.1 tyX1_ok oX5.2.2.2.1.1 oX5.2.2.2.2.1.1 oX5.2.2.2.2.2.1 (ci := 1) rfl hfs_House (by show 5 + k + 1 ≤ 37; omega) (by show 95 + 14 * k + 14 ≤ 519; omega) (fun q => ?_)
      refine x_dup C 55 dX5_init_55 rfl ?_
      have en : zu ad1 (n + 5 + k) q (n + 5 + k) = q := zu_eq _ _ _
      refine x_initN C 56 (b := q) (en ▸ kX1_init l D cy (n + 5 + k + 1) (zu ad1 (n + 5 + k) q) _ (n + 5 + k) (by omega) (zu_eq _ _ _)) dX5_init_56 rfl gX5_init_X1_init_n34 nst_m5_34 oX5m.2.2.2.1 oX5.2.2.2.2.2.1 rfl hyX1_init rfl (by decide) (by decide) (by omega) (by omega) (Nat.le_of_ble_eq_true rfl) (fun n2 ad2 ε2 hp => ?_)
      obtain ⟨rfl, rfl, rfl⟩ := hp
      have a1 : ∀ c, c < n + 5 + k → (zu ad1 (n + 5 + k) q) c = ad1 c := fun c hc => zu_ne _ _ (by omega)
      refine x_astq C 59 n k (n + 5 + k) (a1 _ (by omega)) en dX5_init_59 (by omega) ((zu_ne _ _ (by omega)).trans ((zu_ne _ _ (by omega)).trans hfh)) (t0 := 1) rfl (by omega) (zu_eq _ _ _) (ci := 1) rfl rfl hk2 (by decide) ?_
      refine x_iinc C 60 (v := nI (k + 1)) 1 0 [(1, .int (nI (k + 1))), (0, .ref (ad b))] dX5_init_60 rfl (nI_1 _) (by decide) rfl ?_
      refine x_goto C 63 41 dX5_init_63 (by decide) ?_
      refine x_wd (mc2 := 5 + (k + 1)) (ms2 := 95 + 14 * (k + 1)) (by omega) (by omega) ?_
      have a2 : ∀ c, c < n + 5 + k → c ≠ n → (zu (zu (zu ε1 (n + 5 + k) eH0) (n + 5 + k) eH) n (eR (cy 1) 24 (va_up fh k (some q)))) c = ε1 c := fun c hc hcn => by rw [zu_ne _ _ hcn, zu_ne _ _ (by omega), zu_ne _ _ (by omega)]
      refine ih (k + 1) _ _ (by omega) (by omega) (fun c hc => (a1 c (by omega)).trans (h1 c hc)) (fun c hc hcb => (a2 c (by omega) (by omega)).trans (h2 c hc hcb)) ?_
      refine h3.house hb hfh a1 a2 ?_ ?_
      · rw [zu_eq, en]
      · rw [zu_ne _ _ (by omega), zu_eq]
  -- the straight part
  refine x_aload_n C 0 0 0 dX5_init_0 rfl rfl ?_
  refine x_obj C 1 (d := 2) dX5_init_1 oX5.1.1 oX5.1.2.1 oX5.1.2.2 rfl (by decide) (Nat.le_of_ble_eq_true rfl) ?_
  refine x_aload_n C 4 0 0 dX5_init_4 rfl rfl ?_
  refine x_bipush C 5 (v := 24) dX5_init_5 (by decide +kernel) ?_
  refine x_objs C 7 (t0 := 1) 24 dX5_init_7 oX5.2.2.2.1.1 aoH rfl (by decide +kernel) (by decide +kernel) (Nat.le_of_ble_eq_true rfl) (Nat.le_of_ble_eq_true rfl) (Nat.le_of_ble_eq_true rfl) (fun q1 => ?_)
  refine x_putF C 10 (ty := .array (.object RX1)) b 0 (zu_ne _ _ (by omega)) dX5_init_10 (by omega) ((zu_ne _ _ (by omega)).trans he) oX5.2.1 tyX5 tyX5_ok nmX5 rfl (by decide) oX5f.1 rfl rfl (by decide +kernel) rfl rfl (Nat.le_of_ble_eq_true rfl) ?_
  refine x_aload_n C 13 0 0 dX5_init_13 rfl rfl ?_
  refine x_iconst C 14 (v := 4) dX5_init_14 (by decide +kernel) ?_
  refine x_objs C 15 (t0 := 2) 4 dX5_init_15 oX5.2.2.2.1.2.1 aoS rfl (by decide +kernel) (by decide +kernel) (Nat.le_of_ble_eq_true rfl) (Nat.le_of_ble_eq_true rfl) (Nat.le_of_ble_eq_true rfl) (fun q2 => ?_)
  refine x_putF C 18 (ty := .array (.object RX4)) b 1 ((zu_ne _ _ (by omega)).trans (zu_ne _ _ (by omega))) dX5_init_18 (by omega) ((zu_ne _ _ (by omega)).trans (zu_eq _ _ _)) oX5.2.1 tyX5 tyX5_ok nmX5 rfl (by decide) oX5f.2.1 rfl rfl (by decide +kernel) rfl rfl (Nat.le_of_ble_eq_true rfl) ?_
  refine x_aload_n C 21 0 0 dX5_init_21 rfl rfl ?_
  refine x_new C 22 tyX2 dX5_init_22 oX5m.2.2.1 tyX2_ok oX5.2.2.2.1.2.2 oX5.2.2.2.2.1.2.2 oX5.2.2.2.2.2.2.2 (ci := 2) rfl hfs_Led (Nat.le_of_ble_eq_true rfl) (Nat.le_of_ble_eq_true rfl) (fun q3 => ?_)
  refine x_dup C 25 dX5_init_25 rfl ?_
  have en : zu (zu (zu ad n q1) (n + 1) q2) (n + 1 + 1) q3 (n + 1 + 1) = q3 := zu_eq _ _ _
  refine x_initN C 26 (b := q3) (en ▸ kX2_init l D cy (n + 1 + 1 + 1) (zu (zu (zu ad n q1) (n + 1) q2) (n + 1 + 1) q3) _ (n + 1 + 1) (by omega) (zu_eq _ _ _)) dX5_init_26 rfl gX5_init_X2_init_n25 nst_m5_25 oX5m.2.2.2.2.1 oX5.2.2.2.2.2.2.2 rfl hyX2_init rfl (by decide) (by decide) (Nat.le_of_ble_eq_true rfl) (Nat.le_of_ble_eq_true rfl) (Nat.le_of_ble_eq_true rfl) (fun n2 ad2 ε2 hp => ?_)
  obtain ⟨rfl, ⟨-, g1, g2⟩, g3, g4⟩ := hp
  have b1 : ad2 n = q1 := (g1 n (by omega)).trans (by rw [zu_ne _ _ (by omega), zu_ne _ _ (by omega), zu_eq])
  have b2 : ad2 (n + 1) = q2 := (g1 (n + 1) (by omega)).trans (by rw [zu_ne _ _ (by omega), zu_eq])
  have b3 : ad2 (n + 2) = q3 := (g1 (n + 2) (by omega)).trans (zu_eq _ _ _)
  have b0 : ∀ c, c < n → ad2 c = ad c := fun c hc => (g1 c (by omega)).trans (by rw [zu_ne _ _ (by omega), zu_ne _ _ (by omega), zu_ne _ _ (by omega)])
  have c0 : ε2 b = .inr (5, [.ref q1, .ref q2, .null, .null, .int 0, .int 0, .int 0, .int 0, .int 0, .int 0, .int 0, .int 0, .int 0]) := (g2 b (by omega) (by omega)).trans ((zu_ne _ _ (by omega)).trans (zu_eq _ _ _))
  have c1 : ε2 n = eR (cy 1) 24 (fun _ => none) := (g2 n (by omega) (by omega)).trans (by rw [zu_ne _ _ (by omega), zu_ne _ _ (by omega), zu_ne _ _ (by omega), zu_ne _ _ (by omega), zu_eq])
  have c2 : ε2 (n + 1) = eR (cy 2) 4 (fun _ => none) := (g2 (n + 1) (by omega) (by omega)).trans (by rw [zu_ne _ _ (by omega), zu_ne _ _ (by omega), zu_eq])
  have c3 : ∀ c, c < n → c ≠ b → ε2 c = ε c := fun c hc hcb => (g2 c (by omega) (by omega)).trans (by rw [zu_ne _ _ (by omega), zu_ne _ _ hcb, zu_ne _ _ (by omega), zu_ne _ _ hcb, zu_ne _ _ (by omega)])
  refine x_putF C 29 (ty := .object RX2) b 2 (b0 b hb) dX5_init_29 (by omega) c0 oX5.2.1 tyX5 tyX5_ok nmX5 rfl (by decide) oX5f.2.2.1 rfl rfl (by decide +kernel) rfl rfl (Nat.le_of_ble_eq_true rfl) ?_
  refine x_aload_n C 32 0 0 dX5_init_32 rfl rfl ?_
  refine x_iconst C 33 (v := 4) dX5_init_33 (by decide +kernel) ?_
  refine x_ints C 34 4 dX5_init_34 oX5.2.2.1 (by decide +kernel) (by decide +kernel) (Nat.le_of_ble_eq_true rfl) (Nat.le_of_ble_eq_true rfl) (Nat.le_of_ble_eq_true rfl) (fun q4 => ?_)
  refine x_putF C 36 (ty := .array .int) b 3 ((zu_ne _ _ (by omega)).trans (b0 b hb)) dX5_init_36 (by omega) ((zu_ne _ _ (by omega)).trans (zu_eq _ _ _)) oX5.2.1 tyX5 tyX5_ok nmX5 rfl (by decide) oX5f.2.2.2 rfl rfl (by decide +kernel) rfl rfl (Nat.le_of_ble_eq_true rfl) ?_
  refine x_iconst C 39 (v := 0) dX5_init_39 (by decide +kernel) ?_
  refine x_istore_n C 40 1 [(1, .int (nI 0)), (0, .ref (ad b))] dX5_init_40 rfl (by decide) rfl ?_
  refine L1 24 0 _ _ (by omega) (by omega) (fun c hc => (zu_ne _ _ (by omega)).trans (b0 c hc)) (fun c hc hcb => ?_) ⟨?_, ⟨fun _ => none, ?_, fun i hi => absurd hi (by omega)⟩, ⟨fun _ => none, ?_, fun i hi => absurd hi (by omega)⟩, ⟨?_, ?_⟩, ⟨fun _ => 0, ?_, fun i hi => absurd hi (by omega)⟩, fun i hi => absurd hi (by omega), fun i hi => absurd hi (by omega)⟩
  · rw [zu_ne _ _ hcb, zu_ne _ _ (by omega), zu_ne _ _ hcb]; exact c3 c hc hcb
  · rw [zu_eq]
    unfold eT
    rw [zu_ne _ _ (show n ≠ n + 1 + 1 + 1 + 1 by omega), zu_ne _ _ (show n + 1 ≠ n + 1 + 1 + 1 + 1 by omega), zu_ne _ _ (show n + 2 ≠ n + 1 + 1 + 1 + 1 by omega), b1, b2, b3, show n + 4 = n + 1 + 1 + 1 + 1 by omega, zu_eq]
    rfl
  · rw [zu_ne _ _ (by omega), zu_ne _ _ (by omega), zu_ne _ _ (by omega)]; exact c1
  · rw [zu_ne _ _ (by omega), zu_ne _ _ (by omega), zu_ne _ _ (by omega)]; exact c2
  · rw [zu_ne _ _ (by omega), zu_ne _ _ (by omega), zu_ne _ _ (by omega), zu_ne _ _ (by omega)]; exact g3
  · rw [zu_ne _ _ (by omega), zu_ne _ _ (by omega), zu_ne _ _ (by omega)]; exact g4
  · rw [zu_ne _ _ (by omega), zu_eq]
