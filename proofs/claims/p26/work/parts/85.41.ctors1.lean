/-! the small constructors -/
def eH0 : va_E := .inr (1, [.int 0, .int 0, .int 0, .int 0, .int 0, .int 0, .int 0, .int 0, .int 0, .int 0, .int 0, .int 0, .int 0, .int 0])
def eH : va_E := .inr (1, [.int 0, .int 0, .int 0, .int 0, .int 0, .int 0, .int 0, .int (-1), .int 0, .int 0, .int 0, .int 0, .int 0, .int 0])
/-- what was there stays, but the cell b -/
def zGr (n : Nat) (ad : Nat → Nat) (ε : Nat → va_E) (b : Nat) (n1 : Nat) (ad1 : Nat → Nat) (ε1 : Nat → va_E) : Prop := n ≤ n1 ∧ (∀ c, c < n → ad1 c = ad c) ∧ ∀ c, c < n → c ≠ b → ε1 c = ε c
theorem hyX1_init : yX1_init.cls ≠ "java/lang/invoke/MethodHandle" ∧ yX1_init.cls ≠ "java/lang/invoke/VarHandle" ∧ (parseMethodDescriptor yX1_init.desc).map (fun d => d.parameters.length) = some 0 := by decide +kernel
theorem hyX2_init : yX2_init.cls ≠ "java/lang/invoke/MethodHandle" ∧ yX2_init.cls ≠ "java/lang/invoke/VarHandle" ∧ (parseMethodDescriptor yX2_init.desc).map (fun d => d.parameters.length) = some 0 := by decide +kernel
theorem hyX3_init : yX3_init.cls ≠ "java/lang/invoke/MethodHandle" ∧ yX3_init.cls ≠ "java/lang/invoke/VarHandle" ∧ (parseMethodDescriptor yX3_init.desc).map (fun d => d.parameters.length) = some 0 := by decide +kernel
theorem hyX4_init : yX4_init.cls ≠ "java/lang/invoke/MethodHandle" ∧ yX4_init.cls ≠ "java/lang/invoke/VarHandle" ∧ (parseMethodDescriptor yX4_init.desc).map (fun d => d.parameters.length) = some 0 := by decide +kernel
theorem hyX5_init : yX5_init.cls ≠ "java/lang/invoke/MethodHandle" ∧ yX5_init.cls ≠ "java/lang/invoke/VarHandle" ∧ (parseMethodDescriptor yX5_init.desc).map (fun d => d.parameters.length) = some 0 := by decide +kernel
theorem hyX0_init : yX0_init.cls ≠ "java/lang/invoke/MethodHandle" ∧ yX0_init.cls ≠ "java/lang/invoke/VarHandle" ∧ (parseMethodDescriptor yX0_init.desc).map (fun d => d.parameters.length) = some 0 := by decide +kernel
theorem hyX6_init : yX6_init.cls ≠ "java/lang/invoke/MethodHandle" ∧ yX6_init.cls ≠ "java/lang/invoke/VarHandle" ∧ (parseMethodDescriptor yX6_init.desc).map (fun d => d.parameters.length) = some 0 := by decide +kernel
set_option maxRecDepth 20000 in
theorem oX1 : (Cond.methodLink RX1 3 objectInit ∈ wsX1_init ∧ Cond.instanceMethod objectInit ∈ wsX1_init ∧ Cond.code objectInit ⟨#[0xb1]⟩ 1 none ∈ wsX1_init) ∧ Cond.fieldLink RX1 9 "WrongedMeters$House" "latestDay" "I" ∈ wsX1_init ∧ ∀ w ∈ u_ws RX1 TX1 14, w ∈ wsX1_init := by decide +kernel
set_option maxRecDepth 20000 in
theorem oX2 : (Cond.methodLink RX2 3 objectInit ∈ wsX2_init ∧ Cond.instanceMethod objectInit ∈ wsX2_init ∧ Cond.code objectInit ⟨#[0xb1]⟩ 1 none ∈ wsX2_init) ∧ Cond.fieldLink RX2 11 "WrongedMeters$Ledger" "facts" "[I" ∈ wsX2_init ∧ (∀ w ∈ u_ws RX2 TX2 3, w ∈ wsX2_init) ∧ Cond.arrayClass .int ∈ wsX2_init := by decide +kernel
set_option maxRecDepth 20000 in
theorem oX3 : (Cond.methodLink RX3 3 objectInit ∈ wsX3_init ∧ Cond.instanceMethod objectInit ∈ wsX3_init ∧ Cond.code objectInit ⟨#[0xb1]⟩ 1 none ∈ wsX3_init) ∧ Cond.fieldLink RX3 11 "WrongedMeters$Orders" "text" "[I" ∈ wsX3_init ∧ (∀ w ∈ u_ws RX3 TX3 10, w ∈ wsX3_init) ∧ Cond.arrayClass .int ∈ wsX3_init := by decide +kernel
set_option maxRecDepth 20000 in
theorem oX4 : (Cond.methodLink RX4 3 objectInit ∈ wsX4_init ∧ Cond.instanceMethod objectInit ∈ wsX4_init ∧ Cond.code objectInit ⟨#[0xb1]⟩ 1 none ∈ wsX4_init) ∧ Cond.fieldLink RX4 9 "WrongedMeters$Street" "houses" "[I" ∈ wsX4_init ∧ (∀ w ∈ u_ws RX4 TX4 2, w ∈ wsX4_init) ∧ Cond.arrayClass .int ∈ wsX4_init ∧ Cond.fieldLink RX4 15 "WrongedMeters$Street" "latestStep" "I" ∈ wsX4_init := by decide +kernel
theorem kX1_init (l : Launch) (D : va_G) (cy : Nat → ClassId) (n : Nat) (ad : Nat → Nat) (ε : Nat → va_E) (b : Nat) (hb : b < n) (he : ε b = eH0) : zXV l yX1_init wsX1_init 1 0 0 D cy n ad ε [.ref (ad b)] (fun n1 ad1 ε1 => n1 = n ∧ ad1 = ad ∧ ε1 = zu ε b eH) := by
  refine x_start (cc := cX1_init) (mL := 1) (own := RX1) rfl (by decide +kernel) rfl rfl (Nat.le_of_ble_eq_true rfl) ?_
  intro p e s m args below meth c A hA Q hQ C
  refine x_aload_n C 0 0 0 dX1_init_0 rfl rfl ?_
  refine x_obj C 1 (d := 1) dX1_init_1 oX1.1.1 oX1.1.2.1 oX1.1.2.2 rfl (by decide) (Nat.le_of_ble_eq_true rfl) ?_
  refine x_aload_n C 4 0 0 dX1_init_4 rfl rfl ?_
  refine x_iconst C 5 (v := -1) dX1_init_5 (by decide +kernel) ?_
  refine x_put C 6 (ty := .int) b 7 rfl dX1_init_6 hb he oX1.2.2 tyX1 tyX1_ok nmX1 rfl (by decide) oX1.2.1 rfl (by decide +kernel) (vp_nar_int _) (zfit_i _) (Nat.le_of_ble_eq_true rfl) ?_
  exact x_vret C 9 hA hQ dX1_init_9 ⟨rfl, rfl, rfl⟩
theorem znarR (C : String) (a : Nat) : narrow (.object C) (.ref a) = .ref a := rfl
theorem znarA (t : FieldType) (a : Nat) : narrow (.array t) (.ref a) = .ref a := rfl
theorem kX2_init (l : Launch) (D : va_G) (cy : Nat → ClassId) (n : Nat) (ad : Nat → Nat) (ε : Nat → va_E) (b : Nat) (hb : b < n) (he : ε b = .inr (2, [.null, .int 0, .int 0])) : zXV l yX2_init wsX2_init 1 1 60 D cy n ad ε [.ref (ad b)] (fun n1 ad1 ε1 => n1 = n + 1 ∧ zGr n ad ε b n1 ad1 ε1 ∧ ε1 b = .inr (2, [.ref (ad1 n), .int 0, .int 0]) ∧ ε1 n = .inl (cy 0, 60, .inl (fun _ => 0))) := by
  refine x_start (cc := cX2_init) (mL := 1) (own := RX2) rfl (by decide +kernel) rfl rfl (Nat.le_of_ble_eq_true rfl) ?_
  intro p e s m args below meth c A hA Q hQ C
  refine x_aload_n C 0 0 0 dX2_init_0 rfl rfl ?_
  refine x_obj C 1 (d := 1) dX2_init_1 oX2.1.1 oX2.1.2.1 oX2.1.2.2 rfl (by decide) (Nat.le_of_ble_eq_true rfl) ?_
  refine x_aload_n C 4 0 0 dX2_init_4 rfl rfl ?_
  refine x_bipush C 5 (v := 60) dX2_init_5 (by decide +kernel) ?_
  refine x_ints C 7 60 dX2_init_7 oX2.2.2.2 (by decide +kernel) (by decide +kernel) (Nat.le_of_ble_eq_true rfl) (Nat.le_of_ble_eq_true rfl) (Nat.le_of_ble_eq_true rfl) (fun q => ?_)
  refine x_putF C 9 (ty := .array .int) b 0 (zu_ne _ _ (by omega)) dX2_init_9 (by omega) ((zu_ne _ _ (by omega)).trans he) oX2.2.2.1 tyX2 tyX2_ok nmX2 rfl (by decide) oX2.2.1 rfl rfl (by decide +kernel) rfl rfl (Nat.le_of_ble_eq_true rfl) ?_
  refine x_vret C 12 hA hQ dX2_init_12 ⟨rfl, ⟨by omega, fun c hc => zu_ne _ _ (by omega), fun c hc h => ?_⟩, ?_, ?_⟩
  · rw [zu_ne _ _ h, zu_ne _ _ (by omega)]
  · rw [zu_eq, zu_eq]; rfl
  · rw [zu_ne _ _ (by omega), zu_eq]
theorem kX3_init (l : Launch) (D : va_G) (cy : Nat → ClassId) (n : Nat) (ad : Nat → Nat) (ε : Nat → va_E) (b : Nat) (hb : b < n) (he : ε b = .inr (3, [.null, .int 0, .int 0, .int 0, .int 0, .int 0, .int 0, .int 0, .int 0, .int 0])) : zXV l yX3_init wsX3_init 1 1 60 D cy n ad ε [.ref (ad b)] (fun n1 ad1 ε1 => n1 = n + 1 ∧ zGr n ad ε b n1 ad1 ε1 ∧ ε1 b = .inr (3, [.ref (ad1 n), .int 0, .int 0, .int 0, .int 0, .int 0, .int 0, .int 0, .int 0, .int 0]) ∧ ε1 n = .inl (cy 0, 60, .inl (fun _ => 0))) := by
  refine x_start (cc := cX3_init) (mL := 1) (own := RX3) rfl (by decide +kernel) rfl rfl (Nat.le_of_ble_eq_true rfl) ?_
  intro p e s m args below meth c A hA Q hQ C
  refine x_aload_n C 0 0 0 dX3_init_0 rfl rfl ?_
  refine x_obj C 1 (d := 1) dX3_init_1 oX3.1.1 oX3.1.2.1 oX3.1.2.2 rfl (by decide) (Nat.le_of_ble_eq_true rfl) ?_
  refine x_aload_n C 4 0 0 dX3_init_4 rfl rfl ?_
  refine x_bipush C 5 (v := 60) dX3_init_5 (by decide +kernel) ?_
  refine x_ints C 7 60 dX3_init_7 oX3.2.2.2 (by decide +kernel) (by decide +kernel) (Nat.le_of_ble_eq_true rfl) (Nat.le_of_ble_eq_true rfl) (Nat.le_of_ble_eq_true rfl) (fun q => ?_)
  refine x_putF C 9 (ty := .array .int) b 0 (zu_ne _ _ (by omega)) dX3_init_9 (by omega) ((zu_ne _ _ (by omega)).trans he) oX3.2.2.1 tyX3 tyX3_ok nmX3 rfl (by decide) oX3.2.1 rfl rfl (by decide +kernel) rfl rfl (Nat.le_of_ble_eq_true rfl) ?_
  refine x_vret C 12 hA hQ dX3_init_12 ⟨rfl, ⟨by omega, fun c hc => zu_ne _ _ (by omega), fun c hc h => ?_⟩, ?_, ?_⟩
  · rw [zu_ne _ _ h, zu_ne _ _ (by omega)]
  · rw [zu_eq, zu_eq]; rfl
  · rw [zu_ne _ _ (by omega), zu_eq]
def eSt (a : Nat) : va_E := .inr (4, [.ref a, .int (-1)])
def zStB (cy : Nat → ClassId) (ad : Nat → Nat) (ε : Nat → va_E) (b m : Nat) : Prop := ε b = eSt (ad m) ∧ ∃ f : Nat → Int32, ε m = .inl (cy 0, 20, .inl f) ∧ ∀ i, i < 20 → f i = -1
set_option maxHeartbeats 1000000 in
theorem kX4_init (l : Launch) (D : va_G) (cy : Nat → ClassId) (n : Nat) (ad : Nat → Nat) (ε : Nat → va_E) (b : Nat) (hb : b < n) (he : ε b = .inr (4, [.null, .int 0])) : zXV l yX4_init wsX4_init 1 1 20 D cy n ad ε [.ref (ad b)] (fun n1 ad1 ε1 => n1 = n + 1 ∧ zGr n ad ε b n1 ad1 ε1 ∧ zStB cy ad1 ε1 b n) := by
  refine x_start (cc := cX4_init) (mL := 2) (own := RX4) rfl (by decide +kernel) rfl rfl (Nat.le_of_ble_eq_true rfl) ?_
  intro p e s m args below meth c A hA Q hQ C
  refine x_aload_n C 0 0 0 dX4_init_0 rfl rfl ?_
  refine x_obj C 1 (d := 1) dX4_init_1 oX4.1.1 oX4.1.2.1 oX4.1.2.2 rfl (by decide) (Nat.le_of_ble_eq_true rfl) ?_
  refine x_aload_n C 4 0 0 dX4_init_4 rfl rfl ?_
  refine x_bipush C 5 (v := 20) dX4_init_5 (by decide +kernel) ?_
  refine x_ints C 7 20 dX4_init_7 oX4.2.2.2.1 (by decide +kernel) (by decide +kernel) (Nat.le_of_ble_eq_true rfl) (Nat.le_of_ble_eq_true rfl) (Nat.le_of_ble_eq_true rfl) (fun q => ?_)
  refine x_putF C 9 (ty := .array .int) b 0 (zu_ne _ _ (by omega)) dX4_init_9 (by omega) ((zu_ne _ _ (by omega)).trans he) oX4.2.2.1 tyX4 tyX4_ok nmX4 rfl (by decide) oX4.2.1 rfl rfl (by decide +kernel) rfl rfl (Nat.le_of_ble_eq_true rfl) ?_
  refine x_aload_n C 12 0 0 dX4_init_12 rfl rfl ?_
  refine x_iconst C 13 (v := -1) dX4_init_13 (by decide +kernel) ?_
  refine x_put C 14 (ty := .int) b 1 (zu_ne _ _ (by omega)) dX4_init_14 (by omega) (zu_eq _ _ _) oX4.2.2.1 tyX4 tyX4_ok nmX4 rfl (by decide) oX4.2.2.2.2 rfl (by decide +kernel) (vp_nar_int _) (zfit_i _) (Nat.le_of_ble_eq_true rfl) ?_
  refine x_iconst C 17 (v := 0) dX4_init_17 (by decide +kernel) ?_
  refine x_istore_n C 18 1 [(1, .int (nI 0)), (0, .ref (ad b))] dX4_init_18 rfl (by decide) rfl ?_
  have L : ∀ (j k : Nat) (ε1 : Nat → va_E) (f : Nat → Int32), 20 ≤ k + j → k ≤ 20 → ε1 b = eSt q → ε1 n = .inl (cy 0, 20, .inl f) → (∀ i, i < k → f i = -1) → (∀ c, c < n → c ≠ b → ε1 c = ε c) → Zx p l e (zXR 1 1 20) s m args below meth c D A 2 Q (0 + 1) (0 + 20) 19 [(1, .int (nI k)), (0, .ref (ad b))] [] (n + 1) (zu ad n q) ε1 := by
    intro j
    induction j with
    | zero =>
      intro k ε1 f hj hk h1 h2 h3 h4
      refine x_iload_n C 19 1 0 dX4_init_19 rfl rfl ?_
      refine x_bipush C 20 (v := 20) dX4_init_20 (by decide +kernel) ?_
      refine x_icmp_ge C 22 38 dX4_init_22 (by decide) (fun _ => ?_) (fun h => absurd (zge (b := 20) (by omega) (by decide) h) (by omega))
      exact x_vret C 38 hA hQ dX4_init_38 ⟨rfl, ⟨by omega, fun c hc => zu_ne _ _ (by omega), h4⟩, by rw [zu_eq]; exact h1, f, h2, fun i hi => h3 i (by omega)⟩
    | succ j ih =>
      intro k ε1 f hj hk h1 h2 h3 h4
      refine x_iload_n C 19 1 0 dX4_init_19 rfl rfl ?_
      refine x_bipush C 20 (v := 20) dX4_init_20 (by decide +kernel) ?_
      refine x_icmp_ge C 22 38 dX4_init_22 (by decide) (fun h => ?_) (fun h => ?_)
      · exact x_vret C 38 hA hQ dX4_init_38 ⟨rfl, ⟨by omega, fun c hc => zu_ne _ _ (by omega), h4⟩, by rw [zu_eq]; exact h1, f, h2, fun i hi => h3 i (by have := zle (a := 20) (by decide) (by omega) h; omega)⟩
      · have hk2 : k < 20 := zge (b := 20) (by omega) (by decide) h
        refine x_aload_n C 25 0 1 dX4_init_25 rfl rfl ?_
        refine x_getr C 26 b 0 (zu_ne _ _ (by omega)) dX4_init_26 (by omega) h1 oX4.2.2.1 rfl (by decide) oX4.2.1 rfl ?_
        refine x_iload_n C 29 1 0 dX4_init_29 rfl rfl ?_
        refine x_iconst C 30 (v := -1) dX4_init_30 (by decide +kernel) ?_
        refine x_iast C 31 n k (zu_eq _ _ _) dX4_init_31 (by omega) h2 rfl hk2 (by decide) ?_
        refine x_iinc C 32 (v := nI (k + 1)) 1 0 [(1, .int (nI (k + 1))), (0, .ref (ad b))] dX4_init_32 rfl (nI_1 _) (by decide) rfl ?_
        refine x_goto C 35 19 dX4_init_35 (by decide) ?_
        refine ih (k + 1) _ (upd f k (-1)) (by omega) (by omega) ((zu_ne _ _ (by omega)).trans h1) (zu_eq _ _ _) (fun i hi => ?_) (fun c hc hcb => (zu_ne _ _ (by omega)).trans (h4 c hc hcb))
        by_cases e : i = k
        · subst e; exact pk_us
        · rw [pk_un e]; exact h3 i (by omega)
  refine L 20 0 _ (fun _ => 0) (by omega) (by omega) (zu_eq _ _ _) ?_ (fun i hi => absurd hi (by omega)) (fun c hc hcb => ?_)
  · rw [zu_ne _ _ (by omega), zu_ne _ _ (by omega), zu_eq]
  · rw [zu_ne _ _ hcb, zu_ne _ _ hcb, zu_ne _ _ (by omega)]
