/-! the reference's constructor -/
set_option maxRecDepth 20000 in
theorem oX7 : (Cond.methodLink RX7 1 objectInit ∈ wsX7_init ∧ Cond.instanceMethod objectInit ∈ wsX7_init ∧ Cond.code objectInit ⟨#[0xb1]⟩ 1 none ∈ wsX7_init) ∧ (∀ w ∈ u_ws RX7 TX7 16, w ∈ wsX7_init) ∧ Cond.arrayClass .int ∈ wsX7_init := by decide +kernel
set_option maxRecDepth 20000 in
theorem oX7_s : Cond.fieldLink RX7 7 "WrongedMetersModel" "s" "[I" ∈ wsX7_init := by decide +kernel
set_option maxRecDepth 20000 in
theorem oX7_past : Cond.fieldLink RX7 13 "WrongedMetersModel" "past" "[I" ∈ wsX7_init := by decide +kernel
set_option maxRecDepth 20000 in
theorem oX7_held : Cond.fieldLink RX7 16 "WrongedMetersModel" "held" "[I" ∈ wsX7_init := by decide +kernel
set_option maxRecDepth 20000 in
theorem oX7_spare : Cond.fieldLink RX7 19 "WrongedMetersModel" "spare" "[I" ∈ wsX7_init := by decide +kernel
set_option maxRecDepth 20000 in
theorem oX7_text : Cond.fieldLink RX7 22 "WrongedMetersModel" "text" "[I" ∈ wsX7_init := by decide +kernel
set_option maxRecDepth 20000 in
theorem oX7_round : Cond.fieldLink RX7 25 "WrongedMetersModel" "round" "[I" ∈ wsX7_init := by decide +kernel
set_option maxRecDepth 20000 in
theorem oX7_numbers : Cond.fieldLink RX7 28 "WrongedMetersModel" "numbers" "[I" ∈ wsX7_init := by decide +kernel
def eM0 : va_E := .inr (7, [.null, .null, .null, .null, .int 0, .int 0, .null, .int 0, .null, .int 0, .int 0, .int 0, .int 0, .int 0, .int 0, .null])
def eM (ad : Nat → Nat) (m : Nat) : va_E := .inr (7, [.ref (ad m), .ref (ad (m + 1)), .ref (ad (m + 2)), .ref (ad (m + 3)), .int 0, .int 0, .ref (ad (m + 4)), .int 0, .ref (ad (m + 5)), .int 0, .int 0, .int 0, .int 0, .int 0, .int 0, .ref (ad (m + 6))])
def eS0 : Nat → Int32 := upd (upd (upd (upd (fun _ => 0) 410 3) 411 7) 412 50) 413 60
def zModI (cy : Nat → ClassId) (ad : Nat → Nat) (ε : Nat → va_E) (b m : Nat) : Prop := ε b = eM ad m ∧ ε m = .inl (cy 0, 414, .inl eS0) ∧ ε (m + 1) = .inl (cy 0, 1656, .inl (fun _ => 0)) ∧ ε (m + 2) = .inl (cy 0, 414, .inl (fun _ => 0)) ∧ ε (m + 3) = .inl (cy 0, 414, .inl (fun _ => 0)) ∧ ε (m + 4) = .inl (cy 0, 60, .inl (fun _ => 0)) ∧ ε (m + 5) = .inl (cy 0, 24, .inl (fun _ => 0)) ∧ ε (m + 6) = .inl (cy 0, 2, .inl (fun _ => 0))
set_option maxHeartbeats 3000000 in
set_option maxRecDepth 100000 in
theorem kX7_init (l : Launch) (D : va_G) (cy : Nat → ClassId) (n : Nat) (ad : Nat → Nat) (ε : Nat → va_E) (b : Nat) (hb : b < n) (he : ε b = eM0) : zXV l yX7_init wsX7_init 1 7 2984 D cy n ad ε [.ref (ad b)] (fun n1 ad1 ε1 => n1 = n + 7 ∧ zGr n ad ε b n1 ad1 ε1 ∧ zModI cy ad1 ε1 b n) := by
  refine x_start (cc := cX7_init) (mL := 1) (own := RX7) rfl (by decide +kernel) rfl rfl (Nat.le_of_ble_eq_true rfl) ?_
  intro p e s m args below meth c A hA Q hQ C
  refine x_aload_n C 0 0 0 dX7_init_0 rfl rfl ?_
  refine x_obj C 1 (d := 1) dX7_init_1 oX7.1.1 oX7.1.2.1 oX7.1.2.2 rfl (by decide) (Nat.le_of_ble_eq_true rfl) ?_
  have G0 : zGr n ad ε b n ad ε := ⟨Nat.le_refl _, fun _ _ => rfl, fun _ _ _ => rfl⟩
  have hb0 : ε b = .inr (7, [.null, .null, .null, .null, .int 0, .int 0, .null, .int 0, .null, .int 0, .int 0, .int 0, .int 0, .int 0, .int 0, .null]) := he
  refine x_aload_n C 4 0 0 dX7_init_4 rfl rfl ?_
  refine x_sipush C 5 (v := 414) dX7_init_5 (by decide +kernel) ?_
  refine x_ints C 8 414 dX7_init_8 oX7.2.2 (by decide +kernel) (by decide +kernel) (Nat.le_of_ble_eq_true rfl) (Nat.le_of_ble_eq_true rfl) (Nat.le_of_ble_eq_true rfl) (fun q0 => ?_)
  refine x_putF C 10 (ty := .array .int) b 0 ((zu_ne _ _ (by omega)).trans (G0.2.1 b hb)) dX7_init_10 (by omega) ((zu_ne _ _ (by omega)).trans hb0) oX7.2.1 tyX7 tyX7_ok nmX7 rfl (by decide) oX7_s rfl rfl (by decide +kernel) rfl rfl (Nat.le_of_ble_eq_true rfl) ?_
  have G1 : zGr n ad ε b (n + 1) (zu ad (n) q0) (zu (zu ε (n) (.inl (cy 0, 414, .inl (fun _ => 0)))) b (.inr (7, [.ref q0, .null, .null, .null, .int 0, .int 0, .null, .int 0, .null, .int 0, .int 0, .int 0, .int 0, .int 0, .int 0, .null]))) := ⟨by omega, fun c hc => (zu_ne _ _ (by omega)).trans (G0.2.1 c hc), fun c hc hcb => (zu_ne _ _ hcb).trans ((zu_ne _ _ (by omega)).trans (G0.2.2 c hc hcb))⟩
  have hb1 : (zu (zu ε (n) (.inl (cy 0, 414, .inl (fun _ => 0)))) b (.inr (7, [.ref q0, .null, .null, .null, .int 0, .int 0, .null, .int 0, .null, .int 0, .int 0, .int 0, .int 0, .int 0, .int 0, .null]) : va_E)) b = .inr (7, [.ref q0, .null, .null, .null, .int 0, .int 0, .null, .int 0, .null, .int 0, .int 0, .int 0, .int 0, .int 0, .int 0, .null]) := zu_eq _ _ _
  have u0 : (zu (zu ε (n) (.inl (cy 0, 414, .inl (fun _ => 0)))) b (.inr (7, [.ref q0, .null, .null, .null, .int 0, .int 0, .null, .int 0, .null, .int 0, .int 0, .int 0, .int 0, .int 0, .int 0, .null]) : va_E)) (n) = .inl (cy 0, 414, .inl (fun _ => 0)) := (zu_ne _ _ (by omega)).trans (zu_eq _ _ _)
  have w0 : (zu ad (n) q0) (n) = q0 := zu_eq _ _ _
  generalize ha0 : zu ad (n) q0 = ad1 at G1 w0
  generalize he0 : zu (zu ε (n) (.inl (cy 0, 414, .inl (fun _ => 0)))) b (.inr (7, [.ref q0, .null, .null, .null, .int 0, .int 0, .null, .int 0, .null, .int 0, .int 0, .int 0, .int 0, .int 0, .int 0, .null]) : va_E) = ε1 at G1 hb1 u0
  have hq0 : zu (zu ε (n) (.inl (cy 0, 414, .inl (fun _ => 0)))) b (.inr (7, ([.null, .null, .null, .null, .int 0, .int 0, .null, .int 0, .null, .int 0, .int 0, .int 0, .int 0, .int 0, .int 0, .null] : List Value).set 0 (.ref q0)) : va_E) = ε1 := he0
  rw [hq0]
  refine x_aload_n C 13 0 0 dX7_init_13 rfl rfl ?_
  refine x_sipush C 14 (v := 1656) dX7_init_14 (by decide +kernel) ?_
  refine x_ints C 17 1656 dX7_init_17 oX7.2.2 (by decide +kernel) (by decide +kernel) (Nat.le_of_ble_eq_true rfl) (Nat.le_of_ble_eq_true rfl) (Nat.le_of_ble_eq_true rfl) (fun q1 => ?_)
  refine x_putF C 19 (ty := .array .int) b 1 ((zu_ne _ _ (by omega)).trans (G1.2.1 b hb)) dX7_init_19 (by omega) ((zu_ne _ _ (by omega)).trans hb1) oX7.2.1 tyX7 tyX7_ok nmX7 rfl (by decide) oX7_past rfl rfl (by decide +kernel) rfl rfl (Nat.le_of_ble_eq_true rfl) ?_
  have G2 : zGr n ad ε b (n + 2) (zu ad1 (n + 1) q1) (zu (zu ε1 (n + 1) (.inl (cy 0, 1656, .inl (fun _ => 0)))) b (.inr (7, [.ref q0, .ref q1, .null, .null, .int 0, .int 0, .null, .int 0, .null, .int 0, .int 0, .int 0, .int 0, .int 0, .int 0, .null]))) := ⟨by omega, fun c hc => (zu_ne _ _ (by omega)).trans (G1.2.1 c hc), fun c hc hcb => (zu_ne _ _ hcb).trans ((zu_ne _ _ (by omega)).trans (G1.2.2 c hc hcb))⟩
  have hb2 : (zu (zu ε1 (n + 1) (.inl (cy 0, 1656, .inl (fun _ => 0)))) b (.inr (7, [.ref q0, .ref q1, .null, .null, .int 0, .int 0, .null, .int 0, .null, .int 0, .int 0, .int 0, .int 0, .int 0, .int 0, .null]) : va_E)) b = .inr (7, [.ref q0, .ref q1, .null, .null, .int 0, .int 0, .null, .int 0, .null, .int 0, .int 0, .int 0, .int 0, .int 0, .int 0, .null]) := zu_eq _ _ _
  have u1 : (zu (zu ε1 (n + 1) (.inl (cy 0, 1656, .inl (fun _ => 0)))) b (.inr (7, [.ref q0, .ref q1, .null, .null, .int 0, .int 0, .null, .int 0, .null, .int 0, .int 0, .int 0, .int 0, .int 0, .int 0, .null]) : va_E)) (n + 1) = .inl (cy 0, 1656, .inl (fun _ => 0)) := (zu_ne _ _ (by omega)).trans (zu_eq _ _ _)
  have w1 : (zu ad1 (n + 1) q1) (n + 1) = q1 := zu_eq _ _ _
  replace u0 := ((zu_ne _ _ (by omega)).trans ((zu_ne _ _ (by omega)).trans u0) : (zu (zu ε1 (n + 1) (.inl (cy 0, 1656, .inl (fun _ => 0)))) b (.inr (7, [.ref q0, .ref q1, .null, .null, .int 0, .int 0, .null, .int 0, .null, .int 0, .int 0, .int 0, .int 0, .int 0, .int 0, .null]) : va_E)) (n) = _)
  replace w0 := ((zu_ne _ _ (by omega)).trans w0 : (zu ad1 (n + 1) q1) (n) = _)
  generalize ha1 : zu ad1 (n + 1) q1 = ad2 at G2 w1 w0
  generalize he1 : zu (zu ε1 (n + 1) (.inl (cy 0, 1656, .inl (fun _ => 0)))) b (.inr (7, [.ref q0, .ref q1, .null, .null, .int 0, .int 0, .null, .int 0, .null, .int 0, .int 0, .int 0, .int 0, .int 0, .int 0, .null]) : va_E) = ε2 at G2 hb2 u1 u0
  have hq1 : zu (zu ε1 (n + 1) (.inl (cy 0, 1656, .inl (fun _ => 0)))) b (.inr (7, ([.ref q0, .null, .null, .null, .int 0, .int 0, .null, .int 0, .null, .int 0, .int 0, .int 0, .int 0, .int 0, .int 0, .null] : List Value).set 1 (.ref q1)) : va_E) = ε2 := he1
  rw [hq1, show n + 1 + 1 = n + 2 from rfl]
  refine x_aload_n C 22 0 0 dX7_init_22 rfl rfl ?_
  refine x_sipush C 23 (v := 414) dX7_init_23 (by decide +kernel) ?_
  refine x_ints C 26 414 dX7_init_26 oX7.2.2 (by decide +kernel) (by decide +kernel) (Nat.le_of_ble_eq_true rfl) (Nat.le_of_ble_eq_true rfl) (Nat.le_of_ble_eq_true rfl) (fun q2 => ?_)
  refine x_putF C 28 (ty := .array .int) b 2 ((zu_ne _ _ (by omega)).trans (G2.2.1 b hb)) dX7_init_28 (by omega) ((zu_ne _ _ (by omega)).trans hb2) oX7.2.1 tyX7 tyX7_ok nmX7 rfl (by decide) oX7_held rfl rfl (by decide +kernel) rfl rfl (Nat.le_of_ble_eq_true rfl) ?_
  have G3 : zGr n ad ε b (n + 3) (zu ad2 (n + 2) q2) (zu (zu ε2 (n + 2) (.inl (cy 0, 414, .inl (fun _ => 0)))) b (.inr (7, [.ref q0, .ref q1, .ref q2, .null, .int 0, .int 0, .null, .int 0, .null, .int 0, .int 0, .int 0, .int 0, .int 0, .int 0, .null]))) := ⟨by omega, fun c hc => (zu_ne _ _ (by omega)).trans (G2.2.1 c hc), fun c hc hcb => (zu_ne _ _ hcb).trans ((zu_ne _ _ (by omega)).trans (G2.2.2 c hc hcb))⟩
  have hb3 : (zu (zu ε2 (n + 2) (.inl (cy 0, 414, .inl (fun _ => 0)))) b (.inr (7, [.ref q0, .ref q1, .ref q2, .null, .int 0, .int 0, .null, .int 0, .null, .int 0, .int 0, .int 0, .int 0, .int 0, .int 0, .null]) : va_E)) b = .inr (7, [.ref q0, .ref q1, .ref q2, .null, .int 0, .int 0, .null, .int 0, .null, .int 0, .int 0, .int 0, .int 0, .int 0, .int 0, .null]) := zu_eq _ _ _
  have u2 : (zu (zu ε2 (n + 2) (.inl (cy 0, 414, .inl (fun _ => 0)))) b (.inr (7, [.ref q0, .ref q1, .ref q2, .null, .int 0, .int 0, .null, .int 0, .null, .int 0, .int 0, .int 0, .int 0, .int 0, .int 0, .null]) : va_E)) (n + 2) = .inl (cy 0, 414, .inl (fun _ => 0)) := (zu_ne _ _ (by omega)).trans (zu_eq _ _ _)
  have w2 : (zu ad2 (n + 2) q2) (n + 2) = q2 := zu_eq _ _ _
  replace u0 := ((zu_ne _ _ (by omega)).trans ((zu_ne _ _ (by omega)).trans u0) : (zu (zu ε2 (n + 2) (.inl (cy 0, 414, .inl (fun _ => 0)))) b (.inr (7, [.ref q0, .ref q1, .ref q2, .null, .int 0, .int 0, .null, .int 0, .null, .int 0, .int 0, .int 0, .int 0, .int 0, .int 0, .null]) : va_E)) (n) = _)
  replace w0 := ((zu_ne _ _ (by omega)).trans w0 : (zu ad2 (n + 2) q2) (n) = _)
  replace u1 := ((zu_ne _ _ (by omega)).trans ((zu_ne _ _ (by omega)).trans u1) : (zu (zu ε2 (n + 2) (.inl (cy 0, 414, .inl (fun _ => 0)))) b (.inr (7, [.ref q0, .ref q1, .ref q2, .null, .int 0, .int 0, .null, .int 0, .null, .int 0, .int 0, .int 0, .int 0, .int 0, .int 0, .null]) : va_E)) (n + 1) = _)
  replace w1 := ((zu_ne _ _ (by omega)).trans w1 : (zu ad2 (n + 2) q2) (n + 1) = _)
  generalize ha2 : zu ad2 (n + 2) q2 = ad3 at G3 w2 w0 w1
  generalize he2 : zu (zu ε2 (n + 2) (.inl (cy 0, 414, .inl (fun _ => 0)))) b (.inr (7, [.ref q0, .ref q1, .ref q2, .null, .int 0, .int 0, .null, .int 0, .null, .int 0, .int 0, .int 0, .int 0, .int 0, .int 0, .null]) : va_E) = ε3 at G3 hb3 u2 u0 u1
  have hq2 : zu (zu ε2 (n + 2) (.inl (cy 0, 414, .inl (fun _ => 0)))) b (.inr (7, ([.ref q0, .ref q1, .null, .null, .int 0, .int 0, .null, .int 0, .null, .int 0, .int 0, .int 0, .int 0, .int 0, .int 0, .null] : List Value).set 2 (.ref q2)) : va_E) = ε3 := he2
  rw [hq2, show n + 2 + 1 = n + 3 from rfl]
  refine x_aload_n C 31 0 0 dX7_init_31 rfl rfl ?_
  refine x_sipush C 32 (v := 414) dX7_init_32 (by decide +kernel) ?_
  refine x_ints C 35 414 dX7_init_35 oX7.2.2 (by decide +kernel) (by decide +kernel) (Nat.le_of_ble_eq_true rfl) (Nat.le_of_ble_eq_true rfl) (Nat.le_of_ble_eq_true rfl) (fun q3 => ?_)
  refine x_putF C 37 (ty := .array .int) b 3 ((zu_ne _ _ (by omega)).trans (G3.2.1 b hb)) dX7_init_37 (by omega) ((zu_ne _ _ (by omega)).trans hb3) oX7.2.1 tyX7 tyX7_ok nmX7 rfl (by decide) oX7_spare rfl rfl (by decide +kernel) rfl rfl (Nat.le_of_ble_eq_true rfl) ?_
  have G4 : zGr n ad ε b (n + 4) (zu ad3 (n + 3) q3) (zu (zu ε3 (n + 3) (.inl (cy 0, 414, .inl (fun _ => 0)))) b (.inr (7, [.ref q0, .ref q1, .ref q2, .ref q3, .int 0, .int 0, .null, .int 0, .null, .int 0, .int 0, .int 0, .int 0, .int 0, .int 0, .null]))) := ⟨by omega, fun c hc => (zu_ne _ _ (by omega)).trans (G3.2.1 c hc), fun c hc hcb => (zu_ne _ _ hcb).trans ((zu_ne _ _ (by omega)).trans (G3.2.2 c hc hcb))⟩
  have hb4 : (zu (zu ε3 (n + 3) (.inl (cy 0, 414, .inl (fun _ => 0)))) b (.inr (7, [.ref q0, .ref q1, .ref q2, .ref q3, .int 0, .int 0, .null, .int 0, .null, .int 0, .int 0, .int 0, .int 0, .int 0, .int 0, .null]) : va_E)) b = .inr (7, [.ref q0, .ref q1, .ref q2, .ref q3, .int 0, .int 0, .null, .int 0, .null, .int 0, .int 0, .int 0, .int 0, .int 0, .int 0, .null]) := zu_eq _ _ _
  have u3 : (zu (zu ε3 (n + 3) (.inl (cy 0, 414, .inl (fun _ => 0)))) b (.inr (7, [.ref q0, .ref q1, .ref q2, .ref q3, .int 0, .int 0, .null, .int 0, .null, .int 0, .int 0, .int 0, .int 0, .int 0, .int 0, .null]) : va_E)) (n + 3) = .inl (cy 0, 414, .inl (fun _ => 0)) := (zu_ne _ _ (by omega)).trans (zu_eq _ _ _)
  have w3 : (zu ad3 (n + 3) q3) (n + 3) = q3 := zu_eq _ _ _
  replace u0 := ((zu_ne _ _ (by omega)).trans ((zu_ne _ _ (by omega)).trans u0) : (zu (zu ε3 (n + 3) (.inl (cy 0, 414, .inl (fun _ => 0)))) b (.inr (7, [.ref q0, .ref q1, .ref q2, .ref q3, .int 0, .int 0, .null, .int 0, .null, .int 0, .int 0, .int 0, .int 0, .int 0, .int 0, .null]) : va_E)) (n) = _)
  replace w0 := ((zu_ne _ _ (by omega)).trans w0 : (zu ad3 (n + 3) q3) (n) = _)
  replace u1 := ((zu_ne _ _ (by omega)).trans ((zu_ne _ _ (by omega)).trans u1) : (zu (zu ε3 (n + 3) (.inl (cy 0, 414, .inl (fun _ => 0)))) b (.inr (7, [.ref q0, .ref q1, .ref q2, .ref q3, .int 0, .int 0, .null, .int 0, .null, .int 0, .int 0, .int 0, .int 0, .int 0, .int 0, .null]) : va_E)) (n + 1) = _)
  replace w1 := ((zu_ne _ _ (by omega)).trans w1 : (zu ad3 (n + 3) q3) (n + 1) = _)
  replace u2 := ((zu_ne _ _ (by omega)).trans ((zu_ne _ _ (by omega)).trans u2) : (zu (zu ε3 (n + 3) (.inl (cy 0, 414, .inl (fun _ => 0)))) b (.inr (7, [.ref q0, .ref q1, .ref q2, .ref q3, .int 0, .int 0, .null, .int 0, .null, .int 0, .int 0, .int 0, .int 0, .int 0, .int 0, .null]) : va_E)) (n + 2) = _)
  replace w2 := ((zu_ne _ _ (by omega)).trans w2 : (zu ad3 (n + 3) q3) (n + 2) = _)
  generalize ha3 : zu ad3 (n + 3) q3 = ad4 at G4 w3 w0 w1 w2
  generalize he3 : zu (zu ε3 (n + 3) (.inl (cy 0, 414, .inl (fun _ => 0)))) b (.inr (7, [.ref q0, .ref q1, .ref q2, .ref q3, .int 0, .int 0, .null, .int 0, .null, .int 0, .int 0, .int 0, .int 0, .int 0, .int 0, .null]) : va_E) = ε4 at G4 hb4 u3 u0 u1 u2
  have hq3 : zu (zu ε3 (n + 3) (.inl (cy 0, 414, .inl (fun _ => 0)))) b (.inr (7, ([.ref q0, .ref q1, .ref q2, .null, .int 0, .int 0, .null, .int 0, .null, .int 0, .int 0, .int 0, .int 0, .int 0, .int 0, .null] : List Value).set 3 (.ref q3)) : va_E) = ε4 := he3
  rw [hq3, show n + 3 + 1 = n + 4 from rfl]
  refine x_aload_n C 40 0 0 dX7_init_40 rfl rfl ?_
  refine x_bipush C 41 (v := 60) dX7_init_41 (by decide +kernel) ?_
  refine x_ints C 43 60 dX7_init_43 oX7.2.2 (by decide +kernel) (by decide +kernel) (Nat.le_of_ble_eq_true rfl) (Nat.le_of_ble_eq_true rfl) (Nat.le_of_ble_eq_true rfl) (fun q4 => ?_)
  refine x_putF C 45 (ty := .array .int) b 6 ((zu_ne _ _ (by omega)).trans (G4.2.1 b hb)) dX7_init_45 (by omega) ((zu_ne _ _ (by omega)).trans hb4) oX7.2.1 tyX7 tyX7_ok nmX7 rfl (by decide) oX7_text rfl rfl (by decide +kernel) rfl rfl (Nat.le_of_ble_eq_true rfl) ?_
  have G5 : zGr n ad ε b (n + 5) (zu ad4 (n + 4) q4) (zu (zu ε4 (n + 4) (.inl (cy 0, 60, .inl (fun _ => 0)))) b (.inr (7, [.ref q0, .ref q1, .ref q2, .ref q3, .int 0, .int 0, .ref q4, .int 0, .null, .int 0, .int 0, .int 0, .int 0, .int 0, .int 0, .null]))) := ⟨by omega, fun c hc => (zu_ne _ _ (by omega)).trans (G4.2.1 c hc), fun c hc hcb => (zu_ne _ _ hcb).trans ((zu_ne _ _ (by omega)).trans (G4.2.2 c hc hcb))⟩
  have hb5 : (zu (zu ε4 (n + 4) (.inl (cy 0, 60, .inl (fun _ => 0)))) b (.inr (7, [.ref q0, .ref q1, .ref q2, .ref q3, .int 0, .int 0, .ref q4, .int 0, .null, .int 0, .int 0, .int 0, .int 0, .int 0, .int 0, .null]) : va_E)) b = .inr (7, [.ref q0, .ref q1, .ref q2, .ref q3, .int 0, .int 0, .ref q4, .int 0, .null, .int 0, .int 0, .int 0, .int 0, .int 0, .int 0, .null]) := zu_eq _ _ _
  have u4 : (zu (zu ε4 (n + 4) (.inl (cy 0, 60, .inl (fun _ => 0)))) b (.inr (7, [.ref q0, .ref q1, .ref q2, .ref q3, .int 0, .int 0, .ref q4, .int 0, .null, .int 0, .int 0, .int 0, .int 0, .int 0, .int 0, .null]) : va_E)) (n + 4) = .inl (cy 0, 60, .inl (fun _ => 0)) := (zu_ne _ _ (by omega)).trans (zu_eq _ _ _)
  have w4 : (zu ad4 (n + 4) q4) (n + 4) = q4 := zu_eq _ _ _
  replace u0 := ((zu_ne _ _ (by omega)).trans ((zu_ne _ _ (by omega)).trans u0) : (zu (zu ε4 (n + 4) (.inl (cy 0, 60, .inl (fun _ => 0)))) b (.inr (7, [.ref q0, .ref q1, .ref q2, .ref q3, .int 0, .int 0, .ref q4, .int 0, .null, .int 0, .int 0, .int 0, .int 0, .int 0, .int 0, .null]) : va_E)) (n) = _)
  replace w0 := ((zu_ne _ _ (by omega)).trans w0 : (zu ad4 (n + 4) q4) (n) = _)
  replace u1 := ((zu_ne _ _ (by omega)).trans ((zu_ne _ _ (by omega)).trans u1) : (zu (zu ε4 (n + 4) (.inl (cy 0, 60, .inl (fun _ => 0)))) b (.inr (7, [.ref q0, .ref q1, .ref q2, .ref q3, .int 0, .int 0, .ref q4, .int 0, .null, .int 0, .int 0, .int 0, .int 0, .int 0, .int 0, .null]) : va_E)) (n + 1) = _)
  replace w1 := ((zu_ne _ _ (by omega)).trans w1 : (zu ad4 (n + 4) q4) (n + 1) = _)
  replace u2 := ((zu_ne _ _ (by omega)).trans ((zu_ne _ _ (by omega)).trans u2) : (zu (zu ε4 (n + 4) (.inl (cy 0, 60, .inl (fun _ => 0)))) b (.inr (7, [.ref q0, .ref q1, .ref q2, .ref q3, .int 0, .int 0, .ref q4, .int 0, .null, .int 0, .int 0, .int 0, .int 0, .int 0, .int 0, .null]) : va_E)) (n + 2) = _)
  replace w2 := ((zu_ne _ _ (by omega)).trans w2 : (zu ad4 (n + 4) q4) (n + 2) = _)
  replace u3 := ((zu_ne _ _ (by omega)).trans ((zu_ne _ _ (by omega)).trans u3) : (zu (zu ε4 (n + 4) (.inl (cy 0, 60, .inl (fun _ => 0)))) b (.inr (7, [.ref q0, .ref q1, .ref q2, .ref q3, .int 0, .int 0, .ref q4, .int 0, .null, .int 0, .int 0, .int 0, .int 0, .int 0, .int 0, .null]) : va_E)) (n + 3) = _)
  replace w3 := ((zu_ne _ _ (by omega)).trans w3 : (zu ad4 (n + 4) q4) (n + 3) = _)
  generalize ha4 : zu ad4 (n + 4) q4 = ad5 at G5 w4 w0 w1 w2 w3
  generalize he4 : zu (zu ε4 (n + 4) (.inl (cy 0, 60, .inl (fun _ => 0)))) b (.inr (7, [.ref q0, .ref q1, .ref q2, .ref q3, .int 0, .int 0, .ref q4, .int 0, .null, .int 0, .int 0, .int 0, .int 0, .int 0, .int 0, .null]) : va_E) = ε5 at G5 hb5 u4 u0 u1 u2 u3
  have hq4 : zu (zu ε4 (n + 4) (.inl (cy 0, 60, .inl (fun _ => 0)))) b (.inr (7, ([.ref q0, .ref q1, .ref q2, .ref q3, .int 0, .int 0, .null, .int 0, .null, .int 0, .int 0, .int 0, .int 0, .int 0, .int 0, .null] : List Value).set 6 (.ref q4)) : va_E) = ε5 := he4
  rw [hq4, show n + 4 + 1 = n + 5 from rfl]
  refine x_aload_n C 48 0 0 dX7_init_48 rfl rfl ?_
  refine x_bipush C 49 (v := 24) dX7_init_49 (by decide +kernel) ?_
  refine x_ints C 51 24 dX7_init_51 oX7.2.2 (by decide +kernel) (by decide +kernel) (Nat.le_of_ble_eq_true rfl) (Nat.le_of_ble_eq_true rfl) (Nat.le_of_ble_eq_true rfl) (fun q5 => ?_)
  refine x_putF C 53 (ty := .array .int) b 8 ((zu_ne _ _ (by omega)).trans (G5.2.1 b hb)) dX7_init_53 (by omega) ((zu_ne _ _ (by omega)).trans hb5) oX7.2.1 tyX7 tyX7_ok nmX7 rfl (by decide) oX7_round rfl rfl (by decide +kernel) rfl rfl (Nat.le_of_ble_eq_true rfl) ?_
  have G6 : zGr n ad ε b (n + 6) (zu ad5 (n + 5) q5) (zu (zu ε5 (n + 5) (.inl (cy 0, 24, .inl (fun _ => 0)))) b (.inr (7, [.ref q0, .ref q1, .ref q2, .ref q3, .int 0, .int 0, .ref q4, .int 0, .ref q5, .int 0, .int 0, .int 0, .int 0, .int 0, .int 0, .null]))) := ⟨by omega, fun c hc => (zu_ne _ _ (by omega)).trans (G5.2.1 c hc), fun c hc hcb => (zu_ne _ _ hcb).trans ((zu_ne _ _ (by omega)).trans (G5.2.2 c hc hcb))⟩
  have hb6 : (zu (zu ε5 (n + 5) (.inl (cy 0, 24, .inl (fun _ => 0)))) b (.inr (7, [.ref q0, .ref q1, .ref q2, .ref q3, .int 0, .int 0, .ref q4, .int 0, .ref q5, .int 0, .int 0, .int 0, .int 0, .int 0, .int 0, .null]) : va_E)) b = .inr (7, [.ref q0, .ref q1, .ref q2, .ref q3, .int 0, .int 0, .ref q4, .int 0, .ref q5, .int 0, .int 0, .int 0, .int 0, .int 0, .int 0, .null]) := zu_eq _ _ _
  have u5 : (zu (zu ε5 (n + 5) (.inl (cy 0, 24, .inl (fun _ => 0)))) b (.inr (7, [.ref q0, .ref q1, .ref q2, .ref q3, .int 0, .int 0, .ref q4, .int 0, .ref q5, .int 0, .int 0, .int 0, .int 0, .int 0, .int 0, .null]) : va_E)) (n + 5) = .inl (cy 0, 24, .inl (fun _ => 0)) := (zu_ne _ _ (by omega)).trans (zu_eq _ _ _)
  have w5 : (zu ad5 (n + 5) q5) (n + 5) = q5 := zu_eq _ _ _
  replace u0 := ((zu_ne _ _ (by omega)).trans ((zu_ne _ _ (by omega)).trans u0) : (zu (zu ε5 (n + 5) (.inl (cy 0, 24, .inl (fun _ => 0)))) b (.inr (7, [.ref q0, .ref q1, .ref q2, .ref q3, .int 0, .int 0, .ref q4, .int 0, .ref q5, .int 0, .int 0, .int 0, .int 0, .int 0, .int 0, .null]) : va_E)) (n) = _)
  replace w0 := ((zu_ne _ _ (by omega)).trans w0 : (zu ad5 (n + 5) q5) (n) = _)
  replace u1 := ((zu_ne _ _ (by omega)).trans ((zu_ne _ _ (by omega)).trans u1) : (zu (zu ε5 (n + 5) (.inl (cy 0, 24, .inl (fun _ => 0)))) b (.inr (7, [.ref q0, .ref q1, .ref q2, .ref q3, .int 0, .int 0, .ref q4, .int 0, .ref q5, .int 0, .int 0, .int 0, .int 0, .int 0, .int 0, .null]) : va_E)) (n + 1) = _)
  replace w1 := ((zu_ne _ _ (by omega)).trans w1 : (zu ad5 (n + 5) q5) (n + 1) = _)
  replace u2 := ((zu_ne _ _ (by omega)).trans ((zu_ne _ _ (by omega)).trans u2) : (zu (zu ε5 (n + 5) (.inl (cy 0, 24, .inl (fun _ => 0)))) b (.inr (7, [.ref q0, .ref q1, .ref q2, .ref q3, .int 0, .int 0, .ref q4, .int 0, .ref q5, .int 0, .int 0, .int 0, .int 0, .int 0, .int 0, .null]) : va_E)) (n + 2) = _)
  replace w2 := ((zu_ne _ _ (by omega)).trans w2 : (zu ad5 (n + 5) q5) (n + 2) = _)
  replace u3 := ((zu_ne _ _ (by omega)).trans ((zu_ne _ _ (by omega)).trans u3) : (zu (zu ε5 (n + 5) (.inl (cy 0, 24, .inl (fun _ => 0)))) b (.inr (7, [.ref q0, .ref q1, .ref q2, .ref q3, .int 0, .int 0, .ref q4, .int 0, .ref q5, .int 0, .int 0, .int 0, .int 0, .int 0, .int 0, .null]) : va_E)) (n + 3) = _)
  replace w3 := ((zu_ne _ _ (by omega)).trans w3 : (zu ad5 (n + 5) q5) (n + 3) = _)
  replace u4 := ((zu_ne _ _ (by omega)).trans ((zu_ne _ _ (by omega)).trans u4) : (zu (zu ε5 (n + 5) (.inl (cy 0, 24, .inl (fun _ => 0)))) b (.inr (7, [.ref q0, .ref q1, .ref q2, .ref q3, .int 0, .int 0, .ref q4, .int 0, .ref q5, .int 0, .int 0, .int 0, .int 0, .int 0, .int 0, .null]) : va_E)) (n + 4) = _)
  replace w4 := ((zu_ne _ _ (by omega)).trans w4 : (zu ad5 (n + 5) q5) (n + 4) = _)
  generalize ha5 : zu ad5 (n + 5) q5 = ad6 at G6 w5 w0 w1 w2 w3 w4
  generalize he5 : zu (zu ε5 (n + 5) (.inl (cy 0, 24, .inl (fun _ => 0)))) b (.inr (7, [.ref q0, .ref q1, .ref q2, .ref q3, .int 0, .int 0, .ref q4, .int 0, .ref q5, .int 0, .int 0, .int 0, .int 0, .int 0, .int 0, .null]) : va_E) = ε6 at G6 hb6 u5 u0 u1 u2 u3 u4
  have hq5 : zu (zu ε5 (n + 5) (.inl (cy 0, 24, .inl (fun _ => 0)))) b (.inr (7, ([.ref q0, .ref q1, .ref q2, .ref q3, .int 0, .int 0, .ref q4, .int 0, .null, .int 0, .int 0, .int 0, .int 0, .int 0, .int 0, .null] : List Value).set 8 (.ref q5)) : va_E) = ε6 := he5
  rw [hq5, show n + 5 + 1 = n + 6 from rfl]
  refine x_aload_n C 56 0 0 dX7_init_56 rfl rfl ?_
  refine x_iconst C 57 (v := 2) dX7_init_57 (by decide +kernel) ?_
  refine x_ints C 58 2 dX7_init_58 oX7.2.2 (by decide +kernel) (by decide +kernel) (Nat.le_of_ble_eq_true rfl) (Nat.le_of_ble_eq_true rfl) (Nat.le_of_ble_eq_true rfl) (fun q6 => ?_)
  refine x_putF C 60 (ty := .array .int) b 15 ((zu_ne _ _ (by omega)).trans (G6.2.1 b hb)) dX7_init_60 (by omega) ((zu_ne _ _ (by omega)).trans hb6) oX7.2.1 tyX7 tyX7_ok nmX7 rfl (by decide) oX7_numbers rfl rfl (by decide +kernel) rfl rfl (Nat.le_of_ble_eq_true rfl) ?_
  have G7 : zGr n ad ε b (n + 7) (zu ad6 (n + 6) q6) (zu (zu ε6 (n + 6) (.inl (cy 0, 2, .inl (fun _ => 0)))) b (.inr (7, [.ref q0, .ref q1, .ref q2, .ref q3, .int 0, .int 0, .ref q4, .int 0, .ref q5, .int 0, .int 0, .int 0, .int 0, .int 0, .int 0, .ref q6]))) := ⟨by omega, fun c hc => (zu_ne _ _ (by omega)).trans (G6.2.1 c hc), fun c hc hcb => (zu_ne _ _ hcb).trans ((zu_ne _ _ (by omega)).trans (G6.2.2 c hc hcb))⟩
  have hb7 : (zu (zu ε6 (n + 6) (.inl (cy 0, 2, .inl (fun _ => 0)))) b (.inr (7, [.ref q0, .ref q1, .ref q2, .ref q3, .int 0, .int 0, .ref q4, .int 0, .ref q5, .int 0, .int 0, .int 0, .int 0, .int 0, .int 0, .ref q6]) : va_E)) b = .inr (7, [.ref q0, .ref q1, .ref q2, .ref q3, .int 0, .int 0, .ref q4, .int 0, .ref q5, .int 0, .int 0, .int 0, .int 0, .int 0, .int 0, .ref q6]) := zu_eq _ _ _
  have u6 : (zu (zu ε6 (n + 6) (.inl (cy 0, 2, .inl (fun _ => 0)))) b (.inr (7, [.ref q0, .ref q1, .ref q2, .ref q3, .int 0, .int 0, .ref q4, .int 0, .ref q5, .int 0, .int 0, .int 0, .int 0, .int 0, .int 0, .ref q6]) : va_E)) (n + 6) = .inl (cy 0, 2, .inl (fun _ => 0)) := (zu_ne _ _ (by omega)).trans (zu_eq _ _ _)
  have w6 : (zu ad6 (n + 6) q6) (n + 6) = q6 := zu_eq _ _ _
  replace u0 := ((zu_ne _ _ (by omega)).trans ((zu_ne _ _ (by omega)).trans u0) : (zu (zu ε6 (n + 6) (.inl (cy 0, 2, .inl (fun _ => 0)))) b (.inr (7, [.ref q0, .ref q1, .ref q2, .ref q3, .int 0, .int 0, .ref q4, .int 0, .ref q5, .int 0, .int 0, .int 0, .int 0, .int 0, .int 0, .ref q6]) : va_E)) (n) = _)
  replace w0 := ((zu_ne _ _ (by omega)).trans w0 : (zu ad6 (n + 6) q6) (n) = _)
  replace u1 := ((zu_ne _ _ (by omega)).trans ((zu_ne _ _ (by omega)).trans u1) : (zu (zu ε6 (n + 6) (.inl (cy 0, 2, .inl (fun _ => 0)))) b (.inr (7, [.ref q0, .ref q1, .ref q2, .ref q3, .int 0, .int 0, .ref q4, .int 0, .ref q5, .int 0, .int 0, .int 0, .int 0, .int 0, .int 0, .ref q6]) : va_E)) (n + 1) = _)
  replace w1 := ((zu_ne _ _ (by omega)).trans w1 : (zu ad6 (n + 6) q6) (n + 1) = _)
  replace u2 := ((zu_ne _ _ (by omega)).trans ((zu_ne _ _ (by omega)).trans u2) : (zu (zu ε6 (n + 6) (.inl (cy 0, 2, .inl (fun _ => 0)))) b (.inr (7, [.ref q0, .ref q1, .ref q2, .ref q3, .int 0, .int 0, .ref q4, .int 0, .ref q5, .int 0, .int 0, .int 0, .int 0, .int 0, .int 0, .ref q6]) : va_E)) (n + 2) = _)
  replace w2 := ((zu_ne _ _ (by omega)).trans w2 : (zu ad6 (n + 6) q6) (n + 2) = _)
  replace u3 := ((zu_ne _ _ (by omega)).trans ((zu_ne _ _ (by omega)).trans u3) : (zu (zu ε6 (n + 6) (.inl (cy 0, 2, .inl (fun _ => 0)))) b (.inr (7, [.ref q0, .ref q1, .ref q2, .ref q3, .int 0, .int 0, .ref q4, .int 0, .ref q5, .int 0, .int 0, .int 0, .int 0, .int 0, .int 0, .ref q6]) : va_E)) (n + 3) = _)
  replace w3 := ((zu_ne _ _ (by omega)).trans w3 : (zu ad6 (n + 6) q6) (n + 3) = _)
  replace u4 := ((zu_ne _ _ (by omega)).trans ((zu_ne _ _ (by omega)).trans u4) : (zu (zu ε6 (n + 6) (.inl (cy 0, 2, .inl (fun _ => 0)))) b (.inr (7, [.ref q0, .ref q1, .ref q2, .ref q3, .int 0, .int 0, .ref q4, .int 0, .ref q5, .int 0, .int 0, .int 0, .int 0, .int 0, .int 0, .ref q6]) : va_E)) (n + 4) = _)
  replace w4 := ((zu_ne _ _ (by omega)).trans w4 : (zu ad6 (n + 6) q6) (n + 4) = _)
  replace u5 := ((zu_ne _ _ (by omega)).trans ((zu_ne _ _ (by omega)).trans u5) : (zu (zu ε6 (n + 6) (.inl (cy 0, 2, .inl (fun _ => 0)))) b (.inr (7, [.ref q0, .ref q1, .ref q2, .ref q3, .int 0, .int 0, .ref q4, .int 0, .ref q5, .int 0, .int 0, .int 0, .int 0, .int 0, .int 0, .ref q6]) : va_E)) (n + 5) = _)
  replace w5 := ((zu_ne _ _ (by omega)).trans w5 : (zu ad6 (n + 6) q6) (n + 5) = _)
  generalize ha6 : zu ad6 (n + 6) q6 = ad7 at G7 w6 w0 w1 w2 w3 w4 w5
  generalize he6 : zu (zu ε6 (n + 6) (.inl (cy 0, 2, .inl (fun _ => 0)))) b (.inr (7, [.ref q0, .ref q1, .ref q2, .ref q3, .int 0, .int 0, .ref q4, .int 0, .ref q5, .int 0, .int 0, .int 0, .int 0, .int 0, .int 0, .ref q6]) : va_E) = ε7 at G7 hb7 u6 u0 u1 u2 u3 u4 u5
  have hq6 : zu (zu ε6 (n + 6) (.inl (cy 0, 2, .inl (fun _ => 0)))) b (.inr (7, ([.ref q0, .ref q1, .ref q2, .ref q3, .int 0, .int 0, .ref q4, .int 0, .ref q5, .int 0, .int 0, .int 0, .int 0, .int 0, .int 0, .null] : List Value).set 15 (.ref q6)) : va_E) = ε7 := he6
  rw [hq6, show n + 6 + 1 = n + 7 from rfl]
  refine x_aload_n C 63 0 0 dX7_init_63 rfl rfl ?_
  refine x_getr C 64 b 0 (G7.2.1 b hb) dX7_init_64 (by omega) hb7 oX7.2.1 rfl (by decide) oX7_s rfl ?_
  refine x_sipush C 67 (v := 410) dX7_init_67 (by decide +kernel) ?_
  refine x_iconst C 70 (v := 3) dX7_init_70 (by decide +kernel) ?_
  refine x_iast C 71 n 410 w0 dX7_init_71 (by omega) u0 rfl (by decide) (by decide) ?_
  refine x_aload_n C 72 0 0 dX7_init_72 rfl rfl ?_
  refine x_getr C 73 b 0 (G7.2.1 b hb) dX7_init_73 (by omega) ((zu_ne _ _ (by omega)).trans (hb7)) oX7.2.1 rfl (by decide) oX7_s rfl ?_
  refine x_sipush C 76 (v := 411) dX7_init_76 (by decide +kernel) ?_
  refine x_bipush C 79 (v := 7) dX7_init_79 (by decide +kernel) ?_
  refine x_iast C 81 n 411 w0 dX7_init_81 (by omega) (zu_eq _ _ _) rfl (by decide) (by decide) ?_
  refine x_aload_n C 82 0 0 dX7_init_82 rfl rfl ?_
  refine x_getr C 83 b 0 (G7.2.1 b hb) dX7_init_83 (by omega) ((zu_ne _ _ (by omega)).trans ((zu_ne _ _ (by omega)).trans (hb7))) oX7.2.1 rfl (by decide) oX7_s rfl ?_
  refine x_sipush C 86 (v := 412) dX7_init_86 (by decide +kernel) ?_
  refine x_bipush C 89 (v := 50) dX7_init_89 (by decide +kernel) ?_
  refine x_iast C 91 n 412 w0 dX7_init_91 (by omega) (zu_eq _ _ _) rfl (by decide) (by decide) ?_
  refine x_aload_n C 92 0 0 dX7_init_92 rfl rfl ?_
  refine x_getr C 93 b 0 (G7.2.1 b hb) dX7_init_93 (by omega) ((zu_ne _ _ (by omega)).trans ((zu_ne _ _ (by omega)).trans ((zu_ne _ _ (by omega)).trans (hb7)))) oX7.2.1 rfl (by decide) oX7_s rfl ?_
  refine x_sipush C 96 (v := 413) dX7_init_96 (by decide +kernel) ?_
  refine x_bipush C 99 (v := 60) dX7_init_99 (by decide +kernel) ?_
  refine x_iast C 101 n 413 w0 dX7_init_101 (by omega) (zu_eq _ _ _) rfl (by decide) (by decide) ?_
  refine x_vret C 102 hA hQ dX7_init_102 ⟨rfl, ⟨by omega, G7.2.1, fun c hc hcb => ?_⟩, ?_, zu_eq _ _ _, ?_, ?_, ?_, ?_, ?_, ?_⟩
  · rw [zu_ne _ _ (by omega), zu_ne _ _ (by omega), zu_ne _ _ (by omega), zu_ne _ _ (by omega)]; exact G7.2.2 c hc hcb
  · rw [zu_ne _ _ (by omega), zu_ne _ _ (by omega), zu_ne _ _ (by omega), zu_ne _ _ (by omega), hb7]
    unfold eM
    rw [w0, w1, w2, w3, w4, w5, w6]
  · rw [zu_ne _ _ (by omega), zu_ne _ _ (by omega), zu_ne _ _ (by omega), zu_ne _ _ (by omega)]; exact u1
  · rw [zu_ne _ _ (by omega), zu_ne _ _ (by omega), zu_ne _ _ (by omega), zu_ne _ _ (by omega)]; exact u2
  · rw [zu_ne _ _ (by omega), zu_ne _ _ (by omega), zu_ne _ _ (by omega), zu_ne _ _ (by omega)]; exact u3
  · rw [zu_ne _ _ (by omega), zu_ne _ _ (by omega), zu_ne _ _ (by omega), zu_ne _ _ (by omega)]; exact u4
  · rw [zu_ne _ _ (by omega), zu_ne _ _ (by omega), zu_ne _ _ (by omega), zu_ne _ _ (by omega)]; exact u5
  · rw [zu_ne _ _ (by omega), zu_ne _ _ (by omega), zu_ne _ _ (by omega), zu_ne _ _ (by omega)]; exact u6
