/-! a town by ids: b: the town; b + 1: its houses' array; b + 2 + k: house k; b + 26: its streets' array; b + 27 + 2 * j, b + 28 + 2 * j: street j and its places; b + 35, b + 36: the ledger; b + 37: the settings -/
def zTown (cy : Nat → ClassId) (K : zK) (n : Nat) (ad : Nat → Nat) (b : Nat) : Prop :=
  b + 37 < n ∧ (∀ f, K ad b f = .inr (5, [.ref (ad (b + 1)), .ref (ad (b + 26)), .ref (ad (b + 35)), .ref (ad (b + 37)), .int (f 4), .int (f 5), .int (f 6), .int (f 7), .int (f 8), .int (f 9), .int (f 10), .int (f 11), .int (f 12)])) ∧
  (∀ f, K ad (b + 1) f = .inl (cy 1, 24, .inr (.inr (.inr (.inr (fun k => some (ad (b + 2 + k)))))))) ∧ (∀ k, k < 24 → zHouse K n ad (b + 2 + k)) ∧
  (∀ f, K ad (b + 26) f = .inl (cy 2, 4, .inr (.inr (.inr (.inr (fun j => some (ad (b + 27 + 2 * j)))))))) ∧ (∀ j, j < 4 → zStreet cy K n ad (b + 27 + 2 * j)) ∧
  zLedger cy K n ad (b + 35) ∧ ∀ f, K ad (b + 37) f = .inl (cy 0, 4, .inl f)
section ZT
variable {cy : Nat → ClassId} {K : zK} {n : Nat} {ad : Nat → Nat} {b : Nat}
theorem zTown.h0 (h : zTown cy K n ad b) : b < n := Nat.lt_of_le_of_lt (Nat.le_add_right b 37) h.1
theorem zTown.h1 (h : zTown cy K n ad b) : b + 1 < n := Nat.lt_of_le_of_lt (Nat.add_le_add_left (by decide) b) h.1
theorem zTown.h26 (h : zTown cy K n ad b) : b + 26 < n := Nat.lt_of_le_of_lt (Nat.add_le_add_left (by decide) b) h.1
theorem zTown.h37 (h : zTown cy K n ad b) : b + 37 < n := h.1
theorem zTown.e0 (h : zTown cy K n ad b) : ∀ f, K ad b f = .inr (5, [.ref (ad (b + 1)), .ref (ad (b + 26)), .ref (ad (b + 35)), .ref (ad (b + 37)), .int (f 4), .int (f 5), .int (f 6), .int (f 7), .int (f 8), .int (f 9), .int (f 10), .int (f 11), .int (f 12)]) := h.2.1
theorem zTown.e1 (h : zTown cy K n ad b) : ∀ f, K ad (b + 1) f = .inl (cy 1, 24, .inr (.inr (.inr (.inr (fun k => some (ad (b + 2 + k))))))) := h.2.2.1
theorem zTown.hou (h : zTown cy K n ad b) {k : Nat} (hk : k < 24) : zHouse K n ad (b + 2 + k) := h.2.2.2.1 k hk
theorem zTown.e26 (h : zTown cy K n ad b) : ∀ f, K ad (b + 26) f = .inl (cy 2, 4, .inr (.inr (.inr (.inr (fun j => some (ad (b + 27 + 2 * j))))))) := h.2.2.2.2.1
theorem zTown.str (h : zTown cy K n ad b) {j : Nat} (hj : j < 4) : zStreet cy K n ad (b + 27 + 2 * j) := h.2.2.2.2.2.1 j hj
theorem zTown.led (h : zTown cy K n ad b) : zLedger cy K n ad (b + 35) := h.2.2.2.2.2.2.1
theorem zTown.e37 (h : zTown cy K n ad b) : ∀ f, K ad (b + 37) f = .inl (cy 0, 4, .inl f) := h.2.2.2.2.2.2.2
end ZT
/-- a row of the ledger -/
def zRow (x : Int32) : Prop := ∃ w, w < 10 ∧ x = nI w
theorem zRow.c {x : Int32} (h : zRow x) : x.toNatClampNeg < 10 ∧ x = nI x.toNatClampNeg := by
  obtain ⟨w, hw, rfl⟩ := h
  rw [nI_clamp (by omega)]
  exact ⟨hw, rfl⟩
/-- a number of a house that is there -/
abbrev zin (c x : Int32) : Prop := ¬ x < 0 ∧ x < c ∧ x < 24
abbrev zis (x : Int32) : Prop := ¬ x < 0 ∧ x < 4
theorem zidxc {x : Int32} {m : Nat} (h0 : ¬ x < 0) (h1 : x < nI m) (hm : m < 2 ^ 31) : x.toNatClampNeg < m := by
  obtain ⟨k, hk, rfl⟩ := zidx h0 h1 hm
  rw [nI_clamp (by omega)]
  exact hk
theorem znc {x : Int32} (h0 : ¬ x < 0) : x = nI x.toNatClampNeg := by
  obtain ⟨k, hk, rfl⟩ := nI_of h0
  rw [nI_clamp hk]
theorem zin_lt {c x : Int32} (h : zin c x) : x.toNatClampNeg < 24 := zidxc (m := 24) h.1 h.2.2 (by decide)
theorem zis_lt {x : Int32} (h : zis x) : x.toNatClampNeg < 4 := zidxc (m := 4) h.1 h.2 (by decide)
theorem mX5_houseNumbered_f55 : Cond.fieldLink RX5 55 "WrongedMeters$Town" "houseCount" "I" ∈ wsX5_houseNumbered := by decide +kernel
set_option maxRecDepth 20000 in
theorem mX5_houseNumbered_in5 : ∀ w ∈ u_ws RX5 TX5 13, w ∈ wsX5_houseNumbered := by decide +kernel
theorem mX5_houseNumbered_f11 : Cond.fieldLink RX5 11 "WrongedMeters$Town" "houses" "[LWrongedMeters$House;" ∈ wsX5_houseNumbered := by decide +kernel
theorem hyX5_houseNumbered : yX5_houseNumbered.cls = RX5 ∧ yX5_houseNumbered.cls ≠ "java/lang/invoke/MethodHandle" ∧ yX5_houseNumbered.cls ≠ "java/lang/invoke/VarHandle" ∧ (parseMethodDescriptor yX5_houseNumbered.desc).map (fun d => d.parameters.length) = some 1 := by decide +kernel
set_option maxHeartbeats 3000000 in
set_option maxRecDepth 100000 in
theorem kX5_houseNumbered (l : Launch) (D : va_G) (cy : Nat → ClassId) (K : zK) (n : Nat) (ad : Nat → Nat) (hJ : zJ n ad) (b : Nat) (hO : zTown cy K n ad b) (t : zM) (a1 : Int32)  : zQ l yX5_houseNumbered wsX5_houseNumbered 0 D cy K n ad t [.ref (ad (b)), .int a1] (fun o t1 => o = (if zin (t b 4) a1 then some (ad (b + 2 + a1.toNatClampNeg)) else none) ∧ t1 = t) := by
  refine z_startQ (cc := cX5_houseNumbered) (mL := 2) (ret := (some (.object "WrongedMeters$House"))) (own := RX5) rfl (by decide +kernel) rfl hJ (Nat.le_of_ble_eq_true rfl) ?_
  intro p e s m args below meth c A hA Q hQ C
  refine z_iload_n C 0 1 1 dX5_houseNumbered_0 rfl rfl ?_
  refine z_if_lt C 1 27 dX5_houseNumbered_1 (by decide) (fun c1_1 => ?_) (fun c1_1 => ?_)
  · refine z_null C 27 dX5_houseNumbered_27 ?_
    exact z_aret C 28 (o := none) hA hQ rfl dX5_houseNumbered_28 rfl ⟨(if_neg (fun q => q.1 c1_1)).symm, rfl⟩
  · refine z_iload_n C 4 1 1 dX5_houseNumbered_4 rfl rfl ?_
    refine z_aload_n C 5 0 0 dX5_houseNumbered_5 rfl rfl ?_
    refine z_geti C 6 (b) 4 dX5_houseNumbered_6 hO.h0 hO.e0 mX5_houseNumbered_in5 rfl (by decide) mX5_houseNumbered_f55 (fun _ => rfl) ?_
    refine z_icmp_ge C 9 27 dX5_houseNumbered_9 (by decide) (fun c9_2 => ?_) (fun c9_2 => ?_)
    · refine z_null C 27 dX5_houseNumbered_27 ?_
      exact z_aret C 28 (o := none) hA hQ rfl dX5_houseNumbered_28 rfl ⟨(if_neg (fun q => absurd q.2.1 (znlt.mpr c9_2))).symm, rfl⟩
    · refine z_iload_n C 12 1 1 dX5_houseNumbered_12 rfl rfl ?_
      refine z_bipush C 13 (v := 24) dX5_houseNumbered_13 (by decide +kernel) ?_
      refine z_icmp_ge C 15 27 dX5_houseNumbered_15 (by decide) (fun c15_3 => ?_) (fun c15_3 => ?_)
      · refine z_null C 27 dX5_houseNumbered_27 ?_
        exact z_aret C 28 (o := none) hA hQ rfl dX5_houseNumbered_28 rfl ⟨(if_neg (fun q => absurd q.2.2 (znlt.mpr c15_3))).symm, rfl⟩
      · refine z_aload_n C 18 0 0 dX5_houseNumbered_18 rfl rfl ?_
        refine z_getr C 19 (a9 := ad (b + 1)) (b) 0 dX5_houseNumbered_19 hO.h0 hO.e0 mX5_houseNumbered_in5 rfl (by decide) mX5_houseNumbered_f11 (fun _ => rfl) ?_
        refine z_iload_n C 22 1 1 dX5_houseNumbered_22 rfl rfl ?_
        refine z_aald C 23 (b + 1) 1 a1.toNatClampNeg (ad (b + 2 + a1.toNatClampNeg)) dX5_houseNumbered_23 hO.h1 hO.e1 rfl (znc ‹¬ a1 < 0›) (zidxc (m := 24) ‹¬ a1 < 0› (znl.mp ‹¬ (24 : Int32) ≤ a1›) (by decide)) (by decide) rfl ?_
        refine z_goto C 24 28 dX5_houseNumbered_24 (by decide) ?_
        exact z_aret C 28 (o := some (ad (b + 2 + a1.toNatClampNeg))) hA hQ rfl dX5_houseNumbered_28 rfl ⟨(if_pos (⟨‹¬ a1 < 0›, znl.mp ‹¬ t b 4 ≤ a1›, znl.mp ‹¬ (24 : Int32) ≤ a1›⟩ : zin (t b 4) a1)).symm, rfl⟩
theorem mX5_streetNumbered_f19 : Cond.fieldLink RX5 19 "WrongedMeters$Town" "streets" "[LWrongedMeters$Street;" ∈ wsX5_streetNumbered := by decide +kernel
set_option maxRecDepth 20000 in
theorem mX5_streetNumbered_in5 : ∀ w ∈ u_ws RX5 TX5 13, w ∈ wsX5_streetNumbered := by decide +kernel
theorem hyX5_streetNumbered : yX5_streetNumbered.cls = RX5 ∧ yX5_streetNumbered.cls ≠ "java/lang/invoke/MethodHandle" ∧ yX5_streetNumbered.cls ≠ "java/lang/invoke/VarHandle" ∧ (parseMethodDescriptor yX5_streetNumbered.desc).map (fun d => d.parameters.length) = some 1 := by decide +kernel
set_option maxHeartbeats 3000000 in
set_option maxRecDepth 100000 in
theorem kX5_streetNumbered (l : Launch) (D : va_G) (cy : Nat → ClassId) (K : zK) (n : Nat) (ad : Nat → Nat) (hJ : zJ n ad) (b : Nat) (hO : zTown cy K n ad b) (t : zM) (a1 : Int32)  : zQ l yX5_streetNumbered wsX5_streetNumbered 0 D cy K n ad t [.ref (ad (b)), .int a1] (fun o t1 => o = (if zis a1 then some (ad (b + 27 + 2 * a1.toNatClampNeg)) else none) ∧ t1 = t) := by
  refine z_startQ (cc := cX5_streetNumbered) (mL := 2) (ret := (some (.object "WrongedMeters$Street"))) (own := RX5) rfl (by decide +kernel) rfl hJ (Nat.le_of_ble_eq_true rfl) ?_
  intro p e s m args below meth c A hA Q hQ C
  refine z_iload_n C 0 1 1 dX5_streetNumbered_0 rfl rfl ?_
  refine z_if_lt C 1 18 dX5_streetNumbered_1 (by decide) (fun c1_1 => ?_) (fun c1_1 => ?_)
  · refine z_null C 18 dX5_streetNumbered_18 ?_
    exact z_aret C 19 (o := none) hA hQ rfl dX5_streetNumbered_19 rfl ⟨(if_neg (fun q => q.1 c1_1)).symm, rfl⟩
  · refine z_iload_n C 4 1 1 dX5_streetNumbered_4 rfl rfl ?_
    refine z_iconst C 5 (v := 4) dX5_streetNumbered_5 (by decide +kernel) ?_
    refine z_icmp_ge C 6 18 dX5_streetNumbered_6 (by decide) (fun c6_2 => ?_) (fun c6_2 => ?_)
    · refine z_null C 18 dX5_streetNumbered_18 ?_
      exact z_aret C 19 (o := none) hA hQ rfl dX5_streetNumbered_19 rfl ⟨(if_neg (fun q => absurd q.2 (znlt.mpr c6_2))).symm, rfl⟩
    · refine z_aload_n C 9 0 0 dX5_streetNumbered_9 rfl rfl ?_
      refine z_getr C 10 (a9 := ad (b + 26)) (b) 1 dX5_streetNumbered_10 hO.h0 hO.e0 mX5_streetNumbered_in5 rfl (by decide) mX5_streetNumbered_f19 (fun _ => rfl) ?_
      refine z_iload_n C 13 1 1 dX5_streetNumbered_13 rfl rfl ?_
      refine z_aald C 14 (b + 26) 2 a1.toNatClampNeg (ad (b + 27 + 2 * a1.toNatClampNeg)) dX5_streetNumbered_14 hO.h26 hO.e26 rfl (znc ‹¬ a1 < 0›) (zidxc (m := 4) ‹¬ a1 < 0› (znl.mp ‹¬ (4 : Int32) ≤ a1›) (by decide)) (by decide) rfl ?_
      refine z_goto C 15 19 dX5_streetNumbered_15 (by decide) ?_
      exact z_aret C 19 (o := some (ad (b + 27 + 2 * a1.toNatClampNeg))) hA hQ rfl dX5_streetNumbered_19 rfl ⟨(if_pos (⟨‹¬ a1 < 0›, znl.mp ‹¬ (4 : Int32) ≤ a1›⟩ : zis a1)).symm, rfl⟩
def rX5_addHouse (b : Nat) (t : zM) (H : Nat) (a1 : Int32) (a2 : Int32) : Int32 := (if zis a1 then (if (rX6_isPlace a2) = 0 then (-1000001) else (if (rX4_houseOn (b + 27 + 2 * a1.toNatClampNeg) t (rX6_stepOf a2)) = (-1) then (if (t (b) 4) < 24 then (((t (b) 4) + 1) - 1) else (-1000003)) else (-1000002))) else (-1000001))
def sX5_addHouse (b : Nat) (t : zM) (H : Nat) (a1 : Int32) (a2 : Int32) : zM := (if zis a1 then (if (rX6_isPlace a2) = 0 then t else (if (rX4_houseOn (b + 27 + 2 * a1.toNatClampNeg) t (rX6_stepOf a2)) = (-1) then (if (t (b) 4) < 24 then (zset (sX4_putHouse (b + 27 + 2 * a1.toNatClampNeg) (zset (zset t (b + 2 + H) 0 a1) (b + 2 + H) 1 a2) (rX6_stepOf a2) (t (b) 4)) (b) 4 ((t (b) 4) + 1)) else t) else t)) else t)
theorem mX5_addHouse_stX6_isPlace : Cond.static yX6_isPlace ∈ wsX5_addHouse := by decide +kernel
set_option maxRecDepth 20000 in
theorem mX5_addHouse_ini6 : Cond.initialized RX6 ∈ wsX5_addHouse := by decide +kernel
theorem mX5_addHouse_stX6_stepOf : Cond.static yX6_stepOf ∈ wsX5_addHouse := by decide +kernel
theorem mX5_addHouse_f55 : Cond.fieldLink RX5 55 "WrongedMeters$Town" "houseCount" "I" ∈ wsX5_addHouse := by decide +kernel
set_option maxRecDepth 20000 in
theorem mX5_addHouse_in5 : ∀ w ∈ u_ws RX5 TX5 13, w ∈ wsX5_addHouse := by decide +kernel
theorem mX5_addHouse_f11 : Cond.fieldLink RX5 11 "WrongedMeters$Town" "houses" "[LWrongedMeters$House;" ∈ wsX5_addHouse := by decide +kernel
set_option maxRecDepth 20000 in
theorem mX5_addHouse_in1 : ∀ w ∈ u_ws RX1 TX1 14, w ∈ wsX5_addHouse := by decide +kernel
theorem mX5_addHouse_c101 : Cond.constant RX5 101 (-1000003) ∈ wsX5_addHouse := by decide +kernel
theorem mX5_addHouse_c119 : Cond.constant RX5 119 (-1000002) ∈ wsX5_addHouse := by decide +kernel
theorem mX5_addHouse_c100 : Cond.constant RX5 100 (-1000001) ∈ wsX5_addHouse := by decide +kernel
theorem hyX5_addHouse : yX5_addHouse.cls = RX5 ∧ yX5_addHouse.cls ≠ "java/lang/invoke/MethodHandle" ∧ yX5_addHouse.cls ≠ "java/lang/invoke/VarHandle" ∧ (parseMethodDescriptor yX5_addHouse.desc).map (fun d => d.parameters.length) = some 2 := by decide +kernel
set_option maxHeartbeats 3000000 in
set_option maxRecDepth 100000 in
theorem kX5_addHouse (l : Launch) (D : va_G) (cy : Nat → ClassId) (K : zK) (n : Nat) (ad : Nat → Nat) (hJ : zJ n ad) (b : Nat) (hO : zTown cy K n ad b) (t : zM) (H : Nat) (a1 : Int32) (a2 : Int32) (hH : H ≤ 24) (hc : t b 4 = nI H) : zI l yX5_addHouse wsX5_addHouse 1 D cy K n ad t [.ref (ad (b)), .int a1, .int a2] (fun r t1 => r = rX5_addHouse b t H a1 a2 ∧ t1 = sX5_addHouse b t H a1 a2) := by
  refine z_startI (cc := cX5_addHouse) (mL := 5) (ret := (some .int)) (own := RX5) rfl (by decide +kernel) rfl hJ (Nat.le_of_ble_eq_true rfl) ?_
  intro p e s m args below meth c A hA Q hQ C
  refine z_aload_n C 0 0 0 dX5_addHouse_0 rfl rfl ?_
  refine z_iload_n C 1 1 1 dX5_addHouse_1 rfl rfl ?_
  refine z_virtQ C 2 (As := [.int a1]) (st := []) (id := b) (kX5_streetNumbered l D cy K n ad hJ (b) hO t a1 ) dX5_addHouse_2 rfl gX5_addHouse_X5_streetNumbered hyX5_streetNumbered rfl (by decide) (by decide) hO.h0 rfl hO.e0 rfl rfl rfl (Nat.le_of_ble_eq_true rfl) (fun r2_1 t2_1 h2_1 => ?_)
  obtain ⟨e9, e8⟩ := h2_1; replace e9 := e9.symm; replace e8 := e8.symm; subst e9; subst e8
  by_cases c2_2 : zis a1
  · have hkc2_2 := zis_lt c2_2
    refine z_cast (st2 := [.ref (ad (b + 27 + 2 * a1.toNatClampNeg))]) (by rw [if_pos c2_2]; rfl) ?_
    refine z_astore_n C 5 3 ([(3, .ref (ad (b + 27 + 2 * a1.toNatClampNeg))), (0, .ref (ad (b))), (1, .int a1), (2, .int a2)]) dX5_addHouse_5 rfl (by decide) rfl ?_
    refine z_aload_n C 6 3 0 dX5_addHouse_6 rfl rfl ?_
    refine z_ifnull C 7 dX5_addHouse_7 ?_
    refine z_iload_n C 10 2 3 dX5_addHouse_10 rfl rfl ?_
    refine z_statNIe C 11 (As := [.int a2]) (st := []) (kX6_isPlace l D cy K n ad hJ t a2 ) dX5_addHouse_11 rfl ggX5_addHouse_X6_isPlace nst_m5_109 mX5_addHouse_stX6_isPlace mX5_addHouse_ini6 hyX6_isPlace rfl (by decide) (by decide) rfl rfl (Nat.le_of_ble_eq_true rfl) ?_
    refine z_if_ne C 14 20 dX5_addHouse_14 (by decide) (fun c14_4 => ?_) (fun c14_4 => ?_)
    · refine z_aload_n C 20 3 0 dX5_addHouse_20 rfl rfl ?_
      refine z_iload_n C 21 2 3 dX5_addHouse_21 rfl rfl ?_
      refine z_statNIe C 22 (As := [.int a2]) (st := [.ref (ad (b + 27 + 2 * a1.toNatClampNeg))]) (kX6_stepOf l D cy K n ad hJ t a2 ) dX5_addHouse_22 rfl ggX5_addHouse_X6_stepOf nst_m5_113 mX5_addHouse_stX6_stepOf mX5_addHouse_ini6 hyX6_stepOf rfl (by decide) (by decide) rfl rfl (Nat.le_of_ble_eq_true rfl) ?_
      refine z_virtIe C 25 (As := [.int (rX6_stepOf a2)]) (st := []) (id := b + 27 + 2 * a1.toNatClampNeg) (kX4_houseOn l D cy K n ad hJ (b + 27 + 2 * a1.toNatClampNeg) (hO.str hkc2_2) t (rX6_stepOf a2) ) dX5_addHouse_25 rfl gX5_addHouse_X4_houseOn hyX4_houseOn rfl (by decide) (by decide) (Nat.lt_of_succ_lt (hO.str hkc2_2).1) rfl (hO.str hkc2_2).2.1 rfl rfl rfl (Nat.le_of_ble_eq_true rfl) ?_
      refine z_iconst C 28 (v := (-1)) dX5_addHouse_28 (by decide +kernel) ?_
      refine z_icmp_eq C 29 35 dX5_addHouse_29 (by decide) (fun c29_7 => ?_) (fun c29_7 => ?_)
      · refine z_aload_n C 35 0 1 dX5_addHouse_35 rfl rfl ?_
        refine z_geti C 36 (b) 4 dX5_addHouse_36 hO.h0 hO.e0 mX5_addHouse_in5 rfl (by decide) mX5_addHouse_f55 (fun _ => rfl) ?_
        refine z_bipush C 39 (v := 24) dX5_addHouse_39 (by decide +kernel) ?_
        refine z_icmp_lt C 41 47 dX5_addHouse_41 (by decide) (fun c41_8 => ?_) (fun c41_8 => ?_)
        · refine z_aload_n C 47 0 1 dX5_addHouse_47 rfl rfl ?_
          refine z_getr C 48 (a9 := ad (b + 1)) (b) 0 dX5_addHouse_48 hO.h0 hO.e0 mX5_addHouse_in5 rfl (by decide) mX5_addHouse_f11 (fun _ => rfl) ?_
          refine z_aload_n C 51 0 1 dX5_addHouse_51 rfl rfl ?_
          refine z_geti C 52 (b) 4 dX5_addHouse_52 hO.h0 hO.e0 mX5_addHouse_in5 rfl (by decide) mX5_addHouse_f55 (fun _ => rfl) ?_
          refine z_aald C 55 (b + 1) 1 H (ad (b + 2 + H)) dX5_addHouse_55 hO.h1 hO.e1 rfl hc (zlt (b := 24) (by omega) (by decide) (hc ▸ ‹t b 4 < 24›)) (by decide) rfl ?_
          refine z_astore C 56 4 ([(4, .ref (ad (b + 2 + H))), (3, .ref (ad (b + 27 + 2 * a1.toNatClampNeg))), (0, .ref (ad (b))), (1, .int a1), (2, .int a2)]) dX5_addHouse_56 (by decide) rfl ?_
          refine z_aload C 58 4 0 dX5_addHouse_58 rfl ?_
          refine z_iload_n C 60 1 3 dX5_addHouse_60 rfl rfl ?_
          refine z_putN C 61 (ty := .int) (b + 2 + H) 0 dX5_addHouse_61 (hO.hou (zlt (b := 24) (by omega) (by decide) (hc ▸ ‹t b 4 < 24›))).1 (hO.hou (zlt (b := 24) (by omega) (by decide) (hc ▸ ‹t b 4 < 24›))).2 mX5_addHouse_in1 tyX1 tyX1_ok nmX1 rfl (by decide) nst_f5_120 rfl (by decide +kernel) (vp_nar_int _) (zfit_i _) (fun _ => Nat.le_of_ble_eq_true rfl) (fun _ _ => rfl) ?_
          refine z_aload C 64 4 0 dX5_addHouse_64 rfl ?_
          refine z_iload_n C 66 2 4 dX5_addHouse_66 rfl rfl ?_
          refine z_putN C 67 (ty := .int) (b + 2 + H) 1 dX5_addHouse_67 (hO.hou (zlt (b := 24) (by omega) (by decide) (hc ▸ ‹t b 4 < 24›))).1 (hO.hou (zlt (b := 24) (by omega) (by decide) (hc ▸ ‹t b 4 < 24›))).2 mX5_addHouse_in1 tyX1 tyX1_ok nmX1 rfl (by decide) nst_f5_123 rfl (by decide +kernel) (vp_nar_int _) (zfit_i _) (fun _ => Nat.le_of_ble_eq_true rfl) (fun _ _ => rfl) ?_
          refine z_aload_n C 70 3 1 dX5_addHouse_70 rfl rfl ?_
          refine z_iload_n C 71 2 4 dX5_addHouse_71 rfl rfl ?_
          refine z_statNIe C 72 (As := [.int a2]) (st := [.ref (ad (b + 27 + 2 * a1.toNatClampNeg))]) (kX6_stepOf l D cy K n ad hJ (zset (zset t (b + 2 + H) 0 a1) (b + 2 + H) 1 a2) a2 ) dX5_addHouse_72 rfl ggX5_addHouse_X6_stepOf nst_m5_113 mX5_addHouse_stX6_stepOf mX5_addHouse_ini6 hyX6_stepOf rfl (by decide) (by decide) rfl rfl (Nat.le_of_ble_eq_true rfl) ?_
          refine z_aload_n C 75 0 2 dX5_addHouse_75 rfl rfl ?_
          refine z_geti C 76 (b) 4 dX5_addHouse_76 hO.h0 hO.e0 mX5_addHouse_in5 rfl (by decide) mX5_addHouse_f55 (fun _ => rfl) ?_
          refine z_nv (t (b) 4) ((zset_idk _ _ _ _ (by omega)).trans ((zset_idk _ _ _ _ (by omega)).trans rfl)) ?_
          refine z_virtVe C 79 (As := [.int (rX6_stepOf a2), .int (t (b) 4)]) (st := []) (id := b + 27 + 2 * a1.toNatClampNeg) (kX4_putHouse l D cy K n ad hJ (b + 27 + 2 * a1.toNatClampNeg) (hO.str hkc2_2) (zset (zset t (b + 2 + H) 0 a1) (b + 2 + H) 1 a2) (rX6_stepOf a2) (t (b) 4) ) dX5_addHouse_79 rfl gX5_addHouse_X4_putHouse hyX4_putHouse rfl (by decide) (by decide) (Nat.lt_of_succ_lt (hO.str hkc2_2).1) rfl (hO.str hkc2_2).2.1 rfl rfl rfl (Nat.le_of_ble_eq_true rfl) ?_
          refine z_aload_n C 82 0 2 dX5_addHouse_82 rfl rfl ?_
          refine z_dup C 83 dX5_addHouse_83 rfl ?_
          refine z_geti C 84 (b) 4 dX5_addHouse_84 hO.h0 hO.e0 mX5_addHouse_in5 rfl (by decide) mX5_addHouse_f55 (fun _ => rfl) ?_
          refine z_nv (t (b) 4) ((congrFun (sX4_putHouse_o _ _ _ _ (by omega)) 4).trans ((zset_idk _ _ _ _ (by omega)).trans ((zset_idk _ _ _ _ (by omega)).trans rfl))) ?_
          refine z_iconst C 87 (v := 1) dX5_addHouse_87 (by decide +kernel) ?_
          refine z_iadd C 88 dX5_addHouse_88 ?_
          refine z_put C 89 (ty := .int) (b) 4 dX5_addHouse_89 hO.h0 hO.e0 mX5_addHouse_in5 tyX5 tyX5_ok nmX5 rfl (by decide) mX5_addHouse_f55 rfl (by decide +kernel) (vp_nar_int _) (zfit_i _) (fun _ => Nat.le_of_ble_eq_true rfl) (fun _ _ => rfl) ?_
          refine z_aload_n C 92 0 2 dX5_addHouse_92 rfl rfl ?_
          refine z_geti C 93 (b) 4 dX5_addHouse_93 hO.h0 hO.e0 mX5_addHouse_in5 rfl (by decide) mX5_addHouse_f55 (fun _ => rfl) ?_
          refine z_nv ((t (b) 4) + 1) (zset_eq _ _ _ _) ?_
          refine z_iconst C 96 (v := 1) dX5_addHouse_96 (by decide +kernel) ?_
          refine z_isub C 97 dX5_addHouse_97 ?_
          exact z_iret C 98 hA hQ rfl dX5_addHouse_98 ⟨((if_pos c2_2).trans ((if_neg c14_4).trans ((if_pos c29_7).trans ((if_pos c41_8).trans rfl)))).symm, ((if_pos c2_2).trans ((if_neg c14_4).trans ((if_pos c29_7).trans ((if_pos c41_8).trans rfl)))).symm⟩
        · refine z_ldc C 44 (v := (-1000003)) dX5_addHouse_44 mX5_addHouse_c101 ?_
          exact z_iret C 46 hA hQ rfl dX5_addHouse_46 ⟨((if_pos c2_2).trans ((if_neg c14_4).trans ((if_pos c29_7).trans ((if_neg c41_8).trans rfl)))).symm, ((if_pos c2_2).trans ((if_neg c14_4).trans ((if_pos c29_7).trans ((if_neg c41_8).trans rfl)))).symm⟩
      · refine z_ldc C 32 (v := (-1000002)) dX5_addHouse_32 mX5_addHouse_c119 ?_
        exact z_iret C 34 hA hQ rfl dX5_addHouse_34 ⟨((if_pos c2_2).trans ((if_neg c14_4).trans ((if_neg c29_7).trans rfl))).symm, ((if_pos c2_2).trans ((if_neg c14_4).trans ((if_neg c29_7).trans rfl))).symm⟩
    · refine z_ldc C 17 (v := (-1000001)) dX5_addHouse_17 mX5_addHouse_c100 ?_
      exact z_iret C 19 hA hQ rfl dX5_addHouse_19 ⟨((if_pos c2_2).trans ((if_pos c14_4).trans rfl)).symm, ((if_pos c2_2).trans ((if_pos c14_4).trans rfl)).symm⟩
  · refine z_cast (st2 := [.null]) (by rw [if_neg c2_2]; rfl) ?_
    refine z_astore_nN C 5 3 ([(3, .null), (0, .ref (ad (b))), (1, .int a1), (2, .int a2)]) dX5_addHouse_5 rfl (by decide) rfl ?_
    refine z_aload_nN C 6 3 0 dX5_addHouse_6 rfl rfl ?_
    refine z_ifnullN C 7 17 dX5_addHouse_7 (by decide) ?_
    refine z_ldc C 17 (v := (-1000001)) dX5_addHouse_17 mX5_addHouse_c100 ?_
    exact z_iret C 19 hA hQ rfl dX5_addHouse_19 ⟨((if_neg c2_2).trans rfl).symm, ((if_neg c2_2).trans rfl).symm⟩
def rX5_putFlow (b : Nat) (t : zM) (a1 : Int32) (a2 : Int32) : Int32 := (if zin (t (b) 4) a1 then (if a2 < 0 then (-1000001) else (if a2 ≤ 999 then (t (b + 2 + a1.toNatClampNeg) 4) else (-1000001))) else (-1000001))
def sX5_putFlow (b : Nat) (t : zM) (a1 : Int32) (a2 : Int32) : zM := (if zin (t (b) 4) a1 then (if a2 < 0 then t else (if a2 ≤ 999 then (zset t (b + 2 + a1.toNatClampNeg) 4 a2) else t)) else t)
theorem mX5_putFlow_c100 : Cond.constant RX5 100 (-1000001) ∈ wsX5_putFlow := by decide +kernel
set_option maxRecDepth 20000 in
theorem mX5_putFlow_in1 : ∀ w ∈ u_ws RX1 TX1 14, w ∈ wsX5_putFlow := by decide +kernel
theorem hyX5_putFlow : yX5_putFlow.cls = RX5 ∧ yX5_putFlow.cls ≠ "java/lang/invoke/MethodHandle" ∧ yX5_putFlow.cls ≠ "java/lang/invoke/VarHandle" ∧ (parseMethodDescriptor yX5_putFlow.desc).map (fun d => d.parameters.length) = some 2 := by decide +kernel
set_option maxHeartbeats 3000000 in
set_option maxRecDepth 100000 in
theorem kX5_putFlow (l : Launch) (D : va_G) (cy : Nat → ClassId) (K : zK) (n : Nat) (ad : Nat → Nat) (hJ : zJ n ad) (b : Nat) (hO : zTown cy K n ad b) (t : zM) (a1 : Int32) (a2 : Int32)  : zI l yX5_putFlow wsX5_putFlow 1 D cy K n ad t [.ref (ad (b)), .int a1, .int a2] (fun r t1 => r = rX5_putFlow b t a1 a2 ∧ t1 = sX5_putFlow b t a1 a2) := by
  refine z_startI (cc := cX5_putFlow) (mL := 5) (ret := (some .int)) (own := RX5) rfl (by decide +kernel) rfl hJ (Nat.le_of_ble_eq_true rfl) ?_
  intro p e s m args below meth c A hA Q hQ C
  refine z_aload_n C 0 0 0 dX5_putFlow_0 rfl rfl ?_
  refine z_iload_n C 1 1 1 dX5_putFlow_1 rfl rfl ?_
  refine z_virtQ C 2 (As := [.int a1]) (st := []) (id := b) (kX5_houseNumbered l D cy K n ad hJ (b) hO t a1 ) dX5_putFlow_2 rfl gX5_putFlow_X5_houseNumbered hyX5_houseNumbered rfl (by decide) (by decide) hO.h0 rfl hO.e0 rfl rfl rfl (Nat.le_of_ble_eq_true rfl) (fun r2_1 t2_1 h2_1 => ?_)
  obtain ⟨e9, e8⟩ := h2_1; replace e9 := e9.symm; replace e8 := e8.symm; subst e9; subst e8
  by_cases c2_2 : zin (t (b) 4) a1
  · have hkc2_2 := zin_lt c2_2
    refine z_cast (st2 := [.ref (ad (b + 2 + a1.toNatClampNeg))]) (by rw [if_pos c2_2]; rfl) ?_
    refine z_astore_n C 5 3 ([(3, .ref (ad (b + 2 + a1.toNatClampNeg))), (0, .ref (ad (b))), (1, .int a1), (2, .int a2)]) dX5_putFlow_5 rfl (by decide) rfl ?_
    refine z_aload_n C 6 3 0 dX5_putFlow_6 rfl rfl ?_
    refine z_ifnull C 7 dX5_putFlow_7 ?_
    refine z_iload_n C 10 2 3 dX5_putFlow_10 rfl rfl ?_
    refine z_if_lt C 11 21 dX5_putFlow_11 (by decide) (fun c11_3 => ?_) (fun c11_3 => ?_)
    · refine z_ldc C 21 (v := (-1000001)) dX5_putFlow_21 mX5_putFlow_c100 ?_
      exact z_iret C 23 hA hQ rfl dX5_putFlow_23 ⟨((if_pos c2_2).trans ((if_pos c11_3).trans rfl)).symm, ((if_pos c2_2).trans ((if_pos c11_3).trans rfl)).symm⟩
    · refine z_iload_n C 14 2 3 dX5_putFlow_14 rfl rfl ?_
      refine z_sipush C 15 (v := 999) dX5_putFlow_15 (by decide +kernel) ?_
      refine z_icmp_le C 18 24 dX5_putFlow_18 (by decide) (fun c18_4 => ?_) (fun c18_4 => ?_)
      · refine z_aload_n C 24 3 0 dX5_putFlow_24 rfl rfl ?_
        refine z_getiN C 25 (b + 2 + a1.toNatClampNeg) 4 dX5_putFlow_25 (hO.hou hkc2_2).1 (hO.hou hkc2_2).2 mX5_putFlow_in1 rfl (by decide) nst_f5_134 (fun _ => rfl) ?_
        refine z_istore C 28 4 ([(4, .int (t (b + 2 + a1.toNatClampNeg) 4)), (3, .ref (ad (b + 2 + a1.toNatClampNeg))), (0, .ref (ad (b))), (1, .int a1), (2, .int a2)]) dX5_putFlow_28 (by decide) rfl ?_
        refine z_aload_n C 30 3 1 dX5_putFlow_30 rfl rfl ?_
        refine z_iload_n C 31 2 4 dX5_putFlow_31 rfl rfl ?_
        refine z_putN C 32 (ty := .int) (b + 2 + a1.toNatClampNeg) 4 dX5_putFlow_32 (hO.hou hkc2_2).1 (hO.hou hkc2_2).2 mX5_putFlow_in1 tyX1 tyX1_ok nmX1 rfl (by decide) nst_f5_134 rfl (by decide +kernel) (vp_nar_int _) (zfit_i _) (fun _ => Nat.le_of_ble_eq_true rfl) (fun _ _ => rfl) ?_
        refine z_iload C 35 4 0 dX5_putFlow_35 rfl ?_
        exact z_iret C 37 hA hQ rfl dX5_putFlow_37 ⟨((if_pos c2_2).trans ((if_neg c11_3).trans ((if_pos c18_4).trans rfl))).symm, ((if_pos c2_2).trans ((if_neg c11_3).trans ((if_pos c18_4).trans rfl))).symm⟩
      · refine z_ldc C 21 (v := (-1000001)) dX5_putFlow_21 mX5_putFlow_c100 ?_
        exact z_iret C 23 hA hQ rfl dX5_putFlow_23 ⟨((if_pos c2_2).trans ((if_neg c11_3).trans ((if_neg c18_4).trans rfl))).symm, ((if_pos c2_2).trans ((if_neg c11_3).trans ((if_neg c18_4).trans rfl))).symm⟩
  · refine z_cast (st2 := [.null]) (by rw [if_neg c2_2]; rfl) ?_
    refine z_astore_nN C 5 3 ([(3, .null), (0, .ref (ad (b))), (1, .int a1), (2, .int a2)]) dX5_putFlow_5 rfl (by decide) rfl ?_
    refine z_aload_nN C 6 3 0 dX5_putFlow_6 rfl rfl ?_
    refine z_ifnullN C 7 21 dX5_putFlow_7 (by decide) ?_
    refine z_ldc C 21 (v := (-1000001)) dX5_putFlow_21 mX5_putFlow_c100 ?_
    exact z_iret C 23 hA hQ rfl dX5_putFlow_23 ⟨((if_neg c2_2).trans rfl).symm, ((if_neg c2_2).trans rfl).symm⟩
def rX5_putLock (b : Nat) (t : zM) (a1 : Int32) (a2 : Int32) : Int32 := (if zin (t (b) 4) a1 then (if (t (b + 2 + a1.toNatClampNeg) 5) = 0 then 0 else 1) else (-1000001))
def sX5_putLock (b : Nat) (t : zM) (a1 : Int32) (a2 : Int32) : zM := (if zin (t (b) 4) a1 then (if (t (b + 2 + a1.toNatClampNeg) 5) = 0 then (zset t (b + 2 + a1.toNatClampNeg) 5 a2) else (zset t (b + 2 + a1.toNatClampNeg) 5 a2)) else t)
set_option maxRecDepth 20000 in
theorem mX5_putLock_in1 : ∀ w ∈ u_ws RX1 TX1 14, w ∈ wsX5_putLock := by decide +kernel
theorem mX5_putLock_c100 : Cond.constant RX5 100 (-1000001) ∈ wsX5_putLock := by decide +kernel
theorem hyX5_putLock : yX5_putLock.cls = RX5 ∧ yX5_putLock.cls ≠ "java/lang/invoke/MethodHandle" ∧ yX5_putLock.cls ≠ "java/lang/invoke/VarHandle" ∧ (parseMethodDescriptor yX5_putLock.desc).map (fun d => d.parameters.length) = some 2 := by decide +kernel
set_option maxHeartbeats 3000000 in
set_option maxRecDepth 100000 in
theorem kX5_putLock (l : Launch) (D : va_G) (cy : Nat → ClassId) (K : zK) (n : Nat) (ad : Nat → Nat) (hJ : zJ n ad) (b : Nat) (hO : zTown cy K n ad b) (t : zM) (a1 : Int32) (a2 : Int32) (hb2 : a2 = 0 ∨ a2 = 1) : zI l yX5_putLock wsX5_putLock 1 D cy K n ad t [.ref (ad (b)), .int a1, .int a2] (fun r t1 => r = rX5_putLock b t a1 a2 ∧ t1 = sX5_putLock b t a1 a2) := by
  refine z_startI (cc := cX5_putLock) (mL := 5) (ret := (some .int)) (own := RX5) rfl (by decide +kernel) rfl hJ (Nat.le_of_ble_eq_true rfl) ?_
  intro p e s m args below meth c A hA Q hQ C
  refine z_aload_n C 0 0 0 dX5_putLock_0 rfl rfl ?_
  refine z_iload_n C 1 1 1 dX5_putLock_1 rfl rfl ?_
  refine z_virtQ C 2 (As := [.int a1]) (st := []) (id := b) (kX5_houseNumbered l D cy K n ad hJ (b) hO t a1 ) dX5_putLock_2 rfl gX5_putLock_X5_houseNumbered hyX5_houseNumbered rfl (by decide) (by decide) hO.h0 rfl hO.e0 rfl rfl rfl (Nat.le_of_ble_eq_true rfl) (fun r2_1 t2_1 h2_1 => ?_)
  obtain ⟨e9, e8⟩ := h2_1; replace e9 := e9.symm; replace e8 := e8.symm; subst e9; subst e8
  by_cases c2_2 : zin (t (b) 4) a1
  · have hkc2_2 := zin_lt c2_2
    refine z_cast (st2 := [.ref (ad (b + 2 + a1.toNatClampNeg))]) (by rw [if_pos c2_2]; rfl) ?_
    refine z_astore_n C 5 3 ([(3, .ref (ad (b + 2 + a1.toNatClampNeg))), (0, .ref (ad (b))), (1, .int a1), (2, .int a2)]) dX5_putLock_5 rfl (by decide) rfl ?_
    refine z_aload_n C 6 3 0 dX5_putLock_6 rfl rfl ?_
    refine z_ifnonnull C 7 13 dX5_putLock_7 (by decide) ?_
    refine z_aload_n C 13 3 0 dX5_putLock_13 rfl rfl ?_
    refine z_getiN C 14 (b + 2 + a1.toNatClampNeg) 5 dX5_putLock_14 (hO.hou hkc2_2).1 (hO.hou hkc2_2).2 mX5_putLock_in1 rfl (by decide) nst_f5_137 (fun _ => rfl) ?_
    refine z_if_eq C 17 24 dX5_putLock_17 (by decide) (fun c17_3 => ?_) (fun c17_3 => ?_)
    · refine z_iconst C 24 (v := 0) dX5_putLock_24 (by decide +kernel) ?_
      refine z_istore C 25 4 ([(4, .int 0), (3, .ref (ad (b + 2 + a1.toNatClampNeg))), (0, .ref (ad (b))), (1, .int a1), (2, .int a2)]) dX5_putLock_25 (by decide) rfl ?_
      refine z_aload_n C 27 3 1 dX5_putLock_27 rfl rfl ?_
      refine z_iload_n C 28 2 4 dX5_putLock_28 rfl rfl ?_
      refine z_putN C 29 (ty := .boolean) (b + 2 + a1.toNatClampNeg) 5 dX5_putLock_29 (hO.hou hkc2_2).1 (hO.hou hkc2_2).2 mX5_putLock_in1 tyX1 tyX1_ok nmX1 rfl (by decide) nst_f5_137 rfl (by decide +kernel) (znar_b hb2) (zfit_b hb2) (fun _ => Nat.le_of_ble_eq_true rfl) (fun _ _ => rfl) ?_
      refine z_iload C 32 4 0 dX5_putLock_32 rfl ?_
      exact z_iret C 34 hA hQ rfl dX5_putLock_34 ⟨((if_pos c2_2).trans ((if_pos c17_3).trans rfl)).symm, ((if_pos c2_2).trans ((if_pos c17_3).trans rfl)).symm⟩
    · refine z_iconst C 20 (v := 1) dX5_putLock_20 (by decide +kernel) ?_
      refine z_goto C 21 25 dX5_putLock_21 (by decide) ?_
      refine z_istore C 25 4 ([(4, .int 1), (3, .ref (ad (b + 2 + a1.toNatClampNeg))), (0, .ref (ad (b))), (1, .int a1), (2, .int a2)]) dX5_putLock_25 (by decide) rfl ?_
      refine z_aload_n C 27 3 1 dX5_putLock_27 rfl rfl ?_
      refine z_iload_n C 28 2 4 dX5_putLock_28 rfl rfl ?_
      refine z_putN C 29 (ty := .boolean) (b + 2 + a1.toNatClampNeg) 5 dX5_putLock_29 (hO.hou hkc2_2).1 (hO.hou hkc2_2).2 mX5_putLock_in1 tyX1 tyX1_ok nmX1 rfl (by decide) nst_f5_137 rfl (by decide +kernel) (znar_b hb2) (zfit_b hb2) (fun _ => Nat.le_of_ble_eq_true rfl) (fun _ _ => rfl) ?_
      refine z_iload C 32 4 0 dX5_putLock_32 rfl ?_
      exact z_iret C 34 hA hQ rfl dX5_putLock_34 ⟨((if_pos c2_2).trans ((if_neg c17_3).trans rfl)).symm, ((if_pos c2_2).trans ((if_neg c17_3).trans rfl)).symm⟩
  · refine z_cast (st2 := [.null]) (by rw [if_neg c2_2]; rfl) ?_
    refine z_astore_nN C 5 3 ([(3, .null), (0, .ref (ad (b))), (1, .int a1), (2, .int a2)]) dX5_putLock_5 rfl (by decide) rfl ?_
    refine z_aload_nN C 6 3 0 dX5_putLock_6 rfl rfl ?_
    refine z_ifnonnullN C 7 dX5_putLock_7 ?_
    refine z_ldc C 10 (v := (-1000001)) dX5_putLock_10 mX5_putLock_c100 ?_
    exact z_iret C 12 hA hQ rfl dX5_putLock_12 ⟨((if_neg c2_2).trans rfl).symm, ((if_neg c2_2).trans rfl).symm⟩
def rX5_turnLock (b : Nat) (t : zM) (a1 : Int32) : Int32 := (if zin (t (b) 4) a1 then (if (t (b + 2 + a1.toNatClampNeg) 5) = 0 then (rX5_putLock (b) t a1 1) else (rX5_putLock (b) t a1 0)) else (-1000001))
def sX5_turnLock (b : Nat) (t : zM) (a1 : Int32) : zM := (if zin (t (b) 4) a1 then (if (t (b + 2 + a1.toNatClampNeg) 5) = 0 then (sX5_putLock (b) t a1 1) else (sX5_putLock (b) t a1 0)) else t)
set_option maxRecDepth 20000 in
theorem mX5_turnLock_in1 : ∀ w ∈ u_ws RX1 TX1 14, w ∈ wsX5_turnLock := by decide +kernel
theorem mX5_turnLock_c100 : Cond.constant RX5 100 (-1000001) ∈ wsX5_turnLock := by decide +kernel
theorem hyX5_turnLock : yX5_turnLock.cls = RX5 ∧ yX5_turnLock.cls ≠ "java/lang/invoke/MethodHandle" ∧ yX5_turnLock.cls ≠ "java/lang/invoke/VarHandle" ∧ (parseMethodDescriptor yX5_turnLock.desc).map (fun d => d.parameters.length) = some 1 := by decide +kernel
set_option maxHeartbeats 3000000 in
set_option maxRecDepth 100000 in
theorem kX5_turnLock (l : Launch) (D : va_G) (cy : Nat → ClassId) (K : zK) (n : Nat) (ad : Nat → Nat) (hJ : zJ n ad) (b : Nat) (hO : zTown cy K n ad b) (t : zM) (a1 : Int32)  : zI l yX5_turnLock wsX5_turnLock 2 D cy K n ad t [.ref (ad (b)), .int a1] (fun r t1 => r = rX5_turnLock b t a1 ∧ t1 = sX5_turnLock b t a1) := by
  refine z_startI (cc := cX5_turnLock) (mL := 3) (ret := (some .int)) (own := RX5) rfl (by decide +kernel) rfl hJ (Nat.le_of_ble_eq_true rfl) ?_
  intro p e s m args below meth c A hA Q hQ C
  refine z_aload_n C 0 0 0 dX5_turnLock_0 rfl rfl ?_
  refine z_iload_n C 1 1 1 dX5_turnLock_1 rfl rfl ?_
  refine z_virtQ C 2 (As := [.int a1]) (st := []) (id := b) (kX5_houseNumbered l D cy K n ad hJ (b) hO t a1 ) dX5_turnLock_2 rfl gX5_turnLock_X5_houseNumbered hyX5_houseNumbered rfl (by decide) (by decide) hO.h0 rfl hO.e0 rfl rfl rfl (Nat.le_of_ble_eq_true rfl) (fun r2_1 t2_1 h2_1 => ?_)
  obtain ⟨e9, e8⟩ := h2_1; replace e9 := e9.symm; replace e8 := e8.symm; subst e9; subst e8
  by_cases c2_2 : zin (t (b) 4) a1
  · have hkc2_2 := zin_lt c2_2
    refine z_cast (st2 := [.ref (ad (b + 2 + a1.toNatClampNeg))]) (by rw [if_pos c2_2]; rfl) ?_
    refine z_astore_n C 5 2 ([(2, .ref (ad (b + 2 + a1.toNatClampNeg))), (0, .ref (ad (b))), (1, .int a1)]) dX5_turnLock_5 rfl (by decide) rfl ?_
    refine z_aload_n C 6 2 0 dX5_turnLock_6 rfl rfl ?_
    refine z_ifnonnull C 7 15 dX5_turnLock_7 (by decide) ?_
    refine z_aload_n C 15 0 1 dX5_turnLock_15 rfl rfl ?_
    refine z_iload_n C 16 1 2 dX5_turnLock_16 rfl rfl ?_
    refine z_aload_n C 17 2 0 dX5_turnLock_17 rfl rfl ?_
    refine z_getiN C 18 (b + 2 + a1.toNatClampNeg) 5 dX5_turnLock_18 (hO.hou hkc2_2).1 (hO.hou hkc2_2).2 mX5_turnLock_in1 rfl (by decide) nst_f5_137 (fun _ => rfl) ?_
    refine z_if_ne C 21 28 dX5_turnLock_21 (by decide) (fun c21_3 => ?_) (fun c21_3 => ?_)
    · refine z_iconst C 28 (v := 0) dX5_turnLock_28 (by decide +kernel) ?_
      refine z_virtIe C 29 (As := [.int a1, .int 0]) (st := []) (id := b) (kX5_putLock l D cy K n ad hJ (b) hO t a1 0 (Or.inl rfl)) dX5_turnLock_29 rfl gX5_turnLock_X5_putLock hyX5_putLock rfl (by decide) (by decide) hO.h0 rfl hO.e0 rfl rfl rfl (Nat.le_of_ble_eq_true rfl) ?_
      exact z_iret C 32 hA hQ rfl dX5_turnLock_32 ⟨((if_pos c2_2).trans ((if_neg c21_3).trans rfl)).symm, ((if_pos c2_2).trans ((if_neg c21_3).trans rfl)).symm⟩
    · refine z_iconst C 24 (v := 1) dX5_turnLock_24 (by decide +kernel) ?_
      refine z_goto C 25 29 dX5_turnLock_25 (by decide) ?_
      refine z_virtIe C 29 (As := [.int a1, .int 1]) (st := []) (id := b) (kX5_putLock l D cy K n ad hJ (b) hO t a1 1 (Or.inr rfl)) dX5_turnLock_29 rfl gX5_turnLock_X5_putLock hyX5_putLock rfl (by decide) (by decide) hO.h0 rfl hO.e0 rfl rfl rfl (Nat.le_of_ble_eq_true rfl) ?_
      exact z_iret C 32 hA hQ rfl dX5_turnLock_32 ⟨((if_pos c2_2).trans ((if_pos c21_3).trans rfl)).symm, ((if_pos c2_2).trans ((if_pos c21_3).trans rfl)).symm⟩
  · refine z_cast (st2 := [.null]) (by rw [if_neg c2_2]; rfl) ?_
    refine z_astore_nN C 5 2 ([(2, .null), (0, .ref (ad (b))), (1, .int a1)]) dX5_turnLock_5 rfl (by decide) rfl ?_
    refine z_aload_nN C 6 2 0 dX5_turnLock_6 rfl rfl ?_
    refine z_ifnonnullN C 7 dX5_turnLock_7 ?_
    refine z_ldc C 10 (v := (-1000001)) dX5_turnLock_10 mX5_turnLock_c100 ?_
    refine z_goto C 12 32 dX5_turnLock_12 (by decide) ?_
    exact z_iret C 32 hA hQ rfl dX5_turnLock_32 ⟨((if_neg c2_2).trans rfl).symm, ((if_neg c2_2).trans rfl).symm⟩
def rX5_readMeter (b : Nat) (t : zM) (k : Nat) (a2 : Int32) : Int32 := (rX6_unitsFor (rX1_used (b + 2 + k) t) (t (b + 2 + k) 6))
def sX5_readMeter (b : Nat) (t : zM) (k : Nat) (a2 : Int32) : zM := (zset (zset (zset (zset (sX2_add (b + 35) (sX1_settle (b + 2 + k) t (t (b) 5) (rX1_used (b + 2 + k) t) (rX6_unitsFor (rX1_used (b + 2 + k) t) (t (b + 2 + k) 6))) ((t (b + 35) 1).toNatClampNeg) (t (b) 5) a2 (rX1_used (b + 2 + k) t) (rX6_unitsFor (rX1_used (b + 2 + k) t) (t (b + 2 + k) 6)) ((sX1_settle (b + 2 + k) t (t (b) 5) (rX1_used (b + 2 + k) t) (rX6_unitsFor (rX1_used (b + 2 + k) t) (t (b + 2 + k) 6))) (b + 2 + k) 6)) (b) 6 ((t (b) 6) + 1)) (b) 7 ((t (b) 7) + (rX6_unitsFor (rX1_used (b + 2 + k) t) (t (b + 2 + k) 6)))) (b) 8 ((t (b) 8) + ((rX6_unitsFor (rX1_used (b + 2 + k) t) (t (b + 2 + k) 6)) * (t (b + 37) 1)))) (b) 9 ((t (b) 9) + (rX1_used (b + 2 + k) t)))
set_option maxRecDepth 20000 in
theorem mX5_readMeter_in1 : ∀ w ∈ u_ws RX1 TX1 14, w ∈ wsX5_readMeter := by decide +kernel
theorem mX5_readMeter_stX6_unitsFor : Cond.static yX6_unitsFor ∈ wsX5_readMeter := by decide +kernel
set_option maxRecDepth 20000 in
theorem mX5_readMeter_ini6 : Cond.initialized RX6 ∈ wsX5_readMeter := by decide +kernel
theorem mX5_readMeter_f59 : Cond.fieldLink RX5 59 "WrongedMeters$Town" "now" "I" ∈ wsX5_readMeter := by decide +kernel
set_option maxRecDepth 20000 in
theorem mX5_readMeter_in5 : ∀ w ∈ u_ws RX5 TX5 13, w ∈ wsX5_readMeter := by decide +kernel
theorem mX5_readMeter_f26 : Cond.fieldLink RX5 26 "WrongedMeters$Town" "ledger" "LWrongedMeters$Ledger;" ∈ wsX5_readMeter := by decide +kernel
theorem mX5_readMeter_f62 : Cond.fieldLink RX5 62 "WrongedMeters$Town" "readings" "I" ∈ wsX5_readMeter := by decide +kernel
theorem mX5_readMeter_f65 : Cond.fieldLink RX5 65 "WrongedMeters$Town" "units" "I" ∈ wsX5_readMeter := by decide +kernel
theorem mX5_readMeter_f68 : Cond.fieldLink RX5 68 "WrongedMeters$Town" "coins" "I" ∈ wsX5_readMeter := by decide +kernel
theorem mX5_readMeter_f30 : Cond.fieldLink RX5 30 "WrongedMeters$Town" "settings" "[I" ∈ wsX5_readMeter := by decide +kernel
theorem mX5_readMeter_f71 : Cond.fieldLink RX5 71 "WrongedMeters$Town" "hundredths" "I" ∈ wsX5_readMeter := by decide +kernel
theorem hyX5_readMeter : yX5_readMeter.cls = RX5 ∧ yX5_readMeter.cls ≠ "java/lang/invoke/MethodHandle" ∧ yX5_readMeter.cls ≠ "java/lang/invoke/VarHandle" ∧ (parseMethodDescriptor yX5_readMeter.desc).map (fun d => d.parameters.length) = some 2 := by decide +kernel
set_option maxHeartbeats 3000000 in
set_option maxRecDepth 100000 in
theorem kX5_readMeter (l : Launch) (D : va_G) (cy : Nat → ClassId) (K : zK) (n : Nat) (ad : Nat → Nat) (hJ : zJ n ad) (b : Nat) (hO : zTown cy K n ad b) (t : zM) (k : Nat) (a2 : Int32) (hk : k < 24) (hr : zRow (t (b + 35) 1)) : zI l yX5_readMeter wsX5_readMeter 1 D cy K n ad t [.ref (ad (b)), .ref (ad (b + 2 + k)), .int a2] (fun r t1 => r = rX5_readMeter b t k a2 ∧ t1 = sX5_readMeter b t k a2) := by
  refine z_startI (cc := cX5_readMeter) (mL := 5) (ret := (some .int)) (own := RX5) rfl (by decide +kernel) rfl hJ (Nat.le_of_ble_eq_true rfl) ?_
  intro p e s m args below meth c A hA Q hQ C
  refine z_aload_n C 0 1 1 dX5_readMeter_0 rfl rfl ?_
  refine z_virtIe C 1 (As := []) (st := []) (id := b + 2 + k) (kX1_used l D cy K n ad hJ (b + 2 + k) (hO.hou hk) t  ) dX5_readMeter_1 rfl gX5_readMeter_X1_used hyX1_used rfl (by decide) (by decide) (hO.hou hk).1 rfl (hO.hou hk).2 rfl rfl rfl (Nat.le_of_ble_eq_true rfl) ?_
  refine z_istore_n C 4 3 ([(3, .int (rX1_used (b + 2 + k) t)), (0, .ref (ad (b))), (1, .ref (ad (b + 2 + k))), (2, .int a2)]) dX5_readMeter_4 rfl (by decide) rfl ?_
  refine z_iload_n C 5 3 0 dX5_readMeter_5 rfl rfl ?_
  refine z_aload_n C 6 1 2 dX5_readMeter_6 rfl rfl ?_
  refine z_getiN C 7 (b + 2 + k) 6 dX5_readMeter_7 (hO.hou hk).1 (hO.hou hk).2 mX5_readMeter_in1 rfl (by decide) nst_f5_165 (fun _ => rfl) ?_
  refine z_statNIe C 10 (As := [.int (rX1_used (b + 2 + k) t), .int (t (b + 2 + k) 6)]) (st := []) (kX6_unitsFor l D cy K n ad hJ t (rX1_used (b + 2 + k) t) (t (b + 2 + k) 6) ) dX5_readMeter_10 rfl ggX5_readMeter_X6_unitsFor nst_m5_168 mX5_readMeter_stX6_unitsFor mX5_readMeter_ini6 hyX6_unitsFor rfl (by decide) (by decide) rfl rfl (Nat.le_of_ble_eq_true rfl) ?_
  refine z_istore C 13 4 ([(4, .int (rX6_unitsFor (rX1_used (b + 2 + k) t) (t (b + 2 + k) 6))), (3, .int (rX1_used (b + 2 + k) t)), (0, .ref (ad (b))), (1, .ref (ad (b + 2 + k))), (2, .int a2)]) dX5_readMeter_13 (by decide) rfl ?_
  refine z_aload_n C 15 1 3 dX5_readMeter_15 rfl rfl ?_
  refine z_aload_n C 16 0 2 dX5_readMeter_16 rfl rfl ?_
  refine z_geti C 17 (b) 5 dX5_readMeter_17 hO.h0 hO.e0 mX5_readMeter_in5 rfl (by decide) mX5_readMeter_f59 (fun _ => rfl) ?_
  refine z_iload_n C 20 3 1 dX5_readMeter_20 rfl rfl ?_
  refine z_iload C 21 4 0 dX5_readMeter_21 rfl ?_
  refine z_virtVe C 23 (As := [.int (t (b) 5), .int (rX1_used (b + 2 + k) t), .int (rX6_unitsFor (rX1_used (b + 2 + k) t) (t (b + 2 + k) 6))]) (st := []) (id := b + 2 + k) (kX1_settle l D cy K n ad hJ (b + 2 + k) (hO.hou hk) t (t (b) 5) (rX1_used (b + 2 + k) t) (rX6_unitsFor (rX1_used (b + 2 + k) t) (t (b + 2 + k) 6)) ) dX5_readMeter_23 rfl gX5_readMeter_X1_settle hyX1_settle rfl (by decide) (by decide) (hO.hou hk).1 rfl (hO.hou hk).2 rfl rfl rfl (Nat.le_of_ble_eq_true rfl) ?_
  refine z_aload_n C 26 0 2 dX5_readMeter_26 rfl rfl ?_
  refine z_getr C 27 (a9 := ad (b + 35)) (b) 2 dX5_readMeter_27 hO.h0 hO.e0 mX5_readMeter_in5 rfl (by decide) mX5_readMeter_f26 (fun _ => rfl) ?_
  refine z_aload_n C 30 0 2 dX5_readMeter_30 rfl rfl ?_
  refine z_geti C 31 (b) 5 dX5_readMeter_31 hO.h0 hO.e0 mX5_readMeter_in5 rfl (by decide) mX5_readMeter_f59 (fun _ => rfl) ?_
  refine z_nv (t (b) 5) (congrFun (sX1_settle_o _ _ _ _ _ (by omega)) 5) ?_
  refine z_iload_n C 34 2 4 dX5_readMeter_34 rfl rfl ?_
  refine z_iload_n C 35 3 1 dX5_readMeter_35 rfl rfl ?_
  refine z_iload C 36 4 0 dX5_readMeter_36 rfl ?_
  refine z_aload_n C 38 1 3 dX5_readMeter_38 rfl rfl ?_
  refine z_getiN C 39 (b + 2 + k) 6 dX5_readMeter_39 (hO.hou hk).1 (hO.hou hk).2 mX5_readMeter_in1 rfl (by decide) nst_f5_165 (fun _ => rfl) ?_
  refine z_virtVe C 42 (As := [.int (t (b) 5), .int a2, .int (rX1_used (b + 2 + k) t), .int (rX6_unitsFor (rX1_used (b + 2 + k) t) (t (b + 2 + k) 6)), .int ((sX1_settle (b + 2 + k) t (t (b) 5) (rX1_used (b + 2 + k) t) (rX6_unitsFor (rX1_used (b + 2 + k) t) (t (b + 2 + k) 6))) (b + 2 + k) 6)]) (st := []) (id := b + 35) (kX2_add l D cy K n ad hJ (b + 35) hO.led (sX1_settle (b + 2 + k) t (t (b) 5) (rX1_used (b + 2 + k) t) (rX6_unitsFor (rX1_used (b + 2 + k) t) (t (b + 2 + k) 6))) ((t (b + 35) 1).toNatClampNeg) (t (b) 5) a2 (rX1_used (b + 2 + k) t) (rX6_unitsFor (rX1_used (b + 2 + k) t) (t (b + 2 + k) 6)) ((sX1_settle (b + 2 + k) t (t (b) 5) (rX1_used (b + 2 + k) t) (rX6_unitsFor (rX1_used (b + 2 + k) t) (t (b + 2 + k) 6))) (b + 2 + k) 6) hr.c.1 ((congrFun (sX1_settle_o _ _ _ _ _ (by omega)) 1).trans hr.c.2)) dX5_readMeter_42 rfl gX5_readMeter_X2_add hyX2_add rfl (by decide) (by decide) (Nat.lt_of_succ_lt hO.led.1) rfl hO.led.2.1 rfl rfl rfl (Nat.le_of_ble_eq_true rfl) ?_
  refine z_aload_n C 45 0 2 dX5_readMeter_45 rfl rfl ?_
  refine z_dup C 46 dX5_readMeter_46 rfl ?_
  refine z_geti C 47 (b) 6 dX5_readMeter_47 hO.h0 hO.e0 mX5_readMeter_in5 rfl (by decide) mX5_readMeter_f62 (fun _ => rfl) ?_
  refine z_nv (t (b) 6) ((congrFun (sX2_add_o _ _ _ _ _ _ _ _ (by omega) (by omega)) 6).trans (congrFun (sX1_settle_o _ _ _ _ _ (by omega)) 6)) ?_
  refine z_iconst C 50 (v := 1) dX5_readMeter_50 (by decide +kernel) ?_
  refine z_iadd C 51 dX5_readMeter_51 ?_
  refine z_put C 52 (ty := .int) (b) 6 dX5_readMeter_52 hO.h0 hO.e0 mX5_readMeter_in5 tyX5 tyX5_ok nmX5 rfl (by decide) mX5_readMeter_f62 rfl (by decide +kernel) (vp_nar_int _) (zfit_i _) (fun _ => Nat.le_of_ble_eq_true rfl) (fun _ _ => rfl) ?_
  refine z_aload_n C 55 0 2 dX5_readMeter_55 rfl rfl ?_
  refine z_dup C 56 dX5_readMeter_56 rfl ?_
  refine z_geti C 57 (b) 7 dX5_readMeter_57 hO.h0 hO.e0 mX5_readMeter_in5 rfl (by decide) mX5_readMeter_f65 (fun _ => rfl) ?_
  refine z_nv (t (b) 7) ((zset_nk _ _ _ (by decide)).trans ((congrFun (sX2_add_o _ _ _ _ _ _ _ _ (by omega) (by omega)) 7).trans (congrFun (sX1_settle_o _ _ _ _ _ (by omega)) 7))) ?_
  refine z_iload C 60 4 0 dX5_readMeter_60 rfl ?_
  refine z_iadd C 62 dX5_readMeter_62 ?_
  refine z_put C 63 (ty := .int) (b) 7 dX5_readMeter_63 hO.h0 hO.e0 mX5_readMeter_in5 tyX5 tyX5_ok nmX5 rfl (by decide) mX5_readMeter_f65 rfl (by decide +kernel) (vp_nar_int _) (zfit_i _) (fun _ => Nat.le_of_ble_eq_true rfl) (fun _ _ => rfl) ?_
  refine z_aload_n C 66 0 2 dX5_readMeter_66 rfl rfl ?_
  refine z_dup C 67 dX5_readMeter_67 rfl ?_
  refine z_geti C 68 (b) 8 dX5_readMeter_68 hO.h0 hO.e0 mX5_readMeter_in5 rfl (by decide) mX5_readMeter_f68 (fun _ => rfl) ?_
  refine z_nv (t (b) 8) ((zset_nk _ _ _ (by decide)).trans ((zset_nk _ _ _ (by decide)).trans ((congrFun (sX2_add_o _ _ _ _ _ _ _ _ (by omega) (by omega)) 8).trans (congrFun (sX1_settle_o _ _ _ _ _ (by omega)) 8)))) ?_
  refine z_iload C 71 4 0 dX5_readMeter_71 rfl ?_
  refine z_aload_n C 73 0 2 dX5_readMeter_73 rfl rfl ?_
  refine z_getr C 74 (a9 := ad (b + 37)) (b) 3 dX5_readMeter_74 hO.h0 hO.e0 mX5_readMeter_in5 rfl (by decide) mX5_readMeter_f30 (fun _ => rfl) ?_
  refine z_iconst C 77 (v := 1) dX5_readMeter_77 (by decide +kernel) ?_
  refine z_ialdN C 78 (b + 37) 1 dX5_readMeter_78 hO.h37 hO.e37 rfl (by decide) (by decide) ?_
  refine z_nv (t (b + 37) 1) ((zset_idk _ _ _ _ (by omega)).trans ((zset_idk _ _ _ _ (by omega)).trans ((congrFun (sX2_add_o _ _ _ _ _ _ _ _ (by omega) (by omega)) 1).trans (congrFun (sX1_settle_o _ _ _ _ _ (by omega)) 1)))) ?_
  refine z_imul C 79 dX5_readMeter_79 ?_
  refine z_iadd C 80 dX5_readMeter_80 ?_
  refine z_put C 81 (ty := .int) (b) 8 dX5_readMeter_81 hO.h0 hO.e0 mX5_readMeter_in5 tyX5 tyX5_ok nmX5 rfl (by decide) mX5_readMeter_f68 rfl (by decide +kernel) (vp_nar_int _) (zfit_i _) (fun _ => Nat.le_of_ble_eq_true rfl) (fun _ _ => rfl) ?_
  refine z_aload_n C 84 0 2 dX5_readMeter_84 rfl rfl ?_
  refine z_dup C 85 dX5_readMeter_85 rfl ?_
  refine z_geti C 86 (b) 9 dX5_readMeter_86 hO.h0 hO.e0 mX5_readMeter_in5 rfl (by decide) mX5_readMeter_f71 (fun _ => rfl) ?_
  refine z_nv (t (b) 9) ((zset_nk _ _ _ (by decide)).trans ((zset_nk _ _ _ (by decide)).trans ((zset_nk _ _ _ (by decide)).trans ((congrFun (sX2_add_o _ _ _ _ _ _ _ _ (by omega) (by omega)) 9).trans (congrFun (sX1_settle_o _ _ _ _ _ (by omega)) 9))))) ?_
  refine z_iload_n C 89 3 1 dX5_readMeter_89 rfl rfl ?_
  refine z_iadd C 90 dX5_readMeter_90 ?_
  refine z_put C 91 (ty := .int) (b) 9 dX5_readMeter_91 hO.h0 hO.e0 mX5_readMeter_in5 tyX5 tyX5_ok nmX5 rfl (by decide) mX5_readMeter_f71 rfl (by decide +kernel) (vp_nar_int _) (zfit_i _) (fun _ => Nat.le_of_ble_eq_true rfl) (fun _ _ => rfl) ?_
  refine z_iload C 94 4 0 dX5_readMeter_94 rfl ?_
  exact z_iret C 96 hA hQ rfl dX5_readMeter_96 ⟨rfl, rfl⟩
