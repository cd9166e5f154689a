def rX6_isPlace (a1 : Int32) : Int32 := (if a1 < 1 then 0 else (if 20 < a1 then 0 else 1))
theorem hyX6_isPlace : yX6_isPlace.cls ≠ "java/lang/invoke/MethodHandle" ∧ yX6_isPlace.cls ≠ "java/lang/invoke/VarHandle" ∧ (parseMethodDescriptor yX6_isPlace.desc).map (fun d => d.parameters.length) = some 1 := by decide +kernel
set_option maxHeartbeats 3000000 in
set_option maxRecDepth 100000 in
theorem kX6_isPlace (l : Launch) (D : va_G) (cy : Nat → ClassId) (K : zK) (n : Nat) (ad : Nat → Nat) (hJ : zJ n ad) (t : zM) (a1 : Int32)  : zI l yX6_isPlace wsX6_isPlace 0 D cy K n ad t [.int a1] (fun r t1 => r = rX6_isPlace a1 ∧ t1 = t) := by
  refine z_startI (cc := cX6_isPlace) (mL := 1) (ret := (some .boolean)) (own := RX6) rfl (by decide +kernel) rfl hJ (Nat.le_of_ble_eq_true rfl) ?_
  intro p e s m args below meth c A hA Q hQ C
  refine z_iload_n C 0 0 0 dX6_isPlace_0 rfl rfl ?_
  refine z_iconst C 1 (v := 1) dX6_isPlace_1 (by decide +kernel) ?_
  refine z_icmp_lt C 2 15 dX6_isPlace_2 (by decide) (fun c2_1 => ?_) (fun c2_1 => ?_)
  · refine z_iconst C 15 (v := 0) dX6_isPlace_15 (by decide +kernel) ?_
    exact z_zret C 16 hA hQ rfl (Or.inl rfl) dX6_isPlace_16 ⟨((if_pos c2_1).trans rfl).symm, rfl⟩
  · refine z_iload_n C 5 0 0 dX6_isPlace_5 rfl rfl ?_
    refine z_bipush C 6 (v := 20) dX6_isPlace_6 (by decide +kernel) ?_
    refine z_icmp_gt C 8 15 dX6_isPlace_8 (by decide) (fun c8_2 => ?_) (fun c8_2 => ?_)
    · refine z_iconst C 15 (v := 0) dX6_isPlace_15 (by decide +kernel) ?_
      exact z_zret C 16 hA hQ rfl (Or.inl rfl) dX6_isPlace_16 ⟨((if_neg c2_1).trans ((if_pos c8_2).trans rfl)).symm, rfl⟩
    · refine z_iconst C 11 (v := 1) dX6_isPlace_11 (by decide +kernel) ?_
      refine z_goto C 12 16 dX6_isPlace_12 (by decide) ?_
      exact z_zret C 16 hA hQ rfl (Or.inr rfl) dX6_isPlace_16 ⟨((if_neg c2_1).trans ((if_neg c8_2).trans rfl)).symm, rfl⟩
def rX6_stepOf (a1 : Int32) : Int32 := (if (zrem a1 2) = 1 then (a1 / 2) else (20 - (a1 / 2)))
theorem hyX6_stepOf : yX6_stepOf.cls ≠ "java/lang/invoke/MethodHandle" ∧ yX6_stepOf.cls ≠ "java/lang/invoke/VarHandle" ∧ (parseMethodDescriptor yX6_stepOf.desc).map (fun d => d.parameters.length) = some 1 := by decide +kernel
set_option maxHeartbeats 3000000 in
set_option maxRecDepth 100000 in
theorem kX6_stepOf (l : Launch) (D : va_G) (cy : Nat → ClassId) (K : zK) (n : Nat) (ad : Nat → Nat) (hJ : zJ n ad) (t : zM) (a1 : Int32)  : zI l yX6_stepOf wsX6_stepOf 0 D cy K n ad t [.int a1] (fun r t1 => r = rX6_stepOf a1 ∧ t1 = t) := by
  refine z_startI (cc := cX6_stepOf) (mL := 1) (ret := (some .int)) (own := RX6) rfl (by decide +kernel) rfl hJ (Nat.le_of_ble_eq_true rfl) ?_
  intro p e s m args below meth c A hA Q hQ C
  refine z_iload_n C 0 0 0 dX6_stepOf_0 rfl rfl ?_
  refine z_iconst C 1 (v := 2) dX6_stepOf_1 (by decide +kernel) ?_
  refine z_irem C 2 dX6_stepOf_2 (by decide) ?_
  refine z_iconst C 3 (v := 1) dX6_stepOf_3 (by decide +kernel) ?_
  refine z_icmp_ne C 4 13 dX6_stepOf_4 (by decide) (fun c4_1 => ?_) (fun c4_1 => ?_)
  · refine z_bipush C 13 (v := 20) dX6_stepOf_13 (by decide +kernel) ?_
    refine z_iload_n C 15 0 0 dX6_stepOf_15 rfl rfl ?_
    refine z_iconst C 16 (v := 2) dX6_stepOf_16 (by decide +kernel) ?_
    refine z_idiv C 17 dX6_stepOf_17 (by decide) ?_
    refine z_isub C 18 dX6_stepOf_18 ?_
    exact z_iret C 19 hA hQ rfl dX6_stepOf_19 ⟨((if_neg c4_1).trans rfl).symm, rfl⟩
  · refine z_iload_n C 7 0 0 dX6_stepOf_7 rfl rfl ?_
    refine z_iconst C 8 (v := 2) dX6_stepOf_8 (by decide +kernel) ?_
    refine z_idiv C 9 dX6_stepOf_9 (by decide) ?_
    refine z_goto C 10 19 dX6_stepOf_10 (by decide) ?_
    exact z_iret C 19 hA hQ rfl dX6_stepOf_19 ⟨((if_pos c4_1).trans rfl).symm, rfl⟩
def rX6_unitsFor (a1 : Int32) (a2 : Int32) : Int32 := (if a2 ≤ 0 then (if 0 ≤ a2 then ((a1 + 50) / 100) else (((a1 + 100) - 1) / 100)) else (a1 / 100))
theorem hyX6_unitsFor : yX6_unitsFor.cls ≠ "java/lang/invoke/MethodHandle" ∧ yX6_unitsFor.cls ≠ "java/lang/invoke/VarHandle" ∧ (parseMethodDescriptor yX6_unitsFor.desc).map (fun d => d.parameters.length) = some 2 := by decide +kernel
set_option maxHeartbeats 3000000 in
set_option maxRecDepth 100000 in
theorem kX6_unitsFor (l : Launch) (D : va_G) (cy : Nat → ClassId) (K : zK) (n : Nat) (ad : Nat → Nat) (hJ : zJ n ad) (t : zM) (a1 : Int32) (a2 : Int32)  : zI l yX6_unitsFor wsX6_unitsFor 0 D cy K n ad t [.int a1, .int a2] (fun r t1 => r = rX6_unitsFor a1 a2 ∧ t1 = t) := by
  refine z_startI (cc := cX6_unitsFor) (mL := 2) (ret := (some .int)) (own := RX6) rfl (by decide +kernel) rfl hJ (Nat.le_of_ble_eq_true rfl) ?_
  intro p e s m args below meth c A hA Q hQ C
  refine z_iload_n C 0 1 1 dX6_unitsFor_0 rfl rfl ?_
  refine z_if_le C 1 9 dX6_unitsFor_1 (by decide) (fun c1_1 => ?_) (fun c1_1 => ?_)
  · refine z_iload_n C 9 1 1 dX6_unitsFor_9 rfl rfl ?_
    refine z_if_ge C 10 23 dX6_unitsFor_10 (by decide) (fun c10_2 => ?_) (fun c10_2 => ?_)
    · refine z_iload_n C 23 0 0 dX6_unitsFor_23 rfl rfl ?_
      refine z_bipush C 24 (v := 50) dX6_unitsFor_24 (by decide +kernel) ?_
      refine z_iadd C 26 dX6_unitsFor_26 ?_
      refine z_bipush C 27 (v := 100) dX6_unitsFor_27 (by decide +kernel) ?_
      refine z_idiv C 29 dX6_unitsFor_29 (by decide) ?_
      exact z_iret C 30 hA hQ rfl dX6_unitsFor_30 ⟨((if_pos c1_1).trans ((if_pos c10_2).trans rfl)).symm, rfl⟩
    · refine z_iload_n C 13 0 0 dX6_unitsFor_13 rfl rfl ?_
      refine z_bipush C 14 (v := 100) dX6_unitsFor_14 (by decide +kernel) ?_
      refine z_iadd C 16 dX6_unitsFor_16 ?_
      refine z_iconst C 17 (v := 1) dX6_unitsFor_17 (by decide +kernel) ?_
      refine z_isub C 18 dX6_unitsFor_18 ?_
      refine z_bipush C 19 (v := 100) dX6_unitsFor_19 (by decide +kernel) ?_
      refine z_idiv C 21 dX6_unitsFor_21 (by decide) ?_
      exact z_iret C 22 hA hQ rfl dX6_unitsFor_22 ⟨((if_pos c1_1).trans ((if_neg c10_2).trans rfl)).symm, rfl⟩
  · refine z_iload_n C 4 0 0 dX6_unitsFor_4 rfl rfl ?_
    refine z_bipush C 5 (v := 100) dX6_unitsFor_5 (by decide +kernel) ?_
    refine z_idiv C 7 dX6_unitsFor_7 (by decide) ?_
    exact z_iret C 8 hA hQ rfl dX6_unitsFor_8 ⟨((if_neg c1_1).trans rfl).symm, rfl⟩
def rX4_stepAhead (b : Nat) (t : zM) (a1 : Int32) : Int32 := (zrem (((t (b) 1) + 1) + a1) 20)
theorem mX4_stepAhead_f15 : Cond.fieldLink RX4 15 "WrongedMeters$Street" "latestStep" "I" ∈ wsX4_stepAhead := by decide +kernel
set_option maxRecDepth 20000 in
theorem mX4_stepAhead_in4 : ∀ w ∈ u_ws RX4 TX4 2, w ∈ wsX4_stepAhead := by decide +kernel
theorem hyX4_stepAhead : yX4_stepAhead.cls = RX4 ∧ yX4_stepAhead.cls ≠ "java/lang/invoke/MethodHandle" ∧ yX4_stepAhead.cls ≠ "java/lang/invoke/VarHandle" ∧ (parseMethodDescriptor yX4_stepAhead.desc).map (fun d => d.parameters.length) = some 1 := by decide +kernel
set_option maxHeartbeats 3000000 in
set_option maxRecDepth 100000 in
theorem kX4_stepAhead (l : Launch) (D : va_G) (cy : Nat → ClassId) (K : zK) (n : Nat) (ad : Nat → Nat) (hJ : zJ n ad) (b : Nat) (hO : zStreet cy K n ad b) (t : zM) (a1 : Int32)  : zI l yX4_stepAhead wsX4_stepAhead 0 D cy K n ad t [.ref (ad (b)), .int a1] (fun r t1 => r = rX4_stepAhead b t a1 ∧ t1 = t) := by
  refine z_startI (cc := cX4_stepAhead) (mL := 2) (ret := (some .int)) (own := RX4) rfl (by decide +kernel) rfl hJ (Nat.le_of_ble_eq_true rfl) ?_
  intro p e s m args below meth c A hA Q hQ C
  refine z_aload_n C 0 0 0 dX4_stepAhead_0 rfl rfl ?_
  refine z_geti C 1 (b) 1 dX4_stepAhead_1 (Nat.lt_of_succ_lt hO.1) hO.2.1 mX4_stepAhead_in4 rfl (by decide) mX4_stepAhead_f15 (fun _ => rfl) ?_
  refine z_iconst C 4 (v := 1) dX4_stepAhead_4 (by decide +kernel) ?_
  refine z_iadd C 5 dX4_stepAhead_5 ?_
  refine z_iload_n C 6 1 1 dX4_stepAhead_6 rfl rfl ?_
  refine z_iadd C 7 dX4_stepAhead_7 ?_
  refine z_bipush C 8 (v := 20) dX4_stepAhead_8 (by decide +kernel) ?_
  refine z_irem C 10 dX4_stepAhead_10 (by decide) ?_
  exact z_iret C 11 hA hQ rfl dX4_stepAhead_11 ⟨rfl, rfl⟩
def rX4_houseOn (b : Nat) (t : zM) (a1 : Int32) : Int32 := (if a1 < 0 then (-1) else (if 20 ≤ a1 then (-1) else (t (b + 1) (a1).toNatClampNeg)))
theorem mX4_houseOn_f9 : Cond.fieldLink RX4 9 "WrongedMeters$Street" "houses" "[I" ∈ wsX4_houseOn := by decide +kernel
set_option maxRecDepth 20000 in
theorem mX4_houseOn_in4 : ∀ w ∈ u_ws RX4 TX4 2, w ∈ wsX4_houseOn := by decide +kernel
theorem hyX4_houseOn : yX4_houseOn.cls = RX4 ∧ yX4_houseOn.cls ≠ "java/lang/invoke/MethodHandle" ∧ yX4_houseOn.cls ≠ "java/lang/invoke/VarHandle" ∧ (parseMethodDescriptor yX4_houseOn.desc).map (fun d => d.parameters.length) = some 1 := by decide +kernel
set_option maxHeartbeats 3000000 in
set_option maxRecDepth 100000 in
theorem kX4_houseOn (l : Launch) (D : va_G) (cy : Nat → ClassId) (K : zK) (n : Nat) (ad : Nat → Nat) (hJ : zJ n ad) (b : Nat) (hO : zStreet cy K n ad b) (t : zM) (a1 : Int32)  : zI l yX4_houseOn wsX4_houseOn 0 D cy K n ad t [.ref (ad (b)), .int a1] (fun r t1 => r = rX4_houseOn b t a1 ∧ t1 = t) := by
  refine z_startI (cc := cX4_houseOn) (mL := 2) (ret := (some .int)) (own := RX4) rfl (by decide +kernel) rfl hJ (Nat.le_of_ble_eq_true rfl) ?_
  intro p e s m args below meth c A hA Q hQ C
  refine z_iload_n C 0 1 1 dX4_houseOn_0 rfl rfl ?_
  refine z_if_lt C 1 19 dX4_houseOn_1 (by decide) (fun c1_1 => ?_) (fun c1_1 => ?_)
  · refine z_iconst C 19 (v := (-1)) dX4_houseOn_19 (by decide +kernel) ?_
    exact z_iret C 20 hA hQ rfl dX4_houseOn_20 ⟨((if_pos c1_1).trans rfl).symm, rfl⟩
  · refine z_iload_n C 4 1 1 dX4_houseOn_4 rfl rfl ?_
    refine z_bipush C 5 (v := 20) dX4_houseOn_5 (by decide +kernel) ?_
    refine z_icmp_ge C 7 19 dX4_houseOn_7 (by decide) (fun c7_2 => ?_) (fun c7_2 => ?_)
    · refine z_iconst C 19 (v := (-1)) dX4_houseOn_19 (by decide +kernel) ?_
      exact z_iret C 20 hA hQ rfl dX4_houseOn_20 ⟨((if_neg c1_1).trans ((if_pos c7_2).trans rfl)).symm, rfl⟩
    · refine z_aload_n C 10 0 0 dX4_houseOn_10 rfl rfl ?_
      refine z_getr C 11 (a9 := ad (b + 1)) (b) 0 dX4_houseOn_11 (Nat.lt_of_succ_lt hO.1) hO.2.1 mX4_houseOn_in4 rfl (by decide) mX4_houseOn_f9 (fun _ => rfl) ?_
      refine z_iload_n C 14 1 1 dX4_houseOn_14 rfl rfl ?_
      refine z_iald C 15 (b + 1) dX4_houseOn_15 hO.1 hO.2.2 (zvp1 ‹¬ a1 < 0› ‹¬ 20 ≤ a1› (by decide)) ?_
      refine z_goto C 16 20 dX4_houseOn_16 (by decide) ?_
      exact z_iret C 20 hA hQ rfl dX4_houseOn_20 ⟨((if_neg c1_1).trans ((if_neg c7_2).trans rfl)).symm, rfl⟩
def sX4_putHouse (b : Nat) (t : zM) (a1 : Int32) (a2 : Int32) : zM := (if a1 < 0 then t else (if 20 ≤ a1 then t else (zset t (b + 1) (a1.toNatClampNeg) a2)))
theorem mX4_putHouse_f9 : Cond.fieldLink RX4 9 "WrongedMeters$Street" "houses" "[I" ∈ wsX4_putHouse := by decide +kernel
set_option maxRecDepth 20000 in
theorem mX4_putHouse_in4 : ∀ w ∈ u_ws RX4 TX4 2, w ∈ wsX4_putHouse := by decide +kernel
theorem hyX4_putHouse : yX4_putHouse.cls = RX4 ∧ yX4_putHouse.cls ≠ "java/lang/invoke/MethodHandle" ∧ yX4_putHouse.cls ≠ "java/lang/invoke/VarHandle" ∧ (parseMethodDescriptor yX4_putHouse.desc).map (fun d => d.parameters.length) = some 2 := by decide +kernel
set_option maxHeartbeats 3000000 in
set_option maxRecDepth 100000 in
theorem kX4_putHouse (l : Launch) (D : va_G) (cy : Nat → ClassId) (K : zK) (n : Nat) (ad : Nat → Nat) (hJ : zJ n ad) (b : Nat) (hO : zStreet cy K n ad b) (t : zM) (a1 : Int32) (a2 : Int32)  : zV l yX4_putHouse wsX4_putHouse 0 D cy K n ad t [.ref (ad (b)), .int a1, .int a2] (fun t1 => t1 = sX4_putHouse b t a1 a2) := by
  refine z_startV (cc := cX4_putHouse) (mL := 3) (ret := none) (own := RX4) rfl (by decide +kernel) rfl hJ (Nat.le_of_ble_eq_true rfl) ?_
  intro p e s m args below meth c A hA Q hQ C
  refine z_iload_n C 0 1 1 dX4_putHouse_0 rfl rfl ?_
  refine z_if_lt C 1 17 dX4_putHouse_1 (by decide) (fun c1_1 => ?_) (fun c1_1 => ?_)
  · exact z_vret C 17 hA hQ rfl dX4_putHouse_17 ((if_pos c1_1).trans rfl).symm
  · refine z_iload_n C 4 1 1 dX4_putHouse_4 rfl rfl ?_
    refine z_bipush C 5 (v := 20) dX4_putHouse_5 (by decide +kernel) ?_
    refine z_icmp_ge C 7 17 dX4_putHouse_7 (by decide) (fun c7_2 => ?_) (fun c7_2 => ?_)
    · exact z_vret C 17 hA hQ rfl dX4_putHouse_17 ((if_neg c1_1).trans ((if_pos c7_2).trans rfl)).symm
    · refine z_aload_n C 10 0 0 dX4_putHouse_10 rfl rfl ?_
      refine z_getr C 11 (a9 := ad (b + 1)) (b) 0 dX4_putHouse_11 (Nat.lt_of_succ_lt hO.1) hO.2.1 mX4_putHouse_in4 rfl (by decide) mX4_putHouse_f9 (fun _ => rfl) ?_
      refine z_iload_n C 14 1 1 dX4_putHouse_14 rfl rfl ?_
      refine z_iload_n C 15 2 2 dX4_putHouse_15 rfl rfl ?_
      refine z_iast C 16 (b + 1) dX4_putHouse_16 hO.1 hO.2.2 (zvp1 ‹¬ a1 < 0› ‹¬ 20 ≤ a1› (by decide)) ?_
      exact z_vret C 17 hA hQ rfl dX4_putHouse_17 ((if_neg c1_1).trans ((if_neg c7_2).trans rfl)).symm
theorem sX4_putHouse_o (b : Nat) (t : zM) (a1 a2 : Int32) {j : Nat} (h : j ≠ b + 1) : sX4_putHouse b t a1 a2 j = t j := by
  unfold sX4_putHouse
  repeat' split
  all_goals simp only [zset_id _ _ _ h]
def lX4_houseRanked_4 (b : Nat) (t : zM) (a1 : Int32) : Nat → Nat → Int32 → Int32
  | 0, _, _ => 0
  | j + 1, k, v => (if 20 ≤ nI k then (-1000004) else (if (rX4_houseOn (b) t (rX4_stepAhead (b) t (nI k))) = (-1) then (lX4_houseRanked_4 b t a1 j (k + 1) v) else (if v = a1 then (rX4_houseOn (b) t (rX4_stepAhead (b) t (nI k))) else (lX4_houseRanked_4 b t a1 j (k + 1) (v + 1)))))
def rX4_houseRanked (b : Nat) (t : zM) (a1 : Int32) : Int32 := (lX4_houseRanked_4 b t a1 21 0 0)
theorem mX4_houseRanked_c32 : Cond.constant RX4 32 (-1000004) ∈ wsX4_houseRanked := by decide +kernel
theorem hyX4_houseRanked : yX4_houseRanked.cls = RX4 ∧ yX4_houseRanked.cls ≠ "java/lang/invoke/MethodHandle" ∧ yX4_houseRanked.cls ≠ "java/lang/invoke/VarHandle" ∧ (parseMethodDescriptor yX4_houseRanked.desc).map (fun d => d.parameters.length) = some 1 := by decide +kernel
set_option maxHeartbeats 3000000 in
set_option maxRecDepth 100000 in
theorem kX4_houseRanked (l : Launch) (D : va_G) (cy : Nat → ClassId) (K : zK) (n : Nat) (ad : Nat → Nat) (hJ : zJ n ad) (b : Nat) (hO : zStreet cy K n ad b) (t : zM) (a1 : Int32)  : zI l yX4_houseRanked wsX4_houseRanked 1 D cy K n ad t [.ref (ad (b)), .int a1] (fun r t1 => r = rX4_houseRanked b t a1 ∧ t1 = t) := by
  refine z_startI (cc := cX4_houseRanked) (mL := 5) (ret := (some .int)) (own := RX4) rfl (by decide +kernel) rfl hJ (Nat.le_of_ble_eq_true rfl) ?_
  intro p e s m args below meth c A hA Q hQ C
  refine z_iconst C 0 (v := 0) dX4_houseRanked_0 (by decide +kernel) ?_
  refine z_istore_n C 1 2 ([(2, .int 0), (0, .ref (ad (b))), (1, .int a1)]) dX4_houseRanked_1 rfl (by decide) rfl ?_
  refine z_iconst C 2 (v := 0) dX4_houseRanked_2 (by decide +kernel) ?_
  refine z_istore_n C 3 3 ([(3, .int 0), (2, .int 0), (0, .ref (ad (b))), (1, .int a1)]) dX4_houseRanked_3 rfl (by decide) rfl ?_
  have L4 : ∀ (j : Nat) (k : Nat) (v : Int32), (h0_4 : 21 ≤ k + j) → (hk : k ≤ 20) → (hI4 : rX4_houseRanked b t a1 = (lX4_houseRanked_4 b t a1 j k v)) → Zw p l e (zR 1) s m args below meth c D A K n ad 5 Q 4 ([(3, .int (nI k)), (2, .int v), (0, .ref (ad (b))), (1, .int a1)]) [] t := by
    intro j
    induction j with
    | zero =>
      intro k v h0_4 hk hI4
      exact absurd h0_4 (by omega)
    | succ j ih4 =>
      intro k v h0_4 hk hI4
      refine z_iload_n C 4 3 0 dX4_houseRanked_4 rfl rfl ?_
      refine z_bipush C 5 (v := 20) dX4_houseRanked_5 (by decide +kernel) ?_
      refine z_icmp_ge C 7 44 dX4_houseRanked_7 (by decide) (fun c7_1 => ?_) (fun c7_1 => ?_)
      · refine z_ldc C 44 (v := (-1000004)) dX4_houseRanked_44 mX4_houseRanked_c32 ?_
        exact z_iret C 46 hA hQ rfl dX4_houseRanked_46 ⟨((hI4.trans ((if_pos c7_1).trans rfl))).symm, rfl⟩
      · refine z_aload_n C 10 0 2 dX4_houseRanked_10 rfl rfl ?_
        refine z_aload_n C 11 0 2 dX4_houseRanked_11 rfl rfl ?_
        refine z_iload_n C 12 3 0 dX4_houseRanked_12 rfl rfl ?_
        refine z_virtIe C 13 (As := [.int (nI k)]) (st := [.ref (ad (b))]) (id := b) (kX4_stepAhead l D cy K n ad hJ (b) hO t (nI k) ) dX4_houseRanked_13 rfl gX4_houseRanked_X4_stepAhead hyX4_stepAhead rfl (by decide) (by decide) (Nat.lt_of_succ_lt hO.1) rfl hO.2.1 rfl rfl rfl (Nat.le_of_ble_eq_true rfl) ?_
        refine z_virtIe C 16 (As := [.int (rX4_stepAhead (b) t (nI k))]) (st := []) (id := b) (kX4_houseOn l D cy K n ad hJ (b) hO t (rX4_stepAhead (b) t (nI k)) ) dX4_houseRanked_16 rfl gX4_houseRanked_X4_houseOn hyX4_houseOn rfl (by decide) (by decide) (Nat.lt_of_succ_lt hO.1) rfl hO.2.1 rfl rfl rfl (Nat.le_of_ble_eq_true rfl) ?_
        refine z_istore C 19 4 ([(4, .int (rX4_houseOn (b) t (rX4_stepAhead (b) t (nI k)))), (3, .int (nI k)), (2, .int v), (0, .ref (ad (b))), (1, .int a1)]) dX4_houseRanked_19 (by decide) rfl ?_
        refine z_iload C 21 4 0 dX4_houseRanked_21 rfl ?_
        refine z_iconst C 23 (v := (-1)) dX4_houseRanked_23 (by decide +kernel) ?_
        refine z_icmp_eq C 24 38 dX4_houseRanked_24 (by decide) (fun c24_4 => ?_) (fun c24_4 => ?_)
        · refine z_iinc C 38 (v := nI (k + 1)) 3 1 ([(3, .int (nI (k + 1))), (4, .int (rX4_houseOn (b) t (rX4_stepAhead (b) t (nI k)))), (2, .int v), (0, .ref (ad (b))), (1, .int a1)]) dX4_houseRanked_38 rfl (nI_1 _) (by decide) rfl ?_
          refine z_goto C 41 4 dX4_houseRanked_41 (by decide) ?_
          refine z_ls [0, 2, 3, 4] _ rfl ?_
          exact ih4 (k + 1) v (by omega) (by have := zge (b := 20) (by omega) (by decide) ‹¬ (20 : Int32) ≤ nI k›; omega) (hI4.trans ((if_neg c7_1).trans ((if_pos c24_4).trans rfl)))
        · refine z_iload_n C 27 2 2 dX4_houseRanked_27 rfl rfl ?_
          refine z_iload_n C 28 1 4 dX4_houseRanked_28 rfl rfl ?_
          refine z_icmp_ne C 29 35 dX4_houseRanked_29 (by decide) (fun c29_5 => ?_) (fun c29_5 => ?_)
          · refine z_iinc C 35 (v := (v + 1)) 2 2 ([(2, .int (v + 1)), (4, .int (rX4_houseOn (b) t (rX4_stepAhead (b) t (nI k)))), (3, .int (nI k)), (0, .ref (ad (b))), (1, .int a1)]) dX4_houseRanked_35 rfl (by first | rfl | (congr 1)) (by decide) rfl ?_
            refine z_iinc C 38 (v := nI (k + 1)) 3 2 ([(3, .int (nI (k + 1))), (2, .int (v + 1)), (4, .int (rX4_houseOn (b) t (rX4_stepAhead (b) t (nI k)))), (0, .ref (ad (b))), (1, .int a1)]) dX4_houseRanked_38 rfl (nI_1 _) (by decide) rfl ?_
            refine z_goto C 41 4 dX4_houseRanked_41 (by decide) ?_
            refine z_ls [0, 1, 3, 4] _ rfl ?_
            exact ih4 (k + 1) (v + 1) (by omega) (by have := zge (b := 20) (by omega) (by decide) ‹¬ (20 : Int32) ≤ nI k›; omega) (hI4.trans ((if_neg c7_1).trans ((if_neg c24_4).trans ((if_neg c29_5).trans rfl))))
          · refine z_iload C 32 4 0 dX4_houseRanked_32 rfl ?_
            exact z_iret C 34 hA hQ rfl dX4_houseRanked_34 ⟨((hI4.trans ((if_neg c7_1).trans ((if_neg c24_4).trans ((if_pos c29_5).trans rfl))))).symm, rfl⟩
  refine z_ls [0, 1, 2, 3] _ rfl ?_
  exact L4 (21) 0 0 (by omega) (by decide) rfl
def sX2_add (b : Nat) (t : zM) (w : Nat) (a1 : Int32) (a2 : Int32) (a3 : Int32) (a4 : Int32) (a5 : Int32) : zM := (if (t (b) 1) < 0 then t else (if (t (b) 1) < 10 then (if a3 ≤ (100 * a4) then (if (100 * a4) ≤ a3 then (if 10 ≤ (t (b) 2) then (zset (zset (zset (zset (zset (zset (zset t (b + 1) (w * 6) a1) (b + 1) (w * 6 + 1) a2) (b + 1) (w * 6 + 2) a3) (b + 1) (w * 6 + 3) a4) (b + 1) (w * 6 + 4) 2) (b + 1) (w * 6 + 5) (1000 + a5)) (b) 1 (zrem ((t (b) 1) + 1) 10)) else (zset (zset (zset (zset (zset (zset (zset (zset t (b + 1) (w * 6) a1) (b + 1) (w * 6 + 1) a2) (b + 1) (w * 6 + 2) a3) (b + 1) (w * 6 + 3) a4) (b + 1) (w * 6 + 4) 2) (b + 1) (w * 6 + 5) (1000 + a5)) (b) 1 (zrem ((t (b) 1) + 1) 10)) (b) 2 ((t (b) 2) + 1))) else (if 10 ≤ (t (b) 2) then (zset (zset (zset (zset (zset (zset (zset t (b + 1) (w * 6) a1) (b + 1) (w * 6 + 1) a2) (b + 1) (w * 6 + 2) a3) (b + 1) (w * 6 + 3) a4) (b + 1) (w * 6 + 4) 1) (b + 1) (w * 6 + 5) (1000 + a5)) (b) 1 (zrem ((t (b) 1) + 1) 10)) else (zset (zset (zset (zset (zset (zset (zset (zset t (b + 1) (w * 6) a1) (b + 1) (w * 6 + 1) a2) (b + 1) (w * 6 + 2) a3) (b + 1) (w * 6 + 3) a4) (b + 1) (w * 6 + 4) 1) (b + 1) (w * 6 + 5) (1000 + a5)) (b) 1 (zrem ((t (b) 1) + 1) 10)) (b) 2 ((t (b) 2) + 1)))) else (if 10 ≤ (t (b) 2) then (zset (zset (zset (zset (zset (zset (zset t (b + 1) (w * 6) a1) (b + 1) (w * 6 + 1) a2) (b + 1) (w * 6 + 2) a3) (b + 1) (w * 6 + 3) a4) (b + 1) (w * 6 + 4) 0) (b + 1) (w * 6 + 5) (1000 + a5)) (b) 1 (zrem ((t (b) 1) + 1) 10)) else (zset (zset (zset (zset (zset (zset (zset (zset t (b + 1) (w * 6) a1) (b + 1) (w * 6 + 1) a2) (b + 1) (w * 6 + 2) a3) (b + 1) (w * 6 + 3) a4) (b + 1) (w * 6 + 4) 0) (b + 1) (w * 6 + 5) (1000 + a5)) (b) 1 (zrem ((t (b) 1) + 1) 10)) (b) 2 ((t (b) 2) + 1)))) else t))
theorem mX2_add_f21 : Cond.fieldLink RX2 21 "WrongedMeters$Ledger" "nextRow" "I" ∈ wsX2_add := by decide +kernel
set_option maxRecDepth 20000 in
theorem mX2_add_in2 : ∀ w ∈ u_ws RX2 TX2 3, w ∈ wsX2_add := by decide +kernel
theorem mX2_add_f11 : Cond.fieldLink RX2 11 "WrongedMeters$Ledger" "facts" "[I" ∈ wsX2_add := by decide +kernel
theorem mX2_add_f25 : Cond.fieldLink RX2 25 "WrongedMeters$Ledger" "size" "I" ∈ wsX2_add := by decide +kernel
theorem hyX2_add : yX2_add.cls = RX2 ∧ yX2_add.cls ≠ "java/lang/invoke/MethodHandle" ∧ yX2_add.cls ≠ "java/lang/invoke/VarHandle" ∧ (parseMethodDescriptor yX2_add.desc).map (fun d => d.parameters.length) = some 5 := by decide +kernel
set_option maxHeartbeats 3000000 in
set_option maxRecDepth 100000 in
theorem kX2_add (l : Launch) (D : va_G) (cy : Nat → ClassId) (K : zK) (n : Nat) (ad : Nat → Nat) (hJ : zJ n ad) (b : Nat) (hO : zLedger cy K n ad b) (t : zM) (w : Nat) (a1 : Int32) (a2 : Int32) (a3 : Int32) (a4 : Int32) (a5 : Int32) (hw : w < 10) (hx : t b 1 = nI w) : zV l yX2_add wsX2_add 0 D cy K n ad t [.ref (ad (b)), .int a1, .int a2, .int a3, .int a4, .int a5] (fun t1 => t1 = sX2_add b t w a1 a2 a3 a4 a5) := by
  refine z_startV (cc := cX2_add) (mL := 7) (ret := none) (own := RX2) rfl (by decide +kernel) rfl hJ (Nat.le_of_ble_eq_true rfl) ?_
  intro p e s m args below meth c A hA Q hQ C
  refine z_aload_n C 0 0 0 dX2_add_0 rfl rfl ?_
  refine z_geti C 1 (b) 1 dX2_add_1 (Nat.lt_of_succ_lt hO.1) hO.2.1 mX2_add_in2 rfl (by decide) mX2_add_f21 (fun _ => rfl) ?_
  refine z_if_lt C 4 16 dX2_add_4 (by decide) (fun c4_1 => ?_) (fun c4_1 => ?_)
  · exact z_vret C 16 hA hQ rfl dX2_add_16 ((if_pos c4_1).trans rfl).symm
  · refine z_aload_n C 7 0 0 dX2_add_7 rfl rfl ?_
    refine z_geti C 8 (b) 1 dX2_add_8 (Nat.lt_of_succ_lt hO.1) hO.2.1 mX2_add_in2 rfl (by decide) mX2_add_f21 (fun _ => rfl) ?_
    refine z_bipush C 11 (v := 10) dX2_add_11 (by decide +kernel) ?_
    refine z_icmp_lt C 13 17 dX2_add_13 (by decide) (fun c13_2 => ?_) (fun c13_2 => ?_)
    · refine z_aload_n C 17 0 0 dX2_add_17 rfl rfl ?_
      refine z_geti C 18 (b) 1 dX2_add_18 (Nat.lt_of_succ_lt hO.1) hO.2.1 mX2_add_in2 rfl (by decide) mX2_add_f21 (fun _ => rfl) ?_
      refine z_bipush C 21 (v := 6) dX2_add_21 (by decide +kernel) ?_
      refine z_imul C 23 dX2_add_23 ?_
      refine z_istore C 24 6 ([(6, .int ((t (b) 1) * 6)), (0, .ref (ad (b))), (1, .int a1), (2, .int a2), (3, .int a3), (4, .int a4), (5, .int a5)]) dX2_add_24 (by decide) rfl ?_
      refine z_aload_n C 26 0 1 dX2_add_26 rfl rfl ?_
      refine z_getr C 27 (a9 := ad (b + 1)) (b) 0 dX2_add_27 (Nat.lt_of_succ_lt hO.1) hO.2.1 mX2_add_in2 rfl (by decide) mX2_add_f11 (fun _ => rfl) ?_
      refine z_iload C 30 6 0 dX2_add_30 rfl ?_
      refine z_iload_n C 32 1 2 dX2_add_32 rfl rfl ?_
      refine z_iastN C 33 (b + 1) (w * 6) dX2_add_33 hO.1 hO.2.2 (by rw [hx]; first | exact (nI_mul w 6) | exact (congrArg (· + nI 0) (nI_mul w 6)).trans (nI_add _ _)) (by omega) (by decide) ?_
      refine z_aload_n C 34 0 1 dX2_add_34 rfl rfl ?_
      refine z_getr C 35 (a9 := ad (b + 1)) (b) 0 dX2_add_35 (Nat.lt_of_succ_lt hO.1) hO.2.1 mX2_add_in2 rfl (by decide) mX2_add_f11 (fun _ => rfl) ?_
      refine z_iload C 38 6 0 dX2_add_38 rfl ?_
      refine z_iconst C 40 (v := 1) dX2_add_40 (by decide +kernel) ?_
      refine z_iadd C 41 dX2_add_41 ?_
      refine z_iload_n C 42 2 3 dX2_add_42 rfl rfl ?_
      refine z_iastN C 43 (b + 1) (w * 6 + 1) dX2_add_43 hO.1 hO.2.2 (by rw [hx]; first | exact (nI_mul w 6) | exact (congrArg (· + nI 1) (nI_mul w 6)).trans (nI_add _ _)) (by omega) (by decide) ?_
      refine z_aload_n C 44 0 1 dX2_add_44 rfl rfl ?_
      refine z_getr C 45 (a9 := ad (b + 1)) (b) 0 dX2_add_45 (Nat.lt_of_succ_lt hO.1) hO.2.1 mX2_add_in2 rfl (by decide) mX2_add_f11 (fun _ => rfl) ?_
      refine z_iload C 48 6 0 dX2_add_48 rfl ?_
      refine z_iconst C 50 (v := 2) dX2_add_50 (by decide +kernel) ?_
      refine z_iadd C 51 dX2_add_51 ?_
      refine z_iload_n C 52 3 4 dX2_add_52 rfl rfl ?_
      refine z_iastN C 53 (b + 1) (w * 6 + 2) dX2_add_53 hO.1 hO.2.2 (by rw [hx]; first | exact (nI_mul w 6) | exact (congrArg (· + nI 2) (nI_mul w 6)).trans (nI_add _ _)) (by omega) (by decide) ?_
      refine z_aload_n C 54 0 1 dX2_add_54 rfl rfl ?_
      refine z_getr C 55 (a9 := ad (b + 1)) (b) 0 dX2_add_55 (Nat.lt_of_succ_lt hO.1) hO.2.1 mX2_add_in2 rfl (by decide) mX2_add_f11 (fun _ => rfl) ?_
      refine z_iload C 58 6 0 dX2_add_58 rfl ?_
      refine z_iconst C 60 (v := 3) dX2_add_60 (by decide +kernel) ?_
      refine z_iadd C 61 dX2_add_61 ?_
      refine z_iload C 62 4 5 dX2_add_62 rfl ?_
      refine z_iastN C 64 (b + 1) (w * 6 + 3) dX2_add_64 hO.1 hO.2.2 (by rw [hx]; first | exact (nI_mul w 6) | exact (congrArg (· + nI 3) (nI_mul w 6)).trans (nI_add _ _)) (by omega) (by decide) ?_
      refine z_aload_n C 65 0 1 dX2_add_65 rfl rfl ?_
      refine z_getr C 66 (a9 := ad (b + 1)) (b) 0 dX2_add_66 (Nat.lt_of_succ_lt hO.1) hO.2.1 mX2_add_in2 rfl (by decide) mX2_add_f11 (fun _ => rfl) ?_
      refine z_iload C 69 6 0 dX2_add_69 rfl ?_
      refine z_iconst C 71 (v := 4) dX2_add_71 (by decide +kernel) ?_
      refine z_iadd C 72 dX2_add_72 ?_
      refine z_bipush C 73 (v := 100) dX2_add_73 (by decide +kernel) ?_
      refine z_iload C 75 4 5 dX2_add_75 rfl ?_
      refine z_imul C 77 dX2_add_77 ?_
      refine z_iload_n C 78 3 4 dX2_add_78 rfl rfl ?_
      refine z_icmp_ge C 79 86 dX2_add_79 (by decide) (fun c79_3 => ?_) (fun c79_3 => ?_)
      · refine z_bipush C 86 (v := 100) dX2_add_86 (by decide +kernel) ?_
        refine z_iload C 88 4 5 dX2_add_88 rfl ?_
        refine z_imul C 90 dX2_add_90 ?_
        refine z_iload_n C 91 3 4 dX2_add_91 rfl rfl ?_
        refine z_icmp_le C 92 99 dX2_add_92 (by decide) (fun c92_4 => ?_) (fun c92_4 => ?_)
        · refine z_iconst C 99 (v := 2) dX2_add_99 (by decide +kernel) ?_
          refine z_iastN C 100 (b + 1) (w * 6 + 4) dX2_add_100 hO.1 hO.2.2 (by rw [hx]; first | exact (nI_mul w 6) | exact (congrArg (· + nI 4) (nI_mul w 6)).trans (nI_add _ _)) (by omega) (by decide) ?_
          refine z_aload_n C 101 0 1 dX2_add_101 rfl rfl ?_
          refine z_getr C 102 (a9 := ad (b + 1)) (b) 0 dX2_add_102 (Nat.lt_of_succ_lt hO.1) hO.2.1 mX2_add_in2 rfl (by decide) mX2_add_f11 (fun _ => rfl) ?_
          refine z_iload C 105 6 0 dX2_add_105 rfl ?_
          refine z_iconst C 107 (v := 5) dX2_add_107 (by decide +kernel) ?_
          refine z_iadd C 108 dX2_add_108 ?_
          refine z_sipush C 109 (v := 1000) dX2_add_109 (by decide +kernel) ?_
          refine z_iload C 112 5 6 dX2_add_112 rfl ?_
          refine z_iadd C 114 dX2_add_114 ?_
          refine z_iastN C 115 (b + 1) (w * 6 + 5) dX2_add_115 hO.1 hO.2.2 (by rw [hx]; first | exact (nI_mul w 6) | exact (congrArg (· + nI 5) (nI_mul w 6)).trans (nI_add _ _)) (by omega) (by decide) ?_
          refine z_aload_n C 116 0 1 dX2_add_116 rfl rfl ?_
          refine z_aload_n C 117 0 1 dX2_add_117 rfl rfl ?_
          refine z_geti C 118 (b) 1 dX2_add_118 (Nat.lt_of_succ_lt hO.1) hO.2.1 mX2_add_in2 rfl (by decide) mX2_add_f21 (fun _ => rfl) ?_
          refine z_nv (t (b) 1) ((zset_idk _ _ _ _ (by omega)).trans ((zset_idk _ _ _ _ (by omega)).trans ((zset_idk _ _ _ _ (by omega)).trans ((zset_idk _ _ _ _ (by omega)).trans ((zset_idk _ _ _ _ (by omega)).trans ((zset_idk _ _ _ _ (by omega)).trans rfl)))))) ?_
          refine z_iconst C 121 (v := 1) dX2_add_121 (by decide +kernel) ?_
          refine z_iadd C 122 dX2_add_122 ?_
          refine z_bipush C 123 (v := 10) dX2_add_123 (by decide +kernel) ?_
          refine z_irem C 125 dX2_add_125 (by decide) ?_
          refine z_put C 126 (ty := .int) (b) 1 dX2_add_126 (Nat.lt_of_succ_lt hO.1) hO.2.1 mX2_add_in2 tyX2 tyX2_ok nmX2 rfl (by decide) mX2_add_f21 rfl (by decide +kernel) (vp_nar_int _) (zfit_i _) (fun _ => Nat.le_of_ble_eq_true rfl) (fun _ _ => rfl) ?_
          refine z_aload_n C 129 0 1 dX2_add_129 rfl rfl ?_
          refine z_geti C 130 (b) 2 dX2_add_130 (Nat.lt_of_succ_lt hO.1) hO.2.1 mX2_add_in2 rfl (by decide) mX2_add_f25 (fun _ => rfl) ?_
          refine z_nv (t (b) 2) ((zset_nk _ _ _ (by decide)).trans ((zset_idk _ _ _ _ (by omega)).trans ((zset_idk _ _ _ _ (by omega)).trans ((zset_idk _ _ _ _ (by omega)).trans ((zset_idk _ _ _ _ (by omega)).trans ((zset_idk _ _ _ _ (by omega)).trans ((zset_idk _ _ _ _ (by omega)).trans rfl))))))) ?_
          refine z_bipush C 133 (v := 10) dX2_add_133 (by decide +kernel) ?_
          refine z_icmp_ge C 135 148 dX2_add_135 (by decide) (fun c135_5 => ?_) (fun c135_5 => ?_)
          · exact z_vret C 148 hA hQ rfl dX2_add_148 ((if_neg c4_1).trans ((if_pos c13_2).trans ((if_pos c79_3).trans ((if_pos c92_4).trans ((if_pos c135_5).trans rfl))))).symm
          · refine z_aload_n C 138 0 1 dX2_add_138 rfl rfl ?_
            refine z_dup C 139 dX2_add_139 rfl ?_
            refine z_geti C 140 (b) 2 dX2_add_140 (Nat.lt_of_succ_lt hO.1) hO.2.1 mX2_add_in2 rfl (by decide) mX2_add_f25 (fun _ => rfl) ?_
            refine z_nv (t (b) 2) ((zset_nk _ _ _ (by decide)).trans ((zset_idk _ _ _ _ (by omega)).trans ((zset_idk _ _ _ _ (by omega)).trans ((zset_idk _ _ _ _ (by omega)).trans ((zset_idk _ _ _ _ (by omega)).trans ((zset_idk _ _ _ _ (by omega)).trans ((zset_idk _ _ _ _ (by omega)).trans rfl))))))) ?_
            refine z_iconst C 143 (v := 1) dX2_add_143 (by decide +kernel) ?_
            refine z_iadd C 144 dX2_add_144 ?_
            refine z_put C 145 (ty := .int) (b) 2 dX2_add_145 (Nat.lt_of_succ_lt hO.1) hO.2.1 mX2_add_in2 tyX2 tyX2_ok nmX2 rfl (by decide) mX2_add_f25 rfl (by decide +kernel) (vp_nar_int _) (zfit_i _) (fun _ => Nat.le_of_ble_eq_true rfl) (fun _ _ => rfl) ?_
            exact z_vret C 148 hA hQ rfl dX2_add_148 ((if_neg c4_1).trans ((if_pos c13_2).trans ((if_pos c79_3).trans ((if_pos c92_4).trans ((if_neg c135_5).trans rfl))))).symm
        · refine z_iconst C 95 (v := 1) dX2_add_95 (by decide +kernel) ?_
          refine z_goto C 96 100 dX2_add_96 (by decide) ?_
          refine z_iastN C 100 (b + 1) (w * 6 + 4) dX2_add_100 hO.1 hO.2.2 (by rw [hx]; first | exact (nI_mul w 6) | exact (congrArg (· + nI 4) (nI_mul w 6)).trans (nI_add _ _)) (by omega) (by decide) ?_
          refine z_aload_n C 101 0 1 dX2_add_101 rfl rfl ?_
          refine z_getr C 102 (a9 := ad (b + 1)) (b) 0 dX2_add_102 (Nat.lt_of_succ_lt hO.1) hO.2.1 mX2_add_in2 rfl (by decide) mX2_add_f11 (fun _ => rfl) ?_
          refine z_iload C 105 6 0 dX2_add_105 rfl ?_
          refine z_iconst C 107 (v := 5) dX2_add_107 (by decide +kernel) ?_
          refine z_iadd C 108 dX2_add_108 ?_
          refine z_sipush C 109 (v := 1000) dX2_add_109 (by decide +kernel) ?_
          refine z_iload C 112 5 6 dX2_add_112 rfl ?_
          refine z_iadd C 114 dX2_add_114 ?_
          refine z_iastN C 115 (b + 1) (w * 6 + 5) dX2_add_115 hO.1 hO.2.2 (by rw [hx]; first | exact (nI_mul w 6) | exact (congrArg (· + nI 5) (nI_mul w 6)).trans (nI_add _ _)) (by omega) (by decide) ?_
          refine z_aload_n C 116 0 1 dX2_add_116 rfl rfl ?_
          refine z_aload_n C 117 0 1 dX2_add_117 rfl rfl ?_
          refine z_geti C 118 (b) 1 dX2_add_118 (Nat.lt_of_succ_lt hO.1) hO.2.1 mX2_add_in2 rfl (by decide) mX2_add_f21 (fun _ => rfl) ?_
          refine z_nv (t (b) 1) ((zset_idk _ _ _ _ (by omega)).trans ((zset_idk _ _ _ _ (by omega)).trans ((zset_idk _ _ _ _ (by omega)).trans ((zset_idk _ _ _ _ (by omega)).trans ((zset_idk _ _ _ _ (by omega)).trans ((zset_idk _ _ _ _ (by omega)).trans rfl)))))) ?_
          refine z_iconst C 121 (v := 1) dX2_add_121 (by decide +kernel) ?_
          refine z_iadd C 122 dX2_add_122 ?_
          refine z_bipush C 123 (v := 10) dX2_add_123 (by decide +kernel) ?_
          refine z_irem C 125 dX2_add_125 (by decide) ?_
          refine z_put C 126 (ty := .int) (b) 1 dX2_add_126 (Nat.lt_of_succ_lt hO.1) hO.2.1 mX2_add_in2 tyX2 tyX2_ok nmX2 rfl (by decide) mX2_add_f21 rfl (by decide +kernel) (vp_nar_int _) (zfit_i _) (fun _ => Nat.le_of_ble_eq_true rfl) (fun _ _ => rfl) ?_
          refine z_aload_n C 129 0 1 dX2_add_129 rfl rfl ?_
          refine z_geti C 130 (b) 2 dX2_add_130 (Nat.lt_of_succ_lt hO.1) hO.2.1 mX2_add_in2 rfl (by decide) mX2_add_f25 (fun _ => rfl) ?_
          refine z_nv (t (b) 2) ((zset_nk _ _ _ (by decide)).trans ((zset_idk _ _ _ _ (by omega)).trans ((zset_idk _ _ _ _ (by omega)).trans ((zset_idk _ _ _ _ (by omega)).trans ((zset_idk _ _ _ _ (by omega)).trans ((zset_idk _ _ _ _ (by omega)).trans ((zset_idk _ _ _ _ (by omega)).trans rfl))))))) ?_
          refine z_bipush C 133 (v := 10) dX2_add_133 (by decide +kernel) ?_
          refine z_icmp_ge C 135 148 dX2_add_135 (by decide) (fun c135_6 => ?_) (fun c135_6 => ?_)
          · exact z_vret C 148 hA hQ rfl dX2_add_148 ((if_neg c4_1).trans ((if_pos c13_2).trans ((if_pos c79_3).trans ((if_neg c92_4).trans ((if_pos c135_6).trans rfl))))).symm
          · refine z_aload_n C 138 0 1 dX2_add_138 rfl rfl ?_
            refine z_dup C 139 dX2_add_139 rfl ?_
            refine z_geti C 140 (b) 2 dX2_add_140 (Nat.lt_of_succ_lt hO.1) hO.2.1 mX2_add_in2 rfl (by decide) mX2_add_f25 (fun _ => rfl) ?_
            refine z_nv (t (b) 2) ((zset_nk _ _ _ (by decide)).trans ((zset_idk _ _ _ _ (by omega)).trans ((zset_idk _ _ _ _ (by omega)).trans ((zset_idk _ _ _ _ (by omega)).trans ((zset_idk _ _ _ _ (by omega)).trans ((zset_idk _ _ _ _ (by omega)).trans ((zset_idk _ _ _ _ (by omega)).trans rfl))))))) ?_
            refine z_iconst C 143 (v := 1) dX2_add_143 (by decide +kernel) ?_
            refine z_iadd C 144 dX2_add_144 ?_
            refine z_put C 145 (ty := .int) (b) 2 dX2_add_145 (Nat.lt_of_succ_lt hO.1) hO.2.1 mX2_add_in2 tyX2 tyX2_ok nmX2 rfl (by decide) mX2_add_f25 rfl (by decide +kernel) (vp_nar_int _) (zfit_i _) (fun _ => Nat.le_of_ble_eq_true rfl) (fun _ _ => rfl) ?_
            exact z_vret C 148 hA hQ rfl dX2_add_148 ((if_neg c4_1).trans ((if_pos c13_2).trans ((if_pos c79_3).trans ((if_neg c92_4).trans ((if_neg c135_6).trans rfl))))).symm
      · refine z_iconst C 82 (v := 0) dX2_add_82 (by decide +kernel) ?_
        refine z_goto C 83 100 dX2_add_83 (by decide) ?_
        refine z_iastN C 100 (b + 1) (w * 6 + 4) dX2_add_100 hO.1 hO.2.2 (by rw [hx]; first | exact (nI_mul w 6) | exact (congrArg (· + nI 4) (nI_mul w 6)).trans (nI_add _ _)) (by omega) (by decide) ?_
        refine z_aload_n C 101 0 1 dX2_add_101 rfl rfl ?_
        refine z_getr C 102 (a9 := ad (b + 1)) (b) 0 dX2_add_102 (Nat.lt_of_succ_lt hO.1) hO.2.1 mX2_add_in2 rfl (by decide) mX2_add_f11 (fun _ => rfl) ?_
        refine z_iload C 105 6 0 dX2_add_105 rfl ?_
        refine z_iconst C 107 (v := 5) dX2_add_107 (by decide +kernel) ?_
        refine z_iadd C 108 dX2_add_108 ?_
        refine z_sipush C 109 (v := 1000) dX2_add_109 (by decide +kernel) ?_
        refine z_iload C 112 5 6 dX2_add_112 rfl ?_
        refine z_iadd C 114 dX2_add_114 ?_
        refine z_iastN C 115 (b + 1) (w * 6 + 5) dX2_add_115 hO.1 hO.2.2 (by rw [hx]; first | exact (nI_mul w 6) | exact (congrArg (· + nI 5) (nI_mul w 6)).trans (nI_add _ _)) (by omega) (by decide) ?_
        refine z_aload_n C 116 0 1 dX2_add_116 rfl rfl ?_
        refine z_aload_n C 117 0 1 dX2_add_117 rfl rfl ?_
        refine z_geti C 118 (b) 1 dX2_add_118 (Nat.lt_of_succ_lt hO.1) hO.2.1 mX2_add_in2 rfl (by decide) mX2_add_f21 (fun _ => rfl) ?_
        refine z_nv (t (b) 1) ((zset_idk _ _ _ _ (by omega)).trans ((zset_idk _ _ _ _ (by omega)).trans ((zset_idk _ _ _ _ (by omega)).trans ((zset_idk _ _ _ _ (by omega)).trans ((zset_idk _ _ _ _ (by omega)).trans ((zset_idk _ _ _ _ (by omega)).trans rfl)))))) ?_
        refine z_iconst C 121 (v := 1) dX2_add_121 (by decide +kernel) ?_
        refine z_iadd C 122 dX2_add_122 ?_
        refine z_bipush C 123 (v := 10) dX2_add_123 (by decide +kernel) ?_
        refine z_irem C 125 dX2_add_125 (by decide) ?_
        refine z_put C 126 (ty := .int) (b) 1 dX2_add_126 (Nat.lt_of_succ_lt hO.1) hO.2.1 mX2_add_in2 tyX2 tyX2_ok nmX2 rfl (by decide) mX2_add_f21 rfl (by decide +kernel) (vp_nar_int _) (zfit_i _) (fun _ => Nat.le_of_ble_eq_true rfl) (fun _ _ => rfl) ?_
        refine z_aload_n C 129 0 1 dX2_add_129 rfl rfl ?_
        refine z_geti C 130 (b) 2 dX2_add_130 (Nat.lt_of_succ_lt hO.1) hO.2.1 mX2_add_in2 rfl (by decide) mX2_add_f25 (fun _ => rfl) ?_
        refine z_nv (t (b) 2) ((zset_nk _ _ _ (by decide)).trans ((zset_idk _ _ _ _ (by omega)).trans ((zset_idk _ _ _ _ (by omega)).trans ((zset_idk _ _ _ _ (by omega)).trans ((zset_idk _ _ _ _ (by omega)).trans ((zset_idk _ _ _ _ (by omega)).trans ((zset_idk _ _ _ _ (by omega)).trans rfl))))))) ?_
        refine z_bipush C 133 (v := 10) dX2_add_133 (by decide +kernel) ?_
        refine z_icmp_ge C 135 148 dX2_add_135 (by decide) (fun c135_7 => ?_) (fun c135_7 => ?_)
        · exact z_vret C 148 hA hQ rfl dX2_add_148 ((if_neg c4_1).trans ((if_pos c13_2).trans ((if_neg c79_3).trans ((if_pos c135_7).trans rfl)))).symm
        · refine z_aload_n C 138 0 1 dX2_add_138 rfl rfl ?_
          refine z_dup C 139 dX2_add_139 rfl ?_
          refine z_geti C 140 (b) 2 dX2_add_140 (Nat.lt_of_succ_lt hO.1) hO.2.1 mX2_add_in2 rfl (by decide) mX2_add_f25 (fun _ => rfl) ?_
          refine z_nv (t (b) 2) ((zset_nk _ _ _ (by decide)).trans ((zset_idk _ _ _ _ (by omega)).trans ((zset_idk _ _ _ _ (by omega)).trans ((zset_idk _ _ _ _ (by omega)).trans ((zset_idk _ _ _ _ (by omega)).trans ((zset_idk _ _ _ _ (by omega)).trans ((zset_idk _ _ _ _ (by omega)).trans rfl))))))) ?_
          refine z_iconst C 143 (v := 1) dX2_add_143 (by decide +kernel) ?_
          refine z_iadd C 144 dX2_add_144 ?_
          refine z_put C 145 (ty := .int) (b) 2 dX2_add_145 (Nat.lt_of_succ_lt hO.1) hO.2.1 mX2_add_in2 tyX2 tyX2_ok nmX2 rfl (by decide) mX2_add_f25 rfl (by decide +kernel) (vp_nar_int _) (zfit_i _) (fun _ => Nat.le_of_ble_eq_true rfl) (fun _ _ => rfl) ?_
          exact z_vret C 148 hA hQ rfl dX2_add_148 ((if_neg c4_1).trans ((if_pos c13_2).trans ((if_neg c79_3).trans ((if_neg c135_7).trans rfl)))).symm
    · exact z_vret C 16 hA hQ rfl dX2_add_16 ((if_neg c4_1).trans ((if_neg c13_2).trans rfl)).symm
theorem sX2_add_o (b : Nat) (t : zM) (w : Nat) (a1 a2 a3 a4 a5 : Int32) {j : Nat} (h : j ≠ b) (h1 : j ≠ b + 1) : sX2_add b t w a1 a2 a3 a4 a5 j = t j := by
  unfold sX2_add
  repeat' split
  all_goals simp only [zset_id _ _ _ h, zset_id _ _ _ h1]
def rX2_entry (b : Nat) (t : zM) (a1 : Int32) (a2 : Int32) : Int32 := (if a1 < 0 then (-1000001) else (if a2 < 0 then (-1000001) else (if a2 < 6 then (if a1 < (t (b) 2) then (if (((zrem ((((t (b) 1) + 10) - 1) - a1) 10) * 6) + a2) < 0 then (-1000004) else (if 60 ≤ (((zrem ((((t (b) 1) + 10) - 1) - a1) 10) * 6) + a2) then (-1000004) else (t (b + 1) (((zrem ((((t (b) 1) + 10) - 1) - a1) 10) * 6) + a2).toNatClampNeg))) else (-1000004)) else (-1000001))))
theorem mX2_entry_c28 : Cond.constant RX2 28 (-1000001) ∈ wsX2_entry := by decide +kernel
theorem mX2_entry_f25 : Cond.fieldLink RX2 25 "WrongedMeters$Ledger" "size" "I" ∈ wsX2_entry := by decide +kernel
set_option maxRecDepth 20000 in
theorem mX2_entry_in2 : ∀ w ∈ u_ws RX2 TX2 3, w ∈ wsX2_entry := by decide +kernel
theorem mX2_entry_f21 : Cond.fieldLink RX2 21 "WrongedMeters$Ledger" "nextRow" "I" ∈ wsX2_entry := by decide +kernel
theorem mX2_entry_c29 : Cond.constant RX2 29 (-1000004) ∈ wsX2_entry := by decide +kernel
theorem mX2_entry_f11 : Cond.fieldLink RX2 11 "WrongedMeters$Ledger" "facts" "[I" ∈ wsX2_entry := by decide +kernel
theorem hyX2_entry : yX2_entry.cls = RX2 ∧ yX2_entry.cls ≠ "java/lang/invoke/MethodHandle" ∧ yX2_entry.cls ≠ "java/lang/invoke/VarHandle" ∧ (parseMethodDescriptor yX2_entry.desc).map (fun d => d.parameters.length) = some 2 := by decide +kernel
set_option maxHeartbeats 3000000 in
set_option maxRecDepth 100000 in
theorem kX2_entry (l : Launch) (D : va_G) (cy : Nat → ClassId) (K : zK) (n : Nat) (ad : Nat → Nat) (hJ : zJ n ad) (b : Nat) (hO : zLedger cy K n ad b) (t : zM) (w z : Nat) (a1 a2 : Int32) (hw : w < 10) (hx : t b 1 = nI w) (hz : z ≤ 10) (hy : t b 2 = nI z) : zI l yX2_entry wsX2_entry 0 D cy K n ad t [.ref (ad (b)), .int a1, .int a2] (fun r t1 => r = rX2_entry b t a1 a2 ∧ t1 = t) := by
  refine z_startI (cc := cX2_entry) (mL := 4) (ret := (some .int)) (own := RX2) rfl (by decide +kernel) rfl hJ (Nat.le_of_ble_eq_true rfl) ?_
  intro p e s m args below meth c A hA Q hQ C
  refine z_iload_n C 0 1 1 dX2_entry_0 rfl rfl ?_
  refine z_if_lt C 1 14 dX2_entry_1 (by decide) (fun c1_1 => ?_) (fun c1_1 => ?_)
  · refine z_ldc C 14 (v := (-1000001)) dX2_entry_14 mX2_entry_c28 ?_
    exact z_iret C 16 hA hQ rfl dX2_entry_16 ⟨((if_pos c1_1).trans rfl).symm, rfl⟩
  · refine z_iload_n C 4 2 2 dX2_entry_4 rfl rfl ?_
    refine z_if_lt C 5 14 dX2_entry_5 (by decide) (fun c5_2 => ?_) (fun c5_2 => ?_)
    · refine z_ldc C 14 (v := (-1000001)) dX2_entry_14 mX2_entry_c28 ?_
      exact z_iret C 16 hA hQ rfl dX2_entry_16 ⟨((if_neg c1_1).trans ((if_pos c5_2).trans rfl)).symm, rfl⟩
    · refine z_iload_n C 8 2 2 dX2_entry_8 rfl rfl ?_
      refine z_bipush C 9 (v := 6) dX2_entry_9 (by decide +kernel) ?_
      refine z_icmp_lt C 11 17 dX2_entry_11 (by decide) (fun c11_3 => ?_) (fun c11_3 => ?_)
      · refine z_iload_n C 17 1 1 dX2_entry_17 rfl rfl ?_
        refine z_aload_n C 18 0 0 dX2_entry_18 rfl rfl ?_
        refine z_geti C 19 (b) 2 dX2_entry_19 (Nat.lt_of_succ_lt hO.1) hO.2.1 mX2_entry_in2 rfl (by decide) mX2_entry_f25 (fun _ => rfl) ?_
        refine z_icmp_lt C 22 28 dX2_entry_22 (by decide) (fun c22_4 => ?_) (fun c22_4 => ?_)
        · refine z_aload_n C 28 0 0 dX2_entry_28 rfl rfl ?_
          refine z_geti C 29 (b) 1 dX2_entry_29 (Nat.lt_of_succ_lt hO.1) hO.2.1 mX2_entry_in2 rfl (by decide) mX2_entry_f21 (fun _ => rfl) ?_
          refine z_bipush C 32 (v := 10) dX2_entry_32 (by decide +kernel) ?_
          refine z_iadd C 34 dX2_entry_34 ?_
          refine z_iconst C 35 (v := 1) dX2_entry_35 (by decide +kernel) ?_
          refine z_isub C 36 dX2_entry_36 ?_
          refine z_iload_n C 37 1 1 dX2_entry_37 rfl rfl ?_
          refine z_isub C 38 dX2_entry_38 ?_
          refine z_bipush C 39 (v := 10) dX2_entry_39 (by decide +kernel) ?_
          refine z_irem C 41 dX2_entry_41 (by decide) ?_
          refine z_bipush C 42 (v := 6) dX2_entry_42 (by decide +kernel) ?_
          refine z_imul C 44 dX2_entry_44 ?_
          refine z_iload_n C 45 2 2 dX2_entry_45 rfl rfl ?_
          refine z_iadd C 46 dX2_entry_46 ?_
          refine z_istore_n C 47 3 ([(3, .int (((zrem ((((t (b) 1) + 10) - 1) - a1) 10) * 6) + a2)), (0, .ref (ad (b))), (1, .int a1), (2, .int a2)]) dX2_entry_47 rfl (by decide) rfl ?_
          refine z_iload_n C 48 3 0 dX2_entry_48 rfl rfl ?_
          refine z_if_lt C 49 67 dX2_entry_49 (by decide) (fun c49_5 => ?_) (fun c49_5 => ?_)
          · refine z_ldc C 67 (v := (-1000004)) dX2_entry_67 mX2_entry_c29 ?_
            exact z_iret C 69 hA hQ rfl dX2_entry_69 ⟨((if_neg c1_1).trans ((if_neg c5_2).trans ((if_pos c11_3).trans ((if_pos c22_4).trans ((if_pos c49_5).trans rfl))))).symm, rfl⟩
          · refine z_iload_n C 52 3 0 dX2_entry_52 rfl rfl ?_
            refine z_bipush C 53 (v := 60) dX2_entry_53 (by decide +kernel) ?_
            refine z_icmp_ge C 55 67 dX2_entry_55 (by decide) (fun c55_6 => ?_) (fun c55_6 => ?_)
            · refine z_ldc C 67 (v := (-1000004)) dX2_entry_67 mX2_entry_c29 ?_
              exact z_iret C 69 hA hQ rfl dX2_entry_69 ⟨((if_neg c1_1).trans ((if_neg c5_2).trans ((if_pos c11_3).trans ((if_pos c22_4).trans ((if_neg c49_5).trans ((if_pos c55_6).trans rfl)))))).symm, rfl⟩
            · refine z_aload_n C 58 0 1 dX2_entry_58 rfl rfl ?_
              refine z_getr C 59 (a9 := ad (b + 1)) (b) 0 dX2_entry_59 (Nat.lt_of_succ_lt hO.1) hO.2.1 mX2_entry_in2 rfl (by decide) mX2_entry_f11 (fun _ => rfl) ?_
              refine z_iload_n C 62 3 0 dX2_entry_62 rfl rfl ?_
              refine z_iald C 63 (b + 1) dX2_entry_63 hO.1 hO.2.2 (zvp1 ‹¬ ((zrem ((((t b 1) + 10) - 1) - a1) 10) * 6) + a2 < 0› ‹¬ 60 ≤ ((zrem ((((t b 1) + 10) - 1) - a1) 10) * 6) + a2› (by decide)) ?_
              refine z_goto C 64 69 dX2_entry_64 (by decide) ?_
              exact z_iret C 69 hA hQ rfl dX2_entry_69 ⟨((if_neg c1_1).trans ((if_neg c5_2).trans ((if_pos c11_3).trans ((if_pos c22_4).trans ((if_neg c49_5).trans ((if_neg c55_6).trans rfl)))))).symm, rfl⟩
        · refine z_ldc C 25 (v := (-1000004)) dX2_entry_25 mX2_entry_c29 ?_
          exact z_iret C 27 hA hQ rfl dX2_entry_27 ⟨((if_neg c1_1).trans ((if_neg c5_2).trans ((if_pos c11_3).trans ((if_neg c22_4).trans rfl)))).symm, rfl⟩
      · refine z_ldc C 14 (v := (-1000001)) dX2_entry_14 mX2_entry_c28 ?_
        exact z_iret C 16 hA hQ rfl dX2_entry_16 ⟨((if_neg c1_1).trans ((if_neg c5_2).trans ((if_neg c11_3).trans rfl))).symm, rfl⟩
