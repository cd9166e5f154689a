/-! The objects by ids -/
def zHouse (K : zK) (n : Nat) (ad : Nat → Nat) (b : Nat) : Prop := b < n ∧ ∀ f, K ad b f = .inr (1, [.int (f 0), .int (f 1), .int (f 2), .int (f 3), .int (f 4), .int (f 5), .int (f 6), .int (f 7), .int (f 8), .int (f 9), .int (f 10), .int (f 11), .int (f 12), .int (f 13)])
def zStreet (cy : Nat → ClassId) (K : zK) (n : Nat) (ad : Nat → Nat) (b : Nat) : Prop := b + 1 < n ∧ (∀ f, K ad b f = .inr (4, [.ref (ad (b + 1)), .int (f 1)])) ∧ ∀ f, K ad (b + 1) f = .inl (cy 0, 20, .inl f)
def zLedger (cy : Nat → ClassId) (K : zK) (n : Nat) (ad : Nat → Nat) (b : Nat) : Prop := b + 1 < n ∧ (∀ f, K ad b f = .inr (2, [.ref (ad (b + 1)), .int (f 1), .int (f 2)])) ∧ ∀ f, K ad (b + 1) f = .inl (cy 0, 60, .inl f)
def zOrders (cy : Nat → ClassId) (K : zK) (n : Nat) (ad : Nat → Nat) (b : Nat) : Prop := b + 1 < n ∧ (∀ f, K ad b f = .inr (3, [.ref (ad (b + 1)), .int (f 1), .int (f 2), .int (f 3), .int (f 4), .int (f 5), .int (f 6), .int (f 7), .int (f 8), .int (f 9)])) ∧ ∀ f, K ad (b + 1) f = .inl (cy 0, 60, .inl f)
def rX1_used (b : Nat) (t : zM)  : Int32 := (if (t (b) 2) < (t (b) 3) then (((t (b) 2) - (t (b) 3)) + 100000) else ((t (b) 2) - (t (b) 3)))
theorem mX1_used_f21 : Cond.fieldLink RX1 21 "WrongedMeters$House" "dial" "I" ∈ wsX1_used := by decide +kernel
set_option maxRecDepth 20000 in
theorem mX1_used_in1 : ∀ w ∈ u_ws RX1 TX1 14, w ∈ wsX1_used := by decide +kernel
theorem mX1_used_f24 : Cond.fieldLink RX1 24 "WrongedMeters$House" "dialBefore" "I" ∈ wsX1_used := by decide +kernel
theorem mX1_used_c55 : Cond.constant RX1 55 (100000) ∈ wsX1_used := by decide +kernel
theorem hyX1_used : yX1_used.cls = RX1 ∧ yX1_used.cls ≠ "java/lang/invoke/MethodHandle" ∧ yX1_used.cls ≠ "java/lang/invoke/VarHandle" ∧ (parseMethodDescriptor yX1_used.desc).map (fun d => d.parameters.length) = some 0 := by decide +kernel
set_option maxHeartbeats 3000000 in
set_option maxRecDepth 100000 in
theorem kX1_used (l : Launch) (D : va_G) (cy : Nat → ClassId) (K : zK) (n : Nat) (ad : Nat → Nat) (hJ : zJ n ad) (b : Nat) (hO : zHouse K n ad b) (t : zM)   : zI l yX1_used wsX1_used 0 D cy K n ad t [.ref (ad (b))] (fun r t1 => r = rX1_used b t ∧ t1 = t) := by
  refine z_startI (cc := cX1_used) (mL := 1) (ret := (some .int)) (own := RX1) rfl (by decide +kernel) rfl hJ (Nat.le_of_ble_eq_true rfl) ?_
  intro p e s m args below meth c A hA Q hQ C
  refine z_aload_n C 0 0 0 dX1_used_0 rfl rfl ?_
  refine z_geti C 1 (b) 2 dX1_used_1 hO.1 hO.2 mX1_used_in1 rfl (by decide) mX1_used_f21 (fun _ => rfl) ?_
  refine z_aload_n C 4 0 0 dX1_used_4 rfl rfl ?_
  refine z_geti C 5 (b) 3 dX1_used_5 hO.1 hO.2 mX1_used_in1 rfl (by decide) mX1_used_f24 (fun _ => rfl) ?_
  refine z_icmp_lt C 8 23 dX1_used_8 (by decide) (fun c8_1 => ?_) (fun c8_1 => ?_)
  · refine z_aload_n C 23 0 0 dX1_used_23 rfl rfl ?_
    refine z_geti C 24 (b) 2 dX1_used_24 hO.1 hO.2 mX1_used_in1 rfl (by decide) mX1_used_f21 (fun _ => rfl) ?_
    refine z_aload_n C 27 0 0 dX1_used_27 rfl rfl ?_
    refine z_geti C 28 (b) 3 dX1_used_28 hO.1 hO.2 mX1_used_in1 rfl (by decide) mX1_used_f24 (fun _ => rfl) ?_
    refine z_isub C 31 dX1_used_31 ?_
    refine z_ldc C 32 (v := 100000) dX1_used_32 mX1_used_c55 ?_
    refine z_iadd C 34 dX1_used_34 ?_
    exact z_iret C 35 hA hQ rfl dX1_used_35 ⟨((if_pos c8_1).trans rfl).symm, rfl⟩
  · refine z_aload_n C 11 0 0 dX1_used_11 rfl rfl ?_
    refine z_geti C 12 (b) 2 dX1_used_12 hO.1 hO.2 mX1_used_in1 rfl (by decide) mX1_used_f21 (fun _ => rfl) ?_
    refine z_aload_n C 15 0 0 dX1_used_15 rfl rfl ?_
    refine z_geti C 16 (b) 3 dX1_used_16 hO.1 hO.2 mX1_used_in1 rfl (by decide) mX1_used_f24 (fun _ => rfl) ?_
    refine z_isub C 19 dX1_used_19 ?_
    refine z_goto C 20 35 dX1_used_20 (by decide) ?_
    exact z_iret C 35 hA hQ rfl dX1_used_35 ⟨((if_neg c8_1).trans rfl).symm, rfl⟩
def rX1_reasonOn (b : Nat) (t : zM) (a1 : Int32) : Int32 := (if (t (b) 5) = 0 then (if (t (b) 7) = a1 then 2 else 0) else 1)
theorem mX1_reasonOn_f30 : Cond.fieldLink RX1 30 "WrongedMeters$House" "isLocked" "Z" ∈ wsX1_reasonOn := by decide +kernel
set_option maxRecDepth 20000 in
theorem mX1_reasonOn_in1 : ∀ w ∈ u_ws RX1 TX1 14, w ∈ wsX1_reasonOn := by decide +kernel
theorem mX1_reasonOn_f9 : Cond.fieldLink RX1 9 "WrongedMeters$House" "latestDay" "I" ∈ wsX1_reasonOn := by decide +kernel
theorem hyX1_reasonOn : yX1_reasonOn.cls = RX1 ∧ yX1_reasonOn.cls ≠ "java/lang/invoke/MethodHandle" ∧ yX1_reasonOn.cls ≠ "java/lang/invoke/VarHandle" ∧ (parseMethodDescriptor yX1_reasonOn.desc).map (fun d => d.parameters.length) = some 1 := by decide +kernel
set_option maxHeartbeats 3000000 in
set_option maxRecDepth 100000 in
theorem kX1_reasonOn (l : Launch) (D : va_G) (cy : Nat → ClassId) (K : zK) (n : Nat) (ad : Nat → Nat) (hJ : zJ n ad) (b : Nat) (hO : zHouse K n ad b) (t : zM) (a1 : Int32)  : zI l yX1_reasonOn wsX1_reasonOn 0 D cy K n ad t [.ref (ad (b)), .int a1] (fun r t1 => r = rX1_reasonOn b t a1 ∧ t1 = t) := by
  refine z_startI (cc := cX1_reasonOn) (mL := 2) (ret := (some .int)) (own := RX1) rfl (by decide +kernel) rfl hJ (Nat.le_of_ble_eq_true rfl) ?_
  intro p e s m args below meth c A hA Q hQ C
  refine z_aload_n C 0 0 0 dX1_reasonOn_0 rfl rfl ?_
  refine z_geti C 1 (b) 5 dX1_reasonOn_1 hO.1 hO.2 mX1_reasonOn_in1 rfl (by decide) mX1_reasonOn_f30 (fun _ => rfl) ?_
  refine z_if_eq C 4 11 dX1_reasonOn_4 (by decide) (fun c4_1 => ?_) (fun c4_1 => ?_)
  · refine z_aload_n C 11 0 0 dX1_reasonOn_11 rfl rfl ?_
    refine z_geti C 12 (b) 7 dX1_reasonOn_12 hO.1 hO.2 mX1_reasonOn_in1 rfl (by decide) mX1_reasonOn_f9 (fun _ => rfl) ?_
    refine z_iload_n C 15 1 1 dX1_reasonOn_15 rfl rfl ?_
    refine z_icmp_ne C 16 23 dX1_reasonOn_16 (by decide) (fun c16_2 => ?_) (fun c16_2 => ?_)
    · refine z_iconst C 23 (v := 0) dX1_reasonOn_23 (by decide +kernel) ?_
      exact z_iret C 24 hA hQ rfl dX1_reasonOn_24 ⟨((if_pos c4_1).trans ((if_neg c16_2).trans rfl)).symm, rfl⟩
    · refine z_iconst C 19 (v := 2) dX1_reasonOn_19 (by decide +kernel) ?_
      refine z_goto C 20 24 dX1_reasonOn_20 (by decide) ?_
      exact z_iret C 24 hA hQ rfl dX1_reasonOn_24 ⟨((if_pos c4_1).trans ((if_pos c16_2).trans rfl)).symm, rfl⟩
  · refine z_iconst C 7 (v := 1) dX1_reasonOn_7 (by decide +kernel) ?_
    refine z_goto C 8 24 dX1_reasonOn_8 (by decide) ?_
    exact z_iret C 24 hA hQ rfl dX1_reasonOn_24 ⟨((if_neg c4_1).trans rfl).symm, rfl⟩
def sX1_goOn (b : Nat) (t : zM)  : zM := (if ((t (b) 2) + (t (b) 4)) < 100000 then (zset t (b) 2 ((t (b) 2) + (t (b) 4))) else (zset (zset t (b) 2 ((t (b) 2) + (t (b) 4))) (b) 2 (((t (b) 2) + (t (b) 4)) - 100000)))
theorem mX1_goOn_f21 : Cond.fieldLink RX1 21 "WrongedMeters$House" "dial" "I" ∈ wsX1_goOn := by decide +kernel
set_option maxRecDepth 20000 in
theorem mX1_goOn_in1 : ∀ w ∈ u_ws RX1 TX1 14, w ∈ wsX1_goOn := by decide +kernel
theorem mX1_goOn_f27 : Cond.fieldLink RX1 27 "WrongedMeters$House" "flow" "I" ∈ wsX1_goOn := by decide +kernel
theorem mX1_goOn_c55 : Cond.constant RX1 55 (100000) ∈ wsX1_goOn := by decide +kernel
theorem hyX1_goOn : yX1_goOn.cls = RX1 ∧ yX1_goOn.cls ≠ "java/lang/invoke/MethodHandle" ∧ yX1_goOn.cls ≠ "java/lang/invoke/VarHandle" ∧ (parseMethodDescriptor yX1_goOn.desc).map (fun d => d.parameters.length) = some 0 := by decide +kernel
set_option maxHeartbeats 3000000 in
set_option maxRecDepth 100000 in
theorem kX1_goOn (l : Launch) (D : va_G) (cy : Nat → ClassId) (K : zK) (n : Nat) (ad : Nat → Nat) (hJ : zJ n ad) (b : Nat) (hO : zHouse K n ad b) (t : zM)   : zV l yX1_goOn wsX1_goOn 0 D cy K n ad t [.ref (ad (b))] (fun t1 => t1 = sX1_goOn b t) := by
  refine z_startV (cc := cX1_goOn) (mL := 1) (ret := none) (own := RX1) rfl (by decide +kernel) rfl hJ (Nat.le_of_ble_eq_true rfl) ?_
  intro p e s m args below meth c A hA Q hQ C
  refine z_aload_n C 0 0 0 dX1_goOn_0 rfl rfl ?_
  refine z_dup C 1 dX1_goOn_1 rfl ?_
  refine z_geti C 2 (b) 2 dX1_goOn_2 hO.1 hO.2 mX1_goOn_in1 rfl (by decide) mX1_goOn_f21 (fun _ => rfl) ?_
  refine z_aload_n C 5 0 0 dX1_goOn_5 rfl rfl ?_
  refine z_geti C 6 (b) 4 dX1_goOn_6 hO.1 hO.2 mX1_goOn_in1 rfl (by decide) mX1_goOn_f27 (fun _ => rfl) ?_
  refine z_iadd C 9 dX1_goOn_9 ?_
  refine z_put C 10 (ty := .int) (b) 2 dX1_goOn_10 hO.1 hO.2 mX1_goOn_in1 tyX1 tyX1_ok nmX1 rfl (by decide) mX1_goOn_f21 rfl (by decide +kernel) (vp_nar_int _) (zfit_i _) (fun _ => Nat.le_of_ble_eq_true rfl) (fun _ _ => rfl) ?_
  refine z_aload_n C 13 0 0 dX1_goOn_13 rfl rfl ?_
  refine z_geti C 14 (b) 2 dX1_goOn_14 hO.1 hO.2 mX1_goOn_in1 rfl (by decide) mX1_goOn_f21 (fun _ => rfl) ?_
  refine z_nv ((t (b) 2) + (t (b) 4)) (zset_eq _ _ _ _) ?_
  refine z_ldc C 17 (v := 100000) dX1_goOn_17 mX1_goOn_c55 ?_
  refine z_icmp_lt C 19 33 dX1_goOn_19 (by decide) (fun c19_1 => ?_) (fun c19_1 => ?_)
  · exact z_vret C 33 hA hQ rfl dX1_goOn_33 ((if_pos c19_1).trans rfl).symm
  · refine z_aload_n C 22 0 0 dX1_goOn_22 rfl rfl ?_
    refine z_dup C 23 dX1_goOn_23 rfl ?_
    refine z_geti C 24 (b) 2 dX1_goOn_24 hO.1 hO.2 mX1_goOn_in1 rfl (by decide) mX1_goOn_f21 (fun _ => rfl) ?_
    refine z_nv ((t (b) 2) + (t (b) 4)) (zset_eq _ _ _ _) ?_
    refine z_ldc C 27 (v := 100000) dX1_goOn_27 mX1_goOn_c55 ?_
    refine z_isub C 29 dX1_goOn_29 ?_
    refine z_put C 30 (ty := .int) (b) 2 dX1_goOn_30 hO.1 hO.2 mX1_goOn_in1 tyX1 tyX1_ok nmX1 rfl (by decide) mX1_goOn_f21 rfl (by decide +kernel) (vp_nar_int _) (zfit_i _) (fun _ => Nat.le_of_ble_eq_true rfl) (fun _ _ => rfl) ?_
    exact z_vret C 33 hA hQ rfl dX1_goOn_33 ((if_neg c19_1).trans rfl).symm
theorem sX1_goOn_o (b : Nat) (t : zM)  {j : Nat} (h : j ≠ b) : sX1_goOn b t  j = t j := by
  unfold sX1_goOn
  repeat' split
  all_goals simp only [zset_id _ _ _ h]
def sX1_settle (b : Nat) (t : zM) (a1 : Int32) (a2 : Int32) (a3 : Int32) : zM := (if ((t (b) 6) + ((100 * a3) - a2)) ≤ 0 then (if 0 ≤ ((t (b) 6) + ((100 * a3) - a2)) then (zset (zset (zset (zset (zset t (b) 6 ((t (b) 6) + ((100 * a3) - a2))) (b) 3 (t (b) 2)) (b) 7 a1) (b) 8 ((t (b) 8) + 1)) (b) 9 ((t (b) 9) + a3)) else (zset (zset (zset (zset (zset (zset t (b) 6 ((t (b) 6) + ((100 * a3) - a2))) (b) 3 (t (b) 2)) (b) 7 a1) (b) 8 ((t (b) 8) + 1)) (b) 9 ((t (b) 9) + a3)) (b) 11 ((t (b) 11) + 1))) else (zset (zset (zset (zset (zset (zset t (b) 6 ((t (b) 6) + ((100 * a3) - a2))) (b) 3 (t (b) 2)) (b) 7 a1) (b) 8 ((t (b) 8) + 1)) (b) 9 ((t (b) 9) + a3)) (b) 10 ((t (b) 10) + 1)))
theorem mX1_settle_f34 : Cond.fieldLink RX1 34 "WrongedMeters$House" "balance" "I" ∈ wsX1_settle := by decide +kernel
set_option maxRecDepth 20000 in
theorem mX1_settle_in1 : ∀ w ∈ u_ws RX1 TX1 14, w ∈ wsX1_settle := by decide +kernel
theorem mX1_settle_f21 : Cond.fieldLink RX1 21 "WrongedMeters$House" "dial" "I" ∈ wsX1_settle := by decide +kernel
theorem mX1_settle_f24 : Cond.fieldLink RX1 24 "WrongedMeters$House" "dialBefore" "I" ∈ wsX1_settle := by decide +kernel
theorem mX1_settle_f9 : Cond.fieldLink RX1 9 "WrongedMeters$House" "latestDay" "I" ∈ wsX1_settle := by decide +kernel
theorem mX1_settle_f37 : Cond.fieldLink RX1 37 "WrongedMeters$House" "readings" "I" ∈ wsX1_settle := by decide +kernel
theorem mX1_settle_f40 : Cond.fieldLink RX1 40 "WrongedMeters$House" "units" "I" ∈ wsX1_settle := by decide +kernel
theorem mX1_settle_f46 : Cond.fieldLink RX1 46 "WrongedMeters$House" "timesCompanyWronged" "I" ∈ wsX1_settle := by decide +kernel
theorem mX1_settle_f43 : Cond.fieldLink RX1 43 "WrongedMeters$House" "timesHouseWronged" "I" ∈ wsX1_settle := by decide +kernel
theorem hyX1_settle : yX1_settle.cls = RX1 ∧ yX1_settle.cls ≠ "java/lang/invoke/MethodHandle" ∧ yX1_settle.cls ≠ "java/lang/invoke/VarHandle" ∧ (parseMethodDescriptor yX1_settle.desc).map (fun d => d.parameters.length) = some 3 := by decide +kernel
set_option maxHeartbeats 3000000 in
set_option maxRecDepth 100000 in
theorem kX1_settle (l : Launch) (D : va_G) (cy : Nat → ClassId) (K : zK) (n : Nat) (ad : Nat → Nat) (hJ : zJ n ad) (b : Nat) (hO : zHouse K n ad b) (t : zM) (a1 : Int32) (a2 : Int32) (a3 : Int32)  : zV l yX1_settle wsX1_settle 0 D cy K n ad t [.ref (ad (b)), .int a1, .int a2, .int a3] (fun t1 => t1 = sX1_settle b t a1 a2 a3) := by
  refine z_startV (cc := cX1_settle) (mL := 4) (ret := none) (own := RX1) rfl (by decide +kernel) rfl hJ (Nat.le_of_ble_eq_true rfl) ?_
  intro p e s m args below meth c A hA Q hQ C
  refine z_aload_n C 0 0 0 dX1_settle_0 rfl rfl ?_
  refine z_dup C 1 dX1_settle_1 rfl ?_
  refine z_geti C 2 (b) 6 dX1_settle_2 hO.1 hO.2 mX1_settle_in1 rfl (by decide) mX1_settle_f34 (fun _ => rfl) ?_
  refine z_bipush C 5 (v := 100) dX1_settle_5 (by decide +kernel) ?_
  refine z_iload_n C 7 3 3 dX1_settle_7 rfl rfl ?_
  refine z_imul C 8 dX1_settle_8 ?_
  refine z_iload_n C 9 2 2 dX1_settle_9 rfl rfl ?_
  refine z_isub C 10 dX1_settle_10 ?_
  refine z_iadd C 11 dX1_settle_11 ?_
  refine z_put C 12 (ty := .int) (b) 6 dX1_settle_12 hO.1 hO.2 mX1_settle_in1 tyX1 tyX1_ok nmX1 rfl (by decide) mX1_settle_f34 rfl (by decide +kernel) (vp_nar_int _) (zfit_i _) (fun _ => Nat.le_of_ble_eq_true rfl) (fun _ _ => rfl) ?_
  refine z_aload_n C 15 0 0 dX1_settle_15 rfl rfl ?_
  refine z_aload_n C 16 0 0 dX1_settle_16 rfl rfl ?_
  refine z_geti C 17 (b) 2 dX1_settle_17 hO.1 hO.2 mX1_settle_in1 rfl (by decide) mX1_settle_f21 (fun _ => rfl) ?_
  refine z_nv (t (b) 2) ((zset_nk _ _ _ (by decide)).trans rfl) ?_
  refine z_put C 20 (ty := .int) (b) 3 dX1_settle_20 hO.1 hO.2 mX1_settle_in1 tyX1 tyX1_ok nmX1 rfl (by decide) mX1_settle_f24 rfl (by decide +kernel) (vp_nar_int _) (zfit_i _) (fun _ => Nat.le_of_ble_eq_true rfl) (fun _ _ => rfl) ?_
  refine z_aload_n C 23 0 0 dX1_settle_23 rfl rfl ?_
  refine z_iload_n C 24 1 1 dX1_settle_24 rfl rfl ?_
  refine z_put C 25 (ty := .int) (b) 7 dX1_settle_25 hO.1 hO.2 mX1_settle_in1 tyX1 tyX1_ok nmX1 rfl (by decide) mX1_settle_f9 rfl (by decide +kernel) (vp_nar_int _) (zfit_i _) (fun _ => Nat.le_of_ble_eq_true rfl) (fun _ _ => rfl) ?_
  refine z_aload_n C 28 0 0 dX1_settle_28 rfl rfl ?_
  refine z_dup C 29 dX1_settle_29 rfl ?_
  refine z_geti C 30 (b) 8 dX1_settle_30 hO.1 hO.2 mX1_settle_in1 rfl (by decide) mX1_settle_f37 (fun _ => rfl) ?_
  refine z_nv (t (b) 8) ((zset_nk _ _ _ (by decide)).trans ((zset_nk _ _ _ (by decide)).trans ((zset_nk _ _ _ (by decide)).trans rfl))) ?_
  refine z_iconst C 33 (v := 1) dX1_settle_33 (by decide +kernel) ?_
  refine z_iadd C 34 dX1_settle_34 ?_
  refine z_put C 35 (ty := .int) (b) 8 dX1_settle_35 hO.1 hO.2 mX1_settle_in1 tyX1 tyX1_ok nmX1 rfl (by decide) mX1_settle_f37 rfl (by decide +kernel) (vp_nar_int _) (zfit_i _) (fun _ => Nat.le_of_ble_eq_true rfl) (fun _ _ => rfl) ?_
  refine z_aload_n C 38 0 0 dX1_settle_38 rfl rfl ?_
  refine z_dup C 39 dX1_settle_39 rfl ?_
  refine z_geti C 40 (b) 9 dX1_settle_40 hO.1 hO.2 mX1_settle_in1 rfl (by decide) mX1_settle_f40 (fun _ => rfl) ?_
  refine z_nv (t (b) 9) ((zset_nk _ _ _ (by decide)).trans ((zset_nk _ _ _ (by decide)).trans ((zset_nk _ _ _ (by decide)).trans ((zset_nk _ _ _ (by decide)).trans rfl)))) ?_
  refine z_iload_n C 43 3 3 dX1_settle_43 rfl rfl ?_
  refine z_iadd C 44 dX1_settle_44 ?_
  refine z_put C 45 (ty := .int) (b) 9 dX1_settle_45 hO.1 hO.2 mX1_settle_in1 tyX1 tyX1_ok nmX1 rfl (by decide) mX1_settle_f40 rfl (by decide +kernel) (vp_nar_int _) (zfit_i _) (fun _ => Nat.le_of_ble_eq_true rfl) (fun _ _ => rfl) ?_
  refine z_aload_n C 48 0 0 dX1_settle_48 rfl rfl ?_
  refine z_geti C 49 (b) 6 dX1_settle_49 hO.1 hO.2 mX1_settle_in1 rfl (by decide) mX1_settle_f34 (fun _ => rfl) ?_
  refine z_nv ((t (b) 6) + ((100 * a3) - a2)) ((zset_nk _ _ _ (by decide)).trans ((zset_nk _ _ _ (by decide)).trans ((zset_nk _ _ _ (by decide)).trans ((zset_nk _ _ _ (by decide)).trans (zset_eq _ _ _ _))))) ?_
  refine z_if_le C 52 68 dX1_settle_52 (by decide) (fun c52_1 => ?_) (fun c52_1 => ?_)
  · refine z_aload_n C 68 0 0 dX1_settle_68 rfl rfl ?_
    refine z_geti C 69 (b) 6 dX1_settle_69 hO.1 hO.2 mX1_settle_in1 rfl (by decide) mX1_settle_f34 (fun _ => rfl) ?_
    refine z_nv ((t (b) 6) + ((100 * a3) - a2)) ((zset_nk _ _ _ (by decide)).trans ((zset_nk _ _ _ (by decide)).trans ((zset_nk _ _ _ (by decide)).trans ((zset_nk _ _ _ (by decide)).trans (zset_eq _ _ _ _))))) ?_
    refine z_if_ge C 72 85 dX1_settle_72 (by decide) (fun c72_2 => ?_) (fun c72_2 => ?_)
    · exact z_vret C 85 hA hQ rfl dX1_settle_85 ((if_pos c52_1).trans ((if_pos c72_2).trans rfl)).symm
    · refine z_aload_n C 75 0 0 dX1_settle_75 rfl rfl ?_
      refine z_dup C 76 dX1_settle_76 rfl ?_
      refine z_geti C 77 (b) 11 dX1_settle_77 hO.1 hO.2 mX1_settle_in1 rfl (by decide) mX1_settle_f46 (fun _ => rfl) ?_
      refine z_nv (t (b) 11) ((zset_nk _ _ _ (by decide)).trans ((zset_nk _ _ _ (by decide)).trans ((zset_nk _ _ _ (by decide)).trans ((zset_nk _ _ _ (by decide)).trans ((zset_nk _ _ _ (by decide)).trans rfl))))) ?_
      refine z_iconst C 80 (v := 1) dX1_settle_80 (by decide +kernel) ?_
      refine z_iadd C 81 dX1_settle_81 ?_
      refine z_put C 82 (ty := .int) (b) 11 dX1_settle_82 hO.1 hO.2 mX1_settle_in1 tyX1 tyX1_ok nmX1 rfl (by decide) mX1_settle_f46 rfl (by decide +kernel) (vp_nar_int _) (zfit_i _) (fun _ => Nat.le_of_ble_eq_true rfl) (fun _ _ => rfl) ?_
      exact z_vret C 85 hA hQ rfl dX1_settle_85 ((if_pos c52_1).trans ((if_neg c72_2).trans rfl)).symm
  · refine z_aload_n C 55 0 0 dX1_settle_55 rfl rfl ?_
    refine z_dup C 56 dX1_settle_56 rfl ?_
    refine z_geti C 57 (b) 10 dX1_settle_57 hO.1 hO.2 mX1_settle_in1 rfl (by decide) mX1_settle_f43 (fun _ => rfl) ?_
    refine z_nv (t (b) 10) ((zset_nk _ _ _ (by decide)).trans ((zset_nk _ _ _ (by decide)).trans ((zset_nk _ _ _ (by decide)).trans ((zset_nk _ _ _ (by decide)).trans ((zset_nk _ _ _ (by decide)).trans rfl))))) ?_
    refine z_iconst C 60 (v := 1) dX1_settle_60 (by decide +kernel) ?_
    refine z_iadd C 61 dX1_settle_61 ?_
    refine z_put C 62 (ty := .int) (b) 10 dX1_settle_62 hO.1 hO.2 mX1_settle_in1 tyX1 tyX1_ok nmX1 rfl (by decide) mX1_settle_f43 rfl (by decide +kernel) (vp_nar_int _) (zfit_i _) (fun _ => Nat.le_of_ble_eq_true rfl) (fun _ _ => rfl) ?_
    refine z_goto C 65 85 dX1_settle_65 (by decide) ?_
    exact z_vret C 85 hA hQ rfl dX1_settle_85 ((if_neg c52_1).trans rfl).symm
theorem sX1_settle_o (b : Nat) (t : zM) (a1 : Int32) (a2 : Int32) (a3 : Int32) {j : Nat} (h : j ≠ b) : sX1_settle b t a1 a2 a3 j = t j := by
  unfold sX1_settle
  repeat' split
  all_goals simp only [zset_id _ _ _ h]
def sX1_renewMeter (b : Nat) (t : zM)  : zM := (zset (zset (zset t (b) 2 0) (b) 3 0) (b) 13 ((t (b) 13) + 1))
theorem mX1_renewMeter_f21 : Cond.fieldLink RX1 21 "WrongedMeters$House" "dial" "I" ∈ wsX1_renewMeter := by decide +kernel
set_option maxRecDepth 20000 in
theorem mX1_renewMeter_in1 : ∀ w ∈ u_ws RX1 TX1 14, w ∈ wsX1_renewMeter := by decide +kernel
theorem mX1_renewMeter_f24 : Cond.fieldLink RX1 24 "WrongedMeters$House" "dialBefore" "I" ∈ wsX1_renewMeter := by decide +kernel
theorem mX1_renewMeter_f52 : Cond.fieldLink RX1 52 "WrongedMeters$House" "metersChanged" "I" ∈ wsX1_renewMeter := by decide +kernel
theorem hyX1_renewMeter : yX1_renewMeter.cls = RX1 ∧ yX1_renewMeter.cls ≠ "java/lang/invoke/MethodHandle" ∧ yX1_renewMeter.cls ≠ "java/lang/invoke/VarHandle" ∧ (parseMethodDescriptor yX1_renewMeter.desc).map (fun d => d.parameters.length) = some 0 := by decide +kernel
set_option maxHeartbeats 3000000 in
set_option maxRecDepth 100000 in
theorem kX1_renewMeter (l : Launch) (D : va_G) (cy : Nat → ClassId) (K : zK) (n : Nat) (ad : Nat → Nat) (hJ : zJ n ad) (b : Nat) (hO : zHouse K n ad b) (t : zM)   : zV l yX1_renewMeter wsX1_renewMeter 0 D cy K n ad t [.ref (ad (b))] (fun t1 => t1 = sX1_renewMeter b t) := by
  refine z_startV (cc := cX1_renewMeter) (mL := 1) (ret := none) (own := RX1) rfl (by decide +kernel) rfl hJ (Nat.le_of_ble_eq_true rfl) ?_
  intro p e s m args below meth c A hA Q hQ C
  refine z_aload_n C 0 0 0 dX1_renewMeter_0 rfl rfl ?_
  refine z_iconst C 1 (v := 0) dX1_renewMeter_1 (by decide +kernel) ?_
  refine z_put C 2 (ty := .int) (b) 2 dX1_renewMeter_2 hO.1 hO.2 mX1_renewMeter_in1 tyX1 tyX1_ok nmX1 rfl (by decide) mX1_renewMeter_f21 rfl (by decide +kernel) (vp_nar_int _) (zfit_i _) (fun _ => Nat.le_of_ble_eq_true rfl) (fun _ _ => rfl) ?_
  refine z_aload_n C 5 0 0 dX1_renewMeter_5 rfl rfl ?_
  refine z_iconst C 6 (v := 0) dX1_renewMeter_6 (by decide +kernel) ?_
  refine z_put C 7 (ty := .int) (b) 3 dX1_renewMeter_7 hO.1 hO.2 mX1_renewMeter_in1 tyX1 tyX1_ok nmX1 rfl (by decide) mX1_renewMeter_f24 rfl (by decide +kernel) (vp_nar_int _) (zfit_i _) (fun _ => Nat.le_of_ble_eq_true rfl) (fun _ _ => rfl) ?_
  refine z_aload_n C 10 0 0 dX1_renewMeter_10 rfl rfl ?_
  refine z_dup C 11 dX1_renewMeter_11 rfl ?_
  refine z_geti C 12 (b) 13 dX1_renewMeter_12 hO.1 hO.2 mX1_renewMeter_in1 rfl (by decide) mX1_renewMeter_f52 (fun _ => rfl) ?_
  refine z_nv (t (b) 13) ((zset_nk _ _ _ (by decide)).trans ((zset_nk _ _ _ (by decide)).trans rfl)) ?_
  refine z_iconst C 15 (v := 1) dX1_renewMeter_15 (by decide +kernel) ?_
  refine z_iadd C 16 dX1_renewMeter_16 ?_
  refine z_put C 17 (ty := .int) (b) 13 dX1_renewMeter_17 hO.1 hO.2 mX1_renewMeter_in1 tyX1 tyX1_ok nmX1 rfl (by decide) mX1_renewMeter_f52 rfl (by decide +kernel) (vp_nar_int _) (zfit_i _) (fun _ => Nat.le_of_ble_eq_true rfl) (fun _ _ => rfl) ?_
  exact z_vret C 20 hA hQ rfl dX1_renewMeter_20 rfl
theorem sX1_renewMeter_o (b : Nat) (t : zM)  {j : Nat} (h : j ≠ b) : sX1_renewMeter b t  j = t j := by
  unfold sX1_renewMeter
  repeat' split
  all_goals simp only [zset_id _ _ _ h]
def rX1_fact (b : Nat) (t : zM) (a1 : Int32) : Int32 := (if a1 = 0 then (t (b) 0) else (if a1 = 1 then (t (b) 1) else (if a1 = 2 then (t (b) 2) else (if a1 = 3 then (rX1_used (b) t) else (if a1 = 4 then (1000 + (t (b) 6)) else (if a1 = 5 then (t (b) 4) else (if a1 = 6 then (if (t (b) 5) = 0 then 0 else 1) else (if a1 = 7 then (if (t (b) 7) = (-1) then (-1000004) else (t (b) 7)) else (if a1 = 8 then (t (b) 8) else (if a1 = 9 then (t (b) 9) else (if a1 = 10 then (t (b) 10) else (if a1 = 11 then (t (b) 11) else (if a1 = 12 then (t (b) 12) else (if a1 = 13 then (t (b) 13) else (-1000001)))))))))))))))
theorem mX1_fact_f15 : Cond.fieldLink RX1 15 "WrongedMeters$House" "street" "I" ∈ wsX1_fact := by decide +kernel
set_option maxRecDepth 20000 in
theorem mX1_fact_in1 : ∀ w ∈ u_ws RX1 TX1 14, w ∈ wsX1_fact := by decide +kernel
theorem mX1_fact_f18 : Cond.fieldLink RX1 18 "WrongedMeters$House" "place" "I" ∈ wsX1_fact := by decide +kernel
theorem mX1_fact_f21 : Cond.fieldLink RX1 21 "WrongedMeters$House" "dial" "I" ∈ wsX1_fact := by decide +kernel
theorem mX1_fact_f34 : Cond.fieldLink RX1 34 "WrongedMeters$House" "balance" "I" ∈ wsX1_fact := by decide +kernel
theorem mX1_fact_f27 : Cond.fieldLink RX1 27 "WrongedMeters$House" "flow" "I" ∈ wsX1_fact := by decide +kernel
theorem mX1_fact_f30 : Cond.fieldLink RX1 30 "WrongedMeters$House" "isLocked" "Z" ∈ wsX1_fact := by decide +kernel
theorem mX1_fact_f9 : Cond.fieldLink RX1 9 "WrongedMeters$House" "latestDay" "I" ∈ wsX1_fact := by decide +kernel
theorem mX1_fact_c60 : Cond.constant RX1 60 (-1000004) ∈ wsX1_fact := by decide +kernel
theorem mX1_fact_f37 : Cond.fieldLink RX1 37 "WrongedMeters$House" "readings" "I" ∈ wsX1_fact := by decide +kernel
theorem mX1_fact_f40 : Cond.fieldLink RX1 40 "WrongedMeters$House" "units" "I" ∈ wsX1_fact := by decide +kernel
theorem mX1_fact_f43 : Cond.fieldLink RX1 43 "WrongedMeters$House" "timesHouseWronged" "I" ∈ wsX1_fact := by decide +kernel
theorem mX1_fact_f46 : Cond.fieldLink RX1 46 "WrongedMeters$House" "timesCompanyWronged" "I" ∈ wsX1_fact := by decide +kernel
theorem mX1_fact_f49 : Cond.fieldLink RX1 49 "WrongedMeters$House" "refunds" "I" ∈ wsX1_fact := by decide +kernel
theorem mX1_fact_f52 : Cond.fieldLink RX1 52 "WrongedMeters$House" "metersChanged" "I" ∈ wsX1_fact := by decide +kernel
theorem mX1_fact_c61 : Cond.constant RX1 61 (-1000001) ∈ wsX1_fact := by decide +kernel
theorem hyX1_fact : yX1_fact.cls = RX1 ∧ yX1_fact.cls ≠ "java/lang/invoke/MethodHandle" ∧ yX1_fact.cls ≠ "java/lang/invoke/VarHandle" ∧ (parseMethodDescriptor yX1_fact.desc).map (fun d => d.parameters.length) = some 1 := by decide +kernel
set_option maxHeartbeats 3000000 in
set_option maxRecDepth 100000 in
theorem kX1_fact (l : Launch) (D : va_G) (cy : Nat → ClassId) (K : zK) (n : Nat) (ad : Nat → Nat) (hJ : zJ n ad) (b : Nat) (hO : zHouse K n ad b) (t : zM) (a1 : Int32)  : zI l yX1_fact wsX1_fact 1 D cy K n ad t [.ref (ad (b)), .int a1] (fun r t1 => r = rX1_fact b t a1 ∧ t1 = t) := by
  refine z_startI (cc := cX1_fact) (mL := 2) (ret := (some .int)) (own := RX1) rfl (by decide +kernel) rfl hJ (Nat.le_of_ble_eq_true rfl) ?_
  intro p e s m args below meth c A hA Q hQ C
  refine z_iload_n C 0 1 1 dX1_fact_0 rfl rfl ?_
  by_cases c1_1 : a1 = 0
  · refine z_tableIn C 1 72 dX1_fact_1 (by rw [c1_1]; decide +kernel) (by rw [c1_1]; decide +kernel) (off := 71) (by rw [c1_1]; decide +kernel) (by decide) ?_
    refine z_aload_n C 72 0 0 dX1_fact_72 rfl rfl ?_
    refine z_geti C 73 (b) 0 dX1_fact_73 hO.1 hO.2 mX1_fact_in1 rfl (by decide) mX1_fact_f15 (fun _ => rfl) ?_
    exact z_iret C 76 hA hQ rfl dX1_fact_76 ⟨((if_pos c1_1).trans rfl).symm, rfl⟩
  · by_cases c1_2 : a1 = 1
    · refine z_tableIn C 1 77 dX1_fact_1 (by rw [c1_2]; decide +kernel) (by rw [c1_2]; decide +kernel) (off := 76) (by rw [c1_2]; decide +kernel) (by decide) ?_
      refine z_aload_n C 77 0 0 dX1_fact_77 rfl rfl ?_
      refine z_geti C 78 (b) 1 dX1_fact_78 hO.1 hO.2 mX1_fact_in1 rfl (by decide) mX1_fact_f18 (fun _ => rfl) ?_
      exact z_iret C 81 hA hQ rfl dX1_fact_81 ⟨((if_neg c1_1).trans ((if_pos c1_2).trans rfl)).symm, rfl⟩
    · by_cases c1_3 : a1 = 2
      · refine z_tableIn C 1 82 dX1_fact_1 (by rw [c1_3]; decide +kernel) (by rw [c1_3]; decide +kernel) (off := 81) (by rw [c1_3]; decide +kernel) (by decide) ?_
        refine z_aload_n C 82 0 0 dX1_fact_82 rfl rfl ?_
        refine z_geti C 83 (b) 2 dX1_fact_83 hO.1 hO.2 mX1_fact_in1 rfl (by decide) mX1_fact_f21 (fun _ => rfl) ?_
        exact z_iret C 86 hA hQ rfl dX1_fact_86 ⟨((if_neg c1_1).trans ((if_neg c1_2).trans ((if_pos c1_3).trans rfl))).symm, rfl⟩
      · by_cases c1_4 : a1 = 3
        · refine z_tableIn C 1 87 dX1_fact_1 (by rw [c1_4]; decide +kernel) (by rw [c1_4]; decide +kernel) (off := 86) (by rw [c1_4]; decide +kernel) (by decide) ?_
          refine z_aload_n C 87 0 0 dX1_fact_87 rfl rfl ?_
          refine z_virtIe C 88 (As := []) (st := []) (id := b) (kX1_used l D cy K n ad hJ (b) hO t  ) dX1_fact_88 rfl gX1_fact_X1_used hyX1_used rfl (by decide) (by decide) hO.1 rfl hO.2 rfl rfl rfl (Nat.le_of_ble_eq_true rfl) ?_
          exact z_iret C 91 hA hQ rfl dX1_fact_91 ⟨((if_neg c1_1).trans ((if_neg c1_2).trans ((if_neg c1_3).trans ((if_pos c1_4).trans rfl)))).symm, rfl⟩
        · by_cases c1_6 : a1 = 4
          · refine z_tableIn C 1 92 dX1_fact_1 (by rw [c1_6]; decide +kernel) (by rw [c1_6]; decide +kernel) (off := 91) (by rw [c1_6]; decide +kernel) (by decide) ?_
            refine z_sipush C 92 (v := 1000) dX1_fact_92 (by decide +kernel) ?_
            refine z_aload_n C 95 0 0 dX1_fact_95 rfl rfl ?_
            refine z_geti C 96 (b) 6 dX1_fact_96 hO.1 hO.2 mX1_fact_in1 rfl (by decide) mX1_fact_f34 (fun _ => rfl) ?_
            refine z_iadd C 99 dX1_fact_99 ?_
            exact z_iret C 100 hA hQ rfl dX1_fact_100 ⟨((if_neg c1_1).trans ((if_neg c1_2).trans ((if_neg c1_3).trans ((if_neg c1_4).trans ((if_pos c1_6).trans rfl))))).symm, rfl⟩
          · by_cases c1_7 : a1 = 5
            · refine z_tableIn C 1 101 dX1_fact_1 (by rw [c1_7]; decide +kernel) (by rw [c1_7]; decide +kernel) (off := 100) (by rw [c1_7]; decide +kernel) (by decide) ?_
              refine z_aload_n C 101 0 0 dX1_fact_101 rfl rfl ?_
              refine z_geti C 102 (b) 4 dX1_fact_102 hO.1 hO.2 mX1_fact_in1 rfl (by decide) mX1_fact_f27 (fun _ => rfl) ?_
              exact z_iret C 105 hA hQ rfl dX1_fact_105 ⟨((if_neg c1_1).trans ((if_neg c1_2).trans ((if_neg c1_3).trans ((if_neg c1_4).trans ((if_neg c1_6).trans ((if_pos c1_7).trans rfl)))))).symm, rfl⟩
            · by_cases c1_8 : a1 = 6
              · refine z_tableIn C 1 106 dX1_fact_1 (by rw [c1_8]; decide +kernel) (by rw [c1_8]; decide +kernel) (off := 105) (by rw [c1_8]; decide +kernel) (by decide) ?_
                refine z_aload_n C 106 0 0 dX1_fact_106 rfl rfl ?_
                refine z_geti C 107 (b) 5 dX1_fact_107 hO.1 hO.2 mX1_fact_in1 rfl (by decide) mX1_fact_f30 (fun _ => rfl) ?_
                refine z_if_eq C 110 117 dX1_fact_110 (by decide) (fun c110_9 => ?_) (fun c110_9 => ?_)
                · refine z_iconst C 117 (v := 0) dX1_fact_117 (by decide +kernel) ?_
                  exact z_iret C 118 hA hQ rfl dX1_fact_118 ⟨((if_neg c1_1).trans ((if_neg c1_2).trans ((if_neg c1_3).trans ((if_neg c1_4).trans ((if_neg c1_6).trans ((if_neg c1_7).trans ((if_pos c1_8).trans ((if_pos c110_9).trans rfl)))))))).symm, rfl⟩
                · refine z_iconst C 113 (v := 1) dX1_fact_113 (by decide +kernel) ?_
                  refine z_goto C 114 118 dX1_fact_114 (by decide) ?_
                  exact z_iret C 118 hA hQ rfl dX1_fact_118 ⟨((if_neg c1_1).trans ((if_neg c1_2).trans ((if_neg c1_3).trans ((if_neg c1_4).trans ((if_neg c1_6).trans ((if_neg c1_7).trans ((if_pos c1_8).trans ((if_neg c110_9).trans rfl)))))))).symm, rfl⟩
              · by_cases c1_10 : a1 = 7
                · refine z_tableIn C 1 119 dX1_fact_1 (by rw [c1_10]; decide +kernel) (by rw [c1_10]; decide +kernel) (off := 118) (by rw [c1_10]; decide +kernel) (by decide) ?_
                  refine z_aload_n C 119 0 0 dX1_fact_119 rfl rfl ?_
                  refine z_geti C 120 (b) 7 dX1_fact_120 hO.1 hO.2 mX1_fact_in1 rfl (by decide) mX1_fact_f9 (fun _ => rfl) ?_
                  refine z_iconst C 123 (v := (-1)) dX1_fact_123 (by decide +kernel) ?_
                  refine z_icmp_ne C 124 132 dX1_fact_124 (by decide) (fun c124_11 => ?_) (fun c124_11 => ?_)
                  · refine z_aload_n C 132 0 0 dX1_fact_132 rfl rfl ?_
                    refine z_geti C 133 (b) 7 dX1_fact_133 hO.1 hO.2 mX1_fact_in1 rfl (by decide) mX1_fact_f9 (fun _ => rfl) ?_
                    exact z_iret C 136 hA hQ rfl dX1_fact_136 ⟨((if_neg c1_1).trans ((if_neg c1_2).trans ((if_neg c1_3).trans ((if_neg c1_4).trans ((if_neg c1_6).trans ((if_neg c1_7).trans ((if_neg c1_8).trans ((if_pos c1_10).trans ((if_neg c124_11).trans rfl))))))))).symm, rfl⟩
                  · refine z_ldc C 127 (v := (-1000004)) dX1_fact_127 mX1_fact_c60 ?_
                    refine z_goto C 129 136 dX1_fact_129 (by decide) ?_
                    exact z_iret C 136 hA hQ rfl dX1_fact_136 ⟨((if_neg c1_1).trans ((if_neg c1_2).trans ((if_neg c1_3).trans ((if_neg c1_4).trans ((if_neg c1_6).trans ((if_neg c1_7).trans ((if_neg c1_8).trans ((if_pos c1_10).trans ((if_pos c124_11).trans rfl))))))))).symm, rfl⟩
                · by_cases c1_12 : a1 = 8
                  · refine z_tableIn C 1 137 dX1_fact_1 (by rw [c1_12]; decide +kernel) (by rw [c1_12]; decide +kernel) (off := 136) (by rw [c1_12]; decide +kernel) (by decide) ?_
                    refine z_aload_n C 137 0 0 dX1_fact_137 rfl rfl ?_
                    refine z_geti C 138 (b) 8 dX1_fact_138 hO.1 hO.2 mX1_fact_in1 rfl (by decide) mX1_fact_f37 (fun _ => rfl) ?_
                    exact z_iret C 141 hA hQ rfl dX1_fact_141 ⟨((if_neg c1_1).trans ((if_neg c1_2).trans ((if_neg c1_3).trans ((if_neg c1_4).trans ((if_neg c1_6).trans ((if_neg c1_7).trans ((if_neg c1_8).trans ((if_neg c1_10).trans ((if_pos c1_12).trans rfl))))))))).symm, rfl⟩
                  · by_cases c1_13 : a1 = 9
                    · refine z_tableIn C 1 142 dX1_fact_1 (by rw [c1_13]; decide +kernel) (by rw [c1_13]; decide +kernel) (off := 141) (by rw [c1_13]; decide +kernel) (by decide) ?_
                      refine z_aload_n C 142 0 0 dX1_fact_142 rfl rfl ?_
                      refine z_geti C 143 (b) 9 dX1_fact_143 hO.1 hO.2 mX1_fact_in1 rfl (by decide) mX1_fact_f40 (fun _ => rfl) ?_
                      exact z_iret C 146 hA hQ rfl dX1_fact_146 ⟨((if_neg c1_1).trans ((if_neg c1_2).trans ((if_neg c1_3).trans ((if_neg c1_4).trans ((if_neg c1_6).trans ((if_neg c1_7).trans ((if_neg c1_8).trans ((if_neg c1_10).trans ((if_neg c1_12).trans ((if_pos c1_13).trans rfl)))))))))).symm, rfl⟩
                    · by_cases c1_14 : a1 = 10
                      · refine z_tableIn C 1 147 dX1_fact_1 (by rw [c1_14]; decide +kernel) (by rw [c1_14]; decide +kernel) (off := 146) (by rw [c1_14]; decide +kernel) (by decide) ?_
                        refine z_aload_n C 147 0 0 dX1_fact_147 rfl rfl ?_
                        refine z_geti C 148 (b) 10 dX1_fact_148 hO.1 hO.2 mX1_fact_in1 rfl (by decide) mX1_fact_f43 (fun _ => rfl) ?_
                        exact z_iret C 151 hA hQ rfl dX1_fact_151 ⟨((if_neg c1_1).trans ((if_neg c1_2).trans ((if_neg c1_3).trans ((if_neg c1_4).trans ((if_neg c1_6).trans ((if_neg c1_7).trans ((if_neg c1_8).trans ((if_neg c1_10).trans ((if_neg c1_12).trans ((if_neg c1_13).trans ((if_pos c1_14).trans rfl))))))))))).symm, rfl⟩
                      · by_cases c1_15 : a1 = 11
                        · refine z_tableIn C 1 152 dX1_fact_1 (by rw [c1_15]; decide +kernel) (by rw [c1_15]; decide +kernel) (off := 151) (by rw [c1_15]; decide +kernel) (by decide) ?_
                          refine z_aload_n C 152 0 0 dX1_fact_152 rfl rfl ?_
                          refine z_geti C 153 (b) 11 dX1_fact_153 hO.1 hO.2 mX1_fact_in1 rfl (by decide) mX1_fact_f46 (fun _ => rfl) ?_
                          exact z_iret C 156 hA hQ rfl dX1_fact_156 ⟨((if_neg c1_1).trans ((if_neg c1_2).trans ((if_neg c1_3).trans ((if_neg c1_4).trans ((if_neg c1_6).trans ((if_neg c1_7).trans ((if_neg c1_8).trans ((if_neg c1_10).trans ((if_neg c1_12).trans ((if_neg c1_13).trans ((if_neg c1_14).trans ((if_pos c1_15).trans rfl)))))))))))).symm, rfl⟩
                        · by_cases c1_16 : a1 = 12
                          · refine z_tableIn C 1 157 dX1_fact_1 (by rw [c1_16]; decide +kernel) (by rw [c1_16]; decide +kernel) (off := 156) (by rw [c1_16]; decide +kernel) (by decide) ?_
                            refine z_aload_n C 157 0 0 dX1_fact_157 rfl rfl ?_
                            refine z_geti C 158 (b) 12 dX1_fact_158 hO.1 hO.2 mX1_fact_in1 rfl (by decide) mX1_fact_f49 (fun _ => rfl) ?_
                            exact z_iret C 161 hA hQ rfl dX1_fact_161 ⟨((if_neg c1_1).trans ((if_neg c1_2).trans ((if_neg c1_3).trans ((if_neg c1_4).trans ((if_neg c1_6).trans ((if_neg c1_7).trans ((if_neg c1_8).trans ((if_neg c1_10).trans ((if_neg c1_12).trans ((if_neg c1_13).trans ((if_neg c1_14).trans ((if_neg c1_15).trans ((if_pos c1_16).trans rfl))))))))))))).symm, rfl⟩
                          · by_cases c1_17 : a1 = 13
                            · refine z_tableIn C 1 162 dX1_fact_1 (by rw [c1_17]; decide +kernel) (by rw [c1_17]; decide +kernel) (off := 161) (by rw [c1_17]; decide +kernel) (by decide) ?_
                              refine z_aload_n C 162 0 0 dX1_fact_162 rfl rfl ?_
                              refine z_geti C 163 (b) 13 dX1_fact_163 hO.1 hO.2 mX1_fact_in1 rfl (by decide) mX1_fact_f52 (fun _ => rfl) ?_
                              exact z_iret C 166 hA hQ rfl dX1_fact_166 ⟨((if_neg c1_1).trans ((if_neg c1_2).trans ((if_neg c1_3).trans ((if_neg c1_4).trans ((if_neg c1_6).trans ((if_neg c1_7).trans ((if_neg c1_8).trans ((if_neg c1_10).trans ((if_neg c1_12).trans ((if_neg c1_13).trans ((if_neg c1_14).trans ((if_neg c1_15).trans ((if_neg c1_16).trans ((if_pos c1_17).trans rfl)))))))))))))).symm, rfl⟩
                            · have qc1_1 := lv_neT (a := 0) c1_1 rfl
                              have qc1_2 := lv_neT (a := 1) c1_2 rfl
                              have qc1_3 := lv_neT (a := 2) c1_3 rfl
                              have qc1_4 := lv_neT (a := 3) c1_4 rfl
                              have qc1_6 := lv_neT (a := 4) c1_6 rfl
                              have qc1_7 := lv_neT (a := 5) c1_7 rfl
                              have qc1_8 := lv_neT (a := 6) c1_8 rfl
                              have qc1_10 := lv_neT (a := 7) c1_10 rfl
                              have qc1_12 := lv_neT (a := 8) c1_12 rfl
                              have qc1_13 := lv_neT (a := 9) c1_13 rfl
                              have qc1_14 := lv_neT (a := 10) c1_14 rfl
                              have qc1_15 := lv_neT (a := 11) c1_15 rfl
                              have qc1_16 := lv_neT (a := 12) c1_16 rfl
                              have qc1_17 := lv_neT (a := 13) c1_17 rfl
                              refine z_tableOut C 1 167 dX1_fact_1 (by omega) (by decide) ?_
                              refine z_ldc C 167 (v := (-1000001)) dX1_fact_167 mX1_fact_c61 ?_
                              exact z_iret C 169 hA hQ rfl dX1_fact_169 ⟨((if_neg c1_1).trans ((if_neg c1_2).trans ((if_neg c1_3).trans ((if_neg c1_4).trans ((if_neg c1_6).trans ((if_neg c1_7).trans ((if_neg c1_8).trans ((if_neg c1_10).trans ((if_neg c1_12).trans ((if_neg c1_13).trans ((if_neg c1_14).trans ((if_neg c1_15).trans ((if_neg c1_16).trans ((if_neg c1_17).trans rfl)))))))))))))).symm, rfl⟩
