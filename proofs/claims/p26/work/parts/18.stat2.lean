def rX5_putSetting (b : Nat) (t : zM) (a1 : Int32) (a2 : Int32) : Int32 := (if a1 < 0 then (-1000001) else (if 4 ≤ a1 then (-1000001) else (if a2 < (zLeast a1.toNatClampNeg) then (-1000001) else (if a2 ≤ (zMost a1.toNatClampNeg) then (t (b + 37) (a1).toNatClampNeg) else (-1000001)))))
def sX5_putSetting (b : Nat) (t : zM) (a1 : Int32) (a2 : Int32) : zM := (if a1 < 0 then t else (if 4 ≤ a1 then t else (if a2 < (zLeast a1.toNatClampNeg) then t else (if a2 ≤ (zMost a1.toNatClampNeg) then (zset t (b + 37) (a1.toNatClampNeg) a2) else t))))
theorem mX5_putSetting_c100 : Cond.constant RX5 100 (-1000001) ∈ wsX5_putSetting := by decide +kernel
theorem mX5_putSetting_f30 : Cond.fieldLink RX5 30 "WrongedMeters$Town" "settings" "[I" ∈ wsX5_putSetting := by decide +kernel
set_option maxRecDepth 20000 in
theorem mX5_putSetting_in5 : ∀ w ∈ u_ws RX5 TX5 13, w ∈ wsX5_putSetting := by decide +kernel
theorem hyX5_putSetting : yX5_putSetting.cls = RX5 ∧ yX5_putSetting.cls ≠ "java/lang/invoke/MethodHandle" ∧ yX5_putSetting.cls ≠ "java/lang/invoke/VarHandle" ∧ (parseMethodDescriptor yX5_putSetting.desc).map (fun d => d.parameters.length) = some 2 := by decide +kernel
set_option maxHeartbeats 3000000 in
set_option maxRecDepth 100000 in
theorem kX5_putSetting (l : Launch) (D : va_G) (cy : Nat → ClassId) (K : zK) (n : Nat) (ad : Nat → Nat) (hJ : zJ n ad) (b : Nat) (hO : zTown cy K n ad b) (t : zM) (a1 : Int32) (a2 : Int32)  : zIS l yX5_putSetting wsX5_putSetting 0 D cy K n ad t [.ref (ad (b)), .int a1, .int a2] (fun r t1 => r = rX5_putSetting b t a1 a2 ∧ t1 = sX5_putSetting b t a1 a2) := by
  refine z_startIS (cc := cX5_putSetting) (mL := 4) (ret := (some .int)) (own := RX5) rfl (by decide +kernel) rfl hJ (Nat.le_of_ble_eq_true rfl) ?_
  intro p e s m args below meth c A hA Q hQ C
  obtain ⟨C, ⟨r1, hz1, ht1⟩, ⟨r2, hz2, ht2⟩, -⟩ := C
  refine z_iload_n C 0 1 1 dX5_putSetting_0 rfl rfl ?_
  refine z_if_lt C 1 27 dX5_putSetting_1 (by decide) (fun c1_1 => ?_) (fun c1_1 => ?_)
  · refine z_ldc C 27 (v := (-1000001)) dX5_putSetting_27 mX5_putSetting_c100 ?_
    exact z_iret C 29 hA hQ rfl dX5_putSetting_29 ⟨((if_pos c1_1).trans rfl).symm, ((if_pos c1_1).trans rfl).symm⟩
  · refine z_iload_n C 4 1 1 dX5_putSetting_4 rfl rfl ?_
    refine z_iconst C 5 (v := 4) dX5_putSetting_5 (by decide +kernel) ?_
    refine z_icmp_ge C 6 27 dX5_putSetting_6 (by decide) (fun c6_2 => ?_) (fun c6_2 => ?_)
    · refine z_ldc C 27 (v := (-1000001)) dX5_putSetting_27 mX5_putSetting_c100 ?_
      exact z_iret C 29 hA hQ rfl dX5_putSetting_29 ⟨((if_neg c1_1).trans ((if_pos c6_2).trans rfl)).symm, ((if_neg c1_1).trans ((if_pos c6_2).trans rfl)).symm⟩
    · refine z_iload_n C 9 2 2 dX5_putSetting_9 rfl rfl ?_
      refine z_getsN C 10 (r := r1) hz1 dX5_putSetting_10 nst_f5_145 ?_
      refine z_iload_n C 13 1 1 dX5_putSetting_13 rfl rfl ?_
      refine z_tald C 14 ht1 dX5_putSetting_14 (zvp1 ‹¬ a1 < 0› ‹¬ 4 ≤ a1› (by decide)) ?_
      refine z_icmp_lt C 15 27 dX5_putSetting_15 (by decide) (fun c15_3 => ?_) (fun c15_3 => ?_)
      · refine z_ldc C 27 (v := (-1000001)) dX5_putSetting_27 mX5_putSetting_c100 ?_
        exact z_iret C 29 hA hQ rfl dX5_putSetting_29 ⟨((if_neg c1_1).trans ((if_neg c6_2).trans ((if_pos c15_3).trans rfl))).symm, ((if_neg c1_1).trans ((if_neg c6_2).trans ((if_pos c15_3).trans rfl))).symm⟩
      · refine z_iload_n C 18 2 2 dX5_putSetting_18 rfl rfl ?_
        refine z_getsN C 19 (r := r2) hz2 dX5_putSetting_19 nst_f5_148 ?_
        refine z_iload_n C 22 1 1 dX5_putSetting_22 rfl rfl ?_
        refine z_tald C 23 ht2 dX5_putSetting_23 (zvp1 ‹¬ a1 < 0› ‹¬ 4 ≤ a1› (by decide)) ?_
        refine z_icmp_le C 24 30 dX5_putSetting_24 (by decide) (fun c24_4 => ?_) (fun c24_4 => ?_)
        · refine z_aload_n C 30 0 0 dX5_putSetting_30 rfl rfl ?_
          refine z_getr C 31 (a9 := ad (b + 37)) (b) 3 dX5_putSetting_31 hO.h0 hO.e0 mX5_putSetting_in5 rfl (by decide) mX5_putSetting_f30 (fun _ => rfl) ?_
          refine z_iload_n C 34 1 1 dX5_putSetting_34 rfl rfl ?_
          refine z_iald C 35 (b + 37) dX5_putSetting_35 hO.h37 hO.e37 (zvp1 ‹¬ a1 < 0› ‹¬ 4 ≤ a1› (by decide)) ?_
          refine z_istore_n C 36 3 ([(3, .int (t (b + 37) (a1).toNatClampNeg)), (0, .ref (ad (b))), (1, .int a1), (2, .int a2)]) dX5_putSetting_36 rfl (by decide) rfl ?_
          refine z_aload_n C 37 0 1 dX5_putSetting_37 rfl rfl ?_
          refine z_getr C 38 (a9 := ad (b + 37)) (b) 3 dX5_putSetting_38 hO.h0 hO.e0 mX5_putSetting_in5 rfl (by decide) mX5_putSetting_f30 (fun _ => rfl) ?_
          refine z_iload_n C 41 1 2 dX5_putSetting_41 rfl rfl ?_
          refine z_iload_n C 42 2 3 dX5_putSetting_42 rfl rfl ?_
          refine z_iast C 43 (b + 37) dX5_putSetting_43 hO.h37 hO.e37 (zvp1 ‹¬ a1 < 0› ‹¬ 4 ≤ a1› (by decide)) ?_
          refine z_iload_n C 44 3 0 dX5_putSetting_44 rfl rfl ?_
          exact z_iret C 45 hA hQ rfl dX5_putSetting_45 ⟨((if_neg c1_1).trans ((if_neg c6_2).trans ((if_neg c15_3).trans ((if_pos c24_4).trans rfl)))).symm, ((if_neg c1_1).trans ((if_neg c6_2).trans ((if_neg c15_3).trans ((if_pos c24_4).trans rfl)))).symm⟩
        · refine z_ldc C 27 (v := (-1000001)) dX5_putSetting_27 mX5_putSetting_c100 ?_
          exact z_iret C 29 hA hQ rfl dX5_putSetting_29 ⟨((if_neg c1_1).trans ((if_neg c6_2).trans ((if_neg c15_3).trans ((if_neg c24_4).trans rfl)))).symm, ((if_neg c1_1).trans ((if_neg c6_2).trans ((if_neg c15_3).trans ((if_neg c24_4).trans rfl)))).symm⟩
def rX6_set (t : zM) (a1 : Int32) (a2 : Int32) : Int32 := (rX6_kept (sX5_putSetting (0) (sX0_record t (0)) a1 a2) (rX5_putSetting (0) (sX0_record t (0)) a1 a2))
def sX6_set (t : zM) (a1 : Int32) (a2 : Int32) : zM := (sX6_kept (sX5_putSetting (0) (sX0_record t (0)) a1 a2) (rX5_putSetting (0) (sX0_record t (0)) a1 a2))
theorem mX6_set_f22 : Cond.fieldLink RX6 22 "WrongedMeters" "history" "LWrongedMeters$History;" ∈ wsX6_set := by decide +kernel
set_option maxRecDepth 20000 in
theorem mX6_set_in6 : ∀ w ∈ u_ws RX6 TX6 4, w ∈ wsX6_set := by decide +kernel
theorem mX6_set_f10 : Cond.fieldLink RX6 10 "WrongedMeters" "town" "LWrongedMeters$Town;" ∈ wsX6_set := by decide +kernel
theorem hyX6_set : yX6_set.cls = RX6 ∧ yX6_set.cls ≠ "java/lang/invoke/MethodHandle" ∧ yX6_set.cls ≠ "java/lang/invoke/VarHandle" ∧ (parseMethodDescriptor yX6_set.desc).map (fun d => d.parameters.length) = some 2 := by decide +kernel
set_option maxHeartbeats 3000000 in
set_option maxRecDepth 100000 in
theorem kX6_set (l : Launch) (D : va_G) (cy : Nat → ClassId) (K : zK) (n : Nat) (ad : Nat → Nat) (hJ : zJ n ad) (hO : zTop cy K n ad) (t : zM) (a1 : Int32) (a2 : Int32) (hG : zGd t) : zIS l yX6_set wsX6_set 4 D cy K n ad t [.ref (ad (270)), .int a1, .int a2] (fun r t1 => r = rX6_set t a1 a2 ∧ t1 = sX6_set t a1 a2) := by
  refine z_startIS (cc := cX6_set) (mL := 3) (ret := (some .int)) (own := RX6) rfl (by decide +kernel) rfl hJ (Nat.le_of_ble_eq_true rfl) ?_
  intro p e s m args below meth c A hA Q hQ C
  obtain ⟨C, hZ⟩ := C
  refine z_aload_n C 0 0 0 dX6_set_0 rfl rfl ?_
  refine z_getr C 1 (a9 := ad (266)) (270) 2 dX6_set_1 hO.h0 hO.e0 mX6_set_in6 rfl (by decide) mX6_set_f22 (fun _ => rfl) ?_
  refine z_aload_n C 4 0 0 dX6_set_4 rfl rfl ?_
  refine z_getr C 5 (a9 := ad (0)) (270) 0 dX6_set_5 hO.h0 hO.e0 mX6_set_in6 rfl (by decide) mX6_set_f10 (fun _ => rfl) ?_
  refine z_virtVe C 8 (As := [.ref (ad (0))]) (st := []) (id := 266) (kX0_record l D cy K n ad hJ hO.hi t (0) hO.tn (by decide) hG.fs hG.bits) dX6_set_8 rfl gX6_set_X0_record hyX0_record rfl (by decide) (by decide) hO.hi.h0 rfl hO.hi.e0 rfl rfl rfl (Nat.le_of_ble_eq_true rfl) ?_
  refine z_aload_n C 11 0 0 dX6_set_11 rfl rfl ?_
  refine z_aload_n C 12 0 0 dX6_set_12 rfl rfl ?_
  refine z_getr C 13 (a9 := ad (0)) (270) 0 dX6_set_13 hO.h0 hO.e0 mX6_set_in6 rfl (by decide) mX6_set_f10 (fun _ => rfl) ?_
  refine z_iload_n C 16 1 1 dX6_set_16 rfl rfl ?_
  refine z_iload_n C 17 2 2 dX6_set_17 rfl rfl ?_
  refine z_virtISe C hZ 18 (As := [.int a1, .int a2]) (st := [.ref (ad (270))]) (id := 0) (kX5_putSetting l D cy K n ad hJ (0) hO.tn (sX0_record t (0)) a1 a2 ) dX6_set_18 rfl gX6_set_X5_putSetting hyX5_putSetting rfl (by decide) (by decide) hO.tn.h0 rfl hO.tn.e0 rfl rfl rfl (Nat.le_of_ble_eq_true rfl) ?_
  refine z_virtIe C 21 (As := [.int (rX5_putSetting (0) (sX0_record t (0)) a1 a2)]) (st := []) (id := 270) (kX6_kept l D cy K n ad hJ hO (sX5_putSetting (0) (sX0_record t (0)) a1 a2) (rX5_putSetting (0) (sX0_record t (0)) a1 a2) ) dX6_set_21 rfl gX6_set_X6_kept hyX6_kept rfl (by decide) (by decide) hO.h0 rfl hO.e0 rfl rfl rfl (Nat.le_of_ble_eq_true rfl) ?_
  exact z_iret C 24 hA hQ rfl dX6_set_24 ⟨rfl, rfl⟩
