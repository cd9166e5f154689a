/-- the bits of a mean -/
def zmb (x y : Int32) : Int32 := (FP.fdiv (FP.i2f x) (FP.i2f y)).toInt32
def rX6_mean (t : zM)  : Int32 := (if 0 < (t (0) 4) then (zmb (rX5_balancesWithoutSigns (0) t) (t (0) 4)) else (-1000004))
theorem mX6_mean_f10 : Cond.fieldLink RX6 10 "WrongedMeters" "town" "LWrongedMeters$Town;" ∈ wsX6_mean := by decide +kernel
set_option maxRecDepth 20000 in
theorem mX6_mean_in6 : ∀ w ∈ u_ws RX6 TX6 4, w ∈ wsX6_mean := by decide +kernel
set_option maxRecDepth 20000 in
theorem mX6_mean_in5 : ∀ w ∈ u_ws RX5 TX5 13, w ∈ wsX6_mean := by decide +kernel
theorem mX6_mean_c79 : Cond.constant RX6 79 (-1000004) ∈ wsX6_mean := by decide +kernel
theorem hyX6_mean : yX6_mean.cls = RX6 ∧ yX6_mean.cls ≠ "java/lang/invoke/MethodHandle" ∧ yX6_mean.cls ≠ "java/lang/invoke/VarHandle" ∧ (parseMethodDescriptor yX6_mean.desc).map (fun d => d.parameters.length) = some 0 := by decide +kernel
set_option maxHeartbeats 3000000 in
set_option maxRecDepth 100000 in
theorem kX6_mean (l : Launch) (D : va_G) (cy : Nat → ClassId) (K : zK) (n : Nat) (ad : Nat → Nat) (hJ : zJ n ad) (hO : zTop cy K n ad) (t : zM) (Sn Cn : Nat) (hS : Sn ≤ 2400) (eS : rX5_balancesWithoutSigns 0 t = nI Sn) (hC : Cn ≤ 24) (eC : t 0 4 = nI Cn) : zI l yX6_mean wsX6_mean 2 D cy K n ad t [.ref (ad (270))] (fun r t1 => r = rX6_mean t ∧ t1 = t) := by
  refine z_startI (cc := cX6_mean) (mL := 1) (ret := (some .int)) (own := RX6) rfl (by decide +kernel) rfl hJ (Nat.le_of_ble_eq_true rfl) ?_
  intro p e s m args below meth c A hA Q hQ C
  refine z_aload_n C 0 0 0 dX6_mean_0 rfl rfl ?_
  refine z_getr C 1 (a9 := ad (0)) (270) 0 dX6_mean_1 hO.h0 hO.e0 mX6_mean_in6 rfl (by decide) mX6_mean_f10 (fun _ => rfl) ?_
  refine z_getiN C 4 (0) 4 dX6_mean_4 hO.tn.h0 hO.tn.e0 mX6_mean_in5 rfl (by decide) nst_f6_134 (fun _ => rfl) ?_
  refine z_if_gt C 7 13 dX6_mean_7 (by decide) (fun c7_1 => ?_) (fun c7_1 => ?_)
  · refine z_aload_n C 13 0 0 dX6_mean_13 rfl rfl ?_
    refine z_getr C 14 (a9 := ad (0)) (270) 0 dX6_mean_14 hO.h0 hO.e0 mX6_mean_in6 rfl (by decide) mX6_mean_f10 (fun _ => rfl) ?_
    refine z_virtIe C 17 (As := []) (st := []) (id := 0) (kX5_balancesWithoutSigns l D cy K n ad hJ (0) hO.tn t  ) dX6_mean_17 rfl gX6_mean_X5_balancesWithoutSigns hyX5_balancesWithoutSigns rfl (by decide) (by decide) hO.tn.h0 rfl hO.tn.e0 rfl rfl rfl (Nat.le_of_ble_eq_true rfl) ?_
    refine z_i2f C 20 dX6_mean_20 ?_
    refine z_aload_n C 21 0 0 dX6_mean_21 rfl rfl ?_
    refine z_getr C 22 (a9 := ad (0)) (270) 0 dX6_mean_22 hO.h0 hO.e0 mX6_mean_in6 rfl (by decide) mX6_mean_f10 (fun _ => rfl) ?_
    refine z_getiN C 25 (0) 4 dX6_mean_25 hO.tn.h0 hO.tn.e0 mX6_mean_in5 rfl (by decide) nst_f6_134 (fun _ => rfl) ?_
    refine z_i2f C 28 dX6_mean_28 ?_
    have h9 : (0 : Int32) < t 0 4 := by assumption
    rw [eC] at h9
    have h8 : 0 < Cn := zlt (a := 0) (by decide) (by omega) h9
    obtain ⟨b9, hb9, eb9⟩ := zf_mean (S := Sn) (C := Cn) (by omega) h8 (by omega)
    have hf9 : FP.fdiv (FP.i2f (rX5_balancesWithoutSigns (0) t)) (FP.i2f (t (0) 4)) = UInt32.ofNat b9 := by rw [eS, eC]; exact eb9
    refine z_fdiv C 29 dX6_mean_29 (by rw [hf9]; exact zf_nn (by omega)) ?_
    refine z_cast (st2 := [.float (UInt32.ofNat b9)]) (by rw [hf9]) ?_
    refine z_statIe C 30 (As := [.float (UInt32.ofNat b9)]) (st := []) (kX6_bitsOf l D cy K n ad hJ t b9 hb9) dX6_mean_30 rfl gX6_mean_X6_bitsOf hyX6_bitsOf rfl (by decide) (by decide) rfl rfl (Nat.le_of_ble_eq_true rfl) ?_
    refine z_nv (zmb (rX5_balancesWithoutSigns (0) t) (t (0) 4)) (by unfold zmb; rw [hf9]; rfl) ?_
    exact z_iret C 33 hA hQ rfl dX6_mean_33 ⟨((if_pos c7_1).trans rfl).symm, rfl⟩
  · refine z_ldc C 10 (v := (-1000004)) dX6_mean_10 mX6_mean_c79 ?_
    exact z_iret C 12 hA hQ rfl dX6_mean_12 ⟨((if_neg c7_1).trans rfl).symm, rfl⟩
