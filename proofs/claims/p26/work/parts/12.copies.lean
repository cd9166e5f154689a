def zBits (b : Nat) (t : zM) : Prop := ∀ k, k < 24 → t (b + 2 + k) 5 = 0 ∨ t (b + 2 + k) 5 = 1
theorem zBits_fr {b : Nat} {t t1 : zM} (h : zBits b t) (e : ∀ k, k < 24 → t1 (b + 2 + k) = t (b + 2 + k)) : zBits b t1 := fun k hk => by
  rw [e k hk]
  exact h k hk
def zFs (x : Int32) : Prop := ∃ w, w < 5 ∧ x = nI w
theorem zFs.c {x : Int32} (h : zFs x) : x.toNatClampNeg < 5 ∧ x = nI x.toNatClampNeg := by
  obtain ⟨w, hw, rfl⟩ := h
  rw [nI_clamp (by omega)]
  exact ⟨hw, rfl⟩
theorem zFs.back {x : Int32} (h : zFs x) : zFs (zrem (x + 5 - 1) 5) := by
  obtain ⟨w, hw, rfl⟩ := h
  refine ⟨(w + 4) % 5, by omega, ?_⟩
  rw [show nI w + 5 = nI (w + 5) from nI_add w 5, show nI (w + 5) - 1 = nI (w + 4) from nI_sub (a := w + 5) (b := 1) (by omega)]
  exact zrem_n (b := 5) (by omega) (by decide) (by decide)
def sX1_copyFrom (b : Nat) (t : zM) (b2 : Nat) : zM := (zset (zset (zset (zset (zset (zset (zset (zset (zset (zset (zset (zset (zset (zset t (b) 0 (t (b2) 0)) (b) 1 (t (b2) 1)) (b) 2 (t (b2) 2)) (b) 3 (t (b2) 3)) (b) 4 (t (b2) 4)) (b) 5 (t (b2) 5)) (b) 6 (t (b2) 6)) (b) 7 (t (b2) 7)) (b) 8 (t (b2) 8)) (b) 9 (t (b2) 9)) (b) 10 (t (b2) 10)) (b) 11 (t (b2) 11)) (b) 12 (t (b2) 12)) (b) 13 (t (b2) 13))
theorem mX1_copyFrom_f15 : Cond.fieldLink RX1 15 "WrongedMeters$House" "street" "I" ∈ wsX1_copyFrom := by decide +kernel
set_option maxRecDepth 20000 in
theorem mX1_copyFrom_in1 : ∀ w ∈ u_ws RX1 TX1 14, w ∈ wsX1_copyFrom := by decide +kernel
theorem mX1_copyFrom_f18 : Cond.fieldLink RX1 18 "WrongedMeters$House" "place" "I" ∈ wsX1_copyFrom := by decide +kernel
theorem mX1_copyFrom_f21 : Cond.fieldLink RX1 21 "WrongedMeters$House" "dial" "I" ∈ wsX1_copyFrom := by decide +kernel
theorem mX1_copyFrom_f24 : Cond.fieldLink RX1 24 "WrongedMeters$House" "dialBefore" "I" ∈ wsX1_copyFrom := by decide +kernel
theorem mX1_copyFrom_f27 : Cond.fieldLink RX1 27 "WrongedMeters$House" "flow" "I" ∈ wsX1_copyFrom := by decide +kernel
theorem mX1_copyFrom_f30 : Cond.fieldLink RX1 30 "WrongedMeters$House" "isLocked" "Z" ∈ wsX1_copyFrom := by decide +kernel
theorem mX1_copyFrom_f34 : Cond.fieldLink RX1 34 "WrongedMeters$House" "balance" "I" ∈ wsX1_copyFrom := by decide +kernel
theorem mX1_copyFrom_f9 : Cond.fieldLink RX1 9 "WrongedMeters$House" "latestDay" "I" ∈ wsX1_copyFrom := by decide +kernel
theorem mX1_copyFrom_f37 : Cond.fieldLink RX1 37 "WrongedMeters$House" "readings" "I" ∈ wsX1_copyFrom := by decide +kernel
theorem mX1_copyFrom_f40 : Cond.fieldLink RX1 40 "WrongedMeters$House" "units" "I" ∈ wsX1_copyFrom := by decide +kernel
theorem mX1_copyFrom_f43 : Cond.fieldLink RX1 43 "WrongedMeters$House" "timesHouseWronged" "I" ∈ wsX1_copyFrom := by decide +kernel
theorem mX1_copyFrom_f46 : Cond.fieldLink RX1 46 "WrongedMeters$House" "timesCompanyWronged" "I" ∈ wsX1_copyFrom := by decide +kernel
theorem mX1_copyFrom_f49 : Cond.fieldLink RX1 49 "WrongedMeters$House" "refunds" "I" ∈ wsX1_copyFrom := by decide +kernel
theorem mX1_copyFrom_f52 : Cond.fieldLink RX1 52 "WrongedMeters$House" "metersChanged" "I" ∈ wsX1_copyFrom := by decide +kernel
theorem hyX1_copyFrom : yX1_copyFrom.cls = RX1 ∧ yX1_copyFrom.cls ≠ "java/lang/invoke/MethodHandle" ∧ yX1_copyFrom.cls ≠ "java/lang/invoke/VarHandle" ∧ (parseMethodDescriptor yX1_copyFrom.desc).map (fun d => d.parameters.length) = some 1 := by decide +kernel
set_option maxHeartbeats 3000000 in
set_option maxRecDepth 100000 in
theorem kX1_copyFrom (l : Launch) (D : va_G) (cy : Nat → ClassId) (K : zK) (n : Nat) (ad : Nat → Nat) (hJ : zJ n ad) (b : Nat) (hO : zHouse K n ad b) (t : zM) (b2 : Nat) (hO2 : zHouse K n ad b2) (hne : b2 ≠ b) (hbit : t b2 5 = 0 ∨ t b2 5 = 1) : zV l yX1_copyFrom wsX1_copyFrom 0 D cy K n ad t [.ref (ad (b)), .ref (ad (b2))] (fun t1 => t1 = sX1_copyFrom b t b2) := by
  refine z_startV (cc := cX1_copyFrom) (mL := 2) (ret := none) (own := RX1) rfl (by decide +kernel) rfl hJ (Nat.le_of_ble_eq_true rfl) ?_
  intro p e s m args below meth c A hA Q hQ C
  refine z_aload_n C 0 0 0 dX1_copyFrom_0 rfl rfl ?_
  refine z_aload_n C 1 1 1 dX1_copyFrom_1 rfl rfl ?_
  refine z_geti C 2 (b2) 0 dX1_copyFrom_2 hO2.1 hO2.2 mX1_copyFrom_in1 rfl (by decide) mX1_copyFrom_f15 (fun _ => rfl) ?_
  refine z_put C 5 (ty := .int) (b) 0 dX1_copyFrom_5 hO.1 hO.2 mX1_copyFrom_in1 tyX1 tyX1_ok nmX1 rfl (by decide) mX1_copyFrom_f15 rfl (by decide +kernel) (vp_nar_int _) (zfit_i _) (fun _ => Nat.le_of_ble_eq_true rfl) (fun _ _ => rfl) ?_
  refine z_aload_n C 8 0 0 dX1_copyFrom_8 rfl rfl ?_
  refine z_aload_n C 9 1 1 dX1_copyFrom_9 rfl rfl ?_
  refine z_geti C 10 (b2) 1 dX1_copyFrom_10 hO2.1 hO2.2 mX1_copyFrom_in1 rfl (by decide) mX1_copyFrom_f18 (fun _ => rfl) ?_
  refine z_nv (t (b2) 1) ((zset_idk _ _ _ _ (by omega)).trans rfl) ?_
  refine z_put C 13 (ty := .int) (b) 1 dX1_copyFrom_13 hO.1 hO.2 mX1_copyFrom_in1 tyX1 tyX1_ok nmX1 rfl (by decide) mX1_copyFrom_f18 rfl (by decide +kernel) (vp_nar_int _) (zfit_i _) (fun _ => Nat.le_of_ble_eq_true rfl) (fun _ _ => rfl) ?_
  refine z_aload_n C 16 0 0 dX1_copyFrom_16 rfl rfl ?_
  refine z_aload_n C 17 1 1 dX1_copyFrom_17 rfl rfl ?_
  refine z_geti C 18 (b2) 2 dX1_copyFrom_18 hO2.1 hO2.2 mX1_copyFrom_in1 rfl (by decide) mX1_copyFrom_f21 (fun _ => rfl) ?_
  refine z_nv (t (b2) 2) ((zset_idk _ _ _ _ (by omega)).trans ((zset_idk _ _ _ _ (by omega)).trans rfl)) ?_
  refine z_put C 21 (ty := .int) (b) 2 dX1_copyFrom_21 hO.1 hO.2 mX1_copyFrom_in1 tyX1 tyX1_ok nmX1 rfl (by decide) mX1_copyFrom_f21 rfl (by decide +kernel) (vp_nar_int _) (zfit_i _) (fun _ => Nat.le_of_ble_eq_true rfl) (fun _ _ => rfl) ?_
  refine z_aload_n C 24 0 0 dX1_copyFrom_24 rfl rfl ?_
  refine z_aload_n C 25 1 1 dX1_copyFrom_25 rfl rfl ?_
  refine z_geti C 26 (b2) 3 dX1_copyFrom_26 hO2.1 hO2.2 mX1_copyFrom_in1 rfl (by decide) mX1_copyFrom_f24 (fun _ => rfl) ?_
  refine z_nv (t (b2) 3) ((zset_idk _ _ _ _ (by omega)).trans ((zset_idk _ _ _ _ (by omega)).trans ((zset_idk _ _ _ _ (by omega)).trans rfl))) ?_
  refine z_put C 29 (ty := .int) (b) 3 dX1_copyFrom_29 hO.1 hO.2 mX1_copyFrom_in1 tyX1 tyX1_ok nmX1 rfl (by decide) mX1_copyFrom_f24 rfl (by decide +kernel) (vp_nar_int _) (zfit_i _) (fun _ => Nat.le_of_ble_eq_true rfl) (fun _ _ => rfl) ?_
  refine z_aload_n C 32 0 0 dX1_copyFrom_32 rfl rfl ?_
  refine z_aload_n C 33 1 1 dX1_copyFrom_33 rfl rfl ?_
  refine z_geti C 34 (b2) 4 dX1_copyFrom_34 hO2.1 hO2.2 mX1_copyFrom_in1 rfl (by decide) mX1_copyFrom_f27 (fun _ => rfl) ?_
  refine z_nv (t (b2) 4) ((zset_idk _ _ _ _ (by omega)).trans ((zset_idk _ _ _ _ (by omega)).trans ((zset_idk _ _ _ _ (by omega)).trans ((zset_idk _ _ _ _ (by omega)).trans rfl)))) ?_
  refine z_put C 37 (ty := .int) (b) 4 dX1_copyFrom_37 hO.1 hO.2 mX1_copyFrom_in1 tyX1 tyX1_ok nmX1 rfl (by decide) mX1_copyFrom_f27 rfl (by decide +kernel) (vp_nar_int _) (zfit_i _) (fun _ => Nat.le_of_ble_eq_true rfl) (fun _ _ => rfl) ?_
  refine z_aload_n C 40 0 0 dX1_copyFrom_40 rfl rfl ?_
  refine z_aload_n C 41 1 1 dX1_copyFrom_41 rfl rfl ?_
  refine z_geti C 42 (b2) 5 dX1_copyFrom_42 hO2.1 hO2.2 mX1_copyFrom_in1 rfl (by decide) mX1_copyFrom_f30 (fun _ => rfl) ?_
  refine z_nv (t (b2) 5) ((zset_idk _ _ _ _ (by omega)).trans ((zset_idk _ _ _ _ (by omega)).trans ((zset_idk _ _ _ _ (by omega)).trans ((zset_idk _ _ _ _ (by omega)).trans ((zset_idk _ _ _ _ (by omega)).trans rfl))))) ?_
  refine z_put C 45 (ty := .boolean) (b) 5 dX1_copyFrom_45 hO.1 hO.2 mX1_copyFrom_in1 tyX1 tyX1_ok nmX1 rfl (by decide) mX1_copyFrom_f30 rfl (by decide +kernel) (znar_b hbit) (zfit_b hbit) (fun _ => Nat.le_of_ble_eq_true rfl) (fun _ _ => rfl) ?_
  refine z_aload_n C 48 0 0 dX1_copyFrom_48 rfl rfl ?_
  refine z_aload_n C 49 1 1 dX1_copyFrom_49 rfl rfl ?_
  refine z_geti C 50 (b2) 6 dX1_copyFrom_50 hO2.1 hO2.2 mX1_copyFrom_in1 rfl (by decide) mX1_copyFrom_f34 (fun _ => rfl) ?_
  refine z_nv (t (b2) 6) ((zset_idk _ _ _ _ (by omega)).trans ((zset_idk _ _ _ _ (by omega)).trans ((zset_idk _ _ _ _ (by omega)).trans ((zset_idk _ _ _ _ (by omega)).trans ((zset_idk _ _ _ _ (by omega)).trans ((zset_idk _ _ _ _ (by omega)).trans rfl)))))) ?_
  refine z_put C 53 (ty := .int) (b) 6 dX1_copyFrom_53 hO.1 hO.2 mX1_copyFrom_in1 tyX1 tyX1_ok nmX1 rfl (by decide) mX1_copyFrom_f34 rfl (by decide +kernel) (vp_nar_int _) (zfit_i _) (fun _ => Nat.le_of_ble_eq_true rfl) (fun _ _ => rfl) ?_
  refine z_aload_n C 56 0 0 dX1_copyFrom_56 rfl rfl ?_
  refine z_aload_n C 57 1 1 dX1_copyFrom_57 rfl rfl ?_
  refine z_geti C 58 (b2) 7 dX1_copyFrom_58 hO2.1 hO2.2 mX1_copyFrom_in1 rfl (by decide) mX1_copyFrom_f9 (fun _ => rfl) ?_
  refine z_nv (t (b2) 7) ((zset_idk _ _ _ _ (by omega)).trans ((zset_idk _ _ _ _ (by omega)).trans ((zset_idk _ _ _ _ (by omega)).trans ((zset_idk _ _ _ _ (by omega)).trans ((zset_idk _ _ _ _ (by omega)).trans ((zset_idk _ _ _ _ (by omega)).trans ((zset_idk _ _ _ _ (by omega)).trans rfl))))))) ?_
  refine z_put C 61 (ty := .int) (b) 7 dX1_copyFrom_61 hO.1 hO.2 mX1_copyFrom_in1 tyX1 tyX1_ok nmX1 rfl (by decide) mX1_copyFrom_f9 rfl (by decide +kernel) (vp_nar_int _) (zfit_i _) (fun _ => Nat.le_of_ble_eq_true rfl) (fun _ _ => rfl) ?_
  refine z_aload_n C 64 0 0 dX1_copyFrom_64 rfl rfl ?_
  refine z_aload_n C 65 1 1 dX1_copyFrom_65 rfl rfl ?_
  refine z_geti C 66 (b2) 8 dX1_copyFrom_66 hO2.1 hO2.2 mX1_copyFrom_in1 rfl (by decide) mX1_copyFrom_f37 (fun _ => rfl) ?_
  refine z_nv (t (b2) 8) ((zset_idk _ _ _ _ (by omega)).trans ((zset_idk _ _ _ _ (by omega)).trans ((zset_idk _ _ _ _ (by omega)).trans ((zset_idk _ _ _ _ (by omega)).trans ((zset_idk _ _ _ _ (by omega)).trans ((zset_idk _ _ _ _ (by omega)).trans ((zset_idk _ _ _ _ (by omega)).trans ((zset_idk _ _ _ _ (by omega)).trans rfl)))))))) ?_
  refine z_put C 69 (ty := .int) (b) 8 dX1_copyFrom_69 hO.1 hO.2 mX1_copyFrom_in1 tyX1 tyX1_ok nmX1 rfl (by decide) mX1_copyFrom_f37 rfl (by decide +kernel) (vp_nar_int _) (zfit_i _) (fun _ => Nat.le_of_ble_eq_true rfl) (fun _ _ => rfl) ?_
  refine z_aload_n C 72 0 0 dX1_copyFrom_72 rfl rfl ?_
  refine z_aload_n C 73 1 1 dX1_copyFrom_73 rfl rfl ?_
  refine z_geti C 74 (b2) 9 dX1_copyFrom_74 hO2.1 hO2.2 mX1_copyFrom_in1 rfl (by decide) mX1_copyFrom_f40 (fun _ => rfl) ?_
  refine z_nv (t (b2) 9) ((zset_idk _ _ _ _ (by omega)).trans ((zset_idk _ _ _ _ (by omega)).trans ((zset_idk _ _ _ _ (by omega)).trans ((zset_idk _ _ _ _ (by omega)).trans ((zset_idk _ _ _ _ (by omega)).trans ((zset_idk _ _ _ _ (by omega)).trans ((zset_idk _ _ _ _ (by omega)).trans ((zset_idk _ _ _ _ (by omega)).trans ((zset_idk _ _ _ _ (by omega)).trans rfl))))))))) ?_
  refine z_put C 77 (ty := .int) (b) 9 dX1_copyFrom_77 hO.1 hO.2 mX1_copyFrom_in1 tyX1 tyX1_ok nmX1 rfl (by decide) mX1_copyFrom_f40 rfl (by decide +kernel) (vp_nar_int _) (zfit_i _) (fun _ => Nat.le_of_ble_eq_true rfl) (fun _ _ => rfl) ?_
  refine z_aload_n C 80 0 0 dX1_copyFrom_80 rfl rfl ?_
  refine z_aload_n C 81 1 1 dX1_copyFrom_81 rfl rfl ?_
  refine z_geti C 82 (b2) 10 dX1_copyFrom_82 hO2.1 hO2.2 mX1_copyFrom_in1 rfl (by decide) mX1_copyFrom_f43 (fun _ => rfl) ?_
  refine z_nv (t (b2) 10) ((zset_idk _ _ _ _ (by omega)).trans ((zset_idk _ _ _ _ (by omega)).trans ((zset_idk _ _ _ _ (by omega)).trans ((zset_idk _ _ _ _ (by omega)).trans ((zset_idk _ _ _ _ (by omega)).trans ((zset_idk _ _ _ _ (by omega)).trans ((zset_idk _ _ _ _ (by omega)).trans ((zset_idk _ _ _ _ (by omega)).trans ((zset_idk _ _ _ _ (by omega)).trans ((zset_idk _ _ _ _ (by omega)).trans rfl)))))))))) ?_
  refine z_put C 85 (ty := .int) (b) 10 dX1_copyFrom_85 hO.1 hO.2 mX1_copyFrom_in1 tyX1 tyX1_ok nmX1 rfl (by decide) mX1_copyFrom_f43 rfl (by decide +kernel) (vp_nar_int _) (zfit_i _) (fun _ => Nat.le_of_ble_eq_true rfl) (fun _ _ => rfl) ?_
  refine z_aload_n C 88 0 0 dX1_copyFrom_88 rfl rfl ?_
  refine z_aload_n C 89 1 1 dX1_copyFrom_89 rfl rfl ?_
  refine z_geti C 90 (b2) 11 dX1_copyFrom_90 hO2.1 hO2.2 mX1_copyFrom_in1 rfl (by decide) mX1_copyFrom_f46 (fun _ => rfl) ?_
  refine z_nv (t (b2) 11) ((zset_idk _ _ _ _ (by omega)).trans ((zset_idk _ _ _ _ (by omega)).trans ((zset_idk _ _ _ _ (by omega)).trans ((zset_idk _ _ _ _ (by omega)).trans ((zset_idk _ _ _ _ (by omega)).trans ((zset_idk _ _ _ _ (by omega)).trans ((zset_idk _ _ _ _ (by omega)).trans ((zset_idk _ _ _ _ (by omega)).trans ((zset_idk _ _ _ _ (by omega)).trans ((zset_idk _ _ _ _ (by omega)).trans ((zset_idk _ _ _ _ (by omega)).trans rfl))))))))))) ?_
  refine z_put C 93 (ty := .int) (b) 11 dX1_copyFrom_93 hO.1 hO.2 mX1_copyFrom_in1 tyX1 tyX1_ok nmX1 rfl (by decide) mX1_copyFrom_f46 rfl (by decide +kernel) (vp_nar_int _) (zfit_i _) (fun _ => Nat.le_of_ble_eq_true rfl) (fun _ _ => rfl) ?_
  refine z_aload_n C 96 0 0 dX1_copyFrom_96 rfl rfl ?_
  refine z_aload_n C 97 1 1 dX1_copyFrom_97 rfl rfl ?_
  refine z_geti C 98 (b2) 12 dX1_copyFrom_98 hO2.1 hO2.2 mX1_copyFrom_in1 rfl (by decide) mX1_copyFrom_f49 (fun _ => rfl) ?_
  refine z_nv (t (b2) 12) ((zset_idk _ _ _ _ (by omega)).trans ((zset_idk _ _ _ _ (by omega)).trans ((zset_idk _ _ _ _ (by omega)).trans ((zset_idk _ _ _ _ (by omega)).trans ((zset_idk _ _ _ _ (by omega)).trans ((zset_idk _ _ _ _ (by omega)).trans ((zset_idk _ _ _ _ (by omega)).trans ((zset_idk _ _ _ _ (by omega)).trans ((zset_idk _ _ _ _ (by omega)).trans ((zset_idk _ _ _ _ (by omega)).trans ((zset_idk _ _ _ _ (by omega)).trans ((zset_idk _ _ _ _ (by omega)).trans rfl)))))))))))) ?_
  refine z_put C 101 (ty := .int) (b) 12 dX1_copyFrom_101 hO.1 hO.2 mX1_copyFrom_in1 tyX1 tyX1_ok nmX1 rfl (by decide) mX1_copyFrom_f49 rfl (by decide +kernel) (vp_nar_int _) (zfit_i _) (fun _ => Nat.le_of_ble_eq_true rfl) (fun _ _ => rfl) ?_
  refine z_aload_n C 104 0 0 dX1_copyFrom_104 rfl rfl ?_
  refine z_aload_n C 105 1 1 dX1_copyFrom_105 rfl rfl ?_
  refine z_geti C 106 (b2) 13 dX1_copyFrom_106 hO2.1 hO2.2 mX1_copyFrom_in1 rfl (by decide) mX1_copyFrom_f52 (fun _ => rfl) ?_
  refine z_nv (t (b2) 13) ((zset_idk _ _ _ _ (by omega)).trans ((zset_idk _ _ _ _ (by omega)).trans ((zset_idk _ _ _ _ (by omega)).trans ((zset_idk _ _ _ _ (by omega)).trans ((zset_idk _ _ _ _ (by omega)).trans ((zset_idk _ _ _ _ (by omega)).trans ((zset_idk _ _ _ _ (by omega)).trans ((zset_idk _ _ _ _ (by omega)).trans ((zset_idk _ _ _ _ (by omega)).trans ((zset_idk _ _ _ _ (by omega)).trans ((zset_idk _ _ _ _ (by omega)).trans ((zset_idk _ _ _ _ (by omega)).trans ((zset_idk _ _ _ _ (by omega)).trans rfl))))))))))))) ?_
  refine z_put C 109 (ty := .int) (b) 13 dX1_copyFrom_109 hO.1 hO.2 mX1_copyFrom_in1 tyX1 tyX1_ok nmX1 rfl (by decide) mX1_copyFrom_f52 rfl (by decide +kernel) (vp_nar_int _) (zfit_i _) (fun _ => Nat.le_of_ble_eq_true rfl) (fun _ _ => rfl) ?_
  exact z_vret C 112 hA hQ rfl dX1_copyFrom_112 rfl
theorem sX1_copyFrom_o (b : Nat) (t : zM) (b2 : Nat) {j : Nat} (h : j ≠ b) : sX1_copyFrom b t b2 j = t j := by
  unfold sX1_copyFrom
  simp only [zset_id _ _ _ h]
theorem sX1_copyFrom_e (b : Nat) (t : zM) (b2 : Nat) {w : Nat} (h : w < 14) : sX1_copyFrom b t b2 b w = t b2 w := by
  unfold sX1_copyFrom
  rcases (show w = 0 ∨ w = 1 ∨ w = 2 ∨ w = 3 ∨ w = 4 ∨ w = 5 ∨ w = 6 ∨ w = 7 ∨ w = 8 ∨ w = 9 ∨ w = 10 ∨ w = 11 ∨ w = 12 ∨ w = 13 by omega) with rfl | rfl | rfl | rfl | rfl | rfl | rfl | rfl | rfl | rfl | rfl | rfl | rfl | rfl <;> simp [zset, upd]
def sX4_copyFrom (b : Nat) (t : zM) (b2 : Nat) : zM := (zset (zcp t (b2 + 1) (b + 1) 20) (b) 1 (t (b2) 1))
theorem mX4_copyFrom_f9 : Cond.fieldLink RX4 9 "WrongedMeters$Street" "houses" "[I" ∈ wsX4_copyFrom := by decide +kernel
set_option maxRecDepth 20000 in
theorem mX4_copyFrom_in4 : ∀ w ∈ u_ws RX4 TX4 2, w ∈ wsX4_copyFrom := by decide +kernel
theorem mX4_copyFrom_m19 : Cond.methodLink RX4 19 arraycopyName ∈ wsX4_copyFrom := by decide +kernel
theorem mX4_copyFrom_acn : Cond.native arraycopyName ∈ wsX4_copyFrom := by decide +kernel
theorem mX4_copyFrom_acs : Cond.static arraycopyName ∈ wsX4_copyFrom := by decide +kernel
theorem mX4_copyFrom_aci : Cond.initialized "java/lang/System" ∈ wsX4_copyFrom := by decide +kernel
theorem mX4_copyFrom_f15 : Cond.fieldLink RX4 15 "WrongedMeters$Street" "latestStep" "I" ∈ wsX4_copyFrom := by decide +kernel
theorem hyX4_copyFrom : yX4_copyFrom.cls = RX4 ∧ yX4_copyFrom.cls ≠ "java/lang/invoke/MethodHandle" ∧ yX4_copyFrom.cls ≠ "java/lang/invoke/VarHandle" ∧ (parseMethodDescriptor yX4_copyFrom.desc).map (fun d => d.parameters.length) = some 1 := by decide +kernel
set_option maxHeartbeats 3000000 in
set_option maxRecDepth 100000 in
theorem kX4_copyFrom (l : Launch) (D : va_G) (cy : Nat → ClassId) (K : zK) (n : Nat) (ad : Nat → Nat) (hJ : zJ n ad) (b : Nat) (hO : zStreet cy K n ad b) (t : zM) (b2 : Nat) (hO2 : zStreet cy K n ad b2) (hne : b2 + 1 < b ∨ b + 1 < b2) : zV l yX4_copyFrom wsX4_copyFrom 1 D cy K n ad t [.ref (ad (b)), .ref (ad (b2))] (fun t1 => t1 = sX4_copyFrom b t b2) := by
  refine z_startV (cc := cX4_copyFrom) (mL := 2) (ret := none) (own := RX4) rfl (by decide +kernel) rfl hJ (Nat.le_of_ble_eq_true rfl) ?_
  intro p e s m args below meth c A hA Q hQ C
  refine z_aload_n C 0 1 1 dX4_copyFrom_0 rfl rfl ?_
  refine z_getr C 1 (a9 := ad (b2 + 1)) (b2) 0 dX4_copyFrom_1 (Nat.lt_of_succ_lt hO2.1) hO2.2.1 mX4_copyFrom_in4 rfl (by decide) mX4_copyFrom_f9 (fun _ => rfl) ?_
  refine z_iconst C 4 (v := 0) dX4_copyFrom_4 (by decide +kernel) ?_
  refine z_aload_n C 5 0 0 dX4_copyFrom_5 rfl rfl ?_
  refine z_getr C 6 (a9 := ad (b + 1)) (b) 0 dX4_copyFrom_6 (Nat.lt_of_succ_lt hO.1) hO.2.1 mX4_copyFrom_in4 rfl (by decide) mX4_copyFrom_f9 (fun _ => rfl) ?_
  refine z_iconst C 9 (v := 0) dX4_copyFrom_9 (by decide +kernel) ?_
  refine z_bipush C 10 (v := 20) dX4_copyFrom_10 (by decide +kernel) ?_
  refine z_copyi C 12 (b2 + 1) (b + 1) 20 dX4_copyFrom_12 mX4_copyFrom_m19 mX4_copyFrom_acn mX4_copyFrom_acs mX4_copyFrom_aci hO2.1 hO.1 hO2.2.2 hO.2.2 rfl (by decide) (by decide) (by decide) rfl (by decide) (Nat.le_of_ble_eq_true rfl) ?_
  refine z_aload_n C 15 0 0 dX4_copyFrom_15 rfl rfl ?_
  refine z_aload_n C 16 1 1 dX4_copyFrom_16 rfl rfl ?_
  refine z_geti C 17 (b2) 1 dX4_copyFrom_17 (Nat.lt_of_succ_lt hO2.1) hO2.2.1 mX4_copyFrom_in4 rfl (by decide) mX4_copyFrom_f15 (fun _ => rfl) ?_
  refine z_nv (t (b2) 1) (zcp_id _ _ _ _ (by omega) _) ?_
  refine z_put C 20 (ty := .int) (b) 1 dX4_copyFrom_20 (Nat.lt_of_succ_lt hO.1) hO.2.1 mX4_copyFrom_in4 tyX4 tyX4_ok nmX4 rfl (by decide) mX4_copyFrom_f15 rfl (by decide +kernel) (vp_nar_int _) (zfit_i _) (fun _ => Nat.le_of_ble_eq_true rfl) (fun _ _ => rfl) ?_
  exact z_vret C 23 hA hQ rfl dX4_copyFrom_23 rfl
theorem sX4_copyFrom_o (b : Nat) (t : zM) (b2 : Nat) {j : Nat} (h : j ≠ b) (h1 : j ≠ b + 1) : sX4_copyFrom b t b2 j = t j := by
  unfold sX4_copyFrom
  simp only [zset_id _ _ _ h, zcp, if_neg h1]
def sX2_copyFrom (b : Nat) (t : zM) (b2 : Nat) : zM := (zset (zset (zcp t (b2 + 1) (b + 1) 60) (b) 1 (t (b2) 1)) (b) 2 (t (b2) 2))
theorem mX2_copyFrom_f11 : Cond.fieldLink RX2 11 "WrongedMeters$Ledger" "facts" "[I" ∈ wsX2_copyFrom := by decide +kernel
set_option maxRecDepth 20000 in
theorem mX2_copyFrom_in2 : ∀ w ∈ u_ws RX2 TX2 3, w ∈ wsX2_copyFrom := by decide +kernel
theorem mX2_copyFrom_m15 : Cond.methodLink RX2 15 arraycopyName ∈ wsX2_copyFrom := by decide +kernel
theorem mX2_copyFrom_acn : Cond.native arraycopyName ∈ wsX2_copyFrom := by decide +kernel
theorem mX2_copyFrom_acs : Cond.static arraycopyName ∈ wsX2_copyFrom := by decide +kernel
theorem mX2_copyFrom_aci : Cond.initialized "java/lang/System" ∈ wsX2_copyFrom := by decide +kernel
theorem mX2_copyFrom_f21 : Cond.fieldLink RX2 21 "WrongedMeters$Ledger" "nextRow" "I" ∈ wsX2_copyFrom := by decide +kernel
theorem mX2_copyFrom_f25 : Cond.fieldLink RX2 25 "WrongedMeters$Ledger" "size" "I" ∈ wsX2_copyFrom := by decide +kernel
theorem hyX2_copyFrom : yX2_copyFrom.cls = RX2 ∧ yX2_copyFrom.cls ≠ "java/lang/invoke/MethodHandle" ∧ yX2_copyFrom.cls ≠ "java/lang/invoke/VarHandle" ∧ (parseMethodDescriptor yX2_copyFrom.desc).map (fun d => d.parameters.length) = some 1 := by decide +kernel
set_option maxHeartbeats 3000000 in
set_option maxRecDepth 100000 in
theorem kX2_copyFrom (l : Launch) (D : va_G) (cy : Nat → ClassId) (K : zK) (n : Nat) (ad : Nat → Nat) (hJ : zJ n ad) (b : Nat) (hO : zLedger cy K n ad b) (t : zM) (b2 : Nat) (hO2 : zLedger cy K n ad b2) (hne : b2 + 1 < b ∨ b + 1 < b2) : zV l yX2_copyFrom wsX2_copyFrom 1 D cy K n ad t [.ref (ad (b)), .ref (ad (b2))] (fun t1 => t1 = sX2_copyFrom b t b2) := by
  refine z_startV (cc := cX2_copyFrom) (mL := 2) (ret := none) (own := RX2) rfl (by decide +kernel) rfl hJ (Nat.le_of_ble_eq_true rfl) ?_
  intro p e s m args below meth c A hA Q hQ C
  refine z_aload_n C 0 1 1 dX2_copyFrom_0 rfl rfl ?_
  refine z_getr C 1 (a9 := ad (b2 + 1)) (b2) 0 dX2_copyFrom_1 (Nat.lt_of_succ_lt hO2.1) hO2.2.1 mX2_copyFrom_in2 rfl (by decide) mX2_copyFrom_f11 (fun _ => rfl) ?_
  refine z_iconst C 4 (v := 0) dX2_copyFrom_4 (by decide +kernel) ?_
  refine z_aload_n C 5 0 0 dX2_copyFrom_5 rfl rfl ?_
  refine z_getr C 6 (a9 := ad (b + 1)) (b) 0 dX2_copyFrom_6 (Nat.lt_of_succ_lt hO.1) hO.2.1 mX2_copyFrom_in2 rfl (by decide) mX2_copyFrom_f11 (fun _ => rfl) ?_
  refine z_iconst C 9 (v := 0) dX2_copyFrom_9 (by decide +kernel) ?_
  refine z_bipush C 10 (v := 60) dX2_copyFrom_10 (by decide +kernel) ?_
  refine z_copyi C 12 (b2 + 1) (b + 1) 60 dX2_copyFrom_12 mX2_copyFrom_m15 mX2_copyFrom_acn mX2_copyFrom_acs mX2_copyFrom_aci hO2.1 hO.1 hO2.2.2 hO.2.2 rfl (by decide) (by decide) (by decide) rfl (by decide) (Nat.le_of_ble_eq_true rfl) ?_
  refine z_aload_n C 15 0 0 dX2_copyFrom_15 rfl rfl ?_
  refine z_aload_n C 16 1 1 dX2_copyFrom_16 rfl rfl ?_
  refine z_geti C 17 (b2) 1 dX2_copyFrom_17 (Nat.lt_of_succ_lt hO2.1) hO2.2.1 mX2_copyFrom_in2 rfl (by decide) mX2_copyFrom_f21 (fun _ => rfl) ?_
  refine z_nv (t (b2) 1) (zcp_id _ _ _ _ (by omega) _) ?_
  refine z_put C 20 (ty := .int) (b) 1 dX2_copyFrom_20 (Nat.lt_of_succ_lt hO.1) hO.2.1 mX2_copyFrom_in2 tyX2 tyX2_ok nmX2 rfl (by decide) mX2_copyFrom_f21 rfl (by decide +kernel) (vp_nar_int _) (zfit_i _) (fun _ => Nat.le_of_ble_eq_true rfl) (fun _ _ => rfl) ?_
  refine z_aload_n C 23 0 0 dX2_copyFrom_23 rfl rfl ?_
  refine z_aload_n C 24 1 1 dX2_copyFrom_24 rfl rfl ?_
  refine z_geti C 25 (b2) 2 dX2_copyFrom_25 (Nat.lt_of_succ_lt hO2.1) hO2.2.1 mX2_copyFrom_in2 rfl (by decide) mX2_copyFrom_f25 (fun _ => rfl) ?_
  refine z_nv (t (b2) 2) ((zset_idk _ _ _ _ (by omega)).trans (zcp_id _ _ _ _ (by omega) _)) ?_
  refine z_put C 28 (ty := .int) (b) 2 dX2_copyFrom_28 (Nat.lt_of_succ_lt hO.1) hO.2.1 mX2_copyFrom_in2 tyX2 tyX2_ok nmX2 rfl (by decide) mX2_copyFrom_f25 rfl (by decide +kernel) (vp_nar_int _) (zfit_i _) (fun _ => Nat.le_of_ble_eq_true rfl) (fun _ _ => rfl) ?_
  exact z_vret C 31 hA hQ rfl dX2_copyFrom_31 rfl
theorem sX2_copyFrom_o (b : Nat) (t : zM) (b2 : Nat) {j : Nat} (h : j ≠ b) (h1 : j ≠ b + 1) : sX2_copyFrom b t b2 j = t j := by
  unfold sX2_copyFrom
  simp only [zset_id _ _ _ h, zcp, if_neg h1]
def lsX5_copyFrom_31 (b : Nat) (t : zM) (b2 : Nat) : Nat → Nat → zM → zM
  | 0, _, w => w
  | j2 + 1, i, w => (if 4 ≤ nI i then (zset (zset (zset (zset (zset (zset (zset (zset (zset (zcp (sX2_copyFrom (b + 35) w (b2 + 35)) (b2 + 37) (b + 37) 4) (b) 4 ((sX2_copyFrom (b + 35) w (b2 + 35)) (b2) 4)) (b) 5 ((sX2_copyFrom (b + 35) w (b2 + 35)) (b2) 5)) (b) 6 ((sX2_copyFrom (b + 35) w (b2 + 35)) (b2) 6)) (b) 7 ((sX2_copyFrom (b + 35) w (b2 + 35)) (b2) 7)) (b) 8 ((sX2_copyFrom (b + 35) w (b2 + 35)) (b2) 8)) (b) 9 ((sX2_copyFrom (b + 35) w (b2 + 35)) (b2) 9)) (b) 10 ((sX2_copyFrom (b + 35) w (b2 + 35)) (b2) 10)) (b) 11 ((sX2_copyFrom (b + 35) w (b2 + 35)) (b2) 11)) (b) 12 ((sX2_copyFrom (b + 35) w (b2 + 35)) (b2) 12)) else (lsX5_copyFrom_31 b t b2 j2 (i + 1) (sX4_copyFrom (b + 27 + 2 * i) w (b2 + 27 + 2 * i))))
def lsX5_copyFrom_2 (b : Nat) (t : zM) (b2 : Nat) : Nat → Nat → zM → zM
  | 0, _, u => u
  | j1 + 1, k, u => (if 24 ≤ nI k then (lsX5_copyFrom_31 b t b2 5 0 u) else (lsX5_copyFrom_2 b t b2 j1 (k + 1) (sX1_copyFrom (b + 2 + k) u (b2 + 2 + k))))
def sX5_copyFrom (b : Nat) (t : zM) (b2 : Nat) : zM := (lsX5_copyFrom_2 b t b2 25 0 t)
theorem mX5_copyFrom_f26 : Cond.fieldLink RX5 26 "WrongedMeters$Town" "ledger" "LWrongedMeters$Ledger;" ∈ wsX5_copyFrom := by decide +kernel
set_option maxRecDepth 20000 in
theorem mX5_copyFrom_in5 : ∀ w ∈ u_ws RX5 TX5 13, w ∈ wsX5_copyFrom := by decide +kernel
theorem mX5_copyFrom_f30 : Cond.fieldLink RX5 30 "WrongedMeters$Town" "settings" "[I" ∈ wsX5_copyFrom := by decide +kernel
theorem mX5_copyFrom_m49 : Cond.methodLink RX5 49 arraycopyName ∈ wsX5_copyFrom := by decide +kernel
theorem mX5_copyFrom_acn : Cond.native arraycopyName ∈ wsX5_copyFrom := by decide +kernel
theorem mX5_copyFrom_acs : Cond.static arraycopyName ∈ wsX5_copyFrom := by decide +kernel
theorem mX5_copyFrom_aci : Cond.initialized "java/lang/System" ∈ wsX5_copyFrom := by decide +kernel
theorem mX5_copyFrom_f55 : Cond.fieldLink RX5 55 "WrongedMeters$Town" "houseCount" "I" ∈ wsX5_copyFrom := by decide +kernel
theorem mX5_copyFrom_f59 : Cond.fieldLink RX5 59 "WrongedMeters$Town" "now" "I" ∈ wsX5_copyFrom := by decide +kernel
theorem mX5_copyFrom_f62 : Cond.fieldLink RX5 62 "WrongedMeters$Town" "readings" "I" ∈ wsX5_copyFrom := by decide +kernel
theorem mX5_copyFrom_f65 : Cond.fieldLink RX5 65 "WrongedMeters$Town" "units" "I" ∈ wsX5_copyFrom := by decide +kernel
theorem mX5_copyFrom_f68 : Cond.fieldLink RX5 68 "WrongedMeters$Town" "coins" "I" ∈ wsX5_copyFrom := by decide +kernel
theorem mX5_copyFrom_f71 : Cond.fieldLink RX5 71 "WrongedMeters$Town" "hundredths" "I" ∈ wsX5_copyFrom := by decide +kernel
theorem mX5_copyFrom_f74 : Cond.fieldLink RX5 74 "WrongedMeters$Town" "refunds" "I" ∈ wsX5_copyFrom := by decide +kernel
theorem mX5_copyFrom_f77 : Cond.fieldLink RX5 77 "WrongedMeters$Town" "coinsBack" "I" ∈ wsX5_copyFrom := by decide +kernel
theorem mX5_copyFrom_f80 : Cond.fieldLink RX5 80 "WrongedMeters$Town" "years" "I" ∈ wsX5_copyFrom := by decide +kernel
theorem mX5_copyFrom_f19 : Cond.fieldLink RX5 19 "WrongedMeters$Town" "streets" "[LWrongedMeters$Street;" ∈ wsX5_copyFrom := by decide +kernel
theorem mX5_copyFrom_f11 : Cond.fieldLink RX5 11 "WrongedMeters$Town" "houses" "[LWrongedMeters$House;" ∈ wsX5_copyFrom := by decide +kernel
theorem hyX5_copyFrom : yX5_copyFrom.cls = RX5 ∧ yX5_copyFrom.cls ≠ "java/lang/invoke/MethodHandle" ∧ yX5_copyFrom.cls ≠ "java/lang/invoke/VarHandle" ∧ (parseMethodDescriptor yX5_copyFrom.desc).map (fun d => d.parameters.length) = some 1 := by decide +kernel
set_option maxHeartbeats 3000000 in
set_option maxRecDepth 100000 in
theorem kX5_copyFrom (l : Launch) (D : va_G) (cy : Nat → ClassId) (K : zK) (n : Nat) (ad : Nat → Nat) (hJ : zJ n ad) (b : Nat) (hO : zTown cy K n ad b) (t : zM) (b2 : Nat) (hO2 : zTown cy K n ad b2) (hne : b2 + 38 ≤ b ∨ b + 38 ≤ b2) (hb : zBits b2 t) : zV l yX5_copyFrom wsX5_copyFrom 2 D cy K n ad t [.ref (ad (b)), .ref (ad (b2))] (fun t1 => t1 = sX5_copyFrom b t b2) := by
  refine z_startV (cc := cX5_copyFrom) (mL := 3) (ret := none) (own := RX5) rfl (by decide +kernel) rfl hJ (Nat.le_of_ble_eq_true rfl) ?_
  intro p e s m args below meth c A hA Q hQ C
  refine z_iconst C 0 (v := 0) dX5_copyFrom_0 (by decide +kernel) ?_
  refine z_istore_n C 1 2 ([(2, .int 0), (0, .ref (ad (b))), (1, .ref (ad (b2)))]) dX5_copyFrom_1 rfl (by decide) rfl ?_
  have L2 : ∀ (j1 : Nat) (k : Nat) (u : zM), (h0_2 : 25 ≤ k + j1) → (hk : k ≤ 24) → (hb : zBits b2 u) → (hS2 : sX5_copyFrom b t b2 = (lsX5_copyFrom_2 b t b2 j1 k u)) → Zw p l e (zR 2) s m args below meth c D A K n ad 3 Q 2 ([(2, .int (nI k)), (0, .ref (ad (b))), (1, .ref (ad (b2)))]) [] u := by
    intro j1
    induction j1 with
    | zero =>
      intro k u h0_2 hk hb hS2
      exact absurd h0_2 (by omega)
    | succ j1 ih2 =>
      intro k u h0_2 hk hb hS2
      refine z_iload_n C 2 2 0 dX5_copyFrom_2 rfl rfl ?_
      refine z_bipush C 3 (v := 24) dX5_copyFrom_3 (by decide +kernel) ?_
      refine z_icmp_ge C 5 29 dX5_copyFrom_5 (by decide) (fun c5_1 => ?_) (fun c5_1 => ?_)
      · refine z_iconst C 29 (v := 0) dX5_copyFrom_29 (by decide +kernel) ?_
        refine z_istore_n C 30 2 ([(2, .int 0), (0, .ref (ad (b))), (1, .ref (ad (b2)))]) dX5_copyFrom_30 rfl (by decide) rfl ?_
        have L31 : ∀ (j2 : Nat) (i : Nat) (w : zM), (h0_31 : 5 ≤ i + j2) → (hi : i ≤ 4) → (hS31 : sX5_copyFrom b t b2 = (lsX5_copyFrom_31 b t b2 j2 i w)) → Zw p l e (zR 2) s m args below meth c D A K n ad 3 Q 31 ([(2, .int (nI i)), (0, .ref (ad (b))), (1, .ref (ad (b2)))]) [] w := by
          intro j2
          induction j2 with
          | zero =>
            intro i w h0_31 hi hS31
            exact absurd h0_31 (by omega)
          | succ j2 ih31 =>
            intro i w h0_31 hi hS31
            refine z_iload_n C 31 2 0 dX5_copyFrom_31 rfl rfl ?_
            refine z_iconst C 32 (v := 4) dX5_copyFrom_32 (by decide +kernel) ?_
            refine z_icmp_ge C 33 57 dX5_copyFrom_33 (by decide) (fun c33_2 => ?_) (fun c33_2 => ?_)
            · refine z_aload_n C 57 0 1 dX5_copyFrom_57 rfl rfl ?_
              refine z_getr C 58 (a9 := ad (b + 35)) (b) 2 dX5_copyFrom_58 hO.h0 hO.e0 mX5_copyFrom_in5 rfl (by decide) mX5_copyFrom_f26 (fun _ => rfl) ?_
              refine z_aload_n C 61 1 2 dX5_copyFrom_61 rfl rfl ?_
              refine z_getr C 62 (a9 := ad (b2 + 35)) (b2) 2 dX5_copyFrom_62 hO2.h0 hO2.e0 mX5_copyFrom_in5 rfl (by decide) mX5_copyFrom_f26 (fun _ => rfl) ?_
              refine z_virtVe C 65 (As := [.ref (ad (b2 + 35))]) (st := []) (id := b + 35) (kX2_copyFrom l D cy K n ad hJ (b + 35) hO.led w (b2 + 35) hO2.led (by omega)) dX5_copyFrom_65 rfl gX5_copyFrom_X2_copyFrom hyX2_copyFrom rfl (by decide) (by decide) (Nat.lt_of_succ_lt hO.led.1) rfl hO.led.2.1 rfl rfl rfl (Nat.le_of_ble_eq_true rfl) ?_
              refine z_aload_n C 68 1 2 dX5_copyFrom_68 rfl rfl ?_
              refine z_getr C 69 (a9 := ad (b2 + 37)) (b2) 3 dX5_copyFrom_69 hO2.h0 hO2.e0 mX5_copyFrom_in5 rfl (by decide) mX5_copyFrom_f30 (fun _ => rfl) ?_
              refine z_iconst C 72 (v := 0) dX5_copyFrom_72 (by decide +kernel) ?_
              refine z_aload_n C 73 0 1 dX5_copyFrom_73 rfl rfl ?_
              refine z_getr C 74 (a9 := ad (b + 37)) (b) 3 dX5_copyFrom_74 hO.h0 hO.e0 mX5_copyFrom_in5 rfl (by decide) mX5_copyFrom_f30 (fun _ => rfl) ?_
              refine z_iconst C 77 (v := 0) dX5_copyFrom_77 (by decide +kernel) ?_
              refine z_iconst C 78 (v := 4) dX5_copyFrom_78 (by decide +kernel) ?_
              refine z_copyi C 79 (b2 + 37) (b + 37) 4 dX5_copyFrom_79 mX5_copyFrom_m49 mX5_copyFrom_acn mX5_copyFrom_acs mX5_copyFrom_aci hO2.h37 hO.h37 hO2.e37 hO.e37 rfl (by decide) (by decide) (by decide) rfl (by decide) (Nat.le_of_ble_eq_true rfl) ?_
              refine z_aload_n C 82 0 1 dX5_copyFrom_82 rfl rfl ?_
              refine z_aload_n C 83 1 2 dX5_copyFrom_83 rfl rfl ?_
              refine z_geti C 84 (b2) 4 dX5_copyFrom_84 hO2.h0 hO2.e0 mX5_copyFrom_in5 rfl (by decide) mX5_copyFrom_f55 (fun _ => rfl) ?_
              refine z_nv ((sX2_copyFrom (b + 35) w (b2 + 35)) (b2) 4) (zcp_id _ _ _ _ (by omega) _) ?_
              refine z_put C 87 (ty := .int) (b) 4 dX5_copyFrom_87 hO.h0 hO.e0 mX5_copyFrom_in5 tyX5 tyX5_ok nmX5 rfl (by decide) mX5_copyFrom_f55 rfl (by decide +kernel) (vp_nar_int _) (zfit_i _) (fun _ => Nat.le_of_ble_eq_true rfl) (fun _ _ => rfl) ?_
              refine z_aload_n C 90 0 1 dX5_copyFrom_90 rfl rfl ?_
              refine z_aload_n C 91 1 2 dX5_copyFrom_91 rfl rfl ?_
              refine z_geti C 92 (b2) 5 dX5_copyFrom_92 hO2.h0 hO2.e0 mX5_copyFrom_in5 rfl (by decide) mX5_copyFrom_f59 (fun _ => rfl) ?_
              refine z_nv ((sX2_copyFrom (b + 35) w (b2 + 35)) (b2) 5) ((zset_idk _ _ _ _ (by omega)).trans (zcp_id _ _ _ _ (by omega) _)) ?_
              refine z_put C 95 (ty := .int) (b) 5 dX5_copyFrom_95 hO.h0 hO.e0 mX5_copyFrom_in5 tyX5 tyX5_ok nmX5 rfl (by decide) mX5_copyFrom_f59 rfl (by decide +kernel) (vp_nar_int _) (zfit_i _) (fun _ => Nat.le_of_ble_eq_true rfl) (fun _ _ => rfl) ?_
              refine z_aload_n C 98 0 1 dX5_copyFrom_98 rfl rfl ?_
              refine z_aload_n C 99 1 2 dX5_copyFrom_99 rfl rfl ?_
              refine z_geti C 100 (b2) 6 dX5_copyFrom_100 hO2.h0 hO2.e0 mX5_copyFrom_in5 rfl (by decide) mX5_copyFrom_f62 (fun _ => rfl) ?_
              refine z_nv ((sX2_copyFrom (b + 35) w (b2 + 35)) (b2) 6) ((zset_idk _ _ _ _ (by omega)).trans ((zset_idk _ _ _ _ (by omega)).trans (zcp_id _ _ _ _ (by omega) _))) ?_
              refine z_put C 103 (ty := .int) (b) 6 dX5_copyFrom_103 hO.h0 hO.e0 mX5_copyFrom_in5 tyX5 tyX5_ok nmX5 rfl (by decide) mX5_copyFrom_f62 rfl (by decide +kernel) (vp_nar_int _) (zfit_i _) (fun _ => Nat.le_of_ble_eq_true rfl) (fun _ _ => rfl) ?_
              refine z_aload_n C 106 0 1 dX5_copyFrom_106 rfl rfl ?_
              refine z_aload_n C 107 1 2 dX5_copyFrom_107 rfl rfl ?_
              refine z_geti C 108 (b2) 7 dX5_copyFrom_108 hO2.h0 hO2.e0 mX5_copyFrom_in5 rfl (by decide) mX5_copyFrom_f65 (fun _ => rfl) ?_
              refine z_nv ((sX2_copyFrom (b + 35) w (b2 + 35)) (b2) 7) ((zset_idk _ _ _ _ (by omega)).trans ((zset_idk _ _ _ _ (by omega)).trans ((zset_idk _ _ _ _ (by omega)).trans (zcp_id _ _ _ _ (by omega) _)))) ?_
              refine z_put C 111 (ty := .int) (b) 7 dX5_copyFrom_111 hO.h0 hO.e0 mX5_copyFrom_in5 tyX5 tyX5_ok nmX5 rfl (by decide) mX5_copyFrom_f65 rfl (by decide +kernel) (vp_nar_int _) (zfit_i _) (fun _ => Nat.le_of_ble_eq_true rfl) (fun _ _ => rfl) ?_
              refine z_aload_n C 114 0 1 dX5_copyFrom_114 rfl rfl ?_
              refine z_aload_n C 115 1 2 dX5_copyFrom_115 rfl rfl ?_
              refine z_geti C 116 (b2) 8 dX5_copyFrom_116 hO2.h0 hO2.e0 mX5_copyFrom_in5 rfl (by decide) mX5_copyFrom_f68 (fun _ => rfl) ?_
              refine z_nv ((sX2_copyFrom (b + 35) w (b2 + 35)) (b2) 8) ((zset_idk _ _ _ _ (by omega)).trans ((zset_idk _ _ _ _ (by omega)).trans ((zset_idk _ _ _ _ (by omega)).trans ((zset_idk _ _ _ _ (by omega)).trans (zcp_id _ _ _ _ (by omega) _))))) ?_
              refine z_put C 119 (ty := .int) (b) 8 dX5_copyFrom_119 hO.h0 hO.e0 mX5_copyFrom_in5 tyX5 tyX5_ok nmX5 rfl (by decide) mX5_copyFrom_f68 rfl (by decide +kernel) (vp_nar_int _) (zfit_i _) (fun _ => Nat.le_of_ble_eq_true rfl) (fun _ _ => rfl) ?_
              refine z_aload_n C 122 0 1 dX5_copyFrom_122 rfl rfl ?_
              refine z_aload_n C 123 1 2 dX5_copyFrom_123 rfl rfl ?_
              refine z_geti C 124 (b2) 9 dX5_copyFrom_124 hO2.h0 hO2.e0 mX5_copyFrom_in5 rfl (by decide) mX5_copyFrom_f71 (fun _ => rfl) ?_
              refine z_nv ((sX2_copyFrom (b + 35) w (b2 + 35)) (b2) 9) ((zset_idk _ _ _ _ (by omega)).trans ((zset_idk _ _ _ _ (by omega)).trans ((zset_idk _ _ _ _ (by omega)).trans ((zset_idk _ _ _ _ (by omega)).trans ((zset_idk _ _ _ _ (by omega)).trans (zcp_id _ _ _ _ (by omega) _)))))) ?_
              refine z_put C 127 (ty := .int) (b) 9 dX5_copyFrom_127 hO.h0 hO.e0 mX5_copyFrom_in5 tyX5 tyX5_ok nmX5 rfl (by decide) mX5_copyFrom_f71 rfl (by decide +kernel) (vp_nar_int _) (zfit_i _) (fun _ => Nat.le_of_ble_eq_true rfl) (fun _ _ => rfl) ?_
              refine z_aload_n C 130 0 1 dX5_copyFrom_130 rfl rfl ?_
              refine z_aload_n C 131 1 2 dX5_copyFrom_131 rfl rfl ?_
              refine z_geti C 132 (b2) 10 dX5_copyFrom_132 hO2.h0 hO2.e0 mX5_copyFrom_in5 rfl (by decide) mX5_copyFrom_f74 (fun _ => rfl) ?_
              refine z_nv ((sX2_copyFrom (b + 35) w (b2 + 35)) (b2) 10) ((zset_idk _ _ _ _ (by omega)).trans ((zset_idk _ _ _ _ (by omega)).trans ((zset_idk _ _ _ _ (by omega)).trans ((zset_idk _ _ _ _ (by omega)).trans ((zset_idk _ _ _ _ (by omega)).trans ((zset_idk _ _ _ _ (by omega)).trans (zcp_id _ _ _ _ (by omega) _))))))) ?_
              refine z_put C 135 (ty := .int) (b) 10 dX5_copyFrom_135 hO.h0 hO.e0 mX5_copyFrom_in5 tyX5 tyX5_ok nmX5 rfl (by decide) mX5_copyFrom_f74 rfl (by decide +kernel) (vp_nar_int _) (zfit_i _) (fun _ => Nat.le_of_ble_eq_true rfl) (fun _ _ => rfl) ?_
              refine z_aload_n C 138 0 1 dX5_copyFrom_138 rfl rfl ?_
              refine z_aload_n C 139 1 2 dX5_copyFrom_139 rfl rfl ?_
              refine z_geti C 140 (b2) 11 dX5_copyFrom_140 hO2.h0 hO2.e0 mX5_copyFrom_in5 rfl (by decide) mX5_copyFrom_f77 (fun _ => rfl) ?_
              refine z_nv ((sX2_copyFrom (b + 35) w (b2 + 35)) (b2) 11) ((zset_idk _ _ _ _ (by omega)).trans ((zset_idk _ _ _ _ (by omega)).trans ((zset_idk _ _ _ _ (by omega)).trans ((zset_idk _ _ _ _ (by omega)).trans ((zset_idk _ _ _ _ (by omega)).trans ((zset_idk _ _ _ _ (by omega)).trans ((zset_idk _ _ _ _ (by omega)).trans (zcp_id _ _ _ _ (by omega) _)))))))) ?_
              refine z_put C 143 (ty := .int) (b) 11 dX5_copyFrom_143 hO.h0 hO.e0 mX5_copyFrom_in5 tyX5 tyX5_ok nmX5 rfl (by decide) mX5_copyFrom_f77 rfl (by decide +kernel) (vp_nar_int _) (zfit_i _) (fun _ => Nat.le_of_ble_eq_true rfl) (fun _ _ => rfl) ?_
              refine z_aload_n C 146 0 1 dX5_copyFrom_146 rfl rfl ?_
              refine z_aload_n C 147 1 2 dX5_copyFrom_147 rfl rfl ?_
              refine z_geti C 148 (b2) 12 dX5_copyFrom_148 hO2.h0 hO2.e0 mX5_copyFrom_in5 rfl (by decide) mX5_copyFrom_f80 (fun _ => rfl) ?_
              refine z_nv ((sX2_copyFrom (b + 35) w (b2 + 35)) (b2) 12) ((zset_idk _ _ _ _ (by omega)).trans ((zset_idk _ _ _ _ (by omega)).trans ((zset_idk _ _ _ _ (by omega)).trans ((zset_idk _ _ _ _ (by omega)).trans ((zset_idk _ _ _ _ (by omega)).trans ((zset_idk _ _ _ _ (by omega)).trans ((zset_idk _ _ _ _ (by omega)).trans ((zset_idk _ _ _ _ (by omega)).trans (zcp_id _ _ _ _ (by omega) _))))))))) ?_
              refine z_put C 151 (ty := .int) (b) 12 dX5_copyFrom_151 hO.h0 hO.e0 mX5_copyFrom_in5 tyX5 tyX5_ok nmX5 rfl (by decide) mX5_copyFrom_f80 rfl (by decide +kernel) (vp_nar_int _) (zfit_i _) (fun _ => Nat.le_of_ble_eq_true rfl) (fun _ _ => rfl) ?_
              exact z_vret C 154 hA hQ rfl dX5_copyFrom_154 ((hS31.trans ((if_pos c33_2).trans rfl))).symm
            · have hi9 := (zge (b := 4) (by omega) (by decide) ‹¬ (4 : Int32) ≤ nI i›)
              refine z_aload_n C 36 0 1 dX5_copyFrom_36 rfl rfl ?_
              refine z_getr C 37 (a9 := ad (b + 26)) (b) 1 dX5_copyFrom_37 hO.h0 hO.e0 mX5_copyFrom_in5 rfl (by decide) mX5_copyFrom_f19 (fun _ => rfl) ?_
              refine z_iload_n C 40 2 0 dX5_copyFrom_40 rfl rfl ?_
              refine z_aald C 41 (b + 26) 2 i (ad (b + 27 + 2 * i)) dX5_copyFrom_41 hO.h26 hO.e26 rfl rfl (zge (b := 4) (by omega) (by decide) ‹¬ (4 : Int32) ≤ nI i›) (by decide) rfl ?_
              refine z_aload_n C 42 1 2 dX5_copyFrom_42 rfl rfl ?_
              refine z_getr C 43 (a9 := ad (b2 + 26)) (b2) 1 dX5_copyFrom_43 hO2.h0 hO2.e0 mX5_copyFrom_in5 rfl (by decide) mX5_copyFrom_f19 (fun _ => rfl) ?_
              refine z_iload_n C 46 2 0 dX5_copyFrom_46 rfl rfl ?_
              refine z_aald C 47 (b2 + 26) 2 i (ad (b2 + 27 + 2 * i)) dX5_copyFrom_47 hO2.h26 hO2.e26 rfl rfl (zge (b := 4) (by omega) (by decide) ‹¬ (4 : Int32) ≤ nI i›) (by decide) rfl ?_
              refine z_virtVe C 48 (As := [.ref (ad (b2 + 27 + 2 * i))]) (st := []) (id := b + 27 + 2 * i) (kX4_copyFrom l D cy K n ad hJ (b + 27 + 2 * i) (hO.str (zge (b := 4) (by omega) (by decide) ‹¬ (4 : Int32) ≤ nI i›)) w (b2 + 27 + 2 * i) (hO2.str (zge (b := 4) (by omega) (by decide) ‹¬ (4 : Int32) ≤ nI i›)) (by omega)) dX5_copyFrom_48 rfl gX5_copyFrom_X4_copyFrom hyX4_copyFrom rfl (by decide) (by decide) (Nat.lt_of_succ_lt (hO.str (zge (b := 4) (by omega) (by decide) ‹¬ (4 : Int32) ≤ nI i›)).1) rfl (hO.str (zge (b := 4) (by omega) (by decide) ‹¬ (4 : Int32) ≤ nI i›)).2.1 rfl rfl rfl (Nat.le_of_ble_eq_true rfl) ?_
              refine z_iinc C 51 (v := nI (i + 1)) 2 0 ([(2, .int (nI (i + 1))), (0, .ref (ad (b))), (1, .ref (ad (b2)))]) dX5_copyFrom_51 rfl (nI_1 _) (by decide) rfl ?_
              refine z_goto C 54 31 dX5_copyFrom_54 (by decide) ?_
              refine z_ls [0, 1, 2] _ rfl ?_
              exact ih31 (i + 1) (sX4_copyFrom (b + 27 + 2 * i) w (b2 + 27 + 2 * i)) (by omega) (by omega) (hS31.trans ((if_neg c33_2).trans rfl))
        refine z_ls [0, 1, 2] _ rfl ?_
        exact L31 (5) 0 u (by omega) (by decide) (hS2.trans ((if_pos c5_1).trans rfl))
      · have hk9 := (zge (b := 24) (by omega) (by decide) ‹¬ (24 : Int32) ≤ nI k›)
        refine z_aload_n C 8 0 1 dX5_copyFrom_8 rfl rfl ?_
        refine z_getr C 9 (a9 := ad (b + 1)) (b) 0 dX5_copyFrom_9 hO.h0 hO.e0 mX5_copyFrom_in5 rfl (by decide) mX5_copyFrom_f11 (fun _ => rfl) ?_
        refine z_iload_n C 12 2 0 dX5_copyFrom_12 rfl rfl ?_
        refine z_aald C 13 (b + 1) 1 k (ad (b + 2 + k)) dX5_copyFrom_13 hO.h1 hO.e1 rfl rfl (zge (b := 24) (by omega) (by decide) ‹¬ (24 : Int32) ≤ nI k›) (by decide) rfl ?_
        refine z_aload_n C 14 1 2 dX5_copyFrom_14 rfl rfl ?_
        refine z_getr C 15 (a9 := ad (b2 + 1)) (b2) 0 dX5_copyFrom_15 hO2.h0 hO2.e0 mX5_copyFrom_in5 rfl (by decide) mX5_copyFrom_f11 (fun _ => rfl) ?_
        refine z_iload_n C 18 2 0 dX5_copyFrom_18 rfl rfl ?_
        refine z_aald C 19 (b2 + 1) 1 k (ad (b2 + 2 + k)) dX5_copyFrom_19 hO2.h1 hO2.e1 rfl rfl (zge (b := 24) (by omega) (by decide) ‹¬ (24 : Int32) ≤ nI k›) (by decide) rfl ?_
        refine z_virtVe C 20 (As := [.ref (ad (b2 + 2 + k))]) (st := []) (id := b + 2 + k) (kX1_copyFrom l D cy K n ad hJ (b + 2 + k) (hO.hou (zge (b := 24) (by omega) (by decide) ‹¬ (24 : Int32) ≤ nI k›)) u (b2 + 2 + k) (hO2.hou (zge (b := 24) (by omega) (by decide) ‹¬ (24 : Int32) ≤ nI k›)) (by omega) (hb k (zge (b := 24) (by omega) (by decide) ‹¬ (24 : Int32) ≤ nI k›))) dX5_copyFrom_20 rfl gX5_copyFrom_X1_copyFrom hyX1_copyFrom rfl (by decide) (by decide) (hO.hou (zge (b := 24) (by omega) (by decide) ‹¬ (24 : Int32) ≤ nI k›)).1 rfl (hO.hou (zge (b := 24) (by omega) (by decide) ‹¬ (24 : Int32) ≤ nI k›)).2 rfl rfl rfl (Nat.le_of_ble_eq_true rfl) ?_
        refine z_iinc C 23 (v := nI (k + 1)) 2 0 ([(2, .int (nI (k + 1))), (0, .ref (ad (b))), (1, .ref (ad (b2)))]) dX5_copyFrom_23 rfl (nI_1 _) (by decide) rfl ?_
        refine z_goto C 26 2 dX5_copyFrom_26 (by decide) ?_
        refine z_ls [0, 1, 2] _ rfl ?_
        exact ih2 (k + 1) (sX1_copyFrom (b + 2 + k) u (b2 + 2 + k)) (by omega) (by have := zge (b := 24) (by omega) (by decide) ‹¬ (24 : Int32) ≤ nI k›; omega) (zBits_fr hb (fun i9 hi9 => sX1_copyFrom_o _ _ _ (by omega))) (hS2.trans ((if_neg c5_1).trans rfl))
  refine z_ls [0, 1, 2] _ rfl ?_
  exact L2 (25) 0 t (by omega) (by decide) hb rfl
