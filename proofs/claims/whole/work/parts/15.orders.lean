/-! what taking an order leaves alone -/
def zOr (b : Nat) (t S : zM) : Prop := ∀ x y, (x ≠ b ∨ 6 ≤ y ∨ y ≤ 1) → S x y = t x y
theorem zOr.rf {b : Nat} {t : zM} : zOr b t t := fun _ _ _ => rfl
theorem zOr.set {b k : Nat} {t S : zM} (h : zOr b t S) (v : Int32) (h2 : 2 ≤ k) (h5 : k ≤ 5) : zOr b t (zset S b k v) := fun x y q => by
  by_cases e : x = b
  · subst e
    rw [zset_nk _ _ _ (by omega)]
    exact h x y q
  · rw [zset_idk _ _ _ _ e]
    exact h x y q
theorem zOr.num4 {b : Nat} {t : zM} (t0 : zM) : ∀ (j k : Nat) (v : Int32) (u : zM), zOr b t u → zOr b t (lsX3_takeNumber_4 b t0 j k v u) := by
  intro j
  induction j with
  | zero => intro k v u h; exact h
  | succ j ih =>
    intro k v u h
    unfold lsX3_takeNumber_4
    refine zite1 (P := zOr b t) (fun _ => h) (fun _ => zite1 (P := zOr b t) (fun _ => h) (fun _ => ?_))
    exact ih _ _ _ (h.set _ (by decide) (by decide))
theorem zOr.num {b : Nat} {t S : zM} (h : zOr b t S) : zOr b t (sX3_takeNumber b S) := zOr.num4 S _ _ _ _ h
theorem zOr.sgn {b : Nat} {t S : zM} (h : zOr b t S) (a : Int32) : zOr b t (sX3_takeSign b S a) := by
  unfold sX3_takeSign
  exact zite1 (P := zOr b t) (fun _ => h.set _ (by decide) (by decide)) (fun _ => h)
theorem sX3_takeOrder_k (b : Nat) (t : zM) : zOr b t (sX3_takeOrder b t) := by
  unfold sX3_takeOrder
  have h0 : zOr b t (zset (zset t b 3 (rX3_sign b t)) b 5 0) := (zOr.rf.set _ (by decide) (by decide)).set _ (by decide) (by decide)
  have h1 := ((h0.set (k := 2) ((t b 2) + 1) (by decide) (by decide)).num)
  have h2 := h1.set (k := 4) (rX3_takeNumber b (zset (zset (zset t b 3 (rX3_sign b t)) b 5 0) b 2 ((t b 2) + 1))) (by decide) (by decide)
  have h3 := h2.sgn 44
  have h4 := h3.num.set (k := 5) (rX3_takeNumber b (sX3_takeSign b (zset (sX3_takeNumber b (zset (zset (zset t b 3 (rX3_sign b t)) b 5 0) b 2 ((t b 2) + 1))) b 4 (rX3_takeNumber b (zset (zset (zset t b 3 (rX3_sign b t)) b 5 0) b 2 ((t b 2) + 1)))) 44)) (by decide) (by decide)
  have h5 := h4.sgn 59
  refine zite1 (P := zOr b t) (fun _ => h0) (fun _ => zite1 (P := zOr b t) (fun _ => h2) (fun _ => zite1 (P := zOr b t) (fun _ => ?_) (fun _ => ?_)))
  · exact zite1 (P := zOr b t) (fun _ => h3) (fun _ => zite1 (P := zOr b t) (fun _ => h4) (fun _ => h5))
  · refine zite1 (P := zOr b t) (fun _ => ?_) (fun _ => h2.sgn 59)
    exact zite1 (P := zOr b t) (fun _ => h3) (fun _ => zite1 (P := zOr b t) (fun _ => h4) (fun _ => h5))
theorem zOK.fr {b : Nat} {t t1 : zM} (h : zOK b t) (h0 : t1 b = t b) (h1 : t1 (b + 35) = t (b + 35)) : zOK b t1 := by
  obtain ⟨N, hN, h⟩ := h
  exact ⟨N, hN, zTs_fr h h0 h1⟩
theorem zOr.ok {b b2 : Nat} {t S : zM} (h : zOr b t S) (hne : b2 + 38 ≤ b ∨ b + 2 ≤ b2) (hk : zOK b2 t) : zOK b2 S := hk.fr (funext fun y => h b2 y (Or.inl (by omega))) (funext fun y => h (b2 + 35) y (Or.inl (by omega)))
theorem zOr.bits {b b2 : Nat} {t S : zM} (h : zOr b t S) (hne : b2 + 38 ≤ b ∨ b + 2 ≤ b2) (hb : zBits b2 t) : zBits b2 S := zBits_fr hb (fun i hi => funext fun y => h (b2 + 2 + i) y (Or.inl (by omega)))
theorem zOK.set {b2 b k : Nat} {t : zM} (h : zOK b2 t) (v : Int32) (h1 : b ≠ b2) (h2 : b ≠ b2 + 35) : zOK b2 (zset t b k v) := h.fr (zset_id _ _ _ (Ne.symm h1)) (zset_id _ _ _ (Ne.symm h2))
theorem zBits.set {b2 b k : Nat} {t : zM} (h : zBits b2 t) (v : Int32) (h1 : b < b2 + 2 ∨ b2 + 26 ≤ b) : zBits b2 (zset t b k v) := zBits_fr h (fun i hi => zset_id _ _ _ (by omega))
def lsX3_doAllIn_22 (b : Nat) (t : zM) (b2 : Nat) : Nat → Nat → zM → zM
  | 0, _, u => u
  | j + 1, k, u => (if 60 ≤ nI k then u else (if (u (b) 1) ≤ (u (b) 2) then u else (if (rX3_takeOrder (b) (zset u (b) 6 (u (b) 2))) = 0 then (zset (zset (sX3_takeOrder (b) (zset u (b) 6 (u (b) 2))) (b) 8 1) (b) 9 (((sX3_takeOrder (b) (zset u (b) 6 (u (b) 2))) (b) 2) - (u (b) 2))) else (if 0 ≤ (rX5_obey (b2) (sX3_takeOrder (b) (zset u (b) 6 (u (b) 2))) ((sX3_takeOrder (b) (zset u (b) 6 (u (b) 2))) (b) 3) ((sX3_takeOrder (b) (zset u (b) 6 (u (b) 2))) (b) 4) ((sX3_takeOrder (b) (zset u (b) 6 (u (b) 2))) (b) 5) (((sX3_takeOrder (b) (zset u (b) 6 (u (b) 2))) (b2) 5).toNatClampNeg)) then (lsX3_doAllIn_22 b t b2 j (k + 1) (zset (sX5_obey (b2) (sX3_takeOrder (b) (zset u (b) 6 (u (b) 2))) ((sX3_takeOrder (b) (zset u (b) 6 (u (b) 2))) (b) 3) ((sX3_takeOrder (b) (zset u (b) 6 (u (b) 2))) (b) 4) ((sX3_takeOrder (b) (zset u (b) 6 (u (b) 2))) (b) 5) (((sX3_takeOrder (b) (zset u (b) 6 (u (b) 2))) (b2) 5).toNatClampNeg)) (b) 7 ((u (b) 7) + 1))) else (zset (zset (sX5_obey (b2) (sX3_takeOrder (b) (zset u (b) 6 (u (b) 2))) ((sX3_takeOrder (b) (zset u (b) 6 (u (b) 2))) (b) 3) ((sX3_takeOrder (b) (zset u (b) 6 (u (b) 2))) (b) 4) ((sX3_takeOrder (b) (zset u (b) 6 (u (b) 2))) (b) 5) (((sX3_takeOrder (b) (zset u (b) 6 (u (b) 2))) (b2) 5).toNatClampNeg)) (b) 8 2) (b) 9 (rX5_obey (b2) (sX3_takeOrder (b) (zset u (b) 6 (u (b) 2))) ((sX3_takeOrder (b) (zset u (b) 6 (u (b) 2))) (b) 3) ((sX3_takeOrder (b) (zset u (b) 6 (u (b) 2))) (b) 4) ((sX3_takeOrder (b) (zset u (b) 6 (u (b) 2))) (b) 5) (((sX3_takeOrder (b) (zset u (b) 6 (u (b) 2))) (b2) 5).toNatClampNeg)))))))
def sX3_doAllIn (b : Nat) (t : zM) (b2 : Nat) : zM := (lsX3_doAllIn_22 b t b2 61 0 (zset (zset (zset (zset t (b) 2 0) (b) 8 0) (b) 9 0) (b) 7 0))
theorem mX3_doAllIn_f21 : Cond.fieldLink RX3 21 "WrongedMeters$Orders" "position" "I" ∈ wsX3_doAllIn := by decide +kernel
set_option maxRecDepth 20000 in
theorem mX3_doAllIn_in3 : ∀ w ∈ u_ws RX3 TX3 10, w ∈ wsX3_doAllIn := by decide +kernel
theorem mX3_doAllIn_f24 : Cond.fieldLink RX3 24 "WrongedMeters$Orders" "reason" "I" ∈ wsX3_doAllIn := by decide +kernel
theorem mX3_doAllIn_f27 : Cond.fieldLink RX3 27 "WrongedMeters$Orders" "cause" "I" ∈ wsX3_doAllIn := by decide +kernel
theorem mX3_doAllIn_f30 : Cond.fieldLink RX3 30 "WrongedMeters$Orders" "done" "I" ∈ wsX3_doAllIn := by decide +kernel
theorem mX3_doAllIn_f16 : Cond.fieldLink RX3 16 "WrongedMeters$Orders" "length" "I" ∈ wsX3_doAllIn := by decide +kernel
theorem mX3_doAllIn_f33 : Cond.fieldLink RX3 33 "WrongedMeters$Orders" "start" "I" ∈ wsX3_doAllIn := by decide +kernel
theorem mX3_doAllIn_f40 : Cond.fieldLink RX3 40 "WrongedMeters$Orders" "letter" "I" ∈ wsX3_doAllIn := by decide +kernel
theorem mX3_doAllIn_f43 : Cond.fieldLink RX3 43 "WrongedMeters$Orders" "first" "I" ∈ wsX3_doAllIn := by decide +kernel
theorem mX3_doAllIn_f46 : Cond.fieldLink RX3 46 "WrongedMeters$Orders" "second" "I" ∈ wsX3_doAllIn := by decide +kernel
theorem hyX3_doAllIn : yX3_doAllIn.cls = RX3 ∧ yX3_doAllIn.cls ≠ "java/lang/invoke/MethodHandle" ∧ yX3_doAllIn.cls ≠ "java/lang/invoke/VarHandle" ∧ (parseMethodDescriptor yX3_doAllIn.desc).map (fun d => d.parameters.length) = some 1 := by decide +kernel
set_option maxHeartbeats 3000000 in
set_option maxRecDepth 100000 in
theorem kX3_doAllIn (l : Launch) (D : va_G) (cy : Nat → ClassId) (K : zK) (n : Nat) (ad : Nat → Nat) (hJ : zJ n ad) (b : Nat) (hO : zOrders cy K n ad b) (t : zM) (b2 : Nat) (hO2 : zTown cy K n ad b2) (hne : b2 + 38 ≤ b ∨ b + 2 ≤ b2) (hok : zOK b2 t) (hb : zBits b2 t) : zV l yX3_doAllIn wsX3_doAllIn 5 D cy K n ad t [.ref (ad (b)), .ref (ad (b2))] (fun t1 => t1 = sX3_doAllIn b t b2) := by
  refine z_startV (cc := cX3_doAllIn) (mL := 4) (ret := none) (own := RX3) rfl (by decide +kernel) rfl hJ (Nat.le_of_ble_eq_true rfl) ?_
  intro p e s m args below meth c A hA Q hQ C
  refine z_aload_n C 0 0 0 dX3_doAllIn_0 rfl rfl ?_
  refine z_iconst C 1 (v := 0) dX3_doAllIn_1 (by decide +kernel) ?_
  refine z_put C 2 (ty := .int) (b) 2 dX3_doAllIn_2 (Nat.lt_of_succ_lt hO.1) hO.2.1 mX3_doAllIn_in3 tyX3 tyX3_ok nmX3 rfl (by decide) mX3_doAllIn_f21 rfl (by decide +kernel) (vp_nar_int _) (zfit_i _) (fun _ => Nat.le_of_ble_eq_true rfl) (fun _ _ => rfl) ?_
  refine z_aload_n C 5 0 0 dX3_doAllIn_5 rfl rfl ?_
  refine z_iconst C 6 (v := 0) dX3_doAllIn_6 (by decide +kernel) ?_
  refine z_put C 7 (ty := .int) (b) 8 dX3_doAllIn_7 (Nat.lt_of_succ_lt hO.1) hO.2.1 mX3_doAllIn_in3 tyX3 tyX3_ok nmX3 rfl (by decide) mX3_doAllIn_f24 rfl (by decide +kernel) (vp_nar_int _) (zfit_i _) (fun _ => Nat.le_of_ble_eq_true rfl) (fun _ _ => rfl) ?_
  refine z_aload_n C 10 0 0 dX3_doAllIn_10 rfl rfl ?_
  refine z_iconst C 11 (v := 0) dX3_doAllIn_11 (by decide +kernel) ?_
  refine z_put C 12 (ty := .int) (b) 9 dX3_doAllIn_12 (Nat.lt_of_succ_lt hO.1) hO.2.1 mX3_doAllIn_in3 tyX3 tyX3_ok nmX3 rfl (by decide) mX3_doAllIn_f27 rfl (by decide +kernel) (vp_nar_int _) (zfit_i _) (fun _ => Nat.le_of_ble_eq_true rfl) (fun _ _ => rfl) ?_
  refine z_aload_n C 15 0 0 dX3_doAllIn_15 rfl rfl ?_
  refine z_iconst C 16 (v := 0) dX3_doAllIn_16 (by decide +kernel) ?_
  refine z_put C 17 (ty := .int) (b) 7 dX3_doAllIn_17 (Nat.lt_of_succ_lt hO.1) hO.2.1 mX3_doAllIn_in3 tyX3 tyX3_ok nmX3 rfl (by decide) mX3_doAllIn_f30 rfl (by decide +kernel) (vp_nar_int _) (zfit_i _) (fun _ => Nat.le_of_ble_eq_true rfl) (fun _ _ => rfl) ?_
  refine z_iconst C 20 (v := 0) dX3_doAllIn_20 (by decide +kernel) ?_
  refine z_istore_n C 21 2 ([(2, .int 0), (0, .ref (ad (b))), (1, .ref (ad (b2)))]) dX3_doAllIn_21 rfl (by decide) rfl ?_
  have L22 : ∀ (j : Nat) (k : Nat) (u : zM), (h0_22 : 61 ≤ k + j) → (hk : k ≤ 60) → (hok : zOK b2 u) → (hb : zBits b2 u) → (hS22 : sX3_doAllIn b t b2 = (lsX3_doAllIn_22 b t b2 j k u)) → Zw p l e (zR 5) s m args below meth c D A K n ad 4 Q 22 ([(2, .int (nI k)), (0, .ref (ad (b))), (1, .ref (ad (b2)))]) [] u := by
    intro j
    induction j with
    | zero =>
      intro k u h0_22 hk hok hb hS22
      exact absurd h0_22 (by omega)
    | succ j ih22 =>
      intro k u h0_22 hk hok hb hS22
      refine z_iload_n C 22 2 0 dX3_doAllIn_22 rfl rfl ?_
      refine z_bipush C 23 (v := 60) dX3_doAllIn_23 (by decide +kernel) ?_
      refine z_icmp_ge C 25 121 dX3_doAllIn_25 (by decide) (fun c25_1 => ?_) (fun c25_1 => ?_)
      · exact z_vret C 121 hA hQ rfl dX3_doAllIn_121 ((hS22.trans ((if_pos c25_1).trans rfl))).symm
      · refine z_aload_n C 28 0 1 dX3_doAllIn_28 rfl rfl ?_
        refine z_geti C 29 (b) 2 dX3_doAllIn_29 (Nat.lt_of_succ_lt hO.1) hO.2.1 mX3_doAllIn_in3 rfl (by decide) mX3_doAllIn_f21 (fun _ => rfl) ?_
        refine z_aload_n C 32 0 1 dX3_doAllIn_32 rfl rfl ?_
        refine z_geti C 33 (b) 1 dX3_doAllIn_33 (Nat.lt_of_succ_lt hO.1) hO.2.1 mX3_doAllIn_in3 rfl (by decide) mX3_doAllIn_f16 (fun _ => rfl) ?_
        refine z_icmp_ge C 36 121 dX3_doAllIn_36 (by decide) (fun c36_2 => ?_) (fun c36_2 => ?_)
        · exact z_vret C 121 hA hQ rfl dX3_doAllIn_121 ((hS22.trans ((if_neg c25_1).trans ((if_pos c36_2).trans rfl)))).symm
        · refine z_aload_n C 39 0 1 dX3_doAllIn_39 rfl rfl ?_
          refine z_aload_n C 40 0 1 dX3_doAllIn_40 rfl rfl ?_
          refine z_geti C 41 (b) 2 dX3_doAllIn_41 (Nat.lt_of_succ_lt hO.1) hO.2.1 mX3_doAllIn_in3 rfl (by decide) mX3_doAllIn_f21 (fun _ => rfl) ?_
          refine z_put C 44 (ty := .int) (b) 6 dX3_doAllIn_44 (Nat.lt_of_succ_lt hO.1) hO.2.1 mX3_doAllIn_in3 tyX3 tyX3_ok nmX3 rfl (by decide) mX3_doAllIn_f33 rfl (by decide +kernel) (vp_nar_int _) (zfit_i _) (fun _ => Nat.le_of_ble_eq_true rfl) (fun _ _ => rfl) ?_
          refine z_aload_n C 47 0 1 dX3_doAllIn_47 rfl rfl ?_
          refine z_virtIe C 48 (As := []) (st := []) (id := b) (kX3_takeOrder l D cy K n ad hJ (b) hO (zset u (b) 6 (u (b) 2))  ) dX3_doAllIn_48 rfl gX3_doAllIn_X3_takeOrder hyX3_takeOrder rfl (by decide) (by decide) (Nat.lt_of_succ_lt hO.1) rfl hO.2.1 rfl rfl rfl (Nat.le_of_ble_eq_true rfl) ?_
          refine z_if_ne C 51 73 dX3_doAllIn_51 (by decide) (fun c51_4 => ?_) (fun c51_4 => ?_)
          · have hr9 := sX3_takeOrder_k b (zset u b 6 (u b 2))
            have hr8 : zOK b2 (zset u b 6 (u b 2)) := hok.set _ (by omega) (by omega)
            have hr7 : zBits b2 (zset u b 6 (u b 2)) := hb.set _ (by omega)
            have hok9 := hr9.ok hne hr8
            have hb9 := hr9.bits hne hr7
            have hc9 := hok9.c
            refine z_aload_n C 73 1 2 dX3_doAllIn_73 rfl rfl ?_
            refine z_aload_n C 74 0 1 dX3_doAllIn_74 rfl rfl ?_
            refine z_geti C 75 (b) 3 dX3_doAllIn_75 (Nat.lt_of_succ_lt hO.1) hO.2.1 mX3_doAllIn_in3 rfl (by decide) mX3_doAllIn_f40 (fun _ => rfl) ?_
            refine z_aload_n C 78 0 1 dX3_doAllIn_78 rfl rfl ?_
            refine z_geti C 79 (b) 4 dX3_doAllIn_79 (Nat.lt_of_succ_lt hO.1) hO.2.1 mX3_doAllIn_in3 rfl (by decide) mX3_doAllIn_f43 (fun _ => rfl) ?_
            refine z_aload_n C 82 0 1 dX3_doAllIn_82 rfl rfl ?_
            refine z_geti C 83 (b) 5 dX3_doAllIn_83 (Nat.lt_of_succ_lt hO.1) hO.2.1 mX3_doAllIn_in3 rfl (by decide) mX3_doAllIn_f46 (fun _ => rfl) ?_
            refine z_virtIe C 86 (As := [.int ((sX3_takeOrder (b) (zset u (b) 6 (u (b) 2))) (b) 3), .int ((sX3_takeOrder (b) (zset u (b) 6 (u (b) 2))) (b) 4), .int ((sX3_takeOrder (b) (zset u (b) 6 (u (b) 2))) (b) 5)]) (st := []) (id := b2) (kX5_obey l D cy K n ad hJ (b2) hO2 (sX3_takeOrder (b) (zset u (b) 6 (u (b) 2))) ((sX3_takeOrder (b) (zset u (b) 6 (u (b) 2))) (b) 3) ((sX3_takeOrder (b) (zset u (b) 6 (u (b) 2))) (b) 4) ((sX3_takeOrder (b) (zset u (b) 6 (u (b) 2))) (b) 5) (((sX3_takeOrder (b) (zset u (b) 6 (u (b) 2))) (b2) 5).toNatClampNeg) (Nat.le_trans hc9.1 (by decide)) hc9.2) dX3_doAllIn_86 rfl gX3_doAllIn_X5_obey hyX5_obey rfl (by decide) (by decide) hO2.h0 rfl hO2.e0 rfl rfl rfl (Nat.le_of_ble_eq_true rfl) ?_
            refine z_istore_n C 89 3 ([(3, .int (rX5_obey (b2) (sX3_takeOrder (b) (zset u (b) 6 (u (b) 2))) ((sX3_takeOrder (b) (zset u (b) 6 (u (b) 2))) (b) 3) ((sX3_takeOrder (b) (zset u (b) 6 (u (b) 2))) (b) 4) ((sX3_takeOrder (b) (zset u (b) 6 (u (b) 2))) (b) 5) (((sX3_takeOrder (b) (zset u (b) 6 (u (b) 2))) (b2) 5).toNatClampNeg))), (2, .int (nI k)), (0, .ref (ad (b))), (1, .ref (ad (b2)))]) dX3_doAllIn_89 rfl (by decide) rfl ?_
            have hk9 := sX5_obey_K hok9 hb9 ((sX3_takeOrder b (zset u b 6 (u b 2))) b 3) ((sX3_takeOrder b (zset u b 6 (u b 2))) b 4) ((sX3_takeOrder b (zset u b 6 (u b 2))) b 5)
            refine z_iload_n C 90 3 0 dX3_doAllIn_90 rfl rfl ?_
            refine z_if_ge C 91 105 dX3_doAllIn_91 (by decide) (fun c91_6 => ?_) (fun c91_6 => ?_)
            · refine z_aload_n C 105 0 2 dX3_doAllIn_105 rfl rfl ?_
              refine z_dup C 106 dX3_doAllIn_106 rfl ?_
              refine z_geti C 107 (b) 7 dX3_doAllIn_107 (Nat.lt_of_succ_lt hO.1) hO.2.1 mX3_doAllIn_in3 rfl (by decide) mX3_doAllIn_f30 (fun _ => rfl) ?_
              refine z_nv (u (b) 7) ((congrFun (hk9.2.2 (b) (by omega)) 7).trans ((sX3_takeOrder_k _ _ _ 7 (Or.inr (by decide))).trans ((zset_nk _ _ _ (by decide)).trans rfl))) ?_
              refine z_iconst C 110 (v := 1) dX3_doAllIn_110 (by decide +kernel) ?_
              refine z_iadd C 111 dX3_doAllIn_111 ?_
              refine z_put C 112 (ty := .int) (b) 7 dX3_doAllIn_112 (Nat.lt_of_succ_lt hO.1) hO.2.1 mX3_doAllIn_in3 tyX3 tyX3_ok nmX3 rfl (by decide) mX3_doAllIn_f30 rfl (by decide +kernel) (vp_nar_int _) (zfit_i _) (fun _ => Nat.le_of_ble_eq_true rfl) (fun _ _ => rfl) ?_
              refine z_iinc C 115 (v := nI (k + 1)) 2 1 ([(2, .int (nI (k + 1))), (3, .int (rX5_obey (b2) (sX3_takeOrder (b) (zset u (b) 6 (u (b) 2))) ((sX3_takeOrder (b) (zset u (b) 6 (u (b) 2))) (b) 3) ((sX3_takeOrder (b) (zset u (b) 6 (u (b) 2))) (b) 4) ((sX3_takeOrder (b) (zset u (b) 6 (u (b) 2))) (b) 5) (((sX3_takeOrder (b) (zset u (b) 6 (u (b) 2))) (b2) 5).toNatClampNeg))), (0, .ref (ad (b))), (1, .ref (ad (b2)))]) dX3_doAllIn_115 rfl (nI_1 _) (by decide) rfl ?_
              refine z_goto C 118 22 dX3_doAllIn_118 (by decide) ?_
              refine z_ls [0, 2, 3] _ rfl ?_
              exact ih22 (k + 1) (zset (sX5_obey (b2) (sX3_takeOrder (b) (zset u (b) 6 (u (b) 2))) ((sX3_takeOrder (b) (zset u (b) 6 (u (b) 2))) (b) 3) ((sX3_takeOrder (b) (zset u (b) 6 (u (b) 2))) (b) 4) ((sX3_takeOrder (b) (zset u (b) 6 (u (b) 2))) (b) 5) (((sX3_takeOrder (b) (zset u (b) 6 (u (b) 2))) (b2) 5).toNatClampNeg)) (b) 7 ((u (b) 7) + 1)) (by omega) (by have := zge (b := 60) (by omega) (by decide) ‹¬ (60 : Int32) ≤ nI k›; omega) (hk9.1.set _ (by omega) (by omega)) (hk9.2.1.set _ (by omega)) (hS22.trans ((if_neg c25_1).trans ((if_neg c36_2).trans ((if_neg c51_4).trans ((if_pos c91_6).trans rfl)))))
            · refine z_aload_n C 94 0 2 dX3_doAllIn_94 rfl rfl ?_
              refine z_iconst C 95 (v := 2) dX3_doAllIn_95 (by decide +kernel) ?_
              refine z_put C 96 (ty := .int) (b) 8 dX3_doAllIn_96 (Nat.lt_of_succ_lt hO.1) hO.2.1 mX3_doAllIn_in3 tyX3 tyX3_ok nmX3 rfl (by decide) mX3_doAllIn_f24 rfl (by decide +kernel) (vp_nar_int _) (zfit_i _) (fun _ => Nat.le_of_ble_eq_true rfl) (fun _ _ => rfl) ?_
              refine z_aload_n C 99 0 2 dX3_doAllIn_99 rfl rfl ?_
              refine z_iload_n C 100 3 0 dX3_doAllIn_100 rfl rfl ?_
              refine z_put C 101 (ty := .int) (b) 9 dX3_doAllIn_101 (Nat.lt_of_succ_lt hO.1) hO.2.1 mX3_doAllIn_in3 tyX3 tyX3_ok nmX3 rfl (by decide) mX3_doAllIn_f27 rfl (by decide +kernel) (vp_nar_int _) (zfit_i _) (fun _ => Nat.le_of_ble_eq_true rfl) (fun _ _ => rfl) ?_
              exact z_vret C 104 hA hQ rfl dX3_doAllIn_104 ((hS22.trans ((if_neg c25_1).trans ((if_neg c36_2).trans ((if_neg c51_4).trans ((if_neg c91_6).trans rfl)))))).symm
          · refine z_aload_n C 54 0 1 dX3_doAllIn_54 rfl rfl ?_
            refine z_iconst C 55 (v := 1) dX3_doAllIn_55 (by decide +kernel) ?_
            refine z_put C 56 (ty := .int) (b) 8 dX3_doAllIn_56 (Nat.lt_of_succ_lt hO.1) hO.2.1 mX3_doAllIn_in3 tyX3 tyX3_ok nmX3 rfl (by decide) mX3_doAllIn_f24 rfl (by decide +kernel) (vp_nar_int _) (zfit_i _) (fun _ => Nat.le_of_ble_eq_true rfl) (fun _ _ => rfl) ?_
            refine z_aload_n C 59 0 1 dX3_doAllIn_59 rfl rfl ?_
            refine z_aload_n C 60 0 1 dX3_doAllIn_60 rfl rfl ?_
            refine z_geti C 61 (b) 2 dX3_doAllIn_61 (Nat.lt_of_succ_lt hO.1) hO.2.1 mX3_doAllIn_in3 rfl (by decide) mX3_doAllIn_f21 (fun _ => rfl) ?_
            refine z_nv ((sX3_takeOrder (b) (zset u (b) 6 (u (b) 2))) (b) 2) ((zset_nk _ _ _ (by decide)).trans rfl) ?_
            refine z_aload_n C 64 0 1 dX3_doAllIn_64 rfl rfl ?_
            refine z_geti C 65 (b) 6 dX3_doAllIn_65 (Nat.lt_of_succ_lt hO.1) hO.2.1 mX3_doAllIn_in3 rfl (by decide) mX3_doAllIn_f33 (fun _ => rfl) ?_
            refine z_nv (u (b) 2) ((zset_nk _ _ _ (by decide)).trans ((sX3_takeOrder_k _ _ _ 6 (Or.inr (by decide))).trans (zset_eq _ _ _ _))) ?_
            refine z_isub C 68 dX3_doAllIn_68 ?_
            refine z_put C 69 (ty := .int) (b) 9 dX3_doAllIn_69 (Nat.lt_of_succ_lt hO.1) hO.2.1 mX3_doAllIn_in3 tyX3 tyX3_ok nmX3 rfl (by decide) mX3_doAllIn_f27 rfl (by decide +kernel) (vp_nar_int _) (zfit_i _) (fun _ => Nat.le_of_ble_eq_true rfl) (fun _ _ => rfl) ?_
            exact z_vret C 72 hA hQ rfl dX3_doAllIn_72 ((hS22.trans ((if_neg c25_1).trans ((if_neg c36_2).trans ((if_pos c51_4).trans rfl))))).symm
  refine z_ls [0, 1, 2] _ rfl ?_
  exact L22 (61) 0 (zset (zset (zset (zset t (b) 2 0) (b) 8 0) (b) 9 0) (b) 7 0) (by omega) (by decide) ((((hok.set _ (by omega) (by omega)).set _ (by omega) (by omega)).set _ (by omega) (by omega)).set _ (by omega) (by omega)) ((((hb.set _ (by omega)).set _ (by omega)).set _ (by omega)).set _ (by omega)) rfl
