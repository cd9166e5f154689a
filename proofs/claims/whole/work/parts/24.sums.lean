theorem mP_dec {t : zM} (h : mP t) (c : ¬ t 0 4 = 0) : (t 0 4 - 1).toNatClampNeg ≤ 3 ∧ t 0 4 - 1 = nI (t 0 4 - 1).toNatClampNeg := by
  obtain ⟨P, hP, e⟩ := h
  rw [e] at c ⊢
  have h1 : 1 ≤ P := by
    rcases Nat.eq_zero_or_pos P with q | q
    · subst q; exact absurd rfl c
    · exact q
  refine mP3 (P := P - 1) (nI_sub (b := 1) h1) (by omega)
def mT (t : zM) : Prop := ∃ T, T ≤ 60 ∧ t 0 7 = nI T
theorem mT_c {t : zM} (h : mT t) : (t 0 7).toNatClampNeg ≤ 60 ∧ t 0 7 = nI (t 0 7).toNatClampNeg := by
  obtain ⟨T, hT, e⟩ := h
  rw [e, nI_clamp (by omega)]
  exact ⟨hT, rfl⟩
theorem mT_ne {t : zM} (h : mT t) (c : ¬ t 0 7 = 60) : (t 0 7).toNatClampNeg < 60 := by
  obtain ⟨T, hT, e⟩ := h
  rw [e] at c ⊢
  rw [nI_clamp (by omega)]
  rcases Nat.lt_or_ge T 60 with q | q
  · exact q
  · have : T = 60 := by omega
    subst this
    exact absurd rfl c
def lX7_locked_4 (t : zM) : Nat → Nat → Int32 → Int32
  | 0, _, _ => 0
  | j + 1, k, v => (if (t (1) 401) ≤ nI k then v else (lX7_locked_4 t j (k + 1) (v + (t (1) (14 * k + 6)))))
def rX7_locked (t : zM)  : Int32 := (lX7_locked_4 t 25 0 0)
theorem mX7_locked_f7 : Cond.fieldLink RX7 7 "WrongedMetersModel" "s" "[I" ∈ wsX7_locked := by decide +kernel
set_option maxRecDepth 20000 in
theorem mX7_locked_in7 : ∀ w ∈ u_ws RX7 TX7 16, w ∈ wsX7_locked := by decide +kernel
theorem hyX7_locked : yX7_locked.cls = RX7 ∧ yX7_locked.cls ≠ "java/lang/invoke/MethodHandle" ∧ yX7_locked.cls ≠ "java/lang/invoke/VarHandle" ∧ (parseMethodDescriptor yX7_locked.desc).map (fun d => d.parameters.length) = some 0 := by decide +kernel
set_option maxHeartbeats 3000000 in
set_option maxRecDepth 100000 in
theorem kX7_locked (l : Launch) (D : va_G) (cy : Nat → ClassId) (K : zK) (n : Nat) (ad : Nat → Nat) (hJ : zJ n ad) (hO : zModel cy K n ad) (t : zM) (H N : Nat) (hm : mS H N t) : zI l yX7_locked wsX7_locked 1 D cy K n ad t [.ref (ad (0))] (fun r t1 => r = rX7_locked t ∧ t1 = t) := by
  refine z_startI (cc := cX7_locked) (mL := 3) (ret := (some .int)) (own := RX7) rfl (by decide +kernel) rfl hJ (Nat.le_of_ble_eq_true rfl) ?_
  intro p e s m args below meth c A hA Q hQ C
  refine z_iconst C 0 (v := 0) dX7_locked_0 (by decide +kernel) ?_
  refine z_istore_n C 1 1 ([(1, .int 0), (0, .ref (ad (0)))]) dX7_locked_1 rfl (by decide) rfl ?_
  refine z_iconst C 2 (v := 0) dX7_locked_2 (by decide +kernel) ?_
  refine z_istore_n C 3 2 ([(2, .int 0), (1, .int 0), (0, .ref (ad (0)))]) dX7_locked_3 rfl (by decide) rfl ?_
  have L4 : ∀ (j : Nat) (k : Nat) (v : Int32), (h0_4 : 25 ≤ k + j) → (hk : k ≤ H) → (hI4 : rX7_locked t = (lX7_locked_4 t j k v)) → Zw p l e (zR 1) s m args below meth c D A K n ad 3 Q 4 ([(2, .int (nI k)), (1, .int v), (0, .ref (ad (0)))]) [] t := by
    intro j
    induction j with
    | zero =>
      intro k v h0_4 hk hI4
      exact absurd h0_4 (by have := hm.1; omega)
    | succ j ih4 =>
      intro k v h0_4 hk hI4
      refine z_iload_n C 4 2 0 dX7_locked_4 rfl rfl ?_
      refine z_aload_n C 5 0 2 dX7_locked_5 rfl rfl ?_
      refine z_getr C 6 (a9 := ad (1)) (0) 0 dX7_locked_6 hO.h0 hO.e0 mX7_locked_in7 rfl (by decide) mX7_locked_f7 (fun _ => rfl) ?_
      refine z_sipush C 9 (v := 401) dX7_locked_9 (by decide +kernel) ?_
      refine z_ialdN C 12 (1) 401 dX7_locked_12 hO.h1 hO.e1 rfl (by decide) (by decide) ?_
      refine z_icmp_ge C 13 32 dX7_locked_13 (by decide) (fun c13_1 => ?_) (fun c13_1 => ?_)
      · refine z_iload_n C 32 1 1 dX7_locked_32 rfl rfl ?_
        exact z_iret C 33 hA hQ rfl dX7_locked_33 ⟨((hI4.trans ((if_pos c13_1).trans rfl))).symm, rfl⟩
      · refine z_iload_n C 16 1 1 dX7_locked_16 rfl rfl ?_
        refine z_aload_n C 17 0 2 dX7_locked_17 rfl rfl ?_
        refine z_iload_n C 18 2 0 dX7_locked_18 rfl rfl ?_
        refine z_bipush C 19 (v := 6) dX7_locked_19 (by decide +kernel) ?_
        refine z_virtIe C 21 (As := [.int (nI k), .int 6]) (st := [.int v]) (id := 0) (kX7_of l D cy K n ad hJ hO t (nI k) 6 k 6 (Nat.lt_of_lt_of_le (hm.lt (Nat.le_trans hk hm.1) ‹¬ t (1) 401 ≤ nI k›) hm.1) (by decide) rfl rfl) dX7_locked_21 rfl gX7_locked_X7_of hyX7_of rfl (by decide) (by decide) hO.h0 rfl hO.e0 rfl rfl rfl (Nat.le_of_ble_eq_true rfl) ?_
        refine z_nv (t (1) (14 * k + 6)) rfl ?_
        refine z_iadd C 24 dX7_locked_24 ?_
        refine z_istore_n C 25 1 ([(1, .int (v + (t (1) (14 * k + 6)))), (2, .int (nI k)), (0, .ref (ad (0)))]) dX7_locked_25 rfl (by decide) rfl ?_
        refine z_iinc C 26 (v := nI (k + 1)) 2 1 ([(2, .int (nI (k + 1))), (1, .int (v + (t (1) (14 * k + 6)))), (0, .ref (ad (0)))]) dX7_locked_26 rfl (nI_1 _) (by decide) rfl ?_
        refine z_goto C 29 4 dX7_locked_29 (by decide) ?_
        refine z_ls [0, 1, 2] _ rfl ?_
        exact ih4 (k + 1) (v + (t (1) (14 * k + 6))) (by omega) (hm.lt (Nat.le_trans hk hm.1) ‹¬ t (1) 401 ≤ nI k›) (hI4.trans ((if_neg c13_1).trans rfl))
  refine z_ls [0, 1, 2] _ rfl ?_
  exact L4 (25) 0 0 (by omega) (Nat.zero_le _) rfl
def lX7_signed_4 (t : zM) (a1 : Int32) : Nat → Nat → Int32 → Int32
  | 0, _, _ => 0
  | j + 1, k, v => (if (t (1) 401) ≤ nI k then v else (if (a1 * (t (1) (14 * k + 4))) ≤ 0 then (lX7_signed_4 t a1 j (k + 1) (v + 0)) else (lX7_signed_4 t a1 j (k + 1) (v + 1))))
def rX7_signed (t : zM) (a1 : Int32) : Int32 := (lX7_signed_4 t a1 25 0 0)
theorem mX7_signed_f7 : Cond.fieldLink RX7 7 "WrongedMetersModel" "s" "[I" ∈ wsX7_signed := by decide +kernel
set_option maxRecDepth 20000 in
theorem mX7_signed_in7 : ∀ w ∈ u_ws RX7 TX7 16, w ∈ wsX7_signed := by decide +kernel
theorem hyX7_signed : yX7_signed.cls = RX7 ∧ yX7_signed.cls ≠ "java/lang/invoke/MethodHandle" ∧ yX7_signed.cls ≠ "java/lang/invoke/VarHandle" ∧ (parseMethodDescriptor yX7_signed.desc).map (fun d => d.parameters.length) = some 1 := by decide +kernel
set_option maxHeartbeats 3000000 in
set_option maxRecDepth 100000 in
theorem kX7_signed (l : Launch) (D : va_G) (cy : Nat → ClassId) (K : zK) (n : Nat) (ad : Nat → Nat) (hJ : zJ n ad) (hO : zModel cy K n ad) (t : zM) (a1 : Int32) (H N : Nat) (hm : mS H N t) : zI l yX7_signed wsX7_signed 1 D cy K n ad t [.ref (ad (0)), .int a1] (fun r t1 => r = rX7_signed t a1 ∧ t1 = t) := by
  refine z_startI (cc := cX7_signed) (mL := 4) (ret := (some .int)) (own := RX7) rfl (by decide +kernel) rfl hJ (Nat.le_of_ble_eq_true rfl) ?_
  intro p e s m args below meth c A hA Q hQ C
  refine z_iconst C 0 (v := 0) dX7_signed_0 (by decide +kernel) ?_
  refine z_istore_n C 1 2 ([(2, .int 0), (0, .ref (ad (0))), (1, .int a1)]) dX7_signed_1 rfl (by decide) rfl ?_
  refine z_iconst C 2 (v := 0) dX7_signed_2 (by decide +kernel) ?_
  refine z_istore_n C 3 3 ([(3, .int 0), (2, .int 0), (0, .ref (ad (0))), (1, .int a1)]) dX7_signed_3 rfl (by decide) rfl ?_
  have L4 : ∀ (j : Nat) (k : Nat) (v : Int32), (h0_4 : 25 ≤ k + j) → (hk : k ≤ H) → (hI4 : rX7_signed t a1 = (lX7_signed_4 t a1 j k v)) → Zw p l e (zR 1) s m args below meth c D A K n ad 4 Q 4 ([(3, .int (nI k)), (2, .int v), (0, .ref (ad (0))), (1, .int a1)]) [] t := by
    intro j
    induction j with
    | zero =>
      intro k v h0_4 hk hI4
      exact absurd h0_4 (by have := hm.1; omega)
    | succ j ih4 =>
      intro k v h0_4 hk hI4
      refine z_iload_n C 4 3 0 dX7_signed_4 rfl rfl ?_
      refine z_aload_n C 5 0 2 dX7_signed_5 rfl rfl ?_
      refine z_getr C 6 (a9 := ad (1)) (0) 0 dX7_signed_6 hO.h0 hO.e0 mX7_signed_in7 rfl (by decide) mX7_signed_f7 (fun _ => rfl) ?_
      refine z_sipush C 9 (v := 401) dX7_signed_9 (by decide +kernel) ?_
      refine z_ialdN C 12 (1) 401 dX7_signed_12 hO.h1 hO.e1 rfl (by decide) (by decide) ?_
      refine z_icmp_ge C 13 41 dX7_signed_13 (by decide) (fun c13_1 => ?_) (fun c13_1 => ?_)
      · refine z_iload_n C 41 2 1 dX7_signed_41 rfl rfl ?_
        exact z_iret C 42 hA hQ rfl dX7_signed_42 ⟨((hI4.trans ((if_pos c13_1).trans rfl))).symm, rfl⟩
      · refine z_iload_n C 16 2 1 dX7_signed_16 rfl rfl ?_
        refine z_iload_n C 17 1 3 dX7_signed_17 rfl rfl ?_
        refine z_aload_n C 18 0 2 dX7_signed_18 rfl rfl ?_
        refine z_iload_n C 19 3 0 dX7_signed_19 rfl rfl ?_
        refine z_iconst C 20 (v := 4) dX7_signed_20 (by decide +kernel) ?_
        refine z_virtIe C 21 (As := [.int (nI k), .int 4]) (st := [.int a1, .int v]) (id := 0) (kX7_of l D cy K n ad hJ hO t (nI k) 4 k 4 (Nat.lt_of_lt_of_le (hm.lt (Nat.le_trans hk hm.1) ‹¬ t (1) 401 ≤ nI k›) hm.1) (by decide) rfl rfl) dX7_signed_21 rfl gX7_signed_X7_of hyX7_of rfl (by decide) (by decide) hO.h0 rfl hO.e0 rfl rfl rfl (Nat.le_of_ble_eq_true rfl) ?_
        refine z_nv (t (1) (14 * k + 4)) rfl ?_
        refine z_imul C 24 dX7_signed_24 ?_
        refine z_if_le C 25 32 dX7_signed_25 (by decide) (fun c25_3 => ?_) (fun c25_3 => ?_)
        · refine z_iconst C 32 (v := 0) dX7_signed_32 (by decide +kernel) ?_
          refine z_iadd C 33 dX7_signed_33 ?_
          refine z_istore_n C 34 2 ([(2, .int (v + 0)), (3, .int (nI k)), (0, .ref (ad (0))), (1, .int a1)]) dX7_signed_34 rfl (by decide) rfl ?_
          refine z_iinc C 35 (v := nI (k + 1)) 3 1 ([(3, .int (nI (k + 1))), (2, .int (v + 0)), (0, .ref (ad (0))), (1, .int a1)]) dX7_signed_35 rfl (nI_1 _) (by decide) rfl ?_
          refine z_goto C 38 4 dX7_signed_38 (by decide) ?_
          refine z_ls [0, 1, 2, 3] _ rfl ?_
          exact ih4 (k + 1) (v + 0) (by omega) (hm.lt (Nat.le_trans hk hm.1) ‹¬ t (1) 401 ≤ nI k›) (hI4.trans ((if_neg c13_1).trans ((if_pos c25_3).trans rfl)))
        · refine z_iconst C 28 (v := 1) dX7_signed_28 (by decide +kernel) ?_
          refine z_goto C 29 33 dX7_signed_29 (by decide) ?_
          refine z_iadd C 33 dX7_signed_33 ?_
          refine z_istore_n C 34 2 ([(2, .int (v + 1)), (3, .int (nI k)), (0, .ref (ad (0))), (1, .int a1)]) dX7_signed_34 rfl (by decide) rfl ?_
          refine z_iinc C 35 (v := nI (k + 1)) 3 1 ([(3, .int (nI (k + 1))), (2, .int (v + 1)), (0, .ref (ad (0))), (1, .int a1)]) dX7_signed_35 rfl (nI_1 _) (by decide) rfl ?_
          refine z_goto C 38 4 dX7_signed_38 (by decide) ?_
          refine z_ls [0, 1, 2, 3] _ rfl ?_
          exact ih4 (k + 1) (v + 1) (by omega) (hm.lt (Nat.le_trans hk hm.1) ‹¬ t (1) 401 ≤ nI k›) (hI4.trans ((if_neg c13_1).trans ((if_neg c25_3).trans rfl)))
  refine z_ls [0, 1, 2, 3] _ rfl ?_
  exact L4 (25) 0 0 (by omega) (Nat.zero_le _) rfl
def lX7_balances_6 (t : zM) : Nat → Nat → Int32 → Int32
  | 0, _, _ => 0
  | j + 1, k, v => (if (t (1) 401) ≤ nI k then v else (lX7_balances_6 t j (k + 1) (v + (t (1) (14 * k + 4)))))
def rX7_balances (t : zM)  : Int32 := (lX7_balances_6 t 25 0 10000)
theorem mX7_balances_f7 : Cond.fieldLink RX7 7 "WrongedMetersModel" "s" "[I" ∈ wsX7_balances := by decide +kernel
set_option maxRecDepth 20000 in
theorem mX7_balances_in7 : ∀ w ∈ u_ws RX7 TX7 16, w ∈ wsX7_balances := by decide +kernel
theorem hyX7_balances : yX7_balances.cls = RX7 ∧ yX7_balances.cls ≠ "java/lang/invoke/MethodHandle" ∧ yX7_balances.cls ≠ "java/lang/invoke/VarHandle" ∧ (parseMethodDescriptor yX7_balances.desc).map (fun d => d.parameters.length) = some 0 := by decide +kernel
set_option maxHeartbeats 3000000 in
set_option maxRecDepth 100000 in
theorem kX7_balances (l : Launch) (D : va_G) (cy : Nat → ClassId) (K : zK) (n : Nat) (ad : Nat → Nat) (hJ : zJ n ad) (hO : zModel cy K n ad) (t : zM) (H N : Nat) (hm : mS H N t) : zI l yX7_balances wsX7_balances 1 D cy K n ad t [.ref (ad (0))] (fun r t1 => r = rX7_balances t ∧ t1 = t) := by
  refine z_startI (cc := cX7_balances) (mL := 3) (ret := (some .int)) (own := RX7) rfl (by decide +kernel) rfl hJ (Nat.le_of_ble_eq_true rfl) ?_
  intro p e s m args below meth c A hA Q hQ C
  refine z_sipush C 0 (v := 10000) dX7_balances_0 (by decide +kernel) ?_
  refine z_istore_n C 3 1 ([(1, .int 10000), (0, .ref (ad (0)))]) dX7_balances_3 rfl (by decide) rfl ?_
  refine z_iconst C 4 (v := 0) dX7_balances_4 (by decide +kernel) ?_
  refine z_istore_n C 5 2 ([(2, .int 0), (1, .int 10000), (0, .ref (ad (0)))]) dX7_balances_5 rfl (by decide) rfl ?_
  have L6 : ∀ (j : Nat) (k : Nat) (v : Int32), (h0_6 : 25 ≤ k + j) → (hk : k ≤ H) → (hI6 : rX7_balances t = (lX7_balances_6 t j k v)) → Zw p l e (zR 1) s m args below meth c D A K n ad 3 Q 6 ([(2, .int (nI k)), (1, .int v), (0, .ref (ad (0)))]) [] t := by
    intro j
    induction j with
    | zero =>
      intro k v h0_6 hk hI6
      exact absurd h0_6 (by have := hm.1; omega)
    | succ j ih6 =>
      intro k v h0_6 hk hI6
      refine z_iload_n C 6 2 0 dX7_balances_6 rfl rfl ?_
      refine z_aload_n C 7 0 2 dX7_balances_7 rfl rfl ?_
      refine z_getr C 8 (a9 := ad (1)) (0) 0 dX7_balances_8 hO.h0 hO.e0 mX7_balances_in7 rfl (by decide) mX7_balances_f7 (fun _ => rfl) ?_
      refine z_sipush C 11 (v := 401) dX7_balances_11 (by decide +kernel) ?_
      refine z_ialdN C 14 (1) 401 dX7_balances_14 hO.h1 hO.e1 rfl (by decide) (by decide) ?_
      refine z_icmp_ge C 15 33 dX7_balances_15 (by decide) (fun c15_1 => ?_) (fun c15_1 => ?_)
      · refine z_iload_n C 33 1 1 dX7_balances_33 rfl rfl ?_
        exact z_iret C 34 hA hQ rfl dX7_balances_34 ⟨((hI6.trans ((if_pos c15_1).trans rfl))).symm, rfl⟩
      · refine z_iload_n C 18 1 1 dX7_balances_18 rfl rfl ?_
        refine z_aload_n C 19 0 2 dX7_balances_19 rfl rfl ?_
        refine z_iload_n C 20 2 0 dX7_balances_20 rfl rfl ?_
        refine z_iconst C 21 (v := 4) dX7_balances_21 (by decide +kernel) ?_
        refine z_virtIe C 22 (As := [.int (nI k), .int 4]) (st := [.int v]) (id := 0) (kX7_of l D cy K n ad hJ hO t (nI k) 4 k 4 (Nat.lt_of_lt_of_le (hm.lt (Nat.le_trans hk hm.1) ‹¬ t (1) 401 ≤ nI k›) hm.1) (by decide) rfl rfl) dX7_balances_22 rfl gX7_balances_X7_of hyX7_of rfl (by decide) (by decide) hO.h0 rfl hO.e0 rfl rfl rfl (Nat.le_of_ble_eq_true rfl) ?_
        refine z_nv (t (1) (14 * k + 4)) rfl ?_
        refine z_iadd C 25 dX7_balances_25 ?_
        refine z_istore_n C 26 1 ([(1, .int (v + (t (1) (14 * k + 4)))), (2, .int (nI k)), (0, .ref (ad (0)))]) dX7_balances_26 rfl (by decide) rfl ?_
        refine z_iinc C 27 (v := nI (k + 1)) 2 1 ([(2, .int (nI (k + 1))), (1, .int (v + (t (1) (14 * k + 4)))), (0, .ref (ad (0)))]) dX7_balances_27 rfl (nI_1 _) (by decide) rfl ?_
        refine z_goto C 30 6 dX7_balances_30 (by decide) ?_
        refine z_ls [0, 1, 2] _ rfl ?_
        exact ih6 (k + 1) (v + (t (1) (14 * k + 4))) (by omega) (hm.lt (Nat.le_trans hk hm.1) ‹¬ t (1) 401 ≤ nI k›) (hI6.trans ((if_neg c15_1).trans rfl))
  refine z_ls [0, 1, 2] _ rfl ?_
  exact L6 (25) 0 10000 (by omega) (Nat.zero_le _) rfl
def lX7_wronged_26 (t : zM) (a1 : Int32) (k : Nat) : Nat → Nat → Int32 → Int32
  | 0, _, _ => 0
  | j9 + 1, j, v => (if (t (1) 401) ≤ nI j then v else (if 0 < ((t (1) (14 * j + 4)) - (t (1) (14 * k + 4))) then (lX7_wronged_26 t a1 k j9 (j + 1) (v + 1)) else (if ((t (1) (14 * j + 4)) - (t (1) (14 * k + 4))) = 0 then (if nI k ≤ nI j then (lX7_wronged_26 t a1 k j9 (j + 1) (v + 0)) else (lX7_wronged_26 t a1 k j9 (j + 1) (v + 1))) else (lX7_wronged_26 t a1 k j9 (j + 1) (v + 0)))))
def lX7_wronged_9 (t : zM) (a1 : Int32) : Nat → Nat → Int32
  | 0, _ => 0
  | i9 + 1, k => (if (t (1) 401) ≤ nI k then (-1000004) else (if (lX7_wronged_26 t a1 k 25 0 0) = a1 then nI k else (lX7_wronged_9 t a1 i9 (k + 1))))
def rX7_wronged (t : zM) (a1 : Int32) : Int32 := (if 0 ≤ a1 then (lX7_wronged_9 t a1 25 0) else (-1000001))
theorem mX7_wronged_f7 : Cond.fieldLink RX7 7 "WrongedMetersModel" "s" "[I" ∈ wsX7_wronged := by decide +kernel
set_option maxRecDepth 20000 in
theorem mX7_wronged_in7 : ∀ w ∈ u_ws RX7 TX7 16, w ∈ wsX7_wronged := by decide +kernel
theorem mX7_wronged_c47 : Cond.constant RX7 47 (-1000004) ∈ wsX7_wronged := by decide +kernel
theorem mX7_wronged_c96 : Cond.constant RX7 96 (-1000001) ∈ wsX7_wronged := by decide +kernel
theorem hyX7_wronged : yX7_wronged.cls = RX7 ∧ yX7_wronged.cls ≠ "java/lang/invoke/MethodHandle" ∧ yX7_wronged.cls ≠ "java/lang/invoke/VarHandle" ∧ (parseMethodDescriptor yX7_wronged.desc).map (fun d => d.parameters.length) = some 1 := by decide +kernel
set_option maxHeartbeats 3000000 in
set_option maxRecDepth 100000 in
theorem kX7_wronged (l : Launch) (D : va_G) (cy : Nat → ClassId) (K : zK) (n : Nat) (ad : Nat → Nat) (hJ : zJ n ad) (hO : zModel cy K n ad) (t : zM) (a1 : Int32) (H N : Nat) (hm : mS H N t) : zI l yX7_wronged wsX7_wronged 1 D cy K n ad t [.ref (ad (0)), .int a1] (fun r t1 => r = rX7_wronged t a1 ∧ t1 = t) := by
  refine z_startI (cc := cX7_wronged) (mL := 6) (ret := (some .int)) (own := RX7) rfl (by decide +kernel) rfl hJ (Nat.le_of_ble_eq_true rfl) ?_
  intro p e s m args below meth c A hA Q hQ C
  refine z_iload_n C 0 1 1 dX7_wronged_0 rfl rfl ?_
  refine z_if_ge C 1 7 dX7_wronged_1 (by decide) (fun c1_1 => ?_) (fun c1_1 => ?_)
  · refine z_iconst C 7 (v := 0) dX7_wronged_7 (by decide +kernel) ?_
    refine z_istore_n C 8 2 ([(2, .int 0), (0, .ref (ad (0))), (1, .int a1)]) dX7_wronged_8 rfl (by decide) rfl ?_
    have L9 : ∀ (i9 : Nat) (k : Nat), (h0_9 : 25 ≤ k + i9) → (hk : k ≤ H) → (hI9 : rX7_wronged t a1 = (lX7_wronged_9 t a1 i9 k)) → Zw p l e (zR 1) s m args below meth c D A K n ad 6 Q 9 ([(2, .int (nI k)), (0, .ref (ad (0))), (1, .int a1)]) [] t := by
      intro i9
      induction i9 with
      | zero =>
        intro k h0_9 hk hI9
        exact absurd h0_9 (by have := hm.1; omega)
      | succ i9 ih9 =>
        intro k h0_9 hk hI9
        refine z_iload_n C 9 2 0 dX7_wronged_9 rfl rfl ?_
        refine z_aload_n C 10 0 1 dX7_wronged_10 rfl rfl ?_
        refine z_getr C 11 (a9 := ad (1)) (0) 0 dX7_wronged_11 hO.h0 hO.e0 mX7_wronged_in7 rfl (by decide) mX7_wronged_f7 (fun _ => rfl) ?_
        refine z_sipush C 14 (v := 401) dX7_wronged_14 (by decide +kernel) ?_
        refine z_ialdN C 17 (1) 401 dX7_wronged_17 hO.h1 hO.e1 rfl (by decide) (by decide) ?_
        refine z_icmp_ge C 18 98 dX7_wronged_18 (by decide) (fun c18_2 => ?_) (fun c18_2 => ?_)
        · refine z_ldc C 98 (v := (-1000004)) dX7_wronged_98 mX7_wronged_c47 ?_
          exact z_iret C 100 hA hQ rfl dX7_wronged_100 ⟨((hI9.trans ((if_pos c18_2).trans rfl))).symm, rfl⟩
        · refine z_iconst C 21 (v := 0) dX7_wronged_21 (by decide +kernel) ?_
          refine z_istore_n C 22 3 ([(3, .int 0), (2, .int (nI k)), (0, .ref (ad (0))), (1, .int a1)]) dX7_wronged_22 rfl (by decide) rfl ?_
          refine z_iconst C 23 (v := 0) dX7_wronged_23 (by decide +kernel) ?_
          refine z_istore C 24 4 ([(4, .int 0), (3, .int 0), (2, .int (nI k)), (0, .ref (ad (0))), (1, .int a1)]) dX7_wronged_24 (by decide) rfl ?_
          have K26 : ∀ z26 : Int32, z26 = (lX7_wronged_26 t a1 k 25 0 0) → Zw p l e (zR 1) s m args below meth c D A K n ad 6 Q 85 ([(3, .int z26), (2, .int (nI k)), (0, .ref (ad (0))), (1, .int a1)]) [] t := by
            intro z26 ez26
            subst ez26
            refine z_iload_n C 85 3 0 dX7_wronged_85 rfl rfl ?_
            refine z_iload_n C 86 1 3 dX7_wronged_86 rfl rfl ?_
            refine z_icmp_ne C 87 92 dX7_wronged_87 (by decide) (fun c87_3 => ?_) (fun c87_3 => ?_)
            · refine z_iinc C 92 (v := nI (k + 1)) 2 1 ([(2, .int (nI (k + 1))), (3, .int (lX7_wronged_26 t a1 k 25 0 0)), (0, .ref (ad (0))), (1, .int a1)]) dX7_wronged_92 rfl (nI_1 _) (by decide) rfl ?_
              refine z_goto C 95 9 dX7_wronged_95 (by decide) ?_
              refine z_ls [0, 2, 3] _ rfl ?_
              exact ih9 (k + 1) (by omega) (hm.lt (Nat.le_trans hk hm.1) ‹¬ t (1) 401 ≤ nI k›) (hI9.trans ((if_neg c18_2).trans ((if_neg c87_3).trans rfl)))
            · refine z_iload_n C 90 2 1 dX7_wronged_90 rfl rfl ?_
              exact z_iret C 91 hA hQ rfl dX7_wronged_91 ⟨((hI9.trans ((if_neg c18_2).trans ((if_pos c87_3).trans rfl)))).symm, rfl⟩
          have L26 : ∀ (j9 : Nat) (j : Nat) (v : Int32), (h0_26 : 25 ≤ j + j9) → (hj : j ≤ H) → (hI26 : (lX7_wronged_26 t a1 k 25 0 0) = (lX7_wronged_26 t a1 k j9 j v)) → Zw p l e (zR 1) s m args below meth c D A K n ad 6 Q 26 ([(4, .int (nI j)), (3, .int v), (2, .int (nI k)), (0, .ref (ad (0))), (1, .int a1)]) [] t := by
            intro j9
            induction j9 with
            | zero =>
              intro j v h0_26 hj hI26
              exact absurd h0_26 (by have := hm.1; omega)
            | succ j9 ih26 =>
              intro j v h0_26 hj hI26
              refine z_iload C 26 4 0 dX7_wronged_26 rfl ?_
              refine z_aload_n C 28 0 3 dX7_wronged_28 rfl rfl ?_
              refine z_getr C 29 (a9 := ad (1)) (0) 0 dX7_wronged_29 hO.h0 hO.e0 mX7_wronged_in7 rfl (by decide) mX7_wronged_f7 (fun _ => rfl) ?_
              refine z_sipush C 32 (v := 401) dX7_wronged_32 (by decide +kernel) ?_
              refine z_ialdN C 35 (1) 401 dX7_wronged_35 hO.h1 hO.e1 rfl (by decide) (by decide) ?_
              refine z_icmp_ge C 36 85 dX7_wronged_36 (by decide) (fun c36_4 => ?_) (fun c36_4 => ?_)
              · refine z_ls [1, 2, 3, 4] _ rfl ?_
                exact (K26 _ (hI26.trans ((if_pos c36_4).trans rfl)).symm)
              · refine z_aload_n C 39 0 3 dX7_wronged_39 rfl rfl ?_
                refine z_iload C 40 4 0 dX7_wronged_40 rfl ?_
                refine z_iconst C 42 (v := 4) dX7_wronged_42 (by decide +kernel) ?_
                refine z_virtIe C 43 (As := [.int (nI j), .int 4]) (st := []) (id := 0) (kX7_of l D cy K n ad hJ hO t (nI j) 4 j 4 (Nat.lt_of_lt_of_le (hm.lt (Nat.le_trans hj hm.1) ‹¬ t (1) 401 ≤ nI j›) hm.1) (by decide) rfl rfl) dX7_wronged_43 rfl gX7_wronged_X7_of hyX7_of rfl (by decide) (by decide) hO.h0 rfl hO.e0 rfl rfl rfl (Nat.le_of_ble_eq_true rfl) ?_
                refine z_nv (t (1) (14 * j + 4)) rfl ?_
                refine z_aload_n C 46 0 3 dX7_wronged_46 rfl rfl ?_
                refine z_iload_n C 47 2 2 dX7_wronged_47 rfl rfl ?_
                refine z_iconst C 48 (v := 4) dX7_wronged_48 (by decide +kernel) ?_
                refine z_virtIe C 49 (As := [.int (nI k), .int 4]) (st := [.int (t (1) (14 * j + 4))]) (id := 0) (kX7_of l D cy K n ad hJ hO t (nI k) 4 k 4 (Nat.lt_of_lt_of_le (hm.lt (Nat.le_trans hk hm.1) ‹¬ t (1) 401 ≤ nI k›) hm.1) (by decide) rfl rfl) dX7_wronged_49 rfl gX7_wronged_X7_of hyX7_of rfl (by decide) (by decide) hO.h0 rfl hO.e0 rfl rfl rfl (Nat.le_of_ble_eq_true rfl) ?_
                refine z_nv (t (1) (14 * k + 4)) rfl ?_
                refine z_isub C 52 dX7_wronged_52 ?_
                refine z_istore C 53 5 ([(5, .int ((t (1) (14 * j + 4)) - (t (1) (14 * k + 4)))), (4, .int (nI j)), (3, .int v), (2, .int (nI k)), (0, .ref (ad (0))), (1, .int a1)]) dX7_wronged_53 (by decide) rfl ?_
                refine z_iload_n C 55 3 2 dX7_wronged_55 rfl rfl ?_
                refine z_iload C 56 5 0 dX7_wronged_56 rfl ?_
                refine z_if_gt C 58 72 dX7_wronged_58 (by decide) (fun c58_7 => ?_) (fun c58_7 => ?_)
                · refine z_iconst C 72 (v := 1) dX7_wronged_72 (by decide +kernel) ?_
                  refine z_goto C 73 77 dX7_wronged_73 (by decide) ?_
                  refine z_iadd C 77 dX7_wronged_77 ?_
                  refine z_istore_n C 78 3 ([(3, .int (v + 1)), (5, .int ((t (1) (14 * j + 4)) - (t (1) (14 * k + 4)))), (4, .int (nI j)), (2, .int (nI k)), (0, .ref (ad (0))), (1, .int a1)]) dX7_wronged_78 rfl (by decide) rfl ?_
                  refine z_iinc C 79 (v := nI (j + 1)) 4 2 ([(4, .int (nI (j + 1))), (3, .int (v + 1)), (5, .int ((t (1) (14 * j + 4)) - (t (1) (14 * k + 4)))), (2, .int (nI k)), (0, .ref (ad (0))), (1, .int a1)]) dX7_wronged_79 rfl (nI_1 _) (by decide) rfl ?_
                  refine z_goto C 82 26 dX7_wronged_82 (by decide) ?_
                  refine z_ls [0, 1, 3, 4, 5] _ rfl ?_
                  exact ih26 (j + 1) (v + 1) (by omega) (hm.lt (Nat.le_trans hj hm.1) ‹¬ t (1) 401 ≤ nI j›) (hI26.trans ((if_neg c36_4).trans ((if_pos c58_7).trans rfl)))
                · refine z_iload C 61 5 0 dX7_wronged_61 rfl ?_
                  refine z_if_ne C 63 76 dX7_wronged_63 (by decide) (fun c63_8 => ?_) (fun c63_8 => ?_)
                  · refine z_iconst C 76 (v := 0) dX7_wronged_76 (by decide +kernel) ?_
                    refine z_iadd C 77 dX7_wronged_77 ?_
                    refine z_istore_n C 78 3 ([(3, .int (v + 0)), (5, .int ((t (1) (14 * j + 4)) - (t (1) (14 * k + 4)))), (4, .int (nI j)), (2, .int (nI k)), (0, .ref (ad (0))), (1, .int a1)]) dX7_wronged_78 rfl (by decide) rfl ?_
                    refine z_iinc C 79 (v := nI (j + 1)) 4 2 ([(4, .int (nI (j + 1))), (3, .int (v + 0)), (5, .int ((t (1) (14 * j + 4)) - (t (1) (14 * k + 4)))), (2, .int (nI k)), (0, .ref (ad (0))), (1, .int a1)]) dX7_wronged_79 rfl (nI_1 _) (by decide) rfl ?_
                    refine z_goto C 82 26 dX7_wronged_82 (by decide) ?_
                    refine z_ls [0, 1, 3, 4, 5] _ rfl ?_
                    exact ih26 (j + 1) (v + 0) (by omega) (hm.lt (Nat.le_trans hj hm.1) ‹¬ t (1) 401 ≤ nI j›) (hI26.trans ((if_neg c36_4).trans ((if_neg c58_7).trans ((if_neg c63_8).trans rfl))))
                  · refine z_iload C 66 4 1 dX7_wronged_66 rfl ?_
                    refine z_iload_n C 68 2 3 dX7_wronged_68 rfl rfl ?_
                    refine z_icmp_ge C 69 76 dX7_wronged_69 (by decide) (fun c69_9 => ?_) (fun c69_9 => ?_)
                    · refine z_iconst C 76 (v := 0) dX7_wronged_76 (by decide +kernel) ?_
                      refine z_iadd C 77 dX7_wronged_77 ?_
                      refine z_istore_n C 78 3 ([(3, .int (v + 0)), (5, .int ((t (1) (14 * j + 4)) - (t (1) (14 * k + 4)))), (4, .int (nI j)), (2, .int (nI k)), (0, .ref (ad (0))), (1, .int a1)]) dX7_wronged_78 rfl (by decide) rfl ?_
                      refine z_iinc C 79 (v := nI (j + 1)) 4 2 ([(4, .int (nI (j + 1))), (3, .int (v + 0)), (5, .int ((t (1) (14 * j + 4)) - (t (1) (14 * k + 4)))), (2, .int (nI k)), (0, .ref (ad (0))), (1, .int a1)]) dX7_wronged_79 rfl (nI_1 _) (by decide) rfl ?_
                      refine z_goto C 82 26 dX7_wronged_82 (by decide) ?_
                      refine z_ls [0, 1, 3, 4, 5] _ rfl ?_
                      exact ih26 (j + 1) (v + 0) (by omega) (hm.lt (Nat.le_trans hj hm.1) ‹¬ t (1) 401 ≤ nI j›) (hI26.trans ((if_neg c36_4).trans ((if_neg c58_7).trans ((if_pos c63_8).trans ((if_pos c69_9).trans rfl)))))
                    · refine z_iconst C 72 (v := 1) dX7_wronged_72 (by decide +kernel) ?_
                      refine z_goto C 73 77 dX7_wronged_73 (by decide) ?_
                      refine z_iadd C 77 dX7_wronged_77 ?_
                      refine z_istore_n C 78 3 ([(3, .int (v + 1)), (5, .int ((t (1) (14 * j + 4)) - (t (1) (14 * k + 4)))), (4, .int (nI j)), (2, .int (nI k)), (0, .ref (ad (0))), (1, .int a1)]) dX7_wronged_78 rfl (by decide) rfl ?_
                      refine z_iinc C 79 (v := nI (j + 1)) 4 2 ([(4, .int (nI (j + 1))), (3, .int (v + 1)), (5, .int ((t (1) (14 * j + 4)) - (t (1) (14 * k + 4)))), (2, .int (nI k)), (0, .ref (ad (0))), (1, .int a1)]) dX7_wronged_79 rfl (nI_1 _) (by decide) rfl ?_
                      refine z_goto C 82 26 dX7_wronged_82 (by decide) ?_
                      refine z_ls [0, 1, 3, 4, 5] _ rfl ?_
                      exact ih26 (j + 1) (v + 1) (by omega) (hm.lt (Nat.le_trans hj hm.1) ‹¬ t (1) 401 ≤ nI j›) (hI26.trans ((if_neg c36_4).trans ((if_neg c58_7).trans ((if_pos c63_8).trans ((if_neg c69_9).trans rfl)))))
          refine z_ls [0, 1, 2, 3, 4] _ rfl ?_
          exact L26 (25) 0 0 (by omega) (Nat.zero_le _) rfl
    refine z_ls [0, 1, 2] _ rfl ?_
    exact L9 (25) 0 (by omega) (Nat.zero_le _) ((if_pos c1_1).trans rfl)
  · refine z_ldc C 4 (v := (-1000001)) dX7_wronged_4 mX7_wronged_c96 ?_
    exact z_iret C 6 hA hQ rfl dX7_wronged_6 ⟨((if_neg c1_1).trans rfl).symm, rfl⟩
def rX7_count (t : zM) (a1 : Int32) : Int32 := (if a1 = 0 then (t (1) 400) else (if a1 = 1 then (t (1) 401) else (if a1 = 2 then (rX7_locked t) else (if a1 = 3 then (t (1) 402) else (if a1 = 4 then (t (1) 403) else (if a1 = 5 then (t (1) 404) else (if a1 = 6 then (t (1) 405) else (if a1 = 7 then (t (1) 406) else (if a1 = 8 then (t (1) 407) else (if a1 = 9 then (rX7_signed t 1) else (if a1 = 10 then (rX7_signed t (-1)) else (if a1 = 11 then (rX7_balances t) else (if a1 = 12 then (((10000 + (100 * (t (1) 403))) - (t (1) 405)) - (100 * (t (1) 406))) else (if a1 = 13 then (t (1) 408) else (if a1 = 14 then (t (1) 409) else (if a1 = 15 then (t (0) 4) else (if a1 = 16 then (t (0) 7) else (if a1 = 17 then (-1000001) else (if a1 = 18 then (-1000001) else (if a1 = 19 then (-1000001) else (if a1 = 20 then (t (1) 410) else (if a1 = 21 then (t (1) 411) else (if a1 = 22 then (t (1) 412) else (if a1 = 23 then (t (1) 413) else (-1000001)))))))))))))))))))))))))
theorem mX7_count_f7 : Cond.fieldLink RX7 7 "WrongedMetersModel" "s" "[I" ∈ wsX7_count := by decide +kernel
set_option maxRecDepth 20000 in
theorem mX7_count_in7 : ∀ w ∈ u_ws RX7 TX7 16, w ∈ wsX7_count := by decide +kernel
theorem mX7_count_f35 : Cond.fieldLink RX7 35 "WrongedMetersModel" "pasts" "I" ∈ wsX7_count := by decide +kernel
theorem mX7_count_f141 : Cond.fieldLink RX7 141 "WrongedMetersModel" "typed" "I" ∈ wsX7_count := by decide +kernel
theorem mX7_count_c96 : Cond.constant RX7 96 (-1000001) ∈ wsX7_count := by decide +kernel
theorem hyX7_count : yX7_count.cls = RX7 ∧ yX7_count.cls ≠ "java/lang/invoke/MethodHandle" ∧ yX7_count.cls ≠ "java/lang/invoke/VarHandle" ∧ (parseMethodDescriptor yX7_count.desc).map (fun d => d.parameters.length) = some 1 := by decide +kernel
set_option maxHeartbeats 3000000 in
set_option maxRecDepth 100000 in
theorem kX7_count (l : Launch) (D : va_G) (cy : Nat → ClassId) (K : zK) (n : Nat) (ad : Nat → Nat) (hJ : zJ n ad) (hO : zModel cy K n ad) (t : zM) (a1 : Int32) (H N : Nat) (hm : mS H N t) : zI l yX7_count wsX7_count 2 D cy K n ad t [.ref (ad (0)), .int a1] (fun r t1 => r = rX7_count t a1 ∧ t1 = t) := by
  refine z_startI (cc := cX7_count) (mL := 2) (ret := (some .int)) (own := RX7) rfl (by decide +kernel) rfl hJ (Nat.le_of_ble_eq_true rfl) ?_
  intro p e s m args below meth c A hA Q hQ C
  refine z_iload_n C 0 1 1 dX7_count_0 rfl rfl ?_
  by_cases c1_1 : a1 = 0
  · refine z_tableIn C 1 112 dX7_count_1 (by rw [c1_1]; decide +kernel) (by rw [c1_1]; decide +kernel) (off := 111) (by rw [c1_1]; decide +kernel) (by decide) ?_
    refine z_aload_n C 112 0 0 dX7_count_112 rfl rfl ?_
    refine z_getr C 113 (a9 := ad (1)) (0) 0 dX7_count_113 hO.h0 hO.e0 mX7_count_in7 rfl (by decide) mX7_count_f7 (fun _ => rfl) ?_
    refine z_sipush C 116 (v := 400) dX7_count_116 (by decide +kernel) ?_
    refine z_iload_n C 119 1 1 dX7_count_119 rfl rfl ?_
    refine z_iadd C 120 dX7_count_120 ?_
    refine z_ialdN C 121 (1) 400 dX7_count_121 hO.h1 hO.e1 (by rw [c1_1]; decide +kernel) (by decide) (by decide) ?_
    exact z_iret C 122 hA hQ rfl dX7_count_122 ⟨((if_pos c1_1).trans rfl).symm, rfl⟩
  · by_cases c1_2 : a1 = 1
    · refine z_tableIn C 1 112 dX7_count_1 (by rw [c1_2]; decide +kernel) (by rw [c1_2]; decide +kernel) (off := 111) (by rw [c1_2]; decide +kernel) (by decide) ?_
      refine z_aload_n C 112 0 0 dX7_count_112 rfl rfl ?_
      refine z_getr C 113 (a9 := ad (1)) (0) 0 dX7_count_113 hO.h0 hO.e0 mX7_count_in7 rfl (by decide) mX7_count_f7 (fun _ => rfl) ?_
      refine z_sipush C 116 (v := 400) dX7_count_116 (by decide +kernel) ?_
      refine z_iload_n C 119 1 1 dX7_count_119 rfl rfl ?_
      refine z_iadd C 120 dX7_count_120 ?_
      refine z_ialdN C 121 (1) 401 dX7_count_121 hO.h1 hO.e1 (by rw [c1_2]; decide +kernel) (by decide) (by decide) ?_
      exact z_iret C 122 hA hQ rfl dX7_count_122 ⟨((if_neg c1_1).trans ((if_pos c1_2).trans rfl)).symm, rfl⟩
    · by_cases c1_3 : a1 = 2
      · refine z_tableIn C 1 123 dX7_count_1 (by rw [c1_3]; decide +kernel) (by rw [c1_3]; decide +kernel) (off := 122) (by rw [c1_3]; decide +kernel) (by decide) ?_
        refine z_aload_n C 123 0 0 dX7_count_123 rfl rfl ?_
        refine z_virtIe C 124 (As := []) (st := []) (id := 0) (kX7_locked l D cy K n ad hJ hO t  H N hm) dX7_count_124 rfl gX7_count_X7_locked hyX7_locked rfl (by decide) (by decide) hO.h0 rfl hO.e0 rfl rfl rfl (Nat.le_of_ble_eq_true rfl) ?_
        exact z_iret C 127 hA hQ rfl dX7_count_127 ⟨((if_neg c1_1).trans ((if_neg c1_2).trans ((if_pos c1_3).trans rfl))).symm, rfl⟩
      · by_cases c1_5 : a1 = 3
        · refine z_tableIn C 1 128 dX7_count_1 (by rw [c1_5]; decide +kernel) (by rw [c1_5]; decide +kernel) (off := 127) (by rw [c1_5]; decide +kernel) (by decide) ?_
          refine z_aload_n C 128 0 0 dX7_count_128 rfl rfl ?_
          refine z_getr C 129 (a9 := ad (1)) (0) 0 dX7_count_129 hO.h0 hO.e0 mX7_count_in7 rfl (by decide) mX7_count_f7 (fun _ => rfl) ?_
          refine z_sipush C 132 (v := 402) dX7_count_132 (by decide +kernel) ?_
          refine z_iload_n C 135 1 1 dX7_count_135 rfl rfl ?_
          refine z_iadd C 136 dX7_count_136 ?_
          refine z_iconst C 137 (v := 3) dX7_count_137 (by decide +kernel) ?_
          refine z_isub C 138 dX7_count_138 ?_
          refine z_ialdN C 139 (1) 402 dX7_count_139 hO.h1 hO.e1 (by rw [c1_5]; decide +kernel) (by decide) (by decide) ?_
          exact z_iret C 140 hA hQ rfl dX7_count_140 ⟨((if_neg c1_1).trans ((if_neg c1_2).trans ((if_neg c1_3).trans ((if_pos c1_5).trans rfl)))).symm, rfl⟩
        · by_cases c1_6 : a1 = 4
          · refine z_tableIn C 1 128 dX7_count_1 (by rw [c1_6]; decide +kernel) (by rw [c1_6]; decide +kernel) (off := 127) (by rw [c1_6]; decide +kernel) (by decide) ?_
            refine z_aload_n C 128 0 0 dX7_count_128 rfl rfl ?_
            refine z_getr C 129 (a9 := ad (1)) (0) 0 dX7_count_129 hO.h0 hO.e0 mX7_count_in7 rfl (by decide) mX7_count_f7 (fun _ => rfl) ?_
            refine z_sipush C 132 (v := 402) dX7_count_132 (by decide +kernel) ?_
            refine z_iload_n C 135 1 1 dX7_count_135 rfl rfl ?_
            refine z_iadd C 136 dX7_count_136 ?_
            refine z_iconst C 137 (v := 3) dX7_count_137 (by decide +kernel) ?_
            refine z_isub C 138 dX7_count_138 ?_
            refine z_ialdN C 139 (1) 403 dX7_count_139 hO.h1 hO.e1 (by rw [c1_6]; decide +kernel) (by decide) (by decide) ?_
            exact z_iret C 140 hA hQ rfl dX7_count_140 ⟨((if_neg c1_1).trans ((if_neg c1_2).trans ((if_neg c1_3).trans ((if_neg c1_5).trans ((if_pos c1_6).trans rfl))))).symm, rfl⟩
          · by_cases c1_7 : a1 = 5
            · refine z_tableIn C 1 128 dX7_count_1 (by rw [c1_7]; decide +kernel) (by rw [c1_7]; decide +kernel) (off := 127) (by rw [c1_7]; decide +kernel) (by decide) ?_
              refine z_aload_n C 128 0 0 dX7_count_128 rfl rfl ?_
              refine z_getr C 129 (a9 := ad (1)) (0) 0 dX7_count_129 hO.h0 hO.e0 mX7_count_in7 rfl (by decide) mX7_count_f7 (fun _ => rfl) ?_
              refine z_sipush C 132 (v := 402) dX7_count_132 (by decide +kernel) ?_
              refine z_iload_n C 135 1 1 dX7_count_135 rfl rfl ?_
              refine z_iadd C 136 dX7_count_136 ?_
              refine z_iconst C 137 (v := 3) dX7_count_137 (by decide +kernel) ?_
              refine z_isub C 138 dX7_count_138 ?_
              refine z_ialdN C 139 (1) 404 dX7_count_139 hO.h1 hO.e1 (by rw [c1_7]; decide +kernel) (by decide) (by decide) ?_
              exact z_iret C 140 hA hQ rfl dX7_count_140 ⟨((if_neg c1_1).trans ((if_neg c1_2).trans ((if_neg c1_3).trans ((if_neg c1_5).trans ((if_neg c1_6).trans ((if_pos c1_7).trans rfl)))))).symm, rfl⟩
            · by_cases c1_8 : a1 = 6
              · refine z_tableIn C 1 128 dX7_count_1 (by rw [c1_8]; decide +kernel) (by rw [c1_8]; decide +kernel) (off := 127) (by rw [c1_8]; decide +kernel) (by decide) ?_
                refine z_aload_n C 128 0 0 dX7_count_128 rfl rfl ?_
                refine z_getr C 129 (a9 := ad (1)) (0) 0 dX7_count_129 hO.h0 hO.e0 mX7_count_in7 rfl (by decide) mX7_count_f7 (fun _ => rfl) ?_
                refine z_sipush C 132 (v := 402) dX7_count_132 (by decide +kernel) ?_
                refine z_iload_n C 135 1 1 dX7_count_135 rfl rfl ?_
                refine z_iadd C 136 dX7_count_136 ?_
                refine z_iconst C 137 (v := 3) dX7_count_137 (by decide +kernel) ?_
                refine z_isub C 138 dX7_count_138 ?_
                refine z_ialdN C 139 (1) 405 dX7_count_139 hO.h1 hO.e1 (by rw [c1_8]; decide +kernel) (by decide) (by decide) ?_
                exact z_iret C 140 hA hQ rfl dX7_count_140 ⟨((if_neg c1_1).trans ((if_neg c1_2).trans ((if_neg c1_3).trans ((if_neg c1_5).trans ((if_neg c1_6).trans ((if_neg c1_7).trans ((if_pos c1_8).trans rfl))))))).symm, rfl⟩
              · by_cases c1_9 : a1 = 7
                · refine z_tableIn C 1 128 dX7_count_1 (by rw [c1_9]; decide +kernel) (by rw [c1_9]; decide +kernel) (off := 127) (by rw [c1_9]; decide +kernel) (by decide) ?_
                  refine z_aload_n C 128 0 0 dX7_count_128 rfl rfl ?_
                  refine z_getr C 129 (a9 := ad (1)) (0) 0 dX7_count_129 hO.h0 hO.e0 mX7_count_in7 rfl (by decide) mX7_count_f7 (fun _ => rfl) ?_
                  refine z_sipush C 132 (v := 402) dX7_count_132 (by decide +kernel) ?_
                  refine z_iload_n C 135 1 1 dX7_count_135 rfl rfl ?_
                  refine z_iadd C 136 dX7_count_136 ?_
                  refine z_iconst C 137 (v := 3) dX7_count_137 (by decide +kernel) ?_
                  refine z_isub C 138 dX7_count_138 ?_
                  refine z_ialdN C 139 (1) 406 dX7_count_139 hO.h1 hO.e1 (by rw [c1_9]; decide +kernel) (by decide) (by decide) ?_
                  exact z_iret C 140 hA hQ rfl dX7_count_140 ⟨((if_neg c1_1).trans ((if_neg c1_2).trans ((if_neg c1_3).trans ((if_neg c1_5).trans ((if_neg c1_6).trans ((if_neg c1_7).trans ((if_neg c1_8).trans ((if_pos c1_9).trans rfl)))))))).symm, rfl⟩
                · by_cases c1_10 : a1 = 8
                  · refine z_tableIn C 1 128 dX7_count_1 (by rw [c1_10]; decide +kernel) (by rw [c1_10]; decide +kernel) (off := 127) (by rw [c1_10]; decide +kernel) (by decide) ?_
                    refine z_aload_n C 128 0 0 dX7_count_128 rfl rfl ?_
                    refine z_getr C 129 (a9 := ad (1)) (0) 0 dX7_count_129 hO.h0 hO.e0 mX7_count_in7 rfl (by decide) mX7_count_f7 (fun _ => rfl) ?_
                    refine z_sipush C 132 (v := 402) dX7_count_132 (by decide +kernel) ?_
                    refine z_iload_n C 135 1 1 dX7_count_135 rfl rfl ?_
                    refine z_iadd C 136 dX7_count_136 ?_
                    refine z_iconst C 137 (v := 3) dX7_count_137 (by decide +kernel) ?_
                    refine z_isub C 138 dX7_count_138 ?_
                    refine z_ialdN C 139 (1) 407 dX7_count_139 hO.h1 hO.e1 (by rw [c1_10]; decide +kernel) (by decide) (by decide) ?_
                    exact z_iret C 140 hA hQ rfl dX7_count_140 ⟨((if_neg c1_1).trans ((if_neg c1_2).trans ((if_neg c1_3).trans ((if_neg c1_5).trans ((if_neg c1_6).trans ((if_neg c1_7).trans ((if_neg c1_8).trans ((if_neg c1_9).trans ((if_pos c1_10).trans rfl))))))))).symm, rfl⟩
                  · by_cases c1_11 : a1 = 9
                    · refine z_tableIn C 1 141 dX7_count_1 (by rw [c1_11]; decide +kernel) (by rw [c1_11]; decide +kernel) (off := 140) (by rw [c1_11]; decide +kernel) (by decide) ?_
                      refine z_aload_n C 141 0 0 dX7_count_141 rfl rfl ?_
                      refine z_iconst C 142 (v := 1) dX7_count_142 (by decide +kernel) ?_
                      refine z_virtIe C 143 (As := [.int 1]) (st := []) (id := 0) (kX7_signed l D cy K n ad hJ hO t 1 H N hm) dX7_count_143 rfl gX7_count_X7_signed hyX7_signed rfl (by decide) (by decide) hO.h0 rfl hO.e0 rfl rfl rfl (Nat.le_of_ble_eq_true rfl) ?_
                      exact z_iret C 146 hA hQ rfl dX7_count_146 ⟨((if_neg c1_1).trans ((if_neg c1_2).trans ((if_neg c1_3).trans ((if_neg c1_5).trans ((if_neg c1_6).trans ((if_neg c1_7).trans ((if_neg c1_8).trans ((if_neg c1_9).trans ((if_neg c1_10).trans ((if_pos c1_11).trans rfl)))))))))).symm, rfl⟩
                    · by_cases c1_13 : a1 = 10
                      · refine z_tableIn C 1 147 dX7_count_1 (by rw [c1_13]; decide +kernel) (by rw [c1_13]; decide +kernel) (off := 146) (by rw [c1_13]; decide +kernel) (by decide) ?_
                        refine z_aload_n C 147 0 0 dX7_count_147 rfl rfl ?_
                        refine z_iconst C 148 (v := (-1)) dX7_count_148 (by decide +kernel) ?_
                        refine z_virtIe C 149 (As := [.int (-1)]) (st := []) (id := 0) (kX7_signed l D cy K n ad hJ hO t (-1) H N hm) dX7_count_149 rfl gX7_count_X7_signed hyX7_signed rfl (by decide) (by decide) hO.h0 rfl hO.e0 rfl rfl rfl (Nat.le_of_ble_eq_true rfl) ?_
                        exact z_iret C 152 hA hQ rfl dX7_count_152 ⟨((if_neg c1_1).trans ((if_neg c1_2).trans ((if_neg c1_3).trans ((if_neg c1_5).trans ((if_neg c1_6).trans ((if_neg c1_7).trans ((if_neg c1_8).trans ((if_neg c1_9).trans ((if_neg c1_10).trans ((if_neg c1_11).trans ((if_pos c1_13).trans rfl))))))))))).symm, rfl⟩
                      · by_cases c1_15 : a1 = 11
                        · refine z_tableIn C 1 153 dX7_count_1 (by rw [c1_15]; decide +kernel) (by rw [c1_15]; decide +kernel) (off := 152) (by rw [c1_15]; decide +kernel) (by decide) ?_
                          refine z_aload_n C 153 0 0 dX7_count_153 rfl rfl ?_
                          refine z_virtIe C 154 (As := []) (st := []) (id := 0) (kX7_balances l D cy K n ad hJ hO t  H N hm) dX7_count_154 rfl gX7_count_X7_balances hyX7_balances rfl (by decide) (by decide) hO.h0 rfl hO.e0 rfl rfl rfl (Nat.le_of_ble_eq_true rfl) ?_
                          exact z_iret C 157 hA hQ rfl dX7_count_157 ⟨((if_neg c1_1).trans ((if_neg c1_2).trans ((if_neg c1_3).trans ((if_neg c1_5).trans ((if_neg c1_6).trans ((if_neg c1_7).trans ((if_neg c1_8).trans ((if_neg c1_9).trans ((if_neg c1_10).trans ((if_neg c1_11).trans ((if_neg c1_13).trans ((if_pos c1_15).trans rfl)))))))))))).symm, rfl⟩
                        · by_cases c1_17 : a1 = 12
                          · refine z_tableIn C 1 158 dX7_count_1 (by rw [c1_17]; decide +kernel) (by rw [c1_17]; decide +kernel) (off := 157) (by rw [c1_17]; decide +kernel) (by decide) ?_
                            refine z_sipush C 158 (v := 10000) dX7_count_158 (by decide +kernel) ?_
                            refine z_bipush C 161 (v := 100) dX7_count_161 (by decide +kernel) ?_
                            refine z_aload_n C 163 0 0 dX7_count_163 rfl rfl ?_
                            refine z_getr C 164 (a9 := ad (1)) (0) 0 dX7_count_164 hO.h0 hO.e0 mX7_count_in7 rfl (by decide) mX7_count_f7 (fun _ => rfl) ?_
                            refine z_sipush C 167 (v := 403) dX7_count_167 (by decide +kernel) ?_
                            refine z_ialdN C 170 (1) 403 dX7_count_170 hO.h1 hO.e1 rfl (by decide) (by decide) ?_
                            refine z_imul C 171 dX7_count_171 ?_
                            refine z_iadd C 172 dX7_count_172 ?_
                            refine z_aload_n C 173 0 0 dX7_count_173 rfl rfl ?_
                            refine z_getr C 174 (a9 := ad (1)) (0) 0 dX7_count_174 hO.h0 hO.e0 mX7_count_in7 rfl (by decide) mX7_count_f7 (fun _ => rfl) ?_
                            refine z_sipush C 177 (v := 405) dX7_count_177 (by decide +kernel) ?_
                            refine z_ialdN C 180 (1) 405 dX7_count_180 hO.h1 hO.e1 rfl (by decide) (by decide) ?_
                            refine z_isub C 181 dX7_count_181 ?_
                            refine z_bipush C 182 (v := 100) dX7_count_182 (by decide +kernel) ?_
                            refine z_aload_n C 184 0 0 dX7_count_184 rfl rfl ?_
                            refine z_getr C 185 (a9 := ad (1)) (0) 0 dX7_count_185 hO.h0 hO.e0 mX7_count_in7 rfl (by decide) mX7_count_f7 (fun _ => rfl) ?_
                            refine z_sipush C 188 (v := 406) dX7_count_188 (by decide +kernel) ?_
                            refine z_ialdN C 191 (1) 406 dX7_count_191 hO.h1 hO.e1 rfl (by decide) (by decide) ?_
                            refine z_imul C 192 dX7_count_192 ?_
                            refine z_isub C 193 dX7_count_193 ?_
                            exact z_iret C 194 hA hQ rfl dX7_count_194 ⟨((if_neg c1_1).trans ((if_neg c1_2).trans ((if_neg c1_3).trans ((if_neg c1_5).trans ((if_neg c1_6).trans ((if_neg c1_7).trans ((if_neg c1_8).trans ((if_neg c1_9).trans ((if_neg c1_10).trans ((if_neg c1_11).trans ((if_neg c1_13).trans ((if_neg c1_15).trans ((if_pos c1_17).trans rfl))))))))))))).symm, rfl⟩
                          · by_cases c1_18 : a1 = 13
                            · refine z_tableIn C 1 195 dX7_count_1 (by rw [c1_18]; decide +kernel) (by rw [c1_18]; decide +kernel) (off := 194) (by rw [c1_18]; decide +kernel) (by decide) ?_
                              refine z_aload_n C 195 0 0 dX7_count_195 rfl rfl ?_
                              refine z_getr C 196 (a9 := ad (1)) (0) 0 dX7_count_196 hO.h0 hO.e0 mX7_count_in7 rfl (by decide) mX7_count_f7 (fun _ => rfl) ?_
                              refine z_sipush C 199 (v := 408) dX7_count_199 (by decide +kernel) ?_
                              refine z_iload_n C 202 1 1 dX7_count_202 rfl rfl ?_
                              refine z_iadd C 203 dX7_count_203 ?_
                              refine z_bipush C 204 (v := 13) dX7_count_204 (by decide +kernel) ?_
                              refine z_isub C 206 dX7_count_206 ?_
                              refine z_ialdN C 207 (1) 408 dX7_count_207 hO.h1 hO.e1 (by rw [c1_18]; decide +kernel) (by decide) (by decide) ?_
                              exact z_iret C 208 hA hQ rfl dX7_count_208 ⟨((if_neg c1_1).trans ((if_neg c1_2).trans ((if_neg c1_3).trans ((if_neg c1_5).trans ((if_neg c1_6).trans ((if_neg c1_7).trans ((if_neg c1_8).trans ((if_neg c1_9).trans ((if_neg c1_10).trans ((if_neg c1_11).trans ((if_neg c1_13).trans ((if_neg c1_15).trans ((if_neg c1_17).trans ((if_pos c1_18).trans rfl)))))))))))))).symm, rfl⟩
                            · by_cases c1_19 : a1 = 14
                              · refine z_tableIn C 1 195 dX7_count_1 (by rw [c1_19]; decide +kernel) (by rw [c1_19]; decide +kernel) (off := 194) (by rw [c1_19]; decide +kernel) (by decide) ?_
                                refine z_aload_n C 195 0 0 dX7_count_195 rfl rfl ?_
                                refine z_getr C 196 (a9 := ad (1)) (0) 0 dX7_count_196 hO.h0 hO.e0 mX7_count_in7 rfl (by decide) mX7_count_f7 (fun _ => rfl) ?_
                                refine z_sipush C 199 (v := 408) dX7_count_199 (by decide +kernel) ?_
                                refine z_iload_n C 202 1 1 dX7_count_202 rfl rfl ?_
                                refine z_iadd C 203 dX7_count_203 ?_
                                refine z_bipush C 204 (v := 13) dX7_count_204 (by decide +kernel) ?_
                                refine z_isub C 206 dX7_count_206 ?_
                                refine z_ialdN C 207 (1) 409 dX7_count_207 hO.h1 hO.e1 (by rw [c1_19]; decide +kernel) (by decide) (by decide) ?_
                                exact z_iret C 208 hA hQ rfl dX7_count_208 ⟨((if_neg c1_1).trans ((if_neg c1_2).trans ((if_neg c1_3).trans ((if_neg c1_5).trans ((if_neg c1_6).trans ((if_neg c1_7).trans ((if_neg c1_8).trans ((if_neg c1_9).trans ((if_neg c1_10).trans ((if_neg c1_11).trans ((if_neg c1_13).trans ((if_neg c1_15).trans ((if_neg c1_17).trans ((if_neg c1_18).trans ((if_pos c1_19).trans rfl))))))))))))))).symm, rfl⟩
                              · by_cases c1_20 : a1 = 15
                                · refine z_tableIn C 1 209 dX7_count_1 (by rw [c1_20]; decide +kernel) (by rw [c1_20]; decide +kernel) (off := 208) (by rw [c1_20]; decide +kernel) (by decide) ?_
                                  refine z_aload_n C 209 0 0 dX7_count_209 rfl rfl ?_
                                  refine z_geti C 210 (0) 4 dX7_count_210 hO.h0 hO.e0 mX7_count_in7 rfl (by decide) mX7_count_f35 (fun _ => rfl) ?_
                                  exact z_iret C 213 hA hQ rfl dX7_count_213 ⟨((if_neg c1_1).trans ((if_neg c1_2).trans ((if_neg c1_3).trans ((if_neg c1_5).trans ((if_neg c1_6).trans ((if_neg c1_7).trans ((if_neg c1_8).trans ((if_neg c1_9).trans ((if_neg c1_10).trans ((if_neg c1_11).trans ((if_neg c1_13).trans ((if_neg c1_15).trans ((if_neg c1_17).trans ((if_neg c1_18).trans ((if_neg c1_19).trans ((if_pos c1_20).trans rfl)))))))))))))))).symm, rfl⟩
                                · by_cases c1_21 : a1 = 16
                                  · refine z_tableIn C 1 214 dX7_count_1 (by rw [c1_21]; decide +kernel) (by rw [c1_21]; decide +kernel) (off := 213) (by rw [c1_21]; decide +kernel) (by decide) ?_
                                    refine z_aload_n C 214 0 0 dX7_count_214 rfl rfl ?_
                                    refine z_geti C 215 (0) 7 dX7_count_215 hO.h0 hO.e0 mX7_count_in7 rfl (by decide) mX7_count_f141 (fun _ => rfl) ?_
                                    exact z_iret C 218 hA hQ rfl dX7_count_218 ⟨((if_neg c1_1).trans ((if_neg c1_2).trans ((if_neg c1_3).trans ((if_neg c1_5).trans ((if_neg c1_6).trans ((if_neg c1_7).trans ((if_neg c1_8).trans ((if_neg c1_9).trans ((if_neg c1_10).trans ((if_neg c1_11).trans ((if_neg c1_13).trans ((if_neg c1_15).trans ((if_neg c1_17).trans ((if_neg c1_18).trans ((if_neg c1_19).trans ((if_neg c1_20).trans ((if_pos c1_21).trans rfl))))))))))))))))).symm, rfl⟩
                                  · by_cases c1_22 : a1 = 17
                                    · refine z_tableIn C 1 233 dX7_count_1 (by rw [c1_22]; decide +kernel) (by rw [c1_22]; decide +kernel) (off := 232) (by rw [c1_22]; decide +kernel) (by decide) ?_
                                      refine z_ldc C 233 (v := (-1000001)) dX7_count_233 mX7_count_c96 ?_
                                      exact z_iret C 235 hA hQ rfl dX7_count_235 ⟨((if_neg c1_1).trans ((if_neg c1_2).trans ((if_neg c1_3).trans ((if_neg c1_5).trans ((if_neg c1_6).trans ((if_neg c1_7).trans ((if_neg c1_8).trans ((if_neg c1_9).trans ((if_neg c1_10).trans ((if_neg c1_11).trans ((if_neg c1_13).trans ((if_neg c1_15).trans ((if_neg c1_17).trans ((if_neg c1_18).trans ((if_neg c1_19).trans ((if_neg c1_20).trans ((if_neg c1_21).trans ((if_pos c1_22).trans rfl)))))))))))))))))).symm, rfl⟩
                                    · by_cases c1_23 : a1 = 18
                                      · refine z_tableIn C 1 233 dX7_count_1 (by rw [c1_23]; decide +kernel) (by rw [c1_23]; decide +kernel) (off := 232) (by rw [c1_23]; decide +kernel) (by decide) ?_
                                        refine z_ldc C 233 (v := (-1000001)) dX7_count_233 mX7_count_c96 ?_
                                        exact z_iret C 235 hA hQ rfl dX7_count_235 ⟨((if_neg c1_1).trans ((if_neg c1_2).trans ((if_neg c1_3).trans ((if_neg c1_5).trans ((if_neg c1_6).trans ((if_neg c1_7).trans ((if_neg c1_8).trans ((if_neg c1_9).trans ((if_neg c1_10).trans ((if_neg c1_11).trans ((if_neg c1_13).trans ((if_neg c1_15).trans ((if_neg c1_17).trans ((if_neg c1_18).trans ((if_neg c1_19).trans ((if_neg c1_20).trans ((if_neg c1_21).trans ((if_neg c1_22).trans ((if_pos c1_23).trans rfl))))))))))))))))))).symm, rfl⟩
                                      · by_cases c1_24 : a1 = 19
                                        · refine z_tableIn C 1 233 dX7_count_1 (by rw [c1_24]; decide +kernel) (by rw [c1_24]; decide +kernel) (off := 232) (by rw [c1_24]; decide +kernel) (by decide) ?_
                                          refine z_ldc C 233 (v := (-1000001)) dX7_count_233 mX7_count_c96 ?_
                                          exact z_iret C 235 hA hQ rfl dX7_count_235 ⟨((if_neg c1_1).trans ((if_neg c1_2).trans ((if_neg c1_3).trans ((if_neg c1_5).trans ((if_neg c1_6).trans ((if_neg c1_7).trans ((if_neg c1_8).trans ((if_neg c1_9).trans ((if_neg c1_10).trans ((if_neg c1_11).trans ((if_neg c1_13).trans ((if_neg c1_15).trans ((if_neg c1_17).trans ((if_neg c1_18).trans ((if_neg c1_19).trans ((if_neg c1_20).trans ((if_neg c1_21).trans ((if_neg c1_22).trans ((if_neg c1_23).trans ((if_pos c1_24).trans rfl)))))))))))))))))))).symm, rfl⟩
                                        · by_cases c1_25 : a1 = 20
                                          · refine z_tableIn C 1 219 dX7_count_1 (by rw [c1_25]; decide +kernel) (by rw [c1_25]; decide +kernel) (off := 218) (by rw [c1_25]; decide +kernel) (by decide) ?_
                                            refine z_aload_n C 219 0 0 dX7_count_219 rfl rfl ?_
                                            refine z_getr C 220 (a9 := ad (1)) (0) 0 dX7_count_220 hO.h0 hO.e0 mX7_count_in7 rfl (by decide) mX7_count_f7 (fun _ => rfl) ?_
                                            refine z_sipush C 223 (v := 410) dX7_count_223 (by decide +kernel) ?_
                                            refine z_iload_n C 226 1 1 dX7_count_226 rfl rfl ?_
                                            refine z_iadd C 227 dX7_count_227 ?_
                                            refine z_bipush C 228 (v := 20) dX7_count_228 (by decide +kernel) ?_
                                            refine z_isub C 230 dX7_count_230 ?_
                                            refine z_ialdN C 231 (1) 410 dX7_count_231 hO.h1 hO.e1 (by rw [c1_25]; decide +kernel) (by decide) (by decide) ?_
                                            exact z_iret C 232 hA hQ rfl dX7_count_232 ⟨((if_neg c1_1).trans ((if_neg c1_2).trans ((if_neg c1_3).trans ((if_neg c1_5).trans ((if_neg c1_6).trans ((if_neg c1_7).trans ((if_neg c1_8).trans ((if_neg c1_9).trans ((if_neg c1_10).trans ((if_neg c1_11).trans ((if_neg c1_13).trans ((if_neg c1_15).trans ((if_neg c1_17).trans ((if_neg c1_18).trans ((if_neg c1_19).trans ((if_neg c1_20).trans ((if_neg c1_21).trans ((if_neg c1_22).trans ((if_neg c1_23).trans ((if_neg c1_24).trans ((if_pos c1_25).trans rfl))))))))))))))))))))).symm, rfl⟩
                                          · by_cases c1_26 : a1 = 21
                                            · refine z_tableIn C 1 219 dX7_count_1 (by rw [c1_26]; decide +kernel) (by rw [c1_26]; decide +kernel) (off := 218) (by rw [c1_26]; decide +kernel) (by decide) ?_
                                              refine z_aload_n C 219 0 0 dX7_count_219 rfl rfl ?_
                                              refine z_getr C 220 (a9 := ad (1)) (0) 0 dX7_count_220 hO.h0 hO.e0 mX7_count_in7 rfl (by decide) mX7_count_f7 (fun _ => rfl) ?_
                                              refine z_sipush C 223 (v := 410) dX7_count_223 (by decide +kernel) ?_
                                              refine z_iload_n C 226 1 1 dX7_count_226 rfl rfl ?_
                                              refine z_iadd C 227 dX7_count_227 ?_
                                              refine z_bipush C 228 (v := 20) dX7_count_228 (by decide +kernel) ?_
                                              refine z_isub C 230 dX7_count_230 ?_
                                              refine z_ialdN C 231 (1) 411 dX7_count_231 hO.h1 hO.e1 (by rw [c1_26]; decide +kernel) (by decide) (by decide) ?_
                                              exact z_iret C 232 hA hQ rfl dX7_count_232 ⟨((if_neg c1_1).trans ((if_neg c1_2).trans ((if_neg c1_3).trans ((if_neg c1_5).trans ((if_neg c1_6).trans ((if_neg c1_7).trans ((if_neg c1_8).trans ((if_neg c1_9).trans ((if_neg c1_10).trans ((if_neg c1_11).trans ((if_neg c1_13).trans ((if_neg c1_15).trans ((if_neg c1_17).trans ((if_neg c1_18).trans ((if_neg c1_19).trans ((if_neg c1_20).trans ((if_neg c1_21).trans ((if_neg c1_22).trans ((if_neg c1_23).trans ((if_neg c1_24).trans ((if_neg c1_25).trans ((if_pos c1_26).trans rfl)))))))))))))))))))))).symm, rfl⟩
                                            · by_cases c1_27 : a1 = 22
                                              · refine z_tableIn C 1 219 dX7_count_1 (by rw [c1_27]; decide +kernel) (by rw [c1_27]; decide +kernel) (off := 218) (by rw [c1_27]; decide +kernel) (by decide) ?_
                                                refine z_aload_n C 219 0 0 dX7_count_219 rfl rfl ?_
                                                refine z_getr C 220 (a9 := ad (1)) (0) 0 dX7_count_220 hO.h0 hO.e0 mX7_count_in7 rfl (by decide) mX7_count_f7 (fun _ => rfl) ?_
                                                refine z_sipush C 223 (v := 410) dX7_count_223 (by decide +kernel) ?_
                                                refine z_iload_n C 226 1 1 dX7_count_226 rfl rfl ?_
                                                refine z_iadd C 227 dX7_count_227 ?_
                                                refine z_bipush C 228 (v := 20) dX7_count_228 (by decide +kernel) ?_
                                                refine z_isub C 230 dX7_count_230 ?_
                                                refine z_ialdN C 231 (1) 412 dX7_count_231 hO.h1 hO.e1 (by rw [c1_27]; decide +kernel) (by decide) (by decide) ?_
                                                exact z_iret C 232 hA hQ rfl dX7_count_232 ⟨((if_neg c1_1).trans ((if_neg c1_2).trans ((if_neg c1_3).trans ((if_neg c1_5).trans ((if_neg c1_6).trans ((if_neg c1_7).trans ((if_neg c1_8).trans ((if_neg c1_9).trans ((if_neg c1_10).trans ((if_neg c1_11).trans ((if_neg c1_13).trans ((if_neg c1_15).trans ((if_neg c1_17).trans ((if_neg c1_18).trans ((if_neg c1_19).trans ((if_neg c1_20).trans ((if_neg c1_21).trans ((if_neg c1_22).trans ((if_neg c1_23).trans ((if_neg c1_24).trans ((if_neg c1_25).trans ((if_neg c1_26).trans ((if_pos c1_27).trans rfl))))))))))))))))))))))).symm, rfl⟩
                                              · by_cases c1_28 : a1 = 23
                                                · refine z_tableIn C 1 219 dX7_count_1 (by rw [c1_28]; decide +kernel) (by rw [c1_28]; decide +kernel) (off := 218) (by rw [c1_28]; decide +kernel) (by decide) ?_
                                                  refine z_aload_n C 219 0 0 dX7_count_219 rfl rfl ?_
                                                  refine z_getr C 220 (a9 := ad (1)) (0) 0 dX7_count_220 hO.h0 hO.e0 mX7_count_in7 rfl (by decide) mX7_count_f7 (fun _ => rfl) ?_
                                                  refine z_sipush C 223 (v := 410) dX7_count_223 (by decide +kernel) ?_
                                                  refine z_iload_n C 226 1 1 dX7_count_226 rfl rfl ?_
                                                  refine z_iadd C 227 dX7_count_227 ?_
                                                  refine z_bipush C 228 (v := 20) dX7_count_228 (by decide +kernel) ?_
                                                  refine z_isub C 230 dX7_count_230 ?_
                                                  refine z_ialdN C 231 (1) 413 dX7_count_231 hO.h1 hO.e1 (by rw [c1_28]; decide +kernel) (by decide) (by decide) ?_
                                                  exact z_iret C 232 hA hQ rfl dX7_count_232 ⟨((if_neg c1_1).trans ((if_neg c1_2).trans ((if_neg c1_3).trans ((if_neg c1_5).trans ((if_neg c1_6).trans ((if_neg c1_7).trans ((if_neg c1_8).trans ((if_neg c1_9).trans ((if_neg c1_10).trans ((if_neg c1_11).trans ((if_neg c1_13).trans ((if_neg c1_15).trans ((if_neg c1_17).trans ((if_neg c1_18).trans ((if_neg c1_19).trans ((if_neg c1_20).trans ((if_neg c1_21).trans ((if_neg c1_22).trans ((if_neg c1_23).trans ((if_neg c1_24).trans ((if_neg c1_25).trans ((if_neg c1_26).trans ((if_neg c1_27).trans ((if_pos c1_28).trans rfl)))))))))))))))))))))))).symm, rfl⟩
                                                · have qc1_1 := lv_neT (a := 0) c1_1 rfl
                                                  have qc1_2 := lv_neT (a := 1) c1_2 rfl
                                                  have qc1_3 := lv_neT (a := 2) c1_3 rfl
                                                  have qc1_5 := lv_neT (a := 3) c1_5 rfl
                                                  have qc1_6 := lv_neT (a := 4) c1_6 rfl
                                                  have qc1_7 := lv_neT (a := 5) c1_7 rfl
                                                  have qc1_8 := lv_neT (a := 6) c1_8 rfl
                                                  have qc1_9 := lv_neT (a := 7) c1_9 rfl
                                                  have qc1_10 := lv_neT (a := 8) c1_10 rfl
                                                  have qc1_11 := lv_neT (a := 9) c1_11 rfl
                                                  have qc1_13 := lv_neT (a := 10) c1_13 rfl
                                                  have qc1_15 := lv_neT (a := 11) c1_15 rfl
                                                  have qc1_17 := lv_neT (a := 12) c1_17 rfl
                                                  have qc1_18 := lv_neT (a := 13) c1_18 rfl
                                                  have qc1_19 := lv_neT (a := 14) c1_19 rfl
                                                  have qc1_20 := lv_neT (a := 15) c1_20 rfl
                                                  have qc1_21 := lv_neT (a := 16) c1_21 rfl
                                                  have qc1_22 := lv_neT (a := 17) c1_22 rfl
                                                  have qc1_23 := lv_neT (a := 18) c1_23 rfl
                                                  have qc1_24 := lv_neT (a := 19) c1_24 rfl
                                                  have qc1_25 := lv_neT (a := 20) c1_25 rfl
                                                  have qc1_26 := lv_neT (a := 21) c1_26 rfl
                                                  have qc1_27 := lv_neT (a := 22) c1_27 rfl
                                                  have qc1_28 := lv_neT (a := 23) c1_28 rfl
                                                  refine z_tableOut C 1 233 dX7_count_1 (by omega) (by decide) ?_
                                                  refine z_ldc C 233 (v := (-1000001)) dX7_count_233 mX7_count_c96 ?_
                                                  exact z_iret C 235 hA hQ rfl dX7_count_235 ⟨((if_neg c1_1).trans ((if_neg c1_2).trans ((if_neg c1_3).trans ((if_neg c1_5).trans ((if_neg c1_6).trans ((if_neg c1_7).trans ((if_neg c1_8).trans ((if_neg c1_9).trans ((if_neg c1_10).trans ((if_neg c1_11).trans ((if_neg c1_13).trans ((if_neg c1_15).trans ((if_neg c1_17).trans ((if_neg c1_18).trans ((if_neg c1_19).trans ((if_neg c1_20).trans ((if_neg c1_21).trans ((if_neg c1_22).trans ((if_neg c1_23).trans ((if_neg c1_24).trans ((if_neg c1_25).trans ((if_neg c1_26).trans ((if_neg c1_27).trans ((if_neg c1_28).trans rfl)))))))))))))))))))))))).symm, rfl⟩
def lX7_undo_22 (t : zM) : Nat → Nat → zM → Int32
  | 0, _, _ => 0
  | j + 1, k, u => (if 414 ≤ nI k then (u (0) 4) else (lX7_undo_22 t j (k + 1) (zset u (1) k (u (2) (414 * ((t 0 4) - 1).toNatClampNeg + k)))))
def lsX7_undo_22 (t : zM) : Nat → Nat → zM → zM
  | 0, _, u => u
  | j + 1, k, u => (if 414 ≤ nI k then u else (lsX7_undo_22 t j (k + 1) (zset u (1) k (u (2) (414 * ((t 0 4) - 1).toNatClampNeg + k)))))
def rX7_undo (t : zM)  : Int32 := (if (t (0) 4) = 0 then (-1000002) else (lX7_undo_22 t 415 0 (zset t (0) 4 ((t (0) 4) - 1))))
def sX7_undo (t : zM)  : zM := (if (t (0) 4) = 0 then t else (lsX7_undo_22 t 415 0 (zset t (0) 4 ((t (0) 4) - 1))))
theorem mX7_undo_f35 : Cond.fieldLink RX7 35 "WrongedMetersModel" "pasts" "I" ∈ wsX7_undo := by decide +kernel
set_option maxRecDepth 20000 in
theorem mX7_undo_in7 : ∀ w ∈ u_ws RX7 TX7 16, w ∈ wsX7_undo := by decide +kernel
theorem mX7_undo_f7 : Cond.fieldLink RX7 7 "WrongedMetersModel" "s" "[I" ∈ wsX7_undo := by decide +kernel
theorem mX7_undo_f13 : Cond.fieldLink RX7 13 "WrongedMetersModel" "past" "[I" ∈ wsX7_undo := by decide +kernel
theorem mX7_undo_c100 : Cond.constant RX7 100 (-1000002) ∈ wsX7_undo := by decide +kernel
theorem hyX7_undo : yX7_undo.cls = RX7 ∧ yX7_undo.cls ≠ "java/lang/invoke/MethodHandle" ∧ yX7_undo.cls ≠ "java/lang/invoke/VarHandle" ∧ (parseMethodDescriptor yX7_undo.desc).map (fun d => d.parameters.length) = some 0 := by decide +kernel
set_option maxHeartbeats 3000000 in
set_option maxRecDepth 100000 in
theorem kX7_undo (l : Launch) (D : va_G) (cy : Nat → ClassId) (K : zK) (n : Nat) (ad : Nat → Nat) (hJ : zJ n ad) (hO : zModel cy K n ad) (t : zM)  (hp : mP t) : zI l yX7_undo wsX7_undo 0 D cy K n ad t [.ref (ad (0))] (fun r t1 => r = rX7_undo t ∧ t1 = sX7_undo t) := by
  refine z_startI (cc := cX7_undo) (mL := 2) (ret := (some .int)) (own := RX7) rfl (by decide +kernel) rfl hJ (Nat.le_of_ble_eq_true rfl) ?_
  intro p e s m args below meth c A hA Q hQ C
  refine z_aload_n C 0 0 0 dX7_undo_0 rfl rfl ?_
  refine z_geti C 1 (0) 4 dX7_undo_1 hO.h0 hO.e0 mX7_undo_in7 rfl (by decide) mX7_undo_f35 (fun _ => rfl) ?_
  refine z_if_ne C 4 10 dX7_undo_4 (by decide) (fun c4_1 => ?_) (fun c4_1 => ?_)
  · refine z_aload_n C 10 0 0 dX7_undo_10 rfl rfl ?_
    refine z_dup C 11 dX7_undo_11 rfl ?_
    refine z_geti C 12 (0) 4 dX7_undo_12 hO.h0 hO.e0 mX7_undo_in7 rfl (by decide) mX7_undo_f35 (fun _ => rfl) ?_
    refine z_iconst C 15 (v := 1) dX7_undo_15 (by decide +kernel) ?_
    refine z_isub C 16 dX7_undo_16 ?_
    refine z_put C 17 (ty := .int) (0) 4 dX7_undo_17 hO.h0 hO.e0 mX7_undo_in7 tyX7 tyX7_ok nmX7 rfl (by decide) mX7_undo_f35 rfl (by decide +kernel) (vp_nar_int _) (zfit_i _) (fun _ => Nat.le_of_ble_eq_true rfl) (fun _ _ => rfl) ?_
    refine z_iconst C 20 (v := 0) dX7_undo_20 (by decide +kernel) ?_
    refine z_istore_n C 21 1 ([(1, .int 0), (0, .ref (ad (0)))]) dX7_undo_21 rfl (by decide) rfl ?_
    have L22 : ∀ (j : Nat) (k : Nat) (u : zM), (h0_22 : 415 ≤ k + j) → (hk : k ≤ 414) → (hp3 : u 0 4 = (t 0 4) - 1 ∧ ((t 0 4) - 1).toNatClampNeg ≤ 3 ∧ (t 0 4) - 1 = nI ((t 0 4) - 1).toNatClampNeg) → (hI22 : rX7_undo t = (lX7_undo_22 t j k u)) → (hS22 : sX7_undo t = (lsX7_undo_22 t j k u)) → Zw p l e (zR 0) s m args below meth c D A K n ad 2 Q 22 ([(1, .int (nI k)), (0, .ref (ad (0)))]) [] u := by
      intro j
      induction j with
      | zero =>
        intro k u h0_22 hk hp3 hI22 hS22
        exact absurd h0_22 (by omega)
      | succ j ih22 =>
        intro k u h0_22 hk hp3 hI22 hS22
        refine z_iload_n C 22 1 0 dX7_undo_22 rfl rfl ?_
        refine z_sipush C 23 (v := 414) dX7_undo_23 (by decide +kernel) ?_
        refine z_icmp_ge C 26 56 dX7_undo_26 (by decide) (fun c26_2 => ?_) (fun c26_2 => ?_)
        · refine z_aload_n C 56 0 1 dX7_undo_56 rfl rfl ?_
          refine z_geti C 57 (0) 4 dX7_undo_57 hO.h0 hO.e0 mX7_undo_in7 rfl (by decide) mX7_undo_f35 (fun _ => rfl) ?_
          exact z_iret C 60 hA hQ rfl dX7_undo_60 ⟨((hI22.trans ((if_pos c26_2).trans rfl))).symm, ((hS22.trans ((if_pos c26_2).trans rfl))).symm⟩
        · refine z_aload_n C 29 0 1 dX7_undo_29 rfl rfl ?_
          refine z_getr C 30 (a9 := ad (1)) (0) 0 dX7_undo_30 hO.h0 hO.e0 mX7_undo_in7 rfl (by decide) mX7_undo_f7 (fun _ => rfl) ?_
          refine z_iload_n C 33 1 0 dX7_undo_33 rfl rfl ?_
          refine z_aload_n C 34 0 1 dX7_undo_34 rfl rfl ?_
          refine z_getr C 35 (a9 := ad (2)) (0) 1 dX7_undo_35 hO.h0 hO.e0 mX7_undo_in7 rfl (by decide) mX7_undo_f13 (fun _ => rfl) ?_
          refine z_sipush C 38 (v := 414) dX7_undo_38 (by decide +kernel) ?_
          refine z_aload_n C 41 0 1 dX7_undo_41 rfl rfl ?_
          refine z_geti C 42 (0) 4 dX7_undo_42 hO.h0 hO.e0 mX7_undo_in7 rfl (by decide) mX7_undo_f35 (fun _ => rfl) ?_
          refine z_imul C 45 dX7_undo_45 ?_
          refine z_iload_n C 46 1 0 dX7_undo_46 rfl rfl ?_
          refine z_iadd C 47 dX7_undo_47 ?_
          refine z_ialdN C 48 (2) (414 * ((t 0 4) - 1).toNatClampNeg + k) dX7_undo_48 hO.h2 hO.e2 ((congrArg (fun z9 => 414 * z9 + nI k) (hp3.1.trans hp3.2.2)).trans ((congrArg (· + nI k) (nI_mul 414 _)).trans (nI_add _ _))) (by have := hp3.2.1; have := (zge (b := 414) (by omega) (by decide) ‹¬ (414 : Int32) ≤ nI k›); omega) (by decide) ?_
          refine z_iastN C 49 (1) k dX7_undo_49 hO.h1 hO.e1 rfl (zge (b := 414) (by omega) (by decide) ‹¬ (414 : Int32) ≤ nI k›) (by decide) ?_
          refine z_iinc C 50 (v := nI (k + 1)) 1 0 ([(1, .int (nI (k + 1))), (0, .ref (ad (0)))]) dX7_undo_50 rfl (nI_1 _) (by decide) rfl ?_
          refine z_goto C 53 22 dX7_undo_53 (by decide) ?_
          refine z_ls [0, 1] _ rfl ?_
          exact ih22 (k + 1) (zset u (1) k (u (2) (414 * ((t 0 4) - 1).toNatClampNeg + k))) (by omega) (by have := (zge (b := 414) (by omega) (by decide) ‹¬ (414 : Int32) ≤ nI k›); omega) (by rw [zset_idk _ _ _ _ (by decide)]; exact hp3) (hI22.trans ((if_neg c26_2).trans rfl)) (hS22.trans ((if_neg c26_2).trans rfl))
    refine z_ls [0, 1] _ rfl ?_
    exact L22 (415) 0 (zset t (0) 4 ((t (0) 4) - 1)) (by omega) (by decide) ⟨zset_eq _ _ _ _, mP_dec hp (by assumption)⟩ ((if_neg c4_1).trans rfl) ((if_neg c4_1).trans rfl)
  · refine z_ldc C 7 (v := (-1000002)) dX7_undo_7 mX7_undo_c100 ?_
    exact z_iret C 9 hA hQ rfl dX7_undo_9 ⟨((if_pos c4_1).trans rfl).symm, ((if_pos c4_1).trans rfl).symm⟩
def rX7_type (t : zM) (a1 : Int32) : Int32 := (if (rX7_in a1 32 126) = 0 then (-1000001) else (if (t (0) 7) = 60 then (-1000003) else ((t (0) 7) + 1)))
def sX7_type (t : zM) (a1 : Int32) : zM := (if (rX7_in a1 32 126) = 0 then t else (if (t (0) 7) = 60 then t else (zset (zset t (5) ((t (0) 7).toNatClampNeg) a1) (0) 7 ((t (0) 7) + 1))))
theorem mX7_type_f141 : Cond.fieldLink RX7 141 "WrongedMetersModel" "typed" "I" ∈ wsX7_type := by decide +kernel
set_option maxRecDepth 20000 in
theorem mX7_type_in7 : ∀ w ∈ u_ws RX7 TX7 16, w ∈ wsX7_type := by decide +kernel
theorem mX7_type_f22 : Cond.fieldLink RX7 22 "WrongedMetersModel" "text" "[I" ∈ wsX7_type := by decide +kernel
theorem mX7_type_c101 : Cond.constant RX7 101 (-1000003) ∈ wsX7_type := by decide +kernel
theorem mX7_type_c96 : Cond.constant RX7 96 (-1000001) ∈ wsX7_type := by decide +kernel
theorem hyX7_type : yX7_type.cls = RX7 ∧ yX7_type.cls ≠ "java/lang/invoke/MethodHandle" ∧ yX7_type.cls ≠ "java/lang/invoke/VarHandle" ∧ (parseMethodDescriptor yX7_type.desc).map (fun d => d.parameters.length) = some 1 := by decide +kernel
set_option maxHeartbeats 3000000 in
set_option maxRecDepth 100000 in
theorem kX7_type (l : Launch) (D : va_G) (cy : Nat → ClassId) (K : zK) (n : Nat) (ad : Nat → Nat) (hJ : zJ n ad) (hO : zModel cy K n ad) (t : zM) (a1 : Int32) (hT : mT t) : zI l yX7_type wsX7_type 1 D cy K n ad t [.ref (ad (0)), .int a1] (fun r t1 => r = rX7_type t a1 ∧ t1 = sX7_type t a1) := by
  refine z_startI (cc := cX7_type) (mL := 2) (ret := (some .int)) (own := RX7) rfl (by decide +kernel) rfl hJ (Nat.le_of_ble_eq_true rfl) ?_
  intro p e s m args below meth c A hA Q hQ C
  refine z_iload_n C 0 1 1 dX7_type_0 rfl rfl ?_
  refine z_bipush C 1 (v := 32) dX7_type_1 (by decide +kernel) ?_
  refine z_bipush C 3 (v := 126) dX7_type_3 (by decide +kernel) ?_
  refine z_statIe C 5 (As := [.int a1, .int 32, .int 126]) (st := []) (kX7_in l D cy K n ad hJ t a1 32 126 ) dX7_type_5 rfl gX7_type_X7_in hyX7_in rfl (by decide) (by decide) rfl rfl (Nat.le_of_ble_eq_true rfl) ?_
  refine z_if_ne C 8 14 dX7_type_8 (by decide) (fun c8_2 => ?_) (fun c8_2 => ?_)
  · refine z_aload_n C 14 0 0 dX7_type_14 rfl rfl ?_
    refine z_geti C 15 (0) 7 dX7_type_15 hO.h0 hO.e0 mX7_type_in7 rfl (by decide) mX7_type_f141 (fun _ => rfl) ?_
    refine z_bipush C 18 (v := 60) dX7_type_18 (by decide +kernel) ?_
    refine z_icmp_ne C 20 26 dX7_type_20 (by decide) (fun c20_3 => ?_) (fun c20_3 => ?_)
    · refine z_aload_n C 26 0 0 dX7_type_26 rfl rfl ?_
      refine z_getr C 27 (a9 := ad (5)) (0) 6 dX7_type_27 hO.h0 hO.e0 mX7_type_in7 rfl (by decide) mX7_type_f22 (fun _ => rfl) ?_
      refine z_aload_n C 30 0 0 dX7_type_30 rfl rfl ?_
      refine z_geti C 31 (0) 7 dX7_type_31 hO.h0 hO.e0 mX7_type_in7 rfl (by decide) mX7_type_f141 (fun _ => rfl) ?_
      refine z_iload_n C 34 1 1 dX7_type_34 rfl rfl ?_
      refine z_iastN C 35 (5) ((t (0) 7).toNatClampNeg) dX7_type_35 hO.h5 hO.e5 (mT_c hT).2 (mT_ne hT (by assumption)) (by decide) ?_
      refine z_aload_n C 36 0 0 dX7_type_36 rfl rfl ?_
      refine z_dup C 37 dX7_type_37 rfl ?_
      refine z_geti C 38 (0) 7 dX7_type_38 hO.h0 hO.e0 mX7_type_in7 rfl (by decide) mX7_type_f141 (fun _ => rfl) ?_
      refine z_nv (t (0) 7) ((zset_idk _ _ _ _ (by decide)).trans rfl) ?_
      refine z_iconst C 41 (v := 1) dX7_type_41 (by decide +kernel) ?_
      refine z_iadd C 42 dX7_type_42 ?_
      refine z_put C 43 (ty := .int) (0) 7 dX7_type_43 hO.h0 hO.e0 mX7_type_in7 tyX7 tyX7_ok nmX7 rfl (by decide) mX7_type_f141 rfl (by decide +kernel) (vp_nar_int _) (zfit_i _) (fun _ => Nat.le_of_ble_eq_true rfl) (fun _ _ => rfl) ?_
      refine z_aload_n C 46 0 0 dX7_type_46 rfl rfl ?_
      refine z_geti C 47 (0) 7 dX7_type_47 hO.h0 hO.e0 mX7_type_in7 rfl (by decide) mX7_type_f141 (fun _ => rfl) ?_
      refine z_nv ((t (0) 7) + 1) (zset_eq _ _ _ _) ?_
      exact z_iret C 50 hA hQ rfl dX7_type_50 ⟨((if_neg c8_2).trans ((if_neg c20_3).trans rfl)).symm, ((if_neg c8_2).trans ((if_neg c20_3).trans rfl)).symm⟩
    · refine z_ldc C 23 (v := (-1000003)) dX7_type_23 mX7_type_c101 ?_
      exact z_iret C 25 hA hQ rfl dX7_type_25 ⟨((if_neg c8_2).trans ((if_pos c20_3).trans rfl)).symm, ((if_neg c8_2).trans ((if_pos c20_3).trans rfl)).symm⟩
  · refine z_ldc C 11 (v := (-1000001)) dX7_type_11 mX7_type_c96 ?_
    exact z_iret C 13 hA hQ rfl dX7_type_13 ⟨((if_pos c8_2).trans rfl).symm, ((if_pos c8_2).trans rfl).symm⟩
def rX7_clearText (t : zM)  : Int32 := (t (0) 7)
def sX7_clearText (t : zM)  : zM := (zset t (0) 7 0)
theorem mX7_clearText_f141 : Cond.fieldLink RX7 141 "WrongedMetersModel" "typed" "I" ∈ wsX7_clearText := by decide +kernel
set_option maxRecDepth 20000 in
theorem mX7_clearText_in7 : ∀ w ∈ u_ws RX7 TX7 16, w ∈ wsX7_clearText := by decide +kernel
theorem hyX7_clearText : yX7_clearText.cls = RX7 ∧ yX7_clearText.cls ≠ "java/lang/invoke/MethodHandle" ∧ yX7_clearText.cls ≠ "java/lang/invoke/VarHandle" ∧ (parseMethodDescriptor yX7_clearText.desc).map (fun d => d.parameters.length) = some 0 := by decide +kernel
set_option maxHeartbeats 3000000 in
set_option maxRecDepth 100000 in
theorem kX7_clearText (l : Launch) (D : va_G) (cy : Nat → ClassId) (K : zK) (n : Nat) (ad : Nat → Nat) (hJ : zJ n ad) (hO : zModel cy K n ad) (t : zM)   : zI l yX7_clearText wsX7_clearText 0 D cy K n ad t [.ref (ad (0))] (fun r t1 => r = rX7_clearText t ∧ t1 = sX7_clearText t) := by
  refine z_startI (cc := cX7_clearText) (mL := 2) (ret := (some .int)) (own := RX7) rfl (by decide +kernel) rfl hJ (Nat.le_of_ble_eq_true rfl) ?_
  intro p e s m args below meth c A hA Q hQ C
  refine z_aload_n C 0 0 0 dX7_clearText_0 rfl rfl ?_
  refine z_geti C 1 (0) 7 dX7_clearText_1 hO.h0 hO.e0 mX7_clearText_in7 rfl (by decide) mX7_clearText_f141 (fun _ => rfl) ?_
  refine z_istore_n C 4 1 ([(1, .int (t (0) 7)), (0, .ref (ad (0)))]) dX7_clearText_4 rfl (by decide) rfl ?_
  refine z_aload_n C 5 0 1 dX7_clearText_5 rfl rfl ?_
  refine z_iconst C 6 (v := 0) dX7_clearText_6 (by decide +kernel) ?_
  refine z_put C 7 (ty := .int) (0) 7 dX7_clearText_7 hO.h0 hO.e0 mX7_clearText_in7 tyX7 tyX7_ok nmX7 rfl (by decide) mX7_clearText_f141 rfl (by decide +kernel) (vp_nar_int _) (zfit_i _) (fun _ => Nat.le_of_ble_eq_true rfl) (fun _ _ => rfl) ?_
  refine z_iload_n C 10 1 0 dX7_clearText_10 rfl rfl ?_
  exact z_iret C 11 hA hQ rfl dX7_clearText_11 ⟨rfl, rfl⟩
