theorem lX7_walks_11_n {H N q : Nat} {t : zM} (hm0 : mS H N t) : ∀ (j k v : Nat) (u : zM), 25 ≤ k + j → k ≤ 24 → v ≤ k → ∃ r, r ≤ 24 ∧ lX7_walks_11 t q j k (nI v) u = nI r := by
  intro j
  induction j with
  | zero => intro k v u h0 hk; omega
  | succ j ih =>
    intro k v u h0 hk hv
    unfold lX7_walks_11
    split
    · exact ⟨v, by omega, rfl⟩
    · have hlt : k < 24 := zrnd_lt (rX7_rounds_le hm0) hk (by assumption)
      split
      · exact ⟨v, by omega, rfl⟩
      · split
        · split
          · rw [nI_1]
            exact ih _ _ _ (by omega) (by omega) (by omega)
          · rw [show nI v + 0 = nI v from Int32.add_zero _]
            exact ih _ _ _ (by omega) (by omega) (by omega)
        · exact ih _ _ _ (by omega) (by omega) (by omega)
theorem rX7_walks_n {H N q : Nat} {t : zM} (hm : mS H N t) : ∃ r, r ≤ 24 ∧ rX7_walks t q = nI r := lX7_walks_11_n hm 25 0 0 _ (by decide) (by decide) (Nat.le_refl _)
theorem lX7_day_2_n {H N : Nat} (t : zM) : ∀ (j k : Nat) (u : zM), 25 ≤ k + j → k ≤ H → mS H N u → ∃ r, r ≤ 24 ∧ lX7_day_2 t N j k u = nI r := by
  intro j
  induction j with
  | zero => intro k u h0 hk h; have := h.1; omega
  | succ j ih =>
    intro k u h0 hk hm
    unfold lX7_day_2
    split
    · split
      · exact rX7_walks_n (mS_now hm)
      · exact rX7_walks_n (mS_now hm)
    · have hlt : k < H := hm.lt (Nat.le_trans hk hm.1) (by assumption)
      have := hm.1
      exact ih _ _ (by omega) hlt (mS_set1 hm (by omega) (by omega) (by omega) (by omega))
theorem rX7_day_n {H N : Nat} {t : zM} (hm : mS H N t) : ∃ r, r ≤ 24 ∧ rX7_day t N = nI r := lX7_day_2_n t 25 0 t (by decide) (Nat.zero_le _) hm
theorem rX7_day_nonneg {H N : Nat} {t : zM} (hm : mS H N t) : 0 ≤ rX7_day t N := by
  obtain ⟨r, hr, e⟩ := rX7_day_n hm
  rw [e]
  exact nI_pos' (by omega)
theorem mS_zcp {H N a c m : Nat} {t : zM} (h : mS H N t) (h1 : 1 ≠ c) (h6 : 6 ≠ c) : mS H N (zcp t a c m) := mS_fr h (if_neg h1) (if_neg h6)
def lX7_refundIn_32 (t : zM) (a1 : Int32) (N : Nat) : Nat → Nat → zM → Int32
  | 0, _, _ => 0
  | j + 1, k, u => (if 400 ≤ nI k then (if (u (1) (14 * a1.toNatClampNeg + 12)) = (t (1) (14 * a1.toNatClampNeg + 12)) then (-1000004) else nI k) else (if (u (1) (14 * a1.toNatClampNeg + 12)) = (t (1) (14 * a1.toNatClampNeg + 12)) then (lX7_refundIn_32 t a1 N j (k + 1) (sX7_day u (N + k))) else nI k))
def lsX7_refundIn_32 (t : zM) (a1 : Int32) (N : Nat) : Nat → Nat → zM → zM
  | 0, _, u => u
  | j + 1, k, u => (if 400 ≤ nI k then (if (u (1) (14 * a1.toNatClampNeg + 12)) = (t (1) (14 * a1.toNatClampNeg + 12)) then (zcp u (4) (1) 414) else (zcp u (4) (1) 414)) else (if (u (1) (14 * a1.toNatClampNeg + 12)) = (t (1) (14 * a1.toNatClampNeg + 12)) then (lsX7_refundIn_32 t a1 N j (k + 1) (sX7_day u (N + k))) else (zcp u (4) (1) 414)))
def rX7_refundIn (t : zM) (a1 : Int32) (N : Nat) : Int32 := (if (rX7_isHouse t a1) = 0 then (-1000001) else (lX7_refundIn_32 t a1 N 401 0 (zcp t (1) (4) 414)))
def sX7_refundIn (t : zM) (a1 : Int32) (N : Nat) : zM := (if (rX7_isHouse t a1) = 0 then t else (lsX7_refundIn_32 t a1 N 401 0 (zcp t (1) (4) 414)))
theorem mX7_refundIn_f7 : Cond.fieldLink RX7 7 "WrongedMetersModel" "s" "[I" ∈ wsX7_refundIn := by decide +kernel
set_option maxRecDepth 20000 in
theorem mX7_refundIn_in7 : ∀ w ∈ u_ws RX7 TX7 16, w ∈ wsX7_refundIn := by decide +kernel
theorem mX7_refundIn_f19 : Cond.fieldLink RX7 19 "WrongedMetersModel" "spare" "[I" ∈ wsX7_refundIn := by decide +kernel
theorem mX7_refundIn_c47 : Cond.constant RX7 47 (-1000004) ∈ wsX7_refundIn := by decide +kernel
theorem mX7_refundIn_c96 : Cond.constant RX7 96 (-1000001) ∈ wsX7_refundIn := by decide +kernel
theorem hyX7_refundIn : yX7_refundIn.cls = RX7 ∧ yX7_refundIn.cls ≠ "java/lang/invoke/MethodHandle" ∧ yX7_refundIn.cls ≠ "java/lang/invoke/VarHandle" ∧ (parseMethodDescriptor yX7_refundIn.desc).map (fun d => d.parameters.length) = some 1 := by decide +kernel
set_option maxHeartbeats 3000000 in
set_option maxRecDepth 100000 in
theorem kX7_refundIn (l : Launch) (D : va_G) (cy : Nat → ClassId) (K : zK) (n : Nat) (ad : Nat → Nat) (hJ : zJ n ad) (hO : zModel cy K n ad) (t : zM) (a1 : Int32) (H N : Nat) (hN : N ≤ 10000) (hm : mS H N t) : zI l yX7_refundIn wsX7_refundIn 7 D cy K n ad t [.ref (ad (0)), .int a1] (fun r t1 => r = rX7_refundIn t a1 N ∧ t1 = sX7_refundIn t a1 N) := by
  refine z_startI (cc := cX7_refundIn) (mL := 4) (ret := (some .int)) (own := RX7) rfl (by decide +kernel) rfl hJ (Nat.le_of_ble_eq_true rfl) ?_
  intro p e s m args below meth c A hA Q hQ C
  refine z_aload_n C 0 0 0 dX7_refundIn_0 rfl rfl ?_
  refine z_iload_n C 1 1 1 dX7_refundIn_1 rfl rfl ?_
  refine z_virtIe C 2 (As := [.int a1]) (st := []) (id := 0) (kX7_isHouse l D cy K n ad hJ hO t a1 ) dX7_refundIn_2 rfl gX7_refundIn_X7_isHouse hyX7_isHouse rfl (by decide) (by decide) hO.h0 rfl hO.e0 rfl rfl rfl (Nat.le_of_ble_eq_true rfl) ?_
  refine z_if_ne C 5 11 dX7_refundIn_5 (by decide) (fun c5_2 => ?_) (fun c5_2 => ?_)
  · have hq := isHouse_lt hm c5_2
    refine z_aload_n C 11 0 0 dX7_refundIn_11 rfl rfl ?_
    refine z_getr C 12 (a9 := ad (1)) (0) 0 dX7_refundIn_12 hO.h0 hO.e0 mX7_refundIn_in7 rfl (by decide) mX7_refundIn_f7 (fun _ => rfl) ?_
    refine z_aload_n C 15 0 0 dX7_refundIn_15 rfl rfl ?_
    refine z_getr C 16 (a9 := ad (4)) (0) 3 dX7_refundIn_16 hO.h0 hO.e0 mX7_refundIn_in7 rfl (by decide) mX7_refundIn_f19 (fun _ => rfl) ?_
    refine z_statVe C 19 (As := [.ref (ad (1)), .ref (ad (4))]) (st := []) (kX7_copies l D cy K n ad hJ t (1) (4) hO.h1 hO.h4 hO.e1 hO.e4) dX7_refundIn_19 rfl gX7_refundIn_X7_copies hyX7_copies rfl (by decide) (by decide) rfl rfl (Nat.le_of_ble_eq_true rfl) ?_
    refine z_nt (zcp t (1) (4) 414) (sX7_copies_e _ (by decide)) ?_
    refine z_aload_n C 22 0 0 dX7_refundIn_22 rfl rfl ?_
    refine z_iload_n C 23 1 1 dX7_refundIn_23 rfl rfl ?_
    refine z_bipush C 24 (v := 12) dX7_refundIn_24 (by decide +kernel) ?_
    refine z_virtIe C 26 (As := [.int a1, .int 12]) (st := []) (id := 0) (kX7_of l D cy K n ad hJ hO (zcp t (1) (4) 414) a1 12 a1.toNatClampNeg 12 (Nat.lt_of_lt_of_le hq.1 hm.1) (by decide) hq.2 rfl) dX7_refundIn_26 rfl gX7_refundIn_X7_of hyX7_of rfl (by decide) (by decide) hO.h0 rfl hO.e0 rfl rfl rfl (Nat.le_of_ble_eq_true rfl) ?_
    refine z_nv (t (1) (14 * a1.toNatClampNeg + 12)) (zcp_id _ _ _ _ (by decide) _) ?_
    refine z_istore_n C 29 2 ([(2, .int (t (1) (14 * a1.toNatClampNeg + 12))), (0, .ref (ad (0))), (1, .int a1)]) dX7_refundIn_29 rfl (by decide) rfl ?_
    refine z_iconst C 30 (v := 0) dX7_refundIn_30 (by decide +kernel) ?_
    refine z_istore_n C 31 3 ([(3, .int 0), (2, .int (t (1) (14 * a1.toNatClampNeg + 12))), (0, .ref (ad (0))), (1, .int a1)]) dX7_refundIn_31 rfl (by decide) rfl ?_
    have L32 : ∀ (j : Nat) (k : Nat) (u : zM), (h0_32 : 401 ≤ k + j) → (hk : k ≤ 400) → (hm2 : mS H (N + k) u) → (hI32 : rX7_refundIn t a1 N = (lX7_refundIn_32 t a1 N j k u)) → (hS32 : sX7_refundIn t a1 N = (lsX7_refundIn_32 t a1 N j k u)) → Zw p l e (zR 7) s m args below meth c D A K n ad 4 Q 32 ([(3, .int (nI k)), (2, .int (t (1) (14 * a1.toNatClampNeg + 12))), (0, .ref (ad (0))), (1, .int a1)]) [] u := by
      intro j
      induction j with
      | zero =>
        intro k u h0_32 hk hm2 hI32 hS32
        exact absurd h0_32 (by omega)
      | succ j ih32 =>
        intro k u h0_32 hk hm2 hI32 hS32
        refine z_iload_n C 32 3 0 dX7_refundIn_32 rfl rfl ?_
        refine z_sipush C 33 (v := 400) dX7_refundIn_33 (by decide +kernel) ?_
        refine z_icmp_ge C 36 68 dX7_refundIn_36 (by decide) (fun c36_5 => ?_) (fun c36_5 => ?_)
        · refine z_aload_n C 68 0 2 dX7_refundIn_68 rfl rfl ?_
          refine z_iload_n C 69 1 3 dX7_refundIn_69 rfl rfl ?_
          refine z_bipush C 70 (v := 12) dX7_refundIn_70 (by decide +kernel) ?_
          refine z_virtIe C 72 (As := [.int a1, .int 12]) (st := []) (id := 0) (kX7_of l D cy K n ad hJ hO u a1 12 a1.toNatClampNeg 12 (Nat.lt_of_lt_of_le hq.1 hm.1) (by decide) hq.2 rfl) dX7_refundIn_72 rfl gX7_refundIn_X7_of hyX7_of rfl (by decide) (by decide) hO.h0 rfl hO.e0 rfl rfl rfl (Nat.le_of_ble_eq_true rfl) ?_
          refine z_nv (u (1) (14 * a1.toNatClampNeg + 12)) rfl ?_
          refine z_iload_n C 75 2 1 dX7_refundIn_75 rfl rfl ?_
          refine z_icmp_ne C 76 84 dX7_refundIn_76 (by decide) (fun c76_7 => ?_) (fun c76_7 => ?_)
          · refine z_iload_n C 84 3 0 dX7_refundIn_84 rfl rfl ?_
            refine z_istore_n C 85 3 ([(3, .int (nI k)), (2, .int (t (1) (14 * a1.toNatClampNeg + 12))), (0, .ref (ad (0))), (1, .int a1)]) dX7_refundIn_85 rfl (by decide) rfl ?_
            refine z_aload_n C 86 0 2 dX7_refundIn_86 rfl rfl ?_
            refine z_getr C 87 (a9 := ad (4)) (0) 3 dX7_refundIn_87 hO.h0 hO.e0 mX7_refundIn_in7 rfl (by decide) mX7_refundIn_f19 (fun _ => rfl) ?_
            refine z_aload_n C 90 0 2 dX7_refundIn_90 rfl rfl ?_
            refine z_getr C 91 (a9 := ad (1)) (0) 0 dX7_refundIn_91 hO.h0 hO.e0 mX7_refundIn_in7 rfl (by decide) mX7_refundIn_f7 (fun _ => rfl) ?_
            refine z_statVe C 94 (As := [.ref (ad (4)), .ref (ad (1))]) (st := []) (kX7_copies l D cy K n ad hJ u (4) (1) hO.h4 hO.h1 hO.e4 hO.e1) dX7_refundIn_94 rfl gX7_refundIn_X7_copies hyX7_copies rfl (by decide) (by decide) rfl rfl (Nat.le_of_ble_eq_true rfl) ?_
            refine z_nt (zcp u (4) (1) 414) (sX7_copies_e _ (by decide)) ?_
            refine z_iload_n C 97 3 0 dX7_refundIn_97 rfl rfl ?_
            exact z_iret C 98 hA hQ rfl dX7_refundIn_98 ⟨((hI32.trans ((if_pos c36_5).trans ((if_neg c76_7).trans rfl)))).symm, ((hS32.trans ((if_pos c36_5).trans ((if_neg c76_7).trans rfl)))).symm⟩
          · refine z_ldc C 79 (v := (-1000004)) dX7_refundIn_79 mX7_refundIn_c47 ?_
            refine z_goto C 81 85 dX7_refundIn_81 (by decide) ?_
            refine z_istore_n C 85 3 ([(3, .int (-1000004)), (2, .int (t (1) (14 * a1.toNatClampNeg + 12))), (0, .ref (ad (0))), (1, .int a1)]) dX7_refundIn_85 rfl (by decide) rfl ?_
            refine z_aload_n C 86 0 2 dX7_refundIn_86 rfl rfl ?_
            refine z_getr C 87 (a9 := ad (4)) (0) 3 dX7_refundIn_87 hO.h0 hO.e0 mX7_refundIn_in7 rfl (by decide) mX7_refundIn_f19 (fun _ => rfl) ?_
            refine z_aload_n C 90 0 2 dX7_refundIn_90 rfl rfl ?_
            refine z_getr C 91 (a9 := ad (1)) (0) 0 dX7_refundIn_91 hO.h0 hO.e0 mX7_refundIn_in7 rfl (by decide) mX7_refundIn_f7 (fun _ => rfl) ?_
            refine z_statVe C 94 (As := [.ref (ad (4)), .ref (ad (1))]) (st := []) (kX7_copies l D cy K n ad hJ u (4) (1) hO.h4 hO.h1 hO.e4 hO.e1) dX7_refundIn_94 rfl gX7_refundIn_X7_copies hyX7_copies rfl (by decide) (by decide) rfl rfl (Nat.le_of_ble_eq_true rfl) ?_
            refine z_nt (zcp u (4) (1) 414) (sX7_copies_e _ (by decide)) ?_
            refine z_iload_n C 97 3 0 dX7_refundIn_97 rfl rfl ?_
            exact z_iret C 98 hA hQ rfl dX7_refundIn_98 ⟨((hI32.trans ((if_pos c36_5).trans ((if_pos c76_7).trans rfl)))).symm, ((hS32.trans ((if_pos c36_5).trans ((if_pos c76_7).trans rfl)))).symm⟩
        · refine z_aload_n C 39 0 2 dX7_refundIn_39 rfl rfl ?_
          refine z_iload_n C 40 1 3 dX7_refundIn_40 rfl rfl ?_
          refine z_bipush C 41 (v := 12) dX7_refundIn_41 (by decide +kernel) ?_
          refine z_virtIe C 43 (As := [.int a1, .int 12]) (st := []) (id := 0) (kX7_of l D cy K n ad hJ hO u a1 12 a1.toNatClampNeg 12 (Nat.lt_of_lt_of_le hq.1 hm.1) (by decide) hq.2 rfl) dX7_refundIn_43 rfl gX7_refundIn_X7_of hyX7_of rfl (by decide) (by decide) hO.h0 rfl hO.e0 rfl rfl rfl (Nat.le_of_ble_eq_true rfl) ?_
          refine z_nv (u (1) (14 * a1.toNatClampNeg + 12)) rfl ?_
          refine z_iload_n C 46 2 1 dX7_refundIn_46 rfl rfl ?_
          refine z_icmp_ne C 47 68 dX7_refundIn_47 (by decide) (fun c47_11 => ?_) (fun c47_11 => ?_)
          · refine z_aload_n C 68 0 2 dX7_refundIn_68 rfl rfl ?_
            refine z_iload_n C 69 1 3 dX7_refundIn_69 rfl rfl ?_
            refine z_bipush C 70 (v := 12) dX7_refundIn_70 (by decide +kernel) ?_
            refine z_virtIe C 72 (As := [.int a1, .int 12]) (st := []) (id := 0) (kX7_of l D cy K n ad hJ hO u a1 12 a1.toNatClampNeg 12 (Nat.lt_of_lt_of_le hq.1 hm.1) (by decide) hq.2 rfl) dX7_refundIn_72 rfl gX7_refundIn_X7_of hyX7_of rfl (by decide) (by decide) hO.h0 rfl hO.e0 rfl rfl rfl (Nat.le_of_ble_eq_true rfl) ?_
            refine z_nv (u (1) (14 * a1.toNatClampNeg + 12)) rfl ?_
            refine z_iload_n C 75 2 1 dX7_refundIn_75 rfl rfl ?_
            refine z_icmp_ne C 76 84 dX7_refundIn_76 (by decide) (fun c76_13 => ?_) (fun c76_13 => ?_)
            · refine z_iload_n C 84 3 0 dX7_refundIn_84 rfl rfl ?_
              refine z_istore_n C 85 3 ([(3, .int (nI k)), (2, .int (t (1) (14 * a1.toNatClampNeg + 12))), (0, .ref (ad (0))), (1, .int a1)]) dX7_refundIn_85 rfl (by decide) rfl ?_
              refine z_aload_n C 86 0 2 dX7_refundIn_86 rfl rfl ?_
              refine z_getr C 87 (a9 := ad (4)) (0) 3 dX7_refundIn_87 hO.h0 hO.e0 mX7_refundIn_in7 rfl (by decide) mX7_refundIn_f19 (fun _ => rfl) ?_
              refine z_aload_n C 90 0 2 dX7_refundIn_90 rfl rfl ?_
              refine z_getr C 91 (a9 := ad (1)) (0) 0 dX7_refundIn_91 hO.h0 hO.e0 mX7_refundIn_in7 rfl (by decide) mX7_refundIn_f7 (fun _ => rfl) ?_
              refine z_statVe C 94 (As := [.ref (ad (4)), .ref (ad (1))]) (st := []) (kX7_copies l D cy K n ad hJ u (4) (1) hO.h4 hO.h1 hO.e4 hO.e1) dX7_refundIn_94 rfl gX7_refundIn_X7_copies hyX7_copies rfl (by decide) (by decide) rfl rfl (Nat.le_of_ble_eq_true rfl) ?_
              refine z_nt (zcp u (4) (1) 414) (sX7_copies_e _ (by decide)) ?_
              refine z_iload_n C 97 3 0 dX7_refundIn_97 rfl rfl ?_
              exact z_iret C 98 hA hQ rfl dX7_refundIn_98 ⟨((hI32.trans ((if_neg c36_5).trans ((if_neg c47_11).trans rfl)))).symm, ((hS32.trans ((if_neg c36_5).trans ((if_neg c47_11).trans rfl)))).symm⟩
            · exact absurd c76_13 c47_11
          · refine z_iload_n C 50 3 0 dX7_refundIn_50 rfl rfl ?_
            refine z_aload_n C 51 0 2 dX7_refundIn_51 rfl rfl ?_
            refine z_virtIe C 52 (As := []) (st := [.int (nI k)]) (id := 0) (kX7_day l D cy K n ad hJ hO u H (N + k) (by omega) hm2) dX7_refundIn_52 rfl gX7_refundIn_X7_day hyX7_day rfl (by decide) (by decide) hO.h0 rfl hO.e0 rfl rfl rfl (Nat.le_of_ble_eq_true rfl) ?_
            refine z_if_ge C 55 62 dX7_refundIn_55 (by decide) (fun c55_16 => ?_) (fun c55_16 => ?_)
            · refine z_iconst C 62 (v := 1) dX7_refundIn_62 (by decide +kernel) ?_
              refine z_iadd C 63 dX7_refundIn_63 ?_
              refine z_nv (nI (k + 1)) (nI_1 _) ?_
              refine z_istore_n C 64 3 ([(3, .int (nI (k + 1))), (2, .int (t (1) (14 * a1.toNatClampNeg + 12))), (0, .ref (ad (0))), (1, .int a1)]) dX7_refundIn_64 rfl (by decide) rfl ?_
              refine z_goto C 65 32 dX7_refundIn_65 (by decide) ?_
              refine z_ls [0, 1, 2, 3] _ rfl ?_
              exact ih32 (k + 1) (sX7_day u (N + k)) (by omega) (by have := (zge (b := 400) (by omega) (by decide) ‹¬ (400 : Int32) ≤ nI k›); omega) (sX7_day_S hm2) (hI32.trans ((if_neg c36_5).trans ((if_pos c47_11).trans rfl))) (hS32.trans ((if_neg c36_5).trans ((if_pos c47_11).trans rfl)))
            · exact absurd (rX7_day_nonneg hm2) c55_16
    refine z_ls [0, 1, 2, 3] _ rfl ?_
    exact L32 (401) 0 (zcp t (1) (4) 414) (by omega) (by decide) (mS_zcp hm (by decide) (by decide)) ((if_neg c5_2).trans rfl) ((if_neg c5_2).trans rfl)
  · refine z_ldc C 8 (v := (-1000001)) dX7_refundIn_8 mX7_refundIn_c96 ?_
    exact z_iret C 10 hA hQ rfl dX7_refundIn_10 ⟨((if_pos c5_2).trans rfl).symm, ((if_pos c5_2).trans rfl).symm⟩
def rX7_ifDays (t : zM) (a1 : Int32) (a2 : Int32) (N : Nat) : Int32 := (if (rX7_in a1 1 99) = 0 then (-1000001) else (if (rX7_in a2 0 2) = 0 then (-1000001) else (if a2 = 0 then (rX7_pass (zcp t (1) (4) 414) a1.toNatClampNeg N) else (if a2 = 1 then (((sX7_pass (zcp t (1) (4) 414) a1.toNatClampNeg N) (1) 403) - ((sX7_pass (zcp t (1) (4) 414) a1.toNatClampNeg N) (4) 403)) else (((sX7_pass (zcp t (1) (4) 414) a1.toNatClampNeg N) (1) 406) - ((sX7_pass (zcp t (1) (4) 414) a1.toNatClampNeg N) (4) 406))))))
def sX7_ifDays (t : zM) (a1 : Int32) (a2 : Int32) (N : Nat) : zM := (if (rX7_in a1 1 99) = 0 then t else (if (rX7_in a2 0 2) = 0 then t else (if a2 = 0 then (zcp (sX7_pass (zcp t (1) (4) 414) a1.toNatClampNeg N) (4) (1) 414) else (if a2 = 1 then (zcp (sX7_pass (zcp t (1) (4) 414) a1.toNatClampNeg N) (4) (1) 414) else (zcp (sX7_pass (zcp t (1) (4) 414) a1.toNatClampNeg N) (4) (1) 414)))))
theorem mX7_ifDays_c96 : Cond.constant RX7 96 (-1000001) ∈ wsX7_ifDays := by decide +kernel
theorem mX7_ifDays_f7 : Cond.fieldLink RX7 7 "WrongedMetersModel" "s" "[I" ∈ wsX7_ifDays := by decide +kernel
set_option maxRecDepth 20000 in
theorem mX7_ifDays_in7 : ∀ w ∈ u_ws RX7 TX7 16, w ∈ wsX7_ifDays := by decide +kernel
theorem mX7_ifDays_f19 : Cond.fieldLink RX7 19 "WrongedMetersModel" "spare" "[I" ∈ wsX7_ifDays := by decide +kernel
theorem hyX7_ifDays : yX7_ifDays.cls = RX7 ∧ yX7_ifDays.cls ≠ "java/lang/invoke/MethodHandle" ∧ yX7_ifDays.cls ≠ "java/lang/invoke/VarHandle" ∧ (parseMethodDescriptor yX7_ifDays.desc).map (fun d => d.parameters.length) = some 2 := by decide +kernel
set_option maxHeartbeats 3000000 in
set_option maxRecDepth 100000 in
theorem kX7_ifDays (l : Launch) (D : va_G) (cy : Nat → ClassId) (K : zK) (n : Nat) (ad : Nat → Nat) (hJ : zJ n ad) (hO : zModel cy K n ad) (t : zM) (a1 a2 : Int32) (H N : Nat) (hN : N ≤ 10000) (hm : mS H N t) : zI l yX7_ifDays wsX7_ifDays 8 D cy K n ad t [.ref (ad (0)), .int a1, .int a2] (fun r t1 => r = rX7_ifDays t a1 a2 N ∧ t1 = sX7_ifDays t a1 a2 N) := by
  refine z_startI (cc := cX7_ifDays) (mL := 6) (ret := (some .int)) (own := RX7) rfl (by decide +kernel) rfl hJ (Nat.le_of_ble_eq_true rfl) ?_
  intro p e s m args below meth c A hA Q hQ C
  refine z_iload_n C 0 1 1 dX7_ifDays_0 rfl rfl ?_
  refine z_iconst C 1 (v := 1) dX7_ifDays_1 (by decide +kernel) ?_
  refine z_bipush C 2 (v := 99) dX7_ifDays_2 (by decide +kernel) ?_
  refine z_statIe C 4 (As := [.int a1, .int 1, .int 99]) (st := []) (kX7_in l D cy K n ad hJ t a1 1 99 ) dX7_ifDays_4 rfl gX7_ifDays_X7_in hyX7_in rfl (by decide) (by decide) rfl rfl (Nat.le_of_ble_eq_true rfl) ?_
  refine z_if_eq C 7 19 dX7_ifDays_7 (by decide) (fun c7_2 => ?_) (fun c7_2 => ?_)
  · refine z_ldc C 19 (v := (-1000001)) dX7_ifDays_19 mX7_ifDays_c96 ?_
    exact z_iret C 21 hA hQ rfl dX7_ifDays_21 ⟨((if_pos c7_2).trans rfl).symm, ((if_pos c7_2).trans rfl).symm⟩
  · have hq := m99 c7_2
    refine z_iload_n C 10 2 2 dX7_ifDays_10 rfl rfl ?_
    refine z_iconst C 11 (v := 0) dX7_ifDays_11 (by decide +kernel) ?_
    refine z_iconst C 12 (v := 2) dX7_ifDays_12 (by decide +kernel) ?_
    refine z_statIe C 13 (As := [.int a2, .int 0, .int 2]) (st := []) (kX7_in l D cy K n ad hJ t a2 0 2 ) dX7_ifDays_13 rfl gX7_ifDays_X7_in hyX7_in rfl (by decide) (by decide) rfl rfl (Nat.le_of_ble_eq_true rfl) ?_
    refine z_if_ne C 16 22 dX7_ifDays_16 (by decide) (fun c16_4 => ?_) (fun c16_4 => ?_)
    · refine z_aload_n C 22 0 0 dX7_ifDays_22 rfl rfl ?_
      refine z_getr C 23 (a9 := ad (1)) (0) 0 dX7_ifDays_23 hO.h0 hO.e0 mX7_ifDays_in7 rfl (by decide) mX7_ifDays_f7 (fun _ => rfl) ?_
      refine z_aload_n C 26 0 0 dX7_ifDays_26 rfl rfl ?_
      refine z_getr C 27 (a9 := ad (4)) (0) 3 dX7_ifDays_27 hO.h0 hO.e0 mX7_ifDays_in7 rfl (by decide) mX7_ifDays_f19 (fun _ => rfl) ?_
      refine z_statVe C 30 (As := [.ref (ad (1)), .ref (ad (4))]) (st := []) (kX7_copies l D cy K n ad hJ t (1) (4) hO.h1 hO.h4 hO.e1 hO.e4) dX7_ifDays_30 rfl gX7_ifDays_X7_copies hyX7_copies rfl (by decide) (by decide) rfl rfl (Nat.le_of_ble_eq_true rfl) ?_
      refine z_nt (zcp t (1) (4) 414) (sX7_copies_e _ (by decide)) ?_
      refine z_aload_n C 33 0 0 dX7_ifDays_33 rfl rfl ?_
      refine z_iload_n C 34 1 1 dX7_ifDays_34 rfl rfl ?_
      refine z_nv (nI a1.toNatClampNeg) hq.2 ?_
      refine z_virtIe C 35 (As := [.int (nI a1.toNatClampNeg)]) (st := []) (id := 0) (kX7_pass l D cy K n ad hJ hO (zcp t (1) (4) 414) a1.toNatClampNeg N H hq.1 hN (mS_zcp hm (by decide) (by decide))) dX7_ifDays_35 rfl gX7_ifDays_X7_pass hyX7_pass rfl (by decide) (by decide) hO.h0 rfl hO.e0 rfl rfl rfl (Nat.le_of_ble_eq_true rfl) ?_
      refine z_istore_n C 38 3 ([(3, .int (rX7_pass (zcp t (1) (4) 414) a1.toNatClampNeg N)), (0, .ref (ad (0))), (1, .int a1), (2, .int a2)]) dX7_ifDays_38 rfl (by decide) rfl ?_
      refine z_aload_n C 39 0 1 dX7_ifDays_39 rfl rfl ?_
      refine z_getr C 40 (a9 := ad (1)) (0) 0 dX7_ifDays_40 hO.h0 hO.e0 mX7_ifDays_in7 rfl (by decide) mX7_ifDays_f7 (fun _ => rfl) ?_
      refine z_sipush C 43 (v := 403) dX7_ifDays_43 (by decide +kernel) ?_
      refine z_ialdN C 46 (1) 403 dX7_ifDays_46 hO.h1 hO.e1 rfl (by decide) (by decide) ?_
      refine z_aload_n C 47 0 1 dX7_ifDays_47 rfl rfl ?_
      refine z_getr C 48 (a9 := ad (4)) (0) 3 dX7_ifDays_48 hO.h0 hO.e0 mX7_ifDays_in7 rfl (by decide) mX7_ifDays_f19 (fun _ => rfl) ?_
      refine z_sipush C 51 (v := 403) dX7_ifDays_51 (by decide +kernel) ?_
      refine z_ialdN C 54 (4) 403 dX7_ifDays_54 hO.h4 hO.e4 rfl (by decide) (by decide) ?_
      refine z_isub C 55 dX7_ifDays_55 ?_
      refine z_istore C 56 4 ([(4, .int (((sX7_pass (zcp t (1) (4) 414) a1.toNatClampNeg N) (1) 403) - ((sX7_pass (zcp t (1) (4) 414) a1.toNatClampNeg N) (4) 403))), (3, .int (rX7_pass (zcp t (1) (4) 414) a1.toNatClampNeg N)), (0, .ref (ad (0))), (1, .int a1), (2, .int a2)]) dX7_ifDays_56 (by decide) rfl ?_
      refine z_aload_n C 58 0 2 dX7_ifDays_58 rfl rfl ?_
      refine z_getr C 59 (a9 := ad (1)) (0) 0 dX7_ifDays_59 hO.h0 hO.e0 mX7_ifDays_in7 rfl (by decide) mX7_ifDays_f7 (fun _ => rfl) ?_
      refine z_sipush C 62 (v := 406) dX7_ifDays_62 (by decide +kernel) ?_
      refine z_ialdN C 65 (1) 406 dX7_ifDays_65 hO.h1 hO.e1 rfl (by decide) (by decide) ?_
      refine z_aload_n C 66 0 2 dX7_ifDays_66 rfl rfl ?_
      refine z_getr C 67 (a9 := ad (4)) (0) 3 dX7_ifDays_67 hO.h0 hO.e0 mX7_ifDays_in7 rfl (by decide) mX7_ifDays_f19 (fun _ => rfl) ?_
      refine z_sipush C 70 (v := 406) dX7_ifDays_70 (by decide +kernel) ?_
      refine z_ialdN C 73 (4) 406 dX7_ifDays_73 hO.h4 hO.e4 rfl (by decide) (by decide) ?_
      refine z_isub C 74 dX7_ifDays_74 ?_
      refine z_istore C 75 5 ([(5, .int (((sX7_pass (zcp t (1) (4) 414) a1.toNatClampNeg N) (1) 406) - ((sX7_pass (zcp t (1) (4) 414) a1.toNatClampNeg N) (4) 406))), (4, .int (((sX7_pass (zcp t (1) (4) 414) a1.toNatClampNeg N) (1) 403) - ((sX7_pass (zcp t (1) (4) 414) a1.toNatClampNeg N) (4) 403))), (3, .int (rX7_pass (zcp t (1) (4) 414) a1.toNatClampNeg N)), (0, .ref (ad (0))), (1, .int a1), (2, .int a2)]) dX7_ifDays_75 (by decide) rfl ?_
      refine z_aload_n C 77 0 3 dX7_ifDays_77 rfl rfl ?_
      refine z_getr C 78 (a9 := ad (4)) (0) 3 dX7_ifDays_78 hO.h0 hO.e0 mX7_ifDays_in7 rfl (by decide) mX7_ifDays_f19 (fun _ => rfl) ?_
      refine z_aload_n C 81 0 3 dX7_ifDays_81 rfl rfl ?_
      refine z_getr C 82 (a9 := ad (1)) (0) 0 dX7_ifDays_82 hO.h0 hO.e0 mX7_ifDays_in7 rfl (by decide) mX7_ifDays_f7 (fun _ => rfl) ?_
      refine z_statVe C 85 (As := [.ref (ad (4)), .ref (ad (1))]) (st := []) (kX7_copies l D cy K n ad hJ (sX7_pass (zcp t (1) (4) 414) a1.toNatClampNeg N) (4) (1) hO.h4 hO.h1 hO.e4 hO.e1) dX7_ifDays_85 rfl gX7_ifDays_X7_copies hyX7_copies rfl (by decide) (by decide) rfl rfl (Nat.le_of_ble_eq_true rfl) ?_
      refine z_nt (zcp (sX7_pass (zcp t (1) (4) 414) a1.toNatClampNeg N) (4) (1) 414) (sX7_copies_e _ (by decide)) ?_
      refine z_iload_n C 88 2 5 dX7_ifDays_88 rfl rfl ?_
      refine z_if_ne C 89 96 dX7_ifDays_89 (by decide) (fun c89_8 => ?_) (fun c89_8 => ?_)
      · refine z_iload_n C 96 2 5 dX7_ifDays_96 rfl rfl ?_
        refine z_iconst C 97 (v := 1) dX7_ifDays_97 (by decide +kernel) ?_
        refine z_icmp_ne C 98 106 dX7_ifDays_98 (by decide) (fun c98_9 => ?_) (fun c98_9 => ?_)
        · refine z_iload C 106 5 0 dX7_ifDays_106 rfl ?_
          exact z_iret C 108 hA hQ rfl dX7_ifDays_108 ⟨((if_neg c7_2).trans ((if_neg c16_4).trans ((if_neg c89_8).trans ((if_neg c98_9).trans rfl)))).symm, ((if_neg c7_2).trans ((if_neg c16_4).trans ((if_neg c89_8).trans ((if_neg c98_9).trans rfl)))).symm⟩
        · refine z_iload C 101 4 1 dX7_ifDays_101 rfl ?_
          refine z_goto C 103 108 dX7_ifDays_103 (by decide) ?_
          exact z_iret C 108 hA hQ rfl dX7_ifDays_108 ⟨((if_neg c7_2).trans ((if_neg c16_4).trans ((if_neg c89_8).trans ((if_pos c98_9).trans rfl)))).symm, ((if_neg c7_2).trans ((if_neg c16_4).trans ((if_neg c89_8).trans ((if_pos c98_9).trans rfl)))).symm⟩
      · refine z_iload_n C 92 3 2 dX7_ifDays_92 rfl rfl ?_
        refine z_goto C 93 108 dX7_ifDays_93 (by decide) ?_
        exact z_iret C 108 hA hQ rfl dX7_ifDays_108 ⟨((if_neg c7_2).trans ((if_neg c16_4).trans ((if_pos c89_8).trans rfl))).symm, ((if_neg c7_2).trans ((if_neg c16_4).trans ((if_pos c89_8).trans rfl))).symm⟩
    · refine z_ldc C 19 (v := (-1000001)) dX7_ifDays_19 mX7_ifDays_c96 ?_
      exact z_iret C 21 hA hQ rfl dX7_ifDays_21 ⟨((if_neg c7_2).trans ((if_pos c16_4).trans rfl)).symm, ((if_neg c7_2).trans ((if_pos c16_4).trans rfl)).symm⟩
def mX (A B : Nat) (t : zM) : Prop := ∃ x, A ≤ x ∧ x ≤ B ∧ t 0 9 = nI x
theorem mX.c {A B : Nat} {t : zM} (h : mX A B t) (hB : B ≤ 1000) : A ≤ (t 0 9).toNatClampNeg ∧ (t 0 9).toNatClampNeg ≤ B ∧ t 0 9 = nI (t 0 9).toNatClampNeg := by
  obtain ⟨x, hA, hx, e⟩ := h
  rw [e, nI_clamp (by omega)]
  exact ⟨hA, hx, rfl⟩
theorem mX.mono {A A2 B B2 : Nat} {t : zM} (h : mX A B t) (hA : A2 ≤ A) (hB : B ≤ B2) : mX A2 B2 t := by
  obtain ⟨x, h1, hx, e⟩ := h
  exact ⟨x, by omega, by omega, e⟩
theorem mX.lt {A B : Nat} {t : zM} (hB : B ≤ 1000) (hT : mT t) (h : mX A B t) (c : ¬ t 0 7 ≤ t 0 9) : (t 0 9).toNatClampNeg < 60 := by
  obtain ⟨x, h1, hx, e⟩ := h
  obtain ⟨T, hT, e2⟩ := hT
  rw [e, e2] at c
  rw [e, nI_clamp (by omega)]
  have := zge (by omega) (by omega) c
  omega
theorem mX_w {A B : Nat} {t : zM} (h : mX A B t) (S : zM) : mX (A + 1) (B + 1) (zset S 0 9 (t 0 9 + 1)) := by
  obtain ⟨x, h1, hx, e⟩ := h
  exact ⟨x + 1, by omega, by omega, by rw [zset_eq, e]; exact nI_1 x⟩
theorem mX_set {A B id k : Nat} {t : zM} {v : Int32} (h : mX A B t) (hk : id ≠ 0 ∨ k ≠ 9) : mX A B (zset t id k v) := by
  obtain ⟨x, h1, hx, e⟩ := h
  refine ⟨x, h1, hx, ?_⟩
  rw [← e]
  by_cases h0 : 0 = id
  · subst h0
    rcases hk with hk | hk
    · exact absurd rfl hk
    · exact zset_nk _ _ _ (Ne.symm hk)
  · exact zset_idk _ _ _ _ h0
theorem mX_fr {A B : Nat} {t S : zM} (h : mX A B t) (e : S 0 9 = t 0 9) : mX A B S := by
  unfold mX
  rw [e]
  exact h
theorem mT_fr {t S : zM} (h : mT t) (e : S 0 7 = t 0 7) : mT S := by
  unfold mT
  rw [e]
  exact h
theorem mT_set {id k : Nat} {t : zM} {v : Int32} (h : mT t) (hk : id ≠ 0 ∨ k ≠ 7) : mT (zset t id k v) := by
  obtain ⟨x, hx, e⟩ := h
  refine ⟨x, hx, ?_⟩
  rw [← e]
  by_cases h0 : 0 = id
  · subst h0
    rcases hk with hk | hk
    · exact absurd rfl hk
    · exact zset_nk _ _ _ (Ne.symm hk)
  · exact zset_idk _ _ _ _ h0
def rX7_isAt (t : zM) (a1 : Int32) (a2 : Int32) : Int32 := (if (t (0) 7) ≤ (t (0) 9) then 0 else (if (rX7_in (t (5) ((t (0) 9).toNatClampNeg)) a1 a2) = 0 then 0 else 1))
theorem mX7_isAt_f144 : Cond.fieldLink RX7 144 "WrongedMetersModel" "spot" "I" ∈ wsX7_isAt := by decide +kernel
set_option maxRecDepth 20000 in
theorem mX7_isAt_in7 : ∀ w ∈ u_ws RX7 TX7 16, w ∈ wsX7_isAt := by decide +kernel
theorem mX7_isAt_f141 : Cond.fieldLink RX7 141 "WrongedMetersModel" "typed" "I" ∈ wsX7_isAt := by decide +kernel
theorem mX7_isAt_f22 : Cond.fieldLink RX7 22 "WrongedMetersModel" "text" "[I" ∈ wsX7_isAt := by decide +kernel
theorem hyX7_isAt : yX7_isAt.cls = RX7 ∧ yX7_isAt.cls ≠ "java/lang/invoke/MethodHandle" ∧ yX7_isAt.cls ≠ "java/lang/invoke/VarHandle" ∧ (parseMethodDescriptor yX7_isAt.desc).map (fun d => d.parameters.length) = some 2 := by decide +kernel
set_option maxHeartbeats 3000000 in
set_option maxRecDepth 100000 in
theorem kX7_isAt (l : Launch) (D : va_G) (cy : Nat → ClassId) (K : zK) (n : Nat) (ad : Nat → Nat) (hJ : zJ n ad) (hO : zModel cy K n ad) (t : zM) (a1 a2 : Int32) (A0 B : Nat) (hB : B ≤ 1000) (hT : mT t) (hX : mX A0 B t) : zI l yX7_isAt wsX7_isAt 1 D cy K n ad t [.ref (ad (0)), .int a1, .int a2] (fun r t1 => r = rX7_isAt t a1 a2 ∧ t1 = t) := by
  refine z_startI (cc := cX7_isAt) (mL := 3) (ret := (some .boolean)) (own := RX7) rfl (by decide +kernel) rfl hJ (Nat.le_of_ble_eq_true rfl) ?_
  intro p e s m args below meth c A hA Q hQ C
  refine z_aload_n C 0 0 0 dX7_isAt_0 rfl rfl ?_
  refine z_geti C 1 (0) 9 dX7_isAt_1 hO.h0 hO.e0 mX7_isAt_in7 rfl (by decide) mX7_isAt_f144 (fun _ => rfl) ?_
  refine z_aload_n C 4 0 0 dX7_isAt_4 rfl rfl ?_
  refine z_geti C 5 (0) 7 dX7_isAt_5 hO.h0 hO.e0 mX7_isAt_in7 rfl (by decide) mX7_isAt_f141 (fun _ => rfl) ?_
  refine z_icmp_ge C 8 32 dX7_isAt_8 (by decide) (fun c8_1 => ?_) (fun c8_1 => ?_)
  · refine z_iconst C 32 (v := 0) dX7_isAt_32 (by decide +kernel) ?_
    exact z_zret C 33 hA hQ rfl (Or.inl rfl) dX7_isAt_33 ⟨((if_pos c8_1).trans rfl).symm, rfl⟩
  · refine z_aload_n C 11 0 0 dX7_isAt_11 rfl rfl ?_
    refine z_getr C 12 (a9 := ad (5)) (0) 6 dX7_isAt_12 hO.h0 hO.e0 mX7_isAt_in7 rfl (by decide) mX7_isAt_f22 (fun _ => rfl) ?_
    refine z_aload_n C 15 0 0 dX7_isAt_15 rfl rfl ?_
    refine z_geti C 16 (0) 9 dX7_isAt_16 hO.h0 hO.e0 mX7_isAt_in7 rfl (by decide) mX7_isAt_f144 (fun _ => rfl) ?_
    refine z_ialdN C 19 (5) ((t (0) 9).toNatClampNeg) dX7_isAt_19 hO.h5 hO.e5 (hX.c hB).2.2 (hX.lt hB hT (by assumption)) (by decide) ?_
    refine z_iload_n C 20 1 1 dX7_isAt_20 rfl rfl ?_
    refine z_iload_n C 21 2 2 dX7_isAt_21 rfl rfl ?_
    refine z_statIe C 22 (As := [.int (t (5) ((t (0) 9).toNatClampNeg)), .int a1, .int a2]) (st := []) (kX7_in l D cy K n ad hJ t (t (5) ((t (0) 9).toNatClampNeg)) a1 a2 ) dX7_isAt_22 rfl gX7_isAt_X7_in hyX7_in rfl (by decide) (by decide) rfl rfl (Nat.le_of_ble_eq_true rfl) ?_
    refine z_if_eq C 25 32 dX7_isAt_25 (by decide) (fun c25_3 => ?_) (fun c25_3 => ?_)
    · refine z_iconst C 32 (v := 0) dX7_isAt_32 (by decide +kernel) ?_
      exact z_zret C 33 hA hQ rfl (Or.inl rfl) dX7_isAt_33 ⟨((if_neg c8_1).trans ((if_pos c25_3).trans rfl)).symm, rfl⟩
    · refine z_iconst C 28 (v := 1) dX7_isAt_28 (by decide +kernel) ?_
      refine z_goto C 29 33 dX7_isAt_29 (by decide) ?_
      exact z_zret C 33 hA hQ rfl (Or.inr rfl) dX7_isAt_33 ⟨((if_neg c8_1).trans ((if_neg c25_3).trans rfl)).symm, rfl⟩
theorem rX7_isAt_01 (t : zM) (a1 a2 : Int32) : rX7_isAt t a1 a2 = 0 ∨ rX7_isAt t a1 a2 = 1 := by
  unfold rX7_isAt
  repeat' split
  all_goals simp
theorem isAt_lt {t : zM} {a1 a2 : Int32} (h : ¬ rX7_isAt t a1 a2 = 0) : ¬ t 0 7 ≤ t 0 9 := by
  unfold rX7_isAt at h
  split at h
  · exact absurd rfl h
  · assumption
def rX7_sign (t : zM) (a1 : Int32) : Int32 := (if (rX7_isAt t a1 a1) = 0 then (rX7_isAt t a1 a1) else (rX7_isAt t a1 a1))
def sX7_sign (t : zM) (a1 : Int32) : zM := (if (rX7_isAt t a1 a1) = 0 then (zset t (0) 9 ((t (0) 9) + 0)) else (zset t (0) 9 ((t (0) 9) + 1)))
theorem mX7_sign_f144 : Cond.fieldLink RX7 144 "WrongedMetersModel" "spot" "I" ∈ wsX7_sign := by decide +kernel
set_option maxRecDepth 20000 in
theorem mX7_sign_in7 : ∀ w ∈ u_ws RX7 TX7 16, w ∈ wsX7_sign := by decide +kernel
theorem hyX7_sign : yX7_sign.cls = RX7 ∧ yX7_sign.cls ≠ "java/lang/invoke/MethodHandle" ∧ yX7_sign.cls ≠ "java/lang/invoke/VarHandle" ∧ (parseMethodDescriptor yX7_sign.desc).map (fun d => d.parameters.length) = some 1 := by decide +kernel
set_option maxHeartbeats 3000000 in
set_option maxRecDepth 100000 in
theorem kX7_sign (l : Launch) (D : va_G) (cy : Nat → ClassId) (K : zK) (n : Nat) (ad : Nat → Nat) (hJ : zJ n ad) (hO : zModel cy K n ad) (t : zM) (a1 : Int32) (A0 B : Nat) (hB : B ≤ 1000) (hT : mT t) (hX : mX A0 B t) : zI l yX7_sign wsX7_sign 2 D cy K n ad t [.ref (ad (0)), .int a1] (fun r t1 => r = rX7_sign t a1 ∧ t1 = sX7_sign t a1) := by
  refine z_startI (cc := cX7_sign) (mL := 3) (ret := (some .boolean)) (own := RX7) rfl (by decide +kernel) rfl hJ (Nat.le_of_ble_eq_true rfl) ?_
  intro p e s m args below meth c A hA Q hQ C
  refine z_aload_n C 0 0 0 dX7_sign_0 rfl rfl ?_
  refine z_iload_n C 1 1 1 dX7_sign_1 rfl rfl ?_
  refine z_iload_n C 2 1 1 dX7_sign_2 rfl rfl ?_
  refine z_virtIe C 3 (As := [.int a1, .int a1]) (st := []) (id := 0) (kX7_isAt l D cy K n ad hJ hO t a1 a1 A0 B hB hT hX) dX7_sign_3 rfl gX7_sign_X7_isAt hyX7_isAt rfl (by decide) (by decide) hO.h0 rfl hO.e0 rfl rfl rfl (Nat.le_of_ble_eq_true rfl) ?_
  refine z_istore_n C 6 2 ([(2, .int (rX7_isAt t a1 a1)), (0, .ref (ad (0))), (1, .int a1)]) dX7_sign_6 rfl (by decide) rfl ?_
  refine z_aload_n C 7 0 1 dX7_sign_7 rfl rfl ?_
  refine z_dup C 8 dX7_sign_8 rfl ?_
  refine z_geti C 9 (0) 9 dX7_sign_9 hO.h0 hO.e0 mX7_sign_in7 rfl (by decide) mX7_sign_f144 (fun _ => rfl) ?_
  refine z_iload_n C 12 2 0 dX7_sign_12 rfl rfl ?_
  refine z_if_eq C 13 20 dX7_sign_13 (by decide) (fun c13_2 => ?_) (fun c13_2 => ?_)
  · refine z_iconst C 20 (v := 0) dX7_sign_20 (by decide +kernel) ?_
    refine z_iadd C 21 dX7_sign_21 ?_
    refine z_put C 22 (ty := .int) (0) 9 dX7_sign_22 hO.h0 hO.e0 mX7_sign_in7 tyX7 tyX7_ok nmX7 rfl (by decide) mX7_sign_f144 rfl (by decide +kernel) (vp_nar_int _) (zfit_i _) (fun _ => Nat.le_of_ble_eq_true rfl) (fun _ _ => rfl) ?_
    refine z_iload_n C 25 2 0 dX7_sign_25 rfl rfl ?_
    exact z_zret C 26 hA hQ rfl (rX7_isAt_01 _ _ _) dX7_sign_26 ⟨((if_pos c13_2).trans rfl).symm, ((if_pos c13_2).trans rfl).symm⟩
  · refine z_iconst C 16 (v := 1) dX7_sign_16 (by decide +kernel) ?_
    refine z_goto C 17 21 dX7_sign_17 (by decide) ?_
    refine z_iadd C 21 dX7_sign_21 ?_
    refine z_put C 22 (ty := .int) (0) 9 dX7_sign_22 hO.h0 hO.e0 mX7_sign_in7 tyX7 tyX7_ok nmX7 rfl (by decide) mX7_sign_f144 rfl (by decide +kernel) (vp_nar_int _) (zfit_i _) (fun _ => Nat.le_of_ble_eq_true rfl) (fun _ _ => rfl) ?_
    refine z_iload_n C 25 2 0 dX7_sign_25 rfl rfl ?_
    exact z_zret C 26 hA hQ rfl (rX7_isAt_01 _ _ _) dX7_sign_26 ⟨((if_neg c13_2).trans rfl).symm, ((if_neg c13_2).trans rfl).symm⟩
theorem sX7_sign_X {A0 B : Nat} {t : zM} {a1 : Int32} (hX : mX A0 B t) : mX A0 (B + 1) (sX7_sign t a1) := by
  unfold sX7_sign
  split
  · obtain ⟨x, h1, hx, e⟩ := hX
    exact ⟨x, h1, by omega, by rw [zset_eq, e]; exact Int32.add_zero _⟩
  · exact (mX_w hX t).mono (by omega) (Nat.le_refl _)
theorem sX7_sign_T {t : zM} {a1 : Int32} (hT : mT t) : mT (sX7_sign t a1) := by
  unfold sX7_sign
  split
  · exact mT_set hT (Or.inr (by decide))
  · exact mT_set hT (Or.inr (by decide))
theorem mnum_k {x k : Nat} {a c : Int32} (hx : x + k ≤ 1100) (ha : a = nI (x + k)) (hc : c = nI x) (h : ¬ 3 ≤ a - c) (hk : k ≤ 3) : k < 3 := by
  rw [ha, hc, nI_sub (by omega), Nat.add_sub_cancel_left] at h
  exact zge (b := 3) (by omega) (by decide) h
def lX7_numbered_12 (t : zM) (w : Nat) : Nat → Nat → zM → Int32
  | 0, _, _ => 0
  | j + 1, k, u => (if (rX7_isAt u 48 57) = 0 then (if (u (0) 9) ≤ (t (0) 9) then 0 else 1) else (if 3 ≤ ((u (0) 9) - (t (0) 9)) then (if (u (0) 9) ≤ (t (0) 9) then 0 else 1) else (lX7_numbered_12 t w j (k + 1) (zset (zset u (7) w (((10 * (u (7) w)) + (u (5) ((u (0) 9).toNatClampNeg))) - 48)) (0) 9 ((u (0) 9) + 1)))))
def lsX7_numbered_12 (t : zM) (w : Nat) : Nat → Nat → zM → zM
  | 0, _, u => u
  | j + 1, k, u => (if (rX7_isAt u 48 57) = 0 then (if (u (0) 9) ≤ (t (0) 9) then u else u) else (if 3 ≤ ((u (0) 9) - (t (0) 9)) then (if (u (0) 9) ≤ (t (0) 9) then u else u) else (lsX7_numbered_12 t w j (k + 1) (zset (zset u (7) w (((10 * (u (7) w)) + (u (5) ((u (0) 9).toNatClampNeg))) - 48)) (0) 9 ((u (0) 9) + 1)))))
def rX7_numbered (t : zM) (w : Nat) : Int32 := (lX7_numbered_12 t w 4 0 (zset t (7) w 0))
def sX7_numbered (t : zM) (w : Nat) : zM := (lsX7_numbered_12 t w 4 0 (zset t (7) w 0))
theorem mX7_numbered_f144 : Cond.fieldLink RX7 144 "WrongedMetersModel" "spot" "I" ∈ wsX7_numbered := by decide +kernel
set_option maxRecDepth 20000 in
theorem mX7_numbered_in7 : ∀ w ∈ u_ws RX7 TX7 16, w ∈ wsX7_numbered := by decide +kernel
theorem mX7_numbered_f28 : Cond.fieldLink RX7 28 "WrongedMetersModel" "numbers" "[I" ∈ wsX7_numbered := by decide +kernel
theorem mX7_numbered_f22 : Cond.fieldLink RX7 22 "WrongedMetersModel" "text" "[I" ∈ wsX7_numbered := by decide +kernel
theorem hyX7_numbered : yX7_numbered.cls = RX7 ∧ yX7_numbered.cls ≠ "java/lang/invoke/MethodHandle" ∧ yX7_numbered.cls ≠ "java/lang/invoke/VarHandle" ∧ (parseMethodDescriptor yX7_numbered.desc).map (fun d => d.parameters.length) = some 1 := by decide +kernel
set_option maxHeartbeats 3000000 in
set_option maxRecDepth 100000 in
theorem kX7_numbered (l : Launch) (D : va_G) (cy : Nat → ClassId) (K : zK) (n : Nat) (ad : Nat → Nat) (hJ : zJ n ad) (hO : zModel cy K n ad) (t : zM) (w A0 B : Nat) (hw : w < 2) (hB : B ≤ 900) (hT : mT t) (hX0 : mX A0 B t) : zI l yX7_numbered wsX7_numbered 2 D cy K n ad t [.ref (ad (0)), .int (nI w)] (fun r t1 => r = rX7_numbered t w ∧ t1 = sX7_numbered t w) := by
  refine z_startI (cc := cX7_numbered) (mL := 3) (ret := (some .boolean)) (own := RX7) rfl (by decide +kernel) rfl hJ (Nat.le_of_ble_eq_true rfl) ?_
  intro p e s m args below meth c A hA Q hQ C
  have hX : mX A0 B t := hX0
  have hB : B ≤ 1000 := by omega
  have hXc := (hX.c hB).2.1
  refine z_aload_n C 0 0 0 dX7_numbered_0 rfl rfl ?_
  refine z_geti C 1 (0) 9 dX7_numbered_1 hO.h0 hO.e0 mX7_numbered_in7 rfl (by decide) mX7_numbered_f144 (fun _ => rfl) ?_
  refine z_istore_n C 4 2 ([(2, .int (t (0) 9)), (0, .ref (ad (0))), (1, .int (nI w))]) dX7_numbered_4 rfl (by decide) rfl ?_
  refine z_aload_n C 5 0 1 dX7_numbered_5 rfl rfl ?_
  refine z_getr C 6 (a9 := ad (7)) (0) 15 dX7_numbered_6 hO.h0 hO.e0 mX7_numbered_in7 rfl (by decide) mX7_numbered_f28 (fun _ => rfl) ?_
  refine z_iload_n C 9 1 2 dX7_numbered_9 rfl rfl ?_
  refine z_iconst C 10 (v := 0) dX7_numbered_10 (by decide +kernel) ?_
  refine z_iastN C 11 (7) w dX7_numbered_11 hO.h7 hO.e7 rfl hw (by decide) ?_
  have L12 : ∀ (j : Nat) (k : Nat) (u : zM), (h0_12 : 4 ≤ k + j) → (hk : k ≤ 3) → (hx : u 0 9 = nI ((t (0) 9).toNatClampNeg + k)) → (hT2 : mT u) → (hX2 : mX A0 (B + 3) u) → (hI12 : rX7_numbered t w = (lX7_numbered_12 t w j k u)) → (hS12 : sX7_numbered t w = (lsX7_numbered_12 t w j k u)) → Zw p l e (zR 2) s m args below meth c D A K n ad 3 Q 12 ([(2, .int (t (0) 9)), (0, .ref (ad (0))), (1, .int (nI w))]) [] u := by
    intro j
    induction j with
    | zero =>
      intro k u h0_12 hk hx hT2 hX2 hI12 hS12
      exact absurd h0_12 (by omega)
    | succ j ih12 =>
      intro k u h0_12 hk hx hT2 hX2 hI12 hS12
      refine z_aload_n C 12 0 1 dX7_numbered_12 rfl rfl ?_
      refine z_bipush C 13 (v := 48) dX7_numbered_13 (by decide +kernel) ?_
      refine z_bipush C 15 (v := 57) dX7_numbered_15 (by decide +kernel) ?_
      refine z_virtIe C 17 (As := [.int 48, .int 57]) (st := []) (id := 0) (kX7_isAt l D cy K n ad hJ hO u 48 57 A0 (B + 3) (by omega) hT2 hX2) dX7_numbered_17 rfl gX7_numbered_X7_isAt hyX7_isAt rfl (by decide) (by decide) hO.h0 rfl hO.e0 rfl rfl rfl (Nat.le_of_ble_eq_true rfl) ?_
      refine z_if_eq C 20 74 dX7_numbered_20 (by decide) (fun c20_2 => ?_) (fun c20_2 => ?_)
      · refine z_aload_n C 74 0 1 dX7_numbered_74 rfl rfl ?_
        refine z_geti C 75 (0) 9 dX7_numbered_75 hO.h0 hO.e0 mX7_numbered_in7 rfl (by decide) mX7_numbered_f144 (fun _ => rfl) ?_
        refine z_iload_n C 78 2 0 dX7_numbered_78 rfl rfl ?_
        refine z_icmp_le C 79 86 dX7_numbered_79 (by decide) (fun c79_3 => ?_) (fun c79_3 => ?_)
        · refine z_iconst C 86 (v := 0) dX7_numbered_86 (by decide +kernel) ?_
          exact z_zret C 87 hA hQ rfl (Or.inl rfl) dX7_numbered_87 ⟨((hI12.trans ((if_pos c20_2).trans ((if_pos c79_3).trans rfl)))).symm, ((hS12.trans ((if_pos c20_2).trans ((if_pos c79_3).trans rfl)))).symm⟩
        · refine z_iconst C 82 (v := 1) dX7_numbered_82 (by decide +kernel) ?_
          refine z_goto C 83 87 dX7_numbered_83 (by decide) ?_
          exact z_zret C 87 hA hQ rfl (Or.inr rfl) dX7_numbered_87 ⟨((hI12.trans ((if_pos c20_2).trans ((if_neg c79_3).trans rfl)))).symm, ((hS12.trans ((if_pos c20_2).trans ((if_neg c79_3).trans rfl)))).symm⟩
      · refine z_aload_n C 23 0 1 dX7_numbered_23 rfl rfl ?_
        refine z_geti C 24 (0) 9 dX7_numbered_24 hO.h0 hO.e0 mX7_numbered_in7 rfl (by decide) mX7_numbered_f144 (fun _ => rfl) ?_
        refine z_iload_n C 27 2 0 dX7_numbered_27 rfl rfl ?_
        refine z_isub C 28 dX7_numbered_28 ?_
        refine z_iconst C 29 (v := 3) dX7_numbered_29 (by decide +kernel) ?_
        refine z_icmp_ge C 30 74 dX7_numbered_30 (by decide) (fun c30_4 => ?_) (fun c30_4 => ?_)
        · refine z_aload_n C 74 0 1 dX7_numbered_74 rfl rfl ?_
          refine z_geti C 75 (0) 9 dX7_numbered_75 hO.h0 hO.e0 mX7_numbered_in7 rfl (by decide) mX7_numbered_f144 (fun _ => rfl) ?_
          refine z_iload_n C 78 2 0 dX7_numbered_78 rfl rfl ?_
          refine z_icmp_le C 79 86 dX7_numbered_79 (by decide) (fun c79_5 => ?_) (fun c79_5 => ?_)
          · refine z_iconst C 86 (v := 0) dX7_numbered_86 (by decide +kernel) ?_
            exact z_zret C 87 hA hQ rfl (Or.inl rfl) dX7_numbered_87 ⟨((hI12.trans ((if_neg c20_2).trans ((if_pos c30_4).trans ((if_pos c79_5).trans rfl))))).symm, ((hS12.trans ((if_neg c20_2).trans ((if_pos c30_4).trans ((if_pos c79_5).trans rfl))))).symm⟩
          · refine z_iconst C 82 (v := 1) dX7_numbered_82 (by decide +kernel) ?_
            refine z_goto C 83 87 dX7_numbered_83 (by decide) ?_
            exact z_zret C 87 hA hQ rfl (Or.inr rfl) dX7_numbered_87 ⟨((hI12.trans ((if_neg c20_2).trans ((if_pos c30_4).trans ((if_neg c79_5).trans rfl))))).symm, ((hS12.trans ((if_neg c20_2).trans ((if_pos c30_4).trans ((if_neg c79_5).trans rfl))))).symm⟩
        · refine z_aload_n C 33 0 1 dX7_numbered_33 rfl rfl ?_
          refine z_getr C 34 (a9 := ad (7)) (0) 15 dX7_numbered_34 hO.h0 hO.e0 mX7_numbered_in7 rfl (by decide) mX7_numbered_f28 (fun _ => rfl) ?_
          refine z_iload_n C 37 1 2 dX7_numbered_37 rfl rfl ?_
          refine z_bipush C 38 (v := 10) dX7_numbered_38 (by decide +kernel) ?_
          refine z_aload_n C 40 0 1 dX7_numbered_40 rfl rfl ?_
          refine z_getr C 41 (a9 := ad (7)) (0) 15 dX7_numbered_41 hO.h0 hO.e0 mX7_numbered_in7 rfl (by decide) mX7_numbered_f28 (fun _ => rfl) ?_
          refine z_iload_n C 44 1 2 dX7_numbered_44 rfl rfl ?_
          refine z_ialdN C 45 (7) w dX7_numbered_45 hO.h7 hO.e7 rfl hw (by decide) ?_
          refine z_imul C 46 dX7_numbered_46 ?_
          refine z_aload_n C 47 0 1 dX7_numbered_47 rfl rfl ?_
          refine z_getr C 48 (a9 := ad (5)) (0) 6 dX7_numbered_48 hO.h0 hO.e0 mX7_numbered_in7 rfl (by decide) mX7_numbered_f22 (fun _ => rfl) ?_
          refine z_aload_n C 51 0 1 dX7_numbered_51 rfl rfl ?_
          refine z_geti C 52 (0) 9 dX7_numbered_52 hO.h0 hO.e0 mX7_numbered_in7 rfl (by decide) mX7_numbered_f144 (fun _ => rfl) ?_
          refine z_ialdN C 55 (5) ((u (0) 9).toNatClampNeg) dX7_numbered_55 hO.h5 hO.e5 (hX2.c (by omega)).2.2 (hX2.lt (by omega) hT2 (isAt_lt (by assumption))) (by decide) ?_
          refine z_iadd C 56 dX7_numbered_56 ?_
          refine z_bipush C 57 (v := 48) dX7_numbered_57 (by decide +kernel) ?_
          refine z_isub C 59 dX7_numbered_59 ?_
          refine z_iastN C 60 (7) w dX7_numbered_60 hO.h7 hO.e7 rfl hw (by decide) ?_
          refine z_aload_n C 61 0 1 dX7_numbered_61 rfl rfl ?_
          refine z_dup C 62 dX7_numbered_62 rfl ?_
          refine z_geti C 63 (0) 9 dX7_numbered_63 hO.h0 hO.e0 mX7_numbered_in7 rfl (by decide) mX7_numbered_f144 (fun _ => rfl) ?_
          refine z_nv (u (0) 9) ((zset_idk _ _ _ _ (by decide)).trans rfl) ?_
          refine z_iconst C 66 (v := 1) dX7_numbered_66 (by decide +kernel) ?_
          refine z_iadd C 67 dX7_numbered_67 ?_
          refine z_put C 68 (ty := .int) (0) 9 dX7_numbered_68 hO.h0 hO.e0 mX7_numbered_in7 tyX7 tyX7_ok nmX7 rfl (by decide) mX7_numbered_f144 rfl (by decide +kernel) (vp_nar_int _) (zfit_i _) (fun _ => Nat.le_of_ble_eq_true rfl) (fun _ _ => rfl) ?_
          refine z_goto C 71 12 dX7_numbered_71 (by decide) ?_
          refine z_ls [0, 1, 2] _ rfl ?_
          exact ih12 (k + 1) (zset (zset u (7) w (((10 * (u (7) w)) + (u (5) ((u (0) 9).toNatClampNeg))) - 48)) (0) 9 ((u (0) 9) + 1)) (by omega) (by have := (mnum_k (x := (t (0) 9).toNatClampNeg) (by omega) hx (hX.c hB).2.2 (by assumption) hk); omega) ((zset_eq _ _ _ _).trans (by rw [hx]; exact nI_1 _)) (mT_set (mT_set hT2 (Or.inl (by decide))) (Or.inr (by decide))) ⟨(t (0) 9).toNatClampNeg + (k + 1), by have := (hX.c hB).1; omega, by have := (mnum_k (x := (t (0) 9).toNatClampNeg) (by omega) hx (hX.c hB).2.2 (by assumption) hk); omega, (zset_eq _ _ _ _).trans (by rw [hx]; exact nI_1 _)⟩ (hI12.trans ((if_neg c20_2).trans ((if_neg c30_4).trans rfl))) (hS12.trans ((if_neg c20_2).trans ((if_neg c30_4).trans rfl)))
  refine z_ls [0, 1, 2] _ rfl ?_
  exact L12 (4) 0 (zset t (7) w 0) (by omega) (by decide) ((zset_idk _ _ _ _ (by decide)).trans (hX.c hB).2.2) (mT_set hT (Or.inl (by decide))) ((mX_set hX (Or.inl (by decide))).mono (Nat.le_refl _) (by omega)) rfl rfl
theorem lsX7_numbered_12_X {A0 B : Nat} {t : zM} {w : Nat} (hB : B ≤ 900) (hX : mX A0 B t) : ∀ (j k : Nat) (u : zM), k ≤ 3 → u 0 9 = nI ((t 0 9).toNatClampNeg + k) → mT u → mX A0 (B + 3) (lsX7_numbered_12 t w j k u) ∧ mT (lsX7_numbered_12 t w j k u) := by
  have hXc := (hX.c (by omega)).2.1
  have hXa := (hX.c (by omega)).1
  intro j
  induction j with
  | zero => intro k u hk hx hT; exact ⟨⟨_, by omega, by omega, hx⟩, hT⟩
  | succ j ih =>
    intro k u hk hx hT
    unfold lsX7_numbered_12
    split
    · split
      · exact ⟨⟨_, by omega, by omega, hx⟩, hT⟩
      · exact ⟨⟨_, by omega, by omega, hx⟩, hT⟩
    · split
      · split
        · exact ⟨⟨_, by omega, by omega, hx⟩, hT⟩
        · exact ⟨⟨_, by omega, by omega, hx⟩, hT⟩
      · have hk3 : k < 3 := mnum_k (x := (t 0 9).toNatClampNeg) (by omega) hx (hX.c (by omega)).2.2 (by assumption) hk
        exact ih _ _ (by omega) ((zset_eq _ _ _ _).trans (by rw [hx]; exact nI_1 _)) (mT_set (mT_set hT (Or.inl (by decide))) (Or.inr (by decide)))
theorem sX7_numbered_X {A0 B w : Nat} {t : zM} (hB : B ≤ 900) (hT : mT t) (hX : mX A0 B t) : mX A0 (B + 3) (sX7_numbered t w) ∧ mT (sX7_numbered t w) :=
  lsX7_numbered_12_X hB hX _ _ _ (by decide) ((zset_idk _ _ _ _ (by decide)).trans (hX.c (by omega)).2.2) (mT_set hT (Or.inl (by decide)))
def rX7_numbersOf (a1 : Int32) : Int32 := (if a1 = 99 then 1 else (if a1 = 100 then 1 else (if a1 = 101 then 0 else (if a1 = 102 then 2 else (if a1 = 103 then 0 else (if a1 = 104 then 2 else (if a1 = 105 then 0 else (if a1 = 106 then 0 else (if a1 = 107 then 0 else (if a1 = 108 then 1 else (if a1 = 109 then 0 else (if a1 = 110 then 0 else (if a1 = 111 then 0 else (if a1 = 112 then 0 else (if a1 = 113 then 0 else (if a1 = 114 then 1 else 0))))))))))))))))
theorem hyX7_numbersOf : yX7_numbersOf.cls ≠ "java/lang/invoke/MethodHandle" ∧ yX7_numbersOf.cls ≠ "java/lang/invoke/VarHandle" ∧ (parseMethodDescriptor yX7_numbersOf.desc).map (fun d => d.parameters.length) = some 1 := by decide +kernel
set_option maxHeartbeats 3000000 in
set_option maxRecDepth 100000 in
theorem kX7_numbersOf (l : Launch) (D : va_G) (cy : Nat → ClassId) (K : zK) (n : Nat) (ad : Nat → Nat) (hJ : zJ n ad) (t : zM) (a1 : Int32)  : zI l yX7_numbersOf wsX7_numbersOf 0 D cy K n ad t [.int a1] (fun r t1 => r = rX7_numbersOf a1 ∧ t1 = t) := by
  refine z_startI (cc := cX7_numbersOf) (mL := 1) (ret := (some .int)) (own := RX7) rfl (by decide +kernel) rfl hJ (Nat.le_of_ble_eq_true rfl) ?_
  intro p e s m args below meth c A hA Q hQ C
  refine z_iload_n C 0 0 0 dX7_numbersOf_0 rfl rfl ?_
  by_cases c1_1 : a1 = 99
  · refine z_tableIn C 1 82 dX7_numbersOf_1 (by rw [c1_1]; decide +kernel) (by rw [c1_1]; decide +kernel) (off := 81) (by rw [c1_1]; decide +kernel) (by decide) ?_
    refine z_iconst C 82 (v := 1) dX7_numbersOf_82 (by decide +kernel) ?_
    exact z_iret C 83 hA hQ rfl dX7_numbersOf_83 ⟨((if_pos c1_1).trans rfl).symm, rfl⟩
  · by_cases c1_2 : a1 = 100
    · refine z_tableIn C 1 82 dX7_numbersOf_1 (by rw [c1_2]; decide +kernel) (by rw [c1_2]; decide +kernel) (off := 81) (by rw [c1_2]; decide +kernel) (by decide) ?_
      refine z_iconst C 82 (v := 1) dX7_numbersOf_82 (by decide +kernel) ?_
      exact z_iret C 83 hA hQ rfl dX7_numbersOf_83 ⟨((if_neg c1_1).trans ((if_pos c1_2).trans rfl)).symm, rfl⟩
    · by_cases c1_3 : a1 = 101
      · refine z_tableIn C 1 84 dX7_numbersOf_1 (by rw [c1_3]; decide +kernel) (by rw [c1_3]; decide +kernel) (off := 83) (by rw [c1_3]; decide +kernel) (by decide) ?_
        refine z_iconst C 84 (v := 0) dX7_numbersOf_84 (by decide +kernel) ?_
        exact z_iret C 85 hA hQ rfl dX7_numbersOf_85 ⟨((if_neg c1_1).trans ((if_neg c1_2).trans ((if_pos c1_3).trans rfl))).symm, rfl⟩
      · by_cases c1_4 : a1 = 102
        · refine z_tableIn C 1 80 dX7_numbersOf_1 (by rw [c1_4]; decide +kernel) (by rw [c1_4]; decide +kernel) (off := 79) (by rw [c1_4]; decide +kernel) (by decide) ?_
          refine z_iconst C 80 (v := 2) dX7_numbersOf_80 (by decide +kernel) ?_
          exact z_iret C 81 hA hQ rfl dX7_numbersOf_81 ⟨((if_neg c1_1).trans ((if_neg c1_2).trans ((if_neg c1_3).trans ((if_pos c1_4).trans rfl)))).symm, rfl⟩
        · by_cases c1_5 : a1 = 103
          · refine z_tableIn C 1 84 dX7_numbersOf_1 (by rw [c1_5]; decide +kernel) (by rw [c1_5]; decide +kernel) (off := 83) (by rw [c1_5]; decide +kernel) (by decide) ?_
            refine z_iconst C 84 (v := 0) dX7_numbersOf_84 (by decide +kernel) ?_
            exact z_iret C 85 hA hQ rfl dX7_numbersOf_85 ⟨((if_neg c1_1).trans ((if_neg c1_2).trans ((if_neg c1_3).trans ((if_neg c1_4).trans ((if_pos c1_5).trans rfl))))).symm, rfl⟩
          · by_cases c1_6 : a1 = 104
            · refine z_tableIn C 1 80 dX7_numbersOf_1 (by rw [c1_6]; decide +kernel) (by rw [c1_6]; decide +kernel) (off := 79) (by rw [c1_6]; decide +kernel) (by decide) ?_
              refine z_iconst C 80 (v := 2) dX7_numbersOf_80 (by decide +kernel) ?_
              exact z_iret C 81 hA hQ rfl dX7_numbersOf_81 ⟨((if_neg c1_1).trans ((if_neg c1_2).trans ((if_neg c1_3).trans ((if_neg c1_4).trans ((if_neg c1_5).trans ((if_pos c1_6).trans rfl)))))).symm, rfl⟩
            · by_cases c1_7 : a1 = 105
              · refine z_tableIn C 1 84 dX7_numbersOf_1 (by rw [c1_7]; decide +kernel) (by rw [c1_7]; decide +kernel) (off := 83) (by rw [c1_7]; decide +kernel) (by decide) ?_
                refine z_iconst C 84 (v := 0) dX7_numbersOf_84 (by decide +kernel) ?_
                exact z_iret C 85 hA hQ rfl dX7_numbersOf_85 ⟨((if_neg c1_1).trans ((if_neg c1_2).trans ((if_neg c1_3).trans ((if_neg c1_4).trans ((if_neg c1_5).trans ((if_neg c1_6).trans ((if_pos c1_7).trans rfl))))))).symm, rfl⟩
              · by_cases c1_8 : a1 = 106
                · refine z_tableIn C 1 84 dX7_numbersOf_1 (by rw [c1_8]; decide +kernel) (by rw [c1_8]; decide +kernel) (off := 83) (by rw [c1_8]; decide +kernel) (by decide) ?_
                  refine z_iconst C 84 (v := 0) dX7_numbersOf_84 (by decide +kernel) ?_
                  exact z_iret C 85 hA hQ rfl dX7_numbersOf_85 ⟨((if_neg c1_1).trans ((if_neg c1_2).trans ((if_neg c1_3).trans ((if_neg c1_4).trans ((if_neg c1_5).trans ((if_neg c1_6).trans ((if_neg c1_7).trans ((if_pos c1_8).trans rfl)))))))).symm, rfl⟩
                · by_cases c1_9 : a1 = 107
                  · refine z_tableIn C 1 84 dX7_numbersOf_1 (by rw [c1_9]; decide +kernel) (by rw [c1_9]; decide +kernel) (off := 83) (by rw [c1_9]; decide +kernel) (by decide) ?_
                    refine z_iconst C 84 (v := 0) dX7_numbersOf_84 (by decide +kernel) ?_
                    exact z_iret C 85 hA hQ rfl dX7_numbersOf_85 ⟨((if_neg c1_1).trans ((if_neg c1_2).trans ((if_neg c1_3).trans ((if_neg c1_4).trans ((if_neg c1_5).trans ((if_neg c1_6).trans ((if_neg c1_7).trans ((if_neg c1_8).trans ((if_pos c1_9).trans rfl))))))))).symm, rfl⟩
                  · by_cases c1_10 : a1 = 108
                    · refine z_tableIn C 1 82 dX7_numbersOf_1 (by rw [c1_10]; decide +kernel) (by rw [c1_10]; decide +kernel) (off := 81) (by rw [c1_10]; decide +kernel) (by decide) ?_
                      refine z_iconst C 82 (v := 1) dX7_numbersOf_82 (by decide +kernel) ?_
                      exact z_iret C 83 hA hQ rfl dX7_numbersOf_83 ⟨((if_neg c1_1).trans ((if_neg c1_2).trans ((if_neg c1_3).trans ((if_neg c1_4).trans ((if_neg c1_5).trans ((if_neg c1_6).trans ((if_neg c1_7).trans ((if_neg c1_8).trans ((if_neg c1_9).trans ((if_pos c1_10).trans rfl)))))))))).symm, rfl⟩
                    · by_cases c1_11 : a1 = 109
                      · refine z_tableIn C 1 84 dX7_numbersOf_1 (by rw [c1_11]; decide +kernel) (by rw [c1_11]; decide +kernel) (off := 83) (by rw [c1_11]; decide +kernel) (by decide) ?_
                        refine z_iconst C 84 (v := 0) dX7_numbersOf_84 (by decide +kernel) ?_
                        exact z_iret C 85 hA hQ rfl dX7_numbersOf_85 ⟨((if_neg c1_1).trans ((if_neg c1_2).trans ((if_neg c1_3).trans ((if_neg c1_4).trans ((if_neg c1_5).trans ((if_neg c1_6).trans ((if_neg c1_7).trans ((if_neg c1_8).trans ((if_neg c1_9).trans ((if_neg c1_10).trans ((if_pos c1_11).trans rfl))))))))))).symm, rfl⟩
                      · by_cases c1_12 : a1 = 110
                        · refine z_tableIn C 1 84 dX7_numbersOf_1 (by rw [c1_12]; decide +kernel) (by rw [c1_12]; decide +kernel) (off := 83) (by rw [c1_12]; decide +kernel) (by decide) ?_
                          refine z_iconst C 84 (v := 0) dX7_numbersOf_84 (by decide +kernel) ?_
                          exact z_iret C 85 hA hQ rfl dX7_numbersOf_85 ⟨((if_neg c1_1).trans ((if_neg c1_2).trans ((if_neg c1_3).trans ((if_neg c1_4).trans ((if_neg c1_5).trans ((if_neg c1_6).trans ((if_neg c1_7).trans ((if_neg c1_8).trans ((if_neg c1_9).trans ((if_neg c1_10).trans ((if_neg c1_11).trans ((if_pos c1_12).trans rfl)))))))))))).symm, rfl⟩
                        · by_cases c1_13 : a1 = 111
                          · refine z_tableIn C 1 84 dX7_numbersOf_1 (by rw [c1_13]; decide +kernel) (by rw [c1_13]; decide +kernel) (off := 83) (by rw [c1_13]; decide +kernel) (by decide) ?_
                            refine z_iconst C 84 (v := 0) dX7_numbersOf_84 (by decide +kernel) ?_
                            exact z_iret C 85 hA hQ rfl dX7_numbersOf_85 ⟨((if_neg c1_1).trans ((if_neg c1_2).trans ((if_neg c1_3).trans ((if_neg c1_4).trans ((if_neg c1_5).trans ((if_neg c1_6).trans ((if_neg c1_7).trans ((if_neg c1_8).trans ((if_neg c1_9).trans ((if_neg c1_10).trans ((if_neg c1_11).trans ((if_neg c1_12).trans ((if_pos c1_13).trans rfl))))))))))))).symm, rfl⟩
                          · by_cases c1_14 : a1 = 112
                            · refine z_tableIn C 1 84 dX7_numbersOf_1 (by rw [c1_14]; decide +kernel) (by rw [c1_14]; decide +kernel) (off := 83) (by rw [c1_14]; decide +kernel) (by decide) ?_
                              refine z_iconst C 84 (v := 0) dX7_numbersOf_84 (by decide +kernel) ?_
                              exact z_iret C 85 hA hQ rfl dX7_numbersOf_85 ⟨((if_neg c1_1).trans ((if_neg c1_2).trans ((if_neg c1_3).trans ((if_neg c1_4).trans ((if_neg c1_5).trans ((if_neg c1_6).trans ((if_neg c1_7).trans ((if_neg c1_8).trans ((if_neg c1_9).trans ((if_neg c1_10).trans ((if_neg c1_11).trans ((if_neg c1_12).trans ((if_neg c1_13).trans ((if_pos c1_14).trans rfl)))))))))))))).symm, rfl⟩
                            · by_cases c1_15 : a1 = 113
                              · refine z_tableIn C 1 84 dX7_numbersOf_1 (by rw [c1_15]; decide +kernel) (by rw [c1_15]; decide +kernel) (off := 83) (by rw [c1_15]; decide +kernel) (by decide) ?_
                                refine z_iconst C 84 (v := 0) dX7_numbersOf_84 (by decide +kernel) ?_
                                exact z_iret C 85 hA hQ rfl dX7_numbersOf_85 ⟨((if_neg c1_1).trans ((if_neg c1_2).trans ((if_neg c1_3).trans ((if_neg c1_4).trans ((if_neg c1_5).trans ((if_neg c1_6).trans ((if_neg c1_7).trans ((if_neg c1_8).trans ((if_neg c1_9).trans ((if_neg c1_10).trans ((if_neg c1_11).trans ((if_neg c1_12).trans ((if_neg c1_13).trans ((if_neg c1_14).trans ((if_pos c1_15).trans rfl))))))))))))))).symm, rfl⟩
                              · by_cases c1_16 : a1 = 114
                                · refine z_tableIn C 1 82 dX7_numbersOf_1 (by rw [c1_16]; decide +kernel) (by rw [c1_16]; decide +kernel) (off := 81) (by rw [c1_16]; decide +kernel) (by decide) ?_
                                  refine z_iconst C 82 (v := 1) dX7_numbersOf_82 (by decide +kernel) ?_
                                  exact z_iret C 83 hA hQ rfl dX7_numbersOf_83 ⟨((if_neg c1_1).trans ((if_neg c1_2).trans ((if_neg c1_3).trans ((if_neg c1_4).trans ((if_neg c1_5).trans ((if_neg c1_6).trans ((if_neg c1_7).trans ((if_neg c1_8).trans ((if_neg c1_9).trans ((if_neg c1_10).trans ((if_neg c1_11).trans ((if_neg c1_12).trans ((if_neg c1_13).trans ((if_neg c1_14).trans ((if_neg c1_15).trans ((if_pos c1_16).trans rfl)))))))))))))))).symm, rfl⟩
                                · have qc1_1 := lv_neT (a := 99) c1_1 rfl
                                  have qc1_2 := lv_neT (a := 100) c1_2 rfl
                                  have qc1_3 := lv_neT (a := 101) c1_3 rfl
                                  have qc1_4 := lv_neT (a := 102) c1_4 rfl
                                  have qc1_5 := lv_neT (a := 103) c1_5 rfl
                                  have qc1_6 := lv_neT (a := 104) c1_6 rfl
                                  have qc1_7 := lv_neT (a := 105) c1_7 rfl
                                  have qc1_8 := lv_neT (a := 106) c1_8 rfl
                                  have qc1_9 := lv_neT (a := 107) c1_9 rfl
                                  have qc1_10 := lv_neT (a := 108) c1_10 rfl
                                  have qc1_11 := lv_neT (a := 109) c1_11 rfl
                                  have qc1_12 := lv_neT (a := 110) c1_12 rfl
                                  have qc1_13 := lv_neT (a := 111) c1_13 rfl
                                  have qc1_14 := lv_neT (a := 112) c1_14 rfl
                                  have qc1_15 := lv_neT (a := 113) c1_15 rfl
                                  have qc1_16 := lv_neT (a := 114) c1_16 rfl
                                  refine z_tableOut C 1 84 dX7_numbersOf_1 (by omega) (by decide) ?_
                                  refine z_iconst C 84 (v := 0) dX7_numbersOf_84 (by decide +kernel) ?_
                                  exact z_iret C 85 hA hQ rfl dX7_numbersOf_85 ⟨((if_neg c1_1).trans ((if_neg c1_2).trans ((if_neg c1_3).trans ((if_neg c1_4).trans ((if_neg c1_5).trans ((if_neg c1_6).trans ((if_neg c1_7).trans ((if_neg c1_8).trans ((if_neg c1_9).trans ((if_neg c1_10).trans ((if_neg c1_11).trans ((if_neg c1_12).trans ((if_neg c1_13).trans ((if_neg c1_14).trans ((if_neg c1_15).trans ((if_neg c1_16).trans rfl)))))))))))))))).symm, rfl⟩
