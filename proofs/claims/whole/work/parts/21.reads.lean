def lX7_atPlace_2 (t : zM) (a1 : Int32) (a2 : Int32) : Nat → Nat → Int32
  | 0, _ => 0
  | j + 1, k => (if (t (1) 401) ≤ nI k then (-1000004) else (if (t (1) (14 * k + 0)) = a1 then (if (t (1) (14 * k + 1)) = a2 then nI k else (lX7_atPlace_2 t a1 a2 j (k + 1))) else (lX7_atPlace_2 t a1 a2 j (k + 1))))
def rX7_atPlace (t : zM) (a1 : Int32) (a2 : Int32) : Int32 := (lX7_atPlace_2 t a1 a2 25 0)
theorem mX7_atPlace_f7 : Cond.fieldLink RX7 7 "WrongedMetersModel" "s" "[I" ∈ wsX7_atPlace := by decide +kernel
set_option maxRecDepth 20000 in
theorem mX7_atPlace_in7 : ∀ w ∈ u_ws RX7 TX7 16, w ∈ wsX7_atPlace := by decide +kernel
theorem mX7_atPlace_c47 : Cond.constant RX7 47 (-1000004) ∈ wsX7_atPlace := by decide +kernel
theorem hyX7_atPlace : yX7_atPlace.cls = RX7 ∧ yX7_atPlace.cls ≠ "java/lang/invoke/MethodHandle" ∧ yX7_atPlace.cls ≠ "java/lang/invoke/VarHandle" ∧ (parseMethodDescriptor yX7_atPlace.desc).map (fun d => d.parameters.length) = some 2 := by decide +kernel
set_option maxHeartbeats 3000000 in
set_option maxRecDepth 100000 in
theorem kX7_atPlace (l : Launch) (D : va_G) (cy : Nat → ClassId) (K : zK) (n : Nat) (ad : Nat → Nat) (hJ : zJ n ad) (hO : zModel cy K n ad) (t : zM) (a1 a2 : Int32) (H N : Nat) (hm : mS H N t) : zI l yX7_atPlace wsX7_atPlace 1 D cy K n ad t [.ref (ad (0)), .int a1, .int a2] (fun r t1 => r = rX7_atPlace t a1 a2 ∧ t1 = t) := by
  refine z_startI (cc := cX7_atPlace) (mL := 4) (ret := (some .int)) (own := RX7) rfl (by decide +kernel) rfl hJ (Nat.le_of_ble_eq_true rfl) ?_
  intro p e s m args below meth c A hA Q hQ C
  refine z_iconst C 0 (v := 0) dX7_atPlace_0 (by decide +kernel) ?_
  refine z_istore_n C 1 3 ([(3, .int 0), (0, .ref (ad (0))), (1, .int a1), (2, .int a2)]) dX7_atPlace_1 rfl (by decide) rfl ?_
  have L2 : ∀ (j : Nat) (k : Nat), (h0_2 : 25 ≤ k + j) → (hk : k ≤ H) → (hI2 : rX7_atPlace t a1 a2 = (lX7_atPlace_2 t a1 a2 j k)) → Zw p l e (zR 1) s m args below meth c D A K n ad 4 Q 2 ([(3, .int (nI k)), (0, .ref (ad (0))), (1, .int a1), (2, .int a2)]) [] t := by
    intro j
    induction j with
    | zero =>
      intro k h0_2 hk hI2
      exact absurd h0_2 (by have := hm.1; omega)
    | succ j ih2 =>
      intro k h0_2 hk hI2
      refine z_iload_n C 2 3 0 dX7_atPlace_2 rfl rfl ?_
      refine z_aload_n C 3 0 1 dX7_atPlace_3 rfl rfl ?_
      refine z_getr C 4 (a9 := ad (1)) (0) 0 dX7_atPlace_4 hO.h0 hO.e0 mX7_atPlace_in7 rfl (by decide) mX7_atPlace_f7 (fun _ => rfl) ?_
      refine z_sipush C 7 (v := 401) dX7_atPlace_7 (by decide +kernel) ?_
      refine z_ialdN C 10 (1) 401 dX7_atPlace_10 hO.h1 hO.e1 rfl (by decide) (by decide) ?_
      refine z_icmp_ge C 11 42 dX7_atPlace_11 (by decide) (fun c11_1 => ?_) (fun c11_1 => ?_)
      · refine z_ldc C 42 (v := (-1000004)) dX7_atPlace_42 mX7_atPlace_c47 ?_
        exact z_iret C 44 hA hQ rfl dX7_atPlace_44 ⟨((hI2.trans ((if_pos c11_1).trans rfl))).symm, rfl⟩
      · refine z_aload_n C 14 0 1 dX7_atPlace_14 rfl rfl ?_
        refine z_iload_n C 15 3 0 dX7_atPlace_15 rfl rfl ?_
        refine z_iconst C 16 (v := 0) dX7_atPlace_16 (by decide +kernel) ?_
        refine z_virtIe C 17 (As := [.int (nI k), .int 0]) (st := []) (id := 0) (kX7_of l D cy K n ad hJ hO t (nI k) 0 k 0 (Nat.lt_of_lt_of_le (hm.lt (Nat.le_trans hk hm.1) ‹¬ t (1) 401 ≤ nI k›) hm.1) (by decide) rfl rfl) dX7_atPlace_17 rfl gX7_atPlace_X7_of hyX7_of rfl (by decide) (by decide) hO.h0 rfl hO.e0 rfl rfl rfl (Nat.le_of_ble_eq_true rfl) ?_
        refine z_nv (t (1) (14 * k + 0)) rfl ?_
        refine z_iload_n C 20 1 2 dX7_atPlace_20 rfl rfl ?_
        refine z_icmp_ne C 21 36 dX7_atPlace_21 (by decide) (fun c21_3 => ?_) (fun c21_3 => ?_)
        · refine z_iinc C 36 (v := nI (k + 1)) 3 0 ([(3, .int (nI (k + 1))), (0, .ref (ad (0))), (1, .int a1), (2, .int a2)]) dX7_atPlace_36 rfl (nI_1 _) (by decide) rfl ?_
          refine z_goto C 39 2 dX7_atPlace_39 (by decide) ?_
          refine z_ls [0, 1, 2, 3] _ rfl ?_
          exact ih2 (k + 1) (by omega) (hm.lt (Nat.le_trans hk hm.1) ‹¬ t (1) 401 ≤ nI k›) (hI2.trans ((if_neg c11_1).trans ((if_neg c21_3).trans rfl)))
        · refine z_aload_n C 24 0 1 dX7_atPlace_24 rfl rfl ?_
          refine z_iload_n C 25 3 0 dX7_atPlace_25 rfl rfl ?_
          refine z_iconst C 26 (v := 1) dX7_atPlace_26 (by decide +kernel) ?_
          refine z_virtIe C 27 (As := [.int (nI k), .int 1]) (st := []) (id := 0) (kX7_of l D cy K n ad hJ hO t (nI k) 1 k 1 (Nat.lt_of_lt_of_le (hm.lt (Nat.le_trans hk hm.1) ‹¬ t (1) 401 ≤ nI k›) hm.1) (by decide) rfl rfl) dX7_atPlace_27 rfl gX7_atPlace_X7_of hyX7_of rfl (by decide) (by decide) hO.h0 rfl hO.e0 rfl rfl rfl (Nat.le_of_ble_eq_true rfl) ?_
          refine z_nv (t (1) (14 * k + 1)) rfl ?_
          refine z_iload_n C 30 2 3 dX7_atPlace_30 rfl rfl ?_
          refine z_icmp_ne C 31 36 dX7_atPlace_31 (by decide) (fun c31_5 => ?_) (fun c31_5 => ?_)
          · refine z_iinc C 36 (v := nI (k + 1)) 3 0 ([(3, .int (nI (k + 1))), (0, .ref (ad (0))), (1, .int a1), (2, .int a2)]) dX7_atPlace_36 rfl (nI_1 _) (by decide) rfl ?_
            refine z_goto C 39 2 dX7_atPlace_39 (by decide) ?_
            refine z_ls [0, 1, 2, 3] _ rfl ?_
            exact ih2 (k + 1) (by omega) (hm.lt (Nat.le_trans hk hm.1) ‹¬ t (1) 401 ≤ nI k›) (hI2.trans ((if_neg c11_1).trans ((if_pos c21_3).trans ((if_neg c31_5).trans rfl))))
          · refine z_iload_n C 34 3 0 dX7_atPlace_34 rfl rfl ?_
            exact z_iret C 35 hA hQ rfl dX7_atPlace_35 ⟨((hI2.trans ((if_neg c11_1).trans ((if_pos c21_3).trans ((if_pos c31_5).trans rfl))))).symm, rfl⟩
  refine z_ls [0, 1, 2, 3] _ rfl ?_
  exact L2 (25) 0 (by omega) (Nat.zero_le _) rfl
def lsX7_enters_4 (t : zM) (a1 : Int32) (a2 : Int32) (a3 : Int32) (a4 : Int32) : Nat → Nat → zM → zM
  | 0, _, u => u
  | j + 1, k, u => (if nI k < 6 then (if (zrem a2 100) = 0 then (if 10 ≤ (u (1) 409) then (zset (zset (zset (zset (zset (zset (zset u (1) 340 (u (1) 400)) (1) 341 a1) (1) 342 a2) (1) 343 a3) (1) 344 2) (1) 345 (1000 + a4)) (1) 409 ((u (1) 409) + 0)) else (zset (zset (zset (zset (zset (zset (zset u (1) 340 (u (1) 400)) (1) 341 a1) (1) 342 a2) (1) 343 a3) (1) 344 2) (1) 345 (1000 + a4)) (1) 409 ((u (1) 409) + 1))) else (if (100 * a3) ≤ a2 then (if 10 ≤ (u (1) 409) then (zset (zset (zset (zset (zset (zset (zset u (1) 340 (u (1) 400)) (1) 341 a1) (1) 342 a2) (1) 343 a3) (1) 344 0) (1) 345 (1000 + a4)) (1) 409 ((u (1) 409) + 0)) else (zset (zset (zset (zset (zset (zset (zset u (1) 340 (u (1) 400)) (1) 341 a1) (1) 342 a2) (1) 343 a3) (1) 344 0) (1) 345 (1000 + a4)) (1) 409 ((u (1) 409) + 1))) else (if 10 ≤ (u (1) 409) then (zset (zset (zset (zset (zset (zset (zset u (1) 340 (u (1) 400)) (1) 341 a1) (1) 342 a2) (1) 343 a3) (1) 344 1) (1) 345 (1000 + a4)) (1) 409 ((u (1) 409) + 0)) else (zset (zset (zset (zset (zset (zset (zset u (1) 340 (u (1) 400)) (1) 341 a1) (1) 342 a2) (1) 343 a3) (1) 344 1) (1) 345 (1000 + a4)) (1) 409 ((u (1) 409) + 1))))) else (lsX7_enters_4 t a1 a2 a3 a4 j (k - 1) (zset u (1) (340 + k) (u (1) (340 + k - 6)))))
def sX7_enters (t : zM) (a1 : Int32) (a2 : Int32) (a3 : Int32) (a4 : Int32) : zM := (lsX7_enters_4 t a1 a2 a3 a4 55 59 t)
theorem mX7_enters_f7 : Cond.fieldLink RX7 7 "WrongedMetersModel" "s" "[I" ∈ wsX7_enters := by decide +kernel
set_option maxRecDepth 20000 in
theorem mX7_enters_in7 : ∀ w ∈ u_ws RX7 TX7 16, w ∈ wsX7_enters := by decide +kernel
theorem hyX7_enters : yX7_enters.cls = RX7 ∧ yX7_enters.cls ≠ "java/lang/invoke/MethodHandle" ∧ yX7_enters.cls ≠ "java/lang/invoke/VarHandle" ∧ (parseMethodDescriptor yX7_enters.desc).map (fun d => d.parameters.length) = some 4 := by decide +kernel
set_option maxHeartbeats 3000000 in
set_option maxRecDepth 100000 in
theorem kX7_enters (l : Launch) (D : va_G) (cy : Nat → ClassId) (K : zK) (n : Nat) (ad : Nat → Nat) (hJ : zJ n ad) (hO : zModel cy K n ad) (t : zM) (a1 : Int32) (a2 : Int32) (a3 : Int32) (a4 : Int32)  : zV l yX7_enters wsX7_enters 0 D cy K n ad t [.ref (ad (0)), .int a1, .int a2, .int a3, .int a4] (fun t1 => t1 = sX7_enters t a1 a2 a3 a4) := by
  refine z_startV (cc := cX7_enters) (mL := 6) (ret := none) (own := RX7) rfl (by decide +kernel) rfl hJ (Nat.le_of_ble_eq_true rfl) ?_
  intro p e s m args below meth c A hA Q hQ C
  refine z_bipush C 0 (v := 59) dX7_enters_0 (by decide +kernel) ?_
  refine z_istore C 2 5 ([(5, .int 59), (0, .ref (ad (0))), (1, .int a1), (2, .int a2), (3, .int a3), (4, .int a4)]) dX7_enters_2 (by decide) rfl ?_
  have L4 : ∀ (j : Nat) (k : Nat) (u : zM), (h0_4 : k ≤ j + 4) → (h5 : 5 ≤ k) → (h59 : k ≤ 59) → (hS4 : sX7_enters t a1 a2 a3 a4 = (lsX7_enters_4 t a1 a2 a3 a4 j k u)) → Zw p l e (zR 0) s m args below meth c D A K n ad 6 Q 4 ([(5, .int (nI k)), (0, .ref (ad (0))), (1, .int a1), (2, .int a2), (3, .int a3), (4, .int a4)]) [] u := by
    intro j
    induction j with
    | zero =>
      intro k u h0_4 h5 h59 hS4
      exact absurd h0_4 (by omega)
    | succ j ih4 =>
      intro k u h0_4 h5 h59 hS4
      refine z_iload C 4 5 0 dX7_enters_4 rfl ?_
      refine z_bipush C 6 (v := 6) dX7_enters_6 (by decide +kernel) ?_
      refine z_icmp_lt C 8 42 dX7_enters_8 (by decide) (fun c8_1 => ?_) (fun c8_1 => ?_)
      · refine z_aload_n C 42 0 1 dX7_enters_42 rfl rfl ?_
        refine z_getr C 43 (a9 := ad (1)) (0) 0 dX7_enters_43 hO.h0 hO.e0 mX7_enters_in7 rfl (by decide) mX7_enters_f7 (fun _ => rfl) ?_
        refine z_sipush C 46 (v := 340) dX7_enters_46 (by decide +kernel) ?_
        refine z_aload_n C 49 0 1 dX7_enters_49 rfl rfl ?_
        refine z_getr C 50 (a9 := ad (1)) (0) 0 dX7_enters_50 hO.h0 hO.e0 mX7_enters_in7 rfl (by decide) mX7_enters_f7 (fun _ => rfl) ?_
        refine z_sipush C 53 (v := 400) dX7_enters_53 (by decide +kernel) ?_
        refine z_ialdN C 56 (1) 400 dX7_enters_56 hO.h1 hO.e1 rfl (by decide) (by decide) ?_
        refine z_iastN C 57 (1) 340 dX7_enters_57 hO.h1 hO.e1 rfl (by decide) (by decide) ?_
        refine z_aload_n C 58 0 1 dX7_enters_58 rfl rfl ?_
        refine z_getr C 59 (a9 := ad (1)) (0) 0 dX7_enters_59 hO.h0 hO.e0 mX7_enters_in7 rfl (by decide) mX7_enters_f7 (fun _ => rfl) ?_
        refine z_sipush C 62 (v := 341) dX7_enters_62 (by decide +kernel) ?_
        refine z_iload_n C 65 1 2 dX7_enters_65 rfl rfl ?_
        refine z_iastN C 66 (1) 341 dX7_enters_66 hO.h1 hO.e1 rfl (by decide) (by decide) ?_
        refine z_aload_n C 67 0 1 dX7_enters_67 rfl rfl ?_
        refine z_getr C 68 (a9 := ad (1)) (0) 0 dX7_enters_68 hO.h0 hO.e0 mX7_enters_in7 rfl (by decide) mX7_enters_f7 (fun _ => rfl) ?_
        refine z_sipush C 71 (v := 342) dX7_enters_71 (by decide +kernel) ?_
        refine z_iload_n C 74 2 3 dX7_enters_74 rfl rfl ?_
        refine z_iastN C 75 (1) 342 dX7_enters_75 hO.h1 hO.e1 rfl (by decide) (by decide) ?_
        refine z_aload_n C 76 0 1 dX7_enters_76 rfl rfl ?_
        refine z_getr C 77 (a9 := ad (1)) (0) 0 dX7_enters_77 hO.h0 hO.e0 mX7_enters_in7 rfl (by decide) mX7_enters_f7 (fun _ => rfl) ?_
        refine z_sipush C 80 (v := 343) dX7_enters_80 (by decide +kernel) ?_
        refine z_iload_n C 83 3 4 dX7_enters_83 rfl rfl ?_
        refine z_iastN C 84 (1) 343 dX7_enters_84 hO.h1 hO.e1 rfl (by decide) (by decide) ?_
        refine z_aload_n C 85 0 1 dX7_enters_85 rfl rfl ?_
        refine z_getr C 86 (a9 := ad (1)) (0) 0 dX7_enters_86 hO.h0 hO.e0 mX7_enters_in7 rfl (by decide) mX7_enters_f7 (fun _ => rfl) ?_
        refine z_sipush C 89 (v := 344) dX7_enters_89 (by decide +kernel) ?_
        refine z_iload_n C 92 2 3 dX7_enters_92 rfl rfl ?_
        refine z_bipush C 93 (v := 100) dX7_enters_93 (by decide +kernel) ?_
        refine z_irem C 95 dX7_enters_95 (by decide) ?_
        refine z_if_ne C 96 103 dX7_enters_96 (by decide) (fun c96_2 => ?_) (fun c96_2 => ?_)
        · refine z_bipush C 103 (v := 100) dX7_enters_103 (by decide +kernel) ?_
          refine z_iload_n C 105 3 4 dX7_enters_105 rfl rfl ?_
          refine z_imul C 106 dX7_enters_106 ?_
          refine z_iload_n C 107 2 3 dX7_enters_107 rfl rfl ?_
          refine z_icmp_le C 108 115 dX7_enters_108 (by decide) (fun c108_3 => ?_) (fun c108_3 => ?_)
          · refine z_iconst C 115 (v := 0) dX7_enters_115 (by decide +kernel) ?_
            refine z_iastN C 116 (1) 344 dX7_enters_116 hO.h1 hO.e1 rfl (by decide) (by decide) ?_
            refine z_aload_n C 117 0 1 dX7_enters_117 rfl rfl ?_
            refine z_getr C 118 (a9 := ad (1)) (0) 0 dX7_enters_118 hO.h0 hO.e0 mX7_enters_in7 rfl (by decide) mX7_enters_f7 (fun _ => rfl) ?_
            refine z_sipush C 121 (v := 345) dX7_enters_121 (by decide +kernel) ?_
            refine z_sipush C 124 (v := 1000) dX7_enters_124 (by decide +kernel) ?_
            refine z_iload C 127 4 5 dX7_enters_127 rfl ?_
            refine z_iadd C 129 dX7_enters_129 ?_
            refine z_iastN C 130 (1) 345 dX7_enters_130 hO.h1 hO.e1 rfl (by decide) (by decide) ?_
            refine z_aload_n C 131 0 1 dX7_enters_131 rfl rfl ?_
            refine z_getr C 132 (a9 := ad (1)) (0) 0 dX7_enters_132 hO.h0 hO.e0 mX7_enters_in7 rfl (by decide) mX7_enters_f7 (fun _ => rfl) ?_
            refine z_sipush C 135 (v := 409) dX7_enters_135 (by decide +kernel) ?_
            refine z_dup2 C 138 dX7_enters_138 rfl rfl ?_
            refine z_ialdN C 139 (1) 409 dX7_enters_139 hO.h1 hO.e1 rfl (by decide) (by decide) ?_
            refine z_nv (u (1) 409) ((zset_nk _ _ _ (by decide)).trans ((zset_nk _ _ _ (by decide)).trans ((zset_nk _ _ _ (by decide)).trans ((zset_nk _ _ _ (by decide)).trans ((zset_nk _ _ _ (by decide)).trans ((zset_nk _ _ _ (by decide)).trans rfl)))))) ?_
            refine z_aload_n C 140 0 1 dX7_enters_140 rfl rfl ?_
            refine z_getr C 141 (a9 := ad (1)) (0) 0 dX7_enters_141 hO.h0 hO.e0 mX7_enters_in7 rfl (by decide) mX7_enters_f7 (fun _ => rfl) ?_
            refine z_sipush C 144 (v := 409) dX7_enters_144 (by decide +kernel) ?_
            refine z_ialdN C 147 (1) 409 dX7_enters_147 hO.h1 hO.e1 rfl (by decide) (by decide) ?_
            refine z_nv (u (1) 409) ((zset_nk _ _ _ (by decide)).trans ((zset_nk _ _ _ (by decide)).trans ((zset_nk _ _ _ (by decide)).trans ((zset_nk _ _ _ (by decide)).trans ((zset_nk _ _ _ (by decide)).trans ((zset_nk _ _ _ (by decide)).trans rfl)))))) ?_
            refine z_bipush C 148 (v := 10) dX7_enters_148 (by decide +kernel) ?_
            refine z_icmp_ge C 150 157 dX7_enters_150 (by decide) (fun c150_4 => ?_) (fun c150_4 => ?_)
            · refine z_iconst C 157 (v := 0) dX7_enters_157 (by decide +kernel) ?_
              refine z_iadd C 158 dX7_enters_158 ?_
              refine z_iastN C 159 (1) 409 dX7_enters_159 hO.h1 hO.e1 rfl (by decide) (by decide) ?_
              exact z_vret C 160 hA hQ rfl dX7_enters_160 ((hS4.trans ((if_pos c8_1).trans ((if_neg c96_2).trans ((if_pos c108_3).trans ((if_pos c150_4).trans rfl)))))).symm
            · refine z_iconst C 153 (v := 1) dX7_enters_153 (by decide +kernel) ?_
              refine z_goto C 154 158 dX7_enters_154 (by decide) ?_
              refine z_iadd C 158 dX7_enters_158 ?_
              refine z_iastN C 159 (1) 409 dX7_enters_159 hO.h1 hO.e1 rfl (by decide) (by decide) ?_
              exact z_vret C 160 hA hQ rfl dX7_enters_160 ((hS4.trans ((if_pos c8_1).trans ((if_neg c96_2).trans ((if_pos c108_3).trans ((if_neg c150_4).trans rfl)))))).symm
          · refine z_iconst C 111 (v := 1) dX7_enters_111 (by decide +kernel) ?_
            refine z_goto C 112 116 dX7_enters_112 (by decide) ?_
            refine z_iastN C 116 (1) 344 dX7_enters_116 hO.h1 hO.e1 rfl (by decide) (by decide) ?_
            refine z_aload_n C 117 0 1 dX7_enters_117 rfl rfl ?_
            refine z_getr C 118 (a9 := ad (1)) (0) 0 dX7_enters_118 hO.h0 hO.e0 mX7_enters_in7 rfl (by decide) mX7_enters_f7 (fun _ => rfl) ?_
            refine z_sipush C 121 (v := 345) dX7_enters_121 (by decide +kernel) ?_
            refine z_sipush C 124 (v := 1000) dX7_enters_124 (by decide +kernel) ?_
            refine z_iload C 127 4 5 dX7_enters_127 rfl ?_
            refine z_iadd C 129 dX7_enters_129 ?_
            refine z_iastN C 130 (1) 345 dX7_enters_130 hO.h1 hO.e1 rfl (by decide) (by decide) ?_
            refine z_aload_n C 131 0 1 dX7_enters_131 rfl rfl ?_
            refine z_getr C 132 (a9 := ad (1)) (0) 0 dX7_enters_132 hO.h0 hO.e0 mX7_enters_in7 rfl (by decide) mX7_enters_f7 (fun _ => rfl) ?_
            refine z_sipush C 135 (v := 409) dX7_enters_135 (by decide +kernel) ?_
            refine z_dup2 C 138 dX7_enters_138 rfl rfl ?_
            refine z_ialdN C 139 (1) 409 dX7_enters_139 hO.h1 hO.e1 rfl (by decide) (by decide) ?_
            refine z_nv (u (1) 409) ((zset_nk _ _ _ (by decide)).trans ((zset_nk _ _ _ (by decide)).trans ((zset_nk _ _ _ (by decide)).trans ((zset_nk _ _ _ (by decide)).trans ((zset_nk _ _ _ (by decide)).trans ((zset_nk _ _ _ (by decide)).trans rfl)))))) ?_
            refine z_aload_n C 140 0 1 dX7_enters_140 rfl rfl ?_
            refine z_getr C 141 (a9 := ad (1)) (0) 0 dX7_enters_141 hO.h0 hO.e0 mX7_enters_in7 rfl (by decide) mX7_enters_f7 (fun _ => rfl) ?_
            refine z_sipush C 144 (v := 409) dX7_enters_144 (by decide +kernel) ?_
            refine z_ialdN C 147 (1) 409 dX7_enters_147 hO.h1 hO.e1 rfl (by decide) (by decide) ?_
            refine z_nv (u (1) 409) ((zset_nk _ _ _ (by decide)).trans ((zset_nk _ _ _ (by decide)).trans ((zset_nk _ _ _ (by decide)).trans ((zset_nk _ _ _ (by decide)).trans ((zset_nk _ _ _ (by decide)).trans ((zset_nk _ _ _ (by decide)).trans rfl)))))) ?_
            refine z_bipush C 148 (v := 10) dX7_enters_148 (by decide +kernel) ?_
            refine z_icmp_ge C 150 157 dX7_enters_150 (by decide) (fun c150_5 => ?_) (fun c150_5 => ?_)
            · refine z_iconst C 157 (v := 0) dX7_enters_157 (by decide +kernel) ?_
              refine z_iadd C 158 dX7_enters_158 ?_
              refine z_iastN C 159 (1) 409 dX7_enters_159 hO.h1 hO.e1 rfl (by decide) (by decide) ?_
              exact z_vret C 160 hA hQ rfl dX7_enters_160 ((hS4.trans ((if_pos c8_1).trans ((if_neg c96_2).trans ((if_neg c108_3).trans ((if_pos c150_5).trans rfl)))))).symm
            · refine z_iconst C 153 (v := 1) dX7_enters_153 (by decide +kernel) ?_
              refine z_goto C 154 158 dX7_enters_154 (by decide) ?_
              refine z_iadd C 158 dX7_enters_158 ?_
              refine z_iastN C 159 (1) 409 dX7_enters_159 hO.h1 hO.e1 rfl (by decide) (by decide) ?_
              exact z_vret C 160 hA hQ rfl dX7_enters_160 ((hS4.trans ((if_pos c8_1).trans ((if_neg c96_2).trans ((if_neg c108_3).trans ((if_neg c150_5).trans rfl)))))).symm
        · refine z_iconst C 99 (v := 2) dX7_enters_99 (by decide +kernel) ?_
          refine z_goto C 100 116 dX7_enters_100 (by decide) ?_
          refine z_iastN C 116 (1) 344 dX7_enters_116 hO.h1 hO.e1 rfl (by decide) (by decide) ?_
          refine z_aload_n C 117 0 1 dX7_enters_117 rfl rfl ?_
          refine z_getr C 118 (a9 := ad (1)) (0) 0 dX7_enters_118 hO.h0 hO.e0 mX7_enters_in7 rfl (by decide) mX7_enters_f7 (fun _ => rfl) ?_
          refine z_sipush C 121 (v := 345) dX7_enters_121 (by decide +kernel) ?_
          refine z_sipush C 124 (v := 1000) dX7_enters_124 (by decide +kernel) ?_
          refine z_iload C 127 4 5 dX7_enters_127 rfl ?_
          refine z_iadd C 129 dX7_enters_129 ?_
          refine z_iastN C 130 (1) 345 dX7_enters_130 hO.h1 hO.e1 rfl (by decide) (by decide) ?_
          refine z_aload_n C 131 0 1 dX7_enters_131 rfl rfl ?_
          refine z_getr C 132 (a9 := ad (1)) (0) 0 dX7_enters_132 hO.h0 hO.e0 mX7_enters_in7 rfl (by decide) mX7_enters_f7 (fun _ => rfl) ?_
          refine z_sipush C 135 (v := 409) dX7_enters_135 (by decide +kernel) ?_
          refine z_dup2 C 138 dX7_enters_138 rfl rfl ?_
          refine z_ialdN C 139 (1) 409 dX7_enters_139 hO.h1 hO.e1 rfl (by decide) (by decide) ?_
          refine z_nv (u (1) 409) ((zset_nk _ _ _ (by decide)).trans ((zset_nk _ _ _ (by decide)).trans ((zset_nk _ _ _ (by decide)).trans ((zset_nk _ _ _ (by decide)).trans ((zset_nk _ _ _ (by decide)).trans ((zset_nk _ _ _ (by decide)).trans rfl)))))) ?_
          refine z_aload_n C 140 0 1 dX7_enters_140 rfl rfl ?_
          refine z_getr C 141 (a9 := ad (1)) (0) 0 dX7_enters_141 hO.h0 hO.e0 mX7_enters_in7 rfl (by decide) mX7_enters_f7 (fun _ => rfl) ?_
          refine z_sipush C 144 (v := 409) dX7_enters_144 (by decide +kernel) ?_
          refine z_ialdN C 147 (1) 409 dX7_enters_147 hO.h1 hO.e1 rfl (by decide) (by decide) ?_
          refine z_nv (u (1) 409) ((zset_nk _ _ _ (by decide)).trans ((zset_nk _ _ _ (by decide)).trans ((zset_nk _ _ _ (by decide)).trans ((zset_nk _ _ _ (by decide)).trans ((zset_nk _ _ _ (by decide)).trans ((zset_nk _ _ _ (by decide)).trans rfl)))))) ?_
          refine z_bipush C 148 (v := 10) dX7_enters_148 (by decide +kernel) ?_
          refine z_icmp_ge C 150 157 dX7_enters_150 (by decide) (fun c150_6 => ?_) (fun c150_6 => ?_)
          · refine z_iconst C 157 (v := 0) dX7_enters_157 (by decide +kernel) ?_
            refine z_iadd C 158 dX7_enters_158 ?_
            refine z_iastN C 159 (1) 409 dX7_enters_159 hO.h1 hO.e1 rfl (by decide) (by decide) ?_
            exact z_vret C 160 hA hQ rfl dX7_enters_160 ((hS4.trans ((if_pos c8_1).trans ((if_pos c96_2).trans ((if_pos c150_6).trans rfl))))).symm
          · refine z_iconst C 153 (v := 1) dX7_enters_153 (by decide +kernel) ?_
            refine z_goto C 154 158 dX7_enters_154 (by decide) ?_
            refine z_iadd C 158 dX7_enters_158 ?_
            refine z_iastN C 159 (1) 409 dX7_enters_159 hO.h1 hO.e1 rfl (by decide) (by decide) ?_
            exact z_vret C 160 hA hQ rfl dX7_enters_160 ((hS4.trans ((if_pos c8_1).trans ((if_pos c96_2).trans ((if_neg c150_6).trans rfl))))).symm
      · refine z_aload_n C 11 0 1 dX7_enters_11 rfl rfl ?_
        refine z_getr C 12 (a9 := ad (1)) (0) 0 dX7_enters_12 hO.h0 hO.e0 mX7_enters_in7 rfl (by decide) mX7_enters_f7 (fun _ => rfl) ?_
        refine z_sipush C 15 (v := 340) dX7_enters_15 (by decide +kernel) ?_
        refine z_iload C 18 5 0 dX7_enters_18 rfl ?_
        refine z_iadd C 20 dX7_enters_20 ?_
        refine z_aload_n C 21 0 1 dX7_enters_21 rfl rfl ?_
        refine z_getr C 22 (a9 := ad (1)) (0) 0 dX7_enters_22 hO.h0 hO.e0 mX7_enters_in7 rfl (by decide) mX7_enters_f7 (fun _ => rfl) ?_
        refine z_sipush C 25 (v := 340) dX7_enters_25 (by decide +kernel) ?_
        refine z_iload C 28 5 0 dX7_enters_28 rfl ?_
        refine z_iadd C 30 dX7_enters_30 ?_
        refine z_bipush C 31 (v := 6) dX7_enters_31 (by decide +kernel) ?_
        refine z_isub C 33 dX7_enters_33 ?_
        refine z_ialdN C 34 (1) (340 + k - 6) dX7_enters_34 hO.h1 hO.e1 (by rw [show (340 : Int32) + nI k = nI (340 + k) from nI_add 340 k]; exact nI_sub (b := 6) (by omega)) (by omega) (by decide) ?_
        refine z_iastN C 35 (1) (340 + k) dX7_enters_35 hO.h1 hO.e1 (nI_add 340 k) (by omega) (by decide) ?_
        refine z_iinc C 36 (v := nI (k - 1)) 5 0 ([(5, .int (nI (k - 1))), (0, .ref (ad (0))), (1, .int a1), (2, .int a2), (3, .int a3), (4, .int a4)]) dX7_enters_36 rfl (nI_dec (by omega)) (by decide) rfl ?_
        refine z_goto C 39 4 dX7_enters_39 (by decide) ?_
        refine z_ls [0, 1, 2, 3, 4, 5] _ rfl ?_
        exact ih4 (k - 1) (zset u (1) (340 + k) (u (1) (340 + k - 6))) (by omega) (by have := zle (a := 6) (by decide) (by omega) (znlt.mp ‹¬ nI k < (6 : Int32)›); omega) (by omega) (hS4.trans ((if_neg c8_1).trans rfl))
  refine z_ls [0, 1, 2, 3, 4, 5] _ rfl ?_
  exact L4 (55) 59 t (by omega) (by decide) (by decide) rfl
theorem lsX7_enters_4_S {H N : Nat} (t : zM) (a1 a2 a3 a4 : Int32) : ∀ (j k : Nat) (u : zM), k ≤ 59 → mS H N u → mS H N (lsX7_enters_4 t a1 a2 a3 a4 j k u) := by
  intro j
  induction j with
  | zero => intro k u hk h; exact h
  | succ j ih =>
    intro k u hk h
    unfold lsX7_enters_4
    repeat' split
    all_goals first
      | exact ih _ _ (by omega) (mS_set1 h (by omega) (by omega) (by omega) (by omega))
      | (repeat (refine mS_set1 ?_ (by decide) (by decide) (by decide) (by decide)))
    all_goals exact h
theorem sX7_enters_S {H N : Nat} {t : zM} {a1 a2 a3 a4 : Int32} (h : mS H N t) : mS H N (sX7_enters t a1 a2 a3 a4) := lsX7_enters_4_S t _ _ _ _ _ _ _ (by decide) h
theorem lsX7_enters_4_o (t : zM) (a1 a2 a3 a4 : Int32) {i : Nat} (hi : i ≠ 1) : ∀ (j k : Nat) (u : zM), lsX7_enters_4 t a1 a2 a3 a4 j k u i = u i := by
  intro j
  induction j with
  | zero => intro k u; rfl
  | succ j ih =>
    intro k u
    unfold lsX7_enters_4
    repeat' split
    all_goals first
      | (rw [ih]; exact zset_id _ _ _ hi)
      | simp only [zset_id _ _ _ hi]
theorem sX7_enters_o (t : zM) (a1 a2 a3 a4 : Int32) {i : Nat} (hi : i ≠ 1) : sX7_enters t a1 a2 a3 a4 i = t i := lsX7_enters_4_o t _ _ _ _ hi _ _ _
def rX7_reads (t : zM) (a1 : Int32) (k : Nat) : Int32 := (if (rX7_balanceThen t k) ≤ 0 then (if 0 ≤ (rX7_balanceThen t k) then (rX7_unitsOf t k) else (rX7_unitsOf t k)) else (if 0 ≤ (rX7_balanceThen t k) then (rX7_unitsOf t k) else (rX7_unitsOf t k)))
def sX7_reads (t : zM) (a1 : Int32) (k : Nat) : zM := (if (rX7_balanceThen t k) ≤ 0 then (if 0 ≤ (rX7_balanceThen t k) then (sX7_enters (zset (zset (zset (zset (zset (zset (zset (zset (zset (zset (zset t (1) (14 * k + 4) (rX7_balanceThen t k)) (1) (14 * k + 3) (t (1) (14 * k + 2))) (1) (14 * k + 7) ((t (1) 400) + 1)) (1) (14 * k + 8) ((t (1) (14 * k + 8)) + 1)) (1) (14 * k + 9) ((t (1) (14 * k + 9)) + (rX7_unitsOf t k))) (1) (14 * k + 10) ((t (1) (14 * k + 10)) + 0)) (1) (14 * k + 11) ((t (1) (14 * k + 11)) + 0)) (1) 402 ((t (1) 402) + 1)) (1) 403 ((t (1) 403) + (rX7_unitsOf t k))) (1) 404 ((t (1) 404) + ((rX7_unitsOf t k) * (t (1) 411)))) (1) 405 ((t (1) 405) + (rX7_used t k))) a1 (rX7_used t k) (rX7_unitsOf t k) (rX7_balanceThen t k)) else (sX7_enters (zset (zset (zset (zset (zset (zset (zset (zset (zset (zset (zset t (1) (14 * k + 4) (rX7_balanceThen t k)) (1) (14 * k + 3) (t (1) (14 * k + 2))) (1) (14 * k + 7) ((t (1) 400) + 1)) (1) (14 * k + 8) ((t (1) (14 * k + 8)) + 1)) (1) (14 * k + 9) ((t (1) (14 * k + 9)) + (rX7_unitsOf t k))) (1) (14 * k + 10) ((t (1) (14 * k + 10)) + 0)) (1) (14 * k + 11) ((t (1) (14 * k + 11)) + 1)) (1) 402 ((t (1) 402) + 1)) (1) 403 ((t (1) 403) + (rX7_unitsOf t k))) (1) 404 ((t (1) 404) + ((rX7_unitsOf t k) * (t (1) 411)))) (1) 405 ((t (1) 405) + (rX7_used t k))) a1 (rX7_used t k) (rX7_unitsOf t k) (rX7_balanceThen t k))) else (if 0 ≤ (rX7_balanceThen t k) then (sX7_enters (zset (zset (zset (zset (zset (zset (zset (zset (zset (zset (zset t (1) (14 * k + 4) (rX7_balanceThen t k)) (1) (14 * k + 3) (t (1) (14 * k + 2))) (1) (14 * k + 7) ((t (1) 400) + 1)) (1) (14 * k + 8) ((t (1) (14 * k + 8)) + 1)) (1) (14 * k + 9) ((t (1) (14 * k + 9)) + (rX7_unitsOf t k))) (1) (14 * k + 10) ((t (1) (14 * k + 10)) + 1)) (1) (14 * k + 11) ((t (1) (14 * k + 11)) + 0)) (1) 402 ((t (1) 402) + 1)) (1) 403 ((t (1) 403) + (rX7_unitsOf t k))) (1) 404 ((t (1) 404) + ((rX7_unitsOf t k) * (t (1) 411)))) (1) 405 ((t (1) 405) + (rX7_used t k))) a1 (rX7_used t k) (rX7_unitsOf t k) (rX7_balanceThen t k)) else (sX7_enters (zset (zset (zset (zset (zset (zset (zset (zset (zset (zset (zset t (1) (14 * k + 4) (rX7_balanceThen t k)) (1) (14 * k + 3) (t (1) (14 * k + 2))) (1) (14 * k + 7) ((t (1) 400) + 1)) (1) (14 * k + 8) ((t (1) (14 * k + 8)) + 1)) (1) (14 * k + 9) ((t (1) (14 * k + 9)) + (rX7_unitsOf t k))) (1) (14 * k + 10) ((t (1) (14 * k + 10)) + 1)) (1) (14 * k + 11) ((t (1) (14 * k + 11)) + 1)) (1) 402 ((t (1) 402) + 1)) (1) 403 ((t (1) 403) + (rX7_unitsOf t k))) (1) 404 ((t (1) 404) + ((rX7_unitsOf t k) * (t (1) 411)))) (1) 405 ((t (1) 405) + (rX7_used t k))) a1 (rX7_used t k) (rX7_unitsOf t k) (rX7_balanceThen t k))))
theorem mX7_reads_f7 : Cond.fieldLink RX7 7 "WrongedMetersModel" "s" "[I" ∈ wsX7_reads := by decide +kernel
set_option maxRecDepth 20000 in
theorem mX7_reads_in7 : ∀ w ∈ u_ws RX7 TX7 16, w ∈ wsX7_reads := by decide +kernel
theorem hyX7_reads : yX7_reads.cls = RX7 ∧ yX7_reads.cls ≠ "java/lang/invoke/MethodHandle" ∧ yX7_reads.cls ≠ "java/lang/invoke/VarHandle" ∧ (parseMethodDescriptor yX7_reads.desc).map (fun d => d.parameters.length) = some 1 := by decide +kernel
set_option maxHeartbeats 3000000 in
set_option maxRecDepth 100000 in
theorem kX7_reads (l : Launch) (D : va_G) (cy : Nat → ClassId) (K : zK) (n : Nat) (ad : Nat → Nat) (hJ : zJ n ad) (hO : zModel cy K n ad) (t : zM) (a1 : Int32) (k : Nat) (hk : k < 24) (ha : a1 = nI k) : zI l yX7_reads wsX7_reads 4 D cy K n ad t [.ref (ad (0)), .int a1] (fun r t1 => r = rX7_reads t a1 k ∧ t1 = sX7_reads t a1 k) := by
  refine z_startI (cc := cX7_reads) (mL := 5) (ret := (some .int)) (own := RX7) rfl (by decide +kernel) rfl hJ (Nat.le_of_ble_eq_true rfl) ?_
  intro p e s m args below meth c A hA Q hQ C
  refine z_aload_n C 0 0 0 dX7_reads_0 rfl rfl ?_
  refine z_iload_n C 1 1 1 dX7_reads_1 rfl rfl ?_
  refine z_virtIe C 2 (As := [.int a1]) (st := []) (id := 0) (kX7_used l D cy K n ad hJ hO t a1 k hk ha) dX7_reads_2 rfl gX7_reads_X7_used hyX7_used rfl (by decide) (by decide) hO.h0 rfl hO.e0 rfl rfl rfl (Nat.le_of_ble_eq_true rfl) ?_
  refine z_istore_n C 5 2 ([(2, .int (rX7_used t k)), (0, .ref (ad (0))), (1, .int a1)]) dX7_reads_5 rfl (by decide) rfl ?_
  refine z_aload_n C 6 0 1 dX7_reads_6 rfl rfl ?_
  refine z_iload_n C 7 1 2 dX7_reads_7 rfl rfl ?_
  refine z_virtIe C 8 (As := [.int a1]) (st := []) (id := 0) (kX7_unitsOf l D cy K n ad hJ hO t a1 k hk ha) dX7_reads_8 rfl gX7_reads_X7_unitsOf hyX7_unitsOf rfl (by decide) (by decide) hO.h0 rfl hO.e0 rfl rfl rfl (Nat.le_of_ble_eq_true rfl) ?_
  refine z_istore_n C 11 3 ([(3, .int (rX7_unitsOf t k)), (2, .int (rX7_used t k)), (0, .ref (ad (0))), (1, .int a1)]) dX7_reads_11 rfl (by decide) rfl ?_
  refine z_aload_n C 12 0 2 dX7_reads_12 rfl rfl ?_
  refine z_iload_n C 13 1 3 dX7_reads_13 rfl rfl ?_
  refine z_virtIe C 14 (As := [.int a1]) (st := []) (id := 0) (kX7_balanceThen l D cy K n ad hJ hO t a1 k hk ha) dX7_reads_14 rfl gX7_reads_X7_balanceThen hyX7_balanceThen rfl (by decide) (by decide) hO.h0 rfl hO.e0 rfl rfl rfl (Nat.le_of_ble_eq_true rfl) ?_
  refine z_istore C 17 4 ([(4, .int (rX7_balanceThen t k)), (3, .int (rX7_unitsOf t k)), (2, .int (rX7_used t k)), (0, .ref (ad (0))), (1, .int a1)]) dX7_reads_17 (by decide) rfl ?_
  refine z_aload_n C 19 0 3 dX7_reads_19 rfl rfl ?_
  refine z_iload_n C 20 1 4 dX7_reads_20 rfl rfl ?_
  refine z_iconst C 21 (v := 4) dX7_reads_21 (by decide +kernel) ?_
  refine z_iload C 22 4 0 dX7_reads_22 rfl ?_
  refine z_virtVe C 24 (As := [.int a1, .int 4, .int (rX7_balanceThen t k)]) (st := []) (id := 0) (kX7_lay l D cy K n ad hJ hO t a1 4 (rX7_balanceThen t k) k 4 hk (by decide) ha rfl) dX7_reads_24 rfl gX7_reads_X7_lay hyX7_lay rfl (by decide) (by decide) hO.h0 rfl hO.e0 rfl rfl rfl (Nat.le_of_ble_eq_true rfl) ?_
  refine z_nt (zset t (1) (14 * k + 4) (rX7_balanceThen t k)) rfl ?_
  refine z_aload_n C 27 0 3 dX7_reads_27 rfl rfl ?_
  refine z_iload_n C 28 1 4 dX7_reads_28 rfl rfl ?_
  refine z_iconst C 29 (v := 3) dX7_reads_29 (by decide +kernel) ?_
  refine z_aload_n C 30 0 3 dX7_reads_30 rfl rfl ?_
  refine z_iload_n C 31 1 4 dX7_reads_31 rfl rfl ?_
  refine z_iconst C 32 (v := 2) dX7_reads_32 (by decide +kernel) ?_
  refine z_virtIe C 33 (As := [.int a1, .int 2]) (st := [.int 3, .int a1, .ref (ad (0))]) (id := 0) (kX7_of l D cy K n ad hJ hO (zset t (1) (14 * k + 4) (rX7_balanceThen t k)) a1 2 k 2 hk (by decide) ha rfl) dX7_reads_33 rfl gX7_reads_X7_of hyX7_of rfl (by decide) (by decide) hO.h0 rfl hO.e0 rfl rfl rfl (Nat.le_of_ble_eq_true rfl) ?_
  refine z_nv (t (1) (14 * k + 2)) ((zset_nk _ _ _ (by omega)).trans rfl) ?_
  refine z_virtVe C 36 (As := [.int a1, .int 3, .int (t (1) (14 * k + 2))]) (st := []) (id := 0) (kX7_lay l D cy K n ad hJ hO (zset t (1) (14 * k + 4) (rX7_balanceThen t k)) a1 3 (t (1) (14 * k + 2)) k 3 hk (by decide) ha rfl) dX7_reads_36 rfl gX7_reads_X7_lay hyX7_lay rfl (by decide) (by decide) hO.h0 rfl hO.e0 rfl rfl rfl (Nat.le_of_ble_eq_true rfl) ?_
  refine z_nt (zset (zset t (1) (14 * k + 4) (rX7_balanceThen t k)) (1) (14 * k + 3) (t (1) (14 * k + 2))) rfl ?_
  refine z_aload_n C 39 0 3 dX7_reads_39 rfl rfl ?_
  refine z_iload_n C 40 1 4 dX7_reads_40 rfl rfl ?_
  refine z_bipush C 41 (v := 7) dX7_reads_41 (by decide +kernel) ?_
  refine z_aload_n C 43 0 3 dX7_reads_43 rfl rfl ?_
  refine z_getr C 44 (a9 := ad (1)) (0) 0 dX7_reads_44 hO.h0 hO.e0 mX7_reads_in7 rfl (by decide) mX7_reads_f7 (fun _ => rfl) ?_
  refine z_sipush C 47 (v := 400) dX7_reads_47 (by decide +kernel) ?_
  refine z_ialdN C 50 (1) 400 dX7_reads_50 hO.h1 hO.e1 rfl (by decide) (by decide) ?_
  refine z_nv (t (1) 400) ((zset_nk _ _ _ (by omega)).trans ((zset_nk _ _ _ (by omega)).trans rfl)) ?_
  refine z_iconst C 51 (v := 1) dX7_reads_51 (by decide +kernel) ?_
  refine z_iadd C 52 dX7_reads_52 ?_
  refine z_virtVe C 53 (As := [.int a1, .int 7, .int ((t (1) 400) + 1)]) (st := []) (id := 0) (kX7_lay l D cy K n ad hJ hO (zset (zset t (1) (14 * k + 4) (rX7_balanceThen t k)) (1) (14 * k + 3) (t (1) (14 * k + 2))) a1 7 ((t (1) 400) + 1) k 7 hk (by decide) ha rfl) dX7_reads_53 rfl gX7_reads_X7_lay hyX7_lay rfl (by decide) (by decide) hO.h0 rfl hO.e0 rfl rfl rfl (Nat.le_of_ble_eq_true rfl) ?_
  refine z_nt (zset (zset (zset t (1) (14 * k + 4) (rX7_balanceThen t k)) (1) (14 * k + 3) (t (1) (14 * k + 2))) (1) (14 * k + 7) ((t (1) 400) + 1)) rfl ?_
  refine z_aload_n C 56 0 3 dX7_reads_56 rfl rfl ?_
  refine z_iload_n C 57 1 4 dX7_reads_57 rfl rfl ?_
  refine z_bipush C 58 (v := 8) dX7_reads_58 (by decide +kernel) ?_
  refine z_iconst C 60 (v := 1) dX7_reads_60 (by decide +kernel) ?_
  refine z_virtVe C 61 (As := [.int a1, .int 8, .int 1]) (st := []) (id := 0) (kX7_adds l D cy K n ad hJ hO (zset (zset (zset t (1) (14 * k + 4) (rX7_balanceThen t k)) (1) (14 * k + 3) (t (1) (14 * k + 2))) (1) (14 * k + 7) ((t (1) 400) + 1)) a1 8 1 k 8 hk (by decide) ha rfl) dX7_reads_61 rfl gX7_reads_X7_adds hyX7_adds rfl (by decide) (by decide) hO.h0 rfl hO.e0 rfl rfl rfl (Nat.le_of_ble_eq_true rfl) ?_
  refine z_nt (zset (zset (zset (zset t (1) (14 * k + 4) (rX7_balanceThen t k)) (1) (14 * k + 3) (t (1) (14 * k + 2))) (1) (14 * k + 7) ((t (1) 400) + 1)) (1) (14 * k + 8) ((t (1) (14 * k + 8)) + 1)) (congrArg (fun z9 => zset (zset (zset (zset t (1) (14 * k + 4) (rX7_balanceThen t k)) (1) (14 * k + 3) (t (1) (14 * k + 2))) (1) (14 * k + 7) ((t (1) 400) + 1)) 1 (14 * k + 8) (z9 + 1)) ((zset_nk _ _ _ (by omega)).trans ((zset_nk _ _ _ (by omega)).trans ((zset_nk _ _ _ (by omega)).trans rfl)))) ?_
  refine z_aload_n C 64 0 3 dX7_reads_64 rfl rfl ?_
  refine z_iload_n C 65 1 4 dX7_reads_65 rfl rfl ?_
  refine z_bipush C 66 (v := 9) dX7_reads_66 (by decide +kernel) ?_
  refine z_iload_n C 68 3 1 dX7_reads_68 rfl rfl ?_
  refine z_virtVe C 69 (As := [.int a1, .int 9, .int (rX7_unitsOf t k)]) (st := []) (id := 0) (kX7_adds l D cy K n ad hJ hO (zset (zset (zset (zset t (1) (14 * k + 4) (rX7_balanceThen t k)) (1) (14 * k + 3) (t (1) (14 * k + 2))) (1) (14 * k + 7) ((t (1) 400) + 1)) (1) (14 * k + 8) ((t (1) (14 * k + 8)) + 1)) a1 9 (rX7_unitsOf t k) k 9 hk (by decide) ha rfl) dX7_reads_69 rfl gX7_reads_X7_adds hyX7_adds rfl (by decide) (by decide) hO.h0 rfl hO.e0 rfl rfl rfl (Nat.le_of_ble_eq_true rfl) ?_
  refine z_nt (zset (zset (zset (zset (zset t (1) (14 * k + 4) (rX7_balanceThen t k)) (1) (14 * k + 3) (t (1) (14 * k + 2))) (1) (14 * k + 7) ((t (1) 400) + 1)) (1) (14 * k + 8) ((t (1) (14 * k + 8)) + 1)) (1) (14 * k + 9) ((t (1) (14 * k + 9)) + (rX7_unitsOf t k))) (congrArg (fun z9 => zset (zset (zset (zset (zset t (1) (14 * k + 4) (rX7_balanceThen t k)) (1) (14 * k + 3) (t (1) (14 * k + 2))) (1) (14 * k + 7) ((t (1) 400) + 1)) (1) (14 * k + 8) ((t (1) (14 * k + 8)) + 1)) 1 (14 * k + 9) (z9 + (rX7_unitsOf t k))) ((zset_nk _ _ _ (by omega)).trans ((zset_nk _ _ _ (by omega)).trans ((zset_nk _ _ _ (by omega)).trans ((zset_nk _ _ _ (by omega)).trans rfl))))) ?_
  refine z_aload_n C 72 0 3 dX7_reads_72 rfl rfl ?_
  refine z_iload_n C 73 1 4 dX7_reads_73 rfl rfl ?_
  refine z_bipush C 74 (v := 10) dX7_reads_74 (by decide +kernel) ?_
  refine z_iload C 76 4 0 dX7_reads_76 rfl ?_
  refine z_if_le C 78 85 dX7_reads_78 (by decide) (fun c78_10 => ?_) (fun c78_10 => ?_)
  · refine z_iconst C 85 (v := 0) dX7_reads_85 (by decide +kernel) ?_
    refine z_virtVe C 86 (As := [.int a1, .int 10, .int 0]) (st := []) (id := 0) (kX7_adds l D cy K n ad hJ hO (zset (zset (zset (zset (zset t (1) (14 * k + 4) (rX7_balanceThen t k)) (1) (14 * k + 3) (t (1) (14 * k + 2))) (1) (14 * k + 7) ((t (1) 400) + 1)) (1) (14 * k + 8) ((t (1) (14 * k + 8)) + 1)) (1) (14 * k + 9) ((t (1) (14 * k + 9)) + (rX7_unitsOf t k))) a1 10 0 k 10 hk (by decide) ha rfl) dX7_reads_86 rfl gX7_reads_X7_adds hyX7_adds rfl (by decide) (by decide) hO.h0 rfl hO.e0 rfl rfl rfl (Nat.le_of_ble_eq_true rfl) ?_
    refine z_nt (zset (zset (zset (zset (zset (zset t (1) (14 * k + 4) (rX7_balanceThen t k)) (1) (14 * k + 3) (t (1) (14 * k + 2))) (1) (14 * k + 7) ((t (1) 400) + 1)) (1) (14 * k + 8) ((t (1) (14 * k + 8)) + 1)) (1) (14 * k + 9) ((t (1) (14 * k + 9)) + (rX7_unitsOf t k))) (1) (14 * k + 10) ((t (1) (14 * k + 10)) + 0)) (congrArg (fun z9 => zset (zset (zset (zset (zset (zset t (1) (14 * k + 4) (rX7_balanceThen t k)) (1) (14 * k + 3) (t (1) (14 * k + 2))) (1) (14 * k + 7) ((t (1) 400) + 1)) (1) (14 * k + 8) ((t (1) (14 * k + 8)) + 1)) (1) (14 * k + 9) ((t (1) (14 * k + 9)) + (rX7_unitsOf t k))) 1 (14 * k + 10) (z9 + 0)) ((zset_nk _ _ _ (by omega)).trans ((zset_nk _ _ _ (by omega)).trans ((zset_nk _ _ _ (by omega)).trans ((zset_nk _ _ _ (by omega)).trans ((zset_nk _ _ _ (by omega)).trans rfl)))))) ?_
    refine z_aload_n C 89 0 3 dX7_reads_89 rfl rfl ?_
    refine z_iload_n C 90 1 4 dX7_reads_90 rfl rfl ?_
    refine z_bipush C 91 (v := 11) dX7_reads_91 (by decide +kernel) ?_
    refine z_iload C 93 4 0 dX7_reads_93 rfl ?_
    refine z_if_ge C 95 102 dX7_reads_95 (by decide) (fun c95_12 => ?_) (fun c95_12 => ?_)
    · refine z_iconst C 102 (v := 0) dX7_reads_102 (by decide +kernel) ?_
      refine z_virtVe C 103 (As := [.int a1, .int 11, .int 0]) (st := []) (id := 0) (kX7_adds l D cy K n ad hJ hO (zset (zset (zset (zset (zset (zset t (1) (14 * k + 4) (rX7_balanceThen t k)) (1) (14 * k + 3) (t (1) (14 * k + 2))) (1) (14 * k + 7) ((t (1) 400) + 1)) (1) (14 * k + 8) ((t (1) (14 * k + 8)) + 1)) (1) (14 * k + 9) ((t (1) (14 * k + 9)) + (rX7_unitsOf t k))) (1) (14 * k + 10) ((t (1) (14 * k + 10)) + 0)) a1 11 0 k 11 hk (by decide) ha rfl) dX7_reads_103 rfl gX7_reads_X7_adds hyX7_adds rfl (by decide) (by decide) hO.h0 rfl hO.e0 rfl rfl rfl (Nat.le_of_ble_eq_true rfl) ?_
      refine z_nt (zset (zset (zset (zset (zset (zset (zset t (1) (14 * k + 4) (rX7_balanceThen t k)) (1) (14 * k + 3) (t (1) (14 * k + 2))) (1) (14 * k + 7) ((t (1) 400) + 1)) (1) (14 * k + 8) ((t (1) (14 * k + 8)) + 1)) (1) (14 * k + 9) ((t (1) (14 * k + 9)) + (rX7_unitsOf t k))) (1) (14 * k + 10) ((t (1) (14 * k + 10)) + 0)) (1) (14 * k + 11) ((t (1) (14 * k + 11)) + 0)) (congrArg (fun z9 => zset (zset (zset (zset (zset (zset (zset t (1) (14 * k + 4) (rX7_balanceThen t k)) (1) (14 * k + 3) (t (1) (14 * k + 2))) (1) (14 * k + 7) ((t (1) 400) + 1)) (1) (14 * k + 8) ((t (1) (14 * k + 8)) + 1)) (1) (14 * k + 9) ((t (1) (14 * k + 9)) + (rX7_unitsOf t k))) (1) (14 * k + 10) ((t (1) (14 * k + 10)) + 0)) 1 (14 * k + 11) (z9 + 0)) ((zset_nk _ _ _ (by omega)).trans ((zset_nk _ _ _ (by omega)).trans ((zset_nk _ _ _ (by omega)).trans ((zset_nk _ _ _ (by omega)).trans ((zset_nk _ _ _ (by omega)).trans ((zset_nk _ _ _ (by omega)).trans rfl))))))) ?_
      refine z_aload_n C 106 0 3 dX7_reads_106 rfl rfl ?_
      refine z_getr C 107 (a9 := ad (1)) (0) 0 dX7_reads_107 hO.h0 hO.e0 mX7_reads_in7 rfl (by decide) mX7_reads_f7 (fun _ => rfl) ?_
      refine z_sipush C 110 (v := 402) dX7_reads_110 (by decide +kernel) ?_
      refine z_dup2 C 113 dX7_reads_113 rfl rfl ?_
      refine z_ialdN C 114 (1) 402 dX7_reads_114 hO.h1 hO.e1 rfl (by decide) (by decide) ?_
      refine z_nv (t (1) 402) ((zset_nk _ _ _ (by omega)).trans ((zset_nk _ _ _ (by omega)).trans ((zset_nk _ _ _ (by omega)).trans ((zset_nk _ _ _ (by omega)).trans ((zset_nk _ _ _ (by omega)).trans ((zset_nk _ _ _ (by omega)).trans ((zset_nk _ _ _ (by omega)).trans rfl))))))) ?_
      refine z_iconst C 115 (v := 1) dX7_reads_115 (by decide +kernel) ?_
      refine z_iadd C 116 dX7_reads_116 ?_
      refine z_iastN C 117 (1) 402 dX7_reads_117 hO.h1 hO.e1 rfl (by decide) (by decide) ?_
      refine z_aload_n C 118 0 3 dX7_reads_118 rfl rfl ?_
      refine z_getr C 119 (a9 := ad (1)) (0) 0 dX7_reads_119 hO.h0 hO.e0 mX7_reads_in7 rfl (by decide) mX7_reads_f7 (fun _ => rfl) ?_
      refine z_sipush C 122 (v := 403) dX7_reads_122 (by decide +kernel) ?_
      refine z_dup2 C 125 dX7_reads_125 rfl rfl ?_
      refine z_ialdN C 126 (1) 403 dX7_reads_126 hO.h1 hO.e1 rfl (by decide) (by decide) ?_
      refine z_nv (t (1) 403) ((zset_nk _ _ _ (by decide)).trans ((zset_nk _ _ _ (by omega)).trans ((zset_nk _ _ _ (by omega)).trans ((zset_nk _ _ _ (by omega)).trans ((zset_nk _ _ _ (by omega)).trans ((zset_nk _ _ _ (by omega)).trans ((zset_nk _ _ _ (by omega)).trans ((zset_nk _ _ _ (by omega)).trans rfl)))))))) ?_
      refine z_iload_n C 127 3 1 dX7_reads_127 rfl rfl ?_
      refine z_iadd C 128 dX7_reads_128 ?_
      refine z_iastN C 129 (1) 403 dX7_reads_129 hO.h1 hO.e1 rfl (by decide) (by decide) ?_
      refine z_aload_n C 130 0 3 dX7_reads_130 rfl rfl ?_
      refine z_getr C 131 (a9 := ad (1)) (0) 0 dX7_reads_131 hO.h0 hO.e0 mX7_reads_in7 rfl (by decide) mX7_reads_f7 (fun _ => rfl) ?_
      refine z_sipush C 134 (v := 404) dX7_reads_134 (by decide +kernel) ?_
      refine z_dup2 C 137 dX7_reads_137 rfl rfl ?_
      refine z_ialdN C 138 (1) 404 dX7_reads_138 hO.h1 hO.e1 rfl (by decide) (by decide) ?_
      refine z_nv (t (1) 404) ((zset_nk _ _ _ (by decide)).trans ((zset_nk _ _ _ (by decide)).trans ((zset_nk _ _ _ (by omega)).trans ((zset_nk _ _ _ (by omega)).trans ((zset_nk _ _ _ (by omega)).trans ((zset_nk _ _ _ (by omega)).trans ((zset_nk _ _ _ (by omega)).trans ((zset_nk _ _ _ (by omega)).trans ((zset_nk _ _ _ (by omega)).trans rfl))))))))) ?_
      refine z_iload_n C 139 3 1 dX7_reads_139 rfl rfl ?_
      refine z_aload_n C 140 0 3 dX7_reads_140 rfl rfl ?_
      refine z_getr C 141 (a9 := ad (1)) (0) 0 dX7_reads_141 hO.h0 hO.e0 mX7_reads_in7 rfl (by decide) mX7_reads_f7 (fun _ => rfl) ?_
      refine z_sipush C 144 (v := 411) dX7_reads_144 (by decide +kernel) ?_
      refine z_ialdN C 147 (1) 411 dX7_reads_147 hO.h1 hO.e1 rfl (by decide) (by decide) ?_
      refine z_nv (t (1) 411) ((zset_nk _ _ _ (by decide)).trans ((zset_nk _ _ _ (by decide)).trans ((zset_nk _ _ _ (by omega)).trans ((zset_nk _ _ _ (by omega)).trans ((zset_nk _ _ _ (by omega)).trans ((zset_nk _ _ _ (by omega)).trans ((zset_nk _ _ _ (by omega)).trans ((zset_nk _ _ _ (by omega)).trans ((zset_nk _ _ _ (by omega)).trans rfl))))))))) ?_
      refine z_imul C 148 dX7_reads_148 ?_
      refine z_iadd C 149 dX7_reads_149 ?_
      refine z_iastN C 150 (1) 404 dX7_reads_150 hO.h1 hO.e1 rfl (by decide) (by decide) ?_
      refine z_aload_n C 151 0 3 dX7_reads_151 rfl rfl ?_
      refine z_getr C 152 (a9 := ad (1)) (0) 0 dX7_reads_152 hO.h0 hO.e0 mX7_reads_in7 rfl (by decide) mX7_reads_f7 (fun _ => rfl) ?_
      refine z_sipush C 155 (v := 405) dX7_reads_155 (by decide +kernel) ?_
      refine z_dup2 C 158 dX7_reads_158 rfl rfl ?_
      refine z_ialdN C 159 (1) 405 dX7_reads_159 hO.h1 hO.e1 rfl (by decide) (by decide) ?_
      refine z_nv (t (1) 405) ((zset_nk _ _ _ (by decide)).trans ((zset_nk _ _ _ (by decide)).trans ((zset_nk _ _ _ (by decide)).trans ((zset_nk _ _ _ (by omega)).trans ((zset_nk _ _ _ (by omega)).trans ((zset_nk _ _ _ (by omega)).trans ((zset_nk _ _ _ (by omega)).trans ((zset_nk _ _ _ (by omega)).trans ((zset_nk _ _ _ (by omega)).trans ((zset_nk _ _ _ (by omega)).trans rfl)))))))))) ?_
      refine z_iload_n C 160 2 2 dX7_reads_160 rfl rfl ?_
      refine z_iadd C 161 dX7_reads_161 ?_
      refine z_iastN C 162 (1) 405 dX7_reads_162 hO.h1 hO.e1 rfl (by decide) (by decide) ?_
      refine z_aload_n C 163 0 3 dX7_reads_163 rfl rfl ?_
      refine z_iload_n C 164 1 4 dX7_reads_164 rfl rfl ?_
      refine z_iload_n C 165 2 2 dX7_reads_165 rfl rfl ?_
      refine z_iload_n C 166 3 1 dX7_reads_166 rfl rfl ?_
      refine z_iload C 167 4 0 dX7_reads_167 rfl ?_
      refine z_virtVe C 169 (As := [.int a1, .int (rX7_used t k), .int (rX7_unitsOf t k), .int (rX7_balanceThen t k)]) (st := []) (id := 0) (kX7_enters l D cy K n ad hJ hO (zset (zset (zset (zset (zset (zset (zset (zset (zset (zset (zset t (1) (14 * k + 4) (rX7_balanceThen t k)) (1) (14 * k + 3) (t (1) (14 * k + 2))) (1) (14 * k + 7) ((t (1) 400) + 1)) (1) (14 * k + 8) ((t (1) (14 * k + 8)) + 1)) (1) (14 * k + 9) ((t (1) (14 * k + 9)) + (rX7_unitsOf t k))) (1) (14 * k + 10) ((t (1) (14 * k + 10)) + 0)) (1) (14 * k + 11) ((t (1) (14 * k + 11)) + 0)) (1) 402 ((t (1) 402) + 1)) (1) 403 ((t (1) 403) + (rX7_unitsOf t k))) (1) 404 ((t (1) 404) + ((rX7_unitsOf t k) * (t (1) 411)))) (1) 405 ((t (1) 405) + (rX7_used t k))) a1 (rX7_used t k) (rX7_unitsOf t k) (rX7_balanceThen t k) ) dX7_reads_169 rfl gX7_reads_X7_enters hyX7_enters rfl (by decide) (by decide) hO.h0 rfl hO.e0 rfl rfl rfl (Nat.le_of_ble_eq_true rfl) ?_
      refine z_iload_n C 172 3 1 dX7_reads_172 rfl rfl ?_
      exact z_iret C 173 hA hQ rfl dX7_reads_173 ⟨((if_pos c78_10).trans ((if_pos c95_12).trans rfl)).symm, ((if_pos c78_10).trans ((if_pos c95_12).trans rfl)).symm⟩
    · refine z_iconst C 98 (v := 1) dX7_reads_98 (by decide +kernel) ?_
      refine z_goto C 99 103 dX7_reads_99 (by decide) ?_
      refine z_virtVe C 103 (As := [.int a1, .int 11, .int 1]) (st := []) (id := 0) (kX7_adds l D cy K n ad hJ hO (zset (zset (zset (zset (zset (zset t (1) (14 * k + 4) (rX7_balanceThen t k)) (1) (14 * k + 3) (t (1) (14 * k + 2))) (1) (14 * k + 7) ((t (1) 400) + 1)) (1) (14 * k + 8) ((t (1) (14 * k + 8)) + 1)) (1) (14 * k + 9) ((t (1) (14 * k + 9)) + (rX7_unitsOf t k))) (1) (14 * k + 10) ((t (1) (14 * k + 10)) + 0)) a1 11 1 k 11 hk (by decide) ha rfl) dX7_reads_103 rfl gX7_reads_X7_adds hyX7_adds rfl (by decide) (by decide) hO.h0 rfl hO.e0 rfl rfl rfl (Nat.le_of_ble_eq_true rfl) ?_
      refine z_nt (zset (zset (zset (zset (zset (zset (zset t (1) (14 * k + 4) (rX7_balanceThen t k)) (1) (14 * k + 3) (t (1) (14 * k + 2))) (1) (14 * k + 7) ((t (1) 400) + 1)) (1) (14 * k + 8) ((t (1) (14 * k + 8)) + 1)) (1) (14 * k + 9) ((t (1) (14 * k + 9)) + (rX7_unitsOf t k))) (1) (14 * k + 10) ((t (1) (14 * k + 10)) + 0)) (1) (14 * k + 11) ((t (1) (14 * k + 11)) + 1)) (congrArg (fun z9 => zset (zset (zset (zset (zset (zset (zset t (1) (14 * k + 4) (rX7_balanceThen t k)) (1) (14 * k + 3) (t (1) (14 * k + 2))) (1) (14 * k + 7) ((t (1) 400) + 1)) (1) (14 * k + 8) ((t (1) (14 * k + 8)) + 1)) (1) (14 * k + 9) ((t (1) (14 * k + 9)) + (rX7_unitsOf t k))) (1) (14 * k + 10) ((t (1) (14 * k + 10)) + 0)) 1 (14 * k + 11) (z9 + 1)) ((zset_nk _ _ _ (by omega)).trans ((zset_nk _ _ _ (by omega)).trans ((zset_nk _ _ _ (by omega)).trans ((zset_nk _ _ _ (by omega)).trans ((zset_nk _ _ _ (by omega)).trans ((zset_nk _ _ _ (by omega)).trans rfl))))))) ?_
      refine z_aload_n C 106 0 3 dX7_reads_106 rfl rfl ?_
      refine z_getr C 107 (a9 := ad (1)) (0) 0 dX7_reads_107 hO.h0 hO.e0 mX7_reads_in7 rfl (by decide) mX7_reads_f7 (fun _ => rfl) ?_
      refine z_sipush C 110 (v := 402) dX7_reads_110 (by decide +kernel) ?_
      refine z_dup2 C 113 dX7_reads_113 rfl rfl ?_
      refine z_ialdN C 114 (1) 402 dX7_reads_114 hO.h1 hO.e1 rfl (by decide) (by decide) ?_
      refine z_nv (t (1) 402) ((zset_nk _ _ _ (by omega)).trans ((zset_nk _ _ _ (by omega)).trans ((zset_nk _ _ _ (by omega)).trans ((zset_nk _ _ _ (by omega)).trans ((zset_nk _ _ _ (by omega)).trans ((zset_nk _ _ _ (by omega)).trans ((zset_nk _ _ _ (by omega)).trans rfl))))))) ?_
      refine z_iconst C 115 (v := 1) dX7_reads_115 (by decide +kernel) ?_
      refine z_iadd C 116 dX7_reads_116 ?_
      refine z_iastN C 117 (1) 402 dX7_reads_117 hO.h1 hO.e1 rfl (by decide) (by decide) ?_
      refine z_aload_n C 118 0 3 dX7_reads_118 rfl rfl ?_
      refine z_getr C 119 (a9 := ad (1)) (0) 0 dX7_reads_119 hO.h0 hO.e0 mX7_reads_in7 rfl (by decide) mX7_reads_f7 (fun _ => rfl) ?_
      refine z_sipush C 122 (v := 403) dX7_reads_122 (by decide +kernel) ?_
      refine z_dup2 C 125 dX7_reads_125 rfl rfl ?_
      refine z_ialdN C 126 (1) 403 dX7_reads_126 hO.h1 hO.e1 rfl (by decide) (by decide) ?_
      refine z_nv (t (1) 403) ((zset_nk _ _ _ (by decide)).trans ((zset_nk _ _ _ (by omega)).trans ((zset_nk _ _ _ (by omega)).trans ((zset_nk _ _ _ (by omega)).trans ((zset_nk _ _ _ (by omega)).trans ((zset_nk _ _ _ (by omega)).trans ((zset_nk _ _ _ (by omega)).trans ((zset_nk _ _ _ (by omega)).trans rfl)))))))) ?_
      refine z_iload_n C 127 3 1 dX7_reads_127 rfl rfl ?_
      refine z_iadd C 128 dX7_reads_128 ?_
      refine z_iastN C 129 (1) 403 dX7_reads_129 hO.h1 hO.e1 rfl (by decide) (by decide) ?_
      refine z_aload_n C 130 0 3 dX7_reads_130 rfl rfl ?_
      refine z_getr C 131 (a9 := ad (1)) (0) 0 dX7_reads_131 hO.h0 hO.e0 mX7_reads_in7 rfl (by decide) mX7_reads_f7 (fun _ => rfl) ?_
      refine z_sipush C 134 (v := 404) dX7_reads_134 (by decide +kernel) ?_
      refine z_dup2 C 137 dX7_reads_137 rfl rfl ?_
      refine z_ialdN C 138 (1) 404 dX7_reads_138 hO.h1 hO.e1 rfl (by decide) (by decide) ?_
      refine z_nv (t (1) 404) ((zset_nk _ _ _ (by decide)).trans ((zset_nk _ _ _ (by decide)).trans ((zset_nk _ _ _ (by omega)).trans ((zset_nk _ _ _ (by omega)).trans ((zset_nk _ _ _ (by omega)).trans ((zset_nk _ _ _ (by omega)).trans ((zset_nk _ _ _ (by omega)).trans ((zset_nk _ _ _ (by omega)).trans ((zset_nk _ _ _ (by omega)).trans rfl))))))))) ?_
      refine z_iload_n C 139 3 1 dX7_reads_139 rfl rfl ?_
      refine z_aload_n C 140 0 3 dX7_reads_140 rfl rfl ?_
      refine z_getr C 141 (a9 := ad (1)) (0) 0 dX7_reads_141 hO.h0 hO.e0 mX7_reads_in7 rfl (by decide) mX7_reads_f7 (fun _ => rfl) ?_
      refine z_sipush C 144 (v := 411) dX7_reads_144 (by decide +kernel) ?_
      refine z_ialdN C 147 (1) 411 dX7_reads_147 hO.h1 hO.e1 rfl (by decide) (by decide) ?_
      refine z_nv (t (1) 411) ((zset_nk _ _ _ (by decide)).trans ((zset_nk _ _ _ (by decide)).trans ((zset_nk _ _ _ (by omega)).trans ((zset_nk _ _ _ (by omega)).trans ((zset_nk _ _ _ (by omega)).trans ((zset_nk _ _ _ (by omega)).trans ((zset_nk _ _ _ (by omega)).trans ((zset_nk _ _ _ (by omega)).trans ((zset_nk _ _ _ (by omega)).trans rfl))))))))) ?_
      refine z_imul C 148 dX7_reads_148 ?_
      refine z_iadd C 149 dX7_reads_149 ?_
      refine z_iastN C 150 (1) 404 dX7_reads_150 hO.h1 hO.e1 rfl (by decide) (by decide) ?_
      refine z_aload_n C 151 0 3 dX7_reads_151 rfl rfl ?_
      refine z_getr C 152 (a9 := ad (1)) (0) 0 dX7_reads_152 hO.h0 hO.e0 mX7_reads_in7 rfl (by decide) mX7_reads_f7 (fun _ => rfl) ?_
      refine z_sipush C 155 (v := 405) dX7_reads_155 (by decide +kernel) ?_
      refine z_dup2 C 158 dX7_reads_158 rfl rfl ?_
      refine z_ialdN C 159 (1) 405 dX7_reads_159 hO.h1 hO.e1 rfl (by decide) (by decide) ?_
      refine z_nv (t (1) 405) ((zset_nk _ _ _ (by decide)).trans ((zset_nk _ _ _ (by decide)).trans ((zset_nk _ _ _ (by decide)).trans ((zset_nk _ _ _ (by omega)).trans ((zset_nk _ _ _ (by omega)).trans ((zset_nk _ _ _ (by omega)).trans ((zset_nk _ _ _ (by omega)).trans ((zset_nk _ _ _ (by omega)).trans ((zset_nk _ _ _ (by omega)).trans ((zset_nk _ _ _ (by omega)).trans rfl)))))))))) ?_
      refine z_iload_n C 160 2 2 dX7_reads_160 rfl rfl ?_
      refine z_iadd C 161 dX7_reads_161 ?_
      refine z_iastN C 162 (1) 405 dX7_reads_162 hO.h1 hO.e1 rfl (by decide) (by decide) ?_
      refine z_aload_n C 163 0 3 dX7_reads_163 rfl rfl ?_
      refine z_iload_n C 164 1 4 dX7_reads_164 rfl rfl ?_
      refine z_iload_n C 165 2 2 dX7_reads_165 rfl rfl ?_
      refine z_iload_n C 166 3 1 dX7_reads_166 rfl rfl ?_
      refine z_iload C 167 4 0 dX7_reads_167 rfl ?_
      refine z_virtVe C 169 (As := [.int a1, .int (rX7_used t k), .int (rX7_unitsOf t k), .int (rX7_balanceThen t k)]) (st := []) (id := 0) (kX7_enters l D cy K n ad hJ hO (zset (zset (zset (zset (zset (zset (zset (zset (zset (zset (zset t (1) (14 * k + 4) (rX7_balanceThen t k)) (1) (14 * k + 3) (t (1) (14 * k + 2))) (1) (14 * k + 7) ((t (1) 400) + 1)) (1) (14 * k + 8) ((t (1) (14 * k + 8)) + 1)) (1) (14 * k + 9) ((t (1) (14 * k + 9)) + (rX7_unitsOf t k))) (1) (14 * k + 10) ((t (1) (14 * k + 10)) + 0)) (1) (14 * k + 11) ((t (1) (14 * k + 11)) + 1)) (1) 402 ((t (1) 402) + 1)) (1) 403 ((t (1) 403) + (rX7_unitsOf t k))) (1) 404 ((t (1) 404) + ((rX7_unitsOf t k) * (t (1) 411)))) (1) 405 ((t (1) 405) + (rX7_used t k))) a1 (rX7_used t k) (rX7_unitsOf t k) (rX7_balanceThen t k) ) dX7_reads_169 rfl gX7_reads_X7_enters hyX7_enters rfl (by decide) (by decide) hO.h0 rfl hO.e0 rfl rfl rfl (Nat.le_of_ble_eq_true rfl) ?_
      refine z_iload_n C 172 3 1 dX7_reads_172 rfl rfl ?_
      exact z_iret C 173 hA hQ rfl dX7_reads_173 ⟨((if_pos c78_10).trans ((if_neg c95_12).trans rfl)).symm, ((if_pos c78_10).trans ((if_neg c95_12).trans rfl)).symm⟩
  · refine z_iconst C 81 (v := 1) dX7_reads_81 (by decide +kernel) ?_
    refine z_goto C 82 86 dX7_reads_82 (by decide) ?_
    refine z_virtVe C 86 (As := [.int a1, .int 10, .int 1]) (st := []) (id := 0) (kX7_adds l D cy K n ad hJ hO (zset (zset (zset (zset (zset t (1) (14 * k + 4) (rX7_balanceThen t k)) (1) (14 * k + 3) (t (1) (14 * k + 2))) (1) (14 * k + 7) ((t (1) 400) + 1)) (1) (14 * k + 8) ((t (1) (14 * k + 8)) + 1)) (1) (14 * k + 9) ((t (1) (14 * k + 9)) + (rX7_unitsOf t k))) a1 10 1 k 10 hk (by decide) ha rfl) dX7_reads_86 rfl gX7_reads_X7_adds hyX7_adds rfl (by decide) (by decide) hO.h0 rfl hO.e0 rfl rfl rfl (Nat.le_of_ble_eq_true rfl) ?_
    refine z_nt (zset (zset (zset (zset (zset (zset t (1) (14 * k + 4) (rX7_balanceThen t k)) (1) (14 * k + 3) (t (1) (14 * k + 2))) (1) (14 * k + 7) ((t (1) 400) + 1)) (1) (14 * k + 8) ((t (1) (14 * k + 8)) + 1)) (1) (14 * k + 9) ((t (1) (14 * k + 9)) + (rX7_unitsOf t k))) (1) (14 * k + 10) ((t (1) (14 * k + 10)) + 1)) (congrArg (fun z9 => zset (zset (zset (zset (zset (zset t (1) (14 * k + 4) (rX7_balanceThen t k)) (1) (14 * k + 3) (t (1) (14 * k + 2))) (1) (14 * k + 7) ((t (1) 400) + 1)) (1) (14 * k + 8) ((t (1) (14 * k + 8)) + 1)) (1) (14 * k + 9) ((t (1) (14 * k + 9)) + (rX7_unitsOf t k))) 1 (14 * k + 10) (z9 + 1)) ((zset_nk _ _ _ (by omega)).trans ((zset_nk _ _ _ (by omega)).trans ((zset_nk _ _ _ (by omega)).trans ((zset_nk _ _ _ (by omega)).trans ((zset_nk _ _ _ (by omega)).trans rfl)))))) ?_
    refine z_aload_n C 89 0 3 dX7_reads_89 rfl rfl ?_
    refine z_iload_n C 90 1 4 dX7_reads_90 rfl rfl ?_
    refine z_bipush C 91 (v := 11) dX7_reads_91 (by decide +kernel) ?_
    refine z_iload C 93 4 0 dX7_reads_93 rfl ?_
    refine z_if_ge C 95 102 dX7_reads_95 (by decide) (fun c95_18 => ?_) (fun c95_18 => ?_)
    · refine z_iconst C 102 (v := 0) dX7_reads_102 (by decide +kernel) ?_
      refine z_virtVe C 103 (As := [.int a1, .int 11, .int 0]) (st := []) (id := 0) (kX7_adds l D cy K n ad hJ hO (zset (zset (zset (zset (zset (zset t (1) (14 * k + 4) (rX7_balanceThen t k)) (1) (14 * k + 3) (t (1) (14 * k + 2))) (1) (14 * k + 7) ((t (1) 400) + 1)) (1) (14 * k + 8) ((t (1) (14 * k + 8)) + 1)) (1) (14 * k + 9) ((t (1) (14 * k + 9)) + (rX7_unitsOf t k))) (1) (14 * k + 10) ((t (1) (14 * k + 10)) + 1)) a1 11 0 k 11 hk (by decide) ha rfl) dX7_reads_103 rfl gX7_reads_X7_adds hyX7_adds rfl (by decide) (by decide) hO.h0 rfl hO.e0 rfl rfl rfl (Nat.le_of_ble_eq_true rfl) ?_
      refine z_nt (zset (zset (zset (zset (zset (zset (zset t (1) (14 * k + 4) (rX7_balanceThen t k)) (1) (14 * k + 3) (t (1) (14 * k + 2))) (1) (14 * k + 7) ((t (1) 400) + 1)) (1) (14 * k + 8) ((t (1) (14 * k + 8)) + 1)) (1) (14 * k + 9) ((t (1) (14 * k + 9)) + (rX7_unitsOf t k))) (1) (14 * k + 10) ((t (1) (14 * k + 10)) + 1)) (1) (14 * k + 11) ((t (1) (14 * k + 11)) + 0)) (congrArg (fun z9 => zset (zset (zset (zset (zset (zset (zset t (1) (14 * k + 4) (rX7_balanceThen t k)) (1) (14 * k + 3) (t (1) (14 * k + 2))) (1) (14 * k + 7) ((t (1) 400) + 1)) (1) (14 * k + 8) ((t (1) (14 * k + 8)) + 1)) (1) (14 * k + 9) ((t (1) (14 * k + 9)) + (rX7_unitsOf t k))) (1) (14 * k + 10) ((t (1) (14 * k + 10)) + 1)) 1 (14 * k + 11) (z9 + 0)) ((zset_nk _ _ _ (by omega)).trans ((zset_nk _ _ _ (by omega)).trans ((zset_nk _ _ _ (by omega)).trans ((zset_nk _ _ _ (by omega)).trans ((zset_nk _ _ _ (by omega)).trans ((zset_nk _ _ _ (by omega)).trans rfl))))))) ?_
      refine z_aload_n C 106 0 3 dX7_reads_106 rfl rfl ?_
      refine z_getr C 107 (a9 := ad (1)) (0) 0 dX7_reads_107 hO.h0 hO.e0 mX7_reads_in7 rfl (by decide) mX7_reads_f7 (fun _ => rfl) ?_
      refine z_sipush C 110 (v := 402) dX7_reads_110 (by decide +kernel) ?_
      refine z_dup2 C 113 dX7_reads_113 rfl rfl ?_
      refine z_ialdN C 114 (1) 402 dX7_reads_114 hO.h1 hO.e1 rfl (by decide) (by decide) ?_
      refine z_nv (t (1) 402) ((zset_nk _ _ _ (by omega)).trans ((zset_nk _ _ _ (by omega)).trans ((zset_nk _ _ _ (by omega)).trans ((zset_nk _ _ _ (by omega)).trans ((zset_nk _ _ _ (by omega)).trans ((zset_nk _ _ _ (by omega)).trans ((zset_nk _ _ _ (by omega)).trans rfl))))))) ?_
      refine z_iconst C 115 (v := 1) dX7_reads_115 (by decide +kernel) ?_
      refine z_iadd C 116 dX7_reads_116 ?_
      refine z_iastN C 117 (1) 402 dX7_reads_117 hO.h1 hO.e1 rfl (by decide) (by decide) ?_
      refine z_aload_n C 118 0 3 dX7_reads_118 rfl rfl ?_
      refine z_getr C 119 (a9 := ad (1)) (0) 0 dX7_reads_119 hO.h0 hO.e0 mX7_reads_in7 rfl (by decide) mX7_reads_f7 (fun _ => rfl) ?_
      refine z_sipush C 122 (v := 403) dX7_reads_122 (by decide +kernel) ?_
      refine z_dup2 C 125 dX7_reads_125 rfl rfl ?_
      refine z_ialdN C 126 (1) 403 dX7_reads_126 hO.h1 hO.e1 rfl (by decide) (by decide) ?_
      refine z_nv (t (1) 403) ((zset_nk _ _ _ (by decide)).trans ((zset_nk _ _ _ (by omega)).trans ((zset_nk _ _ _ (by omega)).trans ((zset_nk _ _ _ (by omega)).trans ((zset_nk _ _ _ (by omega)).trans ((zset_nk _ _ _ (by omega)).trans ((zset_nk _ _ _ (by omega)).trans ((zset_nk _ _ _ (by omega)).trans rfl)))))))) ?_
      refine z_iload_n C 127 3 1 dX7_reads_127 rfl rfl ?_
      refine z_iadd C 128 dX7_reads_128 ?_
      refine z_iastN C 129 (1) 403 dX7_reads_129 hO.h1 hO.e1 rfl (by decide) (by decide) ?_
      refine z_aload_n C 130 0 3 dX7_reads_130 rfl rfl ?_
      refine z_getr C 131 (a9 := ad (1)) (0) 0 dX7_reads_131 hO.h0 hO.e0 mX7_reads_in7 rfl (by decide) mX7_reads_f7 (fun _ => rfl) ?_
      refine z_sipush C 134 (v := 404) dX7_reads_134 (by decide +kernel) ?_
      refine z_dup2 C 137 dX7_reads_137 rfl rfl ?_
      refine z_ialdN C 138 (1) 404 dX7_reads_138 hO.h1 hO.e1 rfl (by decide) (by decide) ?_
      refine z_nv (t (1) 404) ((zset_nk _ _ _ (by decide)).trans ((zset_nk _ _ _ (by decide)).trans ((zset_nk _ _ _ (by omega)).trans ((zset_nk _ _ _ (by omega)).trans ((zset_nk _ _ _ (by omega)).trans ((zset_nk _ _ _ (by omega)).trans ((zset_nk _ _ _ (by omega)).trans ((zset_nk _ _ _ (by omega)).trans ((zset_nk _ _ _ (by omega)).trans rfl))))))))) ?_
      refine z_iload_n C 139 3 1 dX7_reads_139 rfl rfl ?_
      refine z_aload_n C 140 0 3 dX7_reads_140 rfl rfl ?_
      refine z_getr C 141 (a9 := ad (1)) (0) 0 dX7_reads_141 hO.h0 hO.e0 mX7_reads_in7 rfl (by decide) mX7_reads_f7 (fun _ => rfl) ?_
      refine z_sipush C 144 (v := 411) dX7_reads_144 (by decide +kernel) ?_
      refine z_ialdN C 147 (1) 411 dX7_reads_147 hO.h1 hO.e1 rfl (by decide) (by decide) ?_
      refine z_nv (t (1) 411) ((zset_nk _ _ _ (by decide)).trans ((zset_nk _ _ _ (by decide)).trans ((zset_nk _ _ _ (by omega)).trans ((zset_nk _ _ _ (by omega)).trans ((zset_nk _ _ _ (by omega)).trans ((zset_nk _ _ _ (by omega)).trans ((zset_nk _ _ _ (by omega)).trans ((zset_nk _ _ _ (by omega)).trans ((zset_nk _ _ _ (by omega)).trans rfl))))))))) ?_
      refine z_imul C 148 dX7_reads_148 ?_
      refine z_iadd C 149 dX7_reads_149 ?_
      refine z_iastN C 150 (1) 404 dX7_reads_150 hO.h1 hO.e1 rfl (by decide) (by decide) ?_
      refine z_aload_n C 151 0 3 dX7_reads_151 rfl rfl ?_
      refine z_getr C 152 (a9 := ad (1)) (0) 0 dX7_reads_152 hO.h0 hO.e0 mX7_reads_in7 rfl (by decide) mX7_reads_f7 (fun _ => rfl) ?_
      refine z_sipush C 155 (v := 405) dX7_reads_155 (by decide +kernel) ?_
      refine z_dup2 C 158 dX7_reads_158 rfl rfl ?_
      refine z_ialdN C 159 (1) 405 dX7_reads_159 hO.h1 hO.e1 rfl (by decide) (by decide) ?_
      refine z_nv (t (1) 405) ((zset_nk _ _ _ (by decide)).trans ((zset_nk _ _ _ (by decide)).trans ((zset_nk _ _ _ (by decide)).trans ((zset_nk _ _ _ (by omega)).trans ((zset_nk _ _ _ (by omega)).trans ((zset_nk _ _ _ (by omega)).trans ((zset_nk _ _ _ (by omega)).trans ((zset_nk _ _ _ (by omega)).trans ((zset_nk _ _ _ (by omega)).trans ((zset_nk _ _ _ (by omega)).trans rfl)))))))))) ?_
      refine z_iload_n C 160 2 2 dX7_reads_160 rfl rfl ?_
      refine z_iadd C 161 dX7_reads_161 ?_
      refine z_iastN C 162 (1) 405 dX7_reads_162 hO.h1 hO.e1 rfl (by decide) (by decide) ?_
      refine z_aload_n C 163 0 3 dX7_reads_163 rfl rfl ?_
      refine z_iload_n C 164 1 4 dX7_reads_164 rfl rfl ?_
      refine z_iload_n C 165 2 2 dX7_reads_165 rfl rfl ?_
      refine z_iload_n C 166 3 1 dX7_reads_166 rfl rfl ?_
      refine z_iload C 167 4 0 dX7_reads_167 rfl ?_
      refine z_virtVe C 169 (As := [.int a1, .int (rX7_used t k), .int (rX7_unitsOf t k), .int (rX7_balanceThen t k)]) (st := []) (id := 0) (kX7_enters l D cy K n ad hJ hO (zset (zset (zset (zset (zset (zset (zset (zset (zset (zset (zset t (1) (14 * k + 4) (rX7_balanceThen t k)) (1) (14 * k + 3) (t (1) (14 * k + 2))) (1) (14 * k + 7) ((t (1) 400) + 1)) (1) (14 * k + 8) ((t (1) (14 * k + 8)) + 1)) (1) (14 * k + 9) ((t (1) (14 * k + 9)) + (rX7_unitsOf t k))) (1) (14 * k + 10) ((t (1) (14 * k + 10)) + 1)) (1) (14 * k + 11) ((t (1) (14 * k + 11)) + 0)) (1) 402 ((t (1) 402) + 1)) (1) 403 ((t (1) 403) + (rX7_unitsOf t k))) (1) 404 ((t (1) 404) + ((rX7_unitsOf t k) * (t (1) 411)))) (1) 405 ((t (1) 405) + (rX7_used t k))) a1 (rX7_used t k) (rX7_unitsOf t k) (rX7_balanceThen t k) ) dX7_reads_169 rfl gX7_reads_X7_enters hyX7_enters rfl (by decide) (by decide) hO.h0 rfl hO.e0 rfl rfl rfl (Nat.le_of_ble_eq_true rfl) ?_
      refine z_iload_n C 172 3 1 dX7_reads_172 rfl rfl ?_
      exact z_iret C 173 hA hQ rfl dX7_reads_173 ⟨((if_neg c78_10).trans ((if_pos c95_18).trans rfl)).symm, ((if_neg c78_10).trans ((if_pos c95_18).trans rfl)).symm⟩
    · refine z_iconst C 98 (v := 1) dX7_reads_98 (by decide +kernel) ?_
      refine z_goto C 99 103 dX7_reads_99 (by decide) ?_
      refine z_virtVe C 103 (As := [.int a1, .int 11, .int 1]) (st := []) (id := 0) (kX7_adds l D cy K n ad hJ hO (zset (zset (zset (zset (zset (zset t (1) (14 * k + 4) (rX7_balanceThen t k)) (1) (14 * k + 3) (t (1) (14 * k + 2))) (1) (14 * k + 7) ((t (1) 400) + 1)) (1) (14 * k + 8) ((t (1) (14 * k + 8)) + 1)) (1) (14 * k + 9) ((t (1) (14 * k + 9)) + (rX7_unitsOf t k))) (1) (14 * k + 10) ((t (1) (14 * k + 10)) + 1)) a1 11 1 k 11 hk (by decide) ha rfl) dX7_reads_103 rfl gX7_reads_X7_adds hyX7_adds rfl (by decide) (by decide) hO.h0 rfl hO.e0 rfl rfl rfl (Nat.le_of_ble_eq_true rfl) ?_
      refine z_nt (zset (zset (zset (zset (zset (zset (zset t (1) (14 * k + 4) (rX7_balanceThen t k)) (1) (14 * k + 3) (t (1) (14 * k + 2))) (1) (14 * k + 7) ((t (1) 400) + 1)) (1) (14 * k + 8) ((t (1) (14 * k + 8)) + 1)) (1) (14 * k + 9) ((t (1) (14 * k + 9)) + (rX7_unitsOf t k))) (1) (14 * k + 10) ((t (1) (14 * k + 10)) + 1)) (1) (14 * k + 11) ((t (1) (14 * k + 11)) + 1)) (congrArg (fun z9 => zset (zset (zset (zset (zset (zset (zset t (1) (14 * k + 4) (rX7_balanceThen t k)) (1) (14 * k + 3) (t (1) (14 * k + 2))) (1) (14 * k + 7) ((t (1) 400) + 1)) (1) (14 * k + 8) ((t (1) (14 * k + 8)) + 1)) (1) (14 * k + 9) ((t (1) (14 * k + 9)) + (rX7_unitsOf t k))) (1) (14 * k + 10) ((t (1) (14 * k + 10)) + 1)) 1 (14 * k + 11) (z9 + 1)) ((zset_nk _ _ _ (by omega)).trans ((zset_nk _ _ _ (by omega)).trans ((zset_nk _ _ _ (by omega)).trans ((zset_nk _ _ _ (by omega)).trans ((zset_nk _ _ _ (by omega)).trans ((zset_nk _ _ _ (by omega)).trans rfl))))))) ?_
      refine z_aload_n C 106 0 3 dX7_reads_106 rfl rfl ?_
      refine z_getr C 107 (a9 := ad (1)) (0) 0 dX7_reads_107 hO.h0 hO.e0 mX7_reads_in7 rfl (by decide) mX7_reads_f7 (fun _ => rfl) ?_
      refine z_sipush C 110 (v := 402) dX7_reads_110 (by decide +kernel) ?_
      refine z_dup2 C 113 dX7_reads_113 rfl rfl ?_
      refine z_ialdN C 114 (1) 402 dX7_reads_114 hO.h1 hO.e1 rfl (by decide) (by decide) ?_
      refine z_nv (t (1) 402) ((zset_nk _ _ _ (by omega)).trans ((zset_nk _ _ _ (by omega)).trans ((zset_nk _ _ _ (by omega)).trans ((zset_nk _ _ _ (by omega)).trans ((zset_nk _ _ _ (by omega)).trans ((zset_nk _ _ _ (by omega)).trans ((zset_nk _ _ _ (by omega)).trans rfl))))))) ?_
      refine z_iconst C 115 (v := 1) dX7_reads_115 (by decide +kernel) ?_
      refine z_iadd C 116 dX7_reads_116 ?_
      refine z_iastN C 117 (1) 402 dX7_reads_117 hO.h1 hO.e1 rfl (by decide) (by decide) ?_
      refine z_aload_n C 118 0 3 dX7_reads_118 rfl rfl ?_
      refine z_getr C 119 (a9 := ad (1)) (0) 0 dX7_reads_119 hO.h0 hO.e0 mX7_reads_in7 rfl (by decide) mX7_reads_f7 (fun _ => rfl) ?_
      refine z_sipush C 122 (v := 403) dX7_reads_122 (by decide +kernel) ?_
      refine z_dup2 C 125 dX7_reads_125 rfl rfl ?_
      refine z_ialdN C 126 (1) 403 dX7_reads_126 hO.h1 hO.e1 rfl (by decide) (by decide) ?_
      refine z_nv (t (1) 403) ((zset_nk _ _ _ (by decide)).trans ((zset_nk _ _ _ (by omega)).trans ((zset_nk _ _ _ (by omega)).trans ((zset_nk _ _ _ (by omega)).trans ((zset_nk _ _ _ (by omega)).trans ((zset_nk _ _ _ (by omega)).trans ((zset_nk _ _ _ (by omega)).trans ((zset_nk _ _ _ (by omega)).trans rfl)))))))) ?_
      refine z_iload_n C 127 3 1 dX7_reads_127 rfl rfl ?_
      refine z_iadd C 128 dX7_reads_128 ?_
      refine z_iastN C 129 (1) 403 dX7_reads_129 hO.h1 hO.e1 rfl (by decide) (by decide) ?_
      refine z_aload_n C 130 0 3 dX7_reads_130 rfl rfl ?_
      refine z_getr C 131 (a9 := ad (1)) (0) 0 dX7_reads_131 hO.h0 hO.e0 mX7_reads_in7 rfl (by decide) mX7_reads_f7 (fun _ => rfl) ?_
      refine z_sipush C 134 (v := 404) dX7_reads_134 (by decide +kernel) ?_
      refine z_dup2 C 137 dX7_reads_137 rfl rfl ?_
      refine z_ialdN C 138 (1) 404 dX7_reads_138 hO.h1 hO.e1 rfl (by decide) (by decide) ?_
      refine z_nv (t (1) 404) ((zset_nk _ _ _ (by decide)).trans ((zset_nk _ _ _ (by decide)).trans ((zset_nk _ _ _ (by omega)).trans ((zset_nk _ _ _ (by omega)).trans ((zset_nk _ _ _ (by omega)).trans ((zset_nk _ _ _ (by omega)).trans ((zset_nk _ _ _ (by omega)).trans ((zset_nk _ _ _ (by omega)).trans ((zset_nk _ _ _ (by omega)).trans rfl))))))))) ?_
      refine z_iload_n C 139 3 1 dX7_reads_139 rfl rfl ?_
      refine z_aload_n C 140 0 3 dX7_reads_140 rfl rfl ?_
      refine z_getr C 141 (a9 := ad (1)) (0) 0 dX7_reads_141 hO.h0 hO.e0 mX7_reads_in7 rfl (by decide) mX7_reads_f7 (fun _ => rfl) ?_
      refine z_sipush C 144 (v := 411) dX7_reads_144 (by decide +kernel) ?_
      refine z_ialdN C 147 (1) 411 dX7_reads_147 hO.h1 hO.e1 rfl (by decide) (by decide) ?_
      refine z_nv (t (1) 411) ((zset_nk _ _ _ (by decide)).trans ((zset_nk _ _ _ (by decide)).trans ((zset_nk _ _ _ (by omega)).trans ((zset_nk _ _ _ (by omega)).trans ((zset_nk _ _ _ (by omega)).trans ((zset_nk _ _ _ (by omega)).trans ((zset_nk _ _ _ (by omega)).trans ((zset_nk _ _ _ (by omega)).trans ((zset_nk _ _ _ (by omega)).trans rfl))))))))) ?_
      refine z_imul C 148 dX7_reads_148 ?_
      refine z_iadd C 149 dX7_reads_149 ?_
      refine z_iastN C 150 (1) 404 dX7_reads_150 hO.h1 hO.e1 rfl (by decide) (by decide) ?_
      refine z_aload_n C 151 0 3 dX7_reads_151 rfl rfl ?_
      refine z_getr C 152 (a9 := ad (1)) (0) 0 dX7_reads_152 hO.h0 hO.e0 mX7_reads_in7 rfl (by decide) mX7_reads_f7 (fun _ => rfl) ?_
      refine z_sipush C 155 (v := 405) dX7_reads_155 (by decide +kernel) ?_
      refine z_dup2 C 158 dX7_reads_158 rfl rfl ?_
      refine z_ialdN C 159 (1) 405 dX7_reads_159 hO.h1 hO.e1 rfl (by decide) (by decide) ?_
      refine z_nv (t (1) 405) ((zset_nk _ _ _ (by decide)).trans ((zset_nk _ _ _ (by decide)).trans ((zset_nk _ _ _ (by decide)).trans ((zset_nk _ _ _ (by omega)).trans ((zset_nk _ _ _ (by omega)).trans ((zset_nk _ _ _ (by omega)).trans ((zset_nk _ _ _ (by omega)).trans ((zset_nk _ _ _ (by omega)).trans ((zset_nk _ _ _ (by omega)).trans ((zset_nk _ _ _ (by omega)).trans rfl)))))))))) ?_
      refine z_iload_n C 160 2 2 dX7_reads_160 rfl rfl ?_
      refine z_iadd C 161 dX7_reads_161 ?_
      refine z_iastN C 162 (1) 405 dX7_reads_162 hO.h1 hO.e1 rfl (by decide) (by decide) ?_
      refine z_aload_n C 163 0 3 dX7_reads_163 rfl rfl ?_
      refine z_iload_n C 164 1 4 dX7_reads_164 rfl rfl ?_
      refine z_iload_n C 165 2 2 dX7_reads_165 rfl rfl ?_
      refine z_iload_n C 166 3 1 dX7_reads_166 rfl rfl ?_
      refine z_iload C 167 4 0 dX7_reads_167 rfl ?_
      refine z_virtVe C 169 (As := [.int a1, .int (rX7_used t k), .int (rX7_unitsOf t k), .int (rX7_balanceThen t k)]) (st := []) (id := 0) (kX7_enters l D cy K n ad hJ hO (zset (zset (zset (zset (zset (zset (zset (zset (zset (zset (zset t (1) (14 * k + 4) (rX7_balanceThen t k)) (1) (14 * k + 3) (t (1) (14 * k + 2))) (1) (14 * k + 7) ((t (1) 400) + 1)) (1) (14 * k + 8) ((t (1) (14 * k + 8)) + 1)) (1) (14 * k + 9) ((t (1) (14 * k + 9)) + (rX7_unitsOf t k))) (1) (14 * k + 10) ((t (1) (14 * k + 10)) + 1)) (1) (14 * k + 11) ((t (1) (14 * k + 11)) + 1)) (1) 402 ((t (1) 402) + 1)) (1) 403 ((t (1) 403) + (rX7_unitsOf t k))) (1) 404 ((t (1) 404) + ((rX7_unitsOf t k) * (t (1) 411)))) (1) 405 ((t (1) 405) + (rX7_used t k))) a1 (rX7_used t k) (rX7_unitsOf t k) (rX7_balanceThen t k) ) dX7_reads_169 rfl gX7_reads_X7_enters hyX7_enters rfl (by decide) (by decide) hO.h0 rfl hO.e0 rfl rfl rfl (Nat.le_of_ble_eq_true rfl) ?_
      refine z_iload_n C 172 3 1 dX7_reads_172 rfl rfl ?_
      exact z_iret C 173 hA hQ rfl dX7_reads_173 ⟨((if_neg c78_10).trans ((if_neg c95_18).trans rfl)).symm, ((if_neg c78_10).trans ((if_neg c95_18).trans rfl)).symm⟩
theorem sX7_reads_S {H N : Nat} {t : zM} {a1 : Int32} {k : Nat} (hk : k < 24) (h : mS H N t) : mS H N (sX7_reads t a1 k) := by
  unfold sX7_reads
  repeat' split
  all_goals
    refine sX7_enters_S ?_
    repeat (refine mS_set1 ?_ (by omega) (by omega) (by omega) (by omega))
    exact h
theorem sX7_reads_o (t : zM) (a1 : Int32) (k : Nat) {i : Nat} (hi : i ≠ 1) : sX7_reads t a1 k i = t i := by
  unfold sX7_reads
  repeat' split
  all_goals simp only [sX7_enters_o _ _ _ _ _ hi, zset_id _ _ _ hi]
def lX7_rankOf_23 (t : zM) (k : Nat) (a2 : Int32) (a3 : Int32) : Nat → Nat → Int32 → Int32
  | 0, _, _ => 0
  | j + 1, i, v => (if (t (1) 401) ≤ nI i then v else (if (t (1) (14 * i + 0)) = a2 then (if (zrem (((rX7_turn t k) - a3) + 199) 200) ≤ (zrem (((rX7_turn t i) - a3) + 199) 200) then (lX7_rankOf_23 t k a2 a3 j (i + 1) (v + 0)) else (lX7_rankOf_23 t k a2 a3 j (i + 1) (v + 1))) else (lX7_rankOf_23 t k a2 a3 j (i + 1) (v + 0))))
def rX7_rankOf (t : zM) (k : Nat) (a2 : Int32) (a3 : Int32) : Int32 := (lX7_rankOf_23 t k a2 a3 25 0 0)
theorem mX7_rankOf_f7 : Cond.fieldLink RX7 7 "WrongedMetersModel" "s" "[I" ∈ wsX7_rankOf := by decide +kernel
set_option maxRecDepth 20000 in
theorem mX7_rankOf_in7 : ∀ w ∈ u_ws RX7 TX7 16, w ∈ wsX7_rankOf := by decide +kernel
theorem hyX7_rankOf : yX7_rankOf.cls = RX7 ∧ yX7_rankOf.cls ≠ "java/lang/invoke/MethodHandle" ∧ yX7_rankOf.cls ≠ "java/lang/invoke/VarHandle" ∧ (parseMethodDescriptor yX7_rankOf.desc).map (fun d => d.parameters.length) = some 3 := by decide +kernel
set_option maxHeartbeats 3000000 in
set_option maxRecDepth 100000 in
theorem kX7_rankOf (l : Launch) (D : va_G) (cy : Nat → ClassId) (K : zK) (n : Nat) (ad : Nat → Nat) (hJ : zJ n ad) (hO : zModel cy K n ad) (t : zM) (a1 : Int32) (k : Nat) (a2 a3 : Int32) (H N : Nat) (hk : k < 24) (ha : a1 = nI k) (hm : mS H N t) : zI l yX7_rankOf wsX7_rankOf 2 D cy K n ad t [.ref (ad (0)), .int a1, .int a2, .int a3] (fun r t1 => r = rX7_rankOf t k a2 a3 ∧ t1 = t) := by
  refine z_startI (cc := cX7_rankOf) (mL := 7) (ret := (some .int)) (own := RX7) rfl (by decide +kernel) rfl hJ (Nat.le_of_ble_eq_true rfl) ?_
  intro p e s m args below meth c A hA Q hQ C
  refine z_iconst C 0 (v := 0) dX7_rankOf_0 (by decide +kernel) ?_
  refine z_istore C 1 4 ([(4, .int 0), (0, .ref (ad (0))), (1, .int a1), (2, .int a2), (3, .int a3)]) dX7_rankOf_1 (by decide) rfl ?_
  refine z_aload_n C 3 0 1 dX7_rankOf_3 rfl rfl ?_
  refine z_iload_n C 4 1 2 dX7_rankOf_4 rfl rfl ?_
  refine z_virtIe C 5 (As := [.int a1]) (st := []) (id := 0) (kX7_turn l D cy K n ad hJ hO t a1 k hk ha) dX7_rankOf_5 rfl gX7_rankOf_X7_turn hyX7_turn rfl (by decide) (by decide) hO.h0 rfl hO.e0 rfl rfl rfl (Nat.le_of_ble_eq_true rfl) ?_
  refine z_iload_n C 8 3 4 dX7_rankOf_8 rfl rfl ?_
  refine z_isub C 9 dX7_rankOf_9 ?_
  refine z_sipush C 10 (v := 199) dX7_rankOf_10 (by decide +kernel) ?_
  refine z_iadd C 13 dX7_rankOf_13 ?_
  refine z_sipush C 14 (v := 200) dX7_rankOf_14 (by decide +kernel) ?_
  refine z_irem C 17 dX7_rankOf_17 (by decide) ?_
  refine z_istore C 18 5 ([(5, .int (zrem (((rX7_turn t k) - a3) + 199) 200)), (4, .int 0), (0, .ref (ad (0))), (1, .int a1), (2, .int a2), (3, .int a3)]) dX7_rankOf_18 (by decide) rfl ?_
  refine z_iconst C 20 (v := 0) dX7_rankOf_20 (by decide +kernel) ?_
  refine z_istore C 21 6 ([(6, .int 0), (5, .int (zrem (((rX7_turn t k) - a3) + 199) 200)), (4, .int 0), (0, .ref (ad (0))), (1, .int a1), (2, .int a2), (3, .int a3)]) dX7_rankOf_21 (by decide) rfl ?_
  have L23 : ∀ (j : Nat) (i : Nat) (v : Int32), (h0_23 : 25 ≤ i + j) → (hi : i ≤ H) → (hI23 : rX7_rankOf t k a2 a3 = (lX7_rankOf_23 t k a2 a3 j i v)) → Zw p l e (zR 2) s m args below meth c D A K n ad 7 Q 23 ([(6, .int (nI i)), (4, .int v), (5, .int (zrem (((rX7_turn t k) - a3) + 199) 200)), (0, .ref (ad (0))), (1, .int a1), (2, .int a2), (3, .int a3)]) [] t := by
    intro j
    induction j with
    | zero =>
      intro i v h0_23 hi hI23
      exact absurd h0_23 (by have := hm.1; omega)
    | succ j ih23 =>
      intro i v h0_23 hi hI23
      refine z_iload C 23 6 0 dX7_rankOf_23 rfl ?_
      refine z_aload_n C 25 0 3 dX7_rankOf_25 rfl rfl ?_
      refine z_getr C 26 (a9 := ad (1)) (0) 0 dX7_rankOf_26 hO.h0 hO.e0 mX7_rankOf_in7 rfl (by decide) mX7_rankOf_f7 (fun _ => rfl) ?_
      refine z_sipush C 29 (v := 401) dX7_rankOf_29 (by decide +kernel) ?_
      refine z_ialdN C 32 (1) 401 dX7_rankOf_32 hO.h1 hO.e1 rfl (by decide) (by decide) ?_
      refine z_icmp_ge C 33 84 dX7_rankOf_33 (by decide) (fun c33_2 => ?_) (fun c33_2 => ?_)
      · refine z_iload C 84 4 1 dX7_rankOf_84 rfl ?_
        exact z_iret C 86 hA hQ rfl dX7_rankOf_86 ⟨((hI23.trans ((if_pos c33_2).trans rfl))).symm, rfl⟩
      · refine z_iload C 36 4 1 dX7_rankOf_36 rfl ?_
        refine z_aload_n C 38 0 3 dX7_rankOf_38 rfl rfl ?_
        refine z_iload C 39 6 0 dX7_rankOf_39 rfl ?_
        refine z_iconst C 41 (v := 0) dX7_rankOf_41 (by decide +kernel) ?_
        refine z_virtIe C 42 (As := [.int (nI i), .int 0]) (st := [.int v]) (id := 0) (kX7_of l D cy K n ad hJ hO t (nI i) 0 i 0 (Nat.lt_of_lt_of_le (hm.lt (Nat.le_trans hi hm.1) ‹¬ t (1) 401 ≤ nI i›) hm.1) (by decide) rfl rfl) dX7_rankOf_42 rfl gX7_rankOf_X7_of hyX7_of rfl (by decide) (by decide) hO.h0 rfl hO.e0 rfl rfl rfl (Nat.le_of_ble_eq_true rfl) ?_
        refine z_nv (t (1) (14 * i + 0)) rfl ?_
        refine z_iload_n C 45 2 5 dX7_rankOf_45 rfl rfl ?_
        refine z_icmp_ne C 46 74 dX7_rankOf_46 (by decide) (fun c46_4 => ?_) (fun c46_4 => ?_)
        · refine z_iconst C 74 (v := 0) dX7_rankOf_74 (by decide +kernel) ?_
          refine z_iadd C 75 dX7_rankOf_75 ?_
          refine z_istore C 76 4 ([(4, .int (v + 0)), (6, .int (nI i)), (5, .int (zrem (((rX7_turn t k) - a3) + 199) 200)), (0, .ref (ad (0))), (1, .int a1), (2, .int a2), (3, .int a3)]) dX7_rankOf_76 (by decide) rfl ?_
          refine z_iinc C 78 (v := nI (i + 1)) 6 1 ([(6, .int (nI (i + 1))), (4, .int (v + 0)), (5, .int (zrem (((rX7_turn t k) - a3) + 199) 200)), (0, .ref (ad (0))), (1, .int a1), (2, .int a2), (3, .int a3)]) dX7_rankOf_78 rfl (nI_1 _) (by decide) rfl ?_
          refine z_goto C 81 23 dX7_rankOf_81 (by decide) ?_
          refine z_ls [0, 1, 2, 3, 4, 5, 6] _ rfl ?_
          exact ih23 (i + 1) (v + 0) (by omega) (hm.lt (Nat.le_trans hi hm.1) ‹¬ t (1) 401 ≤ nI i›) (hI23.trans ((if_neg c33_2).trans ((if_neg c46_4).trans rfl)))
        · refine z_aload_n C 49 0 3 dX7_rankOf_49 rfl rfl ?_
          refine z_iload C 50 6 0 dX7_rankOf_50 rfl ?_
          refine z_virtIe C 52 (As := [.int (nI i)]) (st := [.int v]) (id := 0) (kX7_turn l D cy K n ad hJ hO t (nI i) i (Nat.lt_of_lt_of_le (hm.lt (Nat.le_trans hi hm.1) ‹¬ t (1) 401 ≤ nI i›) hm.1) rfl) dX7_rankOf_52 rfl gX7_rankOf_X7_turn hyX7_turn rfl (by decide) (by decide) hO.h0 rfl hO.e0 rfl rfl rfl (Nat.le_of_ble_eq_true rfl) ?_
          refine z_iload_n C 55 3 6 dX7_rankOf_55 rfl rfl ?_
          refine z_isub C 56 dX7_rankOf_56 ?_
          refine z_sipush C 57 (v := 199) dX7_rankOf_57 (by decide +kernel) ?_
          refine z_iadd C 60 dX7_rankOf_60 ?_
          refine z_sipush C 61 (v := 200) dX7_rankOf_61 (by decide +kernel) ?_
          refine z_irem C 64 dX7_rankOf_64 (by decide) ?_
          refine z_iload C 65 5 2 dX7_rankOf_65 rfl ?_
          refine z_icmp_ge C 67 74 dX7_rankOf_67 (by decide) (fun c67_6 => ?_) (fun c67_6 => ?_)
          · refine z_iconst C 74 (v := 0) dX7_rankOf_74 (by decide +kernel) ?_
            refine z_iadd C 75 dX7_rankOf_75 ?_
            refine z_istore C 76 4 ([(4, .int (v + 0)), (6, .int (nI i)), (5, .int (zrem (((rX7_turn t k) - a3) + 199) 200)), (0, .ref (ad (0))), (1, .int a1), (2, .int a2), (3, .int a3)]) dX7_rankOf_76 (by decide) rfl ?_
            refine z_iinc C 78 (v := nI (i + 1)) 6 1 ([(6, .int (nI (i + 1))), (4, .int (v + 0)), (5, .int (zrem (((rX7_turn t k) - a3) + 199) 200)), (0, .ref (ad (0))), (1, .int a1), (2, .int a2), (3, .int a3)]) dX7_rankOf_78 rfl (nI_1 _) (by decide) rfl ?_
            refine z_goto C 81 23 dX7_rankOf_81 (by decide) ?_
            refine z_ls [0, 1, 2, 3, 4, 5, 6] _ rfl ?_
            exact ih23 (i + 1) (v + 0) (by omega) (hm.lt (Nat.le_trans hi hm.1) ‹¬ t (1) 401 ≤ nI i›) (hI23.trans ((if_neg c33_2).trans ((if_pos c46_4).trans ((if_pos c67_6).trans rfl))))
          · refine z_iconst C 70 (v := 1) dX7_rankOf_70 (by decide +kernel) ?_
            refine z_goto C 71 75 dX7_rankOf_71 (by decide) ?_
            refine z_iadd C 75 dX7_rankOf_75 ?_
            refine z_istore C 76 4 ([(4, .int (v + 1)), (6, .int (nI i)), (5, .int (zrem (((rX7_turn t k) - a3) + 199) 200)), (0, .ref (ad (0))), (1, .int a1), (2, .int a2), (3, .int a3)]) dX7_rankOf_76 (by decide) rfl ?_
            refine z_iinc C 78 (v := nI (i + 1)) 6 1 ([(6, .int (nI (i + 1))), (4, .int (v + 1)), (5, .int (zrem (((rX7_turn t k) - a3) + 199) 200)), (0, .ref (ad (0))), (1, .int a1), (2, .int a2), (3, .int a3)]) dX7_rankOf_78 rfl (nI_1 _) (by decide) rfl ?_
            refine z_goto C 81 23 dX7_rankOf_81 (by decide) ?_
            refine z_ls [0, 1, 2, 3, 4, 5, 6] _ rfl ?_
            exact ih23 (i + 1) (v + 1) (by omega) (hm.lt (Nat.le_trans hi hm.1) ‹¬ t (1) 401 ≤ nI i›) (hI23.trans ((if_neg c33_2).trans ((if_pos c46_4).trans ((if_neg c67_6).trans rfl))))
  refine z_ls [0, 2, 1, 3, 4, 5, 6] _ rfl ?_
  exact L23 (25) 0 0 (by omega) (Nat.zero_le _) rfl
/-- a rank is below the number of houses -/
theorem lX7_rankOf_23_lt {H N k : Nat} {t : zM} {a2 a3 : Int32} (hk : k < H) (hm : mS H N t) : ∀ (j i v : Nat), 25 ≤ i + j → i ≤ H → v ≤ i → (k < i → v + 1 ≤ i) → ∃ r, r < 24 ∧ lX7_rankOf_23 t k a2 a3 j i (nI v) = nI r := by
  have hH := hm.1
  intro j
  induction j with
  | zero => intro i v h0 hi; omega
  | succ j ih =>
    intro i v h0 hi hv hkv
    unfold lX7_rankOf_23
    split
    · rename_i c
      rw [hm.2.1] at c
      have hle : H ≤ i := zle (by omega) (by omega) c
      have := hkv (by omega)
      exact ⟨v, by omega, rfl⟩
    · rename_i c
      have hlt : i < H := hm.lt (by omega) c
      have e0 : nI v + 0 = nI v := Int32.add_zero _
      split
      · split
        · rw [e0]
          exact ih _ _ (by omega) (by omega) (by omega) (fun q => by omega)
        · rename_i c2
          by_cases hik : i = k
          · subst hik
            exact absurd (Int32.le_refl _) c2
          · rw [nI_1]
            exact ih _ _ (by omega) (by omega) (by omega) (fun q => by
              rcases Nat.lt_or_ge k i with h9 | h9
              · have := hkv h9; omega
              · omega)
      · rw [e0]
        exact ih _ _ (by omega) (by omega) (by omega) (fun q => by omega)
theorem rX7_rankOf_lt {H N k : Nat} {t : zM} {a2 a3 : Int32} (hk : k < H) (hm : mS H N t) : (rX7_rankOf t k a2 a3).toNatClampNeg < 24 ∧ rX7_rankOf t k a2 a3 = nI (rX7_rankOf t k a2 a3).toNatClampNeg := by
  obtain ⟨r, hr, e⟩ := lX7_rankOf_23_lt (a2 := a2) (a3 := a3) hk hm 25 0 0 (by omega) (Nat.zero_le _) (Nat.le_refl _) (fun q => absurd q (Nat.not_lt_zero _))
  have e2 : rX7_rankOf t k a2 a3 = nI r := e
  rw [e2, nI_clamp (by omega)]
  exact ⟨hr, rfl⟩
