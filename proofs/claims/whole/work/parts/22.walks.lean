theorem mS.lat {H N q : Nat} {t : zM} (h : mS H N t) (hq : q < 4) (c : 0 ≤ t 1 (336 + q) - 1) : (t 1 (336 + q) - 1).toNatClampNeg < 24 ∧ t 1 (336 + q) - 1 = nI (t 1 (336 + q) - 1).toNatClampNeg := by
  obtain ⟨w, hw, e⟩ := h.2.2.2.1 q hq
  rw [e] at c ⊢
  have h1 : 1 ≤ w := by
    rcases Nat.lt_or_ge w 1 with p | p
    · have : w = 0 := by omega
      subst this
      exact absurd c (by decide +kernel)
    · exact p
  rw [show nI w - 1 = nI (w - 1) from nI_sub (b := 1) h1, nI_clamp (by omega)]
  exact ⟨by omega, rfl⟩
def lX7_rounds_71 (t : zM) (q : Nat) : Nat → Nat → Int32 → Int32 → zM → Int32
  | 0, _, _, _, _ => 0
  | j2 + 1, i, v, g, u => (if (u (1) 401) ≤ nI i then v else (if (u (1) (14 * i + 0)) = nI q then (lX7_rounds_71 t q j2 (i + 1) v g (zset u (6) ((rX7_rankOf u i (nI q) g).toNatClampNeg) (nI i))) else (lX7_rounds_71 t q j2 (i + 1) v g u)))
def lsX7_rounds_71 (t : zM) (q : Nat) : Nat → Nat → Int32 → Int32 → zM → zM
  | 0, _, _, _, u => u
  | j2 + 1, i, v, g, u => (if (u (1) 401) ≤ nI i then u else (if (u (1) (14 * i + 0)) = nI q then (lsX7_rounds_71 t q j2 (i + 1) v g (zset u (6) ((rX7_rankOf u i (nI q) g).toNatClampNeg) (nI i))) else (lsX7_rounds_71 t q j2 (i + 1) v g u)))
def lX7_rounds_4 (t : zM) (q : Nat) : Nat → Nat → Int32 → Int32
  | 0, _, _ => 0
  | j + 1, k, v => (if (t (1) 401) ≤ nI k then (if 0 ≤ ((t (1) (336 + q)) - 1) then (lX7_rounds_71 t q 25 0 v (rX7_turn t (((t (1) (336 + q)) - 1).toNatClampNeg)) t) else (lX7_rounds_71 t q 25 0 v 0 t)) else (if (t (1) (14 * k + 0)) = nI q then (lX7_rounds_4 t q j (k + 1) (v + 1)) else (lX7_rounds_4 t q j (k + 1) (v + 0))))
def lsX7_rounds_4 (t : zM) (q : Nat) : Nat → Nat → Int32 → zM
  | 0, _, _ => t
  | j + 1, k, v => (if (t (1) 401) ≤ nI k then (if 0 ≤ ((t (1) (336 + q)) - 1) then (lsX7_rounds_71 t q 25 0 v (rX7_turn t (((t (1) (336 + q)) - 1).toNatClampNeg)) t) else (lsX7_rounds_71 t q 25 0 v 0 t)) else (if (t (1) (14 * k + 0)) = nI q then (lsX7_rounds_4 t q j (k + 1) (v + 1)) else (lsX7_rounds_4 t q j (k + 1) (v + 0))))
def rX7_rounds (t : zM) (q : Nat) : Int32 := (lX7_rounds_4 t q 25 0 0)
def sX7_rounds (t : zM) (q : Nat) : zM := (lsX7_rounds_4 t q 25 0 0)
theorem mX7_rounds_f7 : Cond.fieldLink RX7 7 "WrongedMetersModel" "s" "[I" ∈ wsX7_rounds := by decide +kernel
set_option maxRecDepth 20000 in
theorem mX7_rounds_in7 : ∀ w ∈ u_ws RX7 TX7 16, w ∈ wsX7_rounds := by decide +kernel
theorem mX7_rounds_f25 : Cond.fieldLink RX7 25 "WrongedMetersModel" "round" "[I" ∈ wsX7_rounds := by decide +kernel
theorem hyX7_rounds : yX7_rounds.cls = RX7 ∧ yX7_rounds.cls ≠ "java/lang/invoke/MethodHandle" ∧ yX7_rounds.cls ≠ "java/lang/invoke/VarHandle" ∧ (parseMethodDescriptor yX7_rounds.desc).map (fun d => d.parameters.length) = some 1 := by decide +kernel
set_option maxHeartbeats 3000000 in
set_option maxRecDepth 100000 in
theorem kX7_rounds (l : Launch) (D : va_G) (cy : Nat → ClassId) (K : zK) (n : Nat) (ad : Nat → Nat) (hJ : zJ n ad) (hO : zModel cy K n ad) (t : zM) (q H N : Nat) (hq : q < 4) (hm : mS H N t) : zI l yX7_rounds wsX7_rounds 3 D cy K n ad t [.ref (ad (0)), .int (nI q)] (fun r t1 => r = rX7_rounds t q ∧ t1 = sX7_rounds t q) := by
  refine z_startI (cc := cX7_rounds) (mL := 6) (ret := (some .int)) (own := RX7) rfl (by decide +kernel) rfl hJ (Nat.le_of_ble_eq_true rfl) ?_
  intro p e s m args below meth c A hA Q hQ C
  refine z_iconst C 0 (v := 0) dX7_rounds_0 (by decide +kernel) ?_
  refine z_istore_n C 1 2 ([(2, .int 0), (0, .ref (ad (0))), (1, .int (nI q))]) dX7_rounds_1 rfl (by decide) rfl ?_
  refine z_iconst C 2 (v := 0) dX7_rounds_2 (by decide +kernel) ?_
  refine z_istore_n C 3 3 ([(3, .int 0), (2, .int 0), (0, .ref (ad (0))), (1, .int (nI q))]) dX7_rounds_3 rfl (by decide) rfl ?_
  have L4 : ∀ (j : Nat) (k : Nat) (v : Int32), (h0_4 : 25 ≤ k + j) → (hk : k ≤ H) → (hI4 : rX7_rounds t q = (lX7_rounds_4 t q j k v)) → (hS4 : sX7_rounds t q = (lsX7_rounds_4 t q j k v)) → Zw p l e (zR 3) s m args below meth c D A K n ad 6 Q 4 ([(3, .int (nI k)), (2, .int v), (0, .ref (ad (0))), (1, .int (nI q))]) [] t := by
    intro j
    induction j with
    | zero =>
      intro k v h0_4 hk hI4 hS4
      exact absurd h0_4 (by have := hm.1; omega)
    | succ j ih4 =>
      intro k v h0_4 hk hI4 hS4
      refine z_iload_n C 4 3 0 dX7_rounds_4 rfl rfl ?_
      refine z_aload_n C 5 0 2 dX7_rounds_5 rfl rfl ?_
      refine z_getr C 6 (a9 := ad (1)) (0) 0 dX7_rounds_6 hO.h0 hO.e0 mX7_rounds_in7 rfl (by decide) mX7_rounds_f7 (fun _ => rfl) ?_
      refine z_sipush C 9 (v := 401) dX7_rounds_9 (by decide +kernel) ?_
      refine z_ialdN C 12 (1) 401 dX7_rounds_12 hO.h1 hO.e1 rfl (by decide) (by decide) ?_
      refine z_icmp_ge C 13 40 dX7_rounds_13 (by decide) (fun c13_1 => ?_) (fun c13_1 => ?_)
      · refine z_aload_n C 40 0 2 dX7_rounds_40 rfl rfl ?_
        refine z_getr C 41 (a9 := ad (1)) (0) 0 dX7_rounds_41 hO.h0 hO.e0 mX7_rounds_in7 rfl (by decide) mX7_rounds_f7 (fun _ => rfl) ?_
        refine z_sipush C 44 (v := 336) dX7_rounds_44 (by decide +kernel) ?_
        refine z_iload_n C 47 1 3 dX7_rounds_47 rfl rfl ?_
        refine z_iadd C 48 dX7_rounds_48 ?_
        refine z_ialdN C 49 (1) (336 + q) dX7_rounds_49 hO.h1 hO.e1 (nI_add 336 q) (by omega) (by decide) ?_
        refine z_iconst C 50 (v := 1) dX7_rounds_50 (by decide +kernel) ?_
        refine z_isub C 51 dX7_rounds_51 ?_
        refine z_istore_n C 52 3 ([(3, .int ((t (1) (336 + q)) - 1)), (2, .int v), (0, .ref (ad (0))), (1, .int (nI q))]) dX7_rounds_52 rfl (by decide) rfl ?_
        refine z_iload_n C 53 3 0 dX7_rounds_53 rfl rfl ?_
        refine z_if_ge C 54 61 dX7_rounds_54 (by decide) (fun c54_2 => ?_) (fun c54_2 => ?_)
        · refine z_aload_n C 61 0 2 dX7_rounds_61 rfl rfl ?_
          refine z_iload_n C 62 3 0 dX7_rounds_62 rfl rfl ?_
          refine z_virtIe C 63 (As := [.int ((t (1) (336 + q)) - 1)]) (st := []) (id := 0) (kX7_turn l D cy K n ad hJ hO t ((t (1) (336 + q)) - 1) (((t (1) (336 + q)) - 1).toNatClampNeg) (hm.lat hq (by assumption)).1 (hm.lat hq (by assumption)).2) dX7_rounds_63 rfl gX7_rounds_X7_turn hyX7_turn rfl (by decide) (by decide) hO.h0 rfl hO.e0 rfl rfl rfl (Nat.le_of_ble_eq_true rfl) ?_
          refine z_istore C 66 4 ([(4, .int (rX7_turn t (((t (1) (336 + q)) - 1).toNatClampNeg))), (3, .int ((t (1) (336 + q)) - 1)), (2, .int v), (0, .ref (ad (0))), (1, .int (nI q))]) dX7_rounds_66 (by decide) rfl ?_
          refine z_iconst C 68 (v := 0) dX7_rounds_68 (by decide +kernel) ?_
          refine z_istore C 69 5 ([(5, .int 0), (4, .int (rX7_turn t (((t (1) (336 + q)) - 1).toNatClampNeg))), (3, .int ((t (1) (336 + q)) - 1)), (2, .int v), (0, .ref (ad (0))), (1, .int (nI q))]) dX7_rounds_69 (by decide) rfl ?_
          have L71 : ∀ (j2 : Nat) (i : Nat) (v : Int32) (g : Int32) (u : zM), (h0_71 : 25 ≤ i + j2) → (hi : i ≤ H) → (hm2 : mS H N u) → (hI71 : rX7_rounds t q = (lX7_rounds_71 t q j2 i v g u)) → (hS71 : sX7_rounds t q = (lsX7_rounds_71 t q j2 i v g u)) → Zw p l e (zR 3) s m args below meth c D A K n ad 6 Q 71 ([(5, .int (nI i)), (2, .int v), (4, .int g), (0, .ref (ad (0))), (1, .int (nI q))]) [] u := by
            intro j2
            induction j2 with
            | zero =>
              intro i v g u h0_71 hi hm2 hI71 hS71
              exact absurd h0_71 (by have := hm.1; omega)
            | succ j2 ih71 =>
              intro i v g u h0_71 hi hm2 hI71 hS71
              refine z_iload C 71 5 0 dX7_rounds_71 rfl ?_
              refine z_aload_n C 73 0 3 dX7_rounds_73 rfl rfl ?_
              refine z_getr C 74 (a9 := ad (1)) (0) 0 dX7_rounds_74 hO.h0 hO.e0 mX7_rounds_in7 rfl (by decide) mX7_rounds_f7 (fun _ => rfl) ?_
              refine z_sipush C 77 (v := 401) dX7_rounds_77 (by decide +kernel) ?_
              refine z_ialdN C 80 (1) 401 dX7_rounds_80 hO.h1 hO.e1 rfl (by decide) (by decide) ?_
              refine z_icmp_ge C 81 117 dX7_rounds_81 (by decide) (fun c81_4 => ?_) (fun c81_4 => ?_)
              · refine z_iload_n C 117 2 1 dX7_rounds_117 rfl rfl ?_
                exact z_iret C 118 hA hQ rfl dX7_rounds_118 ⟨((hI71.trans ((if_pos c81_4).trans rfl))).symm, ((hS71.trans ((if_pos c81_4).trans rfl))).symm⟩
              · refine z_aload_n C 84 0 3 dX7_rounds_84 rfl rfl ?_
                refine z_iload C 85 5 0 dX7_rounds_85 rfl ?_
                refine z_iconst C 87 (v := 0) dX7_rounds_87 (by decide +kernel) ?_
                refine z_virtIe C 88 (As := [.int (nI i), .int 0]) (st := []) (id := 0) (kX7_of l D cy K n ad hJ hO u (nI i) 0 i 0 (Nat.lt_of_lt_of_le (hm2.lt (Nat.le_trans hi hm2.1) ‹¬ u (1) 401 ≤ nI i›) hm2.1) (by decide) rfl rfl) dX7_rounds_88 rfl gX7_rounds_X7_of hyX7_of rfl (by decide) (by decide) hO.h0 rfl hO.e0 rfl rfl rfl (Nat.le_of_ble_eq_true rfl) ?_
                refine z_nv (u (1) (14 * i + 0)) rfl ?_
                refine z_iload_n C 91 1 4 dX7_rounds_91 rfl rfl ?_
                refine z_icmp_ne C 92 111 dX7_rounds_92 (by decide) (fun c92_6 => ?_) (fun c92_6 => ?_)
                · refine z_iinc C 111 (v := nI (i + 1)) 5 0 ([(5, .int (nI (i + 1))), (2, .int v), (4, .int g), (0, .ref (ad (0))), (1, .int (nI q))]) dX7_rounds_111 rfl (nI_1 _) (by decide) rfl ?_
                  refine z_goto C 114 71 dX7_rounds_114 (by decide) ?_
                  refine z_ls [0, 1, 2, 3, 4] _ rfl ?_
                  exact ih71 (i + 1) v g u (by omega) (hm2.lt (Nat.le_trans hi hm2.1) ‹¬ u (1) 401 ≤ nI i›) hm2 (hI71.trans ((if_neg c81_4).trans ((if_neg c92_6).trans rfl))) (hS71.trans ((if_neg c81_4).trans ((if_neg c92_6).trans rfl)))
                · refine z_aload_n C 95 0 3 dX7_rounds_95 rfl rfl ?_
                  refine z_getr C 96 (a9 := ad (6)) (0) 8 dX7_rounds_96 hO.h0 hO.e0 mX7_rounds_in7 rfl (by decide) mX7_rounds_f25 (fun _ => rfl) ?_
                  refine z_aload_n C 99 0 3 dX7_rounds_99 rfl rfl ?_
                  refine z_iload C 100 5 0 dX7_rounds_100 rfl ?_
                  refine z_iload_n C 102 1 4 dX7_rounds_102 rfl rfl ?_
                  refine z_iload C 103 4 2 dX7_rounds_103 rfl ?_
                  refine z_virtIe C 105 (As := [.int (nI i), .int (nI q), .int g]) (st := [.ref (ad (6))]) (id := 0) (kX7_rankOf l D cy K n ad hJ hO u (nI i) i (nI q) g H N (Nat.lt_of_lt_of_le (hm2.lt (Nat.le_trans hi hm2.1) ‹¬ u (1) 401 ≤ nI i›) hm2.1) rfl hm2) dX7_rounds_105 rfl gX7_rounds_X7_rankOf hyX7_rankOf rfl (by decide) (by decide) hO.h0 rfl hO.e0 rfl rfl rfl (Nat.le_of_ble_eq_true rfl) ?_
                  refine z_iload C 108 5 0 dX7_rounds_108 rfl ?_
                  refine z_iastN C 110 (6) ((rX7_rankOf u i (nI q) g).toNatClampNeg) dX7_rounds_110 hO.h6 hO.e6 (rX7_rankOf_lt (hm2.lt (Nat.le_trans hi hm2.1) ‹¬ u (1) 401 ≤ nI i›) hm2).2 (rX7_rankOf_lt (hm2.lt (Nat.le_trans hi hm2.1) ‹¬ u (1) 401 ≤ nI i›) hm2).1 (by decide) ?_
                  refine z_iinc C 111 (v := nI (i + 1)) 5 0 ([(5, .int (nI (i + 1))), (2, .int v), (4, .int g), (0, .ref (ad (0))), (1, .int (nI q))]) dX7_rounds_111 rfl (nI_1 _) (by decide) rfl ?_
                  refine z_goto C 114 71 dX7_rounds_114 (by decide) ?_
                  refine z_ls [0, 1, 2, 3, 4] _ rfl ?_
                  exact ih71 (i + 1) v g (zset u (6) ((rX7_rankOf u i (nI q) g).toNatClampNeg) (nI i)) (by omega) (hm2.lt (Nat.le_trans hi hm2.1) ‹¬ u (1) 401 ≤ nI i›) (mS_setR hm2 rfl (Nat.lt_of_lt_of_le (hm2.lt (Nat.le_trans hi hm2.1) ‹¬ u (1) 401 ≤ nI i›) hm2.1)) (hI71.trans ((if_neg c81_4).trans ((if_pos c92_6).trans rfl))) (hS71.trans ((if_neg c81_4).trans ((if_pos c92_6).trans rfl)))
          refine z_ls [0, 3, 1, 4, 5] _ rfl ?_
          exact L71 (25) 0 v (rX7_turn t (((t (1) (336 + q)) - 1).toNatClampNeg)) t (by omega) (Nat.zero_le _) hm (hI4.trans ((if_pos c13_1).trans ((if_pos c54_2).trans rfl))) (hS4.trans ((if_pos c13_1).trans ((if_pos c54_2).trans rfl)))
        · refine z_iconst C 57 (v := 0) dX7_rounds_57 (by decide +kernel) ?_
          refine z_goto C 58 66 dX7_rounds_58 (by decide) ?_
          refine z_istore C 66 4 ([(4, .int 0), (3, .int ((t (1) (336 + q)) - 1)), (2, .int v), (0, .ref (ad (0))), (1, .int (nI q))]) dX7_rounds_66 (by decide) rfl ?_
          refine z_iconst C 68 (v := 0) dX7_rounds_68 (by decide +kernel) ?_
          refine z_istore C 69 5 ([(5, .int 0), (4, .int 0), (3, .int ((t (1) (336 + q)) - 1)), (2, .int v), (0, .ref (ad (0))), (1, .int (nI q))]) dX7_rounds_69 (by decide) rfl ?_
          have L71 : ∀ (j2 : Nat) (i : Nat) (v : Int32) (g : Int32) (u : zM), (h0_71 : 25 ≤ i + j2) → (hi : i ≤ H) → (hm2 : mS H N u) → (hI71 : rX7_rounds t q = (lX7_rounds_71 t q j2 i v g u)) → (hS71 : sX7_rounds t q = (lsX7_rounds_71 t q j2 i v g u)) → Zw p l e (zR 3) s m args below meth c D A K n ad 6 Q 71 ([(5, .int (nI i)), (2, .int v), (4, .int g), (0, .ref (ad (0))), (1, .int (nI q))]) [] u := by
            intro j2
            induction j2 with
            | zero =>
              intro i v g u h0_71 hi hm2 hI71 hS71
              exact absurd h0_71 (by have := hm.1; omega)
            | succ j2 ih71 =>
              intro i v g u h0_71 hi hm2 hI71 hS71
              refine z_iload C 71 5 0 dX7_rounds_71 rfl ?_
              refine z_aload_n C 73 0 3 dX7_rounds_73 rfl rfl ?_
              refine z_getr C 74 (a9 := ad (1)) (0) 0 dX7_rounds_74 hO.h0 hO.e0 mX7_rounds_in7 rfl (by decide) mX7_rounds_f7 (fun _ => rfl) ?_
              refine z_sipush C 77 (v := 401) dX7_rounds_77 (by decide +kernel) ?_
              refine z_ialdN C 80 (1) 401 dX7_rounds_80 hO.h1 hO.e1 rfl (by decide) (by decide) ?_
              refine z_icmp_ge C 81 117 dX7_rounds_81 (by decide) (fun c81_8 => ?_) (fun c81_8 => ?_)
              · refine z_iload_n C 117 2 1 dX7_rounds_117 rfl rfl ?_
                exact z_iret C 118 hA hQ rfl dX7_rounds_118 ⟨((hI71.trans ((if_pos c81_8).trans rfl))).symm, ((hS71.trans ((if_pos c81_8).trans rfl))).symm⟩
              · refine z_aload_n C 84 0 3 dX7_rounds_84 rfl rfl ?_
                refine z_iload C 85 5 0 dX7_rounds_85 rfl ?_
                refine z_iconst C 87 (v := 0) dX7_rounds_87 (by decide +kernel) ?_
                refine z_virtIe C 88 (As := [.int (nI i), .int 0]) (st := []) (id := 0) (kX7_of l D cy K n ad hJ hO u (nI i) 0 i 0 (Nat.lt_of_lt_of_le (hm2.lt (Nat.le_trans hi hm2.1) ‹¬ u (1) 401 ≤ nI i›) hm2.1) (by decide) rfl rfl) dX7_rounds_88 rfl gX7_rounds_X7_of hyX7_of rfl (by decide) (by decide) hO.h0 rfl hO.e0 rfl rfl rfl (Nat.le_of_ble_eq_true rfl) ?_
                refine z_nv (u (1) (14 * i + 0)) rfl ?_
                refine z_iload_n C 91 1 4 dX7_rounds_91 rfl rfl ?_
                refine z_icmp_ne C 92 111 dX7_rounds_92 (by decide) (fun c92_10 => ?_) (fun c92_10 => ?_)
                · refine z_iinc C 111 (v := nI (i + 1)) 5 0 ([(5, .int (nI (i + 1))), (2, .int v), (4, .int g), (0, .ref (ad (0))), (1, .int (nI q))]) dX7_rounds_111 rfl (nI_1 _) (by decide) rfl ?_
                  refine z_goto C 114 71 dX7_rounds_114 (by decide) ?_
                  refine z_ls [0, 1, 2, 3, 4] _ rfl ?_
                  exact ih71 (i + 1) v g u (by omega) (hm2.lt (Nat.le_trans hi hm2.1) ‹¬ u (1) 401 ≤ nI i›) hm2 (hI71.trans ((if_neg c81_8).trans ((if_neg c92_10).trans rfl))) (hS71.trans ((if_neg c81_8).trans ((if_neg c92_10).trans rfl)))
                · refine z_aload_n C 95 0 3 dX7_rounds_95 rfl rfl ?_
                  refine z_getr C 96 (a9 := ad (6)) (0) 8 dX7_rounds_96 hO.h0 hO.e0 mX7_rounds_in7 rfl (by decide) mX7_rounds_f25 (fun _ => rfl) ?_
                  refine z_aload_n C 99 0 3 dX7_rounds_99 rfl rfl ?_
                  refine z_iload C 100 5 0 dX7_rounds_100 rfl ?_
                  refine z_iload_n C 102 1 4 dX7_rounds_102 rfl rfl ?_
                  refine z_iload C 103 4 2 dX7_rounds_103 rfl ?_
                  refine z_virtIe C 105 (As := [.int (nI i), .int (nI q), .int g]) (st := [.ref (ad (6))]) (id := 0) (kX7_rankOf l D cy K n ad hJ hO u (nI i) i (nI q) g H N (Nat.lt_of_lt_of_le (hm2.lt (Nat.le_trans hi hm2.1) ‹¬ u (1) 401 ≤ nI i›) hm2.1) rfl hm2) dX7_rounds_105 rfl gX7_rounds_X7_rankOf hyX7_rankOf rfl (by decide) (by decide) hO.h0 rfl hO.e0 rfl rfl rfl (Nat.le_of_ble_eq_true rfl) ?_
                  refine z_iload C 108 5 0 dX7_rounds_108 rfl ?_
                  refine z_iastN C 110 (6) ((rX7_rankOf u i (nI q) g).toNatClampNeg) dX7_rounds_110 hO.h6 hO.e6 (rX7_rankOf_lt (hm2.lt (Nat.le_trans hi hm2.1) ‹¬ u (1) 401 ≤ nI i›) hm2).2 (rX7_rankOf_lt (hm2.lt (Nat.le_trans hi hm2.1) ‹¬ u (1) 401 ≤ nI i›) hm2).1 (by decide) ?_
                  refine z_iinc C 111 (v := nI (i + 1)) 5 0 ([(5, .int (nI (i + 1))), (2, .int v), (4, .int g), (0, .ref (ad (0))), (1, .int (nI q))]) dX7_rounds_111 rfl (nI_1 _) (by decide) rfl ?_
                  refine z_goto C 114 71 dX7_rounds_114 (by decide) ?_
                  refine z_ls [0, 1, 2, 3, 4] _ rfl ?_
                  exact ih71 (i + 1) v g (zset u (6) ((rX7_rankOf u i (nI q) g).toNatClampNeg) (nI i)) (by omega) (hm2.lt (Nat.le_trans hi hm2.1) ‹¬ u (1) 401 ≤ nI i›) (mS_setR hm2 rfl (Nat.lt_of_lt_of_le (hm2.lt (Nat.le_trans hi hm2.1) ‹¬ u (1) 401 ≤ nI i›) hm2.1)) (hI71.trans ((if_neg c81_8).trans ((if_pos c92_10).trans rfl))) (hS71.trans ((if_neg c81_8).trans ((if_pos c92_10).trans rfl)))
          refine z_ls [0, 3, 1, 4, 5] _ rfl ?_
          exact L71 (25) 0 v 0 t (by omega) (Nat.zero_le _) hm (hI4.trans ((if_pos c13_1).trans ((if_neg c54_2).trans rfl))) (hS4.trans ((if_pos c13_1).trans ((if_neg c54_2).trans rfl)))
      · refine z_iload_n C 16 2 1 dX7_rounds_16 rfl rfl ?_
        refine z_aload_n C 17 0 2 dX7_rounds_17 rfl rfl ?_
        refine z_iload_n C 18 3 0 dX7_rounds_18 rfl rfl ?_
        refine z_iconst C 19 (v := 0) dX7_rounds_19 (by decide +kernel) ?_
        refine z_virtIe C 20 (As := [.int (nI k), .int 0]) (st := [.int v]) (id := 0) (kX7_of l D cy K n ad hJ hO t (nI k) 0 k 0 (Nat.lt_of_lt_of_le (hm.lt (Nat.le_trans hk hm.1) ‹¬ t (1) 401 ≤ nI k›) hm.1) (by decide) rfl rfl) dX7_rounds_20 rfl gX7_rounds_X7_of hyX7_of rfl (by decide) (by decide) hO.h0 rfl hO.e0 rfl rfl rfl (Nat.le_of_ble_eq_true rfl) ?_
        refine z_nv (t (1) (14 * k + 0)) rfl ?_
        refine z_iload_n C 23 1 3 dX7_rounds_23 rfl rfl ?_
        refine z_icmp_ne C 24 31 dX7_rounds_24 (by decide) (fun c24_13 => ?_) (fun c24_13 => ?_)
        · refine z_iconst C 31 (v := 0) dX7_rounds_31 (by decide +kernel) ?_
          refine z_iadd C 32 dX7_rounds_32 ?_
          refine z_istore_n C 33 2 ([(2, .int (v + 0)), (3, .int (nI k)), (0, .ref (ad (0))), (1, .int (nI q))]) dX7_rounds_33 rfl (by decide) rfl ?_
          refine z_iinc C 34 (v := nI (k + 1)) 3 1 ([(3, .int (nI (k + 1))), (2, .int (v + 0)), (0, .ref (ad (0))), (1, .int (nI q))]) dX7_rounds_34 rfl (nI_1 _) (by decide) rfl ?_
          refine z_goto C 37 4 dX7_rounds_37 (by decide) ?_
          refine z_ls [0, 1, 2, 3] _ rfl ?_
          exact ih4 (k + 1) (v + 0) (by omega) (hm.lt (Nat.le_trans hk hm.1) ‹¬ t (1) 401 ≤ nI k›) (hI4.trans ((if_neg c13_1).trans ((if_neg c24_13).trans rfl))) (hS4.trans ((if_neg c13_1).trans ((if_neg c24_13).trans rfl)))
        · refine z_iconst C 27 (v := 1) dX7_rounds_27 (by decide +kernel) ?_
          refine z_goto C 28 32 dX7_rounds_28 (by decide) ?_
          refine z_iadd C 32 dX7_rounds_32 ?_
          refine z_istore_n C 33 2 ([(2, .int (v + 1)), (3, .int (nI k)), (0, .ref (ad (0))), (1, .int (nI q))]) dX7_rounds_33 rfl (by decide) rfl ?_
          refine z_iinc C 34 (v := nI (k + 1)) 3 1 ([(3, .int (nI (k + 1))), (2, .int (v + 1)), (0, .ref (ad (0))), (1, .int (nI q))]) dX7_rounds_34 rfl (nI_1 _) (by decide) rfl ?_
          refine z_goto C 37 4 dX7_rounds_37 (by decide) ?_
          refine z_ls [0, 1, 2, 3] _ rfl ?_
          exact ih4 (k + 1) (v + 1) (by omega) (hm.lt (Nat.le_trans hk hm.1) ‹¬ t (1) 401 ≤ nI k›) (hI4.trans ((if_neg c13_1).trans ((if_pos c24_13).trans rfl))) (hS4.trans ((if_neg c13_1).trans ((if_pos c24_13).trans rfl)))
  refine z_ls [0, 1, 2, 3] _ rfl ?_
  exact L4 (25) 0 0 (by omega) (Nat.zero_le _) rfl rfl
theorem lsX7_rounds_71_S {H N : Nat} (t : zM) (q : Nat) : ∀ (j i : Nat) (v g : Int32) (u : zM), i ≤ H → mS H N u → mS H N (lsX7_rounds_71 t q j i v g u) := by
  intro j
  induction j with
  | zero => intro i v g u hi h; exact h
  | succ j ih =>
    intro i v g u hi hm2
    unfold lsX7_rounds_71
    split
    · exact hm2
    · have hlt : i < H := hm2.lt (Nat.le_trans hi hm2.1) (by assumption)
      have := hm2.1
      split
      · exact ih _ _ _ _ hlt (mS_setR hm2 rfl (by omega))
      · exact ih _ _ _ _ hlt hm2
theorem lsX7_rounds_4_S {H N : Nat} {t : zM} (q : Nat) (hm : mS H N t) : ∀ (j k : Nat) (v : Int32), mS H N (lsX7_rounds_4 t q j k v) := by
  intro j
  induction j with
  | zero => intro k v; exact hm
  | succ j ih =>
    intro k v
    unfold lsX7_rounds_4
    repeat' split
    all_goals first
      | exact ih _ _
      | exact lsX7_rounds_71_S t q _ _ _ _ _ (Nat.zero_le _) hm
theorem sX7_rounds_S {H N q : Nat} {t : zM} (hm : mS H N t) : mS H N (sX7_rounds t q) := lsX7_rounds_4_S q hm _ _ _
theorem lX7_rounds_71_v {H N : Nat} (t : zM) (q : Nat) : ∀ (j i : Nat) (v g : Int32) (u : zM), 25 ≤ i + j → i ≤ H → mS H N u → lX7_rounds_71 t q j i v g u = v := by
  intro j
  induction j with
  | zero => intro i v g u h0 hi h; have := h.1; omega
  | succ j ih =>
    intro i v g u h0 hi hm2
    unfold lX7_rounds_71
    split
    · rfl
    · have hlt : i < H := hm2.lt (Nat.le_trans hi hm2.1) (by assumption)
      have := hm2.1
      split
      · exact ih _ _ _ _ (by omega) hlt (mS_setR hm2 rfl (by omega))
      · exact ih _ _ _ _ (by omega) hlt hm2
theorem lX7_rounds_4_le {H N : Nat} {t : zM} (q : Nat) (hm : mS H N t) : ∀ (j k v : Nat), 25 ≤ k + j → k ≤ H → v ≤ k → ∃ r, r ≤ 24 ∧ lX7_rounds_4 t q j k (nI v) = nI r := by
  have hH := hm.1
  intro j
  induction j with
  | zero => intro k v h0 hk; omega
  | succ j ih =>
    intro k v h0 hk hv
    unfold lX7_rounds_4
    split
    · split
      · exact ⟨v, by omega, lX7_rounds_71_v t q _ _ _ _ _ (by omega) (Nat.zero_le _) hm⟩
      · exact ⟨v, by omega, lX7_rounds_71_v t q _ _ _ _ _ (by omega) (Nat.zero_le _) hm⟩
    · have hlt : k < H := hm.lt (by omega) (by assumption)
      split
      · rw [nI_1]
        exact ih _ _ (by omega) hlt (by omega)
      · rw [show nI v + 0 = nI v from Int32.add_zero _]
        exact ih _ _ (by omega) hlt (by omega)
theorem rX7_rounds_le {H N q : Nat} {t : zM} (hm : mS H N t) : ∃ r, r ≤ 24 ∧ rX7_rounds t q = nI r := lX7_rounds_4_le q hm 25 0 0 (by omega) (Nat.zero_le _) (Nat.le_refl _)
theorem zrnd_lt {x : Int32} {k : Nat} (h : ∃ r, r ≤ 24 ∧ x = nI r) (hk : k ≤ 24) (c : ¬ x ≤ nI k) : k < 24 := by
  obtain ⟨r, hr, rfl⟩ := h
  have := zge (by omega) (by omega) c
  omega
def lX7_walks_11 (t : zM) (q : Nat) : Nat → Nat → Int32 → zM → Int32
  | 0, _, _, _ => 0
  | j + 1, k, v, u => (if (rX7_rounds t q) ≤ nI k then v else (if (u (1) 410) ≤ v then v else (if (rX7_barred u ((u (6) k).toNatClampNeg)) = 0 then (if 0 ≤ (rX7_reads u (u (6) k) ((u (6) k).toNatClampNeg)) then (lX7_walks_11 t q j (k + 1) (v + 1) (zset (sX7_reads u (u (6) k) ((u (6) k).toNatClampNeg)) (1) (336 + q) ((u (6) k) + 1))) else (lX7_walks_11 t q j (k + 1) (v + 0) (zset (sX7_reads u (u (6) k) ((u (6) k).toNatClampNeg)) (1) (336 + q) ((u (6) k) + 1)))) else (lX7_walks_11 t q j (k + 1) v u))))
def lsX7_walks_11 (t : zM) (q : Nat) : Nat → Nat → Int32 → zM → zM
  | 0, _, _, u => u
  | j + 1, k, v, u => (if (rX7_rounds t q) ≤ nI k then u else (if (u (1) 410) ≤ v then u else (if (rX7_barred u ((u (6) k).toNatClampNeg)) = 0 then (if 0 ≤ (rX7_reads u (u (6) k) ((u (6) k).toNatClampNeg)) then (lsX7_walks_11 t q j (k + 1) (v + 1) (zset (sX7_reads u (u (6) k) ((u (6) k).toNatClampNeg)) (1) (336 + q) ((u (6) k) + 1))) else (lsX7_walks_11 t q j (k + 1) (v + 0) (zset (sX7_reads u (u (6) k) ((u (6) k).toNatClampNeg)) (1) (336 + q) ((u (6) k) + 1)))) else (lsX7_walks_11 t q j (k + 1) v u))))
def rX7_walks (t : zM) (q : Nat) : Int32 := (lX7_walks_11 t q 25 0 0 (sX7_rounds t q))
def sX7_walks (t : zM) (q : Nat) : zM := (lsX7_walks_11 t q 25 0 0 (sX7_rounds t q))
theorem mX7_walks_f7 : Cond.fieldLink RX7 7 "WrongedMetersModel" "s" "[I" ∈ wsX7_walks := by decide +kernel
set_option maxRecDepth 20000 in
theorem mX7_walks_in7 : ∀ w ∈ u_ws RX7 TX7 16, w ∈ wsX7_walks := by decide +kernel
theorem mX7_walks_f25 : Cond.fieldLink RX7 25 "WrongedMetersModel" "round" "[I" ∈ wsX7_walks := by decide +kernel
theorem hyX7_walks : yX7_walks.cls = RX7 ∧ yX7_walks.cls ≠ "java/lang/invoke/MethodHandle" ∧ yX7_walks.cls ≠ "java/lang/invoke/VarHandle" ∧ (parseMethodDescriptor yX7_walks.desc).map (fun d => d.parameters.length) = some 1 := by decide +kernel
set_option maxHeartbeats 3000000 in
set_option maxRecDepth 100000 in
theorem kX7_walks (l : Launch) (D : va_G) (cy : Nat → ClassId) (K : zK) (n : Nat) (ad : Nat → Nat) (hJ : zJ n ad) (hO : zModel cy K n ad) (t : zM) (q H N : Nat) (hq : q < 4) (hm0 : mS H N t) : zI l yX7_walks wsX7_walks 5 D cy K n ad t [.ref (ad (0)), .int (nI q)] (fun r t1 => r = rX7_walks t q ∧ t1 = sX7_walks t q) := by
  refine z_startI (cc := cX7_walks) (mL := 5) (ret := (some .int)) (own := RX7) rfl (by decide +kernel) rfl hJ (Nat.le_of_ble_eq_true rfl) ?_
  intro p e s m args below meth c A hA Q hQ C
  refine z_aload_n C 0 0 0 dX7_walks_0 rfl rfl ?_
  refine z_iload_n C 1 1 1 dX7_walks_1 rfl rfl ?_
  refine z_virtIe C 2 (As := [.int (nI q)]) (st := []) (id := 0) (kX7_rounds l D cy K n ad hJ hO t q H N hq hm0) dX7_walks_2 rfl gX7_walks_X7_rounds hyX7_rounds rfl (by decide) (by decide) hO.h0 rfl hO.e0 rfl rfl rfl (Nat.le_of_ble_eq_true rfl) ?_
  refine z_istore_n C 5 2 ([(2, .int (rX7_rounds t q)), (0, .ref (ad (0))), (1, .int (nI q))]) dX7_walks_5 rfl (by decide) rfl ?_
  refine z_iconst C 6 (v := 0) dX7_walks_6 (by decide +kernel) ?_
  refine z_istore_n C 7 3 ([(3, .int 0), (2, .int (rX7_rounds t q)), (0, .ref (ad (0))), (1, .int (nI q))]) dX7_walks_7 rfl (by decide) rfl ?_
  refine z_iconst C 8 (v := 0) dX7_walks_8 (by decide +kernel) ?_
  refine z_istore C 9 4 ([(4, .int 0), (3, .int 0), (2, .int (rX7_rounds t q)), (0, .ref (ad (0))), (1, .int (nI q))]) dX7_walks_9 (by decide) rfl ?_
  have L11 : ∀ (j : Nat) (k : Nat) (v : Int32) (u : zM), (h0_11 : 25 ≤ k + j) → (hk : k ≤ 24) → (hm : mS H N u) → (hI11 : rX7_walks t q = (lX7_walks_11 t q j k v u)) → (hS11 : sX7_walks t q = (lsX7_walks_11 t q j k v u)) → Zw p l e (zR 5) s m args below meth c D A K n ad 5 Q 11 ([(4, .int (nI k)), (3, .int v), (2, .int (rX7_rounds t q)), (0, .ref (ad (0))), (1, .int (nI q))]) [] u := by
    intro j
    induction j with
    | zero =>
      intro k v u h0_11 hk hm hI11 hS11
      exact absurd h0_11 (by omega)
    | succ j ih11 =>
      intro k v u h0_11 hk hm hI11 hS11
      refine z_iload C 11 4 0 dX7_walks_11 rfl ?_
      refine z_iload_n C 13 2 2 dX7_walks_13 rfl rfl ?_
      refine z_icmp_ge C 14 90 dX7_walks_14 (by decide) (fun c14_2 => ?_) (fun c14_2 => ?_)
      · refine z_iload_n C 90 3 1 dX7_walks_90 rfl rfl ?_
        exact z_iret C 91 hA hQ rfl dX7_walks_91 ⟨((hI11.trans ((if_pos c14_2).trans rfl))).symm, ((hS11.trans ((if_pos c14_2).trans rfl))).symm⟩
      · refine z_iload_n C 17 3 1 dX7_walks_17 rfl rfl ?_
        refine z_aload_n C 18 0 3 dX7_walks_18 rfl rfl ?_
        refine z_getr C 19 (a9 := ad (1)) (0) 0 dX7_walks_19 hO.h0 hO.e0 mX7_walks_in7 rfl (by decide) mX7_walks_f7 (fun _ => rfl) ?_
        refine z_sipush C 22 (v := 410) dX7_walks_22 (by decide +kernel) ?_
        refine z_ialdN C 25 (1) 410 dX7_walks_25 hO.h1 hO.e1 rfl (by decide) (by decide) ?_
        refine z_icmp_ge C 26 90 dX7_walks_26 (by decide) (fun c26_3 => ?_) (fun c26_3 => ?_)
        · refine z_iload_n C 90 3 1 dX7_walks_90 rfl rfl ?_
          exact z_iret C 91 hA hQ rfl dX7_walks_91 ⟨((hI11.trans ((if_neg c14_2).trans ((if_pos c26_3).trans rfl)))).symm, ((hS11.trans ((if_neg c14_2).trans ((if_pos c26_3).trans rfl)))).symm⟩
        · refine z_aload_n C 29 0 3 dX7_walks_29 rfl rfl ?_
          refine z_aload_n C 30 0 3 dX7_walks_30 rfl rfl ?_
          refine z_getr C 31 (a9 := ad (6)) (0) 8 dX7_walks_31 hO.h0 hO.e0 mX7_walks_in7 rfl (by decide) mX7_walks_f25 (fun _ => rfl) ?_
          refine z_iload C 34 4 0 dX7_walks_34 rfl ?_
          refine z_ialdN C 36 (6) k dX7_walks_36 hO.h6 hO.e6 rfl (zrnd_lt (rX7_rounds_le hm0) hk ‹¬ (rX7_rounds t (q)) ≤ nI k›) (by decide) ?_
          refine z_virtIe C 37 (As := [.int (u (6) k)]) (st := []) (id := 0) (kX7_barred l D cy K n ad hJ hO u (u (6) k) ((u (6) k).toNatClampNeg) (hm.rnd (zrnd_lt (rX7_rounds_le hm0) hk ‹¬ (rX7_rounds t (q)) ≤ nI k›)).1 (hm.rnd (zrnd_lt (rX7_rounds_le hm0) hk ‹¬ (rX7_rounds t (q)) ≤ nI k›)).2) dX7_walks_37 rfl gX7_walks_X7_barred hyX7_barred rfl (by decide) (by decide) hO.h0 rfl hO.e0 rfl rfl rfl (Nat.le_of_ble_eq_true rfl) ?_
          refine z_if_ne C 40 84 dX7_walks_40 (by decide) (fun c40_5 => ?_) (fun c40_5 => ?_)
          · refine z_iinc C 84 (v := nI (k + 1)) 4 0 ([(4, .int (nI (k + 1))), (3, .int v), (2, .int (rX7_rounds t q)), (0, .ref (ad (0))), (1, .int (nI q))]) dX7_walks_84 rfl (nI_1 _) (by decide) rfl ?_
            refine z_goto C 87 11 dX7_walks_87 (by decide) ?_
            refine z_ls [0, 1, 2, 3, 4] _ rfl ?_
            exact ih11 (k + 1) v u (by omega) (by have := (zrnd_lt (rX7_rounds_le hm0) hk ‹¬ (rX7_rounds t (q)) ≤ nI k›); omega) hm (hI11.trans ((if_neg c14_2).trans ((if_neg c26_3).trans ((if_neg c40_5).trans rfl)))) (hS11.trans ((if_neg c14_2).trans ((if_neg c26_3).trans ((if_neg c40_5).trans rfl))))
          · refine z_iload_n C 43 3 1 dX7_walks_43 rfl rfl ?_
            refine z_aload_n C 44 0 3 dX7_walks_44 rfl rfl ?_
            refine z_aload_n C 45 0 3 dX7_walks_45 rfl rfl ?_
            refine z_getr C 46 (a9 := ad (6)) (0) 8 dX7_walks_46 hO.h0 hO.e0 mX7_walks_in7 rfl (by decide) mX7_walks_f25 (fun _ => rfl) ?_
            refine z_iload C 49 4 0 dX7_walks_49 rfl ?_
            refine z_ialdN C 51 (6) k dX7_walks_51 hO.h6 hO.e6 rfl (zrnd_lt (rX7_rounds_le hm0) hk ‹¬ (rX7_rounds t (q)) ≤ nI k›) (by decide) ?_
            refine z_virtIe C 52 (As := [.int (u (6) k)]) (st := [.int v]) (id := 0) (kX7_reads l D cy K n ad hJ hO u (u (6) k) ((u (6) k).toNatClampNeg) (hm.rnd (zrnd_lt (rX7_rounds_le hm0) hk ‹¬ (rX7_rounds t (q)) ≤ nI k›)).1 (hm.rnd (zrnd_lt (rX7_rounds_le hm0) hk ‹¬ (rX7_rounds t (q)) ≤ nI k›)).2) dX7_walks_52 rfl gX7_walks_X7_reads hyX7_reads rfl (by decide) (by decide) hO.h0 rfl hO.e0 rfl rfl rfl (Nat.le_of_ble_eq_true rfl) ?_
            refine z_if_ge C 55 62 dX7_walks_55 (by decide) (fun c55_7 => ?_) (fun c55_7 => ?_)
            · refine z_iconst C 62 (v := 1) dX7_walks_62 (by decide +kernel) ?_
              refine z_iadd C 63 dX7_walks_63 ?_
              refine z_istore_n C 64 3 ([(3, .int (v + 1)), (4, .int (nI k)), (2, .int (rX7_rounds t q)), (0, .ref (ad (0))), (1, .int (nI q))]) dX7_walks_64 rfl (by decide) rfl ?_
              refine z_aload_n C 65 0 3 dX7_walks_65 rfl rfl ?_
              refine z_getr C 66 (a9 := ad (1)) (0) 0 dX7_walks_66 hO.h0 hO.e0 mX7_walks_in7 rfl (by decide) mX7_walks_f7 (fun _ => rfl) ?_
              refine z_sipush C 69 (v := 336) dX7_walks_69 (by decide +kernel) ?_
              refine z_iload_n C 72 1 4 dX7_walks_72 rfl rfl ?_
              refine z_iadd C 73 dX7_walks_73 ?_
              refine z_aload_n C 74 0 3 dX7_walks_74 rfl rfl ?_
              refine z_getr C 75 (a9 := ad (6)) (0) 8 dX7_walks_75 hO.h0 hO.e0 mX7_walks_in7 rfl (by decide) mX7_walks_f25 (fun _ => rfl) ?_
              refine z_iload C 78 4 1 dX7_walks_78 rfl ?_
              refine z_ialdN C 80 (6) k dX7_walks_80 hO.h6 hO.e6 rfl (zrnd_lt (rX7_rounds_le hm0) hk ‹¬ (rX7_rounds t (q)) ≤ nI k›) (by decide) ?_
              refine z_nv (u (6) k) (congrFun (sX7_reads_o _ _ _ (by decide)) k) ?_
              refine z_iconst C 81 (v := 1) dX7_walks_81 (by decide +kernel) ?_
              refine z_iadd C 82 dX7_walks_82 ?_
              refine z_iastN C 83 (1) (336 + q) dX7_walks_83 hO.h1 hO.e1 (nI_add 336 q) (by omega) (by decide) ?_
              refine z_iinc C 84 (v := nI (k + 1)) 4 1 ([(4, .int (nI (k + 1))), (3, .int (v + 1)), (2, .int (rX7_rounds t q)), (0, .ref (ad (0))), (1, .int (nI q))]) dX7_walks_84 rfl (nI_1 _) (by decide) rfl ?_
              refine z_goto C 87 11 dX7_walks_87 (by decide) ?_
              refine z_ls [0, 1, 2, 3, 4] _ rfl ?_
              exact ih11 (k + 1) (v + 1) (zset (sX7_reads u (u (6) k) ((u (6) k).toNatClampNeg)) (1) (336 + q) ((u (6) k) + 1)) (by omega) (by have := (zrnd_lt (rX7_rounds_le hm0) hk ‹¬ (rX7_rounds t (q)) ≤ nI k›); omega) (mS_setW (sX7_reads_S (hm.rnd (zrnd_lt (rX7_rounds_le hm0) hk ‹¬ (rX7_rounds t (q)) ≤ nI k›)).1 hm) hq ((congrArg (· + 1) (hm.rnd (zrnd_lt (rX7_rounds_le hm0) hk ‹¬ (rX7_rounds t (q)) ≤ nI k›)).2).trans (nI_1 _)) (hm.rnd (zrnd_lt (rX7_rounds_le hm0) hk ‹¬ (rX7_rounds t (q)) ≤ nI k›)).1) (hI11.trans ((if_neg c14_2).trans ((if_neg c26_3).trans ((if_pos c40_5).trans ((if_pos c55_7).trans rfl))))) (hS11.trans ((if_neg c14_2).trans ((if_neg c26_3).trans ((if_pos c40_5).trans ((if_pos c55_7).trans rfl)))))
            · refine z_iconst C 58 (v := 0) dX7_walks_58 (by decide +kernel) ?_
              refine z_goto C 59 63 dX7_walks_59 (by decide) ?_
              refine z_iadd C 63 dX7_walks_63 ?_
              refine z_istore_n C 64 3 ([(3, .int (v + 0)), (4, .int (nI k)), (2, .int (rX7_rounds t q)), (0, .ref (ad (0))), (1, .int (nI q))]) dX7_walks_64 rfl (by decide) rfl ?_
              refine z_aload_n C 65 0 3 dX7_walks_65 rfl rfl ?_
              refine z_getr C 66 (a9 := ad (1)) (0) 0 dX7_walks_66 hO.h0 hO.e0 mX7_walks_in7 rfl (by decide) mX7_walks_f7 (fun _ => rfl) ?_
              refine z_sipush C 69 (v := 336) dX7_walks_69 (by decide +kernel) ?_
              refine z_iload_n C 72 1 4 dX7_walks_72 rfl rfl ?_
              refine z_iadd C 73 dX7_walks_73 ?_
              refine z_aload_n C 74 0 3 dX7_walks_74 rfl rfl ?_
              refine z_getr C 75 (a9 := ad (6)) (0) 8 dX7_walks_75 hO.h0 hO.e0 mX7_walks_in7 rfl (by decide) mX7_walks_f25 (fun _ => rfl) ?_
              refine z_iload C 78 4 1 dX7_walks_78 rfl ?_
              refine z_ialdN C 80 (6) k dX7_walks_80 hO.h6 hO.e6 rfl (zrnd_lt (rX7_rounds_le hm0) hk ‹¬ (rX7_rounds t (q)) ≤ nI k›) (by decide) ?_
              refine z_nv (u (6) k) (congrFun (sX7_reads_o _ _ _ (by decide)) k) ?_
              refine z_iconst C 81 (v := 1) dX7_walks_81 (by decide +kernel) ?_
              refine z_iadd C 82 dX7_walks_82 ?_
              refine z_iastN C 83 (1) (336 + q) dX7_walks_83 hO.h1 hO.e1 (nI_add 336 q) (by omega) (by decide) ?_
              refine z_iinc C 84 (v := nI (k + 1)) 4 1 ([(4, .int (nI (k + 1))), (3, .int (v + 0)), (2, .int (rX7_rounds t q)), (0, .ref (ad (0))), (1, .int (nI q))]) dX7_walks_84 rfl (nI_1 _) (by decide) rfl ?_
              refine z_goto C 87 11 dX7_walks_87 (by decide) ?_
              refine z_ls [0, 1, 2, 3, 4] _ rfl ?_
              exact ih11 (k + 1) (v + 0) (zset (sX7_reads u (u (6) k) ((u (6) k).toNatClampNeg)) (1) (336 + q) ((u (6) k) + 1)) (by omega) (by have := (zrnd_lt (rX7_rounds_le hm0) hk ‹¬ (rX7_rounds t (q)) ≤ nI k›); omega) (mS_setW (sX7_reads_S (hm.rnd (zrnd_lt (rX7_rounds_le hm0) hk ‹¬ (rX7_rounds t (q)) ≤ nI k›)).1 hm) hq ((congrArg (· + 1) (hm.rnd (zrnd_lt (rX7_rounds_le hm0) hk ‹¬ (rX7_rounds t (q)) ≤ nI k›)).2).trans (nI_1 _)) (hm.rnd (zrnd_lt (rX7_rounds_le hm0) hk ‹¬ (rX7_rounds t (q)) ≤ nI k›)).1) (hI11.trans ((if_neg c14_2).trans ((if_neg c26_3).trans ((if_pos c40_5).trans ((if_neg c55_7).trans rfl))))) (hS11.trans ((if_neg c14_2).trans ((if_neg c26_3).trans ((if_pos c40_5).trans ((if_neg c55_7).trans rfl)))))
  refine z_ls [0, 1, 2, 3, 4] _ rfl ?_
  exact L11 (25) 0 0 (sX7_rounds t q) (by omega) (by decide) (sX7_rounds_S hm0) rfl rfl
theorem lsX7_walks_11_S {H N q : Nat} {t : zM} (hq : q < 4) (hm0 : mS H N t) : ∀ (j k : Nat) (v : Int32) (u : zM), k ≤ 24 → mS H N u → mS H N (lsX7_walks_11 t q j k v u) := by
  intro j
  induction j with
  | zero => intro k v u hk h; exact h
  | succ j ih =>
    intro k v u hk hm
    unfold lsX7_walks_11
    split
    · exact hm
    · have hlt : k < 24 := zrnd_lt (rX7_rounds_le hm0) hk (by assumption)
      repeat' split
      all_goals first
        | exact hm
        | exact ih _ _ _ hlt hm
        | exact ih _ _ _ hlt (mS_setW (sX7_reads_S (hm.rnd hlt).1 hm) hq ((congrArg (· + 1) (hm.rnd hlt).2).trans (nI_1 _)) (hm.rnd hlt).1)
theorem sX7_walks_S {H N q : Nat} {t : zM} (hq : q < 4) (hm0 : mS H N t) : mS H N (sX7_walks t q) := lsX7_walks_11_S hq hm0 _ _ _ _ (by decide) (sX7_rounds_S hm0)
def lsX7_refunds_14 (t : zM) : Nat → Nat → zM → zM
  | 0, _, u => u
  | j + 1, k, u => (if (u (1) 401) ≤ nI k then u else (if (u (1) (14 * k + 4)) < (u (1) 412) then (lsX7_refunds_14 t j (k + 1) u) else (lsX7_refunds_14 t j (k + 1) (zset (zset (zset (zset u (1) (14 * k + 4) ((u (1) (14 * k + 4)) + (-100))) (1) (14 * k + 12) ((u (1) (14 * k + 12)) + 1)) (1) 406 ((u (1) 406) + 1)) (1) 407 ((u (1) 407) + (u (1) 411))))))
def sX7_refunds (t : zM)  : zM := (lsX7_refunds_14 t 25 0 (zset t (1) 408 ((t (1) 408) + 1)))
theorem mX7_refunds_f7 : Cond.fieldLink RX7 7 "WrongedMetersModel" "s" "[I" ∈ wsX7_refunds := by decide +kernel
set_option maxRecDepth 20000 in
theorem mX7_refunds_in7 : ∀ w ∈ u_ws RX7 TX7 16, w ∈ wsX7_refunds := by decide +kernel
theorem hyX7_refunds : yX7_refunds.cls = RX7 ∧ yX7_refunds.cls ≠ "java/lang/invoke/MethodHandle" ∧ yX7_refunds.cls ≠ "java/lang/invoke/VarHandle" ∧ (parseMethodDescriptor yX7_refunds.desc).map (fun d => d.parameters.length) = some 0 := by decide +kernel
set_option maxHeartbeats 3000000 in
set_option maxRecDepth 100000 in
theorem kX7_refunds (l : Launch) (D : va_G) (cy : Nat → ClassId) (K : zK) (n : Nat) (ad : Nat → Nat) (hJ : zJ n ad) (hO : zModel cy K n ad) (t : zM) (H N : Nat) (hm0 : mS H N t) : zV l yX7_refunds wsX7_refunds 1 D cy K n ad t [.ref (ad (0))] (fun t1 => t1 = sX7_refunds t) := by
  refine z_startV (cc := cX7_refunds) (mL := 2) (ret := none) (own := RX7) rfl (by decide +kernel) rfl hJ (Nat.le_of_ble_eq_true rfl) ?_
  intro p e s m args below meth c A hA Q hQ C
  refine z_aload_n C 0 0 0 dX7_refunds_0 rfl rfl ?_
  refine z_getr C 1 (a9 := ad (1)) (0) 0 dX7_refunds_1 hO.h0 hO.e0 mX7_refunds_in7 rfl (by decide) mX7_refunds_f7 (fun _ => rfl) ?_
  refine z_sipush C 4 (v := 408) dX7_refunds_4 (by decide +kernel) ?_
  refine z_dup2 C 7 dX7_refunds_7 rfl rfl ?_
  refine z_ialdN C 8 (1) 408 dX7_refunds_8 hO.h1 hO.e1 rfl (by decide) (by decide) ?_
  refine z_iconst C 9 (v := 1) dX7_refunds_9 (by decide +kernel) ?_
  refine z_iadd C 10 dX7_refunds_10 ?_
  refine z_iastN C 11 (1) 408 dX7_refunds_11 hO.h1 hO.e1 rfl (by decide) (by decide) ?_
  refine z_iconst C 12 (v := 0) dX7_refunds_12 (by decide +kernel) ?_
  refine z_istore_n C 13 1 ([(1, .int 0), (0, .ref (ad (0)))]) dX7_refunds_13 rfl (by decide) rfl ?_
  have L14 : ∀ (j : Nat) (k : Nat) (u : zM), (h0_14 : 25 ≤ k + j) → (hk : k ≤ H) → (hm : mS H N u) → (hS14 : sX7_refunds t = (lsX7_refunds_14 t j k u)) → Zw p l e (zR 1) s m args below meth c D A K n ad 2 Q 14 ([(1, .int (nI k)), (0, .ref (ad (0)))]) [] u := by
    intro j
    induction j with
    | zero =>
      intro k u h0_14 hk hm hS14
      exact absurd h0_14 (by have := hm.1; omega)
    | succ j ih14 =>
      intro k u h0_14 hk hm hS14
      refine z_iload_n C 14 1 0 dX7_refunds_14 rfl rfl ?_
      refine z_aload_n C 15 0 1 dX7_refunds_15 rfl rfl ?_
      refine z_getr C 16 (a9 := ad (1)) (0) 0 dX7_refunds_16 hO.h0 hO.e0 mX7_refunds_in7 rfl (by decide) mX7_refunds_f7 (fun _ => rfl) ?_
      refine z_sipush C 19 (v := 401) dX7_refunds_19 (by decide +kernel) ?_
      refine z_ialdN C 22 (1) 401 dX7_refunds_22 hO.h1 hO.e1 rfl (by decide) (by decide) ?_
      refine z_icmp_ge C 23 96 dX7_refunds_23 (by decide) (fun c23_1 => ?_) (fun c23_1 => ?_)
      · exact z_vret C 96 hA hQ rfl dX7_refunds_96 ((hS14.trans ((if_pos c23_1).trans rfl))).symm
      · refine z_aload_n C 26 0 1 dX7_refunds_26 rfl rfl ?_
        refine z_iload_n C 27 1 0 dX7_refunds_27 rfl rfl ?_
        refine z_iconst C 28 (v := 4) dX7_refunds_28 (by decide +kernel) ?_
        refine z_virtIe C 29 (As := [.int (nI k), .int 4]) (st := []) (id := 0) (kX7_of l D cy K n ad hJ hO u (nI k) 4 k 4 (Nat.lt_of_lt_of_le (hm.lt (Nat.le_trans hk hm.1) ‹¬ u (1) 401 ≤ nI k›) hm.1) (by decide) rfl rfl) dX7_refunds_29 rfl gX7_refunds_X7_of hyX7_of rfl (by decide) (by decide) hO.h0 rfl hO.e0 rfl rfl rfl (Nat.le_of_ble_eq_true rfl) ?_
        refine z_nv (u (1) (14 * k + 4)) rfl ?_
        refine z_aload_n C 32 0 1 dX7_refunds_32 rfl rfl ?_
        refine z_getr C 33 (a9 := ad (1)) (0) 0 dX7_refunds_33 hO.h0 hO.e0 mX7_refunds_in7 rfl (by decide) mX7_refunds_f7 (fun _ => rfl) ?_
        refine z_sipush C 36 (v := 412) dX7_refunds_36 (by decide +kernel) ?_
        refine z_ialdN C 39 (1) 412 dX7_refunds_39 hO.h1 hO.e1 rfl (by decide) (by decide) ?_
        refine z_icmp_lt C 40 90 dX7_refunds_40 (by decide) (fun c40_3 => ?_) (fun c40_3 => ?_)
        · refine z_iinc C 90 (v := nI (k + 1)) 1 0 ([(1, .int (nI (k + 1))), (0, .ref (ad (0)))]) dX7_refunds_90 rfl (nI_1 _) (by decide) rfl ?_
          refine z_goto C 93 14 dX7_refunds_93 (by decide) ?_
          refine z_ls [0, 1] _ rfl ?_
          exact ih14 (k + 1) u (by omega) (hm.lt (Nat.le_trans hk hm.1) ‹¬ u (1) 401 ≤ nI k›) hm (hS14.trans ((if_neg c23_1).trans ((if_pos c40_3).trans rfl)))
        · refine z_aload_n C 43 0 1 dX7_refunds_43 rfl rfl ?_
          refine z_iload_n C 44 1 0 dX7_refunds_44 rfl rfl ?_
          refine z_iconst C 45 (v := 4) dX7_refunds_45 (by decide +kernel) ?_
          refine z_bipush C 46 (v := (-100)) dX7_refunds_46 (by decide +kernel) ?_
          refine z_virtVe C 48 (As := [.int (nI k), .int 4, .int (-100)]) (st := []) (id := 0) (kX7_adds l D cy K n ad hJ hO u (nI k) 4 (-100) k 4 (Nat.lt_of_lt_of_le (hm.lt (Nat.le_trans hk hm.1) ‹¬ u (1) 401 ≤ nI k›) hm.1) (by decide) rfl rfl) dX7_refunds_48 rfl gX7_refunds_X7_adds hyX7_adds rfl (by decide) (by decide) hO.h0 rfl hO.e0 rfl rfl rfl (Nat.le_of_ble_eq_true rfl) ?_
          refine z_nt (zset u (1) (14 * k + 4) ((u (1) (14 * k + 4)) + (-100))) rfl ?_
          refine z_aload_n C 51 0 1 dX7_refunds_51 rfl rfl ?_
          refine z_iload_n C 52 1 0 dX7_refunds_52 rfl rfl ?_
          refine z_bipush C 53 (v := 12) dX7_refunds_53 (by decide +kernel) ?_
          refine z_iconst C 55 (v := 1) dX7_refunds_55 (by decide +kernel) ?_
          refine z_virtVe C 56 (As := [.int (nI k), .int 12, .int 1]) (st := []) (id := 0) (kX7_adds l D cy K n ad hJ hO (zset u (1) (14 * k + 4) ((u (1) (14 * k + 4)) + (-100))) (nI k) 12 1 k 12 (Nat.lt_of_lt_of_le (hm.lt (Nat.le_trans hk hm.1) ‹¬ u (1) 401 ≤ nI k›) hm.1) (by decide) rfl rfl) dX7_refunds_56 rfl gX7_refunds_X7_adds hyX7_adds rfl (by decide) (by decide) hO.h0 rfl hO.e0 rfl rfl rfl (Nat.le_of_ble_eq_true rfl) ?_
          refine z_nt (zset (zset u (1) (14 * k + 4) ((u (1) (14 * k + 4)) + (-100))) (1) (14 * k + 12) ((u (1) (14 * k + 12)) + 1)) (congrArg (fun z9 => zset (zset u (1) (14 * k + 4) ((u (1) (14 * k + 4)) + (-100))) 1 (14 * k + 12) (z9 + 1)) ((zset_nk _ _ _ (by omega)).trans rfl)) ?_
          refine z_aload_n C 59 0 1 dX7_refunds_59 rfl rfl ?_
          refine z_getr C 60 (a9 := ad (1)) (0) 0 dX7_refunds_60 hO.h0 hO.e0 mX7_refunds_in7 rfl (by decide) mX7_refunds_f7 (fun _ => rfl) ?_
          refine z_sipush C 63 (v := 406) dX7_refunds_63 (by decide +kernel) ?_
          refine z_dup2 C 66 dX7_refunds_66 rfl rfl ?_
          refine z_ialdN C 67 (1) 406 dX7_refunds_67 hO.h1 hO.e1 rfl (by decide) (by decide) ?_
          refine z_nv (u (1) 406) ((zset_nk _ _ _ (by omega)).trans ((zset_nk _ _ _ (by omega)).trans rfl)) ?_
          refine z_iconst C 68 (v := 1) dX7_refunds_68 (by decide +kernel) ?_
          refine z_iadd C 69 dX7_refunds_69 ?_
          refine z_iastN C 70 (1) 406 dX7_refunds_70 hO.h1 hO.e1 rfl (by decide) (by decide) ?_
          refine z_aload_n C 71 0 1 dX7_refunds_71 rfl rfl ?_
          refine z_getr C 72 (a9 := ad (1)) (0) 0 dX7_refunds_72 hO.h0 hO.e0 mX7_refunds_in7 rfl (by decide) mX7_refunds_f7 (fun _ => rfl) ?_
          refine z_sipush C 75 (v := 407) dX7_refunds_75 (by decide +kernel) ?_
          refine z_dup2 C 78 dX7_refunds_78 rfl rfl ?_
          refine z_ialdN C 79 (1) 407 dX7_refunds_79 hO.h1 hO.e1 rfl (by decide) (by decide) ?_
          refine z_nv (u (1) 407) ((zset_nk _ _ _ (by decide)).trans ((zset_nk _ _ _ (by omega)).trans ((zset_nk _ _ _ (by omega)).trans rfl))) ?_
          refine z_aload_n C 80 0 1 dX7_refunds_80 rfl rfl ?_
          refine z_getr C 81 (a9 := ad (1)) (0) 0 dX7_refunds_81 hO.h0 hO.e0 mX7_refunds_in7 rfl (by decide) mX7_refunds_f7 (fun _ => rfl) ?_
          refine z_sipush C 84 (v := 411) dX7_refunds_84 (by decide +kernel) ?_
          refine z_ialdN C 87 (1) 411 dX7_refunds_87 hO.h1 hO.e1 rfl (by decide) (by decide) ?_
          refine z_nv (u (1) 411) ((zset_nk _ _ _ (by decide)).trans ((zset_nk _ _ _ (by omega)).trans ((zset_nk _ _ _ (by omega)).trans rfl))) ?_
          refine z_iadd C 88 dX7_refunds_88 ?_
          refine z_iastN C 89 (1) 407 dX7_refunds_89 hO.h1 hO.e1 rfl (by decide) (by decide) ?_
          refine z_iinc C 90 (v := nI (k + 1)) 1 0 ([(1, .int (nI (k + 1))), (0, .ref (ad (0)))]) dX7_refunds_90 rfl (nI_1 _) (by decide) rfl ?_
          refine z_goto C 93 14 dX7_refunds_93 (by decide) ?_
          refine z_ls [0, 1] _ rfl ?_
          exact ih14 (k + 1) (zset (zset (zset (zset u (1) (14 * k + 4) ((u (1) (14 * k + 4)) + (-100))) (1) (14 * k + 12) ((u (1) (14 * k + 12)) + 1)) (1) 406 ((u (1) 406) + 1)) (1) 407 ((u (1) 407) + (u (1) 411))) (by omega) (hm.lt (Nat.le_trans hk hm.1) ‹¬ u (1) 401 ≤ nI k›) (by have hk9 := (Nat.lt_of_lt_of_le (hm.lt (Nat.le_trans hk hm.1) ‹¬ u (1) 401 ≤ nI k›) hm.1); exact mS_set1 (mS_set1 (mS_set1 (mS_set1 hm (by omega) (by omega) (by omega) (by omega)) (by omega) (by omega) (by omega) (by omega)) (by omega) (by omega) (by omega) (by omega)) (by omega) (by omega) (by omega) (by omega)) (hS14.trans ((if_neg c23_1).trans ((if_neg c40_3).trans rfl)))
  refine z_ls [0, 1] _ rfl ?_
  exact L14 (25) 0 (zset t (1) 408 ((t (1) 408) + 1)) (by omega) (Nat.zero_le _) (mS_set1 hm0 (by omega) (by omega) (by omega) (by omega)) rfl
theorem lsX7_refunds_14_S {H N : Nat} (t : zM) : ∀ (j k : Nat) (u : zM), k ≤ H → mS H N u → mS H N (lsX7_refunds_14 t j k u) := by
  intro j
  induction j with
  | zero => intro k u hk h; exact h
  | succ j ih =>
    intro k u hk hm
    unfold lsX7_refunds_14
    split
    · exact hm
    · have hlt : k < H := hm.lt (Nat.le_trans hk hm.1) (by assumption)
      have := hm.1
      split
      · exact ih _ _ hlt hm
      · exact ih _ _ hlt (mS_set1 (mS_set1 (mS_set1 (mS_set1 hm (by omega) (by omega) (by omega) (by omega)) (by omega) (by omega) (by omega) (by omega)) (by omega) (by omega) (by omega) (by omega)) (by omega) (by omega) (by omega) (by omega))
theorem sX7_refunds_S {H N : Nat} {t : zM} (hm : mS H N t) : mS H N (sX7_refunds t) := lsX7_refunds_14_S t _ _ _ (Nat.zero_le _) (mS_set1 hm (by decide) (by decide) (by decide) (by decide))
def lX7_day_2 (t : zM) (N : Nat) : Nat → Nat → zM → Int32
  | 0, _, _ => 0
  | j + 1, k, u => (if (u (1) 401) ≤ nI k then (if (zrem ((sX7_walks (zset u (1) 400 ((u (1) 400) + 1)) ((N + 1) % 4)) (1) 400) ((sX7_walks (zset u (1) 400 ((u (1) 400) + 1)) ((N + 1) % 4)) (1) 413)) = 0 then (rX7_walks (zset u (1) 400 ((u (1) 400) + 1)) ((N + 1) % 4)) else (rX7_walks (zset u (1) 400 ((u (1) 400) + 1)) ((N + 1) % 4))) else (lX7_day_2 t N j (k + 1) (zset u (1) (14 * k + 2) (zrem ((u (1) (14 * k + 2)) + (u (1) (14 * k + 5))) 100000))))
def lsX7_day_2 (t : zM) (N : Nat) : Nat → Nat → zM → zM
  | 0, _, u => u
  | j + 1, k, u => (if (u (1) 401) ≤ nI k then (if (zrem ((sX7_walks (zset u (1) 400 ((u (1) 400) + 1)) ((N + 1) % 4)) (1) 400) ((sX7_walks (zset u (1) 400 ((u (1) 400) + 1)) ((N + 1) % 4)) (1) 413)) = 0 then (sX7_refunds (sX7_walks (zset u (1) 400 ((u (1) 400) + 1)) ((N + 1) % 4))) else (sX7_walks (zset u (1) 400 ((u (1) 400) + 1)) ((N + 1) % 4))) else (lsX7_day_2 t N j (k + 1) (zset u (1) (14 * k + 2) (zrem ((u (1) (14 * k + 2)) + (u (1) (14 * k + 5))) 100000))))
def rX7_day (t : zM) (N : Nat) : Int32 := (lX7_day_2 t N 25 0 t)
def sX7_day (t : zM) (N : Nat) : zM := (lsX7_day_2 t N 25 0 t)
theorem mX7_day_f7 : Cond.fieldLink RX7 7 "WrongedMetersModel" "s" "[I" ∈ wsX7_day := by decide +kernel
set_option maxRecDepth 20000 in
theorem mX7_day_in7 : ∀ w ∈ u_ws RX7 TX7 16, w ∈ wsX7_day := by decide +kernel
theorem mX7_day_c48 : Cond.constant RX7 48 (100000) ∈ wsX7_day := by decide +kernel
theorem hyX7_day : yX7_day.cls = RX7 ∧ yX7_day.cls ≠ "java/lang/invoke/MethodHandle" ∧ yX7_day.cls ≠ "java/lang/invoke/VarHandle" ∧ (parseMethodDescriptor yX7_day.desc).map (fun d => d.parameters.length) = some 0 := by decide +kernel
set_option maxHeartbeats 3000000 in
set_option maxRecDepth 100000 in
theorem kX7_day (l : Launch) (D : va_G) (cy : Nat → ClassId) (K : zK) (n : Nat) (ad : Nat → Nat) (hJ : zJ n ad) (hO : zModel cy K n ad) (t : zM) (H N : Nat) (hN : N ≤ 20000) (hm0 : mS H N t) : zI l yX7_day wsX7_day 6 D cy K n ad t [.ref (ad (0))] (fun r t1 => r = rX7_day t N ∧ t1 = sX7_day t N) := by
  refine z_startI (cc := cX7_day) (mL := 2) (ret := (some .int)) (own := RX7) rfl (by decide +kernel) rfl hJ (Nat.le_of_ble_eq_true rfl) ?_
  intro p e s m args below meth c A hA Q hQ C
  refine z_iconst C 0 (v := 0) dX7_day_0 (by decide +kernel) ?_
  refine z_istore_n C 1 1 ([(1, .int 0), (0, .ref (ad (0)))]) dX7_day_1 rfl (by decide) rfl ?_
  have L2 : ∀ (j : Nat) (k : Nat) (u : zM), (h0_2 : 25 ≤ k + j) → (hk : k ≤ H) → (hm : mS H N u) → (hI2 : rX7_day t N = (lX7_day_2 t N j k u)) → (hS2 : sX7_day t N = (lsX7_day_2 t N j k u)) → Zw p l e (zR 6) s m args below meth c D A K n ad 2 Q 2 ([(1, .int (nI k)), (0, .ref (ad (0)))]) [] u := by
    intro j
    induction j with
    | zero =>
      intro k u h0_2 hk hm hI2 hS2
      exact absurd h0_2 (by have := hm.1; omega)
    | succ j ih2 =>
      intro k u h0_2 hk hm hI2 hS2
      refine z_iload_n C 2 1 0 dX7_day_2 rfl rfl ?_
      refine z_aload_n C 3 0 1 dX7_day_3 rfl rfl ?_
      refine z_getr C 4 (a9 := ad (1)) (0) 0 dX7_day_4 hO.h0 hO.e0 mX7_day_in7 rfl (by decide) mX7_day_f7 (fun _ => rfl) ?_
      refine z_sipush C 7 (v := 401) dX7_day_7 (by decide +kernel) ?_
      refine z_ialdN C 10 (1) 401 dX7_day_10 hO.h1 hO.e1 rfl (by decide) (by decide) ?_
      refine z_icmp_ge C 11 42 dX7_day_11 (by decide) (fun c11_1 => ?_) (fun c11_1 => ?_)
      · refine z_aload_n C 42 0 1 dX7_day_42 rfl rfl ?_
        refine z_getr C 43 (a9 := ad (1)) (0) 0 dX7_day_43 hO.h0 hO.e0 mX7_day_in7 rfl (by decide) mX7_day_f7 (fun _ => rfl) ?_
        refine z_sipush C 46 (v := 400) dX7_day_46 (by decide +kernel) ?_
        refine z_dup2 C 49 dX7_day_49 rfl rfl ?_
        refine z_ialdN C 50 (1) 400 dX7_day_50 hO.h1 hO.e1 rfl (by decide) (by decide) ?_
        refine z_iconst C 51 (v := 1) dX7_day_51 (by decide +kernel) ?_
        refine z_iadd C 52 dX7_day_52 ?_
        refine z_iastN C 53 (1) 400 dX7_day_53 hO.h1 hO.e1 rfl (by decide) (by decide) ?_
        refine z_aload_n C 54 0 1 dX7_day_54 rfl rfl ?_
        refine z_aload_n C 55 0 1 dX7_day_55 rfl rfl ?_
        refine z_getr C 56 (a9 := ad (1)) (0) 0 dX7_day_56 hO.h0 hO.e0 mX7_day_in7 rfl (by decide) mX7_day_f7 (fun _ => rfl) ?_
        refine z_sipush C 59 (v := 400) dX7_day_59 (by decide +kernel) ?_
        refine z_ialdN C 62 (1) 400 dX7_day_62 hO.h1 hO.e1 rfl (by decide) (by decide) ?_
        refine z_nv ((u (1) 400) + 1) (zset_eq _ _ _ _) ?_
        refine z_iconst C 63 (v := 4) dX7_day_63 (by decide +kernel) ?_
        refine z_irem C 64 dX7_day_64 (by decide) ?_
        refine z_nv (nI ((N + 1) % 4)) (by rw [hm.2.2.1, nI_1]; exact zrem_n (b := 4) (by omega) (by decide) (by decide)) ?_
        refine z_virtIe C 65 (As := [.int (nI ((N + 1) % 4))]) (st := []) (id := 0) (kX7_walks l D cy K n ad hJ hO (zset u (1) 400 ((u (1) 400) + 1)) ((N + 1) % 4) H (N + 1) (by omega) (mS_now hm)) dX7_day_65 rfl gX7_day_X7_walks hyX7_walks rfl (by decide) (by decide) hO.h0 rfl hO.e0 rfl rfl rfl (Nat.le_of_ble_eq_true rfl) ?_
        refine z_istore_n C 68 1 ([(1, .int (rX7_walks (zset u (1) 400 ((u (1) 400) + 1)) ((N + 1) % 4))), (0, .ref (ad (0)))]) dX7_day_68 rfl (by decide) rfl ?_
        refine z_aload_n C 69 0 1 dX7_day_69 rfl rfl ?_
        refine z_getr C 70 (a9 := ad (1)) (0) 0 dX7_day_70 hO.h0 hO.e0 mX7_day_in7 rfl (by decide) mX7_day_f7 (fun _ => rfl) ?_
        refine z_sipush C 73 (v := 400) dX7_day_73 (by decide +kernel) ?_
        refine z_ialdN C 76 (1) 400 dX7_day_76 hO.h1 hO.e1 rfl (by decide) (by decide) ?_
        refine z_aload_n C 77 0 1 dX7_day_77 rfl rfl ?_
        refine z_getr C 78 (a9 := ad (1)) (0) 0 dX7_day_78 hO.h0 hO.e0 mX7_day_in7 rfl (by decide) mX7_day_f7 (fun _ => rfl) ?_
        refine z_sipush C 81 (v := 413) dX7_day_81 (by decide +kernel) ?_
        refine z_ialdN C 84 (1) 413 dX7_day_84 hO.h1 hO.e1 rfl (by decide) (by decide) ?_
        refine z_irem C 85 dX7_day_85 (sX7_walks_S (by omega) (mS_now hm)).2.2.2.2.2 ?_
        refine z_if_ne C 86 93 dX7_day_86 (by decide) (fun c86_3 => ?_) (fun c86_3 => ?_)
        · refine z_iload_n C 93 1 0 dX7_day_93 rfl rfl ?_
          exact z_iret C 94 hA hQ rfl dX7_day_94 ⟨((hI2.trans ((if_pos c11_1).trans ((if_neg c86_3).trans rfl)))).symm, ((hS2.trans ((if_pos c11_1).trans ((if_neg c86_3).trans rfl)))).symm⟩
        · refine z_aload_n C 89 0 1 dX7_day_89 rfl rfl ?_
          refine z_virtVe C 90 (As := []) (st := []) (id := 0) (kX7_refunds l D cy K n ad hJ hO (sX7_walks (zset u (1) 400 ((u (1) 400) + 1)) ((N + 1) % 4)) H (N + 1) (sX7_walks_S (by omega) (mS_now hm))) dX7_day_90 rfl gX7_day_X7_refunds hyX7_refunds rfl (by decide) (by decide) hO.h0 rfl hO.e0 rfl rfl rfl (Nat.le_of_ble_eq_true rfl) ?_
          refine z_iload_n C 93 1 0 dX7_day_93 rfl rfl ?_
          exact z_iret C 94 hA hQ rfl dX7_day_94 ⟨((hI2.trans ((if_pos c11_1).trans ((if_pos c86_3).trans rfl)))).symm, ((hS2.trans ((if_pos c11_1).trans ((if_pos c86_3).trans rfl)))).symm⟩
      · refine z_aload_n C 14 0 1 dX7_day_14 rfl rfl ?_
        refine z_iload_n C 15 1 0 dX7_day_15 rfl rfl ?_
        refine z_iconst C 16 (v := 2) dX7_day_16 (by decide +kernel) ?_
        refine z_aload_n C 17 0 1 dX7_day_17 rfl rfl ?_
        refine z_iload_n C 18 1 0 dX7_day_18 rfl rfl ?_
        refine z_iconst C 19 (v := 2) dX7_day_19 (by decide +kernel) ?_
        refine z_virtIe C 20 (As := [.int (nI k), .int 2]) (st := [.int 2, .int (nI k), .ref (ad (0))]) (id := 0) (kX7_of l D cy K n ad hJ hO u (nI k) 2 k 2 (Nat.lt_of_lt_of_le (hm.lt (Nat.le_trans hk hm.1) ‹¬ u (1) 401 ≤ nI k›) hm.1) (by decide) rfl rfl) dX7_day_20 rfl gX7_day_X7_of hyX7_of rfl (by decide) (by decide) hO.h0 rfl hO.e0 rfl rfl rfl (Nat.le_of_ble_eq_true rfl) ?_
        refine z_nv (u (1) (14 * k + 2)) rfl ?_
        refine z_aload_n C 23 0 1 dX7_day_23 rfl rfl ?_
        refine z_iload_n C 24 1 0 dX7_day_24 rfl rfl ?_
        refine z_iconst C 25 (v := 5) dX7_day_25 (by decide +kernel) ?_
        refine z_virtIe C 26 (As := [.int (nI k), .int 5]) (st := [.int (u (1) (14 * k + 2)), .int 2, .int (nI k), .ref (ad (0))]) (id := 0) (kX7_of l D cy K n ad hJ hO u (nI k) 5 k 5 (Nat.lt_of_lt_of_le (hm.lt (Nat.le_trans hk hm.1) ‹¬ u (1) 401 ≤ nI k›) hm.1) (by decide) rfl rfl) dX7_day_26 rfl gX7_day_X7_of hyX7_of rfl (by decide) (by decide) hO.h0 rfl hO.e0 rfl rfl rfl (Nat.le_of_ble_eq_true rfl) ?_
        refine z_nv (u (1) (14 * k + 5)) rfl ?_
        refine z_iadd C 29 dX7_day_29 ?_
        refine z_ldc C 30 (v := 100000) dX7_day_30 mX7_day_c48 ?_
        refine z_irem C 32 dX7_day_32 (by decide) ?_
        refine z_virtVe C 33 (As := [.int (nI k), .int 2, .int (zrem ((u (1) (14 * k + 2)) + (u (1) (14 * k + 5))) 100000)]) (st := []) (id := 0) (kX7_lay l D cy K n ad hJ hO u (nI k) 2 (zrem ((u (1) (14 * k + 2)) + (u (1) (14 * k + 5))) 100000) k 2 (Nat.lt_of_lt_of_le (hm.lt (Nat.le_trans hk hm.1) ‹¬ u (1) 401 ≤ nI k›) hm.1) (by decide) rfl rfl) dX7_day_33 rfl gX7_day_X7_lay hyX7_lay rfl (by decide) (by decide) hO.h0 rfl hO.e0 rfl rfl rfl (Nat.le_of_ble_eq_true rfl) ?_
        refine z_nt (zset u (1) (14 * k + 2) (zrem ((u (1) (14 * k + 2)) + (u (1) (14 * k + 5))) 100000)) rfl ?_
        refine z_iinc C 36 (v := nI (k + 1)) 1 0 ([(1, .int (nI (k + 1))), (0, .ref (ad (0)))]) dX7_day_36 rfl (nI_1 _) (by decide) rfl ?_
        refine z_goto C 39 2 dX7_day_39 (by decide) ?_
        refine z_ls [0, 1] _ rfl ?_
        exact ih2 (k + 1) (zset u (1) (14 * k + 2) (zrem ((u (1) (14 * k + 2)) + (u (1) (14 * k + 5))) 100000)) (by omega) (hm.lt (Nat.le_trans hk hm.1) ‹¬ u (1) 401 ≤ nI k›) (by have hk9 := (Nat.lt_of_lt_of_le (hm.lt (Nat.le_trans hk hm.1) ‹¬ u (1) 401 ≤ nI k›) hm.1); exact mS_set1 hm (by omega) (by omega) (by omega) (by omega)) (hI2.trans ((if_neg c11_1).trans rfl)) (hS2.trans ((if_neg c11_1).trans rfl))
  refine z_ls [0, 1] _ rfl ?_
  exact L2 (25) 0 t (by omega) (Nat.zero_le _) hm0 rfl rfl
theorem lsX7_day_2_S {H N : Nat} (t : zM) : ∀ (j k : Nat) (u : zM), 25 ≤ k + j → k ≤ H → mS H N u → mS H (N + 1) (lsX7_day_2 t N j k u) := by
  intro j
  induction j with
  | zero => intro k u h0 hk h; have := h.1; omega
  | succ j ih =>
    intro k u h0 hk hm
    unfold lsX7_day_2
    split
    · have h3 := sX7_walks_S (q := (N + 1) % 4) (by omega) (mS_now hm)
      split
      · exact sX7_refunds_S h3
      · exact h3
    · have hlt : k < H := hm.lt (Nat.le_trans hk hm.1) (by assumption)
      have := hm.1
      exact ih _ _ (by omega) hlt (mS_set1 hm (by omega) (by omega) (by omega) (by omega))
theorem sX7_day_S {H N : Nat} {t : zM} (hm : mS H N t) : mS H (N + 1) (sX7_day t N) := lsX7_day_2_S t _ _ _ (by omega) (Nat.zero_le _) hm
