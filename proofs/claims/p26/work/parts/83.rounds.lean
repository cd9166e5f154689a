/-! the law's rounds -/
/-- all but the buffers of a round is as it was -/
def lWs (t u : zM) : Prop := ∀ x y, (x ≠ 275 ∨ y < 4) → u x y = t x y
theorem lWs.rf {t : zM} : lWs t t := fun _ _ _ => rfl
theorem lWs.rd {t u : zM} (h : lWs t u) (q : Nat) : lWs t (sL_round u q) := fun x y hx => (sL_round_o u q hx).trans (h x y hx)
theorem lWs.up {t u : zM} (h : lWs t u) {x : Nat} (hx : x ≠ 275) : u x = t x := funext fun y => h x y (Or.inl hx)
theorem lWs.gd {t u : zM} (h : lWs t u) (hG : zGd t) : zGd u := hG.up (fun x hx => h.up (by omega))
theorem lWs.lS {H : Nat} {t u : zM} (h : lWs t u) (hm : lS H t) : lS H u := hm.fr (h 277 1 (Or.inl (by decide)))
def lOKr (q : Nat) (u : zM) : Prop := (∀ x, x < (rL_round u q).toNatClampNeg → rX6_next (sL_round u q) (nI q) (nI x) = sL_round u q 275 (4 + x)) ∧ rX6_next (sL_round u q) (nI q) (nI (rL_round u q).toNatClampNeg) = -1000004
def lL_areRounds_32 (t : zM) : Nat → Nat → zM → Int32
  | 0, _, _ => 0
  | j1 + 1, q, u => (if 4 ≤ nI q then 1 else (lL_areRounds_32 t j1 (q + 1) (sL_round u q)))
def lsL_areRounds_32 (t : zM) : Nat → Nat → zM → zM
  | 0, _, u => u
  | j1 + 1, q, u => (if 4 ≤ nI q then u else (lsL_areRounds_32 t j1 (q + 1) (sL_round u q)))
def rL_areRounds (t : zM)  : Int32 := (lL_areRounds_32 t 5 0 t)
def sL_areRounds (t : zM)  : zM := (lsL_areRounds_32 t 5 0 t)
theorem mL_areRounds_c42 : Cond.constant RL 42 (-1000001) ∈ wsL_areRounds := by decide +kernel
theorem mL_areRounds_c46 : Cond.constant RL 46 (-1000004) ∈ wsL_areRounds := by decide +kernel
theorem hyL_areRounds : yL_areRounds.cls ≠ "java/lang/invoke/MethodHandle" ∧ yL_areRounds.cls ≠ "java/lang/invoke/VarHandle" ∧ (parseMethodDescriptor yL_areRounds.desc).map (fun d => d.parameters.length) = some 4 := by decide +kernel
set_option maxHeartbeats 3000000 in
set_option maxRecDepth 100000 in
theorem kL_areRounds (l : Launch) (D : va_G) (cy : Nat → ClassId) (K : zK) (n : Nat) (ad : Nat → Nat) (hJ : zJ n ad) (t : zM) (H : Nat) (hO : zTop cy K n ad) (hW : zLw cy K n ad) (hG : zGd t) (hm : lS H t) (h1 : rX6_next t 4 0 = -1000001) (h2 : rX6_next t 0 (-1) = -1000001) (hAl : ∀ q, q < 4 → ∀ u, lWs t u → lOKr q u) : zI l yL_areRounds wsL_areRounds 3 D cy K n ad t [.ref (ad (270)), .ref (ad (271)), .ref (ad (275)), .ref (ad (277))] (fun r t1 => r = rL_areRounds t ∧ t1 = sL_areRounds t) := by
  refine z_startI (cc := cL_areRounds) (mL := 8) (ret := (some .boolean)) (own := RL) rfl (by decide +kernel) rfl hJ (Nat.le_of_ble_eq_true rfl) ?_
  intro p e s m args below meth c A hA Q hQ C
  refine z_aload_n C 0 0 0 dL_areRounds_0 rfl rfl ?_
  refine z_iconst C 1 (v := 4) dL_areRounds_1 (by decide +kernel) ?_
  refine z_iconst C 2 (v := 0) dL_areRounds_2 (by decide +kernel) ?_
  refine z_virtIe C 3 (As := [.int 4, .int 0]) (st := []) (id := 270) (kX6_next l D cy K n ad hJ hO t 4 0 hG) dL_areRounds_3 rfl gL_areRounds_X6_next hyX6_next rfl (by decide) (by decide) hO.h0 rfl hO.e0 rfl rfl rfl (Nat.le_of_ble_eq_true rfl) ?_
  refine z_ldc C 6 (v := (-1000001)) dL_areRounds_6 mL_areRounds_c42 ?_
  refine z_icmp_ne C 8 26 dL_areRounds_8 (by decide) (fun c8_2 => ?_) (fun c8_2 => ?_)
  · exact absurd h1 c8_2
  · refine z_aload_n C 11 0 0 dL_areRounds_11 rfl rfl ?_
    refine z_iconst C 12 (v := 0) dL_areRounds_12 (by decide +kernel) ?_
    refine z_iconst C 13 (v := (-1)) dL_areRounds_13 (by decide +kernel) ?_
    refine z_virtIe C 14 (As := [.int 0, .int (-1)]) (st := []) (id := 270) (kX6_next l D cy K n ad hJ hO t 0 (-1) hG) dL_areRounds_14 rfl gL_areRounds_X6_next hyX6_next rfl (by decide) (by decide) hO.h0 rfl hO.e0 rfl rfl rfl (Nat.le_of_ble_eq_true rfl) ?_
    refine z_ldc C 17 (v := (-1000001)) dL_areRounds_17 mL_areRounds_c42 ?_
    refine z_icmp_ne C 19 26 dL_areRounds_19 (by decide) (fun c19_4 => ?_) (fun c19_4 => ?_)
    · exact absurd h2 c19_4
    · refine z_iconst C 22 (v := 1) dL_areRounds_22 (by decide +kernel) ?_
      refine z_goto C 23 27 dL_areRounds_23 (by decide) ?_
      refine z_istore C 27 4 ([(4, .int 1), (0, .ref (ad (270))), (1, .ref (ad (271))), (2, .ref (ad (275))), (3, .ref (ad (277)))]) dL_areRounds_27 (by decide) rfl ?_
      refine z_iconst C 29 (v := 0) dL_areRounds_29 (by decide +kernel) ?_
      refine z_istore C 30 5 ([(5, .int 0), (4, .int 1), (0, .ref (ad (270))), (1, .ref (ad (271))), (2, .ref (ad (275))), (3, .ref (ad (277)))]) dL_areRounds_30 (by decide) rfl ?_
      have L32 : ∀ (j1 : Nat) (q : Nat) (u : zM), (h0_32 : 5 ≤ q + j1) → (hq : q ≤ 4) → (hws : lWs t u) → (hI32 : rL_areRounds t = (lL_areRounds_32 t j1 q u)) → (hS32 : sL_areRounds t = (lsL_areRounds_32 t j1 q u)) → Zw p l e (zR 3) s m args below meth c D A K n ad 8 Q 32 ([(5, .int (nI q)), (4, .int 1), (0, .ref (ad (270))), (1, .ref (ad (271))), (2, .ref (ad (275))), (3, .ref (ad (277)))]) [] u := by
        intro j1
        induction j1 with
        | zero =>
          intro q u h0_32 hq hws hI32 hS32
          exact absurd h0_32 (by omega)
        | succ j1 ih32 =>
          intro q u h0_32 hq hws hI32 hS32
          refine z_iload C 32 5 0 dL_areRounds_32 rfl ?_
          refine z_iconst C 34 (v := 4) dL_areRounds_34 (by decide +kernel) ?_
          refine z_icmp_ge C 35 129 dL_areRounds_35 (by decide) (fun c35_5 => ?_) (fun c35_5 => ?_)
          · refine z_iload C 129 4 1 dL_areRounds_129 rfl ?_
            exact z_zret C 131 hA hQ rfl (Or.inr rfl) dL_areRounds_131 ⟨((hI32.trans ((if_pos c35_5).trans rfl))).symm, ((hS32.trans ((if_pos c35_5).trans rfl))).symm⟩
          · refine z_iload C 38 4 1 dL_areRounds_38 rfl ?_
            refine z_if_eq C 40 129 dL_areRounds_40 (by decide) (fun c40_6 => ?_) (fun c40_6 => ?_)
            · exact absurd c40_6 (by decide)
            · have hq9 : q < 4 := zge (b := 4) (by omega) (by decide) ‹¬ (4 : Int32) ≤ nI q›
              have hr9 := round_n (q := q) (hws.lS hm)
              have ho9 := hAl q hq9 u hws
              refine z_aload_n C 43 1 3 dL_areRounds_43 rfl rfl ?_
              refine z_aload_n C 44 2 4 dL_areRounds_44 rfl rfl ?_
              refine z_aload_n C 45 3 5 dL_areRounds_45 rfl rfl ?_
              refine z_iload C 46 5 0 dL_areRounds_46 rfl ?_
              refine z_statIe C 48 (As := [.ref (ad (271)), .ref (ad (275)), .ref (ad (277)), .int (nI q)]) (st := []) (kL_round l D cy K n ad hJ u q H hW hq9 (hws.lS hm)) dL_areRounds_48 rfl gL_areRounds_L_round hyL_round rfl (by decide) (by decide) rfl rfl (Nat.le_of_ble_eq_true rfl) ?_
              refine z_nv (nI (rL_round u q).toNatClampNeg) hr9.2.1 ?_
              refine z_istore C 51 6 ([(6, .int (nI (rL_round u q).toNatClampNeg)), (5, .int (nI q)), (4, .int 1), (0, .ref (ad (270))), (1, .ref (ad (271))), (2, .ref (ad (275))), (3, .ref (ad (277)))]) dL_areRounds_51 (by decide) rfl ?_
              refine z_iconst C 53 (v := 0) dL_areRounds_53 (by decide +kernel) ?_
              refine z_istore C 54 7 ([(7, .int 0), (6, .int (nI (rL_round u q).toNatClampNeg)), (5, .int (nI q)), (4, .int 1), (0, .ref (ad (270))), (1, .ref (ad (271))), (2, .ref (ad (275))), (3, .ref (ad (277)))]) dL_areRounds_54 (by decide) rfl ?_
              have K56 : Zw p l e (zR 3) s m args below meth c D A K n ad 8 Q 98 ([(6, .int (nI (rL_round u q).toNatClampNeg)), (5, .int (nI q)), (4, .int 1), (0, .ref (ad (270))), (1, .ref (ad (271))), (2, .ref (ad (275))), (3, .ref (ad (277)))]) [] (sL_round u q) := by
                refine z_iload C 98 4 2 dL_areRounds_98 rfl ?_
                refine z_if_eq C 100 120 dL_areRounds_100 (by decide) (fun c100_8 => ?_) (fun c100_8 => ?_)
                · exact absurd c100_8 c40_6
                · refine z_aload_n C 103 0 3 dL_areRounds_103 rfl rfl ?_
                  refine z_iload C 104 5 1 dL_areRounds_104 rfl ?_
                  refine z_iload C 106 6 0 dL_areRounds_106 rfl ?_
                  refine z_virtIe C 108 (As := [.int (nI q), .int (nI (rL_round u q).toNatClampNeg)]) (st := []) (id := 270) (kX6_next l D cy K n ad hJ hO (sL_round u q) (nI q) (nI (rL_round u q).toNatClampNeg) ((hws.rd q).gd hG)) dL_areRounds_108 rfl gL_areRounds_X6_next hyX6_next rfl (by decide) (by decide) hO.h0 rfl hO.e0 rfl rfl rfl (Nat.le_of_ble_eq_true rfl) ?_
                  refine z_ldc C 111 (v := (-1000004)) dL_areRounds_111 mL_areRounds_c46 ?_
                  refine z_icmp_ne C 113 120 dL_areRounds_113 (by decide) (fun c113_10 => ?_) (fun c113_10 => ?_)
                  · exact absurd ho9.2 c113_10
                  · refine z_iconst C 116 (v := 1) dL_areRounds_116 (by decide +kernel) ?_
                    refine z_goto C 117 121 dL_areRounds_117 (by decide) ?_
                    refine z_istore C 121 4 ([(4, .int 1), (6, .int (nI (rL_round u q).toNatClampNeg)), (5, .int (nI q)), (0, .ref (ad (270))), (1, .ref (ad (271))), (2, .ref (ad (275))), (3, .ref (ad (277)))]) dL_areRounds_121 (by decide) rfl ?_
                    refine z_iinc C 123 (v := nI (q + 1)) 5 2 ([(5, .int (nI (q + 1))), (4, .int 1), (6, .int (nI (rL_round u q).toNatClampNeg)), (0, .ref (ad (270))), (1, .ref (ad (271))), (2, .ref (ad (275))), (3, .ref (ad (277)))]) dL_areRounds_123 rfl (nI_1 _) (by decide) rfl ?_
                    refine z_goto C 126 32 dL_areRounds_126 (by decide) ?_
                    refine z_ls [0, 1, 3, 4, 5, 6] _ rfl ?_
                    exact ih32 (q + 1) (sL_round u q) (by omega) hq9 (hws.rd q) (hI32.trans ((if_neg c35_5).trans rfl)) (hS32.trans ((if_neg c35_5).trans rfl))
              have L56 : ∀ (j2 : Nat) (x : Nat), (h0_56 : 21 ≤ x + j2) → (hx : x ≤ (rL_round u q).toNatClampNeg) → Zw p l e (zR 3) s m args below meth c D A K n ad 8 Q 56 ([(7, .int (nI x)), (6, .int (nI (rL_round u q).toNatClampNeg)), (5, .int (nI q)), (4, .int 1), (0, .ref (ad (270))), (1, .ref (ad (271))), (2, .ref (ad (275))), (3, .ref (ad (277)))]) [] (sL_round u q) := by
                intro j2
                induction j2 with
                | zero =>
                  intro x h0_56 hx
                  exact absurd h0_56 (by have := hr9.1; omega)
                | succ j2 ih56 =>
                  intro x h0_56 hx
                  refine z_iload C 56 7 0 dL_areRounds_56 rfl ?_
                  refine z_iload C 58 6 1 dL_areRounds_58 rfl ?_
                  refine z_icmp_ge C 60 98 dL_areRounds_60 (by decide) (fun c60_11 => ?_) (fun c60_11 => ?_)
                  · refine z_ls [1, 2, 3, 4, 5, 6, 7] _ rfl ?_
                    exact K56
                  · refine z_iload C 63 4 3 dL_areRounds_63 rfl ?_
                    refine z_if_eq C 65 89 dL_areRounds_65 (by decide) (fun c65_12 => ?_) (fun c65_12 => ?_)
                    · exact absurd c65_12 c40_6
                    · have hx9 := (zge (a := x) (b := (rL_round u q).toNatClampNeg) (by omega) (by have := hr9.1; omega) ‹¬ nI (rL_round u q).toNatClampNeg ≤ nI x›)
                      refine z_aload_n C 68 0 4 dL_areRounds_68 rfl rfl ?_
                      refine z_iload C 69 5 2 dL_areRounds_69 rfl ?_
                      refine z_iload C 71 7 0 dL_areRounds_71 rfl ?_
                      refine z_virtIe C 73 (As := [.int (nI q), .int (nI x)]) (st := []) (id := 270) (kX6_next l D cy K n ad hJ hO (sL_round u q) (nI q) (nI x) ((hws.rd q).gd hG)) dL_areRounds_73 rfl gL_areRounds_X6_next hyX6_next rfl (by decide) (by decide) hO.h0 rfl hO.e0 rfl rfl rfl (Nat.le_of_ble_eq_true rfl) ?_
                      refine z_aload_n C 76 2 6 dL_areRounds_76 rfl rfl ?_
                      refine z_iconst C 77 (v := 4) dL_areRounds_77 (by decide +kernel) ?_
                      refine z_iload C 78 7 0 dL_areRounds_78 rfl ?_
                      refine z_iadd C 80 dL_areRounds_80 ?_
                      refine z_ialdN C 81 (275) (4 + x) dL_areRounds_81 hW.h275 hW.e275 (nI_add 4 x) (by have := hr9.1; omega) (by decide) ?_
                      refine z_icmp_ne C 82 89 dL_areRounds_82 (by decide) (fun c82_14 => ?_) (fun c82_14 => ?_)
                      · exact absurd (ho9.1 x hx9) c82_14
                      · refine z_iconst C 85 (v := 1) dL_areRounds_85 (by decide +kernel) ?_
                        refine z_goto C 86 90 dL_areRounds_86 (by decide) ?_
                        refine z_istore C 90 4 ([(4, .int 1), (7, .int (nI x)), (6, .int (nI (rL_round u q).toNatClampNeg)), (5, .int (nI q)), (0, .ref (ad (270))), (1, .ref (ad (271))), (2, .ref (ad (275))), (3, .ref (ad (277)))]) dL_areRounds_90 (by decide) rfl ?_
                        refine z_iinc C 92 (v := nI (x + 1)) 7 1 ([(7, .int (nI (x + 1))), (4, .int 1), (6, .int (nI (rL_round u q).toNatClampNeg)), (5, .int (nI q)), (0, .ref (ad (270))), (1, .ref (ad (271))), (2, .ref (ad (275))), (3, .ref (ad (277)))]) dL_areRounds_92 rfl (nI_1 _) (by decide) rfl ?_
                        refine z_goto C 95 56 dL_areRounds_95 (by decide) ?_
                        refine z_ls [0, 2, 3, 1, 4, 5, 6, 7] _ rfl ?_
                        exact ih56 (x + 1) (by omega) hx9
              refine z_ls [0, 1, 2, 3, 4, 5, 6, 7] _ rfl ?_
              exact L56 (21) 0 (by omega) (Nat.zero_le _)
      refine z_ls [0, 1, 2, 3, 4, 5] _ rfl ?_
      exact L32 (5) 0 t (by omega) (by decide) lWs.rf rfl rfl
theorem rL_areRounds_1 (t : zM) : rL_areRounds t = 1 := by
  have key : ∀ (j q : Nat) (u : zM), 5 ≤ q + j → q ≤ 4 → lL_areRounds_32 t j q u = 1 := by
    intro j
    induction j with
    | zero => intro q u h0 hq; omega
    | succ j ih =>
      intro q u h0 hq
      unfold lL_areRounds_32
      split
      · rfl
      · exact ih _ _ (by omega) (by have := zge (b := 4) (by omega) (by decide) ‹¬ (4 : Int32) ≤ nI q›; omega)
  exact key 5 0 t (by decide) (by decide)
theorem sL_areRounds_w (t : zM) : lWs t (sL_areRounds t) := by
  have key : ∀ (j q : Nat) (u : zM), lWs t u → lWs t (lsL_areRounds_32 t j q u) := by
    intro j
    induction j with
    | zero => intro q u h; exact h
    | succ j ih =>
      intro q u h
      unfold lsL_areRounds_32
      split
      · exact h
      · exact ih _ _ (h.rd _)
  exact key 5 0 t lWs.rf
