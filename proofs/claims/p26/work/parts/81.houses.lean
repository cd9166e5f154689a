/-! the law's checks -/
theorem zGd.up {t S : zM} (h : zGd t) (e : ∀ x, x < 271 → S x = t x) : zGd S :=
  ⟨h.ok.fr (e 0 (by decide)) (e 35 (by decide)), zBits_fr h.bits (fun i hi => e _ (by omega)), by rw [e 266 (by decide)]; exact h.fs, fun i hi => zBits_fr (h.hb i hi) (fun k hk => e _ (by omega)), by rw [e 35 (by decide)]; exact h.sz, by rw [e 268 (by decide)]; exact h.ln⟩
/-- the balance behind a reading, by the law -/
def lThen (t : zM) (k : Nat) : Int32 := ((t 272 (4 * k + 0)) + (100 * (rL_units t k))) - (rL_used t k)
/-- what is alike of a house -/
def lOKh (t : zM) (k : Nat) : Prop := rX6_houseOf t (nI k) 0 = t 271 (4 * k + 0) ∧ rX6_houseOf t (nI k) 1 = t 271 (4 * k + 1) ∧ rX6_houseOf t (nI k) 2 = t 271 (4 * k + 2) ∧ rX6_houseOf t (nI k) 3 = rL_used t k ∧ rX6_houseOf t (nI k) 4 = t 272 (4 * k + 0) + 1000 ∧ rX6_houseOf t (nI k) 5 = t 272 (4 * k + 1) ∧ rX6_houseOf t (nI k) 6 = t 272 (4 * k + 2) ∧ rX6_houseOf t (nI k) 7 = (if t 272 (4 * k + 3) ≤ 0 then -1000004 else t 272 (4 * k + 3) - 1) ∧ rX6_houseOf t (nI k) 8 = t 273 (4 * k + 0) ∧ rX6_houseOf t (nI k) 9 = t 273 (4 * k + 1) ∧ rX6_houseOf t (nI k) 10 = t 273 (4 * k + 2) ∧ rX6_houseOf t (nI k) 11 = t 273 (4 * k + 3) ∧ rX6_houseOf t (nI k) 12 = t 274 (2 * k + 0) ∧ rX6_houseOf t (nI k) 13 = t 274 (2 * k + 1) ∧ rX6_why t (nI k) = rL_why t k ∧ rX6_ifRead t (nI k) 0 = rL_units t k ∧ rX6_ifRead t (nI k) 1 = 1000 + lThen t k ∧ rX6_ifRead t (nI k) 2 = (if lThen t k ≤ 0 then (if 0 ≤ lThen t k then 0 else 2) else 1) ∧ rX6_ifRead t (nI k) 3 = rL_units t k * t 277 11 ∧ rX6_at t (t 271 (4 * k + 0)) (t 271 (4 * k + 1)) = nI k
def lL_areHouses_48 (t : zM) : Nat → Nat → Int32
  | 0, _ => 0
  | j + 1, k => (if (t (277) 1) ≤ nI k then 1 else (lL_areHouses_48 t j (k + 1)))
def rL_areHouses (t : zM)  : Int32 := (lL_areHouses_48 t 17 0)
theorem mL_areHouses_c42 : Cond.constant RL 42 (-1000001) ∈ wsL_areHouses := by decide +kernel
theorem mL_areHouses_c46 : Cond.constant RL 46 (-1000004) ∈ wsL_areHouses := by decide +kernel
theorem hyL_areHouses : yL_areHouses.cls ≠ "java/lang/invoke/MethodHandle" ∧ yL_areHouses.cls ≠ "java/lang/invoke/VarHandle" ∧ (parseMethodDescriptor yL_areHouses.desc).map (fun d => d.parameters.length) = some 6 := by decide +kernel
set_option maxHeartbeats 3000000 in
set_option maxRecDepth 100000 in
theorem kL_areHouses (l : Launch) (D : va_G) (cy : Nat → ClassId) (K : zK) (n : Nat) (ad : Nat → Nat) (hJ : zJ n ad) (t : zM) (H : Nat) (hO : zTop cy K n ad) (hW : zLw cy K n ad) (hG : zGd t) (hm : lS H t) (h1 : rX6_houseOf t (t 277 1) 0 = -1000001) (h2 : rX6_houseOf t (-1) 0 = -1000001) (h3 : rX6_why t (t 277 1) = -1000001) (hAl : ∀ k, k < H → lOKh t k) : zI l yL_areHouses wsL_areHouses 3 D cy K n ad t [.ref (ad (270)), .ref (ad (271)), .ref (ad (272)), .ref (ad (273)), .ref (ad (274)), .ref (ad (277))] (fun r t1 => r = rL_areHouses t ∧ t1 = t) := by
  refine z_startI (cc := cL_areHouses) (mL := 10) (ret := (some .boolean)) (own := RL) rfl (by decide +kernel) rfl hJ (Nat.le_of_ble_eq_true rfl) ?_
  intro p e s m args below meth c A hA Q hQ C
  refine z_aload_n C 0 0 0 dL_areHouses_0 rfl rfl ?_
  refine z_aload C 1 5 5 dL_areHouses_1 rfl ?_
  refine z_iconst C 3 (v := 1) dL_areHouses_3 (by decide +kernel) ?_
  refine z_ialdN C 4 (277) 1 dL_areHouses_4 hW.h277 hW.e277 rfl (by decide) (by decide) ?_
  refine z_iconst C 5 (v := 0) dL_areHouses_5 (by decide +kernel) ?_
  refine z_virtIe C 6 (As := [.int (t (277) 1), .int 0]) (st := []) (id := 270) (kX6_houseOf l D cy K n ad hJ hO t (t (277) 1) 0 hG) dL_areHouses_6 rfl gL_areHouses_X6_houseOf hyX6_houseOf rfl (by decide) (by decide) hO.h0 rfl hO.e0 rfl rfl rfl (Nat.le_of_ble_eq_true rfl) ?_
  refine z_ldc C 9 (v := (-1000001)) dL_areHouses_9 mL_areHouses_c42 ?_
  refine z_icmp_ne C 11 42 dL_areHouses_11 (by decide) (fun c11_2 => ?_) (fun c11_2 => ?_)
  · exact absurd h1 c11_2
  · refine z_aload_n C 14 0 0 dL_areHouses_14 rfl rfl ?_
    refine z_iconst C 15 (v := (-1)) dL_areHouses_15 (by decide +kernel) ?_
    refine z_iconst C 16 (v := 0) dL_areHouses_16 (by decide +kernel) ?_
    refine z_virtIe C 17 (As := [.int (-1), .int 0]) (st := []) (id := 270) (kX6_houseOf l D cy K n ad hJ hO t (-1) 0 hG) dL_areHouses_17 rfl gL_areHouses_X6_houseOf hyX6_houseOf rfl (by decide) (by decide) hO.h0 rfl hO.e0 rfl rfl rfl (Nat.le_of_ble_eq_true rfl) ?_
    refine z_ldc C 20 (v := (-1000001)) dL_areHouses_20 mL_areHouses_c42 ?_
    refine z_icmp_ne C 22 42 dL_areHouses_22 (by decide) (fun c22_4 => ?_) (fun c22_4 => ?_)
    · exact absurd h2 c22_4
    · refine z_aload_n C 25 0 0 dL_areHouses_25 rfl rfl ?_
      refine z_aload C 26 5 5 dL_areHouses_26 rfl ?_
      refine z_iconst C 28 (v := 1) dL_areHouses_28 (by decide +kernel) ?_
      refine z_ialdN C 29 (277) 1 dL_areHouses_29 hW.h277 hW.e277 rfl (by decide) (by decide) ?_
      refine z_virtIe C 30 (As := [.int (t (277) 1)]) (st := []) (id := 270) (kX6_why l D cy K n ad hJ hO t (t (277) 1) hG) dL_areHouses_30 rfl gL_areHouses_X6_why hyX6_why rfl (by decide) (by decide) hO.h0 rfl hO.e0 rfl rfl rfl (Nat.le_of_ble_eq_true rfl) ?_
      refine z_ldc C 33 (v := (-1000001)) dL_areHouses_33 mL_areHouses_c42 ?_
      refine z_icmp_ne C 35 42 dL_areHouses_35 (by decide) (fun c35_6 => ?_) (fun c35_6 => ?_)
      · exact absurd h3 c35_6
      · refine z_iconst C 38 (v := 1) dL_areHouses_38 (by decide +kernel) ?_
        refine z_goto C 39 43 dL_areHouses_39 (by decide) ?_
        refine z_istore C 43 6 ([(6, .int 1), (0, .ref (ad (270))), (1, .ref (ad (271))), (2, .ref (ad (272))), (3, .ref (ad (273))), (4, .ref (ad (274))), (5, .ref (ad (277)))]) dL_areHouses_43 (by decide) rfl ?_
        refine z_iconst C 45 (v := 0) dL_areHouses_45 (by decide +kernel) ?_
        refine z_istore C 46 7 ([(7, .int 0), (6, .int 1), (0, .ref (ad (270))), (1, .ref (ad (271))), (2, .ref (ad (272))), (3, .ref (ad (273))), (4, .ref (ad (274))), (5, .ref (ad (277)))]) dL_areHouses_46 (by decide) rfl ?_
        have L48 : ∀ (j : Nat) (k : Nat), (h0_48 : 17 ≤ k + j) → (hk : k ≤ H) → (hI48 : rL_areHouses t = (lL_areHouses_48 t j k)) → Zw p l e (zR 3) s m args below meth c D A K n ad 10 Q 48 ([(7, .int (nI k)), (6, .int 1), (0, .ref (ad (270))), (1, .ref (ad (271))), (2, .ref (ad (272))), (3, .ref (ad (273))), (4, .ref (ad (274))), (5, .ref (ad (277)))]) [] t := by
          intro j
          induction j with
          | zero =>
            intro k h0_48 hk hI48
            exact absurd h0_48 (by have := hm.1; omega)
          | succ j ih48 =>
            intro k h0_48 hk hI48
            refine z_iload C 48 7 0 dL_areHouses_48 rfl ?_
            refine z_aload C 50 5 7 dL_areHouses_50 rfl ?_
            refine z_iconst C 52 (v := 1) dL_areHouses_52 (by decide +kernel) ?_
            refine z_ialdN C 53 (277) 1 dL_areHouses_53 hW.h277 hW.e277 rfl (by decide) (by decide) ?_
            refine z_icmp_ge C 54 494 dL_areHouses_54 (by decide) (fun c54_7 => ?_) (fun c54_7 => ?_)
            · refine z_iload C 494 6 1 dL_areHouses_494 rfl ?_
              exact z_zret C 496 hA hQ rfl (Or.inr rfl) dL_areHouses_496 ⟨((hI48.trans ((if_pos c54_7).trans rfl))).symm, rfl⟩
            · refine z_iload C 57 6 1 dL_areHouses_57 rfl ?_
              refine z_if_eq C 59 494 dL_areHouses_59 (by decide) (fun c59_8 => ?_) (fun c59_8 => ?_)
              · exact absurd c59_8 (by decide)
              · have hk9 : k < H := (hm.lt hk ‹¬ t (277) 1 ≤ nI k›)
                refine z_aload_n C 62 1 3 dL_areHouses_62 rfl rfl ?_
                refine z_aload_n C 63 2 4 dL_areHouses_63 rfl rfl ?_
                refine z_iload C 64 7 0 dL_areHouses_64 rfl ?_
                refine z_statIe C 66 (As := [.ref (ad (271)), .ref (ad (272)), .int (nI k)]) (st := []) (kL_units l D cy K n ad hJ t k hW (by have := hm.1; omega)) dL_areHouses_66 rfl gL_areHouses_L_units hyL_units rfl (by decide) (by decide) rfl rfl (Nat.le_of_ble_eq_true rfl) ?_
                refine z_istore C 69 8 ([(8, .int (rL_units t k)), (7, .int (nI k)), (6, .int 1), (0, .ref (ad (270))), (1, .ref (ad (271))), (2, .ref (ad (272))), (3, .ref (ad (273))), (4, .ref (ad (274))), (5, .ref (ad (277)))]) dL_areHouses_69 (by decide) rfl ?_
                refine z_aload_n C 71 2 5 dL_areHouses_71 rfl rfl ?_
                refine z_iconst C 72 (v := 4) dL_areHouses_72 (by decide +kernel) ?_
                refine z_iload C 73 7 1 dL_areHouses_73 rfl ?_
                refine z_imul C 75 dL_areHouses_75 ?_
                refine z_ialdN C 76 (272) (4 * k + 0) dL_areHouses_76 hW.h272 hW.e272 (nI_mul 4 k) (by have := (hm.lt hk ‹¬ t (277) 1 ≤ nI k›); have := hm.1; omega) (by decide) ?_
                refine z_bipush C 77 (v := 100) dL_areHouses_77 (by decide +kernel) ?_
                refine z_iload C 79 8 0 dL_areHouses_79 rfl ?_
                refine z_imul C 81 dL_areHouses_81 ?_
                refine z_iadd C 82 dL_areHouses_82 ?_
                refine z_aload_n C 83 1 4 dL_areHouses_83 rfl rfl ?_
                refine z_iload C 84 7 1 dL_areHouses_84 rfl ?_
                refine z_statIe C 86 (As := [.ref (ad (271)), .int (nI k)]) (st := [.int ((t (272) (4 * k + 0)) + (100 * (rL_units t k)))]) (kL_used l D cy K n ad hJ t k hW (by have := hm.1; omega)) dL_areHouses_86 rfl gL_areHouses_L_used hyL_used rfl (by decide) (by decide) rfl rfl (Nat.le_of_ble_eq_true rfl) ?_
                refine z_isub C 89 dL_areHouses_89 ?_
                refine z_nv (lThen t k) rfl ?_
                refine z_istore C 90 9 ([(9, .int (lThen t k)), (8, .int (rL_units t k)), (7, .int (nI k)), (6, .int 1), (0, .ref (ad (270))), (1, .ref (ad (271))), (2, .ref (ad (272))), (3, .ref (ad (273))), (4, .ref (ad (274))), (5, .ref (ad (277)))]) dL_areHouses_90 (by decide) rfl ?_
                refine z_aload_n C 92 0 4 dL_areHouses_92 rfl rfl ?_
                refine z_iload C 93 7 2 dL_areHouses_93 rfl ?_
                refine z_iconst C 95 (v := 0) dL_areHouses_95 (by decide +kernel) ?_
                refine z_virtIe C 96 (As := [.int (nI k), .int 0]) (st := []) (id := 270) (kX6_houseOf l D cy K n ad hJ hO t (nI k) 0 hG) dL_areHouses_96 rfl gL_areHouses_X6_houseOf hyX6_houseOf rfl (by decide) (by decide) hO.h0 rfl hO.e0 rfl rfl rfl (Nat.le_of_ble_eq_true rfl) ?_
                refine z_aload_n C 99 1 5 dL_areHouses_99 rfl rfl ?_
                refine z_iconst C 100 (v := 4) dL_areHouses_100 (by decide +kernel) ?_
                refine z_iload C 101 7 2 dL_areHouses_101 rfl ?_
                refine z_imul C 103 dL_areHouses_103 ?_
                refine z_ialdN C 104 (271) (4 * k + 0) dL_areHouses_104 hW.h271 hW.e271 (nI_mul 4 k) (by have := (hm.lt hk ‹¬ t (277) 1 ≤ nI k›); have := hm.1; omega) (by decide) ?_
                refine z_icmp_ne C 105 485 dL_areHouses_105 (by decide) (fun c105_12 => ?_) (fun c105_12 => ?_)
                · exact absurd (hAl k hk9).1 c105_12
                · refine z_aload_n C 108 0 4 dL_areHouses_108 rfl rfl ?_
                  refine z_iload C 109 7 2 dL_areHouses_109 rfl ?_
                  refine z_iconst C 111 (v := 1) dL_areHouses_111 (by decide +kernel) ?_
                  refine z_virtIe C 112 (As := [.int (nI k), .int 1]) (st := []) (id := 270) (kX6_houseOf l D cy K n ad hJ hO t (nI k) 1 hG) dL_areHouses_112 rfl gL_areHouses_X6_houseOf hyX6_houseOf rfl (by decide) (by decide) hO.h0 rfl hO.e0 rfl rfl rfl (Nat.le_of_ble_eq_true rfl) ?_
                  refine z_aload_n C 115 1 5 dL_areHouses_115 rfl rfl ?_
                  refine z_iconst C 116 (v := 4) dL_areHouses_116 (by decide +kernel) ?_
                  refine z_iload C 117 7 2 dL_areHouses_117 rfl ?_
                  refine z_imul C 119 dL_areHouses_119 ?_
                  refine z_iconst C 120 (v := 1) dL_areHouses_120 (by decide +kernel) ?_
                  refine z_iadd C 121 dL_areHouses_121 ?_
                  refine z_ialdN C 122 (271) (4 * k + 1) dL_areHouses_122 hW.h271 hW.e271 (lx4 k 1) (by have := (hm.lt hk ‹¬ t (277) 1 ≤ nI k›); have := hm.1; omega) (by decide) ?_
                  refine z_icmp_ne C 123 485 dL_areHouses_123 (by decide) (fun c123_14 => ?_) (fun c123_14 => ?_)
                  · exact absurd (hAl k hk9).2.1 c123_14
                  · refine z_aload_n C 126 0 4 dL_areHouses_126 rfl rfl ?_
                    refine z_iload C 127 7 2 dL_areHouses_127 rfl ?_
                    refine z_iconst C 129 (v := 2) dL_areHouses_129 (by decide +kernel) ?_
                    refine z_virtIe C 130 (As := [.int (nI k), .int 2]) (st := []) (id := 270) (kX6_houseOf l D cy K n ad hJ hO t (nI k) 2 hG) dL_areHouses_130 rfl gL_areHouses_X6_houseOf hyX6_houseOf rfl (by decide) (by decide) hO.h0 rfl hO.e0 rfl rfl rfl (Nat.le_of_ble_eq_true rfl) ?_
                    refine z_aload_n C 133 1 5 dL_areHouses_133 rfl rfl ?_
                    refine z_iconst C 134 (v := 4) dL_areHouses_134 (by decide +kernel) ?_
                    refine z_iload C 135 7 2 dL_areHouses_135 rfl ?_
                    refine z_imul C 137 dL_areHouses_137 ?_
                    refine z_iconst C 138 (v := 2) dL_areHouses_138 (by decide +kernel) ?_
                    refine z_iadd C 139 dL_areHouses_139 ?_
                    refine z_ialdN C 140 (271) (4 * k + 2) dL_areHouses_140 hW.h271 hW.e271 (lx4 k 2) (by have := (hm.lt hk ‹¬ t (277) 1 ≤ nI k›); have := hm.1; omega) (by decide) ?_
                    refine z_icmp_ne C 141 485 dL_areHouses_141 (by decide) (fun c141_16 => ?_) (fun c141_16 => ?_)
                    · exact absurd (hAl k hk9).2.2.1 c141_16
                    · refine z_aload_n C 144 0 4 dL_areHouses_144 rfl rfl ?_
                      refine z_iload C 145 7 2 dL_areHouses_145 rfl ?_
                      refine z_iconst C 147 (v := 3) dL_areHouses_147 (by decide +kernel) ?_
                      refine z_virtIe C 148 (As := [.int (nI k), .int 3]) (st := []) (id := 270) (kX6_houseOf l D cy K n ad hJ hO t (nI k) 3 hG) dL_areHouses_148 rfl gL_areHouses_X6_houseOf hyX6_houseOf rfl (by decide) (by decide) hO.h0 rfl hO.e0 rfl rfl rfl (Nat.le_of_ble_eq_true rfl) ?_
                      refine z_aload_n C 151 1 5 dL_areHouses_151 rfl rfl ?_
                      refine z_iload C 152 7 2 dL_areHouses_152 rfl ?_
                      refine z_statIe C 154 (As := [.ref (ad (271)), .int (nI k)]) (st := [.int (rX6_houseOf t (nI k) 3)]) (kL_used l D cy K n ad hJ t k hW (by have := hm.1; omega)) dL_areHouses_154 rfl gL_areHouses_L_used hyL_used rfl (by decide) (by decide) rfl rfl (Nat.le_of_ble_eq_true rfl) ?_
                      refine z_icmp_ne C 157 485 dL_areHouses_157 (by decide) (fun c157_19 => ?_) (fun c157_19 => ?_)
                      · exact absurd (hAl k hk9).2.2.2.1 c157_19
                      · refine z_aload_n C 160 0 4 dL_areHouses_160 rfl rfl ?_
                        refine z_iload C 161 7 2 dL_areHouses_161 rfl ?_
                        refine z_iconst C 163 (v := 4) dL_areHouses_163 (by decide +kernel) ?_
                        refine z_virtIe C 164 (As := [.int (nI k), .int 4]) (st := []) (id := 270) (kX6_houseOf l D cy K n ad hJ hO t (nI k) 4 hG) dL_areHouses_164 rfl gL_areHouses_X6_houseOf hyX6_houseOf rfl (by decide) (by decide) hO.h0 rfl hO.e0 rfl rfl rfl (Nat.le_of_ble_eq_true rfl) ?_
                        refine z_aload_n C 167 2 6 dL_areHouses_167 rfl rfl ?_
                        refine z_iconst C 168 (v := 4) dL_areHouses_168 (by decide +kernel) ?_
                        refine z_iload C 169 7 2 dL_areHouses_169 rfl ?_
                        refine z_imul C 171 dL_areHouses_171 ?_
                        refine z_ialdN C 172 (272) (4 * k + 0) dL_areHouses_172 hW.h272 hW.e272 (nI_mul 4 k) (by have := (hm.lt hk ‹¬ t (277) 1 ≤ nI k›); have := hm.1; omega) (by decide) ?_
                        refine z_sipush C 173 (v := 1000) dL_areHouses_173 (by decide +kernel) ?_
                        refine z_iadd C 176 dL_areHouses_176 ?_
                        refine z_icmp_ne C 177 485 dL_areHouses_177 (by decide) (fun c177_21 => ?_) (fun c177_21 => ?_)
                        · exact absurd (hAl k hk9).2.2.2.2.1 c177_21
                        · refine z_aload_n C 180 0 4 dL_areHouses_180 rfl rfl ?_
                          refine z_iload C 181 7 2 dL_areHouses_181 rfl ?_
                          refine z_iconst C 183 (v := 5) dL_areHouses_183 (by decide +kernel) ?_
                          refine z_virtIe C 184 (As := [.int (nI k), .int 5]) (st := []) (id := 270) (kX6_houseOf l D cy K n ad hJ hO t (nI k) 5 hG) dL_areHouses_184 rfl gL_areHouses_X6_houseOf hyX6_houseOf rfl (by decide) (by decide) hO.h0 rfl hO.e0 rfl rfl rfl (Nat.le_of_ble_eq_true rfl) ?_
                          refine z_aload_n C 187 2 6 dL_areHouses_187 rfl rfl ?_
                          refine z_iconst C 188 (v := 4) dL_areHouses_188 (by decide +kernel) ?_
                          refine z_iload C 189 7 2 dL_areHouses_189 rfl ?_
                          refine z_imul C 191 dL_areHouses_191 ?_
                          refine z_iconst C 192 (v := 1) dL_areHouses_192 (by decide +kernel) ?_
                          refine z_iadd C 193 dL_areHouses_193 ?_
                          refine z_ialdN C 194 (272) (4 * k + 1) dL_areHouses_194 hW.h272 hW.e272 (lx4 k 1) (by have := (hm.lt hk ‹¬ t (277) 1 ≤ nI k›); have := hm.1; omega) (by decide) ?_
                          refine z_icmp_ne C 195 485 dL_areHouses_195 (by decide) (fun c195_23 => ?_) (fun c195_23 => ?_)
                          · exact absurd (hAl k hk9).2.2.2.2.2.1 c195_23
                          · refine z_aload_n C 198 0 4 dL_areHouses_198 rfl rfl ?_
                            refine z_iload C 199 7 2 dL_areHouses_199 rfl ?_
                            refine z_bipush C 201 (v := 6) dL_areHouses_201 (by decide +kernel) ?_
                            refine z_virtIe C 203 (As := [.int (nI k), .int 6]) (st := []) (id := 270) (kX6_houseOf l D cy K n ad hJ hO t (nI k) 6 hG) dL_areHouses_203 rfl gL_areHouses_X6_houseOf hyX6_houseOf rfl (by decide) (by decide) hO.h0 rfl hO.e0 rfl rfl rfl (Nat.le_of_ble_eq_true rfl) ?_
                            refine z_aload_n C 206 2 6 dL_areHouses_206 rfl rfl ?_
                            refine z_iconst C 207 (v := 4) dL_areHouses_207 (by decide +kernel) ?_
                            refine z_iload C 208 7 2 dL_areHouses_208 rfl ?_
                            refine z_imul C 210 dL_areHouses_210 ?_
                            refine z_iconst C 211 (v := 2) dL_areHouses_211 (by decide +kernel) ?_
                            refine z_iadd C 212 dL_areHouses_212 ?_
                            refine z_ialdN C 213 (272) (4 * k + 2) dL_areHouses_213 hW.h272 hW.e272 (lx4 k 2) (by have := (hm.lt hk ‹¬ t (277) 1 ≤ nI k›); have := hm.1; omega) (by decide) ?_
                            refine z_icmp_ne C 214 485 dL_areHouses_214 (by decide) (fun c214_25 => ?_) (fun c214_25 => ?_)
                            · exact absurd (hAl k hk9).2.2.2.2.2.2.1 c214_25
                            · refine z_aload_n C 217 0 4 dL_areHouses_217 rfl rfl ?_
                              refine z_iload C 218 7 2 dL_areHouses_218 rfl ?_
                              refine z_bipush C 220 (v := 7) dL_areHouses_220 (by decide +kernel) ?_
                              refine z_virtIe C 222 (As := [.int (nI k), .int 7]) (st := []) (id := 270) (kX6_houseOf l D cy K n ad hJ hO t (nI k) 7 hG) dL_areHouses_222 rfl gL_areHouses_X6_houseOf hyX6_houseOf rfl (by decide) (by decide) hO.h0 rfl hO.e0 rfl rfl rfl (Nat.le_of_ble_eq_true rfl) ?_
                              refine z_aload_n C 225 2 6 dL_areHouses_225 rfl rfl ?_
                              refine z_iconst C 226 (v := 4) dL_areHouses_226 (by decide +kernel) ?_
                              refine z_iload C 227 7 2 dL_areHouses_227 rfl ?_
                              refine z_imul C 229 dL_areHouses_229 ?_
                              refine z_iconst C 230 (v := 3) dL_areHouses_230 (by decide +kernel) ?_
                              refine z_iadd C 231 dL_areHouses_231 ?_
                              refine z_ialdN C 232 (272) (4 * k + 3) dL_areHouses_232 hW.h272 hW.e272 (lx4 k 3) (by have := (hm.lt hk ‹¬ t (277) 1 ≤ nI k›); have := hm.1; omega) (by decide) ?_
                              have M233_28 : Zw p l e (zR 3) s m args below meth c D A K n ad 10 Q 251 ([(9, .int (lThen t k)), (8, .int (rL_units t k)), (7, .int (nI k)), (6, .int 1), (0, .ref (ad (270))), (1, .ref (ad (271))), (2, .ref (ad (272))), (3, .ref (ad (273))), (4, .ref (ad (274))), (5, .ref (ad (277)))]) [.int (if (t (272) (4 * k + 3)) ≤ 0 then (-1000004) else ((t (272) (4 * k + 3)) - 1)), .int (rX6_houseOf t (nI k) 7)] t := by
                                refine z_icmp_ne C 251 485 dL_areHouses_251 (by decide) (fun c251_29 => ?_) (fun c251_29 => ?_)
                                · exact absurd (hAl k hk9).2.2.2.2.2.2.2.1 c251_29
                                · refine z_aload_n C 254 0 4 dL_areHouses_254 rfl rfl ?_
                                  refine z_iload C 255 7 2 dL_areHouses_255 rfl ?_
                                  refine z_bipush C 257 (v := 8) dL_areHouses_257 (by decide +kernel) ?_
                                  refine z_virtIe C 259 (As := [.int (nI k), .int 8]) (st := []) (id := 270) (kX6_houseOf l D cy K n ad hJ hO t (nI k) 8 hG) dL_areHouses_259 rfl gL_areHouses_X6_houseOf hyX6_houseOf rfl (by decide) (by decide) hO.h0 rfl hO.e0 rfl rfl rfl (Nat.le_of_ble_eq_true rfl) ?_
                                  refine z_aload_n C 262 3 7 dL_areHouses_262 rfl rfl ?_
                                  refine z_iconst C 263 (v := 4) dL_areHouses_263 (by decide +kernel) ?_
                                  refine z_iload C 264 7 2 dL_areHouses_264 rfl ?_
                                  refine z_imul C 266 dL_areHouses_266 ?_
                                  refine z_ialdN C 267 (273) (4 * k + 0) dL_areHouses_267 hW.h273 hW.e273 (nI_mul 4 k) (by have := (hm.lt hk ‹¬ t (277) 1 ≤ nI k›); have := hm.1; omega) (by decide) ?_
                                  refine z_icmp_ne C 268 485 dL_areHouses_268 (by decide) (fun c268_31 => ?_) (fun c268_31 => ?_)
                                  · exact absurd (hAl k hk9).2.2.2.2.2.2.2.2.1 c268_31
                                  · refine z_aload_n C 271 0 4 dL_areHouses_271 rfl rfl ?_
                                    refine z_iload C 272 7 2 dL_areHouses_272 rfl ?_
                                    refine z_bipush C 274 (v := 9) dL_areHouses_274 (by decide +kernel) ?_
                                    refine z_virtIe C 276 (As := [.int (nI k), .int 9]) (st := []) (id := 270) (kX6_houseOf l D cy K n ad hJ hO t (nI k) 9 hG) dL_areHouses_276 rfl gL_areHouses_X6_houseOf hyX6_houseOf rfl (by decide) (by decide) hO.h0 rfl hO.e0 rfl rfl rfl (Nat.le_of_ble_eq_true rfl) ?_
                                    refine z_aload_n C 279 3 7 dL_areHouses_279 rfl rfl ?_
                                    refine z_iconst C 280 (v := 4) dL_areHouses_280 (by decide +kernel) ?_
                                    refine z_iload C 281 7 2 dL_areHouses_281 rfl ?_
                                    refine z_imul C 283 dL_areHouses_283 ?_
                                    refine z_iconst C 284 (v := 1) dL_areHouses_284 (by decide +kernel) ?_
                                    refine z_iadd C 285 dL_areHouses_285 ?_
                                    refine z_ialdN C 286 (273) (4 * k + 1) dL_areHouses_286 hW.h273 hW.e273 (lx4 k 1) (by have := (hm.lt hk ‹¬ t (277) 1 ≤ nI k›); have := hm.1; omega) (by decide) ?_
                                    refine z_icmp_ne C 287 485 dL_areHouses_287 (by decide) (fun c287_33 => ?_) (fun c287_33 => ?_)
                                    · exact absurd (hAl k hk9).2.2.2.2.2.2.2.2.2.1 c287_33
                                    · refine z_aload_n C 290 0 4 dL_areHouses_290 rfl rfl ?_
                                      refine z_iload C 291 7 2 dL_areHouses_291 rfl ?_
                                      refine z_bipush C 293 (v := 10) dL_areHouses_293 (by decide +kernel) ?_
                                      refine z_virtIe C 295 (As := [.int (nI k), .int 10]) (st := []) (id := 270) (kX6_houseOf l D cy K n ad hJ hO t (nI k) 10 hG) dL_areHouses_295 rfl gL_areHouses_X6_houseOf hyX6_houseOf rfl (by decide) (by decide) hO.h0 rfl hO.e0 rfl rfl rfl (Nat.le_of_ble_eq_true rfl) ?_
                                      refine z_aload_n C 298 3 7 dL_areHouses_298 rfl rfl ?_
                                      refine z_iconst C 299 (v := 4) dL_areHouses_299 (by decide +kernel) ?_
                                      refine z_iload C 300 7 2 dL_areHouses_300 rfl ?_
                                      refine z_imul C 302 dL_areHouses_302 ?_
                                      refine z_iconst C 303 (v := 2) dL_areHouses_303 (by decide +kernel) ?_
                                      refine z_iadd C 304 dL_areHouses_304 ?_
                                      refine z_ialdN C 305 (273) (4 * k + 2) dL_areHouses_305 hW.h273 hW.e273 (lx4 k 2) (by have := (hm.lt hk ‹¬ t (277) 1 ≤ nI k›); have := hm.1; omega) (by decide) ?_
                                      refine z_icmp_ne C 306 485 dL_areHouses_306 (by decide) (fun c306_35 => ?_) (fun c306_35 => ?_)
                                      · exact absurd (hAl k hk9).2.2.2.2.2.2.2.2.2.2.1 c306_35
                                      · refine z_aload_n C 309 0 4 dL_areHouses_309 rfl rfl ?_
                                        refine z_iload C 310 7 2 dL_areHouses_310 rfl ?_
                                        refine z_bipush C 312 (v := 11) dL_areHouses_312 (by decide +kernel) ?_
                                        refine z_virtIe C 314 (As := [.int (nI k), .int 11]) (st := []) (id := 270) (kX6_houseOf l D cy K n ad hJ hO t (nI k) 11 hG) dL_areHouses_314 rfl gL_areHouses_X6_houseOf hyX6_houseOf rfl (by decide) (by decide) hO.h0 rfl hO.e0 rfl rfl rfl (Nat.le_of_ble_eq_true rfl) ?_
                                        refine z_aload_n C 317 3 7 dL_areHouses_317 rfl rfl ?_
                                        refine z_iconst C 318 (v := 4) dL_areHouses_318 (by decide +kernel) ?_
                                        refine z_iload C 319 7 2 dL_areHouses_319 rfl ?_
                                        refine z_imul C 321 dL_areHouses_321 ?_
                                        refine z_iconst C 322 (v := 3) dL_areHouses_322 (by decide +kernel) ?_
                                        refine z_iadd C 323 dL_areHouses_323 ?_
                                        refine z_ialdN C 324 (273) (4 * k + 3) dL_areHouses_324 hW.h273 hW.e273 (lx4 k 3) (by have := (hm.lt hk ‹¬ t (277) 1 ≤ nI k›); have := hm.1; omega) (by decide) ?_
                                        refine z_icmp_ne C 325 485 dL_areHouses_325 (by decide) (fun c325_37 => ?_) (fun c325_37 => ?_)
                                        · exact absurd (hAl k hk9).2.2.2.2.2.2.2.2.2.2.2.1 c325_37
                                        · refine z_aload_n C 328 0 4 dL_areHouses_328 rfl rfl ?_
                                          refine z_iload C 329 7 2 dL_areHouses_329 rfl ?_
                                          refine z_bipush C 331 (v := 12) dL_areHouses_331 (by decide +kernel) ?_
                                          refine z_virtIe C 333 (As := [.int (nI k), .int 12]) (st := []) (id := 270) (kX6_houseOf l D cy K n ad hJ hO t (nI k) 12 hG) dL_areHouses_333 rfl gL_areHouses_X6_houseOf hyX6_houseOf rfl (by decide) (by decide) hO.h0 rfl hO.e0 rfl rfl rfl (Nat.le_of_ble_eq_true rfl) ?_
                                          refine z_aload C 336 4 8 dL_areHouses_336 rfl ?_
                                          refine z_iconst C 338 (v := 2) dL_areHouses_338 (by decide +kernel) ?_
                                          refine z_iload C 339 7 2 dL_areHouses_339 rfl ?_
                                          refine z_imul C 341 dL_areHouses_341 ?_
                                          refine z_ialdN C 342 (274) (2 * k + 0) dL_areHouses_342 hW.h274 hW.e274 (nI_mul 2 k) (by have := (hm.lt hk ‹¬ t (277) 1 ≤ nI k›); have := hm.1; omega) (by decide) ?_
                                          refine z_icmp_ne C 343 485 dL_areHouses_343 (by decide) (fun c343_39 => ?_) (fun c343_39 => ?_)
                                          · exact absurd (hAl k hk9).2.2.2.2.2.2.2.2.2.2.2.2.1 c343_39
                                          · refine z_aload_n C 346 0 4 dL_areHouses_346 rfl rfl ?_
                                            refine z_iload C 347 7 2 dL_areHouses_347 rfl ?_
                                            refine z_bipush C 349 (v := 13) dL_areHouses_349 (by decide +kernel) ?_
                                            refine z_virtIe C 351 (As := [.int (nI k), .int 13]) (st := []) (id := 270) (kX6_houseOf l D cy K n ad hJ hO t (nI k) 13 hG) dL_areHouses_351 rfl gL_areHouses_X6_houseOf hyX6_houseOf rfl (by decide) (by decide) hO.h0 rfl hO.e0 rfl rfl rfl (Nat.le_of_ble_eq_true rfl) ?_
                                            refine z_aload C 354 4 8 dL_areHouses_354 rfl ?_
                                            refine z_iconst C 356 (v := 2) dL_areHouses_356 (by decide +kernel) ?_
                                            refine z_iload C 357 7 2 dL_areHouses_357 rfl ?_
                                            refine z_imul C 359 dL_areHouses_359 ?_
                                            refine z_iconst C 360 (v := 1) dL_areHouses_360 (by decide +kernel) ?_
                                            refine z_iadd C 361 dL_areHouses_361 ?_
                                            refine z_ialdN C 362 (274) (2 * k + 1) dL_areHouses_362 hW.h274 hW.e274 (lx2 k 1) (by have := (hm.lt hk ‹¬ t (277) 1 ≤ nI k›); have := hm.1; omega) (by decide) ?_
                                            refine z_icmp_ne C 363 485 dL_areHouses_363 (by decide) (fun c363_41 => ?_) (fun c363_41 => ?_)
                                            · exact absurd (hAl k hk9).2.2.2.2.2.2.2.2.2.2.2.2.2.1 c363_41
                                            · refine z_aload_n C 366 0 4 dL_areHouses_366 rfl rfl ?_
                                              refine z_iload C 367 7 2 dL_areHouses_367 rfl ?_
                                              refine z_virtIe C 369 (As := [.int (nI k)]) (st := []) (id := 270) (kX6_why l D cy K n ad hJ hO t (nI k) hG) dL_areHouses_369 rfl gL_areHouses_X6_why hyX6_why rfl (by decide) (by decide) hO.h0 rfl hO.e0 rfl rfl rfl (Nat.le_of_ble_eq_true rfl) ?_
                                              refine z_aload_n C 372 2 6 dL_areHouses_372 rfl rfl ?_
                                              refine z_aload C 373 5 9 dL_areHouses_373 rfl ?_
                                              refine z_iload C 375 7 2 dL_areHouses_375 rfl ?_
                                              refine z_statIe C 377 (As := [.ref (ad (272)), .ref (ad (277)), .int (nI k)]) (st := [.int (rX6_why t (nI k))]) (kL_why l D cy K n ad hJ t k hW (by have := hm.1; omega)) dL_areHouses_377 rfl gL_areHouses_L_why hyL_why rfl (by decide) (by decide) rfl rfl (Nat.le_of_ble_eq_true rfl) ?_
                                              refine z_icmp_ne C 380 485 dL_areHouses_380 (by decide) (fun c380_44 => ?_) (fun c380_44 => ?_)
                                              · exact absurd (hAl k hk9).2.2.2.2.2.2.2.2.2.2.2.2.2.2.1 c380_44
                                              · refine z_aload_n C 383 0 4 dL_areHouses_383 rfl rfl ?_
                                                refine z_iload C 384 7 2 dL_areHouses_384 rfl ?_
                                                refine z_iconst C 386 (v := 0) dL_areHouses_386 (by decide +kernel) ?_
                                                refine z_virtIe C 387 (As := [.int (nI k), .int 0]) (st := []) (id := 270) (kX6_ifRead l D cy K n ad hJ hO t (nI k) 0 hG) dL_areHouses_387 rfl gL_areHouses_X6_ifRead hyX6_ifRead rfl (by decide) (by decide) hO.h0 rfl hO.e0 rfl rfl rfl (Nat.le_of_ble_eq_true rfl) ?_
                                                refine z_iload C 390 8 1 dL_areHouses_390 rfl ?_
                                                refine z_icmp_ne C 392 485 dL_areHouses_392 (by decide) (fun c392_46 => ?_) (fun c392_46 => ?_)
                                                · exact absurd (hAl k hk9).2.2.2.2.2.2.2.2.2.2.2.2.2.2.2.1 c392_46
                                                · refine z_aload_n C 395 0 4 dL_areHouses_395 rfl rfl ?_
                                                  refine z_iload C 396 7 2 dL_areHouses_396 rfl ?_
                                                  refine z_iconst C 398 (v := 1) dL_areHouses_398 (by decide +kernel) ?_
                                                  refine z_virtIe C 399 (As := [.int (nI k), .int 1]) (st := []) (id := 270) (kX6_ifRead l D cy K n ad hJ hO t (nI k) 1 hG) dL_areHouses_399 rfl gL_areHouses_X6_ifRead hyX6_ifRead rfl (by decide) (by decide) hO.h0 rfl hO.e0 rfl rfl rfl (Nat.le_of_ble_eq_true rfl) ?_
                                                  refine z_sipush C 402 (v := 1000) dL_areHouses_402 (by decide +kernel) ?_
                                                  refine z_iload C 405 9 0 dL_areHouses_405 rfl ?_
                                                  refine z_iadd C 407 dL_areHouses_407 ?_
                                                  refine z_icmp_ne C 408 485 dL_areHouses_408 (by decide) (fun c408_48 => ?_) (fun c408_48 => ?_)
                                                  · exact absurd (hAl k hk9).2.2.2.2.2.2.2.2.2.2.2.2.2.2.2.2.1 c408_48
                                                  · refine z_aload_n C 411 0 4 dL_areHouses_411 rfl rfl ?_
                                                    refine z_iload C 412 7 2 dL_areHouses_412 rfl ?_
                                                    refine z_iconst C 414 (v := 2) dL_areHouses_414 (by decide +kernel) ?_
                                                    refine z_virtIe C 415 (As := [.int (nI k), .int 2]) (st := []) (id := 270) (kX6_ifRead l D cy K n ad hJ hO t (nI k) 2 hG) dL_areHouses_415 rfl gL_areHouses_X6_ifRead hyX6_ifRead rfl (by decide) (by decide) hO.h0 rfl hO.e0 rfl rfl rfl (Nat.le_of_ble_eq_true rfl) ?_
                                                    refine z_iload C 418 9 0 dL_areHouses_418 rfl ?_
                                                    have M420_52 : Zw p l e (zR 3) s m args below meth c D A K n ad 10 Q 437 ([(9, .int (lThen t k)), (8, .int (rL_units t k)), (7, .int (nI k)), (6, .int 1), (0, .ref (ad (270))), (1, .ref (ad (271))), (2, .ref (ad (272))), (3, .ref (ad (273))), (4, .ref (ad (274))), (5, .ref (ad (277)))]) [.int (if (lThen t k) ≤ 0 then (if 0 ≤ (lThen t k) then 0 else 2) else 1), .int (rX6_ifRead t (nI k) 2)] t := by
                                                      refine z_icmp_ne C 437 485 dL_areHouses_437 (by decide) (fun c437_53 => ?_) (fun c437_53 => ?_)
                                                      · exact absurd (hAl k hk9).2.2.2.2.2.2.2.2.2.2.2.2.2.2.2.2.2.1 c437_53
                                                      · refine z_aload_n C 440 0 4 dL_areHouses_440 rfl rfl ?_
                                                        refine z_iload C 441 7 2 dL_areHouses_441 rfl ?_
                                                        refine z_iconst C 443 (v := 3) dL_areHouses_443 (by decide +kernel) ?_
                                                        refine z_virtIe C 444 (As := [.int (nI k), .int 3]) (st := []) (id := 270) (kX6_ifRead l D cy K n ad hJ hO t (nI k) 3 hG) dL_areHouses_444 rfl gL_areHouses_X6_ifRead hyX6_ifRead rfl (by decide) (by decide) hO.h0 rfl hO.e0 rfl rfl rfl (Nat.le_of_ble_eq_true rfl) ?_
                                                        refine z_iload C 447 8 1 dL_areHouses_447 rfl ?_
                                                        refine z_aload C 449 5 9 dL_areHouses_449 rfl ?_
                                                        refine z_bipush C 451 (v := 11) dL_areHouses_451 (by decide +kernel) ?_
                                                        refine z_ialdN C 453 (277) 11 dL_areHouses_453 hW.h277 hW.e277 rfl (by decide) (by decide) ?_
                                                        refine z_imul C 454 dL_areHouses_454 ?_
                                                        refine z_icmp_ne C 455 485 dL_areHouses_455 (by decide) (fun c455_55 => ?_) (fun c455_55 => ?_)
                                                        · exact absurd (hAl k hk9).2.2.2.2.2.2.2.2.2.2.2.2.2.2.2.2.2.2.1 c455_55
                                                        · refine z_aload_n C 458 0 4 dL_areHouses_458 rfl rfl ?_
                                                          refine z_aload_n C 459 1 5 dL_areHouses_459 rfl rfl ?_
                                                          refine z_iconst C 460 (v := 4) dL_areHouses_460 (by decide +kernel) ?_
                                                          refine z_iload C 461 7 2 dL_areHouses_461 rfl ?_
                                                          refine z_imul C 463 dL_areHouses_463 ?_
                                                          refine z_ialdN C 464 (271) (4 * k + 0) dL_areHouses_464 hW.h271 hW.e271 (nI_mul 4 k) (by have := (hm.lt hk ‹¬ t (277) 1 ≤ nI k›); have := hm.1; omega) (by decide) ?_
                                                          refine z_aload_n C 465 1 5 dL_areHouses_465 rfl rfl ?_
                                                          refine z_iconst C 466 (v := 4) dL_areHouses_466 (by decide +kernel) ?_
                                                          refine z_iload C 467 7 2 dL_areHouses_467 rfl ?_
                                                          refine z_imul C 469 dL_areHouses_469 ?_
                                                          refine z_iconst C 470 (v := 1) dL_areHouses_470 (by decide +kernel) ?_
                                                          refine z_iadd C 471 dL_areHouses_471 ?_
                                                          refine z_ialdN C 472 (271) (4 * k + 1) dL_areHouses_472 hW.h271 hW.e271 (lx4 k 1) (by have := (hm.lt hk ‹¬ t (277) 1 ≤ nI k›); have := hm.1; omega) (by decide) ?_
                                                          refine z_virtIe C 473 (As := [.int (t (271) (4 * k + 0)), .int (t (271) (4 * k + 1))]) (st := []) (id := 270) (kX6_at l D cy K n ad hJ hO t (t (271) (4 * k + 0)) (t (271) (4 * k + 1)) hG) dL_areHouses_473 rfl gL_areHouses_X6_at hyX6_at rfl (by decide) (by decide) hO.h0 rfl hO.e0 rfl rfl rfl (Nat.le_of_ble_eq_true rfl) ?_
                                                          refine z_iload C 476 7 2 dL_areHouses_476 rfl ?_
                                                          refine z_icmp_ne C 478 485 dL_areHouses_478 (by decide) (fun c478_57 => ?_) (fun c478_57 => ?_)
                                                          · exact absurd (hAl k hk9).2.2.2.2.2.2.2.2.2.2.2.2.2.2.2.2.2.2.2 c478_57
                                                          · refine z_iconst C 481 (v := 1) dL_areHouses_481 (by decide +kernel) ?_
                                                            refine z_goto C 482 486 dL_areHouses_482 (by decide) ?_
                                                            refine z_istore C 486 6 ([(6, .int 1), (9, .int (lThen t k)), (8, .int (rL_units t k)), (7, .int (nI k)), (0, .ref (ad (270))), (1, .ref (ad (271))), (2, .ref (ad (272))), (3, .ref (ad (273))), (4, .ref (ad (274))), (5, .ref (ad (277)))]) dL_areHouses_486 (by decide) rfl ?_
                                                            refine z_iinc C 488 (v := nI (k + 1)) 7 3 ([(7, .int (nI (k + 1))), (6, .int 1), (9, .int (lThen t k)), (8, .int (rL_units t k)), (0, .ref (ad (270))), (1, .ref (ad (271))), (2, .ref (ad (272))), (3, .ref (ad (273))), (4, .ref (ad (274))), (5, .ref (ad (277)))]) dL_areHouses_488 rfl (nI_1 _) (by decide) rfl ?_
                                                            refine z_goto C 491 48 dL_areHouses_491 (by decide) ?_
                                                            refine z_ls [0, 1, 4, 5, 6, 7, 8, 9] _ rfl ?_
                                                            exact ih48 (k + 1) (by omega) hk9 (hI48.trans ((if_neg c54_7).trans rfl))
                                                    refine z_if_le C 420 427 dL_areHouses_420 (by decide) (fun c420_50 => ?_) (fun c420_50 => ?_)
                                                    · refine z_iload C 427 9 0 dL_areHouses_427 rfl ?_
                                                      refine z_if_ge C 429 436 dL_areHouses_429 (by decide) (fun c429_51 => ?_) (fun c429_51 => ?_)
                                                      · refine z_iconst C 436 (v := 0) dL_areHouses_436 (by decide +kernel) ?_
                                                        exact z_nv (if (lThen t k) ≤ 0 then (if 0 ≤ (lThen t k) then 0 else 2) else 1) (((if_pos c420_50).trans ((if_pos c429_51).trans rfl))).symm M420_52
                                                      · refine z_iconst C 432 (v := 2) dL_areHouses_432 (by decide +kernel) ?_
                                                        refine z_goto C 433 437 dL_areHouses_433 (by decide) ?_
                                                        exact z_nv (if (lThen t k) ≤ 0 then (if 0 ≤ (lThen t k) then 0 else 2) else 1) (((if_pos c420_50).trans ((if_neg c429_51).trans rfl))).symm M420_52
                                                    · refine z_iconst C 423 (v := 1) dL_areHouses_423 (by decide +kernel) ?_
                                                      refine z_goto C 424 437 dL_areHouses_424 (by decide) ?_
                                                      exact z_nv (if (lThen t k) ≤ 0 then (if 0 ≤ (lThen t k) then 0 else 2) else 1) (((if_neg c420_50).trans rfl)).symm M420_52
                              refine z_if_le C 233 249 dL_areHouses_233 (by decide) (fun c233_27 => ?_) (fun c233_27 => ?_)
                              · refine z_ldc C 249 (v := (-1000004)) dL_areHouses_249 mL_areHouses_c46 ?_
                                exact z_nv (if (t (272) (4 * k + 3)) ≤ 0 then (-1000004) else ((t (272) (4 * k + 3)) - 1)) (((if_pos c233_27).trans rfl)).symm M233_28
                              · refine z_aload_n C 236 2 6 dL_areHouses_236 rfl rfl ?_
                                refine z_iconst C 237 (v := 4) dL_areHouses_237 (by decide +kernel) ?_
                                refine z_iload C 238 7 2 dL_areHouses_238 rfl ?_
                                refine z_imul C 240 dL_areHouses_240 ?_
                                refine z_iconst C 241 (v := 3) dL_areHouses_241 (by decide +kernel) ?_
                                refine z_iadd C 242 dL_areHouses_242 ?_
                                refine z_ialdN C 243 (272) (4 * k + 3) dL_areHouses_243 hW.h272 hW.e272 (lx4 k 3) (by have := (hm.lt hk ‹¬ t (277) 1 ≤ nI k›); have := hm.1; omega) (by decide) ?_
                                refine z_iconst C 244 (v := 1) dL_areHouses_244 (by decide +kernel) ?_
                                refine z_isub C 245 dL_areHouses_245 ?_
                                refine z_goto C 246 251 dL_areHouses_246 (by decide) ?_
                                exact z_nv (if (t (272) (4 * k + 3)) ≤ 0 then (-1000004) else ((t (272) (4 * k + 3)) - 1)) (((if_neg c233_27).trans rfl)).symm M233_28
        refine z_ls [0, 1, 2, 3, 4, 5, 6, 7] _ rfl ?_
        exact L48 (17) 0 (by omega) (Nat.zero_le _) rfl
theorem rL_areHouses_1 {H : Nat} {t : zM} (hm : lS H t) : rL_areHouses t = 1 := by
  have key : ∀ (j k : Nat), 17 ≤ k + j → k ≤ H → lL_areHouses_48 t j k = 1 := by
    intro j
    induction j with
    | zero => intro k h0 hk; have := hm.1; omega
    | succ j ih =>
      intro k h0 hk
      unfold lL_areHouses_48
      split
      · rfl
      · exact ih _ (by omega) (hm.lt hk (by assumption))
  exact key 17 0 (by decide) (Nat.zero_le _)
