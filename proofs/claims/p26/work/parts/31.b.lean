def lL_day_203 (t : zM) (N : Nat) : Nat → Nat → Int32 → zM → Int32
  | 0, _, _, _ => 0
  | j3 + 1, i, v, y => (if (y (277) 1) ≤ nI i then v else (if (y (272) (4 * i + 0)) < (y (277) 12) then (lL_day_203 t N j3 (i + 1) v y) else (lL_day_203 t N j3 (i + 1) v (zset (zset (zset (zset y (272) (4 * i + 0) ((y (272) (4 * i + 0)) - 100)) (274) (2 * i + 0) ((y (274) (2 * i + 0)) + 1)) (277) 6 ((y (277) 6) + 1)) (277) 7 ((y (277) 7) + (y (277) 11))))))
def lsL_day_203 (t : zM) (N : Nat) : Nat → Nat → Int32 → zM → zM
  | 0, _, _, y => y
  | j3 + 1, i, v, y => (if (y (277) 1) ≤ nI i then y else (if (y (272) (4 * i + 0)) < (y (277) 12) then (lsL_day_203 t N j3 (i + 1) v y) else (lsL_day_203 t N j3 (i + 1) v (zset (zset (zset (zset y (272) (4 * i + 0) ((y (272) (4 * i + 0)) - 100)) (274) (2 * i + 0) ((y (274) (2 * i + 0)) + 1)) (277) 6 ((y (277) 6) + 1)) (277) 7 ((y (277) 7) + (y (277) 11))))))
def lL_day_101 (t : zM) (N : Nat) : Nat → Nat → Int32 → Nat → Nat → zM → Int32
  | 0, _, _, _, _, _ => 0
  | j2 + 1, x, v, mm, q, w => (if nI mm ≤ nI x then (if (zrem (w (277) 0) (w (277) 13)) = 0 then (lL_day_203 t N 17 0 v (zset w (277) 8 ((w (277) 8) + 1))) else v) else (if (w (277) 10) ≤ v then (if (zrem (w (277) 0) (w (277) 13)) = 0 then (lL_day_203 t N 17 0 v (zset w (277) 8 ((w (277) 8) + 1))) else v) else (if (rL_why w ((w (275) (4 + x)).toNatClampNeg)) = 0 then (if 0 ≤ (rL_read w ((w (275) (4 + x)).toNatClampNeg)) then (lL_day_101 t N j2 (x + 1) (v + 1) mm q (zset (sL_read w ((w (275) (4 + x)).toNatClampNeg)) (275) q ((nI (w (275) (4 + x)).toNatClampNeg) + 1))) else (lL_day_101 t N j2 (x + 1) (v + 0) mm q (zset (sL_read w ((w (275) (4 + x)).toNatClampNeg)) (275) q ((nI (w (275) (4 + x)).toNatClampNeg) + 1)))) else (lL_day_101 t N j2 (x + 1) v mm q w))))
def lsL_day_101 (t : zM) (N : Nat) : Nat → Nat → Int32 → Nat → Nat → zM → zM
  | 0, _, _, _, _, w => w
  | j2 + 1, x, v, mm, q, w => (if nI mm ≤ nI x then (if (zrem (w (277) 0) (w (277) 13)) = 0 then (lsL_day_203 t N 17 0 v (zset w (277) 8 ((w (277) 8) + 1))) else w) else (if (w (277) 10) ≤ v then (if (zrem (w (277) 0) (w (277) 13)) = 0 then (lsL_day_203 t N 17 0 v (zset w (277) 8 ((w (277) 8) + 1))) else w) else (if (rL_why w ((w (275) (4 + x)).toNatClampNeg)) = 0 then (if 0 ≤ (rL_read w ((w (275) (4 + x)).toNatClampNeg)) then (lsL_day_101 t N j2 (x + 1) (v + 1) mm q (zset (sL_read w ((w (275) (4 + x)).toNatClampNeg)) (275) q ((nI (w (275) (4 + x)).toNatClampNeg) + 1))) else (lsL_day_101 t N j2 (x + 1) (v + 0) mm q (zset (sL_read w ((w (275) (4 + x)).toNatClampNeg)) (275) q ((nI (w (275) (4 + x)).toNatClampNeg) + 1)))) else (lsL_day_101 t N j2 (x + 1) v mm q w))))
def lL_day_3 (t : zM) (N : Nat) : Nat → Nat → zM → Int32
  | 0, _, _ => 0
  | j1 + 1, k, u => (if (u (277) 1) ≤ nI k then (lL_day_101 t N 21 0 0 (rL_round (zset u (277) 0 ((u (277) 0) + 1)) ((N + 1) % 4)).toNatClampNeg ((N + 1) % 4) (sL_round (zset u (277) 0 ((u (277) 0) + 1)) ((N + 1) % 4))) else (lL_day_3 t N j1 (k + 1) (zset (zset u (271) (4 * k + 2) ((u (271) (4 * k + 2)) + (u (272) (4 * k + 1)))) (271) (4 * k + 2) (((u (271) (4 * k + 2)) + (u (272) (4 * k + 1))) - (if ((u (271) (4 * k + 2)) + (u (272) (4 * k + 1))) ≤ 99999 then 0 else 100000)))))
def lsL_day_3 (t : zM) (N : Nat) : Nat → Nat → zM → zM
  | 0, _, u => u
  | j1 + 1, k, u => (if (u (277) 1) ≤ nI k then (lsL_day_101 t N 21 0 0 (rL_round (zset u (277) 0 ((u (277) 0) + 1)) ((N + 1) % 4)).toNatClampNeg ((N + 1) % 4) (sL_round (zset u (277) 0 ((u (277) 0) + 1)) ((N + 1) % 4))) else (lsL_day_3 t N j1 (k + 1) (zset (zset u (271) (4 * k + 2) ((u (271) (4 * k + 2)) + (u (272) (4 * k + 1)))) (271) (4 * k + 2) (((u (271) (4 * k + 2)) + (u (272) (4 * k + 1))) - (if ((u (271) (4 * k + 2)) + (u (272) (4 * k + 1))) ≤ 99999 then 0 else 100000)))))
def rL_day (t : zM) (N : Nat) : Int32 := (lL_day_3 t N 17 0 t)
def sL_day (t : zM) (N : Nat) : zM := (lsL_day_3 t N 17 0 t)
theorem mL_day_c24 : Cond.constant RL 24 (99999) ∈ wsL_day := by decide +kernel
theorem mL_day_c9 : Cond.constant RL 9 (100000) ∈ wsL_day := by decide +kernel
theorem hyL_day : yL_day.cls ≠ "java/lang/invoke/MethodHandle" ∧ yL_day.cls ≠ "java/lang/invoke/VarHandle" ∧ (parseMethodDescriptor yL_day.desc).map (fun d => d.parameters.length) = some 7 := by decide +kernel
set_option maxHeartbeats 3000000 in
set_option maxRecDepth 100000 in
theorem kL_day (l : Launch) (D : va_G) (cy : Nat → ClassId) (K : zK) (n : Nat) (ad : Nat → Nat) (hJ : zJ n ad) (t : zM) (H N : Nat) (hW : zLw cy K n ad) (hN : N ≤ 20000) (hm0 : lD H N t) : zI l yL_day wsL_day 3 D cy K n ad t [.ref (ad (271)), .ref (ad (272)), .ref (ad (273)), .ref (ad (274)), .ref (ad (275)), .ref (ad (276)), .ref (ad (277))] (fun r t1 => r = rL_day t N ∧ t1 = sL_day t N) := by
  refine z_startI (cc := cL_day) (mL := 12) (ret := (some .int)) (own := RL) rfl (by decide +kernel) rfl hJ (Nat.le_of_ble_eq_true rfl) ?_
  intro p e s m args below meth c A hA Q hQ C
  refine z_iconst C 0 (v := 0) dL_day_0 (by decide +kernel) ?_
  refine z_istore C 1 7 ([(7, .int 0), (0, .ref (ad (271))), (1, .ref (ad (272))), (2, .ref (ad (273))), (3, .ref (ad (274))), (4, .ref (ad (275))), (5, .ref (ad (276))), (6, .ref (ad (277)))]) dL_day_1 (by decide) rfl ?_
  have L3 : ∀ (j1 : Nat) (k : Nat) (u : zM), (h0_3 : 17 ≤ k + j1) → (hk : k ≤ H) → (hm : lD H N u) → (hI3 : rL_day t N = (lL_day_3 t N j1 k u)) → (hS3 : sL_day t N = (lsL_day_3 t N j1 k u)) → Zw p l e (zR 3) s m args below meth c D A K n ad 12 Q 3 ([(7, .int (nI k)), (0, .ref (ad (271))), (1, .ref (ad (272))), (2, .ref (ad (273))), (3, .ref (ad (274))), (4, .ref (ad (275))), (5, .ref (ad (276))), (6, .ref (ad (277)))]) [] u := by
    intro j1
    induction j1 with
    | zero =>
      intro k u h0_3 hk hm hI3 hS3
      exact absurd h0_3 (by have := hm.1.1; omega)
    | succ j1 ih3 =>
      intro k u h0_3 hk hm hI3 hS3
      refine z_iload C 3 7 0 dL_day_3 rfl ?_
      refine z_aload C 5 6 7 dL_day_5 rfl ?_
      refine z_iconst C 7 (v := 1) dL_day_7 (by decide +kernel) ?_
      refine z_ialdN C 8 (277) 1 dL_day_8 hW.h277 hW.e277 rfl (by decide) (by decide) ?_
      refine z_icmp_ge C 9 67 dL_day_9 (by decide) (fun c9_1 => ?_) (fun c9_1 => ?_)
      · refine z_aload C 67 6 7 dL_day_67 rfl ?_
        refine z_iconst C 69 (v := 0) dL_day_69 (by decide +kernel) ?_
        refine z_dup2 C 70 dL_day_70 rfl rfl ?_
        refine z_ialdN C 71 (277) 0 dL_day_71 hW.h277 hW.e277 rfl (by decide) (by decide) ?_
        refine z_iconst C 72 (v := 1) dL_day_72 (by decide +kernel) ?_
        refine z_iadd C 73 dL_day_73 ?_
        refine z_iastN C 74 (277) 0 dL_day_74 hW.h277 hW.e277 rfl (by decide) (by decide) ?_
        refine z_aload C 75 6 7 dL_day_75 rfl ?_
        refine z_iconst C 77 (v := 0) dL_day_77 (by decide +kernel) ?_
        refine z_ialdN C 78 (277) 0 dL_day_78 hW.h277 hW.e277 rfl (by decide) (by decide) ?_
        refine z_nv ((u (277) 0) + 1) (zset_eq _ _ _ _) ?_
        refine z_iconst C 79 (v := 4) dL_day_79 (by decide +kernel) ?_
        refine z_irem C 80 dL_day_80 (by decide) ?_
        refine z_nv (nI ((N + 1) % 4)) (by rw [hm.2.1, nI_1]; exact zrem_n (b := 4) (by omega) (by decide) (by decide)) ?_
        refine z_istore C 81 7 ([(7, .int (nI ((N + 1) % 4))), (0, .ref (ad (271))), (1, .ref (ad (272))), (2, .ref (ad (273))), (3, .ref (ad (274))), (4, .ref (ad (275))), (5, .ref (ad (276))), (6, .ref (ad (277)))]) dL_day_81 (by decide) rfl ?_
        refine z_aload_n C 83 0 1 dL_day_83 rfl rfl ?_
        refine z_aload C 84 4 5 dL_day_84 rfl ?_
        refine z_aload C 86 6 7 dL_day_86 rfl ?_
        refine z_iload C 88 7 0 dL_day_88 rfl ?_
        refine z_statIe C 90 (As := [.ref (ad (271)), .ref (ad (275)), .ref (ad (277)), .int (nI ((N + 1) % 4))]) (st := []) (kL_round l D cy K n ad hJ (zset u (277) 0 ((u (277) 0) + 1)) ((N + 1) % 4) H hW (Nat.mod_lt _ (by decide)) hm.now.1) dL_day_90 rfl gL_day_L_round hyL_round rfl (by decide) (by decide) rfl rfl (Nat.le_of_ble_eq_true rfl) ?_
        refine z_nv (nI (rL_round (zset u (277) 0 ((u (277) 0) + 1)) ((N + 1) % 4)).toNatClampNeg) (round_n hm.now.1).2.1 ?_
        refine z_istore C 93 8 ([(8, .int (nI (rL_round (zset u (277) 0 ((u (277) 0) + 1)) ((N + 1) % 4)).toNatClampNeg)), (7, .int (nI ((N + 1) % 4))), (0, .ref (ad (271))), (1, .ref (ad (272))), (2, .ref (ad (273))), (3, .ref (ad (274))), (4, .ref (ad (275))), (5, .ref (ad (276))), (6, .ref (ad (277)))]) dL_day_93 (by decide) rfl ?_
        refine z_iconst C 95 (v := 0) dL_day_95 (by decide +kernel) ?_
        refine z_istore C 96 9 ([(9, .int 0), (8, .int (nI (rL_round (zset u (277) 0 ((u (277) 0) + 1)) ((N + 1) % 4)).toNatClampNeg)), (7, .int (nI ((N + 1) % 4))), (0, .ref (ad (271))), (1, .ref (ad (272))), (2, .ref (ad (273))), (3, .ref (ad (274))), (4, .ref (ad (275))), (5, .ref (ad (276))), (6, .ref (ad (277)))]) dL_day_96 (by decide) rfl ?_
        refine z_iconst C 98 (v := 0) dL_day_98 (by decide +kernel) ?_
        refine z_istore C 99 10 ([(10, .int 0), (9, .int 0), (8, .int (nI (rL_round (zset u (277) 0 ((u (277) 0) + 1)) ((N + 1) % 4)).toNatClampNeg)), (7, .int (nI ((N + 1) % 4))), (0, .ref (ad (271))), (1, .ref (ad (272))), (2, .ref (ad (273))), (3, .ref (ad (274))), (4, .ref (ad (275))), (5, .ref (ad (276))), (6, .ref (ad (277)))]) dL_day_99 (by decide) rfl ?_
        have L101 : ∀ (j2 : Nat) (x : Nat) (v : Int32) (mm : Nat) (q : Nat) (w : zM), (h0_101 : 21 ≤ x + j2) → (hx : x ≤ mm) → (hm20 : mm ≤ 20) → (hq : q < 4) → (hw : lD H (N + 1) w) → (hr : lR H mm w) → (hI101 : rL_day t N = (lL_day_101 t N j2 x v mm q w)) → (hS101 : sL_day t N = (lsL_day_101 t N j2 x v mm q w)) → Zw p l e (zR 3) s m args below meth c D A K n ad 12 Q 101 ([(10, .int (nI x)), (9, .int v), (8, .int (nI mm)), (7, .int (nI q)), (0, .ref (ad (271))), (1, .ref (ad (272))), (2, .ref (ad (273))), (3, .ref (ad (274))), (4, .ref (ad (275))), (5, .ref (ad (276))), (6, .ref (ad (277)))]) [] w := by
          intro j2
          induction j2 with
          | zero =>
            intro x v mm q w h0_101 hx hm20 hq hw hr hI101 hS101
            exact absurd h0_101 (by omega)
          | succ j2 ih101 =>
            intro x v mm q w h0_101 hx hm20 hq hw hr hI101 hS101
            refine z_iload C 101 10 0 dL_day_101 rfl ?_
            refine z_iload C 103 8 2 dL_day_103 rfl ?_
            refine z_icmp_ge C 105 178 dL_day_105 (by decide) (fun c105_3 => ?_) (fun c105_3 => ?_)
            · refine z_aload C 178 6 10 dL_day_178 rfl ?_
              refine z_iconst C 180 (v := 0) dL_day_180 (by decide +kernel) ?_
              refine z_ialdN C 181 (277) 0 dL_day_181 hW.h277 hW.e277 rfl (by decide) (by decide) ?_
              refine z_aload C 182 6 10 dL_day_182 rfl ?_
              refine z_bipush C 184 (v := 13) dL_day_184 (by decide +kernel) ?_
              refine z_ialdN C 186 (277) 13 dL_day_186 hW.h277 hW.e277 rfl (by decide) (by decide) ?_
              refine z_irem C 187 dL_day_187 hw.2.2 ?_
              refine z_if_ne C 188 275 dL_day_188 (by decide) (fun c188_4 => ?_) (fun c188_4 => ?_)
              · refine z_iload C 275 9 1 dL_day_275 rfl ?_
                exact z_iret C 277 hA hQ rfl dL_day_277 ⟨((hI101.trans ((if_pos c105_3).trans ((if_neg c188_4).trans rfl)))).symm, ((hS101.trans ((if_pos c105_3).trans ((if_neg c188_4).trans rfl)))).symm⟩
              · refine z_aload C 191 6 10 dL_day_191 rfl ?_
                refine z_bipush C 193 (v := 8) dL_day_193 (by decide +kernel) ?_
                refine z_dup2 C 195 dL_day_195 rfl rfl ?_
                refine z_ialdN C 196 (277) 8 dL_day_196 hW.h277 hW.e277 rfl (by decide) (by decide) ?_
                refine z_iconst C 197 (v := 1) dL_day_197 (by decide +kernel) ?_
                refine z_iadd C 198 dL_day_198 ?_
                refine z_iastN C 199 (277) 8 dL_day_199 hW.h277 hW.e277 rfl (by decide) (by decide) ?_
                refine z_iconst C 200 (v := 0) dL_day_200 (by decide +kernel) ?_
                refine z_istore C 201 10 ([(10, .int 0), (9, .int v), (8, .int (nI mm)), (7, .int (nI q)), (0, .ref (ad (271))), (1, .ref (ad (272))), (2, .ref (ad (273))), (3, .ref (ad (274))), (4, .ref (ad (275))), (5, .ref (ad (276))), (6, .ref (ad (277)))]) dL_day_201 (by decide) rfl ?_
                have L203 : ∀ (j3 : Nat) (i : Nat) (v : Int32) (y : zM), (h0_203 : 17 ≤ i + j3) → (hi : i ≤ H) → (hy : lS H y) → (hI203 : rL_day t N = (lL_day_203 t N j3 i v y)) → (hS203 : sL_day t N = (lsL_day_203 t N j3 i v y)) → Zw p l e (zR 3) s m args below meth c D A K n ad 12 Q 203 ([(10, .int (nI i)), (9, .int v), (0, .ref (ad (271))), (1, .ref (ad (272))), (2, .ref (ad (273))), (3, .ref (ad (274))), (4, .ref (ad (275))), (5, .ref (ad (276))), (6, .ref (ad (277)))]) [] y := by
                  intro j3
                  induction j3 with
                  | zero =>
                    intro i v y h0_203 hi hy hI203 hS203
                    exact absurd h0_203 (by have := hy.1; omega)
                  | succ j3 ih203 =>
                    intro i v y h0_203 hi hy hI203 hS203
                    refine z_iload C 203 10 0 dL_day_203 rfl ?_
                    refine z_aload C 205 6 8 dL_day_205 rfl ?_
                    refine z_iconst C 207 (v := 1) dL_day_207 (by decide +kernel) ?_
                    refine z_ialdN C 208 (277) 1 dL_day_208 hW.h277 hW.e277 rfl (by decide) (by decide) ?_
                    refine z_icmp_ge C 209 275 dL_day_209 (by decide) (fun c209_5 => ?_) (fun c209_5 => ?_)
                    · refine z_iload C 275 9 1 dL_day_275 rfl ?_
                      exact z_iret C 277 hA hQ rfl dL_day_277 ⟨((hI203.trans ((if_pos c209_5).trans rfl))).symm, ((hS203.trans ((if_pos c209_5).trans rfl))).symm⟩
                    · refine z_aload_n C 212 1 3 dL_day_212 rfl rfl ?_
                      refine z_iconst C 213 (v := 4) dL_day_213 (by decide +kernel) ?_
                      refine z_iload C 214 10 0 dL_day_214 rfl ?_
                      refine z_imul C 216 dL_day_216 ?_
                      refine z_ialdN C 217 (272) (4 * i + 0) dL_day_217 hW.h272 hW.e272 (nI_mul 4 i) (by have := (Nat.lt_of_lt_of_le (hy.lt hi ‹¬ y (277) 1 ≤ nI i›) hy.1); omega) (by decide) ?_
                      refine z_aload C 218 6 8 dL_day_218 rfl ?_
                      refine z_bipush C 220 (v := 12) dL_day_220 (by decide +kernel) ?_
                      refine z_ialdN C 222 (277) 12 dL_day_222 hW.h277 hW.e277 rfl (by decide) (by decide) ?_
                      refine z_icmp_lt C 223 269 dL_day_223 (by decide) (fun c223_6 => ?_) (fun c223_6 => ?_)
                      · refine z_iinc C 269 (v := nI (i + 1)) 10 0 ([(10, .int (nI (i + 1))), (9, .int v), (0, .ref (ad (271))), (1, .ref (ad (272))), (2, .ref (ad (273))), (3, .ref (ad (274))), (4, .ref (ad (275))), (5, .ref (ad (276))), (6, .ref (ad (277)))]) dL_day_269 rfl (nI_1 _) (by decide) rfl ?_
                        refine z_goto C 272 203 dL_day_272 (by decide) ?_
                        refine z_ls [0, 1, 2, 3, 4, 5, 6, 7, 8] _ rfl ?_
                        exact ih203 (i + 1) v y (by omega) (hy.lt hi ‹¬ y (277) 1 ≤ nI i›) hy (hI203.trans ((if_neg c209_5).trans ((if_pos c223_6).trans rfl))) (hS203.trans ((if_neg c209_5).trans ((if_pos c223_6).trans rfl)))
                      · refine z_aload_n C 226 1 3 dL_day_226 rfl rfl ?_
                        refine z_iconst C 227 (v := 4) dL_day_227 (by decide +kernel) ?_
                        refine z_iload C 228 10 0 dL_day_228 rfl ?_
                        refine z_imul C 230 dL_day_230 ?_
                        refine z_dup2 C 231 dL_day_231 rfl rfl ?_
                        refine z_ialdN C 232 (272) (4 * i + 0) dL_day_232 hW.h272 hW.e272 (nI_mul 4 i) (by have := (Nat.lt_of_lt_of_le (hy.lt hi ‹¬ y (277) 1 ≤ nI i›) hy.1); omega) (by decide) ?_
                        refine z_bipush C 233 (v := 100) dL_day_233 (by decide +kernel) ?_
                        refine z_isub C 235 dL_day_235 ?_
                        refine z_iastN C 236 (272) (4 * i + 0) dL_day_236 hW.h272 hW.e272 (nI_mul 4 i) (by have := (Nat.lt_of_lt_of_le (hy.lt hi ‹¬ y (277) 1 ≤ nI i›) hy.1); omega) (by decide) ?_
                        refine z_aload_n C 237 3 5 dL_day_237 rfl rfl ?_
                        refine z_iconst C 238 (v := 2) dL_day_238 (by decide +kernel) ?_
                        refine z_iload C 239 10 0 dL_day_239 rfl ?_
                        refine z_imul C 241 dL_day_241 ?_
                        refine z_dup2 C 242 dL_day_242 rfl rfl ?_
                        refine z_ialdN C 243 (274) (2 * i + 0) dL_day_243 hW.h274 hW.e274 (nI_mul 2 i) (by have := (Nat.lt_of_lt_of_le (hy.lt hi ‹¬ y (277) 1 ≤ nI i›) hy.1); omega) (by decide) ?_
                        refine z_nv (y (274) (2 * i + 0)) ((zset_idk _ _ _ _ (by decide)).trans rfl) ?_
                        refine z_iconst C 244 (v := 1) dL_day_244 (by decide +kernel) ?_
                        refine z_iadd C 245 dL_day_245 ?_
                        refine z_iastN C 246 (274) (2 * i + 0) dL_day_246 hW.h274 hW.e274 (nI_mul 2 i) (by have := (Nat.lt_of_lt_of_le (hy.lt hi ‹¬ y (277) 1 ≤ nI i›) hy.1); omega) (by decide) ?_
                        refine z_aload C 247 6 8 dL_day_247 rfl ?_
                        refine z_bipush C 249 (v := 6) dL_day_249 (by decide +kernel) ?_
                        refine z_dup2 C 251 dL_day_251 rfl rfl ?_
                        refine z_ialdN C 252 (277) 6 dL_day_252 hW.h277 hW.e277 rfl (by decide) (by decide) ?_
                        refine z_nv (y (277) 6) ((zset_idk _ _ _ _ (by decide)).trans ((zset_idk _ _ _ _ (by decide)).trans rfl)) ?_
                        refine z_iconst C 253 (v := 1) dL_day_253 (by decide +kernel) ?_
                        refine z_iadd C 254 dL_day_254 ?_
                        refine z_iastN C 255 (277) 6 dL_day_255 hW.h277 hW.e277 rfl (by decide) (by decide) ?_
                        refine z_aload C 256 6 8 dL_day_256 rfl ?_
                        refine z_bipush C 258 (v := 7) dL_day_258 (by decide +kernel) ?_
                        refine z_dup2 C 260 dL_day_260 rfl rfl ?_
                        refine z_ialdN C 261 (277) 7 dL_day_261 hW.h277 hW.e277 rfl (by decide) (by decide) ?_
                        refine z_nv (y (277) 7) ((zset_nk _ _ _ (by decide)).trans ((zset_idk _ _ _ _ (by decide)).trans ((zset_idk _ _ _ _ (by decide)).trans rfl))) ?_
                        refine z_aload C 262 6 8 dL_day_262 rfl ?_
                        refine z_bipush C 264 (v := 11) dL_day_264 (by decide +kernel) ?_
                        refine z_ialdN C 266 (277) 11 dL_day_266 hW.h277 hW.e277 rfl (by decide) (by decide) ?_
                        refine z_nv (y (277) 11) ((zset_nk _ _ _ (by decide)).trans ((zset_idk _ _ _ _ (by decide)).trans ((zset_idk _ _ _ _ (by decide)).trans rfl))) ?_
                        refine z_iadd C 267 dL_day_267 ?_
                        refine z_iastN C 268 (277) 7 dL_day_268 hW.h277 hW.e277 rfl (by decide) (by decide) ?_
                        refine z_iinc C 269 (v := nI (i + 1)) 10 0 ([(10, .int (nI (i + 1))), (9, .int v), (0, .ref (ad (271))), (1, .ref (ad (272))), (2, .ref (ad (273))), (3, .ref (ad (274))), (4, .ref (ad (275))), (5, .ref (ad (276))), (6, .ref (ad (277)))]) dL_day_269 rfl (nI_1 _) (by decide) rfl ?_
                        refine z_goto C 272 203 dL_day_272 (by decide) ?_
                        refine z_ls [0, 1, 2, 3, 4, 5, 6, 7, 8] _ rfl ?_
                        exact ih203 (i + 1) v (zset (zset (zset (zset y (272) (4 * i + 0) ((y (272) (4 * i + 0)) - 100)) (274) (2 * i + 0) ((y (274) (2 * i + 0)) + 1)) (277) 6 ((y (277) 6) + 1)) (277) 7 ((y (277) 7) + (y (277) 11))) (by omega) (hy.lt hi ‹¬ y (277) 1 ≤ nI i›) (hy.fr ((zset_nk _ _ _ (by decide)).trans ((zset_nk _ _ _ (by decide)).trans ((zset_idk _ _ _ _ (by decide)).trans (zset_idk _ _ _ _ (by decide)))))) (hI203.trans ((if_neg c209_5).trans ((if_neg c223_6).trans rfl))) (hS203.trans ((if_neg c209_5).trans ((if_neg c223_6).trans rfl)))
                refine z_ls [0, 1, 4, 5, 6, 7, 8, 9, 10] _ rfl ?_
                exact L203 (17) 0 v (zset w (277) 8 ((w (277) 8) + 1)) (by omega) (Nat.zero_le _) (hw.1.fr (zset_nk _ _ _ (by decide))) (hI101.trans ((if_pos c105_3).trans ((if_pos c188_4).trans rfl))) (hS101.trans ((if_pos c105_3).trans ((if_pos c188_4).trans rfl)))
            · refine z_iload C 108 9 1 dL_day_108 rfl ?_
              refine z_aload C 110 6 10 dL_day_110 rfl ?_
              refine z_bipush C 112 (v := 10) dL_day_112 (by decide +kernel) ?_
              refine z_ialdN C 114 (277) 10 dL_day_114 hW.h277 hW.e277 rfl (by decide) (by decide) ?_
              refine z_icmp_ge C 115 178 dL_day_115 (by decide) (fun c115_7 => ?_) (fun c115_7 => ?_)
              · refine z_aload C 178 6 10 dL_day_178 rfl ?_
                refine z_iconst C 180 (v := 0) dL_day_180 (by decide +kernel) ?_
                refine z_ialdN C 181 (277) 0 dL_day_181 hW.h277 hW.e277 rfl (by decide) (by decide) ?_
                refine z_aload C 182 6 10 dL_day_182 rfl ?_
                refine z_bipush C 184 (v := 13) dL_day_184 (by decide +kernel) ?_
                refine z_ialdN C 186 (277) 13 dL_day_186 hW.h277 hW.e277 rfl (by decide) (by decide) ?_
                refine z_irem C 187 dL_day_187 hw.2.2 ?_
                refine z_if_ne C 188 275 dL_day_188 (by decide) (fun c188_8 => ?_) (fun c188_8 => ?_)
                · refine z_iload C 275 9 1 dL_day_275 rfl ?_
                  exact z_iret C 277 hA hQ rfl dL_day_277 ⟨((hI101.trans ((if_neg c105_3).trans ((if_pos c115_7).trans ((if_neg c188_8).trans rfl))))).symm, ((hS101.trans ((if_neg c105_3).trans ((if_pos c115_7).trans ((if_neg c188_8).trans rfl))))).symm⟩
                · refine z_aload C 191 6 10 dL_day_191 rfl ?_
                  refine z_bipush C 193 (v := 8) dL_day_193 (by decide +kernel) ?_
                  refine z_dup2 C 195 dL_day_195 rfl rfl ?_
                  refine z_ialdN C 196 (277) 8 dL_day_196 hW.h277 hW.e277 rfl (by decide) (by decide) ?_
                  refine z_iconst C 197 (v := 1) dL_day_197 (by decide +kernel) ?_
                  refine z_iadd C 198 dL_day_198 ?_
                  refine z_iastN C 199 (277) 8 dL_day_199 hW.h277 hW.e277 rfl (by decide) (by decide) ?_
                  refine z_iconst C 200 (v := 0) dL_day_200 (by decide +kernel) ?_
                  refine z_istore C 201 10 ([(10, .int 0), (9, .int v), (8, .int (nI mm)), (7, .int (nI q)), (0, .ref (ad (271))), (1, .ref (ad (272))), (2, .ref (ad (273))), (3, .ref (ad (274))), (4, .ref (ad (275))), (5, .ref (ad (276))), (6, .ref (ad (277)))]) dL_day_201 (by decide) rfl ?_
                  have L203 : ∀ (j3 : Nat) (i : Nat) (v : Int32) (y : zM), (h0_203 : 17 ≤ i + j3) → (hi : i ≤ H) → (hy : lS H y) → (hI203 : rL_day t N = (lL_day_203 t N j3 i v y)) → (hS203 : sL_day t N = (lsL_day_203 t N j3 i v y)) → Zw p l e (zR 3) s m args below meth c D A K n ad 12 Q 203 ([(10, .int (nI i)), (9, .int v), (0, .ref (ad (271))), (1, .ref (ad (272))), (2, .ref (ad (273))), (3, .ref (ad (274))), (4, .ref (ad (275))), (5, .ref (ad (276))), (6, .ref (ad (277)))]) [] y := by
                    intro j3
                    induction j3 with
                    | zero =>
                      intro i v y h0_203 hi hy hI203 hS203
                      exact absurd h0_203 (by have := hy.1; omega)
                    | succ j3 ih203 =>
                      intro i v y h0_203 hi hy hI203 hS203
                      refine z_iload C 203 10 0 dL_day_203 rfl ?_
                      refine z_aload C 205 6 8 dL_day_205 rfl ?_
                      refine z_iconst C 207 (v := 1) dL_day_207 (by decide +kernel) ?_
                      refine z_ialdN C 208 (277) 1 dL_day_208 hW.h277 hW.e277 rfl (by decide) (by decide) ?_
                      refine z_icmp_ge C 209 275 dL_day_209 (by decide) (fun c209_9 => ?_) (fun c209_9 => ?_)
                      · refine z_iload C 275 9 1 dL_day_275 rfl ?_
                        exact z_iret C 277 hA hQ rfl dL_day_277 ⟨((hI203.trans ((if_pos c209_9).trans rfl))).symm, ((hS203.trans ((if_pos c209_9).trans rfl))).symm⟩
                      · refine z_aload_n C 212 1 3 dL_day_212 rfl rfl ?_
                        refine z_iconst C 213 (v := 4) dL_day_213 (by decide +kernel) ?_
                        refine z_iload C 214 10 0 dL_day_214 rfl ?_
                        refine z_imul C 216 dL_day_216 ?_
                        refine z_ialdN C 217 (272) (4 * i + 0) dL_day_217 hW.h272 hW.e272 (nI_mul 4 i) (by have := (Nat.lt_of_lt_of_le (hy.lt hi ‹¬ y (277) 1 ≤ nI i›) hy.1); omega) (by decide) ?_
                        refine z_aload C 218 6 8 dL_day_218 rfl ?_
                        refine z_bipush C 220 (v := 12) dL_day_220 (by decide +kernel) ?_
                        refine z_ialdN C 222 (277) 12 dL_day_222 hW.h277 hW.e277 rfl (by decide) (by decide) ?_
                        refine z_icmp_lt C 223 269 dL_day_223 (by decide) (fun c223_10 => ?_) (fun c223_10 => ?_)
                        · refine z_iinc C 269 (v := nI (i + 1)) 10 0 ([(10, .int (nI (i + 1))), (9, .int v), (0, .ref (ad (271))), (1, .ref (ad (272))), (2, .ref (ad (273))), (3, .ref (ad (274))), (4, .ref (ad (275))), (5, .ref (ad (276))), (6, .ref (ad (277)))]) dL_day_269 rfl (nI_1 _) (by decide) rfl ?_
                          refine z_goto C 272 203 dL_day_272 (by decide) ?_
                          refine z_ls [0, 1, 2, 3, 4, 5, 6, 7, 8] _ rfl ?_
                          exact ih203 (i + 1) v y (by omega) (hy.lt hi ‹¬ y (277) 1 ≤ nI i›) hy (hI203.trans ((if_neg c209_9).trans ((if_pos c223_10).trans rfl))) (hS203.trans ((if_neg c209_9).trans ((if_pos c223_10).trans rfl)))
                        · refine z_aload_n C 226 1 3 dL_day_226 rfl rfl ?_
                          refine z_iconst C 227 (v := 4) dL_day_227 (by decide +kernel) ?_
                          refine z_iload C 228 10 0 dL_day_228 rfl ?_
                          refine z_imul C 230 dL_day_230 ?_
                          refine z_dup2 C 231 dL_day_231 rfl rfl ?_
                          refine z_ialdN C 232 (272) (4 * i + 0) dL_day_232 hW.h272 hW.e272 (nI_mul 4 i) (by have := (Nat.lt_of_lt_of_le (hy.lt hi ‹¬ y (277) 1 ≤ nI i›) hy.1); omega) (by decide) ?_
                          refine z_bipush C 233 (v := 100) dL_day_233 (by decide +kernel) ?_
                          refine z_isub C 235 dL_day_235 ?_
                          refine z_iastN C 236 (272) (4 * i + 0) dL_day_236 hW.h272 hW.e272 (nI_mul 4 i) (by have := (Nat.lt_of_lt_of_le (hy.lt hi ‹¬ y (277) 1 ≤ nI i›) hy.1); omega) (by decide) ?_
                          refine z_aload_n C 237 3 5 dL_day_237 rfl rfl ?_
                          refine z_iconst C 238 (v := 2) dL_day_238 (by decide +kernel) ?_
                          refine z_iload C 239 10 0 dL_day_239 rfl ?_
                          refine z_imul C 241 dL_day_241 ?_
                          refine z_dup2 C 242 dL_day_242 rfl rfl ?_
                          refine z_ialdN C 243 (274) (2 * i + 0) dL_day_243 hW.h274 hW.e274 (nI_mul 2 i) (by have := (Nat.lt_of_lt_of_le (hy.lt hi ‹¬ y (277) 1 ≤ nI i›) hy.1); omega) (by decide) ?_
                          refine z_nv (y (274) (2 * i + 0)) ((zset_idk _ _ _ _ (by decide)).trans rfl) ?_
                          refine z_iconst C 244 (v := 1) dL_day_244 (by decide +kernel) ?_
                          refine z_iadd C 245 dL_day_245 ?_
                          refine z_iastN C 246 (274) (2 * i + 0) dL_day_246 hW.h274 hW.e274 (nI_mul 2 i) (by have := (Nat.lt_of_lt_of_le (hy.lt hi ‹¬ y (277) 1 ≤ nI i›) hy.1); omega) (by decide) ?_
                          refine z_aload C 247 6 8 dL_day_247 rfl ?_
                          refine z_bipush C 249 (v := 6) dL_day_249 (by decide +kernel) ?_
                          refine z_dup2 C 251 dL_day_251 rfl rfl ?_
                          refine z_ialdN C 252 (277) 6 dL_day_252 hW.h277 hW.e277 rfl (by decide) (by decide) ?_
                          refine z_nv (y (277) 6) ((zset_idk _ _ _ _ (by decide)).trans ((zset_idk _ _ _ _ (by decide)).trans rfl)) ?_
                          refine z_iconst C 253 (v := 1) dL_day_253 (by decide +kernel) ?_
                          refine z_iadd C 254 dL_day_254 ?_
                          refine z_iastN C 255 (277) 6 dL_day_255 hW.h277 hW.e277 rfl (by decide) (by decide) ?_
                          refine z_aload C 256 6 8 dL_day_256 rfl ?_
                          refine z_bipush C 258 (v := 7) dL_day_258 (by decide +kernel) ?_
                          refine z_dup2 C 260 dL_day_260 rfl rfl ?_
                          refine z_ialdN C 261 (277) 7 dL_day_261 hW.h277 hW.e277 rfl (by decide) (by decide) ?_
                          refine z_nv (y (277) 7) ((zset_nk _ _ _ (by decide)).trans ((zset_idk _ _ _ _ (by decide)).trans ((zset_idk _ _ _ _ (by decide)).trans rfl))) ?_
                          refine z_aload C 262 6 8 dL_day_262 rfl ?_
                          refine z_bipush C 264 (v := 11) dL_day_264 (by decide +kernel) ?_
                          refine z_ialdN C 266 (277) 11 dL_day_266 hW.h277 hW.e277 rfl (by decide) (by decide) ?_
                          refine z_nv (y (277) 11) ((zset_nk _ _ _ (by decide)).trans ((zset_idk _ _ _ _ (by decide)).trans ((zset_idk _ _ _ _ (by decide)).trans rfl))) ?_
                          refine z_iadd C 267 dL_day_267 ?_
                          refine z_iastN C 268 (277) 7 dL_day_268 hW.h277 hW.e277 rfl (by decide) (by decide) ?_
                          refine z_iinc C 269 (v := nI (i + 1)) 10 0 ([(10, .int (nI (i + 1))), (9, .int v), (0, .ref (ad (271))), (1, .ref (ad (272))), (2, .ref (ad (273))), (3, .ref (ad (274))), (4, .ref (ad (275))), (5, .ref (ad (276))), (6, .ref (ad (277)))]) dL_day_269 rfl (nI_1 _) (by decide) rfl ?_
                          refine z_goto C 272 203 dL_day_272 (by decide) ?_
                          refine z_ls [0, 1, 2, 3, 4, 5, 6, 7, 8] _ rfl ?_
                          exact ih203 (i + 1) v (zset (zset (zset (zset y (272) (4 * i + 0) ((y (272) (4 * i + 0)) - 100)) (274) (2 * i + 0) ((y (274) (2 * i + 0)) + 1)) (277) 6 ((y (277) 6) + 1)) (277) 7 ((y (277) 7) + (y (277) 11))) (by omega) (hy.lt hi ‹¬ y (277) 1 ≤ nI i›) (hy.fr ((zset_nk _ _ _ (by decide)).trans ((zset_nk _ _ _ (by decide)).trans ((zset_idk _ _ _ _ (by decide)).trans (zset_idk _ _ _ _ (by decide)))))) (hI203.trans ((if_neg c209_9).trans ((if_neg c223_10).trans rfl))) (hS203.trans ((if_neg c209_9).trans ((if_neg c223_10).trans rfl)))
                  refine z_ls [0, 1, 4, 5, 6, 7, 8, 9, 10] _ rfl ?_
                  exact L203 (17) 0 v (zset w (277) 8 ((w (277) 8) + 1)) (by omega) (Nat.zero_le _) (hw.1.fr (zset_nk _ _ _ (by decide))) (hI101.trans ((if_neg c105_3).trans ((if_pos c115_7).trans ((if_pos c188_8).trans rfl)))) (hS101.trans ((if_neg c105_3).trans ((if_pos c115_7).trans ((if_pos c188_8).trans rfl))))
              · refine z_aload C 118 4 8 dL_day_118 rfl ?_
                refine z_iconst C 120 (v := 4) dL_day_120 (by decide +kernel) ?_
                refine z_iload C 121 10 0 dL_day_121 rfl ?_
                refine z_iadd C 123 dL_day_123 ?_
                refine z_ialdN C 124 (275) (4 + x) dL_day_124 hW.h275 hW.e275 (nI_add 4 x) (by have := (zge (a := x) (b := mm) (by omega) (by omega) ‹¬ nI mm ≤ nI x›); omega) (by decide) ?_
                refine z_nv (nI (w (275) (4 + x)).toNatClampNeg) (hr.c hw.1.1 (zge (a := x) (b := mm) (by omega) (by omega) ‹¬ nI mm ≤ nI x›)).2 ?_
                refine z_istore C 125 11 ([(11, .int (nI (w (275) (4 + x)).toNatClampNeg)), (10, .int (nI x)), (9, .int v), (8, .int (nI mm)), (7, .int (nI q)), (0, .ref (ad (271))), (1, .ref (ad (272))), (2, .ref (ad (273))), (3, .ref (ad (274))), (4, .ref (ad (275))), (5, .ref (ad (276))), (6, .ref (ad (277)))]) dL_day_125 (by decide) rfl ?_
                refine z_aload_n C 127 1 6 dL_day_127 rfl rfl ?_
                refine z_aload C 128 6 11 dL_day_128 rfl ?_
                refine z_iload C 130 11 0 dL_day_130 rfl ?_
                refine z_statIe C 132 (As := [.ref (ad (272)), .ref (ad (277)), .int (nI (w (275) (4 + x)).toNatClampNeg)]) (st := []) (kL_why l D cy K n ad hJ w ((w (275) (4 + x)).toNatClampNeg) hW (hr.c hw.1.1 (zge (a := x) (b := mm) (by omega) (by omega) ‹¬ nI mm ≤ nI x›)).1) dL_day_132 rfl gL_day_L_why hyL_why rfl (by decide) (by decide) rfl rfl (Nat.le_of_ble_eq_true rfl) ?_
                refine z_if_ne C 135 172 dL_day_135 (by decide) (fun c135_12 => ?_) (fun c135_12 => ?_)
                · refine z_iinc C 172 (v := nI (x + 1)) 10 1 ([(10, .int (nI (x + 1))), (11, .int (nI (w (275) (4 + x)).toNatClampNeg)), (9, .int v), (8, .int (nI mm)), (7, .int (nI q)), (0, .ref (ad (271))), (1, .ref (ad (272))), (2, .ref (ad (273))), (3, .ref (ad (274))), (4, .ref (ad (275))), (5, .ref (ad (276))), (6, .ref (ad (277)))]) dL_day_172 rfl (nI_1 _) (by decide) rfl ?_
                  refine z_goto C 175 101 dL_day_175 (by decide) ?_
                  refine z_ls [0, 2, 3, 4, 5, 6, 7, 8, 9, 10, 11] _ rfl ?_
                  exact ih101 (x + 1) v mm q w (by omega) (zge (a := x) (b := mm) (by omega) (by omega) ‹¬ nI mm ≤ nI x›) hm20 hq hw hr (hI101.trans ((if_neg c105_3).trans ((if_neg c115_7).trans ((if_neg c135_12).trans rfl)))) (hS101.trans ((if_neg c105_3).trans ((if_neg c115_7).trans ((if_neg c135_12).trans rfl))))
                · refine z_iload C 138 9 2 dL_day_138 rfl ?_
                  refine z_aload_n C 140 0 5 dL_day_140 rfl rfl ?_
                  refine z_aload_n C 141 1 6 dL_day_141 rfl rfl ?_
                  refine z_aload_n C 142 2 7 dL_day_142 rfl rfl ?_
                  refine z_aload C 143 5 10 dL_day_143 rfl ?_
                  refine z_aload C 145 6 11 dL_day_145 rfl ?_
                  refine z_iload C 147 11 0 dL_day_147 rfl ?_
                  refine z_statIe C 149 (As := [.ref (ad (271)), .ref (ad (272)), .ref (ad (273)), .ref (ad (276)), .ref (ad (277)), .int (nI (w (275) (4 + x)).toNatClampNeg)]) (st := [.int v]) (kL_read l D cy K n ad hJ w ((w (275) (4 + x)).toNatClampNeg) hW (hr.c hw.1.1 (zge (a := x) (b := mm) (by omega) (by omega) ‹¬ nI mm ≤ nI x›)).1) dL_day_149 rfl gL_day_L_read hyL_read rfl (by decide) (by decide) rfl rfl (Nat.le_of_ble_eq_true rfl) ?_
                  refine z_if_ge C 152 159 dL_day_152 (by decide) (fun c152_14 => ?_) (fun c152_14 => ?_)
                  · refine z_iconst C 159 (v := 1) dL_day_159 (by decide +kernel) ?_
                    refine z_iadd C 160 dL_day_160 ?_
                    refine z_istore C 161 9 ([(9, .int (v + 1)), (11, .int (nI (w (275) (4 + x)).toNatClampNeg)), (10, .int (nI x)), (8, .int (nI mm)), (7, .int (nI q)), (0, .ref (ad (271))), (1, .ref (ad (272))), (2, .ref (ad (273))), (3, .ref (ad (274))), (4, .ref (ad (275))), (5, .ref (ad (276))), (6, .ref (ad (277)))]) dL_day_161 (by decide) rfl ?_
                    refine z_aload C 163 4 9 dL_day_163 rfl ?_
                    refine z_iload C 165 7 4 dL_day_165 rfl ?_
                    refine z_iload C 167 11 1 dL_day_167 rfl ?_
                    refine z_iconst C 169 (v := 1) dL_day_169 (by decide +kernel) ?_
                    refine z_iadd C 170 dL_day_170 ?_
                    refine z_iastN C 171 (275) q dL_day_171 hW.h275 hW.e275 rfl (by omega) (by decide) ?_
                    refine z_iinc C 172 (v := nI (x + 1)) 10 2 ([(10, .int (nI (x + 1))), (9, .int (v + 1)), (11, .int (nI (w (275) (4 + x)).toNatClampNeg)), (8, .int (nI mm)), (7, .int (nI q)), (0, .ref (ad (271))), (1, .ref (ad (272))), (2, .ref (ad (273))), (3, .ref (ad (274))), (4, .ref (ad (275))), (5, .ref (ad (276))), (6, .ref (ad (277)))]) dL_day_172 rfl (nI_1 _) (by decide) rfl ?_
                    refine z_goto C 175 101 dL_day_175 (by decide) ?_
                    refine z_ls [0, 1, 3, 4, 5, 6, 7, 8, 9, 10, 11] _ rfl ?_
                    exact ih101 (x + 1) (v + 1) mm q (zset (sL_read w ((w (275) (4 + x)).toNatClampNeg)) (275) q ((nI (w (275) (4 + x)).toNatClampNeg) + 1)) (by omega) (zge (a := x) (b := mm) (by omega) (by omega) ‹¬ nI mm ≤ nI x›) hm20 hq ((hw.read _).id (by decide)) (hr.fr (fun x9 hx9 => (zset_nk _ _ _ (by omega)).trans (congrFun (sL_read_o _ _ (by decide)) _))) (hI101.trans ((if_neg c105_3).trans ((if_neg c115_7).trans ((if_pos c135_12).trans ((if_pos c152_14).trans rfl))))) (hS101.trans ((if_neg c105_3).trans ((if_neg c115_7).trans ((if_pos c135_12).trans ((if_pos c152_14).trans rfl)))))
                  · refine z_iconst C 155 (v := 0) dL_day_155 (by decide +kernel) ?_
                    refine z_goto C 156 160 dL_day_156 (by decide) ?_
                    refine z_iadd C 160 dL_day_160 ?_
                    refine z_istore C 161 9 ([(9, .int (v + 0)), (11, .int (nI (w (275) (4 + x)).toNatClampNeg)), (10, .int (nI x)), (8, .int (nI mm)), (7, .int (nI q)), (0, .ref (ad (271))), (1, .ref (ad (272))), (2, .ref (ad (273))), (3, .ref (ad (274))), (4, .ref (ad (275))), (5, .ref (ad (276))), (6, .ref (ad (277)))]) dL_day_161 (by decide) rfl ?_
                    refine z_aload C 163 4 9 dL_day_163 rfl ?_
                    refine z_iload C 165 7 4 dL_day_165 rfl ?_
                    refine z_iload C 167 11 1 dL_day_167 rfl ?_
                    refine z_iconst C 169 (v := 1) dL_day_169 (by decide +kernel) ?_
                    refine z_iadd C 170 dL_day_170 ?_
                    refine z_iastN C 171 (275) q dL_day_171 hW.h275 hW.e275 rfl (by omega) (by decide) ?_
                    refine z_iinc C 172 (v := nI (x + 1)) 10 2 ([(10, .int (nI (x + 1))), (9, .int (v + 0)), (11, .int (nI (w (275) (4 + x)).toNatClampNeg)), (8, .int (nI mm)), (7, .int (nI q)), (0, .ref (ad (271))), (1, .ref (ad (272))), (2, .ref (ad (273))), (3, .ref (ad (274))), (4, .ref (ad (275))), (5, .ref (ad (276))), (6, .ref (ad (277)))]) dL_day_172 rfl (nI_1 _) (by decide) rfl ?_
                    refine z_goto C 175 101 dL_day_175 (by decide) ?_
                    refine z_ls [0, 1, 3, 4, 5, 6, 7, 8, 9, 10, 11] _ rfl ?_
                    exact ih101 (x + 1) (v + 0) mm q (zset (sL_read w ((w (275) (4 + x)).toNatClampNeg)) (275) q ((nI (w (275) (4 + x)).toNatClampNeg) + 1)) (by omega) (zge (a := x) (b := mm) (by omega) (by omega) ‹¬ nI mm ≤ nI x›) hm20 hq ((hw.read _).id (by decide)) (hr.fr (fun x9 hx9 => (zset_nk _ _ _ (by omega)).trans (congrFun (sL_read_o _ _ (by decide)) _))) (hI101.trans ((if_neg c105_3).trans ((if_neg c115_7).trans ((if_pos c135_12).trans ((if_neg c152_14).trans rfl))))) (hS101.trans ((if_neg c105_3).trans ((if_neg c115_7).trans ((if_pos c135_12).trans ((if_neg c152_14).trans rfl)))))
        refine z_ls [0, 1, 2, 3, 4, 5, 6, 7, 8, 9, 10] _ rfl ?_
        exact L101 (21) 0 0 (rL_round (zset u (277) 0 ((u (277) 0) + 1)) ((N + 1) % 4)).toNatClampNeg ((N + 1) % 4) (sL_round (zset u (277) 0 ((u (277) 0) + 1)) ((N + 1) % 4)) (by omega) (Nat.zero_le _) (round_n hm.now.1).1 (Nat.mod_lt _ (by decide)) (hm.now.round _) (round_n hm.now.1).2.2 (hI3.trans ((if_pos c9_1).trans rfl)) (hS3.trans ((if_pos c9_1).trans rfl))
      · refine z_aload_n C 12 0 1 dL_day_12 rfl rfl ?_
        refine z_iconst C 13 (v := 4) dL_day_13 (by decide +kernel) ?_
        refine z_iload C 14 7 0 dL_day_14 rfl ?_
        refine z_imul C 16 dL_day_16 ?_
        refine z_iconst C 17 (v := 2) dL_day_17 (by decide +kernel) ?_
        refine z_iadd C 18 dL_day_18 ?_
        refine z_dup2 C 19 dL_day_19 rfl rfl ?_
        refine z_ialdN C 20 (271) (4 * k + 2) dL_day_20 hW.h271 hW.e271 (lx4 k 2) (by have := (Nat.lt_of_lt_of_le (hm.1.lt hk ‹¬ u (277) 1 ≤ nI k›) hm.1.1); omega) (by decide) ?_
        refine z_aload_n C 21 1 2 dL_day_21 rfl rfl ?_
        refine z_iconst C 22 (v := 4) dL_day_22 (by decide +kernel) ?_
        refine z_iload C 23 7 0 dL_day_23 rfl ?_
        refine z_imul C 25 dL_day_25 ?_
        refine z_iconst C 26 (v := 1) dL_day_26 (by decide +kernel) ?_
        refine z_iadd C 27 dL_day_27 ?_
        refine z_ialdN C 28 (272) (4 * k + 1) dL_day_28 hW.h272 hW.e272 (lx4 k 1) (by have := (Nat.lt_of_lt_of_le (hm.1.lt hk ‹¬ u (277) 1 ≤ nI k›) hm.1.1); omega) (by decide) ?_
        refine z_iadd C 29 dL_day_29 ?_
        refine z_iastN C 30 (271) (4 * k + 2) dL_day_30 hW.h271 hW.e271 (lx4 k 2) (by have := (Nat.lt_of_lt_of_le (hm.1.lt hk ‹¬ u (277) 1 ≤ nI k›) hm.1.1); omega) (by decide) ?_
        refine z_aload_n C 31 0 1 dL_day_31 rfl rfl ?_
        refine z_iconst C 32 (v := 4) dL_day_32 (by decide +kernel) ?_
        refine z_iload C 33 7 0 dL_day_33 rfl ?_
        refine z_imul C 35 dL_day_35 ?_
        refine z_iconst C 36 (v := 2) dL_day_36 (by decide +kernel) ?_
        refine z_iadd C 37 dL_day_37 ?_
        refine z_dup2 C 38 dL_day_38 rfl rfl ?_
        refine z_ialdN C 39 (271) (4 * k + 2) dL_day_39 hW.h271 hW.e271 (lx4 k 2) (by have := (Nat.lt_of_lt_of_le (hm.1.lt hk ‹¬ u (277) 1 ≤ nI k›) hm.1.1); omega) (by decide) ?_
        refine z_nv ((u (271) (4 * k + 2)) + (u (272) (4 * k + 1))) (zset_eq _ _ _ _) ?_
        refine z_aload_n C 40 0 1 dL_day_40 rfl rfl ?_
        refine z_iconst C 41 (v := 4) dL_day_41 (by decide +kernel) ?_
        refine z_iload C 42 7 0 dL_day_42 rfl ?_
        refine z_imul C 44 dL_day_44 ?_
        refine z_iconst C 45 (v := 2) dL_day_45 (by decide +kernel) ?_
        refine z_iadd C 46 dL_day_46 ?_
        refine z_ialdN C 47 (271) (4 * k + 2) dL_day_47 hW.h271 hW.e271 (lx4 k 2) (by have := (Nat.lt_of_lt_of_le (hm.1.lt hk ‹¬ u (277) 1 ≤ nI k›) hm.1.1); omega) (by decide) ?_
        refine z_nv ((u (271) (4 * k + 2)) + (u (272) (4 * k + 1))) (zset_eq _ _ _ _) ?_
        refine z_ldc C 48 (v := 99999) dL_day_48 mL_day_c24 ?_
        have M50_16 : Zw p l e (zR 3) s m args below meth c D A K n ad 12 Q 59 ([(7, .int (nI k)), (0, .ref (ad (271))), (1, .ref (ad (272))), (2, .ref (ad (273))), (3, .ref (ad (274))), (4, .ref (ad (275))), (5, .ref (ad (276))), (6, .ref (ad (277)))]) [.int (if ((u (271) (4 * k + 2)) + (u (272) (4 * k + 1))) ≤ 99999 then 0 else 100000), .int ((u (271) (4 * k + 2)) + (u (272) (4 * k + 1))), .int ((4 * nI k) + 2), .ref (ad (271))] (zset u (271) (4 * k + 2) ((u (271) (4 * k + 2)) + (u (272) (4 * k + 1)))) := by
          refine z_isub C 59 dL_day_59 ?_
          refine z_iastN C 60 (271) (4 * k + 2) dL_day_60 hW.h271 hW.e271 (lx4 k 2) (by have := (Nat.lt_of_lt_of_le (hm.1.lt hk ‹¬ u (277) 1 ≤ nI k›) hm.1.1); omega) (by decide) ?_
          refine z_iinc C 61 (v := nI (k + 1)) 7 0 ([(7, .int (nI (k + 1))), (0, .ref (ad (271))), (1, .ref (ad (272))), (2, .ref (ad (273))), (3, .ref (ad (274))), (4, .ref (ad (275))), (5, .ref (ad (276))), (6, .ref (ad (277)))]) dL_day_61 rfl (nI_1 _) (by decide) rfl ?_
          refine z_goto C 64 3 dL_day_64 (by decide) ?_
          refine z_ls [0, 1, 2, 3, 4, 5, 6, 7] _ rfl ?_
          exact ih3 (k + 1) (zset (zset u (271) (4 * k + 2) ((u (271) (4 * k + 2)) + (u (272) (4 * k + 1)))) (271) (4 * k + 2) (((u (271) (4 * k + 2)) + (u (272) (4 * k + 1))) - (if ((u (271) (4 * k + 2)) + (u (272) (4 * k + 1))) ≤ 99999 then 0 else 100000))) (by omega) (hm.1.lt hk ‹¬ u (277) 1 ≤ nI k›) ((hm.id (by decide)).id (by decide)) (hI3.trans ((if_neg c9_1).trans rfl)) (hS3.trans ((if_neg c9_1).trans rfl))
        refine z_icmp_le C 50 58 dL_day_50 (by decide) (fun c50_15 => ?_) (fun c50_15 => ?_)
        · refine z_iconst C 58 (v := 0) dL_day_58 (by decide +kernel) ?_
          exact z_nv (if ((u (271) (4 * k + 2)) + (u (272) (4 * k + 1))) ≤ 99999 then 0 else 100000) (((if_pos c50_15).trans rfl)).symm M50_16
        · refine z_ldc C 53 (v := 100000) dL_day_53 mL_day_c9 ?_
          refine z_goto C 55 59 dL_day_55 (by decide) ?_
          exact z_nv (if ((u (271) (4 * k + 2)) + (u (272) (4 * k + 1))) ≤ 99999 then 0 else 100000) (((if_neg c50_15).trans rfl)).symm M50_16
  refine z_ls [0, 1, 2, 3, 4, 5, 6, 7] _ rfl ?_
  exact L3 (17) 0 t (by omega) (Nat.zero_le _) hm0 rfl rfl
