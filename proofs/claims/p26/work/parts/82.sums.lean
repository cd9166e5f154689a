/-! the law's sums -/
def lLk (t : zM) : Nat → Int32
  | 0 => 0
  | k + 1 => lLk t k + t 272 (4 * k + 2)
def lAb (t : zM) : Nat → Int32
  | 0 => 0
  | k + 1 => lAb t k + (if t 272 (4 * k + 0) ≤ 0 then 0 else 1)
def lBe (t : zM) : Nat → Int32
  | 0 => 0
  | k + 1 => lBe t k + (if 0 ≤ t 272 (4 * k + 0) then 0 else 1)
def lSu (t : zM) : Nat → Int32
  | 0 => 10000
  | k + 1 => lSu t k + t 272 (4 * k + 0)
/-- the rank of a house -/
def lRk (t : zM) (k : Nat) : Nat → Int32
  | 0 => 0
  | i + 1 => lRk t k i + (if t 272 (4 * k + 0) < t 272 (4 * i + 0) then 1 else (if t 272 (4 * i + 0) = t 272 (4 * k + 0) then (if nI k ≤ nI i then 0 else 1) else 0))
def lOKs (t : zM) (H k : Nat) : Prop := rX6_wronged t (lRk t k H) = nI k ∧ ¬ t 272 (4 * k + 0) ≤ -100 ∧ ¬ 100 ≤ t 272 (4 * k + 0)
def lL_areSums_277 (t : zM) : Nat → Nat → Int32
  | 0, _ => 0
  | j4 + 1, y => (if 9 ≤ nI y then 1 else (if nI y = 2 then (if 3 < nI y then (lL_areSums_277 t j4 (y + 1)) else (lL_areSums_277 t j4 (y + 1))) else (if 2 ≤ nI y then (if 3 < nI y then (lL_areSums_277 t j4 (y + 1)) else (lL_areSums_277 t j4 (y + 1))) else (if 3 < nI y then (lL_areSums_277 t j4 (y + 1)) else (lL_areSums_277 t j4 (y + 1))))))
def lL_areSums_211 (t : zM) : Nat → Nat → Int32
  | 0, _ => 0
  | j3 + 1, x => (if 60 ≤ nI x then (lL_areSums_277 t 10 0) else (lL_areSums_211 t j3 (x + 1)))
def lL_areSums_20 (t : zM) : Nat → Nat → Int32
  | 0, _ => 0
  | j1 + 1, k => (if (t (277) 1) ≤ nI k then (lL_areSums_211 t 61 0) else (lL_areSums_20 t j1 (k + 1)))
def rL_areSums (t : zM)  : Int32 := (lL_areSums_20 t 17 0)
theorem mL_areSums_c46 : Cond.constant RL 46 (-1000004) ∈ wsL_areSums := by decide +kernel
theorem hyL_areSums : yL_areSums.cls ≠ "java/lang/invoke/MethodHandle" ∧ yL_areSums.cls ≠ "java/lang/invoke/VarHandle" ∧ (parseMethodDescriptor yL_areSums.desc).map (fun d => d.parameters.length) = some 4 := by decide +kernel
set_option maxHeartbeats 3000000 in
set_option maxRecDepth 100000 in
theorem kL_areSums (l : Launch) (D : va_G) (cy : Nat → ClassId) (K : zK) (n : Nat) (ad : Nat → Nat) (hJ : zJ n ad) (t : zM) (H : Nat) (hO : zTop cy K n ad) (hW : zLw cy K n ad) (hG : zGd t) (hm : lS H t) (hAl : ∀ k, k < H → lOKs t H k) (hB : ∀ x, x < 60 → rX6_ledger t (nI x / 6) (zrem (nI x) 6) = (if t 277 9 ≤ nI x / 6 then -1000004 else t 276 x)) (hC1 : ∀ y, y < 2 → rX6_count t (nI y) = t 277 y) (hC2 : ∀ y, y < 9 → 2 ≤ y → y ≠ 2 → rX6_count t (nI y) = t 277 (y - 1)) (hD : ∀ y, y ≤ 3 → rX6_count t (20 + nI y) = t 277 (10 + y)) (e2 : rX6_count t 2 = lLk t H) (e9 : rX6_count t 9 = lAb t H) (e10 : rX6_count t 10 = lBe t H) (e11 : rX6_count t 11 = lSu t H) (e12 : rX6_count t 12 = lSu t H) (e13 : rX6_count t 13 = t 277 8) (e14 : rX6_count t 14 = t 277 9) (eW : rX6_wronged t (t 277 1) = -1000004) : zI l yL_areSums wsL_areSums 3 D cy K n ad t [.ref (ad (270)), .ref (ad (272)), .ref (ad (276)), .ref (ad (277))] (fun r t1 => r = rL_areSums t ∧ t1 = t) := by
  refine z_startI (cc := cL_areSums) (mL := 12) (ret := (some .boolean)) (own := RL) rfl (by decide +kernel) rfl hJ (Nat.le_of_ble_eq_true rfl) ?_
  intro p e s m args below meth c A hA Q hQ C
  refine z_iconst C 0 (v := 0) dL_areSums_0 (by decide +kernel) ?_
  refine z_istore C 1 4 ([(4, .int 0), (0, .ref (ad (270))), (1, .ref (ad (272))), (2, .ref (ad (276))), (3, .ref (ad (277)))]) dL_areSums_1 (by decide) rfl ?_
  refine z_iconst C 3 (v := 0) dL_areSums_3 (by decide +kernel) ?_
  refine z_istore C 4 5 ([(5, .int 0), (4, .int 0), (0, .ref (ad (270))), (1, .ref (ad (272))), (2, .ref (ad (276))), (3, .ref (ad (277)))]) dL_areSums_4 (by decide) rfl ?_
  refine z_iconst C 6 (v := 0) dL_areSums_6 (by decide +kernel) ?_
  refine z_istore C 7 6 ([(6, .int 0), (5, .int 0), (4, .int 0), (0, .ref (ad (270))), (1, .ref (ad (272))), (2, .ref (ad (276))), (3, .ref (ad (277)))]) dL_areSums_7 (by decide) rfl ?_
  refine z_sipush C 9 (v := 10000) dL_areSums_9 (by decide +kernel) ?_
  refine z_istore C 12 7 ([(7, .int 10000), (6, .int 0), (5, .int 0), (4, .int 0), (0, .ref (ad (270))), (1, .ref (ad (272))), (2, .ref (ad (276))), (3, .ref (ad (277)))]) dL_areSums_12 (by decide) rfl ?_
  refine z_iconst C 14 (v := 1) dL_areSums_14 (by decide +kernel) ?_
  refine z_istore C 15 8 ([(8, .int 1), (7, .int 10000), (6, .int 0), (5, .int 0), (4, .int 0), (0, .ref (ad (270))), (1, .ref (ad (272))), (2, .ref (ad (276))), (3, .ref (ad (277)))]) dL_areSums_15 (by decide) rfl ?_
  refine z_iconst C 17 (v := 0) dL_areSums_17 (by decide +kernel) ?_
  refine z_istore C 18 9 ([(9, .int 0), (8, .int 1), (7, .int 10000), (6, .int 0), (5, .int 0), (4, .int 0), (0, .ref (ad (270))), (1, .ref (ad (272))), (2, .ref (ad (276))), (3, .ref (ad (277)))]) dL_areSums_18 (by decide) rfl ?_
  have L20 : ∀ (j1 : Nat) (k : Nat), (h0_20 : 17 ≤ k + j1) → (hk : k ≤ H) → (hI20 : rL_areSums t = (lL_areSums_20 t j1 k)) → Zw p l e (zR 3) s m args below meth c D A K n ad 12 Q 20 ([(9, .int (nI k)), (8, .int 1), (7, .int (lSu t k)), (6, .int (lBe t k)), (5, .int (lAb t k)), (4, .int (lLk t k)), (0, .ref (ad (270))), (1, .ref (ad (272))), (2, .ref (ad (276))), (3, .ref (ad (277)))]) [] t := by
    intro j1
    induction j1 with
    | zero =>
      intro k h0_20 hk hI20
      exact absurd h0_20 (by have := hm.1; omega)
    | succ j1 ih20 =>
      intro k h0_20 hk hI20
      refine z_iload C 20 9 0 dL_areSums_20 rfl ?_
      refine z_aload_n C 22 3 9 dL_areSums_22 rfl rfl ?_
      refine z_iconst C 23 (v := 1) dL_areSums_23 (by decide +kernel) ?_
      refine z_ialdN C 24 (277) 1 dL_areSums_24 hW.h277 hW.e277 rfl (by decide) (by decide) ?_
      refine z_icmp_ge C 25 208 dL_areSums_25 (by decide) (fun c25_1 => ?_) (fun c25_1 => ?_)
      · have e8 : k = H := (by have h9 := ‹t (277) 1 ≤ nI k›; rw [hm.2] at h9; have h8 := hm.1; have h7 := zle (by omega) (by omega) h9; omega)
        subst e8
        refine z_iconst C 208 (v := 0) dL_areSums_208 (by decide +kernel) ?_
        refine z_istore C 209 9 ([(9, .int 0), (8, .int 1), (7, .int (lSu t k)), (6, .int (lBe t k)), (5, .int (lAb t k)), (4, .int (lLk t k)), (0, .ref (ad (270))), (1, .ref (ad (272))), (2, .ref (ad (276))), (3, .ref (ad (277)))]) dL_areSums_209 (by decide) rfl ?_
        have L211 : ∀ (j3 : Nat) (x : Nat), (h0_211 : 61 ≤ x + j3) → (hx : x ≤ 60) → (hI211 : rL_areSums t = (lL_areSums_211 t j3 x)) → Zw p l e (zR 3) s m args below meth c D A K n ad 12 Q 211 ([(9, .int (nI x)), (8, .int 1), (7, .int (lSu t k)), (6, .int (lBe t k)), (5, .int (lAb t k)), (4, .int (lLk t k)), (0, .ref (ad (270))), (1, .ref (ad (272))), (2, .ref (ad (276))), (3, .ref (ad (277)))]) [] t := by
          intro j3
          induction j3 with
          | zero =>
            intro x h0_211 hx hI211
            exact absurd h0_211 (by omega)
          | succ j3 ih211 =>
            intro x h0_211 hx hI211
            refine z_iload C 211 9 0 dL_areSums_211 rfl ?_
            refine z_bipush C 213 (v := 60) dL_areSums_213 (by decide +kernel) ?_
            refine z_icmp_ge C 215 274 dL_areSums_215 (by decide) (fun c215_2 => ?_) (fun c215_2 => ?_)
            · refine z_iconst C 274 (v := 0) dL_areSums_274 (by decide +kernel) ?_
              refine z_istore C 275 9 ([(9, .int 0), (8, .int 1), (7, .int (lSu t k)), (6, .int (lBe t k)), (5, .int (lAb t k)), (4, .int (lLk t k)), (0, .ref (ad (270))), (1, .ref (ad (272))), (2, .ref (ad (276))), (3, .ref (ad (277)))]) dL_areSums_275 (by decide) rfl ?_
              have L277 : ∀ (j4 : Nat) (y : Nat), (h0_277 : 10 ≤ y + j4) → (hy : y ≤ 9) → (hI277 : rL_areSums t = (lL_areSums_277 t j4 y)) → Zw p l e (zR 3) s m args below meth c D A K n ad 12 Q 277 ([(9, .int (nI y)), (8, .int 1), (7, .int (lSu t k)), (6, .int (lBe t k)), (5, .int (lAb t k)), (4, .int (lLk t k)), (0, .ref (ad (270))), (1, .ref (ad (272))), (2, .ref (ad (276))), (3, .ref (ad (277)))]) [] t := by
                intro j4
                induction j4 with
                | zero =>
                  intro y h0_277 hy hI277
                  exact absurd h0_277 (by omega)
                | succ j4 ih277 =>
                  intro y h0_277 hy hI277
                  refine z_iload C 277 9 0 dL_areSums_277 rfl ?_
                  refine z_bipush C 279 (v := 9) dL_areSums_279 (by decide +kernel) ?_
                  refine z_icmp_ge C 281 359 dL_areSums_281 (by decide) (fun c281_3 => ?_) (fun c281_3 => ?_)
                  · refine z_iload C 359 8 1 dL_areSums_359 rfl ?_
                    refine z_if_eq C 361 460 dL_areSums_361 (by decide) (fun c361_4 => ?_) (fun c361_4 => ?_)
                    · exact absurd c361_4 (by decide)
                    · refine z_aload_n C 364 0 6 dL_areSums_364 rfl rfl ?_
                      refine z_iconst C 365 (v := 2) dL_areSums_365 (by decide +kernel) ?_
                      refine z_virtIe C 366 (As := [.int 2]) (st := []) (id := 270) (kX6_count l D cy K n ad hJ hO t 2 hG) dL_areSums_366 rfl gL_areSums_X6_count hyX6_count rfl (by decide) (by decide) hO.h0 rfl hO.e0 rfl rfl rfl (Nat.le_of_ble_eq_true rfl) ?_
                      refine z_iload C 369 4 5 dL_areSums_369 rfl ?_
                      refine z_icmp_ne C 371 460 dL_areSums_371 (by decide) (fun c371_6 => ?_) (fun c371_6 => ?_)
                      · exact absurd e2 c371_6
                      · refine z_aload_n C 374 0 6 dL_areSums_374 rfl rfl ?_
                        refine z_bipush C 375 (v := 9) dL_areSums_375 (by decide +kernel) ?_
                        refine z_virtIe C 377 (As := [.int 9]) (st := []) (id := 270) (kX6_count l D cy K n ad hJ hO t 9 hG) dL_areSums_377 rfl gL_areSums_X6_count hyX6_count rfl (by decide) (by decide) hO.h0 rfl hO.e0 rfl rfl rfl (Nat.le_of_ble_eq_true rfl) ?_
                        refine z_iload C 380 5 4 dL_areSums_380 rfl ?_
                        refine z_icmp_ne C 382 460 dL_areSums_382 (by decide) (fun c382_8 => ?_) (fun c382_8 => ?_)
                        · exact absurd e9 c382_8
                        · refine z_aload_n C 385 0 6 dL_areSums_385 rfl rfl ?_
                          refine z_bipush C 386 (v := 10) dL_areSums_386 (by decide +kernel) ?_
                          refine z_virtIe C 388 (As := [.int 10]) (st := []) (id := 270) (kX6_count l D cy K n ad hJ hO t 10 hG) dL_areSums_388 rfl gL_areSums_X6_count hyX6_count rfl (by decide) (by decide) hO.h0 rfl hO.e0 rfl rfl rfl (Nat.le_of_ble_eq_true rfl) ?_
                          refine z_iload C 391 6 3 dL_areSums_391 rfl ?_
                          refine z_icmp_ne C 393 460 dL_areSums_393 (by decide) (fun c393_10 => ?_) (fun c393_10 => ?_)
                          · exact absurd e10 c393_10
                          · refine z_aload_n C 396 0 6 dL_areSums_396 rfl rfl ?_
                            refine z_bipush C 397 (v := 11) dL_areSums_397 (by decide +kernel) ?_
                            refine z_virtIe C 399 (As := [.int 11]) (st := []) (id := 270) (kX6_count l D cy K n ad hJ hO t 11 hG) dL_areSums_399 rfl gL_areSums_X6_count hyX6_count rfl (by decide) (by decide) hO.h0 rfl hO.e0 rfl rfl rfl (Nat.le_of_ble_eq_true rfl) ?_
                            refine z_iload C 402 7 2 dL_areSums_402 rfl ?_
                            refine z_icmp_ne C 404 460 dL_areSums_404 (by decide) (fun c404_12 => ?_) (fun c404_12 => ?_)
                            · exact absurd e11 c404_12
                            · refine z_aload_n C 407 0 6 dL_areSums_407 rfl rfl ?_
                              refine z_bipush C 408 (v := 12) dL_areSums_408 (by decide +kernel) ?_
                              refine z_virtIe C 410 (As := [.int 12]) (st := []) (id := 270) (kX6_count l D cy K n ad hJ hO t 12 hG) dL_areSums_410 rfl gL_areSums_X6_count hyX6_count rfl (by decide) (by decide) hO.h0 rfl hO.e0 rfl rfl rfl (Nat.le_of_ble_eq_true rfl) ?_
                              refine z_iload C 413 7 2 dL_areSums_413 rfl ?_
                              refine z_icmp_ne C 415 460 dL_areSums_415 (by decide) (fun c415_14 => ?_) (fun c415_14 => ?_)
                              · exact absurd e12 c415_14
                              · refine z_aload_n C 418 0 6 dL_areSums_418 rfl rfl ?_
                                refine z_bipush C 419 (v := 13) dL_areSums_419 (by decide +kernel) ?_
                                refine z_virtIe C 421 (As := [.int 13]) (st := []) (id := 270) (kX6_count l D cy K n ad hJ hO t 13 hG) dL_areSums_421 rfl gL_areSums_X6_count hyX6_count rfl (by decide) (by decide) hO.h0 rfl hO.e0 rfl rfl rfl (Nat.le_of_ble_eq_true rfl) ?_
                                refine z_aload_n C 424 3 9 dL_areSums_424 rfl rfl ?_
                                refine z_bipush C 425 (v := 8) dL_areSums_425 (by decide +kernel) ?_
                                refine z_ialdN C 427 (277) 8 dL_areSums_427 hW.h277 hW.e277 rfl (by decide) (by decide) ?_
                                refine z_icmp_ne C 428 460 dL_areSums_428 (by decide) (fun c428_16 => ?_) (fun c428_16 => ?_)
                                · exact absurd e13 c428_16
                                · refine z_aload_n C 431 0 6 dL_areSums_431 rfl rfl ?_
                                  refine z_bipush C 432 (v := 14) dL_areSums_432 (by decide +kernel) ?_
                                  refine z_virtIe C 434 (As := [.int 14]) (st := []) (id := 270) (kX6_count l D cy K n ad hJ hO t 14 hG) dL_areSums_434 rfl gL_areSums_X6_count hyX6_count rfl (by decide) (by decide) hO.h0 rfl hO.e0 rfl rfl rfl (Nat.le_of_ble_eq_true rfl) ?_
                                  refine z_aload_n C 437 3 9 dL_areSums_437 rfl rfl ?_
                                  refine z_bipush C 438 (v := 9) dL_areSums_438 (by decide +kernel) ?_
                                  refine z_ialdN C 440 (277) 9 dL_areSums_440 hW.h277 hW.e277 rfl (by decide) (by decide) ?_
                                  refine z_icmp_ne C 441 460 dL_areSums_441 (by decide) (fun c441_18 => ?_) (fun c441_18 => ?_)
                                  · exact absurd e14 c441_18
                                  · refine z_aload_n C 444 0 6 dL_areSums_444 rfl rfl ?_
                                    refine z_aload_n C 445 3 9 dL_areSums_445 rfl rfl ?_
                                    refine z_iconst C 446 (v := 1) dL_areSums_446 (by decide +kernel) ?_
                                    refine z_ialdN C 447 (277) 1 dL_areSums_447 hW.h277 hW.e277 rfl (by decide) (by decide) ?_
                                    refine z_virtIe C 448 (As := [.int (t (277) 1)]) (st := []) (id := 270) (kX6_wronged l D cy K n ad hJ hO t (t (277) 1) hG) dL_areSums_448 rfl gL_areSums_X6_wronged hyX6_wronged rfl (by decide) (by decide) hO.h0 rfl hO.e0 rfl rfl rfl (Nat.le_of_ble_eq_true rfl) ?_
                                    refine z_ldc C 451 (v := (-1000004)) dL_areSums_451 mL_areSums_c46 ?_
                                    refine z_icmp_ne C 453 460 dL_areSums_453 (by decide) (fun c453_20 => ?_) (fun c453_20 => ?_)
                                    · exact absurd eW c453_20
                                    · refine z_iconst C 456 (v := 1) dL_areSums_456 (by decide +kernel) ?_
                                      refine z_goto C 457 461 dL_areSums_457 (by decide) ?_
                                      exact z_zret C 461 hA hQ rfl (Or.inr rfl) dL_areSums_461 ⟨((hI277.trans ((if_pos c281_3).trans rfl))).symm, rfl⟩
                  · have hy9 : y < 9 := (zge (b := 9) (by omega) (by decide) ‹¬ (9 : Int32) ≤ nI y›)
                    refine z_iload C 284 8 1 dL_areSums_284 rfl ?_
                    refine z_if_eq C 286 350 dL_areSums_286 (by decide) (fun c286_21 => ?_) (fun c286_21 => ?_)
                    · exact absurd c286_21 (by decide)
                    · refine z_iload C 289 9 0 dL_areSums_289 rfl ?_
                      refine z_iconst C 291 (v := 2) dL_areSums_291 (by decide +kernel) ?_
                      refine z_icmp_eq C 292 321 dL_areSums_292 (by decide) (fun c292_22 => ?_) (fun c292_22 => ?_)
                      · refine z_iload C 321 9 0 dL_areSums_321 rfl ?_
                        refine z_iconst C 323 (v := 3) dL_areSums_323 (by decide +kernel) ?_
                        refine z_icmp_gt C 324 346 dL_areSums_324 (by decide) (fun c324_23 => ?_) (fun c324_23 => ?_)
                        · refine z_iconst C 346 (v := 1) dL_areSums_346 (by decide +kernel) ?_
                          refine z_goto C 347 351 dL_areSums_347 (by decide) ?_
                          refine z_istore C 351 8 ([(8, .int 1), (9, .int (nI y)), (7, .int (lSu t k)), (6, .int (lBe t k)), (5, .int (lAb t k)), (4, .int (lLk t k)), (0, .ref (ad (270))), (1, .ref (ad (272))), (2, .ref (ad (276))), (3, .ref (ad (277)))]) dL_areSums_351 (by decide) rfl ?_
                          refine z_iinc C 353 (v := nI (y + 1)) 9 1 ([(9, .int (nI (y + 1))), (8, .int 1), (7, .int (lSu t k)), (6, .int (lBe t k)), (5, .int (lAb t k)), (4, .int (lLk t k)), (0, .ref (ad (270))), (1, .ref (ad (272))), (2, .ref (ad (276))), (3, .ref (ad (277)))]) dL_areSums_353 rfl (nI_1 _) (by decide) rfl ?_
                          refine z_goto C 356 277 dL_areSums_356 (by decide) ?_
                          refine z_ls [0, 1, 2, 3, 4, 5, 6, 7, 8, 9] _ rfl ?_
                          exact ih277 (y + 1) (by omega) hy9 (hI277.trans ((if_neg c281_3).trans ((if_pos c292_22).trans ((if_pos c324_23).trans rfl))))
                        · have hy8 : y ≤ 3 := zle (b := 3) (by omega) (by decide) (znlt.mp ‹¬ (3 : Int32) < nI y›)
                          refine z_aload_n C 327 0 6 dL_areSums_327 rfl rfl ?_
                          refine z_bipush C 328 (v := 20) dL_areSums_328 (by decide +kernel) ?_
                          refine z_iload C 330 9 0 dL_areSums_330 rfl ?_
                          refine z_iadd C 332 dL_areSums_332 ?_
                          refine z_virtIe C 333 (As := [.int (20 + nI y)]) (st := []) (id := 270) (kX6_count l D cy K n ad hJ hO t (20 + nI y) hG) dL_areSums_333 rfl gL_areSums_X6_count hyX6_count rfl (by decide) (by decide) hO.h0 rfl hO.e0 rfl rfl rfl (Nat.le_of_ble_eq_true rfl) ?_
                          refine z_aload_n C 336 3 9 dL_areSums_336 rfl rfl ?_
                          refine z_bipush C 337 (v := 10) dL_areSums_337 (by decide +kernel) ?_
                          refine z_iload C 339 9 0 dL_areSums_339 rfl ?_
                          refine z_iadd C 341 dL_areSums_341 ?_
                          refine z_ialdN C 342 (277) (10 + y) dL_areSums_342 hW.h277 hW.e277 (nI_add 10 y) (by omega) (by decide) ?_
                          refine z_icmp_ne C 343 350 dL_areSums_343 (by decide) (fun c343_25 => ?_) (fun c343_25 => ?_)
                          · exact absurd (hD y hy8) c343_25
                          · refine z_iconst C 346 (v := 1) dL_areSums_346 (by decide +kernel) ?_
                            refine z_goto C 347 351 dL_areSums_347 (by decide) ?_
                            refine z_istore C 351 8 ([(8, .int 1), (9, .int (nI y)), (7, .int (lSu t k)), (6, .int (lBe t k)), (5, .int (lAb t k)), (4, .int (lLk t k)), (0, .ref (ad (270))), (1, .ref (ad (272))), (2, .ref (ad (276))), (3, .ref (ad (277)))]) dL_areSums_351 (by decide) rfl ?_
                            refine z_iinc C 353 (v := nI (y + 1)) 9 1 ([(9, .int (nI (y + 1))), (8, .int 1), (7, .int (lSu t k)), (6, .int (lBe t k)), (5, .int (lAb t k)), (4, .int (lLk t k)), (0, .ref (ad (270))), (1, .ref (ad (272))), (2, .ref (ad (276))), (3, .ref (ad (277)))]) dL_areSums_353 rfl (nI_1 _) (by decide) rfl ?_
                            refine z_goto C 356 277 dL_areSums_356 (by decide) ?_
                            refine z_ls [0, 1, 2, 3, 4, 5, 6, 7, 8, 9] _ rfl ?_
                            exact ih277 (y + 1) (by omega) hy9 (hI277.trans ((if_neg c281_3).trans ((if_pos c292_22).trans ((if_neg c324_23).trans rfl))))
                      · refine z_aload_n C 295 0 6 dL_areSums_295 rfl rfl ?_
                        refine z_iload C 296 9 0 dL_areSums_296 rfl ?_
                        refine z_virtIe C 298 (As := [.int (nI y)]) (st := []) (id := 270) (kX6_count l D cy K n ad hJ hO t (nI y) hG) dL_areSums_298 rfl gL_areSums_X6_count hyX6_count rfl (by decide) (by decide) hO.h0 rfl hO.e0 rfl rfl rfl (Nat.le_of_ble_eq_true rfl) ?_
                        refine z_aload_n C 301 3 9 dL_areSums_301 rfl rfl ?_
                        refine z_iload C 302 9 0 dL_areSums_302 rfl ?_
                        refine z_iconst C 304 (v := 2) dL_areSums_304 (by decide +kernel) ?_
                        refine z_icmp_ge C 305 313 dL_areSums_305 (by decide) (fun c305_27 => ?_) (fun c305_27 => ?_)
                        · refine z_iload C 313 9 0 dL_areSums_313 rfl ?_
                          refine z_iconst C 315 (v := 1) dL_areSums_315 (by decide +kernel) ?_
                          refine z_isub C 316 dL_areSums_316 ?_
                          refine z_ialdN C 317 (277) (y - 1) dL_areSums_317 hW.h277 hW.e277 (nI_sub (b := 1) (zle (a := 1) (by decide) (by omega) (Int32.le_trans (show (1 : Int32) ≤ 2 by decide +kernel) ‹(2 : Int32) ≤ nI y›))) (by omega) (by decide) ?_
                          refine z_icmp_ne C 318 350 dL_areSums_318 (by decide) (fun c318_28 => ?_) (fun c318_28 => ?_)
                          · first | exact absurd (hC1 y (zlt (b := 2) (by omega) (by decide) (znl.mp ‹¬ (2 : Int32) ≤ nI y›))) c318_28 | exact absurd (hC2 y hy9 (zle (a := 2) (by decide) (by omega) ‹(2 : Int32) ≤ nI y›) (fun e9 => absurd (congrArg nI e9) ‹¬ nI y = 2›)) c318_28
                          · refine z_iload C 321 9 0 dL_areSums_321 rfl ?_
                            refine z_iconst C 323 (v := 3) dL_areSums_323 (by decide +kernel) ?_
                            refine z_icmp_gt C 324 346 dL_areSums_324 (by decide) (fun c324_29 => ?_) (fun c324_29 => ?_)
                            · refine z_iconst C 346 (v := 1) dL_areSums_346 (by decide +kernel) ?_
                              refine z_goto C 347 351 dL_areSums_347 (by decide) ?_
                              refine z_istore C 351 8 ([(8, .int 1), (9, .int (nI y)), (7, .int (lSu t k)), (6, .int (lBe t k)), (5, .int (lAb t k)), (4, .int (lLk t k)), (0, .ref (ad (270))), (1, .ref (ad (272))), (2, .ref (ad (276))), (3, .ref (ad (277)))]) dL_areSums_351 (by decide) rfl ?_
                              refine z_iinc C 353 (v := nI (y + 1)) 9 1 ([(9, .int (nI (y + 1))), (8, .int 1), (7, .int (lSu t k)), (6, .int (lBe t k)), (5, .int (lAb t k)), (4, .int (lLk t k)), (0, .ref (ad (270))), (1, .ref (ad (272))), (2, .ref (ad (276))), (3, .ref (ad (277)))]) dL_areSums_353 rfl (nI_1 _) (by decide) rfl ?_
                              refine z_goto C 356 277 dL_areSums_356 (by decide) ?_
                              refine z_ls [0, 1, 2, 3, 4, 5, 6, 7, 8, 9] _ rfl ?_
                              exact ih277 (y + 1) (by omega) hy9 (hI277.trans ((if_neg c281_3).trans ((if_neg c292_22).trans ((if_pos c305_27).trans ((if_pos c324_29).trans rfl)))))
                            · have hy8 : y ≤ 3 := zle (b := 3) (by omega) (by decide) (znlt.mp ‹¬ (3 : Int32) < nI y›)
                              refine z_aload_n C 327 0 6 dL_areSums_327 rfl rfl ?_
                              refine z_bipush C 328 (v := 20) dL_areSums_328 (by decide +kernel) ?_
                              refine z_iload C 330 9 0 dL_areSums_330 rfl ?_
                              refine z_iadd C 332 dL_areSums_332 ?_
                              refine z_virtIe C 333 (As := [.int (20 + nI y)]) (st := []) (id := 270) (kX6_count l D cy K n ad hJ hO t (20 + nI y) hG) dL_areSums_333 rfl gL_areSums_X6_count hyX6_count rfl (by decide) (by decide) hO.h0 rfl hO.e0 rfl rfl rfl (Nat.le_of_ble_eq_true rfl) ?_
                              refine z_aload_n C 336 3 9 dL_areSums_336 rfl rfl ?_
                              refine z_bipush C 337 (v := 10) dL_areSums_337 (by decide +kernel) ?_
                              refine z_iload C 339 9 0 dL_areSums_339 rfl ?_
                              refine z_iadd C 341 dL_areSums_341 ?_
                              refine z_ialdN C 342 (277) (10 + y) dL_areSums_342 hW.h277 hW.e277 (nI_add 10 y) (by omega) (by decide) ?_
                              refine z_icmp_ne C 343 350 dL_areSums_343 (by decide) (fun c343_31 => ?_) (fun c343_31 => ?_)
                              · exact absurd (hD y hy8) c343_31
                              · refine z_iconst C 346 (v := 1) dL_areSums_346 (by decide +kernel) ?_
                                refine z_goto C 347 351 dL_areSums_347 (by decide) ?_
                                refine z_istore C 351 8 ([(8, .int 1), (9, .int (nI y)), (7, .int (lSu t k)), (6, .int (lBe t k)), (5, .int (lAb t k)), (4, .int (lLk t k)), (0, .ref (ad (270))), (1, .ref (ad (272))), (2, .ref (ad (276))), (3, .ref (ad (277)))]) dL_areSums_351 (by decide) rfl ?_
                                refine z_iinc C 353 (v := nI (y + 1)) 9 1 ([(9, .int (nI (y + 1))), (8, .int 1), (7, .int (lSu t k)), (6, .int (lBe t k)), (5, .int (lAb t k)), (4, .int (lLk t k)), (0, .ref (ad (270))), (1, .ref (ad (272))), (2, .ref (ad (276))), (3, .ref (ad (277)))]) dL_areSums_353 rfl (nI_1 _) (by decide) rfl ?_
                                refine z_goto C 356 277 dL_areSums_356 (by decide) ?_
                                refine z_ls [0, 1, 2, 3, 4, 5, 6, 7, 8, 9] _ rfl ?_
                                exact ih277 (y + 1) (by omega) hy9 (hI277.trans ((if_neg c281_3).trans ((if_neg c292_22).trans ((if_pos c305_27).trans ((if_neg c324_29).trans rfl)))))
                        · refine z_iload C 308 9 0 dL_areSums_308 rfl ?_
                          refine z_goto C 310 317 dL_areSums_310 (by decide) ?_
                          refine z_ialdN C 317 (277) y dL_areSums_317 hW.h277 hW.e277 rfl (by omega) (by decide) ?_
                          refine z_icmp_ne C 318 350 dL_areSums_318 (by decide) (fun c318_32 => ?_) (fun c318_32 => ?_)
                          · first | exact absurd (hC1 y (zlt (b := 2) (by omega) (by decide) (znl.mp ‹¬ (2 : Int32) ≤ nI y›))) c318_32 | exact absurd (hC2 y hy9 (zle (a := 2) (by decide) (by omega) ‹(2 : Int32) ≤ nI y›) (fun e9 => absurd (congrArg nI e9) ‹¬ nI y = 2›)) c318_32
                          · refine z_iload C 321 9 0 dL_areSums_321 rfl ?_
                            refine z_iconst C 323 (v := 3) dL_areSums_323 (by decide +kernel) ?_
                            refine z_icmp_gt C 324 346 dL_areSums_324 (by decide) (fun c324_33 => ?_) (fun c324_33 => ?_)
                            · refine z_iconst C 346 (v := 1) dL_areSums_346 (by decide +kernel) ?_
                              refine z_goto C 347 351 dL_areSums_347 (by decide) ?_
                              refine z_istore C 351 8 ([(8, .int 1), (9, .int (nI y)), (7, .int (lSu t k)), (6, .int (lBe t k)), (5, .int (lAb t k)), (4, .int (lLk t k)), (0, .ref (ad (270))), (1, .ref (ad (272))), (2, .ref (ad (276))), (3, .ref (ad (277)))]) dL_areSums_351 (by decide) rfl ?_
                              refine z_iinc C 353 (v := nI (y + 1)) 9 1 ([(9, .int (nI (y + 1))), (8, .int 1), (7, .int (lSu t k)), (6, .int (lBe t k)), (5, .int (lAb t k)), (4, .int (lLk t k)), (0, .ref (ad (270))), (1, .ref (ad (272))), (2, .ref (ad (276))), (3, .ref (ad (277)))]) dL_areSums_353 rfl (nI_1 _) (by decide) rfl ?_
                              refine z_goto C 356 277 dL_areSums_356 (by decide) ?_
                              refine z_ls [0, 1, 2, 3, 4, 5, 6, 7, 8, 9] _ rfl ?_
                              exact ih277 (y + 1) (by omega) hy9 (hI277.trans ((if_neg c281_3).trans ((if_neg c292_22).trans ((if_neg c305_27).trans ((if_pos c324_33).trans rfl)))))
                            · have hy8 : y ≤ 3 := zle (b := 3) (by omega) (by decide) (znlt.mp ‹¬ (3 : Int32) < nI y›)
                              refine z_aload_n C 327 0 6 dL_areSums_327 rfl rfl ?_
                              refine z_bipush C 328 (v := 20) dL_areSums_328 (by decide +kernel) ?_
                              refine z_iload C 330 9 0 dL_areSums_330 rfl ?_
                              refine z_iadd C 332 dL_areSums_332 ?_
                              refine z_virtIe C 333 (As := [.int (20 + nI y)]) (st := []) (id := 270) (kX6_count l D cy K n ad hJ hO t (20 + nI y) hG) dL_areSums_333 rfl gL_areSums_X6_count hyX6_count rfl (by decide) (by decide) hO.h0 rfl hO.e0 rfl rfl rfl (Nat.le_of_ble_eq_true rfl) ?_
                              refine z_aload_n C 336 3 9 dL_areSums_336 rfl rfl ?_
                              refine z_bipush C 337 (v := 10) dL_areSums_337 (by decide +kernel) ?_
                              refine z_iload C 339 9 0 dL_areSums_339 rfl ?_
                              refine z_iadd C 341 dL_areSums_341 ?_
                              refine z_ialdN C 342 (277) (10 + y) dL_areSums_342 hW.h277 hW.e277 (nI_add 10 y) (by omega) (by decide) ?_
                              refine z_icmp_ne C 343 350 dL_areSums_343 (by decide) (fun c343_35 => ?_) (fun c343_35 => ?_)
                              · exact absurd (hD y hy8) c343_35
                              · refine z_iconst C 346 (v := 1) dL_areSums_346 (by decide +kernel) ?_
                                refine z_goto C 347 351 dL_areSums_347 (by decide) ?_
                                refine z_istore C 351 8 ([(8, .int 1), (9, .int (nI y)), (7, .int (lSu t k)), (6, .int (lBe t k)), (5, .int (lAb t k)), (4, .int (lLk t k)), (0, .ref (ad (270))), (1, .ref (ad (272))), (2, .ref (ad (276))), (3, .ref (ad (277)))]) dL_areSums_351 (by decide) rfl ?_
                                refine z_iinc C 353 (v := nI (y + 1)) 9 1 ([(9, .int (nI (y + 1))), (8, .int 1), (7, .int (lSu t k)), (6, .int (lBe t k)), (5, .int (lAb t k)), (4, .int (lLk t k)), (0, .ref (ad (270))), (1, .ref (ad (272))), (2, .ref (ad (276))), (3, .ref (ad (277)))]) dL_areSums_353 rfl (nI_1 _) (by decide) rfl ?_
                                refine z_goto C 356 277 dL_areSums_356 (by decide) ?_
                                refine z_ls [0, 1, 2, 3, 4, 5, 6, 7, 8, 9] _ rfl ?_
                                exact ih277 (y + 1) (by omega) hy9 (hI277.trans ((if_neg c281_3).trans ((if_neg c292_22).trans ((if_neg c305_27).trans ((if_neg c324_33).trans rfl)))))
              refine z_ls [0, 1, 2, 3, 4, 5, 6, 7, 8, 9] _ rfl ?_
              exact L277 (10) 0 (by omega) (by decide) (hI211.trans ((if_pos c215_2).trans rfl))
            · have hx9 : x < 60 := (zge (b := 60) (by omega) (by decide) ‹¬ (60 : Int32) ≤ nI x›)
              refine z_iload C 218 8 1 dL_areSums_218 rfl ?_
              refine z_if_eq C 220 265 dL_areSums_220 (by decide) (fun c220_36 => ?_) (fun c220_36 => ?_)
              · exact absurd c220_36 (by decide)
              · refine z_aload_n C 223 0 6 dL_areSums_223 rfl rfl ?_
                refine z_iload C 224 9 0 dL_areSums_224 rfl ?_
                refine z_bipush C 226 (v := 6) dL_areSums_226 (by decide +kernel) ?_
                refine z_idiv C 228 dL_areSums_228 (by decide) ?_
                refine z_iload C 229 9 0 dL_areSums_229 rfl ?_
                refine z_bipush C 231 (v := 6) dL_areSums_231 (by decide +kernel) ?_
                refine z_irem C 233 dL_areSums_233 (by decide) ?_
                refine z_virtIe C 234 (As := [.int (nI x / 6), .int (zrem (nI x) 6)]) (st := []) (id := 270) (kX6_ledger l D cy K n ad hJ hO t (nI x / 6) (zrem (nI x) 6) hG) dL_areSums_234 rfl gL_areSums_X6_ledger hyX6_ledger rfl (by decide) (by decide) hO.h0 rfl hO.e0 rfl rfl rfl (Nat.le_of_ble_eq_true rfl) ?_
                refine z_iload C 237 9 0 dL_areSums_237 rfl ?_
                refine z_bipush C 239 (v := 6) dL_areSums_239 (by decide +kernel) ?_
                refine z_idiv C 241 dL_areSums_241 (by decide) ?_
                refine z_aload_n C 242 3 9 dL_areSums_242 rfl rfl ?_
                refine z_bipush C 243 (v := 9) dL_areSums_243 (by decide +kernel) ?_
                refine z_ialdN C 245 (277) 9 dL_areSums_245 hW.h277 hW.e277 rfl (by decide) (by decide) ?_
                have M246_39 : Zw p l e (zR 3) s m args below meth c D A K n ad 12 Q 258 ([(9, .int (nI x)), (8, .int 1), (7, .int (lSu t k)), (6, .int (lBe t k)), (5, .int (lAb t k)), (4, .int (lLk t k)), (0, .ref (ad (270))), (1, .ref (ad (272))), (2, .ref (ad (276))), (3, .ref (ad (277)))]) [.int (if (t (277) 9) ≤ (nI x / 6) then (-1000004) else (t (276) x)), .int (rX6_ledger t (nI x / 6) (zrem (nI x) 6))] t := by
                  refine z_icmp_ne C 258 265 dL_areSums_258 (by decide) (fun c258_40 => ?_) (fun c258_40 => ?_)
                  · exact absurd (hB x hx9) c258_40
                  · refine z_iconst C 261 (v := 1) dL_areSums_261 (by decide +kernel) ?_
                    refine z_goto C 262 266 dL_areSums_262 (by decide) ?_
                    refine z_istore C 266 8 ([(8, .int 1), (9, .int (nI x)), (7, .int (lSu t k)), (6, .int (lBe t k)), (5, .int (lAb t k)), (4, .int (lLk t k)), (0, .ref (ad (270))), (1, .ref (ad (272))), (2, .ref (ad (276))), (3, .ref (ad (277)))]) dL_areSums_266 (by decide) rfl ?_
                    refine z_iinc C 268 (v := nI (x + 1)) 9 1 ([(9, .int (nI (x + 1))), (8, .int 1), (7, .int (lSu t k)), (6, .int (lBe t k)), (5, .int (lAb t k)), (4, .int (lLk t k)), (0, .ref (ad (270))), (1, .ref (ad (272))), (2, .ref (ad (276))), (3, .ref (ad (277)))]) dL_areSums_268 rfl (nI_1 _) (by decide) rfl ?_
                    refine z_goto C 271 211 dL_areSums_271 (by decide) ?_
                    refine z_ls [0, 1, 2, 3, 4, 5, 6, 7, 8, 9] _ rfl ?_
                    exact ih211 (x + 1) (by omega) hx9 (hI211.trans ((if_neg c215_2).trans rfl))
                refine z_icmp_ge C 246 256 dL_areSums_246 (by decide) (fun c246_38 => ?_) (fun c246_38 => ?_)
                · refine z_ldc C 256 (v := (-1000004)) dL_areSums_256 mL_areSums_c46 ?_
                  exact z_nv (if (t (277) 9) ≤ (nI x / 6) then (-1000004) else (t (276) x)) (((if_pos c246_38).trans rfl)).symm M246_39
                · refine z_aload_n C 249 2 8 dL_areSums_249 rfl rfl ?_
                  refine z_iload C 250 9 0 dL_areSums_250 rfl ?_
                  refine z_ialdN C 252 (276) x dL_areSums_252 hW.h276 hW.e276 rfl (zge (b := 60) (by omega) (by decide) ‹¬ (60 : Int32) ≤ nI x›) (by decide) ?_
                  refine z_goto C 253 258 dL_areSums_253 (by decide) ?_
                  exact z_nv (if (t (277) 9) ≤ (nI x / 6) then (-1000004) else (t (276) x)) (((if_neg c246_38).trans rfl)).symm M246_39
        refine z_ls [0, 1, 2, 3, 4, 5, 6, 7, 8, 9] _ rfl ?_
        exact L211 (61) 0 (by omega) (by decide) (hI20.trans ((if_pos c25_1).trans rfl))
      · have hk9 : k < H := (hm.lt hk ‹¬ t (277) 1 ≤ nI k›)
        refine z_iload C 28 4 5 dL_areSums_28 rfl ?_
        refine z_aload_n C 30 1 7 dL_areSums_30 rfl rfl ?_
        refine z_iconst C 31 (v := 4) dL_areSums_31 (by decide +kernel) ?_
        refine z_iload C 32 9 0 dL_areSums_32 rfl ?_
        refine z_imul C 34 dL_areSums_34 ?_
        refine z_iconst C 35 (v := 2) dL_areSums_35 (by decide +kernel) ?_
        refine z_iadd C 36 dL_areSums_36 ?_
        refine z_ialdN C 37 (272) (4 * k + 2) dL_areSums_37 hW.h272 hW.e272 (lx4 k 2) (by have := (hm.lt hk ‹¬ t (277) 1 ≤ nI k›); have := hm.1; omega) (by decide) ?_
        refine z_iadd C 38 dL_areSums_38 ?_
        refine z_nv (lLk t (k + 1)) rfl ?_
        refine z_istore C 39 4 ([(4, .int (lLk t (k + 1))), (9, .int (nI k)), (8, .int 1), (7, .int (lSu t k)), (6, .int (lBe t k)), (5, .int (lAb t k)), (0, .ref (ad (270))), (1, .ref (ad (272))), (2, .ref (ad (276))), (3, .ref (ad (277)))]) dL_areSums_39 (by decide) rfl ?_
        refine z_iload C 41 5 5 dL_areSums_41 rfl ?_
        refine z_aload_n C 43 1 7 dL_areSums_43 rfl rfl ?_
        refine z_iconst C 44 (v := 4) dL_areSums_44 (by decide +kernel) ?_
        refine z_iload C 45 9 1 dL_areSums_45 rfl ?_
        refine z_imul C 47 dL_areSums_47 ?_
        refine z_ialdN C 48 (272) (4 * k + 0) dL_areSums_48 hW.h272 hW.e272 (nI_mul 4 k) (by have := (hm.lt hk ‹¬ t (277) 1 ≤ nI k›); have := hm.1; omega) (by decide) ?_
        have M49_42 : Zw p l e (zR 3) s m args below meth c D A K n ad 12 Q 57 ([(4, .int (lLk t (k + 1))), (9, .int (nI k)), (8, .int 1), (7, .int (lSu t k)), (6, .int (lBe t k)), (5, .int (lAb t k)), (0, .ref (ad (270))), (1, .ref (ad (272))), (2, .ref (ad (276))), (3, .ref (ad (277)))]) [.int (if (t (272) (4 * k + 0)) ≤ 0 then 0 else 1), .int (lAb t k)] t := by
          refine z_iadd C 57 dL_areSums_57 ?_
          refine z_nv (lAb t (k + 1)) rfl ?_
          refine z_istore C 58 5 ([(5, .int (lAb t (k + 1))), (4, .int (lLk t (k + 1))), (9, .int (nI k)), (8, .int 1), (7, .int (lSu t k)), (6, .int (lBe t k)), (0, .ref (ad (270))), (1, .ref (ad (272))), (2, .ref (ad (276))), (3, .ref (ad (277)))]) dL_areSums_58 (by decide) rfl ?_
          refine z_iload C 60 6 5 dL_areSums_60 rfl ?_
          refine z_aload_n C 62 1 7 dL_areSums_62 rfl rfl ?_
          refine z_iconst C 63 (v := 4) dL_areSums_63 (by decide +kernel) ?_
          refine z_iload C 64 9 2 dL_areSums_64 rfl ?_
          refine z_imul C 66 dL_areSums_66 ?_
          refine z_ialdN C 67 (272) (4 * k + 0) dL_areSums_67 hW.h272 hW.e272 (nI_mul 4 k) (by have := (hm.lt hk ‹¬ t (277) 1 ≤ nI k›); have := hm.1; omega) (by decide) ?_
          have M68_44 : Zw p l e (zR 3) s m args below meth c D A K n ad 12 Q 76 ([(5, .int (lAb t (k + 1))), (4, .int (lLk t (k + 1))), (9, .int (nI k)), (8, .int 1), (7, .int (lSu t k)), (6, .int (lBe t k)), (0, .ref (ad (270))), (1, .ref (ad (272))), (2, .ref (ad (276))), (3, .ref (ad (277)))]) [.int (if 0 ≤ (t (272) (4 * k + 0)) then 0 else 1), .int (lBe t k)] t := by
            refine z_iadd C 76 dL_areSums_76 ?_
            refine z_nv (lBe t (k + 1)) rfl ?_
            refine z_istore C 77 6 ([(6, .int (lBe t (k + 1))), (5, .int (lAb t (k + 1))), (4, .int (lLk t (k + 1))), (9, .int (nI k)), (8, .int 1), (7, .int (lSu t k)), (0, .ref (ad (270))), (1, .ref (ad (272))), (2, .ref (ad (276))), (3, .ref (ad (277)))]) dL_areSums_77 (by decide) rfl ?_
            refine z_iload C 79 7 5 dL_areSums_79 rfl ?_
            refine z_aload_n C 81 1 7 dL_areSums_81 rfl rfl ?_
            refine z_iconst C 82 (v := 4) dL_areSums_82 (by decide +kernel) ?_
            refine z_iload C 83 9 3 dL_areSums_83 rfl ?_
            refine z_imul C 85 dL_areSums_85 ?_
            refine z_ialdN C 86 (272) (4 * k + 0) dL_areSums_86 hW.h272 hW.e272 (nI_mul 4 k) (by have := (hm.lt hk ‹¬ t (277) 1 ≤ nI k›); have := hm.1; omega) (by decide) ?_
            refine z_iadd C 87 dL_areSums_87 ?_
            refine z_nv (lSu t (k + 1)) rfl ?_
            refine z_istore C 88 7 ([(7, .int (lSu t (k + 1))), (6, .int (lBe t (k + 1))), (5, .int (lAb t (k + 1))), (4, .int (lLk t (k + 1))), (9, .int (nI k)), (8, .int 1), (0, .ref (ad (270))), (1, .ref (ad (272))), (2, .ref (ad (276))), (3, .ref (ad (277)))]) dL_areSums_88 (by decide) rfl ?_
            refine z_iconst C 90 (v := 0) dL_areSums_90 (by decide +kernel) ?_
            refine z_istore C 91 10 ([(10, .int 0), (7, .int (lSu t (k + 1))), (6, .int (lBe t (k + 1))), (5, .int (lAb t (k + 1))), (4, .int (lLk t (k + 1))), (9, .int (nI k)), (8, .int 1), (0, .ref (ad (270))), (1, .ref (ad (272))), (2, .ref (ad (276))), (3, .ref (ad (277)))]) dL_areSums_91 (by decide) rfl ?_
            refine z_iconst C 93 (v := 0) dL_areSums_93 (by decide +kernel) ?_
            refine z_istore C 94 11 ([(11, .int 0), (10, .int 0), (7, .int (lSu t (k + 1))), (6, .int (lBe t (k + 1))), (5, .int (lAb t (k + 1))), (4, .int (lLk t (k + 1))), (9, .int (nI k)), (8, .int 1), (0, .ref (ad (270))), (1, .ref (ad (272))), (2, .ref (ad (276))), (3, .ref (ad (277)))]) dL_areSums_94 (by decide) rfl ?_
            have K96 : Zw p l e (zR 3) s m args below meth c D A K n ad 12 Q 157 ([(10, .int (lRk t k H)), (7, .int (lSu t (k + 1))), (6, .int (lBe t (k + 1))), (5, .int (lAb t (k + 1))), (4, .int (lLk t (k + 1))), (9, .int (nI k)), (8, .int 1), (0, .ref (ad (270))), (1, .ref (ad (272))), (2, .ref (ad (276))), (3, .ref (ad (277)))]) [] t := by
              refine z_iload C 157 8 6 dL_areSums_157 rfl ?_
              refine z_if_eq C 159 199 dL_areSums_159 (by decide) (fun c159_45 => ?_) (fun c159_45 => ?_)
              · exact absurd c159_45 (by decide)
              · refine z_aload_n C 162 0 7 dL_areSums_162 rfl rfl ?_
                refine z_iload C 163 10 0 dL_areSums_163 rfl ?_
                refine z_virtIe C 165 (As := [.int (lRk t k H)]) (st := []) (id := 270) (kX6_wronged l D cy K n ad hJ hO t (lRk t k H) hG) dL_areSums_165 rfl gL_areSums_X6_wronged hyX6_wronged rfl (by decide) (by decide) hO.h0 rfl hO.e0 rfl rfl rfl (Nat.le_of_ble_eq_true rfl) ?_
                refine z_iload C 168 9 5 dL_areSums_168 rfl ?_
                refine z_icmp_ne C 170 199 dL_areSums_170 (by decide) (fun c170_47 => ?_) (fun c170_47 => ?_)
                · exact absurd (hAl k hk9).1 c170_47
                · refine z_aload_n C 173 1 8 dL_areSums_173 rfl rfl ?_
                  refine z_iconst C 174 (v := 4) dL_areSums_174 (by decide +kernel) ?_
                  refine z_iload C 175 9 5 dL_areSums_175 rfl ?_
                  refine z_imul C 177 dL_areSums_177 ?_
                  refine z_ialdN C 178 (272) (4 * k + 0) dL_areSums_178 hW.h272 hW.e272 (nI_mul 4 k) (by have := (hm.lt hk ‹¬ t (277) 1 ≤ nI k›); have := hm.1; omega) (by decide) ?_
                  refine z_bipush C 179 (v := (-100)) dL_areSums_179 (by decide +kernel) ?_
                  refine z_icmp_le C 181 199 dL_areSums_181 (by decide) (fun c181_48 => ?_) (fun c181_48 => ?_)
                  · exact absurd c181_48 (hAl k hk9).2.1
                  · refine z_aload_n C 184 1 8 dL_areSums_184 rfl rfl ?_
                    refine z_iconst C 185 (v := 4) dL_areSums_185 (by decide +kernel) ?_
                    refine z_iload C 186 9 5 dL_areSums_186 rfl ?_
                    refine z_imul C 188 dL_areSums_188 ?_
                    refine z_ialdN C 189 (272) (4 * k + 0) dL_areSums_189 hW.h272 hW.e272 (nI_mul 4 k) (by have := (hm.lt hk ‹¬ t (277) 1 ≤ nI k›); have := hm.1; omega) (by decide) ?_
                    refine z_bipush C 190 (v := 100) dL_areSums_190 (by decide +kernel) ?_
                    refine z_icmp_ge C 192 199 dL_areSums_192 (by decide) (fun c192_49 => ?_) (fun c192_49 => ?_)
                    · exact absurd c192_49 (hAl k hk9).2.2
                    · refine z_iconst C 195 (v := 1) dL_areSums_195 (by decide +kernel) ?_
                      refine z_goto C 196 200 dL_areSums_196 (by decide) ?_
                      refine z_istore C 200 8 ([(8, .int 1), (10, .int (lRk t k H)), (7, .int (lSu t (k + 1))), (6, .int (lBe t (k + 1))), (5, .int (lAb t (k + 1))), (4, .int (lLk t (k + 1))), (9, .int (nI k)), (0, .ref (ad (270))), (1, .ref (ad (272))), (2, .ref (ad (276))), (3, .ref (ad (277)))]) dL_areSums_200 (by decide) rfl ?_
                      refine z_iinc C 202 (v := nI (k + 1)) 9 6 ([(9, .int (nI (k + 1))), (8, .int 1), (10, .int (lRk t k H)), (7, .int (lSu t (k + 1))), (6, .int (lBe t (k + 1))), (5, .int (lAb t (k + 1))), (4, .int (lLk t (k + 1))), (0, .ref (ad (270))), (1, .ref (ad (272))), (2, .ref (ad (276))), (3, .ref (ad (277)))]) dL_areSums_202 rfl (nI_1 _) (by decide) rfl ?_
                      refine z_goto C 205 20 dL_areSums_205 (by decide) ?_
                      refine z_ls [0, 1, 3, 4, 5, 6, 7, 8, 9, 10] _ rfl ?_
                      exact ih20 (k + 1) (by omega) hk9 (hI20.trans ((if_neg c25_1).trans rfl))
            have L96 : ∀ (j2 : Nat) (i : Nat), (h0_96 : 17 ≤ i + j2) → (hi : i ≤ H) → Zw p l e (zR 3) s m args below meth c D A K n ad 12 Q 96 ([(11, .int (nI i)), (10, .int (lRk t k i)), (7, .int (lSu t (k + 1))), (6, .int (lBe t (k + 1))), (5, .int (lAb t (k + 1))), (4, .int (lLk t (k + 1))), (9, .int (nI k)), (8, .int 1), (0, .ref (ad (270))), (1, .ref (ad (272))), (2, .ref (ad (276))), (3, .ref (ad (277)))]) [] t := by
              intro j2
              induction j2 with
              | zero =>
                intro i h0_96 hi
                exact absurd h0_96 (by have := hm.1; omega)
              | succ j2 ih96 =>
                intro i h0_96 hi
                refine z_iload C 96 11 0 dL_areSums_96 rfl ?_
                refine z_aload_n C 98 3 11 dL_areSums_98 rfl rfl ?_
                refine z_iconst C 99 (v := 1) dL_areSums_99 (by decide +kernel) ?_
                refine z_ialdN C 100 (277) 1 dL_areSums_100 hW.h277 hW.e277 rfl (by decide) (by decide) ?_
                refine z_icmp_ge C 101 157 dL_areSums_101 (by decide) (fun c101_50 => ?_) (fun c101_50 => ?_)
                · have e8 : i = H := (by have h9 := ‹t (277) 1 ≤ nI i›; rw [hm.2] at h9; have h8 := hm.1; have h7 := zle (by omega) (by omega) h9; omega)
                  subst e8
                  refine z_ls [1, 2, 3, 4, 5, 6, 7, 8, 9, 10, 11] _ rfl ?_
                  exact K96
                · refine z_iload C 104 10 1 dL_areSums_104 rfl ?_
                  refine z_aload_n C 106 1 9 dL_areSums_106 rfl rfl ?_
                  refine z_iconst C 107 (v := 4) dL_areSums_107 (by decide +kernel) ?_
                  refine z_iload C 108 11 0 dL_areSums_108 rfl ?_
                  refine z_imul C 110 dL_areSums_110 ?_
                  refine z_ialdN C 111 (272) (4 * i + 0) dL_areSums_111 hW.h272 hW.e272 (nI_mul 4 i) (by have := (hm.lt hi ‹¬ t (277) 1 ≤ nI i›); have := hm.1; omega) (by decide) ?_
                  refine z_aload_n C 112 1 9 dL_areSums_112 rfl rfl ?_
                  refine z_iconst C 113 (v := 4) dL_areSums_113 (by decide +kernel) ?_
                  refine z_iload C 114 9 6 dL_areSums_114 rfl ?_
                  refine z_imul C 116 dL_areSums_116 ?_
                  refine z_ialdN C 117 (272) (4 * k + 0) dL_areSums_117 hW.h272 hW.e272 (nI_mul 4 k) (by have := (hm.lt hk ‹¬ t (277) 1 ≤ nI k›); have := hm.1; omega) (by decide) ?_
                  have M118_54 : Zw p l e (zR 3) s m args below meth c D A K n ad 12 Q 148 ([(11, .int (nI i)), (10, .int (lRk t k i)), (7, .int (lSu t (k + 1))), (6, .int (lBe t (k + 1))), (5, .int (lAb t (k + 1))), (4, .int (lLk t (k + 1))), (9, .int (nI k)), (8, .int 1), (0, .ref (ad (270))), (1, .ref (ad (272))), (2, .ref (ad (276))), (3, .ref (ad (277)))]) [.int (if (t (272) (4 * k + 0)) < (t (272) (4 * i + 0)) then 1 else (if (t (272) (4 * i + 0)) = (t (272) (4 * k + 0)) then (if nI k ≤ nI i then 0 else 1) else 0)), .int (lRk t k i)] t := by
                    refine z_iadd C 148 dL_areSums_148 ?_
                    refine z_nv (lRk t k (i + 1)) rfl ?_
                    refine z_istore C 149 10 ([(10, .int (lRk t k (i + 1))), (11, .int (nI i)), (7, .int (lSu t (k + 1))), (6, .int (lBe t (k + 1))), (5, .int (lAb t (k + 1))), (4, .int (lLk t (k + 1))), (9, .int (nI k)), (8, .int 1), (0, .ref (ad (270))), (1, .ref (ad (272))), (2, .ref (ad (276))), (3, .ref (ad (277)))]) dL_areSums_149 (by decide) rfl ?_
                    refine z_iinc C 151 (v := nI (i + 1)) 11 1 ([(11, .int (nI (i + 1))), (10, .int (lRk t k (i + 1))), (7, .int (lSu t (k + 1))), (6, .int (lBe t (k + 1))), (5, .int (lAb t (k + 1))), (4, .int (lLk t (k + 1))), (9, .int (nI k)), (8, .int 1), (0, .ref (ad (270))), (1, .ref (ad (272))), (2, .ref (ad (276))), (3, .ref (ad (277)))]) dL_areSums_151 rfl (nI_1 _) (by decide) rfl ?_
                    refine z_goto C 154 96 dL_areSums_154 (by decide) ?_
                    refine z_ls [0, 1, 2, 3, 4, 5, 6, 7, 8, 9, 10, 11] _ rfl ?_
                    exact ih96 (i + 1) (by omega) (hm.lt hi ‹¬ t (277) 1 ≤ nI i›)
                  refine z_icmp_gt C 118 143 dL_areSums_118 (by decide) (fun c118_51 => ?_) (fun c118_51 => ?_)
                  · refine z_iconst C 143 (v := 1) dL_areSums_143 (by decide +kernel) ?_
                    refine z_goto C 144 148 dL_areSums_144 (by decide) ?_
                    exact z_nv (if (t (272) (4 * k + 0)) < (t (272) (4 * i + 0)) then 1 else (if (t (272) (4 * i + 0)) = (t (272) (4 * k + 0)) then (if nI k ≤ nI i then 0 else 1) else 0)) (((if_pos c118_51).trans rfl)).symm M118_54
                  · refine z_aload_n C 121 1 9 dL_areSums_121 rfl rfl ?_
                    refine z_iconst C 122 (v := 4) dL_areSums_122 (by decide +kernel) ?_
                    refine z_iload C 123 11 0 dL_areSums_123 rfl ?_
                    refine z_imul C 125 dL_areSums_125 ?_
                    refine z_ialdN C 126 (272) (4 * i + 0) dL_areSums_126 hW.h272 hW.e272 (nI_mul 4 i) (by have := (hm.lt hi ‹¬ t (277) 1 ≤ nI i›); have := hm.1; omega) (by decide) ?_
                    refine z_aload_n C 127 1 9 dL_areSums_127 rfl rfl ?_
                    refine z_iconst C 128 (v := 4) dL_areSums_128 (by decide +kernel) ?_
                    refine z_iload C 129 9 6 dL_areSums_129 rfl ?_
                    refine z_imul C 131 dL_areSums_131 ?_
                    refine z_ialdN C 132 (272) (4 * k + 0) dL_areSums_132 hW.h272 hW.e272 (nI_mul 4 k) (by have := (hm.lt hk ‹¬ t (277) 1 ≤ nI k›); have := hm.1; omega) (by decide) ?_
                    refine z_icmp_ne C 133 147 dL_areSums_133 (by decide) (fun c133_52 => ?_) (fun c133_52 => ?_)
                    · refine z_iconst C 147 (v := 0) dL_areSums_147 (by decide +kernel) ?_
                      exact z_nv (if (t (272) (4 * k + 0)) < (t (272) (4 * i + 0)) then 1 else (if (t (272) (4 * i + 0)) = (t (272) (4 * k + 0)) then (if nI k ≤ nI i then 0 else 1) else 0)) (((if_neg c118_51).trans ((if_neg c133_52).trans rfl))).symm M118_54
                    · refine z_iload C 136 11 0 dL_areSums_136 rfl ?_
                      refine z_iload C 138 9 6 dL_areSums_138 rfl ?_
                      refine z_icmp_ge C 140 147 dL_areSums_140 (by decide) (fun c140_53 => ?_) (fun c140_53 => ?_)
                      · refine z_iconst C 147 (v := 0) dL_areSums_147 (by decide +kernel) ?_
                        exact z_nv (if (t (272) (4 * k + 0)) < (t (272) (4 * i + 0)) then 1 else (if (t (272) (4 * i + 0)) = (t (272) (4 * k + 0)) then (if nI k ≤ nI i then 0 else 1) else 0)) (((if_neg c118_51).trans ((if_pos c133_52).trans ((if_pos c140_53).trans rfl)))).symm M118_54
                      · refine z_iconst C 143 (v := 1) dL_areSums_143 (by decide +kernel) ?_
                        refine z_goto C 144 148 dL_areSums_144 (by decide) ?_
                        exact z_nv (if (t (272) (4 * k + 0)) < (t (272) (4 * i + 0)) then 1 else (if (t (272) (4 * i + 0)) = (t (272) (4 * k + 0)) then (if nI k ≤ nI i then 0 else 1) else 0)) (((if_neg c118_51).trans ((if_pos c133_52).trans ((if_neg c140_53).trans rfl)))).symm M118_54
            refine z_ls [0, 1, 2, 3, 4, 5, 6, 7, 8, 9, 10, 11] _ rfl ?_
            exact L96 (17) 0 (by omega) (Nat.zero_le _)
          refine z_if_ge C 68 75 dL_areSums_68 (by decide) (fun c68_43 => ?_) (fun c68_43 => ?_)
          · refine z_iconst C 75 (v := 0) dL_areSums_75 (by decide +kernel) ?_
            exact z_nv (if 0 ≤ (t (272) (4 * k + 0)) then 0 else 1) (((if_pos c68_43).trans rfl)).symm M68_44
          · refine z_iconst C 71 (v := 1) dL_areSums_71 (by decide +kernel) ?_
            refine z_goto C 72 76 dL_areSums_72 (by decide) ?_
            exact z_nv (if 0 ≤ (t (272) (4 * k + 0)) then 0 else 1) (((if_neg c68_43).trans rfl)).symm M68_44
        refine z_if_le C 49 56 dL_areSums_49 (by decide) (fun c49_41 => ?_) (fun c49_41 => ?_)
        · refine z_iconst C 56 (v := 0) dL_areSums_56 (by decide +kernel) ?_
          exact z_nv (if (t (272) (4 * k + 0)) ≤ 0 then 0 else 1) (((if_pos c49_41).trans rfl)).symm M49_42
        · refine z_iconst C 52 (v := 1) dL_areSums_52 (by decide +kernel) ?_
          refine z_goto C 53 57 dL_areSums_53 (by decide) ?_
          exact z_nv (if (t (272) (4 * k + 0)) ≤ 0 then 0 else 1) (((if_neg c49_41).trans rfl)).symm M49_42
  refine z_ls [0, 1, 2, 3, 4, 5, 6, 7, 8, 9] _ rfl ?_
  exact L20 (17) 0 (by omega) (Nat.zero_le _) rfl
theorem rL_areSums_1 {H : Nat} {t : zM} (hm : lS H t) : rL_areSums t = 1 := by
  have k3 : ∀ (j y : Nat), 10 ≤ y + j → y ≤ 9 → lL_areSums_277 t j y = 1 := by
    intro j
    induction j with
    | zero => intro y h0 hy; omega
    | succ j ih =>
      intro y h0 hy
      unfold lL_areSums_277
      repeat' split
      all_goals first
        | rfl
        | exact ih _ (by omega) (by have := zge (b := 9) (by omega) (by decide) ‹¬ (9 : Int32) ≤ nI y›; omega)
  have k2 : ∀ (j x : Nat), 61 ≤ x + j → x ≤ 60 → lL_areSums_211 t j x = 1 := by
    intro j
    induction j with
    | zero => intro x h0 hx; omega
    | succ j ih =>
      intro x h0 hx
      unfold lL_areSums_211
      split
      · exact k3 _ _ (by omega) (by omega)
      · exact ih _ (by omega) (by have := zge (b := 60) (by omega) (by decide) ‹¬ (60 : Int32) ≤ nI x›; omega)
  have key : ∀ (j k : Nat), 17 ≤ k + j → k ≤ H → lL_areSums_20 t j k = 1 := by
    intro j
    induction j with
    | zero => intro k h0 hk; have := hm.1; omega
    | succ j ih =>
      intro k h0 hk
      unfold lL_areSums_20
      split
      · exact k2 _ _ (by omega) (by omega)
      · exact ih _ (by omega) (hm.lt hk (by assumption))
  exact key 17 0 (by decide) (Nat.zero_le _)
