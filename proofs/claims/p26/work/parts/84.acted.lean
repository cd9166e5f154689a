/-! the law's act -/
theorem ite01 {c : Prop} [Decidable c] : (if c then (1 : Int32) else 0) = 0 ∨ (if c then (1 : Int32) else 0) = 1 := by
  by_cases h : c
  · exact Or.inr (if_pos h)
  · exact Or.inl (if_neg h)
/-- the street and the place of a house that comes -/
def lQ (y : Nat) : Int32 := (if zrem (nI (y / 16)) 3 = 0 then zrem ((nI (y / 16)) / 3) 4 else 1)
def lP (y : Nat) : Int32 := 1 + zrem ((nI (y / 16)) / 12) 20
def lTk (t : zM) (y : Nat) : Int32 := (if rL_at t (lQ y) (lP y) < 0 then 0 else 1)
/-- whether it is to be locked -/
def lLo (y : Nat) : Int32 := (if zrem (nI (y / 16)) 3 = 0 then 1 else 0)
/-- a setting -/
def lSv (y : Nat) : Int32 := (if nI (y % 4) = 0 then zrem (nI (y / 16)) 6 else (if nI (y % 4) = 1 then 1 + zrem (nI (y / 16)) 50 else (if nI (y % 4) = 2 then 1 + zrem (nI (y / 16)) 99 else 5 + zrem (nI (y / 16)) 30)))
/-- days -/
def lDm (w : Nat) : Nat := if w = 17 then 60 else 7
def lDn (w y : Nat) : Nat := 1 + y % lDm w
theorem lDm_e {w : Nat} (hw : w < 1000) : (if nI w = 17 then (60 : Int32) else 7) = nI (lDm w) := by
  unfold lDm
  by_cases h : w = 17
  · rw [if_pos h, if_pos (show nI w = 17 from congrArg nI h)]; rfl
  · rw [if_neg h, if_neg (show ¬ nI w = 17 from fun e => h ((nI_eq (b := 17) (by omega) (by decide)).mp e))]; rfl
theorem lDm_b (w : Nat) : 7 ≤ lDm w ∧ lDm w ≤ 60 := by
  unfold lDm
  split <;> decide
theorem lDn_b (w y : Nat) : 1 ≤ lDn w y ∧ lDn w y ≤ 60 := by
  have h := lDm_b w
  have := Nat.mod_lt y (show 0 < lDm w by omega)
  unfold lDn
  omega
theorem y16d {y : Nat} (hy : y < 2 ^ 31) : nI y / 16 = nI (y / 16) := nI_div (b := 16) hy (by decide)
theorem y16m {y : Nat} (hy : y < 2 ^ 31) : zrem (nI y) 16 = nI (y % 16) := zrem_n (b := 16) hy (by decide) (by decide)
theorem y4m {y : Nat} (hy : y < 2 ^ 31) : zrem (nI y) 4 = nI (y % 4) := zrem_n (b := 4) hy (by decide) (by decide)
theorem lHn {H : Nat} {t : zM} (h : lS H t) (c : ¬ t 277 1 = 16) : H < 16 := by
  have h0 := h.1
  rw [h.2] at c
  rcases Nat.lt_or_ge H 16 with q | q
  · exact q
  · have : H = 16 := by omega
    subst this
    exact absurd rfl c
def lL_isActed_594 (t : zM) (H : Nat) (way : Nat) (y : Nat) (N : Nat) : Nat → Nat → Int32 → zM → Int32
  | 0, _, _, _ => 0
  | j1 + 1, i, v, u => (if nI (lDn way y) ≤ nI i then (if (rX6_days u (nI (lDn way y))) = v then 1 else 0) else (lL_isActed_594 t H way y N j1 (i + 1) (v + (rL_day u (N + i))) (sL_day u (N + i))))
def lsL_isActed_594 (t : zM) (H : Nat) (way : Nat) (y : Nat) (N : Nat) : Nat → Nat → Int32 → zM → zM
  | 0, _, _, u => u
  | j1 + 1, i, v, u => (if nI (lDn way y) ≤ nI i then (if (rX6_days u (nI (lDn way y))) = v then (sX6_days u (nI (lDn way y))) else (sX6_days u (nI (lDn way y)))) else (lsL_isActed_594 t H way y N j1 (i + 1) (v + (rL_day u (N + i))) (sL_day u (N + i))))
def rL_isActed (t : zM) (H : Nat) (way : Nat) (y : Nat) (N : Nat) : Int32 := (if 5 ≤ nI way then (if 16 ≤ nI way then (if 9 ≤ nI way then (if nI way = 9 then (if (rX6_lock (zset t (272) (4 * (y % 16) + 2) (lLo y)) (nI (y % 16)) (lLo y)) = (t (272) (4 * (y % 16) + 2)) then 1 else 0) else (if 14 ≤ nI way then (if nI way = 16 then (if (rX6_set (zset t (277) (10 + (y % 4)) (lSv y)) (nI (y % 4)) (lSv y)) = (t (277) (10 + (y % 4))) then 1 else 0) else (lL_isActed_594 t H way y N 61 0 0 t)) else (if (rL_why t (y % 16)) ≤ 0 then (if (rX6_read (sL_read t (y % 16)) (nI (y % 16))) = (rL_read t (y % 16)) then 1 else 0) else (if (rX6_read t (nI (y % 16))) = (-1000002) then 1 else 0)))) else (if (rX6_flow (zset t (272) (4 * (y % 16) + 1) (zrem (nI (y / 16)) 1000)) (nI (y % 16)) (zrem (nI (y / 16)) 1000)) = (t (272) (4 * (y % 16) + 1)) then 1 else 0)) else (if nI (y % 16) < (t (277) 1) then (if 9 ≤ nI way then (if nI way = 9 then (if (rX6_lock (zset t (272) (4 * (y % 16) + 2) (lLo y)) (nI (y % 16)) (lLo y)) = (t (272) (4 * (y % 16) + 2)) then 1 else 0) else (if 14 ≤ nI way then (if (rX6_change (zset (zset (zset (sL_read t (y % 16)) (271) (4 * (y % 16) + 2) 0) (271) (4 * (y % 16) + 3) 0) (274) (2 * (y % 16) + 1) ((t (274) (2 * (y % 16) + 1)) + 1)) (nI (y % 16))) = (rL_read t (y % 16)) then 1 else 0) else (if (rL_why t (y % 16)) ≤ 0 then (if (rX6_read (sL_read t (y % 16)) (nI (y % 16))) = (rL_read t (y % 16)) then 1 else 0) else (if (rX6_read t (nI (y % 16))) = (-1000002) then 1 else 0)))) else (if (rX6_flow (zset t (272) (4 * (y % 16) + 1) (zrem (nI (y / 16)) 1000)) (nI (y % 16)) (zrem (nI (y / 16)) 1000)) = (t (272) (4 * (y % 16) + 1)) then 1 else 0)) else (if (rX6_flow t (nI (y % 16)) 5) = (-1000001) then (if (rX6_read (sX6_flow t (nI (y % 16)) 5) (nI (y % 16))) = (-1000001) then (if (rX6_change (sX6_read (sX6_flow t (nI (y % 16)) 5) (nI (y % 16))) (nI (y % 16))) = (-1000001) then (if (rX6_lock (sX6_change (sX6_read (sX6_flow t (nI (y % 16)) 5) (nI (y % 16))) (nI (y % 16))) (nI (y % 16)) 1) = (-1000001) then 1 else 0) else 0) else 0) else 0))) else (if (t (277) 1) = 16 then 1 else (if (lTk t y) = 0 then (if (rX6_house (zset (zset (zset t (271) (4 * H + 0) (lQ y)) (271) (4 * H + 1) (lP y)) (277) 1 ((t (277) 1) + 1)) (lQ y) (lP y)) = (((sX6_house (zset (zset (zset t (271) (4 * H + 0) (lQ y)) (271) (4 * H + 1) (lP y)) (277) 1 ((t (277) 1) + 1)) (lQ y) (lP y)) (277) 1) - 1) then 1 else 0) else (if (rX6_house t (lQ y) (lP y)) = (-1000002) then 1 else 0))))
def sL_isActed (t : zM) (H : Nat) (way : Nat) (y : Nat) (N : Nat) : zM := (if 5 ≤ nI way then (if 16 ≤ nI way then (if 9 ≤ nI way then (if nI way = 9 then (if (rX6_lock (zset t (272) (4 * (y % 16) + 2) (lLo y)) (nI (y % 16)) (lLo y)) = (t (272) (4 * (y % 16) + 2)) then (sX6_lock (zset t (272) (4 * (y % 16) + 2) (lLo y)) (nI (y % 16)) (lLo y)) else (sX6_lock (zset t (272) (4 * (y % 16) + 2) (lLo y)) (nI (y % 16)) (lLo y))) else (if 14 ≤ nI way then (if nI way = 16 then (if (rX6_set (zset t (277) (10 + (y % 4)) (lSv y)) (nI (y % 4)) (lSv y)) = (t (277) (10 + (y % 4))) then (sX6_set (zset t (277) (10 + (y % 4)) (lSv y)) (nI (y % 4)) (lSv y)) else (sX6_set (zset t (277) (10 + (y % 4)) (lSv y)) (nI (y % 4)) (lSv y))) else (lsL_isActed_594 t H way y N 61 0 0 t)) else (if (rL_why t (y % 16)) ≤ 0 then (if (rX6_read (sL_read t (y % 16)) (nI (y % 16))) = (rL_read t (y % 16)) then (sX6_read (sL_read t (y % 16)) (nI (y % 16))) else (sX6_read (sL_read t (y % 16)) (nI (y % 16)))) else (if (rX6_read t (nI (y % 16))) = (-1000002) then (sX6_read t (nI (y % 16))) else (sX6_read t (nI (y % 16))))))) else (if (rX6_flow (zset t (272) (4 * (y % 16) + 1) (zrem (nI (y / 16)) 1000)) (nI (y % 16)) (zrem (nI (y / 16)) 1000)) = (t (272) (4 * (y % 16) + 1)) then (sX6_flow (zset t (272) (4 * (y % 16) + 1) (zrem (nI (y / 16)) 1000)) (nI (y % 16)) (zrem (nI (y / 16)) 1000)) else (sX6_flow (zset t (272) (4 * (y % 16) + 1) (zrem (nI (y / 16)) 1000)) (nI (y % 16)) (zrem (nI (y / 16)) 1000)))) else (if nI (y % 16) < (t (277) 1) then (if 9 ≤ nI way then (if nI way = 9 then (if (rX6_lock (zset t (272) (4 * (y % 16) + 2) (lLo y)) (nI (y % 16)) (lLo y)) = (t (272) (4 * (y % 16) + 2)) then (sX6_lock (zset t (272) (4 * (y % 16) + 2) (lLo y)) (nI (y % 16)) (lLo y)) else (sX6_lock (zset t (272) (4 * (y % 16) + 2) (lLo y)) (nI (y % 16)) (lLo y))) else (if 14 ≤ nI way then (if (rX6_change (zset (zset (zset (sL_read t (y % 16)) (271) (4 * (y % 16) + 2) 0) (271) (4 * (y % 16) + 3) 0) (274) (2 * (y % 16) + 1) ((t (274) (2 * (y % 16) + 1)) + 1)) (nI (y % 16))) = (rL_read t (y % 16)) then (sX6_change (zset (zset (zset (sL_read t (y % 16)) (271) (4 * (y % 16) + 2) 0) (271) (4 * (y % 16) + 3) 0) (274) (2 * (y % 16) + 1) ((t (274) (2 * (y % 16) + 1)) + 1)) (nI (y % 16))) else (sX6_change (zset (zset (zset (sL_read t (y % 16)) (271) (4 * (y % 16) + 2) 0) (271) (4 * (y % 16) + 3) 0) (274) (2 * (y % 16) + 1) ((t (274) (2 * (y % 16) + 1)) + 1)) (nI (y % 16)))) else (if (rL_why t (y % 16)) ≤ 0 then (if (rX6_read (sL_read t (y % 16)) (nI (y % 16))) = (rL_read t (y % 16)) then (sX6_read (sL_read t (y % 16)) (nI (y % 16))) else (sX6_read (sL_read t (y % 16)) (nI (y % 16)))) else (if (rX6_read t (nI (y % 16))) = (-1000002) then (sX6_read t (nI (y % 16))) else (sX6_read t (nI (y % 16))))))) else (if (rX6_flow (zset t (272) (4 * (y % 16) + 1) (zrem (nI (y / 16)) 1000)) (nI (y % 16)) (zrem (nI (y / 16)) 1000)) = (t (272) (4 * (y % 16) + 1)) then (sX6_flow (zset t (272) (4 * (y % 16) + 1) (zrem (nI (y / 16)) 1000)) (nI (y % 16)) (zrem (nI (y / 16)) 1000)) else (sX6_flow (zset t (272) (4 * (y % 16) + 1) (zrem (nI (y / 16)) 1000)) (nI (y % 16)) (zrem (nI (y / 16)) 1000)))) else (if (rX6_flow t (nI (y % 16)) 5) = (-1000001) then (if (rX6_read (sX6_flow t (nI (y % 16)) 5) (nI (y % 16))) = (-1000001) then (if (rX6_change (sX6_read (sX6_flow t (nI (y % 16)) 5) (nI (y % 16))) (nI (y % 16))) = (-1000001) then (if (rX6_lock (sX6_change (sX6_read (sX6_flow t (nI (y % 16)) 5) (nI (y % 16))) (nI (y % 16))) (nI (y % 16)) 1) = (-1000001) then (sX6_lock (sX6_change (sX6_read (sX6_flow t (nI (y % 16)) 5) (nI (y % 16))) (nI (y % 16))) (nI (y % 16)) 1) else (sX6_lock (sX6_change (sX6_read (sX6_flow t (nI (y % 16)) 5) (nI (y % 16))) (nI (y % 16))) (nI (y % 16)) 1)) else (sX6_change (sX6_read (sX6_flow t (nI (y % 16)) 5) (nI (y % 16))) (nI (y % 16)))) else (sX6_read (sX6_flow t (nI (y % 16)) 5) (nI (y % 16)))) else (sX6_flow t (nI (y % 16)) 5)))) else (if (t (277) 1) = 16 then t else (if (lTk t y) = 0 then (if (rX6_house (zset (zset (zset t (271) (4 * H + 0) (lQ y)) (271) (4 * H + 1) (lP y)) (277) 1 ((t (277) 1) + 1)) (lQ y) (lP y)) = (((sX6_house (zset (zset (zset t (271) (4 * H + 0) (lQ y)) (271) (4 * H + 1) (lP y)) (277) 1 ((t (277) 1) + 1)) (lQ y) (lP y)) (277) 1) - 1) then (sX6_house (zset (zset (zset t (271) (4 * H + 0) (lQ y)) (271) (4 * H + 1) (lP y)) (277) 1 ((t (277) 1) + 1)) (lQ y) (lP y)) else (sX6_house (zset (zset (zset t (271) (4 * H + 0) (lQ y)) (271) (4 * H + 1) (lP y)) (277) 1 ((t (277) 1) + 1)) (lQ y) (lP y))) else (if (rX6_house t (lQ y) (lP y)) = (-1000002) then (sX6_house t (lQ y) (lP y)) else (sX6_house t (lQ y) (lP y))))))
theorem mL_isActed_c67 : Cond.constant RL 67 (-1000002) ∈ wsL_isActed := by decide +kernel
theorem mL_isActed_c42 : Cond.constant RL 42 (-1000001) ∈ wsL_isActed := by decide +kernel
theorem hyL_isActed : yL_isActed.cls ≠ "java/lang/invoke/MethodHandle" ∧ yL_isActed.cls ≠ "java/lang/invoke/VarHandle" ∧ (parseMethodDescriptor yL_isActed.desc).map (fun d => d.parameters.length) = some 10 := by decide +kernel
set_option maxHeartbeats 3000000 in
set_option maxRecDepth 100000 in
theorem kL_isActed (l : Launch) (D : va_G) (cy : Nat → ClassId) (K : zK) (n : Nat) (ad : Nat → Nat) (hJ : zJ n ad) (t : zM) (H way y N : Nat) (hO : zTop cy K n ad) (hW : zLw cy K n ad) (hw9 : way < 1000) (hy9 : y < 2 ^ 31) (hN : N ≤ 19000) (hG : zGd t) (hD0 : lD H N t) (hG2 : zGd (sX6_flow t (nI (y % 16)) 5)) (hG3 : zGd (sX6_read (sX6_flow t (nI (y % 16)) 5) (nI (y % 16)))) (hG4 : zGd (sX6_change (sX6_read (sX6_flow t (nI (y % 16)) 5) (nI (y % 16))) (nI (y % 16)))) : zIS l yL_isActed wsL_isActed 7 D cy K n ad t [.ref (ad (270)), .ref (ad (271)), .ref (ad (272)), .ref (ad (273)), .ref (ad (274)), .ref (ad (275)), .ref (ad (276)), .ref (ad (277)), .int (nI way), .int (nI y)] (fun r t1 => r = rL_isActed t H way y N ∧ t1 = sL_isActed t H way y N) := by
  refine z_startIS (cc := cL_isActed) (mL := 15) (ret := (some .boolean)) (own := RL) rfl (by decide +kernel) rfl hJ (Nat.le_of_ble_eq_true rfl) ?_
  intro p e s m args below meth c A hA Q hQ C
  obtain ⟨C, hZ⟩ := C
  have hm := hD0.1
  have hy16 : y % 16 < 16 := Nat.mod_lt y (by decide)
  refine z_iload C 0 9 9 dL_isActed_0 rfl ?_
  refine z_bipush C 2 (v := 16) dL_isActed_2 (by decide +kernel) ?_
  refine z_irem C 4 dL_isActed_4 (by decide) ?_
  refine z_nv (nI (y % 16)) (y16m hy9) ?_
  refine z_istore C 5 10 ([(10, .int (nI (y % 16))), (0, .ref (ad (270))), (1, .ref (ad (271))), (2, .ref (ad (272))), (3, .ref (ad (273))), (4, .ref (ad (274))), (5, .ref (ad (275))), (6, .ref (ad (276))), (7, .ref (ad (277))), (8, .int (nI way)), (9, .int (nI y))]) dL_isActed_5 (by decide) rfl ?_
  refine z_iload C 7 9 10 dL_isActed_7 rfl ?_
  refine z_bipush C 9 (v := 16) dL_isActed_9 (by decide +kernel) ?_
  refine z_idiv C 11 dL_isActed_11 (by decide) ?_
  refine z_nv (nI (y / 16)) (y16d hy9) ?_
  refine z_istore C 12 11 ([(11, .int (nI (y / 16))), (10, .int (nI (y % 16))), (0, .ref (ad (270))), (1, .ref (ad (271))), (2, .ref (ad (272))), (3, .ref (ad (273))), (4, .ref (ad (274))), (5, .ref (ad (275))), (6, .ref (ad (276))), (7, .ref (ad (277))), (8, .int (nI way)), (9, .int (nI y))]) dL_isActed_12 (by decide) rfl ?_
  refine z_iload C 14 8 10 dL_isActed_14 rfl ?_
  refine z_iconst C 16 (v := 5) dL_isActed_16 (by decide +kernel) ?_
  refine z_icmp_ge C 17 150 dL_isActed_17 (by decide) (fun c17_1 => ?_) (fun c17_1 => ?_)
  · refine z_iload C 150 8 10 dL_isActed_150 rfl ?_
    refine z_bipush C 152 (v := 16) dL_isActed_152 (by decide +kernel) ?_
    refine z_icmp_ge C 154 218 dL_isActed_154 (by decide) (fun c154_2 => ?_) (fun c154_2 => ?_)
    · refine z_iload C 218 8 10 dL_isActed_218 rfl ?_
      refine z_bipush C 220 (v := 9) dL_isActed_220 (by decide +kernel) ?_
      refine z_icmp_ge C 222 272 dL_isActed_222 (by decide) (fun c222_3 => ?_) (fun c222_3 => ?_)
      · refine z_iload C 272 8 10 dL_isActed_272 rfl ?_
        refine z_bipush C 274 (v := 9) dL_isActed_274 (by decide +kernel) ?_
        refine z_icmp_ne C 276 338 dL_isActed_276 (by decide) (fun c276_4 => ?_) (fun c276_4 => ?_)
        · refine z_iload C 338 8 10 dL_isActed_338 rfl ?_
          refine z_bipush C 340 (v := 14) dL_isActed_340 (by decide +kernel) ?_
          refine z_icmp_ge C 342 392 dL_isActed_342 (by decide) (fun c342_5 => ?_) (fun c342_5 => ?_)
          · refine z_iload C 392 8 10 dL_isActed_392 rfl ?_
            refine z_bipush C 394 (v := 16) dL_isActed_394 (by decide +kernel) ?_
            refine z_icmp_ge C 396 461 dL_isActed_396 (by decide) (fun c396_6 => ?_) (fun c396_6 => ?_)
            · refine z_iload C 461 8 10 dL_isActed_461 rfl ?_
              refine z_bipush C 463 (v := 16) dL_isActed_463 (by decide +kernel) ?_
              refine z_icmp_ne C 465 567 dL_isActed_465 (by decide) (fun c465_7 => ?_) (fun c465_7 => ?_)
              · refine z_iconst C 567 (v := 1) dL_isActed_567 (by decide +kernel) ?_
                refine z_iload C 568 9 11 dL_isActed_568 rfl ?_
                refine z_iload C 570 8 10 dL_isActed_570 rfl ?_
                refine z_bipush C 572 (v := 17) dL_isActed_572 (by decide +kernel) ?_
                have M574_9 : Zw p l e (zR 7) s m args below meth c D A K n ad 15 Q 584 ([(11, .int (nI (y / 16))), (10, .int (nI (y % 16))), (0, .ref (ad (270))), (1, .ref (ad (271))), (2, .ref (ad (272))), (3, .ref (ad (273))), (4, .ref (ad (274))), (5, .ref (ad (275))), (6, .ref (ad (276))), (7, .ref (ad (277))), (8, .int (nI way)), (9, .int (nI y))]) [.int (if nI way = 17 then 60 else 7), .int (nI y), .int 1] t := by
                  refine z_irem C 584 dL_isActed_584 (fun e9 => by have h9 := lDm_e hw9; rw [e9] at h9; have := lDm_b way; have h8 := (nI_eq (a := 0) (by decide) (by omega)).mp h9; omega) ?_
                  refine z_nv (nI (y % lDm way)) ((congrArg (zrem (nI y)) (lDm_e hw9)).trans (zrem_n hy9 (by have := lDm_b way; omega) (by have := lDm_b way; omega))) ?_
                  refine z_iadd C 585 dL_isActed_585 ?_
                  refine z_nv (nI (lDn way y)) (nI_add 1 _) ?_
                  refine z_istore C 586 12 ([(12, .int (nI (lDn way y))), (11, .int (nI (y / 16))), (10, .int (nI (y % 16))), (0, .ref (ad (270))), (1, .ref (ad (271))), (2, .ref (ad (272))), (3, .ref (ad (273))), (4, .ref (ad (274))), (5, .ref (ad (275))), (6, .ref (ad (276))), (7, .ref (ad (277))), (8, .int (nI way)), (9, .int (nI y))]) dL_isActed_586 (by decide) rfl ?_
                  refine z_iconst C 588 (v := 0) dL_isActed_588 (by decide +kernel) ?_
                  refine z_istore C 589 13 ([(13, .int 0), (12, .int (nI (lDn way y))), (11, .int (nI (y / 16))), (10, .int (nI (y % 16))), (0, .ref (ad (270))), (1, .ref (ad (271))), (2, .ref (ad (272))), (3, .ref (ad (273))), (4, .ref (ad (274))), (5, .ref (ad (275))), (6, .ref (ad (276))), (7, .ref (ad (277))), (8, .int (nI way)), (9, .int (nI y))]) dL_isActed_589 (by decide) rfl ?_
                  refine z_iconst C 591 (v := 0) dL_isActed_591 (by decide +kernel) ?_
                  refine z_istore C 592 14 ([(14, .int 0), (13, .int 0), (12, .int (nI (lDn way y))), (11, .int (nI (y / 16))), (10, .int (nI (y % 16))), (0, .ref (ad (270))), (1, .ref (ad (271))), (2, .ref (ad (272))), (3, .ref (ad (273))), (4, .ref (ad (274))), (5, .ref (ad (275))), (6, .ref (ad (276))), (7, .ref (ad (277))), (8, .int (nI way)), (9, .int (nI y))]) dL_isActed_592 (by decide) rfl ?_
                  have L594 : ∀ (j1 : Nat) (i : Nat) (v : Int32) (u : zM), (h0_594 : 61 ≤ i + j1) → (hi : i ≤ lDn way y) → (hD : lD H (N + i) u) → (hf : ∀ x9, x9 < 271 → u x9 = t x9) → (hI594 : rL_isActed t H way y N = (lL_isActed_594 t H way y N j1 i v u)) → (hS594 : sL_isActed t H way y N = (lsL_isActed_594 t H way y N j1 i v u)) → Zw p l e (zR 7) s m args below meth c D A K n ad 15 Q 594 ([(14, .int (nI i)), (13, .int v), (12, .int (nI (lDn way y))), (11, .int (nI (y / 16))), (10, .int (nI (y % 16))), (0, .ref (ad (270))), (1, .ref (ad (271))), (2, .ref (ad (272))), (3, .ref (ad (273))), (4, .ref (ad (274))), (5, .ref (ad (275))), (6, .ref (ad (276))), (7, .ref (ad (277))), (8, .int (nI way)), (9, .int (nI y))]) [] u := by
                    intro j1
                    induction j1 with
                    | zero =>
                      intro i v u h0_594 hi hD hf hI594 hS594
                      exact absurd h0_594 (by have := lDn_b way y; omega)
                    | succ j1 ih594 =>
                      intro i v u h0_594 hi hD hf hI594 hS594
                      refine z_iload C 594 14 0 dL_isActed_594 rfl ?_
                      refine z_iload C 596 12 2 dL_isActed_596 rfl ?_
                      refine z_icmp_ge C 598 626 dL_isActed_598 (by decide) (fun c598_10 => ?_) (fun c598_10 => ?_)
                      · refine z_aload_n C 626 0 5 dL_isActed_626 rfl rfl ?_
                        refine z_iload C 627 12 2 dL_isActed_627 rfl ?_
                        refine z_virtIe C 629 (As := [.int (nI (lDn way y))]) (st := []) (id := 270) (kX6_days l D cy K n ad hJ hO u (nI (lDn way y)) (hG.up hf)) dL_isActed_629 rfl gL_isActed_X6_days hyX6_days rfl (by decide) (by decide) hO.h0 rfl hO.e0 rfl rfl rfl (Nat.le_of_ble_eq_true rfl) ?_
                        refine z_iload C 632 13 1 dL_isActed_632 rfl ?_
                        refine z_icmp_ne C 634 641 dL_isActed_634 (by decide) (fun c634_12 => ?_) (fun c634_12 => ?_)
                        · refine z_iconst C 641 (v := 0) dL_isActed_641 (by decide +kernel) ?_
                          exact z_zret C 642 hA hQ rfl (Or.inl rfl) dL_isActed_642 ⟨((hI594.trans ((if_pos c598_10).trans ((if_neg c634_12).trans rfl)))).symm, ((hS594.trans ((if_pos c598_10).trans ((if_neg c634_12).trans rfl)))).symm⟩
                        · refine z_iconst C 637 (v := 1) dL_isActed_637 (by decide +kernel) ?_
                          refine z_goto C 638 642 dL_isActed_638 (by decide) ?_
                          exact z_zret C 642 hA hQ rfl (Or.inr rfl) dL_isActed_642 ⟨((hI594.trans ((if_pos c598_10).trans ((if_pos c634_12).trans rfl)))).symm, ((hS594.trans ((if_pos c598_10).trans ((if_pos c634_12).trans rfl)))).symm⟩
                      · have hi9 : i < lDn way y := (zge (a := i) (b := lDn way y) (by have := lDn_b way y; omega) (by have := lDn_b way y; omega) ‹¬ nI (lDn way y) ≤ nI i›)
                        refine z_iload C 601 13 1 dL_isActed_601 rfl ?_
                        refine z_aload_n C 603 1 6 dL_isActed_603 rfl rfl ?_
                        refine z_aload_n C 604 2 7 dL_isActed_604 rfl rfl ?_
                        refine z_aload_n C 605 3 8 dL_isActed_605 rfl rfl ?_
                        refine z_aload C 606 4 9 dL_isActed_606 rfl ?_
                        refine z_aload C 608 5 10 dL_isActed_608 rfl ?_
                        refine z_aload C 610 6 11 dL_isActed_610 rfl ?_
                        refine z_aload C 612 7 12 dL_isActed_612 rfl ?_
                        refine z_statIe C 614 (As := [.ref (ad (271)), .ref (ad (272)), .ref (ad (273)), .ref (ad (274)), .ref (ad (275)), .ref (ad (276)), .ref (ad (277))]) (st := [.int v]) (kL_day l D cy K n ad hJ u H (N + i) hW (by have := lDn_b way y; have := hi9; omega) hD) dL_isActed_614 rfl gL_isActed_L_day hyL_day rfl (by decide) (by decide) rfl rfl (Nat.le_of_ble_eq_true rfl) ?_
                        refine z_iadd C 617 dL_isActed_617 ?_
                        refine z_istore C 618 13 ([(13, .int (v + (rL_day u (N + i)))), (14, .int (nI i)), (12, .int (nI (lDn way y))), (11, .int (nI (y / 16))), (10, .int (nI (y % 16))), (0, .ref (ad (270))), (1, .ref (ad (271))), (2, .ref (ad (272))), (3, .ref (ad (273))), (4, .ref (ad (274))), (5, .ref (ad (275))), (6, .ref (ad (276))), (7, .ref (ad (277))), (8, .int (nI way)), (9, .int (nI y))]) dL_isActed_618 (by decide) rfl ?_
                        refine z_iinc C 620 (v := nI (i + 1)) 14 1 ([(14, .int (nI (i + 1))), (13, .int (v + (rL_day u (N + i)))), (12, .int (nI (lDn way y))), (11, .int (nI (y / 16))), (10, .int (nI (y % 16))), (0, .ref (ad (270))), (1, .ref (ad (271))), (2, .ref (ad (272))), (3, .ref (ad (273))), (4, .ref (ad (274))), (5, .ref (ad (275))), (6, .ref (ad (276))), (7, .ref (ad (277))), (8, .int (nI way)), (9, .int (nI y))]) dL_isActed_620 rfl (nI_1 _) (by decide) rfl ?_
                        refine z_goto C 623 594 dL_isActed_623 (by decide) ?_
                        refine z_ls [0, 1, 2, 3, 4, 5, 6, 7, 8, 9, 10, 11, 12, 13, 14] _ rfl ?_
                        exact ih594 (i + 1) (v + (rL_day u (N + i))) (sL_day u (N + i)) (by omega) hi9 (sL_day_D hD) (fun x9 hx9 => (sL_day_o u _ hx9).trans (hf x9 hx9)) (hI594.trans ((if_neg c598_10).trans rfl)) (hS594.trans ((if_neg c598_10).trans rfl))
                  refine z_ls [0, 1, 2, 3, 4, 5, 6, 7, 8, 9, 10, 11, 12, 13, 14] _ rfl ?_
                  exact L594 (61) 0 0 t (by omega) (Nat.zero_le _) hD0 (fun _ _ => rfl) ((if_pos c17_1).trans ((if_pos c154_2).trans ((if_pos c222_3).trans ((if_neg c276_4).trans ((if_pos c342_5).trans ((if_neg c465_7).trans rfl)))))) ((if_pos c17_1).trans ((if_pos c154_2).trans ((if_pos c222_3).trans ((if_neg c276_4).trans ((if_pos c342_5).trans ((if_neg c465_7).trans rfl))))))
                refine z_icmp_ne C 574 582 dL_isActed_574 (by decide) (fun c574_8 => ?_) (fun c574_8 => ?_)
                · refine z_bipush C 582 (v := 7) dL_isActed_582 (by decide +kernel) ?_
                  exact z_nv (if nI way = 17 then 60 else 7) (((if_neg c574_8).trans rfl)).symm M574_9
                · refine z_bipush C 577 (v := 60) dL_isActed_577 (by decide +kernel) ?_
                  refine z_goto C 579 584 dL_isActed_579 (by decide) ?_
                  exact z_nv (if nI way = 17 then 60 else 7) (((if_pos c574_8).trans rfl)).symm M574_9
              · refine z_iload C 468 9 11 dL_isActed_468 rfl ?_
                refine z_iconst C 470 (v := 4) dL_isActed_470 (by decide +kernel) ?_
                refine z_irem C 471 dL_isActed_471 (by decide) ?_
                refine z_nv (nI (y % 4)) (y4m hy9) ?_
                refine z_istore C 472 12 ([(12, .int (nI (y % 4))), (11, .int (nI (y / 16))), (10, .int (nI (y % 16))), (0, .ref (ad (270))), (1, .ref (ad (271))), (2, .ref (ad (272))), (3, .ref (ad (273))), (4, .ref (ad (274))), (5, .ref (ad (275))), (6, .ref (ad (276))), (7, .ref (ad (277))), (8, .int (nI way)), (9, .int (nI y))]) dL_isActed_472 (by decide) rfl ?_
                refine z_iload C 474 12 0 dL_isActed_474 rfl ?_
                have M476_17 : Zw p l e (zR 7) s m args below meth c D A K n ad 15 Q 526 ([(12, .int (nI (y % 4))), (11, .int (nI (y / 16))), (10, .int (nI (y % 16))), (0, .ref (ad (270))), (1, .ref (ad (271))), (2, .ref (ad (272))), (3, .ref (ad (273))), (4, .ref (ad (274))), (5, .ref (ad (275))), (6, .ref (ad (276))), (7, .ref (ad (277))), (8, .int (nI way)), (9, .int (nI y))]) [.int (lSv y)] t := by
                  refine z_istore C 526 13 ([(13, .int (lSv y)), (12, .int (nI (y % 4))), (11, .int (nI (y / 16))), (10, .int (nI (y % 16))), (0, .ref (ad (270))), (1, .ref (ad (271))), (2, .ref (ad (272))), (3, .ref (ad (273))), (4, .ref (ad (274))), (5, .ref (ad (275))), (6, .ref (ad (276))), (7, .ref (ad (277))), (8, .int (nI way)), (9, .int (nI y))]) dL_isActed_526 (by decide) rfl ?_
                  refine z_aload C 528 7 11 dL_isActed_528 rfl ?_
                  refine z_bipush C 530 (v := 10) dL_isActed_530 (by decide +kernel) ?_
                  refine z_iload C 532 12 1 dL_isActed_532 rfl ?_
                  refine z_iadd C 534 dL_isActed_534 ?_
                  refine z_ialdN C 535 (277) (10 + (y % 4)) dL_isActed_535 hW.h277 hW.e277 (nI_add 10 (y % 4)) (by omega) (by decide) ?_
                  refine z_istore C 536 14 ([(14, .int (t (277) (10 + (y % 4)))), (13, .int (lSv y)), (12, .int (nI (y % 4))), (11, .int (nI (y / 16))), (10, .int (nI (y % 16))), (0, .ref (ad (270))), (1, .ref (ad (271))), (2, .ref (ad (272))), (3, .ref (ad (273))), (4, .ref (ad (274))), (5, .ref (ad (275))), (6, .ref (ad (276))), (7, .ref (ad (277))), (8, .int (nI way)), (9, .int (nI y))]) dL_isActed_536 (by decide) rfl ?_
                  refine z_aload C 538 7 12 dL_isActed_538 rfl ?_
                  refine z_bipush C 540 (v := 10) dL_isActed_540 (by decide +kernel) ?_
                  refine z_iload C 542 12 2 dL_isActed_542 rfl ?_
                  refine z_iadd C 544 dL_isActed_544 ?_
                  refine z_iload C 545 13 1 dL_isActed_545 rfl ?_
                  refine z_iastN C 547 (277) (10 + (y % 4)) dL_isActed_547 hW.h277 hW.e277 (nI_add 10 (y % 4)) (by omega) (by decide) ?_
                  refine z_aload_n C 548 0 5 dL_isActed_548 rfl rfl ?_
                  refine z_iload C 549 12 2 dL_isActed_549 rfl ?_
                  refine z_iload C 551 13 1 dL_isActed_551 rfl ?_
                  refine z_virtISe C hZ 553 (As := [.int (nI (y % 4)), .int (lSv y)]) (st := []) (id := 270) (kX6_set l D cy K n ad hJ hO (zset t (277) (10 + (y % 4)) (lSv y)) (nI (y % 4)) (lSv y) (hG.up (fun x9 hx9 => by simp only [zset_id _ _ _ (show x9 ≠ 271 by omega), zset_id _ _ _ (show x9 ≠ 272 by omega), zset_id _ _ _ (show x9 ≠ 274 by omega), zset_id _ _ _ (show x9 ≠ 277 by omega), sL_read_o _ _ (Or.inl hx9)]))) dL_isActed_553 rfl gL_isActed_X6_set hyX6_set rfl (by decide) (by decide) hO.h0 rfl hO.e0 rfl rfl rfl (Nat.le_of_ble_eq_true rfl) ?_
                  refine z_iload C 556 14 0 dL_isActed_556 rfl ?_
                  refine z_icmp_ne C 558 565 dL_isActed_558 (by decide) (fun c558_19 => ?_) (fun c558_19 => ?_)
                  · refine z_iconst C 565 (v := 0) dL_isActed_565 (by decide +kernel) ?_
                    exact z_zret C 566 hA hQ rfl (Or.inl rfl) dL_isActed_566 ⟨((if_pos c17_1).trans ((if_pos c154_2).trans ((if_pos c222_3).trans ((if_neg c276_4).trans ((if_pos c342_5).trans ((if_pos c465_7).trans ((if_neg c558_19).trans rfl))))))).symm, ((if_pos c17_1).trans ((if_pos c154_2).trans ((if_pos c222_3).trans ((if_neg c276_4).trans ((if_pos c342_5).trans ((if_pos c465_7).trans ((if_neg c558_19).trans rfl))))))).symm⟩
                  · refine z_iconst C 561 (v := 1) dL_isActed_561 (by decide +kernel) ?_
                    refine z_goto C 562 566 dL_isActed_562 (by decide) ?_
                    exact z_zret C 566 hA hQ rfl (Or.inr rfl) dL_isActed_566 ⟨((if_pos c17_1).trans ((if_pos c154_2).trans ((if_pos c222_3).trans ((if_neg c276_4).trans ((if_pos c342_5).trans ((if_pos c465_7).trans ((if_pos c558_19).trans rfl))))))).symm, ((if_pos c17_1).trans ((if_pos c154_2).trans ((if_pos c222_3).trans ((if_neg c276_4).trans ((if_pos c342_5).trans ((if_pos c465_7).trans ((if_pos c558_19).trans rfl))))))).symm⟩
                refine z_if_ne C 476 487 dL_isActed_476 (by decide) (fun c476_14 => ?_) (fun c476_14 => ?_)
                · refine z_iload C 487 12 0 dL_isActed_487 rfl ?_
                  refine z_iconst C 489 (v := 1) dL_isActed_489 (by decide +kernel) ?_
                  refine z_icmp_ne C 490 503 dL_isActed_490 (by decide) (fun c490_15 => ?_) (fun c490_15 => ?_)
                  · refine z_iload C 503 12 0 dL_isActed_503 rfl ?_
                    refine z_iconst C 505 (v := 2) dL_isActed_505 (by decide +kernel) ?_
                    refine z_icmp_ne C 506 519 dL_isActed_506 (by decide) (fun c506_16 => ?_) (fun c506_16 => ?_)
                    · refine z_iconst C 519 (v := 5) dL_isActed_519 (by decide +kernel) ?_
                      refine z_iload C 520 11 1 dL_isActed_520 rfl ?_
                      refine z_bipush C 522 (v := 30) dL_isActed_522 (by decide +kernel) ?_
                      refine z_irem C 524 dL_isActed_524 (by decide) ?_
                      refine z_iadd C 525 dL_isActed_525 ?_
                      exact z_nv (lSv y) (((if_neg c476_14).trans ((if_neg c490_15).trans ((if_neg c506_16).trans rfl)))).symm M476_17
                    · refine z_iconst C 509 (v := 1) dL_isActed_509 (by decide +kernel) ?_
                      refine z_iload C 510 11 1 dL_isActed_510 rfl ?_
                      refine z_bipush C 512 (v := 99) dL_isActed_512 (by decide +kernel) ?_
                      refine z_irem C 514 dL_isActed_514 (by decide) ?_
                      refine z_iadd C 515 dL_isActed_515 ?_
                      refine z_goto C 516 526 dL_isActed_516 (by decide) ?_
                      exact z_nv (lSv y) (((if_neg c476_14).trans ((if_neg c490_15).trans ((if_pos c506_16).trans rfl)))).symm M476_17
                  · refine z_iconst C 493 (v := 1) dL_isActed_493 (by decide +kernel) ?_
                    refine z_iload C 494 11 1 dL_isActed_494 rfl ?_
                    refine z_bipush C 496 (v := 50) dL_isActed_496 (by decide +kernel) ?_
                    refine z_irem C 498 dL_isActed_498 (by decide) ?_
                    refine z_iadd C 499 dL_isActed_499 ?_
                    refine z_goto C 500 526 dL_isActed_500 (by decide) ?_
                    exact z_nv (lSv y) (((if_neg c476_14).trans ((if_pos c490_15).trans rfl))).symm M476_17
                · refine z_iload C 479 11 1 dL_isActed_479 rfl ?_
                  refine z_bipush C 481 (v := 6) dL_isActed_481 (by decide +kernel) ?_
                  refine z_irem C 483 dL_isActed_483 (by decide) ?_
                  refine z_goto C 484 526 dL_isActed_484 (by decide) ?_
                  exact z_nv (lSv y) (((if_pos c476_14).trans rfl)).symm M476_17
            · exact absurd c154_2 c396_6
          · refine z_aload_n C 345 2 4 dL_isActed_345 rfl rfl ?_
            refine z_aload C 346 7 9 dL_isActed_346 rfl ?_
            refine z_iload C 348 10 1 dL_isActed_348 rfl ?_
            refine z_statIe C 350 (As := [.ref (ad (272)), .ref (ad (277)), .int (nI (y % 16))]) (st := []) (kL_why l D cy K n ad hJ t (y % 16) hW hy16) dL_isActed_350 rfl gL_isActed_L_why hyL_why rfl (by decide) (by decide) rfl rfl (Nat.le_of_ble_eq_true rfl) ?_
            refine z_if_le C 353 361 dL_isActed_353 (by decide) (fun c353_21 => ?_) (fun c353_21 => ?_)
            · refine z_aload_n C 361 1 3 dL_isActed_361 rfl rfl ?_
              refine z_aload_n C 362 2 4 dL_isActed_362 rfl rfl ?_
              refine z_aload_n C 363 3 5 dL_isActed_363 rfl rfl ?_
              refine z_aload C 364 6 8 dL_isActed_364 rfl ?_
              refine z_aload C 366 7 9 dL_isActed_366 rfl ?_
              refine z_iload C 368 10 1 dL_isActed_368 rfl ?_
              refine z_statIe C 370 (As := [.ref (ad (271)), .ref (ad (272)), .ref (ad (273)), .ref (ad (276)), .ref (ad (277)), .int (nI (y % 16))]) (st := []) (kL_read l D cy K n ad hJ t (y % 16) hW hy16) dL_isActed_370 rfl gL_isActed_L_read hyL_read rfl (by decide) (by decide) rfl rfl (Nat.le_of_ble_eq_true rfl) ?_
              refine z_istore C 373 12 ([(12, .int (rL_read t (y % 16))), (11, .int (nI (y / 16))), (10, .int (nI (y % 16))), (0, .ref (ad (270))), (1, .ref (ad (271))), (2, .ref (ad (272))), (3, .ref (ad (273))), (4, .ref (ad (274))), (5, .ref (ad (275))), (6, .ref (ad (276))), (7, .ref (ad (277))), (8, .int (nI way)), (9, .int (nI y))]) dL_isActed_373 (by decide) rfl ?_
              refine z_aload_n C 375 0 3 dL_isActed_375 rfl rfl ?_
              refine z_iload C 376 10 2 dL_isActed_376 rfl ?_
              refine z_virtIe C 378 (As := [.int (nI (y % 16))]) (st := []) (id := 270) (kX6_read l D cy K n ad hJ hO (sL_read t (y % 16)) (nI (y % 16)) (hG.up (fun x9 hx9 => by simp only [zset_id _ _ _ (show x9 ≠ 271 by omega), zset_id _ _ _ (show x9 ≠ 272 by omega), zset_id _ _ _ (show x9 ≠ 274 by omega), zset_id _ _ _ (show x9 ≠ 277 by omega), sL_read_o _ _ (Or.inl hx9)]))) dL_isActed_378 rfl gL_isActed_X6_read hyX6_read rfl (by decide) (by decide) hO.h0 rfl hO.e0 rfl rfl rfl (Nat.le_of_ble_eq_true rfl) ?_
              refine z_iload C 381 12 0 dL_isActed_381 rfl ?_
              refine z_icmp_ne C 383 390 dL_isActed_383 (by decide) (fun c383_24 => ?_) (fun c383_24 => ?_)
              · refine z_iconst C 390 (v := 0) dL_isActed_390 (by decide +kernel) ?_
                exact z_zret C 391 hA hQ rfl (Or.inl rfl) dL_isActed_391 ⟨((if_pos c17_1).trans ((if_pos c154_2).trans ((if_pos c222_3).trans ((if_neg c276_4).trans ((if_neg c342_5).trans ((if_pos c353_21).trans ((if_neg c383_24).trans rfl))))))).symm, ((if_pos c17_1).trans ((if_pos c154_2).trans ((if_pos c222_3).trans ((if_neg c276_4).trans ((if_neg c342_5).trans ((if_pos c353_21).trans ((if_neg c383_24).trans rfl))))))).symm⟩
              · refine z_iconst C 386 (v := 1) dL_isActed_386 (by decide +kernel) ?_
                refine z_goto C 387 391 dL_isActed_387 (by decide) ?_
                exact z_zret C 391 hA hQ rfl (Or.inr rfl) dL_isActed_391 ⟨((if_pos c17_1).trans ((if_pos c154_2).trans ((if_pos c222_3).trans ((if_neg c276_4).trans ((if_neg c342_5).trans ((if_pos c353_21).trans ((if_pos c383_24).trans rfl))))))).symm, ((if_pos c17_1).trans ((if_pos c154_2).trans ((if_pos c222_3).trans ((if_neg c276_4).trans ((if_neg c342_5).trans ((if_pos c353_21).trans ((if_pos c383_24).trans rfl))))))).symm⟩
            · refine z_ldc C 356 (v := (-1000002)) dL_isActed_356 mL_isActed_c67 ?_
              refine z_goto C 358 373 dL_isActed_358 (by decide) ?_
              refine z_istore C 373 12 ([(12, .int (-1000002)), (11, .int (nI (y / 16))), (10, .int (nI (y % 16))), (0, .ref (ad (270))), (1, .ref (ad (271))), (2, .ref (ad (272))), (3, .ref (ad (273))), (4, .ref (ad (274))), (5, .ref (ad (275))), (6, .ref (ad (276))), (7, .ref (ad (277))), (8, .int (nI way)), (9, .int (nI y))]) dL_isActed_373 (by decide) rfl ?_
              refine z_aload_n C 375 0 3 dL_isActed_375 rfl rfl ?_
              refine z_iload C 376 10 2 dL_isActed_376 rfl ?_
              refine z_virtIe C 378 (As := [.int (nI (y % 16))]) (st := []) (id := 270) (kX6_read l D cy K n ad hJ hO t (nI (y % 16)) hG) dL_isActed_378 rfl gL_isActed_X6_read hyX6_read rfl (by decide) (by decide) hO.h0 rfl hO.e0 rfl rfl rfl (Nat.le_of_ble_eq_true rfl) ?_
              refine z_iload C 381 12 0 dL_isActed_381 rfl ?_
              refine z_icmp_ne C 383 390 dL_isActed_383 (by decide) (fun c383_26 => ?_) (fun c383_26 => ?_)
              · refine z_iconst C 390 (v := 0) dL_isActed_390 (by decide +kernel) ?_
                exact z_zret C 391 hA hQ rfl (Or.inl rfl) dL_isActed_391 ⟨((if_pos c17_1).trans ((if_pos c154_2).trans ((if_pos c222_3).trans ((if_neg c276_4).trans ((if_neg c342_5).trans ((if_neg c353_21).trans ((if_neg c383_26).trans rfl))))))).symm, ((if_pos c17_1).trans ((if_pos c154_2).trans ((if_pos c222_3).trans ((if_neg c276_4).trans ((if_neg c342_5).trans ((if_neg c353_21).trans ((if_neg c383_26).trans rfl))))))).symm⟩
              · refine z_iconst C 386 (v := 1) dL_isActed_386 (by decide +kernel) ?_
                refine z_goto C 387 391 dL_isActed_387 (by decide) ?_
                exact z_zret C 391 hA hQ rfl (Or.inr rfl) dL_isActed_391 ⟨((if_pos c17_1).trans ((if_pos c154_2).trans ((if_pos c222_3).trans ((if_neg c276_4).trans ((if_neg c342_5).trans ((if_neg c353_21).trans ((if_pos c383_26).trans rfl))))))).symm, ((if_pos c17_1).trans ((if_pos c154_2).trans ((if_pos c222_3).trans ((if_neg c276_4).trans ((if_neg c342_5).trans ((if_neg c353_21).trans ((if_pos c383_26).trans rfl))))))).symm⟩
        · refine z_aload_n C 279 2 4 dL_isActed_279 rfl rfl ?_
          refine z_iconst C 280 (v := 4) dL_isActed_280 (by decide +kernel) ?_
          refine z_iload C 281 10 1 dL_isActed_281 rfl ?_
          refine z_imul C 283 dL_isActed_283 ?_
          refine z_iconst C 284 (v := 2) dL_isActed_284 (by decide +kernel) ?_
          refine z_iadd C 285 dL_isActed_285 ?_
          refine z_ialdN C 286 (272) (4 * (y % 16) + 2) dL_isActed_286 hW.h272 hW.e272 (lx4 (y % 16) 2) (by omega) (by decide) ?_
          refine z_istore C 287 12 ([(12, .int (t (272) (4 * (y % 16) + 2))), (11, .int (nI (y / 16))), (10, .int (nI (y % 16))), (0, .ref (ad (270))), (1, .ref (ad (271))), (2, .ref (ad (272))), (3, .ref (ad (273))), (4, .ref (ad (274))), (5, .ref (ad (275))), (6, .ref (ad (276))), (7, .ref (ad (277))), (8, .int (nI way)), (9, .int (nI y))]) dL_isActed_287 (by decide) rfl ?_
          refine z_aload_n C 289 2 5 dL_isActed_289 rfl rfl ?_
          refine z_iconst C 290 (v := 4) dL_isActed_290 (by decide +kernel) ?_
          refine z_iload C 291 10 2 dL_isActed_291 rfl ?_
          refine z_imul C 293 dL_isActed_293 ?_
          refine z_iconst C 294 (v := 2) dL_isActed_294 (by decide +kernel) ?_
          refine z_iadd C 295 dL_isActed_295 ?_
          refine z_iload C 296 11 1 dL_isActed_296 rfl ?_
          refine z_iconst C 298 (v := 3) dL_isActed_298 (by decide +kernel) ?_
          refine z_irem C 299 dL_isActed_299 (by decide) ?_
          have M300_28 : Zw p l e (zR 7) s m args below meth c D A K n ad 15 Q 308 ([(12, .int (t (272) (4 * (y % 16) + 2))), (11, .int (nI (y / 16))), (10, .int (nI (y % 16))), (0, .ref (ad (270))), (1, .ref (ad (271))), (2, .ref (ad (272))), (3, .ref (ad (273))), (4, .ref (ad (274))), (5, .ref (ad (275))), (6, .ref (ad (276))), (7, .ref (ad (277))), (8, .int (nI way)), (9, .int (nI y))]) [.int (lLo y), .int ((4 * nI (y % 16)) + 2), .ref (ad (272))] t := by
            refine z_iastN C 308 (272) (4 * (y % 16) + 2) dL_isActed_308 hW.h272 hW.e272 (lx4 (y % 16) 2) (by omega) (by decide) ?_
            refine z_aload_n C 309 0 3 dL_isActed_309 rfl rfl ?_
            refine z_iload C 310 10 2 dL_isActed_310 rfl ?_
            refine z_iload C 312 11 1 dL_isActed_312 rfl ?_
            refine z_iconst C 314 (v := 3) dL_isActed_314 (by decide +kernel) ?_
            refine z_irem C 315 dL_isActed_315 (by decide) ?_
            have M316_30 : Zw p l e (zR 7) s m args below meth c D A K n ad 15 Q 324 ([(12, .int (t (272) (4 * (y % 16) + 2))), (11, .int (nI (y / 16))), (10, .int (nI (y % 16))), (0, .ref (ad (270))), (1, .ref (ad (271))), (2, .ref (ad (272))), (3, .ref (ad (273))), (4, .ref (ad (274))), (5, .ref (ad (275))), (6, .ref (ad (276))), (7, .ref (ad (277))), (8, .int (nI way)), (9, .int (nI y))]) [.int (lLo y), .int (nI (y % 16)), .ref (ad (270))] (zset t (272) (4 * (y % 16) + 2) (lLo y)) := by
              refine z_virtIe C 324 (As := [.int (nI (y % 16)), .int (lLo y)]) (st := []) (id := 270) (kX6_lock l D cy K n ad hJ hO (zset t (272) (4 * (y % 16) + 2) (lLo y)) (nI (y % 16)) (lLo y) (hG.up (fun x9 hx9 => by simp only [zset_id _ _ _ (show x9 ≠ 271 by omega), zset_id _ _ _ (show x9 ≠ 272 by omega), zset_id _ _ _ (show x9 ≠ 274 by omega), zset_id _ _ _ (show x9 ≠ 277 by omega), sL_read_o _ _ (Or.inl hx9)])) ite01) dL_isActed_324 rfl gL_isActed_X6_lock hyX6_lock rfl (by decide) (by decide) hO.h0 rfl hO.e0 rfl rfl rfl (Nat.le_of_ble_eq_true rfl) ?_
              refine z_iload C 327 12 0 dL_isActed_327 rfl ?_
              refine z_icmp_ne C 329 336 dL_isActed_329 (by decide) (fun c329_32 => ?_) (fun c329_32 => ?_)
              · refine z_iconst C 336 (v := 0) dL_isActed_336 (by decide +kernel) ?_
                exact z_zret C 337 hA hQ rfl (Or.inl rfl) dL_isActed_337 ⟨((if_pos c17_1).trans ((if_pos c154_2).trans ((if_pos c222_3).trans ((if_pos c276_4).trans ((if_neg c329_32).trans rfl))))).symm, ((if_pos c17_1).trans ((if_pos c154_2).trans ((if_pos c222_3).trans ((if_pos c276_4).trans ((if_neg c329_32).trans rfl))))).symm⟩
              · refine z_iconst C 332 (v := 1) dL_isActed_332 (by decide +kernel) ?_
                refine z_goto C 333 337 dL_isActed_333 (by decide) ?_
                exact z_zret C 337 hA hQ rfl (Or.inr rfl) dL_isActed_337 ⟨((if_pos c17_1).trans ((if_pos c154_2).trans ((if_pos c222_3).trans ((if_pos c276_4).trans ((if_pos c329_32).trans rfl))))).symm, ((if_pos c17_1).trans ((if_pos c154_2).trans ((if_pos c222_3).trans ((if_pos c276_4).trans ((if_pos c329_32).trans rfl))))).symm⟩
            refine z_if_ne C 316 323 dL_isActed_316 (by decide) (fun c316_29 => ?_) (fun c316_29 => ?_)
            · refine z_iconst C 323 (v := 0) dL_isActed_323 (by decide +kernel) ?_
              exact z_nv (lLo y) (((if_neg c316_29).trans rfl)).symm M316_30
            · refine z_iconst C 319 (v := 1) dL_isActed_319 (by decide +kernel) ?_
              refine z_goto C 320 324 dL_isActed_320 (by decide) ?_
              exact z_nv (lLo y) (((if_pos c316_29).trans rfl)).symm M316_30
          refine z_if_ne C 300 307 dL_isActed_300 (by decide) (fun c300_27 => ?_) (fun c300_27 => ?_)
          · refine z_iconst C 307 (v := 0) dL_isActed_307 (by decide +kernel) ?_
            exact z_nv (lLo y) (((if_neg c300_27).trans rfl)).symm M300_28
          · refine z_iconst C 303 (v := 1) dL_isActed_303 (by decide +kernel) ?_
            refine z_goto C 304 308 dL_isActed_304 (by decide) ?_
            exact z_nv (lLo y) (((if_pos c300_27).trans rfl)).symm M300_28
      · refine z_aload_n C 225 2 4 dL_isActed_225 rfl rfl ?_
        refine z_iconst C 226 (v := 4) dL_isActed_226 (by decide +kernel) ?_
        refine z_iload C 227 10 1 dL_isActed_227 rfl ?_
        refine z_imul C 229 dL_isActed_229 ?_
        refine z_iconst C 230 (v := 1) dL_isActed_230 (by decide +kernel) ?_
        refine z_iadd C 231 dL_isActed_231 ?_
        refine z_ialdN C 232 (272) (4 * (y % 16) + 1) dL_isActed_232 hW.h272 hW.e272 (lx4 (y % 16) 1) (by omega) (by decide) ?_
        refine z_istore C 233 12 ([(12, .int (t (272) (4 * (y % 16) + 1))), (11, .int (nI (y / 16))), (10, .int (nI (y % 16))), (0, .ref (ad (270))), (1, .ref (ad (271))), (2, .ref (ad (272))), (3, .ref (ad (273))), (4, .ref (ad (274))), (5, .ref (ad (275))), (6, .ref (ad (276))), (7, .ref (ad (277))), (8, .int (nI way)), (9, .int (nI y))]) dL_isActed_233 (by decide) rfl ?_
        refine z_aload_n C 235 2 5 dL_isActed_235 rfl rfl ?_
        refine z_iconst C 236 (v := 4) dL_isActed_236 (by decide +kernel) ?_
        refine z_iload C 237 10 2 dL_isActed_237 rfl ?_
        refine z_imul C 239 dL_isActed_239 ?_
        refine z_iconst C 240 (v := 1) dL_isActed_240 (by decide +kernel) ?_
        refine z_iadd C 241 dL_isActed_241 ?_
        refine z_iload C 242 11 1 dL_isActed_242 rfl ?_
        refine z_sipush C 244 (v := 1000) dL_isActed_244 (by decide +kernel) ?_
        refine z_irem C 247 dL_isActed_247 (by decide) ?_
        refine z_iastN C 248 (272) (4 * (y % 16) + 1) dL_isActed_248 hW.h272 hW.e272 (lx4 (y % 16) 1) (by omega) (by decide) ?_
        refine z_aload_n C 249 0 3 dL_isActed_249 rfl rfl ?_
        refine z_iload C 250 10 2 dL_isActed_250 rfl ?_
        refine z_iload C 252 11 1 dL_isActed_252 rfl ?_
        refine z_sipush C 254 (v := 1000) dL_isActed_254 (by decide +kernel) ?_
        refine z_irem C 257 dL_isActed_257 (by decide) ?_
        refine z_virtIe C 258 (As := [.int (nI (y % 16)), .int (zrem (nI (y / 16)) 1000)]) (st := []) (id := 270) (kX6_flow l D cy K n ad hJ hO (zset t (272) (4 * (y % 16) + 1) (zrem (nI (y / 16)) 1000)) (nI (y % 16)) (zrem (nI (y / 16)) 1000) (hG.up (fun x9 hx9 => by simp only [zset_id _ _ _ (show x9 ≠ 271 by omega), zset_id _ _ _ (show x9 ≠ 272 by omega), zset_id _ _ _ (show x9 ≠ 274 by omega), zset_id _ _ _ (show x9 ≠ 277 by omega), sL_read_o _ _ (Or.inl hx9)]))) dL_isActed_258 rfl gL_isActed_X6_flow hyX6_flow rfl (by decide) (by decide) hO.h0 rfl hO.e0 rfl rfl rfl (Nat.le_of_ble_eq_true rfl) ?_
        refine z_iload C 261 12 0 dL_isActed_261 rfl ?_
        refine z_icmp_ne C 263 270 dL_isActed_263 (by decide) (fun c263_34 => ?_) (fun c263_34 => ?_)
        · refine z_iconst C 270 (v := 0) dL_isActed_270 (by decide +kernel) ?_
          exact z_zret C 271 hA hQ rfl (Or.inl rfl) dL_isActed_271 ⟨((if_pos c17_1).trans ((if_pos c154_2).trans ((if_neg c222_3).trans ((if_neg c263_34).trans rfl)))).symm, ((if_pos c17_1).trans ((if_pos c154_2).trans ((if_neg c222_3).trans ((if_neg c263_34).trans rfl)))).symm⟩
        · refine z_iconst C 266 (v := 1) dL_isActed_266 (by decide +kernel) ?_
          refine z_goto C 267 271 dL_isActed_267 (by decide) ?_
          exact z_zret C 271 hA hQ rfl (Or.inr rfl) dL_isActed_271 ⟨((if_pos c17_1).trans ((if_pos c154_2).trans ((if_neg c222_3).trans ((if_pos c263_34).trans rfl)))).symm, ((if_pos c17_1).trans ((if_pos c154_2).trans ((if_neg c222_3).trans ((if_pos c263_34).trans rfl)))).symm⟩
    · refine z_iload C 157 10 1 dL_isActed_157 rfl ?_
      refine z_aload C 159 7 9 dL_isActed_159 rfl ?_
      refine z_iconst C 161 (v := 1) dL_isActed_161 (by decide +kernel) ?_
      refine z_ialdN C 162 (277) 1 dL_isActed_162 hW.h277 hW.e277 rfl (by decide) (by decide) ?_
      refine z_icmp_lt C 163 218 dL_isActed_163 (by decide) (fun c163_35 => ?_) (fun c163_35 => ?_)
      · refine z_iload C 218 8 10 dL_isActed_218 rfl ?_
        refine z_bipush C 220 (v := 9) dL_isActed_220 (by decide +kernel) ?_
        refine z_icmp_ge C 222 272 dL_isActed_222 (by decide) (fun c222_36 => ?_) (fun c222_36 => ?_)
        · refine z_iload C 272 8 10 dL_isActed_272 rfl ?_
          refine z_bipush C 274 (v := 9) dL_isActed_274 (by decide +kernel) ?_
          refine z_icmp_ne C 276 338 dL_isActed_276 (by decide) (fun c276_37 => ?_) (fun c276_37 => ?_)
          · refine z_iload C 338 8 10 dL_isActed_338 rfl ?_
            refine z_bipush C 340 (v := 14) dL_isActed_340 (by decide +kernel) ?_
            refine z_icmp_ge C 342 392 dL_isActed_342 (by decide) (fun c342_38 => ?_) (fun c342_38 => ?_)
            · refine z_iload C 392 8 10 dL_isActed_392 rfl ?_
              refine z_bipush C 394 (v := 16) dL_isActed_394 (by decide +kernel) ?_
              refine z_icmp_ge C 396 461 dL_isActed_396 (by decide) (fun c396_39 => ?_) (fun c396_39 => ?_)
              · exact absurd c396_39 c154_2
              · refine z_aload_n C 399 1 3 dL_isActed_399 rfl rfl ?_
                refine z_aload_n C 400 2 4 dL_isActed_400 rfl rfl ?_
                refine z_aload_n C 401 3 5 dL_isActed_401 rfl rfl ?_
                refine z_aload C 402 6 8 dL_isActed_402 rfl ?_
                refine z_aload C 404 7 9 dL_isActed_404 rfl ?_
                refine z_iload C 406 10 1 dL_isActed_406 rfl ?_
                refine z_statIe C 408 (As := [.ref (ad (271)), .ref (ad (272)), .ref (ad (273)), .ref (ad (276)), .ref (ad (277)), .int (nI (y % 16))]) (st := []) (kL_read l D cy K n ad hJ t (y % 16) hW hy16) dL_isActed_408 rfl gL_isActed_L_read hyL_read rfl (by decide) (by decide) rfl rfl (Nat.le_of_ble_eq_true rfl) ?_
                refine z_istore C 411 12 ([(12, .int (rL_read t (y % 16))), (11, .int (nI (y / 16))), (10, .int (nI (y % 16))), (0, .ref (ad (270))), (1, .ref (ad (271))), (2, .ref (ad (272))), (3, .ref (ad (273))), (4, .ref (ad (274))), (5, .ref (ad (275))), (6, .ref (ad (276))), (7, .ref (ad (277))), (8, .int (nI way)), (9, .int (nI y))]) dL_isActed_411 (by decide) rfl ?_
                refine z_aload_n C 413 1 4 dL_isActed_413 rfl rfl ?_
                refine z_iconst C 414 (v := 4) dL_isActed_414 (by decide +kernel) ?_
                refine z_iload C 415 10 2 dL_isActed_415 rfl ?_
                refine z_imul C 417 dL_isActed_417 ?_
                refine z_iconst C 418 (v := 2) dL_isActed_418 (by decide +kernel) ?_
                refine z_iadd C 419 dL_isActed_419 ?_
                refine z_iconst C 420 (v := 0) dL_isActed_420 (by decide +kernel) ?_
                refine z_iastN C 421 (271) (4 * (y % 16) + 2) dL_isActed_421 hW.h271 hW.e271 (lx4 (y % 16) 2) (by omega) (by decide) ?_
                refine z_aload_n C 422 1 4 dL_isActed_422 rfl rfl ?_
                refine z_iconst C 423 (v := 4) dL_isActed_423 (by decide +kernel) ?_
                refine z_iload C 424 10 2 dL_isActed_424 rfl ?_
                refine z_imul C 426 dL_isActed_426 ?_
                refine z_iconst C 427 (v := 3) dL_isActed_427 (by decide +kernel) ?_
                refine z_iadd C 428 dL_isActed_428 ?_
                refine z_iconst C 429 (v := 0) dL_isActed_429 (by decide +kernel) ?_
                refine z_iastN C 430 (271) (4 * (y % 16) + 3) dL_isActed_430 hW.h271 hW.e271 (lx4 (y % 16) 3) (by omega) (by decide) ?_
                refine z_aload C 431 4 7 dL_isActed_431 rfl ?_
                refine z_iconst C 433 (v := 2) dL_isActed_433 (by decide +kernel) ?_
                refine z_iload C 434 10 2 dL_isActed_434 rfl ?_
                refine z_imul C 436 dL_isActed_436 ?_
                refine z_iconst C 437 (v := 1) dL_isActed_437 (by decide +kernel) ?_
                refine z_iadd C 438 dL_isActed_438 ?_
                refine z_dup2 C 439 dL_isActed_439 rfl rfl ?_
                refine z_ialdN C 440 (274) (2 * (y % 16) + 1) dL_isActed_440 hW.h274 hW.e274 (lx2 (y % 16) 1) (by omega) (by decide) ?_
                refine z_nv (t (274) (2 * (y % 16) + 1)) ((zset_idk _ _ _ _ (by decide)).trans ((zset_idk _ _ _ _ (by decide)).trans (congrFun (sL_read_o _ _ (by decide)) (2 * (y % 16) + 1)))) ?_
                refine z_iconst C 441 (v := 1) dL_isActed_441 (by decide +kernel) ?_
                refine z_iadd C 442 dL_isActed_442 ?_
                refine z_iastN C 443 (274) (2 * (y % 16) + 1) dL_isActed_443 hW.h274 hW.e274 (lx2 (y % 16) 1) (by omega) (by decide) ?_
                refine z_aload_n C 444 0 3 dL_isActed_444 rfl rfl ?_
                refine z_iload C 445 10 2 dL_isActed_445 rfl ?_
                refine z_virtIe C 447 (As := [.int (nI (y % 16))]) (st := []) (id := 270) (kX6_change l D cy K n ad hJ hO (zset (zset (zset (sL_read t (y % 16)) (271) (4 * (y % 16) + 2) 0) (271) (4 * (y % 16) + 3) 0) (274) (2 * (y % 16) + 1) ((t (274) (2 * (y % 16) + 1)) + 1)) (nI (y % 16)) (hG.up (fun x9 hx9 => by simp only [zset_id _ _ _ (show x9 ≠ 271 by omega), zset_id _ _ _ (show x9 ≠ 272 by omega), zset_id _ _ _ (show x9 ≠ 274 by omega), zset_id _ _ _ (show x9 ≠ 277 by omega), sL_read_o _ _ (Or.inl hx9)]))) dL_isActed_447 rfl gL_isActed_X6_change hyX6_change rfl (by decide) (by decide) hO.h0 rfl hO.e0 rfl rfl rfl (Nat.le_of_ble_eq_true rfl) ?_
                refine z_iload C 450 12 0 dL_isActed_450 rfl ?_
                refine z_icmp_ne C 452 459 dL_isActed_452 (by decide) (fun c452_42 => ?_) (fun c452_42 => ?_)
                · refine z_iconst C 459 (v := 0) dL_isActed_459 (by decide +kernel) ?_
                  exact z_zret C 460 hA hQ rfl (Or.inl rfl) dL_isActed_460 ⟨((if_pos c17_1).trans ((if_neg c154_2).trans ((if_pos c163_35).trans ((if_pos c222_36).trans ((if_neg c276_37).trans ((if_pos c342_38).trans ((if_neg c452_42).trans rfl))))))).symm, ((if_pos c17_1).trans ((if_neg c154_2).trans ((if_pos c163_35).trans ((if_pos c222_36).trans ((if_neg c276_37).trans ((if_pos c342_38).trans ((if_neg c452_42).trans rfl))))))).symm⟩
                · refine z_iconst C 455 (v := 1) dL_isActed_455 (by decide +kernel) ?_
                  refine z_goto C 456 460 dL_isActed_456 (by decide) ?_
                  exact z_zret C 460 hA hQ rfl (Or.inr rfl) dL_isActed_460 ⟨((if_pos c17_1).trans ((if_neg c154_2).trans ((if_pos c163_35).trans ((if_pos c222_36).trans ((if_neg c276_37).trans ((if_pos c342_38).trans ((if_pos c452_42).trans rfl))))))).symm, ((if_pos c17_1).trans ((if_neg c154_2).trans ((if_pos c163_35).trans ((if_pos c222_36).trans ((if_neg c276_37).trans ((if_pos c342_38).trans ((if_pos c452_42).trans rfl))))))).symm⟩
            · refine z_aload_n C 345 2 4 dL_isActed_345 rfl rfl ?_
              refine z_aload C 346 7 9 dL_isActed_346 rfl ?_
              refine z_iload C 348 10 1 dL_isActed_348 rfl ?_
              refine z_statIe C 350 (As := [.ref (ad (272)), .ref (ad (277)), .int (nI (y % 16))]) (st := []) (kL_why l D cy K n ad hJ t (y % 16) hW hy16) dL_isActed_350 rfl gL_isActed_L_why hyL_why rfl (by decide) (by decide) rfl rfl (Nat.le_of_ble_eq_true rfl) ?_
              refine z_if_le C 353 361 dL_isActed_353 (by decide) (fun c353_44 => ?_) (fun c353_44 => ?_)
              · refine z_aload_n C 361 1 3 dL_isActed_361 rfl rfl ?_
                refine z_aload_n C 362 2 4 dL_isActed_362 rfl rfl ?_
                refine z_aload_n C 363 3 5 dL_isActed_363 rfl rfl ?_
                refine z_aload C 364 6 8 dL_isActed_364 rfl ?_
                refine z_aload C 366 7 9 dL_isActed_366 rfl ?_
                refine z_iload C 368 10 1 dL_isActed_368 rfl ?_
                refine z_statIe C 370 (As := [.ref (ad (271)), .ref (ad (272)), .ref (ad (273)), .ref (ad (276)), .ref (ad (277)), .int (nI (y % 16))]) (st := []) (kL_read l D cy K n ad hJ t (y % 16) hW hy16) dL_isActed_370 rfl gL_isActed_L_read hyL_read rfl (by decide) (by decide) rfl rfl (Nat.le_of_ble_eq_true rfl) ?_
                refine z_istore C 373 12 ([(12, .int (rL_read t (y % 16))), (11, .int (nI (y / 16))), (10, .int (nI (y % 16))), (0, .ref (ad (270))), (1, .ref (ad (271))), (2, .ref (ad (272))), (3, .ref (ad (273))), (4, .ref (ad (274))), (5, .ref (ad (275))), (6, .ref (ad (276))), (7, .ref (ad (277))), (8, .int (nI way)), (9, .int (nI y))]) dL_isActed_373 (by decide) rfl ?_
                refine z_aload_n C 375 0 3 dL_isActed_375 rfl rfl ?_
                refine z_iload C 376 10 2 dL_isActed_376 rfl ?_
                refine z_virtIe C 378 (As := [.int (nI (y % 16))]) (st := []) (id := 270) (kX6_read l D cy K n ad hJ hO (sL_read t (y % 16)) (nI (y % 16)) (hG.up (fun x9 hx9 => by simp only [zset_id _ _ _ (show x9 ≠ 271 by omega), zset_id _ _ _ (show x9 ≠ 272 by omega), zset_id _ _ _ (show x9 ≠ 274 by omega), zset_id _ _ _ (show x9 ≠ 277 by omega), sL_read_o _ _ (Or.inl hx9)]))) dL_isActed_378 rfl gL_isActed_X6_read hyX6_read rfl (by decide) (by decide) hO.h0 rfl hO.e0 rfl rfl rfl (Nat.le_of_ble_eq_true rfl) ?_
                refine z_iload C 381 12 0 dL_isActed_381 rfl ?_
                refine z_icmp_ne C 383 390 dL_isActed_383 (by decide) (fun c383_47 => ?_) (fun c383_47 => ?_)
                · refine z_iconst C 390 (v := 0) dL_isActed_390 (by decide +kernel) ?_
                  exact z_zret C 391 hA hQ rfl (Or.inl rfl) dL_isActed_391 ⟨((if_pos c17_1).trans ((if_neg c154_2).trans ((if_pos c163_35).trans ((if_pos c222_36).trans ((if_neg c276_37).trans ((if_neg c342_38).trans ((if_pos c353_44).trans ((if_neg c383_47).trans rfl)))))))).symm, ((if_pos c17_1).trans ((if_neg c154_2).trans ((if_pos c163_35).trans ((if_pos c222_36).trans ((if_neg c276_37).trans ((if_neg c342_38).trans ((if_pos c353_44).trans ((if_neg c383_47).trans rfl)))))))).symm⟩
                · refine z_iconst C 386 (v := 1) dL_isActed_386 (by decide +kernel) ?_
                  refine z_goto C 387 391 dL_isActed_387 (by decide) ?_
                  exact z_zret C 391 hA hQ rfl (Or.inr rfl) dL_isActed_391 ⟨((if_pos c17_1).trans ((if_neg c154_2).trans ((if_pos c163_35).trans ((if_pos c222_36).trans ((if_neg c276_37).trans ((if_neg c342_38).trans ((if_pos c353_44).trans ((if_pos c383_47).trans rfl)))))))).symm, ((if_pos c17_1).trans ((if_neg c154_2).trans ((if_pos c163_35).trans ((if_pos c222_36).trans ((if_neg c276_37).trans ((if_neg c342_38).trans ((if_pos c353_44).trans ((if_pos c383_47).trans rfl)))))))).symm⟩
              · refine z_ldc C 356 (v := (-1000002)) dL_isActed_356 mL_isActed_c67 ?_
                refine z_goto C 358 373 dL_isActed_358 (by decide) ?_
                refine z_istore C 373 12 ([(12, .int (-1000002)), (11, .int (nI (y / 16))), (10, .int (nI (y % 16))), (0, .ref (ad (270))), (1, .ref (ad (271))), (2, .ref (ad (272))), (3, .ref (ad (273))), (4, .ref (ad (274))), (5, .ref (ad (275))), (6, .ref (ad (276))), (7, .ref (ad (277))), (8, .int (nI way)), (9, .int (nI y))]) dL_isActed_373 (by decide) rfl ?_
                refine z_aload_n C 375 0 3 dL_isActed_375 rfl rfl ?_
                refine z_iload C 376 10 2 dL_isActed_376 rfl ?_
                refine z_virtIe C 378 (As := [.int (nI (y % 16))]) (st := []) (id := 270) (kX6_read l D cy K n ad hJ hO t (nI (y % 16)) hG) dL_isActed_378 rfl gL_isActed_X6_read hyX6_read rfl (by decide) (by decide) hO.h0 rfl hO.e0 rfl rfl rfl (Nat.le_of_ble_eq_true rfl) ?_
                refine z_iload C 381 12 0 dL_isActed_381 rfl ?_
                refine z_icmp_ne C 383 390 dL_isActed_383 (by decide) (fun c383_49 => ?_) (fun c383_49 => ?_)
                · refine z_iconst C 390 (v := 0) dL_isActed_390 (by decide +kernel) ?_
                  exact z_zret C 391 hA hQ rfl (Or.inl rfl) dL_isActed_391 ⟨((if_pos c17_1).trans ((if_neg c154_2).trans ((if_pos c163_35).trans ((if_pos c222_36).trans ((if_neg c276_37).trans ((if_neg c342_38).trans ((if_neg c353_44).trans ((if_neg c383_49).trans rfl)))))))).symm, ((if_pos c17_1).trans ((if_neg c154_2).trans ((if_pos c163_35).trans ((if_pos c222_36).trans ((if_neg c276_37).trans ((if_neg c342_38).trans ((if_neg c353_44).trans ((if_neg c383_49).trans rfl)))))))).symm⟩
                · refine z_iconst C 386 (v := 1) dL_isActed_386 (by decide +kernel) ?_
                  refine z_goto C 387 391 dL_isActed_387 (by decide) ?_
                  exact z_zret C 391 hA hQ rfl (Or.inr rfl) dL_isActed_391 ⟨((if_pos c17_1).trans ((if_neg c154_2).trans ((if_pos c163_35).trans ((if_pos c222_36).trans ((if_neg c276_37).trans ((if_neg c342_38).trans ((if_neg c353_44).trans ((if_pos c383_49).trans rfl)))))))).symm, ((if_pos c17_1).trans ((if_neg c154_2).trans ((if_pos c163_35).trans ((if_pos c222_36).trans ((if_neg c276_37).trans ((if_neg c342_38).trans ((if_neg c353_44).trans ((if_pos c383_49).trans rfl)))))))).symm⟩
          · refine z_aload_n C 279 2 4 dL_isActed_279 rfl rfl ?_
            refine z_iconst C 280 (v := 4) dL_isActed_280 (by decide +kernel) ?_
            refine z_iload C 281 10 1 dL_isActed_281 rfl ?_
            refine z_imul C 283 dL_isActed_283 ?_
            refine z_iconst C 284 (v := 2) dL_isActed_284 (by decide +kernel) ?_
            refine z_iadd C 285 dL_isActed_285 ?_
            refine z_ialdN C 286 (272) (4 * (y % 16) + 2) dL_isActed_286 hW.h272 hW.e272 (lx4 (y % 16) 2) (by omega) (by decide) ?_
            refine z_istore C 287 12 ([(12, .int (t (272) (4 * (y % 16) + 2))), (11, .int (nI (y / 16))), (10, .int (nI (y % 16))), (0, .ref (ad (270))), (1, .ref (ad (271))), (2, .ref (ad (272))), (3, .ref (ad (273))), (4, .ref (ad (274))), (5, .ref (ad (275))), (6, .ref (ad (276))), (7, .ref (ad (277))), (8, .int (nI way)), (9, .int (nI y))]) dL_isActed_287 (by decide) rfl ?_
            refine z_aload_n C 289 2 5 dL_isActed_289 rfl rfl ?_
            refine z_iconst C 290 (v := 4) dL_isActed_290 (by decide +kernel) ?_
            refine z_iload C 291 10 2 dL_isActed_291 rfl ?_
            refine z_imul C 293 dL_isActed_293 ?_
            refine z_iconst C 294 (v := 2) dL_isActed_294 (by decide +kernel) ?_
            refine z_iadd C 295 dL_isActed_295 ?_
            refine z_iload C 296 11 1 dL_isActed_296 rfl ?_
            refine z_iconst C 298 (v := 3) dL_isActed_298 (by decide +kernel) ?_
            refine z_irem C 299 dL_isActed_299 (by decide) ?_
            have M300_51 : Zw p l e (zR 7) s m args below meth c D A K n ad 15 Q 308 ([(12, .int (t (272) (4 * (y % 16) + 2))), (11, .int (nI (y / 16))), (10, .int (nI (y % 16))), (0, .ref (ad (270))), (1, .ref (ad (271))), (2, .ref (ad (272))), (3, .ref (ad (273))), (4, .ref (ad (274))), (5, .ref (ad (275))), (6, .ref (ad (276))), (7, .ref (ad (277))), (8, .int (nI way)), (9, .int (nI y))]) [.int (lLo y), .int ((4 * nI (y % 16)) + 2), .ref (ad (272))] t := by
              refine z_iastN C 308 (272) (4 * (y % 16) + 2) dL_isActed_308 hW.h272 hW.e272 (lx4 (y % 16) 2) (by omega) (by decide) ?_
              refine z_aload_n C 309 0 3 dL_isActed_309 rfl rfl ?_
              refine z_iload C 310 10 2 dL_isActed_310 rfl ?_
              refine z_iload C 312 11 1 dL_isActed_312 rfl ?_
              refine z_iconst C 314 (v := 3) dL_isActed_314 (by decide +kernel) ?_
              refine z_irem C 315 dL_isActed_315 (by decide) ?_
              have M316_53 : Zw p l e (zR 7) s m args below meth c D A K n ad 15 Q 324 ([(12, .int (t (272) (4 * (y % 16) + 2))), (11, .int (nI (y / 16))), (10, .int (nI (y % 16))), (0, .ref (ad (270))), (1, .ref (ad (271))), (2, .ref (ad (272))), (3, .ref (ad (273))), (4, .ref (ad (274))), (5, .ref (ad (275))), (6, .ref (ad (276))), (7, .ref (ad (277))), (8, .int (nI way)), (9, .int (nI y))]) [.int (lLo y), .int (nI (y % 16)), .ref (ad (270))] (zset t (272) (4 * (y % 16) + 2) (lLo y)) := by
                refine z_virtIe C 324 (As := [.int (nI (y % 16)), .int (lLo y)]) (st := []) (id := 270) (kX6_lock l D cy K n ad hJ hO (zset t (272) (4 * (y % 16) + 2) (lLo y)) (nI (y % 16)) (lLo y) (hG.up (fun x9 hx9 => by simp only [zset_id _ _ _ (show x9 ≠ 271 by omega), zset_id _ _ _ (show x9 ≠ 272 by omega), zset_id _ _ _ (show x9 ≠ 274 by omega), zset_id _ _ _ (show x9 ≠ 277 by omega), sL_read_o _ _ (Or.inl hx9)])) ite01) dL_isActed_324 rfl gL_isActed_X6_lock hyX6_lock rfl (by decide) (by decide) hO.h0 rfl hO.e0 rfl rfl rfl (Nat.le_of_ble_eq_true rfl) ?_
                refine z_iload C 327 12 0 dL_isActed_327 rfl ?_
                refine z_icmp_ne C 329 336 dL_isActed_329 (by decide) (fun c329_55 => ?_) (fun c329_55 => ?_)
                · refine z_iconst C 336 (v := 0) dL_isActed_336 (by decide +kernel) ?_
                  exact z_zret C 337 hA hQ rfl (Or.inl rfl) dL_isActed_337 ⟨((if_pos c17_1).trans ((if_neg c154_2).trans ((if_pos c163_35).trans ((if_pos c222_36).trans ((if_pos c276_37).trans ((if_neg c329_55).trans rfl)))))).symm, ((if_pos c17_1).trans ((if_neg c154_2).trans ((if_pos c163_35).trans ((if_pos c222_36).trans ((if_pos c276_37).trans ((if_neg c329_55).trans rfl)))))).symm⟩
                · refine z_iconst C 332 (v := 1) dL_isActed_332 (by decide +kernel) ?_
                  refine z_goto C 333 337 dL_isActed_333 (by decide) ?_
                  exact z_zret C 337 hA hQ rfl (Or.inr rfl) dL_isActed_337 ⟨((if_pos c17_1).trans ((if_neg c154_2).trans ((if_pos c163_35).trans ((if_pos c222_36).trans ((if_pos c276_37).trans ((if_pos c329_55).trans rfl)))))).symm, ((if_pos c17_1).trans ((if_neg c154_2).trans ((if_pos c163_35).trans ((if_pos c222_36).trans ((if_pos c276_37).trans ((if_pos c329_55).trans rfl)))))).symm⟩
              refine z_if_ne C 316 323 dL_isActed_316 (by decide) (fun c316_52 => ?_) (fun c316_52 => ?_)
              · refine z_iconst C 323 (v := 0) dL_isActed_323 (by decide +kernel) ?_
                exact z_nv (lLo y) (((if_neg c316_52).trans rfl)).symm M316_53
              · refine z_iconst C 319 (v := 1) dL_isActed_319 (by decide +kernel) ?_
                refine z_goto C 320 324 dL_isActed_320 (by decide) ?_
                exact z_nv (lLo y) (((if_pos c316_52).trans rfl)).symm M316_53
            refine z_if_ne C 300 307 dL_isActed_300 (by decide) (fun c300_50 => ?_) (fun c300_50 => ?_)
            · refine z_iconst C 307 (v := 0) dL_isActed_307 (by decide +kernel) ?_
              exact z_nv (lLo y) (((if_neg c300_50).trans rfl)).symm M300_51
            · refine z_iconst C 303 (v := 1) dL_isActed_303 (by decide +kernel) ?_
              refine z_goto C 304 308 dL_isActed_304 (by decide) ?_
              exact z_nv (lLo y) (((if_pos c300_50).trans rfl)).symm M300_51
        · refine z_aload_n C 225 2 4 dL_isActed_225 rfl rfl ?_
          refine z_iconst C 226 (v := 4) dL_isActed_226 (by decide +kernel) ?_
          refine z_iload C 227 10 1 dL_isActed_227 rfl ?_
          refine z_imul C 229 dL_isActed_229 ?_
          refine z_iconst C 230 (v := 1) dL_isActed_230 (by decide +kernel) ?_
          refine z_iadd C 231 dL_isActed_231 ?_
          refine z_ialdN C 232 (272) (4 * (y % 16) + 1) dL_isActed_232 hW.h272 hW.e272 (lx4 (y % 16) 1) (by omega) (by decide) ?_
          refine z_istore C 233 12 ([(12, .int (t (272) (4 * (y % 16) + 1))), (11, .int (nI (y / 16))), (10, .int (nI (y % 16))), (0, .ref (ad (270))), (1, .ref (ad (271))), (2, .ref (ad (272))), (3, .ref (ad (273))), (4, .ref (ad (274))), (5, .ref (ad (275))), (6, .ref (ad (276))), (7, .ref (ad (277))), (8, .int (nI way)), (9, .int (nI y))]) dL_isActed_233 (by decide) rfl ?_
          refine z_aload_n C 235 2 5 dL_isActed_235 rfl rfl ?_
          refine z_iconst C 236 (v := 4) dL_isActed_236 (by decide +kernel) ?_
          refine z_iload C 237 10 2 dL_isActed_237 rfl ?_
          refine z_imul C 239 dL_isActed_239 ?_
          refine z_iconst C 240 (v := 1) dL_isActed_240 (by decide +kernel) ?_
          refine z_iadd C 241 dL_isActed_241 ?_
          refine z_iload C 242 11 1 dL_isActed_242 rfl ?_
          refine z_sipush C 244 (v := 1000) dL_isActed_244 (by decide +kernel) ?_
          refine z_irem C 247 dL_isActed_247 (by decide) ?_
          refine z_iastN C 248 (272) (4 * (y % 16) + 1) dL_isActed_248 hW.h272 hW.e272 (lx4 (y % 16) 1) (by omega) (by decide) ?_
          refine z_aload_n C 249 0 3 dL_isActed_249 rfl rfl ?_
          refine z_iload C 250 10 2 dL_isActed_250 rfl ?_
          refine z_iload C 252 11 1 dL_isActed_252 rfl ?_
          refine z_sipush C 254 (v := 1000) dL_isActed_254 (by decide +kernel) ?_
          refine z_irem C 257 dL_isActed_257 (by decide) ?_
          refine z_virtIe C 258 (As := [.int (nI (y % 16)), .int (zrem (nI (y / 16)) 1000)]) (st := []) (id := 270) (kX6_flow l D cy K n ad hJ hO (zset t (272) (4 * (y % 16) + 1) (zrem (nI (y / 16)) 1000)) (nI (y % 16)) (zrem (nI (y / 16)) 1000) (hG.up (fun x9 hx9 => by simp only [zset_id _ _ _ (show x9 ≠ 271 by omega), zset_id _ _ _ (show x9 ≠ 272 by omega), zset_id _ _ _ (show x9 ≠ 274 by omega), zset_id _ _ _ (show x9 ≠ 277 by omega), sL_read_o _ _ (Or.inl hx9)]))) dL_isActed_258 rfl gL_isActed_X6_flow hyX6_flow rfl (by decide) (by decide) hO.h0 rfl hO.e0 rfl rfl rfl (Nat.le_of_ble_eq_true rfl) ?_
          refine z_iload C 261 12 0 dL_isActed_261 rfl ?_
          refine z_icmp_ne C 263 270 dL_isActed_263 (by decide) (fun c263_57 => ?_) (fun c263_57 => ?_)
          · refine z_iconst C 270 (v := 0) dL_isActed_270 (by decide +kernel) ?_
            exact z_zret C 271 hA hQ rfl (Or.inl rfl) dL_isActed_271 ⟨((if_pos c17_1).trans ((if_neg c154_2).trans ((if_pos c163_35).trans ((if_neg c222_36).trans ((if_neg c263_57).trans rfl))))).symm, ((if_pos c17_1).trans ((if_neg c154_2).trans ((if_pos c163_35).trans ((if_neg c222_36).trans ((if_neg c263_57).trans rfl))))).symm⟩
          · refine z_iconst C 266 (v := 1) dL_isActed_266 (by decide +kernel) ?_
            refine z_goto C 267 271 dL_isActed_267 (by decide) ?_
            exact z_zret C 271 hA hQ rfl (Or.inr rfl) dL_isActed_271 ⟨((if_pos c17_1).trans ((if_neg c154_2).trans ((if_pos c163_35).trans ((if_neg c222_36).trans ((if_pos c263_57).trans rfl))))).symm, ((if_pos c17_1).trans ((if_neg c154_2).trans ((if_pos c163_35).trans ((if_neg c222_36).trans ((if_pos c263_57).trans rfl))))).symm⟩
      · refine z_aload_n C 166 0 2 dL_isActed_166 rfl rfl ?_
        refine z_iload C 167 10 1 dL_isActed_167 rfl ?_
        refine z_iconst C 169 (v := 5) dL_isActed_169 (by decide +kernel) ?_
        refine z_virtIe C 170 (As := [.int (nI (y % 16)), .int 5]) (st := []) (id := 270) (kX6_flow l D cy K n ad hJ hO t (nI (y % 16)) 5 hG) dL_isActed_170 rfl gL_isActed_X6_flow hyX6_flow rfl (by decide) (by decide) hO.h0 rfl hO.e0 rfl rfl rfl (Nat.le_of_ble_eq_true rfl) ?_
        refine z_ldc C 173 (v := (-1000001)) dL_isActed_173 mL_isActed_c42 ?_
        refine z_icmp_ne C 175 216 dL_isActed_175 (by decide) (fun c175_59 => ?_) (fun c175_59 => ?_)
        · refine z_iconst C 216 (v := 0) dL_isActed_216 (by decide +kernel) ?_
          exact z_zret C 217 hA hQ rfl (Or.inl rfl) dL_isActed_217 ⟨((if_pos c17_1).trans ((if_neg c154_2).trans ((if_neg c163_35).trans ((if_neg c175_59).trans rfl)))).symm, ((if_pos c17_1).trans ((if_neg c154_2).trans ((if_neg c163_35).trans ((if_neg c175_59).trans rfl)))).symm⟩
        · refine z_aload_n C 178 0 2 dL_isActed_178 rfl rfl ?_
          refine z_iload C 179 10 1 dL_isActed_179 rfl ?_
          refine z_virtIe C 181 (As := [.int (nI (y % 16))]) (st := []) (id := 270) (kX6_read l D cy K n ad hJ hO (sX6_flow t (nI (y % 16)) 5) (nI (y % 16)) hG2) dL_isActed_181 rfl gL_isActed_X6_read hyX6_read rfl (by decide) (by decide) hO.h0 rfl hO.e0 rfl rfl rfl (Nat.le_of_ble_eq_true rfl) ?_
          refine z_ldc C 184 (v := (-1000001)) dL_isActed_184 mL_isActed_c42 ?_
          refine z_icmp_ne C 186 216 dL_isActed_186 (by decide) (fun c186_61 => ?_) (fun c186_61 => ?_)
          · refine z_iconst C 216 (v := 0) dL_isActed_216 (by decide +kernel) ?_
            exact z_zret C 217 hA hQ rfl (Or.inl rfl) dL_isActed_217 ⟨((if_pos c17_1).trans ((if_neg c154_2).trans ((if_neg c163_35).trans ((if_pos c175_59).trans ((if_neg c186_61).trans rfl))))).symm, ((if_pos c17_1).trans ((if_neg c154_2).trans ((if_neg c163_35).trans ((if_pos c175_59).trans ((if_neg c186_61).trans rfl))))).symm⟩
          · refine z_aload_n C 189 0 2 dL_isActed_189 rfl rfl ?_
            refine z_iload C 190 10 1 dL_isActed_190 rfl ?_
            refine z_virtIe C 192 (As := [.int (nI (y % 16))]) (st := []) (id := 270) (kX6_change l D cy K n ad hJ hO (sX6_read (sX6_flow t (nI (y % 16)) 5) (nI (y % 16))) (nI (y % 16)) hG3) dL_isActed_192 rfl gL_isActed_X6_change hyX6_change rfl (by decide) (by decide) hO.h0 rfl hO.e0 rfl rfl rfl (Nat.le_of_ble_eq_true rfl) ?_
            refine z_ldc C 195 (v := (-1000001)) dL_isActed_195 mL_isActed_c42 ?_
            refine z_icmp_ne C 197 216 dL_isActed_197 (by decide) (fun c197_63 => ?_) (fun c197_63 => ?_)
            · refine z_iconst C 216 (v := 0) dL_isActed_216 (by decide +kernel) ?_
              exact z_zret C 217 hA hQ rfl (Or.inl rfl) dL_isActed_217 ⟨((if_pos c17_1).trans ((if_neg c154_2).trans ((if_neg c163_35).trans ((if_pos c175_59).trans ((if_pos c186_61).trans ((if_neg c197_63).trans rfl)))))).symm, ((if_pos c17_1).trans ((if_neg c154_2).trans ((if_neg c163_35).trans ((if_pos c175_59).trans ((if_pos c186_61).trans ((if_neg c197_63).trans rfl)))))).symm⟩
            · refine z_aload_n C 200 0 2 dL_isActed_200 rfl rfl ?_
              refine z_iload C 201 10 1 dL_isActed_201 rfl ?_
              refine z_iconst C 203 (v := 1) dL_isActed_203 (by decide +kernel) ?_
              refine z_virtIe C 204 (As := [.int (nI (y % 16)), .int 1]) (st := []) (id := 270) (kX6_lock l D cy K n ad hJ hO (sX6_change (sX6_read (sX6_flow t (nI (y % 16)) 5) (nI (y % 16))) (nI (y % 16))) (nI (y % 16)) 1 hG4 (Or.inr rfl)) dL_isActed_204 rfl gL_isActed_X6_lock hyX6_lock rfl (by decide) (by decide) hO.h0 rfl hO.e0 rfl rfl rfl (Nat.le_of_ble_eq_true rfl) ?_
              refine z_ldc C 207 (v := (-1000001)) dL_isActed_207 mL_isActed_c42 ?_
              refine z_icmp_ne C 209 216 dL_isActed_209 (by decide) (fun c209_65 => ?_) (fun c209_65 => ?_)
              · refine z_iconst C 216 (v := 0) dL_isActed_216 (by decide +kernel) ?_
                exact z_zret C 217 hA hQ rfl (Or.inl rfl) dL_isActed_217 ⟨((if_pos c17_1).trans ((if_neg c154_2).trans ((if_neg c163_35).trans ((if_pos c175_59).trans ((if_pos c186_61).trans ((if_pos c197_63).trans ((if_neg c209_65).trans rfl))))))).symm, ((if_pos c17_1).trans ((if_neg c154_2).trans ((if_neg c163_35).trans ((if_pos c175_59).trans ((if_pos c186_61).trans ((if_pos c197_63).trans ((if_neg c209_65).trans rfl))))))).symm⟩
              · refine z_iconst C 212 (v := 1) dL_isActed_212 (by decide +kernel) ?_
                refine z_goto C 213 217 dL_isActed_213 (by decide) ?_
                exact z_zret C 217 hA hQ rfl (Or.inr rfl) dL_isActed_217 ⟨((if_pos c17_1).trans ((if_neg c154_2).trans ((if_neg c163_35).trans ((if_pos c175_59).trans ((if_pos c186_61).trans ((if_pos c197_63).trans ((if_pos c209_65).trans rfl))))))).symm, ((if_pos c17_1).trans ((if_neg c154_2).trans ((if_neg c163_35).trans ((if_pos c175_59).trans ((if_pos c186_61).trans ((if_pos c197_63).trans ((if_pos c209_65).trans rfl))))))).symm⟩
  · refine z_iload C 20 11 0 dL_isActed_20 rfl ?_
    refine z_iconst C 22 (v := 3) dL_isActed_22 (by decide +kernel) ?_
    refine z_irem C 23 dL_isActed_23 (by decide) ?_
    have M24_67 : Zw p l e (zR 7) s m args below meth c D A K n ad 15 Q 37 ([(11, .int (nI (y / 16))), (10, .int (nI (y % 16))), (0, .ref (ad (270))), (1, .ref (ad (271))), (2, .ref (ad (272))), (3, .ref (ad (273))), (4, .ref (ad (274))), (5, .ref (ad (275))), (6, .ref (ad (276))), (7, .ref (ad (277))), (8, .int (nI way)), (9, .int (nI y))]) [.int (lQ y)] t := by
      refine z_istore C 37 12 ([(12, .int (lQ y)), (11, .int (nI (y / 16))), (10, .int (nI (y % 16))), (0, .ref (ad (270))), (1, .ref (ad (271))), (2, .ref (ad (272))), (3, .ref (ad (273))), (4, .ref (ad (274))), (5, .ref (ad (275))), (6, .ref (ad (276))), (7, .ref (ad (277))), (8, .int (nI way)), (9, .int (nI y))]) dL_isActed_37 (by decide) rfl ?_
      refine z_iconst C 39 (v := 1) dL_isActed_39 (by decide +kernel) ?_
      refine z_iload C 40 11 1 dL_isActed_40 rfl ?_
      refine z_bipush C 42 (v := 12) dL_isActed_42 (by decide +kernel) ?_
      refine z_idiv C 44 dL_isActed_44 (by decide) ?_
      refine z_bipush C 45 (v := 20) dL_isActed_45 (by decide +kernel) ?_
      refine z_irem C 47 dL_isActed_47 (by decide) ?_
      refine z_iadd C 48 dL_isActed_48 ?_
      refine z_nv (lP y) rfl ?_
      refine z_istore C 49 13 ([(13, .int (lP y)), (12, .int (lQ y)), (11, .int (nI (y / 16))), (10, .int (nI (y % 16))), (0, .ref (ad (270))), (1, .ref (ad (271))), (2, .ref (ad (272))), (3, .ref (ad (273))), (4, .ref (ad (274))), (5, .ref (ad (275))), (6, .ref (ad (276))), (7, .ref (ad (277))), (8, .int (nI way)), (9, .int (nI y))]) dL_isActed_49 (by decide) rfl ?_
      refine z_aload_n C 51 1 5 dL_isActed_51 rfl rfl ?_
      refine z_aload C 52 7 11 dL_isActed_52 rfl ?_
      refine z_iload C 54 12 1 dL_isActed_54 rfl ?_
      refine z_iload C 56 13 0 dL_isActed_56 rfl ?_
      refine z_statIe C 58 (As := [.ref (ad (271)), .ref (ad (277)), .int (lQ y), .int (lP y)]) (st := []) (kL_at l D cy K n ad hJ t (lQ y) (lP y) H hW hm) dL_isActed_58 rfl gL_isActed_L_at hyL_at rfl (by decide) (by decide) rfl rfl (Nat.le_of_ble_eq_true rfl) ?_
      have M61_70 : Zw p l e (zR 7) s m args below meth c D A K n ad 15 Q 69 ([(13, .int (lP y)), (12, .int (lQ y)), (11, .int (nI (y / 16))), (10, .int (nI (y % 16))), (0, .ref (ad (270))), (1, .ref (ad (271))), (2, .ref (ad (272))), (3, .ref (ad (273))), (4, .ref (ad (274))), (5, .ref (ad (275))), (6, .ref (ad (276))), (7, .ref (ad (277))), (8, .int (nI way)), (9, .int (nI y))]) [.int (lTk t y)] t := by
        refine z_istore C 69 14 ([(14, .int (lTk t y)), (13, .int (lP y)), (12, .int (lQ y)), (11, .int (nI (y / 16))), (10, .int (nI (y % 16))), (0, .ref (ad (270))), (1, .ref (ad (271))), (2, .ref (ad (272))), (3, .ref (ad (273))), (4, .ref (ad (274))), (5, .ref (ad (275))), (6, .ref (ad (276))), (7, .ref (ad (277))), (8, .int (nI way)), (9, .int (nI y))]) dL_isActed_69 (by decide) rfl ?_
        refine z_aload C 71 7 12 dL_isActed_71 rfl ?_
        refine z_iconst C 73 (v := 1) dL_isActed_73 (by decide +kernel) ?_
        refine z_ialdN C 74 (277) 1 dL_isActed_74 hW.h277 hW.e277 rfl (by decide) (by decide) ?_
        refine z_bipush C 75 (v := 16) dL_isActed_75 (by decide +kernel) ?_
        refine z_icmp_ne C 77 82 dL_isActed_77 (by decide) (fun c77_71 => ?_) (fun c77_71 => ?_)
        · refine z_iload C 82 14 0 dL_isActed_82 rfl ?_
          refine z_if_ne C 84 117 dL_isActed_84 (by decide) (fun c84_72 => ?_) (fun c84_72 => ?_)
          · refine z_aload_n C 117 0 5 dL_isActed_117 rfl rfl ?_
            refine z_iload C 118 12 2 dL_isActed_118 rfl ?_
            refine z_iload C 120 13 1 dL_isActed_120 rfl ?_
            refine z_virtIe C 122 (As := [.int (lQ y), .int (lP y)]) (st := []) (id := 270) (kX6_house l D cy K n ad hJ hO t (lQ y) (lP y) hG) dL_isActed_122 rfl gL_isActed_X6_house hyX6_house rfl (by decide) (by decide) hO.h0 rfl hO.e0 rfl rfl rfl (Nat.le_of_ble_eq_true rfl) ?_
            refine z_iload C 125 14 0 dL_isActed_125 rfl ?_
            refine z_if_eq C 127 135 dL_isActed_127 (by decide) (fun c127_74 => ?_) (fun c127_74 => ?_)
            · exact absurd c127_74 c84_72
            · refine z_ldc C 130 (v := (-1000002)) dL_isActed_130 mL_isActed_c67 ?_
              refine z_goto C 132 141 dL_isActed_132 (by decide) ?_
              refine z_icmp_ne C 141 148 dL_isActed_141 (by decide) (fun c141_75 => ?_) (fun c141_75 => ?_)
              · refine z_iconst C 148 (v := 0) dL_isActed_148 (by decide +kernel) ?_
                exact z_zret C 149 hA hQ rfl (Or.inl rfl) dL_isActed_149 ⟨((if_neg c17_1).trans ((if_neg c77_71).trans ((if_neg c84_72).trans ((if_neg c141_75).trans rfl)))).symm, ((if_neg c17_1).trans ((if_neg c77_71).trans ((if_neg c84_72).trans ((if_neg c141_75).trans rfl)))).symm⟩
              · refine z_iconst C 144 (v := 1) dL_isActed_144 (by decide +kernel) ?_
                refine z_goto C 145 149 dL_isActed_145 (by decide) ?_
                exact z_zret C 149 hA hQ rfl (Or.inr rfl) dL_isActed_149 ⟨((if_neg c17_1).trans ((if_neg c77_71).trans ((if_neg c84_72).trans ((if_pos c141_75).trans rfl)))).symm, ((if_neg c17_1).trans ((if_neg c77_71).trans ((if_neg c84_72).trans ((if_pos c141_75).trans rfl)))).symm⟩
          · refine z_aload_n C 87 1 6 dL_isActed_87 rfl rfl ?_
            refine z_iconst C 88 (v := 4) dL_isActed_88 (by decide +kernel) ?_
            refine z_aload C 89 7 12 dL_isActed_89 rfl ?_
            refine z_iconst C 91 (v := 1) dL_isActed_91 (by decide +kernel) ?_
            refine z_ialdN C 92 (277) 1 dL_isActed_92 hW.h277 hW.e277 rfl (by decide) (by decide) ?_
            refine z_nv (nI H) hm.2 ?_
            refine z_imul C 93 dL_isActed_93 ?_
            refine z_iload C 94 12 2 dL_isActed_94 rfl ?_
            refine z_iastN C 96 (271) (4 * H + 0) dL_isActed_96 hW.h271 hW.e271 (nI_mul 4 H) (by have := lHn hm ‹¬ t (277) 1 = 16›; omega) (by decide) ?_
            refine z_aload_n C 97 1 6 dL_isActed_97 rfl rfl ?_
            refine z_iconst C 98 (v := 4) dL_isActed_98 (by decide +kernel) ?_
            refine z_aload C 99 7 12 dL_isActed_99 rfl ?_
            refine z_iconst C 101 (v := 1) dL_isActed_101 (by decide +kernel) ?_
            refine z_ialdN C 102 (277) 1 dL_isActed_102 hW.h277 hW.e277 rfl (by decide) (by decide) ?_
            refine z_nv (t (277) 1) ((zset_idk _ _ _ _ (by decide)).trans rfl) ?_
            refine z_nv (nI H) hm.2 ?_
            refine z_imul C 103 dL_isActed_103 ?_
            refine z_iconst C 104 (v := 1) dL_isActed_104 (by decide +kernel) ?_
            refine z_iadd C 105 dL_isActed_105 ?_
            refine z_iload C 106 13 1 dL_isActed_106 rfl ?_
            refine z_iastN C 108 (271) (4 * H + 1) dL_isActed_108 hW.h271 hW.e271 (lx4 H 1) (by have := lHn hm ‹¬ t (277) 1 = 16›; omega) (by decide) ?_
            refine z_aload C 109 7 12 dL_isActed_109 rfl ?_
            refine z_iconst C 111 (v := 1) dL_isActed_111 (by decide +kernel) ?_
            refine z_dup2 C 112 dL_isActed_112 rfl rfl ?_
            refine z_ialdN C 113 (277) 1 dL_isActed_113 hW.h277 hW.e277 rfl (by decide) (by decide) ?_
            refine z_nv (t (277) 1) ((zset_idk _ _ _ _ (by decide)).trans ((zset_idk _ _ _ _ (by decide)).trans rfl)) ?_
            refine z_iconst C 114 (v := 1) dL_isActed_114 (by decide +kernel) ?_
            refine z_iadd C 115 dL_isActed_115 ?_
            refine z_iastN C 116 (277) 1 dL_isActed_116 hW.h277 hW.e277 rfl (by decide) (by decide) ?_
            refine z_aload_n C 117 0 5 dL_isActed_117 rfl rfl ?_
            refine z_iload C 118 12 2 dL_isActed_118 rfl ?_
            refine z_iload C 120 13 1 dL_isActed_120 rfl ?_
            refine z_virtIe C 122 (As := [.int (lQ y), .int (lP y)]) (st := []) (id := 270) (kX6_house l D cy K n ad hJ hO (zset (zset (zset t (271) (4 * H + 0) (lQ y)) (271) (4 * H + 1) (lP y)) (277) 1 ((t (277) 1) + 1)) (lQ y) (lP y) (hG.up (fun x9 hx9 => by simp only [zset_id _ _ _ (show x9 ≠ 271 by omega), zset_id _ _ _ (show x9 ≠ 272 by omega), zset_id _ _ _ (show x9 ≠ 274 by omega), zset_id _ _ _ (show x9 ≠ 277 by omega), sL_read_o _ _ (Or.inl hx9)]))) dL_isActed_122 rfl gL_isActed_X6_house hyX6_house rfl (by decide) (by decide) hO.h0 rfl hO.e0 rfl rfl rfl (Nat.le_of_ble_eq_true rfl) ?_
            refine z_iload C 125 14 0 dL_isActed_125 rfl ?_
            refine z_if_eq C 127 135 dL_isActed_127 (by decide) (fun c127_77 => ?_) (fun c127_77 => ?_)
            · refine z_aload C 135 7 12 dL_isActed_135 rfl ?_
              refine z_iconst C 137 (v := 1) dL_isActed_137 (by decide +kernel) ?_
              refine z_ialdN C 138 (277) 1 dL_isActed_138 hW.h277 hW.e277 rfl (by decide) (by decide) ?_
              refine z_iconst C 139 (v := 1) dL_isActed_139 (by decide +kernel) ?_
              refine z_isub C 140 dL_isActed_140 ?_
              refine z_icmp_ne C 141 148 dL_isActed_141 (by decide) (fun c141_78 => ?_) (fun c141_78 => ?_)
              · refine z_iconst C 148 (v := 0) dL_isActed_148 (by decide +kernel) ?_
                exact z_zret C 149 hA hQ rfl (Or.inl rfl) dL_isActed_149 ⟨((if_neg c17_1).trans ((if_neg c77_71).trans ((if_pos c84_72).trans ((if_neg c141_78).trans rfl)))).symm, ((if_neg c17_1).trans ((if_neg c77_71).trans ((if_pos c84_72).trans ((if_neg c141_78).trans rfl)))).symm⟩
              · refine z_iconst C 144 (v := 1) dL_isActed_144 (by decide +kernel) ?_
                refine z_goto C 145 149 dL_isActed_145 (by decide) ?_
                exact z_zret C 149 hA hQ rfl (Or.inr rfl) dL_isActed_149 ⟨((if_neg c17_1).trans ((if_neg c77_71).trans ((if_pos c84_72).trans ((if_pos c141_78).trans rfl)))).symm, ((if_neg c17_1).trans ((if_neg c77_71).trans ((if_pos c84_72).trans ((if_pos c141_78).trans rfl)))).symm⟩
            · exact absurd c84_72 c127_77
        · refine z_iconst C 80 (v := 1) dL_isActed_80 (by decide +kernel) ?_
          exact z_zret C 81 hA hQ rfl (Or.inr rfl) dL_isActed_81 ⟨((if_neg c17_1).trans ((if_pos c77_71).trans rfl)).symm, ((if_neg c17_1).trans ((if_pos c77_71).trans rfl)).symm⟩
      refine z_if_lt C 61 68 dL_isActed_61 (by decide) (fun c61_69 => ?_) (fun c61_69 => ?_)
      · refine z_iconst C 68 (v := 0) dL_isActed_68 (by decide +kernel) ?_
        exact z_nv (lTk t y) (((if_pos c61_69).trans rfl)).symm M61_70
      · refine z_iconst C 64 (v := 1) dL_isActed_64 (by decide +kernel) ?_
        refine z_goto C 65 69 dL_isActed_65 (by decide) ?_
        exact z_nv (lTk t y) (((if_neg c61_69).trans rfl)).symm M61_70
    refine z_if_ne C 24 36 dL_isActed_24 (by decide) (fun c24_66 => ?_) (fun c24_66 => ?_)
    · refine z_iconst C 36 (v := 1) dL_isActed_36 (by decide +kernel) ?_
      exact z_nv (lQ y) (((if_neg c24_66).trans rfl)).symm M24_67
    · refine z_iload C 27 11 0 dL_isActed_27 rfl ?_
      refine z_iconst C 29 (v := 3) dL_isActed_29 (by decide +kernel) ?_
      refine z_idiv C 30 dL_isActed_30 (by decide) ?_
      refine z_iconst C 31 (v := 4) dL_isActed_31 (by decide +kernel) ?_
      refine z_irem C 32 dL_isActed_32 (by decide) ?_
      refine z_goto C 33 37 dL_isActed_33 (by decide) ?_
      exact z_nv (lQ y) (((if_pos c24_66).trans rfl)).symm M24_67
