/-! the law's arrays by ids: 271 a, 272 b, 273 c, 274 d, 275 w, 276 l, 277 t -/
def zLw (cy : Nat → ClassId) (K : zK) (n : Nat) (ad : Nat → Nat) : Prop := 277 < n ∧ (∀ f, K ad 271 f = .inl (cy 0, 64, .inl f)) ∧ (∀ f, K ad 272 f = .inl (cy 0, 64, .inl f)) ∧ (∀ f, K ad 273 f = .inl (cy 0, 64, .inl f)) ∧ (∀ f, K ad 274 f = .inl (cy 0, 32, .inl f)) ∧ (∀ f, K ad 275 f = .inl (cy 0, 44, .inl f)) ∧ (∀ f, K ad 276 f = .inl (cy 0, 60, .inl f)) ∧ (∀ f, K ad 277 f = .inl (cy 0, 14, .inl f))
section ZLWO
variable {cy : Nat → ClassId} {K : zK} {n : Nat} {ad : Nat → Nat}
theorem zLw.h271 (h : zLw cy K n ad) : 271 < n := Nat.lt_of_le_of_lt (by decide) h.1
theorem zLw.e271 (h : zLw cy K n ad) : ∀ f, K ad 271 f = .inl (cy 0, 64, .inl f) := h.2.1
theorem zLw.h272 (h : zLw cy K n ad) : 272 < n := Nat.lt_of_le_of_lt (by decide) h.1
theorem zLw.e272 (h : zLw cy K n ad) : ∀ f, K ad 272 f = .inl (cy 0, 64, .inl f) := h.2.2.1
theorem zLw.h273 (h : zLw cy K n ad) : 273 < n := Nat.lt_of_le_of_lt (by decide) h.1
theorem zLw.e273 (h : zLw cy K n ad) : ∀ f, K ad 273 f = .inl (cy 0, 64, .inl f) := h.2.2.2.1
theorem zLw.h274 (h : zLw cy K n ad) : 274 < n := Nat.lt_of_le_of_lt (by decide) h.1
theorem zLw.e274 (h : zLw cy K n ad) : ∀ f, K ad 274 f = .inl (cy 0, 32, .inl f) := h.2.2.2.2.1
theorem zLw.h275 (h : zLw cy K n ad) : 275 < n := Nat.lt_of_le_of_lt (by decide) h.1
theorem zLw.e275 (h : zLw cy K n ad) : ∀ f, K ad 275 f = .inl (cy 0, 44, .inl f) := h.2.2.2.2.2.1
theorem zLw.h276 (h : zLw cy K n ad) : 276 < n := Nat.lt_of_le_of_lt (by decide) h.1
theorem zLw.e276 (h : zLw cy K n ad) : ∀ f, K ad 276 f = .inl (cy 0, 60, .inl f) := h.2.2.2.2.2.2.1
theorem zLw.h277 (h : zLw cy K n ad) : 277 < n := Nat.lt_of_le_of_lt (by decide) h.1
theorem zLw.e277 (h : zLw cy K n ad) : ∀ f, K ad 277 f = .inl (cy 0, 14, .inl f) := h.2.2.2.2.2.2.2
end ZLWO
theorem lx4 (k c : Nat) : 4 * nI k + nI c = nI (4 * k + c) := (congrArg (· + nI c) (nI_mul 4 k)).trans (nI_add _ _)
theorem lx2 (k c : Nat) : 2 * nI k + nI c = nI (2 * k + c) := (congrArg (· + nI c) (nI_mul 2 k)).trans (nI_add _ _)
/-- how many houses the law's table has -/
def lS (H : Nat) (t : zM) : Prop := H ≤ 16 ∧ t 277 1 = nI H
theorem lS.lt {H k : Nat} {t : zM} (h : lS H t) (hk : k ≤ H) (c : ¬ t 277 1 ≤ nI k) : k < H := by
  rw [h.2] at c
  have := h.1
  exact zge (by omega) (by omega) c
theorem lS.fr {H : Nat} {t S : zM} (h : lS H t) (e : S 277 1 = t 277 1) : lS H S := ⟨h.1, e.trans h.2⟩
def rL_used (t : zM) (k : Nat) : Int32 := (if 0 ≤ ((t (271) (4 * k + 2)) - (t (271) (4 * k + 3))) then ((t (271) (4 * k + 2)) - (t (271) (4 * k + 3))) else (((t (271) (4 * k + 2)) - (t (271) (4 * k + 3))) + 100000))
theorem mL_used_c9 : Cond.constant RL 9 (100000) ∈ wsL_used := by decide +kernel
theorem hyL_used : yL_used.cls ≠ "java/lang/invoke/MethodHandle" ∧ yL_used.cls ≠ "java/lang/invoke/VarHandle" ∧ (parseMethodDescriptor yL_used.desc).map (fun d => d.parameters.length) = some 2 := by decide +kernel
set_option maxHeartbeats 3000000 in
set_option maxRecDepth 100000 in
theorem kL_used (l : Launch) (D : va_G) (cy : Nat → ClassId) (K : zK) (n : Nat) (ad : Nat → Nat) (hJ : zJ n ad) (t : zM) (k : Nat) (hW : zLw cy K n ad) (hk : k < 16) : zI l yL_used wsL_used 0 D cy K n ad t [.ref (ad (271)), .int (nI k)] (fun r t1 => r = rL_used t k ∧ t1 = t) := by
  refine z_startI (cc := cL_used) (mL := 3) (ret := (some .int)) (own := RL) rfl (by decide +kernel) rfl hJ (Nat.le_of_ble_eq_true rfl) ?_
  intro p e s m args below meth c A hA Q hQ C
  refine z_aload_n C 0 0 0 dL_used_0 rfl rfl ?_
  refine z_iconst C 1 (v := 4) dL_used_1 (by decide +kernel) ?_
  refine z_iload_n C 2 1 1 dL_used_2 rfl rfl ?_
  refine z_imul C 3 dL_used_3 ?_
  refine z_iconst C 4 (v := 2) dL_used_4 (by decide +kernel) ?_
  refine z_iadd C 5 dL_used_5 ?_
  refine z_ialdN C 6 (271) (4 * k + 2) dL_used_6 hW.h271 hW.e271 (lx4 k 2) (by omega) (by decide) ?_
  refine z_aload_n C 7 0 0 dL_used_7 rfl rfl ?_
  refine z_iconst C 8 (v := 4) dL_used_8 (by decide +kernel) ?_
  refine z_iload_n C 9 1 1 dL_used_9 rfl rfl ?_
  refine z_imul C 10 dL_used_10 ?_
  refine z_iconst C 11 (v := 3) dL_used_11 (by decide +kernel) ?_
  refine z_iadd C 12 dL_used_12 ?_
  refine z_ialdN C 13 (271) (4 * k + 3) dL_used_13 hW.h271 hW.e271 (lx4 k 3) (by omega) (by decide) ?_
  refine z_isub C 14 dL_used_14 ?_
  refine z_istore_n C 15 2 ([(2, .int ((t (271) (4 * k + 2)) - (t (271) (4 * k + 3)))), (0, .ref (ad (271))), (1, .int (nI k))]) dL_used_15 rfl (by decide) rfl ?_
  refine z_iload_n C 16 2 0 dL_used_16 rfl rfl ?_
  refine z_if_ge C 17 27 dL_used_17 (by decide) (fun c17_1 => ?_) (fun c17_1 => ?_)
  · refine z_iload_n C 27 2 0 dL_used_27 rfl rfl ?_
    exact z_iret C 28 hA hQ rfl dL_used_28 ⟨((if_pos c17_1).trans rfl).symm, rfl⟩
  · refine z_iload_n C 20 2 0 dL_used_20 rfl rfl ?_
    refine z_ldc C 21 (v := 100000) dL_used_21 mL_used_c9 ?_
    refine z_iadd C 23 dL_used_23 ?_
    refine z_goto C 24 28 dL_used_24 (by decide) ?_
    exact z_iret C 28 hA hQ rfl dL_used_28 ⟨((if_neg c17_1).trans rfl).symm, rfl⟩
/-- whether a house's use is rounded up -/
def lUp (t : zM) (k : Nat) : Int32 := (if 0 ≤ (t 272 (4 * k + 0)) then (if (t 272 (4 * k + 0)) = 0 then (if (zrem (rL_used t k) 100) ≤ 49 then 0 else 1) else 0) else (if (zrem (rL_used t k) 100) ≤ 0 then 0 else 1))
def rL_units (t : zM) (k : Nat) : Int32 := (if (lUp t k) = 0 then ((rL_used t k) / 100) else (((rL_used t k) / 100) + 1))
theorem hyL_units : yL_units.cls ≠ "java/lang/invoke/MethodHandle" ∧ yL_units.cls ≠ "java/lang/invoke/VarHandle" ∧ (parseMethodDescriptor yL_units.desc).map (fun d => d.parameters.length) = some 3 := by decide +kernel
set_option maxHeartbeats 3000000 in
set_option maxRecDepth 100000 in
theorem kL_units (l : Launch) (D : va_G) (cy : Nat → ClassId) (K : zK) (n : Nat) (ad : Nat → Nat) (hJ : zJ n ad) (t : zM) (k : Nat) (hW : zLw cy K n ad) (hk : k < 16) : zI l yL_units wsL_units 1 D cy K n ad t [.ref (ad (271)), .ref (ad (272)), .int (nI k)] (fun r t1 => r = rL_units t k ∧ t1 = t) := by
  refine z_startI (cc := cL_units) (mL := 7) (ret := (some .int)) (own := RL) rfl (by decide +kernel) rfl hJ (Nat.le_of_ble_eq_true rfl) ?_
  intro p e s m args below meth c A hA Q hQ C
  refine z_aload_n C 0 0 0 dL_units_0 rfl rfl ?_
  refine z_iload_n C 1 2 2 dL_units_1 rfl rfl ?_
  refine z_statIe C 2 (As := [.ref (ad (271)), .int (nI k)]) (st := []) (kL_used l D cy K n ad hJ t k hW hk) dL_units_2 rfl gL_units_L_used hyL_used rfl (by decide) (by decide) rfl rfl (Nat.le_of_ble_eq_true rfl) ?_
  refine z_istore_n C 5 3 ([(3, .int (rL_used t k)), (0, .ref (ad (271))), (1, .ref (ad (272))), (2, .int (nI k))]) dL_units_5 rfl (by decide) rfl ?_
  refine z_iload_n C 6 3 0 dL_units_6 rfl rfl ?_
  refine z_bipush C 7 (v := 100) dL_units_7 (by decide +kernel) ?_
  refine z_idiv C 9 dL_units_9 (by decide) ?_
  refine z_istore C 10 4 ([(4, .int ((rL_used t k) / 100)), (3, .int (rL_used t k)), (0, .ref (ad (271))), (1, .ref (ad (272))), (2, .int (nI k))]) dL_units_10 (by decide) rfl ?_
  refine z_iload_n C 12 3 1 dL_units_12 rfl rfl ?_
  refine z_bipush C 13 (v := 100) dL_units_13 (by decide +kernel) ?_
  refine z_irem C 15 dL_units_15 (by decide) ?_
  refine z_istore C 16 5 ([(5, .int (zrem (rL_used t k) 100)), (4, .int ((rL_used t k) / 100)), (3, .int (rL_used t k)), (0, .ref (ad (271))), (1, .ref (ad (272))), (2, .int (nI k))]) dL_units_16 (by decide) rfl ?_
  refine z_aload_n C 18 1 4 dL_units_18 rfl rfl ?_
  refine z_iconst C 19 (v := 4) dL_units_19 (by decide +kernel) ?_
  refine z_iload_n C 20 2 5 dL_units_20 rfl rfl ?_
  refine z_imul C 21 dL_units_21 ?_
  refine z_ialdN C 22 (272) (4 * k + 0) dL_units_22 hW.h272 hW.e272 (nI_mul 4 k) (by omega) (by decide) ?_
  have M23_6 : Zw p l e (zR 1) s m args below meth c D A K n ad 7 Q 59 ([(5, .int (zrem (rL_used t k) 100)), (4, .int ((rL_used t k) / 100)), (3, .int (rL_used t k)), (0, .ref (ad (271))), (1, .ref (ad (272))), (2, .int (nI k))]) [.int (lUp t k)] t := by
    refine z_istore C 59 6 ([(6, .int (lUp t k)), (5, .int (zrem (rL_used t k) 100)), (4, .int ((rL_used t k) / 100)), (3, .int (rL_used t k)), (0, .ref (ad (271))), (1, .ref (ad (272))), (2, .int (nI k))]) dL_units_59 (by decide) rfl ?_
    refine z_iload C 61 6 0 dL_units_61 rfl ?_
    refine z_if_eq C 63 73 dL_units_63 (by decide) (fun c63_7 => ?_) (fun c63_7 => ?_)
    · refine z_iload C 73 4 2 dL_units_73 rfl ?_
      exact z_iret C 75 hA hQ rfl dL_units_75 ⟨((if_pos c63_7).trans rfl).symm, rfl⟩
    · refine z_iload C 66 4 2 dL_units_66 rfl ?_
      refine z_iconst C 68 (v := 1) dL_units_68 (by decide +kernel) ?_
      refine z_iadd C 69 dL_units_69 ?_
      refine z_goto C 70 75 dL_units_70 (by decide) ?_
      exact z_iret C 75 hA hQ rfl dL_units_75 ⟨((if_neg c63_7).trans rfl).symm, rfl⟩
  refine z_if_ge C 23 39 dL_units_23 (by decide) (fun c23_2 => ?_) (fun c23_2 => ?_)
  · refine z_aload_n C 39 1 4 dL_units_39 rfl rfl ?_
    refine z_iconst C 40 (v := 4) dL_units_40 (by decide +kernel) ?_
    refine z_iload_n C 41 2 5 dL_units_41 rfl rfl ?_
    refine z_imul C 42 dL_units_42 ?_
    refine z_ialdN C 43 (272) (4 * k + 0) dL_units_43 hW.h272 hW.e272 (nI_mul 4 k) (by omega) (by decide) ?_
    refine z_if_ne C 44 58 dL_units_44 (by decide) (fun c44_3 => ?_) (fun c44_3 => ?_)
    · refine z_iconst C 58 (v := 0) dL_units_58 (by decide +kernel) ?_
      exact z_nv (lUp t k) (((if_pos c23_2).trans ((if_neg c44_3).trans rfl))).symm M23_6
    · refine z_iload C 47 5 0 dL_units_47 rfl ?_
      refine z_bipush C 49 (v := 49) dL_units_49 (by decide +kernel) ?_
      refine z_icmp_le C 51 58 dL_units_51 (by decide) (fun c51_4 => ?_) (fun c51_4 => ?_)
      · refine z_iconst C 58 (v := 0) dL_units_58 (by decide +kernel) ?_
        exact z_nv (lUp t k) (((if_pos c23_2).trans ((if_pos c44_3).trans ((if_pos c51_4).trans rfl)))).symm M23_6
      · refine z_iconst C 54 (v := 1) dL_units_54 (by decide +kernel) ?_
        refine z_goto C 55 59 dL_units_55 (by decide) ?_
        exact z_nv (lUp t k) (((if_pos c23_2).trans ((if_pos c44_3).trans ((if_neg c51_4).trans rfl)))).symm M23_6
  · refine z_iload C 26 5 0 dL_units_26 rfl ?_
    refine z_if_le C 28 35 dL_units_28 (by decide) (fun c28_5 => ?_) (fun c28_5 => ?_)
    · refine z_iconst C 35 (v := 0) dL_units_35 (by decide +kernel) ?_
      refine z_goto C 36 59 dL_units_36 (by decide) ?_
      exact z_nv (lUp t k) (((if_neg c23_2).trans ((if_pos c28_5).trans rfl))).symm M23_6
    · refine z_iconst C 31 (v := 1) dL_units_31 (by decide +kernel) ?_
      refine z_goto C 32 59 dL_units_32 (by decide) ?_
      exact z_nv (lUp t k) (((if_neg c23_2).trans ((if_neg c28_5).trans rfl))).symm M23_6
def rL_why (t : zM) (k : Nat) : Int32 := (if (t (272) (4 * k + 2)) = 1 then 1 else (if (t (272) (4 * k + 3)) = ((t (277) 0) + 1) then 2 else 0))
theorem hyL_why : yL_why.cls ≠ "java/lang/invoke/MethodHandle" ∧ yL_why.cls ≠ "java/lang/invoke/VarHandle" ∧ (parseMethodDescriptor yL_why.desc).map (fun d => d.parameters.length) = some 3 := by decide +kernel
set_option maxHeartbeats 3000000 in
set_option maxRecDepth 100000 in
theorem kL_why (l : Launch) (D : va_G) (cy : Nat → ClassId) (K : zK) (n : Nat) (ad : Nat → Nat) (hJ : zJ n ad) (t : zM) (k : Nat) (hW : zLw cy K n ad) (hk : k < 16) : zI l yL_why wsL_why 0 D cy K n ad t [.ref (ad (272)), .ref (ad (277)), .int (nI k)] (fun r t1 => r = rL_why t k ∧ t1 = t) := by
  refine z_startI (cc := cL_why) (mL := 3) (ret := (some .int)) (own := RL) rfl (by decide +kernel) rfl hJ (Nat.le_of_ble_eq_true rfl) ?_
  intro p e s m args below meth c A hA Q hQ C
  refine z_aload_n C 0 0 0 dL_why_0 rfl rfl ?_
  refine z_iconst C 1 (v := 4) dL_why_1 (by decide +kernel) ?_
  refine z_iload_n C 2 2 2 dL_why_2 rfl rfl ?_
  refine z_imul C 3 dL_why_3 ?_
  refine z_iconst C 4 (v := 2) dL_why_4 (by decide +kernel) ?_
  refine z_iadd C 5 dL_why_5 ?_
  refine z_ialdN C 6 (272) (4 * k + 2) dL_why_6 hW.h272 hW.e272 (lx4 k 2) (by omega) (by decide) ?_
  refine z_iconst C 7 (v := 1) dL_why_7 (by decide +kernel) ?_
  refine z_icmp_ne C 8 15 dL_why_8 (by decide) (fun c8_1 => ?_) (fun c8_1 => ?_)
  · refine z_aload_n C 15 0 0 dL_why_15 rfl rfl ?_
    refine z_iconst C 16 (v := 4) dL_why_16 (by decide +kernel) ?_
    refine z_iload_n C 17 2 2 dL_why_17 rfl rfl ?_
    refine z_imul C 18 dL_why_18 ?_
    refine z_iconst C 19 (v := 3) dL_why_19 (by decide +kernel) ?_
    refine z_iadd C 20 dL_why_20 ?_
    refine z_ialdN C 21 (272) (4 * k + 3) dL_why_21 hW.h272 hW.e272 (lx4 k 3) (by omega) (by decide) ?_
    refine z_aload_n C 22 1 1 dL_why_22 rfl rfl ?_
    refine z_iconst C 23 (v := 0) dL_why_23 (by decide +kernel) ?_
    refine z_ialdN C 24 (277) 0 dL_why_24 hW.h277 hW.e277 rfl (by decide) (by decide) ?_
    refine z_iconst C 25 (v := 1) dL_why_25 (by decide +kernel) ?_
    refine z_iadd C 26 dL_why_26 ?_
    refine z_icmp_ne C 27 34 dL_why_27 (by decide) (fun c27_2 => ?_) (fun c27_2 => ?_)
    · refine z_iconst C 34 (v := 0) dL_why_34 (by decide +kernel) ?_
      exact z_iret C 35 hA hQ rfl dL_why_35 ⟨((if_neg c8_1).trans ((if_neg c27_2).trans rfl)).symm, rfl⟩
    · refine z_iconst C 30 (v := 2) dL_why_30 (by decide +kernel) ?_
      refine z_goto C 31 35 dL_why_31 (by decide) ?_
      exact z_iret C 35 hA hQ rfl dL_why_35 ⟨((if_neg c8_1).trans ((if_pos c27_2).trans rfl)).symm, rfl⟩
  · refine z_iconst C 11 (v := 1) dL_why_11 (by decide +kernel) ?_
    refine z_goto C 12 35 dL_why_12 (by decide) ?_
    exact z_iret C 35 hA hQ rfl dL_why_35 ⟨((if_pos c8_1).trans rfl).symm, rfl⟩
def lL_read_205 (t : zM) (k : Nat) : Nat → Nat → zM → Int32
  | 0, _, _ => 0
  | j + 1, i, u => (if nI i ≤ 5 then (rL_units t k) else (lL_read_205 t k j (i - 1) (zset u (276) i (u (276) (i - 6)))))
def lsL_read_205 (t : zM) (k : Nat) : Nat → Nat → zM → zM
  | 0, _, u => u
  | j + 1, i, u => (if nI i ≤ 5 then (zset (zset (zset (zset (zset (zset u (276) 0 (u (277) 0)) (276) 1 (nI k)) (276) 2 (rL_used t k)) (276) 3 (rL_units t k)) (276) 4 (if (zrem (rL_used t k) 100) = 0 then 2 else (if (rL_units t k) ≤ ((rL_used t k) / 100) then 0 else 1))) (276) 5 ((u (272) (4 * k + 0)) + 1000)) else (lsL_read_205 t k j (i - 1) (zset u (276) i (u (276) (i - 6)))))
def rL_read (t : zM) (k : Nat) : Int32 := (lL_read_205 t k 55 59 (zset (zset (zset (zset (zset (zset (zset (zset (zset (zset (zset (zset t (272) (4 * k + 0) ((t (272) (4 * k + 0)) + ((100 * (rL_units t k)) - (rL_used t k)))) (271) (4 * k + 3) (t (271) (4 * k + 2))) (272) (4 * k + 3) ((t (277) 0) + 1)) (273) (4 * k + 0) ((t (273) (4 * k + 0)) + 1)) (273) (4 * k + 1) ((t (273) (4 * k + 1)) + (rL_units t k))) (273) (4 * k + 2) ((t (273) (4 * k + 2)) + (if ((t (272) (4 * k + 0)) + ((100 * (rL_units t k)) - (rL_used t k))) ≤ 0 then 0 else 1))) (273) (4 * k + 3) ((t (273) (4 * k + 3)) + (if 0 ≤ ((t (272) (4 * k + 0)) + ((100 * (rL_units t k)) - (rL_used t k))) then 0 else 1))) (277) 2 ((t (277) 2) + 1)) (277) 3 ((t (277) 3) + (rL_units t k))) (277) 4 ((t (277) 4) + ((rL_units t k) * (t (277) 11)))) (277) 5 ((t (277) 5) + (rL_used t k))) (277) 9 ((t (277) 9) + (if 10 ≤ (t (277) 9) then 0 else 1))))
def sL_read (t : zM) (k : Nat) : zM := (lsL_read_205 t k 55 59 (zset (zset (zset (zset (zset (zset (zset (zset (zset (zset (zset (zset t (272) (4 * k + 0) ((t (272) (4 * k + 0)) + ((100 * (rL_units t k)) - (rL_used t k)))) (271) (4 * k + 3) (t (271) (4 * k + 2))) (272) (4 * k + 3) ((t (277) 0) + 1)) (273) (4 * k + 0) ((t (273) (4 * k + 0)) + 1)) (273) (4 * k + 1) ((t (273) (4 * k + 1)) + (rL_units t k))) (273) (4 * k + 2) ((t (273) (4 * k + 2)) + (if ((t (272) (4 * k + 0)) + ((100 * (rL_units t k)) - (rL_used t k))) ≤ 0 then 0 else 1))) (273) (4 * k + 3) ((t (273) (4 * k + 3)) + (if 0 ≤ ((t (272) (4 * k + 0)) + ((100 * (rL_units t k)) - (rL_used t k))) then 0 else 1))) (277) 2 ((t (277) 2) + 1)) (277) 3 ((t (277) 3) + (rL_units t k))) (277) 4 ((t (277) 4) + ((rL_units t k) * (t (277) 11)))) (277) 5 ((t (277) 5) + (rL_used t k))) (277) 9 ((t (277) 9) + (if 10 ≤ (t (277) 9) then 0 else 1))))
theorem hyL_read : yL_read.cls ≠ "java/lang/invoke/MethodHandle" ∧ yL_read.cls ≠ "java/lang/invoke/VarHandle" ∧ (parseMethodDescriptor yL_read.desc).map (fun d => d.parameters.length) = some 6 := by decide +kernel
set_option maxHeartbeats 3000000 in
set_option maxRecDepth 100000 in
theorem kL_read (l : Launch) (D : va_G) (cy : Nat → ClassId) (K : zK) (n : Nat) (ad : Nat → Nat) (hJ : zJ n ad) (t : zM) (k : Nat) (hW : zLw cy K n ad) (hk : k < 16) : zI l yL_read wsL_read 2 D cy K n ad t [.ref (ad (271)), .ref (ad (272)), .ref (ad (273)), .ref (ad (276)), .ref (ad (277)), .int (nI k)] (fun r t1 => r = rL_read t k ∧ t1 = sL_read t k) := by
  refine z_startI (cc := cL_read) (mL := 9) (ret := (some .int)) (own := RL) rfl (by decide +kernel) rfl hJ (Nat.le_of_ble_eq_true rfl) ?_
  intro p e s m args below meth c A hA Q hQ C
  refine z_aload_n C 0 0 0 dL_read_0 rfl rfl ?_
  refine z_iload C 1 5 5 dL_read_1 rfl ?_
  refine z_statIe C 3 (As := [.ref (ad (271)), .int (nI k)]) (st := []) (kL_used l D cy K n ad hJ t k hW hk) dL_read_3 rfl gL_read_L_used hyL_used rfl (by decide) (by decide) rfl rfl (Nat.le_of_ble_eq_true rfl) ?_
  refine z_istore C 6 6 ([(6, .int (rL_used t k)), (0, .ref (ad (271))), (1, .ref (ad (272))), (2, .ref (ad (273))), (3, .ref (ad (276))), (4, .ref (ad (277))), (5, .int (nI k))]) dL_read_6 (by decide) rfl ?_
  refine z_aload_n C 8 0 1 dL_read_8 rfl rfl ?_
  refine z_aload_n C 9 1 2 dL_read_9 rfl rfl ?_
  refine z_iload C 10 5 6 dL_read_10 rfl ?_
  refine z_statIe C 12 (As := [.ref (ad (271)), .ref (ad (272)), .int (nI k)]) (st := []) (kL_units l D cy K n ad hJ t k hW hk) dL_read_12 rfl gL_read_L_units hyL_units rfl (by decide) (by decide) rfl rfl (Nat.le_of_ble_eq_true rfl) ?_
  refine z_istore C 15 7 ([(7, .int (rL_units t k)), (6, .int (rL_used t k)), (0, .ref (ad (271))), (1, .ref (ad (272))), (2, .ref (ad (273))), (3, .ref (ad (276))), (4, .ref (ad (277))), (5, .int (nI k))]) dL_read_15 (by decide) rfl ?_
  refine z_aload_n C 17 1 3 dL_read_17 rfl rfl ?_
  refine z_iconst C 18 (v := 4) dL_read_18 (by decide +kernel) ?_
  refine z_iload C 19 5 7 dL_read_19 rfl ?_
  refine z_imul C 21 dL_read_21 ?_
  refine z_dup2 C 22 dL_read_22 rfl rfl ?_
  refine z_ialdN C 23 (272) (4 * k + 0) dL_read_23 hW.h272 hW.e272 (nI_mul 4 k) (by omega) (by decide) ?_
  refine z_bipush C 24 (v := 100) dL_read_24 (by decide +kernel) ?_
  refine z_iload C 26 7 0 dL_read_26 rfl ?_
  refine z_imul C 28 dL_read_28 ?_
  refine z_iload C 29 6 1 dL_read_29 rfl ?_
  refine z_isub C 31 dL_read_31 ?_
  refine z_iadd C 32 dL_read_32 ?_
  refine z_iastN C 33 (272) (4 * k + 0) dL_read_33 hW.h272 hW.e272 (nI_mul 4 k) (by omega) (by decide) ?_
  refine z_aload_n C 34 0 2 dL_read_34 rfl rfl ?_
  refine z_iconst C 35 (v := 4) dL_read_35 (by decide +kernel) ?_
  refine z_iload C 36 5 7 dL_read_36 rfl ?_
  refine z_imul C 38 dL_read_38 ?_
  refine z_iconst C 39 (v := 3) dL_read_39 (by decide +kernel) ?_
  refine z_iadd C 40 dL_read_40 ?_
  refine z_aload_n C 41 0 2 dL_read_41 rfl rfl ?_
  refine z_iconst C 42 (v := 4) dL_read_42 (by decide +kernel) ?_
  refine z_iload C 43 5 7 dL_read_43 rfl ?_
  refine z_imul C 45 dL_read_45 ?_
  refine z_iconst C 46 (v := 2) dL_read_46 (by decide +kernel) ?_
  refine z_iadd C 47 dL_read_47 ?_
  refine z_ialdN C 48 (271) (4 * k + 2) dL_read_48 hW.h271 hW.e271 (lx4 k 2) (by omega) (by decide) ?_
  refine z_nv (t (271) (4 * k + 2)) ((zset_idk _ _ _ _ (by decide)).trans rfl) ?_
  refine z_iastN C 49 (271) (4 * k + 3) dL_read_49 hW.h271 hW.e271 (lx4 k 3) (by omega) (by decide) ?_
  refine z_aload_n C 50 1 3 dL_read_50 rfl rfl ?_
  refine z_iconst C 51 (v := 4) dL_read_51 (by decide +kernel) ?_
  refine z_iload C 52 5 7 dL_read_52 rfl ?_
  refine z_imul C 54 dL_read_54 ?_
  refine z_iconst C 55 (v := 3) dL_read_55 (by decide +kernel) ?_
  refine z_iadd C 56 dL_read_56 ?_
  refine z_aload C 57 4 6 dL_read_57 rfl ?_
  refine z_iconst C 59 (v := 0) dL_read_59 (by decide +kernel) ?_
  refine z_ialdN C 60 (277) 0 dL_read_60 hW.h277 hW.e277 rfl (by decide) (by decide) ?_
  refine z_nv (t (277) 0) ((zset_idk _ _ _ _ (by decide)).trans ((zset_idk _ _ _ _ (by decide)).trans rfl)) ?_
  refine z_iconst C 61 (v := 1) dL_read_61 (by decide +kernel) ?_
  refine z_iadd C 62 dL_read_62 ?_
  refine z_iastN C 63 (272) (4 * k + 3) dL_read_63 hW.h272 hW.e272 (lx4 k 3) (by omega) (by decide) ?_
  refine z_aload_n C 64 2 4 dL_read_64 rfl rfl ?_
  refine z_iconst C 65 (v := 4) dL_read_65 (by decide +kernel) ?_
  refine z_iload C 66 5 7 dL_read_66 rfl ?_
  refine z_imul C 68 dL_read_68 ?_
  refine z_dup2 C 69 dL_read_69 rfl rfl ?_
  refine z_ialdN C 70 (273) (4 * k + 0) dL_read_70 hW.h273 hW.e273 (nI_mul 4 k) (by omega) (by decide) ?_
  refine z_nv (t (273) (4 * k + 0)) ((zset_idk _ _ _ _ (by decide)).trans ((zset_idk _ _ _ _ (by decide)).trans ((zset_idk _ _ _ _ (by decide)).trans rfl))) ?_
  refine z_iconst C 71 (v := 1) dL_read_71 (by decide +kernel) ?_
  refine z_iadd C 72 dL_read_72 ?_
  refine z_iastN C 73 (273) (4 * k + 0) dL_read_73 hW.h273 hW.e273 (nI_mul 4 k) (by omega) (by decide) ?_
  refine z_aload_n C 74 2 4 dL_read_74 rfl rfl ?_
  refine z_iconst C 75 (v := 4) dL_read_75 (by decide +kernel) ?_
  refine z_iload C 76 5 7 dL_read_76 rfl ?_
  refine z_imul C 78 dL_read_78 ?_
  refine z_iconst C 79 (v := 1) dL_read_79 (by decide +kernel) ?_
  refine z_iadd C 80 dL_read_80 ?_
  refine z_dup2 C 81 dL_read_81 rfl rfl ?_
  refine z_ialdN C 82 (273) (4 * k + 1) dL_read_82 hW.h273 hW.e273 (lx4 k 1) (by omega) (by decide) ?_
  refine z_nv (t (273) (4 * k + 1)) ((zset_nk _ _ _ (by omega)).trans ((zset_idk _ _ _ _ (by decide)).trans ((zset_idk _ _ _ _ (by decide)).trans ((zset_idk _ _ _ _ (by decide)).trans rfl)))) ?_
  refine z_iload C 83 7 0 dL_read_83 rfl ?_
  refine z_iadd C 85 dL_read_85 ?_
  refine z_iastN C 86 (273) (4 * k + 1) dL_read_86 hW.h273 hW.e273 (lx4 k 1) (by omega) (by decide) ?_
  refine z_aload_n C 87 2 4 dL_read_87 rfl rfl ?_
  refine z_iconst C 88 (v := 4) dL_read_88 (by decide +kernel) ?_
  refine z_iload C 89 5 7 dL_read_89 rfl ?_
  refine z_imul C 91 dL_read_91 ?_
  refine z_iconst C 92 (v := 2) dL_read_92 (by decide +kernel) ?_
  refine z_iadd C 93 dL_read_93 ?_
  refine z_dup2 C 94 dL_read_94 rfl rfl ?_
  refine z_ialdN C 95 (273) (4 * k + 2) dL_read_95 hW.h273 hW.e273 (lx4 k 2) (by omega) (by decide) ?_
  refine z_nv (t (273) (4 * k + 2)) ((zset_nk _ _ _ (by omega)).trans ((zset_nk _ _ _ (by omega)).trans ((zset_idk _ _ _ _ (by decide)).trans ((zset_idk _ _ _ _ (by decide)).trans ((zset_idk _ _ _ _ (by decide)).trans rfl))))) ?_
  refine z_aload_n C 96 1 3 dL_read_96 rfl rfl ?_
  refine z_iconst C 97 (v := 4) dL_read_97 (by decide +kernel) ?_
  refine z_iload C 98 5 7 dL_read_98 rfl ?_
  refine z_imul C 100 dL_read_100 ?_
  refine z_ialdN C 101 (272) (4 * k + 0) dL_read_101 hW.h272 hW.e272 (nI_mul 4 k) (by omega) (by decide) ?_
  refine z_nv ((t (272) (4 * k + 0)) + ((100 * (rL_units t k)) - (rL_used t k))) ((zset_idk _ _ _ _ (by decide)).trans ((zset_idk _ _ _ _ (by decide)).trans ((zset_nk _ _ _ (by omega)).trans ((zset_idk _ _ _ _ (by decide)).trans (zset_eq _ _ _ _))))) ?_
  have M102_4 : Zw p l e (zR 2) s m args below meth c D A K n ad 9 Q 110 ([(7, .int (rL_units t k)), (6, .int (rL_used t k)), (0, .ref (ad (271))), (1, .ref (ad (272))), (2, .ref (ad (273))), (3, .ref (ad (276))), (4, .ref (ad (277))), (5, .int (nI k))]) [.int (if ((t (272) (4 * k + 0)) + ((100 * (rL_units t k)) - (rL_used t k))) ≤ 0 then 0 else 1), .int (t (273) (4 * k + 2)), .int ((4 * nI k) + 2), .ref (ad (273))] (zset (zset (zset (zset (zset t (272) (4 * k + 0) ((t (272) (4 * k + 0)) + ((100 * (rL_units t k)) - (rL_used t k)))) (271) (4 * k + 3) (t (271) (4 * k + 2))) (272) (4 * k + 3) ((t (277) 0) + 1)) (273) (4 * k + 0) ((t (273) (4 * k + 0)) + 1)) (273) (4 * k + 1) ((t (273) (4 * k + 1)) + (rL_units t k))) := by
    refine z_iadd C 110 dL_read_110 ?_
    refine z_iastN C 111 (273) (4 * k + 2) dL_read_111 hW.h273 hW.e273 (lx4 k 2) (by omega) (by decide) ?_
    refine z_aload_n C 112 2 4 dL_read_112 rfl rfl ?_
    refine z_iconst C 113 (v := 4) dL_read_113 (by decide +kernel) ?_
    refine z_iload C 114 5 7 dL_read_114 rfl ?_
    refine z_imul C 116 dL_read_116 ?_
    refine z_iconst C 117 (v := 3) dL_read_117 (by decide +kernel) ?_
    refine z_iadd C 118 dL_read_118 ?_
    refine z_dup2 C 119 dL_read_119 rfl rfl ?_
    refine z_ialdN C 120 (273) (4 * k + 3) dL_read_120 hW.h273 hW.e273 (lx4 k 3) (by omega) (by decide) ?_
    refine z_nv (t (273) (4 * k + 3)) ((zset_nk _ _ _ (by omega)).trans ((zset_nk _ _ _ (by omega)).trans ((zset_nk _ _ _ (by omega)).trans ((zset_idk _ _ _ _ (by decide)).trans ((zset_idk _ _ _ _ (by decide)).trans ((zset_idk _ _ _ _ (by decide)).trans rfl)))))) ?_
    refine z_aload_n C 121 1 3 dL_read_121 rfl rfl ?_
    refine z_iconst C 122 (v := 4) dL_read_122 (by decide +kernel) ?_
    refine z_iload C 123 5 7 dL_read_123 rfl ?_
    refine z_imul C 125 dL_read_125 ?_
    refine z_ialdN C 126 (272) (4 * k + 0) dL_read_126 hW.h272 hW.e272 (nI_mul 4 k) (by omega) (by decide) ?_
    refine z_nv ((t (272) (4 * k + 0)) + ((100 * (rL_units t k)) - (rL_used t k))) ((zset_idk _ _ _ _ (by decide)).trans ((zset_idk _ _ _ _ (by decide)).trans ((zset_idk _ _ _ _ (by decide)).trans ((zset_nk _ _ _ (by omega)).trans ((zset_idk _ _ _ _ (by decide)).trans (zset_eq _ _ _ _)))))) ?_
    have M127_6 : Zw p l e (zR 2) s m args below meth c D A K n ad 9 Q 135 ([(7, .int (rL_units t k)), (6, .int (rL_used t k)), (0, .ref (ad (271))), (1, .ref (ad (272))), (2, .ref (ad (273))), (3, .ref (ad (276))), (4, .ref (ad (277))), (5, .int (nI k))]) [.int (if 0 ≤ ((t (272) (4 * k + 0)) + ((100 * (rL_units t k)) - (rL_used t k))) then 0 else 1), .int (t (273) (4 * k + 3)), .int ((4 * nI k) + 3), .ref (ad (273))] (zset (zset (zset (zset (zset (zset t (272) (4 * k + 0) ((t (272) (4 * k + 0)) + ((100 * (rL_units t k)) - (rL_used t k)))) (271) (4 * k + 3) (t (271) (4 * k + 2))) (272) (4 * k + 3) ((t (277) 0) + 1)) (273) (4 * k + 0) ((t (273) (4 * k + 0)) + 1)) (273) (4 * k + 1) ((t (273) (4 * k + 1)) + (rL_units t k))) (273) (4 * k + 2) ((t (273) (4 * k + 2)) + (if ((t (272) (4 * k + 0)) + ((100 * (rL_units t k)) - (rL_used t k))) ≤ 0 then 0 else 1))) := by
      refine z_iadd C 135 dL_read_135 ?_
      refine z_iastN C 136 (273) (4 * k + 3) dL_read_136 hW.h273 hW.e273 (lx4 k 3) (by omega) (by decide) ?_
      refine z_aload C 137 4 6 dL_read_137 rfl ?_
      refine z_iconst C 139 (v := 2) dL_read_139 (by decide +kernel) ?_
      refine z_dup2 C 140 dL_read_140 rfl rfl ?_
      refine z_ialdN C 141 (277) 2 dL_read_141 hW.h277 hW.e277 rfl (by decide) (by decide) ?_
      refine z_nv (t (277) 2) ((zset_idk _ _ _ _ (by decide)).trans ((zset_idk _ _ _ _ (by decide)).trans ((zset_idk _ _ _ _ (by decide)).trans ((zset_idk _ _ _ _ (by decide)).trans ((zset_idk _ _ _ _ (by decide)).trans ((zset_idk _ _ _ _ (by decide)).trans ((zset_idk _ _ _ _ (by decide)).trans rfl))))))) ?_
      refine z_iconst C 142 (v := 1) dL_read_142 (by decide +kernel) ?_
      refine z_iadd C 143 dL_read_143 ?_
      refine z_iastN C 144 (277) 2 dL_read_144 hW.h277 hW.e277 rfl (by decide) (by decide) ?_
      refine z_aload C 145 4 6 dL_read_145 rfl ?_
      refine z_iconst C 147 (v := 3) dL_read_147 (by decide +kernel) ?_
      refine z_dup2 C 148 dL_read_148 rfl rfl ?_
      refine z_ialdN C 149 (277) 3 dL_read_149 hW.h277 hW.e277 rfl (by decide) (by decide) ?_
      refine z_nv (t (277) 3) ((zset_nk _ _ _ (by decide)).trans ((zset_idk _ _ _ _ (by decide)).trans ((zset_idk _ _ _ _ (by decide)).trans ((zset_idk _ _ _ _ (by decide)).trans ((zset_idk _ _ _ _ (by decide)).trans ((zset_idk _ _ _ _ (by decide)).trans ((zset_idk _ _ _ _ (by decide)).trans ((zset_idk _ _ _ _ (by decide)).trans rfl)))))))) ?_
      refine z_iload C 150 7 0 dL_read_150 rfl ?_
      refine z_iadd C 152 dL_read_152 ?_
      refine z_iastN C 153 (277) 3 dL_read_153 hW.h277 hW.e277 rfl (by decide) (by decide) ?_
      refine z_aload C 154 4 6 dL_read_154 rfl ?_
      refine z_iconst C 156 (v := 4) dL_read_156 (by decide +kernel) ?_
      refine z_dup2 C 157 dL_read_157 rfl rfl ?_
      refine z_ialdN C 158 (277) 4 dL_read_158 hW.h277 hW.e277 rfl (by decide) (by decide) ?_
      refine z_nv (t (277) 4) ((zset_nk _ _ _ (by decide)).trans ((zset_nk _ _ _ (by decide)).trans ((zset_idk _ _ _ _ (by decide)).trans ((zset_idk _ _ _ _ (by decide)).trans ((zset_idk _ _ _ _ (by decide)).trans ((zset_idk _ _ _ _ (by decide)).trans ((zset_idk _ _ _ _ (by decide)).trans ((zset_idk _ _ _ _ (by decide)).trans ((zset_idk _ _ _ _ (by decide)).trans rfl))))))))) ?_
      refine z_iload C 159 7 0 dL_read_159 rfl ?_
      refine z_aload C 161 4 6 dL_read_161 rfl ?_
      refine z_bipush C 163 (v := 11) dL_read_163 (by decide +kernel) ?_
      refine z_ialdN C 165 (277) 11 dL_read_165 hW.h277 hW.e277 rfl (by decide) (by decide) ?_
      refine z_nv (t (277) 11) ((zset_nk _ _ _ (by decide)).trans ((zset_nk _ _ _ (by decide)).trans ((zset_idk _ _ _ _ (by decide)).trans ((zset_idk _ _ _ _ (by decide)).trans ((zset_idk _ _ _ _ (by decide)).trans ((zset_idk _ _ _ _ (by decide)).trans ((zset_idk _ _ _ _ (by decide)).trans ((zset_idk _ _ _ _ (by decide)).trans ((zset_idk _ _ _ _ (by decide)).trans rfl))))))))) ?_
      refine z_imul C 166 dL_read_166 ?_
      refine z_iadd C 167 dL_read_167 ?_
      refine z_iastN C 168 (277) 4 dL_read_168 hW.h277 hW.e277 rfl (by decide) (by decide) ?_
      refine z_aload C 169 4 6 dL_read_169 rfl ?_
      refine z_iconst C 171 (v := 5) dL_read_171 (by decide +kernel) ?_
      refine z_dup2 C 172 dL_read_172 rfl rfl ?_
      refine z_ialdN C 173 (277) 5 dL_read_173 hW.h277 hW.e277 rfl (by decide) (by decide) ?_
      refine z_nv (t (277) 5) ((zset_nk _ _ _ (by decide)).trans ((zset_nk _ _ _ (by decide)).trans ((zset_nk _ _ _ (by decide)).trans ((zset_idk _ _ _ _ (by decide)).trans ((zset_idk _ _ _ _ (by decide)).trans ((zset_idk _ _ _ _ (by decide)).trans ((zset_idk _ _ _ _ (by decide)).trans ((zset_idk _ _ _ _ (by decide)).trans ((zset_idk _ _ _ _ (by decide)).trans ((zset_idk _ _ _ _ (by decide)).trans rfl)))))))))) ?_
      refine z_iload C 174 6 1 dL_read_174 rfl ?_
      refine z_iadd C 176 dL_read_176 ?_
      refine z_iastN C 177 (277) 5 dL_read_177 hW.h277 hW.e277 rfl (by decide) (by decide) ?_
      refine z_aload C 178 4 6 dL_read_178 rfl ?_
      refine z_bipush C 180 (v := 9) dL_read_180 (by decide +kernel) ?_
      refine z_dup2 C 182 dL_read_182 rfl rfl ?_
      refine z_ialdN C 183 (277) 9 dL_read_183 hW.h277 hW.e277 rfl (by decide) (by decide) ?_
      refine z_nv (t (277) 9) ((zset_nk _ _ _ (by decide)).trans ((zset_nk _ _ _ (by decide)).trans ((zset_nk _ _ _ (by decide)).trans ((zset_nk _ _ _ (by decide)).trans ((zset_idk _ _ _ _ (by decide)).trans ((zset_idk _ _ _ _ (by decide)).trans ((zset_idk _ _ _ _ (by decide)).trans ((zset_idk _ _ _ _ (by decide)).trans ((zset_idk _ _ _ _ (by decide)).trans ((zset_idk _ _ _ _ (by decide)).trans ((zset_idk _ _ _ _ (by decide)).trans rfl))))))))))) ?_
      refine z_aload C 184 4 6 dL_read_184 rfl ?_
      refine z_bipush C 186 (v := 9) dL_read_186 (by decide +kernel) ?_
      refine z_ialdN C 188 (277) 9 dL_read_188 hW.h277 hW.e277 rfl (by decide) (by decide) ?_
      refine z_nv (t (277) 9) ((zset_nk _ _ _ (by decide)).trans ((zset_nk _ _ _ (by decide)).trans ((zset_nk _ _ _ (by decide)).trans ((zset_nk _ _ _ (by decide)).trans ((zset_idk _ _ _ _ (by decide)).trans ((zset_idk _ _ _ _ (by decide)).trans ((zset_idk _ _ _ _ (by decide)).trans ((zset_idk _ _ _ _ (by decide)).trans ((zset_idk _ _ _ _ (by decide)).trans ((zset_idk _ _ _ _ (by decide)).trans ((zset_idk _ _ _ _ (by decide)).trans rfl))))))))))) ?_
      refine z_bipush C 189 (v := 10) dL_read_189 (by decide +kernel) ?_
      have M191_8 : Zw p l e (zR 2) s m args below meth c D A K n ad 9 Q 199 ([(7, .int (rL_units t k)), (6, .int (rL_used t k)), (0, .ref (ad (271))), (1, .ref (ad (272))), (2, .ref (ad (273))), (3, .ref (ad (276))), (4, .ref (ad (277))), (5, .int (nI k))]) [.int (if 10 ≤ (t (277) 9) then 0 else 1), .int (t (277) 9), .int 9, .ref (ad (277))] (zset (zset (zset (zset (zset (zset (zset (zset (zset (zset (zset t (272) (4 * k + 0) ((t (272) (4 * k + 0)) + ((100 * (rL_units t k)) - (rL_used t k)))) (271) (4 * k + 3) (t (271) (4 * k + 2))) (272) (4 * k + 3) ((t (277) 0) + 1)) (273) (4 * k + 0) ((t (273) (4 * k + 0)) + 1)) (273) (4 * k + 1) ((t (273) (4 * k + 1)) + (rL_units t k))) (273) (4 * k + 2) ((t (273) (4 * k + 2)) + (if ((t (272) (4 * k + 0)) + ((100 * (rL_units t k)) - (rL_used t k))) ≤ 0 then 0 else 1))) (273) (4 * k + 3) ((t (273) (4 * k + 3)) + (if 0 ≤ ((t (272) (4 * k + 0)) + ((100 * (rL_units t k)) - (rL_used t k))) then 0 else 1))) (277) 2 ((t (277) 2) + 1)) (277) 3 ((t (277) 3) + (rL_units t k))) (277) 4 ((t (277) 4) + ((rL_units t k) * (t (277) 11)))) (277) 5 ((t (277) 5) + (rL_used t k))) := by
        refine z_iadd C 199 dL_read_199 ?_
        refine z_iastN C 200 (277) 9 dL_read_200 hW.h277 hW.e277 rfl (by decide) (by decide) ?_
        refine z_bipush C 201 (v := 59) dL_read_201 (by decide +kernel) ?_
        refine z_istore C 203 8 ([(8, .int 59), (7, .int (rL_units t k)), (6, .int (rL_used t k)), (0, .ref (ad (271))), (1, .ref (ad (272))), (2, .ref (ad (273))), (3, .ref (ad (276))), (4, .ref (ad (277))), (5, .int (nI k))]) dL_read_203 (by decide) rfl ?_
        have L205 : ∀ (j : Nat) (i : Nat) (u : zM), (h0_205 : i ≤ j + 4) → (h5 : 5 ≤ i) → (h59 : i ≤ 59) → (hI205 : rL_read t k = (lL_read_205 t k j i u)) → (hS205 : sL_read t k = (lsL_read_205 t k j i u)) → Zw p l e (zR 2) s m args below meth c D A K n ad 9 Q 205 ([(8, .int (nI i)), (7, .int (rL_units t k)), (6, .int (rL_used t k)), (0, .ref (ad (271))), (1, .ref (ad (272))), (2, .ref (ad (273))), (3, .ref (ad (276))), (4, .ref (ad (277))), (5, .int (nI k))]) [] u := by
          intro j
          induction j with
          | zero =>
            intro i u h0_205 h5 h59 hI205 hS205
            exact absurd h0_205 (by omega)
          | succ j ih205 =>
            intro i u h0_205 h5 h59 hI205 hS205
            refine z_iload C 205 8 0 dL_read_205 rfl ?_
            refine z_iconst C 207 (v := 5) dL_read_207 (by decide +kernel) ?_
            refine z_icmp_le C 208 228 dL_read_208 (by decide) (fun c208_9 => ?_) (fun c208_9 => ?_)
            · refine z_aload_n C 228 3 6 dL_read_228 rfl rfl ?_
              refine z_iconst C 229 (v := 0) dL_read_229 (by decide +kernel) ?_
              refine z_aload C 230 4 7 dL_read_230 rfl ?_
              refine z_iconst C 232 (v := 0) dL_read_232 (by decide +kernel) ?_
              refine z_ialdN C 233 (277) 0 dL_read_233 hW.h277 hW.e277 rfl (by decide) (by decide) ?_
              refine z_iastN C 234 (276) 0 dL_read_234 hW.h276 hW.e276 rfl (by decide) (by decide) ?_
              refine z_aload_n C 235 3 6 dL_read_235 rfl rfl ?_
              refine z_iconst C 236 (v := 1) dL_read_236 (by decide +kernel) ?_
              refine z_iload C 237 5 8 dL_read_237 rfl ?_
              refine z_iastN C 239 (276) 1 dL_read_239 hW.h276 hW.e276 rfl (by decide) (by decide) ?_
              refine z_aload_n C 240 3 6 dL_read_240 rfl rfl ?_
              refine z_iconst C 241 (v := 2) dL_read_241 (by decide +kernel) ?_
              refine z_iload C 242 6 2 dL_read_242 rfl ?_
              refine z_iastN C 244 (276) 2 dL_read_244 hW.h276 hW.e276 rfl (by decide) (by decide) ?_
              refine z_aload_n C 245 3 6 dL_read_245 rfl rfl ?_
              refine z_iconst C 246 (v := 3) dL_read_246 (by decide +kernel) ?_
              refine z_iload C 247 7 1 dL_read_247 rfl ?_
              refine z_iastN C 249 (276) 3 dL_read_249 hW.h276 hW.e276 rfl (by decide) (by decide) ?_
              refine z_aload_n C 250 3 6 dL_read_250 rfl rfl ?_
              refine z_iconst C 251 (v := 4) dL_read_251 (by decide +kernel) ?_
              refine z_iload C 252 6 2 dL_read_252 rfl ?_
              refine z_bipush C 254 (v := 100) dL_read_254 (by decide +kernel) ?_
              refine z_irem C 256 dL_read_256 (by decide) ?_
              have M257_12 : Zw p l e (zR 2) s m args below meth c D A K n ad 9 Q 279 ([(8, .int (nI i)), (7, .int (rL_units t k)), (6, .int (rL_used t k)), (0, .ref (ad (271))), (1, .ref (ad (272))), (2, .ref (ad (273))), (3, .ref (ad (276))), (4, .ref (ad (277))), (5, .int (nI k))]) [.int (if (zrem (rL_used t k) 100) = 0 then 2 else (if (rL_units t k) ≤ ((rL_used t k) / 100) then 0 else 1)), .int 4, .ref (ad (276))] (zset (zset (zset (zset u (276) 0 (u (277) 0)) (276) 1 (nI k)) (276) 2 (rL_used t k)) (276) 3 (rL_units t k)) := by
                refine z_iastN C 279 (276) 4 dL_read_279 hW.h276 hW.e276 rfl (by decide) (by decide) ?_
                refine z_aload_n C 280 3 6 dL_read_280 rfl rfl ?_
                refine z_iconst C 281 (v := 5) dL_read_281 (by decide +kernel) ?_
                refine z_aload_n C 282 1 4 dL_read_282 rfl rfl ?_
                refine z_iconst C 283 (v := 4) dL_read_283 (by decide +kernel) ?_
                refine z_iload C 284 5 8 dL_read_284 rfl ?_
                refine z_imul C 286 dL_read_286 ?_
                refine z_ialdN C 287 (272) (4 * k + 0) dL_read_287 hW.h272 hW.e272 (nI_mul 4 k) (by omega) (by decide) ?_
                refine z_nv (u (272) (4 * k + 0)) ((zset_idk _ _ _ _ (by decide)).trans ((zset_idk _ _ _ _ (by decide)).trans ((zset_idk _ _ _ _ (by decide)).trans ((zset_idk _ _ _ _ (by decide)).trans ((zset_idk _ _ _ _ (by decide)).trans rfl))))) ?_
                refine z_sipush C 288 (v := 1000) dL_read_288 (by decide +kernel) ?_
                refine z_iadd C 291 dL_read_291 ?_
                refine z_iastN C 292 (276) 5 dL_read_292 hW.h276 hW.e276 rfl (by decide) (by decide) ?_
                refine z_iload C 293 7 1 dL_read_293 rfl ?_
                exact z_iret C 295 hA hQ rfl dL_read_295 ⟨((hI205.trans ((if_pos c208_9).trans rfl))).symm, ((hS205.trans ((if_pos c208_9).trans rfl))).symm⟩
              refine z_if_ne C 257 264 dL_read_257 (by decide) (fun c257_10 => ?_) (fun c257_10 => ?_)
              · refine z_iload C 264 7 1 dL_read_264 rfl ?_
                refine z_iload C 266 6 2 dL_read_266 rfl ?_
                refine z_bipush C 268 (v := 100) dL_read_268 (by decide +kernel) ?_
                refine z_idiv C 270 dL_read_270 (by decide) ?_
                refine z_icmp_le C 271 278 dL_read_271 (by decide) (fun c271_11 => ?_) (fun c271_11 => ?_)
                · refine z_iconst C 278 (v := 0) dL_read_278 (by decide +kernel) ?_
                  exact z_nv (if (zrem (rL_used t k) 100) = 0 then 2 else (if (rL_units t k) ≤ ((rL_used t k) / 100) then 0 else 1)) (((if_neg c257_10).trans ((if_pos c271_11).trans rfl))).symm M257_12
                · refine z_iconst C 274 (v := 1) dL_read_274 (by decide +kernel) ?_
                  refine z_goto C 275 279 dL_read_275 (by decide) ?_
                  exact z_nv (if (zrem (rL_used t k) 100) = 0 then 2 else (if (rL_units t k) ≤ ((rL_used t k) / 100) then 0 else 1)) (((if_neg c257_10).trans ((if_neg c271_11).trans rfl))).symm M257_12
              · refine z_iconst C 260 (v := 2) dL_read_260 (by decide +kernel) ?_
                refine z_goto C 261 279 dL_read_261 (by decide) ?_
                exact z_nv (if (zrem (rL_used t k) 100) = 0 then 2 else (if (rL_units t k) ≤ ((rL_used t k) / 100) then 0 else 1)) (((if_pos c257_10).trans rfl)).symm M257_12
            · refine z_aload_n C 211 3 6 dL_read_211 rfl rfl ?_
              refine z_iload C 212 8 0 dL_read_212 rfl ?_
              refine z_aload_n C 214 3 6 dL_read_214 rfl rfl ?_
              refine z_iload C 215 8 0 dL_read_215 rfl ?_
              refine z_bipush C 217 (v := 6) dL_read_217 (by decide +kernel) ?_
              refine z_isub C 219 dL_read_219 ?_
              refine z_ialdN C 220 (276) (i - 6) dL_read_220 hW.h276 hW.e276 (nI_sub (b := 6) (by have := zge (a := 5) (b := i) (by decide) (by omega) ‹¬ nI i ≤ (5 : Int32)›; omega)) (by omega) (by decide) ?_
              refine z_iastN C 221 (276) i dL_read_221 hW.h276 hW.e276 rfl (by omega) (by decide) ?_
              refine z_iinc C 222 (v := nI (i - 1)) 8 0 ([(8, .int (nI (i - 1))), (7, .int (rL_units t k)), (6, .int (rL_used t k)), (0, .ref (ad (271))), (1, .ref (ad (272))), (2, .ref (ad (273))), (3, .ref (ad (276))), (4, .ref (ad (277))), (5, .int (nI k))]) dL_read_222 rfl (nI_dec (by omega)) (by decide) rfl ?_
              refine z_goto C 225 205 dL_read_225 (by decide) ?_
              refine z_ls [0, 1, 2, 3, 4, 5, 6, 7, 8] _ rfl ?_
              exact ih205 (i - 1) (zset u (276) i (u (276) (i - 6))) (by omega) (by have := zge (a := 5) (b := i) (by decide) (by omega) ‹¬ nI i ≤ (5 : Int32)›; omega) (by omega) (hI205.trans ((if_neg c208_9).trans rfl)) (hS205.trans ((if_neg c208_9).trans rfl))
        refine z_ls [0, 1, 2, 3, 4, 5, 6, 7, 8] _ rfl ?_
        exact L205 (55) 59 (zset (zset (zset (zset (zset (zset (zset (zset (zset (zset (zset (zset t (272) (4 * k + 0) ((t (272) (4 * k + 0)) + ((100 * (rL_units t k)) - (rL_used t k)))) (271) (4 * k + 3) (t (271) (4 * k + 2))) (272) (4 * k + 3) ((t (277) 0) + 1)) (273) (4 * k + 0) ((t (273) (4 * k + 0)) + 1)) (273) (4 * k + 1) ((t (273) (4 * k + 1)) + (rL_units t k))) (273) (4 * k + 2) ((t (273) (4 * k + 2)) + (if ((t (272) (4 * k + 0)) + ((100 * (rL_units t k)) - (rL_used t k))) ≤ 0 then 0 else 1))) (273) (4 * k + 3) ((t (273) (4 * k + 3)) + (if 0 ≤ ((t (272) (4 * k + 0)) + ((100 * (rL_units t k)) - (rL_used t k))) then 0 else 1))) (277) 2 ((t (277) 2) + 1)) (277) 3 ((t (277) 3) + (rL_units t k))) (277) 4 ((t (277) 4) + ((rL_units t k) * (t (277) 11)))) (277) 5 ((t (277) 5) + (rL_used t k))) (277) 9 ((t (277) 9) + (if 10 ≤ (t (277) 9) then 0 else 1))) (by omega) (by decide) (by decide) rfl rfl
      refine z_icmp_ge C 191 198 dL_read_191 (by decide) (fun c191_7 => ?_) (fun c191_7 => ?_)
      · refine z_iconst C 198 (v := 0) dL_read_198 (by decide +kernel) ?_
        exact z_nv (if 10 ≤ (t (277) 9) then 0 else 1) (((if_pos c191_7).trans rfl)).symm M191_8
      · refine z_iconst C 194 (v := 1) dL_read_194 (by decide +kernel) ?_
        refine z_goto C 195 199 dL_read_195 (by decide) ?_
        exact z_nv (if 10 ≤ (t (277) 9) then 0 else 1) (((if_neg c191_7).trans rfl)).symm M191_8
    refine z_if_ge C 127 134 dL_read_127 (by decide) (fun c127_5 => ?_) (fun c127_5 => ?_)
    · refine z_iconst C 134 (v := 0) dL_read_134 (by decide +kernel) ?_
      exact z_nv (if 0 ≤ ((t (272) (4 * k + 0)) + ((100 * (rL_units t k)) - (rL_used t k))) then 0 else 1) (((if_pos c127_5).trans rfl)).symm M127_6
    · refine z_iconst C 130 (v := 1) dL_read_130 (by decide +kernel) ?_
      refine z_goto C 131 135 dL_read_131 (by decide) ?_
      exact z_nv (if 0 ≤ ((t (272) (4 * k + 0)) + ((100 * (rL_units t k)) - (rL_used t k))) then 0 else 1) (((if_neg c127_5).trans rfl)).symm M127_6
  refine z_if_le C 102 109 dL_read_102 (by decide) (fun c102_3 => ?_) (fun c102_3 => ?_)
  · refine z_iconst C 109 (v := 0) dL_read_109 (by decide +kernel) ?_
    exact z_nv (if ((t (272) (4 * k + 0)) + ((100 * (rL_units t k)) - (rL_used t k))) ≤ 0 then 0 else 1) (((if_pos c102_3).trans rfl)).symm M102_4
  · refine z_iconst C 105 (v := 1) dL_read_105 (by decide +kernel) ?_
    refine z_goto C 106 110 dL_read_106 (by decide) ?_
    exact z_nv (if ((t (272) (4 * k + 0)) + ((100 * (rL_units t k)) - (rL_used t k))) ≤ 0 then 0 else 1) (((if_neg c102_3).trans rfl)).symm M102_4
theorem lsL_read_205_o (t : zM) (k : Nat) {x : Nat} (h : x ≠ 276) : ∀ (j i : Nat) (u : zM), lsL_read_205 t k j i u x = u x := by
  intro j
  induction j with
  | zero => intro i u; rfl
  | succ j ih =>
    intro i u
    unfold lsL_read_205
    split
    · simp only [zset_id _ _ _ h]
    · rw [ih]
      exact zset_id _ _ _ h
/-- a reading writes a, b, c, l, t alone -/
theorem sL_read_o (t : zM) (k : Nat) {x : Nat} (h : x < 271 ∨ x = 274 ∨ x = 275) : sL_read t k x = t x := by
  unfold sL_read
  rw [lsL_read_205_o _ _ (by omega)]
  simp only [zset_id _ _ _ (show x ≠ 271 by omega), zset_id _ _ _ (show x ≠ 272 by omega), zset_id _ _ _ (show x ≠ 273 by omega), zset_id _ _ _ (show x ≠ 277 by omega)]
theorem sL_read_t (t : zM) (k : Nat) {x : Nat} (h : x < 2 ∨ (6 ≤ x ∧ x ≠ 9)) : sL_read t k 277 x = t 277 x := by
  unfold sL_read
  rw [lsL_read_205_o _ _ (by decide)]
  rw [zset_nk _ _ _ (by omega), zset_nk _ _ _ (by omega), zset_nk _ _ _ (by omega), zset_nk _ _ _ (by omega), zset_nk _ _ _ (by omega)]
  simp only [zset_id _ _ _ (show (277 : Nat) ≠ 271 by decide), zset_id _ _ _ (show (277 : Nat) ≠ 272 by decide), zset_id _ _ _ (show (277 : Nat) ≠ 273 by decide)]
def lL_at_3 (t : zM) (a1 : Int32) (a2 : Int32) : Nat → Nat → Int32
  | 0, _ => 0
  | j + 1, i => (if (t (277) 1) ≤ nI i then (-1) else (if (t (271) (4 * i + 0)) = a1 then (if (t (271) (4 * i + 1)) = a2 then nI i else (lL_at_3 t a1 a2 j (i + 1))) else (lL_at_3 t a1 a2 j (i + 1))))
def rL_at (t : zM) (a1 : Int32) (a2 : Int32) : Int32 := (lL_at_3 t a1 a2 17 0)
theorem hyL_at : yL_at.cls ≠ "java/lang/invoke/MethodHandle" ∧ yL_at.cls ≠ "java/lang/invoke/VarHandle" ∧ (parseMethodDescriptor yL_at.desc).map (fun d => d.parameters.length) = some 4 := by decide +kernel
set_option maxHeartbeats 3000000 in
set_option maxRecDepth 100000 in
theorem kL_at (l : Launch) (D : va_G) (cy : Nat → ClassId) (K : zK) (n : Nat) (ad : Nat → Nat) (hJ : zJ n ad) (t : zM) (a1 a2 : Int32) (H : Nat) (hW : zLw cy K n ad) (hm : lS H t) : zI l yL_at wsL_at 0 D cy K n ad t [.ref (ad (271)), .ref (ad (277)), .int a1, .int a2] (fun r t1 => r = rL_at t a1 a2 ∧ t1 = t) := by
  refine z_startI (cc := cL_at) (mL := 5) (ret := (some .int)) (own := RL) rfl (by decide +kernel) rfl hJ (Nat.le_of_ble_eq_true rfl) ?_
  intro p e s m args below meth c A hA Q hQ C
  refine z_iconst C 0 (v := 0) dL_at_0 (by decide +kernel) ?_
  refine z_istore C 1 4 ([(4, .int 0), (0, .ref (ad (271))), (1, .ref (ad (277))), (2, .int a1), (3, .int a2)]) dL_at_1 (by decide) rfl ?_
  have L3 : ∀ (j : Nat) (i : Nat), (h0_3 : 17 ≤ i + j) → (hi : i ≤ H) → (hI3 : rL_at t a1 a2 = (lL_at_3 t a1 a2 j i)) → Zw p l e (zR 0) s m args below meth c D A K n ad 5 Q 3 ([(4, .int (nI i)), (0, .ref (ad (271))), (1, .ref (ad (277))), (2, .int a1), (3, .int a2)]) [] t := by
    intro j
    induction j with
    | zero =>
      intro i h0_3 hi hI3
      exact absurd h0_3 (by have := hm.1; omega)
    | succ j ih3 =>
      intro i h0_3 hi hI3
      refine z_iload C 3 4 0 dL_at_3 rfl ?_
      refine z_aload_n C 5 1 2 dL_at_5 rfl rfl ?_
      refine z_iconst C 6 (v := 1) dL_at_6 (by decide +kernel) ?_
      refine z_ialdN C 7 (277) 1 dL_at_7 hW.h277 hW.e277 rfl (by decide) (by decide) ?_
      refine z_icmp_ge C 8 42 dL_at_8 (by decide) (fun c8_1 => ?_) (fun c8_1 => ?_)
      · refine z_iconst C 42 (v := (-1)) dL_at_42 (by decide +kernel) ?_
        exact z_iret C 43 hA hQ rfl dL_at_43 ⟨((hI3.trans ((if_pos c8_1).trans rfl))).symm, rfl⟩
      · refine z_aload_n C 11 0 1 dL_at_11 rfl rfl ?_
        refine z_iconst C 12 (v := 4) dL_at_12 (by decide +kernel) ?_
        refine z_iload C 13 4 0 dL_at_13 rfl ?_
        refine z_imul C 15 dL_at_15 ?_
        refine z_ialdN C 16 (271) (4 * i + 0) dL_at_16 hW.h271 hW.e271 (nI_mul 4 i) (by have := (Nat.lt_of_lt_of_le (hm.lt hi ‹¬ t (277) 1 ≤ nI i›) hm.1); omega) (by decide) ?_
        refine z_iload_n C 17 2 3 dL_at_17 rfl rfl ?_
        refine z_icmp_ne C 18 36 dL_at_18 (by decide) (fun c18_2 => ?_) (fun c18_2 => ?_)
        · refine z_iinc C 36 (v := nI (i + 1)) 4 0 ([(4, .int (nI (i + 1))), (0, .ref (ad (271))), (1, .ref (ad (277))), (2, .int a1), (3, .int a2)]) dL_at_36 rfl (nI_1 _) (by decide) rfl ?_
          refine z_goto C 39 3 dL_at_39 (by decide) ?_
          refine z_ls [0, 1, 2, 3, 4] _ rfl ?_
          exact ih3 (i + 1) (by omega) (hm.lt hi ‹¬ t (277) 1 ≤ nI i›) (hI3.trans ((if_neg c8_1).trans ((if_neg c18_2).trans rfl)))
        · refine z_aload_n C 21 0 1 dL_at_21 rfl rfl ?_
          refine z_iconst C 22 (v := 4) dL_at_22 (by decide +kernel) ?_
          refine z_iload C 23 4 0 dL_at_23 rfl ?_
          refine z_imul C 25 dL_at_25 ?_
          refine z_iconst C 26 (v := 1) dL_at_26 (by decide +kernel) ?_
          refine z_iadd C 27 dL_at_27 ?_
          refine z_ialdN C 28 (271) (4 * i + 1) dL_at_28 hW.h271 hW.e271 (lx4 i 1) (by have := (Nat.lt_of_lt_of_le (hm.lt hi ‹¬ t (277) 1 ≤ nI i›) hm.1); omega) (by decide) ?_
          refine z_iload_n C 29 3 4 dL_at_29 rfl rfl ?_
          refine z_icmp_ne C 30 36 dL_at_30 (by decide) (fun c30_3 => ?_) (fun c30_3 => ?_)
          · refine z_iinc C 36 (v := nI (i + 1)) 4 0 ([(4, .int (nI (i + 1))), (0, .ref (ad (271))), (1, .ref (ad (277))), (2, .int a1), (3, .int a2)]) dL_at_36 rfl (nI_1 _) (by decide) rfl ?_
            refine z_goto C 39 3 dL_at_39 (by decide) ?_
            refine z_ls [0, 1, 2, 3, 4] _ rfl ?_
            exact ih3 (i + 1) (by omega) (hm.lt hi ‹¬ t (277) 1 ≤ nI i›) (hI3.trans ((if_neg c8_1).trans ((if_pos c18_2).trans ((if_neg c30_3).trans rfl))))
          · refine z_iload C 33 4 0 dL_at_33 rfl ?_
            exact z_iret C 35 hA hQ rfl dL_at_35 ⟨((hI3.trans ((if_neg c8_1).trans ((if_pos c18_2).trans ((if_pos c30_3).trans rfl))))).symm, rfl⟩
  refine z_ls [0, 1, 2, 3, 4] _ rfl ?_
  exact L3 (17) 0 (by omega) (Nat.zero_le _) rfl
theorem rL_at_lt {H : Nat} {t : zM} (h : lS H t) (a1 a2 : Int32) : rL_at t a1 a2 = -1 ∨ ∃ k, k < H ∧ rL_at t a1 a2 = nI k := by
  have key : ∀ (j i : Nat), 17 ≤ i + j → i ≤ H → lL_at_3 t a1 a2 j i = -1 ∨ ∃ k, k < H ∧ lL_at_3 t a1 a2 j i = nI k := by
    intro j
    induction j with
    | zero => intro i h0 hi; have := h.1; omega
    | succ j ih =>
      intro i h0 hi
      unfold lL_at_3
      split
      · exact Or.inl rfl
      · have hlt : i < H := h.lt hi (by assumption)
        split
        · split
          · exact Or.inr ⟨i, hlt, rfl⟩
          · exact ih _ (by omega) hlt
        · exact ih _ (by omega) hlt
  exact key 17 0 (by decide) (Nat.zero_le _)
def lL_round_92 (t : zM) (q : Nat) : Nat → Nat → Nat → Nat → zM → Int32
  | 0, _, _, _, _ => 0
  | j2 + 1, i, nn, g, w => (if nI nn ≤ nI i then nI nn else (lL_round_92 t q j2 (i + 1) nn g (zset w (275) (4 + i) (w (275) (24 + (g + i) % nn)))))
def lsL_round_92 (t : zM) (q : Nat) : Nat → Nat → Nat → Nat → zM → zM
  | 0, _, _, _, w => w
  | j2 + 1, i, nn, g, w => (if nI nn ≤ nI i then w else (lsL_round_92 t q j2 (i + 1) nn g (zset w (275) (4 + i) (w (275) (24 + (g + i) % nn)))))
def lL_round_9 (t : zM) (q : Nat) : Nat → Nat → Nat → Nat → zM → Int32
  | 0, _, _, _, _ => 0
  | j1 + 1, k, nn, g, u => (if 20 ≤ nI k then (lL_round_92 t q 21 0 nn g u) else (if (rL_at u (nI q) (if 10 ≤ nI k then (40 - (2 * nI k)) else ((2 * nI k) + 1))) < 0 then (lL_round_9 t q j1 (k + 1) nn g u) else (if (u (275) q) = ((rL_at u (nI q) (if 10 ≤ nI k then (40 - (2 * nI k)) else ((2 * nI k) + 1))) + 1) then (lL_round_9 t q j1 (k + 1) (nn + 1) (nn + 1) (zset u (275) (24 + nn) (rL_at u (nI q) (if 10 ≤ nI k then (40 - (2 * nI k)) else ((2 * nI k) + 1))))) else (lL_round_9 t q j1 (k + 1) (nn + 1) g (zset u (275) (24 + nn) (rL_at u (nI q) (if 10 ≤ nI k then (40 - (2 * nI k)) else ((2 * nI k) + 1))))))))
def lsL_round_9 (t : zM) (q : Nat) : Nat → Nat → Nat → Nat → zM → zM
  | 0, _, _, _, u => u
  | j1 + 1, k, nn, g, u => (if 20 ≤ nI k then (lsL_round_92 t q 21 0 nn g u) else (if (rL_at u (nI q) (if 10 ≤ nI k then (40 - (2 * nI k)) else ((2 * nI k) + 1))) < 0 then (lsL_round_9 t q j1 (k + 1) nn g u) else (if (u (275) q) = ((rL_at u (nI q) (if 10 ≤ nI k then (40 - (2 * nI k)) else ((2 * nI k) + 1))) + 1) then (lsL_round_9 t q j1 (k + 1) (nn + 1) (nn + 1) (zset u (275) (24 + nn) (rL_at u (nI q) (if 10 ≤ nI k then (40 - (2 * nI k)) else ((2 * nI k) + 1))))) else (lsL_round_9 t q j1 (k + 1) (nn + 1) g (zset u (275) (24 + nn) (rL_at u (nI q) (if 10 ≤ nI k then (40 - (2 * nI k)) else ((2 * nI k) + 1))))))))
def rL_round (t : zM) (q : Nat) : Int32 := (lL_round_9 t q 21 0 0 0 t)
def sL_round (t : zM) (q : Nat) : zM := (lsL_round_9 t q 21 0 0 0 t)
theorem hyL_round : yL_round.cls ≠ "java/lang/invoke/MethodHandle" ∧ yL_round.cls ≠ "java/lang/invoke/VarHandle" ∧ (parseMethodDescriptor yL_round.desc).map (fun d => d.parameters.length) = some 4 := by decide +kernel
set_option maxHeartbeats 3000000 in
set_option maxRecDepth 100000 in
theorem kL_round (l : Launch) (D : va_G) (cy : Nat → ClassId) (K : zK) (n : Nat) (ad : Nat → Nat) (hJ : zJ n ad) (t : zM) (q H : Nat) (hW : zLw cy K n ad) (hq : q < 4) (hm0 : lS H t) : zI l yL_round wsL_round 1 D cy K n ad t [.ref (ad (271)), .ref (ad (275)), .ref (ad (277)), .int (nI q)] (fun r t1 => r = rL_round t q ∧ t1 = sL_round t q) := by
  refine z_startI (cc := cL_round) (mL := 8) (ret := (some .int)) (own := RL) rfl (by decide +kernel) rfl hJ (Nat.le_of_ble_eq_true rfl) ?_
  intro p e s m args below meth c A hA Q hQ C
  refine z_iconst C 0 (v := 0) dL_round_0 (by decide +kernel) ?_
  refine z_istore C 1 4 ([(4, .int 0), (0, .ref (ad (271))), (1, .ref (ad (275))), (2, .ref (ad (277))), (3, .int (nI q))]) dL_round_1 (by decide) rfl ?_
  refine z_iconst C 3 (v := 0) dL_round_3 (by decide +kernel) ?_
  refine z_istore C 4 5 ([(5, .int 0), (4, .int 0), (0, .ref (ad (271))), (1, .ref (ad (275))), (2, .ref (ad (277))), (3, .int (nI q))]) dL_round_4 (by decide) rfl ?_
  refine z_iconst C 6 (v := 0) dL_round_6 (by decide +kernel) ?_
  refine z_istore C 7 6 ([(6, .int 0), (5, .int 0), (4, .int 0), (0, .ref (ad (271))), (1, .ref (ad (275))), (2, .ref (ad (277))), (3, .int (nI q))]) dL_round_7 (by decide) rfl ?_
  have L9 : ∀ (j1 : Nat) (k : Nat) (nn : Nat) (g : Nat) (u : zM), (h0_9 : 21 ≤ k + j1) → (hk : k ≤ 20) → (hn : nn ≤ k) → (hg : g ≤ nn) → (hm : lS H u) → (hI9 : rL_round t q = (lL_round_9 t q j1 k nn g u)) → (hS9 : sL_round t q = (lsL_round_9 t q j1 k nn g u)) → Zw p l e (zR 1) s m args below meth c D A K n ad 8 Q 9 ([(6, .int (nI k)), (4, .int (nI nn)), (5, .int (nI g)), (0, .ref (ad (271))), (1, .ref (ad (275))), (2, .ref (ad (277))), (3, .int (nI q))]) [] u := by
    intro j1
    induction j1 with
    | zero =>
      intro k nn g u h0_9 hk hn hg hm hI9 hS9
      exact absurd h0_9 (by omega)
    | succ j1 ih9 =>
      intro k nn g u h0_9 hk hn hg hm hI9 hS9
      refine z_iload C 9 6 0 dL_round_9 rfl ?_
      refine z_bipush C 11 (v := 20) dL_round_11 (by decide +kernel) ?_
      refine z_icmp_ge C 13 89 dL_round_13 (by decide) (fun c13_1 => ?_) (fun c13_1 => ?_)
      · refine z_iconst C 89 (v := 0) dL_round_89 (by decide +kernel) ?_
        refine z_istore C 90 6 ([(6, .int 0), (4, .int (nI nn)), (5, .int (nI g)), (0, .ref (ad (271))), (1, .ref (ad (275))), (2, .ref (ad (277))), (3, .int (nI q))]) dL_round_90 (by decide) rfl ?_
        have L92 : ∀ (j2 : Nat) (i : Nat) (nn : Nat) (g : Nat) (w : zM), (h0_92 : 21 ≤ i + j2) → (hi : i ≤ nn) → (hn2 : nn ≤ 20) → (hg2 : g ≤ nn) → (hI92 : rL_round t q = (lL_round_92 t q j2 i nn g w)) → (hS92 : sL_round t q = (lsL_round_92 t q j2 i nn g w)) → Zw p l e (zR 1) s m args below meth c D A K n ad 8 Q 92 ([(6, .int (nI i)), (4, .int (nI nn)), (5, .int (nI g)), (0, .ref (ad (271))), (1, .ref (ad (275))), (2, .ref (ad (277))), (3, .int (nI q))]) [] w := by
          intro j2
          induction j2 with
          | zero =>
            intro i nn g w h0_92 hi hn2 hg2 hI92 hS92
            exact absurd h0_92 (by omega)
          | succ j2 ih92 =>
            intro i nn g w h0_92 hi hn2 hg2 hI92 hS92
            refine z_iload C 92 6 0 dL_round_92 rfl ?_
            refine z_iload C 94 4 1 dL_round_94 rfl ?_
            refine z_icmp_ge C 96 124 dL_round_96 (by decide) (fun c96_2 => ?_) (fun c96_2 => ?_)
            · refine z_iload C 124 4 1 dL_round_124 rfl ?_
              exact z_iret C 126 hA hQ rfl dL_round_126 ⟨((hI92.trans ((if_pos c96_2).trans rfl))).symm, ((hS92.trans ((if_pos c96_2).trans rfl))).symm⟩
            · refine z_aload_n C 99 1 4 dL_round_99 rfl rfl ?_
              refine z_iconst C 100 (v := 4) dL_round_100 (by decide +kernel) ?_
              refine z_iload C 101 6 0 dL_round_101 rfl ?_
              refine z_iadd C 103 dL_round_103 ?_
              refine z_aload_n C 104 1 4 dL_round_104 rfl rfl ?_
              refine z_bipush C 105 (v := 24) dL_round_105 (by decide +kernel) ?_
              refine z_iload C 107 5 2 dL_round_107 rfl ?_
              refine z_iload C 109 6 0 dL_round_109 rfl ?_
              refine z_iadd C 111 dL_round_111 ?_
              refine z_iload C 112 4 1 dL_round_112 rfl ?_
              refine z_irem C 114 dL_round_114 (fun e9 => by have h9 := (zge (a := i) (b := nn) (by omega) (by omega) ‹¬ nI nn ≤ nI i›); have h8 := (nI_eq (b := 0) (by omega) (by decide)).mp e9; omega) ?_
              refine z_iadd C 115 dL_round_115 ?_
              refine z_ialdN C 116 (275) (24 + (g + i) % nn) dL_round_116 hW.h275 hW.e275 (by have h9 := (zge (a := i) (b := nn) (by omega) (by omega) ‹¬ nI nn ≤ nI i›); rw [show zrem (nI g + nI i) (nI nn) = nI ((g + i) % nn) from (congrArg (fun z9 => zrem z9 (nI nn)) (nI_add g i)).trans (zrem_n (by omega) (by omega) (by omega))]; exact nI_add 24 _) (by have h9 := (zge (a := i) (b := nn) (by omega) (by omega) ‹¬ nI nn ≤ nI i›); have := Nat.mod_lt (g + i) (show 0 < nn by omega); omega) (by decide) ?_
              refine z_iastN C 117 (275) (4 + i) dL_round_117 hW.h275 hW.e275 (nI_add 4 i) (by have := (zge (a := i) (b := nn) (by omega) (by omega) ‹¬ nI nn ≤ nI i›); omega) (by decide) ?_
              refine z_iinc C 118 (v := nI (i + 1)) 6 0 ([(6, .int (nI (i + 1))), (4, .int (nI nn)), (5, .int (nI g)), (0, .ref (ad (271))), (1, .ref (ad (275))), (2, .ref (ad (277))), (3, .int (nI q))]) dL_round_118 rfl (nI_1 _) (by decide) rfl ?_
              refine z_goto C 121 92 dL_round_121 (by decide) ?_
              refine z_ls [0, 1, 2, 3, 4, 5, 6] _ rfl ?_
              exact ih92 (i + 1) nn g (zset w (275) (4 + i) (w (275) (24 + (g + i) % nn))) (by omega) (zge (a := i) (b := nn) (by omega) (by omega) ‹¬ nI nn ≤ nI i›) hn2 hg2 (hI92.trans ((if_neg c96_2).trans rfl)) (hS92.trans ((if_neg c96_2).trans rfl))
        refine z_ls [0, 1, 2, 3, 4, 5, 6] _ rfl ?_
        exact L92 (21) 0 nn g u (by omega) (Nat.zero_le _) (by omega) hg (hI9.trans ((if_pos c13_1).trans rfl)) (hS9.trans ((if_pos c13_1).trans rfl))
      · refine z_aload_n C 16 0 3 dL_round_16 rfl rfl ?_
        refine z_aload_n C 17 2 5 dL_round_17 rfl rfl ?_
        refine z_iload_n C 18 3 6 dL_round_18 rfl rfl ?_
        refine z_iload C 19 6 0 dL_round_19 rfl ?_
        refine z_bipush C 21 (v := 10) dL_round_21 (by decide +kernel) ?_
        have M23_4 : Zw p l e (zR 1) s m args below meth c D A K n ad 8 Q 42 ([(6, .int (nI k)), (4, .int (nI nn)), (5, .int (nI g)), (0, .ref (ad (271))), (1, .ref (ad (275))), (2, .ref (ad (277))), (3, .int (nI q))]) [.int (if 10 ≤ nI k then (40 - (2 * nI k)) else ((2 * nI k) + 1)), .int (nI q), .ref (ad (277)), .ref (ad (271))] u := by
          refine z_statIe C 42 (As := [.ref (ad (271)), .ref (ad (277)), .int (nI q), .int (if 10 ≤ nI k then (40 - (2 * nI k)) else ((2 * nI k) + 1))]) (st := []) (kL_at l D cy K n ad hJ u (nI q) (if 10 ≤ nI k then (40 - (2 * nI k)) else ((2 * nI k) + 1)) H hW hm) dL_round_42 rfl gL_round_L_at hyL_at rfl (by decide) (by decide) rfl rfl (Nat.le_of_ble_eq_true rfl) ?_
          refine z_istore C 45 7 ([(7, .int (rL_at u (nI q) (if 10 ≤ nI k then (40 - (2 * nI k)) else ((2 * nI k) + 1)))), (6, .int (nI k)), (4, .int (nI nn)), (5, .int (nI g)), (0, .ref (ad (271))), (1, .ref (ad (275))), (2, .ref (ad (277))), (3, .int (nI q))]) dL_round_45 (by decide) rfl ?_
          refine z_iload C 47 7 0 dL_round_47 rfl ?_
          refine z_if_lt C 49 83 dL_round_49 (by decide) (fun c49_6 => ?_) (fun c49_6 => ?_)
          · refine z_iinc C 83 (v := nI (k + 1)) 6 1 ([(6, .int (nI (k + 1))), (7, .int (rL_at u (nI q) (if 10 ≤ nI k then (40 - (2 * nI k)) else ((2 * nI k) + 1)))), (4, .int (nI nn)), (5, .int (nI g)), (0, .ref (ad (271))), (1, .ref (ad (275))), (2, .ref (ad (277))), (3, .int (nI q))]) dL_round_83 rfl (nI_1 _) (by decide) rfl ?_
            refine z_goto C 86 9 dL_round_86 (by decide) ?_
            refine z_ls [0, 2, 3, 4, 5, 6, 7] _ rfl ?_
            exact ih9 (k + 1) nn g u (by omega) (by have := (zge (b := 20) (by omega) (by decide) ‹¬ (20 : Int32) ≤ nI k›); omega) (by omega) (by omega) hm (hI9.trans ((if_neg c13_1).trans ((if_pos c49_6).trans rfl))) (hS9.trans ((if_neg c13_1).trans ((if_pos c49_6).trans rfl)))
          · refine z_aload_n C 52 1 5 dL_round_52 rfl rfl ?_
            refine z_bipush C 53 (v := 24) dL_round_53 (by decide +kernel) ?_
            refine z_iload C 55 4 2 dL_round_55 rfl ?_
            refine z_iadd C 57 dL_round_57 ?_
            refine z_iload C 58 7 0 dL_round_58 rfl ?_
            refine z_iastN C 60 (275) (24 + nn) dL_round_60 hW.h275 hW.e275 (nI_add 24 nn) (by have := (zge (b := 20) (by omega) (by decide) ‹¬ (20 : Int32) ≤ nI k›); omega) (by decide) ?_
            refine z_iinc C 61 (v := nI (nn + 1)) 4 2 ([(4, .int (nI (nn + 1))), (7, .int (rL_at u (nI q) (if 10 ≤ nI k then (40 - (2 * nI k)) else ((2 * nI k) + 1)))), (6, .int (nI k)), (5, .int (nI g)), (0, .ref (ad (271))), (1, .ref (ad (275))), (2, .ref (ad (277))), (3, .int (nI q))]) dL_round_61 rfl (nI_1 _) (by decide) rfl ?_
            refine z_aload_n C 64 1 5 dL_round_64 rfl rfl ?_
            refine z_iload_n C 65 3 7 dL_round_65 rfl rfl ?_
            refine z_ialdN C 66 (275) q dL_round_66 hW.h275 hW.e275 rfl (by omega) (by decide) ?_
            refine z_nv (u (275) q) ((zset_nk _ _ _ (by omega)).trans rfl) ?_
            refine z_iload C 67 7 1 dL_round_67 rfl ?_
            refine z_iconst C 69 (v := 1) dL_round_69 (by decide +kernel) ?_
            refine z_iadd C 70 dL_round_70 ?_
            refine z_icmp_ne C 71 79 dL_round_71 (by decide) (fun c71_7 => ?_) (fun c71_7 => ?_)
            · refine z_iload C 79 5 3 dL_round_79 rfl ?_
              refine z_istore C 81 5 ([(5, .int (nI g)), (4, .int (nI (nn + 1))), (7, .int (rL_at u (nI q) (if 10 ≤ nI k then (40 - (2 * nI k)) else ((2 * nI k) + 1)))), (6, .int (nI k)), (0, .ref (ad (271))), (1, .ref (ad (275))), (2, .ref (ad (277))), (3, .int (nI q))]) dL_round_81 (by decide) rfl ?_
              refine z_iinc C 83 (v := nI (k + 1)) 6 3 ([(6, .int (nI (k + 1))), (5, .int (nI g)), (4, .int (nI (nn + 1))), (7, .int (rL_at u (nI q) (if 10 ≤ nI k then (40 - (2 * nI k)) else ((2 * nI k) + 1)))), (0, .ref (ad (271))), (1, .ref (ad (275))), (2, .ref (ad (277))), (3, .int (nI q))]) dL_round_83 rfl (nI_1 _) (by decide) rfl ?_
              refine z_goto C 86 9 dL_round_86 (by decide) ?_
              refine z_ls [0, 2, 1, 4, 5, 6, 7] _ rfl ?_
              exact ih9 (k + 1) (nn + 1) g (zset u (275) (24 + nn) (rL_at u (nI q) (if 10 ≤ nI k then (40 - (2 * nI k)) else ((2 * nI k) + 1)))) (by omega) (by have := (zge (b := 20) (by omega) (by decide) ‹¬ (20 : Int32) ≤ nI k›); omega) (by omega) (by omega) (hm.fr (zset_idk _ _ _ _ (by decide))) (hI9.trans ((if_neg c13_1).trans ((if_neg c49_6).trans ((if_neg c71_7).trans rfl)))) (hS9.trans ((if_neg c13_1).trans ((if_neg c49_6).trans ((if_neg c71_7).trans rfl))))
            · refine z_iload C 74 4 0 dL_round_74 rfl ?_
              refine z_goto C 76 81 dL_round_76 (by decide) ?_
              refine z_istore C 81 5 ([(5, .int (nI (nn + 1))), (4, .int (nI (nn + 1))), (7, .int (rL_at u (nI q) (if 10 ≤ nI k then (40 - (2 * nI k)) else ((2 * nI k) + 1)))), (6, .int (nI k)), (0, .ref (ad (271))), (1, .ref (ad (275))), (2, .ref (ad (277))), (3, .int (nI q))]) dL_round_81 (by decide) rfl ?_
              refine z_iinc C 83 (v := nI (k + 1)) 6 3 ([(6, .int (nI (k + 1))), (5, .int (nI (nn + 1))), (4, .int (nI (nn + 1))), (7, .int (rL_at u (nI q) (if 10 ≤ nI k then (40 - (2 * nI k)) else ((2 * nI k) + 1)))), (0, .ref (ad (271))), (1, .ref (ad (275))), (2, .ref (ad (277))), (3, .int (nI q))]) dL_round_83 rfl (nI_1 _) (by decide) rfl ?_
              refine z_goto C 86 9 dL_round_86 (by decide) ?_
              refine z_ls [0, 2, 1, 4, 5, 6, 7] _ rfl ?_
              exact ih9 (k + 1) (nn + 1) (nn + 1) (zset u (275) (24 + nn) (rL_at u (nI q) (if 10 ≤ nI k then (40 - (2 * nI k)) else ((2 * nI k) + 1)))) (by omega) (by have := (zge (b := 20) (by omega) (by decide) ‹¬ (20 : Int32) ≤ nI k›); omega) (by omega) (by omega) (hm.fr (zset_idk _ _ _ _ (by decide))) (hI9.trans ((if_neg c13_1).trans ((if_neg c49_6).trans ((if_pos c71_7).trans rfl)))) (hS9.trans ((if_neg c13_1).trans ((if_neg c49_6).trans ((if_pos c71_7).trans rfl))))
        refine z_icmp_ge C 23 35 dL_round_23 (by decide) (fun c23_3 => ?_) (fun c23_3 => ?_)
        · refine z_bipush C 35 (v := 40) dL_round_35 (by decide +kernel) ?_
          refine z_iconst C 37 (v := 2) dL_round_37 (by decide +kernel) ?_
          refine z_iload C 38 6 0 dL_round_38 rfl ?_
          refine z_imul C 40 dL_round_40 ?_
          refine z_isub C 41 dL_round_41 ?_
          exact z_nv (if 10 ≤ nI k then (40 - (2 * nI k)) else ((2 * nI k) + 1)) (((if_pos c23_3).trans rfl)).symm M23_4
        · refine z_iconst C 26 (v := 2) dL_round_26 (by decide +kernel) ?_
          refine z_iload C 27 6 0 dL_round_27 rfl ?_
          refine z_imul C 29 dL_round_29 ?_
          refine z_iconst C 30 (v := 1) dL_round_30 (by decide +kernel) ?_
          refine z_iadd C 31 dL_round_31 ?_
          refine z_goto C 32 42 dL_round_32 (by decide) ?_
          exact z_nv (if 10 ≤ nI k then (40 - (2 * nI k)) else ((2 * nI k) + 1)) (((if_neg c23_3).trans rfl)).symm M23_4
  refine z_ls [0, 2, 1, 3, 4, 5, 6] _ rfl ?_
  exact L9 (21) 0 0 0 t (by omega) (by decide) (by decide) (by decide) hm0 rfl rfl
theorem lsL_round_92_o (t : zM) (q : Nat) {x y : Nat} (h : x ≠ 275 ∨ y < 4) : ∀ (j i n g : Nat) (w : zM), lsL_round_92 t q j i n g w x y = w x y := by
  intro j
  induction j with
  | zero => intro i n g w; rfl
  | succ j ih =>
    intro i n g w
    unfold lsL_round_92
    split
    · rfl
    · rw [ih]
      rcases h with h | h
      · exact zset_idk _ _ _ _ h
      · by_cases e : x = 275
        · subst e
          exact zset_nk _ _ _ (by omega)
        · exact zset_idk _ _ _ _ e
theorem lsL_round_9_o (t : zM) (q : Nat) {x y : Nat} (h : x ≠ 275 ∨ y < 4) : ∀ (j k n g : Nat) (u : zM), lsL_round_9 t q j k n g u x y = u x y := by
  intro j
  induction j with
  | zero => intro k n g u; rfl
  | succ j ih =>
    intro k n g u
    have e : ∀ v : Int32, zset u 275 (24 + n) v x y = u x y := fun v => by
      rcases h with h | h
      · exact zset_idk _ _ _ _ h
      · by_cases e : x = 275
        · subst e
          exact zset_nk _ _ _ (by omega)
        · exact zset_idk _ _ _ _ e
    unfold lsL_round_9
    repeat' split
    all_goals first
      | exact lsL_round_92_o t q h _ _ _ _ _
      | exact ih _ _ _ _
      | exact (ih _ _ _ _).trans (e _)
/-- a round writes w from 4 on alone -/
theorem sL_round_o (t : zM) (q : Nat) {x y : Nat} (h : x ≠ 275 ∨ y < 4) : sL_round t q x y = t x y := lsL_round_9_o t q h _ _ _ _ _
