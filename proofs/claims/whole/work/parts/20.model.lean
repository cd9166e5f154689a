/-! the reference by ids: 0: the object; 1 s, 2 past, 3 held, 4 spare, 5 text, 6 round, 7 numbers -/
def zModel (cy : Nat → ClassId) (K : zK) (n : Nat) (ad : Nat → Nat) : Prop := 7 < n ∧ (∀ f, K ad 0 f = .inr (7, [.ref (ad 1), .ref (ad 2), .ref (ad 3), .ref (ad 4), .int (f 4), .int (f 5), .ref (ad 5), .int (f 7), .ref (ad 6), .int (f 9), .int (f 10), .int (f 11), .int (f 12), .int (f 13), .int (f 14), .ref (ad 7)])) ∧ (∀ f, K ad 1 f = .inl (cy 0, 414, .inl f)) ∧ (∀ f, K ad 2 f = .inl (cy 0, 1656, .inl f)) ∧ (∀ f, K ad 3 f = .inl (cy 0, 414, .inl f)) ∧ (∀ f, K ad 4 f = .inl (cy 0, 414, .inl f)) ∧ (∀ f, K ad 5 f = .inl (cy 0, 60, .inl f)) ∧ (∀ f, K ad 6 f = .inl (cy 0, 24, .inl f)) ∧ (∀ f, K ad 7 f = .inl (cy 0, 2, .inl f))
section ZMO
variable {cy : Nat → ClassId} {K : zK} {n : Nat} {ad : Nat → Nat}
theorem zModel.h0 (h : zModel cy K n ad) : 0 < n := Nat.lt_of_le_of_lt (by decide) h.1
theorem zModel.h1 (h : zModel cy K n ad) : 1 < n := Nat.lt_of_le_of_lt (by decide) h.1
theorem zModel.h2 (h : zModel cy K n ad) : 2 < n := Nat.lt_of_le_of_lt (by decide) h.1
theorem zModel.h3 (h : zModel cy K n ad) : 3 < n := Nat.lt_of_le_of_lt (by decide) h.1
theorem zModel.h4 (h : zModel cy K n ad) : 4 < n := Nat.lt_of_le_of_lt (by decide) h.1
theorem zModel.h5 (h : zModel cy K n ad) : 5 < n := Nat.lt_of_le_of_lt (by decide) h.1
theorem zModel.h6 (h : zModel cy K n ad) : 6 < n := Nat.lt_of_le_of_lt (by decide) h.1
theorem zModel.h7 (h : zModel cy K n ad) : 7 < n := Nat.lt_of_le_of_lt (by decide) h.1
theorem zModel.e0 (h : zModel cy K n ad) : ∀ f, K ad 0 f = .inr (7, [.ref (ad 1), .ref (ad 2), .ref (ad 3), .ref (ad 4), .int (f 4), .int (f 5), .ref (ad 5), .int (f 7), .ref (ad 6), .int (f 9), .int (f 10), .int (f 11), .int (f 12), .int (f 13), .int (f 14), .ref (ad 7)]) := h.2.1
theorem zModel.e1 (h : zModel cy K n ad) : ∀ f, K ad 1 f = .inl (cy 0, 414, .inl f) := h.2.2.1
theorem zModel.e2 (h : zModel cy K n ad) : ∀ f, K ad 2 f = .inl (cy 0, 1656, .inl f) := h.2.2.2.1
theorem zModel.e3 (h : zModel cy K n ad) : ∀ f, K ad 3 f = .inl (cy 0, 414, .inl f) := h.2.2.2.2.1
theorem zModel.e4 (h : zModel cy K n ad) : ∀ f, K ad 4 f = .inl (cy 0, 414, .inl f) := h.2.2.2.2.2.1
theorem zModel.e5 (h : zModel cy K n ad) : ∀ f, K ad 5 f = .inl (cy 0, 60, .inl f) := h.2.2.2.2.2.2.1
theorem zModel.e6 (h : zModel cy K n ad) : ∀ f, K ad 6 f = .inl (cy 0, 24, .inl f) := h.2.2.2.2.2.2.2.1
theorem zModel.e7 (h : zModel cy K n ad) : ∀ f, K ad 7 f = .inl (cy 0, 2, .inl f) := h.2.2.2.2.2.2.2.2
end ZMO
/-- what the walks of the reference need of its numbers -/
def mS (H N : Nat) (t : zM) : Prop := H ≤ 24 ∧ t 1 401 = nI H ∧ t 1 400 = nI N ∧ (∀ q, q < 4 → ∃ w, w ≤ 24 ∧ t 1 (336 + q) = nI w) ∧ (∀ k, k < 24 → ∃ w, w < 24 ∧ t 6 k = nI w) ∧ ¬ t 1 413 = 0
theorem mS.lt {H N k : Nat} {t : zM} (h : mS H N t) (hk : k ≤ 24) (c : ¬ t 1 401 ≤ nI k) : k < H := by
  rw [h.2.1] at c
  have := h.1
  exact zge (by omega) (by omega) c
theorem mS.rnd {H N k : Nat} {t : zM} (h : mS H N t) (hk : k < 24) : (t 6 k).toNatClampNeg < 24 ∧ t 6 k = nI (t 6 k).toNatClampNeg := by
  obtain ⟨w, hw, e⟩ := h.2.2.2.2.1 k hk
  rw [e, nI_clamp (by omega)]
  exact ⟨hw, rfl⟩
/-- puts that leave them alone -/
theorem mS_set1 {H N i : Nat} {t : zM} {v : Int32} (h : mS H N t) (h1 : i ≠ 401) (h2 : i ≠ 400) (h3 : i < 336 ∨ 340 ≤ i) (h4 : i ≠ 413) : mS H N (zset t 1 i v) := by
  obtain ⟨a0, a1, a2, a3, a4, a5⟩ := h
  refine ⟨a0, ?_, ?_, fun q hq => ?_, fun k hk => ?_, ?_⟩
  · rw [zset_nk _ _ _ (Ne.symm h1)]; exact a1
  · rw [zset_nk _ _ _ (Ne.symm h2)]; exact a2
  · rw [zset_nk _ _ _ (by omega)]; exact a3 q hq
  · rw [zset_idk _ _ _ _ (by decide)]; exact a4 k hk
  · rw [zset_nk _ _ _ (Ne.symm h4)]; exact a5
theorem mS_setW {H N q w : Nat} {t : zM} {v : Int32} (h : mS H N t) (hq : q < 4) (hv : v = nI w) (hw : w ≤ 24) : mS H N (zset t 1 (336 + q) v) := by
  obtain ⟨a0, a1, a2, a3, a4, a5⟩ := h
  refine ⟨a0, ?_, ?_, fun q2 hq2 => ?_, fun k hk => ?_, ?_⟩
  · rw [zset_nk _ _ _ (by omega)]; exact a1
  · rw [zset_nk _ _ _ (by omega)]; exact a2
  · by_cases e : q2 = q
    · subst e; rw [zset_eq]; exact ⟨w, hw, hv⟩
    · rw [zset_nk _ _ _ (by omega)]; exact a3 q2 hq2
  · rw [zset_idk _ _ _ _ (by decide)]; exact a4 k hk
  · rw [zset_nk _ _ _ (by omega)]; exact a5
theorem mS_setR {H N i w : Nat} {t : zM} {v : Int32} (h : mS H N t) (hv : v = nI w) (hw : w < 24) : mS H N (zset t 6 i v) := by
  obtain ⟨a0, a1, a2, a3, a4, a5⟩ := h
  refine ⟨a0, ?_, ?_, fun q2 hq2 => ?_, fun k hk => ?_, ?_⟩
  · rw [zset_idk _ _ _ _ (by decide)]; exact a1
  · rw [zset_idk _ _ _ _ (by decide)]; exact a2
  · rw [zset_idk _ _ _ _ (by decide)]; exact a3 q2 hq2
  · by_cases e : k = i
    · subst e; rw [zset_eq]; exact ⟨w, hw, hv⟩
    · rw [zset_nk _ _ _ e]; exact a4 k hk
  · rw [zset_idk _ _ _ _ (by decide)]; exact a5
theorem mS_id {H N i id : Nat} {t : zM} {v : Int32} (h : mS H N t) (h1 : id ≠ 1) (h6 : id ≠ 6) : mS H N (zset t id i v) := by
  unfold mS
  rw [zset_id _ _ _ (Ne.symm h1), zset_id _ _ _ (Ne.symm h6)]
  exact h
theorem mS_now {H N : Nat} {t : zM} (h : mS H N t) : mS H (N + 1) (zset t 1 400 (t 1 400 + 1)) := by
  obtain ⟨a0, a1, a2, a3, a4, a5⟩ := h
  refine ⟨a0, ?_, ?_, fun q hq => ?_, fun k hk => ?_, ?_⟩
  · rw [zset_nk _ _ _ (by decide)]; exact a1
  · rw [zset_eq, a2]; exact nI_1 N
  · rw [zset_nk _ _ _ (by omega)]; exact a3 q hq
  · rw [zset_idk _ _ _ _ (by decide)]; exact a4 k hk
  · rw [zset_nk _ _ _ (by decide)]; exact a5
theorem ix14 {a1 a2 : Int32} {k w : Nat} (ha : a1 = nI k) (hw : a2 = nI w) : 14 * a1 + a2 = nI (14 * k + w) := by
  rw [ha, hw]
  exact (congrArg (· + nI w) (nI_mul 14 k)).trans (nI_add _ _)
def rX7_in (a1 : Int32) (a2 : Int32) (a3 : Int32) : Int32 := (if a1 < a2 then 0 else (if a3 < a1 then 0 else 1))
theorem hyX7_in : yX7_in.cls ≠ "java/lang/invoke/MethodHandle" ∧ yX7_in.cls ≠ "java/lang/invoke/VarHandle" ∧ (parseMethodDescriptor yX7_in.desc).map (fun d => d.parameters.length) = some 3 := by decide +kernel
set_option maxHeartbeats 3000000 in
set_option maxRecDepth 100000 in
theorem kX7_in (l : Launch) (D : va_G) (cy : Nat → ClassId) (K : zK) (n : Nat) (ad : Nat → Nat) (hJ : zJ n ad) (t : zM) (a1 : Int32) (a2 : Int32) (a3 : Int32)  : zI l yX7_in wsX7_in 0 D cy K n ad t [.int a1, .int a2, .int a3] (fun r t1 => r = rX7_in a1 a2 a3 ∧ t1 = t) := by
  refine z_startI (cc := cX7_in) (mL := 3) (ret := (some .boolean)) (own := RX7) rfl (by decide +kernel) rfl hJ (Nat.le_of_ble_eq_true rfl) ?_
  intro p e s m args below meth c A hA Q hQ C
  refine z_iload_n C 0 0 0 dX7_in_0 rfl rfl ?_
  refine z_iload_n C 1 1 1 dX7_in_1 rfl rfl ?_
  refine z_icmp_lt C 2 14 dX7_in_2 (by decide) (fun c2_1 => ?_) (fun c2_1 => ?_)
  · refine z_iconst C 14 (v := 0) dX7_in_14 (by decide +kernel) ?_
    exact z_zret C 15 hA hQ rfl (Or.inl rfl) dX7_in_15 ⟨((if_pos c2_1).trans rfl).symm, rfl⟩
  · refine z_iload_n C 5 0 0 dX7_in_5 rfl rfl ?_
    refine z_iload_n C 6 2 2 dX7_in_6 rfl rfl ?_
    refine z_icmp_gt C 7 14 dX7_in_7 (by decide) (fun c7_2 => ?_) (fun c7_2 => ?_)
    · refine z_iconst C 14 (v := 0) dX7_in_14 (by decide +kernel) ?_
      exact z_zret C 15 hA hQ rfl (Or.inl rfl) dX7_in_15 ⟨((if_neg c2_1).trans ((if_pos c7_2).trans rfl)).symm, rfl⟩
    · refine z_iconst C 10 (v := 1) dX7_in_10 (by decide +kernel) ?_
      refine z_goto C 11 15 dX7_in_11 (by decide) ?_
      exact z_zret C 15 hA hQ rfl (Or.inr rfl) dX7_in_15 ⟨((if_neg c2_1).trans ((if_neg c7_2).trans rfl)).symm, rfl⟩
theorem rX7_in_01 (a1 a2 a3 : Int32) : rX7_in a1 a2 a3 = 0 ∨ rX7_in a1 a2 a3 = 1 := by
  unfold rX7_in
  repeat' split
  all_goals simp
def rX7_of (t : zM) (k : Nat) (w : Nat) : Int32 := (t (1) (14 * k + w))
theorem mX7_of_f7 : Cond.fieldLink RX7 7 "WrongedMetersModel" "s" "[I" ∈ wsX7_of := by decide +kernel
set_option maxRecDepth 20000 in
theorem mX7_of_in7 : ∀ w ∈ u_ws RX7 TX7 16, w ∈ wsX7_of := by decide +kernel
theorem hyX7_of : yX7_of.cls = RX7 ∧ yX7_of.cls ≠ "java/lang/invoke/MethodHandle" ∧ yX7_of.cls ≠ "java/lang/invoke/VarHandle" ∧ (parseMethodDescriptor yX7_of.desc).map (fun d => d.parameters.length) = some 2 := by decide +kernel
set_option maxHeartbeats 3000000 in
set_option maxRecDepth 100000 in
theorem kX7_of (l : Launch) (D : va_G) (cy : Nat → ClassId) (K : zK) (n : Nat) (ad : Nat → Nat) (hJ : zJ n ad) (hO : zModel cy K n ad) (t : zM) (a1 a2 : Int32) (k w : Nat) (hk : k < 24) (hw9 : w < 14) (ha : a1 = nI k) (hw : a2 = nI w) : zI l yX7_of wsX7_of 0 D cy K n ad t [.ref (ad (0)), .int a1, .int a2] (fun r t1 => r = rX7_of t k w ∧ t1 = t) := by
  refine z_startI (cc := cX7_of) (mL := 3) (ret := (some .int)) (own := RX7) rfl (by decide +kernel) rfl hJ (Nat.le_of_ble_eq_true rfl) ?_
  intro p e s m args below meth c A hA Q hQ C
  refine z_aload_n C 0 0 0 dX7_of_0 rfl rfl ?_
  refine z_getr C 1 (a9 := ad (1)) (0) 0 dX7_of_1 hO.h0 hO.e0 mX7_of_in7 rfl (by decide) mX7_of_f7 (fun _ => rfl) ?_
  refine z_bipush C 4 (v := 14) dX7_of_4 (by decide +kernel) ?_
  refine z_iload_n C 6 1 1 dX7_of_6 rfl rfl ?_
  refine z_imul C 7 dX7_of_7 ?_
  refine z_iload_n C 8 2 2 dX7_of_8 rfl rfl ?_
  refine z_iadd C 9 dX7_of_9 ?_
  refine z_ialdN C 10 (1) (14 * k + w) dX7_of_10 hO.h1 hO.e1 (ix14 ha hw) (by omega) (by decide) ?_
  exact z_iret C 11 hA hQ rfl dX7_of_11 ⟨rfl, rfl⟩
def sX7_adds (t : zM) (k : Nat) (w : Nat) (a3 : Int32) : zM := (zset t (1) (14 * k + w) ((t (1) (14 * k + w)) + a3))
theorem mX7_adds_f7 : Cond.fieldLink RX7 7 "WrongedMetersModel" "s" "[I" ∈ wsX7_adds := by decide +kernel
set_option maxRecDepth 20000 in
theorem mX7_adds_in7 : ∀ w ∈ u_ws RX7 TX7 16, w ∈ wsX7_adds := by decide +kernel
theorem hyX7_adds : yX7_adds.cls = RX7 ∧ yX7_adds.cls ≠ "java/lang/invoke/MethodHandle" ∧ yX7_adds.cls ≠ "java/lang/invoke/VarHandle" ∧ (parseMethodDescriptor yX7_adds.desc).map (fun d => d.parameters.length) = some 3 := by decide +kernel
set_option maxHeartbeats 3000000 in
set_option maxRecDepth 100000 in
theorem kX7_adds (l : Launch) (D : va_G) (cy : Nat → ClassId) (K : zK) (n : Nat) (ad : Nat → Nat) (hJ : zJ n ad) (hO : zModel cy K n ad) (t : zM) (a1 a2 a3 : Int32) (k w : Nat) (hk : k < 24) (hw9 : w < 14) (ha : a1 = nI k) (hw : a2 = nI w) : zV l yX7_adds wsX7_adds 0 D cy K n ad t [.ref (ad (0)), .int a1, .int a2, .int a3] (fun t1 => t1 = sX7_adds t k w a3) := by
  refine z_startV (cc := cX7_adds) (mL := 4) (ret := none) (own := RX7) rfl (by decide +kernel) rfl hJ (Nat.le_of_ble_eq_true rfl) ?_
  intro p e s m args below meth c A hA Q hQ C
  refine z_aload_n C 0 0 0 dX7_adds_0 rfl rfl ?_
  refine z_getr C 1 (a9 := ad (1)) (0) 0 dX7_adds_1 hO.h0 hO.e0 mX7_adds_in7 rfl (by decide) mX7_adds_f7 (fun _ => rfl) ?_
  refine z_bipush C 4 (v := 14) dX7_adds_4 (by decide +kernel) ?_
  refine z_iload_n C 6 1 1 dX7_adds_6 rfl rfl ?_
  refine z_imul C 7 dX7_adds_7 ?_
  refine z_iload_n C 8 2 2 dX7_adds_8 rfl rfl ?_
  refine z_iadd C 9 dX7_adds_9 ?_
  refine z_dup2 C 10 dX7_adds_10 rfl rfl ?_
  refine z_ialdN C 11 (1) (14 * k + w) dX7_adds_11 hO.h1 hO.e1 (ix14 ha hw) (by omega) (by decide) ?_
  refine z_iload_n C 12 3 3 dX7_adds_12 rfl rfl ?_
  refine z_iadd C 13 dX7_adds_13 ?_
  refine z_iastN C 14 (1) (14 * k + w) dX7_adds_14 hO.h1 hO.e1 (ix14 ha hw) (by omega) (by decide) ?_
  exact z_vret C 15 hA hQ rfl dX7_adds_15 rfl
def sX7_lay (t : zM) (k : Nat) (w : Nat) (a3 : Int32) : zM := (zset t (1) (14 * k + w) a3)
theorem mX7_lay_f7 : Cond.fieldLink RX7 7 "WrongedMetersModel" "s" "[I" ∈ wsX7_lay := by decide +kernel
set_option maxRecDepth 20000 in
theorem mX7_lay_in7 : ∀ w ∈ u_ws RX7 TX7 16, w ∈ wsX7_lay := by decide +kernel
theorem hyX7_lay : yX7_lay.cls = RX7 ∧ yX7_lay.cls ≠ "java/lang/invoke/MethodHandle" ∧ yX7_lay.cls ≠ "java/lang/invoke/VarHandle" ∧ (parseMethodDescriptor yX7_lay.desc).map (fun d => d.parameters.length) = some 3 := by decide +kernel
set_option maxHeartbeats 3000000 in
set_option maxRecDepth 100000 in
theorem kX7_lay (l : Launch) (D : va_G) (cy : Nat → ClassId) (K : zK) (n : Nat) (ad : Nat → Nat) (hJ : zJ n ad) (hO : zModel cy K n ad) (t : zM) (a1 a2 a3 : Int32) (k w : Nat) (hk : k < 24) (hw9 : w < 14) (ha : a1 = nI k) (hw : a2 = nI w) : zV l yX7_lay wsX7_lay 0 D cy K n ad t [.ref (ad (0)), .int a1, .int a2, .int a3] (fun t1 => t1 = sX7_lay t k w a3) := by
  refine z_startV (cc := cX7_lay) (mL := 4) (ret := none) (own := RX7) rfl (by decide +kernel) rfl hJ (Nat.le_of_ble_eq_true rfl) ?_
  intro p e s m args below meth c A hA Q hQ C
  refine z_aload_n C 0 0 0 dX7_lay_0 rfl rfl ?_
  refine z_getr C 1 (a9 := ad (1)) (0) 0 dX7_lay_1 hO.h0 hO.e0 mX7_lay_in7 rfl (by decide) mX7_lay_f7 (fun _ => rfl) ?_
  refine z_bipush C 4 (v := 14) dX7_lay_4 (by decide +kernel) ?_
  refine z_iload_n C 6 1 1 dX7_lay_6 rfl rfl ?_
  refine z_imul C 7 dX7_lay_7 ?_
  refine z_iload_n C 8 2 2 dX7_lay_8 rfl rfl ?_
  refine z_iadd C 9 dX7_lay_9 ?_
  refine z_iload_n C 10 3 3 dX7_lay_10 rfl rfl ?_
  refine z_iastN C 11 (1) (14 * k + w) dX7_lay_11 hO.h1 hO.e1 (ix14 ha hw) (by omega) (by decide) ?_
  exact z_vret C 12 hA hQ rfl dX7_lay_12 rfl
def rX7_isHouse (t : zM) (a1 : Int32) : Int32 := (rX7_in a1 0 ((t (1) 401) - 1))
theorem mX7_isHouse_f7 : Cond.fieldLink RX7 7 "WrongedMetersModel" "s" "[I" ∈ wsX7_isHouse := by decide +kernel
set_option maxRecDepth 20000 in
theorem mX7_isHouse_in7 : ∀ w ∈ u_ws RX7 TX7 16, w ∈ wsX7_isHouse := by decide +kernel
theorem hyX7_isHouse : yX7_isHouse.cls = RX7 ∧ yX7_isHouse.cls ≠ "java/lang/invoke/MethodHandle" ∧ yX7_isHouse.cls ≠ "java/lang/invoke/VarHandle" ∧ (parseMethodDescriptor yX7_isHouse.desc).map (fun d => d.parameters.length) = some 1 := by decide +kernel
set_option maxHeartbeats 3000000 in
set_option maxRecDepth 100000 in
theorem kX7_isHouse (l : Launch) (D : va_G) (cy : Nat → ClassId) (K : zK) (n : Nat) (ad : Nat → Nat) (hJ : zJ n ad) (hO : zModel cy K n ad) (t : zM) (a1 : Int32)  : zI l yX7_isHouse wsX7_isHouse 1 D cy K n ad t [.ref (ad (0)), .int a1] (fun r t1 => r = rX7_isHouse t a1 ∧ t1 = t) := by
  refine z_startI (cc := cX7_isHouse) (mL := 2) (ret := (some .boolean)) (own := RX7) rfl (by decide +kernel) rfl hJ (Nat.le_of_ble_eq_true rfl) ?_
  intro p e s m args below meth c A hA Q hQ C
  refine z_iload_n C 0 1 1 dX7_isHouse_0 rfl rfl ?_
  refine z_iconst C 1 (v := 0) dX7_isHouse_1 (by decide +kernel) ?_
  refine z_aload_n C 2 0 0 dX7_isHouse_2 rfl rfl ?_
  refine z_getr C 3 (a9 := ad (1)) (0) 0 dX7_isHouse_3 hO.h0 hO.e0 mX7_isHouse_in7 rfl (by decide) mX7_isHouse_f7 (fun _ => rfl) ?_
  refine z_sipush C 6 (v := 401) dX7_isHouse_6 (by decide +kernel) ?_
  refine z_ialdN C 9 (1) 401 dX7_isHouse_9 hO.h1 hO.e1 rfl (by decide) (by decide) ?_
  refine z_iconst C 10 (v := 1) dX7_isHouse_10 (by decide +kernel) ?_
  refine z_isub C 11 dX7_isHouse_11 ?_
  refine z_statIe C 12 (As := [.int a1, .int 0, .int ((t (1) 401) - 1)]) (st := []) (kX7_in l D cy K n ad hJ t a1 0 ((t (1) 401) - 1) ) dX7_isHouse_12 rfl gX7_isHouse_X7_in hyX7_in rfl (by decide) (by decide) rfl rfl (Nat.le_of_ble_eq_true rfl) ?_
  exact z_zret C 15 hA hQ rfl (rX7_in_01 _ _ _) dX7_isHouse_15 ⟨rfl, rfl⟩
def rX7_isPlace (a1 : Int32) (a2 : Int32) : Int32 := (if (rX7_in a1 0 3) = 0 then 0 else (if (rX7_in a2 1 20) = 0 then 0 else 1))
theorem hyX7_isPlace : yX7_isPlace.cls ≠ "java/lang/invoke/MethodHandle" ∧ yX7_isPlace.cls ≠ "java/lang/invoke/VarHandle" ∧ (parseMethodDescriptor yX7_isPlace.desc).map (fun d => d.parameters.length) = some 2 := by decide +kernel
set_option maxHeartbeats 3000000 in
set_option maxRecDepth 100000 in
theorem kX7_isPlace (l : Launch) (D : va_G) (cy : Nat → ClassId) (K : zK) (n : Nat) (ad : Nat → Nat) (hJ : zJ n ad) (t : zM) (a1 : Int32) (a2 : Int32)  : zI l yX7_isPlace wsX7_isPlace 1 D cy K n ad t [.int a1, .int a2] (fun r t1 => r = rX7_isPlace a1 a2 ∧ t1 = t) := by
  refine z_startI (cc := cX7_isPlace) (mL := 2) (ret := (some .boolean)) (own := RX7) rfl (by decide +kernel) rfl hJ (Nat.le_of_ble_eq_true rfl) ?_
  intro p e s m args below meth c A hA Q hQ C
  refine z_iload_n C 0 0 0 dX7_isPlace_0 rfl rfl ?_
  refine z_iconst C 1 (v := 0) dX7_isPlace_1 (by decide +kernel) ?_
  refine z_iconst C 2 (v := 3) dX7_isPlace_2 (by decide +kernel) ?_
  refine z_statIe C 3 (As := [.int a1, .int 0, .int 3]) (st := []) (kX7_in l D cy K n ad hJ t a1 0 3 ) dX7_isPlace_3 rfl gX7_isPlace_X7_in hyX7_in rfl (by decide) (by decide) rfl rfl (Nat.le_of_ble_eq_true rfl) ?_
  refine z_if_eq C 6 23 dX7_isPlace_6 (by decide) (fun c6_2 => ?_) (fun c6_2 => ?_)
  · refine z_iconst C 23 (v := 0) dX7_isPlace_23 (by decide +kernel) ?_
    exact z_zret C 24 hA hQ rfl (Or.inl rfl) dX7_isPlace_24 ⟨((if_pos c6_2).trans rfl).symm, rfl⟩
  · refine z_iload_n C 9 1 1 dX7_isPlace_9 rfl rfl ?_
    refine z_iconst C 10 (v := 1) dX7_isPlace_10 (by decide +kernel) ?_
    refine z_bipush C 11 (v := 20) dX7_isPlace_11 (by decide +kernel) ?_
    refine z_statIe C 13 (As := [.int a2, .int 1, .int 20]) (st := []) (kX7_in l D cy K n ad hJ t a2 1 20 ) dX7_isPlace_13 rfl gX7_isPlace_X7_in hyX7_in rfl (by decide) (by decide) rfl rfl (Nat.le_of_ble_eq_true rfl) ?_
    refine z_if_eq C 16 23 dX7_isPlace_16 (by decide) (fun c16_4 => ?_) (fun c16_4 => ?_)
    · refine z_iconst C 23 (v := 0) dX7_isPlace_23 (by decide +kernel) ?_
      exact z_zret C 24 hA hQ rfl (Or.inl rfl) dX7_isPlace_24 ⟨((if_neg c6_2).trans ((if_pos c16_4).trans rfl)).symm, rfl⟩
    · refine z_iconst C 19 (v := 1) dX7_isPlace_19 (by decide +kernel) ?_
      refine z_goto C 20 24 dX7_isPlace_20 (by decide) ?_
      exact z_zret C 24 hA hQ rfl (Or.inr rfl) dX7_isPlace_24 ⟨((if_neg c6_2).trans ((if_neg c16_4).trans rfl)).symm, rfl⟩
def rX7_used (t : zM) (k : Nat) : Int32 := (zrem (((t (1) (14 * k + 2)) - (t (1) (14 * k + 3))) + 100000) 100000)
theorem mX7_used_c48 : Cond.constant RX7 48 (100000) ∈ wsX7_used := by decide +kernel
theorem hyX7_used : yX7_used.cls = RX7 ∧ yX7_used.cls ≠ "java/lang/invoke/MethodHandle" ∧ yX7_used.cls ≠ "java/lang/invoke/VarHandle" ∧ (parseMethodDescriptor yX7_used.desc).map (fun d => d.parameters.length) = some 1 := by decide +kernel
set_option maxHeartbeats 3000000 in
set_option maxRecDepth 100000 in
theorem kX7_used (l : Launch) (D : va_G) (cy : Nat → ClassId) (K : zK) (n : Nat) (ad : Nat → Nat) (hJ : zJ n ad) (hO : zModel cy K n ad) (t : zM) (a1 : Int32) (k : Nat) (hk : k < 24) (ha : a1 = nI k) : zI l yX7_used wsX7_used 1 D cy K n ad t [.ref (ad (0)), .int a1] (fun r t1 => r = rX7_used t k ∧ t1 = t) := by
  refine z_startI (cc := cX7_used) (mL := 2) (ret := (some .int)) (own := RX7) rfl (by decide +kernel) rfl hJ (Nat.le_of_ble_eq_true rfl) ?_
  intro p e s m args below meth c A hA Q hQ C
  refine z_aload_n C 0 0 0 dX7_used_0 rfl rfl ?_
  refine z_iload_n C 1 1 1 dX7_used_1 rfl rfl ?_
  refine z_iconst C 2 (v := 2) dX7_used_2 (by decide +kernel) ?_
  refine z_virtIe C 3 (As := [.int a1, .int 2]) (st := []) (id := 0) (kX7_of l D cy K n ad hJ hO t a1 2 k 2 hk (by decide) ha rfl) dX7_used_3 rfl gX7_used_X7_of hyX7_of rfl (by decide) (by decide) hO.h0 rfl hO.e0 rfl rfl rfl (Nat.le_of_ble_eq_true rfl) ?_
  refine z_nv (t (1) (14 * k + 2)) rfl ?_
  refine z_aload_n C 6 0 0 dX7_used_6 rfl rfl ?_
  refine z_iload_n C 7 1 1 dX7_used_7 rfl rfl ?_
  refine z_iconst C 8 (v := 3) dX7_used_8 (by decide +kernel) ?_
  refine z_virtIe C 9 (As := [.int a1, .int 3]) (st := [.int (t (1) (14 * k + 2))]) (id := 0) (kX7_of l D cy K n ad hJ hO t a1 3 k 3 hk (by decide) ha rfl) dX7_used_9 rfl gX7_used_X7_of hyX7_of rfl (by decide) (by decide) hO.h0 rfl hO.e0 rfl rfl rfl (Nat.le_of_ble_eq_true rfl) ?_
  refine z_nv (t (1) (14 * k + 3)) rfl ?_
  refine z_isub C 12 dX7_used_12 ?_
  refine z_ldc C 13 (v := 100000) dX7_used_13 mX7_used_c48 ?_
  refine z_iadd C 15 dX7_used_15 ?_
  refine z_ldc C 16 (v := 100000) dX7_used_16 mX7_used_c48 ?_
  refine z_irem C 18 dX7_used_18 (by decide) ?_
  exact z_iret C 19 hA hQ rfl dX7_used_19 ⟨rfl, rfl⟩
def rX7_unitsOf (t : zM) (k : Nat) : Int32 := (if (t (1) (14 * k + 4)) ≤ 0 then (if 0 ≤ (t (1) (14 * k + 4)) then (((rX7_used t k) + 50) / 100) else (((rX7_used t k) + 99) / 100)) else (((rX7_used t k) + 0) / 100))
theorem hyX7_unitsOf : yX7_unitsOf.cls = RX7 ∧ yX7_unitsOf.cls ≠ "java/lang/invoke/MethodHandle" ∧ yX7_unitsOf.cls ≠ "java/lang/invoke/VarHandle" ∧ (parseMethodDescriptor yX7_unitsOf.desc).map (fun d => d.parameters.length) = some 1 := by decide +kernel
set_option maxHeartbeats 3000000 in
set_option maxRecDepth 100000 in
theorem kX7_unitsOf (l : Launch) (D : va_G) (cy : Nat → ClassId) (K : zK) (n : Nat) (ad : Nat → Nat) (hJ : zJ n ad) (hO : zModel cy K n ad) (t : zM) (a1 : Int32) (k : Nat) (hk : k < 24) (ha : a1 = nI k) : zI l yX7_unitsOf wsX7_unitsOf 2 D cy K n ad t [.ref (ad (0)), .int a1] (fun r t1 => r = rX7_unitsOf t k ∧ t1 = t) := by
  refine z_startI (cc := cX7_unitsOf) (mL := 5) (ret := (some .int)) (own := RX7) rfl (by decide +kernel) rfl hJ (Nat.le_of_ble_eq_true rfl) ?_
  intro p e s m args below meth c A hA Q hQ C
  refine z_aload_n C 0 0 0 dX7_unitsOf_0 rfl rfl ?_
  refine z_iload_n C 1 1 1 dX7_unitsOf_1 rfl rfl ?_
  refine z_virtIe C 2 (As := [.int a1]) (st := []) (id := 0) (kX7_used l D cy K n ad hJ hO t a1 k hk ha) dX7_unitsOf_2 rfl gX7_unitsOf_X7_used hyX7_used rfl (by decide) (by decide) hO.h0 rfl hO.e0 rfl rfl rfl (Nat.le_of_ble_eq_true rfl) ?_
  refine z_istore_n C 5 2 ([(2, .int (rX7_used t k)), (0, .ref (ad (0))), (1, .int a1)]) dX7_unitsOf_5 rfl (by decide) rfl ?_
  refine z_aload_n C 6 0 1 dX7_unitsOf_6 rfl rfl ?_
  refine z_iload_n C 7 1 2 dX7_unitsOf_7 rfl rfl ?_
  refine z_iconst C 8 (v := 4) dX7_unitsOf_8 (by decide +kernel) ?_
  refine z_virtIe C 9 (As := [.int a1, .int 4]) (st := []) (id := 0) (kX7_of l D cy K n ad hJ hO t a1 4 k 4 hk (by decide) ha rfl) dX7_unitsOf_9 rfl gX7_unitsOf_X7_of hyX7_of rfl (by decide) (by decide) hO.h0 rfl hO.e0 rfl rfl rfl (Nat.le_of_ble_eq_true rfl) ?_
  refine z_nv (t (1) (14 * k + 4)) rfl ?_
  refine z_istore_n C 12 3 ([(3, .int (t (1) (14 * k + 4))), (2, .int (rX7_used t k)), (0, .ref (ad (0))), (1, .int a1)]) dX7_unitsOf_12 rfl (by decide) rfl ?_
  refine z_iload_n C 13 3 0 dX7_unitsOf_13 rfl rfl ?_
  refine z_if_le C 14 21 dX7_unitsOf_14 (by decide) (fun c14_3 => ?_) (fun c14_3 => ?_)
  · refine z_iload_n C 21 3 0 dX7_unitsOf_21 rfl rfl ?_
    refine z_if_ge C 22 30 dX7_unitsOf_22 (by decide) (fun c22_4 => ?_) (fun c22_4 => ?_)
    · refine z_bipush C 30 (v := 50) dX7_unitsOf_30 (by decide +kernel) ?_
      refine z_istore C 32 4 ([(4, .int 50), (3, .int (t (1) (14 * k + 4))), (2, .int (rX7_used t k)), (0, .ref (ad (0))), (1, .int a1)]) dX7_unitsOf_32 (by decide) rfl ?_
      refine z_iload_n C 34 2 2 dX7_unitsOf_34 rfl rfl ?_
      refine z_iload C 35 4 0 dX7_unitsOf_35 rfl ?_
      refine z_iadd C 37 dX7_unitsOf_37 ?_
      refine z_bipush C 38 (v := 100) dX7_unitsOf_38 (by decide +kernel) ?_
      refine z_idiv C 40 dX7_unitsOf_40 (by decide) ?_
      exact z_iret C 41 hA hQ rfl dX7_unitsOf_41 ⟨((if_pos c14_3).trans ((if_pos c22_4).trans rfl)).symm, rfl⟩
    · refine z_bipush C 25 (v := 99) dX7_unitsOf_25 (by decide +kernel) ?_
      refine z_goto C 27 32 dX7_unitsOf_27 (by decide) ?_
      refine z_istore C 32 4 ([(4, .int 99), (3, .int (t (1) (14 * k + 4))), (2, .int (rX7_used t k)), (0, .ref (ad (0))), (1, .int a1)]) dX7_unitsOf_32 (by decide) rfl ?_
      refine z_iload_n C 34 2 2 dX7_unitsOf_34 rfl rfl ?_
      refine z_iload C 35 4 0 dX7_unitsOf_35 rfl ?_
      refine z_iadd C 37 dX7_unitsOf_37 ?_
      refine z_bipush C 38 (v := 100) dX7_unitsOf_38 (by decide +kernel) ?_
      refine z_idiv C 40 dX7_unitsOf_40 (by decide) ?_
      exact z_iret C 41 hA hQ rfl dX7_unitsOf_41 ⟨((if_pos c14_3).trans ((if_neg c22_4).trans rfl)).symm, rfl⟩
  · refine z_iconst C 17 (v := 0) dX7_unitsOf_17 (by decide +kernel) ?_
    refine z_goto C 18 32 dX7_unitsOf_18 (by decide) ?_
    refine z_istore C 32 4 ([(4, .int 0), (3, .int (t (1) (14 * k + 4))), (2, .int (rX7_used t k)), (0, .ref (ad (0))), (1, .int a1)]) dX7_unitsOf_32 (by decide) rfl ?_
    refine z_iload_n C 34 2 2 dX7_unitsOf_34 rfl rfl ?_
    refine z_iload C 35 4 0 dX7_unitsOf_35 rfl ?_
    refine z_iadd C 37 dX7_unitsOf_37 ?_
    refine z_bipush C 38 (v := 100) dX7_unitsOf_38 (by decide +kernel) ?_
    refine z_idiv C 40 dX7_unitsOf_40 (by decide) ?_
    exact z_iret C 41 hA hQ rfl dX7_unitsOf_41 ⟨((if_neg c14_3).trans rfl).symm, rfl⟩
def rX7_balanceThen (t : zM) (k : Nat) : Int32 := (((t (1) (14 * k + 4)) + (100 * (rX7_unitsOf t k))) - (rX7_used t k))
theorem hyX7_balanceThen : yX7_balanceThen.cls = RX7 ∧ yX7_balanceThen.cls ≠ "java/lang/invoke/MethodHandle" ∧ yX7_balanceThen.cls ≠ "java/lang/invoke/VarHandle" ∧ (parseMethodDescriptor yX7_balanceThen.desc).map (fun d => d.parameters.length) = some 1 := by decide +kernel
set_option maxHeartbeats 3000000 in
set_option maxRecDepth 100000 in
theorem kX7_balanceThen (l : Launch) (D : va_G) (cy : Nat → ClassId) (K : zK) (n : Nat) (ad : Nat → Nat) (hJ : zJ n ad) (hO : zModel cy K n ad) (t : zM) (a1 : Int32) (k : Nat) (hk : k < 24) (ha : a1 = nI k) : zI l yX7_balanceThen wsX7_balanceThen 3 D cy K n ad t [.ref (ad (0)), .int a1] (fun r t1 => r = rX7_balanceThen t k ∧ t1 = t) := by
  refine z_startI (cc := cX7_balanceThen) (mL := 2) (ret := (some .int)) (own := RX7) rfl (by decide +kernel) rfl hJ (Nat.le_of_ble_eq_true rfl) ?_
  intro p e s m args below meth c A hA Q hQ C
  refine z_aload_n C 0 0 0 dX7_balanceThen_0 rfl rfl ?_
  refine z_iload_n C 1 1 1 dX7_balanceThen_1 rfl rfl ?_
  refine z_iconst C 2 (v := 4) dX7_balanceThen_2 (by decide +kernel) ?_
  refine z_virtIe C 3 (As := [.int a1, .int 4]) (st := []) (id := 0) (kX7_of l D cy K n ad hJ hO t a1 4 k 4 hk (by decide) ha rfl) dX7_balanceThen_3 rfl gX7_balanceThen_X7_of hyX7_of rfl (by decide) (by decide) hO.h0 rfl hO.e0 rfl rfl rfl (Nat.le_of_ble_eq_true rfl) ?_
  refine z_nv (t (1) (14 * k + 4)) rfl ?_
  refine z_bipush C 6 (v := 100) dX7_balanceThen_6 (by decide +kernel) ?_
  refine z_aload_n C 8 0 0 dX7_balanceThen_8 rfl rfl ?_
  refine z_iload_n C 9 1 1 dX7_balanceThen_9 rfl rfl ?_
  refine z_virtIe C 10 (As := [.int a1]) (st := [.int 100, .int (t (1) (14 * k + 4))]) (id := 0) (kX7_unitsOf l D cy K n ad hJ hO t a1 k hk ha) dX7_balanceThen_10 rfl gX7_balanceThen_X7_unitsOf hyX7_unitsOf rfl (by decide) (by decide) hO.h0 rfl hO.e0 rfl rfl rfl (Nat.le_of_ble_eq_true rfl) ?_
  refine z_imul C 13 dX7_balanceThen_13 ?_
  refine z_iadd C 14 dX7_balanceThen_14 ?_
  refine z_aload_n C 15 0 0 dX7_balanceThen_15 rfl rfl ?_
  refine z_iload_n C 16 1 1 dX7_balanceThen_16 rfl rfl ?_
  refine z_virtIe C 17 (As := [.int a1]) (st := [.int ((t (1) (14 * k + 4)) + (100 * (rX7_unitsOf t k)))]) (id := 0) (kX7_used l D cy K n ad hJ hO t a1 k hk ha) dX7_balanceThen_17 rfl gX7_balanceThen_X7_used hyX7_used rfl (by decide) (by decide) hO.h0 rfl hO.e0 rfl rfl rfl (Nat.le_of_ble_eq_true rfl) ?_
  refine z_isub C 20 dX7_balanceThen_20 ?_
  exact z_iret C 21 hA hQ rfl dX7_balanceThen_21 ⟨rfl, rfl⟩
def rX7_barred (t : zM) (k : Nat) : Int32 := (if (t (1) (14 * k + 6)) = 1 then 1 else (if (t (1) (14 * k + 7)) = ((t (1) 400) + 1) then 2 else 0))
theorem mX7_barred_f7 : Cond.fieldLink RX7 7 "WrongedMetersModel" "s" "[I" ∈ wsX7_barred := by decide +kernel
set_option maxRecDepth 20000 in
theorem mX7_barred_in7 : ∀ w ∈ u_ws RX7 TX7 16, w ∈ wsX7_barred := by decide +kernel
theorem hyX7_barred : yX7_barred.cls = RX7 ∧ yX7_barred.cls ≠ "java/lang/invoke/MethodHandle" ∧ yX7_barred.cls ≠ "java/lang/invoke/VarHandle" ∧ (parseMethodDescriptor yX7_barred.desc).map (fun d => d.parameters.length) = some 1 := by decide +kernel
set_option maxHeartbeats 3000000 in
set_option maxRecDepth 100000 in
theorem kX7_barred (l : Launch) (D : va_G) (cy : Nat → ClassId) (K : zK) (n : Nat) (ad : Nat → Nat) (hJ : zJ n ad) (hO : zModel cy K n ad) (t : zM) (a1 : Int32) (k : Nat) (hk : k < 24) (ha : a1 = nI k) : zI l yX7_barred wsX7_barred 1 D cy K n ad t [.ref (ad (0)), .int a1] (fun r t1 => r = rX7_barred t k ∧ t1 = t) := by
  refine z_startI (cc := cX7_barred) (mL := 2) (ret := (some .int)) (own := RX7) rfl (by decide +kernel) rfl hJ (Nat.le_of_ble_eq_true rfl) ?_
  intro p e s m args below meth c A hA Q hQ C
  refine z_aload_n C 0 0 0 dX7_barred_0 rfl rfl ?_
  refine z_iload_n C 1 1 1 dX7_barred_1 rfl rfl ?_
  refine z_bipush C 2 (v := 6) dX7_barred_2 (by decide +kernel) ?_
  refine z_virtIe C 4 (As := [.int a1, .int 6]) (st := []) (id := 0) (kX7_of l D cy K n ad hJ hO t a1 6 k 6 hk (by decide) ha rfl) dX7_barred_4 rfl gX7_barred_X7_of hyX7_of rfl (by decide) (by decide) hO.h0 rfl hO.e0 rfl rfl rfl (Nat.le_of_ble_eq_true rfl) ?_
  refine z_nv (t (1) (14 * k + 6)) rfl ?_
  refine z_iconst C 7 (v := 1) dX7_barred_7 (by decide +kernel) ?_
  refine z_icmp_ne C 8 15 dX7_barred_8 (by decide) (fun c8_2 => ?_) (fun c8_2 => ?_)
  · refine z_aload_n C 15 0 0 dX7_barred_15 rfl rfl ?_
    refine z_iload_n C 16 1 1 dX7_barred_16 rfl rfl ?_
    refine z_bipush C 17 (v := 7) dX7_barred_17 (by decide +kernel) ?_
    refine z_virtIe C 19 (As := [.int a1, .int 7]) (st := []) (id := 0) (kX7_of l D cy K n ad hJ hO t a1 7 k 7 hk (by decide) ha rfl) dX7_barred_19 rfl gX7_barred_X7_of hyX7_of rfl (by decide) (by decide) hO.h0 rfl hO.e0 rfl rfl rfl (Nat.le_of_ble_eq_true rfl) ?_
    refine z_nv (t (1) (14 * k + 7)) rfl ?_
    refine z_aload_n C 22 0 0 dX7_barred_22 rfl rfl ?_
    refine z_getr C 23 (a9 := ad (1)) (0) 0 dX7_barred_23 hO.h0 hO.e0 mX7_barred_in7 rfl (by decide) mX7_barred_f7 (fun _ => rfl) ?_
    refine z_sipush C 26 (v := 400) dX7_barred_26 (by decide +kernel) ?_
    refine z_ialdN C 29 (1) 400 dX7_barred_29 hO.h1 hO.e1 rfl (by decide) (by decide) ?_
    refine z_iconst C 30 (v := 1) dX7_barred_30 (by decide +kernel) ?_
    refine z_iadd C 31 dX7_barred_31 ?_
    refine z_icmp_ne C 32 39 dX7_barred_32 (by decide) (fun c32_4 => ?_) (fun c32_4 => ?_)
    · refine z_iconst C 39 (v := 0) dX7_barred_39 (by decide +kernel) ?_
      exact z_iret C 40 hA hQ rfl dX7_barred_40 ⟨((if_neg c8_2).trans ((if_neg c32_4).trans rfl)).symm, rfl⟩
    · refine z_iconst C 35 (v := 2) dX7_barred_35 (by decide +kernel) ?_
      refine z_goto C 36 40 dX7_barred_36 (by decide) ?_
      exact z_iret C 40 hA hQ rfl dX7_barred_40 ⟨((if_neg c8_2).trans ((if_pos c32_4).trans rfl)).symm, rfl⟩
  · refine z_iconst C 11 (v := 1) dX7_barred_11 (by decide +kernel) ?_
    refine z_goto C 12 40 dX7_barred_12 (by decide) ?_
    exact z_iret C 40 hA hQ rfl dX7_barred_40 ⟨((if_pos c8_2).trans rfl).symm, rfl⟩
def rX7_turn (t : zM) (k : Nat) : Int32 := (if (zrem (t (1) (14 * k + 1)) 2) = 1 then (t (1) (14 * k + 1)) else (100 - (t (1) (14 * k + 1))))
theorem hyX7_turn : yX7_turn.cls = RX7 ∧ yX7_turn.cls ≠ "java/lang/invoke/MethodHandle" ∧ yX7_turn.cls ≠ "java/lang/invoke/VarHandle" ∧ (parseMethodDescriptor yX7_turn.desc).map (fun d => d.parameters.length) = some 1 := by decide +kernel
set_option maxHeartbeats 3000000 in
set_option maxRecDepth 100000 in
theorem kX7_turn (l : Launch) (D : va_G) (cy : Nat → ClassId) (K : zK) (n : Nat) (ad : Nat → Nat) (hJ : zJ n ad) (hO : zModel cy K n ad) (t : zM) (a1 : Int32) (k : Nat) (hk : k < 24) (ha : a1 = nI k) : zI l yX7_turn wsX7_turn 1 D cy K n ad t [.ref (ad (0)), .int a1] (fun r t1 => r = rX7_turn t k ∧ t1 = t) := by
  refine z_startI (cc := cX7_turn) (mL := 3) (ret := (some .int)) (own := RX7) rfl (by decide +kernel) rfl hJ (Nat.le_of_ble_eq_true rfl) ?_
  intro p e s m args below meth c A hA Q hQ C
  refine z_aload_n C 0 0 0 dX7_turn_0 rfl rfl ?_
  refine z_iload_n C 1 1 1 dX7_turn_1 rfl rfl ?_
  refine z_iconst C 2 (v := 1) dX7_turn_2 (by decide +kernel) ?_
  refine z_virtIe C 3 (As := [.int a1, .int 1]) (st := []) (id := 0) (kX7_of l D cy K n ad hJ hO t a1 1 k 1 hk (by decide) ha rfl) dX7_turn_3 rfl gX7_turn_X7_of hyX7_of rfl (by decide) (by decide) hO.h0 rfl hO.e0 rfl rfl rfl (Nat.le_of_ble_eq_true rfl) ?_
  refine z_nv (t (1) (14 * k + 1)) rfl ?_
  refine z_istore_n C 6 2 ([(2, .int (t (1) (14 * k + 1))), (0, .ref (ad (0))), (1, .int a1)]) dX7_turn_6 rfl (by decide) rfl ?_
  refine z_iload_n C 7 2 0 dX7_turn_7 rfl rfl ?_
  refine z_iconst C 8 (v := 2) dX7_turn_8 (by decide +kernel) ?_
  refine z_irem C 9 dX7_turn_9 (by decide) ?_
  refine z_iconst C 10 (v := 1) dX7_turn_10 (by decide +kernel) ?_
  refine z_icmp_ne C 11 18 dX7_turn_11 (by decide) (fun c11_2 => ?_) (fun c11_2 => ?_)
  · refine z_bipush C 18 (v := 100) dX7_turn_18 (by decide +kernel) ?_
    refine z_iload_n C 20 2 0 dX7_turn_20 rfl rfl ?_
    refine z_isub C 21 dX7_turn_21 ?_
    exact z_iret C 22 hA hQ rfl dX7_turn_22 ⟨((if_neg c11_2).trans rfl).symm, rfl⟩
  · refine z_iload_n C 14 2 0 dX7_turn_14 rfl rfl ?_
    refine z_goto C 15 22 dX7_turn_15 (by decide) ?_
    exact z_iret C 22 hA hQ rfl dX7_turn_22 ⟨((if_pos c11_2).trans rfl).symm, rfl⟩
