theorem lsX5_copyFrom_31_o (b : Nat) (t : zM) (b2 : Nat) {x : Nat} (h : x < b ∨ b + 38 ≤ x) : ∀ (j i : Nat) (w : zM), i ≤ 4 → lsX5_copyFrom_31 b t b2 j i w x = w x := by
  intro j
  induction j with
  | zero => intro i w hi; rfl
  | succ j ih =>
    intro i w hi
    unfold lsX5_copyFrom_31
    split
    · simp only [zset_id _ _ _ (show x ≠ b by omega), zcp, if_neg (show ¬ x = b + 37 by omega)]
      exact sX2_copyFrom_o _ _ _ (by omega) (by omega)
    · have hk2 : i < 4 := zge (b := 4) (by omega) (by decide) ‹¬ (4 : Int32) ≤ nI i›
      rw [ih _ _ (by omega)]
      exact sX4_copyFrom_o _ _ _ (by omega) (by omega)
theorem lsX5_copyFrom_2_o (b : Nat) (t : zM) (b2 : Nat) {x : Nat} (h : x < b ∨ b + 38 ≤ x) : ∀ (j k : Nat) (u : zM), k ≤ 24 → lsX5_copyFrom_2 b t b2 j k u x = u x := by
  intro j
  induction j with
  | zero => intro k u hk; rfl
  | succ j ih =>
    intro k u hk
    unfold lsX5_copyFrom_2
    split
    · exact lsX5_copyFrom_31_o b t b2 h _ _ _ (by decide)
    · have hk2 : k < 24 := zge (b := 24) (by omega) (by decide) ‹¬ (24 : Int32) ≤ nI k›
      rw [ih _ _ (by omega)]
      exact sX1_copyFrom_o _ _ _ (by omega)
/-- a copy leaves all else alone -/
theorem sX5_copyFrom_o (b : Nat) (t : zM) (b2 : Nat) {x : Nat} (h : x < b ∨ b + 38 ≤ x) : sX5_copyFrom b t b2 x = t x := lsX5_copyFrom_2_o b t b2 h _ _ _ (by decide)
def zHist (cy : Nat → ClassId) (K : zK) (n : Nat) (ad : Nat → Nat) : Prop := 267 < n ∧ (∀ f, K ad 266 f = .inr (0, [.ref (ad 267), .int (f 1), .int (f 2)])) ∧ (∀ f, K ad 267 f = .inl (cy 3, 5, .inr (.inr (.inr (.inr (fun i => some (ad (76 + 38 * i)))))))) ∧ ∀ i, i < 5 → zTown cy K n ad (76 + 38 * i)
def zTop (cy : Nat → ClassId) (K : zK) (n : Nat) (ad : Nat → Nat) : Prop := 270 < n ∧ (∀ f, K ad 270 f = .inr (6, [.ref (ad 0), .ref (ad 38), .ref (ad 266), .ref (ad 268)])) ∧ zTown cy K n ad 0 ∧ zTown cy K n ad 38 ∧ zHist cy K n ad ∧ zOrders cy K n ad 268
section ZTO
variable {cy : Nat → ClassId} {K : zK} {n : Nat} {ad : Nat → Nat}
theorem zHist.h0 (h : zHist cy K n ad) : 266 < n := Nat.lt_of_le_of_lt (by decide) h.1
theorem zHist.h1 (h : zHist cy K n ad) : 267 < n := h.1
theorem zHist.e0 (h : zHist cy K n ad) : ∀ f, K ad 266 f = .inr (0, [.ref (ad 267), .int (f 1), .int (f 2)]) := h.2.1
theorem zHist.e1 (h : zHist cy K n ad) : ∀ f, K ad 267 f = .inl (cy 3, 5, .inr (.inr (.inr (.inr (fun i => some (ad (76 + 38 * i))))))) := h.2.2.1
theorem zHist.twn (h : zHist cy K n ad) {i : Nat} (hi : i < 5) : zTown cy K n ad (76 + 38 * i) := h.2.2.2 i hi
theorem zTop.h0 (h : zTop cy K n ad) : 270 < n := h.1
theorem zTop.e0 (h : zTop cy K n ad) : ∀ f, K ad 270 f = .inr (6, [.ref (ad 0), .ref (ad 38), .ref (ad 266), .ref (ad 268)]) := h.2.1
theorem zTop.tn (h : zTop cy K n ad) : zTown cy K n ad 0 := h.2.2.1
theorem zTop.tr (h : zTop cy K n ad) : zTown cy K n ad 38 := h.2.2.2.1
theorem zTop.hi (h : zTop cy K n ad) : zHist cy K n ad := h.2.2.2.2.1
theorem zTop.od (h : zTop cy K n ad) : zOrders cy K n ad 268 := h.2.2.2.2.2
end ZTO
def sX0_record (t : zM) (b2 : Nat) : zM := (if (t (266) 1) < 0 then t else (if 5 ≤ (t (266) 1) then t else (sX5_copyFrom (76 + 38 * ((t (266) 1).toNatClampNeg)) t (b2))))
theorem mX0_record_f18 : Cond.fieldLink RX0 18 "WrongedMeters$History" "freeSlot" "I" ∈ wsX0_record := by decide +kernel
set_option maxRecDepth 20000 in
theorem mX0_record_in0 : ∀ w ∈ u_ws RX0 TX0 3, w ∈ wsX0_record := by decide +kernel
theorem mX0_record_f13 : Cond.fieldLink RX0 13 "WrongedMeters$History" "states" "[LWrongedMeters$Town;" ∈ wsX0_record := by decide +kernel
theorem hyX0_record : yX0_record.cls = RX0 ∧ yX0_record.cls ≠ "java/lang/invoke/MethodHandle" ∧ yX0_record.cls ≠ "java/lang/invoke/VarHandle" ∧ (parseMethodDescriptor yX0_record.desc).map (fun d => d.parameters.length) = some 1 := by decide +kernel
set_option maxHeartbeats 3000000 in
set_option maxRecDepth 100000 in
theorem kX0_record (l : Launch) (D : va_G) (cy : Nat → ClassId) (K : zK) (n : Nat) (ad : Nat → Nat) (hJ : zJ n ad) (hO : zHist cy K n ad) (t : zM) (b2 : Nat) (hO2 : zTown cy K n ad b2) (hb2 : b2 + 38 ≤ 76) (hfs : zFs (t 266 1)) (hb : zBits b2 t) : zV l yX0_record wsX0_record 3 D cy K n ad t [.ref (ad (266)), .ref (ad (b2))] (fun t1 => t1 = sX0_record t b2) := by
  refine z_startV (cc := cX0_record) (mL := 2) (ret := none) (own := RX0) rfl (by decide +kernel) rfl hJ (Nat.le_of_ble_eq_true rfl) ?_
  intro p e s m args below meth c A hA Q hQ C
  refine z_aload_n C 0 0 0 dX0_record_0 rfl rfl ?_
  refine z_geti C 1 (266) 1 dX0_record_1 hO.h0 hO.e0 mX0_record_in0 rfl (by decide) mX0_record_f18 (fun _ => rfl) ?_
  refine z_if_lt C 4 28 dX0_record_4 (by decide) (fun c4_1 => ?_) (fun c4_1 => ?_)
  · exact z_vret C 28 hA hQ rfl dX0_record_28 ((if_pos c4_1).trans rfl).symm
  · refine z_aload_n C 7 0 0 dX0_record_7 rfl rfl ?_
    refine z_geti C 8 (266) 1 dX0_record_8 hO.h0 hO.e0 mX0_record_in0 rfl (by decide) mX0_record_f18 (fun _ => rfl) ?_
    refine z_iconst C 11 (v := 5) dX0_record_11 (by decide +kernel) ?_
    refine z_icmp_ge C 12 28 dX0_record_12 (by decide) (fun c12_2 => ?_) (fun c12_2 => ?_)
    · exact z_vret C 28 hA hQ rfl dX0_record_28 ((if_neg c4_1).trans ((if_pos c12_2).trans rfl)).symm
    · refine z_aload_n C 15 0 0 dX0_record_15 rfl rfl ?_
      refine z_getr C 16 (a9 := ad (267)) (266) 0 dX0_record_16 hO.h0 hO.e0 mX0_record_in0 rfl (by decide) mX0_record_f13 (fun _ => rfl) ?_
      refine z_aload_n C 19 0 0 dX0_record_19 rfl rfl ?_
      refine z_geti C 20 (266) 1 dX0_record_20 hO.h0 hO.e0 mX0_record_in0 rfl (by decide) mX0_record_f18 (fun _ => rfl) ?_
      refine z_aald C 23 (267) 3 ((t (266) 1).toNatClampNeg) (ad (76 + 38 * ((t (266) 1).toNatClampNeg))) dX0_record_23 hO.h1 hO.e1 rfl hfs.c.2 hfs.c.1 (by decide) rfl ?_
      refine z_aload_n C 24 1 1 dX0_record_24 rfl rfl ?_
      refine z_virtVe C 25 (As := [.ref (ad (b2))]) (st := []) (id := 76 + 38 * ((t (266) 1).toNatClampNeg)) (kX5_copyFrom l D cy K n ad hJ (76 + 38 * ((t (266) 1).toNatClampNeg)) (hO.twn hfs.c.1) t (b2) hO2 (by omega) hb) dX0_record_25 rfl gX0_record_X5_copyFrom hyX5_copyFrom rfl (by decide) (by decide) (hO.twn hfs.c.1).h0 rfl (hO.twn hfs.c.1).e0 rfl rfl rfl (Nat.le_of_ble_eq_true rfl) ?_
      exact z_vret C 28 hA hQ rfl dX0_record_28 ((if_neg c4_1).trans ((if_neg c12_2).trans rfl)).symm
theorem sX0_record_o (t : zM) (b2 : Nat) (hfs : zFs (t 266 1)) {x : Nat} (h : x < 76 ∨ 266 ≤ x) : sX0_record t b2 x = t x := by
  have := hfs.c.1
  unfold sX0_record
  split
  · rfl
  · split
    · rfl
    · exact sX5_copyFrom_o _ _ _ (by omega)
def sX0_keep (t : zM)  : zM := (if 4 ≤ (t (266) 2) then (zset t (266) 1 (zrem ((t (266) 1) + 1) 5)) else (zset (zset t (266) 1 (zrem ((t (266) 1) + 1) 5)) (266) 2 ((t (266) 2) + 1)))
theorem mX0_keep_f18 : Cond.fieldLink RX0 18 "WrongedMeters$History" "freeSlot" "I" ∈ wsX0_keep := by decide +kernel
set_option maxRecDepth 20000 in
theorem mX0_keep_in0 : ∀ w ∈ u_ws RX0 TX0 3, w ∈ wsX0_keep := by decide +kernel
theorem mX0_keep_f26 : Cond.fieldLink RX0 26 "WrongedMeters$History" "size" "I" ∈ wsX0_keep := by decide +kernel
theorem hyX0_keep : yX0_keep.cls = RX0 ∧ yX0_keep.cls ≠ "java/lang/invoke/MethodHandle" ∧ yX0_keep.cls ≠ "java/lang/invoke/VarHandle" ∧ (parseMethodDescriptor yX0_keep.desc).map (fun d => d.parameters.length) = some 0 := by decide +kernel
set_option maxHeartbeats 3000000 in
set_option maxRecDepth 100000 in
theorem kX0_keep (l : Launch) (D : va_G) (cy : Nat → ClassId) (K : zK) (n : Nat) (ad : Nat → Nat) (hJ : zJ n ad) (hO : zHist cy K n ad) (t : zM)   : zV l yX0_keep wsX0_keep 0 D cy K n ad t [.ref (ad (266))] (fun t1 => t1 = sX0_keep t) := by
  refine z_startV (cc := cX0_keep) (mL := 1) (ret := none) (own := RX0) rfl (by decide +kernel) rfl hJ (Nat.le_of_ble_eq_true rfl) ?_
  intro p e s m args below meth c A hA Q hQ C
  refine z_aload_n C 0 0 0 dX0_keep_0 rfl rfl ?_
  refine z_aload_n C 1 0 0 dX0_keep_1 rfl rfl ?_
  refine z_geti C 2 (266) 1 dX0_keep_2 hO.h0 hO.e0 mX0_keep_in0 rfl (by decide) mX0_keep_f18 (fun _ => rfl) ?_
  refine z_iconst C 5 (v := 1) dX0_keep_5 (by decide +kernel) ?_
  refine z_iadd C 6 dX0_keep_6 ?_
  refine z_iconst C 7 (v := 5) dX0_keep_7 (by decide +kernel) ?_
  refine z_irem C 8 dX0_keep_8 (by decide) ?_
  refine z_put C 9 (ty := .int) (266) 1 dX0_keep_9 hO.h0 hO.e0 mX0_keep_in0 tyX0 tyX0_ok nmX0 rfl (by decide) mX0_keep_f18 rfl (by decide +kernel) (vp_nar_int _) (zfit_i _) (fun _ => Nat.le_of_ble_eq_true rfl) (fun _ _ => rfl) ?_
  refine z_aload_n C 12 0 0 dX0_keep_12 rfl rfl ?_
  refine z_geti C 13 (266) 2 dX0_keep_13 hO.h0 hO.e0 mX0_keep_in0 rfl (by decide) mX0_keep_f26 (fun _ => rfl) ?_
  refine z_nv (t (266) 2) ((zset_nk _ _ _ (by decide)).trans rfl) ?_
  refine z_iconst C 16 (v := 4) dX0_keep_16 (by decide +kernel) ?_
  refine z_icmp_ge C 17 30 dX0_keep_17 (by decide) (fun c17_1 => ?_) (fun c17_1 => ?_)
  · exact z_vret C 30 hA hQ rfl dX0_keep_30 ((if_pos c17_1).trans rfl).symm
  · refine z_aload_n C 20 0 0 dX0_keep_20 rfl rfl ?_
    refine z_dup C 21 dX0_keep_21 rfl ?_
    refine z_geti C 22 (266) 2 dX0_keep_22 hO.h0 hO.e0 mX0_keep_in0 rfl (by decide) mX0_keep_f26 (fun _ => rfl) ?_
    refine z_nv (t (266) 2) ((zset_nk _ _ _ (by decide)).trans rfl) ?_
    refine z_iconst C 25 (v := 1) dX0_keep_25 (by decide +kernel) ?_
    refine z_iadd C 26 dX0_keep_26 ?_
    refine z_put C 27 (ty := .int) (266) 2 dX0_keep_27 hO.h0 hO.e0 mX0_keep_in0 tyX0 tyX0_ok nmX0 rfl (by decide) mX0_keep_f26 rfl (by decide +kernel) (vp_nar_int _) (zfit_i _) (fun _ => Nat.le_of_ble_eq_true rfl) (fun _ _ => rfl) ?_
    exact z_vret C 30 hA hQ rfl dX0_keep_30 ((if_neg c17_1).trans rfl).symm
theorem sX0_keep_o (t : zM) {x : Nat} (h : x ≠ 266) : sX0_keep t x = t x := by
  unfold sX0_keep
  split
  · exact zset_id _ _ _ h
  · rw [zset_id _ _ _ h, zset_id _ _ _ h]
def rX6_kept (t : zM) (a1 : Int32) : Int32 := (if a1 < 0 then a1 else a1)
def sX6_kept (t : zM) (a1 : Int32) : zM := (if a1 < 0 then t else (sX0_keep t))
theorem mX6_kept_f22 : Cond.fieldLink RX6 22 "WrongedMeters" "history" "LWrongedMeters$History;" ∈ wsX6_kept := by decide +kernel
set_option maxRecDepth 20000 in
theorem mX6_kept_in6 : ∀ w ∈ u_ws RX6 TX6 4, w ∈ wsX6_kept := by decide +kernel
theorem hyX6_kept : yX6_kept.cls = RX6 ∧ yX6_kept.cls ≠ "java/lang/invoke/MethodHandle" ∧ yX6_kept.cls ≠ "java/lang/invoke/VarHandle" ∧ (parseMethodDescriptor yX6_kept.desc).map (fun d => d.parameters.length) = some 1 := by decide +kernel
set_option maxHeartbeats 3000000 in
set_option maxRecDepth 100000 in
theorem kX6_kept (l : Launch) (D : va_G) (cy : Nat → ClassId) (K : zK) (n : Nat) (ad : Nat → Nat) (hJ : zJ n ad) (hO : zTop cy K n ad) (t : zM) (a1 : Int32)  : zI l yX6_kept wsX6_kept 1 D cy K n ad t [.ref (ad (270)), .int a1] (fun r t1 => r = rX6_kept t a1 ∧ t1 = sX6_kept t a1) := by
  refine z_startI (cc := cX6_kept) (mL := 2) (ret := (some .int)) (own := RX6) rfl (by decide +kernel) rfl hJ (Nat.le_of_ble_eq_true rfl) ?_
  intro p e s m args below meth c A hA Q hQ C
  refine z_iload_n C 0 1 1 dX6_kept_0 rfl rfl ?_
  refine z_if_lt C 1 11 dX6_kept_1 (by decide) (fun c1_1 => ?_) (fun c1_1 => ?_)
  · refine z_iload_n C 11 1 1 dX6_kept_11 rfl rfl ?_
    exact z_iret C 12 hA hQ rfl dX6_kept_12 ⟨((if_pos c1_1).trans rfl).symm, ((if_pos c1_1).trans rfl).symm⟩
  · refine z_aload_n C 4 0 0 dX6_kept_4 rfl rfl ?_
    refine z_getr C 5 (a9 := ad (266)) (270) 2 dX6_kept_5 hO.h0 hO.e0 mX6_kept_in6 rfl (by decide) mX6_kept_f22 (fun _ => rfl) ?_
    refine z_virtVe C 8 (As := []) (st := []) (id := 266) (kX0_keep l D cy K n ad hJ hO.hi t  ) dX6_kept_8 rfl gX6_kept_X0_keep hyX0_keep rfl (by decide) (by decide) hO.hi.h0 rfl hO.hi.e0 rfl rfl rfl (Nat.le_of_ble_eq_true rfl) ?_
    refine z_iload_n C 11 1 1 dX6_kept_11 rfl rfl ?_
    exact z_iret C 12 hA hQ rfl dX6_kept_12 ⟨((if_neg c1_1).trans rfl).symm, ((if_neg c1_1).trans rfl).symm⟩
