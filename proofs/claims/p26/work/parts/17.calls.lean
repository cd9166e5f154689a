/-! the calls on the class's own object -/
def zSz (x : Int32) : Prop := ∃ w, w ≤ 10 ∧ x = nI w
theorem zSz.c {x : Int32} (h : zSz x) : x.toNatClampNeg ≤ 10 ∧ x = nI x.toNatClampNeg := by
  obtain ⟨w, hw, rfl⟩ := h
  rw [nI_clamp (by omega)]
  exact ⟨hw, rfl⟩
def zLn (x : Int32) : Prop := ∃ w, w ≤ 60 ∧ x = nI w
theorem zLn.c {x : Int32} (h : zLn x) : x.toNatClampNeg ≤ 60 ∧ x = nI x.toNatClampNeg := by
  obtain ⟨w, hw, rfl⟩ := h
  rw [nI_clamp (by omega)]
  exact ⟨hw, rfl⟩
/-- what the calls need of the numbers -/
def zGd (t : zM) : Prop := zOK 0 t ∧ zBits 0 t ∧ zFs (t 266 1) ∧ (∀ i, i < 5 → zBits (76 + 38 * i) t) ∧ zSz (t 35 2) ∧ zLn (t 268 1)
theorem zGd.ok {t : zM} (h : zGd t) : zOK 0 t := h.1
theorem zGd.bits {t : zM} (h : zGd t) : zBits 0 t := h.2.1
theorem zGd.fs {t : zM} (h : zGd t) : zFs (t 266 1) := h.2.2.1
theorem zGd.hb {t : zM} (h : zGd t) : ∀ i, i < 5 → zBits (76 + 38 * i) t := h.2.2.2.1
theorem zGd.sz {t : zM} (h : zGd t) : zSz (t 35 2) := h.2.2.2.2.1
theorem zGd.ln {t : zM} (h : zGd t) : zLn (t 268 1) := h.2.2.2.2.2
theorem zGd.row {t : zM} (h : zGd t) : zRow (t 35 1) := by
  obtain ⟨N, hN, h⟩ := h.1
  exact h.2.1
/-- a record leaves the town -/
theorem zGd.rok {t : zM} (h : zGd t) : zOK 0 (sX0_record t 0) := h.ok.fr (sX0_record_o _ _ h.fs (by decide)) (sX0_record_o _ _ h.fs (by decide))
theorem zGd.rbits {t : zM} (h : zGd t) : zBits 0 (sX0_record t 0) := zBits_fr h.bits (fun i hi => sX0_record_o _ _ h.fs (by omega))
def rX6_carryOut (t : zM) (a1 : Int32) (a2 : Int32) (a3 : Int32) : Int32 := (rX6_kept (sX5_obey (0) (sX0_record t (0)) a1 a2 a3 ((sX0_record t (0)) (0) 5).toNatClampNeg) (rX5_obey (0) (sX0_record t (0)) a1 a2 a3 ((sX0_record t (0)) (0) 5).toNatClampNeg))
def sX6_carryOut (t : zM) (a1 : Int32) (a2 : Int32) (a3 : Int32) : zM := (sX6_kept (sX5_obey (0) (sX0_record t (0)) a1 a2 a3 ((sX0_record t (0)) (0) 5).toNatClampNeg) (rX5_obey (0) (sX0_record t (0)) a1 a2 a3 ((sX0_record t (0)) (0) 5).toNatClampNeg))
theorem mX6_carryOut_f22 : Cond.fieldLink RX6 22 "WrongedMeters" "history" "LWrongedMeters$History;" ∈ wsX6_carryOut := by decide +kernel
set_option maxRecDepth 20000 in
theorem mX6_carryOut_in6 : ∀ w ∈ u_ws RX6 TX6 4, w ∈ wsX6_carryOut := by decide +kernel
theorem mX6_carryOut_f10 : Cond.fieldLink RX6 10 "WrongedMeters" "town" "LWrongedMeters$Town;" ∈ wsX6_carryOut := by decide +kernel
theorem hyX6_carryOut : yX6_carryOut.cls = RX6 ∧ yX6_carryOut.cls ≠ "java/lang/invoke/MethodHandle" ∧ yX6_carryOut.cls ≠ "java/lang/invoke/VarHandle" ∧ (parseMethodDescriptor yX6_carryOut.desc).map (fun d => d.parameters.length) = some 3 := by decide +kernel
set_option maxHeartbeats 3000000 in
set_option maxRecDepth 100000 in
theorem kX6_carryOut (l : Launch) (D : va_G) (cy : Nat → ClassId) (K : zK) (n : Nat) (ad : Nat → Nat) (hJ : zJ n ad) (hO : zTop cy K n ad) (t : zM) (a1 : Int32) (a2 : Int32) (a3 : Int32) (hG : zGd t) : zI l yX6_carryOut wsX6_carryOut 5 D cy K n ad t [.ref (ad (270)), .int a1, .int a2, .int a3] (fun r t1 => r = rX6_carryOut t a1 a2 a3 ∧ t1 = sX6_carryOut t a1 a2 a3) := by
  refine z_startI (cc := cX6_carryOut) (mL := 4) (ret := (some .int)) (own := RX6) rfl (by decide +kernel) rfl hJ (Nat.le_of_ble_eq_true rfl) ?_
  intro p e s m args below meth c A hA Q hQ C
  refine z_aload_n C 0 0 0 dX6_carryOut_0 rfl rfl ?_
  refine z_getr C 1 (a9 := ad (266)) (270) 2 dX6_carryOut_1 hO.h0 hO.e0 mX6_carryOut_in6 rfl (by decide) mX6_carryOut_f22 (fun _ => rfl) ?_
  refine z_aload_n C 4 0 0 dX6_carryOut_4 rfl rfl ?_
  refine z_getr C 5 (a9 := ad (0)) (270) 0 dX6_carryOut_5 hO.h0 hO.e0 mX6_carryOut_in6 rfl (by decide) mX6_carryOut_f10 (fun _ => rfl) ?_
  refine z_virtVe C 8 (As := [.ref (ad (0))]) (st := []) (id := 266) (kX0_record l D cy K n ad hJ hO.hi t (0) hO.tn (by decide) hG.fs hG.bits) dX6_carryOut_8 rfl gX6_carryOut_X0_record hyX0_record rfl (by decide) (by decide) hO.hi.h0 rfl hO.hi.e0 rfl rfl rfl (Nat.le_of_ble_eq_true rfl) ?_
  refine z_aload_n C 11 0 0 dX6_carryOut_11 rfl rfl ?_
  refine z_aload_n C 12 0 0 dX6_carryOut_12 rfl rfl ?_
  refine z_getr C 13 (a9 := ad (0)) (270) 0 dX6_carryOut_13 hO.h0 hO.e0 mX6_carryOut_in6 rfl (by decide) mX6_carryOut_f10 (fun _ => rfl) ?_
  refine z_iload_n C 16 1 1 dX6_carryOut_16 rfl rfl ?_
  refine z_iload_n C 17 2 2 dX6_carryOut_17 rfl rfl ?_
  refine z_iload_n C 18 3 3 dX6_carryOut_18 rfl rfl ?_
  refine z_virtIe C 19 (As := [.int a1, .int a2, .int a3]) (st := [.ref (ad (270))]) (id := 0) (kX5_obey l D cy K n ad hJ (0) hO.tn (sX0_record t (0)) a1 a2 a3 ((sX0_record t (0)) (0) 5).toNatClampNeg (Nat.le_trans hG.rok.c.1 (by decide)) hG.rok.c.2) dX6_carryOut_19 rfl gX6_carryOut_X5_obey hyX5_obey rfl (by decide) (by decide) hO.tn.h0 rfl hO.tn.e0 rfl rfl rfl (Nat.le_of_ble_eq_true rfl) ?_
  refine z_virtIe C 22 (As := [.int (rX5_obey (0) (sX0_record t (0)) a1 a2 a3 ((sX0_record t (0)) (0) 5).toNatClampNeg)]) (st := []) (id := 270) (kX6_kept l D cy K n ad hJ hO (sX5_obey (0) (sX0_record t (0)) a1 a2 a3 ((sX0_record t (0)) (0) 5).toNatClampNeg) (rX5_obey (0) (sX0_record t (0)) a1 a2 a3 ((sX0_record t (0)) (0) 5).toNatClampNeg) ) dX6_carryOut_22 rfl gX6_carryOut_X6_kept hyX6_kept rfl (by decide) (by decide) hO.h0 rfl hO.e0 rfl rfl rfl (Nat.le_of_ble_eq_true rfl) ?_
  exact z_iret C 25 hA hQ rfl dX6_carryOut_25 ⟨rfl, rfl⟩
def rX6_house (t : zM) (a1 : Int32) (a2 : Int32) : Int32 := (rX6_carryOut t 104 a1 a2)
def sX6_house (t : zM) (a1 : Int32) (a2 : Int32) : zM := (sX6_carryOut t 104 a1 a2)
theorem hyX6_house : yX6_house.cls = RX6 ∧ yX6_house.cls ≠ "java/lang/invoke/MethodHandle" ∧ yX6_house.cls ≠ "java/lang/invoke/VarHandle" ∧ (parseMethodDescriptor yX6_house.desc).map (fun d => d.parameters.length) = some 2 := by decide +kernel
set_option maxHeartbeats 3000000 in
set_option maxRecDepth 100000 in
theorem kX6_house (l : Launch) (D : va_G) (cy : Nat → ClassId) (K : zK) (n : Nat) (ad : Nat → Nat) (hJ : zJ n ad) (hO : zTop cy K n ad) (t : zM) (a1 : Int32) (a2 : Int32) (hG : zGd t) : zI l yX6_house wsX6_house 6 D cy K n ad t [.ref (ad (270)), .int a1, .int a2] (fun r t1 => r = rX6_house t a1 a2 ∧ t1 = sX6_house t a1 a2) := by
  refine z_startI (cc := cX6_house) (mL := 3) (ret := (some .int)) (own := RX6) rfl (by decide +kernel) rfl hJ (Nat.le_of_ble_eq_true rfl) ?_
  intro p e s m args below meth c A hA Q hQ C
  refine z_aload_n C 0 0 0 dX6_house_0 rfl rfl ?_
  refine z_bipush C 1 (v := 104) dX6_house_1 (by decide +kernel) ?_
  refine z_iload_n C 3 1 1 dX6_house_3 rfl rfl ?_
  refine z_iload_n C 4 2 2 dX6_house_4 rfl rfl ?_
  refine z_virtIe C 5 (As := [.int 104, .int a1, .int a2]) (st := []) (id := 270) (kX6_carryOut l D cy K n ad hJ hO t 104 a1 a2 hG) dX6_house_5 rfl gX6_house_X6_carryOut hyX6_carryOut rfl (by decide) (by decide) hO.h0 rfl hO.e0 rfl rfl rfl (Nat.le_of_ble_eq_true rfl) ?_
  exact z_iret C 8 hA hQ rfl dX6_house_8 ⟨rfl, rfl⟩
def rX6_flow (t : zM) (a1 : Int32) (a2 : Int32) : Int32 := (rX6_carryOut t 102 a1 a2)
def sX6_flow (t : zM) (a1 : Int32) (a2 : Int32) : zM := (sX6_carryOut t 102 a1 a2)
theorem hyX6_flow : yX6_flow.cls = RX6 ∧ yX6_flow.cls ≠ "java/lang/invoke/MethodHandle" ∧ yX6_flow.cls ≠ "java/lang/invoke/VarHandle" ∧ (parseMethodDescriptor yX6_flow.desc).map (fun d => d.parameters.length) = some 2 := by decide +kernel
set_option maxHeartbeats 3000000 in
set_option maxRecDepth 100000 in
theorem kX6_flow (l : Launch) (D : va_G) (cy : Nat → ClassId) (K : zK) (n : Nat) (ad : Nat → Nat) (hJ : zJ n ad) (hO : zTop cy K n ad) (t : zM) (a1 : Int32) (a2 : Int32) (hG : zGd t) : zI l yX6_flow wsX6_flow 6 D cy K n ad t [.ref (ad (270)), .int a1, .int a2] (fun r t1 => r = rX6_flow t a1 a2 ∧ t1 = sX6_flow t a1 a2) := by
  refine z_startI (cc := cX6_flow) (mL := 3) (ret := (some .int)) (own := RX6) rfl (by decide +kernel) rfl hJ (Nat.le_of_ble_eq_true rfl) ?_
  intro p e s m args below meth c A hA Q hQ C
  refine z_aload_n C 0 0 0 dX6_flow_0 rfl rfl ?_
  refine z_bipush C 1 (v := 102) dX6_flow_1 (by decide +kernel) ?_
  refine z_iload_n C 3 1 1 dX6_flow_3 rfl rfl ?_
  refine z_iload_n C 4 2 2 dX6_flow_4 rfl rfl ?_
  refine z_virtIe C 5 (As := [.int 102, .int a1, .int a2]) (st := []) (id := 270) (kX6_carryOut l D cy K n ad hJ hO t 102 a1 a2 hG) dX6_flow_5 rfl gX6_flow_X6_carryOut hyX6_carryOut rfl (by decide) (by decide) hO.h0 rfl hO.e0 rfl rfl rfl (Nat.le_of_ble_eq_true rfl) ?_
  exact z_iret C 8 hA hQ rfl dX6_flow_8 ⟨rfl, rfl⟩
def rX6_read (t : zM) (a1 : Int32) : Int32 := (rX6_carryOut t 114 a1 0)
def sX6_read (t : zM) (a1 : Int32) : zM := (sX6_carryOut t 114 a1 0)
theorem hyX6_read : yX6_read.cls = RX6 ∧ yX6_read.cls ≠ "java/lang/invoke/MethodHandle" ∧ yX6_read.cls ≠ "java/lang/invoke/VarHandle" ∧ (parseMethodDescriptor yX6_read.desc).map (fun d => d.parameters.length) = some 1 := by decide +kernel
set_option maxHeartbeats 3000000 in
set_option maxRecDepth 100000 in
theorem kX6_read (l : Launch) (D : va_G) (cy : Nat → ClassId) (K : zK) (n : Nat) (ad : Nat → Nat) (hJ : zJ n ad) (hO : zTop cy K n ad) (t : zM) (a1 : Int32) (hG : zGd t) : zI l yX6_read wsX6_read 6 D cy K n ad t [.ref (ad (270)), .int a1] (fun r t1 => r = rX6_read t a1 ∧ t1 = sX6_read t a1) := by
  refine z_startI (cc := cX6_read) (mL := 2) (ret := (some .int)) (own := RX6) rfl (by decide +kernel) rfl hJ (Nat.le_of_ble_eq_true rfl) ?_
  intro p e s m args below meth c A hA Q hQ C
  refine z_aload_n C 0 0 0 dX6_read_0 rfl rfl ?_
  refine z_bipush C 1 (v := 114) dX6_read_1 (by decide +kernel) ?_
  refine z_iload_n C 3 1 1 dX6_read_3 rfl rfl ?_
  refine z_iconst C 4 (v := 0) dX6_read_4 (by decide +kernel) ?_
  refine z_virtIe C 5 (As := [.int 114, .int a1, .int 0]) (st := []) (id := 270) (kX6_carryOut l D cy K n ad hJ hO t 114 a1 0 hG) dX6_read_5 rfl gX6_read_X6_carryOut hyX6_carryOut rfl (by decide) (by decide) hO.h0 rfl hO.e0 rfl rfl rfl (Nat.le_of_ble_eq_true rfl) ?_
  exact z_iret C 8 hA hQ rfl dX6_read_8 ⟨rfl, rfl⟩
def rX6_change (t : zM) (a1 : Int32) : Int32 := (rX6_carryOut t 99 a1 0)
def sX6_change (t : zM) (a1 : Int32) : zM := (sX6_carryOut t 99 a1 0)
theorem hyX6_change : yX6_change.cls = RX6 ∧ yX6_change.cls ≠ "java/lang/invoke/MethodHandle" ∧ yX6_change.cls ≠ "java/lang/invoke/VarHandle" ∧ (parseMethodDescriptor yX6_change.desc).map (fun d => d.parameters.length) = some 1 := by decide +kernel
set_option maxHeartbeats 3000000 in
set_option maxRecDepth 100000 in
theorem kX6_change (l : Launch) (D : va_G) (cy : Nat → ClassId) (K : zK) (n : Nat) (ad : Nat → Nat) (hJ : zJ n ad) (hO : zTop cy K n ad) (t : zM) (a1 : Int32) (hG : zGd t) : zI l yX6_change wsX6_change 6 D cy K n ad t [.ref (ad (270)), .int a1] (fun r t1 => r = rX6_change t a1 ∧ t1 = sX6_change t a1) := by
  refine z_startI (cc := cX6_change) (mL := 2) (ret := (some .int)) (own := RX6) rfl (by decide +kernel) rfl hJ (Nat.le_of_ble_eq_true rfl) ?_
  intro p e s m args below meth c A hA Q hQ C
  refine z_aload_n C 0 0 0 dX6_change_0 rfl rfl ?_
  refine z_bipush C 1 (v := 99) dX6_change_1 (by decide +kernel) ?_
  refine z_iload_n C 3 1 1 dX6_change_3 rfl rfl ?_
  refine z_iconst C 4 (v := 0) dX6_change_4 (by decide +kernel) ?_
  refine z_virtIe C 5 (As := [.int 99, .int a1, .int 0]) (st := []) (id := 270) (kX6_carryOut l D cy K n ad hJ hO t 99 a1 0 hG) dX6_change_5 rfl gX6_change_X6_carryOut hyX6_carryOut rfl (by decide) (by decide) hO.h0 rfl hO.e0 rfl rfl rfl (Nat.le_of_ble_eq_true rfl) ?_
  exact z_iret C 8 hA hQ rfl dX6_change_8 ⟨rfl, rfl⟩
def rX6_days (t : zM) (a1 : Int32) : Int32 := (rX6_carryOut t 100 a1 0)
def sX6_days (t : zM) (a1 : Int32) : zM := (sX6_carryOut t 100 a1 0)
theorem hyX6_days : yX6_days.cls = RX6 ∧ yX6_days.cls ≠ "java/lang/invoke/MethodHandle" ∧ yX6_days.cls ≠ "java/lang/invoke/VarHandle" ∧ (parseMethodDescriptor yX6_days.desc).map (fun d => d.parameters.length) = some 1 := by decide +kernel
set_option maxHeartbeats 3000000 in
set_option maxRecDepth 100000 in
theorem kX6_days (l : Launch) (D : va_G) (cy : Nat → ClassId) (K : zK) (n : Nat) (ad : Nat → Nat) (hJ : zJ n ad) (hO : zTop cy K n ad) (t : zM) (a1 : Int32) (hG : zGd t) : zI l yX6_days wsX6_days 6 D cy K n ad t [.ref (ad (270)), .int a1] (fun r t1 => r = rX6_days t a1 ∧ t1 = sX6_days t a1) := by
  refine z_startI (cc := cX6_days) (mL := 2) (ret := (some .int)) (own := RX6) rfl (by decide +kernel) rfl hJ (Nat.le_of_ble_eq_true rfl) ?_
  intro p e s m args below meth c A hA Q hQ C
  refine z_aload_n C 0 0 0 dX6_days_0 rfl rfl ?_
  refine z_bipush C 1 (v := 100) dX6_days_1 (by decide +kernel) ?_
  refine z_iload_n C 3 1 1 dX6_days_3 rfl rfl ?_
  refine z_iconst C 4 (v := 0) dX6_days_4 (by decide +kernel) ?_
  refine z_virtIe C 5 (As := [.int 100, .int a1, .int 0]) (st := []) (id := 270) (kX6_carryOut l D cy K n ad hJ hO t 100 a1 0 hG) dX6_days_5 rfl gX6_days_X6_carryOut hyX6_carryOut rfl (by decide) (by decide) hO.h0 rfl hO.e0 rfl rfl rfl (Nat.le_of_ble_eq_true rfl) ?_
  exact z_iret C 8 hA hQ rfl dX6_days_8 ⟨rfl, rfl⟩
def rX6_lock (t : zM) (a1 : Int32) (a2 : Int32) : Int32 := (rX6_kept (sX5_putLock (0) (sX0_record t (0)) a1 a2) (rX5_putLock (0) (sX0_record t (0)) a1 a2))
def sX6_lock (t : zM) (a1 : Int32) (a2 : Int32) : zM := (sX6_kept (sX5_putLock (0) (sX0_record t (0)) a1 a2) (rX5_putLock (0) (sX0_record t (0)) a1 a2))
theorem mX6_lock_f22 : Cond.fieldLink RX6 22 "WrongedMeters" "history" "LWrongedMeters$History;" ∈ wsX6_lock := by decide +kernel
set_option maxRecDepth 20000 in
theorem mX6_lock_in6 : ∀ w ∈ u_ws RX6 TX6 4, w ∈ wsX6_lock := by decide +kernel
theorem mX6_lock_f10 : Cond.fieldLink RX6 10 "WrongedMeters" "town" "LWrongedMeters$Town;" ∈ wsX6_lock := by decide +kernel
theorem hyX6_lock : yX6_lock.cls = RX6 ∧ yX6_lock.cls ≠ "java/lang/invoke/MethodHandle" ∧ yX6_lock.cls ≠ "java/lang/invoke/VarHandle" ∧ (parseMethodDescriptor yX6_lock.desc).map (fun d => d.parameters.length) = some 2 := by decide +kernel
set_option maxHeartbeats 3000000 in
set_option maxRecDepth 100000 in
theorem kX6_lock (l : Launch) (D : va_G) (cy : Nat → ClassId) (K : zK) (n : Nat) (ad : Nat → Nat) (hJ : zJ n ad) (hO : zTop cy K n ad) (t : zM) (a1 : Int32) (a2 : Int32) (hG : zGd t) (hb2 : a2 = 0 ∨ a2 = 1) : zI l yX6_lock wsX6_lock 4 D cy K n ad t [.ref (ad (270)), .int a1, .int a2] (fun r t1 => r = rX6_lock t a1 a2 ∧ t1 = sX6_lock t a1 a2) := by
  refine z_startI (cc := cX6_lock) (mL := 3) (ret := (some .int)) (own := RX6) rfl (by decide +kernel) rfl hJ (Nat.le_of_ble_eq_true rfl) ?_
  intro p e s m args below meth c A hA Q hQ C
  refine z_aload_n C 0 0 0 dX6_lock_0 rfl rfl ?_
  refine z_getr C 1 (a9 := ad (266)) (270) 2 dX6_lock_1 hO.h0 hO.e0 mX6_lock_in6 rfl (by decide) mX6_lock_f22 (fun _ => rfl) ?_
  refine z_aload_n C 4 0 0 dX6_lock_4 rfl rfl ?_
  refine z_getr C 5 (a9 := ad (0)) (270) 0 dX6_lock_5 hO.h0 hO.e0 mX6_lock_in6 rfl (by decide) mX6_lock_f10 (fun _ => rfl) ?_
  refine z_virtVe C 8 (As := [.ref (ad (0))]) (st := []) (id := 266) (kX0_record l D cy K n ad hJ hO.hi t (0) hO.tn (by decide) hG.fs hG.bits) dX6_lock_8 rfl gX6_lock_X0_record hyX0_record rfl (by decide) (by decide) hO.hi.h0 rfl hO.hi.e0 rfl rfl rfl (Nat.le_of_ble_eq_true rfl) ?_
  refine z_aload_n C 11 0 0 dX6_lock_11 rfl rfl ?_
  refine z_aload_n C 12 0 0 dX6_lock_12 rfl rfl ?_
  refine z_getr C 13 (a9 := ad (0)) (270) 0 dX6_lock_13 hO.h0 hO.e0 mX6_lock_in6 rfl (by decide) mX6_lock_f10 (fun _ => rfl) ?_
  refine z_iload_n C 16 1 1 dX6_lock_16 rfl rfl ?_
  refine z_iload_n C 17 2 2 dX6_lock_17 rfl rfl ?_
  refine z_virtIe C 18 (As := [.int a1, .int a2]) (st := [.ref (ad (270))]) (id := 0) (kX5_putLock l D cy K n ad hJ (0) hO.tn (sX0_record t (0)) a1 a2 hb2) dX6_lock_18 rfl gX6_lock_X5_putLock hyX5_putLock rfl (by decide) (by decide) hO.tn.h0 rfl hO.tn.e0 rfl rfl rfl (Nat.le_of_ble_eq_true rfl) ?_
  refine z_virtIe C 21 (As := [.int (rX5_putLock (0) (sX0_record t (0)) a1 a2)]) (st := []) (id := 270) (kX6_kept l D cy K n ad hJ hO (sX5_putLock (0) (sX0_record t (0)) a1 a2) (rX5_putLock (0) (sX0_record t (0)) a1 a2) ) dX6_lock_21 rfl gX6_lock_X6_kept hyX6_kept rfl (by decide) (by decide) hO.h0 rfl hO.e0 rfl rfl rfl (Nat.le_of_ble_eq_true rfl) ?_
  exact z_iret C 24 hA hQ rfl dX6_lock_24 ⟨rfl, rfl⟩
def rX6_houseOf (t : zM) (a1 : Int32) (a2 : Int32) : Int32 := (if zin (t (0) 4) a1 then (rX1_fact (0 + 2 + a1.toNatClampNeg) t a2) else (-1000001))
theorem mX6_houseOf_f10 : Cond.fieldLink RX6 10 "WrongedMeters" "town" "LWrongedMeters$Town;" ∈ wsX6_houseOf := by decide +kernel
set_option maxRecDepth 20000 in
theorem mX6_houseOf_in6 : ∀ w ∈ u_ws RX6 TX6 4, w ∈ wsX6_houseOf := by decide +kernel
theorem mX6_houseOf_c57 : Cond.constant RX6 57 (-1000001) ∈ wsX6_houseOf := by decide +kernel
theorem hyX6_houseOf : yX6_houseOf.cls = RX6 ∧ yX6_houseOf.cls ≠ "java/lang/invoke/MethodHandle" ∧ yX6_houseOf.cls ≠ "java/lang/invoke/VarHandle" ∧ (parseMethodDescriptor yX6_houseOf.desc).map (fun d => d.parameters.length) = some 2 := by decide +kernel
set_option maxHeartbeats 3000000 in
set_option maxRecDepth 100000 in
theorem kX6_houseOf (l : Launch) (D : va_G) (cy : Nat → ClassId) (K : zK) (n : Nat) (ad : Nat → Nat) (hJ : zJ n ad) (hO : zTop cy K n ad) (t : zM) (a1 : Int32) (a2 : Int32) (hG : zGd t) : zI l yX6_houseOf wsX6_houseOf 2 D cy K n ad t [.ref (ad (270)), .int a1, .int a2] (fun r t1 => r = rX6_houseOf t a1 a2 ∧ t1 = t) := by
  refine z_startI (cc := cX6_houseOf) (mL := 4) (ret := (some .int)) (own := RX6) rfl (by decide +kernel) rfl hJ (Nat.le_of_ble_eq_true rfl) ?_
  intro p e s m args below meth c A hA Q hQ C
  refine z_aload_n C 0 0 0 dX6_houseOf_0 rfl rfl ?_
  refine z_getr C 1 (a9 := ad (0)) (270) 0 dX6_houseOf_1 hO.h0 hO.e0 mX6_houseOf_in6 rfl (by decide) mX6_houseOf_f10 (fun _ => rfl) ?_
  refine z_iload_n C 4 1 1 dX6_houseOf_4 rfl rfl ?_
  refine z_virtQ C 5 (As := [.int a1]) (st := []) (id := 0) (kX5_houseNumbered l D cy K n ad hJ (0) hO.tn t a1 ) dX6_houseOf_5 rfl gX6_houseOf_X5_houseNumbered hyX5_houseNumbered rfl (by decide) (by decide) hO.tn.h0 rfl hO.tn.e0 rfl rfl rfl (Nat.le_of_ble_eq_true rfl) (fun r5_1 t5_1 h5_1 => ?_)
  obtain ⟨e9, e8⟩ := h5_1; replace e9 := e9.symm; replace e8 := e8.symm; subst e9; subst e8
  by_cases c5_2 : zin (t (0) 4) a1
  · have hkc5_2 := zin_lt c5_2
    refine z_cast (st2 := [.ref (ad (0 + 2 + a1.toNatClampNeg))]) (by rw [if_pos c5_2]; rfl) ?_
    refine z_astore_n C 8 3 ([(3, .ref (ad (0 + 2 + a1.toNatClampNeg))), (0, .ref (ad (270))), (1, .int a1), (2, .int a2)]) dX6_houseOf_8 rfl (by decide) rfl ?_
    refine z_aload_n C 9 3 0 dX6_houseOf_9 rfl rfl ?_
    refine z_ifnonnull C 10 18 dX6_houseOf_10 (by decide) ?_
    refine z_aload_n C 18 3 0 dX6_houseOf_18 rfl rfl ?_
    refine z_iload_n C 19 2 3 dX6_houseOf_19 rfl rfl ?_
    refine z_virtIe C 20 (As := [.int a2]) (st := []) (id := 0 + 2 + a1.toNatClampNeg) (kX1_fact l D cy K n ad hJ (0 + 2 + a1.toNatClampNeg) (hO.tn.hou hkc5_2) t a2 ) dX6_houseOf_20 rfl gX6_houseOf_X1_fact hyX1_fact rfl (by decide) (by decide) (hO.tn.hou hkc5_2).1 rfl (hO.tn.hou hkc5_2).2 rfl rfl rfl (Nat.le_of_ble_eq_true rfl) ?_
    exact z_iret C 23 hA hQ rfl dX6_houseOf_23 ⟨((if_pos c5_2).trans rfl).symm, rfl⟩
  · refine z_cast (st2 := [.null]) (by rw [if_neg c5_2]; rfl) ?_
    refine z_astore_nN C 8 3 ([(3, .null), (0, .ref (ad (270))), (1, .int a1), (2, .int a2)]) dX6_houseOf_8 rfl (by decide) rfl ?_
    refine z_aload_nN C 9 3 0 dX6_houseOf_9 rfl rfl ?_
    refine z_ifnonnullN C 10 dX6_houseOf_10 ?_
    refine z_ldc C 13 (v := (-1000001)) dX6_houseOf_13 mX6_houseOf_c57 ?_
    refine z_goto C 15 23 dX6_houseOf_15 (by decide) ?_
    exact z_iret C 23 hA hQ rfl dX6_houseOf_23 ⟨((if_neg c5_2).trans rfl).symm, rfl⟩
def rX6_at (t : zM) (a1 : Int32) (a2 : Int32) : Int32 := (if zis a1 then (if (rX6_isPlace a2) = 0 then (-1000001) else (if (rX4_houseOn (0 + 27 + 2 * a1.toNatClampNeg) t (rX6_stepOf a2)) = (-1) then (-1000004) else (rX4_houseOn (0 + 27 + 2 * a1.toNatClampNeg) t (rX6_stepOf a2)))) else (-1000001))
theorem mX6_at_f10 : Cond.fieldLink RX6 10 "WrongedMeters" "town" "LWrongedMeters$Town;" ∈ wsX6_at := by decide +kernel
set_option maxRecDepth 20000 in
theorem mX6_at_in6 : ∀ w ∈ u_ws RX6 TX6 4, w ∈ wsX6_at := by decide +kernel
theorem mX6_at_c79 : Cond.constant RX6 79 (-1000004) ∈ wsX6_at := by decide +kernel
theorem mX6_at_c57 : Cond.constant RX6 57 (-1000001) ∈ wsX6_at := by decide +kernel
theorem hyX6_at : yX6_at.cls = RX6 ∧ yX6_at.cls ≠ "java/lang/invoke/MethodHandle" ∧ yX6_at.cls ≠ "java/lang/invoke/VarHandle" ∧ (parseMethodDescriptor yX6_at.desc).map (fun d => d.parameters.length) = some 2 := by decide +kernel
set_option maxHeartbeats 3000000 in
set_option maxRecDepth 100000 in
theorem kX6_at (l : Launch) (D : va_G) (cy : Nat → ClassId) (K : zK) (n : Nat) (ad : Nat → Nat) (hJ : zJ n ad) (hO : zTop cy K n ad) (t : zM) (a1 : Int32) (a2 : Int32) (hG : zGd t) : zI l yX6_at wsX6_at 1 D cy K n ad t [.ref (ad (270)), .int a1, .int a2] (fun r t1 => r = rX6_at t a1 a2 ∧ t1 = t) := by
  refine z_startI (cc := cX6_at) (mL := 5) (ret := (some .int)) (own := RX6) rfl (by decide +kernel) rfl hJ (Nat.le_of_ble_eq_true rfl) ?_
  intro p e s m args below meth c A hA Q hQ C
  refine z_aload_n C 0 0 0 dX6_at_0 rfl rfl ?_
  refine z_getr C 1 (a9 := ad (0)) (270) 0 dX6_at_1 hO.h0 hO.e0 mX6_at_in6 rfl (by decide) mX6_at_f10 (fun _ => rfl) ?_
  refine z_iload_n C 4 1 1 dX6_at_4 rfl rfl ?_
  refine z_virtQ C 5 (As := [.int a1]) (st := []) (id := 0) (kX5_streetNumbered l D cy K n ad hJ (0) hO.tn t a1 ) dX6_at_5 rfl gX6_at_X5_streetNumbered hyX5_streetNumbered rfl (by decide) (by decide) hO.tn.h0 rfl hO.tn.e0 rfl rfl rfl (Nat.le_of_ble_eq_true rfl) (fun r5_1 t5_1 h5_1 => ?_)
  obtain ⟨e9, e8⟩ := h5_1; replace e9 := e9.symm; replace e8 := e8.symm; subst e9; subst e8
  by_cases c5_2 : zis a1
  · have hkc5_2 := zis_lt c5_2
    refine z_cast (st2 := [.ref (ad (0 + 27 + 2 * a1.toNatClampNeg))]) (by rw [if_pos c5_2]; rfl) ?_
    refine z_astore_n C 8 3 ([(3, .ref (ad (0 + 27 + 2 * a1.toNatClampNeg))), (0, .ref (ad (270))), (1, .int a1), (2, .int a2)]) dX6_at_8 rfl (by decide) rfl ?_
    refine z_aload_n C 9 3 0 dX6_at_9 rfl rfl ?_
    refine z_ifnull C 10 dX6_at_10 ?_
    refine z_iload_n C 13 2 3 dX6_at_13 rfl rfl ?_
    refine z_statIe C 14 (As := [.int a2]) (st := []) (kX6_isPlace l D cy K n ad hJ t a2 ) dX6_at_14 rfl gX6_at_X6_isPlace hyX6_isPlace rfl (by decide) (by decide) rfl rfl (Nat.le_of_ble_eq_true rfl) ?_
    refine z_if_ne C 17 23 dX6_at_17 (by decide) (fun c17_4 => ?_) (fun c17_4 => ?_)
    · refine z_aload_n C 23 3 0 dX6_at_23 rfl rfl ?_
      refine z_iload_n C 24 2 3 dX6_at_24 rfl rfl ?_
      refine z_statIe C 25 (As := [.int a2]) (st := [.ref (ad (0 + 27 + 2 * a1.toNatClampNeg))]) (kX6_stepOf l D cy K n ad hJ t a2 ) dX6_at_25 rfl gX6_at_X6_stepOf hyX6_stepOf rfl (by decide) (by decide) rfl rfl (Nat.le_of_ble_eq_true rfl) ?_
      refine z_virtIe C 28 (As := [.int (rX6_stepOf a2)]) (st := []) (id := 0 + 27 + 2 * a1.toNatClampNeg) (kX4_houseOn l D cy K n ad hJ (0 + 27 + 2 * a1.toNatClampNeg) (hO.tn.str hkc5_2) t (rX6_stepOf a2) ) dX6_at_28 rfl gX6_at_X4_houseOn hyX4_houseOn rfl (by decide) (by decide) (Nat.lt_of_succ_lt (hO.tn.str hkc5_2).1) rfl (hO.tn.str hkc5_2).2.1 rfl rfl rfl (Nat.le_of_ble_eq_true rfl) ?_
      refine z_istore C 31 4 ([(4, .int (rX4_houseOn (0 + 27 + 2 * a1.toNatClampNeg) t (rX6_stepOf a2))), (3, .ref (ad (0 + 27 + 2 * a1.toNatClampNeg))), (0, .ref (ad (270))), (1, .int a1), (2, .int a2)]) dX6_at_31 (by decide) rfl ?_
      refine z_iload C 33 4 0 dX6_at_33 rfl ?_
      refine z_iconst C 35 (v := (-1)) dX6_at_35 (by decide +kernel) ?_
      refine z_icmp_ne C 36 44 dX6_at_36 (by decide) (fun c36_7 => ?_) (fun c36_7 => ?_)
      · refine z_iload C 44 4 0 dX6_at_44 rfl ?_
        exact z_iret C 46 hA hQ rfl dX6_at_46 ⟨((if_pos c5_2).trans ((if_neg c17_4).trans ((if_neg c36_7).trans rfl))).symm, rfl⟩
      · refine z_ldc C 39 (v := (-1000004)) dX6_at_39 mX6_at_c79 ?_
        refine z_goto C 41 46 dX6_at_41 (by decide) ?_
        exact z_iret C 46 hA hQ rfl dX6_at_46 ⟨((if_pos c5_2).trans ((if_neg c17_4).trans ((if_pos c36_7).trans rfl))).symm, rfl⟩
    · refine z_ldc C 20 (v := (-1000001)) dX6_at_20 mX6_at_c57 ?_
      exact z_iret C 22 hA hQ rfl dX6_at_22 ⟨((if_pos c5_2).trans ((if_pos c17_4).trans rfl)).symm, rfl⟩
  · refine z_cast (st2 := [.null]) (by rw [if_neg c5_2]; rfl) ?_
    refine z_astore_nN C 8 3 ([(3, .null), (0, .ref (ad (270))), (1, .int a1), (2, .int a2)]) dX6_at_8 rfl (by decide) rfl ?_
    refine z_aload_nN C 9 3 0 dX6_at_9 rfl rfl ?_
    refine z_ifnullN C 10 20 dX6_at_10 (by decide) ?_
    refine z_ldc C 20 (v := (-1000001)) dX6_at_20 mX6_at_c57 ?_
    exact z_iret C 22 hA hQ rfl dX6_at_22 ⟨((if_neg c5_2).trans rfl).symm, rfl⟩
def rX6_next (t : zM) (a1 : Int32) (a2 : Int32) : Int32 := (if zis a1 then (if 0 ≤ a2 then (rX4_houseRanked (0 + 27 + 2 * a1.toNatClampNeg) t a2) else (-1000001)) else (-1000001))
theorem mX6_next_f10 : Cond.fieldLink RX6 10 "WrongedMeters" "town" "LWrongedMeters$Town;" ∈ wsX6_next := by decide +kernel
set_option maxRecDepth 20000 in
theorem mX6_next_in6 : ∀ w ∈ u_ws RX6 TX6 4, w ∈ wsX6_next := by decide +kernel
theorem mX6_next_c57 : Cond.constant RX6 57 (-1000001) ∈ wsX6_next := by decide +kernel
theorem hyX6_next : yX6_next.cls = RX6 ∧ yX6_next.cls ≠ "java/lang/invoke/MethodHandle" ∧ yX6_next.cls ≠ "java/lang/invoke/VarHandle" ∧ (parseMethodDescriptor yX6_next.desc).map (fun d => d.parameters.length) = some 2 := by decide +kernel
set_option maxHeartbeats 3000000 in
set_option maxRecDepth 100000 in
theorem kX6_next (l : Launch) (D : va_G) (cy : Nat → ClassId) (K : zK) (n : Nat) (ad : Nat → Nat) (hJ : zJ n ad) (hO : zTop cy K n ad) (t : zM) (a1 : Int32) (a2 : Int32) (hG : zGd t) : zI l yX6_next wsX6_next 2 D cy K n ad t [.ref (ad (270)), .int a1, .int a2] (fun r t1 => r = rX6_next t a1 a2 ∧ t1 = t) := by
  refine z_startI (cc := cX6_next) (mL := 4) (ret := (some .int)) (own := RX6) rfl (by decide +kernel) rfl hJ (Nat.le_of_ble_eq_true rfl) ?_
  intro p e s m args below meth c A hA Q hQ C
  refine z_aload_n C 0 0 0 dX6_next_0 rfl rfl ?_
  refine z_getr C 1 (a9 := ad (0)) (270) 0 dX6_next_1 hO.h0 hO.e0 mX6_next_in6 rfl (by decide) mX6_next_f10 (fun _ => rfl) ?_
  refine z_iload_n C 4 1 1 dX6_next_4 rfl rfl ?_
  refine z_virtQ C 5 (As := [.int a1]) (st := []) (id := 0) (kX5_streetNumbered l D cy K n ad hJ (0) hO.tn t a1 ) dX6_next_5 rfl gX6_next_X5_streetNumbered hyX5_streetNumbered rfl (by decide) (by decide) hO.tn.h0 rfl hO.tn.e0 rfl rfl rfl (Nat.le_of_ble_eq_true rfl) (fun r5_1 t5_1 h5_1 => ?_)
  obtain ⟨e9, e8⟩ := h5_1; replace e9 := e9.symm; replace e8 := e8.symm; subst e9; subst e8
  by_cases c5_2 : zis a1
  · have hkc5_2 := zis_lt c5_2
    refine z_cast (st2 := [.ref (ad (0 + 27 + 2 * a1.toNatClampNeg))]) (by rw [if_pos c5_2]; rfl) ?_
    refine z_astore_n C 8 3 ([(3, .ref (ad (0 + 27 + 2 * a1.toNatClampNeg))), (0, .ref (ad (270))), (1, .int a1), (2, .int a2)]) dX6_next_8 rfl (by decide) rfl ?_
    refine z_aload_n C 9 3 0 dX6_next_9 rfl rfl ?_
    refine z_ifnull C 10 dX6_next_10 ?_
    refine z_iload_n C 13 2 3 dX6_next_13 rfl rfl ?_
    refine z_if_ge C 14 20 dX6_next_14 (by decide) (fun c14_3 => ?_) (fun c14_3 => ?_)
    · refine z_aload_n C 20 3 0 dX6_next_20 rfl rfl ?_
      refine z_iload_n C 21 2 3 dX6_next_21 rfl rfl ?_
      refine z_virtIe C 22 (As := [.int a2]) (st := []) (id := 0 + 27 + 2 * a1.toNatClampNeg) (kX4_houseRanked l D cy K n ad hJ (0 + 27 + 2 * a1.toNatClampNeg) (hO.tn.str hkc5_2) t a2 ) dX6_next_22 rfl gX6_next_X4_houseRanked hyX4_houseRanked rfl (by decide) (by decide) (Nat.lt_of_succ_lt (hO.tn.str hkc5_2).1) rfl (hO.tn.str hkc5_2).2.1 rfl rfl rfl (Nat.le_of_ble_eq_true rfl) ?_
      exact z_iret C 25 hA hQ rfl dX6_next_25 ⟨((if_pos c5_2).trans ((if_pos c14_3).trans rfl)).symm, rfl⟩
    · refine z_ldc C 17 (v := (-1000001)) dX6_next_17 mX6_next_c57 ?_
      exact z_iret C 19 hA hQ rfl dX6_next_19 ⟨((if_pos c5_2).trans ((if_neg c14_3).trans rfl)).symm, rfl⟩
  · refine z_cast (st2 := [.null]) (by rw [if_neg c5_2]; rfl) ?_
    refine z_astore_nN C 8 3 ([(3, .null), (0, .ref (ad (270))), (1, .int a1), (2, .int a2)]) dX6_next_8 rfl (by decide) rfl ?_
    refine z_aload_nN C 9 3 0 dX6_next_9 rfl rfl ?_
    refine z_ifnullN C 10 17 dX6_next_10 (by decide) ?_
    refine z_ldc C 17 (v := (-1000001)) dX6_next_17 mX6_next_c57 ?_
    exact z_iret C 19 hA hQ rfl dX6_next_19 ⟨((if_neg c5_2).trans rfl).symm, rfl⟩
def rX6_ledger (t : zM) (a1 : Int32) (a2 : Int32) : Int32 := (rX2_entry (0 + 35) t a1 a2)
theorem mX6_ledger_f10 : Cond.fieldLink RX6 10 "WrongedMeters" "town" "LWrongedMeters$Town;" ∈ wsX6_ledger := by decide +kernel
set_option maxRecDepth 20000 in
theorem mX6_ledger_in6 : ∀ w ∈ u_ws RX6 TX6 4, w ∈ wsX6_ledger := by decide +kernel
set_option maxRecDepth 20000 in
theorem mX6_ledger_in5 : ∀ w ∈ u_ws RX5 TX5 13, w ∈ wsX6_ledger := by decide +kernel
theorem hyX6_ledger : yX6_ledger.cls = RX6 ∧ yX6_ledger.cls ≠ "java/lang/invoke/MethodHandle" ∧ yX6_ledger.cls ≠ "java/lang/invoke/VarHandle" ∧ (parseMethodDescriptor yX6_ledger.desc).map (fun d => d.parameters.length) = some 2 := by decide +kernel
set_option maxHeartbeats 3000000 in
set_option maxRecDepth 100000 in
theorem kX6_ledger (l : Launch) (D : va_G) (cy : Nat → ClassId) (K : zK) (n : Nat) (ad : Nat → Nat) (hJ : zJ n ad) (hO : zTop cy K n ad) (t : zM) (a1 : Int32) (a2 : Int32) (hG : zGd t) : zI l yX6_ledger wsX6_ledger 1 D cy K n ad t [.ref (ad (270)), .int a1, .int a2] (fun r t1 => r = rX6_ledger t a1 a2 ∧ t1 = t) := by
  refine z_startI (cc := cX6_ledger) (mL := 3) (ret := (some .int)) (own := RX6) rfl (by decide +kernel) rfl hJ (Nat.le_of_ble_eq_true rfl) ?_
  intro p e s m args below meth c A hA Q hQ C
  refine z_aload_n C 0 0 0 dX6_ledger_0 rfl rfl ?_
  refine z_getr C 1 (a9 := ad (0)) (270) 0 dX6_ledger_1 hO.h0 hO.e0 mX6_ledger_in6 rfl (by decide) mX6_ledger_f10 (fun _ => rfl) ?_
  refine z_getrN C 4 (a9 := ad (0 + 35)) (0) 2 dX6_ledger_4 hO.tn.h0 hO.tn.e0 mX6_ledger_in5 rfl (by decide) nst_f6_83 (fun _ => rfl) ?_
  refine z_iload_n C 7 1 1 dX6_ledger_7 rfl rfl ?_
  refine z_iload_n C 8 2 2 dX6_ledger_8 rfl rfl ?_
  refine z_virtIe C 9 (As := [.int a1, .int a2]) (st := []) (id := 0 + 35) (kX2_entry l D cy K n ad hJ (0 + 35) hO.tn.led t (t (0 + 35) 1).toNatClampNeg (t (0 + 35) 2).toNatClampNeg a1 a2 hG.row.c.1 hG.row.c.2 hG.sz.c.1 hG.sz.c.2) dX6_ledger_9 rfl gX6_ledger_X2_entry hyX2_entry rfl (by decide) (by decide) (Nat.lt_of_succ_lt hO.tn.led.1) rfl hO.tn.led.2.1 rfl rfl rfl (Nat.le_of_ble_eq_true rfl) ?_
  exact z_iret C 12 hA hQ rfl dX6_ledger_12 ⟨rfl, rfl⟩
def rX6_why (t : zM) (a1 : Int32) : Int32 := (if zin (t (0) 4) a1 then (rX1_reasonOn (0 + 2 + a1.toNatClampNeg) t (t (0) 5)) else (-1000001))
theorem mX6_why_f10 : Cond.fieldLink RX6 10 "WrongedMeters" "town" "LWrongedMeters$Town;" ∈ wsX6_why := by decide +kernel
set_option maxRecDepth 20000 in
theorem mX6_why_in6 : ∀ w ∈ u_ws RX6 TX6 4, w ∈ wsX6_why := by decide +kernel
set_option maxRecDepth 20000 in
theorem mX6_why_in5 : ∀ w ∈ u_ws RX5 TX5 13, w ∈ wsX6_why := by decide +kernel
theorem mX6_why_c57 : Cond.constant RX6 57 (-1000001) ∈ wsX6_why := by decide +kernel
theorem hyX6_why : yX6_why.cls = RX6 ∧ yX6_why.cls ≠ "java/lang/invoke/MethodHandle" ∧ yX6_why.cls ≠ "java/lang/invoke/VarHandle" ∧ (parseMethodDescriptor yX6_why.desc).map (fun d => d.parameters.length) = some 1 := by decide +kernel
set_option maxHeartbeats 3000000 in
set_option maxRecDepth 100000 in
theorem kX6_why (l : Launch) (D : va_G) (cy : Nat → ClassId) (K : zK) (n : Nat) (ad : Nat → Nat) (hJ : zJ n ad) (hO : zTop cy K n ad) (t : zM) (a1 : Int32) (hG : zGd t) : zI l yX6_why wsX6_why 1 D cy K n ad t [.ref (ad (270)), .int a1] (fun r t1 => r = rX6_why t a1 ∧ t1 = t) := by
  refine z_startI (cc := cX6_why) (mL := 3) (ret := (some .int)) (own := RX6) rfl (by decide +kernel) rfl hJ (Nat.le_of_ble_eq_true rfl) ?_
  intro p e s m args below meth c A hA Q hQ C
  refine z_aload_n C 0 0 0 dX6_why_0 rfl rfl ?_
  refine z_getr C 1 (a9 := ad (0)) (270) 0 dX6_why_1 hO.h0 hO.e0 mX6_why_in6 rfl (by decide) mX6_why_f10 (fun _ => rfl) ?_
  refine z_iload_n C 4 1 1 dX6_why_4 rfl rfl ?_
  refine z_virtQ C 5 (As := [.int a1]) (st := []) (id := 0) (kX5_houseNumbered l D cy K n ad hJ (0) hO.tn t a1 ) dX6_why_5 rfl gX6_why_X5_houseNumbered hyX5_houseNumbered rfl (by decide) (by decide) hO.tn.h0 rfl hO.tn.e0 rfl rfl rfl (Nat.le_of_ble_eq_true rfl) (fun r5_1 t5_1 h5_1 => ?_)
  obtain ⟨e9, e8⟩ := h5_1; replace e9 := e9.symm; replace e8 := e8.symm; subst e9; subst e8
  by_cases c5_2 : zin (t (0) 4) a1
  · have hkc5_2 := zin_lt c5_2
    refine z_cast (st2 := [.ref (ad (0 + 2 + a1.toNatClampNeg))]) (by rw [if_pos c5_2]; rfl) ?_
    refine z_astore_n C 8 2 ([(2, .ref (ad (0 + 2 + a1.toNatClampNeg))), (0, .ref (ad (270))), (1, .int a1)]) dX6_why_8 rfl (by decide) rfl ?_
    refine z_aload_n C 9 2 0 dX6_why_9 rfl rfl ?_
    refine z_ifnonnull C 10 18 dX6_why_10 (by decide) ?_
    refine z_aload_n C 18 2 0 dX6_why_18 rfl rfl ?_
    refine z_aload_n C 19 0 1 dX6_why_19 rfl rfl ?_
    refine z_getr C 20 (a9 := ad (0)) (270) 0 dX6_why_20 hO.h0 hO.e0 mX6_why_in6 rfl (by decide) mX6_why_f10 (fun _ => rfl) ?_
    refine z_getiN C 23 (0) 5 dX6_why_23 hO.tn.h0 hO.tn.e0 mX6_why_in5 rfl (by decide) nst_f6_92 (fun _ => rfl) ?_
    refine z_virtIe C 26 (As := [.int (t (0) 5)]) (st := []) (id := 0 + 2 + a1.toNatClampNeg) (kX1_reasonOn l D cy K n ad hJ (0 + 2 + a1.toNatClampNeg) (hO.tn.hou hkc5_2) t (t (0) 5) ) dX6_why_26 rfl gX6_why_X1_reasonOn hyX1_reasonOn rfl (by decide) (by decide) (hO.tn.hou hkc5_2).1 rfl (hO.tn.hou hkc5_2).2 rfl rfl rfl (Nat.le_of_ble_eq_true rfl) ?_
    exact z_iret C 29 hA hQ rfl dX6_why_29 ⟨((if_pos c5_2).trans rfl).symm, rfl⟩
  · refine z_cast (st2 := [.null]) (by rw [if_neg c5_2]; rfl) ?_
    refine z_astore_nN C 8 2 ([(2, .null), (0, .ref (ad (270))), (1, .int a1)]) dX6_why_8 rfl (by decide) rfl ?_
    refine z_aload_nN C 9 2 0 dX6_why_9 rfl rfl ?_
    refine z_ifnonnullN C 10 dX6_why_10 ?_
    refine z_ldc C 13 (v := (-1000001)) dX6_why_13 mX6_why_c57 ?_
    refine z_goto C 15 29 dX6_why_15 (by decide) ?_
    exact z_iret C 29 hA hQ rfl dX6_why_29 ⟨((if_neg c5_2).trans rfl).symm, rfl⟩
def rX6_ifRead (t : zM) (a1 : Int32) (a2 : Int32) : Int32 := (if zin (t (0) 4) a1 then (if a2 = 0 then (rX6_unitsFor (rX1_used (0 + 2 + a1.toNatClampNeg) t) (t (0 + 2 + a1.toNatClampNeg) 6)) else (if a2 = 1 then (1000 + (((t (0 + 2 + a1.toNatClampNeg) 6) + (100 * (rX6_unitsFor (rX1_used (0 + 2 + a1.toNatClampNeg) t) (t (0 + 2 + a1.toNatClampNeg) 6)))) - (rX1_used (0 + 2 + a1.toNatClampNeg) t))) else (if a2 = 2 then (if (((t (0 + 2 + a1.toNatClampNeg) 6) + (100 * (rX6_unitsFor (rX1_used (0 + 2 + a1.toNatClampNeg) t) (t (0 + 2 + a1.toNatClampNeg) 6)))) - (rX1_used (0 + 2 + a1.toNatClampNeg) t)) ≤ 0 then (if 0 ≤ (((t (0 + 2 + a1.toNatClampNeg) 6) + (100 * (rX6_unitsFor (rX1_used (0 + 2 + a1.toNatClampNeg) t) (t (0 + 2 + a1.toNatClampNeg) 6)))) - (rX1_used (0 + 2 + a1.toNatClampNeg) t)) then 0 else 2) else 1) else (if a2 = 3 then ((rX6_unitsFor (rX1_used (0 + 2 + a1.toNatClampNeg) t) (t (0 + 2 + a1.toNatClampNeg) 6)) * (t (0 + 37) 1)) else (-1000001))))) else (-1000001))
theorem mX6_ifRead_f10 : Cond.fieldLink RX6 10 "WrongedMeters" "town" "LWrongedMeters$Town;" ∈ wsX6_ifRead := by decide +kernel
set_option maxRecDepth 20000 in
theorem mX6_ifRead_in6 : ∀ w ∈ u_ws RX6 TX6 4, w ∈ wsX6_ifRead := by decide +kernel
set_option maxRecDepth 20000 in
theorem mX6_ifRead_in1 : ∀ w ∈ u_ws RX1 TX1 14, w ∈ wsX6_ifRead := by decide +kernel
set_option maxRecDepth 20000 in
theorem mX6_ifRead_in5 : ∀ w ∈ u_ws RX5 TX5 13, w ∈ wsX6_ifRead := by decide +kernel
theorem mX6_ifRead_c57 : Cond.constant RX6 57 (-1000001) ∈ wsX6_ifRead := by decide +kernel
theorem hyX6_ifRead : yX6_ifRead.cls = RX6 ∧ yX6_ifRead.cls ≠ "java/lang/invoke/MethodHandle" ∧ yX6_ifRead.cls ≠ "java/lang/invoke/VarHandle" ∧ (parseMethodDescriptor yX6_ifRead.desc).map (fun d => d.parameters.length) = some 2 := by decide +kernel
set_option maxHeartbeats 3000000 in
set_option maxRecDepth 100000 in
theorem kX6_ifRead (l : Launch) (D : va_G) (cy : Nat → ClassId) (K : zK) (n : Nat) (ad : Nat → Nat) (hJ : zJ n ad) (hO : zTop cy K n ad) (t : zM) (a1 : Int32) (a2 : Int32) (hG : zGd t) : zI l yX6_ifRead wsX6_ifRead 1 D cy K n ad t [.ref (ad (270)), .int a1, .int a2] (fun r t1 => r = rX6_ifRead t a1 a2 ∧ t1 = t) := by
  refine z_startI (cc := cX6_ifRead) (mL := 7) (ret := (some .int)) (own := RX6) rfl (by decide +kernel) rfl hJ (Nat.le_of_ble_eq_true rfl) ?_
  intro p e s m args below meth c A hA Q hQ C
  refine z_aload_n C 0 0 0 dX6_ifRead_0 rfl rfl ?_
  refine z_getr C 1 (a9 := ad (0)) (270) 0 dX6_ifRead_1 hO.h0 hO.e0 mX6_ifRead_in6 rfl (by decide) mX6_ifRead_f10 (fun _ => rfl) ?_
  refine z_iload_n C 4 1 1 dX6_ifRead_4 rfl rfl ?_
  refine z_virtQ C 5 (As := [.int a1]) (st := []) (id := 0) (kX5_houseNumbered l D cy K n ad hJ (0) hO.tn t a1 ) dX6_ifRead_5 rfl gX6_ifRead_X5_houseNumbered hyX5_houseNumbered rfl (by decide) (by decide) hO.tn.h0 rfl hO.tn.e0 rfl rfl rfl (Nat.le_of_ble_eq_true rfl) (fun r5_1 t5_1 h5_1 => ?_)
  obtain ⟨e9, e8⟩ := h5_1; replace e9 := e9.symm; replace e8 := e8.symm; subst e9; subst e8
  by_cases c5_2 : zin (t (0) 4) a1
  · have hkc5_2 := zin_lt c5_2
    refine z_cast (st2 := [.ref (ad (0 + 2 + a1.toNatClampNeg))]) (by rw [if_pos c5_2]; rfl) ?_
    refine z_astore_n C 8 3 ([(3, .ref (ad (0 + 2 + a1.toNatClampNeg))), (0, .ref (ad (270))), (1, .int a1), (2, .int a2)]) dX6_ifRead_8 rfl (by decide) rfl ?_
    refine z_aload_n C 9 3 0 dX6_ifRead_9 rfl rfl ?_
    refine z_ifnonnull C 10 16 dX6_ifRead_10 (by decide) ?_
    refine z_aload_n C 16 3 0 dX6_ifRead_16 rfl rfl ?_
    refine z_virtIe C 17 (As := []) (st := []) (id := 0 + 2 + a1.toNatClampNeg) (kX1_used l D cy K n ad hJ (0 + 2 + a1.toNatClampNeg) (hO.tn.hou hkc5_2) t  ) dX6_ifRead_17 rfl gX6_ifRead_X1_used hyX1_used rfl (by decide) (by decide) (hO.tn.hou hkc5_2).1 rfl (hO.tn.hou hkc5_2).2 rfl rfl rfl (Nat.le_of_ble_eq_true rfl) ?_
    refine z_istore C 20 4 ([(4, .int (rX1_used (0 + 2 + a1.toNatClampNeg) t)), (3, .ref (ad (0 + 2 + a1.toNatClampNeg))), (0, .ref (ad (270))), (1, .int a1), (2, .int a2)]) dX6_ifRead_20 (by decide) rfl ?_
    refine z_iload C 22 4 0 dX6_ifRead_22 rfl ?_
    refine z_aload_n C 24 3 1 dX6_ifRead_24 rfl rfl ?_
    refine z_getiN C 25 (0 + 2 + a1.toNatClampNeg) 6 dX6_ifRead_25 (hO.tn.hou hkc5_2).1 (hO.tn.hou hkc5_2).2 mX6_ifRead_in1 rfl (by decide) nst_f6_103 (fun _ => rfl) ?_
    refine z_statIe C 28 (As := [.int (rX1_used (0 + 2 + a1.toNatClampNeg) t), .int (t (0 + 2 + a1.toNatClampNeg) 6)]) (st := []) (kX6_unitsFor l D cy K n ad hJ t (rX1_used (0 + 2 + a1.toNatClampNeg) t) (t (0 + 2 + a1.toNatClampNeg) 6) ) dX6_ifRead_28 rfl gX6_ifRead_X6_unitsFor hyX6_unitsFor rfl (by decide) (by decide) rfl rfl (Nat.le_of_ble_eq_true rfl) ?_
    refine z_istore C 31 5 ([(5, .int (rX6_unitsFor (rX1_used (0 + 2 + a1.toNatClampNeg) t) (t (0 + 2 + a1.toNatClampNeg) 6))), (4, .int (rX1_used (0 + 2 + a1.toNatClampNeg) t)), (3, .ref (ad (0 + 2 + a1.toNatClampNeg))), (0, .ref (ad (270))), (1, .int a1), (2, .int a2)]) dX6_ifRead_31 (by decide) rfl ?_
    refine z_aload_n C 33 3 2 dX6_ifRead_33 rfl rfl ?_
    refine z_getiN C 34 (0 + 2 + a1.toNatClampNeg) 6 dX6_ifRead_34 (hO.tn.hou hkc5_2).1 (hO.tn.hou hkc5_2).2 mX6_ifRead_in1 rfl (by decide) nst_f6_103 (fun _ => rfl) ?_
    refine z_bipush C 37 (v := 100) dX6_ifRead_37 (by decide +kernel) ?_
    refine z_iload C 39 5 0 dX6_ifRead_39 rfl ?_
    refine z_imul C 41 dX6_ifRead_41 ?_
    refine z_iadd C 42 dX6_ifRead_42 ?_
    refine z_iload C 43 4 1 dX6_ifRead_43 rfl ?_
    refine z_isub C 45 dX6_ifRead_45 ?_
    refine z_istore C 46 6 ([(6, .int (((t (0 + 2 + a1.toNatClampNeg) 6) + (100 * (rX6_unitsFor (rX1_used (0 + 2 + a1.toNatClampNeg) t) (t (0 + 2 + a1.toNatClampNeg) 6)))) - (rX1_used (0 + 2 + a1.toNatClampNeg) t))), (5, .int (rX6_unitsFor (rX1_used (0 + 2 + a1.toNatClampNeg) t) (t (0 + 2 + a1.toNatClampNeg) 6))), (4, .int (rX1_used (0 + 2 + a1.toNatClampNeg) t)), (3, .ref (ad (0 + 2 + a1.toNatClampNeg))), (0, .ref (ad (270))), (1, .int a1), (2, .int a2)]) dX6_ifRead_46 (by decide) rfl ?_
    refine z_iload_n C 48 2 6 dX6_ifRead_48 rfl rfl ?_
    by_cases c49_5 : a2 = 0
    · refine z_tableIn C 49 80 dX6_ifRead_49 (by rw [c49_5]; decide +kernel) (by rw [c49_5]; decide +kernel) (off := 31) (by rw [c49_5]; decide +kernel) (by decide) ?_
      refine z_iload C 80 5 1 dX6_ifRead_80 rfl ?_
      exact z_iret C 82 hA hQ rfl dX6_ifRead_82 ⟨((if_pos c5_2).trans ((if_pos c49_5).trans rfl)).symm, rfl⟩
    · by_cases c49_6 : a2 = 1
      · refine z_tableIn C 49 83 dX6_ifRead_49 (by rw [c49_6]; decide +kernel) (by rw [c49_6]; decide +kernel) (off := 34) (by rw [c49_6]; decide +kernel) (by decide) ?_
        refine z_sipush C 83 (v := 1000) dX6_ifRead_83 (by decide +kernel) ?_
        refine z_iload C 86 6 0 dX6_ifRead_86 rfl ?_
        refine z_iadd C 88 dX6_ifRead_88 ?_
        exact z_iret C 89 hA hQ rfl dX6_ifRead_89 ⟨((if_pos c5_2).trans ((if_neg c49_5).trans ((if_pos c49_6).trans rfl))).symm, rfl⟩
      · by_cases c49_7 : a2 = 2
        · refine z_tableIn C 49 90 dX6_ifRead_49 (by rw [c49_7]; decide +kernel) (by rw [c49_7]; decide +kernel) (off := 41) (by rw [c49_7]; decide +kernel) (by decide) ?_
          refine z_iload C 90 6 0 dX6_ifRead_90 rfl ?_
          refine z_if_le C 92 99 dX6_ifRead_92 (by decide) (fun c92_8 => ?_) (fun c92_8 => ?_)
          · refine z_iload C 99 6 0 dX6_ifRead_99 rfl ?_
            refine z_if_ge C 101 108 dX6_ifRead_101 (by decide) (fun c101_9 => ?_) (fun c101_9 => ?_)
            · refine z_iconst C 108 (v := 0) dX6_ifRead_108 (by decide +kernel) ?_
              exact z_iret C 109 hA hQ rfl dX6_ifRead_109 ⟨((if_pos c5_2).trans ((if_neg c49_5).trans ((if_neg c49_6).trans ((if_pos c49_7).trans ((if_pos c92_8).trans ((if_pos c101_9).trans rfl)))))).symm, rfl⟩
            · refine z_iconst C 104 (v := 2) dX6_ifRead_104 (by decide +kernel) ?_
              refine z_goto C 105 109 dX6_ifRead_105 (by decide) ?_
              exact z_iret C 109 hA hQ rfl dX6_ifRead_109 ⟨((if_pos c5_2).trans ((if_neg c49_5).trans ((if_neg c49_6).trans ((if_pos c49_7).trans ((if_pos c92_8).trans ((if_neg c101_9).trans rfl)))))).symm, rfl⟩
          · refine z_iconst C 95 (v := 1) dX6_ifRead_95 (by decide +kernel) ?_
            refine z_goto C 96 109 dX6_ifRead_96 (by decide) ?_
            exact z_iret C 109 hA hQ rfl dX6_ifRead_109 ⟨((if_pos c5_2).trans ((if_neg c49_5).trans ((if_neg c49_6).trans ((if_pos c49_7).trans ((if_neg c92_8).trans rfl))))).symm, rfl⟩
        · by_cases c49_10 : a2 = 3
          · refine z_tableIn C 49 110 dX6_ifRead_49 (by rw [c49_10]; decide +kernel) (by rw [c49_10]; decide +kernel) (off := 61) (by rw [c49_10]; decide +kernel) (by decide) ?_
            refine z_iload C 110 5 1 dX6_ifRead_110 rfl ?_
            refine z_aload_n C 112 0 4 dX6_ifRead_112 rfl rfl ?_
            refine z_getr C 113 (a9 := ad (0)) (270) 0 dX6_ifRead_113 hO.h0 hO.e0 mX6_ifRead_in6 rfl (by decide) mX6_ifRead_f10 (fun _ => rfl) ?_
            refine z_getrN C 116 (a9 := ad (0 + 37)) (0) 3 dX6_ifRead_116 hO.tn.h0 hO.tn.e0 mX6_ifRead_in5 rfl (by decide) nst_f6_109 (fun _ => rfl) ?_
            refine z_iconst C 119 (v := 1) dX6_ifRead_119 (by decide +kernel) ?_
            refine z_ialdN C 120 (0 + 37) 1 dX6_ifRead_120 hO.tn.h37 hO.tn.e37 rfl (by decide) (by decide) ?_
            refine z_imul C 121 dX6_ifRead_121 ?_
            exact z_iret C 122 hA hQ rfl dX6_ifRead_122 ⟨((if_pos c5_2).trans ((if_neg c49_5).trans ((if_neg c49_6).trans ((if_neg c49_7).trans ((if_pos c49_10).trans rfl))))).symm, rfl⟩
          · have qc49_5 := lv_neT (a := 0) c49_5 rfl
            have qc49_6 := lv_neT (a := 1) c49_6 rfl
            have qc49_7 := lv_neT (a := 2) c49_7 rfl
            have qc49_10 := lv_neT (a := 3) c49_10 rfl
            refine z_tableOut C 49 123 dX6_ifRead_49 (by omega) (by decide) ?_
            refine z_ldc C 123 (v := (-1000001)) dX6_ifRead_123 mX6_ifRead_c57 ?_
            exact z_iret C 125 hA hQ rfl dX6_ifRead_125 ⟨((if_pos c5_2).trans ((if_neg c49_5).trans ((if_neg c49_6).trans ((if_neg c49_7).trans ((if_neg c49_10).trans rfl))))).symm, rfl⟩
  · refine z_cast (st2 := [.null]) (by rw [if_neg c5_2]; rfl) ?_
    refine z_astore_nN C 8 3 ([(3, .null), (0, .ref (ad (270))), (1, .int a1), (2, .int a2)]) dX6_ifRead_8 rfl (by decide) rfl ?_
    refine z_aload_nN C 9 3 0 dX6_ifRead_9 rfl rfl ?_
    refine z_ifnonnullN C 10 dX6_ifRead_10 ?_
    refine z_ldc C 13 (v := (-1000001)) dX6_ifRead_13 mX6_ifRead_c57 ?_
    exact z_iret C 15 hA hQ rfl dX6_ifRead_15 ⟨((if_neg c5_2).trans rfl).symm, rfl⟩
def rX6_wronged (t : zM) (a1 : Int32) : Int32 := (if 0 ≤ a1 then (rX5_houseByBalance (0) t a1) else (-1000001))
theorem mX6_wronged_f10 : Cond.fieldLink RX6 10 "WrongedMeters" "town" "LWrongedMeters$Town;" ∈ wsX6_wronged := by decide +kernel
set_option maxRecDepth 20000 in
theorem mX6_wronged_in6 : ∀ w ∈ u_ws RX6 TX6 4, w ∈ wsX6_wronged := by decide +kernel
theorem mX6_wronged_c57 : Cond.constant RX6 57 (-1000001) ∈ wsX6_wronged := by decide +kernel
theorem hyX6_wronged : yX6_wronged.cls = RX6 ∧ yX6_wronged.cls ≠ "java/lang/invoke/MethodHandle" ∧ yX6_wronged.cls ≠ "java/lang/invoke/VarHandle" ∧ (parseMethodDescriptor yX6_wronged.desc).map (fun d => d.parameters.length) = some 1 := by decide +kernel
set_option maxHeartbeats 3000000 in
set_option maxRecDepth 100000 in
theorem kX6_wronged (l : Launch) (D : va_G) (cy : Nat → ClassId) (K : zK) (n : Nat) (ad : Nat → Nat) (hJ : zJ n ad) (hO : zTop cy K n ad) (t : zM) (a1 : Int32) (hG : zGd t) : zI l yX6_wronged wsX6_wronged 2 D cy K n ad t [.ref (ad (270)), .int a1] (fun r t1 => r = rX6_wronged t a1 ∧ t1 = t) := by
  refine z_startI (cc := cX6_wronged) (mL := 2) (ret := (some .int)) (own := RX6) rfl (by decide +kernel) rfl hJ (Nat.le_of_ble_eq_true rfl) ?_
  intro p e s m args below meth c A hA Q hQ C
  refine z_iload_n C 0 1 1 dX6_wronged_0 rfl rfl ?_
  refine z_if_ge C 1 9 dX6_wronged_1 (by decide) (fun c1_1 => ?_) (fun c1_1 => ?_)
  · refine z_aload_n C 9 0 0 dX6_wronged_9 rfl rfl ?_
    refine z_getr C 10 (a9 := ad (0)) (270) 0 dX6_wronged_10 hO.h0 hO.e0 mX6_wronged_in6 rfl (by decide) mX6_wronged_f10 (fun _ => rfl) ?_
    refine z_iload_n C 13 1 1 dX6_wronged_13 rfl rfl ?_
    refine z_virtIe C 14 (As := [.int a1]) (st := []) (id := 0) (kX5_houseByBalance l D cy K n ad hJ (0) hO.tn t a1 ) dX6_wronged_14 rfl gX6_wronged_X5_houseByBalance hyX5_houseByBalance rfl (by decide) (by decide) hO.tn.h0 rfl hO.tn.e0 rfl rfl rfl (Nat.le_of_ble_eq_true rfl) ?_
    exact z_iret C 17 hA hQ rfl dX6_wronged_17 ⟨((if_pos c1_1).trans rfl).symm, rfl⟩
  · refine z_ldc C 4 (v := (-1000001)) dX6_wronged_4 mX6_wronged_c57 ?_
    refine z_goto C 6 17 dX6_wronged_6 (by decide) ?_
    exact z_iret C 17 hA hQ rfl dX6_wronged_17 ⟨((if_neg c1_1).trans rfl).symm, rfl⟩
def rX6_count (t : zM) (a1 : Int32) : Int32 := (if a1 = 15 then (t (266) 2) else (if a1 = 16 then (t (268) 1) else (rX5_number (0) t a1)))
theorem mX6_count_f22 : Cond.fieldLink RX6 22 "WrongedMeters" "history" "LWrongedMeters$History;" ∈ wsX6_count := by decide +kernel
set_option maxRecDepth 20000 in
theorem mX6_count_in6 : ∀ w ∈ u_ws RX6 TX6 4, w ∈ wsX6_count := by decide +kernel
set_option maxRecDepth 20000 in
theorem mX6_count_in0 : ∀ w ∈ u_ws RX0 TX0 3, w ∈ wsX6_count := by decide +kernel
theorem mX6_count_f29 : Cond.fieldLink RX6 29 "WrongedMeters" "orders" "LWrongedMeters$Orders;" ∈ wsX6_count := by decide +kernel
set_option maxRecDepth 20000 in
theorem mX6_count_in3 : ∀ w ∈ u_ws RX3 TX3 10, w ∈ wsX6_count := by decide +kernel
theorem mX6_count_f10 : Cond.fieldLink RX6 10 "WrongedMeters" "town" "LWrongedMeters$Town;" ∈ wsX6_count := by decide +kernel
theorem hyX6_count : yX6_count.cls = RX6 ∧ yX6_count.cls ≠ "java/lang/invoke/MethodHandle" ∧ yX6_count.cls ≠ "java/lang/invoke/VarHandle" ∧ (parseMethodDescriptor yX6_count.desc).map (fun d => d.parameters.length) = some 1 := by decide +kernel
set_option maxHeartbeats 3000000 in
set_option maxRecDepth 100000 in
theorem kX6_count (l : Launch) (D : va_G) (cy : Nat → ClassId) (K : zK) (n : Nat) (ad : Nat → Nat) (hJ : zJ n ad) (hO : zTop cy K n ad) (t : zM) (a1 : Int32) (hG : zGd t) : zI l yX6_count wsX6_count 2 D cy K n ad t [.ref (ad (270)), .int a1] (fun r t1 => r = rX6_count t a1 ∧ t1 = t) := by
  refine z_startI (cc := cX6_count) (mL := 2) (ret := (some .int)) (own := RX6) rfl (by decide +kernel) rfl hJ (Nat.le_of_ble_eq_true rfl) ?_
  intro p e s m args below meth c A hA Q hQ C
  refine z_iload_n C 0 1 1 dX6_count_0 rfl rfl ?_
  by_cases c1_1 : a1 = 15
  · refine z_lookup C 1 28 (off := 27) dX6_count_1 (by decide +kernel) (by rw [c1_1]; decide +kernel) (by decide) ?_
    refine z_aload_n C 28 0 0 dX6_count_28 rfl rfl ?_
    refine z_getr C 29 (a9 := ad (266)) (270) 2 dX6_count_29 hO.h0 hO.e0 mX6_count_in6 rfl (by decide) mX6_count_f22 (fun _ => rfl) ?_
    refine z_getiN C 32 (266) 2 dX6_count_32 hO.hi.h0 hO.hi.e0 mX6_count_in0 rfl (by decide) nst_f6_144 (fun _ => rfl) ?_
    exact z_iret C 35 hA hQ rfl dX6_count_35 ⟨((if_pos c1_1).trans rfl).symm, rfl⟩
  · by_cases c1_2 : a1 = 16
    · refine z_lookup C 1 36 (off := 35) dX6_count_1 (by decide +kernel) (by rw [c1_2]; decide +kernel) (by decide) ?_
      refine z_aload_n C 36 0 0 dX6_count_36 rfl rfl ?_
      refine z_getr C 37 (a9 := ad (268)) (270) 3 dX6_count_37 hO.h0 hO.e0 mX6_count_in6 rfl (by decide) mX6_count_f29 (fun _ => rfl) ?_
      refine z_getiN C 40 (268) 1 dX6_count_40 (Nat.lt_of_succ_lt hO.od.1) hO.od.2.1 mX6_count_in3 rfl (by decide) nst_f6_147 (fun _ => rfl) ?_
      exact z_iret C 43 hA hQ rfl dX6_count_43 ⟨((if_neg c1_1).trans ((if_pos c1_2).trans rfl)).symm, rfl⟩
    · refine z_lookup C 1 44 (off := 43) dX6_count_1 (by decide +kernel) ((lv_osw c1_1 rfl).trans ((lv_osw c1_2 rfl).trans rfl)) (by decide) ?_
      refine z_aload_n C 44 0 0 dX6_count_44 rfl rfl ?_
      refine z_getr C 45 (a9 := ad (0)) (270) 0 dX6_count_45 hO.h0 hO.e0 mX6_count_in6 rfl (by decide) mX6_count_f10 (fun _ => rfl) ?_
      refine z_iload_n C 48 1 1 dX6_count_48 rfl rfl ?_
      refine z_virtIe C 49 (As := [.int a1]) (st := []) (id := 0) (kX5_number l D cy K n ad hJ (0) hO.tn t a1 ) dX6_count_49 rfl gX6_count_X5_number hyX5_number rfl (by decide) (by decide) hO.tn.h0 rfl hO.tn.e0 rfl rfl rfl (Nat.le_of_ble_eq_true rfl) ?_
      exact z_iret C 52 hA hQ rfl dX6_count_52 ⟨((if_neg c1_1).trans ((if_neg c1_2).trans rfl)).symm, rfl⟩
