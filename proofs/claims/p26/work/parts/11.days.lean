/-- what the walks of a town need of its numbers: the day, the ledger's next row, how many houses -/
def zCnt (x : Int32) : Prop := ∃ H, H ≤ 24 ∧ x = nI H
def zTs (N b : Nat) (t : zM) : Prop := t b 5 = nI N ∧ zRow (t (b + 35) 1) ∧ zCnt (t b 4)
theorem zCnt.c {x : Int32} (h : zCnt x) : x.toNatClampNeg ≤ 24 ∧ x = nI x.toNatClampNeg := by
  obtain ⟨w, hw, rfl⟩ := h
  rw [nI_clamp (by omega)]
  exact ⟨hw, rfl⟩
theorem zlt1 {x : Int32} (h1 : ¬ x < 1) : ¬ x < 0 := fun h => h1 (by
  rw [Int32.lt_iff_toInt_lt] at h ⊢
  have e : (Int32.toInt 1) = 1 := by decide
  have e0 : (Int32.toInt 0) = 0 := by decide
  omega)
theorem zne0 {x : Int32} (h : ¬ x ≤ 0) : ¬ x = 0 := fun e => h (by rw [e]; exact Int32.le_refl _)
theorem z99 {x : Int32} (h0 : ¬ x < 1) (h1 : ¬ 99 < x) : x.toNatClampNeg ≤ 99 := by
  have p0 : ¬ x < 0 := fun h => h0 (by rw [Int32.lt_iff_toInt_lt] at h ⊢; have e : (Int32.toInt 1) = 1 := by decide
                                       have e0 : (Int32.toInt 0) = 0 := by decide
                                       omega)
  obtain ⟨k, hk, rfl⟩ := nI_of p0
  rw [nI_clamp hk]
  rcases Nat.lt_or_ge 99 k with q | q
  · exact absurd ((nI_ltI (a := 99) (by decide) hk).mpr q) h1
  · exact q
theorem zTs_fr {N b : Nat} {t t1 : zM} (h : zTs N b t) (h0 : t1 b = t b) (h1 : t1 (b + 35) = t (b + 35)) : zTs N b t1 := by
  unfold zTs
  rw [h0, h1]
  exact h
theorem zTs_set {N b : Nat} {t : zM} {id k : Nat} {v : Int32} (h : zTs N b t) (h0 : id ≠ b ∨ (k ≠ 4 ∧ k ≠ 5)) (h1 : id ≠ b + 35) : zTs N b (zset t id k v) := by
  obtain ⟨a1, a2, a3⟩ := h
  unfold zTs
  rw [zset_idk _ _ _ _ (Ne.symm h1)]
  rcases h0 with h0 | h0
  · rw [zset_idk _ _ _ _ (Ne.symm h0), zset_idk _ _ _ _ (Ne.symm h0)]
    exact ⟨a1, a2, a3⟩
  · by_cases e : b = id
    · subst e
      rw [zset_nk _ _ _ (Ne.symm h0.2), zset_nk _ _ _ (Ne.symm h0.1)]
      exact ⟨a1, a2, a3⟩
    · rw [zset_idk _ _ _ _ e, zset_idk _ _ _ _ e]
      exact ⟨a1, a2, a3⟩
theorem zTs_now {N b : Nat} {t : zM} (h : zTs N b t) : zTs (N + 1) b (zset t b 5 (t b 5 + 1)) := by
  obtain ⟨a1, a2, a3⟩ := h
  unfold zTs
  rw [zset_eq, zset_idk _ _ _ _ (show b + 35 ≠ b by omega), zset_nk _ _ _ (show 4 ≠ 5 by decide), a1]
  exact ⟨nI_1 N, a2, a3⟩
theorem sX2_add_row {B : Nat} {t : zM} {a1 a2 a3 a4 a5 : Int32} (h : zRow (t B 1)) : zRow (sX2_add B t (t B 1).toNatClampNeg a1 a2 a3 a4 a5 B 1) := by
  have hm : zRow (zrem (t B 1 + 1) 10) := by
    obtain ⟨w, hw, e⟩ := h
    rw [e]
    exact ⟨(w + 1) % 10, by omega, by rw [nI_1]; exact zrem_n (b := 10) (by omega) (by decide) (by decide)⟩
  unfold sX2_add
  repeat' split
  all_goals first
    | exact h
    | (rw [zset_eq]; exact hm)
    | (rw [zset_nk _ _ _ (by decide), zset_eq]; exact hm)
theorem sX5_readMeter_S {N b : Nat} {t : zM} {k : Nat} {a2 : Int32} (hk : k < 24) (h : zTs N b t) : zTs N b (sX5_readMeter b t k a2) := by
  unfold sX5_readMeter
  refine zTs_set (zTs_set (zTs_set (zTs_set ?_ (Or.inr ⟨by decide, by decide⟩) (by omega)) (Or.inr ⟨by decide, by decide⟩) (by omega)) (Or.inr ⟨by decide, by decide⟩) (by omega)) (Or.inr ⟨by decide, by decide⟩) (by omega)
  have e1 : ∀ a3 a4 a5 : Int32, (sX1_settle (b + 2 + k) t a3 a4 a5) b = t b := fun a3 a4 a5 => sX1_settle_o _ _ _ _ _ (by omega)
  have e2 : ∀ a3 a4 a5 : Int32, (sX1_settle (b + 2 + k) t a3 a4 a5) (b + 35) = t (b + 35) := fun a3 a4 a5 => sX1_settle_o _ _ _ _ _ (by omega)
  obtain ⟨h1, h2, h3⟩ := h
  unfold zTs
  rw [sX2_add_o _ _ _ _ _ _ _ _ (show b ≠ b + 35 by omega) (show b ≠ b + 35 + 1 by omega), e1]
  refine ⟨h1, ?_, h3⟩
  rw [← congrFun (e2 (t b 5) (rX1_used (b + 2 + k) t) (rX6_unitsFor (rX1_used (b + 2 + k) t) (t (b + 2 + k) 6))) 1]
  exact sX2_add_row (by rw [e2]; exact h2)
def rX5_readIfOpen (b : Nat) (t : zM) (a1 : Int32) : Int32 := (if zin (t (b) 4) a1 then (if (rX1_reasonOn (b + 2 + a1.toNatClampNeg) t (t (b) 5)) = 0 then (rX5_readMeter (b) t (a1.toNatClampNeg) a1) else (-1000002)) else (-1000001))
def sX5_readIfOpen (b : Nat) (t : zM) (a1 : Int32) : zM := (if zin (t (b) 4) a1 then (if (rX1_reasonOn (b + 2 + a1.toNatClampNeg) t (t (b) 5)) = 0 then (sX5_readMeter (b) t (a1.toNatClampNeg) a1) else t) else t)
theorem mX5_readIfOpen_f59 : Cond.fieldLink RX5 59 "WrongedMeters$Town" "now" "I" ∈ wsX5_readIfOpen := by decide +kernel
set_option maxRecDepth 20000 in
theorem mX5_readIfOpen_in5 : ∀ w ∈ u_ws RX5 TX5 13, w ∈ wsX5_readIfOpen := by decide +kernel
theorem mX5_readIfOpen_c119 : Cond.constant RX5 119 (-1000002) ∈ wsX5_readIfOpen := by decide +kernel
theorem mX5_readIfOpen_c100 : Cond.constant RX5 100 (-1000001) ∈ wsX5_readIfOpen := by decide +kernel
theorem hyX5_readIfOpen : yX5_readIfOpen.cls = RX5 ∧ yX5_readIfOpen.cls ≠ "java/lang/invoke/MethodHandle" ∧ yX5_readIfOpen.cls ≠ "java/lang/invoke/VarHandle" ∧ (parseMethodDescriptor yX5_readIfOpen.desc).map (fun d => d.parameters.length) = some 1 := by decide +kernel
set_option maxHeartbeats 3000000 in
set_option maxRecDepth 100000 in
theorem kX5_readIfOpen (l : Launch) (D : va_G) (cy : Nat → ClassId) (K : zK) (n : Nat) (ad : Nat → Nat) (hJ : zJ n ad) (b : Nat) (hO : zTown cy K n ad b) (t : zM) (N : Nat) (a1 : Int32) (hs : zTs N b t) : zI l yX5_readIfOpen wsX5_readIfOpen 2 D cy K n ad t [.ref (ad (b)), .int a1] (fun r t1 => r = rX5_readIfOpen b t a1 ∧ t1 = sX5_readIfOpen b t a1) := by
  refine z_startI (cc := cX5_readIfOpen) (mL := 3) (ret := (some .int)) (own := RX5) rfl (by decide +kernel) rfl hJ (Nat.le_of_ble_eq_true rfl) ?_
  intro p e s m args below meth c A hA Q hQ C
  refine z_aload_n C 0 0 0 dX5_readIfOpen_0 rfl rfl ?_
  refine z_iload_n C 1 1 1 dX5_readIfOpen_1 rfl rfl ?_
  refine z_virtQ C 2 (As := [.int a1]) (st := []) (id := b) (kX5_houseNumbered l D cy K n ad hJ (b) hO t a1 ) dX5_readIfOpen_2 rfl gX5_readIfOpen_X5_houseNumbered hyX5_houseNumbered rfl (by decide) (by decide) hO.h0 rfl hO.e0 rfl rfl rfl (Nat.le_of_ble_eq_true rfl) (fun r2_1 t2_1 h2_1 => ?_)
  obtain ⟨e9, e8⟩ := h2_1; replace e9 := e9.symm; replace e8 := e8.symm; subst e9; subst e8
  by_cases c2_2 : zin (t (b) 4) a1
  · have hkc2_2 := zin_lt c2_2
    refine z_cast (st2 := [.ref (ad (b + 2 + a1.toNatClampNeg))]) (by rw [if_pos c2_2]; rfl) ?_
    refine z_astore_n C 5 2 ([(2, .ref (ad (b + 2 + a1.toNatClampNeg))), (0, .ref (ad (b))), (1, .int a1)]) dX5_readIfOpen_5 rfl (by decide) rfl ?_
    refine z_aload_n C 6 2 0 dX5_readIfOpen_6 rfl rfl ?_
    refine z_ifnonnull C 7 13 dX5_readIfOpen_7 (by decide) ?_
    refine z_aload_n C 13 2 0 dX5_readIfOpen_13 rfl rfl ?_
    refine z_aload_n C 14 0 1 dX5_readIfOpen_14 rfl rfl ?_
    refine z_geti C 15 (b) 5 dX5_readIfOpen_15 hO.h0 hO.e0 mX5_readIfOpen_in5 rfl (by decide) mX5_readIfOpen_f59 (fun _ => rfl) ?_
    refine z_virtIe C 18 (As := [.int (t (b) 5)]) (st := []) (id := b + 2 + a1.toNatClampNeg) (kX1_reasonOn l D cy K n ad hJ (b + 2 + a1.toNatClampNeg) (hO.hou hkc2_2) t (t (b) 5) ) dX5_readIfOpen_18 rfl gX5_readIfOpen_X1_reasonOn hyX1_reasonOn rfl (by decide) (by decide) (hO.hou hkc2_2).1 rfl (hO.hou hkc2_2).2 rfl rfl rfl (Nat.le_of_ble_eq_true rfl) ?_
    refine z_if_ne C 21 33 dX5_readIfOpen_21 (by decide) (fun c21_4 => ?_) (fun c21_4 => ?_)
    · refine z_ldc C 33 (v := (-1000002)) dX5_readIfOpen_33 mX5_readIfOpen_c119 ?_
      exact z_iret C 35 hA hQ rfl dX5_readIfOpen_35 ⟨((if_pos c2_2).trans ((if_neg c21_4).trans rfl)).symm, ((if_pos c2_2).trans ((if_neg c21_4).trans rfl)).symm⟩
    · refine z_aload_n C 24 0 1 dX5_readIfOpen_24 rfl rfl ?_
      refine z_aload_n C 25 2 0 dX5_readIfOpen_25 rfl rfl ?_
      refine z_iload_n C 26 1 2 dX5_readIfOpen_26 rfl rfl ?_
      refine z_virtIe C 27 (As := [.ref (ad (b + 2 + a1.toNatClampNeg)), .int a1]) (st := []) (id := b) (kX5_readMeter l D cy K n ad hJ (b) hO t (a1.toNatClampNeg) a1 hkc2_2 hs.2.1) dX5_readIfOpen_27 rfl gX5_readIfOpen_X5_readMeter hyX5_readMeter rfl (by decide) (by decide) hO.h0 rfl hO.e0 rfl rfl rfl (Nat.le_of_ble_eq_true rfl) ?_
      refine z_goto C 30 35 dX5_readIfOpen_30 (by decide) ?_
      exact z_iret C 35 hA hQ rfl dX5_readIfOpen_35 ⟨((if_pos c2_2).trans ((if_pos c21_4).trans rfl)).symm, ((if_pos c2_2).trans ((if_pos c21_4).trans rfl)).symm⟩
  · refine z_cast (st2 := [.null]) (by rw [if_neg c2_2]; rfl) ?_
    refine z_astore_nN C 5 2 ([(2, .null), (0, .ref (ad (b))), (1, .int a1)]) dX5_readIfOpen_5 rfl (by decide) rfl ?_
    refine z_aload_nN C 6 2 0 dX5_readIfOpen_6 rfl rfl ?_
    refine z_ifnonnullN C 7 dX5_readIfOpen_7 ?_
    refine z_ldc C 10 (v := (-1000001)) dX5_readIfOpen_10 mX5_readIfOpen_c100 ?_
    exact z_iret C 12 hA hQ rfl dX5_readIfOpen_12 ⟨((if_neg c2_2).trans rfl).symm, ((if_neg c2_2).trans rfl).symm⟩
def rX5_changeMeter (b : Nat) (t : zM) (a1 : Int32) : Int32 := (if zin (t (b) 4) a1 then (rX5_readMeter (b) t (a1.toNatClampNeg) a1) else (-1000001))
def sX5_changeMeter (b : Nat) (t : zM) (a1 : Int32) : zM := (if zin (t (b) 4) a1 then (sX1_renewMeter (b + 2 + a1.toNatClampNeg) (sX5_readMeter (b) t (a1.toNatClampNeg) a1)) else t)
theorem mX5_changeMeter_c100 : Cond.constant RX5 100 (-1000001) ∈ wsX5_changeMeter := by decide +kernel
theorem hyX5_changeMeter : yX5_changeMeter.cls = RX5 ∧ yX5_changeMeter.cls ≠ "java/lang/invoke/MethodHandle" ∧ yX5_changeMeter.cls ≠ "java/lang/invoke/VarHandle" ∧ (parseMethodDescriptor yX5_changeMeter.desc).map (fun d => d.parameters.length) = some 1 := by decide +kernel
set_option maxHeartbeats 3000000 in
set_option maxRecDepth 100000 in
theorem kX5_changeMeter (l : Launch) (D : va_G) (cy : Nat → ClassId) (K : zK) (n : Nat) (ad : Nat → Nat) (hJ : zJ n ad) (b : Nat) (hO : zTown cy K n ad b) (t : zM) (N : Nat) (a1 : Int32) (hs : zTs N b t) : zI l yX5_changeMeter wsX5_changeMeter 2 D cy K n ad t [.ref (ad (b)), .int a1] (fun r t1 => r = rX5_changeMeter b t a1 ∧ t1 = sX5_changeMeter b t a1) := by
  refine z_startI (cc := cX5_changeMeter) (mL := 4) (ret := (some .int)) (own := RX5) rfl (by decide +kernel) rfl hJ (Nat.le_of_ble_eq_true rfl) ?_
  intro p e s m args below meth c A hA Q hQ C
  refine z_aload_n C 0 0 0 dX5_changeMeter_0 rfl rfl ?_
  refine z_iload_n C 1 1 1 dX5_changeMeter_1 rfl rfl ?_
  refine z_virtQ C 2 (As := [.int a1]) (st := []) (id := b) (kX5_houseNumbered l D cy K n ad hJ (b) hO t a1 ) dX5_changeMeter_2 rfl gX5_changeMeter_X5_houseNumbered hyX5_houseNumbered rfl (by decide) (by decide) hO.h0 rfl hO.e0 rfl rfl rfl (Nat.le_of_ble_eq_true rfl) (fun r2_1 t2_1 h2_1 => ?_)
  obtain ⟨e9, e8⟩ := h2_1; replace e9 := e9.symm; replace e8 := e8.symm; subst e9; subst e8
  by_cases c2_2 : zin (t (b) 4) a1
  · have hkc2_2 := zin_lt c2_2
    refine z_cast (st2 := [.ref (ad (b + 2 + a1.toNatClampNeg))]) (by rw [if_pos c2_2]; rfl) ?_
    refine z_astore_n C 5 2 ([(2, .ref (ad (b + 2 + a1.toNatClampNeg))), (0, .ref (ad (b))), (1, .int a1)]) dX5_changeMeter_5 rfl (by decide) rfl ?_
    refine z_aload_n C 6 2 0 dX5_changeMeter_6 rfl rfl ?_
    refine z_ifnonnull C 7 13 dX5_changeMeter_7 (by decide) ?_
    refine z_aload_n C 13 0 1 dX5_changeMeter_13 rfl rfl ?_
    refine z_aload_n C 14 2 0 dX5_changeMeter_14 rfl rfl ?_
    refine z_iload_n C 15 1 2 dX5_changeMeter_15 rfl rfl ?_
    refine z_virtIe C 16 (As := [.ref (ad (b + 2 + a1.toNatClampNeg)), .int a1]) (st := []) (id := b) (kX5_readMeter l D cy K n ad hJ (b) hO t (a1.toNatClampNeg) a1 hkc2_2 hs.2.1) dX5_changeMeter_16 rfl gX5_changeMeter_X5_readMeter hyX5_readMeter rfl (by decide) (by decide) hO.h0 rfl hO.e0 rfl rfl rfl (Nat.le_of_ble_eq_true rfl) ?_
    refine z_istore_n C 19 3 ([(3, .int (rX5_readMeter (b) t (a1.toNatClampNeg) a1)), (2, .ref (ad (b + 2 + a1.toNatClampNeg))), (0, .ref (ad (b))), (1, .int a1)]) dX5_changeMeter_19 rfl (by decide) rfl ?_
    refine z_aload_n C 20 2 1 dX5_changeMeter_20 rfl rfl ?_
    refine z_virtVe C 21 (As := []) (st := []) (id := b + 2 + a1.toNatClampNeg) (kX1_renewMeter l D cy K n ad hJ (b + 2 + a1.toNatClampNeg) (hO.hou hkc2_2) (sX5_readMeter (b) t (a1.toNatClampNeg) a1)  ) dX5_changeMeter_21 rfl gX5_changeMeter_X1_renewMeter hyX1_renewMeter rfl (by decide) (by decide) (hO.hou hkc2_2).1 rfl (hO.hou hkc2_2).2 rfl rfl rfl (Nat.le_of_ble_eq_true rfl) ?_
    refine z_iload_n C 24 3 0 dX5_changeMeter_24 rfl rfl ?_
    exact z_iret C 25 hA hQ rfl dX5_changeMeter_25 ⟨((if_pos c2_2).trans rfl).symm, ((if_pos c2_2).trans rfl).symm⟩
  · refine z_cast (st2 := [.null]) (by rw [if_neg c2_2]; rfl) ?_
    refine z_astore_nN C 5 2 ([(2, .null), (0, .ref (ad (b))), (1, .int a1)]) dX5_changeMeter_5 rfl (by decide) rfl ?_
    refine z_aload_nN C 6 2 0 dX5_changeMeter_6 rfl rfl ?_
    refine z_ifnonnullN C 7 dX5_changeMeter_7 ?_
    refine z_ldc C 10 (v := (-1000001)) dX5_changeMeter_10 mX5_changeMeter_c100 ?_
    exact z_iret C 12 hA hQ rfl dX5_changeMeter_12 ⟨((if_neg c2_2).trans rfl).symm, ((if_neg c2_2).trans rfl).symm⟩
def lsX5_walk_16 (b : Nat) (t : zM) (q : Nat) : Nat → Nat → Int32 → zM → zM
  | 0, _, _, u => u
  | j + 1, k, v, u => (if 20 ≤ nI k then u else (if v ≤ 0 then u else (if zin (u (b) 4) (rX4_houseOn (b + 27 + 2 * q) u (zrem ((rX4_stepAhead (b + 27 + 2 * q) t 0) + nI k) 20)) then (if (rX1_reasonOn (b + 2 + (rX4_houseOn (b + 27 + 2 * q) u (zrem ((rX4_stepAhead (b + 27 + 2 * q) t 0) + nI k) 20)).toNatClampNeg) u (u (b) 5)) = 0 then (lsX5_walk_16 b t q j (k + 1) (v + (-1)) (zset (sX5_readMeter (b) u ((rX4_houseOn (b + 27 + 2 * q) u (zrem ((rX4_stepAhead (b + 27 + 2 * q) t 0) + nI k) 20)).toNatClampNeg) (rX4_houseOn (b + 27 + 2 * q) u (zrem ((rX4_stepAhead (b + 27 + 2 * q) t 0) + nI k) 20))) (b + 27 + 2 * q) 1 (zrem ((rX4_stepAhead (b + 27 + 2 * q) t 0) + nI k) 20))) else (lsX5_walk_16 b t q j (k + 1) v u)) else (lsX5_walk_16 b t q j (k + 1) v u))))
def sX5_walk (b : Nat) (t : zM) (q : Nat) : zM := (lsX5_walk_16 b t q 21 0 (t (b + 37) 0) t)
theorem mX5_walk_f30 : Cond.fieldLink RX5 30 "WrongedMeters$Town" "settings" "[I" ∈ wsX5_walk := by decide +kernel
set_option maxRecDepth 20000 in
theorem mX5_walk_in5 : ∀ w ∈ u_ws RX5 TX5 13, w ∈ wsX5_walk := by decide +kernel
theorem mX5_walk_f59 : Cond.fieldLink RX5 59 "WrongedMeters$Town" "now" "I" ∈ wsX5_walk := by decide +kernel
set_option maxRecDepth 20000 in
theorem mX5_walk_in4 : ∀ w ∈ u_ws RX4 TX4 2, w ∈ wsX5_walk := by decide +kernel
theorem hyX5_walk : yX5_walk.cls = RX5 ∧ yX5_walk.cls ≠ "java/lang/invoke/MethodHandle" ∧ yX5_walk.cls ≠ "java/lang/invoke/VarHandle" ∧ (parseMethodDescriptor yX5_walk.desc).map (fun d => d.parameters.length) = some 1 := by decide +kernel
set_option maxHeartbeats 3000000 in
set_option maxRecDepth 100000 in
theorem kX5_walk (l : Launch) (D : va_G) (cy : Nat → ClassId) (K : zK) (n : Nat) (ad : Nat → Nat) (hJ : zJ n ad) (b : Nat) (hO : zTown cy K n ad b) (t : zM) (q N : Nat) (hq : q < 4) (hs : zTs N b t) : zV l yX5_walk wsX5_walk 2 D cy K n ad t [.ref (ad (b)), .ref (ad (b + 27 + 2 * q))] (fun t1 => t1 = sX5_walk b t q) := by
  refine z_startV (cc := cX5_walk) (mL := 8) (ret := none) (own := RX5) rfl (by decide +kernel) rfl hJ (Nat.le_of_ble_eq_true rfl) ?_
  intro p e s m args below meth c A hA Q hQ C
  refine z_aload_n C 0 1 1 dX5_walk_0 rfl rfl ?_
  refine z_iconst C 1 (v := 0) dX5_walk_1 (by decide +kernel) ?_
  refine z_virtIe C 2 (As := [.int 0]) (st := []) (id := b + 27 + 2 * q) (kX4_stepAhead l D cy K n ad hJ (b + 27 + 2 * q) (hO.str hq) t 0 ) dX5_walk_2 rfl gX5_walk_X4_stepAhead hyX4_stepAhead rfl (by decide) (by decide) (Nat.lt_of_succ_lt (hO.str hq).1) rfl (hO.str hq).2.1 rfl rfl rfl (Nat.le_of_ble_eq_true rfl) ?_
  refine z_istore_n C 5 2 ([(2, .int (rX4_stepAhead (b + 27 + 2 * q) t 0)), (0, .ref (ad (b))), (1, .ref (ad (b + 27 + 2 * q)))]) dX5_walk_5 rfl (by decide) rfl ?_
  refine z_aload_n C 6 0 1 dX5_walk_6 rfl rfl ?_
  refine z_getr C 7 (a9 := ad (b + 37)) (b) 3 dX5_walk_7 hO.h0 hO.e0 mX5_walk_in5 rfl (by decide) mX5_walk_f30 (fun _ => rfl) ?_
  refine z_iconst C 10 (v := 0) dX5_walk_10 (by decide +kernel) ?_
  refine z_ialdN C 11 (b + 37) 0 dX5_walk_11 hO.h37 hO.e37 rfl (by decide) (by decide) ?_
  refine z_istore_n C 12 3 ([(3, .int (t (b + 37) 0)), (2, .int (rX4_stepAhead (b + 27 + 2 * q) t 0)), (0, .ref (ad (b))), (1, .ref (ad (b + 27 + 2 * q)))]) dX5_walk_12 rfl (by decide) rfl ?_
  refine z_iconst C 13 (v := 0) dX5_walk_13 (by decide +kernel) ?_
  refine z_istore C 14 4 ([(4, .int 0), (3, .int (t (b + 37) 0)), (2, .int (rX4_stepAhead (b + 27 + 2 * q) t 0)), (0, .ref (ad (b))), (1, .ref (ad (b + 27 + 2 * q)))]) dX5_walk_14 (by decide) rfl ?_
  have L16 : ∀ (j : Nat) (k : Nat) (v : Int32) (u : zM), (h0_16 : 21 ≤ k + j) → (hk : k ≤ 20) → (hs : zTs N b u) → (hS16 : sX5_walk b t q = (lsX5_walk_16 b t q j k v u)) → Zw p l e (zR 2) s m args below meth c D A K n ad 8 Q 16 ([(4, .int (nI k)), (3, .int v), (2, .int (rX4_stepAhead (b + 27 + 2 * q) t 0)), (0, .ref (ad (b))), (1, .ref (ad (b + 27 + 2 * q)))]) [] u := by
    intro j
    induction j with
    | zero =>
      intro k v u h0_16 hk hs hS16
      exact absurd h0_16 (by omega)
    | succ j ih16 =>
      intro k v u h0_16 hk hs hS16
      refine z_iload C 16 4 0 dX5_walk_16 rfl ?_
      refine z_bipush C 18 (v := 20) dX5_walk_18 (by decide +kernel) ?_
      refine z_icmp_ge C 20 93 dX5_walk_20 (by decide) (fun c20_2 => ?_) (fun c20_2 => ?_)
      · exact z_vret C 93 hA hQ rfl dX5_walk_93 ((hS16.trans ((if_pos c20_2).trans rfl))).symm
      · refine z_iload_n C 23 3 1 dX5_walk_23 rfl rfl ?_
        refine z_if_le C 24 93 dX5_walk_24 (by decide) (fun c24_3 => ?_) (fun c24_3 => ?_)
        · exact z_vret C 93 hA hQ rfl dX5_walk_93 ((hS16.trans ((if_neg c20_2).trans ((if_pos c24_3).trans rfl)))).symm
        · refine z_iload_n C 27 2 2 dX5_walk_27 rfl rfl ?_
          refine z_iload C 28 4 0 dX5_walk_28 rfl ?_
          refine z_iadd C 30 dX5_walk_30 ?_
          refine z_bipush C 31 (v := 20) dX5_walk_31 (by decide +kernel) ?_
          refine z_irem C 33 dX5_walk_33 (by decide) ?_
          refine z_istore C 34 5 ([(5, .int (zrem ((rX4_stepAhead (b + 27 + 2 * q) t 0) + nI k) 20)), (4, .int (nI k)), (3, .int v), (2, .int (rX4_stepAhead (b + 27 + 2 * q) t 0)), (0, .ref (ad (b))), (1, .ref (ad (b + 27 + 2 * q)))]) dX5_walk_34 (by decide) rfl ?_
          refine z_aload_n C 36 1 5 dX5_walk_36 rfl rfl ?_
          refine z_iload C 37 5 0 dX5_walk_37 rfl ?_
          refine z_virtIe C 39 (As := [.int (zrem ((rX4_stepAhead (b + 27 + 2 * q) t 0) + nI k) 20)]) (st := []) (id := b + 27 + 2 * q) (kX4_houseOn l D cy K n ad hJ (b + 27 + 2 * q) (hO.str hq) u (zrem ((rX4_stepAhead (b + 27 + 2 * q) t 0) + nI k) 20) ) dX5_walk_39 rfl gX5_walk_X4_houseOn hyX4_houseOn rfl (by decide) (by decide) (Nat.lt_of_succ_lt (hO.str hq).1) rfl (hO.str hq).2.1 rfl rfl rfl (Nat.le_of_ble_eq_true rfl) ?_
          refine z_istore C 42 6 ([(6, .int (rX4_houseOn (b + 27 + 2 * q) u (zrem ((rX4_stepAhead (b + 27 + 2 * q) t 0) + nI k) 20))), (5, .int (zrem ((rX4_stepAhead (b + 27 + 2 * q) t 0) + nI k) 20)), (4, .int (nI k)), (3, .int v), (2, .int (rX4_stepAhead (b + 27 + 2 * q) t 0)), (0, .ref (ad (b))), (1, .ref (ad (b + 27 + 2 * q)))]) dX5_walk_42 (by decide) rfl ?_
          refine z_aload_n C 44 0 5 dX5_walk_44 rfl rfl ?_
          refine z_iload C 45 6 0 dX5_walk_45 rfl ?_
          refine z_virtQ C 47 (As := [.int (rX4_houseOn (b + 27 + 2 * q) u (zrem ((rX4_stepAhead (b + 27 + 2 * q) t 0) + nI k) 20))]) (st := []) (id := b) (kX5_houseNumbered l D cy K n ad hJ (b) hO u (rX4_houseOn (b + 27 + 2 * q) u (zrem ((rX4_stepAhead (b + 27 + 2 * q) t 0) + nI k) 20)) ) dX5_walk_47 rfl gX5_walk_X5_houseNumbered hyX5_houseNumbered rfl (by decide) (by decide) hO.h0 rfl hO.e0 rfl rfl rfl (Nat.le_of_ble_eq_true rfl) (fun r47_5 t47_5 h47_5 => ?_)
          obtain ⟨e9, e8⟩ := h47_5; replace e9 := e9.symm; replace e8 := e8.symm; subst e9; subst e8
          by_cases c47_6 : zin (u (b) 4) (rX4_houseOn (b + 27 + 2 * q) u (zrem ((rX4_stepAhead (b + 27 + 2 * q) t 0) + nI k) 20))
          · have hkc47_6 := zin_lt c47_6
            refine z_cast (st2 := [.ref (ad (b + 2 + (rX4_houseOn (b + 27 + 2 * q) u (zrem ((rX4_stepAhead (b + 27 + 2 * q) t 0) + nI k) 20)).toNatClampNeg))]) (by rw [if_pos c47_6]; rfl) ?_
            refine z_astore C 50 7 ([(7, .ref (ad (b + 2 + (rX4_houseOn (b + 27 + 2 * q) u (zrem ((rX4_stepAhead (b + 27 + 2 * q) t 0) + nI k) 20)).toNatClampNeg))), (6, .int (rX4_houseOn (b + 27 + 2 * q) u (zrem ((rX4_stepAhead (b + 27 + 2 * q) t 0) + nI k) 20))), (5, .int (zrem ((rX4_stepAhead (b + 27 + 2 * q) t 0) + nI k) 20)), (4, .int (nI k)), (3, .int v), (2, .int (rX4_stepAhead (b + 27 + 2 * q) t 0)), (0, .ref (ad (b))), (1, .ref (ad (b + 27 + 2 * q)))]) dX5_walk_50 (by decide) rfl ?_
            refine z_aload C 52 7 0 dX5_walk_52 rfl ?_
            refine z_ifnull C 54 dX5_walk_54 ?_
            refine z_aload C 57 7 0 dX5_walk_57 rfl ?_
            refine z_aload_n C 59 0 6 dX5_walk_59 rfl rfl ?_
            refine z_geti C 60 (b) 5 dX5_walk_60 hO.h0 hO.e0 mX5_walk_in5 rfl (by decide) mX5_walk_f59 (fun _ => rfl) ?_
            refine z_virtIe C 63 (As := [.int (u (b) 5)]) (st := []) (id := b + 2 + (rX4_houseOn (b + 27 + 2 * q) u (zrem ((rX4_stepAhead (b + 27 + 2 * q) t 0) + nI k) 20)).toNatClampNeg) (kX1_reasonOn l D cy K n ad hJ (b + 2 + (rX4_houseOn (b + 27 + 2 * q) u (zrem ((rX4_stepAhead (b + 27 + 2 * q) t 0) + nI k) 20)).toNatClampNeg) (hO.hou hkc47_6) u (u (b) 5) ) dX5_walk_63 rfl gX5_walk_X1_reasonOn hyX1_reasonOn rfl (by decide) (by decide) (hO.hou hkc47_6).1 rfl (hO.hou hkc47_6).2 rfl rfl rfl (Nat.le_of_ble_eq_true rfl) ?_
            refine z_if_ne C 66 87 dX5_walk_66 (by decide) (fun c66_8 => ?_) (fun c66_8 => ?_)
            · refine z_iinc C 87 (v := nI (k + 1)) 4 3 ([(4, .int (nI (k + 1))), (7, .ref (ad (b + 2 + (rX4_houseOn (b + 27 + 2 * q) u (zrem ((rX4_stepAhead (b + 27 + 2 * q) t 0) + nI k) 20)).toNatClampNeg))), (6, .int (rX4_houseOn (b + 27 + 2 * q) u (zrem ((rX4_stepAhead (b + 27 + 2 * q) t 0) + nI k) 20))), (5, .int (zrem ((rX4_stepAhead (b + 27 + 2 * q) t 0) + nI k) 20)), (3, .int v), (2, .int (rX4_stepAhead (b + 27 + 2 * q) t 0)), (0, .ref (ad (b))), (1, .ref (ad (b + 27 + 2 * q)))]) dX5_walk_87 rfl (nI_1 _) (by decide) rfl ?_
              refine z_goto C 90 16 dX5_walk_90 (by decide) ?_
              refine z_ls [0, 4, 5, 6, 7] _ rfl ?_
              exact ih16 (k + 1) v u (by omega) (by have := zge (b := 20) (by omega) (by decide) ‹¬ (20 : Int32) ≤ nI k›; omega) hs (hS16.trans ((if_neg c20_2).trans ((if_neg c24_3).trans ((if_pos c47_6).trans ((if_neg c66_8).trans rfl)))))
            · refine z_aload_n C 69 0 6 dX5_walk_69 rfl rfl ?_
              refine z_aload C 70 7 0 dX5_walk_70 rfl ?_
              refine z_iload C 72 6 1 dX5_walk_72 rfl ?_
              refine z_virtIe C 74 (As := [.ref (ad (b + 2 + (rX4_houseOn (b + 27 + 2 * q) u (zrem ((rX4_stepAhead (b + 27 + 2 * q) t 0) + nI k) 20)).toNatClampNeg)), .int (rX4_houseOn (b + 27 + 2 * q) u (zrem ((rX4_stepAhead (b + 27 + 2 * q) t 0) + nI k) 20))]) (st := []) (id := b) (kX5_readMeter l D cy K n ad hJ (b) hO u ((rX4_houseOn (b + 27 + 2 * q) u (zrem ((rX4_stepAhead (b + 27 + 2 * q) t 0) + nI k) 20)).toNatClampNeg) (rX4_houseOn (b + 27 + 2 * q) u (zrem ((rX4_stepAhead (b + 27 + 2 * q) t 0) + nI k) 20)) hkc47_6 hs.2.1) dX5_walk_74 rfl gX5_walk_X5_readMeter hyX5_readMeter rfl (by decide) (by decide) hO.h0 rfl hO.e0 rfl rfl rfl (Nat.le_of_ble_eq_true rfl) ?_
              refine z_pop C 77 dX5_walk_77 rfl ?_
              refine z_aload_n C 78 1 7 dX5_walk_78 rfl rfl ?_
              refine z_iload C 79 5 2 dX5_walk_79 rfl ?_
              refine z_putN C 81 (ty := .int) (b + 27 + 2 * q) 1 dX5_walk_81 (Nat.lt_of_succ_lt (hO.str hq).1) (hO.str hq).2.1 mX5_walk_in4 tyX4 tyX4_ok nmX4 rfl (by decide) nst_f5_191 rfl (by decide +kernel) (vp_nar_int _) (zfit_i _) (fun _ => Nat.le_of_ble_eq_true rfl) (fun _ _ => rfl) ?_
              refine z_iinc C 84 (v := (v + (-1))) 3 4 ([(3, .int (v + (-1))), (7, .ref (ad (b + 2 + (rX4_houseOn (b + 27 + 2 * q) u (zrem ((rX4_stepAhead (b + 27 + 2 * q) t 0) + nI k) 20)).toNatClampNeg))), (6, .int (rX4_houseOn (b + 27 + 2 * q) u (zrem ((rX4_stepAhead (b + 27 + 2 * q) t 0) + nI k) 20))), (5, .int (zrem ((rX4_stepAhead (b + 27 + 2 * q) t 0) + nI k) 20)), (4, .int (nI k)), (2, .int (rX4_stepAhead (b + 27 + 2 * q) t 0)), (0, .ref (ad (b))), (1, .ref (ad (b + 27 + 2 * q)))]) dX5_walk_84 rfl (by first | rfl | (congr 1)) (by decide) rfl ?_
              refine z_iinc C 87 (v := nI (k + 1)) 4 4 ([(4, .int (nI (k + 1))), (3, .int (v + (-1))), (7, .ref (ad (b + 2 + (rX4_houseOn (b + 27 + 2 * q) u (zrem ((rX4_stepAhead (b + 27 + 2 * q) t 0) + nI k) 20)).toNatClampNeg))), (6, .int (rX4_houseOn (b + 27 + 2 * q) u (zrem ((rX4_stepAhead (b + 27 + 2 * q) t 0) + nI k) 20))), (5, .int (zrem ((rX4_stepAhead (b + 27 + 2 * q) t 0) + nI k) 20)), (2, .int (rX4_stepAhead (b + 27 + 2 * q) t 0)), (0, .ref (ad (b))), (1, .ref (ad (b + 27 + 2 * q)))]) dX5_walk_87 rfl (nI_1 _) (by decide) rfl ?_
              refine z_goto C 90 16 dX5_walk_90 (by decide) ?_
              refine z_ls [0, 1, 5, 6, 7] _ rfl ?_
              exact ih16 (k + 1) (v + (-1)) (zset (sX5_readMeter (b) u ((rX4_houseOn (b + 27 + 2 * q) u (zrem ((rX4_stepAhead (b + 27 + 2 * q) t 0) + nI k) 20)).toNatClampNeg) (rX4_houseOn (b + 27 + 2 * q) u (zrem ((rX4_stepAhead (b + 27 + 2 * q) t 0) + nI k) 20))) (b + 27 + 2 * q) 1 (zrem ((rX4_stepAhead (b + 27 + 2 * q) t 0) + nI k) 20)) (by omega) (by have := zge (b := 20) (by omega) (by decide) ‹¬ (20 : Int32) ≤ nI k›; omega) (zTs_set (sX5_readMeter_S (by assumption) hs) (Or.inl (by omega)) (by omega)) (hS16.trans ((if_neg c20_2).trans ((if_neg c24_3).trans ((if_pos c47_6).trans ((if_pos c66_8).trans rfl)))))
          · refine z_cast (st2 := [.null]) (by rw [if_neg c47_6]; rfl) ?_
            refine z_astoreN C 50 7 ([(7, .null), (6, .int (rX4_houseOn (b + 27 + 2 * q) u (zrem ((rX4_stepAhead (b + 27 + 2 * q) t 0) + nI k) 20))), (5, .int (zrem ((rX4_stepAhead (b + 27 + 2 * q) t 0) + nI k) 20)), (4, .int (nI k)), (3, .int v), (2, .int (rX4_stepAhead (b + 27 + 2 * q) t 0)), (0, .ref (ad (b))), (1, .ref (ad (b + 27 + 2 * q)))]) dX5_walk_50 (by decide) rfl ?_
            refine z_aloadN C 52 7 0 dX5_walk_52 rfl ?_
            refine z_ifnullN C 54 87 dX5_walk_54 (by decide) ?_
            refine z_iinc C 87 (v := nI (k + 1)) 4 3 ([(4, .int (nI (k + 1))), (7, .null), (6, .int (rX4_houseOn (b + 27 + 2 * q) u (zrem ((rX4_stepAhead (b + 27 + 2 * q) t 0) + nI k) 20))), (5, .int (zrem ((rX4_stepAhead (b + 27 + 2 * q) t 0) + nI k) 20)), (3, .int v), (2, .int (rX4_stepAhead (b + 27 + 2 * q) t 0)), (0, .ref (ad (b))), (1, .ref (ad (b + 27 + 2 * q)))]) dX5_walk_87 rfl (nI_1 _) (by decide) rfl ?_
            refine z_goto C 90 16 dX5_walk_90 (by decide) ?_
            refine z_ls [0, 4, 5, 6, 7] _ rfl ?_
            exact ih16 (k + 1) v u (by omega) (by have := zge (b := 20) (by omega) (by decide) ‹¬ (20 : Int32) ≤ nI k›; omega) hs (hS16.trans ((if_neg c20_2).trans ((if_neg c24_3).trans ((if_neg c47_6).trans rfl))))
  refine z_ls [0, 1, 2, 3, 4] _ rfl ?_
  exact L16 (21) 0 (t (b + 37) 0) t (by omega) (by decide) hs rfl
theorem lsX5_walk_16_S {N b q : Nat} (hq : q < 4) (t : zM) : ∀ (j k : Nat) (v : Int32) (u : zM), zTs N b u → zTs N b (lsX5_walk_16 b t q j k v u) := by
  intro j
  induction j with
  | zero => intro k v u h; exact h
  | succ j ih =>
    intro k v u h
    unfold lsX5_walk_16
    repeat' split
    all_goals first
      | exact h
      | exact ih _ _ _ h
      | exact ih _ _ _ (zTs_set (sX5_readMeter_S (zin_lt (by assumption)) h) (Or.inl (by omega)) (by omega))
theorem sX5_walk_S {N b q : Nat} (hq : q < 4) {t : zM} (h : zTs N b t) : zTs N b (sX5_walk b t q) := lsX5_walk_16_S hq t _ _ _ _ h
def lsX5_endYear_20 (b : Nat) (t : zM) : Nat → Nat → zM → zM
  | 0, _, u => u
  | j + 1, k, u => (if 24 ≤ nI k then u else (if (u (b + 2 + k) 6) < (u (b + 37) 2) then (lsX5_endYear_20 b t j (k + 1) u) else (lsX5_endYear_20 b t j (k + 1) (zset (zset (zset (zset u (b + 2 + k) 6 ((u (b + 2 + k) 6) - 100)) (b + 2 + k) 12 ((u (b + 2 + k) 12) + 1)) (b) 10 ((u (b) 10) + 1)) (b) 11 ((u (b) 11) + (u (b + 37) 1))))))
def sX5_endYear (b : Nat) (t : zM)  : zM := (lsX5_endYear_20 b t 25 0 (zset t (b) 12 ((t (b) 12) + 1)))
theorem mX5_endYear_f80 : Cond.fieldLink RX5 80 "WrongedMeters$Town" "years" "I" ∈ wsX5_endYear := by decide +kernel
set_option maxRecDepth 20000 in
theorem mX5_endYear_in5 : ∀ w ∈ u_ws RX5 TX5 13, w ∈ wsX5_endYear := by decide +kernel
theorem mX5_endYear_f11 : Cond.fieldLink RX5 11 "WrongedMeters$Town" "houses" "[LWrongedMeters$House;" ∈ wsX5_endYear := by decide +kernel
set_option maxRecDepth 20000 in
theorem mX5_endYear_in1 : ∀ w ∈ u_ws RX1 TX1 14, w ∈ wsX5_endYear := by decide +kernel
theorem mX5_endYear_f30 : Cond.fieldLink RX5 30 "WrongedMeters$Town" "settings" "[I" ∈ wsX5_endYear := by decide +kernel
theorem mX5_endYear_f74 : Cond.fieldLink RX5 74 "WrongedMeters$Town" "refunds" "I" ∈ wsX5_endYear := by decide +kernel
theorem mX5_endYear_f77 : Cond.fieldLink RX5 77 "WrongedMeters$Town" "coinsBack" "I" ∈ wsX5_endYear := by decide +kernel
theorem hyX5_endYear : yX5_endYear.cls = RX5 ∧ yX5_endYear.cls ≠ "java/lang/invoke/MethodHandle" ∧ yX5_endYear.cls ≠ "java/lang/invoke/VarHandle" ∧ (parseMethodDescriptor yX5_endYear.desc).map (fun d => d.parameters.length) = some 0 := by decide +kernel
set_option maxHeartbeats 3000000 in
set_option maxRecDepth 100000 in
theorem kX5_endYear (l : Launch) (D : va_G) (cy : Nat → ClassId) (K : zK) (n : Nat) (ad : Nat → Nat) (hJ : zJ n ad) (b : Nat) (hO : zTown cy K n ad b) (t : zM)   : zV l yX5_endYear wsX5_endYear 0 D cy K n ad t [.ref (ad (b))] (fun t1 => t1 = sX5_endYear b t) := by
  refine z_startV (cc := cX5_endYear) (mL := 5) (ret := none) (own := RX5) rfl (by decide +kernel) rfl hJ (Nat.le_of_ble_eq_true rfl) ?_
  intro p e s m args below meth c A hA Q hQ C
  refine z_aload_n C 0 0 0 dX5_endYear_0 rfl rfl ?_
  refine z_dup C 1 dX5_endYear_1 rfl ?_
  refine z_geti C 2 (b) 12 dX5_endYear_2 hO.h0 hO.e0 mX5_endYear_in5 rfl (by decide) mX5_endYear_f80 (fun _ => rfl) ?_
  refine z_iconst C 5 (v := 1) dX5_endYear_5 (by decide +kernel) ?_
  refine z_iadd C 6 dX5_endYear_6 ?_
  refine z_put C 7 (ty := .int) (b) 12 dX5_endYear_7 hO.h0 hO.e0 mX5_endYear_in5 tyX5 tyX5_ok nmX5 rfl (by decide) mX5_endYear_f80 rfl (by decide +kernel) (vp_nar_int _) (zfit_i _) (fun _ => Nat.le_of_ble_eq_true rfl) (fun _ _ => rfl) ?_
  refine z_aload_n C 10 0 0 dX5_endYear_10 rfl rfl ?_
  refine z_getr C 11 (a9 := ad (b + 1)) (b) 0 dX5_endYear_11 hO.h0 hO.e0 mX5_endYear_in5 rfl (by decide) mX5_endYear_f11 (fun _ => rfl) ?_
  refine z_astore_n C 14 1 ([(1, .ref (ad (b + 1))), (0, .ref (ad (b)))]) dX5_endYear_14 rfl (by decide) rfl ?_
  refine z_aload_n C 15 1 0 dX5_endYear_15 rfl rfl ?_
  refine z_alen C 16 (v := 24) (b + 1) 1 dX5_endYear_16 hO.h1 hO.e1 rfl (show Int32.ofNat 24 = 24 from rfl) ?_
  refine z_istore_n C 17 2 ([(2, .int 24), (1, .ref (ad (b + 1))), (0, .ref (ad (b)))]) dX5_endYear_17 rfl (by decide) rfl ?_
  refine z_iconst C 18 (v := 0) dX5_endYear_18 (by decide +kernel) ?_
  refine z_istore_n C 19 3 ([(3, .int 0), (2, .int 24), (1, .ref (ad (b + 1))), (0, .ref (ad (b)))]) dX5_endYear_19 rfl (by decide) rfl ?_
  have L20 : ∀ (j : Nat) (k : Nat) (u : zM), (h0_20 : 25 ≤ k + j) → (hk : k ≤ 24) → (hS20 : sX5_endYear b t = (lsX5_endYear_20 b t j k u)) → Zw p l e (zR 0) s m args below meth c D A K n ad 5 Q 20 ([(3, .int (nI k)), (2, .int 24), (1, .ref (ad (b + 1))), (0, .ref (ad (b)))]) [] u := by
    intro j
    induction j with
    | zero =>
      intro k u h0_20 hk hS20
      exact absurd h0_20 (by omega)
    | succ j ih20 =>
      intro k u h0_20 hk hS20
      refine z_iload_n C 20 3 0 dX5_endYear_20 rfl rfl ?_
      refine z_iload_n C 21 2 1 dX5_endYear_21 rfl rfl ?_
      refine z_icmp_ge C 22 98 dX5_endYear_22 (by decide) (fun c22_1 => ?_) (fun c22_1 => ?_)
      · exact z_vret C 98 hA hQ rfl dX5_endYear_98 ((hS20.trans ((if_pos c22_1).trans rfl))).symm
      · refine z_aload_n C 25 1 2 dX5_endYear_25 rfl rfl ?_
        refine z_iload_n C 26 3 0 dX5_endYear_26 rfl rfl ?_
        refine z_aald C 27 (b + 1) 1 k (ad (b + 2 + k)) dX5_endYear_27 hO.h1 hO.e1 rfl rfl (zge (b := 24) (by omega) (by decide) ‹¬ (24 : Int32) ≤ nI k›) (by decide) rfl ?_
        refine z_astore C 28 4 ([(4, .ref (ad (b + 2 + k))), (3, .int (nI k)), (2, .int 24), (1, .ref (ad (b + 1))), (0, .ref (ad (b)))]) dX5_endYear_28 (by decide) rfl ?_
        refine z_aload C 30 4 0 dX5_endYear_30 rfl ?_
        refine z_getiN C 32 (b + 2 + k) 6 dX5_endYear_32 (hO.hou (zge (b := 24) (by omega) (by decide) ‹¬ (24 : Int32) ≤ nI k›)).1 (hO.hou (zge (b := 24) (by omega) (by decide) ‹¬ (24 : Int32) ≤ nI k›)).2 mX5_endYear_in1 rfl (by decide) nst_f5_165 (fun _ => rfl) ?_
        refine z_aload_n C 35 0 4 dX5_endYear_35 rfl rfl ?_
        refine z_getr C 36 (a9 := ad (b + 37)) (b) 3 dX5_endYear_36 hO.h0 hO.e0 mX5_endYear_in5 rfl (by decide) mX5_endYear_f30 (fun _ => rfl) ?_
        refine z_iconst C 39 (v := 2) dX5_endYear_39 (by decide +kernel) ?_
        refine z_ialdN C 40 (b + 37) 2 dX5_endYear_40 hO.h37 hO.e37 rfl (by decide) (by decide) ?_
        refine z_icmp_lt C 41 92 dX5_endYear_41 (by decide) (fun c41_2 => ?_) (fun c41_2 => ?_)
        · refine z_iinc C 92 (v := nI (k + 1)) 3 1 ([(3, .int (nI (k + 1))), (4, .ref (ad (b + 2 + k))), (2, .int 24), (1, .ref (ad (b + 1))), (0, .ref (ad (b)))]) dX5_endYear_92 rfl (nI_1 _) (by decide) rfl ?_
          refine z_goto C 95 20 dX5_endYear_95 (by decide) ?_
          refine z_ls [0, 2, 3, 4] _ rfl ?_
          exact ih20 (k + 1) u (by omega) (by have := zge (b := 24) (by omega) (by decide) ‹¬ (24 : Int32) ≤ nI k›; omega) (hS20.trans ((if_neg c22_1).trans ((if_pos c41_2).trans rfl)))
        · refine z_aload C 44 4 0 dX5_endYear_44 rfl ?_
          refine z_dup C 46 dX5_endYear_46 rfl ?_
          refine z_getiN C 47 (b + 2 + k) 6 dX5_endYear_47 (hO.hou (zge (b := 24) (by omega) (by decide) ‹¬ (24 : Int32) ≤ nI k›)).1 (hO.hou (zge (b := 24) (by omega) (by decide) ‹¬ (24 : Int32) ≤ nI k›)).2 mX5_endYear_in1 rfl (by decide) nst_f5_165 (fun _ => rfl) ?_
          refine z_bipush C 50 (v := 100) dX5_endYear_50 (by decide +kernel) ?_
          refine z_isub C 52 dX5_endYear_52 ?_
          refine z_putN C 53 (ty := .int) (b + 2 + k) 6 dX5_endYear_53 (hO.hou (zge (b := 24) (by omega) (by decide) ‹¬ (24 : Int32) ≤ nI k›)).1 (hO.hou (zge (b := 24) (by omega) (by decide) ‹¬ (24 : Int32) ≤ nI k›)).2 mX5_endYear_in1 tyX1 tyX1_ok nmX1 rfl (by decide) nst_f5_165 rfl (by decide +kernel) (vp_nar_int _) (zfit_i _) (fun _ => Nat.le_of_ble_eq_true rfl) (fun _ _ => rfl) ?_
          refine z_aload C 56 4 0 dX5_endYear_56 rfl ?_
          refine z_dup C 58 dX5_endYear_58 rfl ?_
          refine z_getiN C 59 (b + 2 + k) 12 dX5_endYear_59 (hO.hou (zge (b := 24) (by omega) (by decide) ‹¬ (24 : Int32) ≤ nI k›)).1 (hO.hou (zge (b := 24) (by omega) (by decide) ‹¬ (24 : Int32) ≤ nI k›)).2 mX5_endYear_in1 rfl (by decide) nst_f5_194 (fun _ => rfl) ?_
          refine z_nv (u (b + 2 + k) 12) ((zset_nk _ _ _ (by decide)).trans rfl) ?_
          refine z_iconst C 62 (v := 1) dX5_endYear_62 (by decide +kernel) ?_
          refine z_iadd C 63 dX5_endYear_63 ?_
          refine z_putN C 64 (ty := .int) (b + 2 + k) 12 dX5_endYear_64 (hO.hou (zge (b := 24) (by omega) (by decide) ‹¬ (24 : Int32) ≤ nI k›)).1 (hO.hou (zge (b := 24) (by omega) (by decide) ‹¬ (24 : Int32) ≤ nI k›)).2 mX5_endYear_in1 tyX1 tyX1_ok nmX1 rfl (by decide) nst_f5_194 rfl (by decide +kernel) (vp_nar_int _) (zfit_i _) (fun _ => Nat.le_of_ble_eq_true rfl) (fun _ _ => rfl) ?_
          refine z_aload_n C 67 0 4 dX5_endYear_67 rfl rfl ?_
          refine z_dup C 68 dX5_endYear_68 rfl ?_
          refine z_geti C 69 (b) 10 dX5_endYear_69 hO.h0 hO.e0 mX5_endYear_in5 rfl (by decide) mX5_endYear_f74 (fun _ => rfl) ?_
          refine z_nv (u (b) 10) ((zset_idk _ _ _ _ (by omega)).trans ((zset_idk _ _ _ _ (by omega)).trans rfl)) ?_
          refine z_iconst C 72 (v := 1) dX5_endYear_72 (by decide +kernel) ?_
          refine z_iadd C 73 dX5_endYear_73 ?_
          refine z_put C 74 (ty := .int) (b) 10 dX5_endYear_74 hO.h0 hO.e0 mX5_endYear_in5 tyX5 tyX5_ok nmX5 rfl (by decide) mX5_endYear_f74 rfl (by decide +kernel) (vp_nar_int _) (zfit_i _) (fun _ => Nat.le_of_ble_eq_true rfl) (fun _ _ => rfl) ?_
          refine z_aload_n C 77 0 4 dX5_endYear_77 rfl rfl ?_
          refine z_dup C 78 dX5_endYear_78 rfl ?_
          refine z_geti C 79 (b) 11 dX5_endYear_79 hO.h0 hO.e0 mX5_endYear_in5 rfl (by decide) mX5_endYear_f77 (fun _ => rfl) ?_
          refine z_nv (u (b) 11) ((zset_nk _ _ _ (by decide)).trans ((zset_idk _ _ _ _ (by omega)).trans ((zset_idk _ _ _ _ (by omega)).trans rfl))) ?_
          refine z_aload_n C 82 0 4 dX5_endYear_82 rfl rfl ?_
          refine z_getr C 83 (a9 := ad (b + 37)) (b) 3 dX5_endYear_83 hO.h0 hO.e0 mX5_endYear_in5 rfl (by decide) mX5_endYear_f30 (fun _ => rfl) ?_
          refine z_iconst C 86 (v := 1) dX5_endYear_86 (by decide +kernel) ?_
          refine z_ialdN C 87 (b + 37) 1 dX5_endYear_87 hO.h37 hO.e37 rfl (by decide) (by decide) ?_
          refine z_nv (u (b + 37) 1) ((zset_idk _ _ _ _ (by omega)).trans ((zset_idk _ _ _ _ (by omega)).trans ((zset_idk _ _ _ _ (by omega)).trans rfl))) ?_
          refine z_iadd C 88 dX5_endYear_88 ?_
          refine z_put C 89 (ty := .int) (b) 11 dX5_endYear_89 hO.h0 hO.e0 mX5_endYear_in5 tyX5 tyX5_ok nmX5 rfl (by decide) mX5_endYear_f77 rfl (by decide +kernel) (vp_nar_int _) (zfit_i _) (fun _ => Nat.le_of_ble_eq_true rfl) (fun _ _ => rfl) ?_
          refine z_iinc C 92 (v := nI (k + 1)) 3 1 ([(3, .int (nI (k + 1))), (4, .ref (ad (b + 2 + k))), (2, .int 24), (1, .ref (ad (b + 1))), (0, .ref (ad (b)))]) dX5_endYear_92 rfl (nI_1 _) (by decide) rfl ?_
          refine z_goto C 95 20 dX5_endYear_95 (by decide) ?_
          refine z_ls [0, 2, 3, 4] _ rfl ?_
          exact ih20 (k + 1) (zset (zset (zset (zset u (b + 2 + k) 6 ((u (b + 2 + k) 6) - 100)) (b + 2 + k) 12 ((u (b + 2 + k) 12) + 1)) (b) 10 ((u (b) 10) + 1)) (b) 11 ((u (b) 11) + (u (b + 37) 1))) (by omega) (by have := zge (b := 24) (by omega) (by decide) ‹¬ (24 : Int32) ≤ nI k›; omega) (hS20.trans ((if_neg c22_1).trans ((if_neg c41_2).trans rfl)))
  refine z_ls [0, 1, 2, 3] _ rfl ?_
  exact L20 (25) 0 (zset t (b) 12 ((t (b) 12) + 1)) (by omega) (by decide) rfl
theorem lsX5_endYear_20_S {N b : Nat} (t : zM) : ∀ (j k : Nat) (u : zM), k ≤ 24 → zTs N b u → zTs N b (lsX5_endYear_20 b t j k u) := by
  intro j
  induction j with
  | zero => intro k u hk h; exact h
  | succ j ih =>
    intro k u hk h
    unfold lsX5_endYear_20
    split
    · exact h
    · have hk2 : k < 24 := (zge (b := 24) (by omega) (by decide) ‹¬ (24 : Int32) ≤ nI k›)
      split
      · exact ih _ _ (by omega) h
      · exact ih _ _ (by omega) (zTs_set (zTs_set (zTs_set (zTs_set h (Or.inl (by omega)) (by omega)) (Or.inl (by omega)) (by omega)) (Or.inr ⟨by decide, by decide⟩) (by omega)) (Or.inr ⟨by decide, by decide⟩) (by omega))
theorem sX5_endYear_S {N b : Nat} {t : zM} (h : zTs N b t) : zTs N b (sX5_endYear b t) := lsX5_endYear_20_S t _ _ _ (by decide) (zTs_set h (Or.inr ⟨by decide, by decide⟩) (by omega))
theorem kX5_streetNumbered_N (l : Launch) (D : va_G) (cy : Nat → ClassId) (K : zK) (n : Nat) (ad : Nat → Nat) (hJ : zJ n ad) (b : Nat) (hO : zTown cy K n ad b) (t : zM) (q : Nat) (hq : q < 4) : zQ l yX5_streetNumbered wsX5_streetNumbered 0 D cy K n ad t [.ref (ad (b)), .int (nI q)] (fun o t1 => o = some (ad (b + 27 + 2 * q)) ∧ t1 = t) := by
  have h := kX5_streetNumbered l D cy K n ad hJ b hO t (nI q)
  rw [if_pos (⟨nI_pos (by omega), (nI_ltI (b := 4) (by omega) (by decide)).mpr hq⟩ : zis (nI q)), nI_clamp (by omega)] at h
  exact h
def lsX5_passDays_26 (b : Nat) (t : zM) (M : Nat) (N : Nat) : Nat → Nat → zM → zM
  | 0, _, w => w
  | j2 + 1, i, w => (if 24 ≤ nI i then w else (lsX5_passDays_26 b t M N j2 (i + 1) (sX1_goOn (b + 2 + i) w)))
def lX5_passDays_7 (b : Nat) (t : zM) (M : Nat) (N : Nat) : Nat → Nat → zM → Int32
  | 0, _, _ => 0
  | j + 1, k, u => (if nI M ≤ nI k then ((u (b) 6) - (t (b) 6)) else (if ((sX5_walk (b) (zset (lsX5_passDays_26 b t M N 25 0 u) (b) 5 (((lsX5_passDays_26 b t M N 25 0 u) (b) 5) + 1)) (((N + k + 1) % 4))) (b + 37) 3) ≤ 0 then (lX5_passDays_7 b t M N j (k + 1) (sX5_walk (b) (zset (lsX5_passDays_26 b t M N 25 0 u) (b) 5 (((lsX5_passDays_26 b t M N 25 0 u) (b) 5) + 1)) (((N + k + 1) % 4)))) else (if (zrem ((sX5_walk (b) (zset (lsX5_passDays_26 b t M N 25 0 u) (b) 5 (((lsX5_passDays_26 b t M N 25 0 u) (b) 5) + 1)) (((N + k + 1) % 4))) (b) 5) ((sX5_walk (b) (zset (lsX5_passDays_26 b t M N 25 0 u) (b) 5 (((lsX5_passDays_26 b t M N 25 0 u) (b) 5) + 1)) (((N + k + 1) % 4))) (b + 37) 3)) = 0 then (lX5_passDays_7 b t M N j (k + 1) (sX5_endYear (b) (sX5_walk (b) (zset (lsX5_passDays_26 b t M N 25 0 u) (b) 5 (((lsX5_passDays_26 b t M N 25 0 u) (b) 5) + 1)) (((N + k + 1) % 4))))) else (lX5_passDays_7 b t M N j (k + 1) (sX5_walk (b) (zset (lsX5_passDays_26 b t M N 25 0 u) (b) 5 (((lsX5_passDays_26 b t M N 25 0 u) (b) 5) + 1)) (((N + k + 1) % 4)))))))
def lsX5_passDays_7 (b : Nat) (t : zM) (M : Nat) (N : Nat) : Nat → Nat → zM → zM
  | 0, _, u => u
  | j + 1, k, u => (if nI M ≤ nI k then u else (if ((sX5_walk (b) (zset (lsX5_passDays_26 b t M N 25 0 u) (b) 5 (((lsX5_passDays_26 b t M N 25 0 u) (b) 5) + 1)) (((N + k + 1) % 4))) (b + 37) 3) ≤ 0 then (lsX5_passDays_7 b t M N j (k + 1) (sX5_walk (b) (zset (lsX5_passDays_26 b t M N 25 0 u) (b) 5 (((lsX5_passDays_26 b t M N 25 0 u) (b) 5) + 1)) (((N + k + 1) % 4)))) else (if (zrem ((sX5_walk (b) (zset (lsX5_passDays_26 b t M N 25 0 u) (b) 5 (((lsX5_passDays_26 b t M N 25 0 u) (b) 5) + 1)) (((N + k + 1) % 4))) (b) 5) ((sX5_walk (b) (zset (lsX5_passDays_26 b t M N 25 0 u) (b) 5 (((lsX5_passDays_26 b t M N 25 0 u) (b) 5) + 1)) (((N + k + 1) % 4))) (b + 37) 3)) = 0 then (lsX5_passDays_7 b t M N j (k + 1) (sX5_endYear (b) (sX5_walk (b) (zset (lsX5_passDays_26 b t M N 25 0 u) (b) 5 (((lsX5_passDays_26 b t M N 25 0 u) (b) 5) + 1)) (((N + k + 1) % 4))))) else (lsX5_passDays_7 b t M N j (k + 1) (sX5_walk (b) (zset (lsX5_passDays_26 b t M N 25 0 u) (b) 5 (((lsX5_passDays_26 b t M N 25 0 u) (b) 5) + 1)) (((N + k + 1) % 4)))))))
def rX5_passDays (b : Nat) (t : zM) (M : Nat) (N : Nat) : Int32 := (lX5_passDays_7 b t M N (M + 1) 0 t)
def sX5_passDays (b : Nat) (t : zM) (M : Nat) (N : Nat) : zM := (lsX5_passDays_7 b t M N (M + 1) 0 t)
theorem lsX5_passDays_26_S {K b : Nat} (t : zM) (M N : Nat) : ∀ (j i : Nat) (u : zM), i ≤ 24 → zTs K b u → zTs K b (lsX5_passDays_26 b t M N j i u) := by
  intro j
  induction j with
  | zero => intro i u hi h; exact h
  | succ j ih =>
    intro i u hi h
    unfold lsX5_passDays_26
    split
    · exact h
    · have hk2 : i < 24 := zge (b := 24) (by omega) (by decide) ‹¬ (24 : Int32) ≤ nI i›
      exact ih _ _ (by omega) (zTs_fr h (sX1_goOn_o _ _ (by omega)) (sX1_goOn_o _ _ (by omega)))
theorem mX5_passDays_f62 : Cond.fieldLink RX5 62 "WrongedMeters$Town" "readings" "I" ∈ wsX5_passDays := by decide +kernel
set_option maxRecDepth 20000 in
theorem mX5_passDays_in5 : ∀ w ∈ u_ws RX5 TX5 13, w ∈ wsX5_passDays := by decide +kernel
theorem mX5_passDays_f11 : Cond.fieldLink RX5 11 "WrongedMeters$Town" "houses" "[LWrongedMeters$House;" ∈ wsX5_passDays := by decide +kernel
theorem mX5_passDays_f59 : Cond.fieldLink RX5 59 "WrongedMeters$Town" "now" "I" ∈ wsX5_passDays := by decide +kernel
theorem mX5_passDays_f30 : Cond.fieldLink RX5 30 "WrongedMeters$Town" "settings" "[I" ∈ wsX5_passDays := by decide +kernel
theorem hyX5_passDays : yX5_passDays.cls = RX5 ∧ yX5_passDays.cls ≠ "java/lang/invoke/MethodHandle" ∧ yX5_passDays.cls ≠ "java/lang/invoke/VarHandle" ∧ (parseMethodDescriptor yX5_passDays.desc).map (fun d => d.parameters.length) = some 1 := by decide +kernel
set_option maxHeartbeats 3000000 in
set_option maxRecDepth 100000 in
theorem kX5_passDays (l : Launch) (D : va_G) (cy : Nat → ClassId) (K : zK) (n : Nat) (ad : Nat → Nat) (hJ : zJ n ad) (b : Nat) (hO : zTown cy K n ad b) (t : zM) (M N : Nat) (hM : M ≤ 99) (hN : N ≤ 20000) (hs : zTs N b t) : zI l yX5_passDays wsX5_passDays 3 D cy K n ad t [.ref (ad (b)), .int (nI M)] (fun r t1 => r = rX5_passDays b t M N ∧ t1 = sX5_passDays b t M N) := by
  refine z_startI (cc := cX5_passDays) (mL := 8) (ret := (some .int)) (own := RX5) rfl (by decide +kernel) rfl hJ (Nat.le_of_ble_eq_true rfl) ?_
  intro p e s m args below meth c A hA Q hQ C
  refine z_aload_n C 0 0 0 dX5_passDays_0 rfl rfl ?_
  refine z_geti C 1 (b) 6 dX5_passDays_1 hO.h0 hO.e0 mX5_passDays_in5 rfl (by decide) mX5_passDays_f62 (fun _ => rfl) ?_
  refine z_istore_n C 4 2 ([(2, .int (t (b) 6)), (0, .ref (ad (b))), (1, .int (nI M))]) dX5_passDays_4 rfl (by decide) rfl ?_
  refine z_iconst C 5 (v := 0) dX5_passDays_5 (by decide +kernel) ?_
  refine z_istore_n C 6 3 ([(3, .int 0), (2, .int (t (b) 6)), (0, .ref (ad (b))), (1, .int (nI M))]) dX5_passDays_6 rfl (by decide) rfl ?_
  have L7 : ∀ (j : Nat) (k : Nat) (u : zM), (h0_7 : (M + 1) ≤ k + j) → (hk : k ≤ M) → (hs : zTs (N + k) b u) → (hI7 : rX5_passDays b t M N = (lX5_passDays_7 b t M N j k u)) → (hS7 : sX5_passDays b t M N = (lsX5_passDays_7 b t M N j k u)) → Zw p l e (zR 3) s m args below meth c D A K n ad 8 Q 7 ([(3, .int (nI k)), (2, .int (t (b) 6)), (0, .ref (ad (b))), (1, .int (nI M))]) [] u := by
    intro j
    induction j with
    | zero =>
      intro k u h0_7 hk hs hI7 hS7
      exact absurd h0_7 (by omega)
    | succ j ih7 =>
      intro k u h0_7 hk hs hI7 hS7
      refine z_iload_n C 7 3 0 dX5_passDays_7 rfl rfl ?_
      refine z_iload_n C 8 1 3 dX5_passDays_8 rfl rfl ?_
      refine z_icmp_ge C 9 117 dX5_passDays_9 (by decide) (fun c9_1 => ?_) (fun c9_1 => ?_)
      · refine z_aload_n C 117 0 2 dX5_passDays_117 rfl rfl ?_
        refine z_geti C 118 (b) 6 dX5_passDays_118 hO.h0 hO.e0 mX5_passDays_in5 rfl (by decide) mX5_passDays_f62 (fun _ => rfl) ?_
        refine z_iload_n C 121 2 1 dX5_passDays_121 rfl rfl ?_
        refine z_isub C 122 dX5_passDays_122 ?_
        exact z_iret C 123 hA hQ rfl dX5_passDays_123 ⟨((hI7.trans ((if_pos c9_1).trans rfl))).symm, ((hS7.trans ((if_pos c9_1).trans rfl))).symm⟩
      · refine z_aload_n C 12 0 2 dX5_passDays_12 rfl rfl ?_
        refine z_getr C 13 (a9 := ad (b + 1)) (b) 0 dX5_passDays_13 hO.h0 hO.e0 mX5_passDays_in5 rfl (by decide) mX5_passDays_f11 (fun _ => rfl) ?_
        refine z_astore C 16 4 ([(4, .ref (ad (b + 1))), (3, .int (nI k)), (2, .int (t (b) 6)), (0, .ref (ad (b))), (1, .int (nI M))]) dX5_passDays_16 (by decide) rfl ?_
        refine z_aload C 18 4 0 dX5_passDays_18 rfl ?_
        refine z_alen C 20 (v := 24) (b + 1) 1 dX5_passDays_20 hO.h1 hO.e1 rfl (show Int32.ofNat 24 = 24 from rfl) ?_
        refine z_istore C 21 5 ([(5, .int 24), (4, .ref (ad (b + 1))), (3, .int (nI k)), (2, .int (t (b) 6)), (0, .ref (ad (b))), (1, .int (nI M))]) dX5_passDays_21 (by decide) rfl ?_
        refine z_iconst C 23 (v := 0) dX5_passDays_23 (by decide +kernel) ?_
        refine z_istore C 24 6 ([(6, .int 0), (5, .int 24), (4, .ref (ad (b + 1))), (3, .int (nI k)), (2, .int (t (b) 6)), (0, .ref (ad (b))), (1, .int (nI M))]) dX5_passDays_24 (by decide) rfl ?_
        have K26 : Zw p l e (zR 3) s m args below meth c D A K n ad 8 Q 51 ([(3, .int (nI k)), (2, .int (t (b) 6)), (0, .ref (ad (b))), (1, .int (nI M))]) [] (lsX5_passDays_26 b t M N 25 0 u) := by
          refine z_aload_n C 51 0 2 dX5_passDays_51 rfl rfl ?_
          refine z_dup C 52 dX5_passDays_52 rfl ?_
          refine z_geti C 53 (b) 5 dX5_passDays_53 hO.h0 hO.e0 mX5_passDays_in5 rfl (by decide) mX5_passDays_f59 (fun _ => rfl) ?_
          refine z_iconst C 56 (v := 1) dX5_passDays_56 (by decide +kernel) ?_
          refine z_iadd C 57 dX5_passDays_57 ?_
          refine z_put C 58 (ty := .int) (b) 5 dX5_passDays_58 hO.h0 hO.e0 mX5_passDays_in5 tyX5 tyX5_ok nmX5 rfl (by decide) mX5_passDays_f59 rfl (by decide +kernel) (vp_nar_int _) (zfit_i _) (fun _ => Nat.le_of_ble_eq_true rfl) (fun _ _ => rfl) ?_
          refine z_aload_n C 61 0 2 dX5_passDays_61 rfl rfl ?_
          refine z_aload_n C 62 0 2 dX5_passDays_62 rfl rfl ?_
          refine z_geti C 63 (b) 5 dX5_passDays_63 hO.h0 hO.e0 mX5_passDays_in5 rfl (by decide) mX5_passDays_f59 (fun _ => rfl) ?_
          refine z_nv (((lsX5_passDays_26 b t M N 25 0 u) (b) 5) + 1) (zset_eq _ _ _ _) ?_
          refine z_iconst C 66 (v := 4) dX5_passDays_66 (by decide +kernel) ?_
          refine z_irem C 67 dX5_passDays_67 (by decide) ?_
          refine z_nv (nI ((N + k + 1) % 4)) (by rw [(lsX5_passDays_26_S t M N 25 0 u (by decide) hs).1]; show zrem (nI (N + k) + 1) (nI 4) = _; rw [nI_1, zrem_n (by omega) (by decide) (by decide)]) ?_
          refine z_virtQ C 68 (As := [.int (nI ((N + k + 1) % 4))]) (st := []) (id := b) (kX5_streetNumbered_N l D cy K n ad hJ (b) hO (zset (lsX5_passDays_26 b t M N 25 0 u) (b) 5 (((lsX5_passDays_26 b t M N 25 0 u) (b) 5) + 1)) ((N + k + 1) % 4) (by omega)) dX5_passDays_68 rfl gX5_passDays_X5_streetNumbered hyX5_streetNumbered rfl (by decide) (by decide) hO.h0 rfl hO.e0 rfl rfl rfl (Nat.le_of_ble_eq_true rfl) (fun r68_2 t68_2 h68_2 => ?_)
          obtain ⟨e9, e8⟩ := h68_2; subst e9; subst e8
          refine z_cast (st2 := [.ref (ad (b + 27 + 2 * ((N + k + 1) % 4)))]) rfl ?_
          refine z_astore C 71 4 ([(4, .ref (ad (b + 27 + 2 * ((N + k + 1) % 4)))), (3, .int (nI k)), (2, .int (t (b) 6)), (0, .ref (ad (b))), (1, .int (nI M))]) dX5_passDays_71 (by decide) rfl ?_
          refine z_aload C 73 4 0 dX5_passDays_73 rfl ?_
          refine z_ifnull C 75 dX5_passDays_75 ?_
          refine z_aload_n C 78 0 3 dX5_passDays_78 rfl rfl ?_
          refine z_aload C 79 4 0 dX5_passDays_79 rfl ?_
          refine z_virtVe C 81 (As := [.ref (ad (b + 27 + 2 * ((N + k + 1) % 4)))]) (st := []) (id := b) (kX5_walk l D cy K n ad hJ (b) hO (zset (lsX5_passDays_26 b t M N 25 0 u) (b) 5 (((lsX5_passDays_26 b t M N 25 0 u) (b) 5) + 1)) (((N + k + 1) % 4)) (N + k + 1) (by omega) (zTs_now (lsX5_passDays_26_S t M N 25 0 u (by decide) hs))) dX5_passDays_81 rfl gX5_passDays_X5_walk hyX5_walk rfl (by decide) (by decide) hO.h0 rfl hO.e0 rfl rfl rfl (Nat.le_of_ble_eq_true rfl) ?_
          refine z_aload_n C 84 0 3 dX5_passDays_84 rfl rfl ?_
          refine z_getr C 85 (a9 := ad (b + 37)) (b) 3 dX5_passDays_85 hO.h0 hO.e0 mX5_passDays_in5 rfl (by decide) mX5_passDays_f30 (fun _ => rfl) ?_
          refine z_iconst C 88 (v := 3) dX5_passDays_88 (by decide +kernel) ?_
          refine z_ialdN C 89 (b + 37) 3 dX5_passDays_89 hO.h37 hO.e37 rfl (by decide) (by decide) ?_
          refine z_istore C 90 5 ([(5, .int ((sX5_walk (b) (zset (lsX5_passDays_26 b t M N 25 0 u) (b) 5 (((lsX5_passDays_26 b t M N 25 0 u) (b) 5) + 1)) (((N + k + 1) % 4))) (b + 37) 3)), (4, .ref (ad (b + 27 + 2 * ((N + k + 1) % 4)))), (3, .int (nI k)), (2, .int (t (b) 6)), (0, .ref (ad (b))), (1, .int (nI M))]) dX5_passDays_90 (by decide) rfl ?_
          refine z_iload C 92 5 0 dX5_passDays_92 rfl ?_
          refine z_if_le C 94 111 dX5_passDays_94 (by decide) (fun c94_4 => ?_) (fun c94_4 => ?_)
          · refine z_iinc C 111 (v := nI (k + 1)) 3 2 ([(3, .int (nI (k + 1))), (5, .int ((sX5_walk (b) (zset (lsX5_passDays_26 b t M N 25 0 u) (b) 5 (((lsX5_passDays_26 b t M N 25 0 u) (b) 5) + 1)) (((N + k + 1) % 4))) (b + 37) 3)), (4, .ref (ad (b + 27 + 2 * ((N + k + 1) % 4)))), (2, .int (t (b) 6)), (0, .ref (ad (b))), (1, .int (nI M))]) dX5_passDays_111 rfl (nI_1 _) (by decide) rfl ?_
            refine z_goto C 114 7 dX5_passDays_114 (by decide) ?_
            refine z_ls [0, 3, 4, 5] _ rfl ?_
            exact ih7 (k + 1) (sX5_walk (b) (zset (lsX5_passDays_26 b t M N 25 0 u) (b) 5 (((lsX5_passDays_26 b t M N 25 0 u) (b) 5) + 1)) (((N + k + 1) % 4))) (by omega) (by have := zge (by omega) (by omega) ‹¬ nI M ≤ nI k›; omega) (sX5_walk_S (by omega) (zTs_now (lsX5_passDays_26_S t M N 25 0 u (by decide) hs))) (hI7.trans ((if_neg c9_1).trans ((if_pos c94_4).trans rfl))) (hS7.trans ((if_neg c9_1).trans ((if_pos c94_4).trans rfl)))
          · refine z_aload_n C 97 0 4 dX5_passDays_97 rfl rfl ?_
            refine z_geti C 98 (b) 5 dX5_passDays_98 hO.h0 hO.e0 mX5_passDays_in5 rfl (by decide) mX5_passDays_f59 (fun _ => rfl) ?_
            refine z_iload C 101 5 0 dX5_passDays_101 rfl ?_
            refine z_irem C 103 dX5_passDays_103 (zne0 (by assumption)) ?_
            refine z_if_ne C 104 111 dX5_passDays_104 (by decide) (fun c104_5 => ?_) (fun c104_5 => ?_)
            · refine z_iinc C 111 (v := nI (k + 1)) 3 2 ([(3, .int (nI (k + 1))), (5, .int ((sX5_walk (b) (zset (lsX5_passDays_26 b t M N 25 0 u) (b) 5 (((lsX5_passDays_26 b t M N 25 0 u) (b) 5) + 1)) (((N + k + 1) % 4))) (b + 37) 3)), (4, .ref (ad (b + 27 + 2 * ((N + k + 1) % 4)))), (2, .int (t (b) 6)), (0, .ref (ad (b))), (1, .int (nI M))]) dX5_passDays_111 rfl (nI_1 _) (by decide) rfl ?_
              refine z_goto C 114 7 dX5_passDays_114 (by decide) ?_
              refine z_ls [0, 3, 4, 5] _ rfl ?_
              exact ih7 (k + 1) (sX5_walk (b) (zset (lsX5_passDays_26 b t M N 25 0 u) (b) 5 (((lsX5_passDays_26 b t M N 25 0 u) (b) 5) + 1)) (((N + k + 1) % 4))) (by omega) (by have := zge (by omega) (by omega) ‹¬ nI M ≤ nI k›; omega) (sX5_walk_S (by omega) (zTs_now (lsX5_passDays_26_S t M N 25 0 u (by decide) hs))) (hI7.trans ((if_neg c9_1).trans ((if_neg c94_4).trans ((if_neg c104_5).trans rfl)))) (hS7.trans ((if_neg c9_1).trans ((if_neg c94_4).trans ((if_neg c104_5).trans rfl))))
            · refine z_aload_n C 107 0 4 dX5_passDays_107 rfl rfl ?_
              refine z_virtVe C 108 (As := []) (st := []) (id := b) (kX5_endYear l D cy K n ad hJ (b) hO (sX5_walk (b) (zset (lsX5_passDays_26 b t M N 25 0 u) (b) 5 (((lsX5_passDays_26 b t M N 25 0 u) (b) 5) + 1)) (((N + k + 1) % 4)))  ) dX5_passDays_108 rfl gX5_passDays_X5_endYear hyX5_endYear rfl (by decide) (by decide) hO.h0 rfl hO.e0 rfl rfl rfl (Nat.le_of_ble_eq_true rfl) ?_
              refine z_iinc C 111 (v := nI (k + 1)) 3 2 ([(3, .int (nI (k + 1))), (5, .int ((sX5_walk (b) (zset (lsX5_passDays_26 b t M N 25 0 u) (b) 5 (((lsX5_passDays_26 b t M N 25 0 u) (b) 5) + 1)) (((N + k + 1) % 4))) (b + 37) 3)), (4, .ref (ad (b + 27 + 2 * ((N + k + 1) % 4)))), (2, .int (t (b) 6)), (0, .ref (ad (b))), (1, .int (nI M))]) dX5_passDays_111 rfl (nI_1 _) (by decide) rfl ?_
              refine z_goto C 114 7 dX5_passDays_114 (by decide) ?_
              refine z_ls [0, 3, 4, 5] _ rfl ?_
              exact ih7 (k + 1) (sX5_endYear (b) (sX5_walk (b) (zset (lsX5_passDays_26 b t M N 25 0 u) (b) 5 (((lsX5_passDays_26 b t M N 25 0 u) (b) 5) + 1)) (((N + k + 1) % 4)))) (by omega) (by have := zge (by omega) (by omega) ‹¬ nI M ≤ nI k›; omega) (sX5_endYear_S (sX5_walk_S (by omega) (zTs_now (lsX5_passDays_26_S t M N 25 0 u (by decide) hs)))) (hI7.trans ((if_neg c9_1).trans ((if_neg c94_4).trans ((if_pos c104_5).trans rfl)))) (hS7.trans ((if_neg c9_1).trans ((if_neg c94_4).trans ((if_pos c104_5).trans rfl))))
        have L26 : ∀ (j2 : Nat) (i : Nat) (w : zM), (h0_26 : 25 ≤ i + j2) → (hi : i ≤ 24) → (hS26 : (lsX5_passDays_26 b t M N 25 0 u) = (lsX5_passDays_26 b t M N j2 i w)) → Zw p l e (zR 3) s m args below meth c D A K n ad 8 Q 26 ([(6, .int (nI i)), (5, .int 24), (4, .ref (ad (b + 1))), (3, .int (nI k)), (2, .int (t (b) 6)), (0, .ref (ad (b))), (1, .int (nI M))]) [] w := by
          intro j2
          induction j2 with
          | zero =>
            intro i w h0_26 hi hS26
            exact absurd h0_26 (by omega)
          | succ j2 ih26 =>
            intro i w h0_26 hi hS26
            refine z_iload C 26 6 0 dX5_passDays_26 rfl ?_
            refine z_iload C 28 5 1 dX5_passDays_28 rfl ?_
            refine z_icmp_ge C 30 51 dX5_passDays_30 (by decide) (fun c30_7 => ?_) (fun c30_7 => ?_)
            · refine z_ls [3, 4, 5, 6] _ rfl ?_
              exact z_nt _ (hS26.trans ((if_pos c30_7).trans rfl)).symm K26
            · refine z_aload C 33 4 2 dX5_passDays_33 rfl ?_
              refine z_iload C 35 6 0 dX5_passDays_35 rfl ?_
              refine z_aald C 37 (b + 1) 1 i (ad (b + 2 + i)) dX5_passDays_37 hO.h1 hO.e1 rfl rfl (zge (b := 24) (by omega) (by decide) ‹¬ (24 : Int32) ≤ nI i›) (by decide) rfl ?_
              refine z_astore C 38 7 ([(7, .ref (ad (b + 2 + i))), (6, .int (nI i)), (5, .int 24), (4, .ref (ad (b + 1))), (3, .int (nI k)), (2, .int (t (b) 6)), (0, .ref (ad (b))), (1, .int (nI M))]) dX5_passDays_38 (by decide) rfl ?_
              refine z_aload C 40 7 0 dX5_passDays_40 rfl ?_
              refine z_virtVe C 42 (As := []) (st := []) (id := b + 2 + i) (kX1_goOn l D cy K n ad hJ (b + 2 + i) (hO.hou (zge (b := 24) (by omega) (by decide) ‹¬ (24 : Int32) ≤ nI i›)) w  ) dX5_passDays_42 rfl gX5_passDays_X1_goOn hyX1_goOn rfl (by decide) (by decide) (hO.hou (zge (b := 24) (by omega) (by decide) ‹¬ (24 : Int32) ≤ nI i›)).1 rfl (hO.hou (zge (b := 24) (by omega) (by decide) ‹¬ (24 : Int32) ≤ nI i›)).2 rfl rfl rfl (Nat.le_of_ble_eq_true rfl) ?_
              refine z_iinc C 45 (v := nI (i + 1)) 6 1 ([(6, .int (nI (i + 1))), (7, .ref (ad (b + 2 + i))), (5, .int 24), (4, .ref (ad (b + 1))), (3, .int (nI k)), (2, .int (t (b) 6)), (0, .ref (ad (b))), (1, .int (nI M))]) dX5_passDays_45 rfl (nI_1 _) (by decide) rfl ?_
              refine z_goto C 48 26 dX5_passDays_48 (by decide) ?_
              refine z_ls [0, 2, 3, 4, 5, 6, 7] _ rfl ?_
              exact ih26 (i + 1) (sX1_goOn (b + 2 + i) w) (by omega) (by have := zge (b := 24) (by omega) (by decide) ‹¬ (24 : Int32) ≤ nI i›; omega) (hS26.trans ((if_neg c30_7).trans rfl))
        refine z_ls [0, 1, 2, 3, 4, 5, 6] _ rfl ?_
        exact L26 (25) 0 u (by omega) (by decide) rfl
  refine z_ls [0, 1, 2, 3] _ rfl ?_
  exact L7 ((M + 1)) 0 t (by omega) (Nat.zero_le _) hs rfl rfl
theorem lsX5_passDays_7_S {b : Nat} (t : zM) (M N : Nat) : ∀ (j k : Nat) (u : zM), M + 1 ≤ k + j → k ≤ M → M ≤ 99 → zTs (N + k) b u → zTs (N + M) b (lsX5_passDays_7 b t M N j k u) := by
  intro j
  induction j with
  | zero => intro k u h0 hk hM h; omega
  | succ j ih =>
    intro k u h0 hk hM h
    unfold lsX5_passDays_7
    split
    · have : k = M := by have := zle (by omega) (by omega) ‹nI M ≤ nI k›; omega
      rw [← this]; exact h
    · have hk2 : k < M := zge (by omega) (by omega) ‹¬ nI M ≤ nI k›
      have h3 := sX5_walk_S (q := (N + k + 1) % 4) (by omega) (zTs_now (lsX5_passDays_26_S t M N 25 0 u (by decide) h))
      split
      · exact ih _ _ (by omega) (by omega) hM h3
      · split
        · exact ih _ _ (by omega) (by omega) hM (sX5_endYear_S h3)
        · exact ih _ _ (by omega) (by omega) hM h3
theorem sX5_passDays_S {b : Nat} {t : zM} {M N : Nat} (hM : M ≤ 99) (h : zTs N b t) : zTs (N + M) b (sX5_passDays b t M N) := lsX5_passDays_7_S t M N _ _ _ (by omega) (Nat.zero_le _) hM h
def lX5_housesAhead_5 (b : Nat) (t : zM) (a1 : Int32) (a2 : Int32) : Nat → Nat → Int32 → Int32
  | 0, _, _ => 0
  | j + 1, k, v => (if (t (b) 4) ≤ nI k then v else (if 24 ≤ nI k then v else (if a2 < (t (b + 2 + k) 6) then (lX5_housesAhead_5 b t a1 a2 j (k + 1) (v + 1)) else (if (t (b + 2 + k) 6) = a2 then (if a1 ≤ nI k then (lX5_housesAhead_5 b t a1 a2 j (k + 1) v) else (lX5_housesAhead_5 b t a1 a2 j (k + 1) (v + 1))) else (lX5_housesAhead_5 b t a1 a2 j (k + 1) v)))))
def rX5_housesAhead (b : Nat) (t : zM) (a1 : Int32) (a2 : Int32) : Int32 := (lX5_housesAhead_5 b t a1 a2 25 0 0)
theorem mX5_housesAhead_f55 : Cond.fieldLink RX5 55 "WrongedMeters$Town" "houseCount" "I" ∈ wsX5_housesAhead := by decide +kernel
set_option maxRecDepth 20000 in
theorem mX5_housesAhead_in5 : ∀ w ∈ u_ws RX5 TX5 13, w ∈ wsX5_housesAhead := by decide +kernel
theorem mX5_housesAhead_f11 : Cond.fieldLink RX5 11 "WrongedMeters$Town" "houses" "[LWrongedMeters$House;" ∈ wsX5_housesAhead := by decide +kernel
set_option maxRecDepth 20000 in
theorem mX5_housesAhead_in1 : ∀ w ∈ u_ws RX1 TX1 14, w ∈ wsX5_housesAhead := by decide +kernel
theorem hyX5_housesAhead : yX5_housesAhead.cls = RX5 ∧ yX5_housesAhead.cls ≠ "java/lang/invoke/MethodHandle" ∧ yX5_housesAhead.cls ≠ "java/lang/invoke/VarHandle" ∧ (parseMethodDescriptor yX5_housesAhead.desc).map (fun d => d.parameters.length) = some 2 := by decide +kernel
set_option maxHeartbeats 3000000 in
set_option maxRecDepth 100000 in
theorem kX5_housesAhead (l : Launch) (D : va_G) (cy : Nat → ClassId) (K : zK) (n : Nat) (ad : Nat → Nat) (hJ : zJ n ad) (b : Nat) (hO : zTown cy K n ad b) (t : zM) (a1 : Int32) (a2 : Int32)  : zI l yX5_housesAhead wsX5_housesAhead 0 D cy K n ad t [.ref (ad (b)), .int a1, .int a2] (fun r t1 => r = rX5_housesAhead b t a1 a2 ∧ t1 = t) := by
  refine z_startI (cc := cX5_housesAhead) (mL := 6) (ret := (some .int)) (own := RX5) rfl (by decide +kernel) rfl hJ (Nat.le_of_ble_eq_true rfl) ?_
  intro p e s m args below meth c A hA Q hQ C
  refine z_iconst C 0 (v := 0) dX5_housesAhead_0 (by decide +kernel) ?_
  refine z_istore_n C 1 3 ([(3, .int 0), (0, .ref (ad (b))), (1, .int a1), (2, .int a2)]) dX5_housesAhead_1 rfl (by decide) rfl ?_
  refine z_iconst C 2 (v := 0) dX5_housesAhead_2 (by decide +kernel) ?_
  refine z_istore C 3 4 ([(4, .int 0), (3, .int 0), (0, .ref (ad (b))), (1, .int a1), (2, .int a2)]) dX5_housesAhead_3 (by decide) rfl ?_
  have L5 : ∀ (j : Nat) (k : Nat) (v : Int32), (h0_5 : 25 ≤ k + j) → (hk : k ≤ 24) → (hI5 : rX5_housesAhead b t a1 a2 = (lX5_housesAhead_5 b t a1 a2 j k v)) → Zw p l e (zR 0) s m args below meth c D A K n ad 6 Q 5 ([(4, .int (nI k)), (3, .int v), (0, .ref (ad (b))), (1, .int a1), (2, .int a2)]) [] t := by
    intro j
    induction j with
    | zero =>
      intro k v h0_5 hk hI5
      exact absurd h0_5 (by omega)
    | succ j ih5 =>
      intro k v h0_5 hk hI5
      refine z_iload C 5 4 0 dX5_housesAhead_5 rfl ?_
      refine z_aload_n C 7 0 2 dX5_housesAhead_7 rfl rfl ?_
      refine z_geti C 8 (b) 4 dX5_housesAhead_8 hO.h0 hO.e0 mX5_housesAhead_in5 rfl (by decide) mX5_housesAhead_f55 (fun _ => rfl) ?_
      refine z_icmp_ge C 11 60 dX5_housesAhead_11 (by decide) (fun c11_1 => ?_) (fun c11_1 => ?_)
      · refine z_iload_n C 60 3 1 dX5_housesAhead_60 rfl rfl ?_
        exact z_iret C 61 hA hQ rfl dX5_housesAhead_61 ⟨((hI5.trans ((if_pos c11_1).trans rfl))).symm, rfl⟩
      · refine z_iload C 14 4 0 dX5_housesAhead_14 rfl ?_
        refine z_bipush C 16 (v := 24) dX5_housesAhead_16 (by decide +kernel) ?_
        refine z_icmp_ge C 18 60 dX5_housesAhead_18 (by decide) (fun c18_2 => ?_) (fun c18_2 => ?_)
        · refine z_iload_n C 60 3 1 dX5_housesAhead_60 rfl rfl ?_
          exact z_iret C 61 hA hQ rfl dX5_housesAhead_61 ⟨((hI5.trans ((if_neg c11_1).trans ((if_pos c18_2).trans rfl)))).symm, rfl⟩
        · refine z_aload_n C 21 0 2 dX5_housesAhead_21 rfl rfl ?_
          refine z_getr C 22 (a9 := ad (b + 1)) (b) 0 dX5_housesAhead_22 hO.h0 hO.e0 mX5_housesAhead_in5 rfl (by decide) mX5_housesAhead_f11 (fun _ => rfl) ?_
          refine z_iload C 25 4 0 dX5_housesAhead_25 rfl ?_
          refine z_aald C 27 (b + 1) 1 k (ad (b + 2 + k)) dX5_housesAhead_27 hO.h1 hO.e1 rfl rfl (zge (b := 24) (by omega) (by decide) ‹¬ (24 : Int32) ≤ nI k›) (by decide) rfl ?_
          refine z_getiN C 28 (b + 2 + k) 6 dX5_housesAhead_28 (hO.hou (zge (b := 24) (by omega) (by decide) ‹¬ (24 : Int32) ≤ nI k›)).1 (hO.hou (zge (b := 24) (by omega) (by decide) ‹¬ (24 : Int32) ≤ nI k›)).2 mX5_housesAhead_in1 rfl (by decide) nst_f5_165 (fun _ => rfl) ?_
          refine z_istore C 31 5 ([(5, .int (t (b + 2 + k) 6)), (4, .int (nI k)), (3, .int v), (0, .ref (ad (b))), (1, .int a1), (2, .int a2)]) dX5_housesAhead_31 (by decide) rfl ?_
          refine z_iload C 33 5 0 dX5_housesAhead_33 rfl ?_
          refine z_iload_n C 35 2 5 dX5_housesAhead_35 rfl rfl ?_
          refine z_icmp_gt C 36 51 dX5_housesAhead_36 (by decide) (fun c36_3 => ?_) (fun c36_3 => ?_)
          · refine z_iinc C 51 (v := (v + 1)) 3 2 ([(3, .int (v + 1)), (5, .int (t (b + 2 + k) 6)), (4, .int (nI k)), (0, .ref (ad (b))), (1, .int a1), (2, .int a2)]) dX5_housesAhead_51 rfl (by first | rfl | (congr 1)) (by decide) rfl ?_
            refine z_iinc C 54 (v := nI (k + 1)) 4 2 ([(4, .int (nI (k + 1))), (3, .int (v + 1)), (5, .int (t (b + 2 + k) 6)), (0, .ref (ad (b))), (1, .int a1), (2, .int a2)]) dX5_housesAhead_54 rfl (nI_1 _) (by decide) rfl ?_
            refine z_goto C 57 5 dX5_housesAhead_57 (by decide) ?_
            refine z_ls [0, 1, 3, 4, 5] _ rfl ?_
            exact ih5 (k + 1) (v + 1) (by omega) (by have := zge (b := 24) (by omega) (by decide) ‹¬ (24 : Int32) ≤ nI k›; omega) (hI5.trans ((if_neg c11_1).trans ((if_neg c18_2).trans ((if_pos c36_3).trans rfl))))
          · refine z_iload C 39 5 0 dX5_housesAhead_39 rfl ?_
            refine z_iload_n C 41 2 5 dX5_housesAhead_41 rfl rfl ?_
            refine z_icmp_ne C 42 54 dX5_housesAhead_42 (by decide) (fun c42_4 => ?_) (fun c42_4 => ?_)
            · refine z_iinc C 54 (v := nI (k + 1)) 4 1 ([(4, .int (nI (k + 1))), (5, .int (t (b + 2 + k) 6)), (3, .int v), (0, .ref (ad (b))), (1, .int a1), (2, .int a2)]) dX5_housesAhead_54 rfl (nI_1 _) (by decide) rfl ?_
              refine z_goto C 57 5 dX5_housesAhead_57 (by decide) ?_
              refine z_ls [0, 2, 3, 4, 5] _ rfl ?_
              exact ih5 (k + 1) v (by omega) (by have := zge (b := 24) (by omega) (by decide) ‹¬ (24 : Int32) ≤ nI k›; omega) (hI5.trans ((if_neg c11_1).trans ((if_neg c18_2).trans ((if_neg c36_3).trans ((if_neg c42_4).trans rfl)))))
            · refine z_iload C 45 4 1 dX5_housesAhead_45 rfl ?_
              refine z_iload_n C 47 1 4 dX5_housesAhead_47 rfl rfl ?_
              refine z_icmp_ge C 48 54 dX5_housesAhead_48 (by decide) (fun c48_5 => ?_) (fun c48_5 => ?_)
              · refine z_iinc C 54 (v := nI (k + 1)) 4 1 ([(4, .int (nI (k + 1))), (5, .int (t (b + 2 + k) 6)), (3, .int v), (0, .ref (ad (b))), (1, .int a1), (2, .int a2)]) dX5_housesAhead_54 rfl (nI_1 _) (by decide) rfl ?_
                refine z_goto C 57 5 dX5_housesAhead_57 (by decide) ?_
                refine z_ls [0, 2, 3, 4, 5] _ rfl ?_
                exact ih5 (k + 1) v (by omega) (by have := zge (b := 24) (by omega) (by decide) ‹¬ (24 : Int32) ≤ nI k›; omega) (hI5.trans ((if_neg c11_1).trans ((if_neg c18_2).trans ((if_neg c36_3).trans ((if_pos c42_4).trans ((if_pos c48_5).trans rfl))))))
              · refine z_iinc C 51 (v := (v + 1)) 3 2 ([(3, .int (v + 1)), (5, .int (t (b + 2 + k) 6)), (4, .int (nI k)), (0, .ref (ad (b))), (1, .int a1), (2, .int a2)]) dX5_housesAhead_51 rfl (by first | rfl | (congr 1)) (by decide) rfl ?_
                refine z_iinc C 54 (v := nI (k + 1)) 4 2 ([(4, .int (nI (k + 1))), (3, .int (v + 1)), (5, .int (t (b + 2 + k) 6)), (0, .ref (ad (b))), (1, .int a1), (2, .int a2)]) dX5_housesAhead_54 rfl (nI_1 _) (by decide) rfl ?_
                refine z_goto C 57 5 dX5_housesAhead_57 (by decide) ?_
                refine z_ls [0, 1, 3, 4, 5] _ rfl ?_
                exact ih5 (k + 1) (v + 1) (by omega) (by have := zge (b := 24) (by omega) (by decide) ‹¬ (24 : Int32) ≤ nI k›; omega) (hI5.trans ((if_neg c11_1).trans ((if_neg c18_2).trans ((if_neg c36_3).trans ((if_pos c42_4).trans ((if_neg c48_5).trans rfl))))))
  refine z_ls [0, 1, 2, 3, 4] _ rfl ?_
  exact L5 (25) 0 0 (by omega) (by decide) rfl
def lX5_houseByBalance_2 (b : Nat) (t : zM) (a1 : Int32) : Nat → Nat → Int32
  | 0, _ => 0
  | j + 1, k => (if (t (b) 4) ≤ nI k then (-1000004) else (if 24 ≤ nI k then (-1000004) else (if (rX5_housesAhead (b) t (nI k) (t (b + 2 + k) 6)) = a1 then nI k else (lX5_houseByBalance_2 b t a1 j (k + 1)))))
def rX5_houseByBalance (b : Nat) (t : zM) (a1 : Int32) : Int32 := (lX5_houseByBalance_2 b t a1 25 0)
theorem mX5_houseByBalance_f55 : Cond.fieldLink RX5 55 "WrongedMeters$Town" "houseCount" "I" ∈ wsX5_houseByBalance := by decide +kernel
set_option maxRecDepth 20000 in
theorem mX5_houseByBalance_in5 : ∀ w ∈ u_ws RX5 TX5 13, w ∈ wsX5_houseByBalance := by decide +kernel
theorem mX5_houseByBalance_c195 : Cond.constant RX5 195 (-1000004) ∈ wsX5_houseByBalance := by decide +kernel
theorem mX5_houseByBalance_f11 : Cond.fieldLink RX5 11 "WrongedMeters$Town" "houses" "[LWrongedMeters$House;" ∈ wsX5_houseByBalance := by decide +kernel
set_option maxRecDepth 20000 in
theorem mX5_houseByBalance_in1 : ∀ w ∈ u_ws RX1 TX1 14, w ∈ wsX5_houseByBalance := by decide +kernel
theorem hyX5_houseByBalance : yX5_houseByBalance.cls = RX5 ∧ yX5_houseByBalance.cls ≠ "java/lang/invoke/MethodHandle" ∧ yX5_houseByBalance.cls ≠ "java/lang/invoke/VarHandle" ∧ (parseMethodDescriptor yX5_houseByBalance.desc).map (fun d => d.parameters.length) = some 1 := by decide +kernel
set_option maxHeartbeats 3000000 in
set_option maxRecDepth 100000 in
theorem kX5_houseByBalance (l : Launch) (D : va_G) (cy : Nat → ClassId) (K : zK) (n : Nat) (ad : Nat → Nat) (hJ : zJ n ad) (b : Nat) (hO : zTown cy K n ad b) (t : zM) (a1 : Int32)  : zI l yX5_houseByBalance wsX5_houseByBalance 1 D cy K n ad t [.ref (ad (b)), .int a1] (fun r t1 => r = rX5_houseByBalance b t a1 ∧ t1 = t) := by
  refine z_startI (cc := cX5_houseByBalance) (mL := 3) (ret := (some .int)) (own := RX5) rfl (by decide +kernel) rfl hJ (Nat.le_of_ble_eq_true rfl) ?_
  intro p e s m args below meth c A hA Q hQ C
  refine z_iconst C 0 (v := 0) dX5_houseByBalance_0 (by decide +kernel) ?_
  refine z_istore_n C 1 2 ([(2, .int 0), (0, .ref (ad (b))), (1, .int a1)]) dX5_houseByBalance_1 rfl (by decide) rfl ?_
  have L2 : ∀ (j : Nat) (k : Nat), (h0_2 : 25 ≤ k + j) → (hk : k ≤ 24) → (hI2 : rX5_houseByBalance b t a1 = (lX5_houseByBalance_2 b t a1 j k)) → Zw p l e (zR 1) s m args below meth c D A K n ad 3 Q 2 ([(2, .int (nI k)), (0, .ref (ad (b))), (1, .int a1)]) [] t := by
    intro j
    induction j with
    | zero =>
      intro k h0_2 hk hI2
      exact absurd h0_2 (by omega)
    | succ j ih2 =>
      intro k h0_2 hk hI2
      refine z_iload_n C 2 2 0 dX5_houseByBalance_2 rfl rfl ?_
      refine z_aload_n C 3 0 1 dX5_houseByBalance_3 rfl rfl ?_
      refine z_geti C 4 (b) 4 dX5_houseByBalance_4 hO.h0 hO.e0 mX5_houseByBalance_in5 rfl (by decide) mX5_houseByBalance_f55 (fun _ => rfl) ?_
      refine z_icmp_ge C 7 42 dX5_houseByBalance_7 (by decide) (fun c7_1 => ?_) (fun c7_1 => ?_)
      · refine z_ldc C 42 (v := (-1000004)) dX5_houseByBalance_42 mX5_houseByBalance_c195 ?_
        exact z_iret C 44 hA hQ rfl dX5_houseByBalance_44 ⟨((hI2.trans ((if_pos c7_1).trans rfl))).symm, rfl⟩
      · refine z_iload_n C 10 2 0 dX5_houseByBalance_10 rfl rfl ?_
        refine z_bipush C 11 (v := 24) dX5_houseByBalance_11 (by decide +kernel) ?_
        refine z_icmp_ge C 13 42 dX5_houseByBalance_13 (by decide) (fun c13_2 => ?_) (fun c13_2 => ?_)
        · refine z_ldc C 42 (v := (-1000004)) dX5_houseByBalance_42 mX5_houseByBalance_c195 ?_
          exact z_iret C 44 hA hQ rfl dX5_houseByBalance_44 ⟨((hI2.trans ((if_neg c7_1).trans ((if_pos c13_2).trans rfl)))).symm, rfl⟩
        · refine z_aload_n C 16 0 1 dX5_houseByBalance_16 rfl rfl ?_
          refine z_iload_n C 17 2 0 dX5_houseByBalance_17 rfl rfl ?_
          refine z_aload_n C 18 0 1 dX5_houseByBalance_18 rfl rfl ?_
          refine z_getr C 19 (a9 := ad (b + 1)) (b) 0 dX5_houseByBalance_19 hO.h0 hO.e0 mX5_houseByBalance_in5 rfl (by decide) mX5_houseByBalance_f11 (fun _ => rfl) ?_
          refine z_iload_n C 22 2 0 dX5_houseByBalance_22 rfl rfl ?_
          refine z_aald C 23 (b + 1) 1 k (ad (b + 2 + k)) dX5_houseByBalance_23 hO.h1 hO.e1 rfl rfl (zge (b := 24) (by omega) (by decide) ‹¬ (24 : Int32) ≤ nI k›) (by decide) rfl ?_
          refine z_getiN C 24 (b + 2 + k) 6 dX5_houseByBalance_24 (hO.hou (zge (b := 24) (by omega) (by decide) ‹¬ (24 : Int32) ≤ nI k›)).1 (hO.hou (zge (b := 24) (by omega) (by decide) ‹¬ (24 : Int32) ≤ nI k›)).2 mX5_houseByBalance_in1 rfl (by decide) nst_f5_165 (fun _ => rfl) ?_
          refine z_virtIe C 27 (As := [.int (nI k), .int (t (b + 2 + k) 6)]) (st := []) (id := b) (kX5_housesAhead l D cy K n ad hJ (b) hO t (nI k) (t (b + 2 + k) 6) ) dX5_houseByBalance_27 rfl gX5_houseByBalance_X5_housesAhead hyX5_housesAhead rfl (by decide) (by decide) hO.h0 rfl hO.e0 rfl rfl rfl (Nat.le_of_ble_eq_true rfl) ?_
          refine z_iload_n C 30 1 2 dX5_houseByBalance_30 rfl rfl ?_
          refine z_icmp_ne C 31 36 dX5_houseByBalance_31 (by decide) (fun c31_4 => ?_) (fun c31_4 => ?_)
          · refine z_iinc C 36 (v := nI (k + 1)) 2 0 ([(2, .int (nI (k + 1))), (0, .ref (ad (b))), (1, .int a1)]) dX5_houseByBalance_36 rfl (nI_1 _) (by decide) rfl ?_
            refine z_goto C 39 2 dX5_houseByBalance_39 (by decide) ?_
            refine z_ls [0, 1, 2] _ rfl ?_
            exact ih2 (k + 1) (by omega) (by have := zge (b := 24) (by omega) (by decide) ‹¬ (24 : Int32) ≤ nI k›; omega) (hI2.trans ((if_neg c7_1).trans ((if_neg c13_2).trans ((if_neg c31_4).trans rfl))))
          · refine z_iload_n C 34 2 0 dX5_houseByBalance_34 rfl rfl ?_
            exact z_iret C 35 hA hQ rfl dX5_houseByBalance_35 ⟨((hI2.trans ((if_neg c7_1).trans ((if_neg c13_2).trans ((if_pos c31_4).trans rfl))))).symm, rfl⟩
  refine z_ls [0, 1, 2] _ rfl ?_
  exact L2 (25) 0 (by omega) (by decide) rfl
def lX5_housesLocked_13 (b : Nat) (t : zM) : Nat → Nat → Int32 → Int32
  | 0, _, _ => 0
  | j + 1, k, v => (if 24 ≤ nI k then v else (if (t (b + 2 + k) 5) = 0 then (lX5_housesLocked_13 b t j (k + 1) v) else (lX5_housesLocked_13 b t j (k + 1) (v + 1))))
def rX5_housesLocked (b : Nat) (t : zM)  : Int32 := (lX5_housesLocked_13 b t 25 0 0)
theorem mX5_housesLocked_f11 : Cond.fieldLink RX5 11 "WrongedMeters$Town" "houses" "[LWrongedMeters$House;" ∈ wsX5_housesLocked := by decide +kernel
set_option maxRecDepth 20000 in
theorem mX5_housesLocked_in5 : ∀ w ∈ u_ws RX5 TX5 13, w ∈ wsX5_housesLocked := by decide +kernel
set_option maxRecDepth 20000 in
theorem mX5_housesLocked_in1 : ∀ w ∈ u_ws RX1 TX1 14, w ∈ wsX5_housesLocked := by decide +kernel
theorem hyX5_housesLocked : yX5_housesLocked.cls = RX5 ∧ yX5_housesLocked.cls ≠ "java/lang/invoke/MethodHandle" ∧ yX5_housesLocked.cls ≠ "java/lang/invoke/VarHandle" ∧ (parseMethodDescriptor yX5_housesLocked.desc).map (fun d => d.parameters.length) = some 0 := by decide +kernel
set_option maxHeartbeats 3000000 in
set_option maxRecDepth 100000 in
theorem kX5_housesLocked (l : Launch) (D : va_G) (cy : Nat → ClassId) (K : zK) (n : Nat) (ad : Nat → Nat) (hJ : zJ n ad) (b : Nat) (hO : zTown cy K n ad b) (t : zM)   : zI l yX5_housesLocked wsX5_housesLocked 0 D cy K n ad t [.ref (ad (b))] (fun r t1 => r = rX5_housesLocked b t ∧ t1 = t) := by
  refine z_startI (cc := cX5_housesLocked) (mL := 6) (ret := (some .int)) (own := RX5) rfl (by decide +kernel) rfl hJ (Nat.le_of_ble_eq_true rfl) ?_
  intro p e s m args below meth c A hA Q hQ C
  refine z_iconst C 0 (v := 0) dX5_housesLocked_0 (by decide +kernel) ?_
  refine z_istore_n C 1 1 ([(1, .int 0), (0, .ref (ad (b)))]) dX5_housesLocked_1 rfl (by decide) rfl ?_
  refine z_aload_n C 2 0 1 dX5_housesLocked_2 rfl rfl ?_
  refine z_getr C 3 (a9 := ad (b + 1)) (b) 0 dX5_housesLocked_3 hO.h0 hO.e0 mX5_housesLocked_in5 rfl (by decide) mX5_housesLocked_f11 (fun _ => rfl) ?_
  refine z_astore_n C 6 2 ([(2, .ref (ad (b + 1))), (1, .int 0), (0, .ref (ad (b)))]) dX5_housesLocked_6 rfl (by decide) rfl ?_
  refine z_aload_n C 7 2 0 dX5_housesLocked_7 rfl rfl ?_
  refine z_alen C 8 (v := 24) (b + 1) 1 dX5_housesLocked_8 hO.h1 hO.e1 rfl (show Int32.ofNat 24 = 24 from rfl) ?_
  refine z_istore_n C 9 3 ([(3, .int 24), (2, .ref (ad (b + 1))), (1, .int 0), (0, .ref (ad (b)))]) dX5_housesLocked_9 rfl (by decide) rfl ?_
  refine z_iconst C 10 (v := 0) dX5_housesLocked_10 (by decide +kernel) ?_
  refine z_istore C 11 4 ([(4, .int 0), (3, .int 24), (2, .ref (ad (b + 1))), (1, .int 0), (0, .ref (ad (b)))]) dX5_housesLocked_11 (by decide) rfl ?_
  have L13 : ∀ (j : Nat) (k : Nat) (v : Int32), (h0_13 : 25 ≤ k + j) → (hk : k ≤ 24) → (hI13 : rX5_housesLocked b t = (lX5_housesLocked_13 b t j k v)) → Zw p l e (zR 0) s m args below meth c D A K n ad 6 Q 13 ([(4, .int (nI k)), (1, .int v), (3, .int 24), (2, .ref (ad (b + 1))), (0, .ref (ad (b)))]) [] t := by
    intro j
    induction j with
    | zero =>
      intro k v h0_13 hk hI13
      exact absurd h0_13 (by omega)
    | succ j ih13 =>
      intro k v h0_13 hk hI13
      refine z_iload C 13 4 0 dX5_housesLocked_13 rfl ?_
      refine z_iload_n C 15 3 2 dX5_housesLocked_15 rfl rfl ?_
      refine z_icmp_ge C 16 42 dX5_housesLocked_16 (by decide) (fun c16_1 => ?_) (fun c16_1 => ?_)
      · refine z_iload_n C 42 1 1 dX5_housesLocked_42 rfl rfl ?_
        exact z_iret C 43 hA hQ rfl dX5_housesLocked_43 ⟨((hI13.trans ((if_pos c16_1).trans rfl))).symm, rfl⟩
      · refine z_aload_n C 19 2 3 dX5_housesLocked_19 rfl rfl ?_
        refine z_iload C 20 4 0 dX5_housesLocked_20 rfl ?_
        refine z_aald C 22 (b + 1) 1 k (ad (b + 2 + k)) dX5_housesLocked_22 hO.h1 hO.e1 rfl rfl (zge (b := 24) (by omega) (by decide) ‹¬ (24 : Int32) ≤ nI k›) (by decide) rfl ?_
        refine z_astore C 23 5 ([(5, .ref (ad (b + 2 + k))), (4, .int (nI k)), (1, .int v), (3, .int 24), (2, .ref (ad (b + 1))), (0, .ref (ad (b)))]) dX5_housesLocked_23 (by decide) rfl ?_
        refine z_aload C 25 5 0 dX5_housesLocked_25 rfl ?_
        refine z_getiN C 27 (b + 2 + k) 5 dX5_housesLocked_27 (hO.hou (zge (b := 24) (by omega) (by decide) ‹¬ (24 : Int32) ≤ nI k›)).1 (hO.hou (zge (b := 24) (by omega) (by decide) ‹¬ (24 : Int32) ≤ nI k›)).2 mX5_housesLocked_in1 rfl (by decide) nst_f5_137 (fun _ => rfl) ?_
        refine z_if_eq C 30 36 dX5_housesLocked_30 (by decide) (fun c30_2 => ?_) (fun c30_2 => ?_)
        · refine z_iinc C 36 (v := nI (k + 1)) 4 1 ([(4, .int (nI (k + 1))), (5, .ref (ad (b + 2 + k))), (1, .int v), (3, .int 24), (2, .ref (ad (b + 1))), (0, .ref (ad (b)))]) dX5_housesLocked_36 rfl (nI_1 _) (by decide) rfl ?_
          refine z_goto C 39 13 dX5_housesLocked_39 (by decide) ?_
          refine z_ls [0, 2, 3, 4, 5] _ rfl ?_
          exact ih13 (k + 1) v (by omega) (by have := zge (b := 24) (by omega) (by decide) ‹¬ (24 : Int32) ≤ nI k›; omega) (hI13.trans ((if_neg c16_1).trans ((if_pos c30_2).trans rfl)))
        · refine z_iinc C 33 (v := (v + 1)) 1 2 ([(1, .int (v + 1)), (5, .ref (ad (b + 2 + k))), (4, .int (nI k)), (3, .int 24), (2, .ref (ad (b + 1))), (0, .ref (ad (b)))]) dX5_housesLocked_33 rfl (by first | rfl | (congr 1)) (by decide) rfl ?_
          refine z_iinc C 36 (v := nI (k + 1)) 4 2 ([(4, .int (nI (k + 1))), (1, .int (v + 1)), (5, .ref (ad (b + 2 + k))), (3, .int 24), (2, .ref (ad (b + 1))), (0, .ref (ad (b)))]) dX5_housesLocked_36 rfl (nI_1 _) (by decide) rfl ?_
          refine z_goto C 39 13 dX5_housesLocked_39 (by decide) ?_
          refine z_ls [0, 1, 3, 4, 5] _ rfl ?_
          exact ih13 (k + 1) (v + 1) (by omega) (by have := zge (b := 24) (by omega) (by decide) ‹¬ (24 : Int32) ≤ nI k›; omega) (hI13.trans ((if_neg c16_1).trans ((if_neg c30_2).trans rfl)))
  refine z_ls [0, 3, 1, 2, 4] _ rfl ?_
  exact L13 (25) 0 0 (by omega) (by decide) rfl
def lX5_housesBetween_16 (b : Nat) (t : zM) (a1 : Int32) (a2 : Int32) : Nat → Nat → Int32 → Int32
  | 0, _, _ => 0
  | j + 1, k, v => (if 24 ≤ nI k then v else (if (t (b + 2 + k) 6) < a1 then (lX5_housesBetween_16 b t a1 a2 j (k + 1) v) else (if a2 < (t (b + 2 + k) 6) then (lX5_housesBetween_16 b t a1 a2 j (k + 1) v) else (lX5_housesBetween_16 b t a1 a2 j (k + 1) (v + 1)))))
def rX5_housesBetween (b : Nat) (t : zM) (a1 : Int32) (a2 : Int32) : Int32 := (lX5_housesBetween_16 b t a1 a2 25 0 0)
theorem mX5_housesBetween_f11 : Cond.fieldLink RX5 11 "WrongedMeters$Town" "houses" "[LWrongedMeters$House;" ∈ wsX5_housesBetween := by decide +kernel
set_option maxRecDepth 20000 in
theorem mX5_housesBetween_in5 : ∀ w ∈ u_ws RX5 TX5 13, w ∈ wsX5_housesBetween := by decide +kernel
set_option maxRecDepth 20000 in
theorem mX5_housesBetween_in1 : ∀ w ∈ u_ws RX1 TX1 14, w ∈ wsX5_housesBetween := by decide +kernel
theorem hyX5_housesBetween : yX5_housesBetween.cls = RX5 ∧ yX5_housesBetween.cls ≠ "java/lang/invoke/MethodHandle" ∧ yX5_housesBetween.cls ≠ "java/lang/invoke/VarHandle" ∧ (parseMethodDescriptor yX5_housesBetween.desc).map (fun d => d.parameters.length) = some 2 := by decide +kernel
set_option maxHeartbeats 3000000 in
set_option maxRecDepth 100000 in
theorem kX5_housesBetween (l : Launch) (D : va_G) (cy : Nat → ClassId) (K : zK) (n : Nat) (ad : Nat → Nat) (hJ : zJ n ad) (b : Nat) (hO : zTown cy K n ad b) (t : zM) (a1 : Int32) (a2 : Int32)  : zI l yX5_housesBetween wsX5_housesBetween 0 D cy K n ad t [.ref (ad (b)), .int a1, .int a2] (fun r t1 => r = rX5_housesBetween b t a1 a2 ∧ t1 = t) := by
  refine z_startI (cc := cX5_housesBetween) (mL := 8) (ret := (some .int)) (own := RX5) rfl (by decide +kernel) rfl hJ (Nat.le_of_ble_eq_true rfl) ?_
  intro p e s m args below meth c A hA Q hQ C
  refine z_iconst C 0 (v := 0) dX5_housesBetween_0 (by decide +kernel) ?_
  refine z_istore_n C 1 3 ([(3, .int 0), (0, .ref (ad (b))), (1, .int a1), (2, .int a2)]) dX5_housesBetween_1 rfl (by decide) rfl ?_
  refine z_aload_n C 2 0 1 dX5_housesBetween_2 rfl rfl ?_
  refine z_getr C 3 (a9 := ad (b + 1)) (b) 0 dX5_housesBetween_3 hO.h0 hO.e0 mX5_housesBetween_in5 rfl (by decide) mX5_housesBetween_f11 (fun _ => rfl) ?_
  refine z_astore C 6 4 ([(4, .ref (ad (b + 1))), (3, .int 0), (0, .ref (ad (b))), (1, .int a1), (2, .int a2)]) dX5_housesBetween_6 (by decide) rfl ?_
  refine z_aload C 8 4 0 dX5_housesBetween_8 rfl ?_
  refine z_alen C 10 (v := 24) (b + 1) 1 dX5_housesBetween_10 hO.h1 hO.e1 rfl (show Int32.ofNat 24 = 24 from rfl) ?_
  refine z_istore C 11 5 ([(5, .int 24), (4, .ref (ad (b + 1))), (3, .int 0), (0, .ref (ad (b))), (1, .int a1), (2, .int a2)]) dX5_housesBetween_11 (by decide) rfl ?_
  refine z_iconst C 13 (v := 0) dX5_housesBetween_13 (by decide +kernel) ?_
  refine z_istore C 14 6 ([(6, .int 0), (5, .int 24), (4, .ref (ad (b + 1))), (3, .int 0), (0, .ref (ad (b))), (1, .int a1), (2, .int a2)]) dX5_housesBetween_14 (by decide) rfl ?_
  have L16 : ∀ (j : Nat) (k : Nat) (v : Int32), (h0_16 : 25 ≤ k + j) → (hk : k ≤ 24) → (hI16 : rX5_housesBetween b t a1 a2 = (lX5_housesBetween_16 b t a1 a2 j k v)) → Zw p l e (zR 0) s m args below meth c D A K n ad 8 Q 16 ([(6, .int (nI k)), (3, .int v), (5, .int 24), (4, .ref (ad (b + 1))), (0, .ref (ad (b))), (1, .int a1), (2, .int a2)]) [] t := by
    intro j
    induction j with
    | zero =>
      intro k v h0_16 hk hI16
      exact absurd h0_16 (by omega)
    | succ j ih16 =>
      intro k v h0_16 hk hI16
      refine z_iload C 16 6 0 dX5_housesBetween_16 rfl ?_
      refine z_iload C 18 5 2 dX5_housesBetween_18 rfl ?_
      refine z_icmp_ge C 20 57 dX5_housesBetween_20 (by decide) (fun c20_1 => ?_) (fun c20_1 => ?_)
      · refine z_iload_n C 57 3 1 dX5_housesBetween_57 rfl rfl ?_
        exact z_iret C 58 hA hQ rfl dX5_housesBetween_58 ⟨((hI16.trans ((if_pos c20_1).trans rfl))).symm, rfl⟩
      · refine z_aload C 23 4 3 dX5_housesBetween_23 rfl ?_
        refine z_iload C 25 6 0 dX5_housesBetween_25 rfl ?_
        refine z_aald C 27 (b + 1) 1 k (ad (b + 2 + k)) dX5_housesBetween_27 hO.h1 hO.e1 rfl rfl (zge (b := 24) (by omega) (by decide) ‹¬ (24 : Int32) ≤ nI k›) (by decide) rfl ?_
        refine z_astore C 28 7 ([(7, .ref (ad (b + 2 + k))), (6, .int (nI k)), (3, .int v), (5, .int 24), (4, .ref (ad (b + 1))), (0, .ref (ad (b))), (1, .int a1), (2, .int a2)]) dX5_housesBetween_28 (by decide) rfl ?_
        refine z_aload C 30 7 0 dX5_housesBetween_30 rfl ?_
        refine z_getiN C 32 (b + 2 + k) 6 dX5_housesBetween_32 (hO.hou (zge (b := 24) (by omega) (by decide) ‹¬ (24 : Int32) ≤ nI k›)).1 (hO.hou (zge (b := 24) (by omega) (by decide) ‹¬ (24 : Int32) ≤ nI k›)).2 mX5_housesBetween_in1 rfl (by decide) nst_f5_165 (fun _ => rfl) ?_
        refine z_iload_n C 35 1 6 dX5_housesBetween_35 rfl rfl ?_
        refine z_icmp_lt C 36 51 dX5_housesBetween_36 (by decide) (fun c36_2 => ?_) (fun c36_2 => ?_)
        · refine z_iinc C 51 (v := nI (k + 1)) 6 1 ([(6, .int (nI (k + 1))), (7, .ref (ad (b + 2 + k))), (3, .int v), (5, .int 24), (4, .ref (ad (b + 1))), (0, .ref (ad (b))), (1, .int a1), (2, .int a2)]) dX5_housesBetween_51 rfl (nI_1 _) (by decide) rfl ?_
          refine z_goto C 54 16 dX5_housesBetween_54 (by decide) ?_
          refine z_ls [0, 2, 3, 4, 5, 6, 7] _ rfl ?_
          exact ih16 (k + 1) v (by omega) (by have := zge (b := 24) (by omega) (by decide) ‹¬ (24 : Int32) ≤ nI k›; omega) (hI16.trans ((if_neg c20_1).trans ((if_pos c36_2).trans rfl)))
        · refine z_aload C 39 7 0 dX5_housesBetween_39 rfl ?_
          refine z_getiN C 41 (b + 2 + k) 6 dX5_housesBetween_41 (hO.hou (zge (b := 24) (by omega) (by decide) ‹¬ (24 : Int32) ≤ nI k›)).1 (hO.hou (zge (b := 24) (by omega) (by decide) ‹¬ (24 : Int32) ≤ nI k›)).2 mX5_housesBetween_in1 rfl (by decide) nst_f5_165 (fun _ => rfl) ?_
          refine z_iload_n C 44 2 7 dX5_housesBetween_44 rfl rfl ?_
          refine z_icmp_gt C 45 51 dX5_housesBetween_45 (by decide) (fun c45_3 => ?_) (fun c45_3 => ?_)
          · refine z_iinc C 51 (v := nI (k + 1)) 6 1 ([(6, .int (nI (k + 1))), (7, .ref (ad (b + 2 + k))), (3, .int v), (5, .int 24), (4, .ref (ad (b + 1))), (0, .ref (ad (b))), (1, .int a1), (2, .int a2)]) dX5_housesBetween_51 rfl (nI_1 _) (by decide) rfl ?_
            refine z_goto C 54 16 dX5_housesBetween_54 (by decide) ?_
            refine z_ls [0, 2, 3, 4, 5, 6, 7] _ rfl ?_
            exact ih16 (k + 1) v (by omega) (by have := zge (b := 24) (by omega) (by decide) ‹¬ (24 : Int32) ≤ nI k›; omega) (hI16.trans ((if_neg c20_1).trans ((if_neg c36_2).trans ((if_pos c45_3).trans rfl))))
          · refine z_iinc C 48 (v := (v + 1)) 3 2 ([(3, .int (v + 1)), (7, .ref (ad (b + 2 + k))), (6, .int (nI k)), (5, .int 24), (4, .ref (ad (b + 1))), (0, .ref (ad (b))), (1, .int a1), (2, .int a2)]) dX5_housesBetween_48 rfl (by first | rfl | (congr 1)) (by decide) rfl ?_
            refine z_iinc C 51 (v := nI (k + 1)) 6 2 ([(6, .int (nI (k + 1))), (3, .int (v + 1)), (7, .ref (ad (b + 2 + k))), (5, .int 24), (4, .ref (ad (b + 1))), (0, .ref (ad (b))), (1, .int a1), (2, .int a2)]) dX5_housesBetween_51 rfl (nI_1 _) (by decide) rfl ?_
            refine z_goto C 54 16 dX5_housesBetween_54 (by decide) ?_
            refine z_ls [0, 1, 3, 4, 5, 6, 7] _ rfl ?_
            exact ih16 (k + 1) (v + 1) (by omega) (by have := zge (b := 24) (by omega) (by decide) ‹¬ (24 : Int32) ≤ nI k›; omega) (hI16.trans ((if_neg c20_1).trans ((if_neg c36_2).trans ((if_neg c45_3).trans rfl))))
  refine z_ls [0, 3, 1, 2, 4, 5, 6] _ rfl ?_
  exact L16 (25) 0 0 (by omega) (by decide) rfl
def lX5_balances_13 (b : Nat) (t : zM) : Nat → Nat → Int32 → Int32
  | 0, _, _ => 0
  | j + 1, k, v => (if 24 ≤ nI k then v else (lX5_balances_13 b t j (k + 1) (v + (t (b + 2 + k) 6))))
def rX5_balances (b : Nat) (t : zM)  : Int32 := (lX5_balances_13 b t 25 0 0)
theorem mX5_balances_f11 : Cond.fieldLink RX5 11 "WrongedMeters$Town" "houses" "[LWrongedMeters$House;" ∈ wsX5_balances := by decide +kernel
set_option maxRecDepth 20000 in
theorem mX5_balances_in5 : ∀ w ∈ u_ws RX5 TX5 13, w ∈ wsX5_balances := by decide +kernel
set_option maxRecDepth 20000 in
theorem mX5_balances_in1 : ∀ w ∈ u_ws RX1 TX1 14, w ∈ wsX5_balances := by decide +kernel
theorem hyX5_balances : yX5_balances.cls = RX5 ∧ yX5_balances.cls ≠ "java/lang/invoke/MethodHandle" ∧ yX5_balances.cls ≠ "java/lang/invoke/VarHandle" ∧ (parseMethodDescriptor yX5_balances.desc).map (fun d => d.parameters.length) = some 0 := by decide +kernel
set_option maxHeartbeats 3000000 in
set_option maxRecDepth 100000 in
theorem kX5_balances (l : Launch) (D : va_G) (cy : Nat → ClassId) (K : zK) (n : Nat) (ad : Nat → Nat) (hJ : zJ n ad) (b : Nat) (hO : zTown cy K n ad b) (t : zM)   : zI l yX5_balances wsX5_balances 0 D cy K n ad t [.ref (ad (b))] (fun r t1 => r = rX5_balances b t ∧ t1 = t) := by
  refine z_startI (cc := cX5_balances) (mL := 6) (ret := (some .int)) (own := RX5) rfl (by decide +kernel) rfl hJ (Nat.le_of_ble_eq_true rfl) ?_
  intro p e s m args below meth c A hA Q hQ C
  refine z_iconst C 0 (v := 0) dX5_balances_0 (by decide +kernel) ?_
  refine z_istore_n C 1 1 ([(1, .int 0), (0, .ref (ad (b)))]) dX5_balances_1 rfl (by decide) rfl ?_
  refine z_aload_n C 2 0 1 dX5_balances_2 rfl rfl ?_
  refine z_getr C 3 (a9 := ad (b + 1)) (b) 0 dX5_balances_3 hO.h0 hO.e0 mX5_balances_in5 rfl (by decide) mX5_balances_f11 (fun _ => rfl) ?_
  refine z_astore_n C 6 2 ([(2, .ref (ad (b + 1))), (1, .int 0), (0, .ref (ad (b)))]) dX5_balances_6 rfl (by decide) rfl ?_
  refine z_aload_n C 7 2 0 dX5_balances_7 rfl rfl ?_
  refine z_alen C 8 (v := 24) (b + 1) 1 dX5_balances_8 hO.h1 hO.e1 rfl (show Int32.ofNat 24 = 24 from rfl) ?_
  refine z_istore_n C 9 3 ([(3, .int 24), (2, .ref (ad (b + 1))), (1, .int 0), (0, .ref (ad (b)))]) dX5_balances_9 rfl (by decide) rfl ?_
  refine z_iconst C 10 (v := 0) dX5_balances_10 (by decide +kernel) ?_
  refine z_istore C 11 4 ([(4, .int 0), (3, .int 24), (2, .ref (ad (b + 1))), (1, .int 0), (0, .ref (ad (b)))]) dX5_balances_11 (by decide) rfl ?_
  have L13 : ∀ (j : Nat) (k : Nat) (v : Int32), (h0_13 : 25 ≤ k + j) → (hk : k ≤ 24) → (hI13 : rX5_balances b t = (lX5_balances_13 b t j k v)) → Zw p l e (zR 0) s m args below meth c D A K n ad 6 Q 13 ([(4, .int (nI k)), (1, .int v), (3, .int 24), (2, .ref (ad (b + 1))), (0, .ref (ad (b)))]) [] t := by
    intro j
    induction j with
    | zero =>
      intro k v h0_13 hk hI13
      exact absurd h0_13 (by omega)
    | succ j ih13 =>
      intro k v h0_13 hk hI13
      refine z_iload C 13 4 0 dX5_balances_13 rfl ?_
      refine z_iload_n C 15 3 2 dX5_balances_15 rfl rfl ?_
      refine z_icmp_ge C 16 39 dX5_balances_16 (by decide) (fun c16_1 => ?_) (fun c16_1 => ?_)
      · refine z_iload_n C 39 1 1 dX5_balances_39 rfl rfl ?_
        exact z_iret C 40 hA hQ rfl dX5_balances_40 ⟨((hI13.trans ((if_pos c16_1).trans rfl))).symm, rfl⟩
      · refine z_aload_n C 19 2 3 dX5_balances_19 rfl rfl ?_
        refine z_iload C 20 4 0 dX5_balances_20 rfl ?_
        refine z_aald C 22 (b + 1) 1 k (ad (b + 2 + k)) dX5_balances_22 hO.h1 hO.e1 rfl rfl (zge (b := 24) (by omega) (by decide) ‹¬ (24 : Int32) ≤ nI k›) (by decide) rfl ?_
        refine z_astore C 23 5 ([(5, .ref (ad (b + 2 + k))), (4, .int (nI k)), (1, .int v), (3, .int 24), (2, .ref (ad (b + 1))), (0, .ref (ad (b)))]) dX5_balances_23 (by decide) rfl ?_
        refine z_iload_n C 25 1 2 dX5_balances_25 rfl rfl ?_
        refine z_aload C 26 5 0 dX5_balances_26 rfl ?_
        refine z_getiN C 28 (b + 2 + k) 6 dX5_balances_28 (hO.hou (zge (b := 24) (by omega) (by decide) ‹¬ (24 : Int32) ≤ nI k›)).1 (hO.hou (zge (b := 24) (by omega) (by decide) ‹¬ (24 : Int32) ≤ nI k›)).2 mX5_balances_in1 rfl (by decide) nst_f5_165 (fun _ => rfl) ?_
        refine z_iadd C 31 dX5_balances_31 ?_
        refine z_istore_n C 32 1 ([(1, .int (v + (t (b + 2 + k) 6))), (5, .ref (ad (b + 2 + k))), (4, .int (nI k)), (3, .int 24), (2, .ref (ad (b + 1))), (0, .ref (ad (b)))]) dX5_balances_32 rfl (by decide) rfl ?_
        refine z_iinc C 33 (v := nI (k + 1)) 4 2 ([(4, .int (nI (k + 1))), (1, .int (v + (t (b + 2 + k) 6))), (5, .ref (ad (b + 2 + k))), (3, .int 24), (2, .ref (ad (b + 1))), (0, .ref (ad (b)))]) dX5_balances_33 rfl (nI_1 _) (by decide) rfl ?_
        refine z_goto C 36 13 dX5_balances_36 (by decide) ?_
        refine z_ls [0, 1, 3, 4, 5] _ rfl ?_
        exact ih13 (k + 1) (v + (t (b + 2 + k) 6)) (by omega) (by have := zge (b := 24) (by omega) (by decide) ‹¬ (24 : Int32) ≤ nI k›; omega) (hI13.trans ((if_neg c16_1).trans rfl))
  refine z_ls [0, 3, 1, 2, 4] _ rfl ?_
  exact L13 (25) 0 0 (by omega) (by decide) rfl
theorem zsub20 {x : Int32} (h0 : ¬ x < 20) (h1 : ¬ 24 ≤ x) : vp_in (x - 20) 4 := by
  have p0 : ¬ x < 0 := fun h => h0 (by rw [Int32.lt_iff_toInt_lt] at h ⊢; have e : (Int32.toInt 20) = 20 := by decide
                                       have e0 : (Int32.toInt 0) = 0 := by decide
                                       omega)
  obtain ⟨k, hk, rfl⟩ := zidx p0 (znl.mp h1 : x < nI 24) (by decide)
  have h2 : 20 ≤ k := by
    rcases Nat.lt_or_ge k 20 with q | q
    · exact absurd ((nI_ltI (b := 20) (by omega) (by decide)).mpr q) h0
    · exact q
  show vp_in (nI k - nI 20) 4
  rw [nI_sub h2]
  exact vp_in_nI (by omega) (by decide)
def rX5_number (b : Nat) (t : zM) (a1 : Int32) : Int32 := (if a1 = 0 then (t (b) 5) else (if a1 = 1 then (t (b) 4) else (if a1 = 2 then (rX5_housesLocked (b) t) else (if a1 = 3 then (t (b) 6) else (if a1 = 4 then (t (b) 7) else (if a1 = 5 then (t (b) 8) else (if a1 = 6 then (t (b) 9) else (if a1 = 7 then (t (b) 10) else (if a1 = 8 then (t (b) 11) else (if a1 = 9 then (rX5_housesBetween (b) t 1 100) else (if a1 = 10 then (rX5_housesBetween (b) t (-100) (-1)) else (if a1 = 11 then (10000 + (rX5_balances (b) t)) else (if a1 = 12 then (((10000 + (100 * (t (b) 7))) - (t (b) 9)) - (100 * (t (b) 10))) else (if a1 = 13 then (t (b) 12) else (if a1 = 14 then (t (b + 35) 2) else (if a1 < 20 then (-1000001) else (if 24 ≤ a1 then (-1000001) else (t (b + 37) (a1 - 20).toNatClampNeg))))))))))))))))))
theorem mX5_number_f59 : Cond.fieldLink RX5 59 "WrongedMeters$Town" "now" "I" ∈ wsX5_number := by decide +kernel
set_option maxRecDepth 20000 in
theorem mX5_number_in5 : ∀ w ∈ u_ws RX5 TX5 13, w ∈ wsX5_number := by decide +kernel
theorem mX5_number_f55 : Cond.fieldLink RX5 55 "WrongedMeters$Town" "houseCount" "I" ∈ wsX5_number := by decide +kernel
theorem mX5_number_f62 : Cond.fieldLink RX5 62 "WrongedMeters$Town" "readings" "I" ∈ wsX5_number := by decide +kernel
theorem mX5_number_f65 : Cond.fieldLink RX5 65 "WrongedMeters$Town" "units" "I" ∈ wsX5_number := by decide +kernel
theorem mX5_number_f68 : Cond.fieldLink RX5 68 "WrongedMeters$Town" "coins" "I" ∈ wsX5_number := by decide +kernel
theorem mX5_number_f71 : Cond.fieldLink RX5 71 "WrongedMeters$Town" "hundredths" "I" ∈ wsX5_number := by decide +kernel
theorem mX5_number_f74 : Cond.fieldLink RX5 74 "WrongedMeters$Town" "refunds" "I" ∈ wsX5_number := by decide +kernel
theorem mX5_number_f77 : Cond.fieldLink RX5 77 "WrongedMeters$Town" "coinsBack" "I" ∈ wsX5_number := by decide +kernel
theorem mX5_number_f80 : Cond.fieldLink RX5 80 "WrongedMeters$Town" "years" "I" ∈ wsX5_number := by decide +kernel
theorem mX5_number_f26 : Cond.fieldLink RX5 26 "WrongedMeters$Town" "ledger" "LWrongedMeters$Ledger;" ∈ wsX5_number := by decide +kernel
set_option maxRecDepth 20000 in
theorem mX5_number_in2 : ∀ w ∈ u_ws RX2 TX2 3, w ∈ wsX5_number := by decide +kernel
theorem mX5_number_c100 : Cond.constant RX5 100 (-1000001) ∈ wsX5_number := by decide +kernel
theorem mX5_number_f30 : Cond.fieldLink RX5 30 "WrongedMeters$Town" "settings" "[I" ∈ wsX5_number := by decide +kernel
theorem hyX5_number : yX5_number.cls = RX5 ∧ yX5_number.cls ≠ "java/lang/invoke/MethodHandle" ∧ yX5_number.cls ≠ "java/lang/invoke/VarHandle" ∧ (parseMethodDescriptor yX5_number.desc).map (fun d => d.parameters.length) = some 1 := by decide +kernel
set_option maxHeartbeats 3000000 in
set_option maxRecDepth 100000 in
theorem kX5_number (l : Launch) (D : va_G) (cy : Nat → ClassId) (K : zK) (n : Nat) (ad : Nat → Nat) (hJ : zJ n ad) (b : Nat) (hO : zTown cy K n ad b) (t : zM) (a1 : Int32)  : zI l yX5_number wsX5_number 1 D cy K n ad t [.ref (ad (b)), .int a1] (fun r t1 => r = rX5_number b t a1 ∧ t1 = t) := by
  refine z_startI (cc := cX5_number) (mL := 2) (ret := (some .int)) (own := RX5) rfl (by decide +kernel) rfl hJ (Nat.le_of_ble_eq_true rfl) ?_
  intro p e s m args below meth c A hA Q hQ C
  refine z_iload_n C 0 1 1 dX5_number_0 rfl rfl ?_
  by_cases c1_1 : a1 = 0
  · refine z_tableIn C 1 76 dX5_number_1 (by rw [c1_1]; decide +kernel) (by rw [c1_1]; decide +kernel) (off := 75) (by rw [c1_1]; decide +kernel) (by decide) ?_
    refine z_aload_n C 76 0 0 dX5_number_76 rfl rfl ?_
    refine z_geti C 77 (b) 5 dX5_number_77 hO.h0 hO.e0 mX5_number_in5 rfl (by decide) mX5_number_f59 (fun _ => rfl) ?_
    exact z_iret C 80 hA hQ rfl dX5_number_80 ⟨((if_pos c1_1).trans rfl).symm, rfl⟩
  · by_cases c1_2 : a1 = 1
    · refine z_tableIn C 1 81 dX5_number_1 (by rw [c1_2]; decide +kernel) (by rw [c1_2]; decide +kernel) (off := 80) (by rw [c1_2]; decide +kernel) (by decide) ?_
      refine z_aload_n C 81 0 0 dX5_number_81 rfl rfl ?_
      refine z_geti C 82 (b) 4 dX5_number_82 hO.h0 hO.e0 mX5_number_in5 rfl (by decide) mX5_number_f55 (fun _ => rfl) ?_
      exact z_iret C 85 hA hQ rfl dX5_number_85 ⟨((if_neg c1_1).trans ((if_pos c1_2).trans rfl)).symm, rfl⟩
    · by_cases c1_3 : a1 = 2
      · refine z_tableIn C 1 86 dX5_number_1 (by rw [c1_3]; decide +kernel) (by rw [c1_3]; decide +kernel) (off := 85) (by rw [c1_3]; decide +kernel) (by decide) ?_
        refine z_aload_n C 86 0 0 dX5_number_86 rfl rfl ?_
        refine z_virtIe C 87 (As := []) (st := []) (id := b) (kX5_housesLocked l D cy K n ad hJ (b) hO t  ) dX5_number_87 rfl gX5_number_X5_housesLocked hyX5_housesLocked rfl (by decide) (by decide) hO.h0 rfl hO.e0 rfl rfl rfl (Nat.le_of_ble_eq_true rfl) ?_
        exact z_iret C 90 hA hQ rfl dX5_number_90 ⟨((if_neg c1_1).trans ((if_neg c1_2).trans ((if_pos c1_3).trans rfl))).symm, rfl⟩
      · by_cases c1_5 : a1 = 3
        · refine z_tableIn C 1 91 dX5_number_1 (by rw [c1_5]; decide +kernel) (by rw [c1_5]; decide +kernel) (off := 90) (by rw [c1_5]; decide +kernel) (by decide) ?_
          refine z_aload_n C 91 0 0 dX5_number_91 rfl rfl ?_
          refine z_geti C 92 (b) 6 dX5_number_92 hO.h0 hO.e0 mX5_number_in5 rfl (by decide) mX5_number_f62 (fun _ => rfl) ?_
          exact z_iret C 95 hA hQ rfl dX5_number_95 ⟨((if_neg c1_1).trans ((if_neg c1_2).trans ((if_neg c1_3).trans ((if_pos c1_5).trans rfl)))).symm, rfl⟩
        · by_cases c1_6 : a1 = 4
          · refine z_tableIn C 1 96 dX5_number_1 (by rw [c1_6]; decide +kernel) (by rw [c1_6]; decide +kernel) (off := 95) (by rw [c1_6]; decide +kernel) (by decide) ?_
            refine z_aload_n C 96 0 0 dX5_number_96 rfl rfl ?_
            refine z_geti C 97 (b) 7 dX5_number_97 hO.h0 hO.e0 mX5_number_in5 rfl (by decide) mX5_number_f65 (fun _ => rfl) ?_
            exact z_iret C 100 hA hQ rfl dX5_number_100 ⟨((if_neg c1_1).trans ((if_neg c1_2).trans ((if_neg c1_3).trans ((if_neg c1_5).trans ((if_pos c1_6).trans rfl))))).symm, rfl⟩
          · by_cases c1_7 : a1 = 5
            · refine z_tableIn C 1 101 dX5_number_1 (by rw [c1_7]; decide +kernel) (by rw [c1_7]; decide +kernel) (off := 100) (by rw [c1_7]; decide +kernel) (by decide) ?_
              refine z_aload_n C 101 0 0 dX5_number_101 rfl rfl ?_
              refine z_geti C 102 (b) 8 dX5_number_102 hO.h0 hO.e0 mX5_number_in5 rfl (by decide) mX5_number_f68 (fun _ => rfl) ?_
              exact z_iret C 105 hA hQ rfl dX5_number_105 ⟨((if_neg c1_1).trans ((if_neg c1_2).trans ((if_neg c1_3).trans ((if_neg c1_5).trans ((if_neg c1_6).trans ((if_pos c1_7).trans rfl)))))).symm, rfl⟩
            · by_cases c1_8 : a1 = 6
              · refine z_tableIn C 1 106 dX5_number_1 (by rw [c1_8]; decide +kernel) (by rw [c1_8]; decide +kernel) (off := 105) (by rw [c1_8]; decide +kernel) (by decide) ?_
                refine z_aload_n C 106 0 0 dX5_number_106 rfl rfl ?_
                refine z_geti C 107 (b) 9 dX5_number_107 hO.h0 hO.e0 mX5_number_in5 rfl (by decide) mX5_number_f71 (fun _ => rfl) ?_
                exact z_iret C 110 hA hQ rfl dX5_number_110 ⟨((if_neg c1_1).trans ((if_neg c1_2).trans ((if_neg c1_3).trans ((if_neg c1_5).trans ((if_neg c1_6).trans ((if_neg c1_7).trans ((if_pos c1_8).trans rfl))))))).symm, rfl⟩
              · by_cases c1_9 : a1 = 7
                · refine z_tableIn C 1 111 dX5_number_1 (by rw [c1_9]; decide +kernel) (by rw [c1_9]; decide +kernel) (off := 110) (by rw [c1_9]; decide +kernel) (by decide) ?_
                  refine z_aload_n C 111 0 0 dX5_number_111 rfl rfl ?_
                  refine z_geti C 112 (b) 10 dX5_number_112 hO.h0 hO.e0 mX5_number_in5 rfl (by decide) mX5_number_f74 (fun _ => rfl) ?_
                  exact z_iret C 115 hA hQ rfl dX5_number_115 ⟨((if_neg c1_1).trans ((if_neg c1_2).trans ((if_neg c1_3).trans ((if_neg c1_5).trans ((if_neg c1_6).trans ((if_neg c1_7).trans ((if_neg c1_8).trans ((if_pos c1_9).trans rfl)))))))).symm, rfl⟩
                · by_cases c1_10 : a1 = 8
                  · refine z_tableIn C 1 116 dX5_number_1 (by rw [c1_10]; decide +kernel) (by rw [c1_10]; decide +kernel) (off := 115) (by rw [c1_10]; decide +kernel) (by decide) ?_
                    refine z_aload_n C 116 0 0 dX5_number_116 rfl rfl ?_
                    refine z_geti C 117 (b) 11 dX5_number_117 hO.h0 hO.e0 mX5_number_in5 rfl (by decide) mX5_number_f77 (fun _ => rfl) ?_
                    exact z_iret C 120 hA hQ rfl dX5_number_120 ⟨((if_neg c1_1).trans ((if_neg c1_2).trans ((if_neg c1_3).trans ((if_neg c1_5).trans ((if_neg c1_6).trans ((if_neg c1_7).trans ((if_neg c1_8).trans ((if_neg c1_9).trans ((if_pos c1_10).trans rfl))))))))).symm, rfl⟩
                  · by_cases c1_11 : a1 = 9
                    · refine z_tableIn C 1 121 dX5_number_1 (by rw [c1_11]; decide +kernel) (by rw [c1_11]; decide +kernel) (off := 120) (by rw [c1_11]; decide +kernel) (by decide) ?_
                      refine z_aload_n C 121 0 0 dX5_number_121 rfl rfl ?_
                      refine z_iconst C 122 (v := 1) dX5_number_122 (by decide +kernel) ?_
                      refine z_bipush C 123 (v := 100) dX5_number_123 (by decide +kernel) ?_
                      refine z_virtIe C 125 (As := [.int 1, .int 100]) (st := []) (id := b) (kX5_housesBetween l D cy K n ad hJ (b) hO t 1 100 ) dX5_number_125 rfl gX5_number_X5_housesBetween hyX5_housesBetween rfl (by decide) (by decide) hO.h0 rfl hO.e0 rfl rfl rfl (Nat.le_of_ble_eq_true rfl) ?_
                      exact z_iret C 128 hA hQ rfl dX5_number_128 ⟨((if_neg c1_1).trans ((if_neg c1_2).trans ((if_neg c1_3).trans ((if_neg c1_5).trans ((if_neg c1_6).trans ((if_neg c1_7).trans ((if_neg c1_8).trans ((if_neg c1_9).trans ((if_neg c1_10).trans ((if_pos c1_11).trans rfl)))))))))).symm, rfl⟩
                    · by_cases c1_13 : a1 = 10
                      · refine z_tableIn C 1 129 dX5_number_1 (by rw [c1_13]; decide +kernel) (by rw [c1_13]; decide +kernel) (off := 128) (by rw [c1_13]; decide +kernel) (by decide) ?_
                        refine z_aload_n C 129 0 0 dX5_number_129 rfl rfl ?_
                        refine z_bipush C 130 (v := (-100)) dX5_number_130 (by decide +kernel) ?_
                        refine z_iconst C 132 (v := (-1)) dX5_number_132 (by decide +kernel) ?_
                        refine z_virtIe C 133 (As := [.int (-100), .int (-1)]) (st := []) (id := b) (kX5_housesBetween l D cy K n ad hJ (b) hO t (-100) (-1) ) dX5_number_133 rfl gX5_number_X5_housesBetween hyX5_housesBetween rfl (by decide) (by decide) hO.h0 rfl hO.e0 rfl rfl rfl (Nat.le_of_ble_eq_true rfl) ?_
                        exact z_iret C 136 hA hQ rfl dX5_number_136 ⟨((if_neg c1_1).trans ((if_neg c1_2).trans ((if_neg c1_3).trans ((if_neg c1_5).trans ((if_neg c1_6).trans ((if_neg c1_7).trans ((if_neg c1_8).trans ((if_neg c1_9).trans ((if_neg c1_10).trans ((if_neg c1_11).trans ((if_pos c1_13).trans rfl))))))))))).symm, rfl⟩
                      · by_cases c1_15 : a1 = 11
                        · refine z_tableIn C 1 137 dX5_number_1 (by rw [c1_15]; decide +kernel) (by rw [c1_15]; decide +kernel) (off := 136) (by rw [c1_15]; decide +kernel) (by decide) ?_
                          refine z_sipush C 137 (v := 10000) dX5_number_137 (by decide +kernel) ?_
                          refine z_aload_n C 140 0 0 dX5_number_140 rfl rfl ?_
                          refine z_virtIe C 141 (As := []) (st := [.int 10000]) (id := b) (kX5_balances l D cy K n ad hJ (b) hO t  ) dX5_number_141 rfl gX5_number_X5_balances hyX5_balances rfl (by decide) (by decide) hO.h0 rfl hO.e0 rfl rfl rfl (Nat.le_of_ble_eq_true rfl) ?_
                          refine z_iadd C 144 dX5_number_144 ?_
                          exact z_iret C 145 hA hQ rfl dX5_number_145 ⟨((if_neg c1_1).trans ((if_neg c1_2).trans ((if_neg c1_3).trans ((if_neg c1_5).trans ((if_neg c1_6).trans ((if_neg c1_7).trans ((if_neg c1_8).trans ((if_neg c1_9).trans ((if_neg c1_10).trans ((if_neg c1_11).trans ((if_neg c1_13).trans ((if_pos c1_15).trans rfl)))))))))))).symm, rfl⟩
                        · by_cases c1_17 : a1 = 12
                          · refine z_tableIn C 1 146 dX5_number_1 (by rw [c1_17]; decide +kernel) (by rw [c1_17]; decide +kernel) (off := 145) (by rw [c1_17]; decide +kernel) (by decide) ?_
                            refine z_sipush C 146 (v := 10000) dX5_number_146 (by decide +kernel) ?_
                            refine z_bipush C 149 (v := 100) dX5_number_149 (by decide +kernel) ?_
                            refine z_aload_n C 151 0 0 dX5_number_151 rfl rfl ?_
                            refine z_geti C 152 (b) 7 dX5_number_152 hO.h0 hO.e0 mX5_number_in5 rfl (by decide) mX5_number_f65 (fun _ => rfl) ?_
                            refine z_imul C 155 dX5_number_155 ?_
                            refine z_iadd C 156 dX5_number_156 ?_
                            refine z_aload_n C 157 0 0 dX5_number_157 rfl rfl ?_
                            refine z_geti C 158 (b) 9 dX5_number_158 hO.h0 hO.e0 mX5_number_in5 rfl (by decide) mX5_number_f71 (fun _ => rfl) ?_
                            refine z_isub C 161 dX5_number_161 ?_
                            refine z_bipush C 162 (v := 100) dX5_number_162 (by decide +kernel) ?_
                            refine z_aload_n C 164 0 0 dX5_number_164 rfl rfl ?_
                            refine z_geti C 165 (b) 10 dX5_number_165 hO.h0 hO.e0 mX5_number_in5 rfl (by decide) mX5_number_f74 (fun _ => rfl) ?_
                            refine z_imul C 168 dX5_number_168 ?_
                            refine z_isub C 169 dX5_number_169 ?_
                            exact z_iret C 170 hA hQ rfl dX5_number_170 ⟨((if_neg c1_1).trans ((if_neg c1_2).trans ((if_neg c1_3).trans ((if_neg c1_5).trans ((if_neg c1_6).trans ((if_neg c1_7).trans ((if_neg c1_8).trans ((if_neg c1_9).trans ((if_neg c1_10).trans ((if_neg c1_11).trans ((if_neg c1_13).trans ((if_neg c1_15).trans ((if_pos c1_17).trans rfl))))))))))))).symm, rfl⟩
                          · by_cases c1_18 : a1 = 13
                            · refine z_tableIn C 1 171 dX5_number_1 (by rw [c1_18]; decide +kernel) (by rw [c1_18]; decide +kernel) (off := 170) (by rw [c1_18]; decide +kernel) (by decide) ?_
                              refine z_aload_n C 171 0 0 dX5_number_171 rfl rfl ?_
                              refine z_geti C 172 (b) 12 dX5_number_172 hO.h0 hO.e0 mX5_number_in5 rfl (by decide) mX5_number_f80 (fun _ => rfl) ?_
                              exact z_iret C 175 hA hQ rfl dX5_number_175 ⟨((if_neg c1_1).trans ((if_neg c1_2).trans ((if_neg c1_3).trans ((if_neg c1_5).trans ((if_neg c1_6).trans ((if_neg c1_7).trans ((if_neg c1_8).trans ((if_neg c1_9).trans ((if_neg c1_10).trans ((if_neg c1_11).trans ((if_neg c1_13).trans ((if_neg c1_15).trans ((if_neg c1_17).trans ((if_pos c1_18).trans rfl)))))))))))))).symm, rfl⟩
                            · by_cases c1_19 : a1 = 14
                              · refine z_tableIn C 1 176 dX5_number_1 (by rw [c1_19]; decide +kernel) (by rw [c1_19]; decide +kernel) (off := 175) (by rw [c1_19]; decide +kernel) (by decide) ?_
                                refine z_aload_n C 176 0 0 dX5_number_176 rfl rfl ?_
                                refine z_getr C 177 (a9 := ad (b + 35)) (b) 2 dX5_number_177 hO.h0 hO.e0 mX5_number_in5 rfl (by decide) mX5_number_f26 (fun _ => rfl) ?_
                                refine z_getiN C 180 (b + 35) 2 dX5_number_180 (Nat.lt_of_succ_lt hO.led.1) hO.led.2.1 mX5_number_in2 rfl (by decide) nst_f5_208 (fun _ => rfl) ?_
                                exact z_iret C 183 hA hQ rfl dX5_number_183 ⟨((if_neg c1_1).trans ((if_neg c1_2).trans ((if_neg c1_3).trans ((if_neg c1_5).trans ((if_neg c1_6).trans ((if_neg c1_7).trans ((if_neg c1_8).trans ((if_neg c1_9).trans ((if_neg c1_10).trans ((if_neg c1_11).trans ((if_neg c1_13).trans ((if_neg c1_15).trans ((if_neg c1_17).trans ((if_neg c1_18).trans ((if_pos c1_19).trans rfl))))))))))))))).symm, rfl⟩
                              · have qc1_1 := lv_neT (a := 0) c1_1 rfl
                                have qc1_2 := lv_neT (a := 1) c1_2 rfl
                                have qc1_3 := lv_neT (a := 2) c1_3 rfl
                                have qc1_5 := lv_neT (a := 3) c1_5 rfl
                                have qc1_6 := lv_neT (a := 4) c1_6 rfl
                                have qc1_7 := lv_neT (a := 5) c1_7 rfl
                                have qc1_8 := lv_neT (a := 6) c1_8 rfl
                                have qc1_9 := lv_neT (a := 7) c1_9 rfl
                                have qc1_10 := lv_neT (a := 8) c1_10 rfl
                                have qc1_11 := lv_neT (a := 9) c1_11 rfl
                                have qc1_13 := lv_neT (a := 10) c1_13 rfl
                                have qc1_15 := lv_neT (a := 11) c1_15 rfl
                                have qc1_17 := lv_neT (a := 12) c1_17 rfl
                                have qc1_18 := lv_neT (a := 13) c1_18 rfl
                                have qc1_19 := lv_neT (a := 14) c1_19 rfl
                                refine z_tableOut C 1 184 dX5_number_1 (by omega) (by decide) ?_
                                refine z_iload_n C 184 1 1 dX5_number_184 rfl rfl ?_
                                refine z_bipush C 185 (v := 20) dX5_number_185 (by decide +kernel) ?_
                                refine z_icmp_lt C 187 208 dX5_number_187 (by decide) (fun c187_20 => ?_) (fun c187_20 => ?_)
                                · refine z_ldc C 208 (v := (-1000001)) dX5_number_208 mX5_number_c100 ?_
                                  exact z_iret C 210 hA hQ rfl dX5_number_210 ⟨((if_neg c1_1).trans ((if_neg c1_2).trans ((if_neg c1_3).trans ((if_neg c1_5).trans ((if_neg c1_6).trans ((if_neg c1_7).trans ((if_neg c1_8).trans ((if_neg c1_9).trans ((if_neg c1_10).trans ((if_neg c1_11).trans ((if_neg c1_13).trans ((if_neg c1_15).trans ((if_neg c1_17).trans ((if_neg c1_18).trans ((if_neg c1_19).trans ((if_pos c187_20).trans rfl)))))))))))))))).symm, rfl⟩
                                · refine z_iload_n C 190 1 1 dX5_number_190 rfl rfl ?_
                                  refine z_bipush C 191 (v := 24) dX5_number_191 (by decide +kernel) ?_
                                  refine z_icmp_ge C 193 208 dX5_number_193 (by decide) (fun c193_21 => ?_) (fun c193_21 => ?_)
                                  · refine z_ldc C 208 (v := (-1000001)) dX5_number_208 mX5_number_c100 ?_
                                    exact z_iret C 210 hA hQ rfl dX5_number_210 ⟨((if_neg c1_1).trans ((if_neg c1_2).trans ((if_neg c1_3).trans ((if_neg c1_5).trans ((if_neg c1_6).trans ((if_neg c1_7).trans ((if_neg c1_8).trans ((if_neg c1_9).trans ((if_neg c1_10).trans ((if_neg c1_11).trans ((if_neg c1_13).trans ((if_neg c1_15).trans ((if_neg c1_17).trans ((if_neg c1_18).trans ((if_neg c1_19).trans ((if_neg c187_20).trans ((if_pos c193_21).trans rfl))))))))))))))))).symm, rfl⟩
                                  · refine z_aload_n C 196 0 0 dX5_number_196 rfl rfl ?_
                                    refine z_getr C 197 (a9 := ad (b + 37)) (b) 3 dX5_number_197 hO.h0 hO.e0 mX5_number_in5 rfl (by decide) mX5_number_f30 (fun _ => rfl) ?_
                                    refine z_iload_n C 200 1 1 dX5_number_200 rfl rfl ?_
                                    refine z_bipush C 201 (v := 20) dX5_number_201 (by decide +kernel) ?_
                                    refine z_isub C 203 dX5_number_203 ?_
                                    refine z_iald C 204 (b + 37) dX5_number_204 hO.h37 hO.e37 (zsub20 ‹¬ a1 < 20› ‹¬ 24 ≤ a1›) ?_
                                    refine z_goto C 205 210 dX5_number_205 (by decide) ?_
                                    exact z_iret C 210 hA hQ rfl dX5_number_210 ⟨((if_neg c1_1).trans ((if_neg c1_2).trans ((if_neg c1_3).trans ((if_neg c1_5).trans ((if_neg c1_6).trans ((if_neg c1_7).trans ((if_neg c1_8).trans ((if_neg c1_9).trans ((if_neg c1_10).trans ((if_neg c1_11).trans ((if_neg c1_13).trans ((if_neg c1_15).trans ((if_neg c1_17).trans ((if_neg c1_18).trans ((if_neg c1_19).trans ((if_neg c187_20).trans ((if_neg c193_21).trans rfl))))))))))))))))).symm, rfl⟩
def rX5_obey (b : Nat) (t : zM) (a1 : Int32) (a2 : Int32) (a3 : Int32) (N : Nat) : Int32 := (if a1 = 99 then (rX5_changeMeter (b) t a2) else (if a1 = 100 then (if a2 < 1 then (-1000001) else (if a2 ≤ 99 then (if ((t (b) 5) + a2) ≤ 9999 then (rX5_passDays (b) t a2.toNatClampNeg N) else (-1000003)) else (-1000001))) else (if a1 = 101 then (-1000001) else (if a1 = 102 then (rX5_putFlow (b) t a2 a3) else (if a1 = 103 then (-1000001) else (if a1 = 104 then (rX5_addHouse (b) t ((t (b) 4).toNatClampNeg) a2 a3) else (if a1 = 105 then (-1000001) else (if a1 = 106 then (-1000001) else (if a1 = 107 then (-1000001) else (if a1 = 108 then (rX5_turnLock (b) t a2) else (if a1 = 109 then (-1000001) else (if a1 = 110 then (-1000001) else (if a1 = 111 then (-1000001) else (if a1 = 112 then (-1000001) else (if a1 = 113 then (-1000001) else (if a1 = 114 then (rX5_readIfOpen (b) t a2) else (-1000001)))))))))))))))))
def sX5_obey (b : Nat) (t : zM) (a1 : Int32) (a2 : Int32) (a3 : Int32) (N : Nat) : zM := (if a1 = 99 then (sX5_changeMeter (b) t a2) else (if a1 = 100 then (if a2 < 1 then t else (if a2 ≤ 99 then (if ((t (b) 5) + a2) ≤ 9999 then (sX5_passDays (b) t a2.toNatClampNeg N) else t) else t)) else (if a1 = 101 then t else (if a1 = 102 then (sX5_putFlow (b) t a2 a3) else (if a1 = 103 then t else (if a1 = 104 then (sX5_addHouse (b) t ((t (b) 4).toNatClampNeg) a2 a3) else (if a1 = 105 then t else (if a1 = 106 then t else (if a1 = 107 then t else (if a1 = 108 then (sX5_turnLock (b) t a2) else (if a1 = 109 then t else (if a1 = 110 then t else (if a1 = 111 then t else (if a1 = 112 then t else (if a1 = 113 then t else (if a1 = 114 then (sX5_readIfOpen (b) t a2) else t))))))))))))))))
theorem mX5_obey_c100 : Cond.constant RX5 100 (-1000001) ∈ wsX5_obey := by decide +kernel
theorem mX5_obey_f59 : Cond.fieldLink RX5 59 "WrongedMeters$Town" "now" "I" ∈ wsX5_obey := by decide +kernel
set_option maxRecDepth 20000 in
theorem mX5_obey_in5 : ∀ w ∈ u_ws RX5 TX5 13, w ∈ wsX5_obey := by decide +kernel
theorem mX5_obey_c101 : Cond.constant RX5 101 (-1000003) ∈ wsX5_obey := by decide +kernel
theorem hyX5_obey : yX5_obey.cls = RX5 ∧ yX5_obey.cls ≠ "java/lang/invoke/MethodHandle" ∧ yX5_obey.cls ≠ "java/lang/invoke/VarHandle" ∧ (parseMethodDescriptor yX5_obey.desc).map (fun d => d.parameters.length) = some 3 := by decide +kernel
set_option maxHeartbeats 3000000 in
set_option maxRecDepth 100000 in
theorem kX5_obey (l : Launch) (D : va_G) (cy : Nat → ClassId) (K : zK) (n : Nat) (ad : Nat → Nat) (hJ : zJ n ad) (b : Nat) (hO : zTown cy K n ad b) (t : zM) (a1 : Int32) (a2 : Int32) (a3 : Int32) (N : Nat) (hN : N ≤ 20000) (hs : zTs N b t) : zI l yX5_obey wsX5_obey 4 D cy K n ad t [.ref (ad (b)), .int a1, .int a2, .int a3] (fun r t1 => r = rX5_obey b t a1 a2 a3 N ∧ t1 = sX5_obey b t a1 a2 a3 N) := by
  refine z_startI (cc := cX5_obey) (mL := 4) (ret := (some .int)) (own := RX5) rfl (by decide +kernel) rfl hJ (Nat.le_of_ble_eq_true rfl) ?_
  intro p e s m args below meth c A hA Q hQ C
  refine z_iload_n C 0 1 1 dX5_obey_0 rfl rfl ?_
  by_cases c1_1 : a1 = 99
  · refine z_tableIn C 1 106 dX5_obey_1 (by rw [c1_1]; decide +kernel) (by rw [c1_1]; decide +kernel) (off := 105) (by rw [c1_1]; decide +kernel) (by decide) ?_
    refine z_aload_n C 106 0 0 dX5_obey_106 rfl rfl ?_
    refine z_iload_n C 107 2 2 dX5_obey_107 rfl rfl ?_
    refine z_virtIe C 108 (As := [.int a2]) (st := []) (id := b) (kX5_changeMeter l D cy K n ad hJ (b) hO t N a2 hs) dX5_obey_108 rfl gX5_obey_X5_changeMeter hyX5_changeMeter rfl (by decide) (by decide) hO.h0 rfl hO.e0 rfl rfl rfl (Nat.le_of_ble_eq_true rfl) ?_
    exact z_iret C 111 hA hQ rfl dX5_obey_111 ⟨((if_pos c1_1).trans rfl).symm, ((if_pos c1_1).trans rfl).symm⟩
  · by_cases c1_3 : a1 = 100
    · refine z_tableIn C 1 112 dX5_obey_1 (by rw [c1_3]; decide +kernel) (by rw [c1_3]; decide +kernel) (off := 111) (by rw [c1_3]; decide +kernel) (by decide) ?_
      refine z_iload_n C 112 2 2 dX5_obey_112 rfl rfl ?_
      refine z_iconst C 113 (v := 1) dX5_obey_113 (by decide +kernel) ?_
      refine z_icmp_lt C 114 123 dX5_obey_114 (by decide) (fun c114_4 => ?_) (fun c114_4 => ?_)
      · refine z_ldc C 123 (v := (-1000001)) dX5_obey_123 mX5_obey_c100 ?_
        exact z_iret C 125 hA hQ rfl dX5_obey_125 ⟨((if_neg c1_1).trans ((if_pos c1_3).trans ((if_pos c114_4).trans rfl))).symm, ((if_neg c1_1).trans ((if_pos c1_3).trans ((if_pos c114_4).trans rfl))).symm⟩
      · refine z_iload_n C 117 2 2 dX5_obey_117 rfl rfl ?_
        refine z_bipush C 118 (v := 99) dX5_obey_118 (by decide +kernel) ?_
        refine z_icmp_le C 120 126 dX5_obey_120 (by decide) (fun c120_5 => ?_) (fun c120_5 => ?_)
        · refine z_aload_n C 126 0 0 dX5_obey_126 rfl rfl ?_
          refine z_geti C 127 (b) 5 dX5_obey_127 hO.h0 hO.e0 mX5_obey_in5 rfl (by decide) mX5_obey_f59 (fun _ => rfl) ?_
          refine z_iload_n C 130 2 2 dX5_obey_130 rfl rfl ?_
          refine z_iadd C 131 dX5_obey_131 ?_
          refine z_sipush C 132 (v := 9999) dX5_obey_132 (by decide +kernel) ?_
          refine z_icmp_le C 135 143 dX5_obey_135 (by decide) (fun c135_6 => ?_) (fun c135_6 => ?_)
          · refine z_aload_n C 143 0 0 dX5_obey_143 rfl rfl ?_
            refine z_iload_n C 144 2 2 dX5_obey_144 rfl rfl ?_
            refine z_nv (nI a2.toNatClampNeg) (znc (zlt1 ‹¬ a2 < 1›)) ?_
            refine z_virtIe C 145 (As := [.int (nI a2.toNatClampNeg)]) (st := []) (id := b) (kX5_passDays l D cy K n ad hJ (b) hO t a2.toNatClampNeg N (z99 ‹¬ a2 < 1› (znlt.mpr ‹a2 ≤ 99›)) hN hs) dX5_obey_145 rfl gX5_obey_X5_passDays hyX5_passDays rfl (by decide) (by decide) hO.h0 rfl hO.e0 rfl rfl rfl (Nat.le_of_ble_eq_true rfl) ?_
            exact z_iret C 148 hA hQ rfl dX5_obey_148 ⟨((if_neg c1_1).trans ((if_pos c1_3).trans ((if_neg c114_4).trans ((if_pos c120_5).trans ((if_pos c135_6).trans rfl))))).symm, ((if_neg c1_1).trans ((if_pos c1_3).trans ((if_neg c114_4).trans ((if_pos c120_5).trans ((if_pos c135_6).trans rfl))))).symm⟩
          · refine z_ldc C 138 (v := (-1000003)) dX5_obey_138 mX5_obey_c101 ?_
            refine z_goto C 140 148 dX5_obey_140 (by decide) ?_
            exact z_iret C 148 hA hQ rfl dX5_obey_148 ⟨((if_neg c1_1).trans ((if_pos c1_3).trans ((if_neg c114_4).trans ((if_pos c120_5).trans ((if_neg c135_6).trans rfl))))).symm, ((if_neg c1_1).trans ((if_pos c1_3).trans ((if_neg c114_4).trans ((if_pos c120_5).trans ((if_neg c135_6).trans rfl))))).symm⟩
        · refine z_ldc C 123 (v := (-1000001)) dX5_obey_123 mX5_obey_c100 ?_
          exact z_iret C 125 hA hQ rfl dX5_obey_125 ⟨((if_neg c1_1).trans ((if_pos c1_3).trans ((if_neg c114_4).trans ((if_neg c120_5).trans rfl)))).symm, ((if_neg c1_1).trans ((if_pos c1_3).trans ((if_neg c114_4).trans ((if_neg c120_5).trans rfl)))).symm⟩
    · by_cases c1_8 : a1 = 101
      · refine z_tableIn C 1 149 dX5_obey_1 (by rw [c1_8]; decide +kernel) (by rw [c1_8]; decide +kernel) (off := 148) (by rw [c1_8]; decide +kernel) (by decide) ?_
        refine z_ldc C 149 (v := (-1000001)) dX5_obey_149 mX5_obey_c100 ?_
        exact z_iret C 151 hA hQ rfl dX5_obey_151 ⟨((if_neg c1_1).trans ((if_neg c1_3).trans ((if_pos c1_8).trans rfl))).symm, ((if_neg c1_1).trans ((if_neg c1_3).trans ((if_pos c1_8).trans rfl))).symm⟩
      · by_cases c1_9 : a1 = 102
        · refine z_tableIn C 1 87 dX5_obey_1 (by rw [c1_9]; decide +kernel) (by rw [c1_9]; decide +kernel) (off := 86) (by rw [c1_9]; decide +kernel) (by decide) ?_
          refine z_aload_n C 87 0 0 dX5_obey_87 rfl rfl ?_
          refine z_iload_n C 88 2 2 dX5_obey_88 rfl rfl ?_
          refine z_iload_n C 89 3 3 dX5_obey_89 rfl rfl ?_
          refine z_virtIe C 90 (As := [.int a2, .int a3]) (st := []) (id := b) (kX5_putFlow l D cy K n ad hJ (b) hO t a2 a3 ) dX5_obey_90 rfl gX5_obey_X5_putFlow hyX5_putFlow rfl (by decide) (by decide) hO.h0 rfl hO.e0 rfl rfl rfl (Nat.le_of_ble_eq_true rfl) ?_
          exact z_iret C 93 hA hQ rfl dX5_obey_93 ⟨((if_neg c1_1).trans ((if_neg c1_3).trans ((if_neg c1_8).trans ((if_pos c1_9).trans rfl)))).symm, ((if_neg c1_1).trans ((if_neg c1_3).trans ((if_neg c1_8).trans ((if_pos c1_9).trans rfl)))).symm⟩
        · by_cases c1_11 : a1 = 103
          · refine z_tableIn C 1 149 dX5_obey_1 (by rw [c1_11]; decide +kernel) (by rw [c1_11]; decide +kernel) (off := 148) (by rw [c1_11]; decide +kernel) (by decide) ?_
            refine z_ldc C 149 (v := (-1000001)) dX5_obey_149 mX5_obey_c100 ?_
            exact z_iret C 151 hA hQ rfl dX5_obey_151 ⟨((if_neg c1_1).trans ((if_neg c1_3).trans ((if_neg c1_8).trans ((if_neg c1_9).trans ((if_pos c1_11).trans rfl))))).symm, ((if_neg c1_1).trans ((if_neg c1_3).trans ((if_neg c1_8).trans ((if_neg c1_9).trans ((if_pos c1_11).trans rfl))))).symm⟩
          · by_cases c1_12 : a1 = 104
            · refine z_tableIn C 1 80 dX5_obey_1 (by rw [c1_12]; decide +kernel) (by rw [c1_12]; decide +kernel) (off := 79) (by rw [c1_12]; decide +kernel) (by decide) ?_
              refine z_aload_n C 80 0 0 dX5_obey_80 rfl rfl ?_
              refine z_iload_n C 81 2 2 dX5_obey_81 rfl rfl ?_
              refine z_iload_n C 82 3 3 dX5_obey_82 rfl rfl ?_
              refine z_virtIe C 83 (As := [.int a2, .int a3]) (st := []) (id := b) (kX5_addHouse l D cy K n ad hJ (b) hO t ((t (b) 4).toNatClampNeg) a2 a3 hs.2.2.c.1 hs.2.2.c.2) dX5_obey_83 rfl gX5_obey_X5_addHouse hyX5_addHouse rfl (by decide) (by decide) hO.h0 rfl hO.e0 rfl rfl rfl (Nat.le_of_ble_eq_true rfl) ?_
              exact z_iret C 86 hA hQ rfl dX5_obey_86 ⟨((if_neg c1_1).trans ((if_neg c1_3).trans ((if_neg c1_8).trans ((if_neg c1_9).trans ((if_neg c1_11).trans ((if_pos c1_12).trans rfl)))))).symm, ((if_neg c1_1).trans ((if_neg c1_3).trans ((if_neg c1_8).trans ((if_neg c1_9).trans ((if_neg c1_11).trans ((if_pos c1_12).trans rfl)))))).symm⟩
            · by_cases c1_14 : a1 = 105
              · refine z_tableIn C 1 149 dX5_obey_1 (by rw [c1_14]; decide +kernel) (by rw [c1_14]; decide +kernel) (off := 148) (by rw [c1_14]; decide +kernel) (by decide) ?_
                refine z_ldc C 149 (v := (-1000001)) dX5_obey_149 mX5_obey_c100 ?_
                exact z_iret C 151 hA hQ rfl dX5_obey_151 ⟨((if_neg c1_1).trans ((if_neg c1_3).trans ((if_neg c1_8).trans ((if_neg c1_9).trans ((if_neg c1_11).trans ((if_neg c1_12).trans ((if_pos c1_14).trans rfl))))))).symm, ((if_neg c1_1).trans ((if_neg c1_3).trans ((if_neg c1_8).trans ((if_neg c1_9).trans ((if_neg c1_11).trans ((if_neg c1_12).trans ((if_pos c1_14).trans rfl))))))).symm⟩
              · by_cases c1_15 : a1 = 106
                · refine z_tableIn C 1 149 dX5_obey_1 (by rw [c1_15]; decide +kernel) (by rw [c1_15]; decide +kernel) (off := 148) (by rw [c1_15]; decide +kernel) (by decide) ?_
                  refine z_ldc C 149 (v := (-1000001)) dX5_obey_149 mX5_obey_c100 ?_
                  exact z_iret C 151 hA hQ rfl dX5_obey_151 ⟨((if_neg c1_1).trans ((if_neg c1_3).trans ((if_neg c1_8).trans ((if_neg c1_9).trans ((if_neg c1_11).trans ((if_neg c1_12).trans ((if_neg c1_14).trans ((if_pos c1_15).trans rfl)))))))).symm, ((if_neg c1_1).trans ((if_neg c1_3).trans ((if_neg c1_8).trans ((if_neg c1_9).trans ((if_neg c1_11).trans ((if_neg c1_12).trans ((if_neg c1_14).trans ((if_pos c1_15).trans rfl)))))))).symm⟩
                · by_cases c1_16 : a1 = 107
                  · refine z_tableIn C 1 149 dX5_obey_1 (by rw [c1_16]; decide +kernel) (by rw [c1_16]; decide +kernel) (off := 148) (by rw [c1_16]; decide +kernel) (by decide) ?_
                    refine z_ldc C 149 (v := (-1000001)) dX5_obey_149 mX5_obey_c100 ?_
                    exact z_iret C 151 hA hQ rfl dX5_obey_151 ⟨((if_neg c1_1).trans ((if_neg c1_3).trans ((if_neg c1_8).trans ((if_neg c1_9).trans ((if_neg c1_11).trans ((if_neg c1_12).trans ((if_neg c1_14).trans ((if_neg c1_15).trans ((if_pos c1_16).trans rfl))))))))).symm, ((if_neg c1_1).trans ((if_neg c1_3).trans ((if_neg c1_8).trans ((if_neg c1_9).trans ((if_neg c1_11).trans ((if_neg c1_12).trans ((if_neg c1_14).trans ((if_neg c1_15).trans ((if_pos c1_16).trans rfl))))))))).symm⟩
                  · by_cases c1_17 : a1 = 108
                    · refine z_tableIn C 1 94 dX5_obey_1 (by rw [c1_17]; decide +kernel) (by rw [c1_17]; decide +kernel) (off := 93) (by rw [c1_17]; decide +kernel) (by decide) ?_
                      refine z_aload_n C 94 0 0 dX5_obey_94 rfl rfl ?_
                      refine z_iload_n C 95 2 2 dX5_obey_95 rfl rfl ?_
                      refine z_virtIe C 96 (As := [.int a2]) (st := []) (id := b) (kX5_turnLock l D cy K n ad hJ (b) hO t a2 ) dX5_obey_96 rfl gX5_obey_X5_turnLock hyX5_turnLock rfl (by decide) (by decide) hO.h0 rfl hO.e0 rfl rfl rfl (Nat.le_of_ble_eq_true rfl) ?_
                      exact z_iret C 99 hA hQ rfl dX5_obey_99 ⟨((if_neg c1_1).trans ((if_neg c1_3).trans ((if_neg c1_8).trans ((if_neg c1_9).trans ((if_neg c1_11).trans ((if_neg c1_12).trans ((if_neg c1_14).trans ((if_neg c1_15).trans ((if_neg c1_16).trans ((if_pos c1_17).trans rfl)))))))))).symm, ((if_neg c1_1).trans ((if_neg c1_3).trans ((if_neg c1_8).trans ((if_neg c1_9).trans ((if_neg c1_11).trans ((if_neg c1_12).trans ((if_neg c1_14).trans ((if_neg c1_15).trans ((if_neg c1_16).trans ((if_pos c1_17).trans rfl)))))))))).symm⟩
                    · by_cases c1_19 : a1 = 109
                      · refine z_tableIn C 1 149 dX5_obey_1 (by rw [c1_19]; decide +kernel) (by rw [c1_19]; decide +kernel) (off := 148) (by rw [c1_19]; decide +kernel) (by decide) ?_
                        refine z_ldc C 149 (v := (-1000001)) dX5_obey_149 mX5_obey_c100 ?_
                        exact z_iret C 151 hA hQ rfl dX5_obey_151 ⟨((if_neg c1_1).trans ((if_neg c1_3).trans ((if_neg c1_8).trans ((if_neg c1_9).trans ((if_neg c1_11).trans ((if_neg c1_12).trans ((if_neg c1_14).trans ((if_neg c1_15).trans ((if_neg c1_16).trans ((if_neg c1_17).trans ((if_pos c1_19).trans rfl))))))))))).symm, ((if_neg c1_1).trans ((if_neg c1_3).trans ((if_neg c1_8).trans ((if_neg c1_9).trans ((if_neg c1_11).trans ((if_neg c1_12).trans ((if_neg c1_14).trans ((if_neg c1_15).trans ((if_neg c1_16).trans ((if_neg c1_17).trans ((if_pos c1_19).trans rfl))))))))))).symm⟩
                      · by_cases c1_20 : a1 = 110
                        · refine z_tableIn C 1 149 dX5_obey_1 (by rw [c1_20]; decide +kernel) (by rw [c1_20]; decide +kernel) (off := 148) (by rw [c1_20]; decide +kernel) (by decide) ?_
                          refine z_ldc C 149 (v := (-1000001)) dX5_obey_149 mX5_obey_c100 ?_
                          exact z_iret C 151 hA hQ rfl dX5_obey_151 ⟨((if_neg c1_1).trans ((if_neg c1_3).trans ((if_neg c1_8).trans ((if_neg c1_9).trans ((if_neg c1_11).trans ((if_neg c1_12).trans ((if_neg c1_14).trans ((if_neg c1_15).trans ((if_neg c1_16).trans ((if_neg c1_17).trans ((if_neg c1_19).trans ((if_pos c1_20).trans rfl)))))))))))).symm, ((if_neg c1_1).trans ((if_neg c1_3).trans ((if_neg c1_8).trans ((if_neg c1_9).trans ((if_neg c1_11).trans ((if_neg c1_12).trans ((if_neg c1_14).trans ((if_neg c1_15).trans ((if_neg c1_16).trans ((if_neg c1_17).trans ((if_neg c1_19).trans ((if_pos c1_20).trans rfl)))))))))))).symm⟩
                        · by_cases c1_21 : a1 = 111
                          · refine z_tableIn C 1 149 dX5_obey_1 (by rw [c1_21]; decide +kernel) (by rw [c1_21]; decide +kernel) (off := 148) (by rw [c1_21]; decide +kernel) (by decide) ?_
                            refine z_ldc C 149 (v := (-1000001)) dX5_obey_149 mX5_obey_c100 ?_
                            exact z_iret C 151 hA hQ rfl dX5_obey_151 ⟨((if_neg c1_1).trans ((if_neg c1_3).trans ((if_neg c1_8).trans ((if_neg c1_9).trans ((if_neg c1_11).trans ((if_neg c1_12).trans ((if_neg c1_14).trans ((if_neg c1_15).trans ((if_neg c1_16).trans ((if_neg c1_17).trans ((if_neg c1_19).trans ((if_neg c1_20).trans ((if_pos c1_21).trans rfl))))))))))))).symm, ((if_neg c1_1).trans ((if_neg c1_3).trans ((if_neg c1_8).trans ((if_neg c1_9).trans ((if_neg c1_11).trans ((if_neg c1_12).trans ((if_neg c1_14).trans ((if_neg c1_15).trans ((if_neg c1_16).trans ((if_neg c1_17).trans ((if_neg c1_19).trans ((if_neg c1_20).trans ((if_pos c1_21).trans rfl))))))))))))).symm⟩
                          · by_cases c1_22 : a1 = 112
                            · refine z_tableIn C 1 149 dX5_obey_1 (by rw [c1_22]; decide +kernel) (by rw [c1_22]; decide +kernel) (off := 148) (by rw [c1_22]; decide +kernel) (by decide) ?_
                              refine z_ldc C 149 (v := (-1000001)) dX5_obey_149 mX5_obey_c100 ?_
                              exact z_iret C 151 hA hQ rfl dX5_obey_151 ⟨((if_neg c1_1).trans ((if_neg c1_3).trans ((if_neg c1_8).trans ((if_neg c1_9).trans ((if_neg c1_11).trans ((if_neg c1_12).trans ((if_neg c1_14).trans ((if_neg c1_15).trans ((if_neg c1_16).trans ((if_neg c1_17).trans ((if_neg c1_19).trans ((if_neg c1_20).trans ((if_neg c1_21).trans ((if_pos c1_22).trans rfl)))))))))))))).symm, ((if_neg c1_1).trans ((if_neg c1_3).trans ((if_neg c1_8).trans ((if_neg c1_9).trans ((if_neg c1_11).trans ((if_neg c1_12).trans ((if_neg c1_14).trans ((if_neg c1_15).trans ((if_neg c1_16).trans ((if_neg c1_17).trans ((if_neg c1_19).trans ((if_neg c1_20).trans ((if_neg c1_21).trans ((if_pos c1_22).trans rfl)))))))))))))).symm⟩
                            · by_cases c1_23 : a1 = 113
                              · refine z_tableIn C 1 149 dX5_obey_1 (by rw [c1_23]; decide +kernel) (by rw [c1_23]; decide +kernel) (off := 148) (by rw [c1_23]; decide +kernel) (by decide) ?_
                                refine z_ldc C 149 (v := (-1000001)) dX5_obey_149 mX5_obey_c100 ?_
                                exact z_iret C 151 hA hQ rfl dX5_obey_151 ⟨((if_neg c1_1).trans ((if_neg c1_3).trans ((if_neg c1_8).trans ((if_neg c1_9).trans ((if_neg c1_11).trans ((if_neg c1_12).trans ((if_neg c1_14).trans ((if_neg c1_15).trans ((if_neg c1_16).trans ((if_neg c1_17).trans ((if_neg c1_19).trans ((if_neg c1_20).trans ((if_neg c1_21).trans ((if_neg c1_22).trans ((if_pos c1_23).trans rfl))))))))))))))).symm, ((if_neg c1_1).trans ((if_neg c1_3).trans ((if_neg c1_8).trans ((if_neg c1_9).trans ((if_neg c1_11).trans ((if_neg c1_12).trans ((if_neg c1_14).trans ((if_neg c1_15).trans ((if_neg c1_16).trans ((if_neg c1_17).trans ((if_neg c1_19).trans ((if_neg c1_20).trans ((if_neg c1_21).trans ((if_neg c1_22).trans ((if_pos c1_23).trans rfl))))))))))))))).symm⟩
                              · by_cases c1_24 : a1 = 114
                                · refine z_tableIn C 1 100 dX5_obey_1 (by rw [c1_24]; decide +kernel) (by rw [c1_24]; decide +kernel) (off := 99) (by rw [c1_24]; decide +kernel) (by decide) ?_
                                  refine z_aload_n C 100 0 0 dX5_obey_100 rfl rfl ?_
                                  refine z_iload_n C 101 2 2 dX5_obey_101 rfl rfl ?_
                                  refine z_virtIe C 102 (As := [.int a2]) (st := []) (id := b) (kX5_readIfOpen l D cy K n ad hJ (b) hO t N a2 hs) dX5_obey_102 rfl gX5_obey_X5_readIfOpen hyX5_readIfOpen rfl (by decide) (by decide) hO.h0 rfl hO.e0 rfl rfl rfl (Nat.le_of_ble_eq_true rfl) ?_
                                  exact z_iret C 105 hA hQ rfl dX5_obey_105 ⟨((if_neg c1_1).trans ((if_neg c1_3).trans ((if_neg c1_8).trans ((if_neg c1_9).trans ((if_neg c1_11).trans ((if_neg c1_12).trans ((if_neg c1_14).trans ((if_neg c1_15).trans ((if_neg c1_16).trans ((if_neg c1_17).trans ((if_neg c1_19).trans ((if_neg c1_20).trans ((if_neg c1_21).trans ((if_neg c1_22).trans ((if_neg c1_23).trans ((if_pos c1_24).trans rfl)))))))))))))))).symm, ((if_neg c1_1).trans ((if_neg c1_3).trans ((if_neg c1_8).trans ((if_neg c1_9).trans ((if_neg c1_11).trans ((if_neg c1_12).trans ((if_neg c1_14).trans ((if_neg c1_15).trans ((if_neg c1_16).trans ((if_neg c1_17).trans ((if_neg c1_19).trans ((if_neg c1_20).trans ((if_neg c1_21).trans ((if_neg c1_22).trans ((if_neg c1_23).trans ((if_pos c1_24).trans rfl)))))))))))))))).symm⟩
                                · have qc1_1 := lv_neT (a := 99) c1_1 rfl
                                  have qc1_3 := lv_neT (a := 100) c1_3 rfl
                                  have qc1_8 := lv_neT (a := 101) c1_8 rfl
                                  have qc1_9 := lv_neT (a := 102) c1_9 rfl
                                  have qc1_11 := lv_neT (a := 103) c1_11 rfl
                                  have qc1_12 := lv_neT (a := 104) c1_12 rfl
                                  have qc1_14 := lv_neT (a := 105) c1_14 rfl
                                  have qc1_15 := lv_neT (a := 106) c1_15 rfl
                                  have qc1_16 := lv_neT (a := 107) c1_16 rfl
                                  have qc1_17 := lv_neT (a := 108) c1_17 rfl
                                  have qc1_19 := lv_neT (a := 109) c1_19 rfl
                                  have qc1_20 := lv_neT (a := 110) c1_20 rfl
                                  have qc1_21 := lv_neT (a := 111) c1_21 rfl
                                  have qc1_22 := lv_neT (a := 112) c1_22 rfl
                                  have qc1_23 := lv_neT (a := 113) c1_23 rfl
                                  have qc1_24 := lv_neT (a := 114) c1_24 rfl
                                  refine z_tableOut C 1 149 dX5_obey_1 (by omega) (by decide) ?_
                                  refine z_ldc C 149 (v := (-1000001)) dX5_obey_149 mX5_obey_c100 ?_
                                  exact z_iret C 151 hA hQ rfl dX5_obey_151 ⟨((if_neg c1_1).trans ((if_neg c1_3).trans ((if_neg c1_8).trans ((if_neg c1_9).trans ((if_neg c1_11).trans ((if_neg c1_12).trans ((if_neg c1_14).trans ((if_neg c1_15).trans ((if_neg c1_16).trans ((if_neg c1_17).trans ((if_neg c1_19).trans ((if_neg c1_20).trans ((if_neg c1_21).trans ((if_neg c1_22).trans ((if_neg c1_23).trans ((if_neg c1_24).trans rfl)))))))))))))))).symm, ((if_neg c1_1).trans ((if_neg c1_3).trans ((if_neg c1_8).trans ((if_neg c1_9).trans ((if_neg c1_11).trans ((if_neg c1_12).trans ((if_neg c1_14).trans ((if_neg c1_15).trans ((if_neg c1_16).trans ((if_neg c1_17).trans ((if_neg c1_19).trans ((if_neg c1_20).trans ((if_neg c1_21).trans ((if_neg c1_22).trans ((if_neg c1_23).trans ((if_neg c1_24).trans rfl)))))))))))))))).symm⟩
