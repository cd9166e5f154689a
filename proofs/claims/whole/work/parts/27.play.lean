/-- what a run through the text keeps -/
def mQ (t u : zM) : Prop := mOK u ∧ mT u ∧ (∀ x, 3 ≤ x → x ≠ 6 → x ≠ 7 → u x = t x) ∧ u 0 7 = t 0 7
theorem mQ.put {t u : zM} (h : mQ t u) {k : Nat} {v : Int32} (h4 : k ≠ 4) (h7 : k ≠ 7) : mQ t (zset u 0 k v) :=
  ⟨mOK_put0 h.1 h4, mT_set h.2.1 (Or.inr h7), fun x h3 h6 h7 => (zset_id _ _ _ (by omega)).trans (h.2.2.1 x h3 h6 h7), (zset_nk _ _ _ (Ne.symm h7)).trans h.2.2.2⟩
theorem mQ.parse {t u : zM} (h : mQ t u) : mQ t (sX7_parses u) :=
  ⟨mOK_fr h.1 (sX7_parses_o _ (by decide) (by decide)) (sX7_parses_o _ (by decide) (by decide)) (sX7_parses_k _ (by decide) (by decide)), mT_fr h.2.1 (sX7_parses_k _ (by decide) (by decide)), fun x h3 h6 h7 => (sX7_parses_o _ (by omega) h7).trans (h.2.2.1 x h3 h6 h7), (sX7_parses_k _ (by decide) (by decide)).trans h.2.2.2⟩
theorem mQ.does {t u : zM} (h : mQ t u) : mQ t (sX7_does u (u 1 400).toNatClampNeg) := by
  have hK := sX7_does_K h.1
  exact ⟨hK.1, mT_fr h.2.1 (hK.2.1 7 (by decide)), fun x h3 h6 h7 => (hK.2.2 x h3 h6).trans (h.2.2.1 x h3 h6 h7), (hK.2.1 7 (by decide)).trans h.2.2.2⟩
theorem lsX7_plays_22_Q (t0 t : zM) : ∀ (j : Nat) (v : Int32) (k : Nat) (u : zM), mQ t u → mQ t (lsX7_plays_22 t0 j v k u) := by
  intro j
  induction j with
  | zero => intro v k u h; exact h
  | succ j ih =>
    intro v k u h
    have h1 := (h.put (k := 10) (v := u 0 9) (by decide) (by decide)).parse
    have e : (sX7_parses (zset u 0 10 (u 0 9))) 1 400 = u 1 400 := congrFun ((sX7_parses_o _ (by decide) (by decide)).trans (zset_id _ _ _ (by decide))) 400
    have h2 := h1.does
    rw [e] at h2
    unfold lsX7_plays_22
    split
    · exact h.put (by decide) (by decide)
    · split
      · exact h.put (by decide) (by decide)
      · split
        · exact ih _ _ _ (((h1.put (by decide) (by decide)).put (by decide) (by decide)).put (by decide) (by decide))
        · split
          · exact ih _ _ _ (((h2.put (by decide) (by decide)).put (by decide) (by decide)).put (by decide) (by decide))
          · exact ih _ _ _ (((h2.put (by decide) (by decide)).put (by decide) (by decide)).put (by decide) (by decide))
theorem sX7_plays_Q {t : zM} (hT : mT t) (hok : mOK t) : mQ t (sX7_plays t) :=
  lsX7_plays_22_Q t t _ _ _ _ ((((mQ.put ⟨hok, hT, fun _ _ _ _ => rfl, rfl⟩ (by decide) (by decide)).put (by decide) (by decide)).put (by decide) (by decide)).put (by decide) (by decide))
theorem mOK_zcp {t : zM} (h : mOK t) {a c m : Nat} (h0 : 0 ≠ c) (h1 : 1 ≠ c) (h6 : 6 ≠ c) : mOK (zcp t a c m) := mOK_fr h (if_neg h1) (if_neg h6) (congrFun (if_neg h0) 4)
theorem mT_zcp {t : zM} (h : mT t) {a c m : Nat} (h0 : 0 ≠ c) : mT (zcp t a c m) := mT_fr h (congrFun (if_neg h0) 7)
/-- the reference's numbers put back from a copy -/
theorem mOK_back {t S : zM} (h : mOK t) (hS : mOK S) {a : Nat} (ha : ∀ i, i < 414 → S a i = t 1 i) : mOK (zcp S a 1 414) := by
  obtain ⟨⟨H, N, hN, h0, h1, h2, h3, h4, h5⟩, hp⟩ := h
  obtain ⟨⟨H', N', hN', hm'⟩, hp'⟩ := hS
  have e : ∀ i, i < 414 → zcp S a 1 414 1 i = t 1 i := fun i hi => by
    show (if (1 : Nat) = 1 then (fun k => if k < 414 then S a k else S 1 k) else S 1) i = t 1 i
    rw [if_pos rfl]
    show (if i < 414 then S a i else S 1 i) = t 1 i
    rw [if_pos hi]
    exact ha i hi
  refine ⟨⟨H, N, hN, h0, (e _ (by decide)).trans h1, (e _ (by decide)).trans h2, fun q hq => ?_, fun k hk => ?_, ?_⟩, mP_fr hp' (if_neg (by decide))⟩
  · rw [e _ (by omega)]; exact h3 q hq
  · rw [show zcp S a 1 414 6 = S 6 from if_neg (by decide)]; exact hm'.2.2.2.2.1 k hk
  · rw [e _ (by decide)]; exact h5
def rX7_fault (t : zM) (a1 : Int32) : Int32 := (if (rX7_in a1 0 2) = 0 then (-1000001) else (if (rX7_plays (zcp t (1) (3) 414)) = 0 then (if a1 = 0 then ((sX7_plays (zcp t (1) (3) 414)) (0) 10) else (if a1 = 1 then ((sX7_plays (zcp t (1) (3) 414)) (0) 11) else ((sX7_plays (zcp t (1) (3) 414)) (0) 12))) else (-1000004)))
def sX7_fault (t : zM) (a1 : Int32) : zM := (if (rX7_in a1 0 2) = 0 then t else (if (rX7_plays (zcp t (1) (3) 414)) = 0 then (if a1 = 0 then (zcp (sX7_plays (zcp t (1) (3) 414)) (3) (1) 414) else (if a1 = 1 then (zcp (sX7_plays (zcp t (1) (3) 414)) (3) (1) 414) else (zcp (sX7_plays (zcp t (1) (3) 414)) (3) (1) 414))) else (zcp (sX7_plays (zcp t (1) (3) 414)) (3) (1) 414)))
theorem mX7_fault_f7 : Cond.fieldLink RX7 7 "WrongedMetersModel" "s" "[I" ∈ wsX7_fault := by decide +kernel
set_option maxRecDepth 20000 in
theorem mX7_fault_in7 : ∀ w ∈ u_ws RX7 TX7 16, w ∈ wsX7_fault := by decide +kernel
theorem mX7_fault_f16 : Cond.fieldLink RX7 16 "WrongedMetersModel" "held" "[I" ∈ wsX7_fault := by decide +kernel
theorem mX7_fault_f197 : Cond.fieldLink RX7 197 "WrongedMetersModel" "cause" "I" ∈ wsX7_fault := by decide +kernel
theorem mX7_fault_f194 : Cond.fieldLink RX7 194 "WrongedMetersModel" "reason" "I" ∈ wsX7_fault := by decide +kernel
theorem mX7_fault_f181 : Cond.fieldLink RX7 181 "WrongedMetersModel" "from" "I" ∈ wsX7_fault := by decide +kernel
theorem mX7_fault_c47 : Cond.constant RX7 47 (-1000004) ∈ wsX7_fault := by decide +kernel
theorem mX7_fault_c96 : Cond.constant RX7 96 (-1000001) ∈ wsX7_fault := by decide +kernel
theorem hyX7_fault : yX7_fault.cls = RX7 ∧ yX7_fault.cls ≠ "java/lang/invoke/MethodHandle" ∧ yX7_fault.cls ≠ "java/lang/invoke/VarHandle" ∧ (parseMethodDescriptor yX7_fault.desc).map (fun d => d.parameters.length) = some 1 := by decide +kernel
set_option maxHeartbeats 3000000 in
set_option maxRecDepth 100000 in
theorem kX7_fault (l : Launch) (D : va_G) (cy : Nat → ClassId) (K : zK) (n : Nat) (ad : Nat → Nat) (hJ : zJ n ad) (hO : zModel cy K n ad) (t : zM) (a1 : Int32) (hT : mT t) (hok : mOK t) : zI l yX7_fault wsX7_fault 11 D cy K n ad t [.ref (ad (0)), .int a1] (fun r t1 => r = rX7_fault t a1 ∧ t1 = sX7_fault t a1) := by
  refine z_startI (cc := cX7_fault) (mL := 3) (ret := (some .int)) (own := RX7) rfl (by decide +kernel) rfl hJ (Nat.le_of_ble_eq_true rfl) ?_
  intro p e s m args below meth c A hA Q hQ C
  refine z_iload_n C 0 1 1 dX7_fault_0 rfl rfl ?_
  refine z_iconst C 1 (v := 0) dX7_fault_1 (by decide +kernel) ?_
  refine z_iconst C 2 (v := 2) dX7_fault_2 (by decide +kernel) ?_
  refine z_statIe C 3 (As := [.int a1, .int 0, .int 2]) (st := []) (kX7_in l D cy K n ad hJ t a1 0 2 ) dX7_fault_3 rfl gX7_fault_X7_in hyX7_in rfl (by decide) (by decide) rfl rfl (Nat.le_of_ble_eq_true rfl) ?_
  refine z_if_ne C 6 12 dX7_fault_6 (by decide) (fun c6_2 => ?_) (fun c6_2 => ?_)
  · refine z_aload_n C 12 0 0 dX7_fault_12 rfl rfl ?_
    refine z_getr C 13 (a9 := ad (1)) (0) 0 dX7_fault_13 hO.h0 hO.e0 mX7_fault_in7 rfl (by decide) mX7_fault_f7 (fun _ => rfl) ?_
    refine z_aload_n C 16 0 0 dX7_fault_16 rfl rfl ?_
    refine z_getr C 17 (a9 := ad (3)) (0) 2 dX7_fault_17 hO.h0 hO.e0 mX7_fault_in7 rfl (by decide) mX7_fault_f16 (fun _ => rfl) ?_
    refine z_statVe C 20 (As := [.ref (ad (1)), .ref (ad (3))]) (st := []) (kX7_copies l D cy K n ad hJ t (1) (3) hO.h1 hO.h3 hO.e1 hO.e3) dX7_fault_20 rfl gX7_fault_X7_copies hyX7_copies rfl (by decide) (by decide) rfl rfl (Nat.le_of_ble_eq_true rfl) ?_
    refine z_nt (zcp t (1) (3) 414) (sX7_copies_e _ (by decide)) ?_
    have hT1 : mT (zcp t (1) (3) 414) := mT_zcp hT (by decide)
    have hok1 : mOK (zcp t (1) (3) 414) := mOK_zcp hok (by decide) (by decide) (by decide)
    have hQ1 := sX7_plays_Q hT1 hok1
    refine z_aload_n C 23 0 0 dX7_fault_23 rfl rfl ?_
    refine z_virtIe C 24 (As := []) (st := []) (id := 0) (kX7_plays l D cy K n ad hJ hO (zcp t (1) (3) 414)  hT1 hok1) dX7_fault_24 rfl gX7_fault_X7_plays hyX7_plays rfl (by decide) (by decide) hO.h0 rfl hO.e0 rfl rfl rfl (Nat.le_of_ble_eq_true rfl) ?_
    refine z_istore_n C 27 2 ([(2, .int (rX7_plays (zcp t (1) (3) 414))), (0, .ref (ad (0))), (1, .int a1)]) dX7_fault_27 rfl (by decide) rfl ?_
    refine z_aload_n C 28 0 1 dX7_fault_28 rfl rfl ?_
    refine z_getr C 29 (a9 := ad (3)) (0) 2 dX7_fault_29 hO.h0 hO.e0 mX7_fault_in7 rfl (by decide) mX7_fault_f16 (fun _ => rfl) ?_
    refine z_aload_n C 32 0 1 dX7_fault_32 rfl rfl ?_
    refine z_getr C 33 (a9 := ad (1)) (0) 0 dX7_fault_33 hO.h0 hO.e0 mX7_fault_in7 rfl (by decide) mX7_fault_f7 (fun _ => rfl) ?_
    refine z_statVe C 36 (As := [.ref (ad (3)), .ref (ad (1))]) (st := []) (kX7_copies l D cy K n ad hJ (sX7_plays (zcp t (1) (3) 414)) (3) (1) hO.h3 hO.h1 hO.e3 hO.e1) dX7_fault_36 rfl gX7_fault_X7_copies hyX7_copies rfl (by decide) (by decide) rfl rfl (Nat.le_of_ble_eq_true rfl) ?_
    refine z_nt (zcp (sX7_plays (zcp t (1) (3) 414)) (3) (1) 414) (sX7_copies_e _ (by decide)) ?_
    refine z_iload_n C 39 2 0 dX7_fault_39 rfl rfl ?_
    refine z_if_eq C 40 48 dX7_fault_40 (by decide) (fun c40_6 => ?_) (fun c40_6 => ?_)
    · refine z_iload_n C 48 1 2 dX7_fault_48 rfl rfl ?_
      refine z_if_ne C 49 59 dX7_fault_49 (by decide) (fun c49_7 => ?_) (fun c49_7 => ?_)
      · refine z_iload_n C 59 1 2 dX7_fault_59 rfl rfl ?_
        refine z_iconst C 60 (v := 1) dX7_fault_60 (by decide +kernel) ?_
        refine z_icmp_ne C 61 71 dX7_fault_61 (by decide) (fun c61_8 => ?_) (fun c61_8 => ?_)
        · refine z_aload_n C 71 0 1 dX7_fault_71 rfl rfl ?_
          refine z_geti C 72 (0) 12 dX7_fault_72 hO.h0 hO.e0 mX7_fault_in7 rfl (by decide) mX7_fault_f197 (fun _ => rfl) ?_
          refine z_nv ((sX7_plays (zcp t (1) (3) 414)) (0) 12) (zcp_id _ _ _ _ (by decide) _) ?_
          exact z_iret C 75 hA hQ rfl dX7_fault_75 ⟨((if_neg c6_2).trans ((if_pos c40_6).trans ((if_neg c49_7).trans ((if_neg c61_8).trans rfl)))).symm, ((if_neg c6_2).trans ((if_pos c40_6).trans ((if_neg c49_7).trans ((if_neg c61_8).trans rfl)))).symm⟩
        · refine z_aload_n C 64 0 1 dX7_fault_64 rfl rfl ?_
          refine z_geti C 65 (0) 11 dX7_fault_65 hO.h0 hO.e0 mX7_fault_in7 rfl (by decide) mX7_fault_f194 (fun _ => rfl) ?_
          refine z_nv ((sX7_plays (zcp t (1) (3) 414)) (0) 11) (zcp_id _ _ _ _ (by decide) _) ?_
          refine z_goto C 68 75 dX7_fault_68 (by decide) ?_
          exact z_iret C 75 hA hQ rfl dX7_fault_75 ⟨((if_neg c6_2).trans ((if_pos c40_6).trans ((if_neg c49_7).trans ((if_pos c61_8).trans rfl)))).symm, ((if_neg c6_2).trans ((if_pos c40_6).trans ((if_neg c49_7).trans ((if_pos c61_8).trans rfl)))).symm⟩
      · refine z_aload_n C 52 0 1 dX7_fault_52 rfl rfl ?_
        refine z_geti C 53 (0) 10 dX7_fault_53 hO.h0 hO.e0 mX7_fault_in7 rfl (by decide) mX7_fault_f181 (fun _ => rfl) ?_
        refine z_nv ((sX7_plays (zcp t (1) (3) 414)) (0) 10) (zcp_id _ _ _ _ (by decide) _) ?_
        refine z_goto C 56 75 dX7_fault_56 (by decide) ?_
        exact z_iret C 75 hA hQ rfl dX7_fault_75 ⟨((if_neg c6_2).trans ((if_pos c40_6).trans ((if_pos c49_7).trans rfl))).symm, ((if_neg c6_2).trans ((if_pos c40_6).trans ((if_pos c49_7).trans rfl))).symm⟩
    · refine z_ldc C 43 (v := (-1000004)) dX7_fault_43 mX7_fault_c47 ?_
      refine z_goto C 45 75 dX7_fault_45 (by decide) ?_
      exact z_iret C 75 hA hQ rfl dX7_fault_75 ⟨((if_neg c6_2).trans ((if_neg c40_6).trans rfl)).symm, ((if_neg c6_2).trans ((if_neg c40_6).trans rfl)).symm⟩
  · refine z_ldc C 9 (v := (-1000001)) dX7_fault_9 mX7_fault_c96 ?_
    exact z_iret C 11 hA hQ rfl dX7_fault_11 ⟨((if_pos c6_2).trans rfl).symm, ((if_pos c6_2).trans rfl).symm⟩
def rX7_play (t : zM)  : Int32 := (if (rX7_plays (zcp t (1) (3) 414)) = 0 then (-1000002) else (if (rX7_plays (sX7_changes (zcp (sX7_plays (zcp t (1) (3) 414)) (3) (1) 414))) = 0 then (-1000004) else ((sX7_plays (sX7_changes (zcp (sX7_plays (zcp t (1) (3) 414)) (3) (1) 414))) (0) 13)))
def sX7_play (t : zM)  : zM := (if (rX7_plays (zcp t (1) (3) 414)) = 0 then (zcp (sX7_plays (zcp t (1) (3) 414)) (3) (1) 414) else (if (rX7_plays (sX7_changes (zcp (sX7_plays (zcp t (1) (3) 414)) (3) (1) 414))) = 0 then (sX7_plays (sX7_changes (zcp (sX7_plays (zcp t (1) (3) 414)) (3) (1) 414))) else (sX7_plays (sX7_changes (zcp (sX7_plays (zcp t (1) (3) 414)) (3) (1) 414)))))
theorem mX7_play_f7 : Cond.fieldLink RX7 7 "WrongedMetersModel" "s" "[I" ∈ wsX7_play := by decide +kernel
set_option maxRecDepth 20000 in
theorem mX7_play_in7 : ∀ w ∈ u_ws RX7 TX7 16, w ∈ wsX7_play := by decide +kernel
theorem mX7_play_f16 : Cond.fieldLink RX7 16 "WrongedMetersModel" "held" "[I" ∈ wsX7_play := by decide +kernel
theorem mX7_play_c47 : Cond.constant RX7 47 (-1000004) ∈ wsX7_play := by decide +kernel
theorem mX7_play_f184 : Cond.fieldLink RX7 184 "WrongedMetersModel" "orders" "I" ∈ wsX7_play := by decide +kernel
theorem mX7_play_c100 : Cond.constant RX7 100 (-1000002) ∈ wsX7_play := by decide +kernel
theorem hyX7_play : yX7_play.cls = RX7 ∧ yX7_play.cls ≠ "java/lang/invoke/MethodHandle" ∧ yX7_play.cls ≠ "java/lang/invoke/VarHandle" ∧ (parseMethodDescriptor yX7_play.desc).map (fun d => d.parameters.length) = some 0 := by decide +kernel
set_option maxHeartbeats 3000000 in
set_option maxRecDepth 100000 in
theorem kX7_play (l : Launch) (D : va_G) (cy : Nat → ClassId) (K : zK) (n : Nat) (ad : Nat → Nat) (hJ : zJ n ad) (hO : zModel cy K n ad) (t : zM)  (hT : mT t) (hok : mOK t) : zI l yX7_play wsX7_play 11 D cy K n ad t [.ref (ad (0))] (fun r t1 => r = rX7_play t ∧ t1 = sX7_play t) := by
  refine z_startI (cc := cX7_play) (mL := 2) (ret := (some .int)) (own := RX7) rfl (by decide +kernel) rfl hJ (Nat.le_of_ble_eq_true rfl) ?_
  intro p e s m args below meth c A hA Q hQ C
  refine z_aload_n C 0 0 0 dX7_play_0 rfl rfl ?_
  refine z_getr C 1 (a9 := ad (1)) (0) 0 dX7_play_1 hO.h0 hO.e0 mX7_play_in7 rfl (by decide) mX7_play_f7 (fun _ => rfl) ?_
  refine z_aload_n C 4 0 0 dX7_play_4 rfl rfl ?_
  refine z_getr C 5 (a9 := ad (3)) (0) 2 dX7_play_5 hO.h0 hO.e0 mX7_play_in7 rfl (by decide) mX7_play_f16 (fun _ => rfl) ?_
  refine z_statVe C 8 (As := [.ref (ad (1)), .ref (ad (3))]) (st := []) (kX7_copies l D cy K n ad hJ t (1) (3) hO.h1 hO.h3 hO.e1 hO.e3) dX7_play_8 rfl gX7_play_X7_copies hyX7_copies rfl (by decide) (by decide) rfl rfl (Nat.le_of_ble_eq_true rfl) ?_
  refine z_nt (zcp t (1) (3) 414) (sX7_copies_e _ (by decide)) ?_
  have hT1 : mT (zcp t (1) (3) 414) := mT_zcp hT (by decide)
  have hok1 : mOK (zcp t (1) (3) 414) := mOK_zcp hok (by decide) (by decide) (by decide)
  have hQ1 := sX7_plays_Q hT1 hok1
  refine z_aload_n C 11 0 0 dX7_play_11 rfl rfl ?_
  refine z_virtIe C 12 (As := []) (st := []) (id := 0) (kX7_plays l D cy K n ad hJ hO (zcp t (1) (3) 414)  hT1 hok1) dX7_play_12 rfl gX7_play_X7_plays hyX7_plays rfl (by decide) (by decide) hO.h0 rfl hO.e0 rfl rfl rfl (Nat.le_of_ble_eq_true rfl) ?_
  refine z_istore_n C 15 1 ([(1, .int (rX7_plays (zcp t (1) (3) 414))), (0, .ref (ad (0)))]) dX7_play_15 rfl (by decide) rfl ?_
  refine z_aload_n C 16 0 1 dX7_play_16 rfl rfl ?_
  refine z_getr C 17 (a9 := ad (3)) (0) 2 dX7_play_17 hO.h0 hO.e0 mX7_play_in7 rfl (by decide) mX7_play_f16 (fun _ => rfl) ?_
  refine z_aload_n C 20 0 1 dX7_play_20 rfl rfl ?_
  refine z_getr C 21 (a9 := ad (1)) (0) 0 dX7_play_21 hO.h0 hO.e0 mX7_play_in7 rfl (by decide) mX7_play_f7 (fun _ => rfl) ?_
  refine z_statVe C 24 (As := [.ref (ad (3)), .ref (ad (1))]) (st := []) (kX7_copies l D cy K n ad hJ (sX7_plays (zcp t (1) (3) 414)) (3) (1) hO.h3 hO.h1 hO.e3 hO.e1) dX7_play_24 rfl gX7_play_X7_copies hyX7_copies rfl (by decide) (by decide) rfl rfl (Nat.le_of_ble_eq_true rfl) ?_
  refine z_nt (zcp (sX7_plays (zcp t (1) (3) 414)) (3) (1) 414) (sX7_copies_e _ (by decide)) ?_
  refine z_iload_n C 27 1 0 dX7_play_27 rfl rfl ?_
  refine z_if_ne C 28 34 dX7_play_28 (by decide) (fun c28_4 => ?_) (fun c28_4 => ?_)
  · have hok2 : mOK (zcp (sX7_plays (zcp t (1) (3) 414)) (3) (1) 414) := mOK_back hok hQ1.1 (fun i hi => by rw [hQ1.2.2.1 3 (by decide) (by decide) (by decide)]; show (if (3 : Nat) = 3 then (fun k => if k < 414 then t 1 k else t 3 k) else t 3) i = _; rw [if_pos rfl]; exact if_pos hi)
    have hT2 : mT (zcp (sX7_plays (zcp t (1) (3) 414)) (3) (1) 414) := mT_zcp hQ1.2.1 (by decide)
    refine z_aload_n C 34 0 1 dX7_play_34 rfl rfl ?_
    refine z_virtVe C 35 (As := []) (st := []) (id := 0) (kX7_changes l D cy K n ad hJ hO (zcp (sX7_plays (zcp t (1) (3) 414)) (3) (1) 414)  hok2.2) dX7_play_35 rfl gX7_play_X7_changes hyX7_changes rfl (by decide) (by decide) hO.h0 rfl hO.e0 rfl rfl rfl (Nat.le_of_ble_eq_true rfl) ?_
    have hK3 := mK.ch hok2
    refine z_aload_n C 38 0 1 dX7_play_38 rfl rfl ?_
    refine z_virtIe C 39 (As := []) (st := []) (id := 0) (kX7_plays l D cy K n ad hJ hO (sX7_changes (zcp (sX7_plays (zcp t (1) (3) 414)) (3) (1) 414))  (mT_fr hT2 (hK3.2.1 7 (by decide))) hK3.1) dX7_play_39 rfl gX7_play_X7_plays hyX7_plays rfl (by decide) (by decide) hO.h0 rfl hO.e0 rfl rfl rfl (Nat.le_of_ble_eq_true rfl) ?_
    refine z_if_eq C 42 52 dX7_play_42 (by decide) (fun c42_7 => ?_) (fun c42_7 => ?_)
    · refine z_ldc C 52 (v := (-1000004)) dX7_play_52 mX7_play_c47 ?_
      exact z_iret C 54 hA hQ rfl dX7_play_54 ⟨((if_neg c28_4).trans ((if_pos c42_7).trans rfl)).symm, ((if_neg c28_4).trans ((if_pos c42_7).trans rfl)).symm⟩
    · refine z_aload_n C 45 0 1 dX7_play_45 rfl rfl ?_
      refine z_geti C 46 (0) 13 dX7_play_46 hO.h0 hO.e0 mX7_play_in7 rfl (by decide) mX7_play_f184 (fun _ => rfl) ?_
      refine z_goto C 49 54 dX7_play_49 (by decide) ?_
      exact z_iret C 54 hA hQ rfl dX7_play_54 ⟨((if_neg c28_4).trans ((if_neg c42_7).trans rfl)).symm, ((if_neg c28_4).trans ((if_neg c42_7).trans rfl)).symm⟩
  · refine z_ldc C 31 (v := (-1000002)) dX7_play_31 mX7_play_c100 ?_
    exact z_iret C 33 hA hQ rfl dX7_play_33 ⟨((if_pos c28_4).trans rfl).symm, ((if_pos c28_4).trans rfl).symm⟩
