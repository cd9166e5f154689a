def rX7_parses (t : zM)  : Int32 := (if (rX7_isAt t 33 126) = 0 then (if (rX7_numbersOf 0) = 0 then 0 else (if (rX7_numbered (zset (zset t (0) 14 0) (0) 9 ((t (0) 9) + 1)) 0) = 0 then 0 else (if (rX7_numbersOf 0) = 1 then (if (rX7_sign (sX7_numbered (zset (zset t (0) 14 0) (0) 9 ((t (0) 9) + 1)) 0) 59) = 0 then 0 else 1) else (if (rX7_sign (sX7_numbered (zset (zset t (0) 14 0) (0) 9 ((t (0) 9) + 1)) 0) 44) = 0 then 0 else (if (rX7_numbered (sX7_sign (sX7_numbered (zset (zset t (0) 14 0) (0) 9 ((t (0) 9) + 1)) 0) 44) 1) = 0 then 0 else (if (rX7_sign (sX7_numbered (sX7_sign (sX7_numbered (zset (zset t (0) 14 0) (0) 9 ((t (0) 9) + 1)) 0) 44) 1) 59) = 0 then 0 else 1)))))) else (if (rX7_numbersOf (t (5) ((t (0) 9).toNatClampNeg))) = 0 then 0 else (if (rX7_numbered (zset (zset t (0) 14 (t (5) ((t (0) 9).toNatClampNeg))) (0) 9 ((t (0) 9) + 1)) 0) = 0 then 0 else (if (rX7_numbersOf (t (5) ((t (0) 9).toNatClampNeg))) = 1 then (if (rX7_sign (sX7_numbered (zset (zset t (0) 14 (t (5) ((t (0) 9).toNatClampNeg))) (0) 9 ((t (0) 9) + 1)) 0) 59) = 0 then 0 else 1) else (if (rX7_sign (sX7_numbered (zset (zset t (0) 14 (t (5) ((t (0) 9).toNatClampNeg))) (0) 9 ((t (0) 9) + 1)) 0) 44) = 0 then 0 else (if (rX7_numbered (sX7_sign (sX7_numbered (zset (zset t (0) 14 (t (5) ((t (0) 9).toNatClampNeg))) (0) 9 ((t (0) 9) + 1)) 0) 44) 1) = 0 then 0 else (if (rX7_sign (sX7_numbered (sX7_sign (sX7_numbered (zset (zset t (0) 14 (t (5) ((t (0) 9).toNatClampNeg))) (0) 9 ((t (0) 9) + 1)) 0) 44) 1) 59) = 0 then 0 else 1)))))))
def sX7_parses (t : zM)  : zM := (if (rX7_isAt t 33 126) = 0 then (if (rX7_numbersOf 0) = 0 then (zset t (0) 14 0) else (if (rX7_numbered (zset (zset t (0) 14 0) (0) 9 ((t (0) 9) + 1)) 0) = 0 then (sX7_numbered (zset (zset t (0) 14 0) (0) 9 ((t (0) 9) + 1)) 0) else (if (rX7_numbersOf 0) = 1 then (if (rX7_sign (sX7_numbered (zset (zset t (0) 14 0) (0) 9 ((t (0) 9) + 1)) 0) 59) = 0 then (sX7_sign (sX7_numbered (zset (zset t (0) 14 0) (0) 9 ((t (0) 9) + 1)) 0) 59) else (sX7_sign (sX7_numbered (zset (zset t (0) 14 0) (0) 9 ((t (0) 9) + 1)) 0) 59)) else (if (rX7_sign (sX7_numbered (zset (zset t (0) 14 0) (0) 9 ((t (0) 9) + 1)) 0) 44) = 0 then (sX7_sign (sX7_numbered (zset (zset t (0) 14 0) (0) 9 ((t (0) 9) + 1)) 0) 44) else (if (rX7_numbered (sX7_sign (sX7_numbered (zset (zset t (0) 14 0) (0) 9 ((t (0) 9) + 1)) 0) 44) 1) = 0 then (sX7_numbered (sX7_sign (sX7_numbered (zset (zset t (0) 14 0) (0) 9 ((t (0) 9) + 1)) 0) 44) 1) else (if (rX7_sign (sX7_numbered (sX7_sign (sX7_numbered (zset (zset t (0) 14 0) (0) 9 ((t (0) 9) + 1)) 0) 44) 1) 59) = 0 then (sX7_sign (sX7_numbered (sX7_sign (sX7_numbered (zset (zset t (0) 14 0) (0) 9 ((t (0) 9) + 1)) 0) 44) 1) 59) else (sX7_sign (sX7_numbered (sX7_sign (sX7_numbered (zset (zset t (0) 14 0) (0) 9 ((t (0) 9) + 1)) 0) 44) 1) 59))))))) else (if (rX7_numbersOf (t (5) ((t (0) 9).toNatClampNeg))) = 0 then (zset t (0) 14 (t (5) ((t (0) 9).toNatClampNeg))) else (if (rX7_numbered (zset (zset t (0) 14 (t (5) ((t (0) 9).toNatClampNeg))) (0) 9 ((t (0) 9) + 1)) 0) = 0 then (sX7_numbered (zset (zset t (0) 14 (t (5) ((t (0) 9).toNatClampNeg))) (0) 9 ((t (0) 9) + 1)) 0) else (if (rX7_numbersOf (t (5) ((t (0) 9).toNatClampNeg))) = 1 then (if (rX7_sign (sX7_numbered (zset (zset t (0) 14 (t (5) ((t (0) 9).toNatClampNeg))) (0) 9 ((t (0) 9) + 1)) 0) 59) = 0 then (sX7_sign (sX7_numbered (zset (zset t (0) 14 (t (5) ((t (0) 9).toNatClampNeg))) (0) 9 ((t (0) 9) + 1)) 0) 59) else (sX7_sign (sX7_numbered (zset (zset t (0) 14 (t (5) ((t (0) 9).toNatClampNeg))) (0) 9 ((t (0) 9) + 1)) 0) 59)) else (if (rX7_sign (sX7_numbered (zset (zset t (0) 14 (t (5) ((t (0) 9).toNatClampNeg))) (0) 9 ((t (0) 9) + 1)) 0) 44) = 0 then (sX7_sign (sX7_numbered (zset (zset t (0) 14 (t (5) ((t (0) 9).toNatClampNeg))) (0) 9 ((t (0) 9) + 1)) 0) 44) else (if (rX7_numbered (sX7_sign (sX7_numbered (zset (zset t (0) 14 (t (5) ((t (0) 9).toNatClampNeg))) (0) 9 ((t (0) 9) + 1)) 0) 44) 1) = 0 then (sX7_numbered (sX7_sign (sX7_numbered (zset (zset t (0) 14 (t (5) ((t (0) 9).toNatClampNeg))) (0) 9 ((t (0) 9) + 1)) 0) 44) 1) else (if (rX7_sign (sX7_numbered (sX7_sign (sX7_numbered (zset (zset t (0) 14 (t (5) ((t (0) 9).toNatClampNeg))) (0) 9 ((t (0) 9) + 1)) 0) 44) 1) 59) = 0 then (sX7_sign (sX7_numbered (sX7_sign (sX7_numbered (zset (zset t (0) 14 (t (5) ((t (0) 9).toNatClampNeg))) (0) 9 ((t (0) 9) + 1)) 0) 44) 1) 59) else (sX7_sign (sX7_numbered (sX7_sign (sX7_numbered (zset (zset t (0) 14 (t (5) ((t (0) 9).toNatClampNeg))) (0) 9 ((t (0) 9) + 1)) 0) 44) 1) 59))))))))
theorem mX7_parses_f150 : Cond.fieldLink RX7 150 "WrongedMetersModel" "order" "I" ∈ wsX7_parses := by decide +kernel
set_option maxRecDepth 20000 in
theorem mX7_parses_in7 : ∀ w ∈ u_ws RX7 TX7 16, w ∈ wsX7_parses := by decide +kernel
theorem mX7_parses_f144 : Cond.fieldLink RX7 144 "WrongedMetersModel" "spot" "I" ∈ wsX7_parses := by decide +kernel
theorem mX7_parses_f22 : Cond.fieldLink RX7 22 "WrongedMetersModel" "text" "[I" ∈ wsX7_parses := by decide +kernel
theorem hyX7_parses : yX7_parses.cls = RX7 ∧ yX7_parses.cls ≠ "java/lang/invoke/MethodHandle" ∧ yX7_parses.cls ≠ "java/lang/invoke/VarHandle" ∧ (parseMethodDescriptor yX7_parses.desc).map (fun d => d.parameters.length) = some 0 := by decide +kernel
set_option maxHeartbeats 3000000 in
set_option maxRecDepth 100000 in
theorem kX7_parses (l : Launch) (D : va_G) (cy : Nat → ClassId) (K : zK) (n : Nat) (ad : Nat → Nat) (hJ : zJ n ad) (hO : zModel cy K n ad) (t : zM) (A0 B : Nat) (hB0 : B ≤ 800) (hT : mT t) (hX : mX A0 B t) : zI l yX7_parses wsX7_parses 3 D cy K n ad t [.ref (ad (0))] (fun r t1 => r = rX7_parses t ∧ t1 = sX7_parses t) := by
  refine z_startI (cc := cX7_parses) (mL := 2) (ret := (some .boolean)) (own := RX7) rfl (by decide +kernel) rfl hJ (Nat.le_of_ble_eq_true rfl) ?_
  intro p e s m args below meth c A hA Q hQ C
  have hB : B ≤ 1000 := by omega
  refine z_aload_n C 0 0 0 dX7_parses_0 rfl rfl ?_
  refine z_aload_n C 1 0 0 dX7_parses_1 rfl rfl ?_
  refine z_bipush C 2 (v := 33) dX7_parses_2 (by decide +kernel) ?_
  refine z_bipush C 4 (v := 126) dX7_parses_4 (by decide +kernel) ?_
  refine z_virtIe C 6 (As := [.int 33, .int 126]) (st := [.ref (ad (0))]) (id := 0) (kX7_isAt l D cy K n ad hJ hO t 33 126 A0 B hB hT hX) dX7_parses_6 rfl gX7_parses_X7_isAt hyX7_isAt rfl (by decide) (by decide) hO.h0 rfl hO.e0 rfl rfl rfl (Nat.le_of_ble_eq_true rfl) ?_
  refine z_if_eq C 9 24 dX7_parses_9 (by decide) (fun c9_2 => ?_) (fun c9_2 => ?_)
  · refine z_iconst C 24 (v := 0) dX7_parses_24 (by decide +kernel) ?_
    refine z_put C 25 (ty := .int) (0) 14 dX7_parses_25 hO.h0 hO.e0 mX7_parses_in7 tyX7 tyX7_ok nmX7 rfl (by decide) mX7_parses_f150 rfl (by decide +kernel) (vp_nar_int _) (zfit_i _) (fun _ => Nat.le_of_ble_eq_true rfl) (fun _ _ => rfl) ?_
    refine z_aload_n C 28 0 0 dX7_parses_28 rfl rfl ?_
    refine z_geti C 29 (0) 14 dX7_parses_29 hO.h0 hO.e0 mX7_parses_in7 rfl (by decide) mX7_parses_f150 (fun _ => rfl) ?_
    refine z_nv 0 (zset_eq _ _ _ _) ?_
    refine z_statIe C 32 (As := [.int 0]) (st := []) (kX7_numbersOf l D cy K n ad hJ (zset t (0) 14 0) 0 ) dX7_parses_32 rfl gX7_parses_X7_numbersOf hyX7_numbersOf rfl (by decide) (by decide) rfl rfl (Nat.le_of_ble_eq_true rfl) ?_
    refine z_istore_n C 35 1 ([(1, .int (rX7_numbersOf 0)), (0, .ref (ad (0)))]) dX7_parses_35 rfl (by decide) rfl ?_
    refine z_iload_n C 36 1 0 dX7_parses_36 rfl rfl ?_
    refine z_if_ne C 37 42 dX7_parses_37 (by decide) (fun c37_4 => ?_) (fun c37_4 => ?_)
    · refine z_aload_n C 42 0 1 dX7_parses_42 rfl rfl ?_
      refine z_dup C 43 dX7_parses_43 rfl ?_
      refine z_geti C 44 (0) 9 dX7_parses_44 hO.h0 hO.e0 mX7_parses_in7 rfl (by decide) mX7_parses_f144 (fun _ => rfl) ?_
      refine z_nv (t (0) 9) ((zset_nk _ _ _ (by decide)).trans rfl) ?_
      refine z_iconst C 47 (v := 1) dX7_parses_47 (by decide +kernel) ?_
      refine z_iadd C 48 dX7_parses_48 ?_
      refine z_put C 49 (ty := .int) (0) 9 dX7_parses_49 hO.h0 hO.e0 mX7_parses_in7 tyX7 tyX7_ok nmX7 rfl (by decide) mX7_parses_f144 rfl (by decide +kernel) (vp_nar_int _) (zfit_i _) (fun _ => Nat.le_of_ble_eq_true rfl) (fun _ _ => rfl) ?_
      have hTa : mT (zset (zset t (0) 14 0) (0) 9 ((t (0) 9) + 1)) := (mT_set (mT_set hT (Or.inr (by decide))) (Or.inr (by decide)))
      have hB2 : mX (A0 + 1) (B + 1) (zset (zset t (0) 14 0) (0) 9 ((t (0) 9) + 1)) := mX_w hX _
      refine z_aload_n C 52 0 1 dX7_parses_52 rfl rfl ?_
      refine z_iconst C 53 (v := 0) dX7_parses_53 (by decide +kernel) ?_
      refine z_virtIe C 54 (As := [.int 0]) (st := []) (id := 0) (kX7_numbered l D cy K n ad hJ hO (zset (zset t (0) 14 0) (0) 9 ((t (0) 9) + 1)) 0 (A0 + 1) (B + 1) (by decide) (by omega) hTa hB2) dX7_parses_54 rfl gX7_parses_X7_numbered hyX7_numbered rfl (by decide) (by decide) hO.h0 rfl hO.e0 rfl rfl rfl (Nat.le_of_ble_eq_true rfl) ?_
      refine z_if_eq C 57 95 dX7_parses_57 (by decide) (fun c57_6 => ?_) (fun c57_6 => ?_)
      · refine z_iconst C 95 (v := 0) dX7_parses_95 (by decide +kernel) ?_
        exact z_zret C 96 hA hQ rfl (Or.inl rfl) dX7_parses_96 ⟨((if_pos c9_2).trans ((if_neg c37_4).trans ((if_pos c57_6).trans rfl))).symm, ((if_pos c9_2).trans ((if_neg c37_4).trans ((if_pos c57_6).trans rfl))).symm⟩
      · have hC := sX7_numbered_X (w := 0) (by omega) hTa hB2
        refine z_iload_n C 60 1 0 dX7_parses_60 rfl rfl ?_
        refine z_iconst C 61 (v := 1) dX7_parses_61 (by decide +kernel) ?_
        refine z_icmp_eq C 62 82 dX7_parses_62 (by decide) (fun c62_7 => ?_) (fun c62_7 => ?_)
        · have hF := hC.1.mono (A2 := A0 + 1) (B2 := B + 8) (by omega) (by omega)
          have hG := hC.2
          refine z_aload_n C 82 0 1 dX7_parses_82 rfl rfl ?_
          refine z_bipush C 83 (v := 59) dX7_parses_83 (by decide +kernel) ?_
          refine z_virtIe C 85 (As := [.int 59]) (st := []) (id := 0) (kX7_sign l D cy K n ad hJ hO (sX7_numbered (zset (zset t (0) 14 0) (0) 9 ((t (0) 9) + 1)) 0) 59 (A0 + 1) (B + 8) (by omega) hG hF) dX7_parses_85 rfl gX7_parses_X7_sign hyX7_sign rfl (by decide) (by decide) hO.h0 rfl hO.e0 rfl rfl rfl (Nat.le_of_ble_eq_true rfl) ?_
          refine z_if_eq C 88 95 dX7_parses_88 (by decide) (fun c88_9 => ?_) (fun c88_9 => ?_)
          · refine z_iconst C 95 (v := 0) dX7_parses_95 (by decide +kernel) ?_
            exact z_zret C 96 hA hQ rfl (Or.inl rfl) dX7_parses_96 ⟨((if_pos c9_2).trans ((if_neg c37_4).trans ((if_neg c57_6).trans ((if_pos c62_7).trans ((if_pos c88_9).trans rfl))))).symm, ((if_pos c9_2).trans ((if_neg c37_4).trans ((if_neg c57_6).trans ((if_pos c62_7).trans ((if_pos c88_9).trans rfl))))).symm⟩
          · refine z_iconst C 91 (v := 1) dX7_parses_91 (by decide +kernel) ?_
            refine z_goto C 92 96 dX7_parses_92 (by decide) ?_
            exact z_zret C 96 hA hQ rfl (Or.inr rfl) dX7_parses_96 ⟨((if_pos c9_2).trans ((if_neg c37_4).trans ((if_neg c57_6).trans ((if_pos c62_7).trans ((if_neg c88_9).trans rfl))))).symm, ((if_pos c9_2).trans ((if_neg c37_4).trans ((if_neg c57_6).trans ((if_pos c62_7).trans ((if_neg c88_9).trans rfl))))).symm⟩
        · have hC := sX7_numbered_X (w := 0) (by omega) hTa hB2
          refine z_aload_n C 65 0 1 dX7_parses_65 rfl rfl ?_
          refine z_bipush C 66 (v := 44) dX7_parses_66 (by decide +kernel) ?_
          refine z_virtIe C 68 (As := [.int 44]) (st := []) (id := 0) (kX7_sign l D cy K n ad hJ hO (sX7_numbered (zset (zset t (0) 14 0) (0) 9 ((t (0) 9) + 1)) 0) 44 (A0 + 1) (B + 1 + 3) (by omega) hC.2 hC.1) dX7_parses_68 rfl gX7_parses_X7_sign hyX7_sign rfl (by decide) (by decide) hO.h0 rfl hO.e0 rfl rfl rfl (Nat.le_of_ble_eq_true rfl) ?_
          refine z_if_eq C 71 95 dX7_parses_71 (by decide) (fun c71_11 => ?_) (fun c71_11 => ?_)
          · refine z_iconst C 95 (v := 0) dX7_parses_95 (by decide +kernel) ?_
            exact z_zret C 96 hA hQ rfl (Or.inl rfl) dX7_parses_96 ⟨((if_pos c9_2).trans ((if_neg c37_4).trans ((if_neg c57_6).trans ((if_neg c62_7).trans ((if_pos c71_11).trans rfl))))).symm, ((if_pos c9_2).trans ((if_neg c37_4).trans ((if_neg c57_6).trans ((if_neg c62_7).trans ((if_pos c71_11).trans rfl))))).symm⟩
          · have hD := sX7_sign_X (a1 := 44) hC.1
            have hE := sX7_sign_T (a1 := 44) hC.2
            refine z_aload_n C 74 0 1 dX7_parses_74 rfl rfl ?_
            refine z_iconst C 75 (v := 1) dX7_parses_75 (by decide +kernel) ?_
            refine z_virtIe C 76 (As := [.int 1]) (st := []) (id := 0) (kX7_numbered l D cy K n ad hJ hO (sX7_sign (sX7_numbered (zset (zset t (0) 14 0) (0) 9 ((t (0) 9) + 1)) 0) 44) 1 (A0 + 1) (B + 1 + 3 + 1) (by decide) (by omega) hE hD) dX7_parses_76 rfl gX7_parses_X7_numbered hyX7_numbered rfl (by decide) (by decide) hO.h0 rfl hO.e0 rfl rfl rfl (Nat.le_of_ble_eq_true rfl) ?_
            refine z_if_eq C 79 95 dX7_parses_79 (by decide) (fun c79_13 => ?_) (fun c79_13 => ?_)
            · refine z_iconst C 95 (v := 0) dX7_parses_95 (by decide +kernel) ?_
              exact z_zret C 96 hA hQ rfl (Or.inl rfl) dX7_parses_96 ⟨((if_pos c9_2).trans ((if_neg c37_4).trans ((if_neg c57_6).trans ((if_neg c62_7).trans ((if_neg c71_11).trans ((if_pos c79_13).trans rfl)))))).symm, ((if_pos c9_2).trans ((if_neg c37_4).trans ((if_neg c57_6).trans ((if_neg c62_7).trans ((if_neg c71_11).trans ((if_pos c79_13).trans rfl)))))).symm⟩
            · have hF := (sX7_numbered_X (w := 1) (by omega) hE hD).1
              have hG := (sX7_numbered_X (w := 1) (by omega) hE hD).2
              refine z_aload_n C 82 0 1 dX7_parses_82 rfl rfl ?_
              refine z_bipush C 83 (v := 59) dX7_parses_83 (by decide +kernel) ?_
              refine z_virtIe C 85 (As := [.int 59]) (st := []) (id := 0) (kX7_sign l D cy K n ad hJ hO (sX7_numbered (sX7_sign (sX7_numbered (zset (zset t (0) 14 0) (0) 9 ((t (0) 9) + 1)) 0) 44) 1) 59 (A0 + 1) (B + 1 + 3 + 1 + 3) (by omega) hG hF) dX7_parses_85 rfl gX7_parses_X7_sign hyX7_sign rfl (by decide) (by decide) hO.h0 rfl hO.e0 rfl rfl rfl (Nat.le_of_ble_eq_true rfl) ?_
              refine z_if_eq C 88 95 dX7_parses_88 (by decide) (fun c88_15 => ?_) (fun c88_15 => ?_)
              · refine z_iconst C 95 (v := 0) dX7_parses_95 (by decide +kernel) ?_
                exact z_zret C 96 hA hQ rfl (Or.inl rfl) dX7_parses_96 ⟨((if_pos c9_2).trans ((if_neg c37_4).trans ((if_neg c57_6).trans ((if_neg c62_7).trans ((if_neg c71_11).trans ((if_neg c79_13).trans ((if_pos c88_15).trans rfl))))))).symm, ((if_pos c9_2).trans ((if_neg c37_4).trans ((if_neg c57_6).trans ((if_neg c62_7).trans ((if_neg c71_11).trans ((if_neg c79_13).trans ((if_pos c88_15).trans rfl))))))).symm⟩
              · refine z_iconst C 91 (v := 1) dX7_parses_91 (by decide +kernel) ?_
                refine z_goto C 92 96 dX7_parses_92 (by decide) ?_
                exact z_zret C 96 hA hQ rfl (Or.inr rfl) dX7_parses_96 ⟨((if_pos c9_2).trans ((if_neg c37_4).trans ((if_neg c57_6).trans ((if_neg c62_7).trans ((if_neg c71_11).trans ((if_neg c79_13).trans ((if_neg c88_15).trans rfl))))))).symm, ((if_pos c9_2).trans ((if_neg c37_4).trans ((if_neg c57_6).trans ((if_neg c62_7).trans ((if_neg c71_11).trans ((if_neg c79_13).trans ((if_neg c88_15).trans rfl))))))).symm⟩
    · refine z_iconst C 40 (v := 0) dX7_parses_40 (by decide +kernel) ?_
      exact z_zret C 41 hA hQ rfl (Or.inl rfl) dX7_parses_41 ⟨((if_pos c9_2).trans ((if_pos c37_4).trans rfl)).symm, ((if_pos c9_2).trans ((if_pos c37_4).trans rfl)).symm⟩
  · refine z_aload_n C 12 0 0 dX7_parses_12 rfl rfl ?_
    refine z_getr C 13 (a9 := ad (5)) (0) 6 dX7_parses_13 hO.h0 hO.e0 mX7_parses_in7 rfl (by decide) mX7_parses_f22 (fun _ => rfl) ?_
    refine z_aload_n C 16 0 0 dX7_parses_16 rfl rfl ?_
    refine z_geti C 17 (0) 9 dX7_parses_17 hO.h0 hO.e0 mX7_parses_in7 rfl (by decide) mX7_parses_f144 (fun _ => rfl) ?_
    refine z_ialdN C 20 (5) ((t (0) 9).toNatClampNeg) dX7_parses_20 hO.h5 hO.e5 (hX.c hB).2.2 (hX.lt hB hT (isAt_lt (by assumption))) (by decide) ?_
    refine z_goto C 21 25 dX7_parses_21 (by decide) ?_
    refine z_put C 25 (ty := .int) (0) 14 dX7_parses_25 hO.h0 hO.e0 mX7_parses_in7 tyX7 tyX7_ok nmX7 rfl (by decide) mX7_parses_f150 rfl (by decide +kernel) (vp_nar_int _) (zfit_i _) (fun _ => Nat.le_of_ble_eq_true rfl) (fun _ _ => rfl) ?_
    refine z_aload_n C 28 0 0 dX7_parses_28 rfl rfl ?_
    refine z_geti C 29 (0) 14 dX7_parses_29 hO.h0 hO.e0 mX7_parses_in7 rfl (by decide) mX7_parses_f150 (fun _ => rfl) ?_
    refine z_nv (t (5) ((t (0) 9).toNatClampNeg)) (zset_eq _ _ _ _) ?_
    refine z_statIe C 32 (As := [.int (t (5) ((t (0) 9).toNatClampNeg))]) (st := []) (kX7_numbersOf l D cy K n ad hJ (zset t (0) 14 (t (5) ((t (0) 9).toNatClampNeg))) (t (5) ((t (0) 9).toNatClampNeg)) ) dX7_parses_32 rfl gX7_parses_X7_numbersOf hyX7_numbersOf rfl (by decide) (by decide) rfl rfl (Nat.le_of_ble_eq_true rfl) ?_
    refine z_istore_n C 35 1 ([(1, .int (rX7_numbersOf (t (5) ((t (0) 9).toNatClampNeg)))), (0, .ref (ad (0)))]) dX7_parses_35 rfl (by decide) rfl ?_
    refine z_iload_n C 36 1 0 dX7_parses_36 rfl rfl ?_
    refine z_if_ne C 37 42 dX7_parses_37 (by decide) (fun c37_17 => ?_) (fun c37_17 => ?_)
    · refine z_aload_n C 42 0 1 dX7_parses_42 rfl rfl ?_
      refine z_dup C 43 dX7_parses_43 rfl ?_
      refine z_geti C 44 (0) 9 dX7_parses_44 hO.h0 hO.e0 mX7_parses_in7 rfl (by decide) mX7_parses_f144 (fun _ => rfl) ?_
      refine z_nv (t (0) 9) ((zset_nk _ _ _ (by decide)).trans rfl) ?_
      refine z_iconst C 47 (v := 1) dX7_parses_47 (by decide +kernel) ?_
      refine z_iadd C 48 dX7_parses_48 ?_
      refine z_put C 49 (ty := .int) (0) 9 dX7_parses_49 hO.h0 hO.e0 mX7_parses_in7 tyX7 tyX7_ok nmX7 rfl (by decide) mX7_parses_f144 rfl (by decide +kernel) (vp_nar_int _) (zfit_i _) (fun _ => Nat.le_of_ble_eq_true rfl) (fun _ _ => rfl) ?_
      have hTa : mT (zset (zset t (0) 14 (t (5) ((t (0) 9).toNatClampNeg))) (0) 9 ((t (0) 9) + 1)) := (mT_set (mT_set hT (Or.inr (by decide))) (Or.inr (by decide)))
      have hB2 : mX (A0 + 1) (B + 1) (zset (zset t (0) 14 (t (5) ((t (0) 9).toNatClampNeg))) (0) 9 ((t (0) 9) + 1)) := mX_w hX _
      refine z_aload_n C 52 0 1 dX7_parses_52 rfl rfl ?_
      refine z_iconst C 53 (v := 0) dX7_parses_53 (by decide +kernel) ?_
      refine z_virtIe C 54 (As := [.int 0]) (st := []) (id := 0) (kX7_numbered l D cy K n ad hJ hO (zset (zset t (0) 14 (t (5) ((t (0) 9).toNatClampNeg))) (0) 9 ((t (0) 9) + 1)) 0 (A0 + 1) (B + 1) (by decide) (by omega) hTa hB2) dX7_parses_54 rfl gX7_parses_X7_numbered hyX7_numbered rfl (by decide) (by decide) hO.h0 rfl hO.e0 rfl rfl rfl (Nat.le_of_ble_eq_true rfl) ?_
      refine z_if_eq C 57 95 dX7_parses_57 (by decide) (fun c57_19 => ?_) (fun c57_19 => ?_)
      · refine z_iconst C 95 (v := 0) dX7_parses_95 (by decide +kernel) ?_
        exact z_zret C 96 hA hQ rfl (Or.inl rfl) dX7_parses_96 ⟨((if_neg c9_2).trans ((if_neg c37_17).trans ((if_pos c57_19).trans rfl))).symm, ((if_neg c9_2).trans ((if_neg c37_17).trans ((if_pos c57_19).trans rfl))).symm⟩
      · have hC := sX7_numbered_X (w := 0) (by omega) hTa hB2
        refine z_iload_n C 60 1 0 dX7_parses_60 rfl rfl ?_
        refine z_iconst C 61 (v := 1) dX7_parses_61 (by decide +kernel) ?_
        refine z_icmp_eq C 62 82 dX7_parses_62 (by decide) (fun c62_20 => ?_) (fun c62_20 => ?_)
        · have hF := hC.1.mono (A2 := A0 + 1) (B2 := B + 8) (by omega) (by omega)
          have hG := hC.2
          refine z_aload_n C 82 0 1 dX7_parses_82 rfl rfl ?_
          refine z_bipush C 83 (v := 59) dX7_parses_83 (by decide +kernel) ?_
          refine z_virtIe C 85 (As := [.int 59]) (st := []) (id := 0) (kX7_sign l D cy K n ad hJ hO (sX7_numbered (zset (zset t (0) 14 (t (5) ((t (0) 9).toNatClampNeg))) (0) 9 ((t (0) 9) + 1)) 0) 59 (A0 + 1) (B + 8) (by omega) hG hF) dX7_parses_85 rfl gX7_parses_X7_sign hyX7_sign rfl (by decide) (by decide) hO.h0 rfl hO.e0 rfl rfl rfl (Nat.le_of_ble_eq_true rfl) ?_
          refine z_if_eq C 88 95 dX7_parses_88 (by decide) (fun c88_22 => ?_) (fun c88_22 => ?_)
          · refine z_iconst C 95 (v := 0) dX7_parses_95 (by decide +kernel) ?_
            exact z_zret C 96 hA hQ rfl (Or.inl rfl) dX7_parses_96 ⟨((if_neg c9_2).trans ((if_neg c37_17).trans ((if_neg c57_19).trans ((if_pos c62_20).trans ((if_pos c88_22).trans rfl))))).symm, ((if_neg c9_2).trans ((if_neg c37_17).trans ((if_neg c57_19).trans ((if_pos c62_20).trans ((if_pos c88_22).trans rfl))))).symm⟩
          · refine z_iconst C 91 (v := 1) dX7_parses_91 (by decide +kernel) ?_
            refine z_goto C 92 96 dX7_parses_92 (by decide) ?_
            exact z_zret C 96 hA hQ rfl (Or.inr rfl) dX7_parses_96 ⟨((if_neg c9_2).trans ((if_neg c37_17).trans ((if_neg c57_19).trans ((if_pos c62_20).trans ((if_neg c88_22).trans rfl))))).symm, ((if_neg c9_2).trans ((if_neg c37_17).trans ((if_neg c57_19).trans ((if_pos c62_20).trans ((if_neg c88_22).trans rfl))))).symm⟩
        · have hC := sX7_numbered_X (w := 0) (by omega) hTa hB2
          refine z_aload_n C 65 0 1 dX7_parses_65 rfl rfl ?_
          refine z_bipush C 66 (v := 44) dX7_parses_66 (by decide +kernel) ?_
          refine z_virtIe C 68 (As := [.int 44]) (st := []) (id := 0) (kX7_sign l D cy K n ad hJ hO (sX7_numbered (zset (zset t (0) 14 (t (5) ((t (0) 9).toNatClampNeg))) (0) 9 ((t (0) 9) + 1)) 0) 44 (A0 + 1) (B + 1 + 3) (by omega) hC.2 hC.1) dX7_parses_68 rfl gX7_parses_X7_sign hyX7_sign rfl (by decide) (by decide) hO.h0 rfl hO.e0 rfl rfl rfl (Nat.le_of_ble_eq_true rfl) ?_
          refine z_if_eq C 71 95 dX7_parses_71 (by decide) (fun c71_24 => ?_) (fun c71_24 => ?_)
          · refine z_iconst C 95 (v := 0) dX7_parses_95 (by decide +kernel) ?_
            exact z_zret C 96 hA hQ rfl (Or.inl rfl) dX7_parses_96 ⟨((if_neg c9_2).trans ((if_neg c37_17).trans ((if_neg c57_19).trans ((if_neg c62_20).trans ((if_pos c71_24).trans rfl))))).symm, ((if_neg c9_2).trans ((if_neg c37_17).trans ((if_neg c57_19).trans ((if_neg c62_20).trans ((if_pos c71_24).trans rfl))))).symm⟩
          · have hD := sX7_sign_X (a1 := 44) hC.1
            have hE := sX7_sign_T (a1 := 44) hC.2
            refine z_aload_n C 74 0 1 dX7_parses_74 rfl rfl ?_
            refine z_iconst C 75 (v := 1) dX7_parses_75 (by decide +kernel) ?_
            refine z_virtIe C 76 (As := [.int 1]) (st := []) (id := 0) (kX7_numbered l D cy K n ad hJ hO (sX7_sign (sX7_numbered (zset (zset t (0) 14 (t (5) ((t (0) 9).toNatClampNeg))) (0) 9 ((t (0) 9) + 1)) 0) 44) 1 (A0 + 1) (B + 1 + 3 + 1) (by decide) (by omega) hE hD) dX7_parses_76 rfl gX7_parses_X7_numbered hyX7_numbered rfl (by decide) (by decide) hO.h0 rfl hO.e0 rfl rfl rfl (Nat.le_of_ble_eq_true rfl) ?_
            refine z_if_eq C 79 95 dX7_parses_79 (by decide) (fun c79_26 => ?_) (fun c79_26 => ?_)
            · refine z_iconst C 95 (v := 0) dX7_parses_95 (by decide +kernel) ?_
              exact z_zret C 96 hA hQ rfl (Or.inl rfl) dX7_parses_96 ⟨((if_neg c9_2).trans ((if_neg c37_17).trans ((if_neg c57_19).trans ((if_neg c62_20).trans ((if_neg c71_24).trans ((if_pos c79_26).trans rfl)))))).symm, ((if_neg c9_2).trans ((if_neg c37_17).trans ((if_neg c57_19).trans ((if_neg c62_20).trans ((if_neg c71_24).trans ((if_pos c79_26).trans rfl)))))).symm⟩
            · have hF := (sX7_numbered_X (w := 1) (by omega) hE hD).1
              have hG := (sX7_numbered_X (w := 1) (by omega) hE hD).2
              refine z_aload_n C 82 0 1 dX7_parses_82 rfl rfl ?_
              refine z_bipush C 83 (v := 59) dX7_parses_83 (by decide +kernel) ?_
              refine z_virtIe C 85 (As := [.int 59]) (st := []) (id := 0) (kX7_sign l D cy K n ad hJ hO (sX7_numbered (sX7_sign (sX7_numbered (zset (zset t (0) 14 (t (5) ((t (0) 9).toNatClampNeg))) (0) 9 ((t (0) 9) + 1)) 0) 44) 1) 59 (A0 + 1) (B + 1 + 3 + 1 + 3) (by omega) hG hF) dX7_parses_85 rfl gX7_parses_X7_sign hyX7_sign rfl (by decide) (by decide) hO.h0 rfl hO.e0 rfl rfl rfl (Nat.le_of_ble_eq_true rfl) ?_
              refine z_if_eq C 88 95 dX7_parses_88 (by decide) (fun c88_28 => ?_) (fun c88_28 => ?_)
              · refine z_iconst C 95 (v := 0) dX7_parses_95 (by decide +kernel) ?_
                exact z_zret C 96 hA hQ rfl (Or.inl rfl) dX7_parses_96 ⟨((if_neg c9_2).trans ((if_neg c37_17).trans ((if_neg c57_19).trans ((if_neg c62_20).trans ((if_neg c71_24).trans ((if_neg c79_26).trans ((if_pos c88_28).trans rfl))))))).symm, ((if_neg c9_2).trans ((if_neg c37_17).trans ((if_neg c57_19).trans ((if_neg c62_20).trans ((if_neg c71_24).trans ((if_neg c79_26).trans ((if_pos c88_28).trans rfl))))))).symm⟩
              · refine z_iconst C 91 (v := 1) dX7_parses_91 (by decide +kernel) ?_
                refine z_goto C 92 96 dX7_parses_92 (by decide) ?_
                exact z_zret C 96 hA hQ rfl (Or.inr rfl) dX7_parses_96 ⟨((if_neg c9_2).trans ((if_neg c37_17).trans ((if_neg c57_19).trans ((if_neg c62_20).trans ((if_neg c71_24).trans ((if_neg c79_26).trans ((if_neg c88_28).trans rfl))))))).symm, ((if_neg c9_2).trans ((if_neg c37_17).trans ((if_neg c57_19).trans ((if_neg c62_20).trans ((if_neg c71_24).trans ((if_neg c79_26).trans ((if_neg c88_28).trans rfl))))))).symm⟩
    · refine z_iconst C 40 (v := 0) dX7_parses_40 (by decide +kernel) ?_
      exact z_zret C 41 hA hQ rfl (Or.inl rfl) dX7_parses_41 ⟨((if_neg c9_2).trans ((if_pos c37_17).trans rfl)).symm, ((if_neg c9_2).trans ((if_pos c37_17).trans rfl)).symm⟩
theorem zite {c : Prop} [Decidable c] {α β : Type} {a b : α} {x y : β} (P : α → β → Prop) (h1 : c → P a x) (h2 : ¬ c → P b y) : P (if c then a else b) (if c then x else y) := by
  by_cases h : c
  · rw [if_pos h, if_pos h]; exact h1 h
  · rw [if_neg h, if_neg h]; exact h2 h
def mPr (A0 B : Nat) (S : zM) (r : Int32) : Prop := mX A0 (B + 9) S ∧ mT S ∧ (¬ r = 0 → mX (A0 + 1) (B + 9) S)
theorem mPr_0 {A0 B : Nat} {S : zM} {r : Int32} {b : Nat} (hb : b ≤ B + 9) (h : mX (A0 + 1) b S ∧ mT S) : mPr A0 B S r := ⟨h.1.mono (by omega) hb, h.2, fun _ => h.1.mono (Nat.le_refl _) hb⟩
theorem sX7_parses_half {A0 B : Nat} {t : zM} (hB : B ≤ 800) (hT : mT t) (hX : mX A0 B t) (v : Int32) :
    mPr A0 B (if rX7_numbersOf v = 0 then (zset t 0 14 v) else (if (rX7_numbered (zset (zset t 0 14 v) 0 9 (t 0 9 + 1)) 0) = 0 then (sX7_numbered (zset (zset t 0 14 v) 0 9 (t 0 9 + 1)) 0) else (if rX7_numbersOf v = 1 then (if (rX7_sign (sX7_numbered (zset (zset t 0 14 v) 0 9 (t 0 9 + 1)) 0) 59) = 0 then (sX7_sign (sX7_numbered (zset (zset t 0 14 v) 0 9 (t 0 9 + 1)) 0) 59) else (sX7_sign (sX7_numbered (zset (zset t 0 14 v) 0 9 (t 0 9 + 1)) 0) 59)) else (if (rX7_sign (sX7_numbered (zset (zset t 0 14 v) 0 9 (t 0 9 + 1)) 0) 44) = 0 then (sX7_sign (sX7_numbered (zset (zset t 0 14 v) 0 9 (t 0 9 + 1)) 0) 44) else (if (rX7_numbered (sX7_sign (sX7_numbered (zset (zset t 0 14 v) 0 9 (t 0 9 + 1)) 0) 44) 1) = 0 then (sX7_numbered (sX7_sign (sX7_numbered (zset (zset t 0 14 v) 0 9 (t 0 9 + 1)) 0) 44) 1) else (if (rX7_sign (sX7_numbered (sX7_sign (sX7_numbered (zset (zset t 0 14 v) 0 9 (t 0 9 + 1)) 0) 44) 1) 59) = 0 then (sX7_sign (sX7_numbered (sX7_sign (sX7_numbered (zset (zset t 0 14 v) 0 9 (t 0 9 + 1)) 0) 44) 1) 59) else (sX7_sign (sX7_numbered (sX7_sign (sX7_numbered (zset (zset t 0 14 v) 0 9 (t 0 9 + 1)) 0) 44) 1) 59)))))))
      (if rX7_numbersOf v = 0 then 0 else (if (rX7_numbered (zset (zset t 0 14 v) 0 9 (t 0 9 + 1)) 0) = 0 then 0 else (if rX7_numbersOf v = 1 then (if (rX7_sign (sX7_numbered (zset (zset t 0 14 v) 0 9 (t 0 9 + 1)) 0) 59) = 0 then 0 else 1) else (if (rX7_sign (sX7_numbered (zset (zset t 0 14 v) 0 9 (t 0 9 + 1)) 0) 44) = 0 then 0 else (if (rX7_numbered (sX7_sign (sX7_numbered (zset (zset t 0 14 v) 0 9 (t 0 9 + 1)) 0) 44) 1) = 0 then 0 else (if (rX7_sign (sX7_numbered (sX7_sign (sX7_numbered (zset (zset t 0 14 v) 0 9 (t 0 9 + 1)) 0) 44) 1) 59) = 0 then 0 else 1)))))) := by
  have e1 : mX (A0 + 1) (B + 1) (zset (zset t 0 14 v) 0 9 (t 0 9 + 1)) ∧ mT (zset (zset t 0 14 v) 0 9 (t 0 9 + 1)) := ⟨mX_w hX _, mT_set (mT_set hT (Or.inr (by decide))) (Or.inr (by decide))⟩
  generalize zset (zset t 0 14 v) 0 9 (t 0 9 + 1) = S1 at e1 ⊢
  have e2 := sX7_numbered_X (w := 0) (by omega) e1.2 e1.1
  generalize sX7_numbered S1 0 = S2 at e2 ⊢
  have e3 : ∀ a : Int32, mX (A0 + 1) (B + 1 + 3 + 1) (sX7_sign S2 a) ∧ mT (sX7_sign S2 a) := fun a => ⟨sX7_sign_X e2.1, sX7_sign_T e2.2⟩
  have e4 := sX7_numbered_X (w := 1) (by omega) (e3 44).2 (e3 44).1
  have e3a := e3 44
  generalize sX7_sign S2 44 = S3 at e4 e3a ⊢
  generalize sX7_numbered S3 1 = S4 at e4 ⊢
  have e5 : mX (A0 + 1) (B + 1 + 3 + 1 + 3 + 1) (sX7_sign S4 59) ∧ mT (sX7_sign S4 59) := ⟨sX7_sign_X e4.1, sX7_sign_T e4.2⟩
  refine zite (mPr A0 B) (fun _ => ⟨(mX_set hX (Or.inr (by decide))).mono (Nat.le_refl _) (by omega), mT_set hT (Or.inr (by decide)), fun q => absurd rfl q⟩) (fun _ => ?_)
  refine zite (mPr A0 B) (fun _ => mPr_0 (by omega) e2) (fun _ => ?_)
  refine zite (mPr A0 B) (fun _ => zite (mPr A0 B) (fun _ => mPr_0 (by omega) (e3 59)) (fun _ => mPr_0 (by omega) (e3 59))) (fun _ => ?_)
  refine zite (mPr A0 B) (fun _ => mPr_0 (by omega) e3a) (fun _ => ?_)
  refine zite (mPr A0 B) (fun _ => mPr_0 (by omega) e4) (fun _ => ?_)
  exact zite (mPr A0 B) (fun _ => mPr_0 (by omega) e5) (fun _ => mPr_0 (by omega) e5)
theorem sX7_parses_X {A0 B : Nat} {t : zM} (hB : B ≤ 800) (hT : mT t) (hX : mX A0 B t) : mPr A0 B (sX7_parses t) (rX7_parses t) := by
  unfold sX7_parses rX7_parses
  exact zite (mPr A0 B) (fun _ => sX7_parses_half hB hT hX 0) (fun _ => sX7_parses_half hB hT hX _)
theorem rX7_parses_01 (t : zM) : rX7_parses t = 0 ∨ rX7_parses t = 1 := by
  unfold rX7_parses
  repeat' split
  all_goals simp
def rX7_does (t : zM) (N : Nat) : Int32 := (if (t (0) 14) = 99 then (rX7_change t (t (7) 0)) else (if (t (0) 14) = 102 then (rX7_flow t (t (7) 0) (t (7) 1)) else (if (t (0) 14) = 104 then (rX7_house t (t (7) 0) (t (7) 1)) else (if (t (0) 14) = 108 then (if (rX7_isHouse t (t (7) 0)) = 0 then (rX7_lock t (t (7) 0) 0) else (if (t (1) (14 * ((t (7) 0).toNatClampNeg) + 6)) = 0 then (rX7_lock t (t (7) 0) 1) else (rX7_lock t (t (7) 0) 0))) else (if (t (0) 14) = 114 then (rX7_read t (t (7) 0)) else (rX7_days t (t (7) 0) N))))))
def sX7_does (t : zM) (N : Nat) : zM := (if (t (0) 14) = 99 then (sX7_change t (t (7) 0)) else (if (t (0) 14) = 102 then (sX7_flow t (t (7) 0) (t (7) 1)) else (if (t (0) 14) = 104 then (sX7_house t (t (7) 0) (t (7) 1)) else (if (t (0) 14) = 108 then (if (rX7_isHouse t (t (7) 0)) = 0 then (sX7_lock t (t (7) 0) 0) else (if (t (1) (14 * ((t (7) 0).toNatClampNeg) + 6)) = 0 then (sX7_lock t (t (7) 0) 1) else (sX7_lock t (t (7) 0) 0))) else (if (t (0) 14) = 114 then (sX7_read t (t (7) 0)) else (sX7_days t (t (7) 0) N))))))
theorem mX7_does_f150 : Cond.fieldLink RX7 150 "WrongedMetersModel" "order" "I" ∈ wsX7_does := by decide +kernel
set_option maxRecDepth 20000 in
theorem mX7_does_in7 : ∀ w ∈ u_ws RX7 TX7 16, w ∈ wsX7_does := by decide +kernel
theorem mX7_does_f28 : Cond.fieldLink RX7 28 "WrongedMetersModel" "numbers" "[I" ∈ wsX7_does := by decide +kernel
theorem hyX7_does : yX7_does.cls = RX7 ∧ yX7_does.cls ≠ "java/lang/invoke/MethodHandle" ∧ yX7_does.cls ≠ "java/lang/invoke/VarHandle" ∧ (parseMethodDescriptor yX7_does.desc).map (fun d => d.parameters.length) = some 0 := by decide +kernel
set_option maxHeartbeats 3000000 in
set_option maxRecDepth 100000 in
theorem kX7_does (l : Launch) (D : va_G) (cy : Nat → ClassId) (K : zK) (n : Nat) (ad : Nat → Nat) (hJ : zJ n ad) (hO : zModel cy K n ad) (t : zM) (H N : Nat) (hN : N ≤ 10000) (hm : mS H N t) (hp : mP t) : zI l yX7_does wsX7_does 9 D cy K n ad t [.ref (ad (0))] (fun r t1 => r = rX7_does t N ∧ t1 = sX7_does t N) := by
  refine z_startI (cc := cX7_does) (mL := 1) (ret := (some .int)) (own := RX7) rfl (by decide +kernel) rfl hJ (Nat.le_of_ble_eq_true rfl) ?_
  intro p e s m args below meth c A hA Q hQ C
  refine z_aload_n C 0 0 0 dX7_does_0 rfl rfl ?_
  refine z_geti C 1 (0) 14 dX7_does_1 hO.h0 hO.e0 mX7_does_in7 rfl (by decide) mX7_does_f150 (fun _ => rfl) ?_
  by_cases c4_1 : (t (0) 14) = 99
  · refine z_lookup C 4 145 (off := 141) dX7_does_4 (by decide +kernel) (by rw [c4_1]; decide +kernel) (by decide) ?_
    refine z_aload_n C 145 0 0 dX7_does_145 rfl rfl ?_
    refine z_aload_n C 146 0 0 dX7_does_146 rfl rfl ?_
    refine z_getr C 147 (a9 := ad (7)) (0) 15 dX7_does_147 hO.h0 hO.e0 mX7_does_in7 rfl (by decide) mX7_does_f28 (fun _ => rfl) ?_
    refine z_iconst C 150 (v := 0) dX7_does_150 (by decide +kernel) ?_
    refine z_ialdN C 151 (7) 0 dX7_does_151 hO.h7 hO.e7 rfl (by decide) (by decide) ?_
    refine z_virtIe C 152 (As := [.int (t (7) 0)]) (st := []) (id := 0) (kX7_change l D cy K n ad hJ hO t (t (7) 0) H N hm hp) dX7_does_152 rfl gX7_does_X7_change hyX7_change rfl (by decide) (by decide) hO.h0 rfl hO.e0 rfl rfl rfl (Nat.le_of_ble_eq_true rfl) ?_
    exact z_iret C 155 hA hQ rfl dX7_does_155 ⟨((if_pos c4_1).trans rfl).symm, ((if_pos c4_1).trans rfl).symm⟩
  · by_cases c4_3 : (t (0) 14) = 102
    · refine z_lookup C 4 73 (off := 69) dX7_does_4 (by decide +kernel) (by rw [c4_3]; decide +kernel) (by decide) ?_
      refine z_aload_n C 73 0 0 dX7_does_73 rfl rfl ?_
      refine z_aload_n C 74 0 0 dX7_does_74 rfl rfl ?_
      refine z_getr C 75 (a9 := ad (7)) (0) 15 dX7_does_75 hO.h0 hO.e0 mX7_does_in7 rfl (by decide) mX7_does_f28 (fun _ => rfl) ?_
      refine z_iconst C 78 (v := 0) dX7_does_78 (by decide +kernel) ?_
      refine z_ialdN C 79 (7) 0 dX7_does_79 hO.h7 hO.e7 rfl (by decide) (by decide) ?_
      refine z_aload_n C 80 0 0 dX7_does_80 rfl rfl ?_
      refine z_getr C 81 (a9 := ad (7)) (0) 15 dX7_does_81 hO.h0 hO.e0 mX7_does_in7 rfl (by decide) mX7_does_f28 (fun _ => rfl) ?_
      refine z_iconst C 84 (v := 1) dX7_does_84 (by decide +kernel) ?_
      refine z_ialdN C 85 (7) 1 dX7_does_85 hO.h7 hO.e7 rfl (by decide) (by decide) ?_
      refine z_virtIe C 86 (As := [.int (t (7) 0), .int (t (7) 1)]) (st := []) (id := 0) (kX7_flow l D cy K n ad hJ hO t (t (7) 0) (t (7) 1) H N hm hp) dX7_does_86 rfl gX7_does_X7_flow hyX7_flow rfl (by decide) (by decide) hO.h0 rfl hO.e0 rfl rfl rfl (Nat.le_of_ble_eq_true rfl) ?_
      exact z_iret C 89 hA hQ rfl dX7_does_89 ⟨((if_neg c4_1).trans ((if_pos c4_3).trans rfl)).symm, ((if_neg c4_1).trans ((if_pos c4_3).trans rfl)).symm⟩
    · by_cases c4_5 : (t (0) 14) = 104
      · refine z_lookup C 4 56 (off := 52) dX7_does_4 (by decide +kernel) (by rw [c4_5]; decide +kernel) (by decide) ?_
        refine z_aload_n C 56 0 0 dX7_does_56 rfl rfl ?_
        refine z_aload_n C 57 0 0 dX7_does_57 rfl rfl ?_
        refine z_getr C 58 (a9 := ad (7)) (0) 15 dX7_does_58 hO.h0 hO.e0 mX7_does_in7 rfl (by decide) mX7_does_f28 (fun _ => rfl) ?_
        refine z_iconst C 61 (v := 0) dX7_does_61 (by decide +kernel) ?_
        refine z_ialdN C 62 (7) 0 dX7_does_62 hO.h7 hO.e7 rfl (by decide) (by decide) ?_
        refine z_aload_n C 63 0 0 dX7_does_63 rfl rfl ?_
        refine z_getr C 64 (a9 := ad (7)) (0) 15 dX7_does_64 hO.h0 hO.e0 mX7_does_in7 rfl (by decide) mX7_does_f28 (fun _ => rfl) ?_
        refine z_iconst C 67 (v := 1) dX7_does_67 (by decide +kernel) ?_
        refine z_ialdN C 68 (7) 1 dX7_does_68 hO.h7 hO.e7 rfl (by decide) (by decide) ?_
        refine z_virtIe C 69 (As := [.int (t (7) 0), .int (t (7) 1)]) (st := []) (id := 0) (kX7_house l D cy K n ad hJ hO t (t (7) 0) (t (7) 1) H N hm hp) dX7_does_69 rfl gX7_does_X7_house hyX7_house rfl (by decide) (by decide) hO.h0 rfl hO.e0 rfl rfl rfl (Nat.le_of_ble_eq_true rfl) ?_
        exact z_iret C 72 hA hQ rfl dX7_does_72 ⟨((if_neg c4_1).trans ((if_neg c4_3).trans ((if_pos c4_5).trans rfl))).symm, ((if_neg c4_1).trans ((if_neg c4_3).trans ((if_pos c4_5).trans rfl))).symm⟩
      · by_cases c4_7 : (t (0) 14) = 108
        · refine z_lookup C 4 90 (off := 86) dX7_does_4 (by decide +kernel) (by rw [c4_7]; decide +kernel) (by decide) ?_
          refine z_aload_n C 90 0 0 dX7_does_90 rfl rfl ?_
          refine z_aload_n C 91 0 0 dX7_does_91 rfl rfl ?_
          refine z_getr C 92 (a9 := ad (7)) (0) 15 dX7_does_92 hO.h0 hO.e0 mX7_does_in7 rfl (by decide) mX7_does_f28 (fun _ => rfl) ?_
          refine z_iconst C 95 (v := 0) dX7_does_95 (by decide +kernel) ?_
          refine z_ialdN C 96 (7) 0 dX7_does_96 hO.h7 hO.e7 rfl (by decide) (by decide) ?_
          refine z_aload_n C 97 0 0 dX7_does_97 rfl rfl ?_
          refine z_aload_n C 98 0 0 dX7_does_98 rfl rfl ?_
          refine z_getr C 99 (a9 := ad (7)) (0) 15 dX7_does_99 hO.h0 hO.e0 mX7_does_in7 rfl (by decide) mX7_does_f28 (fun _ => rfl) ?_
          refine z_iconst C 102 (v := 0) dX7_does_102 (by decide +kernel) ?_
          refine z_ialdN C 103 (7) 0 dX7_does_103 hO.h7 hO.e7 rfl (by decide) (by decide) ?_
          refine z_virtIe C 104 (As := [.int (t (7) 0)]) (st := [.int (t (7) 0), .ref (ad (0))]) (id := 0) (kX7_isHouse l D cy K n ad hJ hO t (t (7) 0) ) dX7_does_104 rfl gX7_does_X7_isHouse hyX7_isHouse rfl (by decide) (by decide) hO.h0 rfl hO.e0 rfl rfl rfl (Nat.le_of_ble_eq_true rfl) ?_
          refine z_if_eq C 107 129 dX7_does_107 (by decide) (fun c107_9 => ?_) (fun c107_9 => ?_)
          · refine z_iconst C 129 (v := 0) dX7_does_129 (by decide +kernel) ?_
            refine z_virtIe C 130 (As := [.int (t (7) 0), .int 0]) (st := []) (id := 0) (kX7_lock l D cy K n ad hJ hO t (t (7) 0) 0 H N hm hp (Or.inl rfl)) dX7_does_130 rfl gX7_does_X7_lock hyX7_lock rfl (by decide) (by decide) hO.h0 rfl hO.e0 rfl rfl rfl (Nat.le_of_ble_eq_true rfl) ?_
            exact z_iret C 133 hA hQ rfl dX7_does_133 ⟨((if_neg c4_1).trans ((if_neg c4_3).trans ((if_neg c4_5).trans ((if_pos c4_7).trans ((if_pos c107_9).trans rfl))))).symm, ((if_neg c4_1).trans ((if_neg c4_3).trans ((if_neg c4_5).trans ((if_pos c4_7).trans ((if_pos c107_9).trans rfl))))).symm⟩
          · have hq7 := isHouse_lt hm c107_9
            refine z_aload_n C 110 0 0 dX7_does_110 rfl rfl ?_
            refine z_aload_n C 111 0 0 dX7_does_111 rfl rfl ?_
            refine z_getr C 112 (a9 := ad (7)) (0) 15 dX7_does_112 hO.h0 hO.e0 mX7_does_in7 rfl (by decide) mX7_does_f28 (fun _ => rfl) ?_
            refine z_iconst C 115 (v := 0) dX7_does_115 (by decide +kernel) ?_
            refine z_ialdN C 116 (7) 0 dX7_does_116 hO.h7 hO.e7 rfl (by decide) (by decide) ?_
            refine z_bipush C 117 (v := 6) dX7_does_117 (by decide +kernel) ?_
            refine z_virtIe C 119 (As := [.int (t (7) 0), .int 6]) (st := [.int (t (7) 0), .ref (ad (0))]) (id := 0) (kX7_of l D cy K n ad hJ hO t (t (7) 0) 6 ((t (7) 0).toNatClampNeg) 6 (Nat.lt_of_lt_of_le hq7.1 hm.1) (by decide) hq7.2 rfl) dX7_does_119 rfl gX7_does_X7_of hyX7_of rfl (by decide) (by decide) hO.h0 rfl hO.e0 rfl rfl rfl (Nat.le_of_ble_eq_true rfl) ?_
            refine z_nv (t (1) (14 * ((t (7) 0).toNatClampNeg) + 6)) rfl ?_
            refine z_if_ne C 122 129 dX7_does_122 (by decide) (fun c122_12 => ?_) (fun c122_12 => ?_)
            · refine z_iconst C 129 (v := 0) dX7_does_129 (by decide +kernel) ?_
              refine z_virtIe C 130 (As := [.int (t (7) 0), .int 0]) (st := []) (id := 0) (kX7_lock l D cy K n ad hJ hO t (t (7) 0) 0 H N hm hp (Or.inl rfl)) dX7_does_130 rfl gX7_does_X7_lock hyX7_lock rfl (by decide) (by decide) hO.h0 rfl hO.e0 rfl rfl rfl (Nat.le_of_ble_eq_true rfl) ?_
              exact z_iret C 133 hA hQ rfl dX7_does_133 ⟨((if_neg c4_1).trans ((if_neg c4_3).trans ((if_neg c4_5).trans ((if_pos c4_7).trans ((if_neg c107_9).trans ((if_neg c122_12).trans rfl)))))).symm, ((if_neg c4_1).trans ((if_neg c4_3).trans ((if_neg c4_5).trans ((if_pos c4_7).trans ((if_neg c107_9).trans ((if_neg c122_12).trans rfl)))))).symm⟩
            · refine z_iconst C 125 (v := 1) dX7_does_125 (by decide +kernel) ?_
              refine z_goto C 126 130 dX7_does_126 (by decide) ?_
              refine z_virtIe C 130 (As := [.int (t (7) 0), .int 1]) (st := []) (id := 0) (kX7_lock l D cy K n ad hJ hO t (t (7) 0) 1 H N hm hp (Or.inr rfl)) dX7_does_130 rfl gX7_does_X7_lock hyX7_lock rfl (by decide) (by decide) hO.h0 rfl hO.e0 rfl rfl rfl (Nat.le_of_ble_eq_true rfl) ?_
              exact z_iret C 133 hA hQ rfl dX7_does_133 ⟨((if_neg c4_1).trans ((if_neg c4_3).trans ((if_neg c4_5).trans ((if_pos c4_7).trans ((if_neg c107_9).trans ((if_pos c122_12).trans rfl)))))).symm, ((if_neg c4_1).trans ((if_neg c4_3).trans ((if_neg c4_5).trans ((if_pos c4_7).trans ((if_neg c107_9).trans ((if_pos c122_12).trans rfl)))))).symm⟩
        · by_cases c4_15 : (t (0) 14) = 114
          · refine z_lookup C 4 134 (off := 130) dX7_does_4 (by decide +kernel) (by rw [c4_15]; decide +kernel) (by decide) ?_
            refine z_aload_n C 134 0 0 dX7_does_134 rfl rfl ?_
            refine z_aload_n C 135 0 0 dX7_does_135 rfl rfl ?_
            refine z_getr C 136 (a9 := ad (7)) (0) 15 dX7_does_136 hO.h0 hO.e0 mX7_does_in7 rfl (by decide) mX7_does_f28 (fun _ => rfl) ?_
            refine z_iconst C 139 (v := 0) dX7_does_139 (by decide +kernel) ?_
            refine z_ialdN C 140 (7) 0 dX7_does_140 hO.h7 hO.e7 rfl (by decide) (by decide) ?_
            refine z_virtIe C 141 (As := [.int (t (7) 0)]) (st := []) (id := 0) (kX7_read l D cy K n ad hJ hO t (t (7) 0) H N hm hp) dX7_does_141 rfl gX7_does_X7_read hyX7_read rfl (by decide) (by decide) hO.h0 rfl hO.e0 rfl rfl rfl (Nat.le_of_ble_eq_true rfl) ?_
            exact z_iret C 144 hA hQ rfl dX7_does_144 ⟨((if_neg c4_1).trans ((if_neg c4_3).trans ((if_neg c4_5).trans ((if_neg c4_7).trans ((if_pos c4_15).trans rfl))))).symm, ((if_neg c4_1).trans ((if_neg c4_3).trans ((if_neg c4_5).trans ((if_neg c4_7).trans ((if_pos c4_15).trans rfl))))).symm⟩
          · refine z_lookup C 4 156 (off := 152) dX7_does_4 (by decide +kernel) ((lv_osw c4_1 rfl).trans ((lv_osw c4_3 rfl).trans ((lv_osw c4_5 rfl).trans ((lv_osw c4_7 rfl).trans ((lv_osw c4_15 rfl).trans rfl))))) (by decide) ?_
            refine z_aload_n C 156 0 0 dX7_does_156 rfl rfl ?_
            refine z_aload_n C 157 0 0 dX7_does_157 rfl rfl ?_
            refine z_getr C 158 (a9 := ad (7)) (0) 15 dX7_does_158 hO.h0 hO.e0 mX7_does_in7 rfl (by decide) mX7_does_f28 (fun _ => rfl) ?_
            refine z_iconst C 161 (v := 0) dX7_does_161 (by decide +kernel) ?_
            refine z_ialdN C 162 (7) 0 dX7_does_162 hO.h7 hO.e7 rfl (by decide) (by decide) ?_
            refine z_virtIe C 163 (As := [.int (t (7) 0)]) (st := []) (id := 0) (kX7_days l D cy K n ad hJ hO t (t (7) 0) H N hN hm hp) dX7_does_163 rfl gX7_does_X7_days hyX7_days rfl (by decide) (by decide) hO.h0 rfl hO.e0 rfl rfl rfl (Nat.le_of_ble_eq_true rfl) ?_
            exact z_iret C 166 hA hQ rfl dX7_does_166 ⟨((if_neg c4_1).trans ((if_neg c4_3).trans ((if_neg c4_5).trans ((if_neg c4_7).trans ((if_neg c4_15).trans rfl))))).symm, ((if_neg c4_1).trans ((if_neg c4_3).trans ((if_neg c4_5).trans ((if_neg c4_7).trans ((if_neg c4_15).trans rfl))))).symm⟩
theorem mOK.c {t : zM} (h : mOK t) : (t 1 400).toNatClampNeg ≤ 9999 ∧ mS (t 1 401).toNatClampNeg (t 1 400).toNatClampNeg t ∧ mP t ∧ t 1 400 = nI (t 1 400).toNatClampNeg := by
  obtain ⟨⟨H, N, hN, hm⟩, hp⟩ := h
  have hH := hm.1
  rw [show t 1 400 = nI N from hm.2.2.1, show t 1 401 = nI H from hm.2.1, nI_clamp (by omega), nI_clamp (by omega)]
  exact ⟨hN, hm, hp, rfl⟩
theorem mOK_fr {t S : zM} (h : mOK t) (h1 : S 1 = t 1) (h6 : S 6 = t 6) (h4 : S 0 4 = t 0 4) : mOK S := by
  obtain ⟨⟨H, N, hN, hm⟩, P, hP, e⟩ := h
  exact ⟨⟨H, N, hN, mS_fr hm h1 h6⟩, P, hP, h4.trans e⟩
theorem mOK_put0 {t : zM} (h : mOK t) {k : Nat} {v : Int32} (hk : k ≠ 4) : mOK (zset t 0 k v) := mOK_fr h (zset_id _ _ _ (by decide)) (zset_id _ _ _ (by decide)) (zset_nk _ _ _ (Ne.symm hk))
theorem sX7_does_K {t : zM} (h : mOK t) : mK t (sX7_does t (t 1 400).toNatClampNeg) := by
  have hc := h.c
  unfold sX7_does
  split
  · exact sX7_change_K h _
  · split
    · exact sX7_flow_K h _ _
    · split
      · exact sX7_house_K h _ _
      · split
        · split
          · exact sX7_lock_K h _ _
          · split
            · exact sX7_lock_K h _ _
            · exact sX7_lock_K h _ _
        · split
          · exact sX7_read_K h _
          · exact sX7_days_K h _ hc.2.2.2 hc.1
theorem sX7_sign_o (t : zM) (a1 : Int32) {x : Nat} (h : x ≠ 0) : sX7_sign t a1 x = t x := by
  unfold sX7_sign
  split
  · exact zset_id _ _ _ h
  · exact zset_id _ _ _ h
theorem sX7_sign_k (t : zM) (a1 : Int32) {k : Nat} (h : k ≠ 9) : sX7_sign t a1 0 k = t 0 k := by
  unfold sX7_sign
  split
  · exact zset_nk _ _ _ h
  · exact zset_nk _ _ _ h
theorem lsX7_numbered_12_o (t : zM) (w : Nat) {x : Nat} (h : x ≠ 0) (h7 : x ≠ 7) : ∀ (j k : Nat) (u : zM), lsX7_numbered_12 t w j k u x = u x := by
  intro j
  induction j with
  | zero => intro k u; rfl
  | succ j ih =>
    intro k u
    unfold lsX7_numbered_12
    split
    · split
      · rfl
      · rfl
    · split
      · split
        · rfl
        · rfl
      · rw [ih, zset_id _ _ _ h, zset_id _ _ _ h7]
theorem lsX7_numbered_12_k (t : zM) (w : Nat) {x : Nat} (h : x ≠ 9) : ∀ (j k : Nat) (u : zM), lsX7_numbered_12 t w j k u 0 x = u 0 x := by
  intro j
  induction j with
  | zero => intro k u; rfl
  | succ j ih =>
    intro k u
    unfold lsX7_numbered_12
    split
    · split
      · rfl
      · rfl
    · split
      · split
        · rfl
        · rfl
      · rw [ih, zset_nk _ _ _ h, zset_idk _ _ _ _ (by decide)]
theorem sX7_numbered_o (t : zM) (w : Nat) {x : Nat} (h : x ≠ 0) (h7 : x ≠ 7) : sX7_numbered t w x = t x := (lsX7_numbered_12_o t w h h7 _ _ _).trans (zset_id _ _ _ h7)
theorem sX7_numbered_k (t : zM) (w : Nat) {x : Nat} (h : x ≠ 9) : sX7_numbered t w 0 x = t 0 x := (lsX7_numbered_12_k t w h _ _ _).trans (zset_idk _ _ _ _ (by decide))
theorem sX7_parses_o (t : zM) {x : Nat} (h : x ≠ 0) (h7 : x ≠ 7) : sX7_parses t x = t x := by
  unfold sX7_parses
  repeat' split
  all_goals simp only [sX7_sign_o _ _ h, sX7_numbered_o _ _ h h7, zset_id _ _ _ h]
theorem sX7_parses_k (t : zM) {x : Nat} (h : x ≠ 9) (h14 : x ≠ 14) : sX7_parses t 0 x = t 0 x := by
  unfold sX7_parses
  repeat' split
  all_goals simp only [sX7_sign_k _ _ h, sX7_numbered_k _ _ h, zset_nk _ _ _ h, zset_nk _ _ _ h14]
def lX7_plays_22 (t : zM) : Nat → Int32 → Nat → zM → Int32
  | 0, _, _, _ => 0
  | j + 1, v, k, u => (if (u (0) 7) ≤ (u (0) 9) then v else (if v = 0 then v else (if (rX7_parses (zset u (0) 10 (u (0) 9))) = 0 then (lX7_plays_22 t j 0 (k + 1) (zset (zset (zset (sX7_parses (zset u (0) 10 (u (0) 9))) (0) 11 1) (0) 12 (((sX7_parses (zset u (0) 10 (u (0) 9))) (0) 9) - ((sX7_parses (zset u (0) 10 (u (0) 9))) (0) 10))) (0) 13 (((sX7_parses (zset u (0) 10 (u (0) 9))) (0) 13) + 1))) else (if (rX7_does (sX7_parses (zset u (0) 10 (u (0) 9))) (u (1) 400).toNatClampNeg) < 0 then (lX7_plays_22 t j 0 (k + 1) (zset (zset (zset (sX7_does (sX7_parses (zset u (0) 10 (u (0) 9))) (u (1) 400).toNatClampNeg) (0) 11 2) (0) 12 (rX7_does (sX7_parses (zset u (0) 10 (u (0) 9))) (u (1) 400).toNatClampNeg)) (0) 13 (((sX7_does (sX7_parses (zset u (0) 10 (u (0) 9))) (u (1) 400).toNatClampNeg) (0) 13) + 1))) else (lX7_plays_22 t j 1 (k + 1) (zset (zset (zset (sX7_does (sX7_parses (zset u (0) 10 (u (0) 9))) (u (1) 400).toNatClampNeg) (0) 11 2) (0) 12 (rX7_does (sX7_parses (zset u (0) 10 (u (0) 9))) (u (1) 400).toNatClampNeg)) (0) 13 (((sX7_does (sX7_parses (zset u (0) 10 (u (0) 9))) (u (1) 400).toNatClampNeg) (0) 13) + 1)))))))
def lsX7_plays_22 (t : zM) : Nat → Int32 → Nat → zM → zM
  | 0, _, _, u => u
  | j + 1, v, k, u => (if (u (0) 7) ≤ (u (0) 9) then (zset u (0) 5 0) else (if v = 0 then (zset u (0) 5 0) else (if (rX7_parses (zset u (0) 10 (u (0) 9))) = 0 then (lsX7_plays_22 t j 0 (k + 1) (zset (zset (zset (sX7_parses (zset u (0) 10 (u (0) 9))) (0) 11 1) (0) 12 (((sX7_parses (zset u (0) 10 (u (0) 9))) (0) 9) - ((sX7_parses (zset u (0) 10 (u (0) 9))) (0) 10))) (0) 13 (((sX7_parses (zset u (0) 10 (u (0) 9))) (0) 13) + 1))) else (if (rX7_does (sX7_parses (zset u (0) 10 (u (0) 9))) (u (1) 400).toNatClampNeg) < 0 then (lsX7_plays_22 t j 0 (k + 1) (zset (zset (zset (sX7_does (sX7_parses (zset u (0) 10 (u (0) 9))) (u (1) 400).toNatClampNeg) (0) 11 2) (0) 12 (rX7_does (sX7_parses (zset u (0) 10 (u (0) 9))) (u (1) 400).toNatClampNeg)) (0) 13 (((sX7_does (sX7_parses (zset u (0) 10 (u (0) 9))) (u (1) 400).toNatClampNeg) (0) 13) + 1))) else (lsX7_plays_22 t j 1 (k + 1) (zset (zset (zset (sX7_does (sX7_parses (zset u (0) 10 (u (0) 9))) (u (1) 400).toNatClampNeg) (0) 11 2) (0) 12 (rX7_does (sX7_parses (zset u (0) 10 (u (0) 9))) (u (1) 400).toNatClampNeg)) (0) 13 (((sX7_does (sX7_parses (zset u (0) 10 (u (0) 9))) (u (1) 400).toNatClampNeg) (0) 13) + 1)))))))
def rX7_plays (t : zM)  : Int32 := (lX7_plays_22 t 62 1 0 (zset (zset (zset (zset t (0) 5 1) (0) 9 0) (0) 10 0) (0) 13 0))
def sX7_plays (t : zM)  : zM := (lsX7_plays_22 t 62 1 0 (zset (zset (zset (zset t (0) 5 1) (0) 9 0) (0) 10 0) (0) 13 0))
theorem mX7_plays_f31 : Cond.fieldLink RX7 31 "WrongedMetersModel" "runs" "Z" ∈ wsX7_plays := by decide +kernel
set_option maxRecDepth 20000 in
theorem mX7_plays_in7 : ∀ w ∈ u_ws RX7 TX7 16, w ∈ wsX7_plays := by decide +kernel
theorem mX7_plays_f144 : Cond.fieldLink RX7 144 "WrongedMetersModel" "spot" "I" ∈ wsX7_plays := by decide +kernel
theorem mX7_plays_f181 : Cond.fieldLink RX7 181 "WrongedMetersModel" "from" "I" ∈ wsX7_plays := by decide +kernel
theorem mX7_plays_f184 : Cond.fieldLink RX7 184 "WrongedMetersModel" "orders" "I" ∈ wsX7_plays := by decide +kernel
theorem mX7_plays_f141 : Cond.fieldLink RX7 141 "WrongedMetersModel" "typed" "I" ∈ wsX7_plays := by decide +kernel
theorem mX7_plays_f194 : Cond.fieldLink RX7 194 "WrongedMetersModel" "reason" "I" ∈ wsX7_plays := by decide +kernel
theorem mX7_plays_f197 : Cond.fieldLink RX7 197 "WrongedMetersModel" "cause" "I" ∈ wsX7_plays := by decide +kernel
theorem hyX7_plays : yX7_plays.cls = RX7 ∧ yX7_plays.cls ≠ "java/lang/invoke/MethodHandle" ∧ yX7_plays.cls ≠ "java/lang/invoke/VarHandle" ∧ (parseMethodDescriptor yX7_plays.desc).map (fun d => d.parameters.length) = some 0 := by decide +kernel
set_option maxHeartbeats 3000000 in
set_option maxRecDepth 100000 in
theorem kX7_plays (l : Launch) (D : va_G) (cy : Nat → ClassId) (K : zK) (n : Nat) (ad : Nat → Nat) (hJ : zJ n ad) (hO : zModel cy K n ad) (t : zM)  (hT0 : mT t) (hok0 : mOK t) : zI l yX7_plays wsX7_plays 10 D cy K n ad t [.ref (ad (0))] (fun r t1 => r = rX7_plays t ∧ t1 = sX7_plays t) := by
  refine z_startI (cc := cX7_plays) (mL := 4) (ret := (some .boolean)) (own := RX7) rfl (by decide +kernel) rfl hJ (Nat.le_of_ble_eq_true rfl) ?_
  intro p e s m args below meth c A hA Q hQ C
  refine z_aload_n C 0 0 0 dX7_plays_0 rfl rfl ?_
  refine z_iconst C 1 (v := 1) dX7_plays_1 (by decide +kernel) ?_
  refine z_put C 2 (ty := .boolean) (0) 5 dX7_plays_2 hO.h0 hO.e0 mX7_plays_in7 tyX7 tyX7_ok nmX7 rfl (by decide) mX7_plays_f31 rfl (by decide +kernel) (znar_b (Or.inr rfl)) (zfit_b (Or.inr rfl)) (fun _ => Nat.le_of_ble_eq_true rfl) (fun _ _ => rfl) ?_
  refine z_aload_n C 5 0 0 dX7_plays_5 rfl rfl ?_
  refine z_iconst C 6 (v := 0) dX7_plays_6 (by decide +kernel) ?_
  refine z_put C 7 (ty := .int) (0) 9 dX7_plays_7 hO.h0 hO.e0 mX7_plays_in7 tyX7 tyX7_ok nmX7 rfl (by decide) mX7_plays_f144 rfl (by decide +kernel) (vp_nar_int _) (zfit_i _) (fun _ => Nat.le_of_ble_eq_true rfl) (fun _ _ => rfl) ?_
  refine z_aload_n C 10 0 0 dX7_plays_10 rfl rfl ?_
  refine z_iconst C 11 (v := 0) dX7_plays_11 (by decide +kernel) ?_
  refine z_put C 12 (ty := .int) (0) 10 dX7_plays_12 hO.h0 hO.e0 mX7_plays_in7 tyX7 tyX7_ok nmX7 rfl (by decide) mX7_plays_f181 rfl (by decide +kernel) (vp_nar_int _) (zfit_i _) (fun _ => Nat.le_of_ble_eq_true rfl) (fun _ _ => rfl) ?_
  refine z_aload_n C 15 0 0 dX7_plays_15 rfl rfl ?_
  refine z_iconst C 16 (v := 0) dX7_plays_16 (by decide +kernel) ?_
  refine z_put C 17 (ty := .int) (0) 13 dX7_plays_17 hO.h0 hO.e0 mX7_plays_in7 tyX7 tyX7_ok nmX7 rfl (by decide) mX7_plays_f184 rfl (by decide +kernel) (vp_nar_int _) (zfit_i _) (fun _ => Nat.le_of_ble_eq_true rfl) (fun _ _ => rfl) ?_
  refine z_iconst C 20 (v := 1) dX7_plays_20 (by decide +kernel) ?_
  refine z_istore_n C 21 1 ([(1, .int 1), (0, .ref (ad (0)))]) dX7_plays_21 rfl (by decide) rfl ?_
  have L22 : ∀ (j : Nat) (v : Int32) (k : Nat) (u : zM), (h0_22 : 62 ≤ k + j) → (hk : k ≤ 61) → (hv01 : v = 0 ∨ v = 1) → (hkv : v = 1 → k ≤ (u 0 9).toNatClampNeg) → (hT : mT u) → (hX : mX 0 72 u) → (hok : mOK u) → (hI22 : rX7_plays t = (lX7_plays_22 t j v k u)) → (hS22 : sX7_plays t = (lsX7_plays_22 t j v k u)) → Zw p l e (zR 10) s m args below meth c D A K n ad 4 Q 22 ([(1, .int v), (0, .ref (ad (0)))]) [] u := by
    intro j
    induction j with
    | zero =>
      intro v k u h0_22 hk hv01 hkv hT hX hok hI22 hS22
      exact absurd h0_22 (by omega)
    | succ j ih22 =>
      intro v k u h0_22 hk hv01 hkv hT hX hok hI22 hS22
      refine z_aload_n C 22 0 1 dX7_plays_22 rfl rfl ?_
      refine z_geti C 23 (0) 9 dX7_plays_23 hO.h0 hO.e0 mX7_plays_in7 rfl (by decide) mX7_plays_f144 (fun _ => rfl) ?_
      refine z_aload_n C 26 0 1 dX7_plays_26 rfl rfl ?_
      refine z_geti C 27 (0) 7 dX7_plays_27 hO.h0 hO.e0 mX7_plays_in7 rfl (by decide) mX7_plays_f141 (fun _ => rfl) ?_
      refine z_icmp_ge C 30 124 dX7_plays_30 (by decide) (fun c30_1 => ?_) (fun c30_1 => ?_)
      · refine z_aload_n C 124 0 1 dX7_plays_124 rfl rfl ?_
        refine z_iconst C 125 (v := 0) dX7_plays_125 (by decide +kernel) ?_
        refine z_put C 126 (ty := .boolean) (0) 5 dX7_plays_126 hO.h0 hO.e0 mX7_plays_in7 tyX7 tyX7_ok nmX7 rfl (by decide) mX7_plays_f31 rfl (by decide +kernel) (znar_b (Or.inl rfl)) (zfit_b (Or.inl rfl)) (fun _ => Nat.le_of_ble_eq_true rfl) (fun _ _ => rfl) ?_
        refine z_iload_n C 129 1 0 dX7_plays_129 rfl rfl ?_
        exact z_zret C 130 hA hQ rfl hv01 dX7_plays_130 ⟨((hI22.trans ((if_pos c30_1).trans rfl))).symm, ((hS22.trans ((if_pos c30_1).trans rfl))).symm⟩
      · refine z_iload_n C 33 1 0 dX7_plays_33 rfl rfl ?_
        refine z_if_eq C 34 124 dX7_plays_34 (by decide) (fun c34_2 => ?_) (fun c34_2 => ?_)
        · refine z_aload_n C 124 0 1 dX7_plays_124 rfl rfl ?_
          refine z_iconst C 125 (v := 0) dX7_plays_125 (by decide +kernel) ?_
          refine z_put C 126 (ty := .boolean) (0) 5 dX7_plays_126 hO.h0 hO.e0 mX7_plays_in7 tyX7 tyX7_ok nmX7 rfl (by decide) mX7_plays_f31 rfl (by decide +kernel) (znar_b (Or.inl rfl)) (zfit_b (Or.inl rfl)) (fun _ => Nat.le_of_ble_eq_true rfl) (fun _ _ => rfl) ?_
          refine z_iload_n C 129 1 0 dX7_plays_129 rfl rfl ?_
          exact z_zret C 130 hA hQ rfl hv01 dX7_plays_130 ⟨((hI22.trans ((if_neg c30_1).trans ((if_pos c34_2).trans rfl)))).symm, ((hS22.trans ((if_neg c30_1).trans ((if_pos c34_2).trans rfl)))).symm⟩
        · refine z_aload_n C 37 0 1 dX7_plays_37 rfl rfl ?_
          refine z_aload_n C 38 0 1 dX7_plays_38 rfl rfl ?_
          refine z_geti C 39 (0) 9 dX7_plays_39 hO.h0 hO.e0 mX7_plays_in7 rfl (by decide) mX7_plays_f144 (fun _ => rfl) ?_
          refine z_put C 42 (ty := .int) (0) 10 dX7_plays_42 hO.h0 hO.e0 mX7_plays_in7 tyX7 tyX7_ok nmX7 rfl (by decide) mX7_plays_f181 rfl (by decide +kernel) (vp_nar_int _) (zfit_i _) (fun _ => Nat.le_of_ble_eq_true rfl) (fun _ _ => rfl) ?_
          have hv1 : v = 1 := hv01.resolve_left (by assumption)
          have hsp := hX.lt (by decide) hT (by assumption)
          have hkk := hkv hv1
          have hTp : mT (zset u (0) 10 (u (0) 9)) := mT_set hT (Or.inr (by decide))
          have hXp : mX (u (0) 9).toNatClampNeg 59 (zset u (0) 10 (u (0) 9)) := mX_set ⟨(u (0) 9).toNatClampNeg, Nat.le_refl _, by omega, (hX.c (by decide)).2.2⟩ (Or.inr (by decide))
          refine z_aload_n C 45 0 1 dX7_plays_45 rfl rfl ?_
          refine z_virtIe C 46 (As := []) (st := []) (id := 0) (kX7_parses l D cy K n ad hJ hO (zset u (0) 10 (u (0) 9)) (u (0) 9).toNatClampNeg 59 (by decide) hTp hXp) dX7_plays_46 rfl gX7_plays_X7_parses hyX7_parses rfl (by decide) (by decide) hO.h0 rfl hO.e0 rfl rfl rfl (Nat.le_of_ble_eq_true rfl) ?_
          have hS11 : (sX7_parses (zset u (0) 10 (u (0) 9))) 1 = u 1 := (sX7_parses_o _ (by decide) (by decide)).trans (zset_id _ _ _ (by decide))
          have hS16 : (sX7_parses (zset u (0) 10 (u (0) 9))) 6 = u 6 := (sX7_parses_o _ (by decide) (by decide)).trans (zset_id _ _ _ (by decide))
          have hS14 : (sX7_parses (zset u (0) 10 (u (0) 9))) 0 4 = u 0 4 := (sX7_parses_k _ (by decide) (by decide)).trans (zset_nk _ _ _ (by decide))
          have hokS := mOK_fr hok hS11 hS16 hS14
          refine z_istore_n C 49 2 ([(2, .int (rX7_parses (zset u (0) 10 (u (0) 9)))), (1, .int v), (0, .ref (ad (0)))]) dX7_plays_49 rfl (by decide) rfl ?_
          refine z_iload_n C 50 2 0 dX7_plays_50 rfl rfl ?_
          refine z_if_eq C 51 61 dX7_plays_51 (by decide) (fun c51_4 => ?_) (fun c51_4 => ?_)
          · refine z_iconst C 61 (v := 0) dX7_plays_61 (by decide +kernel) ?_
            have hPX := sX7_parses_X (A0 := (u (0) 9).toNatClampNeg) (B := 59) (by decide) hTp hXp
            have hok2 := hokS
            have hT2 := hPX.2.1
            have hX2 := hPX.1
            have hX3 := hPX.2.2
            refine z_istore_n C 62 3 ([(3, .int 0), (2, .int (rX7_parses (zset u (0) 10 (u (0) 9)))), (1, .int v), (0, .ref (ad (0)))]) dX7_plays_62 rfl (by decide) rfl ?_
            refine z_iload_n C 63 2 1 dX7_plays_63 rfl rfl ?_
            refine z_if_eq C 64 75 dX7_plays_64 (by decide) (fun c64_5 => ?_) (fun c64_5 => ?_)
            · refine z_iconst C 75 (v := 0) dX7_plays_75 (by decide +kernel) ?_
              refine z_istore_n C 76 1 ([(1, .int 0), (3, .int 0), (2, .int (rX7_parses (zset u (0) 10 (u (0) 9)))), (0, .ref (ad (0)))]) dX7_plays_76 rfl (by decide) rfl ?_
              refine z_aload_n C 77 0 3 dX7_plays_77 rfl rfl ?_
              refine z_iload_n C 78 2 2 dX7_plays_78 rfl rfl ?_
              refine z_if_eq C 79 86 dX7_plays_79 (by decide) (fun c79_6 => ?_) (fun c79_6 => ?_)
              · refine z_iconst C 86 (v := 1) dX7_plays_86 (by decide +kernel) ?_
                refine z_put C 87 (ty := .int) (0) 11 dX7_plays_87 hO.h0 hO.e0 mX7_plays_in7 tyX7 tyX7_ok nmX7 rfl (by decide) mX7_plays_f194 rfl (by decide +kernel) (vp_nar_int _) (zfit_i _) (fun _ => Nat.le_of_ble_eq_true rfl) (fun _ _ => rfl) ?_
                refine z_aload_n C 90 0 3 dX7_plays_90 rfl rfl ?_
                refine z_iload_n C 91 2 2 dX7_plays_91 rfl rfl ?_
                refine z_if_eq C 92 99 dX7_plays_92 (by decide) (fun c92_7 => ?_) (fun c92_7 => ?_)
                · refine z_aload_n C 99 0 3 dX7_plays_99 rfl rfl ?_
                  refine z_geti C 100 (0) 9 dX7_plays_100 hO.h0 hO.e0 mX7_plays_in7 rfl (by decide) mX7_plays_f144 (fun _ => rfl) ?_
                  refine z_nv ((sX7_parses (zset u (0) 10 (u (0) 9))) (0) 9) ((zset_nk _ _ _ (by decide)).trans rfl) ?_
                  refine z_aload_n C 103 0 3 dX7_plays_103 rfl rfl ?_
                  refine z_geti C 104 (0) 10 dX7_plays_104 hO.h0 hO.e0 mX7_plays_in7 rfl (by decide) mX7_plays_f181 (fun _ => rfl) ?_
                  refine z_nv ((sX7_parses (zset u (0) 10 (u (0) 9))) (0) 10) ((zset_nk _ _ _ (by decide)).trans rfl) ?_
                  refine z_isub C 107 dX7_plays_107 ?_
                  refine z_put C 108 (ty := .int) (0) 12 dX7_plays_108 hO.h0 hO.e0 mX7_plays_in7 tyX7 tyX7_ok nmX7 rfl (by decide) mX7_plays_f197 rfl (by decide +kernel) (vp_nar_int _) (zfit_i _) (fun _ => Nat.le_of_ble_eq_true rfl) (fun _ _ => rfl) ?_
                  refine z_aload_n C 111 0 3 dX7_plays_111 rfl rfl ?_
                  refine z_dup C 112 dX7_plays_112 rfl ?_
                  refine z_geti C 113 (0) 13 dX7_plays_113 hO.h0 hO.e0 mX7_plays_in7 rfl (by decide) mX7_plays_f184 (fun _ => rfl) ?_
                  refine z_nv ((sX7_parses (zset u (0) 10 (u (0) 9))) (0) 13) ((zset_nk _ _ _ (by decide)).trans ((zset_nk _ _ _ (by decide)).trans rfl)) ?_
                  refine z_iconst C 116 (v := 1) dX7_plays_116 (by decide +kernel) ?_
                  refine z_iadd C 117 dX7_plays_117 ?_
                  refine z_put C 118 (ty := .int) (0) 13 dX7_plays_118 hO.h0 hO.e0 mX7_plays_in7 tyX7 tyX7_ok nmX7 rfl (by decide) mX7_plays_f184 rfl (by decide +kernel) (vp_nar_int _) (zfit_i _) (fun _ => Nat.le_of_ble_eq_true rfl) (fun _ _ => rfl) ?_
                  refine z_goto C 121 22 dX7_plays_121 (by decide) ?_
                  refine z_ls [0, 3] _ rfl ?_
                  exact ih22 0 (k + 1) (zset (zset (zset (sX7_parses (zset u (0) 10 (u (0) 9))) (0) 11 1) (0) 12 (((sX7_parses (zset u (0) 10 (u (0) 9))) (0) 9) - ((sX7_parses (zset u (0) 10 (u (0) 9))) (0) 10))) (0) 13 (((sX7_parses (zset u (0) 10 (u (0) 9))) (0) 13) + 1)) (by omega) (by omega) (Or.inl rfl) (fun h9 => absurd h9 (by decide)) (mT_set (mT_set (mT_set hT2 (Or.inr (by decide))) (Or.inr (by decide))) (Or.inr (by decide))) ((mX_set (mX_set (mX_set hX2 (Or.inr (by decide))) (Or.inr (by decide))) (Or.inr (by decide))).mono (Nat.zero_le _) (by decide)) (mOK_put0 (mOK_put0 (mOK_put0 hok2 (by decide)) (by decide)) (by decide)) (hI22.trans ((if_neg c30_1).trans ((if_neg c34_2).trans ((if_pos c51_4).trans rfl)))) (hS22.trans ((if_neg c30_1).trans ((if_neg c34_2).trans ((if_pos c51_4).trans rfl))))
                · exact absurd c51_4 c92_7
              · exact absurd c51_4 c79_6
            · exact absurd c51_4 c64_5
          · refine z_aload_n C 54 0 2 dX7_plays_54 rfl rfl ?_
            refine z_virtIe C 55 (As := []) (st := []) (id := 0) (kX7_does l D cy K n ad hJ hO (sX7_parses (zset u (0) 10 (u (0) 9))) (u (1) 401).toNatClampNeg (u (1) 400).toNatClampNeg (Nat.le_trans hok.c.1 (by decide)) (mS_fr hok.c.2.1 hS11 hS16) hokS.2) dX7_plays_55 rfl gX7_plays_X7_does hyX7_does rfl (by decide) (by decide) hO.h0 rfl hO.e0 rfl rfl rfl (Nat.le_of_ble_eq_true rfl) ?_
            refine z_goto C 58 62 dX7_plays_58 (by decide) ?_
            have hPX := sX7_parses_X (A0 := (u (0) 9).toNatClampNeg) (B := 59) (by decide) hTp hXp
            have hK := sX7_does_K hokS
            have hN1 : ((sX7_parses (zset u (0) 10 (u (0) 9))) 1 400) = u 1 400 := congrFun hS11 400
            rw [hN1] at hK
            have hok2 := hK.1
            have hT2 := mT_fr hPX.2.1 (hK.2.1 7 (by decide))
            have hX2 := mX_fr hPX.1 (hK.2.1 9 (by decide))
            have hX3 := fun (h9 : ¬ rX7_parses (zset u (0) 10 (u (0) 9)) = 0) => mX_fr (hPX.2.2 h9) (hK.2.1 9 (by decide))
            refine z_istore_n C 62 3 ([(3, .int (rX7_does (sX7_parses (zset u (0) 10 (u (0) 9))) (u (1) 400).toNatClampNeg)), (2, .int (rX7_parses (zset u (0) 10 (u (0) 9)))), (1, .int v), (0, .ref (ad (0)))]) dX7_plays_62 rfl (by decide) rfl ?_
            refine z_iload_n C 63 2 1 dX7_plays_63 rfl rfl ?_
            refine z_if_eq C 64 75 dX7_plays_64 (by decide) (fun c64_9 => ?_) (fun c64_9 => ?_)
            · exact absurd c64_9 c51_4
            · refine z_iload_n C 67 3 0 dX7_plays_67 rfl rfl ?_
              refine z_if_lt C 68 75 dX7_plays_68 (by decide) (fun c68_10 => ?_) (fun c68_10 => ?_)
              · refine z_iconst C 75 (v := 0) dX7_plays_75 (by decide +kernel) ?_
                refine z_istore_n C 76 1 ([(1, .int 0), (3, .int (rX7_does (sX7_parses (zset u (0) 10 (u (0) 9))) (u (1) 400).toNatClampNeg)), (2, .int (rX7_parses (zset u (0) 10 (u (0) 9)))), (0, .ref (ad (0)))]) dX7_plays_76 rfl (by decide) rfl ?_
                refine z_aload_n C 77 0 3 dX7_plays_77 rfl rfl ?_
                refine z_iload_n C 78 2 2 dX7_plays_78 rfl rfl ?_
                refine z_if_eq C 79 86 dX7_plays_79 (by decide) (fun c79_11 => ?_) (fun c79_11 => ?_)
                · exact absurd c79_11 c51_4
                · refine z_iconst C 82 (v := 2) dX7_plays_82 (by decide +kernel) ?_
                  refine z_goto C 83 87 dX7_plays_83 (by decide) ?_
                  refine z_put C 87 (ty := .int) (0) 11 dX7_plays_87 hO.h0 hO.e0 mX7_plays_in7 tyX7 tyX7_ok nmX7 rfl (by decide) mX7_plays_f194 rfl (by decide +kernel) (vp_nar_int _) (zfit_i _) (fun _ => Nat.le_of_ble_eq_true rfl) (fun _ _ => rfl) ?_
                  refine z_aload_n C 90 0 3 dX7_plays_90 rfl rfl ?_
                  refine z_iload_n C 91 2 2 dX7_plays_91 rfl rfl ?_
                  refine z_if_eq C 92 99 dX7_plays_92 (by decide) (fun c92_12 => ?_) (fun c92_12 => ?_)
                  · exact absurd c92_12 c51_4
                  · refine z_iload_n C 95 3 1 dX7_plays_95 rfl rfl ?_
                    refine z_goto C 96 108 dX7_plays_96 (by decide) ?_
                    refine z_put C 108 (ty := .int) (0) 12 dX7_plays_108 hO.h0 hO.e0 mX7_plays_in7 tyX7 tyX7_ok nmX7 rfl (by decide) mX7_plays_f197 rfl (by decide +kernel) (vp_nar_int _) (zfit_i _) (fun _ => Nat.le_of_ble_eq_true rfl) (fun _ _ => rfl) ?_
                    refine z_aload_n C 111 0 3 dX7_plays_111 rfl rfl ?_
                    refine z_dup C 112 dX7_plays_112 rfl ?_
                    refine z_geti C 113 (0) 13 dX7_plays_113 hO.h0 hO.e0 mX7_plays_in7 rfl (by decide) mX7_plays_f184 (fun _ => rfl) ?_
                    refine z_nv ((sX7_does (sX7_parses (zset u (0) 10 (u (0) 9))) (u (1) 400).toNatClampNeg) (0) 13) ((zset_nk _ _ _ (by decide)).trans ((zset_nk _ _ _ (by decide)).trans rfl)) ?_
                    refine z_iconst C 116 (v := 1) dX7_plays_116 (by decide +kernel) ?_
                    refine z_iadd C 117 dX7_plays_117 ?_
                    refine z_put C 118 (ty := .int) (0) 13 dX7_plays_118 hO.h0 hO.e0 mX7_plays_in7 tyX7 tyX7_ok nmX7 rfl (by decide) mX7_plays_f184 rfl (by decide +kernel) (vp_nar_int _) (zfit_i _) (fun _ => Nat.le_of_ble_eq_true rfl) (fun _ _ => rfl) ?_
                    refine z_goto C 121 22 dX7_plays_121 (by decide) ?_
                    refine z_ls [0, 3] _ rfl ?_
                    exact ih22 0 (k + 1) (zset (zset (zset (sX7_does (sX7_parses (zset u (0) 10 (u (0) 9))) (u (1) 400).toNatClampNeg) (0) 11 2) (0) 12 (rX7_does (sX7_parses (zset u (0) 10 (u (0) 9))) (u (1) 400).toNatClampNeg)) (0) 13 (((sX7_does (sX7_parses (zset u (0) 10 (u (0) 9))) (u (1) 400).toNatClampNeg) (0) 13) + 1)) (by omega) (by omega) (Or.inl rfl) (fun h9 => absurd h9 (by decide)) (mT_set (mT_set (mT_set hT2 (Or.inr (by decide))) (Or.inr (by decide))) (Or.inr (by decide))) ((mX_set (mX_set (mX_set hX2 (Or.inr (by decide))) (Or.inr (by decide))) (Or.inr (by decide))).mono (Nat.zero_le _) (by decide)) (mOK_put0 (mOK_put0 (mOK_put0 hok2 (by decide)) (by decide)) (by decide)) (hI22.trans ((if_neg c30_1).trans ((if_neg c34_2).trans ((if_neg c51_4).trans ((if_pos c68_10).trans rfl))))) (hS22.trans ((if_neg c30_1).trans ((if_neg c34_2).trans ((if_neg c51_4).trans ((if_pos c68_10).trans rfl)))))
              · refine z_iconst C 71 (v := 1) dX7_plays_71 (by decide +kernel) ?_
                refine z_goto C 72 76 dX7_plays_72 (by decide) ?_
                refine z_istore_n C 76 1 ([(1, .int 1), (3, .int (rX7_does (sX7_parses (zset u (0) 10 (u (0) 9))) (u (1) 400).toNatClampNeg)), (2, .int (rX7_parses (zset u (0) 10 (u (0) 9)))), (0, .ref (ad (0)))]) dX7_plays_76 rfl (by decide) rfl ?_
                refine z_aload_n C 77 0 3 dX7_plays_77 rfl rfl ?_
                refine z_iload_n C 78 2 2 dX7_plays_78 rfl rfl ?_
                refine z_if_eq C 79 86 dX7_plays_79 (by decide) (fun c79_13 => ?_) (fun c79_13 => ?_)
                · exact absurd c79_13 c51_4
                · refine z_iconst C 82 (v := 2) dX7_plays_82 (by decide +kernel) ?_
                  refine z_goto C 83 87 dX7_plays_83 (by decide) ?_
                  refine z_put C 87 (ty := .int) (0) 11 dX7_plays_87 hO.h0 hO.e0 mX7_plays_in7 tyX7 tyX7_ok nmX7 rfl (by decide) mX7_plays_f194 rfl (by decide +kernel) (vp_nar_int _) (zfit_i _) (fun _ => Nat.le_of_ble_eq_true rfl) (fun _ _ => rfl) ?_
                  refine z_aload_n C 90 0 3 dX7_plays_90 rfl rfl ?_
                  refine z_iload_n C 91 2 2 dX7_plays_91 rfl rfl ?_
                  refine z_if_eq C 92 99 dX7_plays_92 (by decide) (fun c92_14 => ?_) (fun c92_14 => ?_)
                  · exact absurd c92_14 c51_4
                  · refine z_iload_n C 95 3 1 dX7_plays_95 rfl rfl ?_
                    refine z_goto C 96 108 dX7_plays_96 (by decide) ?_
                    refine z_put C 108 (ty := .int) (0) 12 dX7_plays_108 hO.h0 hO.e0 mX7_plays_in7 tyX7 tyX7_ok nmX7 rfl (by decide) mX7_plays_f197 rfl (by decide +kernel) (vp_nar_int _) (zfit_i _) (fun _ => Nat.le_of_ble_eq_true rfl) (fun _ _ => rfl) ?_
                    refine z_aload_n C 111 0 3 dX7_plays_111 rfl rfl ?_
                    refine z_dup C 112 dX7_plays_112 rfl ?_
                    refine z_geti C 113 (0) 13 dX7_plays_113 hO.h0 hO.e0 mX7_plays_in7 rfl (by decide) mX7_plays_f184 (fun _ => rfl) ?_
                    refine z_nv ((sX7_does (sX7_parses (zset u (0) 10 (u (0) 9))) (u (1) 400).toNatClampNeg) (0) 13) ((zset_nk _ _ _ (by decide)).trans ((zset_nk _ _ _ (by decide)).trans rfl)) ?_
                    refine z_iconst C 116 (v := 1) dX7_plays_116 (by decide +kernel) ?_
                    refine z_iadd C 117 dX7_plays_117 ?_
                    refine z_put C 118 (ty := .int) (0) 13 dX7_plays_118 hO.h0 hO.e0 mX7_plays_in7 tyX7 tyX7_ok nmX7 rfl (by decide) mX7_plays_f184 rfl (by decide +kernel) (vp_nar_int _) (zfit_i _) (fun _ => Nat.le_of_ble_eq_true rfl) (fun _ _ => rfl) ?_
                    refine z_goto C 121 22 dX7_plays_121 (by decide) ?_
                    refine z_ls [0, 3] _ rfl ?_
                    exact ih22 1 (k + 1) (zset (zset (zset (sX7_does (sX7_parses (zset u (0) 10 (u (0) 9))) (u (1) 400).toNatClampNeg) (0) 11 2) (0) 12 (rX7_does (sX7_parses (zset u (0) 10 (u (0) 9))) (u (1) 400).toNatClampNeg)) (0) 13 (((sX7_does (sX7_parses (zset u (0) 10 (u (0) 9))) (u (1) 400).toNatClampNeg) (0) 13) + 1)) (by omega) (by omega) (Or.inr rfl) (fun _ => by have h8 := (mX_set (mX_set (mX_set (hX3 (by assumption)) (Or.inr (by decide))) (Or.inr (by decide))) (Or.inr (by decide)) : mX _ _ (zset (zset (zset (sX7_does (sX7_parses (zset u (0) 10 (u (0) 9))) (u (1) 400).toNatClampNeg) (0) 11 2) (0) 12 (rX7_does (sX7_parses (zset u (0) 10 (u (0) 9))) (u (1) 400).toNatClampNeg)) (0) 13 (((sX7_does (sX7_parses (zset u (0) 10 (u (0) 9))) (u (1) 400).toNatClampNeg) (0) 13) + 1))).c (by decide); omega) (mT_set (mT_set (mT_set hT2 (Or.inr (by decide))) (Or.inr (by decide))) (Or.inr (by decide))) ((mX_set (mX_set (mX_set hX2 (Or.inr (by decide))) (Or.inr (by decide))) (Or.inr (by decide))).mono (Nat.zero_le _) (by decide)) (mOK_put0 (mOK_put0 (mOK_put0 hok2 (by decide)) (by decide)) (by decide)) (hI22.trans ((if_neg c30_1).trans ((if_neg c34_2).trans ((if_neg c51_4).trans ((if_neg c68_10).trans rfl))))) (hS22.trans ((if_neg c30_1).trans ((if_neg c34_2).trans ((if_neg c51_4).trans ((if_neg c68_10).trans rfl)))))
  refine z_ls [0, 1] _ rfl ?_
  exact L22 (62) 1 0 (zset (zset (zset (zset t (0) 5 1) (0) 9 0) (0) 10 0) (0) 13 0) (by omega) (by decide) (Or.inr rfl) (fun _ => Nat.zero_le _) (mT_set (mT_set (mT_set (mT_set hT0 (Or.inr (by decide))) (Or.inr (by decide))) (Or.inr (by decide))) (Or.inr (by decide))) (mX_set (mX_set ⟨0, Nat.le_refl _, Nat.zero_le _, zset_eq _ _ _ _⟩ (Or.inr (by decide))) (Or.inr (by decide))) (mOK_put0 (mOK_put0 (mOK_put0 (mOK_put0 hok0 (by decide)) (by decide)) (by decide)) (by decide)) rfl rfl

