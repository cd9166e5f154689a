/-! the rows of floats, by ids -/
section ZF
variable {p : Program} {l : Launch} {e : Env} {R : Room} {s : State} {m : MethodId} {args : Array Value} {below : List Frame} {meth : Method} {c : Code} {D : va_G} {A : Nat → Prop} {K : zK} {n : Nat} {ad : Nat → Nat} {nL : Nat} {Q : State → Prop} {ls ls' : List (Nat × Value)} {st : List Value} {t : zM} {cc : ByteArray} {ret : Option FieldType} {own : String} {ws : List Cond} {cy : Nat → ClassId}
theorem z_fconst0 (C : zC p s m args meth c cc nL ret own ws D cy n ad A) (pc : Nat) (hd : decode cc pc = .ok (.fconst 0, 1)) (kk : Zw p l e R s m args below meth c D A K n ad nL Q (pc + 1) ls (.float FP.fconst0 :: st) t) : Zw p l e R s m args below meth c D A K n ad nL Q (pc) ls st t := fun H locs la hP hS hl => lv_fconst0 C.1.1 C.1.2.1 hd (kk H locs la hP hS hl)
theorem z_fconst2 (C : zC p s m args meth c cc nL ret own ws D cy n ad A) (pc : Nat) (hd : decode cc pc = .ok (.fconst 2, 1)) (kk : Zw p l e R s m args below meth c D A K n ad nL Q (pc + 1) ls (.float FP.fconst2 :: st) t) : Zw p l e R s m args below meth c D A K n ad nL Q (pc) ls st t := fun H locs la hP hS hl => lv_fconst2 C.1.1 C.1.2.1 hd (kk H locs la hP hS hl)
theorem z_fcmp (C : zC p s m args meth c cc nL ret own ws D cy n ad A) (pc : Nat) {x y : UInt32} {op : CmpOp} (hd : decode cc pc = .ok (.fcmp op, 1)) (kk : Zw p l e R s m args below meth c D A K n ad nL Q (pc + 1) ls (.int (Op.cmpValue (FP.fcmp x y) op) :: st) t) : Zw p l e R s m args below meth c D A K n ad nL Q (pc) ls (.float y :: .float x :: st) t := fun H locs la hP hS hl => lv_fcmp C.1.1 C.1.2.1 hd (kk H locs la hP hS hl)
theorem z_fmul (C : zC p s m args meth c cc nL ret own ws D cy n ad A) (pc : Nat) {x y : UInt32} (hd : decode cc pc = .ok (.fmul, 1)) (hne : vf_n32 (FP.fmul x y)) (kk : Zw p l e R s m args below meth c D A K n ad nL Q (pc + 1) ls (.float (FP.fmul x y) :: st) t) : Zw p l e R s m args below meth c D A K n ad nL Q (pc) ls (.float y :: .float x :: st) t := fun H locs la hP hS hl => lv_fmul C.1.1 C.1.2.1 hd hne (kk H locs la hP hS hl)
theorem z_fdiv (C : zC p s m args meth c cc nL ret own ws D cy n ad A) (pc : Nat) {x y : UInt32} (hd : decode cc pc = .ok (.fdiv, 1)) (hne : vf_n32 (FP.fdiv x y)) (kk : Zw p l e R s m args below meth c D A K n ad nL Q (pc + 1) ls (.float (FP.fdiv x y) :: st) t) : Zw p l e R s m args below meth c D A K n ad nL Q (pc) ls (.float y :: .float x :: st) t := fun H locs la hP hS hl => lv_fdiv C.1.1 C.1.2.1 hd hne (kk H locs la hP hS hl)
theorem z_i2f (C : zC p s m args meth c cc nL ret own ws D cy n ad A) (pc : Nat) {x : Int32} (hd : decode cc pc = .ok (.i2f, 1)) (kk : Zw p l e R s m args below meth c D A K n ad nL Q (pc + 1) ls (.float (FP.i2f x) :: st) t) : Zw p l e R s m args below meth c D A K n ad nL Q (pc) ls (.int x :: st) t := fun H locs la hP hS hl => lv_i2f C.1.1 C.1.2.1 hd (kk H locs la hP hS hl)
theorem z_f2i (C : zC p s m args meth c cc nL ret own ws D cy n ad A) (pc : Nat) {x : UInt32} (hd : decode cc pc = .ok (.f2i, 1)) (kk : Zw p l e R s m args below meth c D A K n ad nL Q (pc + 1) ls (.int (FP.f2i x) :: st) t) : Zw p l e R s m args below meth c D A K n ad nL Q (pc) ls (.float x :: st) t := fun H locs la hP hS hl => lv_f2i C.1.1 C.1.2.1 hd (kk H locs la hP hS hl)
theorem z_ishl (C : zC p s m args meth c cc nL ret own ws D cy n ad A) (pc : Nat) {x y : Int32} (hd : decode cc pc = .ok (.ishl, 1)) (kk : Zw p l e R s m args below meth c D A K n ad nL Q (pc + 1) ls (.int (x <<< (y &&& 31)) :: st) t) : Zw p l e R s m args below meth c D A K n ad nL Q (pc) ls (.int y :: .int x :: st) t := fun H locs la hP hS hl => lv_ishl C.1.1 C.1.2.1 hd (kk H locs la hP hS hl)
theorem z_rawf (C : zC p s m args meth c cc nL ret own ws D cy n ad A) (pc : Nat) {idx d : Nat} {b : UInt32} (hd : decode cc pc = .ok (.invokestatic idx, 3)) (h1 : Cond.methodLink own idx ⟨"java/lang/Float", "floatToRawIntBits", "(F)I"⟩ ∈ ws) (h2 : Cond.native ⟨"java/lang/Float", "floatToRawIntBits", "(F)I"⟩ ∈ ws) (h3 : Cond.static ⟨"java/lang/Float", "floatToRawIntBits", "(F)I"⟩ ∈ ws) (h4 : Cond.initialized "java/lang/Float" ∈ ws) (hR : R = zR d) (hd0 : 0 < d) (hcat : (st.map fun v => v.category).sum ≤ 8) (kk : Zw p l e R s m args below meth c D A K n ad nL Q (pc + 3) ls (.int b.toInt32 :: st) t) : Zw p l e R s m args below meth c D A K n ad nL Q (pc) ls (.float b :: st) t := fun H locs la hP hS hl => by
  subst hR
  exact vn_f2i C.1.1 C.1.2.1 (C.1.2.2.1.trans hl.1.symm) C.1.2.2.2.1 (C.1.2.2.2.2 _ h1) (C.1.2.2.2.2 _ h2) (C.1.2.2.2.2 _ h3) (C.1.2.2.2.2 _ h4) (show 1 ≤ d from hd0) (by show _ ≤ 40 * d; omega) hd (kk H locs la hP hS hl)
end ZF
theorem zf_nn {b : Nat} (h : b < 255 * 8388608) : vf_n32 (UInt32.ofNat b) := by
  unfold vf_n32
  rw [UInt32.le_iff_toNat_le, UInt32.toNat_and, UInt32.toNat_ofNat_of_lt' (show b < 4294967296 by omega)]
  refine Nat.le_trans Nat.and_le_left ?_
  rw [show UInt32.toNat 0x7f800000 = 2139095040 by decide]
  omega
theorem zf_toI {b : Nat} : (UInt32.ofNat b).toInt32 = nI b := rfl
theorem zf_self {b : Nat} (hb : b = 0 ∨ (2 * 8388608 ≤ b ∧ b < 150 * 8388608)) : FP.fcmp (UInt32.ofNat b) (UInt32.ofNat b) = some .eq := by
  rcases hb with rfl | ⟨h1, h2⟩
  · decide +kernel
  · obtain ⟨E, T, hE1, hE2, hT, rfl⟩ : ∃ E T, 1 ≤ E ∧ E ≤ 254 ∧ T < 8388608 ∧ b = E * 8388608 + T := ⟨b / 8388608, b % 8388608, by omega, by omega, by omega, by omega⟩
    have e1 : (UInt32.ofNat (E * 8388608 + T)).toNat = E * 8388608 + T := UInt32.toNat_ofNat_of_lt' (show E * 8388608 + T < 4294967296 by omega)
    show Jvm.FP.Core.order (Jvm.FP.Core.decode Jvm.FP.Core.b32 (UInt32.ofNat (E * 8388608 + T)).toNat) (Jvm.FP.Core.decode Jvm.FP.Core.b32 (UInt32.ofNat (E * 8388608 + T)).toNat) = _
    rw [e1, zf_dec hE1 hE2 hT]
    exact congrArg some (Int.compare_eq_eq.mpr rfl)
theorem hyX6_bitsOf : yX6_bitsOf.cls ≠ "java/lang/invoke/MethodHandle" ∧ yX6_bitsOf.cls ≠ "java/lang/invoke/VarHandle" ∧ (parseMethodDescriptor yX6_bitsOf.desc).map (fun d => d.parameters.length) = some 1 := by decide +kernel
theorem mX6_bitsOf_c182 : Cond.constantFloat RX6 182 (1258291200) ∈ wsX6_bitsOf := by decide +kernel
theorem mX6_bitsOf_c183 : Cond.constant RX6 183 (8388608) ∈ wsX6_bitsOf := by decide +kernel
set_option maxHeartbeats 3000000 in
set_option maxRecDepth 100000 in
theorem kX6_bitsOf (l : Launch) (D : va_G) (cy : Nat → ClassId) (K : zK) (n : Nat) (ad : Nat → Nat) (hJ : zJ n ad) (t : zM) (b : Nat) (hb : b = 0 ∨ (2 * 8388608 ≤ b ∧ b < 150 * 8388608)) : zI l yX6_bitsOf wsX6_bitsOf 0 D cy K n ad t [.float (UInt32.ofNat b)] (fun r t1 => r = nI b ∧ t1 = t) := by
  refine z_startI (cc := cX6_bitsOf) (mL := 3) (ret := some .int) (own := RX6) rfl (by decide +kernel) rfl hJ (Nat.le_of_ble_eq_true rfl) ?_
  intro p e s m args below meth c A hA Q hQ C
  refine z_fload_n C 0 0 0 dX6_bitsOf_0 rfl rfl ?_
  refine z_fconst0 C 1 dX6_bitsOf_1 ?_
  refine z_fcmp C 2 dX6_bitsOf_2 ?_
  rcases hb with rfl | ⟨h1, h2⟩
  · refine z_if_gt C 3 8 dX6_bitsOf_3 (by decide) (fun q => absurd q (by decide +kernel)) (fun _ => ?_)
    refine z_iconst C 6 (v := 0) dX6_bitsOf_6 (by decide +kernel) ?_
    exact z_iret C 7 hA hQ rfl dX6_bitsOf_7 ⟨rfl, rfl⟩
  · refine z_if_gt C 3 8 dX6_bitsOf_3 (by decide) (fun _ => ?_) (fun q => absurd (by rw [zf_gt0 (by omega) (by omega)]; decide +kernel) q)
    refine z_fload_n C 8 0 0 dX6_bitsOf_8 rfl rfl ?_
    refine z_fstore_n C 9 1 [(1, .float (UInt32.ofNat b)), (0, .float (UInt32.ofNat b))] dX6_bitsOf_9 rfl (by decide) rfl ?_
    refine z_sipush C 10 (v := 150) dX6_bitsOf_10 (by decide +kernel) ?_
    refine z_istore_n C 13 2 [(2, .int 150), (1, .float (UInt32.ofNat b)), (0, .float (UInt32.ofNat b))] dX6_bitsOf_13 rfl (by decide) rfl ?_
    have E : ∀ i : Nat, 150 * 8388608 ≤ b + i * 8388608 → b + i * 8388608 < 151 * 8388608 → Zw p l e (zR 0) s m args below meth c D A K n ad 3 Q 23 [(2, .int (nI (150 - i))), (1, .float (UInt32.ofNat (b + i * 8388608))), (0, .float (UInt32.ofNat b))] [.int (Op.cmpValue (FP.fcmp (UInt32.ofNat (b + i * 8388608)) 1258291200) .g)] t := by
      intro i hj hi
      have hge : ¬ Op.cmpValue (FP.fcmp (UInt32.ofNat (b + i * 8388608)) 1258291200) .g < 0 := by
        rcases zf_cmp (b := b + i * 8388608) (by omega) (by omega) with q | q
        · omega
        · obtain ⟨⟨q1, q2⟩, -⟩ := q
          cases hq : FP.fcmp (UInt32.ofNat (b + i * 8388608)) 1258291200 with
          | none => exact absurd hq q2
          | some o =>
            cases o with
            | lt => exact absurd hq q1
            | eq => decide
            | gt => decide
      refine z_if_ge C 23 36 dX6_bitsOf_23 (by decide) (fun _ => ?_) (fun q => absurd (znlt.mp hge) q)
      refine z_iload_n C 36 2 0 dX6_bitsOf_36 rfl rfl ?_
      refine z_bipush C 37 (v := 23) dX6_bitsOf_37 (by decide +kernel) ?_
      refine z_ishl C 39 dX6_bitsOf_39 ?_
      refine z_fload_n C 40 1 1 dX6_bitsOf_40 rfl rfl ?_
      refine z_f2i C 41 dX6_bitsOf_41 ?_
      refine z_iadd C 42 dX6_bitsOf_42 ?_
      refine z_ldc C 43 (v := 8388608) dX6_bitsOf_43 mX6_bitsOf_c183 ?_
      refine z_isub C 45 dX6_bitsOf_45 ?_
      obtain ⟨T, hT, eT⟩ : ∃ T, T < 8388608 ∧ b + i * 8388608 = 150 * 8388608 + T := ⟨b + i * 8388608 - 150 * 8388608, by omega, by omega⟩
      have e1 : nI (150 - i) <<< ((23 : Int32) &&& 31) = nI ((150 - i) * 2 ^ 23) := pk_shlN _ 23 (by decide +kernel) (by omega)
      refine z_iret C 46 hA hQ rfl dX6_bitsOf_46 ⟨?_, rfl⟩
      rw [e1, eT, zf_f2i hT, nI_add]
      show nI _ - nI 8388608 = _
      rw [nI_sub (by omega)]
      exact congrArg nI (by omega)
    have L : ∀ j i : Nat, 150 * 8388608 ≤ b + (i + j) * 8388608 → b + i * 8388608 < 151 * 8388608 → Zw p l e (zR 0) s m args below meth c D A K n ad 3 Q 14 [(2, .int (nI (150 - i))), (1, .float (UInt32.ofNat (b + i * 8388608))), (0, .float (UInt32.ofNat b))] [] t := by
      intro j
      induction j with
      | zero =>
        intro i hj hi
        refine z_iload_n C 14 2 0 dX6_bitsOf_14 rfl rfl ?_
        refine z_iconst C 15 (v := 1) dX6_bitsOf_15 (by decide +kernel) ?_
        refine z_icmp_le C 16 36 dX6_bitsOf_16 (by decide) (fun q => absurd (zle (b := 1) (by omega) (by decide) q) (by omega)) (fun _ => ?_)
        refine z_fload_n C 19 1 1 dX6_bitsOf_19 rfl rfl ?_
        refine z_ldcf C 20 (v := 1258291200) dX6_bitsOf_20 mX6_bitsOf_c182 ?_
        refine z_fcmp C 22 dX6_bitsOf_22 ?_
        exact E i (by omega) hi
      | succ j ih =>
        intro i hj hi
        refine z_iload_n C 14 2 0 dX6_bitsOf_14 rfl rfl ?_
        refine z_iconst C 15 (v := 1) dX6_bitsOf_15 (by decide +kernel) ?_
        refine z_icmp_le C 16 36 dX6_bitsOf_16 (by decide) (fun q => absurd (zle (b := 1) (by omega) (by decide) q) (by omega)) (fun _ => ?_)
        refine z_fload_n C 19 1 1 dX6_bitsOf_19 rfl rfl ?_
        refine z_ldcf C 20 (v := 1258291200) dX6_bitsOf_20 mX6_bitsOf_c182 ?_
        refine z_fcmp C 22 dX6_bitsOf_22 ?_
        rcases zf_cmp (b := b + i * 8388608) (by omega) (by omega) with ⟨q0, q1⟩ | ⟨⟨q1, q2⟩, q3⟩
        · refine z_if_ge C 23 36 dX6_bitsOf_23 (by decide) (fun q => absurd q (by rw [q0]; decide)) (fun _ => ?_)
          refine z_fload_n C 26 1 1 dX6_bitsOf_26 rfl rfl ?_
          refine z_fconst2 C 27 dX6_bitsOf_27 ?_
          have ed := zf_dbl (b := b + i * 8388608) (by omega) (by omega)
          refine z_fmul C 28 dX6_bitsOf_28 (by rw [ed]; exact zf_nn (by omega)) ?_
          refine z_cast (st2 := [.float (UInt32.ofNat (b + (i + 1) * 8388608))]) (by rw [ed, show b + i * 8388608 + 8388608 = b + (i + 1) * 8388608 by omega]) ?_
          refine z_fstore_n C 29 1 [(1, .float (UInt32.ofNat (b + (i + 1) * 8388608))), (2, .int (nI (150 - i))), (0, .float (UInt32.ofNat b))] dX6_bitsOf_29 rfl (by decide) rfl ?_
          refine z_iinc C 30 (v := nI (150 - (i + 1))) 2 1 [(2, .int (nI (150 - (i + 1)))), (1, .float (UInt32.ofNat (b + (i + 1) * 8388608))), (0, .float (UInt32.ofNat b))] dX6_bitsOf_30 rfl (nI_dec (show 1 ≤ 150 - i by omega)) (by decide) rfl ?_
          refine z_goto C 33 14 dX6_bitsOf_33 (by decide) ?_
          exact ih (i + 1) (by rw [show i + 1 + j = i + (j + 1) by omega]; exact hj) (Nat.lt_of_le_of_lt (Nat.le_of_eq (show b + (i + 1) * 8388608 = b + i * 8388608 + 8388608 by omega)) (Nat.lt_of_lt_of_le (Nat.add_lt_add_right q1 8388608) (by decide +kernel)))
        · exact E i (by omega) hi
    refine z_ls [0, 1, 2] [(2, .int (nI (150 - 0))), (1, .float (UInt32.ofNat (b + 0 * 8388608))), (0, .float (UInt32.ofNat b))] (by rw [Nat.zero_mul, Nat.add_zero]; rfl) ?_
    exact L 150 0 (by omega) (by omega)
