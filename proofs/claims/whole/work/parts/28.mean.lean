theorem z_ofWF {l : Launch} {y : MethodName} {ws ws' : List Cond} {rm : Room} {Pc : Array Value → State → Prop} {Qc : Array Value → State → Outcome → State → Prop} {mc ms : Nat} {free : Addr → Prop} {cc : ByteArray} {maxL : Nat} {ret : Option FieldType}
    (hy : plainFor y = true) (hw : ws = Cond.code y cc maxL ret :: ws')
    (body : ∀ p e s m args below meth c s₁, BodyLoose p l y (headSpec ws rm) cc maxL ret e s m args below meth c s₁ → c.maxLocals = maxL → Pc args s →
      W p l e (headSpec ws rm).room s m args below meth c s.heap [] 0 0 (MQ below Qc args s mc ms free) (entryFrame m args maxL)) : Met l y ws rm Pc Qc mc ms free := by
  refine MetFree.of_bodySF (code := cc) (maxLocals := maxL) (ret := ret) hy ?_ ?_
  · intro args s m h hn
    obtain ⟨meth, c, h1, h2, h3, h4, h5, h6, -, -⟩ := Cond.code_spec hn (atoms_spec (ws := ws) h _ (by rw [hw]; exact List.mem_cons_self))
    exact ⟨meth, c, h1, h2, h3, h4, h5, h6⟩
  · intro p e s m args below meth c s₁ B hml hP _
    have hh0 : s₁.heap = s.heap := by rw [B.state]; rfl
    obtain ⟨t, a1, o, b1, b2, b3⟩ := body p e s m args below meth c s₁ B hml hP s₁ hh0 (Stand.of_body B)
    exact ⟨t, o, a1, b1, b2, ⟨b3.1, b3.2⟩⟩
theorem z_startIF {l : Launch} {y : MethodName} {ws ws8 : List Cond} {d : Nat} {D : va_G} {cy : Nat → ClassId} {K : zK} {n : Nat} {ad : Nat → Nat} {t : zM} {av : List Value} {cc : ByteArray} {mL : Nat} {ret : Option FieldType} {own : String} {post : Int32 → zM → Prop} (hws : ws = .code y cc mL ret :: ws8) (hy : plainFor y = true) (hown : y.cls = own) (hJ : zJ n ad) (hlen : (lg_sl av).length ≤ mL) (body : ∀ (p : Program) (e : Env) (s : State) (m : MethodId) (args : Array Value) (below : List Frame) (meth : Method) (c : Code) (A : Nat → Prop), A = va_A (zw K n ad t) s.heap.size → ∀ (Q : State → Prop), Q = MQ below (zEi D K n ad t s.heap.size post) args s 0 0 A → zC p s m args meth c cc mL ret own ws D cy n ad A → Zw p l e (zR d) s m args below meth c D A K n ad mL Q 0 (lv_args 0 av) [] t) : zI l y ws d D cy K n ad t av post := by
  intro sz
  refine z_ofWF (cc := cc) (maxL := mL) (ret := ret) hy hws ?_
  intro p e s m args below meth c s₁ B hml hv
  obtain ⟨rfl, hsz, hP, hK, hN⟩ := hv
  subst hsz
  have hts := atoms_spec (ws := ws) B.pre
  have ho : s.vm.findClass own = some m.cls := hown ▸ findClass_of_methodNamed B.named
  have hl := lv_entry av (n := mL) hlen
  have := body p e s m av.toArray below meth c _ rfl _ rfl ⟨⟨B.exec, B.bytes, hml, ho, hts⟩, hK, zG.self hJ, fun q h => zA_iff.mpr (Or.inr h), B.returns, B.notSynchronized, hN⟩ s.heap [] _ hP va_S.rf hl
  rw [lg_entry_eq]
  exact this
theorem hyJxf58ca_floatToIntBits_5c35a : yJxf58ca_floatToIntBits_5c35a.cls ≠ "java/lang/invoke/MethodHandle" ∧ yJxf58ca_floatToIntBits_5c35a.cls ≠ "java/lang/invoke/VarHandle" ∧ (parseMethodDescriptor yJxf58ca_floatToIntBits_5c35a.desc).map (fun d => d.parameters.length) = some 1 := by decide +kernel
theorem hyJxf58ca_isNaN_12338 : yJxf58ca_isNaN_12338.cls ≠ "java/lang/invoke/MethodHandle" ∧ yJxf58ca_isNaN_12338.cls ≠ "java/lang/invoke/VarHandle" ∧ (parseMethodDescriptor yJxf58ca_isNaN_12338.desc).map (fun d => d.parameters.length) = some 1 := by decide +kernel
/-- the two methods of Float's own, at numbers -/
theorem kJnan (l : Launch) (D : va_G) (cy : Nat → ClassId) (K : zK) (n : Nat) (ad : Nat → Nat) (hJ : zJ n ad) (t : zM) (b : Nat) (hb : b = 0 ∨ (2 * 8388608 ≤ b ∧ b < 150 * 8388608)) : zI l yJxf58ca_isNaN_12338 wsJxf58ca_isNaN_12338 0 D cy K n ad t [.float (UInt32.ofNat b)] (fun r t1 => r = 0 ∧ t1 = t) := by
  refine z_startIF (cc := cJxf58ca_isNaN_12338) (mL := 1) (ret := some .boolean) (own := RJxf58ca) rfl (by decide +kernel) rfl hJ (Nat.le_of_ble_eq_true rfl) ?_
  intro p e s m args below meth c A hA Q hQ C
  refine z_fload_n C 0 0 0 dJxf58ca_isNaN_12338_0 rfl rfl ?_
  refine z_fload_n C 1 0 0 dJxf58ca_isNaN_12338_1 rfl rfl ?_
  refine z_fcmp C 2 dJxf58ca_isNaN_12338_2 ?_
  refine z_if_eq C 3 10 dJxf58ca_isNaN_12338_3 (by decide) (fun _ => ?_) (fun q => absurd (by rw [zf_self hb]; rfl) q)
  refine z_iconst C 10 (v := 0) dJxf58ca_isNaN_12338_10 (by decide +kernel) ?_
  exact z_zret C 11 hA hQ rfl (Or.inl rfl) dJxf58ca_isNaN_12338_11 ⟨rfl, rfl⟩
theorem mJ_l74 : Cond.methodLink RJxf58ca 74 ⟨"java/lang/Float", "floatToRawIntBits", "(F)I"⟩ ∈ wsJxf58ca_floatToIntBits_5c35a := by decide +kernel
theorem mJ_n : Cond.native ⟨"java/lang/Float", "floatToRawIntBits", "(F)I"⟩ ∈ wsJxf58ca_floatToIntBits_5c35a := by decide +kernel
theorem mJ_s : Cond.static ⟨"java/lang/Float", "floatToRawIntBits", "(F)I"⟩ ∈ wsJxf58ca_floatToIntBits_5c35a := by decide +kernel
theorem mJ_i : Cond.initialized "java/lang/Float" ∈ wsJxf58ca_floatToIntBits_5c35a := by decide +kernel
theorem kJbits (l : Launch) (D : va_G) (cy : Nat → ClassId) (K : zK) (n : Nat) (ad : Nat → Nat) (hJ : zJ n ad) (t : zM) (b : Nat) (hb : b = 0 ∨ (2 * 8388608 ≤ b ∧ b < 150 * 8388608)) : zI l yJxf58ca_floatToIntBits_5c35a wsJxf58ca_floatToIntBits_5c35a 1 D cy K n ad t [.float (UInt32.ofNat b)] (fun r t1 => r = nI b ∧ t1 = t) := by
  refine z_startIF (cc := cJxf58ca_floatToIntBits_5c35a) (mL := 1) (ret := some .int) (own := RJxf58ca) rfl (by decide +kernel) rfl hJ (Nat.le_of_ble_eq_true rfl) ?_
  intro p e s m args below meth c A hA Q hQ C
  refine z_fload_n C 0 0 0 dJxf58ca_floatToIntBits_5c35a_0 rfl rfl ?_
  refine z_statIe C 1 (As := [.float (UInt32.ofNat b)]) (st := []) (kJnan l D cy K n ad hJ t b hb) dJxf58ca_floatToIntBits_5c35a_1 rfl gJxf58ca_floatToIntBits_5c35a_Jxf58ca_isNaN_12338 hyJxf58ca_isNaN_12338 rfl (by decide) (by decide) rfl rfl (Nat.le_of_ble_eq_true rfl) ?_
  refine z_if_ne C 4 12 dJxf58ca_floatToIntBits_5c35a_4 (by decide) (fun q => absurd rfl q) (fun _ => ?_)
  refine z_fload_n C 7 0 0 dJxf58ca_floatToIntBits_5c35a_7 rfl rfl ?_
  refine z_rawf C 8 (d := 1) dJxf58ca_floatToIntBits_5c35a_8 mJ_l74 mJ_n mJ_s mJ_i rfl (by decide) (Nat.le_of_ble_eq_true rfl) ?_
  exact z_iret C 11 hA hQ rfl dJxf58ca_floatToIntBits_5c35a_11 ⟨rfl, rfl⟩
def lX7_mean_4 (t : zM) : Nat → Nat → Int32 → Int32
  | 0, _, _ => 0
  | j + 1, k, v => (if (t (1) 401) ≤ nI k then v else (if 0 ≤ (t (1) (14 * k + 4)) then (lX7_mean_4 t j (k + 1) (v + (t (1) (14 * k + 4)))) else (lX7_mean_4 t j (k + 1) (v + (-(t (1) (14 * k + 4)))))))
def rX7_mean (t : zM)  : Int32 := (if (t (1) 401) = 0 then (-1000004) else (zmb (lX7_mean_4 t 25 0 0) (t (1) 401)))
theorem mX7_mean_f7 : Cond.fieldLink RX7 7 "WrongedMetersModel" "s" "[I" ∈ wsX7_mean := by decide +kernel
set_option maxRecDepth 20000 in
theorem mX7_mean_in7 : ∀ w ∈ u_ws RX7 TX7 16, w ∈ wsX7_mean := by decide +kernel
theorem mX7_mean_c47 : Cond.constant RX7 47 (-1000004) ∈ wsX7_mean := by decide +kernel
theorem hyX7_mean : yX7_mean.cls = RX7 ∧ yX7_mean.cls ≠ "java/lang/invoke/MethodHandle" ∧ yX7_mean.cls ≠ "java/lang/invoke/VarHandle" ∧ (parseMethodDescriptor yX7_mean.desc).map (fun d => d.parameters.length) = some 0 := by decide +kernel
set_option maxHeartbeats 3000000 in
set_option maxRecDepth 100000 in
theorem kX7_mean (l : Launch) (D : va_G) (cy : Nat → ClassId) (K : zK) (n : Nat) (ad : Nat → Nat) (hJ : zJ n ad) (hO : zModel cy K n ad) (t : zM) (H N Sn : Nat) (hm : mS H N t) (hS : Sn ≤ 2400) (eS : lX7_mean_4 t 25 0 0 = nI Sn) : zI l yX7_mean wsX7_mean 2 D cy K n ad t [.ref (ad (0))] (fun r t1 => r = rX7_mean t ∧ t1 = t) := by
  refine z_startI (cc := cX7_mean) (mL := 4) (ret := (some .int)) (own := RX7) rfl (by decide +kernel) rfl hJ (Nat.le_of_ble_eq_true rfl) ?_
  intro p e s m args below meth c A hA Q hQ C
  refine z_iconst C 0 (v := 0) dX7_mean_0 (by decide +kernel) ?_
  refine z_istore_n C 1 1 ([(1, .int 0), (0, .ref (ad (0)))]) dX7_mean_1 rfl (by decide) rfl ?_
  refine z_iconst C 2 (v := 0) dX7_mean_2 (by decide +kernel) ?_
  refine z_istore_n C 3 2 ([(2, .int 0), (1, .int 0), (0, .ref (ad (0)))]) dX7_mean_3 rfl (by decide) rfl ?_
  have K4 : ∀ z4 : Int32, z4 = (lX7_mean_4 t 25 0 0) → Zw p l e (zR 2) s m args below meth c D A K n ad 4 Q 42 ([(1, .int z4), (0, .ref (ad (0)))]) [] t := by
    intro z4 ez4
    subst ez4
    refine z_iload_n C 42 1 0 dX7_mean_42 rfl rfl ?_
    refine z_i2f C 43 dX7_mean_43 ?_
    refine z_fstore_n C 44 2 ([(2, .float (FP.i2f (lX7_mean_4 t 25 0 0))), (1, .int (lX7_mean_4 t 25 0 0)), (0, .ref (ad (0)))]) dX7_mean_44 rfl (by decide) rfl ?_
    refine z_aload_n C 45 0 2 dX7_mean_45 rfl rfl ?_
    refine z_getr C 46 (a9 := ad (1)) (0) 0 dX7_mean_46 hO.h0 hO.e0 mX7_mean_in7 rfl (by decide) mX7_mean_f7 (fun _ => rfl) ?_
    refine z_sipush C 49 (v := 401) dX7_mean_49 (by decide +kernel) ?_
    refine z_ialdN C 52 (1) 401 dX7_mean_52 hO.h1 hO.e1 rfl (by decide) (by decide) ?_
    refine z_i2f C 53 dX7_mean_53 ?_
    refine z_fstore_n C 54 3 ([(3, .float (FP.i2f (t (1) 401))), (2, .float (FP.i2f (lX7_mean_4 t 25 0 0))), (1, .int (lX7_mean_4 t 25 0 0)), (0, .ref (ad (0)))]) dX7_mean_54 rfl (by decide) rfl ?_
    refine z_aload_n C 55 0 3 dX7_mean_55 rfl rfl ?_
    refine z_getr C 56 (a9 := ad (1)) (0) 0 dX7_mean_56 hO.h0 hO.e0 mX7_mean_in7 rfl (by decide) mX7_mean_f7 (fun _ => rfl) ?_
    refine z_sipush C 59 (v := 401) dX7_mean_59 (by decide +kernel) ?_
    refine z_ialdN C 62 (1) 401 dX7_mean_62 hO.h1 hO.e1 rfl (by decide) (by decide) ?_
    refine z_if_ne C 63 71 dX7_mean_63 (by decide) (fun c63_1 => ?_) (fun c63_1 => ?_)
    · refine z_fload_n C 71 2 1 dX7_mean_71 rfl rfl ?_
      refine z_fload_n C 72 3 0 dX7_mean_72 rfl rfl ?_
      have h8 : 0 < H := Nat.pos_of_ne_zero (fun q => absurd (show t 1 401 = 0 by rw [hm.2.1, q]; rfl) (by assumption))
      obtain ⟨b9, hb9, eb9⟩ := zf_mean (S := Sn) (C := H) (by omega) h8 (by have := hm.1; omega)
      have hf9 : FP.fdiv (FP.i2f (lX7_mean_4 t 25 0 0)) (FP.i2f (t (1) 401)) = UInt32.ofNat b9 := by rw [eS, hm.2.1]; exact eb9
      refine z_fdiv C 73 dX7_mean_73 (by rw [hf9]; exact zf_nn (by omega)) ?_
      refine z_cast (st2 := [.float (UInt32.ofNat b9)]) (by rw [hf9]) ?_
      refine z_statIe C 74 (As := [.float (UInt32.ofNat b9)]) (st := []) (kJbits l D cy K n ad hJ t b9 hb9) dX7_mean_74 rfl gX7_mean_Jxf58ca_floatToIntBits_5c35a hyJxf58ca_floatToIntBits_5c35a rfl (by decide) (by decide) rfl rfl (Nat.le_of_ble_eq_true rfl) ?_
      refine z_nv (zmb (lX7_mean_4 t 25 0 0) (t (1) 401)) (by unfold zmb; rw [hf9]; rfl) ?_
      exact z_iret C 77 hA hQ rfl dX7_mean_77 ⟨((if_neg c63_1).trans rfl).symm, rfl⟩
    · refine z_ldc C 66 (v := (-1000004)) dX7_mean_66 mX7_mean_c47 ?_
      refine z_goto C 68 77 dX7_mean_68 (by decide) ?_
      exact z_iret C 77 hA hQ rfl dX7_mean_77 ⟨((if_pos c63_1).trans rfl).symm, rfl⟩
  have L4 : ∀ (j : Nat) (k : Nat) (v : Int32), (h0_4 : 25 ≤ k + j) → (hk : k ≤ H) → (hI4 : (lX7_mean_4 t 25 0 0) = (lX7_mean_4 t j k v)) → Zw p l e (zR 2) s m args below meth c D A K n ad 4 Q 4 ([(2, .int (nI k)), (1, .int v), (0, .ref (ad (0)))]) [] t := by
    intro j
    induction j with
    | zero =>
      intro k v h0_4 hk hI4
      exact absurd h0_4 (by have := hm.1; omega)
    | succ j ih4 =>
      intro k v h0_4 hk hI4
      refine z_iload_n C 4 2 0 dX7_mean_4 rfl rfl ?_
      refine z_aload_n C 5 0 2 dX7_mean_5 rfl rfl ?_
      refine z_getr C 6 (a9 := ad (1)) (0) 0 dX7_mean_6 hO.h0 hO.e0 mX7_mean_in7 rfl (by decide) mX7_mean_f7 (fun _ => rfl) ?_
      refine z_sipush C 9 (v := 401) dX7_mean_9 (by decide +kernel) ?_
      refine z_ialdN C 12 (1) 401 dX7_mean_12 hO.h1 hO.e1 rfl (by decide) (by decide) ?_
      refine z_icmp_ge C 13 42 dX7_mean_13 (by decide) (fun c13_2 => ?_) (fun c13_2 => ?_)
      · refine z_ls [1, 2] _ rfl ?_
        exact (K4 _ (hI4.trans ((if_pos c13_2).trans rfl)).symm)
      · refine z_aload_n C 16 0 2 dX7_mean_16 rfl rfl ?_
        refine z_iload_n C 17 2 0 dX7_mean_17 rfl rfl ?_
        refine z_iconst C 18 (v := 4) dX7_mean_18 (by decide +kernel) ?_
        refine z_virtIe C 19 (As := [.int (nI k), .int 4]) (st := []) (id := 0) (kX7_of l D cy K n ad hJ hO t (nI k) 4 k 4 (Nat.lt_of_lt_of_le (hm.lt (Nat.le_trans hk hm.1) ‹¬ t (1) 401 ≤ nI k›) hm.1) (by decide) rfl rfl) dX7_mean_19 rfl gX7_mean_X7_of hyX7_of rfl (by decide) (by decide) hO.h0 rfl hO.e0 rfl rfl rfl (Nat.le_of_ble_eq_true rfl) ?_
        refine z_nv (t (1) (14 * k + 4)) rfl ?_
        refine z_istore_n C 22 3 ([(3, .int (t (1) (14 * k + 4))), (2, .int (nI k)), (1, .int v), (0, .ref (ad (0)))]) dX7_mean_22 rfl (by decide) rfl ?_
        refine z_iload_n C 23 1 2 dX7_mean_23 rfl rfl ?_
        refine z_iload_n C 24 3 0 dX7_mean_24 rfl rfl ?_
        refine z_if_ge C 25 33 dX7_mean_25 (by decide) (fun c25_4 => ?_) (fun c25_4 => ?_)
        · refine z_iload_n C 33 3 0 dX7_mean_33 rfl rfl ?_
          refine z_iadd C 34 dX7_mean_34 ?_
          refine z_istore_n C 35 1 ([(1, .int (v + (t (1) (14 * k + 4)))), (3, .int (t (1) (14 * k + 4))), (2, .int (nI k)), (0, .ref (ad (0)))]) dX7_mean_35 rfl (by decide) rfl ?_
          refine z_iinc C 36 (v := nI (k + 1)) 2 2 ([(2, .int (nI (k + 1))), (1, .int (v + (t (1) (14 * k + 4)))), (3, .int (t (1) (14 * k + 4))), (0, .ref (ad (0)))]) dX7_mean_36 rfl (nI_1 _) (by decide) rfl ?_
          refine z_goto C 39 4 dX7_mean_39 (by decide) ?_
          refine z_ls [0, 1, 3] _ rfl ?_
          exact ih4 (k + 1) (v + (t (1) (14 * k + 4))) (by omega) (hm.lt (Nat.le_trans hk hm.1) ‹¬ t (1) 401 ≤ nI k›) (hI4.trans ((if_neg c13_2).trans ((if_pos c25_4).trans rfl)))
        · refine z_iload_n C 28 3 0 dX7_mean_28 rfl rfl ?_
          refine z_ineg C 29 dX7_mean_29 ?_
          refine z_goto C 30 34 dX7_mean_30 (by decide) ?_
          refine z_iadd C 34 dX7_mean_34 ?_
          refine z_istore_n C 35 1 ([(1, .int (v + (-(t (1) (14 * k + 4))))), (3, .int (t (1) (14 * k + 4))), (2, .int (nI k)), (0, .ref (ad (0)))]) dX7_mean_35 rfl (by decide) rfl ?_
          refine z_iinc C 36 (v := nI (k + 1)) 2 2 ([(2, .int (nI (k + 1))), (1, .int (v + (-(t (1) (14 * k + 4))))), (3, .int (t (1) (14 * k + 4))), (0, .ref (ad (0)))]) dX7_mean_36 rfl (nI_1 _) (by decide) rfl ?_
          refine z_goto C 39 4 dX7_mean_39 (by decide) ?_
          refine z_ls [0, 1, 3] _ rfl ?_
          exact ih4 (k + 1) (v + (-(t (1) (14 * k + 4)))) (by omega) (hm.lt (Nat.le_trans hk hm.1) ‹¬ t (1) 401 ≤ nI k›) (hI4.trans ((if_neg c13_2).trans ((if_neg c25_4).trans rfl)))
  refine z_ls [0, 1, 2] _ rfl ?_
  exact L4 (25) 0 0 (by omega) (Nat.zero_le _) rfl
