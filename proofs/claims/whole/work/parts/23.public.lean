theorem rX7_in_ok {v a c : Int32} (h : ¬ rX7_in v a c = 0) : ¬ v < a ∧ ¬ c < v := by
  unfold rX7_in at h
  split at h
  · exact absurd rfl h
  · split at h
    · exact absurd rfl h
    · exact ⟨by assumption, by assumption⟩
theorem isHouse_lt {H N : Nat} {t : zM} {x : Int32} (hm : mS H N t) (h : ¬ rX7_isHouse t x = 0) : x.toNatClampNeg < H ∧ x = nI x.toNatClampNeg := by
  obtain ⟨h1, h2⟩ := rX7_in_ok h
  obtain ⟨k, hk, rfl⟩ := nI_of h1
  rw [nI_clamp hk]
  refine ⟨?_, rfl⟩
  have hH := hm.1
  rcases Nat.lt_or_ge k H with q | q
  · exact q
  · refine absurd ?_ h2
    rw [hm.2.1]
    rcases Nat.eq_zero_or_pos H with e | e
    · subst e
      rw [Int32.lt_iff_toInt_lt, nI_toInt hk]
      have : (nI 0 - 1).toInt = -1 := by decide +kernel
      omega
    · rw [show nI H - 1 = nI (H - 1) from nI_sub (b := 1) e]
      exact (nI_ltI (by omega) hk).mpr (by omega)
def mP (t : zM) : Prop := ∃ P, P ≤ 4 ∧ t 0 4 = nI P
theorem mP3 {x : Int32} {P : Nat} (h : x = nI P) (hP : P ≤ 3) : x.toNatClampNeg ≤ 3 ∧ x = nI x.toNatClampNeg := by
  rw [h, nI_clamp (by omega)]
  exact ⟨hP, rfl⟩
theorem mP_ne {t : zM} (h : mP t) (c : ¬ t 0 4 = 4) : (t 0 4).toNatClampNeg ≤ 3 ∧ t 0 4 = nI (t 0 4).toNatClampNeg := by
  obtain ⟨P, hP, e⟩ := h
  refine mP3 e ?_
  rcases Nat.lt_or_ge 3 P with q | q
  · have : P = 4 := by omega
    subst this
    exact absurd e c
  · exact q
theorem mH_lt {H N : Nat} {t : zM} (h : mS H N t) (c : ¬ t 1 401 = 24) : (t 1 401).toNatClampNeg < 24 ∧ t 1 401 = nI (t 1 401).toNatClampNeg := by
  have h0 := h.1
  have h1 := h.2.1
  rw [h1] at c ⊢
  rw [nI_clamp (by omega)]
  refine ⟨?_, rfl⟩
  rcases Nat.lt_or_ge H 24 with q | q
  · exact q
  · have : H = 24 := by omega
    subst this
    exact absurd rfl c
theorem mlt {x : Int32} {m : Nat} (h : ¬ rX7_in x 0 (nI m) = 0) (hm : m + 1 < 2 ^ 31) : x.toNatClampNeg < m + 1 ∧ x = nI x.toNatClampNeg := by
  obtain ⟨h1, h2⟩ := rX7_in_ok h
  obtain ⟨k, hk, rfl⟩ := nI_of h1
  rw [nI_clamp hk]
  refine ⟨?_, rfl⟩
  have := zle hk (by omega) (znlt.mp h2)
  omega
theorem m03 {x : Int32} (h : ¬ rX7_in x 0 3 = 0) : x.toNatClampNeg < 4 ∧ x = nI x.toNatClampNeg := mlt (m := 3) h (by decide)
theorem m05 {x : Int32} (h : ¬ rX7_in x 0 5 = 0) : x.toNatClampNeg < 6 ∧ x = nI x.toNatClampNeg := mlt (m := 5) h (by decide)
theorem m013 {x : Int32} (h : ¬ rX7_in x 0 13 = 0) : x.toNatClampNeg < 14 ∧ x = nI x.toNatClampNeg := mlt (m := 13) h (by decide)
theorem m99 {x : Int32} (h : ¬ rX7_in x 1 99 = 0) : x.toNatClampNeg ≤ 99 ∧ x = nI x.toNatClampNeg := by
  obtain ⟨h1, h2⟩ := rX7_in_ok h
  have p0 : ¬ x < 0 := fun h => h1 (by
    rw [Int32.lt_iff_toInt_lt] at h ⊢
    have e : (Int32.toInt 1) = 1 := by decide
    have e0 : (Int32.toInt 0) = 0 := by decide
    omega)
  exact ⟨z99 h1 h2, znc p0⟩
theorem m410 {x : Int32} (h : x.toNatClampNeg < 4 ∧ x = nI x.toNatClampNeg) : 410 + x = nI (410 + x.toNatClampNeg) := (congrArg (fun z9 => 410 + z9) h.2).trans (nI_add 410 _)
theorem mled {x y : Int32} (hx : ¬ x < 0) (hy : y.toNatClampNeg < 6 ∧ y = nI y.toNatClampNeg) : 340 + 6 * x + y = nI (340 + 6 * x.toNatClampNeg + y.toNatClampNeg) := by
  have h1 : 340 + 6 * x = nI (340 + 6 * x.toNatClampNeg) := (congrArg (fun z9 => 340 + 6 * z9) (znc hx)).trans ((congrArg (fun z9 => 340 + z9) (nI_mul 6 _)).trans (nI_add 340 _))
  rw [h1]
  exact (congrArg (fun z9 => nI (340 + 6 * x.toNatClampNeg) + z9) hy.2).trans (nI_add _ _)
theorem mnext {H N q : Nat} {t : zM} {x : Int32} (hm : mS H N t) (h0 : 0 ≤ x) (c : ¬ rX7_rounds t q ≤ x) : x.toNatClampNeg < 24 := by
  obtain ⟨r, hr, e⟩ := rX7_rounds_le (q := q) hm
  rw [e] at c
  have := zidxc (znlt.mpr h0) (znl.mp c) (by omega)
  omega
def lsX7_copies_2 (t : zM) (x : Nat) (y : Nat) : Nat → Nat → zM → zM
  | 0, _, u => u
  | j + 1, k, u => (if 414 ≤ nI k then u else (lsX7_copies_2 t x y j (k + 1) (zset u (y) k (u (x) k))))
def sX7_copies (t : zM) (x : Nat) (y : Nat) : zM := (lsX7_copies_2 t x y 415 0 t)
theorem hyX7_copies : yX7_copies.cls ≠ "java/lang/invoke/MethodHandle" ∧ yX7_copies.cls ≠ "java/lang/invoke/VarHandle" ∧ (parseMethodDescriptor yX7_copies.desc).map (fun d => d.parameters.length) = some 2 := by decide +kernel
set_option maxHeartbeats 3000000 in
set_option maxRecDepth 100000 in
theorem kX7_copies (l : Launch) (D : va_G) (cy : Nat → ClassId) (K : zK) (n : Nat) (ad : Nat → Nat) (hJ : zJ n ad) (t : zM) (x y : Nat) (hx : x < n) (hy : y < n) (ex : ∀ f, K ad x f = .inl (cy 0, 414, .inl f)) (ey : ∀ f, K ad y f = .inl (cy 0, 414, .inl f)) : zV l yX7_copies wsX7_copies 0 D cy K n ad t [.ref (ad (x)), .ref (ad (y))] (fun t1 => t1 = sX7_copies t x y) := by
  refine z_startV (cc := cX7_copies) (mL := 3) (ret := none) (own := RX7) rfl (by decide +kernel) rfl hJ (Nat.le_of_ble_eq_true rfl) ?_
  intro p e s m args below meth c A hA Q hQ C
  refine z_iconst C 0 (v := 0) dX7_copies_0 (by decide +kernel) ?_
  refine z_istore_n C 1 2 ([(2, .int 0), (0, .ref (ad (x))), (1, .ref (ad (y)))]) dX7_copies_1 rfl (by decide) rfl ?_
  have L2 : ∀ (j : Nat) (k : Nat) (u : zM), (h0_2 : 415 ≤ k + j) → (hk : k ≤ 414) → (hS2 : sX7_copies t x y = (lsX7_copies_2 t x y j k u)) → Zw p l e (zR 0) s m args below meth c D A K n ad 3 Q 2 ([(2, .int (nI k)), (0, .ref (ad (x))), (1, .ref (ad (y)))]) [] u := by
    intro j
    induction j with
    | zero =>
      intro k u h0_2 hk hS2
      exact absurd h0_2 (by omega)
    | succ j ih2 =>
      intro k u h0_2 hk hS2
      refine z_iload_n C 2 2 0 dX7_copies_2 rfl rfl ?_
      refine z_sipush C 3 (v := 414) dX7_copies_3 (by decide +kernel) ?_
      refine z_icmp_ge C 6 21 dX7_copies_6 (by decide) (fun c6_1 => ?_) (fun c6_1 => ?_)
      · exact z_vret C 21 hA hQ rfl dX7_copies_21 ((hS2.trans ((if_pos c6_1).trans rfl))).symm
      · refine z_aload_n C 9 1 2 dX7_copies_9 rfl rfl ?_
        refine z_iload_n C 10 2 0 dX7_copies_10 rfl rfl ?_
        refine z_aload_n C 11 0 1 dX7_copies_11 rfl rfl ?_
        refine z_iload_n C 12 2 0 dX7_copies_12 rfl rfl ?_
        refine z_ialdN C 13 (x) k dX7_copies_13 hx ex rfl (zge (b := 414) (by omega) (by decide) ‹¬ (414 : Int32) ≤ nI k›) (by decide) ?_
        refine z_iastN C 14 (y) k dX7_copies_14 hy ey rfl (zge (b := 414) (by omega) (by decide) ‹¬ (414 : Int32) ≤ nI k›) (by decide) ?_
        refine z_iinc C 15 (v := nI (k + 1)) 2 0 ([(2, .int (nI (k + 1))), (0, .ref (ad (x))), (1, .ref (ad (y)))]) dX7_copies_15 rfl (nI_1 _) (by decide) rfl ?_
        refine z_goto C 18 2 dX7_copies_18 (by decide) ?_
        refine z_ls [0, 1, 2] _ rfl ?_
        exact ih2 (k + 1) (zset u (y) k (u (x) k)) (by omega) (by have := (zge (b := 414) (by omega) (by decide) ‹¬ (414 : Int32) ≤ nI k›); omega) (hS2.trans ((if_neg c6_1).trans rfl))
  refine z_ls [0, 1, 2] _ rfl ?_
  exact L2 (415) 0 t (by omega) (by decide) rfl
theorem lsX7_copies_2_e (t : zM) {x y : Nat} (hxy : x ≠ y) : ∀ (j k : Nat) (u : zM), 415 ≤ k + j → k ≤ 414 → lsX7_copies_2 t x y j k u = fun i => if i = y then (fun a => if k ≤ a ∧ a < 414 then u x a else u y a) else u i := by
  intro j
  induction j with
  | zero => intro k u h0 hk; omega
  | succ j ih =>
    intro k u h0 hk
    unfold lsX7_copies_2
    split
    · have : k = 414 := by have := zle (a := 414) (by decide) (by omega) ‹(414 : Int32) ≤ nI k›; omega
      subst this
      funext i a
      by_cases hi : i = y
      · subst hi
        rw [if_pos rfl, if_neg (by omega)]
      · rw [if_neg hi]
    · have hk2 : k < 414 := zge (b := 414) (by omega) (by decide) ‹¬ (414 : Int32) ≤ nI k›
      rw [ih _ _ (by omega) (by omega)]
      funext i a
      by_cases hi : i = y
      · subst hi
        rw [if_pos rfl, if_pos rfl, zset_idk _ _ _ _ hxy]
        by_cases ha : a = k
        · subst ha
          rw [if_neg (by omega), if_pos (by omega), zset_eq]
        · rw [zset_nk _ _ _ ha]
          by_cases hb : k + 1 ≤ a ∧ a < 414
          · rw [if_pos hb, if_pos (by omega)]
          · rw [if_neg hb, if_neg (by omega)]
      · rw [if_neg hi, if_neg hi, zset_id _ _ _ hi]
theorem sX7_copies_e (t : zM) {x y : Nat} (hxy : x ≠ y) : sX7_copies t x y = zcp t x y 414 := by
  have h := lsX7_copies_2_e t hxy 415 0 t (by decide) (by decide)
  refine h.trans ?_
  funext i a
  by_cases hi : i = y
  · subst hi
    simp [zcp]
  · simp [zcp, hi]
def lsX7_changes_59 (t : zM) : Nat → Nat → zM → zM
  | 0, _, u => u
  | j2 + 1, i, u => (if 414 ≤ nI i then (zset u (0) 4 ((u (0) 4) + 1)) else (lsX7_changes_59 t j2 (i + 1) (zset u (2) (414 * (u (0) 4).toNatClampNeg + i) (u (1) i))))
def lsX7_changes_18 (t : zM) : Nat → Nat → zM → zM
  | 0, _, w => w
  | j1 + 1, k, w => (if 1242 ≤ nI k then (lsX7_changes_59 t 415 0 (zset w (0) 4 ((w (0) 4) - 1))) else (lsX7_changes_18 t j1 (k + 1) (zset w (2) k (w (2) (k + 414)))))
def sX7_changes (t : zM)  : zM := (if (t (0) 5) = 0 then (if (t (0) 4) = 4 then (lsX7_changes_18 t 1243 0 t) else (lsX7_changes_59 t 415 0 t)) else t)
theorem mX7_changes_f31 : Cond.fieldLink RX7 31 "WrongedMetersModel" "runs" "Z" ∈ wsX7_changes := by decide +kernel
set_option maxRecDepth 20000 in
theorem mX7_changes_in7 : ∀ w ∈ u_ws RX7 TX7 16, w ∈ wsX7_changes := by decide +kernel
theorem mX7_changes_f35 : Cond.fieldLink RX7 35 "WrongedMetersModel" "pasts" "I" ∈ wsX7_changes := by decide +kernel
theorem mX7_changes_f13 : Cond.fieldLink RX7 13 "WrongedMetersModel" "past" "[I" ∈ wsX7_changes := by decide +kernel
theorem mX7_changes_f7 : Cond.fieldLink RX7 7 "WrongedMetersModel" "s" "[I" ∈ wsX7_changes := by decide +kernel
theorem hyX7_changes : yX7_changes.cls = RX7 ∧ yX7_changes.cls ≠ "java/lang/invoke/MethodHandle" ∧ yX7_changes.cls ≠ "java/lang/invoke/VarHandle" ∧ (parseMethodDescriptor yX7_changes.desc).map (fun d => d.parameters.length) = some 0 := by decide +kernel
set_option maxHeartbeats 3000000 in
set_option maxRecDepth 100000 in
theorem kX7_changes (l : Launch) (D : va_G) (cy : Nat → ClassId) (K : zK) (n : Nat) (ad : Nat → Nat) (hJ : zJ n ad) (hO : zModel cy K n ad) (t : zM)  (hp : mP t) : zV l yX7_changes wsX7_changes 0 D cy K n ad t [.ref (ad (0))] (fun t1 => t1 = sX7_changes t) := by
  refine z_startV (cc := cX7_changes) (mL := 2) (ret := none) (own := RX7) rfl (by decide +kernel) rfl hJ (Nat.le_of_ble_eq_true rfl) ?_
  intro p e s m args below meth c A hA Q hQ C
  refine z_aload_n C 0 0 0 dX7_changes_0 rfl rfl ?_
  refine z_geti C 1 (0) 5 dX7_changes_1 hO.h0 hO.e0 mX7_changes_in7 rfl (by decide) mX7_changes_f31 (fun _ => rfl) ?_
  refine z_if_eq C 4 8 dX7_changes_4 (by decide) (fun c4_1 => ?_) (fun c4_1 => ?_)
  · refine z_aload_n C 8 0 0 dX7_changes_8 rfl rfl ?_
    refine z_geti C 9 (0) 4 dX7_changes_9 hO.h0 hO.e0 mX7_changes_in7 rfl (by decide) mX7_changes_f35 (fun _ => rfl) ?_
    refine z_iconst C 12 (v := 4) dX7_changes_12 (by decide +kernel) ?_
    refine z_icmp_ne C 13 57 dX7_changes_13 (by decide) (fun c13_2 => ?_) (fun c13_2 => ?_)
    · refine z_iconst C 57 (v := 0) dX7_changes_57 (by decide +kernel) ?_
      refine z_istore_n C 58 1 ([(1, .int 0), (0, .ref (ad (0)))]) dX7_changes_58 rfl (by decide) rfl ?_
      have L59 : ∀ (j2 : Nat) (i : Nat) (u : zM), (h0_59 : 415 ≤ i + j2) → (hi : i ≤ 414) → (hp3 : (u 0 4).toNatClampNeg ≤ 3 ∧ u 0 4 = nI (u 0 4).toNatClampNeg) → (hS59 : sX7_changes t = (lsX7_changes_59 t j2 i u)) → Zw p l e (zR 0) s m args below meth c D A K n ad 2 Q 59 ([(1, .int (nI i)), (0, .ref (ad (0)))]) [] u := by
        intro j2
        induction j2 with
        | zero =>
          intro i u h0_59 hi hp3 hS59
          exact absurd h0_59 (by omega)
        | succ j2 ih59 =>
          intro i u h0_59 hi hp3 hS59
          refine z_iload_n C 59 1 0 dX7_changes_59 rfl rfl ?_
          refine z_sipush C 60 (v := 414) dX7_changes_60 (by decide +kernel) ?_
          refine z_icmp_ge C 63 93 dX7_changes_63 (by decide) (fun c63_3 => ?_) (fun c63_3 => ?_)
          · refine z_aload_n C 93 0 1 dX7_changes_93 rfl rfl ?_
            refine z_dup C 94 dX7_changes_94 rfl ?_
            refine z_geti C 95 (0) 4 dX7_changes_95 hO.h0 hO.e0 mX7_changes_in7 rfl (by decide) mX7_changes_f35 (fun _ => rfl) ?_
            refine z_iconst C 98 (v := 1) dX7_changes_98 (by decide +kernel) ?_
            refine z_iadd C 99 dX7_changes_99 ?_
            refine z_put C 100 (ty := .int) (0) 4 dX7_changes_100 hO.h0 hO.e0 mX7_changes_in7 tyX7 tyX7_ok nmX7 rfl (by decide) mX7_changes_f35 rfl (by decide +kernel) (vp_nar_int _) (zfit_i _) (fun _ => Nat.le_of_ble_eq_true rfl) (fun _ _ => rfl) ?_
            exact z_vret C 103 hA hQ rfl dX7_changes_103 ((hS59.trans ((if_pos c63_3).trans rfl))).symm
          · refine z_aload_n C 66 0 1 dX7_changes_66 rfl rfl ?_
            refine z_getr C 67 (a9 := ad (2)) (0) 1 dX7_changes_67 hO.h0 hO.e0 mX7_changes_in7 rfl (by decide) mX7_changes_f13 (fun _ => rfl) ?_
            refine z_sipush C 70 (v := 414) dX7_changes_70 (by decide +kernel) ?_
            refine z_aload_n C 73 0 1 dX7_changes_73 rfl rfl ?_
            refine z_geti C 74 (0) 4 dX7_changes_74 hO.h0 hO.e0 mX7_changes_in7 rfl (by decide) mX7_changes_f35 (fun _ => rfl) ?_
            refine z_imul C 77 dX7_changes_77 ?_
            refine z_iload_n C 78 1 0 dX7_changes_78 rfl rfl ?_
            refine z_iadd C 79 dX7_changes_79 ?_
            refine z_aload_n C 80 0 1 dX7_changes_80 rfl rfl ?_
            refine z_getr C 81 (a9 := ad (1)) (0) 0 dX7_changes_81 hO.h0 hO.e0 mX7_changes_in7 rfl (by decide) mX7_changes_f7 (fun _ => rfl) ?_
            refine z_iload_n C 84 1 0 dX7_changes_84 rfl rfl ?_
            refine z_ialdN C 85 (1) i dX7_changes_85 hO.h1 hO.e1 rfl (zge (b := 414) (by omega) (by decide) ‹¬ (414 : Int32) ≤ nI i›) (by decide) ?_
            refine z_iastN C 86 (2) (414 * (u (0) 4).toNatClampNeg + i) dX7_changes_86 hO.h2 hO.e2 ((congrArg (fun z9 => 414 * z9 + nI i) hp3.2).trans ((congrArg (· + nI i) (nI_mul 414 _)).trans (nI_add _ _))) (by have := hp3.1; have := (zge (b := 414) (by omega) (by decide) ‹¬ (414 : Int32) ≤ nI i›); omega) (by decide) ?_
            refine z_iinc C 87 (v := nI (i + 1)) 1 0 ([(1, .int (nI (i + 1))), (0, .ref (ad (0)))]) dX7_changes_87 rfl (nI_1 _) (by decide) rfl ?_
            refine z_goto C 90 59 dX7_changes_90 (by decide) ?_
            refine z_ls [0, 1] _ rfl ?_
            exact ih59 (i + 1) (zset u (2) (414 * (u (0) 4).toNatClampNeg + i) (u (1) i)) (by omega) (by have := (zge (b := 414) (by omega) (by decide) ‹¬ (414 : Int32) ≤ nI i›); omega) (by rw [zset_idk _ _ _ _ (by decide)]; exact hp3) (hS59.trans ((if_neg c63_3).trans rfl))
      refine z_ls [0, 1] _ rfl ?_
      exact L59 (415) 0 t (by omega) (by decide) (by first | exact mP3 (P := 3) ((zset_eq _ _ _ _).trans (by rw [hp4]; decide +kernel)) (by decide) | exact mP_ne hp (by assumption)) ((if_pos c4_1).trans ((if_neg c13_2).trans rfl))
    · refine z_iconst C 16 (v := 0) dX7_changes_16 (by decide +kernel) ?_
      refine z_istore_n C 17 1 ([(1, .int 0), (0, .ref (ad (0)))]) dX7_changes_17 rfl (by decide) rfl ?_
      have L18 : ∀ (j1 : Nat) (k : Nat) (w : zM), (h0_18 : 1243 ≤ k + j1) → (hk : k ≤ 1242) → (hp4 : w 0 4 = nI 4) → (hS18 : sX7_changes t = (lsX7_changes_18 t j1 k w)) → Zw p l e (zR 0) s m args below meth c D A K n ad 2 Q 18 ([(1, .int (nI k)), (0, .ref (ad (0)))]) [] w := by
        intro j1
        induction j1 with
        | zero =>
          intro k w h0_18 hk hp4 hS18
          exact absurd h0_18 (by omega)
        | succ j1 ih18 =>
          intro k w h0_18 hk hp4 hS18
          refine z_iload_n C 18 1 0 dX7_changes_18 rfl rfl ?_
          refine z_sipush C 19 (v := 1242) dX7_changes_19 (by decide +kernel) ?_
          refine z_icmp_ge C 22 47 dX7_changes_22 (by decide) (fun c22_4 => ?_) (fun c22_4 => ?_)
          · refine z_aload_n C 47 0 1 dX7_changes_47 rfl rfl ?_
            refine z_dup C 48 dX7_changes_48 rfl ?_
            refine z_geti C 49 (0) 4 dX7_changes_49 hO.h0 hO.e0 mX7_changes_in7 rfl (by decide) mX7_changes_f35 (fun _ => rfl) ?_
            refine z_iconst C 52 (v := 1) dX7_changes_52 (by decide +kernel) ?_
            refine z_isub C 53 dX7_changes_53 ?_
            refine z_put C 54 (ty := .int) (0) 4 dX7_changes_54 hO.h0 hO.e0 mX7_changes_in7 tyX7 tyX7_ok nmX7 rfl (by decide) mX7_changes_f35 rfl (by decide +kernel) (vp_nar_int _) (zfit_i _) (fun _ => Nat.le_of_ble_eq_true rfl) (fun _ _ => rfl) ?_
            refine z_iconst C 57 (v := 0) dX7_changes_57 (by decide +kernel) ?_
            refine z_istore_n C 58 1 ([(1, .int 0), (0, .ref (ad (0)))]) dX7_changes_58 rfl (by decide) rfl ?_
            have L59 : ∀ (j2 : Nat) (i : Nat) (u : zM), (h0_59 : 415 ≤ i + j2) → (hi : i ≤ 414) → (hp3 : (u 0 4).toNatClampNeg ≤ 3 ∧ u 0 4 = nI (u 0 4).toNatClampNeg) → (hS59 : sX7_changes t = (lsX7_changes_59 t j2 i u)) → Zw p l e (zR 0) s m args below meth c D A K n ad 2 Q 59 ([(1, .int (nI i)), (0, .ref (ad (0)))]) [] u := by
              intro j2
              induction j2 with
              | zero =>
                intro i u h0_59 hi hp3 hS59
                exact absurd h0_59 (by omega)
              | succ j2 ih59 =>
                intro i u h0_59 hi hp3 hS59
                refine z_iload_n C 59 1 0 dX7_changes_59 rfl rfl ?_
                refine z_sipush C 60 (v := 414) dX7_changes_60 (by decide +kernel) ?_
                refine z_icmp_ge C 63 93 dX7_changes_63 (by decide) (fun c63_5 => ?_) (fun c63_5 => ?_)
                · refine z_aload_n C 93 0 1 dX7_changes_93 rfl rfl ?_
                  refine z_dup C 94 dX7_changes_94 rfl ?_
                  refine z_geti C 95 (0) 4 dX7_changes_95 hO.h0 hO.e0 mX7_changes_in7 rfl (by decide) mX7_changes_f35 (fun _ => rfl) ?_
                  refine z_iconst C 98 (v := 1) dX7_changes_98 (by decide +kernel) ?_
                  refine z_iadd C 99 dX7_changes_99 ?_
                  refine z_put C 100 (ty := .int) (0) 4 dX7_changes_100 hO.h0 hO.e0 mX7_changes_in7 tyX7 tyX7_ok nmX7 rfl (by decide) mX7_changes_f35 rfl (by decide +kernel) (vp_nar_int _) (zfit_i _) (fun _ => Nat.le_of_ble_eq_true rfl) (fun _ _ => rfl) ?_
                  exact z_vret C 103 hA hQ rfl dX7_changes_103 ((hS59.trans ((if_pos c63_5).trans rfl))).symm
                · refine z_aload_n C 66 0 1 dX7_changes_66 rfl rfl ?_
                  refine z_getr C 67 (a9 := ad (2)) (0) 1 dX7_changes_67 hO.h0 hO.e0 mX7_changes_in7 rfl (by decide) mX7_changes_f13 (fun _ => rfl) ?_
                  refine z_sipush C 70 (v := 414) dX7_changes_70 (by decide +kernel) ?_
                  refine z_aload_n C 73 0 1 dX7_changes_73 rfl rfl ?_
                  refine z_geti C 74 (0) 4 dX7_changes_74 hO.h0 hO.e0 mX7_changes_in7 rfl (by decide) mX7_changes_f35 (fun _ => rfl) ?_
                  refine z_imul C 77 dX7_changes_77 ?_
                  refine z_iload_n C 78 1 0 dX7_changes_78 rfl rfl ?_
                  refine z_iadd C 79 dX7_changes_79 ?_
                  refine z_aload_n C 80 0 1 dX7_changes_80 rfl rfl ?_
                  refine z_getr C 81 (a9 := ad (1)) (0) 0 dX7_changes_81 hO.h0 hO.e0 mX7_changes_in7 rfl (by decide) mX7_changes_f7 (fun _ => rfl) ?_
                  refine z_iload_n C 84 1 0 dX7_changes_84 rfl rfl ?_
                  refine z_ialdN C 85 (1) i dX7_changes_85 hO.h1 hO.e1 rfl (zge (b := 414) (by omega) (by decide) ‹¬ (414 : Int32) ≤ nI i›) (by decide) ?_
                  refine z_iastN C 86 (2) (414 * (u (0) 4).toNatClampNeg + i) dX7_changes_86 hO.h2 hO.e2 ((congrArg (fun z9 => 414 * z9 + nI i) hp3.2).trans ((congrArg (· + nI i) (nI_mul 414 _)).trans (nI_add _ _))) (by have := hp3.1; have := (zge (b := 414) (by omega) (by decide) ‹¬ (414 : Int32) ≤ nI i›); omega) (by decide) ?_
                  refine z_iinc C 87 (v := nI (i + 1)) 1 0 ([(1, .int (nI (i + 1))), (0, .ref (ad (0)))]) dX7_changes_87 rfl (nI_1 _) (by decide) rfl ?_
                  refine z_goto C 90 59 dX7_changes_90 (by decide) ?_
                  refine z_ls [0, 1] _ rfl ?_
                  exact ih59 (i + 1) (zset u (2) (414 * (u (0) 4).toNatClampNeg + i) (u (1) i)) (by omega) (by have := (zge (b := 414) (by omega) (by decide) ‹¬ (414 : Int32) ≤ nI i›); omega) (by rw [zset_idk _ _ _ _ (by decide)]; exact hp3) (hS59.trans ((if_neg c63_5).trans rfl))
            refine z_ls [0, 1] _ rfl ?_
            exact L59 (415) 0 (zset w (0) 4 ((w (0) 4) - 1)) (by omega) (by decide) (by first | exact mP3 (P := 3) ((zset_eq _ _ _ _).trans (by rw [hp4]; decide +kernel)) (by decide) | exact mP_ne hp (by assumption)) (hS18.trans ((if_pos c22_4).trans rfl))
          · refine z_aload_n C 25 0 1 dX7_changes_25 rfl rfl ?_
            refine z_getr C 26 (a9 := ad (2)) (0) 1 dX7_changes_26 hO.h0 hO.e0 mX7_changes_in7 rfl (by decide) mX7_changes_f13 (fun _ => rfl) ?_
            refine z_iload_n C 29 1 0 dX7_changes_29 rfl rfl ?_
            refine z_aload_n C 30 0 1 dX7_changes_30 rfl rfl ?_
            refine z_getr C 31 (a9 := ad (2)) (0) 1 dX7_changes_31 hO.h0 hO.e0 mX7_changes_in7 rfl (by decide) mX7_changes_f13 (fun _ => rfl) ?_
            refine z_iload_n C 34 1 0 dX7_changes_34 rfl rfl ?_
            refine z_sipush C 35 (v := 414) dX7_changes_35 (by decide +kernel) ?_
            refine z_iadd C 38 dX7_changes_38 ?_
            refine z_ialdN C 39 (2) (k + 414) dX7_changes_39 hO.h2 hO.e2 (nI_add k 414) (by have := (zge (b := 1242) (by omega) (by decide) ‹¬ (1242 : Int32) ≤ nI k›); omega) (by decide) ?_
            refine z_iastN C 40 (2) k dX7_changes_40 hO.h2 hO.e2 rfl (by have := (zge (b := 1242) (by omega) (by decide) ‹¬ (1242 : Int32) ≤ nI k›); omega) (by decide) ?_
            refine z_iinc C 41 (v := nI (k + 1)) 1 0 ([(1, .int (nI (k + 1))), (0, .ref (ad (0)))]) dX7_changes_41 rfl (nI_1 _) (by decide) rfl ?_
            refine z_goto C 44 18 dX7_changes_44 (by decide) ?_
            refine z_ls [0, 1] _ rfl ?_
            exact ih18 (k + 1) (zset w (2) k (w (2) (k + 414))) (by omega) (by have := (zge (b := 1242) (by omega) (by decide) ‹¬ (1242 : Int32) ≤ nI k›); omega) ((zset_idk _ _ _ _ (by decide)).trans hp4) (hS18.trans ((if_neg c22_4).trans rfl))
      refine z_ls [0, 1] _ rfl ?_
      exact L18 (1243) 0 t (by omega) (by decide) ‹t (0) 4 = 4› ((if_pos c4_1).trans ((if_pos c13_2).trans rfl))
  · exact z_vret C 7 hA hQ rfl dX7_changes_7 ((if_neg c4_1).trans rfl).symm
theorem lsX7_changes_59_o (t : zM) {x : Nat} (h0 : x ≠ 0) (h2 : x ≠ 2) : ∀ (j i : Nat) (u : zM), lsX7_changes_59 t j i u x = u x := by
  intro j
  induction j with
  | zero => intro i u; rfl
  | succ j ih =>
    intro i u
    unfold lsX7_changes_59
    split
    · exact zset_id _ _ _ h0
    · rw [ih]
      exact zset_id _ _ _ h2
theorem lsX7_changes_18_o (t : zM) {x : Nat} (h0 : x ≠ 0) (h2 : x ≠ 2) : ∀ (j i : Nat) (u : zM), lsX7_changes_18 t j i u x = u x := by
  intro j
  induction j with
  | zero => intro i u; rfl
  | succ j ih =>
    intro i u
    unfold lsX7_changes_18
    split
    · rw [lsX7_changes_59_o _ h0 h2]
      exact zset_id _ _ _ h0
    · rw [ih]
      exact zset_id _ _ _ h2
theorem sX7_changes_o (t : zM) {x : Nat} (h0 : x ≠ 0) (h2 : x ≠ 2) : sX7_changes t x = t x := by
  unfold sX7_changes
  split
  · split
    · exact lsX7_changes_18_o t h0 h2 _ _ _
    · exact lsX7_changes_59_o t h0 h2 _ _ _
  · rfl
theorem mS_fr {H N : Nat} {t t1 : zM} (h : mS H N t) (h1 : t1 1 = t 1) (h6 : t1 6 = t 6) : mS H N t1 := by
  unfold mS
  rw [h1, h6]
  exact h
theorem sX7_changes_S {H N : Nat} {t : zM} (h : mS H N t) : mS H N (sX7_changes t) := mS_fr h (sX7_changes_o t (by decide) (by decide)) (sX7_changes_o t (by decide) (by decide))
def rX7_house (t : zM) (a1 : Int32) (a2 : Int32) : Int32 := (if (rX7_isPlace a1 a2) = 0 then (-1000001) else (if (rX7_atPlace t a1 a2) < 0 then (if (t (1) 401) = 24 then (-1000003) else (((t (1) 401) + 1) - 1)) else (-1000002)))
def sX7_house (t : zM) (a1 : Int32) (a2 : Int32) : zM := (if (rX7_isPlace a1 a2) = 0 then t else (if (rX7_atPlace t a1 a2) < 0 then (if (t (1) 401) = 24 then t else (zset (zset (zset (sX7_changes t) (1) (14 * ((t (1) 401).toNatClampNeg) + 0) a1) (1) (14 * ((t (1) 401).toNatClampNeg) + 1) a2) (1) 401 ((t (1) 401) + 1))) else t))
theorem mX7_house_f7 : Cond.fieldLink RX7 7 "WrongedMetersModel" "s" "[I" ∈ wsX7_house := by decide +kernel
set_option maxRecDepth 20000 in
theorem mX7_house_in7 : ∀ w ∈ u_ws RX7 TX7 16, w ∈ wsX7_house := by decide +kernel
theorem mX7_house_c101 : Cond.constant RX7 101 (-1000003) ∈ wsX7_house := by decide +kernel
theorem mX7_house_c100 : Cond.constant RX7 100 (-1000002) ∈ wsX7_house := by decide +kernel
theorem mX7_house_c96 : Cond.constant RX7 96 (-1000001) ∈ wsX7_house := by decide +kernel
theorem hyX7_house : yX7_house.cls = RX7 ∧ yX7_house.cls ≠ "java/lang/invoke/MethodHandle" ∧ yX7_house.cls ≠ "java/lang/invoke/VarHandle" ∧ (parseMethodDescriptor yX7_house.desc).map (fun d => d.parameters.length) = some 2 := by decide +kernel
set_option maxHeartbeats 3000000 in
set_option maxRecDepth 100000 in
theorem kX7_house (l : Launch) (D : va_G) (cy : Nat → ClassId) (K : zK) (n : Nat) (ad : Nat → Nat) (hJ : zJ n ad) (hO : zModel cy K n ad) (t : zM) (a1 a2 : Int32) (H N : Nat) (hm : mS H N t) (hp : mP t) : zI l yX7_house wsX7_house 2 D cy K n ad t [.ref (ad (0)), .int a1, .int a2] (fun r t1 => r = rX7_house t a1 a2 ∧ t1 = sX7_house t a1 a2) := by
  refine z_startI (cc := cX7_house) (mL := 3) (ret := (some .int)) (own := RX7) rfl (by decide +kernel) rfl hJ (Nat.le_of_ble_eq_true rfl) ?_
  intro p e s m args below meth c A hA Q hQ C
  refine z_iload_n C 0 1 1 dX7_house_0 rfl rfl ?_
  refine z_iload_n C 1 2 2 dX7_house_1 rfl rfl ?_
  refine z_statIe C 2 (As := [.int a1, .int a2]) (st := []) (kX7_isPlace l D cy K n ad hJ t a1 a2 ) dX7_house_2 rfl gX7_house_X7_isPlace hyX7_isPlace rfl (by decide) (by decide) rfl rfl (Nat.le_of_ble_eq_true rfl) ?_
  refine z_if_ne C 5 11 dX7_house_5 (by decide) (fun c5_2 => ?_) (fun c5_2 => ?_)
  · refine z_aload_n C 11 0 0 dX7_house_11 rfl rfl ?_
    refine z_iload_n C 12 1 1 dX7_house_12 rfl rfl ?_
    refine z_iload_n C 13 2 2 dX7_house_13 rfl rfl ?_
    refine z_virtIe C 14 (As := [.int a1, .int a2]) (st := []) (id := 0) (kX7_atPlace l D cy K n ad hJ hO t a1 a2 H N hm) dX7_house_14 rfl gX7_house_X7_atPlace hyX7_atPlace rfl (by decide) (by decide) hO.h0 rfl hO.e0 rfl rfl rfl (Nat.le_of_ble_eq_true rfl) ?_
    refine z_if_lt C 17 23 dX7_house_17 (by decide) (fun c17_4 => ?_) (fun c17_4 => ?_)
    · refine z_aload_n C 23 0 0 dX7_house_23 rfl rfl ?_
      refine z_getr C 24 (a9 := ad (1)) (0) 0 dX7_house_24 hO.h0 hO.e0 mX7_house_in7 rfl (by decide) mX7_house_f7 (fun _ => rfl) ?_
      refine z_sipush C 27 (v := 401) dX7_house_27 (by decide +kernel) ?_
      refine z_ialdN C 30 (1) 401 dX7_house_30 hO.h1 hO.e1 rfl (by decide) (by decide) ?_
      refine z_bipush C 31 (v := 24) dX7_house_31 (by decide +kernel) ?_
      refine z_icmp_ne C 33 39 dX7_house_33 (by decide) (fun c33_5 => ?_) (fun c33_5 => ?_)
      · refine z_aload_n C 39 0 0 dX7_house_39 rfl rfl ?_
        refine z_virtVe C 40 (As := []) (st := []) (id := 0) (kX7_changes l D cy K n ad hJ hO t  hp) dX7_house_40 rfl gX7_house_X7_changes hyX7_changes rfl (by decide) (by decide) hO.h0 rfl hO.e0 rfl rfl rfl (Nat.le_of_ble_eq_true rfl) ?_
        refine z_aload_n C 43 0 0 dX7_house_43 rfl rfl ?_
        refine z_aload_n C 44 0 0 dX7_house_44 rfl rfl ?_
        refine z_getr C 45 (a9 := ad (1)) (0) 0 dX7_house_45 hO.h0 hO.e0 mX7_house_in7 rfl (by decide) mX7_house_f7 (fun _ => rfl) ?_
        refine z_sipush C 48 (v := 401) dX7_house_48 (by decide +kernel) ?_
        refine z_ialdN C 51 (1) 401 dX7_house_51 hO.h1 hO.e1 rfl (by decide) (by decide) ?_
        refine z_nv (t (1) 401) (congrFun (sX7_changes_o _ (by decide) (by decide)) 401) ?_
        refine z_iconst C 52 (v := 0) dX7_house_52 (by decide +kernel) ?_
        refine z_iload_n C 53 1 1 dX7_house_53 rfl rfl ?_
        refine z_virtVe C 54 (As := [.int (t (1) 401), .int 0, .int a1]) (st := []) (id := 0) (kX7_lay l D cy K n ad hJ hO (sX7_changes t) (t (1) 401) 0 a1 ((t (1) 401).toNatClampNeg) 0 (mH_lt hm (by assumption)).1 (by decide) (mH_lt hm (by assumption)).2 rfl) dX7_house_54 rfl gX7_house_X7_lay hyX7_lay rfl (by decide) (by decide) hO.h0 rfl hO.e0 rfl rfl rfl (Nat.le_of_ble_eq_true rfl) ?_
        refine z_nt (zset (sX7_changes t) (1) (14 * ((t (1) 401).toNatClampNeg) + 0) a1) rfl ?_
        refine z_aload_n C 57 0 0 dX7_house_57 rfl rfl ?_
        refine z_aload_n C 58 0 0 dX7_house_58 rfl rfl ?_
        refine z_getr C 59 (a9 := ad (1)) (0) 0 dX7_house_59 hO.h0 hO.e0 mX7_house_in7 rfl (by decide) mX7_house_f7 (fun _ => rfl) ?_
        refine z_sipush C 62 (v := 401) dX7_house_62 (by decide +kernel) ?_
        refine z_ialdN C 65 (1) 401 dX7_house_65 hO.h1 hO.e1 rfl (by decide) (by decide) ?_
        refine z_nv (t (1) 401) ((zset_nk _ _ _ (by omega)).trans (congrFun (sX7_changes_o _ (by decide) (by decide)) 401)) ?_
        refine z_iconst C 66 (v := 1) dX7_house_66 (by decide +kernel) ?_
        refine z_iload_n C 67 2 2 dX7_house_67 rfl rfl ?_
        refine z_virtVe C 68 (As := [.int (t (1) 401), .int 1, .int a2]) (st := []) (id := 0) (kX7_lay l D cy K n ad hJ hO (zset (sX7_changes t) (1) (14 * ((t (1) 401).toNatClampNeg) + 0) a1) (t (1) 401) 1 a2 ((t (1) 401).toNatClampNeg) 1 (mH_lt hm (by assumption)).1 (by decide) (mH_lt hm (by assumption)).2 rfl) dX7_house_68 rfl gX7_house_X7_lay hyX7_lay rfl (by decide) (by decide) hO.h0 rfl hO.e0 rfl rfl rfl (Nat.le_of_ble_eq_true rfl) ?_
        refine z_nt (zset (zset (sX7_changes t) (1) (14 * ((t (1) 401).toNatClampNeg) + 0) a1) (1) (14 * ((t (1) 401).toNatClampNeg) + 1) a2) rfl ?_
        refine z_aload_n C 71 0 0 dX7_house_71 rfl rfl ?_
        refine z_getr C 72 (a9 := ad (1)) (0) 0 dX7_house_72 hO.h0 hO.e0 mX7_house_in7 rfl (by decide) mX7_house_f7 (fun _ => rfl) ?_
        refine z_sipush C 75 (v := 401) dX7_house_75 (by decide +kernel) ?_
        refine z_dup2 C 78 dX7_house_78 rfl rfl ?_
        refine z_ialdN C 79 (1) 401 dX7_house_79 hO.h1 hO.e1 rfl (by decide) (by decide) ?_
        refine z_nv (t (1) 401) ((zset_nk _ _ _ (by omega)).trans ((zset_nk _ _ _ (by omega)).trans (congrFun (sX7_changes_o _ (by decide) (by decide)) 401))) ?_
        refine z_iconst C 80 (v := 1) dX7_house_80 (by decide +kernel) ?_
        refine z_iadd C 81 dX7_house_81 ?_
        refine z_iastN C 82 (1) 401 dX7_house_82 hO.h1 hO.e1 rfl (by decide) (by decide) ?_
        refine z_aload_n C 83 0 0 dX7_house_83 rfl rfl ?_
        refine z_getr C 84 (a9 := ad (1)) (0) 0 dX7_house_84 hO.h0 hO.e0 mX7_house_in7 rfl (by decide) mX7_house_f7 (fun _ => rfl) ?_
        refine z_sipush C 87 (v := 401) dX7_house_87 (by decide +kernel) ?_
        refine z_ialdN C 90 (1) 401 dX7_house_90 hO.h1 hO.e1 rfl (by decide) (by decide) ?_
        refine z_nv ((t (1) 401) + 1) (zset_eq _ _ _ _) ?_
        refine z_iconst C 91 (v := 1) dX7_house_91 (by decide +kernel) ?_
        refine z_isub C 92 dX7_house_92 ?_
        exact z_iret C 93 hA hQ rfl dX7_house_93 ⟨((if_neg c5_2).trans ((if_pos c17_4).trans ((if_neg c33_5).trans rfl))).symm, ((if_neg c5_2).trans ((if_pos c17_4).trans ((if_neg c33_5).trans rfl))).symm⟩
      · refine z_ldc C 36 (v := (-1000003)) dX7_house_36 mX7_house_c101 ?_
        exact z_iret C 38 hA hQ rfl dX7_house_38 ⟨((if_neg c5_2).trans ((if_pos c17_4).trans ((if_pos c33_5).trans rfl))).symm, ((if_neg c5_2).trans ((if_pos c17_4).trans ((if_pos c33_5).trans rfl))).symm⟩
    · refine z_ldc C 20 (v := (-1000002)) dX7_house_20 mX7_house_c100 ?_
      exact z_iret C 22 hA hQ rfl dX7_house_22 ⟨((if_neg c5_2).trans ((if_neg c17_4).trans rfl)).symm, ((if_neg c5_2).trans ((if_neg c17_4).trans rfl)).symm⟩
  · refine z_ldc C 8 (v := (-1000001)) dX7_house_8 mX7_house_c96 ?_
    exact z_iret C 10 hA hQ rfl dX7_house_10 ⟨((if_pos c5_2).trans rfl).symm, ((if_pos c5_2).trans rfl).symm⟩
def rX7_flow (t : zM) (a1 : Int32) (a2 : Int32) : Int32 := (if (rX7_isHouse t a1) = 0 then (-1000001) else (if (rX7_in a2 0 999) = 0 then (-1000001) else (t (1) (14 * a1.toNatClampNeg + 5))))
def sX7_flow (t : zM) (a1 : Int32) (a2 : Int32) : zM := (if (rX7_isHouse t a1) = 0 then t else (if (rX7_in a2 0 999) = 0 then t else (zset (sX7_changes t) (1) (14 * a1.toNatClampNeg + 5) a2)))
theorem mX7_flow_c96 : Cond.constant RX7 96 (-1000001) ∈ wsX7_flow := by decide +kernel
theorem hyX7_flow : yX7_flow.cls = RX7 ∧ yX7_flow.cls ≠ "java/lang/invoke/MethodHandle" ∧ yX7_flow.cls ≠ "java/lang/invoke/VarHandle" ∧ (parseMethodDescriptor yX7_flow.desc).map (fun d => d.parameters.length) = some 2 := by decide +kernel
set_option maxHeartbeats 3000000 in
set_option maxRecDepth 100000 in
theorem kX7_flow (l : Launch) (D : va_G) (cy : Nat → ClassId) (K : zK) (n : Nat) (ad : Nat → Nat) (hJ : zJ n ad) (hO : zModel cy K n ad) (t : zM) (a1 a2 : Int32) (H N : Nat) (hm : mS H N t) (hp : mP t) : zI l yX7_flow wsX7_flow 2 D cy K n ad t [.ref (ad (0)), .int a1, .int a2] (fun r t1 => r = rX7_flow t a1 a2 ∧ t1 = sX7_flow t a1 a2) := by
  refine z_startI (cc := cX7_flow) (mL := 4) (ret := (some .int)) (own := RX7) rfl (by decide +kernel) rfl hJ (Nat.le_of_ble_eq_true rfl) ?_
  intro p e s m args below meth c A hA Q hQ C
  refine z_aload_n C 0 0 0 dX7_flow_0 rfl rfl ?_
  refine z_iload_n C 1 1 1 dX7_flow_1 rfl rfl ?_
  refine z_virtIe C 2 (As := [.int a1]) (st := []) (id := 0) (kX7_isHouse l D cy K n ad hJ hO t a1 ) dX7_flow_2 rfl gX7_flow_X7_isHouse hyX7_isHouse rfl (by decide) (by decide) hO.h0 rfl hO.e0 rfl rfl rfl (Nat.le_of_ble_eq_true rfl) ?_
  refine z_if_eq C 5 19 dX7_flow_5 (by decide) (fun c5_2 => ?_) (fun c5_2 => ?_)
  · refine z_ldc C 19 (v := (-1000001)) dX7_flow_19 mX7_flow_c96 ?_
    exact z_iret C 21 hA hQ rfl dX7_flow_21 ⟨((if_pos c5_2).trans rfl).symm, ((if_pos c5_2).trans rfl).symm⟩
  · have hq := isHouse_lt hm c5_2
    refine z_iload_n C 8 2 2 dX7_flow_8 rfl rfl ?_
    refine z_iconst C 9 (v := 0) dX7_flow_9 (by decide +kernel) ?_
    refine z_sipush C 10 (v := 999) dX7_flow_10 (by decide +kernel) ?_
    refine z_statIe C 13 (As := [.int a2, .int 0, .int 999]) (st := []) (kX7_in l D cy K n ad hJ t a2 0 999 ) dX7_flow_13 rfl gX7_flow_X7_in hyX7_in rfl (by decide) (by decide) rfl rfl (Nat.le_of_ble_eq_true rfl) ?_
    refine z_if_ne C 16 22 dX7_flow_16 (by decide) (fun c16_4 => ?_) (fun c16_4 => ?_)
    · refine z_aload_n C 22 0 0 dX7_flow_22 rfl rfl ?_
      refine z_virtVe C 23 (As := []) (st := []) (id := 0) (kX7_changes l D cy K n ad hJ hO t  hp) dX7_flow_23 rfl gX7_flow_X7_changes hyX7_changes rfl (by decide) (by decide) hO.h0 rfl hO.e0 rfl rfl rfl (Nat.le_of_ble_eq_true rfl) ?_
      refine z_aload_n C 26 0 0 dX7_flow_26 rfl rfl ?_
      refine z_iload_n C 27 1 1 dX7_flow_27 rfl rfl ?_
      refine z_iconst C 28 (v := 5) dX7_flow_28 (by decide +kernel) ?_
      refine z_virtIe C 29 (As := [.int a1, .int 5]) (st := []) (id := 0) (kX7_of l D cy K n ad hJ hO (sX7_changes t) a1 5 a1.toNatClampNeg 5 (Nat.lt_of_lt_of_le hq.1 hm.1) (by decide) hq.2 rfl) dX7_flow_29 rfl gX7_flow_X7_of hyX7_of rfl (by decide) (by decide) hO.h0 rfl hO.e0 rfl rfl rfl (Nat.le_of_ble_eq_true rfl) ?_
      refine z_nv (t (1) (14 * a1.toNatClampNeg + 5)) (congrFun (sX7_changes_o _ (by decide) (by decide)) (14 * a1.toNatClampNeg + 5)) ?_
      refine z_istore_n C 32 3 ([(3, .int (t (1) (14 * a1.toNatClampNeg + 5))), (0, .ref (ad (0))), (1, .int a1), (2, .int a2)]) dX7_flow_32 rfl (by decide) rfl ?_
      refine z_aload_n C 33 0 1 dX7_flow_33 rfl rfl ?_
      refine z_iload_n C 34 1 2 dX7_flow_34 rfl rfl ?_
      refine z_iconst C 35 (v := 5) dX7_flow_35 (by decide +kernel) ?_
      refine z_iload_n C 36 2 3 dX7_flow_36 rfl rfl ?_
      refine z_virtVe C 37 (As := [.int a1, .int 5, .int a2]) (st := []) (id := 0) (kX7_lay l D cy K n ad hJ hO (sX7_changes t) a1 5 a2 a1.toNatClampNeg 5 (Nat.lt_of_lt_of_le hq.1 hm.1) (by decide) hq.2 rfl) dX7_flow_37 rfl gX7_flow_X7_lay hyX7_lay rfl (by decide) (by decide) hO.h0 rfl hO.e0 rfl rfl rfl (Nat.le_of_ble_eq_true rfl) ?_
      refine z_nt (zset (sX7_changes t) (1) (14 * a1.toNatClampNeg + 5) a2) rfl ?_
      refine z_iload_n C 40 3 0 dX7_flow_40 rfl rfl ?_
      exact z_iret C 41 hA hQ rfl dX7_flow_41 ⟨((if_neg c5_2).trans ((if_neg c16_4).trans rfl)).symm, ((if_neg c5_2).trans ((if_neg c16_4).trans rfl)).symm⟩
    · refine z_ldc C 19 (v := (-1000001)) dX7_flow_19 mX7_flow_c96 ?_
      exact z_iret C 21 hA hQ rfl dX7_flow_21 ⟨((if_neg c5_2).trans ((if_pos c16_4).trans rfl)).symm, ((if_neg c5_2).trans ((if_pos c16_4).trans rfl)).symm⟩
def rX7_lock (t : zM) (a1 : Int32) (a2 : Int32) : Int32 := (if (rX7_isHouse t a1) = 0 then (-1000001) else (if a2 = 0 then (t (1) (14 * a1.toNatClampNeg + 6)) else (t (1) (14 * a1.toNatClampNeg + 6))))
def sX7_lock (t : zM) (a1 : Int32) (a2 : Int32) : zM := (if (rX7_isHouse t a1) = 0 then t else (if a2 = 0 then (zset (sX7_changes t) (1) (14 * a1.toNatClampNeg + 6) 0) else (zset (sX7_changes t) (1) (14 * a1.toNatClampNeg + 6) 1)))
theorem mX7_lock_c96 : Cond.constant RX7 96 (-1000001) ∈ wsX7_lock := by decide +kernel
theorem hyX7_lock : yX7_lock.cls = RX7 ∧ yX7_lock.cls ≠ "java/lang/invoke/MethodHandle" ∧ yX7_lock.cls ≠ "java/lang/invoke/VarHandle" ∧ (parseMethodDescriptor yX7_lock.desc).map (fun d => d.parameters.length) = some 2 := by decide +kernel
set_option maxHeartbeats 3000000 in
set_option maxRecDepth 100000 in
theorem kX7_lock (l : Launch) (D : va_G) (cy : Nat → ClassId) (K : zK) (n : Nat) (ad : Nat → Nat) (hJ : zJ n ad) (hO : zModel cy K n ad) (t : zM) (a1 a2 : Int32) (H N : Nat) (hm : mS H N t) (hp : mP t) (hb2 : a2 = 0 ∨ a2 = 1) : zI l yX7_lock wsX7_lock 2 D cy K n ad t [.ref (ad (0)), .int a1, .int a2] (fun r t1 => r = rX7_lock t a1 a2 ∧ t1 = sX7_lock t a1 a2) := by
  refine z_startI (cc := cX7_lock) (mL := 4) (ret := (some .int)) (own := RX7) rfl (by decide +kernel) rfl hJ (Nat.le_of_ble_eq_true rfl) ?_
  intro p e s m args below meth c A hA Q hQ C
  refine z_aload_n C 0 0 0 dX7_lock_0 rfl rfl ?_
  refine z_iload_n C 1 1 1 dX7_lock_1 rfl rfl ?_
  refine z_virtIe C 2 (As := [.int a1]) (st := []) (id := 0) (kX7_isHouse l D cy K n ad hJ hO t a1 ) dX7_lock_2 rfl gX7_lock_X7_isHouse hyX7_isHouse rfl (by decide) (by decide) hO.h0 rfl hO.e0 rfl rfl rfl (Nat.le_of_ble_eq_true rfl) ?_
  refine z_if_ne C 5 11 dX7_lock_5 (by decide) (fun c5_2 => ?_) (fun c5_2 => ?_)
  · have hq := isHouse_lt hm c5_2
    refine z_aload_n C 11 0 0 dX7_lock_11 rfl rfl ?_
    refine z_virtVe C 12 (As := []) (st := []) (id := 0) (kX7_changes l D cy K n ad hJ hO t  hp) dX7_lock_12 rfl gX7_lock_X7_changes hyX7_changes rfl (by decide) (by decide) hO.h0 rfl hO.e0 rfl rfl rfl (Nat.le_of_ble_eq_true rfl) ?_
    refine z_aload_n C 15 0 0 dX7_lock_15 rfl rfl ?_
    refine z_iload_n C 16 1 1 dX7_lock_16 rfl rfl ?_
    refine z_bipush C 17 (v := 6) dX7_lock_17 (by decide +kernel) ?_
    refine z_virtIe C 19 (As := [.int a1, .int 6]) (st := []) (id := 0) (kX7_of l D cy K n ad hJ hO (sX7_changes t) a1 6 a1.toNatClampNeg 6 (Nat.lt_of_lt_of_le hq.1 hm.1) (by decide) hq.2 rfl) dX7_lock_19 rfl gX7_lock_X7_of hyX7_of rfl (by decide) (by decide) hO.h0 rfl hO.e0 rfl rfl rfl (Nat.le_of_ble_eq_true rfl) ?_
    refine z_nv (t (1) (14 * a1.toNatClampNeg + 6)) (congrFun (sX7_changes_o _ (by decide) (by decide)) (14 * a1.toNatClampNeg + 6)) ?_
    refine z_istore_n C 22 3 ([(3, .int (t (1) (14 * a1.toNatClampNeg + 6))), (0, .ref (ad (0))), (1, .int a1), (2, .int a2)]) dX7_lock_22 rfl (by decide) rfl ?_
    refine z_aload_n C 23 0 1 dX7_lock_23 rfl rfl ?_
    refine z_iload_n C 24 1 2 dX7_lock_24 rfl rfl ?_
    refine z_bipush C 25 (v := 6) dX7_lock_25 (by decide +kernel) ?_
    refine z_iload_n C 27 2 3 dX7_lock_27 rfl rfl ?_
    refine z_if_eq C 28 35 dX7_lock_28 (by decide) (fun c28_5 => ?_) (fun c28_5 => ?_)
    · refine z_iconst C 35 (v := 0) dX7_lock_35 (by decide +kernel) ?_
      refine z_virtVe C 36 (As := [.int a1, .int 6, .int 0]) (st := []) (id := 0) (kX7_lay l D cy K n ad hJ hO (sX7_changes t) a1 6 0 a1.toNatClampNeg 6 (Nat.lt_of_lt_of_le hq.1 hm.1) (by decide) hq.2 rfl) dX7_lock_36 rfl gX7_lock_X7_lay hyX7_lay rfl (by decide) (by decide) hO.h0 rfl hO.e0 rfl rfl rfl (Nat.le_of_ble_eq_true rfl) ?_
      refine z_nt (zset (sX7_changes t) (1) (14 * a1.toNatClampNeg + 6) 0) rfl ?_
      refine z_iload_n C 39 3 0 dX7_lock_39 rfl rfl ?_
      exact z_iret C 40 hA hQ rfl dX7_lock_40 ⟨((if_neg c5_2).trans ((if_pos c28_5).trans rfl)).symm, ((if_neg c5_2).trans ((if_pos c28_5).trans rfl)).symm⟩
    · refine z_iconst C 31 (v := 1) dX7_lock_31 (by decide +kernel) ?_
      refine z_goto C 32 36 dX7_lock_32 (by decide) ?_
      refine z_virtVe C 36 (As := [.int a1, .int 6, .int 1]) (st := []) (id := 0) (kX7_lay l D cy K n ad hJ hO (sX7_changes t) a1 6 1 a1.toNatClampNeg 6 (Nat.lt_of_lt_of_le hq.1 hm.1) (by decide) hq.2 rfl) dX7_lock_36 rfl gX7_lock_X7_lay hyX7_lay rfl (by decide) (by decide) hO.h0 rfl hO.e0 rfl rfl rfl (Nat.le_of_ble_eq_true rfl) ?_
      refine z_nt (zset (sX7_changes t) (1) (14 * a1.toNatClampNeg + 6) 1) rfl ?_
      refine z_iload_n C 39 3 0 dX7_lock_39 rfl rfl ?_
      exact z_iret C 40 hA hQ rfl dX7_lock_40 ⟨((if_neg c5_2).trans ((if_neg c28_5).trans rfl)).symm, ((if_neg c5_2).trans ((if_neg c28_5).trans rfl)).symm⟩
  · refine z_ldc C 8 (v := (-1000001)) dX7_lock_8 mX7_lock_c96 ?_
    exact z_iret C 10 hA hQ rfl dX7_lock_10 ⟨((if_pos c5_2).trans rfl).symm, ((if_pos c5_2).trans rfl).symm⟩
def rX7_read (t : zM) (a1 : Int32) : Int32 := (if (rX7_isHouse t a1) = 0 then (-1000001) else (if (rX7_barred t a1.toNatClampNeg) ≤ 0 then (rX7_reads (sX7_changes t) a1 a1.toNatClampNeg) else (-1000002)))
def sX7_read (t : zM) (a1 : Int32) : zM := (if (rX7_isHouse t a1) = 0 then t else (if (rX7_barred t a1.toNatClampNeg) ≤ 0 then (sX7_reads (sX7_changes t) a1 a1.toNatClampNeg) else t))
theorem mX7_read_c100 : Cond.constant RX7 100 (-1000002) ∈ wsX7_read := by decide +kernel
theorem mX7_read_c96 : Cond.constant RX7 96 (-1000001) ∈ wsX7_read := by decide +kernel
theorem hyX7_read : yX7_read.cls = RX7 ∧ yX7_read.cls ≠ "java/lang/invoke/MethodHandle" ∧ yX7_read.cls ≠ "java/lang/invoke/VarHandle" ∧ (parseMethodDescriptor yX7_read.desc).map (fun d => d.parameters.length) = some 1 := by decide +kernel
set_option maxHeartbeats 3000000 in
set_option maxRecDepth 100000 in
theorem kX7_read (l : Launch) (D : va_G) (cy : Nat → ClassId) (K : zK) (n : Nat) (ad : Nat → Nat) (hJ : zJ n ad) (hO : zModel cy K n ad) (t : zM) (a1 : Int32) (H N : Nat) (hm : mS H N t) (hp : mP t) : zI l yX7_read wsX7_read 5 D cy K n ad t [.ref (ad (0)), .int a1] (fun r t1 => r = rX7_read t a1 ∧ t1 = sX7_read t a1) := by
  refine z_startI (cc := cX7_read) (mL := 2) (ret := (some .int)) (own := RX7) rfl (by decide +kernel) rfl hJ (Nat.le_of_ble_eq_true rfl) ?_
  intro p e s m args below meth c A hA Q hQ C
  refine z_aload_n C 0 0 0 dX7_read_0 rfl rfl ?_
  refine z_iload_n C 1 1 1 dX7_read_1 rfl rfl ?_
  refine z_virtIe C 2 (As := [.int a1]) (st := []) (id := 0) (kX7_isHouse l D cy K n ad hJ hO t a1 ) dX7_read_2 rfl gX7_read_X7_isHouse hyX7_isHouse rfl (by decide) (by decide) hO.h0 rfl hO.e0 rfl rfl rfl (Nat.le_of_ble_eq_true rfl) ?_
  refine z_if_ne C 5 11 dX7_read_5 (by decide) (fun c5_2 => ?_) (fun c5_2 => ?_)
  · have hq := isHouse_lt hm c5_2
    refine z_aload_n C 11 0 0 dX7_read_11 rfl rfl ?_
    refine z_iload_n C 12 1 1 dX7_read_12 rfl rfl ?_
    refine z_virtIe C 13 (As := [.int a1]) (st := []) (id := 0) (kX7_barred l D cy K n ad hJ hO t a1 a1.toNatClampNeg (Nat.lt_of_lt_of_le hq.1 hm.1) hq.2) dX7_read_13 rfl gX7_read_X7_barred hyX7_barred rfl (by decide) (by decide) hO.h0 rfl hO.e0 rfl rfl rfl (Nat.le_of_ble_eq_true rfl) ?_
    refine z_if_le C 16 22 dX7_read_16 (by decide) (fun c16_4 => ?_) (fun c16_4 => ?_)
    · refine z_aload_n C 22 0 0 dX7_read_22 rfl rfl ?_
      refine z_virtVe C 23 (As := []) (st := []) (id := 0) (kX7_changes l D cy K n ad hJ hO t  hp) dX7_read_23 rfl gX7_read_X7_changes hyX7_changes rfl (by decide) (by decide) hO.h0 rfl hO.e0 rfl rfl rfl (Nat.le_of_ble_eq_true rfl) ?_
      refine z_aload_n C 26 0 0 dX7_read_26 rfl rfl ?_
      refine z_iload_n C 27 1 1 dX7_read_27 rfl rfl ?_
      refine z_virtIe C 28 (As := [.int a1]) (st := []) (id := 0) (kX7_reads l D cy K n ad hJ hO (sX7_changes t) a1 a1.toNatClampNeg (Nat.lt_of_lt_of_le hq.1 hm.1) hq.2) dX7_read_28 rfl gX7_read_X7_reads hyX7_reads rfl (by decide) (by decide) hO.h0 rfl hO.e0 rfl rfl rfl (Nat.le_of_ble_eq_true rfl) ?_
      exact z_iret C 31 hA hQ rfl dX7_read_31 ⟨((if_neg c5_2).trans ((if_pos c16_4).trans rfl)).symm, ((if_neg c5_2).trans ((if_pos c16_4).trans rfl)).symm⟩
    · refine z_ldc C 19 (v := (-1000002)) dX7_read_19 mX7_read_c100 ?_
      exact z_iret C 21 hA hQ rfl dX7_read_21 ⟨((if_neg c5_2).trans ((if_neg c16_4).trans rfl)).symm, ((if_neg c5_2).trans ((if_neg c16_4).trans rfl)).symm⟩
  · refine z_ldc C 8 (v := (-1000001)) dX7_read_8 mX7_read_c96 ?_
    exact z_iret C 10 hA hQ rfl dX7_read_10 ⟨((if_pos c5_2).trans rfl).symm, ((if_pos c5_2).trans rfl).symm⟩
def rX7_change (t : zM) (a1 : Int32) : Int32 := (if (rX7_isHouse t a1) = 0 then (-1000001) else (rX7_reads (sX7_changes t) a1 a1.toNatClampNeg))
def sX7_change (t : zM) (a1 : Int32) : zM := (if (rX7_isHouse t a1) = 0 then t else (zset (zset (zset (sX7_reads (sX7_changes t) a1 a1.toNatClampNeg) (1) (14 * a1.toNatClampNeg + 2) 0) (1) (14 * a1.toNatClampNeg + 3) 0) (1) (14 * a1.toNatClampNeg + 13) (((sX7_reads (sX7_changes t) a1 a1.toNatClampNeg) (1) (14 * a1.toNatClampNeg + 13)) + 1)))
theorem mX7_change_c96 : Cond.constant RX7 96 (-1000001) ∈ wsX7_change := by decide +kernel
theorem hyX7_change : yX7_change.cls = RX7 ∧ yX7_change.cls ≠ "java/lang/invoke/MethodHandle" ∧ yX7_change.cls ≠ "java/lang/invoke/VarHandle" ∧ (parseMethodDescriptor yX7_change.desc).map (fun d => d.parameters.length) = some 1 := by decide +kernel
set_option maxHeartbeats 3000000 in
set_option maxRecDepth 100000 in
theorem kX7_change (l : Launch) (D : va_G) (cy : Nat → ClassId) (K : zK) (n : Nat) (ad : Nat → Nat) (hJ : zJ n ad) (hO : zModel cy K n ad) (t : zM) (a1 : Int32) (H N : Nat) (hm : mS H N t) (hp : mP t) : zI l yX7_change wsX7_change 5 D cy K n ad t [.ref (ad (0)), .int a1] (fun r t1 => r = rX7_change t a1 ∧ t1 = sX7_change t a1) := by
  refine z_startI (cc := cX7_change) (mL := 3) (ret := (some .int)) (own := RX7) rfl (by decide +kernel) rfl hJ (Nat.le_of_ble_eq_true rfl) ?_
  intro p e s m args below meth c A hA Q hQ C
  refine z_aload_n C 0 0 0 dX7_change_0 rfl rfl ?_
  refine z_iload_n C 1 1 1 dX7_change_1 rfl rfl ?_
  refine z_virtIe C 2 (As := [.int a1]) (st := []) (id := 0) (kX7_isHouse l D cy K n ad hJ hO t a1 ) dX7_change_2 rfl gX7_change_X7_isHouse hyX7_isHouse rfl (by decide) (by decide) hO.h0 rfl hO.e0 rfl rfl rfl (Nat.le_of_ble_eq_true rfl) ?_
  refine z_if_ne C 5 11 dX7_change_5 (by decide) (fun c5_2 => ?_) (fun c5_2 => ?_)
  · have hq := isHouse_lt hm c5_2
    refine z_aload_n C 11 0 0 dX7_change_11 rfl rfl ?_
    refine z_virtVe C 12 (As := []) (st := []) (id := 0) (kX7_changes l D cy K n ad hJ hO t  hp) dX7_change_12 rfl gX7_change_X7_changes hyX7_changes rfl (by decide) (by decide) hO.h0 rfl hO.e0 rfl rfl rfl (Nat.le_of_ble_eq_true rfl) ?_
    refine z_aload_n C 15 0 0 dX7_change_15 rfl rfl ?_
    refine z_iload_n C 16 1 1 dX7_change_16 rfl rfl ?_
    refine z_virtIe C 17 (As := [.int a1]) (st := []) (id := 0) (kX7_reads l D cy K n ad hJ hO (sX7_changes t) a1 a1.toNatClampNeg (Nat.lt_of_lt_of_le hq.1 hm.1) hq.2) dX7_change_17 rfl gX7_change_X7_reads hyX7_reads rfl (by decide) (by decide) hO.h0 rfl hO.e0 rfl rfl rfl (Nat.le_of_ble_eq_true rfl) ?_
    refine z_istore_n C 20 2 ([(2, .int (rX7_reads (sX7_changes t) a1 a1.toNatClampNeg)), (0, .ref (ad (0))), (1, .int a1)]) dX7_change_20 rfl (by decide) rfl ?_
    refine z_aload_n C 21 0 1 dX7_change_21 rfl rfl ?_
    refine z_iload_n C 22 1 2 dX7_change_22 rfl rfl ?_
    refine z_iconst C 23 (v := 2) dX7_change_23 (by decide +kernel) ?_
    refine z_iconst C 24 (v := 0) dX7_change_24 (by decide +kernel) ?_
    refine z_virtVe C 25 (As := [.int a1, .int 2, .int 0]) (st := []) (id := 0) (kX7_lay l D cy K n ad hJ hO (sX7_reads (sX7_changes t) a1 a1.toNatClampNeg) a1 2 0 a1.toNatClampNeg 2 (Nat.lt_of_lt_of_le hq.1 hm.1) (by decide) hq.2 rfl) dX7_change_25 rfl gX7_change_X7_lay hyX7_lay rfl (by decide) (by decide) hO.h0 rfl hO.e0 rfl rfl rfl (Nat.le_of_ble_eq_true rfl) ?_
    refine z_nt (zset (sX7_reads (sX7_changes t) a1 a1.toNatClampNeg) (1) (14 * a1.toNatClampNeg + 2) 0) rfl ?_
    refine z_aload_n C 28 0 1 dX7_change_28 rfl rfl ?_
    refine z_iload_n C 29 1 2 dX7_change_29 rfl rfl ?_
    refine z_iconst C 30 (v := 3) dX7_change_30 (by decide +kernel) ?_
    refine z_iconst C 31 (v := 0) dX7_change_31 (by decide +kernel) ?_
    refine z_virtVe C 32 (As := [.int a1, .int 3, .int 0]) (st := []) (id := 0) (kX7_lay l D cy K n ad hJ hO (zset (sX7_reads (sX7_changes t) a1 a1.toNatClampNeg) (1) (14 * a1.toNatClampNeg + 2) 0) a1 3 0 a1.toNatClampNeg 3 (Nat.lt_of_lt_of_le hq.1 hm.1) (by decide) hq.2 rfl) dX7_change_32 rfl gX7_change_X7_lay hyX7_lay rfl (by decide) (by decide) hO.h0 rfl hO.e0 rfl rfl rfl (Nat.le_of_ble_eq_true rfl) ?_
    refine z_nt (zset (zset (sX7_reads (sX7_changes t) a1 a1.toNatClampNeg) (1) (14 * a1.toNatClampNeg + 2) 0) (1) (14 * a1.toNatClampNeg + 3) 0) rfl ?_
    refine z_aload_n C 35 0 1 dX7_change_35 rfl rfl ?_
    refine z_iload_n C 36 1 2 dX7_change_36 rfl rfl ?_
    refine z_bipush C 37 (v := 13) dX7_change_37 (by decide +kernel) ?_
    refine z_iconst C 39 (v := 1) dX7_change_39 (by decide +kernel) ?_
    refine z_virtVe C 40 (As := [.int a1, .int 13, .int 1]) (st := []) (id := 0) (kX7_adds l D cy K n ad hJ hO (zset (zset (sX7_reads (sX7_changes t) a1 a1.toNatClampNeg) (1) (14 * a1.toNatClampNeg + 2) 0) (1) (14 * a1.toNatClampNeg + 3) 0) a1 13 1 a1.toNatClampNeg 13 (Nat.lt_of_lt_of_le hq.1 hm.1) (by decide) hq.2 rfl) dX7_change_40 rfl gX7_change_X7_adds hyX7_adds rfl (by decide) (by decide) hO.h0 rfl hO.e0 rfl rfl rfl (Nat.le_of_ble_eq_true rfl) ?_
    refine z_nt (zset (zset (zset (sX7_reads (sX7_changes t) a1 a1.toNatClampNeg) (1) (14 * a1.toNatClampNeg + 2) 0) (1) (14 * a1.toNatClampNeg + 3) 0) (1) (14 * a1.toNatClampNeg + 13) (((sX7_reads (sX7_changes t) a1 a1.toNatClampNeg) (1) (14 * a1.toNatClampNeg + 13)) + 1)) (congrArg (fun z9 => zset (zset (zset (sX7_reads (sX7_changes t) a1 a1.toNatClampNeg) (1) (14 * a1.toNatClampNeg + 2) 0) (1) (14 * a1.toNatClampNeg + 3) 0) 1 (14 * a1.toNatClampNeg + 13) (z9 + 1)) ((zset_nk _ _ _ (by omega)).trans ((zset_nk _ _ _ (by omega)).trans rfl))) ?_
    refine z_iload_n C 43 2 0 dX7_change_43 rfl rfl ?_
    exact z_iret C 44 hA hQ rfl dX7_change_44 ⟨((if_neg c5_2).trans rfl).symm, ((if_neg c5_2).trans rfl).symm⟩
  · refine z_ldc C 8 (v := (-1000001)) dX7_change_8 mX7_change_c96 ?_
    exact z_iret C 10 hA hQ rfl dX7_change_10 ⟨((if_pos c5_2).trans rfl).symm, ((if_pos c5_2).trans rfl).symm⟩
def lX7_pass_4 (t : zM) (M : Nat) (N : Nat) : Nat → Nat → Int32 → zM → Int32
  | 0, _, _, _ => 0
  | j + 1, k, v, u => (if nI M ≤ nI k then v else (lX7_pass_4 t M N j (k + 1) (v + (rX7_day u (N + k))) (sX7_day u (N + k))))
def lsX7_pass_4 (t : zM) (M : Nat) (N : Nat) : Nat → Nat → Int32 → zM → zM
  | 0, _, _, u => u
  | j + 1, k, v, u => (if nI M ≤ nI k then u else (lsX7_pass_4 t M N j (k + 1) (v + (rX7_day u (N + k))) (sX7_day u (N + k))))
def rX7_pass (t : zM) (M : Nat) (N : Nat) : Int32 := (lX7_pass_4 t M N (M + 1) 0 0 t)
def sX7_pass (t : zM) (M : Nat) (N : Nat) : zM := (lsX7_pass_4 t M N (M + 1) 0 0 t)
theorem hyX7_pass : yX7_pass.cls = RX7 ∧ yX7_pass.cls ≠ "java/lang/invoke/MethodHandle" ∧ yX7_pass.cls ≠ "java/lang/invoke/VarHandle" ∧ (parseMethodDescriptor yX7_pass.desc).map (fun d => d.parameters.length) = some 1 := by decide +kernel
set_option maxHeartbeats 3000000 in
set_option maxRecDepth 100000 in
theorem kX7_pass (l : Launch) (D : va_G) (cy : Nat → ClassId) (K : zK) (n : Nat) (ad : Nat → Nat) (hJ : zJ n ad) (hO : zModel cy K n ad) (t : zM) (M N H : Nat) (hM : M ≤ 99) (hN : N ≤ 10000) (hm0 : mS H N t) : zI l yX7_pass wsX7_pass 7 D cy K n ad t [.ref (ad (0)), .int (nI M)] (fun r t1 => r = rX7_pass t M N ∧ t1 = sX7_pass t M N) := by
  refine z_startI (cc := cX7_pass) (mL := 4) (ret := (some .int)) (own := RX7) rfl (by decide +kernel) rfl hJ (Nat.le_of_ble_eq_true rfl) ?_
  intro p e s m args below meth c A hA Q hQ C
  refine z_iconst C 0 (v := 0) dX7_pass_0 (by decide +kernel) ?_
  refine z_istore_n C 1 2 ([(2, .int 0), (0, .ref (ad (0))), (1, .int (nI M))]) dX7_pass_1 rfl (by decide) rfl ?_
  refine z_iconst C 2 (v := 0) dX7_pass_2 (by decide +kernel) ?_
  refine z_istore_n C 3 3 ([(3, .int 0), (2, .int 0), (0, .ref (ad (0))), (1, .int (nI M))]) dX7_pass_3 rfl (by decide) rfl ?_
  have L4 : ∀ (j : Nat) (k : Nat) (v : Int32) (u : zM), (h0_4 : (M + 1) ≤ k + j) → (hk : k ≤ M) → (hm : mS H (N + k) u) → (hI4 : rX7_pass t M N = (lX7_pass_4 t M N j k v u)) → (hS4 : sX7_pass t M N = (lsX7_pass_4 t M N j k v u)) → Zw p l e (zR 7) s m args below meth c D A K n ad 4 Q 4 ([(3, .int (nI k)), (2, .int v), (0, .ref (ad (0))), (1, .int (nI M))]) [] u := by
    intro j
    induction j with
    | zero =>
      intro k v u h0_4 hk hm hI4 hS4
      exact absurd h0_4 (by omega)
    | succ j ih4 =>
      intro k v u h0_4 hk hm hI4 hS4
      refine z_iload_n C 4 3 0 dX7_pass_4 rfl rfl ?_
      refine z_iload_n C 5 1 3 dX7_pass_5 rfl rfl ?_
      refine z_icmp_ge C 6 22 dX7_pass_6 (by decide) (fun c6_1 => ?_) (fun c6_1 => ?_)
      · refine z_iload_n C 22 2 1 dX7_pass_22 rfl rfl ?_
        exact z_iret C 23 hA hQ rfl dX7_pass_23 ⟨((hI4.trans ((if_pos c6_1).trans rfl))).symm, ((hS4.trans ((if_pos c6_1).trans rfl))).symm⟩
      · refine z_iload_n C 9 2 1 dX7_pass_9 rfl rfl ?_
        refine z_aload_n C 10 0 2 dX7_pass_10 rfl rfl ?_
        refine z_virtIe C 11 (As := []) (st := [.int v]) (id := 0) (kX7_day l D cy K n ad hJ hO u H (N + k) (by omega) hm) dX7_pass_11 rfl gX7_pass_X7_day hyX7_day rfl (by decide) (by decide) hO.h0 rfl hO.e0 rfl rfl rfl (Nat.le_of_ble_eq_true rfl) ?_
        refine z_iadd C 14 dX7_pass_14 ?_
        refine z_istore_n C 15 2 ([(2, .int (v + (rX7_day u (N + k)))), (3, .int (nI k)), (0, .ref (ad (0))), (1, .int (nI M))]) dX7_pass_15 rfl (by decide) rfl ?_
        refine z_iinc C 16 (v := nI (k + 1)) 3 1 ([(3, .int (nI (k + 1))), (2, .int (v + (rX7_day u (N + k)))), (0, .ref (ad (0))), (1, .int (nI M))]) dX7_pass_16 rfl (nI_1 _) (by decide) rfl ?_
        refine z_goto C 19 4 dX7_pass_19 (by decide) ?_
        refine z_ls [0, 1, 2, 3] _ rfl ?_
        exact ih4 (k + 1) (v + (rX7_day u (N + k))) (sX7_day u (N + k)) (by omega) (by have := zge (by omega) (by omega) ‹¬ nI M ≤ nI k›; omega) (sX7_day_S hm) (hI4.trans ((if_neg c6_1).trans rfl)) (hS4.trans ((if_neg c6_1).trans rfl))
  refine z_ls [0, 1, 2, 3] _ rfl ?_
  exact L4 ((M + 1)) 0 0 t (by omega) (Nat.zero_le _) hm0 rfl rfl
theorem lsX7_pass_4_S {H : Nat} (t : zM) (M N : Nat) : ∀ (j k : Nat) (v : Int32) (u : zM), M + 1 ≤ k + j → k ≤ M → M ≤ 99 → mS H (N + k) u → mS H (N + M) (lsX7_pass_4 t M N j k v u) := by
  intro j
  induction j with
  | zero => intro k v u h0 hk hM h; omega
  | succ j ih =>
    intro k v u h0 hk hM h
    unfold lsX7_pass_4
    split
    · have : k = M := by have := zle (by omega) (by omega) ‹nI M ≤ nI k›; omega
      rw [← this]; exact h
    · have hk2 : k < M := zge (by omega) (by omega) ‹¬ nI M ≤ nI k›
      exact ih _ _ _ (by omega) (by omega) hM (sX7_day_S h)
theorem sX7_pass_S {H M N : Nat} {t : zM} (hM : M ≤ 99) (h : mS H N t) : mS H (N + M) (sX7_pass t M N) := lsX7_pass_4_S t M N _ _ _ _ (by omega) (Nat.zero_le _) hM h
def rX7_days (t : zM) (a1 : Int32) (N : Nat) : Int32 := (if (rX7_in a1 1 99) = 0 then (-1000001) else (if ((t (1) 400) + a1) ≤ 9999 then (rX7_pass (sX7_changes t) a1.toNatClampNeg N) else (-1000003)))
def sX7_days (t : zM) (a1 : Int32) (N : Nat) : zM := (if (rX7_in a1 1 99) = 0 then t else (if ((t (1) 400) + a1) ≤ 9999 then (sX7_pass (sX7_changes t) a1.toNatClampNeg N) else t))
theorem mX7_days_f7 : Cond.fieldLink RX7 7 "WrongedMetersModel" "s" "[I" ∈ wsX7_days := by decide +kernel
set_option maxRecDepth 20000 in
theorem mX7_days_in7 : ∀ w ∈ u_ws RX7 TX7 16, w ∈ wsX7_days := by decide +kernel
theorem mX7_days_c101 : Cond.constant RX7 101 (-1000003) ∈ wsX7_days := by decide +kernel
theorem mX7_days_c96 : Cond.constant RX7 96 (-1000001) ∈ wsX7_days := by decide +kernel
theorem hyX7_days : yX7_days.cls = RX7 ∧ yX7_days.cls ≠ "java/lang/invoke/MethodHandle" ∧ yX7_days.cls ≠ "java/lang/invoke/VarHandle" ∧ (parseMethodDescriptor yX7_days.desc).map (fun d => d.parameters.length) = some 1 := by decide +kernel
set_option maxHeartbeats 3000000 in
set_option maxRecDepth 100000 in
theorem kX7_days (l : Launch) (D : va_G) (cy : Nat → ClassId) (K : zK) (n : Nat) (ad : Nat → Nat) (hJ : zJ n ad) (hO : zModel cy K n ad) (t : zM) (a1 : Int32) (H N : Nat) (hN : N ≤ 10000) (hm : mS H N t) (hp : mP t) : zI l yX7_days wsX7_days 8 D cy K n ad t [.ref (ad (0)), .int a1] (fun r t1 => r = rX7_days t a1 N ∧ t1 = sX7_days t a1 N) := by
  refine z_startI (cc := cX7_days) (mL := 2) (ret := (some .int)) (own := RX7) rfl (by decide +kernel) rfl hJ (Nat.le_of_ble_eq_true rfl) ?_
  intro p e s m args below meth c A hA Q hQ C
  refine z_iload_n C 0 1 1 dX7_days_0 rfl rfl ?_
  refine z_iconst C 1 (v := 1) dX7_days_1 (by decide +kernel) ?_
  refine z_bipush C 2 (v := 99) dX7_days_2 (by decide +kernel) ?_
  refine z_statIe C 4 (As := [.int a1, .int 1, .int 99]) (st := []) (kX7_in l D cy K n ad hJ t a1 1 99 ) dX7_days_4 rfl gX7_days_X7_in hyX7_in rfl (by decide) (by decide) rfl rfl (Nat.le_of_ble_eq_true rfl) ?_
  refine z_if_ne C 7 13 dX7_days_7 (by decide) (fun c7_2 => ?_) (fun c7_2 => ?_)
  · have hq := m99 c7_2
    refine z_aload_n C 13 0 0 dX7_days_13 rfl rfl ?_
    refine z_getr C 14 (a9 := ad (1)) (0) 0 dX7_days_14 hO.h0 hO.e0 mX7_days_in7 rfl (by decide) mX7_days_f7 (fun _ => rfl) ?_
    refine z_sipush C 17 (v := 400) dX7_days_17 (by decide +kernel) ?_
    refine z_ialdN C 20 (1) 400 dX7_days_20 hO.h1 hO.e1 rfl (by decide) (by decide) ?_
    refine z_iload_n C 21 1 1 dX7_days_21 rfl rfl ?_
    refine z_iadd C 22 dX7_days_22 ?_
    refine z_sipush C 23 (v := 9999) dX7_days_23 (by decide +kernel) ?_
    refine z_icmp_le C 26 32 dX7_days_26 (by decide) (fun c26_3 => ?_) (fun c26_3 => ?_)
    · refine z_aload_n C 32 0 0 dX7_days_32 rfl rfl ?_
      refine z_virtVe C 33 (As := []) (st := []) (id := 0) (kX7_changes l D cy K n ad hJ hO t  hp) dX7_days_33 rfl gX7_days_X7_changes hyX7_changes rfl (by decide) (by decide) hO.h0 rfl hO.e0 rfl rfl rfl (Nat.le_of_ble_eq_true rfl) ?_
      refine z_aload_n C 36 0 0 dX7_days_36 rfl rfl ?_
      refine z_iload_n C 37 1 1 dX7_days_37 rfl rfl ?_
      refine z_nv (nI a1.toNatClampNeg) hq.2 ?_
      refine z_virtIe C 38 (As := [.int (nI a1.toNatClampNeg)]) (st := []) (id := 0) (kX7_pass l D cy K n ad hJ hO (sX7_changes t) a1.toNatClampNeg N H hq.1 hN (sX7_changes_S hm)) dX7_days_38 rfl gX7_days_X7_pass hyX7_pass rfl (by decide) (by decide) hO.h0 rfl hO.e0 rfl rfl rfl (Nat.le_of_ble_eq_true rfl) ?_
      exact z_iret C 41 hA hQ rfl dX7_days_41 ⟨((if_neg c7_2).trans ((if_pos c26_3).trans rfl)).symm, ((if_neg c7_2).trans ((if_pos c26_3).trans rfl)).symm⟩
    · refine z_ldc C 29 (v := (-1000003)) dX7_days_29 mX7_days_c101 ?_
      exact z_iret C 31 hA hQ rfl dX7_days_31 ⟨((if_neg c7_2).trans ((if_neg c26_3).trans rfl)).symm, ((if_neg c7_2).trans ((if_neg c26_3).trans rfl)).symm⟩
  · refine z_ldc C 10 (v := (-1000001)) dX7_days_10 mX7_days_c96 ?_
    exact z_iret C 12 hA hQ rfl dX7_days_12 ⟨((if_pos c7_2).trans rfl).symm, ((if_pos c7_2).trans rfl).symm⟩
def rX7_least (a1 : Int32) : Int32 := (if a1 = 0 then 0 else (if a1 = 3 then 5 else 1))
theorem hyX7_least : yX7_least.cls ≠ "java/lang/invoke/MethodHandle" ∧ yX7_least.cls ≠ "java/lang/invoke/VarHandle" ∧ (parseMethodDescriptor yX7_least.desc).map (fun d => d.parameters.length) = some 1 := by decide +kernel
set_option maxHeartbeats 3000000 in
set_option maxRecDepth 100000 in
theorem kX7_least (l : Launch) (D : va_G) (cy : Nat → ClassId) (K : zK) (n : Nat) (ad : Nat → Nat) (hJ : zJ n ad) (t : zM) (a1 : Int32)  : zI l yX7_least wsX7_least 0 D cy K n ad t [.int a1] (fun r t1 => r = rX7_least a1 ∧ t1 = t) := by
  refine z_startI (cc := cX7_least) (mL := 1) (ret := (some .int)) (own := RX7) rfl (by decide +kernel) rfl hJ (Nat.le_of_ble_eq_true rfl) ?_
  intro p e s m args below meth c A hA Q hQ C
  refine z_iload_n C 0 0 0 dX7_least_0 rfl rfl ?_
  refine z_if_ne C 1 8 dX7_least_1 (by decide) (fun c1_1 => ?_) (fun c1_1 => ?_)
  · refine z_iload_n C 8 0 0 dX7_least_8 rfl rfl ?_
    refine z_iconst C 9 (v := 3) dX7_least_9 (by decide +kernel) ?_
    refine z_icmp_ne C 10 17 dX7_least_10 (by decide) (fun c10_2 => ?_) (fun c10_2 => ?_)
    · refine z_iconst C 17 (v := 1) dX7_least_17 (by decide +kernel) ?_
      exact z_iret C 18 hA hQ rfl dX7_least_18 ⟨((if_neg c1_1).trans ((if_neg c10_2).trans rfl)).symm, rfl⟩
    · refine z_iconst C 13 (v := 5) dX7_least_13 (by decide +kernel) ?_
      refine z_goto C 14 18 dX7_least_14 (by decide) ?_
      exact z_iret C 18 hA hQ rfl dX7_least_18 ⟨((if_neg c1_1).trans ((if_pos c10_2).trans rfl)).symm, rfl⟩
  · refine z_iconst C 4 (v := 0) dX7_least_4 (by decide +kernel) ?_
    refine z_goto C 5 18 dX7_least_5 (by decide) ?_
    exact z_iret C 18 hA hQ rfl dX7_least_18 ⟨((if_pos c1_1).trans rfl).symm, rfl⟩
def rX7_most (a1 : Int32) : Int32 := (if a1 = 0 then 12 else (if a1 = 1 then 50 else (if a1 = 2 then 99 else 400)))
theorem hyX7_most : yX7_most.cls ≠ "java/lang/invoke/MethodHandle" ∧ yX7_most.cls ≠ "java/lang/invoke/VarHandle" ∧ (parseMethodDescriptor yX7_most.desc).map (fun d => d.parameters.length) = some 1 := by decide +kernel
set_option maxHeartbeats 3000000 in
set_option maxRecDepth 100000 in
theorem kX7_most (l : Launch) (D : va_G) (cy : Nat → ClassId) (K : zK) (n : Nat) (ad : Nat → Nat) (hJ : zJ n ad) (t : zM) (a1 : Int32)  : zI l yX7_most wsX7_most 0 D cy K n ad t [.int a1] (fun r t1 => r = rX7_most a1 ∧ t1 = t) := by
  refine z_startI (cc := cX7_most) (mL := 1) (ret := (some .int)) (own := RX7) rfl (by decide +kernel) rfl hJ (Nat.le_of_ble_eq_true rfl) ?_
  intro p e s m args below meth c A hA Q hQ C
  refine z_iload_n C 0 0 0 dX7_most_0 rfl rfl ?_
  refine z_if_ne C 1 9 dX7_most_1 (by decide) (fun c1_1 => ?_) (fun c1_1 => ?_)
  · refine z_iload_n C 9 0 0 dX7_most_9 rfl rfl ?_
    refine z_iconst C 10 (v := 1) dX7_most_10 (by decide +kernel) ?_
    refine z_icmp_ne C 11 19 dX7_most_11 (by decide) (fun c11_2 => ?_) (fun c11_2 => ?_)
    · refine z_iload_n C 19 0 0 dX7_most_19 rfl rfl ?_
      refine z_iconst C 20 (v := 2) dX7_most_20 (by decide +kernel) ?_
      refine z_icmp_ne C 21 29 dX7_most_21 (by decide) (fun c21_3 => ?_) (fun c21_3 => ?_)
      · refine z_sipush C 29 (v := 400) dX7_most_29 (by decide +kernel) ?_
        exact z_iret C 32 hA hQ rfl dX7_most_32 ⟨((if_neg c1_1).trans ((if_neg c11_2).trans ((if_neg c21_3).trans rfl))).symm, rfl⟩
      · refine z_bipush C 24 (v := 99) dX7_most_24 (by decide +kernel) ?_
        refine z_goto C 26 32 dX7_most_26 (by decide) ?_
        exact z_iret C 32 hA hQ rfl dX7_most_32 ⟨((if_neg c1_1).trans ((if_neg c11_2).trans ((if_pos c21_3).trans rfl))).symm, rfl⟩
    · refine z_bipush C 14 (v := 50) dX7_most_14 (by decide +kernel) ?_
      refine z_goto C 16 32 dX7_most_16 (by decide) ?_
      exact z_iret C 32 hA hQ rfl dX7_most_32 ⟨((if_neg c1_1).trans ((if_pos c11_2).trans rfl)).symm, rfl⟩
  · refine z_bipush C 4 (v := 12) dX7_most_4 (by decide +kernel) ?_
    refine z_goto C 6 32 dX7_most_6 (by decide) ?_
    exact z_iret C 32 hA hQ rfl dX7_most_32 ⟨((if_pos c1_1).trans rfl).symm, rfl⟩
def rX7_set (t : zM) (a1 : Int32) (a2 : Int32) : Int32 := (if (rX7_in a1 0 3) = 0 then (-1000001) else (if (rX7_in a2 (rX7_least a1) (rX7_most a1)) = 0 then (-1000001) else (t (1) (410 + a1.toNatClampNeg))))
def sX7_set (t : zM) (a1 : Int32) (a2 : Int32) : zM := (if (rX7_in a1 0 3) = 0 then t else (if (rX7_in a2 (rX7_least a1) (rX7_most a1)) = 0 then t else (zset (sX7_changes t) (1) (410 + a1.toNatClampNeg) a2)))
theorem mX7_set_c96 : Cond.constant RX7 96 (-1000001) ∈ wsX7_set := by decide +kernel
theorem mX7_set_f7 : Cond.fieldLink RX7 7 "WrongedMetersModel" "s" "[I" ∈ wsX7_set := by decide +kernel
set_option maxRecDepth 20000 in
theorem mX7_set_in7 : ∀ w ∈ u_ws RX7 TX7 16, w ∈ wsX7_set := by decide +kernel
theorem hyX7_set : yX7_set.cls = RX7 ∧ yX7_set.cls ≠ "java/lang/invoke/MethodHandle" ∧ yX7_set.cls ≠ "java/lang/invoke/VarHandle" ∧ (parseMethodDescriptor yX7_set.desc).map (fun d => d.parameters.length) = some 2 := by decide +kernel
set_option maxHeartbeats 3000000 in
set_option maxRecDepth 100000 in
theorem kX7_set (l : Launch) (D : va_G) (cy : Nat → ClassId) (K : zK) (n : Nat) (ad : Nat → Nat) (hJ : zJ n ad) (hO : zModel cy K n ad) (t : zM) (a1 a2 : Int32) (H N : Nat) (hm : mS H N t) (hp : mP t) : zI l yX7_set wsX7_set 1 D cy K n ad t [.ref (ad (0)), .int a1, .int a2] (fun r t1 => r = rX7_set t a1 a2 ∧ t1 = sX7_set t a1 a2) := by
  refine z_startI (cc := cX7_set) (mL := 4) (ret := (some .int)) (own := RX7) rfl (by decide +kernel) rfl hJ (Nat.le_of_ble_eq_true rfl) ?_
  intro p e s m args below meth c A hA Q hQ C
  refine z_iload_n C 0 1 1 dX7_set_0 rfl rfl ?_
  refine z_iconst C 1 (v := 0) dX7_set_1 (by decide +kernel) ?_
  refine z_iconst C 2 (v := 3) dX7_set_2 (by decide +kernel) ?_
  refine z_statIe C 3 (As := [.int a1, .int 0, .int 3]) (st := []) (kX7_in l D cy K n ad hJ t a1 0 3 ) dX7_set_3 rfl gX7_set_X7_in hyX7_in rfl (by decide) (by decide) rfl rfl (Nat.le_of_ble_eq_true rfl) ?_
  refine z_if_eq C 6 24 dX7_set_6 (by decide) (fun c6_2 => ?_) (fun c6_2 => ?_)
  · refine z_ldc C 24 (v := (-1000001)) dX7_set_24 mX7_set_c96 ?_
    exact z_iret C 26 hA hQ rfl dX7_set_26 ⟨((if_pos c6_2).trans rfl).symm, ((if_pos c6_2).trans rfl).symm⟩
  · have hq := m03 c6_2
    refine z_iload_n C 9 2 2 dX7_set_9 rfl rfl ?_
    refine z_iload_n C 10 1 1 dX7_set_10 rfl rfl ?_
    refine z_statIe C 11 (As := [.int a1]) (st := [.int a2]) (kX7_least l D cy K n ad hJ t a1 ) dX7_set_11 rfl gX7_set_X7_least hyX7_least rfl (by decide) (by decide) rfl rfl (Nat.le_of_ble_eq_true rfl) ?_
    refine z_iload_n C 14 1 1 dX7_set_14 rfl rfl ?_
    refine z_statIe C 15 (As := [.int a1]) (st := [.int (rX7_least a1), .int a2]) (kX7_most l D cy K n ad hJ t a1 ) dX7_set_15 rfl gX7_set_X7_most hyX7_most rfl (by decide) (by decide) rfl rfl (Nat.le_of_ble_eq_true rfl) ?_
    refine z_statIe C 18 (As := [.int a2, .int (rX7_least a1), .int (rX7_most a1)]) (st := []) (kX7_in l D cy K n ad hJ t a2 (rX7_least a1) (rX7_most a1) ) dX7_set_18 rfl gX7_set_X7_in hyX7_in rfl (by decide) (by decide) rfl rfl (Nat.le_of_ble_eq_true rfl) ?_
    refine z_if_ne C 21 27 dX7_set_21 (by decide) (fun c21_6 => ?_) (fun c21_6 => ?_)
    · refine z_aload_n C 27 0 0 dX7_set_27 rfl rfl ?_
      refine z_virtVe C 28 (As := []) (st := []) (id := 0) (kX7_changes l D cy K n ad hJ hO t  hp) dX7_set_28 rfl gX7_set_X7_changes hyX7_changes rfl (by decide) (by decide) hO.h0 rfl hO.e0 rfl rfl rfl (Nat.le_of_ble_eq_true rfl) ?_
      refine z_aload_n C 31 0 0 dX7_set_31 rfl rfl ?_
      refine z_getr C 32 (a9 := ad (1)) (0) 0 dX7_set_32 hO.h0 hO.e0 mX7_set_in7 rfl (by decide) mX7_set_f7 (fun _ => rfl) ?_
      refine z_sipush C 35 (v := 410) dX7_set_35 (by decide +kernel) ?_
      refine z_iload_n C 38 1 1 dX7_set_38 rfl rfl ?_
      refine z_iadd C 39 dX7_set_39 ?_
      refine z_ialdN C 40 (1) (410 + a1.toNatClampNeg) dX7_set_40 hO.h1 hO.e1 (m410 hq) (by have := hq.1; omega) (by decide) ?_
      refine z_nv (t (1) (410 + a1.toNatClampNeg)) (congrFun (sX7_changes_o _ (by decide) (by decide)) (410 + a1.toNatClampNeg)) ?_
      refine z_istore_n C 41 3 ([(3, .int (t (1) (410 + a1.toNatClampNeg))), (0, .ref (ad (0))), (1, .int a1), (2, .int a2)]) dX7_set_41 rfl (by decide) rfl ?_
      refine z_aload_n C 42 0 1 dX7_set_42 rfl rfl ?_
      refine z_getr C 43 (a9 := ad (1)) (0) 0 dX7_set_43 hO.h0 hO.e0 mX7_set_in7 rfl (by decide) mX7_set_f7 (fun _ => rfl) ?_
      refine z_sipush C 46 (v := 410) dX7_set_46 (by decide +kernel) ?_
      refine z_iload_n C 49 1 2 dX7_set_49 rfl rfl ?_
      refine z_iadd C 50 dX7_set_50 ?_
      refine z_iload_n C 51 2 3 dX7_set_51 rfl rfl ?_
      refine z_iastN C 52 (1) (410 + a1.toNatClampNeg) dX7_set_52 hO.h1 hO.e1 (m410 hq) (by have := hq.1; omega) (by decide) ?_
      refine z_iload_n C 53 3 0 dX7_set_53 rfl rfl ?_
      exact z_iret C 54 hA hQ rfl dX7_set_54 ⟨((if_neg c6_2).trans ((if_neg c21_6).trans rfl)).symm, ((if_neg c6_2).trans ((if_neg c21_6).trans rfl)).symm⟩
    · refine z_ldc C 24 (v := (-1000001)) dX7_set_24 mX7_set_c96 ?_
      exact z_iret C 26 hA hQ rfl dX7_set_26 ⟨((if_neg c6_2).trans ((if_pos c21_6).trans rfl)).symm, ((if_neg c6_2).trans ((if_pos c21_6).trans rfl)).symm⟩
def rX7_houseOf (t : zM) (a1 : Int32) (a2 : Int32) : Int32 := (if (rX7_isHouse t a1) = 0 then (-1000001) else (if (rX7_in a2 0 13) = 0 then (-1000001) else (if a2 = 3 then (rX7_used t a1.toNatClampNeg) else (if a2 = 4 then (1000 + (t (1) (14 * a1.toNatClampNeg + 4))) else (if a2 = 5 then (t (1) (14 * a1.toNatClampNeg + (a2.toNatClampNeg))) else (if a2 = 6 then (t (1) (14 * a1.toNatClampNeg + (a2.toNatClampNeg))) else (if a2 = 7 then (if (t (1) (14 * a1.toNatClampNeg + 7)) ≤ 0 then (-1000004) else ((t (1) (14 * a1.toNatClampNeg + 7)) - 1)) else (t (1) (14 * a1.toNatClampNeg + (a2.toNatClampNeg))))))))))
theorem mX7_houseOf_c96 : Cond.constant RX7 96 (-1000001) ∈ wsX7_houseOf := by decide +kernel
theorem mX7_houseOf_c47 : Cond.constant RX7 47 (-1000004) ∈ wsX7_houseOf := by decide +kernel
theorem hyX7_houseOf : yX7_houseOf.cls = RX7 ∧ yX7_houseOf.cls ≠ "java/lang/invoke/MethodHandle" ∧ yX7_houseOf.cls ≠ "java/lang/invoke/VarHandle" ∧ (parseMethodDescriptor yX7_houseOf.desc).map (fun d => d.parameters.length) = some 2 := by decide +kernel
set_option maxHeartbeats 3000000 in
set_option maxRecDepth 100000 in
theorem kX7_houseOf (l : Launch) (D : va_G) (cy : Nat → ClassId) (K : zK) (n : Nat) (ad : Nat → Nat) (hJ : zJ n ad) (hO : zModel cy K n ad) (t : zM) (a1 a2 : Int32) (H N : Nat) (hm : mS H N t) (hp : mP t) : zI l yX7_houseOf wsX7_houseOf 2 D cy K n ad t [.ref (ad (0)), .int a1, .int a2] (fun r t1 => r = rX7_houseOf t a1 a2 ∧ t1 = t) := by
  refine z_startI (cc := cX7_houseOf) (mL := 3) (ret := (some .int)) (own := RX7) rfl (by decide +kernel) rfl hJ (Nat.le_of_ble_eq_true rfl) ?_
  intro p e s m args below meth c A hA Q hQ C
  refine z_aload_n C 0 0 0 dX7_houseOf_0 rfl rfl ?_
  refine z_iload_n C 1 1 1 dX7_houseOf_1 rfl rfl ?_
  refine z_virtIe C 2 (As := [.int a1]) (st := []) (id := 0) (kX7_isHouse l D cy K n ad hJ hO t a1 ) dX7_houseOf_2 rfl gX7_houseOf_X7_isHouse hyX7_isHouse rfl (by decide) (by decide) hO.h0 rfl hO.e0 rfl rfl rfl (Nat.le_of_ble_eq_true rfl) ?_
  refine z_if_eq C 5 18 dX7_houseOf_5 (by decide) (fun c5_2 => ?_) (fun c5_2 => ?_)
  · refine z_ldc C 18 (v := (-1000001)) dX7_houseOf_18 mX7_houseOf_c96 ?_
    exact z_iret C 20 hA hQ rfl dX7_houseOf_20 ⟨((if_pos c5_2).trans rfl).symm, rfl⟩
  · have hq := isHouse_lt hm c5_2
    refine z_iload_n C 8 2 2 dX7_houseOf_8 rfl rfl ?_
    refine z_iconst C 9 (v := 0) dX7_houseOf_9 (by decide +kernel) ?_
    refine z_bipush C 10 (v := 13) dX7_houseOf_10 (by decide +kernel) ?_
    refine z_statIe C 12 (As := [.int a2, .int 0, .int 13]) (st := []) (kX7_in l D cy K n ad hJ t a2 0 13 ) dX7_houseOf_12 rfl gX7_houseOf_X7_in hyX7_in rfl (by decide) (by decide) rfl rfl (Nat.le_of_ble_eq_true rfl) ?_
    refine z_if_ne C 15 21 dX7_houseOf_15 (by decide) (fun c15_4 => ?_) (fun c15_4 => ?_)
    · have hw := m013 c15_4
      refine z_iload_n C 21 2 2 dX7_houseOf_21 rfl rfl ?_
      by_cases c22_5 : a2 = 3
      · refine z_tableIn C 22 56 dX7_houseOf_22 (by rw [c22_5]; decide +kernel) (by rw [c22_5]; decide +kernel) (off := 34) (by rw [c22_5]; decide +kernel) (by decide) ?_
        refine z_aload_n C 56 0 0 dX7_houseOf_56 rfl rfl ?_
        refine z_iload_n C 57 1 1 dX7_houseOf_57 rfl rfl ?_
        refine z_virtIe C 58 (As := [.int a1]) (st := []) (id := 0) (kX7_used l D cy K n ad hJ hO t a1 a1.toNatClampNeg (Nat.lt_of_lt_of_le hq.1 hm.1) hq.2) dX7_houseOf_58 rfl gX7_houseOf_X7_used hyX7_used rfl (by decide) (by decide) hO.h0 rfl hO.e0 rfl rfl rfl (Nat.le_of_ble_eq_true rfl) ?_
        exact z_iret C 61 hA hQ rfl dX7_houseOf_61 ⟨((if_neg c5_2).trans ((if_neg c15_4).trans ((if_pos c22_5).trans rfl))).symm, rfl⟩
      · by_cases c22_7 : a2 = 4
        · refine z_tableIn C 22 62 dX7_houseOf_22 (by rw [c22_7]; decide +kernel) (by rw [c22_7]; decide +kernel) (off := 40) (by rw [c22_7]; decide +kernel) (by decide) ?_
          refine z_sipush C 62 (v := 1000) dX7_houseOf_62 (by decide +kernel) ?_
          refine z_aload_n C 65 0 0 dX7_houseOf_65 rfl rfl ?_
          refine z_iload_n C 66 1 1 dX7_houseOf_66 rfl rfl ?_
          refine z_iconst C 67 (v := 4) dX7_houseOf_67 (by decide +kernel) ?_
          refine z_virtIe C 68 (As := [.int a1, .int 4]) (st := [.int 1000]) (id := 0) (kX7_of l D cy K n ad hJ hO t a1 4 a1.toNatClampNeg 4 (Nat.lt_of_lt_of_le hq.1 hm.1) (by decide) hq.2 rfl) dX7_houseOf_68 rfl gX7_houseOf_X7_of hyX7_of rfl (by decide) (by decide) hO.h0 rfl hO.e0 rfl rfl rfl (Nat.le_of_ble_eq_true rfl) ?_
          refine z_nv (t (1) (14 * a1.toNatClampNeg + 4)) rfl ?_
          refine z_iadd C 71 dX7_houseOf_71 ?_
          exact z_iret C 72 hA hQ rfl dX7_houseOf_72 ⟨((if_neg c5_2).trans ((if_neg c15_4).trans ((if_neg c22_5).trans ((if_pos c22_7).trans rfl)))).symm, rfl⟩
        · by_cases c22_9 : a2 = 5
          · refine z_tableIn C 22 98 dX7_houseOf_22 (by rw [c22_9]; decide +kernel) (by rw [c22_9]; decide +kernel) (off := 76) (by rw [c22_9]; decide +kernel) (by decide) ?_
            refine z_aload_n C 98 0 0 dX7_houseOf_98 rfl rfl ?_
            refine z_iload_n C 99 1 1 dX7_houseOf_99 rfl rfl ?_
            refine z_iload_n C 100 2 2 dX7_houseOf_100 rfl rfl ?_
            refine z_virtIe C 101 (As := [.int a1, .int a2]) (st := []) (id := 0) (kX7_of l D cy K n ad hJ hO t a1 a2 a1.toNatClampNeg (a2.toNatClampNeg) (Nat.lt_of_lt_of_le hq.1 hm.1) hw.1 hq.2 hw.2) dX7_houseOf_101 rfl gX7_houseOf_X7_of hyX7_of rfl (by decide) (by decide) hO.h0 rfl hO.e0 rfl rfl rfl (Nat.le_of_ble_eq_true rfl) ?_
            refine z_nv (t (1) (14 * a1.toNatClampNeg + (a2.toNatClampNeg))) rfl ?_
            exact z_iret C 104 hA hQ rfl dX7_houseOf_104 ⟨((if_neg c5_2).trans ((if_neg c15_4).trans ((if_neg c22_5).trans ((if_neg c22_7).trans ((if_pos c22_9).trans rfl))))).symm, rfl⟩
          · by_cases c22_11 : a2 = 6
            · refine z_tableIn C 22 98 dX7_houseOf_22 (by rw [c22_11]; decide +kernel) (by rw [c22_11]; decide +kernel) (off := 76) (by rw [c22_11]; decide +kernel) (by decide) ?_
              refine z_aload_n C 98 0 0 dX7_houseOf_98 rfl rfl ?_
              refine z_iload_n C 99 1 1 dX7_houseOf_99 rfl rfl ?_
              refine z_iload_n C 100 2 2 dX7_houseOf_100 rfl rfl ?_
              refine z_virtIe C 101 (As := [.int a1, .int a2]) (st := []) (id := 0) (kX7_of l D cy K n ad hJ hO t a1 a2 a1.toNatClampNeg (a2.toNatClampNeg) (Nat.lt_of_lt_of_le hq.1 hm.1) hw.1 hq.2 hw.2) dX7_houseOf_101 rfl gX7_houseOf_X7_of hyX7_of rfl (by decide) (by decide) hO.h0 rfl hO.e0 rfl rfl rfl (Nat.le_of_ble_eq_true rfl) ?_
              refine z_nv (t (1) (14 * a1.toNatClampNeg + (a2.toNatClampNeg))) rfl ?_
              exact z_iret C 104 hA hQ rfl dX7_houseOf_104 ⟨((if_neg c5_2).trans ((if_neg c15_4).trans ((if_neg c22_5).trans ((if_neg c22_7).trans ((if_neg c22_9).trans ((if_pos c22_11).trans rfl)))))).symm, rfl⟩
            · by_cases c22_13 : a2 = 7
              · refine z_tableIn C 22 73 dX7_houseOf_22 (by rw [c22_13]; decide +kernel) (by rw [c22_13]; decide +kernel) (off := 51) (by rw [c22_13]; decide +kernel) (by decide) ?_
                refine z_aload_n C 73 0 0 dX7_houseOf_73 rfl rfl ?_
                refine z_iload_n C 74 1 1 dX7_houseOf_74 rfl rfl ?_
                refine z_bipush C 75 (v := 7) dX7_houseOf_75 (by decide +kernel) ?_
                refine z_virtIe C 77 (As := [.int a1, .int 7]) (st := []) (id := 0) (kX7_of l D cy K n ad hJ hO t a1 7 a1.toNatClampNeg 7 (Nat.lt_of_lt_of_le hq.1 hm.1) (by decide) hq.2 rfl) dX7_houseOf_77 rfl gX7_houseOf_X7_of hyX7_of rfl (by decide) (by decide) hO.h0 rfl hO.e0 rfl rfl rfl (Nat.le_of_ble_eq_true rfl) ?_
                refine z_nv (t (1) (14 * a1.toNatClampNeg + 7)) rfl ?_
                refine z_if_le C 80 95 dX7_houseOf_80 (by decide) (fun c80_15 => ?_) (fun c80_15 => ?_)
                · refine z_ldc C 95 (v := (-1000004)) dX7_houseOf_95 mX7_houseOf_c47 ?_
                  exact z_iret C 97 hA hQ rfl dX7_houseOf_97 ⟨((if_neg c5_2).trans ((if_neg c15_4).trans ((if_neg c22_5).trans ((if_neg c22_7).trans ((if_neg c22_9).trans ((if_neg c22_11).trans ((if_pos c22_13).trans ((if_pos c80_15).trans rfl)))))))).symm, rfl⟩
                · refine z_aload_n C 83 0 0 dX7_houseOf_83 rfl rfl ?_
                  refine z_iload_n C 84 1 1 dX7_houseOf_84 rfl rfl ?_
                  refine z_bipush C 85 (v := 7) dX7_houseOf_85 (by decide +kernel) ?_
                  refine z_virtIe C 87 (As := [.int a1, .int 7]) (st := []) (id := 0) (kX7_of l D cy K n ad hJ hO t a1 7 a1.toNatClampNeg 7 (Nat.lt_of_lt_of_le hq.1 hm.1) (by decide) hq.2 rfl) dX7_houseOf_87 rfl gX7_houseOf_X7_of hyX7_of rfl (by decide) (by decide) hO.h0 rfl hO.e0 rfl rfl rfl (Nat.le_of_ble_eq_true rfl) ?_
                  refine z_nv (t (1) (14 * a1.toNatClampNeg + 7)) rfl ?_
                  refine z_iconst C 90 (v := 1) dX7_houseOf_90 (by decide +kernel) ?_
                  refine z_isub C 91 dX7_houseOf_91 ?_
                  refine z_goto C 92 97 dX7_houseOf_92 (by decide) ?_
                  exact z_iret C 97 hA hQ rfl dX7_houseOf_97 ⟨((if_neg c5_2).trans ((if_neg c15_4).trans ((if_neg c22_5).trans ((if_neg c22_7).trans ((if_neg c22_9).trans ((if_neg c22_11).trans ((if_pos c22_13).trans ((if_neg c80_15).trans rfl)))))))).symm, rfl⟩
              · have qc22_5 := lv_neT (a := 3) c22_5 rfl
                have qc22_7 := lv_neT (a := 4) c22_7 rfl
                have qc22_9 := lv_neT (a := 5) c22_9 rfl
                have qc22_11 := lv_neT (a := 6) c22_11 rfl
                have qc22_13 := lv_neT (a := 7) c22_13 rfl
                refine z_tableOut C 22 98 dX7_houseOf_22 (by omega) (by decide) ?_
                refine z_aload_n C 98 0 0 dX7_houseOf_98 rfl rfl ?_
                refine z_iload_n C 99 1 1 dX7_houseOf_99 rfl rfl ?_
                refine z_iload_n C 100 2 2 dX7_houseOf_100 rfl rfl ?_
                refine z_virtIe C 101 (As := [.int a1, .int a2]) (st := []) (id := 0) (kX7_of l D cy K n ad hJ hO t a1 a2 a1.toNatClampNeg (a2.toNatClampNeg) (Nat.lt_of_lt_of_le hq.1 hm.1) hw.1 hq.2 hw.2) dX7_houseOf_101 rfl gX7_houseOf_X7_of hyX7_of rfl (by decide) (by decide) hO.h0 rfl hO.e0 rfl rfl rfl (Nat.le_of_ble_eq_true rfl) ?_
                refine z_nv (t (1) (14 * a1.toNatClampNeg + (a2.toNatClampNeg))) rfl ?_
                exact z_iret C 104 hA hQ rfl dX7_houseOf_104 ⟨((if_neg c5_2).trans ((if_neg c15_4).trans ((if_neg c22_5).trans ((if_neg c22_7).trans ((if_neg c22_9).trans ((if_neg c22_11).trans ((if_neg c22_13).trans rfl))))))).symm, rfl⟩
    · refine z_ldc C 18 (v := (-1000001)) dX7_houseOf_18 mX7_houseOf_c96 ?_
      exact z_iret C 20 hA hQ rfl dX7_houseOf_20 ⟨((if_neg c5_2).trans ((if_pos c15_4).trans rfl)).symm, rfl⟩
def rX7_at (t : zM) (a1 : Int32) (a2 : Int32) : Int32 := (if (rX7_isPlace a1 a2) = 0 then (-1000001) else (rX7_atPlace t a1 a2))
theorem mX7_at_c96 : Cond.constant RX7 96 (-1000001) ∈ wsX7_at := by decide +kernel
theorem hyX7_at : yX7_at.cls = RX7 ∧ yX7_at.cls ≠ "java/lang/invoke/MethodHandle" ∧ yX7_at.cls ≠ "java/lang/invoke/VarHandle" ∧ (parseMethodDescriptor yX7_at.desc).map (fun d => d.parameters.length) = some 2 := by decide +kernel
set_option maxHeartbeats 3000000 in
set_option maxRecDepth 100000 in
theorem kX7_at (l : Launch) (D : va_G) (cy : Nat → ClassId) (K : zK) (n : Nat) (ad : Nat → Nat) (hJ : zJ n ad) (hO : zModel cy K n ad) (t : zM) (a1 a2 : Int32) (H N : Nat) (hm : mS H N t) (hp : mP t) : zI l yX7_at wsX7_at 2 D cy K n ad t [.ref (ad (0)), .int a1, .int a2] (fun r t1 => r = rX7_at t a1 a2 ∧ t1 = t) := by
  refine z_startI (cc := cX7_at) (mL := 3) (ret := (some .int)) (own := RX7) rfl (by decide +kernel) rfl hJ (Nat.le_of_ble_eq_true rfl) ?_
  intro p e s m args below meth c A hA Q hQ C
  refine z_iload_n C 0 1 1 dX7_at_0 rfl rfl ?_
  refine z_iload_n C 1 2 2 dX7_at_1 rfl rfl ?_
  refine z_statIe C 2 (As := [.int a1, .int a2]) (st := []) (kX7_isPlace l D cy K n ad hJ t a1 a2 ) dX7_at_2 rfl gX7_at_X7_isPlace hyX7_isPlace rfl (by decide) (by decide) rfl rfl (Nat.le_of_ble_eq_true rfl) ?_
  refine z_if_eq C 5 17 dX7_at_5 (by decide) (fun c5_2 => ?_) (fun c5_2 => ?_)
  · refine z_ldc C 17 (v := (-1000001)) dX7_at_17 mX7_at_c96 ?_
    exact z_iret C 19 hA hQ rfl dX7_at_19 ⟨((if_pos c5_2).trans rfl).symm, rfl⟩
  · refine z_aload_n C 8 0 0 dX7_at_8 rfl rfl ?_
    refine z_iload_n C 9 1 1 dX7_at_9 rfl rfl ?_
    refine z_iload_n C 10 2 2 dX7_at_10 rfl rfl ?_
    refine z_virtIe C 11 (As := [.int a1, .int a2]) (st := []) (id := 0) (kX7_atPlace l D cy K n ad hJ hO t a1 a2 H N hm) dX7_at_11 rfl gX7_at_X7_atPlace hyX7_atPlace rfl (by decide) (by decide) hO.h0 rfl hO.e0 rfl rfl rfl (Nat.le_of_ble_eq_true rfl) ?_
    refine z_goto C 14 19 dX7_at_14 (by decide) ?_
    exact z_iret C 19 hA hQ rfl dX7_at_19 ⟨((if_neg c5_2).trans rfl).symm, rfl⟩
def rX7_next (t : zM) (a1 : Int32) (a2 : Int32) : Int32 := (if (rX7_in a1 0 3) = 0 then (-1000001) else (if 0 ≤ a2 then (if (rX7_rounds t a1.toNatClampNeg) ≤ a2 then (-1000004) else ((sX7_rounds t a1.toNatClampNeg) (6) a2.toNatClampNeg)) else (-1000001)))
def sX7_next (t : zM) (a1 : Int32) (a2 : Int32) : zM := (if (rX7_in a1 0 3) = 0 then t else (if 0 ≤ a2 then (if (rX7_rounds t a1.toNatClampNeg) ≤ a2 then (sX7_rounds t a1.toNatClampNeg) else (sX7_rounds t a1.toNatClampNeg)) else t))
theorem mX7_next_c96 : Cond.constant RX7 96 (-1000001) ∈ wsX7_next := by decide +kernel
theorem mX7_next_c47 : Cond.constant RX7 47 (-1000004) ∈ wsX7_next := by decide +kernel
theorem mX7_next_f25 : Cond.fieldLink RX7 25 "WrongedMetersModel" "round" "[I" ∈ wsX7_next := by decide +kernel
set_option maxRecDepth 20000 in
theorem mX7_next_in7 : ∀ w ∈ u_ws RX7 TX7 16, w ∈ wsX7_next := by decide +kernel
theorem hyX7_next : yX7_next.cls = RX7 ∧ yX7_next.cls ≠ "java/lang/invoke/MethodHandle" ∧ yX7_next.cls ≠ "java/lang/invoke/VarHandle" ∧ (parseMethodDescriptor yX7_next.desc).map (fun d => d.parameters.length) = some 2 := by decide +kernel
set_option maxHeartbeats 3000000 in
set_option maxRecDepth 100000 in
theorem kX7_next (l : Launch) (D : va_G) (cy : Nat → ClassId) (K : zK) (n : Nat) (ad : Nat → Nat) (hJ : zJ n ad) (hO : zModel cy K n ad) (t : zM) (a1 a2 : Int32) (H N : Nat) (hm : mS H N t) (hp : mP t) : zI l yX7_next wsX7_next 4 D cy K n ad t [.ref (ad (0)), .int a1, .int a2] (fun r t1 => r = rX7_next t a1 a2 ∧ t1 = sX7_next t a1 a2) := by
  refine z_startI (cc := cX7_next) (mL := 3) (ret := (some .int)) (own := RX7) rfl (by decide +kernel) rfl hJ (Nat.le_of_ble_eq_true rfl) ?_
  intro p e s m args below meth c A hA Q hQ C
  refine z_iload_n C 0 1 1 dX7_next_0 rfl rfl ?_
  refine z_iconst C 1 (v := 0) dX7_next_1 (by decide +kernel) ?_
  refine z_iconst C 2 (v := 3) dX7_next_2 (by decide +kernel) ?_
  refine z_statIe C 3 (As := [.int a1, .int 0, .int 3]) (st := []) (kX7_in l D cy K n ad hJ t a1 0 3 ) dX7_next_3 rfl gX7_next_X7_in hyX7_in rfl (by decide) (by decide) rfl rfl (Nat.le_of_ble_eq_true rfl) ?_
  refine z_if_eq C 6 13 dX7_next_6 (by decide) (fun c6_2 => ?_) (fun c6_2 => ?_)
  · refine z_ldc C 13 (v := (-1000001)) dX7_next_13 mX7_next_c96 ?_
    exact z_iret C 15 hA hQ rfl dX7_next_15 ⟨((if_pos c6_2).trans rfl).symm, ((if_pos c6_2).trans rfl).symm⟩
  · have hq := m03 c6_2
    refine z_iload_n C 9 2 2 dX7_next_9 rfl rfl ?_
    refine z_if_ge C 10 16 dX7_next_10 (by decide) (fun c10_3 => ?_) (fun c10_3 => ?_)
    · refine z_iload_n C 16 2 2 dX7_next_16 rfl rfl ?_
      refine z_aload_n C 17 0 0 dX7_next_17 rfl rfl ?_
      refine z_iload_n C 18 1 1 dX7_next_18 rfl rfl ?_
      refine z_nv (nI a1.toNatClampNeg) hq.2 ?_
      refine z_virtIe C 19 (As := [.int (nI a1.toNatClampNeg)]) (st := [.int a2]) (id := 0) (kX7_rounds l D cy K n ad hJ hO t a1.toNatClampNeg H N (by have := hq.1; omega) hm) dX7_next_19 rfl gX7_next_X7_rounds hyX7_rounds rfl (by decide) (by decide) hO.h0 rfl hO.e0 rfl rfl rfl (Nat.le_of_ble_eq_true rfl) ?_
      refine z_icmp_ge C 22 34 dX7_next_22 (by decide) (fun c22_5 => ?_) (fun c22_5 => ?_)
      · refine z_ldc C 34 (v := (-1000004)) dX7_next_34 mX7_next_c47 ?_
        exact z_iret C 36 hA hQ rfl dX7_next_36 ⟨((if_neg c6_2).trans ((if_pos c10_3).trans ((if_pos c22_5).trans rfl))).symm, ((if_neg c6_2).trans ((if_pos c10_3).trans ((if_pos c22_5).trans rfl))).symm⟩
      · refine z_aload_n C 25 0 0 dX7_next_25 rfl rfl ?_
        refine z_getr C 26 (a9 := ad (6)) (0) 8 dX7_next_26 hO.h0 hO.e0 mX7_next_in7 rfl (by decide) mX7_next_f25 (fun _ => rfl) ?_
        refine z_iload_n C 29 2 2 dX7_next_29 rfl rfl ?_
        refine z_ialdN C 30 (6) a2.toNatClampNeg dX7_next_30 hO.h6 hO.e6 (znc (znlt.mpr ‹0 ≤ a2›)) (mnext hm ‹0 ≤ a2› (by assumption)) (by decide) ?_
        refine z_goto C 31 36 dX7_next_31 (by decide) ?_
        exact z_iret C 36 hA hQ rfl dX7_next_36 ⟨((if_neg c6_2).trans ((if_pos c10_3).trans ((if_neg c22_5).trans rfl))).symm, ((if_neg c6_2).trans ((if_pos c10_3).trans ((if_neg c22_5).trans rfl))).symm⟩
    · refine z_ldc C 13 (v := (-1000001)) dX7_next_13 mX7_next_c96 ?_
      exact z_iret C 15 hA hQ rfl dX7_next_15 ⟨((if_neg c6_2).trans ((if_neg c10_3).trans rfl)).symm, ((if_neg c6_2).trans ((if_neg c10_3).trans rfl)).symm⟩
def rX7_ledger (t : zM) (a1 : Int32) (a2 : Int32) : Int32 := (if a1 < 0 then (-1000001) else (if (rX7_in a2 0 5) = 0 then (-1000001) else (if (t (1) 409) ≤ a1 then (-1000004) else (t (1) (340 + 6 * a1.toNatClampNeg + a2.toNatClampNeg)))))
theorem mX7_ledger_c96 : Cond.constant RX7 96 (-1000001) ∈ wsX7_ledger := by decide +kernel
theorem mX7_ledger_f7 : Cond.fieldLink RX7 7 "WrongedMetersModel" "s" "[I" ∈ wsX7_ledger := by decide +kernel
set_option maxRecDepth 20000 in
theorem mX7_ledger_in7 : ∀ w ∈ u_ws RX7 TX7 16, w ∈ wsX7_ledger := by decide +kernel
theorem mX7_ledger_c47 : Cond.constant RX7 47 (-1000004) ∈ wsX7_ledger := by decide +kernel
theorem hyX7_ledger : yX7_ledger.cls = RX7 ∧ yX7_ledger.cls ≠ "java/lang/invoke/MethodHandle" ∧ yX7_ledger.cls ≠ "java/lang/invoke/VarHandle" ∧ (parseMethodDescriptor yX7_ledger.desc).map (fun d => d.parameters.length) = some 2 := by decide +kernel
set_option maxHeartbeats 3000000 in
set_option maxRecDepth 100000 in
theorem kX7_ledger (l : Launch) (D : va_G) (cy : Nat → ClassId) (K : zK) (n : Nat) (ad : Nat → Nat) (hJ : zJ n ad) (hO : zModel cy K n ad) (t : zM) (a1 a2 : Int32) (H N E : Nat) (hE : E ≤ 10) (he : t 1 409 = nI E) : zI l yX7_ledger wsX7_ledger 1 D cy K n ad t [.ref (ad (0)), .int a1, .int a2] (fun r t1 => r = rX7_ledger t a1 a2 ∧ t1 = t) := by
  refine z_startI (cc := cX7_ledger) (mL := 3) (ret := (some .int)) (own := RX7) rfl (by decide +kernel) rfl hJ (Nat.le_of_ble_eq_true rfl) ?_
  intro p e s m args below meth c A hA Q hQ C
  refine z_iload_n C 0 1 1 dX7_ledger_0 rfl rfl ?_
  refine z_if_lt C 1 13 dX7_ledger_1 (by decide) (fun c1_1 => ?_) (fun c1_1 => ?_)
  · refine z_ldc C 13 (v := (-1000001)) dX7_ledger_13 mX7_ledger_c96 ?_
    exact z_iret C 15 hA hQ rfl dX7_ledger_15 ⟨((if_pos c1_1).trans rfl).symm, rfl⟩
  · refine z_iload_n C 4 2 2 dX7_ledger_4 rfl rfl ?_
    refine z_iconst C 5 (v := 0) dX7_ledger_5 (by decide +kernel) ?_
    refine z_iconst C 6 (v := 5) dX7_ledger_6 (by decide +kernel) ?_
    refine z_statIe C 7 (As := [.int a2, .int 0, .int 5]) (st := []) (kX7_in l D cy K n ad hJ t a2 0 5 ) dX7_ledger_7 rfl gX7_ledger_X7_in hyX7_in rfl (by decide) (by decide) rfl rfl (Nat.le_of_ble_eq_true rfl) ?_
    refine z_if_ne C 10 16 dX7_ledger_10 (by decide) (fun c10_3 => ?_) (fun c10_3 => ?_)
    · have hq := m05 c10_3
      refine z_iload_n C 16 1 1 dX7_ledger_16 rfl rfl ?_
      refine z_aload_n C 17 0 0 dX7_ledger_17 rfl rfl ?_
      refine z_getr C 18 (a9 := ad (1)) (0) 0 dX7_ledger_18 hO.h0 hO.e0 mX7_ledger_in7 rfl (by decide) mX7_ledger_f7 (fun _ => rfl) ?_
      refine z_sipush C 21 (v := 409) dX7_ledger_21 (by decide +kernel) ?_
      refine z_ialdN C 24 (1) 409 dX7_ledger_24 hO.h1 hO.e1 rfl (by decide) (by decide) ?_
      refine z_icmp_ge C 25 46 dX7_ledger_25 (by decide) (fun c25_4 => ?_) (fun c25_4 => ?_)
      · refine z_ldc C 46 (v := (-1000004)) dX7_ledger_46 mX7_ledger_c47 ?_
        exact z_iret C 48 hA hQ rfl dX7_ledger_48 ⟨((if_neg c1_1).trans ((if_neg c10_3).trans ((if_pos c25_4).trans rfl))).symm, rfl⟩
      · refine z_aload_n C 28 0 0 dX7_ledger_28 rfl rfl ?_
        refine z_getr C 29 (a9 := ad (1)) (0) 0 dX7_ledger_29 hO.h0 hO.e0 mX7_ledger_in7 rfl (by decide) mX7_ledger_f7 (fun _ => rfl) ?_
        refine z_sipush C 32 (v := 340) dX7_ledger_32 (by decide +kernel) ?_
        refine z_bipush C 35 (v := 6) dX7_ledger_35 (by decide +kernel) ?_
        refine z_iload_n C 37 1 1 dX7_ledger_37 rfl rfl ?_
        refine z_imul C 38 dX7_ledger_38 ?_
        refine z_iadd C 39 dX7_ledger_39 ?_
        refine z_iload_n C 40 2 2 dX7_ledger_40 rfl rfl ?_
        refine z_iadd C 41 dX7_ledger_41 ?_
        refine z_ialdN C 42 (1) (340 + 6 * a1.toNatClampNeg + a2.toNatClampNeg) dX7_ledger_42 hO.h1 hO.e1 (mled ‹¬ a1 < 0› hq) (by have := hq.1; have h9 := zidxc ‹¬ a1 < 0› (m := E) (by rw [← he]; exact znl.mp (by assumption)) (by omega); omega) (by decide) ?_
        refine z_goto C 43 48 dX7_ledger_43 (by decide) ?_
        exact z_iret C 48 hA hQ rfl dX7_ledger_48 ⟨((if_neg c1_1).trans ((if_neg c10_3).trans ((if_neg c25_4).trans rfl))).symm, rfl⟩
    · refine z_ldc C 13 (v := (-1000001)) dX7_ledger_13 mX7_ledger_c96 ?_
      exact z_iret C 15 hA hQ rfl dX7_ledger_15 ⟨((if_neg c1_1).trans ((if_pos c10_3).trans rfl)).symm, rfl⟩
def rX7_why (t : zM) (a1 : Int32) : Int32 := (if (rX7_isHouse t a1) = 0 then (-1000001) else (rX7_barred t a1.toNatClampNeg))
theorem mX7_why_c96 : Cond.constant RX7 96 (-1000001) ∈ wsX7_why := by decide +kernel
theorem hyX7_why : yX7_why.cls = RX7 ∧ yX7_why.cls ≠ "java/lang/invoke/MethodHandle" ∧ yX7_why.cls ≠ "java/lang/invoke/VarHandle" ∧ (parseMethodDescriptor yX7_why.desc).map (fun d => d.parameters.length) = some 1 := by decide +kernel
set_option maxHeartbeats 3000000 in
set_option maxRecDepth 100000 in
theorem kX7_why (l : Launch) (D : va_G) (cy : Nat → ClassId) (K : zK) (n : Nat) (ad : Nat → Nat) (hJ : zJ n ad) (hO : zModel cy K n ad) (t : zM) (a1 : Int32) (H N : Nat) (hm : mS H N t) (hp : mP t) : zI l yX7_why wsX7_why 2 D cy K n ad t [.ref (ad (0)), .int a1] (fun r t1 => r = rX7_why t a1 ∧ t1 = t) := by
  refine z_startI (cc := cX7_why) (mL := 2) (ret := (some .int)) (own := RX7) rfl (by decide +kernel) rfl hJ (Nat.le_of_ble_eq_true rfl) ?_
  intro p e s m args below meth c A hA Q hQ C
  refine z_aload_n C 0 0 0 dX7_why_0 rfl rfl ?_
  refine z_iload_n C 1 1 1 dX7_why_1 rfl rfl ?_
  refine z_virtIe C 2 (As := [.int a1]) (st := []) (id := 0) (kX7_isHouse l D cy K n ad hJ hO t a1 ) dX7_why_2 rfl gX7_why_X7_isHouse hyX7_isHouse rfl (by decide) (by decide) hO.h0 rfl hO.e0 rfl rfl rfl (Nat.le_of_ble_eq_true rfl) ?_
  refine z_if_eq C 5 16 dX7_why_5 (by decide) (fun c5_2 => ?_) (fun c5_2 => ?_)
  · refine z_ldc C 16 (v := (-1000001)) dX7_why_16 mX7_why_c96 ?_
    exact z_iret C 18 hA hQ rfl dX7_why_18 ⟨((if_pos c5_2).trans rfl).symm, rfl⟩
  · have hq := isHouse_lt hm c5_2
    refine z_aload_n C 8 0 0 dX7_why_8 rfl rfl ?_
    refine z_iload_n C 9 1 1 dX7_why_9 rfl rfl ?_
    refine z_virtIe C 10 (As := [.int a1]) (st := []) (id := 0) (kX7_barred l D cy K n ad hJ hO t a1 a1.toNatClampNeg (Nat.lt_of_lt_of_le hq.1 hm.1) hq.2) dX7_why_10 rfl gX7_why_X7_barred hyX7_barred rfl (by decide) (by decide) hO.h0 rfl hO.e0 rfl rfl rfl (Nat.le_of_ble_eq_true rfl) ?_
    refine z_goto C 13 18 dX7_why_13 (by decide) ?_
    exact z_iret C 18 hA hQ rfl dX7_why_18 ⟨((if_neg c5_2).trans rfl).symm, rfl⟩
def rX7_ifRead (t : zM) (a1 : Int32) (a2 : Int32) : Int32 := (if (rX7_isHouse t a1) = 0 then (-1000001) else (if (rX7_in a2 0 3) = 0 then (-1000001) else (if a2 = 0 then (rX7_unitsOf t a1.toNatClampNeg) else (if a2 = 1 then (1000 + (rX7_balanceThen t a1.toNatClampNeg)) else (if a2 = 2 then (if (rX7_balanceThen t a1.toNatClampNeg) ≤ 0 then (if 0 ≤ (rX7_balanceThen t a1.toNatClampNeg) then 0 else 2) else 1) else ((rX7_unitsOf t a1.toNatClampNeg) * (t (1) 411)))))))
theorem mX7_ifRead_c96 : Cond.constant RX7 96 (-1000001) ∈ wsX7_ifRead := by decide +kernel
theorem mX7_ifRead_f7 : Cond.fieldLink RX7 7 "WrongedMetersModel" "s" "[I" ∈ wsX7_ifRead := by decide +kernel
set_option maxRecDepth 20000 in
theorem mX7_ifRead_in7 : ∀ w ∈ u_ws RX7 TX7 16, w ∈ wsX7_ifRead := by decide +kernel
theorem hyX7_ifRead : yX7_ifRead.cls = RX7 ∧ yX7_ifRead.cls ≠ "java/lang/invoke/MethodHandle" ∧ yX7_ifRead.cls ≠ "java/lang/invoke/VarHandle" ∧ (parseMethodDescriptor yX7_ifRead.desc).map (fun d => d.parameters.length) = some 2 := by decide +kernel
set_option maxHeartbeats 3000000 in
set_option maxRecDepth 100000 in
theorem kX7_ifRead (l : Launch) (D : va_G) (cy : Nat → ClassId) (K : zK) (n : Nat) (ad : Nat → Nat) (hJ : zJ n ad) (hO : zModel cy K n ad) (t : zM) (a1 a2 : Int32) (H N : Nat) (hm : mS H N t) (hp : mP t) : zI l yX7_ifRead wsX7_ifRead 4 D cy K n ad t [.ref (ad (0)), .int a1, .int a2] (fun r t1 => r = rX7_ifRead t a1 a2 ∧ t1 = t) := by
  refine z_startI (cc := cX7_ifRead) (mL := 4) (ret := (some .int)) (own := RX7) rfl (by decide +kernel) rfl hJ (Nat.le_of_ble_eq_true rfl) ?_
  intro p e s m args below meth c A hA Q hQ C
  refine z_aload_n C 0 0 0 dX7_ifRead_0 rfl rfl ?_
  refine z_iload_n C 1 1 1 dX7_ifRead_1 rfl rfl ?_
  refine z_virtIe C 2 (As := [.int a1]) (st := []) (id := 0) (kX7_isHouse l D cy K n ad hJ hO t a1 ) dX7_ifRead_2 rfl gX7_ifRead_X7_isHouse hyX7_isHouse rfl (by decide) (by decide) hO.h0 rfl hO.e0 rfl rfl rfl (Nat.le_of_ble_eq_true rfl) ?_
  refine z_if_eq C 5 17 dX7_ifRead_5 (by decide) (fun c5_2 => ?_) (fun c5_2 => ?_)
  · refine z_ldc C 17 (v := (-1000001)) dX7_ifRead_17 mX7_ifRead_c96 ?_
    exact z_iret C 19 hA hQ rfl dX7_ifRead_19 ⟨((if_pos c5_2).trans rfl).symm, rfl⟩
  · have hq := isHouse_lt hm c5_2
    refine z_iload_n C 8 2 2 dX7_ifRead_8 rfl rfl ?_
    refine z_iconst C 9 (v := 0) dX7_ifRead_9 (by decide +kernel) ?_
    refine z_iconst C 10 (v := 3) dX7_ifRead_10 (by decide +kernel) ?_
    refine z_statIe C 11 (As := [.int a2, .int 0, .int 3]) (st := []) (kX7_in l D cy K n ad hJ t a2 0 3 ) dX7_ifRead_11 rfl gX7_ifRead_X7_in hyX7_in rfl (by decide) (by decide) rfl rfl (Nat.le_of_ble_eq_true rfl) ?_
    refine z_if_ne C 14 20 dX7_ifRead_14 (by decide) (fun c14_4 => ?_) (fun c14_4 => ?_)
    · refine z_aload_n C 20 0 0 dX7_ifRead_20 rfl rfl ?_
      refine z_iload_n C 21 1 1 dX7_ifRead_21 rfl rfl ?_
      refine z_virtIe C 22 (As := [.int a1]) (st := []) (id := 0) (kX7_balanceThen l D cy K n ad hJ hO t a1 a1.toNatClampNeg (Nat.lt_of_lt_of_le hq.1 hm.1) hq.2) dX7_ifRead_22 rfl gX7_ifRead_X7_balanceThen hyX7_balanceThen rfl (by decide) (by decide) hO.h0 rfl hO.e0 rfl rfl rfl (Nat.le_of_ble_eq_true rfl) ?_
      refine z_istore_n C 25 3 ([(3, .int (rX7_balanceThen t a1.toNatClampNeg)), (0, .ref (ad (0))), (1, .int a1), (2, .int a2)]) dX7_ifRead_25 rfl (by decide) rfl ?_
      refine z_iload_n C 26 2 3 dX7_ifRead_26 rfl rfl ?_
      by_cases c27_6 : a2 = 0
      · refine z_tableIn C 27 52 dX7_ifRead_27 (by rw [c27_6]; decide +kernel) (by rw [c27_6]; decide +kernel) (off := 25) (by rw [c27_6]; decide +kernel) (by decide) ?_
        refine z_aload_n C 52 0 1 dX7_ifRead_52 rfl rfl ?_
        refine z_iload_n C 53 1 2 dX7_ifRead_53 rfl rfl ?_
        refine z_virtIe C 54 (As := [.int a1]) (st := []) (id := 0) (kX7_unitsOf l D cy K n ad hJ hO t a1 a1.toNatClampNeg (Nat.lt_of_lt_of_le hq.1 hm.1) hq.2) dX7_ifRead_54 rfl gX7_ifRead_X7_unitsOf hyX7_unitsOf rfl (by decide) (by decide) hO.h0 rfl hO.e0 rfl rfl rfl (Nat.le_of_ble_eq_true rfl) ?_
        exact z_iret C 57 hA hQ rfl dX7_ifRead_57 ⟨((if_neg c5_2).trans ((if_neg c14_4).trans ((if_pos c27_6).trans rfl))).symm, rfl⟩
      · by_cases c27_8 : a2 = 1
        · refine z_tableIn C 27 58 dX7_ifRead_27 (by rw [c27_8]; decide +kernel) (by rw [c27_8]; decide +kernel) (off := 31) (by rw [c27_8]; decide +kernel) (by decide) ?_
          refine z_sipush C 58 (v := 1000) dX7_ifRead_58 (by decide +kernel) ?_
          refine z_iload_n C 61 3 0 dX7_ifRead_61 rfl rfl ?_
          refine z_iadd C 62 dX7_ifRead_62 ?_
          exact z_iret C 63 hA hQ rfl dX7_ifRead_63 ⟨((if_neg c5_2).trans ((if_neg c14_4).trans ((if_neg c27_6).trans ((if_pos c27_8).trans rfl)))).symm, rfl⟩
        · by_cases c27_9 : a2 = 2
          · refine z_tableIn C 27 64 dX7_ifRead_27 (by rw [c27_9]; decide +kernel) (by rw [c27_9]; decide +kernel) (off := 37) (by rw [c27_9]; decide +kernel) (by decide) ?_
            refine z_iload_n C 64 3 0 dX7_ifRead_64 rfl rfl ?_
            refine z_if_le C 65 72 dX7_ifRead_65 (by decide) (fun c65_10 => ?_) (fun c65_10 => ?_)
            · refine z_iload_n C 72 3 0 dX7_ifRead_72 rfl rfl ?_
              refine z_if_ge C 73 80 dX7_ifRead_73 (by decide) (fun c73_11 => ?_) (fun c73_11 => ?_)
              · refine z_iconst C 80 (v := 0) dX7_ifRead_80 (by decide +kernel) ?_
                exact z_iret C 81 hA hQ rfl dX7_ifRead_81 ⟨((if_neg c5_2).trans ((if_neg c14_4).trans ((if_neg c27_6).trans ((if_neg c27_8).trans ((if_pos c27_9).trans ((if_pos c65_10).trans ((if_pos c73_11).trans rfl))))))).symm, rfl⟩
              · refine z_iconst C 76 (v := 2) dX7_ifRead_76 (by decide +kernel) ?_
                refine z_goto C 77 81 dX7_ifRead_77 (by decide) ?_
                exact z_iret C 81 hA hQ rfl dX7_ifRead_81 ⟨((if_neg c5_2).trans ((if_neg c14_4).trans ((if_neg c27_6).trans ((if_neg c27_8).trans ((if_pos c27_9).trans ((if_pos c65_10).trans ((if_neg c73_11).trans rfl))))))).symm, rfl⟩
            · refine z_iconst C 68 (v := 1) dX7_ifRead_68 (by decide +kernel) ?_
              refine z_goto C 69 81 dX7_ifRead_69 (by decide) ?_
              exact z_iret C 81 hA hQ rfl dX7_ifRead_81 ⟨((if_neg c5_2).trans ((if_neg c14_4).trans ((if_neg c27_6).trans ((if_neg c27_8).trans ((if_pos c27_9).trans ((if_neg c65_10).trans rfl)))))).symm, rfl⟩
          · have qc27_6 := lv_neT (a := 0) c27_6 rfl
            have qc27_8 := lv_neT (a := 1) c27_8 rfl
            have qc27_9 := lv_neT (a := 2) c27_9 rfl
            refine z_tableOut C 27 82 dX7_ifRead_27 (by omega) (by decide) ?_
            refine z_aload_n C 82 0 1 dX7_ifRead_82 rfl rfl ?_
            refine z_iload_n C 83 1 2 dX7_ifRead_83 rfl rfl ?_
            refine z_virtIe C 84 (As := [.int a1]) (st := []) (id := 0) (kX7_unitsOf l D cy K n ad hJ hO t a1 a1.toNatClampNeg (Nat.lt_of_lt_of_le hq.1 hm.1) hq.2) dX7_ifRead_84 rfl gX7_ifRead_X7_unitsOf hyX7_unitsOf rfl (by decide) (by decide) hO.h0 rfl hO.e0 rfl rfl rfl (Nat.le_of_ble_eq_true rfl) ?_
            refine z_aload_n C 87 0 1 dX7_ifRead_87 rfl rfl ?_
            refine z_getr C 88 (a9 := ad (1)) (0) 0 dX7_ifRead_88 hO.h0 hO.e0 mX7_ifRead_in7 rfl (by decide) mX7_ifRead_f7 (fun _ => rfl) ?_
            refine z_sipush C 91 (v := 411) dX7_ifRead_91 (by decide +kernel) ?_
            refine z_ialdN C 94 (1) 411 dX7_ifRead_94 hO.h1 hO.e1 rfl (by decide) (by decide) ?_
            refine z_imul C 95 dX7_ifRead_95 ?_
            exact z_iret C 96 hA hQ rfl dX7_ifRead_96 ⟨((if_neg c5_2).trans ((if_neg c14_4).trans ((if_neg c27_6).trans ((if_neg c27_8).trans ((if_neg c27_9).trans rfl))))).symm, rfl⟩
    · refine z_ldc C 17 (v := (-1000001)) dX7_ifRead_17 mX7_ifRead_c96 ?_
      exact z_iret C 19 hA hQ rfl dX7_ifRead_19 ⟨((if_neg c5_2).trans ((if_pos c14_4).trans rfl)).symm, rfl⟩
