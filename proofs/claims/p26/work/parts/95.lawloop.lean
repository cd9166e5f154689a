/-! the law's loop -/
theorem and31 (x : Int32) : ∃ w, w < 2 ^ 31 ∧ x &&& 2147483647 = nI w := by
  refine ⟨(x &&& 2147483647).toBitVec.toNat, ?_, ?_⟩
  · have e : (x &&& 2147483647).toBitVec = x.toBitVec &&& 2147483647#32 := rfl
    rw [e, BitVec.toNat_and]
    exact Nat.lt_of_le_of_lt Nat.and_le_right (by decide)
  · apply Int32.toBitVec_inj.mp
    show (x &&& 2147483647).toBitVec = BitVec.ofNat 32 (x &&& 2147483647).toBitVec.toNat
    simp
theorem rem_n {z k : Nat} (hz : z < 2 ^ 31) (hk : k < 2 ^ 31) : nI z - nI z / nI k * nI k = nI (z % k) := by
  rw [nI_div hz hk, nI_mul, nI_sub (Nat.div_mul_le_self z k)]
  congr 1
  have := Nat.div_add_mod z k
  rw [Nat.mul_comm] at this
  omega
theorem zLR.ws {E : Nat} {t v : zM} (h : zLR E t) (w : lWs t v) : zLR E v := by
  obtain ⟨u, H, N, Q, P, hz, hA, hT, hH, hN, hI⟩ := h
  refine ⟨u, H, N, Q, P, hz.lw (fun x hx => w.up (by omega)), hA.fr (fun i x hv => ?_) (fun _ _ => rfl), hT.fr (fun x _ h2 => w.up (by omega)), hH, hN, hI.fr (fun i _ => w _ _ (Or.inl (by decide))) (w _ _ (Or.inl (by decide))) (w _ _ (Or.inl (by decide))) (w _ _ (Or.inl (by decide)))⟩
  rcases hv with ⟨rfl, _⟩ | ⟨rfl, _⟩ | ⟨rfl, _⟩ | ⟨rfl, _⟩ | ⟨rfl, h1⟩ | ⟨rfl, _⟩ | ⟨rfl, _⟩
  · exact w _ _ (Or.inl (by decide))
  · exact w _ _ (Or.inl (by decide))
  · exact w _ _ (Or.inl (by decide))
  · exact w _ _ (Or.inl (by decide))
  · exact w _ _ (Or.inr h1)
  · exact w _ _ (Or.inl (by decide))
  · exact w _ _ (Or.inl (by decide))
theorem zT.lS {H N : Nat} {Q P : Nat → Nat} {t u : zM} (hA : lA t u) (h : zT H N (fun _ => N) Q P 0 t u) (hH : H ≤ 16) : lS H t := ⟨hH, (hA.rt (by decide)).trans h.m4⟩
theorem zT.lD {H N : Nat} {Q P : Nat → Nat} {t u : zM} (hA : lA t u) (h : zT H N (fun _ => N) Q P 0 t u) (hH : H ≤ 16) : lD H N t := by
  refine ⟨h.lS hA hH, (hA.rt (by decide)).trans h.m5, ?_⟩
  obtain ⟨S, s1, s2, s3⟩ := h.2.1.2.2.2.2.2.2.2.2
  have e : t 277 13 = nI S := (hA.rt (by decide)).trans ((h.1.2.2.2.2 3 (by decide)).trans s3)
  rw [e]
  intro q
  have := (nI_eq (b := 0) (by omega) (by decide)).mp q
  omega
abbrev lLs (b : Nat) (ad : Nat → Nat) (k : Nat) : List (Nat × Value) := [(9, .int (nI k)), (8, .ref (ad 277)), (7, .ref (ad 276)), (6, .ref (ad 275)), (5, .ref (ad 274)), (4, .ref (ad 273)), (3, .ref (ad 272)), (2, .ref (ad 271)), (1, .ref (ad 270)), (0, .ref b)]
section ZLL
variable {p : Program} {l : Launch} {e : Env} {s : State} {m : MethodId} {b : Nat} {below : List Frame} {meth : Method} {c : Code} {N : Nat} {xs : Nat → Int32} {D : va_G} {cy : Nat → ClassId} {ad : Nat → Nat}
set_option maxHeartbeats 4000000 in
set_option maxRecDepth 20000 in
/-- one act, and what is asked after it -/
theorem law_act (C : zLC p s m b meth c N xs D cy ad) {k z w : Nat} {t : zM} (hk : k < 64) (hR : zLR (60 * k) t) (hz31 : z < 2 ^ 31) (hw : w < 1000) (kk : ∀ t1, zLR (60 * k + 60) t1 → Zl p l e s m b below meth c D cy ad 181 ((10, .int (nI z)) :: lLs b ad k) [] t1) : Zl p l e s m b below meth c D cy ad 129 ((10, .int (nI z)) :: lLs b ad k) [.int (nI w), .ref (ad 277), .ref (ad 276), .ref (ad 275), .ref (ad 274), .ref (ad 273), .ref (ad 272), .ref (ad 271), .ref (ad 270)] t := by
  have hJ := C.2.2.2.2.2.2.1.1
  have hO := k6_ok cy ad
  have hW := kL_ok cy ad
  obtain ⟨u, H, N0, Q, P, hz, hA, hT, hH, hN, hI⟩ := hR
  have hz2 := (c_flow hz (nI (z / 21 % 16)) 5).2
  have hz3 := (c_read hz2 (nI (z / 21 % 16))).2
  have hz4 := (c_change hz3 (nI (z / 21 % 16))).2
  refine l_iload C 129 10 0 dL_law_129 rfl ?_
  refine l_bipush C 131 (v := nI 21) dL_law_131 (by decide +kernel) ?_
  refine l_idiv C 133 dL_law_133 (by decide +kernel) ?_
  rw [nI_div hz31 (by decide)]
  have hy : z / 21 < 2 ^ 31 := by omega
  obtain ⟨f1, f2⟩ := acted hz hA hT hH hN (by omega) hI hw hy
  refine l_sIS C 134 (As := [.ref (ad 270), .ref (ad 271), .ref (ad 272), .ref (ad 273), .ref (ad 274), .ref (ad 275), .ref (ad 276), .ref (ad 277), .int (nI w), .int (nI (z / 21))]) (st := []) (kL_isActed l D cy (zKL cy) 278 ad hJ t H w (z / 21) N0 hO hW hw hy (by omega) hz.gd (hT.lD hA hH) hz2.gd hz3.gd hz4.gd) dL_law_134 rfl gL_law_L_isActed hyL_isActed (by decide) (by decide) rfl rfl (Nat.le_of_ble_eq_true rfl) ?_
  refine l_if1 C 137 179 dL_law_137 (by decide) f1 ?_
  clear hz2 hz3 hz4 hz hA hT hI hN hH
  generalize sL_isActed t H w (z / 21) N0 = t1 at f2 ⊢
  have hR1 := f2
  obtain ⟨u1, H1, N1, Q1, P1, hz, hA, hT, hH, hN, hI⟩ := f2
  have hm := hT.lS hA hH
  have hG := hz.gd
  refine l_aload_n C 140 1 9 dL_law_140 rfl rfl ?_
  refine l_aload_n C 141 2 8 dL_law_141 rfl rfl ?_
  refine l_aload_n C 142 3 7 dL_law_142 rfl rfl ?_
  refine l_aload C 143 4 6 dL_law_143 rfl ?_
  refine l_aload C 145 5 5 dL_law_145 rfl ?_
  refine l_aload C 147 8 2 dL_law_147 rfl ?_
  refine l_sI C 149 (As := [.ref (ad 270), .ref (ad 271), .ref (ad 272), .ref (ad 273), .ref (ad 274), .ref (ad 277)]) (st := []) (kL_areHouses l D cy (zKL cy) 278 ad hJ t1 H1 hO hW hG hm (ok_h1 hA hT) (ok_h2 hT) (ok_h3 hA hT) (fun x hx => ok_houses hA hT hH hx)) dL_law_149 rfl gL_law_L_areHouses hyL_areHouses (by decide) (by decide) rfl rfl (Nat.le_of_ble_eq_true rfl) ?_
  refine l_if1 C 152 179 dL_law_152 (by decide) (rL_areHouses_1 hm) ?_
  refine l_aload_n C 155 1 9 dL_law_155 rfl rfl ?_
  refine l_aload_n C 156 3 7 dL_law_156 rfl rfl ?_
  refine l_aload C 157 7 3 dL_law_157 rfl ?_
  refine l_aload C 159 8 2 dL_law_159 rfl ?_
  obtain ⟨q2, q9, q10, q11, q12, q13, q14⟩ := ok_sums hz hA hT hH hI
  refine l_sI C 161 (As := [.ref (ad 270), .ref (ad 272), .ref (ad 276), .ref (ad 277)]) (st := []) (kL_areSums l D cy (zKL cy) 278 ad hJ t1 H1 hO hW hG hm (fun x hx => ok_wr hA hT hH hx) (fun x hx => ok_led hA hT hx) (fun y hy => ok_c1 hz hA hT hy) (fun y hy h2 h3 => ok_c2 hz hA hT hy h2 h3) (fun y hy => ok_c3 hz hA hT hy) q2 q9 q10 q11 q12 q13 q14 (ok_wn hA hT hH)) dL_law_161 rfl gL_law_L_areSums hyL_areSums (by decide) (by decide) rfl rfl (Nat.le_of_ble_eq_true rfl) ?_
  refine l_if1 C 164 179 dL_law_164 (by decide) (rL_areSums_1 hm) ?_
  refine l_aload_n C 167 1 9 dL_law_167 rfl rfl ?_
  refine l_aload_n C 168 2 8 dL_law_168 rfl rfl ?_
  refine l_aload C 169 6 4 dL_law_169 rfl ?_
  refine l_aload C 171 8 2 dL_law_171 rfl ?_
  refine l_sI C 173 (As := [.ref (ad 270), .ref (ad 271), .ref (ad 275), .ref (ad 277)]) (st := []) (kL_areRounds l D cy (zKL cy) 278 ad hJ t1 H1 hO hW hG hm (ok_n1 hT) (ok_n2 hT) (fun q hq v hv => ok_rounds hA hT hH hq hv)) dL_law_173 rfl gL_law_L_areRounds hyL_areRounds (by decide) (by decide) rfl rfl (Nat.le_of_ble_eq_true rfl) ?_
  refine l_if1n C 176 181 dL_law_176 (by decide) (rL_areRounds_1 t1) ?_
  exact kk _ (hR1.ws (sL_areRounds_w t1))
set_option maxHeartbeats 4000000 in
set_option maxRecDepth 20000 in
theorem law_loop (C : zLC p s m b meth c N xs D cy ad) : ∀ (j k : Nat) (t : zM), k + j = 64 → zLR (60 * k) t → Zl p l e s m b below meth c D cy ad 78 (lLs b ad k) [] t := by
  intro j
  induction j with
  | zero =>
    intro k t hk hR
    have hk : k = 64 := hk
    subst hk
    refine l_iload C 78 9 0 dL_law_78 rfl ?_
    refine l_bipush C 80 (v := nI 64) dL_law_80 (by decide +kernel) ?_
    refine l_icmp_ge C 82 187 dL_law_82 (by decide) (fun _ => ?_) (fun q => absurd (by decide +kernel) q)
    refine l_iconst C 187 (v := 1) dL_law_187 (by decide +kernel) ?_
    intro H locs la hP hS hl
    refine va_forget (fun x h => hS.2.2 x h) ?_
    exact lw_ret C.1.1 C.1.2.1 C.2.2.2.2.2.2.2.1 C.2.2.2.2.2.2.2.2.1 dL_law_188
  | succ j ih =>
    intro k t hk hR
    have hN : N < 2 ^ 31 := Nat.lt_of_le_of_lt C.2.2.2.2.2.2.2.2.2 (by decide)
    refine l_iload C 78 9 0 dL_law_78 rfl ?_
    refine l_bipush C 80 (v := nI 64) dL_law_80 (by decide +kernel) ?_
    refine l_icmp_ge C 82 187 dL_law_82 (by decide) (fun q => absurd ((nI_leI (by decide) (by omega)).mp q) (by omega)) (fun _ => ?_)
    refine l_aload_n C 85 0 9 dL_law_85 rfl rfl ?_
    refine l_iload C 86 9 0 dL_law_86 rfl ?_
    refine l_cell C 88 (kL_cell l b N xs k (by omega) hN) dL_law_88 gL_law_L_cell (Nat.le_of_ble_eq_true rfl) (fun F => ?_)
    refine l_ldc C 91 (v := 2147483647) dL_law_91 (by decide +kernel) ?_
    refine l_iand C 93 dL_law_93 ?_
    obtain ⟨z, hz31, ez⟩ := and31 F
    rw [ez]
    refine l_istore C 94 10 ((10, .int (nI z)) :: lLs b ad k) dL_law_94 (by decide) rfl ?_
    refine l_aload_n C 96 1 9 dL_law_96 rfl rfl ?_
    refine l_aload_n C 97 2 8 dL_law_97 rfl rfl ?_
    refine l_aload_n C 98 3 7 dL_law_98 rfl rfl ?_
    refine l_aload C 99 4 6 dL_law_99 rfl ?_
    refine l_aload C 101 5 5 dL_law_101 rfl ?_
    refine l_aload C 103 6 4 dL_law_103 rfl ?_
    refine l_aload C 105 7 3 dL_law_105 rfl ?_
    refine l_aload C 107 8 2 dL_law_107 rfl ?_
    refine l_iload C 109 9 1 dL_law_109 rfl ?_
    refine l_bipush C 111 (v := nI 8) dL_law_111 (by decide +kernel) ?_
    have go : ∀ t1, zLR (60 * k + 60) t1 → Zl p l e s m b below meth c D cy ad 181 ((10, .int (nI z)) :: lLs b ad k) [] t1 := by
      intro t1 hR1
      refine l_iinc C 181 9 1 ((9, .int (nI (k + 1))) :: (10, .int (nI z)) :: (lLs b ad k).tail) (v := nI (k + 1)) dL_law_181 rfl (by show nI k + nI 1 = _; exact nI_add k 1) (by decide) rfl ?_
      refine l_goto C 184 78 dL_law_184 (by decide) ?_
      exact l_ls [0, 2, 3, 4, 5, 6, 7, 8, 9, 10] (lLs b ad (k + 1)) rfl (ih (k + 1) t1 (by omega) (by rw [show 60 * (k + 1) = 60 * k + 60 by omega]; exact hR1))
    refine l_icmp_ge C 113 124 dL_law_113 (by decide) (fun _ => ?_) (fun _ => ?_)
    · refine l_iload C 124 10 0 dL_law_124 rfl ?_
      refine l_bipush C 126 (v := nI 21) dL_law_126 (by decide +kernel) ?_
      refine l_irem C 128 dL_law_128 (by decide +kernel) (rem_n hz31 (by decide)) ?_
      exact law_act C (by omega) hR hz31 (by have := Nat.mod_lt z (show 0 < 21 by decide); omega) go
    · refine l_iload C 116 10 0 dL_law_116 rfl ?_
      refine l_bipush C 118 (v := nI 9) dL_law_118 (by decide +kernel) ?_
      refine l_irem C 120 dL_law_120 (by decide +kernel) (rem_n hz31 (by decide)) ?_
      refine l_goto C 121 129 dL_law_121 (by decide) ?_
      exact law_act C (by omega) hR hz31 (by have := Nat.mod_lt z (show 0 < 9 by decide); omega) go
end ZLL
