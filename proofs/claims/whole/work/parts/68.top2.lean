/-! the other calls in the relation -/
section ZCT
variable {t u : zM}
theorem c_undo (h : zRl t u) : rX6_undo t = rX7_undo u ∧ zRl (sX6_undo t) (sX7_undo u) := by
  obtain ⟨er, hz⟩ := op_undo h.2.1
  refine ⟨er, ?_⟩
  rcases hz with ⟨g1, g2⟩ | ⟨g1, g2, g3, g4, g5⟩
  · rw [g1, g2]; exact h
  · refine ⟨g1, g2, h.2.2.1.fr ?_ (g3 269 (by decide)) (g5 7 (by decide)) (g4 5 (by decide) (by decide)), (g5 5 (by decide)).trans h.2.2.2.1, h.2.2.2.2.fr (g4 6 (by decide) (by decide))⟩
    rw [g3 268 (by decide)]
theorem c_clear (h : zRl t u) : rX6_clearText t = rX7_clearText u ∧ zRl (sX6_clearText t) (sX7_clearText u) := by
  obtain ⟨L, c, hL, e1, e2, hc⟩ := h.2.2.1
  unfold rX6_clearText sX6_clearText rX3_empty sX3_empty rX7_clearText sX7_clearText
  refine ⟨e1.trans e2.symm, h.1.fr (fun x _ hx => zset_id _ _ _ (by omega)) (fun x hx => zset_idk _ _ _ _ (by decide)), h.2.1.fr (fun x hx1 hx2 => zset_id _ _ _ (by omega)) (zset_id _ _ _ (by decide)) (zset_nk _ _ _ (by decide)), ⟨0, c, Nat.zero_le _, zset_eq _ _ _ _, zset_eq _ _ _ _, fun i hi => absurd hi (by omega)⟩, (zset_nk _ _ _ (by decide)).trans h.2.2.2.1, h.2.2.2.2.fr (zset_id _ _ _ (by decide))⟩
theorem c_type (h : zRl t u) (a : Int32) : rX6_type t a = rX7_type u a ∧ zRl (sX6_type t a) (sX7_type u a) := by
  obtain ⟨L, c, hL, e1, e2, hc⟩ := h.2.2.1
  unfold rX6_type sX6_type rX3_append sX3_append rX7_type sX7_type
  rw [e1, e2, nI_clamp (by omega)]
  by_cases c1 : a < 32
  · rw [if_pos c1, if_pos c1, if_pos (in_lo c1), if_pos (in_lo c1)]
    exact ⟨rfl, h⟩
  · rw [if_neg c1, if_neg c1]
    by_cases c2 : a ≤ 126
    · have c3 : ¬ rX7_in a 32 126 = 0 := in_ok c1 (znlt.mpr c2)
      rw [if_pos c2, if_pos c2, if_neg c3, if_neg c3]
      by_cases c4 : L < 60
      · have c5 : nI L < 60 := (nI_ltI (b := 60) (by omega) (by decide)).mpr c4
        have c6 : ¬ nI L = 60 := fun e => absurd ((nI_eq (b := 60) (by omega) (by decide)).mp e) (by omega)
        rw [if_pos c5, if_pos c5, if_neg c6, if_neg c6, nI_1]
        have c0 : ¬ a < 0 := fun q => c1 (Int32.lt_trans q (by decide +kernel))
        obtain ⟨s, hs, rfl⟩ := nI_of c0
        have s1 : 32 ≤ s := by
          rcases Nat.lt_or_ge s 32 with q | q
          · exact absurd ((nI_ltI (b := 32) hs (by decide)).mpr q) c1
          · exact q
        have s2 : s ≤ 126 := zle (b := 126) hs (by decide) c2
        refine ⟨rfl, h.1.fr (fun x _ hx => ?_) (fun x hx => ?_), h.2.1.fr (fun x hx1 hx2 => ?_) ?_ ?_, ⟨L + 1, fun i => if i = L then s else c i, by omega, zset_eq _ _ _ _, zset_eq _ _ _ _, fun i hi => ?_⟩, ?_, h.2.2.2.2.fr ?_⟩
        · rw [zset_id _ _ _ (by omega), zset_id _ _ _ (by omega)]
        · rw [zset_idk _ _ _ _ (by decide), zset_idk _ _ _ _ (by decide)]
        · rw [zset_id _ _ _ (by omega), zset_id _ _ _ (by omega)]
        · rw [zset_id _ _ _ (by decide), zset_id _ _ _ (by decide)]
        · rw [zset_nk _ _ _ (by decide), zset_idk _ _ _ _ (by decide)]
        · have x1 : zset (zset t (268 + 1) L (nI s)) 268 1 (nI (L + 1)) 269 i = zset t 269 L (nI s) 269 i := zset_idk _ _ _ _ (by decide)
          have x2 : zset (zset u 5 L (nI s)) 0 7 (nI (L + 1)) 5 i = zset u 5 L (nI s) 5 i := zset_idk _ _ _ _ (by decide)
          rw [x1, x2]
          show 32 ≤ (if i = L then s else c i) ∧ (if i = L then s else c i) ≤ 126 ∧ zset t 269 L (nI s) 269 i = nI (if i = L then s else c i) ∧ zset u 5 L (nI s) 5 i = nI (if i = L then s else c i)
          by_cases e : i = L
          · subst e
            rw [if_pos rfl, zset_eq, zset_eq]
            exact ⟨s1, s2, rfl, rfl⟩
          · rw [if_neg e, zset_nk _ _ _ e, zset_nk _ _ _ e]
            exact hc i (by omega)
        · rw [zset_nk _ _ _ (by decide), zset_idk _ _ _ _ (by decide)]; exact h.2.2.2.1
        · rw [zset_id _ _ _ (by decide), zset_id _ _ _ (by decide)]
      · have e : L = 60 := by omega
        subst e
        rw [if_neg (show ¬ nI 60 < 60 by decide +kernel), if_neg (show ¬ nI 60 < 60 by decide +kernel), if_pos (show nI 60 = 60 from rfl), if_pos (show nI 60 = 60 from rfl)]
        exact ⟨rfl, h⟩
    · have c3 : rX7_in a 32 126 = 0 := in_hi (znl.mp c2)
      rw [if_neg c2, if_neg c2, if_pos c3, if_pos c3]
      exact ⟨rfl, h⟩
theorem c_next (h : zRl t u) (a1 a2 : Int32) : rX6_next t a1 a2 = rX7_next u a1 a2 ∧ zRl t (sX7_next u a1 a2) := by
  obtain ⟨H, N, Q, P, hN, hT⟩ := id h.1
  refine ⟨q_next hT a1 a2, ?_⟩
  unfold sX7_next
  obtain ⟨H', N', -, hm⟩ := h.1.ms h.2.2.2.2
  have key : ∀ q, zRl t (sX7_rounds u q) := fun q => by
    have o : ∀ x, x ≠ 6 → sX7_rounds u q x = u x := fun x hx => sX7_rounds_o u q hx
    exact h.fr (fun _ _ => rfl) rfl rfl (fun x _ => by rw [o 1 (by decide)]) (o 2 (by decide)) (by rw [o 0 (by decide)]) (by rw [o 0 (by decide)]) (by rw [o 0 (by decide)]) (o 5 (by decide)) (sX7_rounds_S hm).2.2.2.2.1
  split
  · exact h
  · split
    · rw [ite_self]; exact key _
    · exact h
/-- trials leave the town, and the reference takes its spare back -/
theorem back1 {u V : zM} {a : Nat} (ha : a ≠ 1) (h : ∀ x, x < 414 → V a x = u 1 x) : ∀ x, x < 414 → zcp V a 1 414 1 x = u 1 x := fun x hx => (zcp_eq hx).trans (h x hx)
theorem refundIn_k {H : Nat} (u0 : zM) (a : Int32) (N : Nat) : ∀ (j k : Nat) (u : zM), k ≤ 400 → 400 < k + j → mS H (N + k) u → ∃ W, lsX7_refundIn_32 u0 a N j k u = zcp W 4 1 414 ∧ m6 W ∧ ∀ x, x ≠ 1 → x ≠ 6 → W x = u x := by
  intro j
  induction j with
  | zero => intro k u hk hj; omega
  | succ j ih =>
    intro k u hk hj hm
    rw [lsX7_refundIn_32, ite_self]
    by_cases c : k = 400
    · subst c
      rw [if_pos (show (400 : Int32) ≤ nI 400 by decide +kernel)]
      exact ⟨u, rfl, hm.2.2.2.2.1, fun _ _ _ => rfl⟩
    · rw [if_neg (show ¬ (400 : Int32) ≤ nI k from fun q => absurd (zle (a := 400) (by decide) (by omega) q) (by omega))]
      split
      · obtain ⟨W, w1, w2, w3⟩ := ih (k + 1) (sX7_day u (N + k)) (by omega) (by omega) (sX7_day_S hm)
        exact ⟨W, w1, w2, fun x h1 h6 => (w3 x h1 h6).trans (sX7_day_o _ _ h1 h6)⟩
      · exact ⟨u, rfl, hm.2.2.2.2.1, fun _ _ _ => rfl⟩
theorem zRl.bk (h : zRl t u) {S W : zM} {a : Nat} (ha1 : a ≠ 1) (ha0 : a ≠ 0) (ha2 : a ≠ 2) (ha5 : a ≠ 5) (ha6 : a ≠ 6) (hS1 : ∀ x, (x < 38 ∨ 76 ≤ x) → x ≠ 268 → S x = t x) (hS2 : S 268 1 = t 268 1) (h6 : m6 W) (hw : ∀ x, x < 414 → W a x = u 1 x) (h2 : W 2 = u 2) (h04 : W 0 4 = u 0 4) (h05 : W 0 5 = u 0 5) (h07 : W 0 7 = u 0 7) (h5 : W 5 = u 5) : zRl S (zcp W a 1 414) := by
  have o : ∀ x y, x ≠ 1 → zcp W a 1 414 x y = W x y := fun x y hx => zcp_id W a 1 414 hx y
  exact h.fr (fun x hx => hS1 x (by omega) (by omega)) hS2 (hS1 269 (by omega) (by decide)) (back1 ha1 hw) ((funext fun y => o 2 y (by decide)).trans h2) ((o 0 4 (by decide)).trans h04) ((o 0 5 (by decide)).trans h05) ((o 0 7 (by decide)).trans h07) ((funext fun y => o 5 y (by decide)).trans h5) (h6.fr (funext fun y => o 6 y (by decide)))
theorem pUR_o {b : Nat} {S : zM} (t0 : zM) (a : Int32) (N : Nat) : ∀ (j k : Nat) (u : zM), zW b S u → zW b S (lsX5_passUntilRefund_21 b t0 a N j k u) := by
  intro j
  induction j with
  | zero => intro k u h; exact h
  | succ j ih =>
    intro k u h
    rw [lsX5_passUntilRefund_21]
    split
    · exact h
    · split
      · exact ih _ _ (zW.passDays h)
      · exact zW.passDays h
theorem cp38 (t : zM) {x : Nat} (h : x < 38 ∨ 76 ≤ x) : sX5_copyFrom 38 t 0 x = t x := sX5_copyFrom_o 38 t 0 (by omega)
theorem c_refundIn (h : zRl t u) (a1 : Int32) {N : Nat} (hN1 : N ≤ 9999) (h400 : u 1 400 = nI N) : rX6_refundIn t a1 = rX7_refundIn u a1 N ∧ zRl (sX6_refundIn t a1) (sX7_refundIn u a1 N) := by
  obtain ⟨H, N', Q, P, hN, hT⟩ := id h.1
  have e : N' = N := (nI_eq (by omega) (by omega)).mp (hT.m5.symm.trans h400)
  subst e
  refine ⟨q_refundIn hT hN a1, ?_⟩
  have hH := hT.Hl
  unfold sX6_refundIn sX7_refundIn
  rcases hT.ish a1 with ⟨c1, c2, k, hk, rfl⟩ | ⟨c1, c2⟩
  · rw [if_pos c1, if_neg c2]
    obtain ⟨H', N'', hN'', hm⟩ := h.1.ms h.2.2.2.2
    have e2 : N'' = N' := (nI_eq (by omega) (by omega)).mp (hm.2.2.1.symm.trans h400)
    subst e2
    obtain ⟨W, w1, w2, w3⟩ := refundIn_k u (nI k) N'' 401 0 (zcp u 1 4 414) (by decide) (by decide) (mS_zcp hm (by decide) (by decide))
    rw [w1]
    have hw : zW 38 (sX5_copyFrom 38 t 0) (sX5_passUntilRefund 38 (sX5_copyFrom 38 t 0) (nI k) ((sX5_copyFrom 38 t 0) 38 5).toNatClampNeg) := by
      unfold sX5_passUntilRefund
      split
      · exact pUR_o _ _ _ _ _ _ (zW.rf hT.tr.bits)
      · exact zW.rf hT.tr.bits
    have hs : ∀ x, (x < 38 ∨ 76 ≤ x) → sX5_passUntilRefund 38 (sX5_copyFrom 38 t 0) (nI k) ((sX5_copyFrom 38 t 0) 38 5).toNatClampNeg x = t x := fun x hx => (hw.2 x (by omega)).trans (cp38 t hx)
    have z0 : ∀ x y, x ≠ 1 → x ≠ 6 → x ≠ 4 → W x y = u x y := fun x y h1 h6 h4 => (congrFun (w3 x h1 h6) y).trans (zcp_id u 1 4 414 h4 y)
    exact h.bk (by decide) (by decide) (by decide) (by decide) (by decide) (fun x hx _ => hs x hx) (by rw [hs 268 (by omega)]) w2 (fun x hx => by rw [w3 4 (by decide) (by decide)]; exact zcp_eq hx) (funext fun y => z0 2 y (by decide) (by decide) (by decide)) (z0 0 4 (by decide) (by decide) (by decide)) (z0 0 5 (by decide) (by decide) (by decide)) (z0 0 7 (by decide) (by decide) (by decide)) (funext fun y => z0 5 y (by decide) (by decide) (by decide))
  · rw [if_neg c1, if_pos c2]; exact h
theorem c_ifDays (h : zRl t u) (a1 a2 : Int32) {N : Nat} (hN1 : N ≤ 9999) (h400 : u 1 400 = nI N) : rX6_ifDays t a1 a2 = rX7_ifDays u a1 a2 N ∧ zRl (sX6_ifDays t a1 a2) (sX7_ifDays u a1 a2 N) := by
  obtain ⟨H, N', Q, P, hN, hT⟩ := id h.1
  have e : N' = N := (nI_eq (by omega) (by omega)).mp (hT.m5.symm.trans h400)
  subst e
  refine ⟨q_ifDays hT hN a1 a2, ?_⟩
  have hw : ∀ m n, ∀ x, (x < 38 ∨ 76 ≤ x) → sX5_passDays 38 (sX5_copyFrom 38 t 0) m n x = t x := fun m n x hx => ((zW.passDays (zW.rf hT.tr.bits)).2 x (by omega)).trans (cp38 t hx)
  have hc1 : zRl (sX6_ifDays t a1 a2) u := by
    unfold sX6_ifDays
    rw [ite_self, ite_self, ite_self]
    split
    · exact h
    · split
      · exact h.fr (fun x hx => hw _ _ x (by omega)) (by rw [hw _ _ 268 (by omega)]) (hw _ _ 269 (by omega)) (fun _ _ => rfl) rfl rfl rfl rfl rfl h.2.2.2.2
      · exact h
  obtain ⟨H', N'', hN'', hm⟩ := h.1.ms h.2.2.2.2
  have e2 : N'' = N' := (nI_eq (by omega) (by omega)).mp (hm.2.2.1.symm.trans h400)
  subst e2
  unfold sX7_ifDays
  rw [ite_self, ite_self]
  split
  · exact hc1
  · rename_i c
    split
    · exact hc1
    · have hM := m99 c
      have z : ∀ x, x ≠ 1 → x ≠ 6 → sX7_pass (zcp u 1 4 414) a1.toNatClampNeg N'' x = zcp u 1 4 414 x := fun x h1 h6 => sX7_pass_o _ _ _ h1 h6
      have z0 : ∀ x y, x ≠ 1 → x ≠ 6 → x ≠ 4 → sX7_pass (zcp u 1 4 414) a1.toNatClampNeg N'' x y = u x y := fun x y h1 h6 h4 => (congrFun (z x h1 h6) y).trans (zcp_id u 1 4 414 h4 y)
      have s6 : m6 (sX7_pass (zcp u 1 4 414) a1.toNatClampNeg N'') := (sX7_pass_S hM.1 (mS_zcp hm (by decide) (by decide))).2.2.2.2.1
      exact hc1.bk (by decide) (by decide) (by decide) (by decide) (by decide) (fun _ _ _ => rfl) rfl s6 (fun x hx => by rw [z 4 (by decide) (by decide)]; exact zcp_eq hx) (funext fun y => z0 2 y (by decide) (by decide) (by decide)) (z0 0 4 (by decide) (by decide) (by decide)) (z0 0 5 (by decide) (by decide) (by decide)) (z0 0 7 (by decide) (by decide) (by decide)) (funext fun y => z0 5 y (by decide) (by decide) (by decide))
/-! the text's calls -/
theorem zTw.tr (h : zTw 0 t u) {U : zM} (hU : ∀ x, x < 414 → U 1 x = u 1 x) : zTw 38 (sX5_copyFrom 38 t 0) U := by
  obtain ⟨H, N, Q, P, hN, hT⟩ := h
  exact ⟨H, N, Q, P, hN, hT.tr.ru hU⟩
theorem zTx.tr (h : zTx t u) {U : zM} (h7 : U 0 7 = u 0 7) (h5 : U 5 = u 5) : zTx (sX5_copyFrom 38 t 0) U := h.fr (by rw [cp38 t (x := 268) (by omega)]) (cp38 t (by omega)) h7 h5
theorem c_fault (h : zRl t u) (a1 : Int32) : rX6_fault t a1 = rX7_fault u a1 ∧ zRl (sX6_fault t a1) (sX7_fault u a1) := by
  have hd := zGd.dok h.gd
  have en := do_both (h.2.2.1.tr (U := zcp u 1 3 414) (zcp_id u 1 3 414 (by decide) 7) (funext fun y => zcp_id u 1 3 414 (by decide) y)) (h.1.tr (fun x _ => zcp_id u 1 3 414 (by decide) x))
  have hQ := sX7_plays_Q (mT_zcp h.mt (a := 1) (c := 3) (m := 414) (by decide)) (mOK_zcp h.ok (a := 1) (c := 3) (m := 414) (by decide) (by decide) (by decide))
  unfold rX6_fault sX6_fault rX7_fault sX7_fault rX3_faultFact
  generalize sX3_doAllIn 268 (sX5_copyFrom 38 t 0) 38 = D at *
  generalize rX7_plays (zcp u 1 3 414) = v at *
  generalize sX7_plays (zcp u 1 3 414) = V at *
  obtain ⟨-, e5, e2, e4, ee⟩ := en
  have dk : ∀ x y, (x < 38 ∨ 76 ≤ x) → (x ≠ 268 ∨ y ≤ 1) → D x y = t x y := fun x y hx hy => (hd.2.2 x y (by omega) hy).trans (congrFun (cp38 t hx) y)
  have hb : zRl D (zcp V 3 1 414) := h.bk (by decide) (by decide) (by decide) (by decide) (by decide) (fun x hx h268 => funext fun y => dk x y hx (Or.inl h268)) (dk 268 1 (by omega) (Or.inr (by decide))) hQ.1.m6 (fun x hx => by rw [hQ.2.2.1 3 (by decide) (by decide) (by decide)]; exact zcp_eq hx) (e2.trans (funext fun y => zcp_id u 1 3 414 (by decide) y)) (e4.trans (zcp_id u 1 3 414 (by decide) 4)) (e5.trans h.2.2.2.1.symm) (hQ.2.2.2.trans (zcp_id u 1 3 414 (by decide) 7)) ((hQ.2.2.1 5 (by decide) (by decide) (by decide)).trans (funext fun y => zcp_id u 1 3 414 (by decide) y))
  rw [ite_self, ite_self, ite_self]
  by_cases c1 : a1 < 0
  · rw [if_pos c1, if_pos c1, if_pos (in_lo c1), if_pos (in_lo c1)]
    exact ⟨rfl, h⟩
  · rw [if_neg c1, if_neg c1]
    by_cases c2 : a1 ≤ 2
    · have c3 : ¬ rX7_in a1 0 2 = 0 := in_ok c1 (znlt.mpr c2)
      rw [if_pos c2, if_pos c2, if_neg c3, if_neg c3]
      refine ⟨?_, hb⟩
      rcases ee with ⟨g1, g2, -⟩ | ⟨g1, g2, g3, g4, g5⟩
      · rw [if_pos g2, g1, if_neg (by decide +kernel)]
      · rw [if_neg g2, if_pos g1, g3, g4, g5]
    · have c3 : rX7_in a1 0 2 = 0 := in_hi (znl.mp c2)
      rw [if_neg c2, if_neg c2, if_pos c3, if_pos c3]
      exact ⟨rfl, h⟩
end ZCT
