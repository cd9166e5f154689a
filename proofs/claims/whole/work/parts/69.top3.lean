/-! playing, in the relation -/
section ZPL
variable {t u : zM}
theorem c_play (h : zRl t u) : rX6_play t = rX7_play u ∧ zRl (sX6_play t) (sX7_play u) := by
  have hd := zGd.dok h.gd
  have hc5 : ∀ y, zcp u 1 3 414 5 y = u 5 y := fun y => zcp_id u 1 3 414 (by decide) y
  have en := do_both (h.2.2.1.tr (U := zcp u 1 3 414) (zcp_id u 1 3 414 (by decide) 7) (funext hc5)) (h.1.tr (fun x _ => zcp_id u 1 3 414 (by decide) x))
  have hQ := sX7_plays_Q (mT_zcp h.mt (a := 1) (c := 3) (m := 414) (by decide)) (mOK_zcp h.ok (a := 1) (c := 3) (m := 414) (by decide) (by decide) (by decide))
  -- the reference, behind its first playing
  have hU3 : ∀ D, (∀ x y, (x < 38 ∨ 76 ≤ x) → (x ≠ 268 ∨ y ≤ 1) → D x y = t x y) → (sX7_plays (zcp u 1 3 414)) 0 5 = 0 → (sX7_plays (zcp u 1 3 414)) 2 = (zcp u 1 3 414) 2 → (sX7_plays (zcp u 1 3 414)) 0 4 = (zcp u 1 3 414) 0 4 → zRl D (zcp (sX7_plays (zcp u 1 3 414)) 3 1 414) := fun D dk e5 e2 e4 =>
    h.bk (by decide) (by decide) (by decide) (by decide) (by decide) (fun x hx h268 => funext fun y => dk x y hx (Or.inl h268)) (dk 268 1 (by omega) (Or.inr (by decide))) hQ.1.m6 (fun x hx => by rw [hQ.2.2.1 3 (by decide) (by decide) (by decide)]; exact zcp_eq hx) (e2.trans (funext fun y => zcp_id u 1 3 414 (by decide) y)) (e4.trans (zcp_id u 1 3 414 (by decide) 4)) (e5.trans h.2.2.2.1.symm) (hQ.2.2.2.trans (zcp_id u 1 3 414 (by decide) 7)) ((hQ.2.2.1 5 (by decide) (by decide) (by decide)).trans (funext hc5))
  have dk : ∀ x y, (x < 38 ∨ 76 ≤ x) → (x ≠ 268 ∨ y ≤ 1) → (sX3_doAllIn 268 (sX5_copyFrom 38 t 0) 38) x y = t x y := fun x y hx hy => (hd.2.2 x y (by omega) hy).trans (congrFun (cp38 t hx) y)
  obtain ⟨-, e5, e2, e4, ee⟩ := en
  have hb := hU3 _ dk e5 e2 e4
  have cg : ∀ x, x ≠ 0 → x ≠ 2 → sX7_changes (zcp (sX7_plays (zcp u 1 3 414)) 3 1 414) x = zcp (sX7_plays (zcp u 1 3 414)) 3 1 414 x := fun x h0 h2 => sX7_changes_o _ h0 h2
  have ck : ∀ k, k ≠ 4 → sX7_changes (zcp (sX7_plays (zcp u 1 3 414)) 3 1 414) 0 k = zcp (sX7_plays (zcp u 1 3 414)) 3 1 414 0 k := fun k hk => sX7_changes_k hb.2.1.mp hk
  have b1 : ∀ x, x < 414 → zcp (sX7_plays (zcp u 1 3 414)) 3 1 414 1 x = u 1 x := fun x hx => (zcp_eq hx).trans (by rw [hQ.2.2.1 3 (by decide) (by decide) (by decide)]; exact zcp_eq hx)
  have b7 : zcp (sX7_plays (zcp u 1 3 414)) 3 1 414 0 7 = u 0 7 := (zcp_id _ 3 1 414 (by decide) 7).trans (hQ.2.2.2.trans (zcp_id u 1 3 414 (by decide) 7))
  have b5 : zcp (sX7_plays (zcp u 1 3 414)) 3 1 414 5 = u 5 := funext fun y => (zcp_id _ 3 1 414 (by decide) y).trans ((congrFun (hQ.2.2.1 5 (by decide) (by decide) (by decide)) y).trans (hc5 y))
  have en2 := do_both (u := sX7_changes (zcp (sX7_plays (zcp u 1 3 414)) 3 1 414)) (h.2.2.1.tr (by rw [ck 7 (by decide)]; exact b7) (by rw [cg 5 (by decide) (by decide)]; exact b5)) (h.1.tr (fun x hx => by rw [cg 1 (by decide) (by decide)]; exact b1 x hx))
  have okW : mOK (sX7_changes (zcp (sX7_plays (zcp u 1 3 414)) 3 1 414)) := (mK.ch hb.ok).1
  have mtW : mT (sX7_changes (zcp (sX7_plays (zcp u 1 3 414)) 3 1 414)) := mT_fr hb.mt (ck 7 (by decide))
  have hQ2 := sX7_plays_Q mtW okW
  unfold rX6_play sX6_play rX7_play sX7_play
  generalize sX3_doAllIn 268 (sX5_copyFrom 38 t 0) 38 = D at *
  generalize rX7_plays (zcp u 1 3 414) = v at *
  generalize zcp (sX7_plays (zcp u 1 3 414)) 3 1 414 = U3 at *
  generalize rX7_plays (sX7_changes U3) = v2 at *
  generalize sX7_plays (sX7_changes U3) = V2 at *
  rw [ite_self]
  rcases ee with ⟨g1, g2, -⟩ | ⟨g1, g2, -⟩
  · obtain ⟨hz2, f5, f2, f4, ff⟩ := en2
    obtain ⟨q1, -, d, hd60, q2, q3⟩ := ff.resolve_right (fun q => q.2.1 g2)
    have hfs := hb.2.1.fs
    have ro : ∀ x, (x < 76 ∨ 266 ≤ x) → sX0_record D 0 x = D x := fun x hx => sX0_record_o D 0 hfs hx
    have co : ∀ x, 38 ≤ x → sX5_copyFrom 0 (sX0_record D 0) 38 x = sX0_record D 0 x := fun x hx => sX5_copyFrom_o 0 _ 38 (Or.inr (by omega))
    have ce := sX5_copyFrom_e 0 (sX0_record D 0) 38 (Or.inr (by decide))
    have ed : sX5_copyFrom 0 (sX0_record D 0) 38 268 7 = nI d := by rw [co 268 (by decide), ro 268 (by omega)]; exact q2
    rw [if_pos g2, if_pos g2, g1, q1, if_neg (c := (1 : Int32) = 0) (by decide +kernel), if_neg (c := (1 : Int32) = 0) (by decide +kernel), if_neg (c := (1 : Int32) = 0) (by decide +kernel), ed, kept_r]
    refine ⟨q3.symm, ?_⟩
    unfold sX6_kept
    rw [if_neg (nI_pos (by omega))]
    have kp : ∀ x, x ≠ 266 → sX0_keep (sX5_copyFrom 0 (sX0_record D 0) 38) x = sX5_copyFrom 0 (sX0_record D 0) 38 x := fun x hx => by
      exact sX0_keep_o _ hx
    obtain ⟨H, N, Q, P, hN, hT⟩ := hb.1
    obtain ⟨H', N', Q', P', hN', hT'⟩ := hz2
    refine ⟨?_, hb.2.1.chg hT hN hb.2.2.2.1 co f4 f2, hb.2.2.1.fr ?_ ?_ ?_ ?_, f5, hQ2.1.m6⟩
    · have hT2 := (hT'.fr (S := sX0_record D 0) (fun x hx1 hx2 => ro x (by omega))).mv ce
      exact ⟨H', N', Q', P', hN', hT2.fr (fun x _ hx => kp x (by omega))⟩
    · rw [kp 268 (by decide), co 268 (by decide), ro 268 (by omega)]
    · rw [kp 269 (by decide), co 269 (by decide), ro 269 (by omega)]
    · rw [hQ2.2.2.2]; exact ck 7 (by decide)
    · rw [hQ2.2.2.1 5 (by decide) (by decide) (by decide)]; exact cg 5 (by decide) (by decide)
  · rw [if_neg g2, if_neg g2, if_pos g1, if_pos g1]
    exact ⟨rfl, hb⟩
/-! what a contract's own numbers are -/
theorem zRl.now (h : zRl t u) : ∃ H N, N ≤ 9999 ∧ mS H N u ∧ u 1 400 = nI N := by
  obtain ⟨H, N, hN, hm⟩ := h.1.ms h.2.2.2.2
  exact ⟨H, N, hN, hm, hm.2.2.1⟩
theorem c_mean (h : zRl t u) : rX6_mean t = rX7_mean u ∧ ∃ S C, S ≤ 2400 ∧ C ≤ 24 ∧ rX5_balancesWithoutSigns 0 t = nI S ∧ lX7_mean_4 u 25 0 0 = nI S ∧ t 0 4 = nI C := by
  obtain ⟨H, N, Q, P, hN, hT⟩ := h.1
  obtain ⟨S, s1, s2, s3⟩ := abs_both hT
  exact ⟨q_mean hT, S, H, s1, hT.Hl, s2, s3, hT.h4⟩
theorem c_count (h : zRl t u) (a : Int32) : rX6_count t a = rX7_count u a := by
  obtain ⟨H, N, Q, P, hN, hT⟩ := h.1
  obtain ⟨L, c, hL, e1, e2, hc⟩ := h.2.2.1
  obtain ⟨⟨f, p, -, -, -, e3, e4, -⟩, -⟩ := h.2.1
  exact q_count hT (e3.trans e4.symm) (e1.trans e2.symm) a
theorem c_ledger (h : zRl t u) (a b : Int32) : rX6_ledger t a b = rX7_ledger u a b ∧ ∃ E, E ≤ 10 ∧ u 1 409 = nI E := by
  obtain ⟨H, N, Q, P, hN, hT⟩ := h.1
  obtain ⟨w, E, -, hE, -, -, l5, -⟩ := id hT.2.2.2
  exact ⟨q_ledger hT a b, E, hE, l5⟩
theorem c_houseOf (h : zRl t u) (a b : Int32) : rX6_houseOf t a b = rX7_houseOf u a b := by
  obtain ⟨H, N, Q, P, hN, hT⟩ := h.1
  exact q_houseOf hT a b
theorem c_at (h : zRl t u) (a b : Int32) : rX6_at t a b = rX7_at u a b := by
  obtain ⟨H, N, Q, P, hN, hT⟩ := h.1
  exact q_at hT a b
theorem c_why (h : zRl t u) (a : Int32) : rX6_why t a = rX7_why u a := by
  obtain ⟨H, N, Q, P, hN, hT⟩ := h.1
  exact q_why hT a
theorem c_ifRead (h : zRl t u) (a b : Int32) : rX6_ifRead t a b = rX7_ifRead u a b := by
  obtain ⟨H, N, Q, P, hN, hT⟩ := h.1
  exact q_ifRead hT a b
theorem c_wronged (h : zRl t u) (a : Int32) : rX6_wronged t a = rX7_wronged u a := by
  obtain ⟨H, N, Q, P, hN, hT⟩ := h.1
  exact q_wronged hT a
end ZPL
