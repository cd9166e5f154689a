/-! what would be: trials -/
theorem zT.bits {H N : Nat} {ρ Q P : Nat → Nat} {b : Nat} {t u : zM} (h : zT H N ρ Q P b t u) : zBits b t := fun k hk => (h.2.1.2.2.2.1 k hk).2.2.2.1
theorem pd7_eq (b : Nat) (t0 : zM) (M N : Nat) (hM : M < 2 ^ 31) : ∀ (j k : Nat) (u : zM), k ≤ M → M < k + j → lX5_passDays_7 b t0 M N j k u = (lsX5_passDays_7 b t0 M N j k u) b 6 - t0 b 6 := by
  intro j
  induction j with
  | zero => intro k u hk hj; omega
  | succ j ih =>
    intro k u hk hj
    rw [pd7_r, pd7_s]
    by_cases c : nI M ≤ nI k
    · rw [if_pos c, if_pos c]
    · rw [if_neg c, if_neg c]
      have := zge (by omega) (by omega) c
      exact ih (k + 1) _ (by omega) (by omega)
theorem pd_eq (b : Nat) (t : zM) (M N : Nat) (hM : M < 2 ^ 31) : rX5_passDays b t M N = (sX5_passDays b t M N) b 6 - t b 6 := pd7_eq b t M N hM _ _ _ (Nat.zero_le _) (by omega)
section ZTR
variable {H N : Nat} {Q P : Nat → Nat} {t u : zM}
/-- the trial town, as it is copied -/
theorem zT.tr {ρ : Nat → Nat} (h : zT H N ρ Q P 0 t u) : zT H N ρ Q P 38 (sX5_copyFrom 38 t 0) u := h.mv (sX5_copyFrom_e 38 t 0 (Or.inl (by decide)))
theorem zT.sp {ρ : Nat → Nat} {b c : Nat} (h : zT H N ρ Q P b t u) (hc : c ≠ 1) : zT H N ρ Q P b t (zcp u 1 c 414) := h.ru (fun x _ => zcp_id u 1 c 414 (Ne.symm hc) x)
theorem tr0 (t : zM) : sX5_copyFrom 38 t 0 0 = t 0 := sX5_copyFrom_o 38 t 0 (Or.inl (by decide))
theorem zT.trN (h : zT H N (fun _ => N) Q P 0 t u) (hN : N ≤ 9999) : ((sX5_copyFrom 38 t 0) 38 5).toNatClampNeg = N := by
  rw [h.tr.h5, nI_clamp (by omega)]
theorem q_refundIn (h : zT H N (fun _ => N) Q P 0 t u) (hN : N ≤ 9999) (a1 : Int32) : rX6_refundIn t a1 = rX7_refundIn u a1 N := by
  have hH := h.Hl
  unfold rX6_refundIn rX7_refundIn
  rw [h.trN hN]
  rcases h.ish a1 with ⟨c1, c2, k, hk, rfl⟩ | ⟨c1, c2⟩
  · rw [if_pos c1, if_neg c2]
    unfold rX5_passUntilRefund
    rw [if_pos (show zin ((sX5_copyFrom 38 t 0) 38 4) (nI k) by rw [h.tr.h4, ← h.h4]; exact c1)]
    have hr := h.tr
    obtain ⟨-, -, -, -, -, -, r, hr1, hr2⟩ := hr.2.1.2.2.2.1 k (by omega)
    have hr1 : r ≤ N := hr1
    have hx : (nI k).toNatClampNeg = k := nI_clamp (by omega)
    exact until_loop (t0 := sX5_copyFrom 38 t 0) (u0 := u) hN hk hx hr2 ((hr.1.1 k (by omega) 12 (by decide) (by decide)).trans hr2) (by omega) 401 0 _ _ (by decide) (by decide) (hr.sp (by decide)) hr2
  · rw [if_neg c1, if_pos c2]
theorem q_ifDays (h : zT H N (fun _ => N) Q P 0 t u) (hN : N ≤ 9999) (a1 a2 : Int32) : rX6_ifDays t a1 a2 = rX7_ifDays u a1 a2 N := by
  have hH := h.Hl
  unfold rX6_ifDays rX7_ifDays
  rw [h.trN hN]
  by_cases c1 : a1 < 1
  · rw [if_pos c1, if_pos (in_lo c1)]
  · rw [if_neg c1]
    by_cases c2 : a1 ≤ 99
    · have c5 : ¬ rX7_in a1 1 99 = 0 := in_ok c1 (znlt.mpr c2)
      obtain ⟨hM, eM⟩ := m99 c5
      rw [if_pos c2, if_neg c5]
      by_cases c3 : rX7_in a2 0 2 = 0
      · have hn : ∀ v : Int32, ¬ rX7_in v 0 2 = 0 → ¬ a2 = v := fun v hv e => hv (e ▸ c3)
        rw [if_pos c3, if_neg (hn 0 (by decide +kernel)), if_neg (hn 1 (by decide +kernel)), if_neg (hn 2 (by decide +kernel))]
      · obtain ⟨p1, w, hw, p2, p3⟩ := (h.tr.sp (c := 4) (by decide)).pass (M := a1.toNatClampNeg) (by omega)
        have e0 : sX5_passDays 38 (sX5_copyFrom 38 t 0) a1.toNatClampNeg N 0 = t 0 := ((zW.passDays (zW.rf h.tr.bits)).2 0 (Or.inl (by decide))).trans (tr0 t)
        have e4 : sX7_pass (zcp u 1 4 414) a1.toNatClampNeg N 4 = zcp u 1 4 414 4 := sX7_pass_o _ _ _ (by decide) (by decide)
        have e4' : ∀ x, x < 414 → zcp u 1 4 414 4 x = u 1 x := fun x hx => zcp_eq hx
        have s6 : (sX5_copyFrom 38 t 0) 38 6 = t 0 6 := (h.tr.1.2.2.1 6 (by decide) (by decide)).symm.trans (h.1.2.2.1 6 (by decide) (by decide))
        have q7 := p1.1.2.2.1 7 (by decide) (by decide)
        have q10 := p1.1.2.2.1 10 (by decide) (by decide)
        have u7 := h.1.2.2.1 7 (by decide) (by decide)
        have u10 := h.1.2.2.1 10 (by decide) (by decide)
        rw [pd_eq _ _ _ _ (by omega), s6] at p2
        rw [if_neg c3, p3, e0, e4]
        obtain ⟨w2, hw2, rfl⟩ := in_of (m := 2) (by decide) c3
        rcases (show w2 = 0 ∨ w2 = 1 ∨ w2 = 2 by omega) with rfl | rfl | rfl
        · rw [if_pos (by decide +kernel), if_pos (by decide +kernel)]
          exact p2
        · rw [if_neg (by decide +kernel), if_pos (by decide +kernel), if_neg (by decide +kernel), if_pos (by decide +kernel), e4' 403 (by decide), ← q7, ← u7]
        · rw [if_neg (by decide +kernel), if_neg (by decide +kernel), if_pos (by decide +kernel), if_neg (by decide +kernel), if_neg (by decide +kernel), e4' 406 (by decide), ← q10, ← u10]
    · rw [if_neg c2, if_pos (in_hi (znl.mp c2))]
end ZTR
