theorem refunds_o2 (u0 : zM) {x : Nat} (hx : x = 402 ∨ x = 403) : ∀ (j k : Nat) (u : zM), lsX7_refunds_14 u0 j k u 1 x = u 1 x := by
  intro j
  induction j with
  | zero => intro k u; rfl
  | succ j ih =>
    intro k u
    unfold lsX7_refunds_14
    split
    · rfl
    · split
      · exact ih _ _
      · rw [ih, zset_nk _ _ _ (by omega), zset_nk _ _ _ (by omega), zset_nk _ _ _ (by omega), zset_nk _ _ _ (by omega)]
/-- the class's day behind its dials -/
def cDy (b : Nat) (D : zM) (m : Nat) : zM := if (sX5_walk b (zset D b 5 (D b 5 + 1)) (m % 4)) (b + 37) 3 ≤ 0 then sX5_walk b (zset D b 5 (D b 5 + 1)) (m % 4) else if zrem ((sX5_walk b (zset D b 5 (D b 5 + 1)) (m % 4)) b 5) ((sX5_walk b (zset D b 5 (D b 5 + 1)) (m % 4)) (b + 37) 3) = 0 then sX5_endYear b (sX5_walk b (zset D b 5 (D b 5 + 1)) (m % 4)) else sX5_walk b (zset D b 5 (D b 5 + 1)) (m % 4)
theorem zT.day {H N : Nat} {Q P : Nat → Nat} {b : Nat} {t u : zM} (h : zT H N (fun _ => N) Q P b t u) (hN : N < 20000) (t0 : zM) (M N2 : Nat) : zT H (N + 1) (fun _ => N + 1) Q P b (cDy b (lsX5_passDays_26 b t0 M N2 25 0 t) (N + 1)) (sX7_day u N) ∧ zUp b t (cDy b (lsX5_passDays_26 b t0 M N2 25 0 t) (N + 1)) ∧ ∃ n, n ≤ 12 ∧ rX7_day u N = nI n ∧ sX7_day u N 1 402 = u 1 402 + nI n := by
  have hH := h.Hl
  have d := h.dials t0 M N2
  have d12 : ∀ k, k < 24 → lsX5_passDays_26 b t0 M N2 25 0 t (b + 2 + k) 12 = t (b + 2 + k) 12 := fun k hk => by
    rw [show lsX5_passDays_26 b t0 M N2 25 0 t = cDl b t 24 from pd26_e b t0 t M N2 25 0 (by decide) (by decide)]
    exact cDl_12 b t 24 _
  generalize lsX5_passDays_26 b t0 M N2 25 0 t = D at d d12 ⊢
  obtain ⟨w1, w2, n, hn, w3, w4⟩ := d.nw.walk (q := (N + 1) % 4) (by omega) (by omega)
  obtain ⟨q1, q2⟩ := day2_e u u N H hH h.m4 25 0 (Nat.zero_le _) (by omega)
  have q1 : sX7_day u N = mRest N (mDl u H) := q1
  have q2 : rX7_day u N = rX7_walks (zset (mDl u H) 1 400 ((mDl u H) 1 400 + 1)) ((N + 1) % 4) := q2
  have e402 : sX7_walks (zset (mDl u H) 1 400 ((mDl u H) 1 400 + 1)) ((N + 1) % 4) 1 402 = u 1 402 + nI n := by
    rw [w4, zset_nk _ _ _ (by decide), mDl_k u H (by decide) hH]
  have up : ∀ k, k < 24 → (sX5_walk b (zset D b 5 (D b 5 + 1)) ((N + 1) % 4)) (b + 2 + k) 12 = t (b + 2 + k) 12 := fun k hk => by
    rw [w2 k hk, zset_idk _ _ _ _ (by omega), d12 k hk]
  have e400 := w1.1.2.2.2.1.1
  have e413 := w1.1.2.2.2.2 3 (by decide)
  obtain ⟨-, -, -, S, hS1, hS2, eS⟩ := w1.2.1.2.2.2.2.2
  rw [q1, q2]
  unfold mRest cDy
  generalize sX5_walk b (zset D b 5 (D b 5 + 1)) ((N + 1) % 4) = W at *
  generalize sX7_walks (zset (mDl u H) 1 400 ((mDl u H) 1 400 + 1)) ((N + 1) % 4) = V at *
  rw [if_neg (show ¬ W (b + 37) 3 ≤ 0 from by rw [eS]; exact fun c => absurd (zle (b := 0) (by omega) (by decide) c) (by omega)), e400, e413]
  by_cases c : zrem (W b 5) (W (b + 37) 3) = 0
  · rw [if_pos c, if_pos c]
    obtain ⟨y1, y2⟩ := w1.year
    refine ⟨y1, fun k hk => ?_, n, hn, w3, ?_⟩
    · have := y2 k hk
      rw [up k hk] at this
      exact this
    · unfold sX7_refunds
      rw [refunds_o2 _ (Or.inl rfl), zset_nk _ _ _ (by decide)]
      exact e402
  · rw [if_neg c, if_neg c]
    exact ⟨w1.mono (fun _ _ => Nat.le_succ N), fun k hk => Or.inl (up k hk), n, hn, w3, e402⟩
theorem pd7_s (b : Nat) (t0 : zM) (M N j k : Nat) (u : zM) : lsX5_passDays_7 b t0 M N (j + 1) k u = if nI M ≤ nI k then u else lsX5_passDays_7 b t0 M N j (k + 1) (cDy b (lsX5_passDays_26 b t0 M N 25 0 u) (N + k + 1)) := by
  rw [lsX5_passDays_7]
  unfold cDy
  by_cases c : nI M ≤ nI k
  · rw [if_pos c, if_pos c]
  · rw [if_neg c, if_neg c]
    by_cases c1 : (sX5_walk b (zset (lsX5_passDays_26 b t0 M N 25 0 u) b 5 ((lsX5_passDays_26 b t0 M N 25 0 u) b 5 + 1)) ((N + k + 1) % 4)) (b + 37) 3 ≤ 0
    · rw [if_pos c1, if_pos c1]
    · rw [if_neg c1, if_neg c1]
      by_cases c2 : zrem ((sX5_walk b (zset (lsX5_passDays_26 b t0 M N 25 0 u) b 5 ((lsX5_passDays_26 b t0 M N 25 0 u) b 5 + 1)) ((N + k + 1) % 4)) b 5) ((sX5_walk b (zset (lsX5_passDays_26 b t0 M N 25 0 u) b 5 ((lsX5_passDays_26 b t0 M N 25 0 u) b 5 + 1)) ((N + k + 1) % 4)) (b + 37) 3) = 0
      · rw [if_pos c2, if_pos c2]
      · rw [if_neg c2, if_neg c2]
theorem pd7_r (b : Nat) (t0 : zM) (M N j k : Nat) (u : zM) : lX5_passDays_7 b t0 M N (j + 1) k u = if nI M ≤ nI k then (u b 6) - (t0 b 6) else lX5_passDays_7 b t0 M N j (k + 1) (cDy b (lsX5_passDays_26 b t0 M N 25 0 u) (N + k + 1)) := by
  rw [lX5_passDays_7]
  unfold cDy
  by_cases c : nI M ≤ nI k
  · rw [if_pos c, if_pos c]
  · rw [if_neg c, if_neg c]
    by_cases c1 : (sX5_walk b (zset (lsX5_passDays_26 b t0 M N 25 0 u) b 5 ((lsX5_passDays_26 b t0 M N 25 0 u) b 5 + 1)) ((N + k + 1) % 4)) (b + 37) 3 ≤ 0
    · rw [if_pos c1, if_pos c1]
    · rw [if_neg c1, if_neg c1]
      by_cases c2 : zrem ((sX5_walk b (zset (lsX5_passDays_26 b t0 M N 25 0 u) b 5 ((lsX5_passDays_26 b t0 M N 25 0 u) b 5 + 1)) ((N + k + 1) % 4)) b 5) ((sX5_walk b (zset (lsX5_passDays_26 b t0 M N 25 0 u) b 5 ((lsX5_passDays_26 b t0 M N 25 0 u) b 5 + 1)) ((N + k + 1) % 4)) (b + 37) 3) = 0
      · rw [if_pos c2, if_pos c2]
      · rw [if_neg c2, if_neg c2]
theorem pass_loop {H N M : Nat} {Q P : Nat → Nat} {b : Nat} {t0 u0 : zM} (hNM : N + M ≤ 20000) (h0 : u0 1 402 = t0 b 6) : ∀ (j k v : Nat) (t u : zM), k ≤ M → M < k + j → zT H (N + k) (fun _ => N + k) Q P b t u → v ≤ 12 * k → u 1 402 = u0 1 402 + nI v → zT H (N + M) (fun _ => N + M) Q P b (lsX5_passDays_7 b t0 M N j k t) (lsX7_pass_4 u0 M N j k (nI v) u) ∧ ∃ w, w ≤ 12 * M ∧ lX5_passDays_7 b t0 M N j k t = nI w ∧ lX7_pass_4 u0 M N j k (nI v) u = nI w := by
  intro j
  induction j with
  | zero => intro k v t u hk hj; omega
  | succ j ih =>
    intro k v t u hk hj h hv hc
    rw [pd7_s, pd7_r, lsX7_pass_4, lX7_pass_4]
    by_cases c : nI M ≤ nI k
    · have : k = M := by have := zle (by omega) (by omega) c; omega
      subst this
      rw [if_pos c, if_pos c, if_pos c, if_pos c]
      refine ⟨h, v, by omega, ?_, rfl⟩
      have e6 : u 1 402 = t b 6 := h.1.2.2.1 6 (by decide) (by decide)
      rw [← e6, hc, h0, Int32.add_comm, Int32.add_sub_cancel]
    · have hk2 : k < M := zge (by omega) (by omega) c
      rw [if_neg c, if_neg c, if_neg c, if_neg c]
      obtain ⟨d1, -, n, hn, d2, d3⟩ := h.day (by omega) t0 M N
      rw [d2, nI_add]
      exact ih (k + 1) (v + n) _ _ (by omega) (by omega) d1 (by omega) (by rw [d3, hc, Int32.add_assoc, nI_add])
/-- many days -/
theorem zT.pass {H N M : Nat} {Q P : Nat → Nat} {b : Nat} {t u : zM} (h : zT H N (fun _ => N) Q P b t u) (hNM : N + M ≤ 20000) : zT H (N + M) (fun _ => N + M) Q P b (sX5_passDays b t M N) (sX7_pass u M N) ∧ ∃ w, w ≤ 12 * M ∧ rX5_passDays b t M N = nI w ∧ rX7_pass u M N = nI w :=
  pass_loop (t0 := t) (u0 := u) hNM (h.1.2.2.1 6 (by decide) (by decide)) (M + 1) 0 0 t u (Nat.zero_le _) (by omega) h (Nat.zero_le _) (Int32.add_zero _).symm
