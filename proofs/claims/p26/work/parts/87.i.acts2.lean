/-! the law's acts: a house, refusals, settings, days -/
section LI9
variable {H N E : Nat} {Q P : Nat → Nat} {t u S V : zM}
theorem isPlace_y {q p : Nat} (hq : q < 4) (h1 : 1 ≤ p) (h2 : p ≤ 20) : ¬ rX7_isPlace (nI q) (nI p) = 0 := by
  rcases place_both (nI q) (nI p) with ⟨q9, p9, -, -, -, -, -, -, -, z⟩ | ⟨z1, -⟩
  · exact z
  · rcases z1 with z | ⟨-, z⟩
    · exact absurd ⟨nI_pos (by omega), (nI_ltI (b := 4) (by omega) (by decide)).mpr hq⟩ z
    · rw [isPlace_c (by omega), if_pos ⟨h1, h2⟩] at z
      exact absurd z (by decide +kernel)
/-- who lives at a place: law and reference alike -/
theorem lA.taken (hA : lA t u) (h : zT H N (fun _ => N) Q P 0 t u) (hH : H ≤ 16) {q p : Nat} (hq : q < 4) (h1 : 1 ≤ p) (h2 : p ≤ 20) : (rL_at t (nI q) (nI p) < 0 ∧ rX7_atPlace u (nI q) (nI p) < 0) ∨ (¬ rL_at t (nI q) (nI p) < 0 ∧ ¬ rX7_atPlace u (nI q) (nI p) < 0) := by
  rcases hA.at h hH hq h1 h2 with ⟨a1, a2⟩ | ⟨k, hk, a1, a2, a3⟩
  · have l := atPlace_loop h hq h1 h2 25 0 (Nat.zero_le _) (by have := h.Hl; omega) (fun k hk => absurd hk (by omega))
    rcases l with ⟨-, l2⟩ | ⟨k, hk, l1, l2, -⟩
    · refine Or.inl ⟨by rw [a2]; decide +kernel, ?_⟩
      show lX7_atPlace_2 u (nI q) (nI p) 25 0 < 0
      rw [l2]; exact neg4
    · exact absurd ⟨l1, l2⟩ (a1 k hk)
  · have l := atPlace_loop h hq h1 h2 25 0 (Nat.zero_le _) (by have := h.Hl; omega) (fun k hk => absurd hk (by omega))
    rcases l with ⟨l1, -⟩ | ⟨k9, hk9, -, -, l3⟩
    · exact absurd ⟨a1, a2⟩ (l1 k hk)
    · refine Or.inr ⟨by rw [a3]; exact nI_pos (by omega), ?_⟩
      show ¬ lX7_atPlace_2 u (nI q) (nI p) 25 0 < 0
      rw [l3]; exact nI_pos (by omega)
theorem act_house (hz : zRl t u) (hA : lA t u) (h : zT H N (fun _ => N) Q P 0 t u) (hH : H < 16) (hN : N ≤ E) (hE : E ≤ 9999) (hI : lI H t) {q p : Nat} (hq : q < 4) (h1 : 1 ≤ p) (h2 : p ≤ 20) (ht : rL_at t (nI q) (nI p) < 0) {t1 : zM} (e1 : t1 = zset (zset (zset t 271 (4 * H + 0) (nI q)) 271 (4 * H + 1) (nI p)) 277 1 (t 277 1 + 1)) : rX6_house t1 (nI q) (nI p) = sX6_house t1 (nI q) (nI p) 277 1 - 1 ∧ zLR E (sX6_house t1 (nI q) (nI p)) := by
  have e401 : t 277 1 = u 1 401 := hA.rt (by decide)
  have hz1 : zRl t1 u := hz.lw (fun x hx => by
    rw [e1, zset_id _ _ _ (by omega), zset_id _ _ _ (by omega), zset_id _ _ _ (by omega)])
  obtain ⟨c1, c2⟩ := c_house hz1 (nI q) (nI p)
  have y1 := isPlace_y hq h1 h2
  have y2 : rX7_atPlace u (nI q) (nI p) < 0 := by
    rcases hA.taken h (by omega) hq h1 h2 with ⟨-, g⟩ | ⟨g, -⟩
    · exact g
    · exact absurd ht g
  have y3 : ¬ u 1 401 = 24 := by rw [h.m4]; exact fun e => absurd ((nI_eq (b := 24) (by omega) (by decide)).mp e) (by omega)
  have hc : (u 1 401).toNatClampNeg = H := by rw [h.m4]; exact nI_clamp (by omega)
  have r : rX7_house u (nI q) (nI p) = nI H := by
    unfold rX7_house
    rw [if_neg y1, if_pos y2, if_neg y3, h.m4, nI_1]
    exact nI_sub (b := 1) (by omega)
  have s : sX7_house u (nI q) (nI p) = zset (zset (zset (sX7_changes u) 1 (14 * H + 0) (nI q)) 1 (14 * H + 1) (nI p)) 1 401 (u 1 401 + 1) := by
    unfold sX7_house
    rw [if_neg y1, if_pos y2, if_neg y3, hc]
  have t11 : t1 277 1 = nI (H + 1) := by rw [e1, zset_eq, e401, h.m4, nI_1]
  have ho : sX6_house t1 (nI q) (nI p) 277 = t1 277 := house_o hz1 _ _ (by decide)
  refine ⟨?_, ?_⟩
  · rw [c1, r, ho, t11]
    have e9 : nI (H + 1) - 1 = nI H := nI_sub (b := 1) (by omega)
    exact e9.symm
  · rw [s] at c2
    have g1 := hA.a (k := H) (f := 0) (y := 14 * H + 0) (by omega) (by decide) (by omega) (nI q)
    have g2 := g1.a (k := H) (f := 1) (y := 14 * H + 1) (by omega) (by decide) (by omega) (nI p)
    have g3 := g2.tt (x := 1) (y := 401) (by decide) rfl (u 1 401 + 1)
    have g4 : lA t1 (zset (zset (zset u 1 (14 * H + 0) (nI q)) 1 (14 * H + 1) (nI p)) 1 401 (u 1 401 + 1)) := by rw [e1, e401]; exact g3
    refine zLR.fin (H := H + 1) c2 g4 (zset_1c (zset_1c (ch1z _ _ _) _ _) _ _) (fun x hx => house_o hz1 _ _ hx) ?_ (by omega) ?_ hN hE ?_
    · rw [zset_eq, h.m4, nI_1]
    · rw [zset_nk _ _ _ (by decide), zset_nk _ _ _ (by omega), zset_nk _ _ _ (by omega)]; exact h.m5
    · have b0 : t 272 (4 * H + 0) = 0 := by
        rw [hA.rb (k := H) (f := 0) (by omega) (by decide)]
        have e6 : u 1 (14 * H + 4) = t (0 + 2 + H) 6 := h.1.1 H (by omega) 6 (by decide) (by decide)
        exact e6.trans (h.z (by omega) (Nat.le_refl _)).2
      have k2 : ∀ i, t1 272 (4 * i + 0) = t 272 (4 * i + 0) := fun i => by
        rw [e1, zset_idk _ _ _ _ (by decide), zset_idk _ _ _ _ (by decide), zset_idk _ _ _ _ (by decide)]
      have k7 : ∀ y, y ≠ 1 → t1 277 y = t 277 y := fun y hy => by
        rw [e1, zset_nk _ _ _ hy, zset_idk _ _ _ _ (by decide), zset_idk _ _ _ _ (by decide)]
      unfold lI
      show lSu t1 H + t1 272 (4 * H + 0) = _
      rw [lSu_fr H (fun i _ => k2 i), k2, b0, Int32.add_zero, k7 3 (by decide), k7 5 (by decide), k7 6 (by decide)]
      exact hI
theorem act_housen (hz : zRl t u) (hA : lA t u) (h : zT H N (fun _ => N) Q P 0 t u) (hH : H ≤ 16) (hN : N ≤ E) (hE : E ≤ 9999) (hI : lI H t) {q p : Nat} (hq : q < 4) (h1 : 1 ≤ p) (h2 : p ≤ 20) (ht : ¬ rL_at t (nI q) (nI p) < 0) : rX6_house t (nI q) (nI p) = -1000002 ∧ zLR E (sX6_house t (nI q) (nI p)) := by
  obtain ⟨c1, c2⟩ := c_house hz (nI q) (nI p)
  have y1 := isPlace_y hq h1 h2
  have y2 : ¬ rX7_atPlace u (nI q) (nI p) < 0 := by
    rcases hA.taken h (by omega) hq h1 h2 with ⟨g, -⟩ | ⟨-, g⟩
    · exact absurd g ht
    · exact g
  have r : rX7_house u (nI q) (nI p) = -1000002 := by
    unfold rX7_house
    rw [if_neg y1, if_neg y2]
  have s : sX7_house u (nI q) (nI p) = u := by
    unfold sX7_house
    rw [if_neg y1, if_neg y2]
  refine ⟨c1.trans r, ?_⟩
  rw [s] at c2
  exact zLR.fin c2 hA rfl (fun x hx => house_o hz _ _ hx) h.m4 hH h.m5 hN hE hI
/-- refusals for a house that isn't there -/
theorem act_none (hz : zRl t u) (hA : lA t u) (h : zT H N (fun _ => N) Q P 0 t u) (hH : H ≤ 16) (hN : N ≤ E) (hE : E ≤ 9999) (hI : lI H t) {k : Nat} (hk : H ≤ k) (hk2 : k < 2 ^ 31) : rX6_flow t (nI k) 5 = -1000001 ∧ rX6_read (sX6_flow t (nI k) 5) (nI k) = -1000001 ∧ rX6_change (sX6_read (sX6_flow t (nI k) 5) (nI k)) (nI k) = -1000001 ∧ rX6_lock (sX6_change (sX6_read (sX6_flow t (nI k) 5) (nI k)) (nI k)) (nI k) 1 = -1000001 ∧ zLR E (sX6_lock (sX6_change (sX6_read (sX6_flow t (nI k) 5) (nI k)) (nI k)) (nI k) 1) := by
  have y1 := house_n h hk hk2
  obtain ⟨a1, a2⟩ := c_flow hz (nI k) 5
  have r1 : rX7_flow u (nI k) 5 = -1000001 := by unfold rX7_flow; rw [if_pos y1]
  have s1 : sX7_flow u (nI k) 5 = u := by unfold sX7_flow; rw [if_pos y1]
  rw [s1] at a2
  obtain ⟨b1, b2⟩ := c_read a2 (nI k)
  have r2 : rX7_read u (nI k) = -1000001 := by unfold rX7_read; rw [if_pos y1]
  have s2 : sX7_read u (nI k) = u := by unfold sX7_read; rw [if_pos y1]
  rw [s2] at b2
  obtain ⟨c1, c2⟩ := c_change b2 (nI k)
  have r3 : rX7_change u (nI k) = -1000001 := by unfold rX7_change; rw [if_pos y1]
  have s3 : sX7_change u (nI k) = u := by unfold sX7_change; rw [if_pos y1]
  rw [s3] at c2
  obtain ⟨d1, d2⟩ := c_lock c2 (nI k) 1 (Or.inr rfl)
  have r4 : rX7_lock u (nI k) 1 = -1000001 := by unfold rX7_lock; rw [if_pos y1]
  have s4 : sX7_lock u (nI k) 1 = u := by unfold sX7_lock; rw [if_pos y1]
  rw [s4] at d2
  refine ⟨a1.trans r1, b1.trans r2, c1.trans r3, d1.trans r4, ?_⟩
  exact zLR.fin d2 hA rfl (fun x hx => (lock_o c2 _ _ hx).trans ((change_o b2 _ hx).trans ((read_o a2 _ hx).trans (flow_o hz _ _ hx)))) h.m4 hH h.m5 hN hE hI
/-- a setting -/
theorem act_set (hz : zRl t u) (hA : lA t u) (h : zT H N (fun _ => N) Q P 0 t u) (hH : H ≤ 16) (hN : N ≤ E) (hE : E ≤ 9999) (hI : lI H t) {i : Nat} {v : Int32} (hi : i < 4) (hv1 : ¬ v < rX7_least (nI i)) (hv2 : ¬ rX7_most (nI i) < v) : rX6_set (zset t 277 (10 + i) v) (nI i) v = t 277 (10 + i) ∧ zLR E (sX6_set (zset t 277 (10 + i) v) (nI i) v) := by
  have hz1 : zRl (zset t 277 (10 + i) v) u := hz.lw (fun x hx => zset_id _ _ _ (by omega))
  obtain ⟨e1, e2⟩ := c_set hz1 (nI i) v
  have hc : (nI i).toNatClampNeg = i := nI_clamp (by omega)
  have y1 : ¬ rX7_in (nI i) 0 3 = 0 := in_ok (nI_pos (by omega)) (fun q => absurd (zlt (a := 3) (by decide) (by omega) q) (by omega))
  have y2 : ¬ rX7_in v (rX7_least (nI i)) (rX7_most (nI i)) = 0 := in_ok hv1 hv2
  have r : rX7_set u (nI i) v = u 1 (410 + i) := by
    unfold rX7_set
    rw [if_neg y1, if_neg y2, hc]
  have s : sX7_set u (nI i) v = zset (sX7_changes u) 1 (410 + i) v := by
    unfold sX7_set
    rw [if_neg y1, if_neg y2, hc]
  have e410 : t 277 (10 + i) = u 1 (410 + i) := by
    have := hA.rt (x := 10 + i) (by omega)
    rw [show 400 + (10 + i) = 410 + i by omega] at this
    exact this
  refine ⟨e1.trans (r.trans e410.symm), ?_⟩
  rw [s] at e2
  refine zLR.fin e2 (hA.tt (x := 10 + i) (y := 410 + i) (by omega) (by omega) v) (ch1z _ _ _) (fun x hx => set_o hz1 _ _ hx) ((zset_nk _ _ _ (by omega)).trans h.m4) hH ((zset_nk _ _ _ (by omega)).trans h.m5) hN hE (hI.fr (fun i _ => zset_idk _ _ _ _ (by decide)) (zset_nk _ _ _ (by omega)) (zset_nk _ _ _ (by omega)) (zset_nk _ _ _ (by omega)))
/-- days -/
theorem act_days_loop (u0 : zM) (t0 : zM) (H0 way y : Nat) (hH : H ≤ 16) (hN : N ≤ 9000) : ∀ (j j2 i : Nat) (v : Int32) (w z cc : zM), 61 ≤ i + j → lDn way y < i + j2 → i ≤ lDn way y → zT H (N + i) (fun _ => N + i) Q P 0 cc z → lA w z → lI H w → (∀ x, x < 271 → w x = t0 x) →
    ∃ w' v', lA w' (lsX7_pass_4 u0 (lDn way y) N j2 i v z) ∧ lI H w' ∧ lX7_pass_4 u0 (lDn way y) N j2 i v z = v' ∧ (∀ x, x < 271 → w' x = t0 x) ∧ (∃ cc', zT H (N + lDn way y) (fun _ => N + lDn way y) Q P 0 cc' (lsX7_pass_4 u0 (lDn way y) N j2 i v z)) ∧ lL_isActed_594 t0 H0 way y N j i v w = (if rX6_days w' (nI (lDn way y)) = v' then 1 else 0) ∧ lsL_isActed_594 t0 H0 way y N j i v w = sX6_days w' (nI (lDn way y)) := by
  have hb := lDn_b way y
  intro j
  induction j with
  | zero => intro j2 i v w z cc h0 h2 hi; omega
  | succ j ih =>
    intro j2 i v w z cc h0 h2 hi h hA hI ho
    cases j2 with
    | zero => omega
    | succ j2 =>
    unfold lsX7_pass_4 lX7_pass_4 lL_isActed_594 lsL_isActed_594
    by_cases q1 : nI (lDn way y) ≤ nI i
    · have : i = lDn way y := by have := zle (by omega) (by omega) q1; omega
      subst this
      rw [if_pos q1, if_pos q1, if_pos q1, if_pos q1, ite_self]
      exact ⟨w, v, hA, hI, rfl, ho, ⟨cc, h⟩, rfl, rfl⟩
    · have hi2 : i < lDn way y := zge (by omega) (by omega) q1
      rw [if_neg q1, if_neg q1, if_neg q1, if_neg q1]
      obtain ⟨d1, d2, d3⟩ := hA.day h hH (show N + i < 20000 by omega) hI
      obtain ⟨z1, -, -⟩ := h.day (show N + i < 20000 by omega) cc 0 0
      rw [d2]
      exact ih j2 (i + 1) _ _ _ _ (by omega) (by omega) (by omega) z1 d1 d3 (fun x hx => (sL_day_o w (N + i) hx).trans (ho x hx))
theorem act_days (hz : zRl t u) (hA : lA t u) (h : zT H N (fun _ => N) Q P 0 t u) (hH : H ≤ 16) (hN : N ≤ E) (hE : E + 60 ≤ 9000) (hI : lI H t) (H0 way y : Nat) : lL_isActed_594 t H0 way y N 61 0 0 t = 1 ∧ zLR (E + 60) (lsL_isActed_594 t H0 way y N 61 0 0 t) := by
  have hb := lDn_b way y
  obtain ⟨w, v, w1, w2, w3, w4, ⟨cc, w5⟩, w6, w7⟩ := act_days_loop (sX7_changes u) t H0 way y hH (by omega) 61 (lDn way y + 1) 0 0 t (sX7_changes u) t (by decide) (by omega) (Nat.zero_le _) h.ch (hA.ru (ch1 u)) hI (fun _ _ => rfl)
  have hz1 : zRl w u := hz.lw w4
  obtain ⟨e1, e2⟩ := c_days hz1 (nI (lDn way y)) (show N ≤ 9999 by omega) h.m5
  have y1 : ¬ rX7_in (nI (lDn way y)) 1 99 = 0 := in_ok (fun q => absurd (zlt (b := 1) (by omega) (by decide) q) (by omega)) (fun q => absurd (zlt (a := 99) (by decide) (by omega) q) (by omega))
  have y2 : u 1 400 + nI (lDn way y) ≤ 9999 := by
    rw [h.m5, nI_add]
    exact (nI_leI (b := 9999) (by omega) (by decide)).mpr (by omega)
  have hc : (nI (lDn way y)).toNatClampNeg = lDn way y := nI_clamp (by omega)
  have r : rX7_days u (nI (lDn way y)) N = v := by
    unfold rX7_days
    rw [if_neg y1, if_pos y2, hc]
    exact w3
  have s : sX7_days u (nI (lDn way y)) N = lsX7_pass_4 (sX7_changes u) (lDn way y) N (lDn way y + 1) 0 0 (sX7_changes u) := by
    unfold sX7_days
    rw [if_neg y1, if_pos y2, hc]
    rfl
  rw [w6, w7, e1, r, if_pos rfl]
  refine ⟨rfl, ?_⟩
  rw [s] at e2
  exact zLR.fin (N := N + lDn way y) e2 w1 rfl (fun x hx => days_o hz1 _ hx) w5.m4 hH w5.m5 (by omega) (by omega) w2
end LI9
