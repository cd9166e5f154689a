/-! the law's walk, and its day whole -/
section LG
variable {H N : Nat} {ρ Q P : Nat → Nat} {b : Nat} {c t u : zM}
def lEs (t0 : zM) (N2 : Nat) (v : Int32) (w : zM) : zM := if zrem (w 277 0) (w 277 13) = 0 then lsL_day_203 t0 N2 17 0 v (zset w 277 8 (w 277 8 + 1)) else w
def lEi (t0 : zM) (N2 : Nat) (v : Int32) (w : zM) : Int32 := if zrem (w 277 0) (w 277 13) = 0 then lL_day_203 t0 N2 17 0 v (zset w 277 8 (w 277 8 + 1)) else v
set_option maxHeartbeats 2000000 in
theorem lA.walk (t0 u0 : zM) (N2 : Nat) {q mm : Nat} {R6 : Nat → Int32} (hH : H ≤ 16) (hN : N ≤ 20000) (hq : q < 4) (hm : mm ≤ 24) (er : rX7_rounds u0 q = nI mm) (hR : ∀ y, y < mm → ∃ i, i < H ∧ Q i = q ∧ R6 y = nI i) :
    ∀ (j j2 x : Nat) (v : Int32) (w z cc : zM), mm < x + j → mm < x + j2 → x ≤ mm → zT H N ρ Q P b cc z → lA w z → z 6 = R6 → (∀ y, y < mm → w 275 (4 + y) = R6 y) → lI H w →
      ∃ w' v' cc', zT H N ρ Q P b cc' (lsX7_walks_11 u0 q j2 x v z) ∧ lA w' (lsX7_walks_11 u0 q j2 x v z) ∧ lI H w' ∧ lX7_walks_11 u0 q j2 x v z = v' ∧ lsL_day_101 t0 N2 j x v mm q w = lEs t0 N2 v' w' ∧ lL_day_101 t0 N2 j x v mm q w = lEi t0 N2 v' w' := by
  intro j
  induction j with
  | zero => intro j2 x v w z cc h0 h2 hx; omega
  | succ j ih =>
    intro j2 x v w z cc h0 h2 hx h hA hz hw hI
    cases j2 with
    | zero => omega
    | succ j2 =>
    unfold lsX7_walks_11 lX7_walks_11 lsL_day_101 lL_day_101
    rw [er]
    by_cases q1 : nI mm ≤ nI x
    · rw [if_pos q1, if_pos q1, if_pos q1, if_pos q1]
      exact ⟨w, v, cc, h, hA, hI, rfl, rfl, rfl⟩
    · have hx2 : x < mm := zge (by omega) (by omega) q1
      have e10 : w 277 10 = z 1 410 := hA.rt (by decide)
      rw [if_neg q1, if_neg q1, if_neg q1, if_neg q1, e10]
      by_cases q2 : z 1 410 ≤ v
      · rw [if_pos q2, if_pos q2, if_pos q2, if_pos q2]
        exact ⟨w, v, cc, h, hA, hI, rfl, rfl, rfl⟩
      · rw [if_neg q2, if_neg q2, if_neg q2, if_neg q2]
        obtain ⟨i, hi, hQ, eR⟩ := hR x hx2
        have ez : z 6 x = nI i := by rw [hz]; exact eR
        have ew : w 275 (4 + x) = nI i := (hw x hx2).trans eR
        have hc : (nI i).toNatClampNeg = i := nI_clamp (by omega)
        rw [ez, ew, hc, hA.why (k := i) (by omega)]
        obtain ⟨r1, V, hV, r2, r3⟩ := hA.read h (k := i) (by omega)
        obtain ⟨z1, -⟩ := h.read hN hi (nI i)
        have z2 := z1.wk hi hq hQ
        have hp : (0 : Int32) ≤ nI V := nI_pos' (by omega)
        by_cases q3 : rX7_barred z i = 0
        · rw [if_pos q3, if_pos q3, if_pos q3, if_pos q3, r2, r3, if_pos hp, if_pos hp, if_pos hp, if_pos hp, nI_1]
          refine ih j2 (x + 1) (v + 1) _ _ _ (by omega) (by omega) hx2 z2 (r1.w hq _) ?_ (fun y hy => ?_) ?_
          · rw [zset_id _ _ _ (by decide), sX7_reads_o _ _ _ (by decide)]
            exact hz
          · rw [zset_nk _ _ _ (by omega), sL_read_o _ _ (by decide)]
            exact hw y hy
          · exact (sL_read_I hI hi).fr (fun i9 _ => zset_idk _ _ _ _ (by decide)) (zset_idk _ _ _ _ (by decide)) (zset_idk _ _ _ _ (by decide)) (zset_idk _ _ _ _ (by decide))
        · rw [if_neg q3, if_neg q3, if_neg q3, if_neg q3]
          exact ih j2 (x + 1) v w z cc (by omega) (by omega) hx2 h hA hz hw hI
theorem zn_sur (h : zT H N ρ Q P b c u) {q f : Nat} (hf : f < 20) (hq : q < 4) (e0 : ∀ a, a < 1000 → rX4_stepAhead (b + 27 + 2 * q) c (nI a) = nI ((f + a) % 20)) {r : Nat} (hr : r < zn H Q P q f 20) : ∃ k, k < H ∧ Q k = q ∧ zn H Q P q f (zd P f k) = r := by
  have hle := zn_le (H := H) (Q := Q) (P := P) q f 20
  have hH := h.Hl
  obtain ⟨l1, -⟩ := ranked_loop h hf hq (show r < 2 ^ 31 by omega) e0 21 0 (by decide) (by decide) (by rw [zn_0]; exact Nat.zero_le _)
  obtain ⟨k, h1, h2, h3, -⟩ := l1 hr
  exact ⟨k, h1, h2, h3⟩
set_option maxHeartbeats 2000000 in
theorem lA.day (hA : lA t u) (h : zT H N ρ Q P b c u) (hH : H ≤ 16) (hN : N < 20000) (hI : lI H t) : lA (sL_day t N) (sX7_day u N) ∧ rL_day t N = rX7_day u N ∧ lI H (sL_day t N) := by
  obtain ⟨w, w1, w2, w3, w4⟩ := hA.dials h hH hI t N
  have h1 := h.dl H (Nat.le_refl H)
  have h2 := h1.nw
  have hq : (N + 1) % 4 < 4 := Nat.mod_lt _ (by decide)
  obtain ⟨s1, s2⟩ := day2_e u u N H h.Hl h.m4 25 0 (Nat.zero_le _) (by omega)
  have s1 : sX7_day u N = mRest N (mDl u H) := s1
  have s2 : rX7_day u N = rX7_walks (zset (mDl u H) 1 400 ((mDl u H) 1 400 + 1)) ((N + 1) % 4) := s2
  have e0 : w 277 0 = mDl u H 1 400 := w1.rt (by decide)
  have w5 : lA (lNow w) (zset (mDl u H) 1 400 ((mDl u H) 1 400 + 1)) := by
    unfold lNow
    rw [e0]
    exact w1.tt (by decide) rfl _
  have w6 : lI H (lNow w) := w2.fr (fun i _ => zset_idk _ _ _ _ (by decide)) (zset_nk _ _ _ (by decide)) (zset_nk _ _ _ (by decide)) (zset_nk _ _ _ (by decide))
  have e1 : sL_day t N = lsL_day_101 t N 21 0 0 (rL_round (lNow w) ((N + 1) % 4)).toNatClampNeg ((N + 1) % 4) (sL_round (lNow w) ((N + 1) % 4)) := w3
  have e2 : rL_day t N = lL_day_101 t N 21 0 0 (rL_round (lNow w) ((N + 1) % 4)).toNatClampNeg ((N + 1) % 4) (sL_round (lNow w) ((N + 1) % 4)) := w4
  rw [s1, s2, e1, e2]
  unfold mRest
  generalize (N + 1) % 4 = q at *
  generalize zset (mDl u H) 1 400 ((mDl u H) 1 400 + 1) = U at *
  generalize lNow w = W at *
  obtain ⟨f, g, hB, hBg, hst, hg⟩ := h2.bg2 hq
  obtain ⟨r1, r2, r3⟩ := rounds_e h2 hB hq hg
  obtain ⟨l1, l2⟩ := w5.round h2 hH hq hBg
  have hle := zn_le (H := H) (Q := Q) (P := P) q f 20
  have h3 : zT H (N + 1) ρ Q P b _ (sX7_rounds U q) := h2.ru (fun x _ => congrFun (r2 1 (by decide)) x)
  have w7 : lA (sL_round W q) (sX7_rounds U q) := w5.fr (fun i x hv => sL_round_o _ _ (by
    rcases hv with ⟨rfl, _⟩ | ⟨rfl, _⟩ | ⟨rfl, _⟩ | ⟨rfl, _⟩ | ⟨rfl, h9⟩ | ⟨rfl, _⟩ | ⟨rfl, _⟩
    · exact Or.inl (by decide)
    · exact Or.inl (by decide)
    · exact Or.inl (by decide)
    · exact Or.inl (by decide)
    · exact Or.inr h9
    · exact Or.inl (by decide)
    · exact Or.inl (by decide))) (fun x _ => congrFun (r2 1 (by decide)) x)
  have w8 : lI H (sL_round W q) := w6.fr (fun i _ => sL_round_o _ _ (Or.inl (by decide))) (sL_round_o _ _ (Or.inl (by decide))) (sL_round_o _ _ (Or.inl (by decide))) (sL_round_o _ _ (Or.inl (by decide)))
  rw [l1, nI_clamp (by omega)]
  obtain ⟨w', v', cc', k1, k2, k3, k4, k5, k6⟩ := lA.walk (R6 := sX7_rounds U q 6) t U N hH (show N + 1 ≤ 20000 by omega) hq (show zn H Q P q f 20 ≤ 24 by omega) r1 (fun y hy => by
    obtain ⟨k, q1, q2, q3⟩ := zn_sur h2 hB.lt.1 hq hst hy
    exact ⟨k, q1, q2, by rw [← q3]; exact r3 k q1 q2⟩) 21 25 0 0 (sL_round W q) (sX7_rounds U q) _ (by omega) (by omega) (Nat.zero_le _) h3 w7 rfl (fun y hy => by
    obtain ⟨k, q1, q2, q3⟩ := zn_sur h2 hB.lt.1 hq hst hy
    rw [← q3, l2 k q1 q2, r3 k q1 q2]) w8
  have k4 : rX7_walks U q = v' := k4
  have k1 : zT H (N + 1) ρ Q P b cc' (sX7_walks U q) := k1
  have k2 : lA w' (sX7_walks U q) := k2
  rw [k4, k5, k6]
  generalize sX7_walks U q = V at *
  have t0 : w' 277 0 = V 1 400 := k2.rt (by decide)
  have t13 : w' 277 13 = V 1 413 := k2.rt (by decide)
  have t8 : w' 277 8 = V 1 408 := k2.rt (by decide)
  unfold lEs lEi sX7_refunds
  rw [t0, t13, t8]
  by_cases q5 : zrem (V 1 400) (V 1 413) = 0
  · rw [if_pos q5, if_pos q5, if_pos q5]
    have y1 := k2.tt (x := 8) (y := 408) (by decide) rfl (V 1 408 + 1)
    have y2 : lI H (zset w' 277 8 (V 1 408 + 1)) := k3.fr (fun i _ => zset_idk _ _ _ _ (by decide)) (zset_nk _ _ _ (by decide)) (zset_nk _ _ _ (by decide)) (zset_nk _ _ _ (by decide))
    obtain ⟨g1, g2, g3⟩ := lA.year t V N hH 17 25 0 v' _ _ (by decide) (by decide) (Nat.zero_le _) y1 ((zset_nk _ _ _ (by decide)).trans k1.m4) y2
    exact ⟨g1, g2, g3⟩
  · rw [if_neg q5, if_neg q5, if_neg q5]
    exact ⟨k2, rfl, k3⟩
end LG
