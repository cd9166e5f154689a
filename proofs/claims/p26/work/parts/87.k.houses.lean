/-! what the law asks of houses -/
section LK
variable {H N : Nat} {Q P : Nat → Nat} {t u : zM}
theorem hof_g (h : zT H N (fun _ => N) Q P 0 t u) {k w : Nat} (hk : k < H) (hw : w ≤ 13) (h3 : w ≠ 3) (h4 : w ≠ 4) (h7 : w ≠ 7) : rX6_houseOf t (nI k) (nI w) = u 1 (14 * k + w) := by
  have hH := h.Hl
  have y1 := house_y h hk
  have y2 : ¬ rX7_in (nI w) 0 13 = 0 := in_ok (nI_pos (by omega)) (fun q => absurd (zlt (a := 13) (by decide) (by omega) q) (by omega))
  have n : ∀ b, b < 100 → w ≠ b → ¬ nI w = nI b := fun b hb hne e => hne ((nI_eq (by omega) (by omega)).mp e)
  rw [q_houseOf h]
  unfold rX7_houseOf
  rw [if_neg y1, if_neg y2, if_neg (show ¬ nI w = 3 from n 3 (by decide) h3), if_neg (show ¬ nI w = 4 from n 4 (by decide) h4), if_neg (show ¬ nI w = 7 from n 7 (by decide) h7), ite_self, ite_self, nI_clamp (show k < 2 ^ 31 by omega), nI_clamp (show w < 2 ^ 31 by omega)]
theorem hof_3 (h : zT H N (fun _ => N) Q P 0 t u) {k : Nat} (hk : k < H) : rX6_houseOf t (nI k) 3 = rX7_used u k := by
  have hH := h.Hl
  have y1 := house_y h hk
  rw [q_houseOf h]
  unfold rX7_houseOf
  rw [if_neg y1, if_neg (show ¬ rX7_in 3 0 13 = 0 by decide +kernel), if_pos rfl, nI_clamp (show k < 2 ^ 31 by omega)]
theorem hof_4 (h : zT H N (fun _ => N) Q P 0 t u) {k : Nat} (hk : k < H) : rX6_houseOf t (nI k) 4 = 1000 + u 1 (14 * k + 4) := by
  have hH := h.Hl
  have y1 := house_y h hk
  rw [q_houseOf h]
  unfold rX7_houseOf
  rw [if_neg y1, if_neg (show ¬ rX7_in 4 0 13 = 0 by decide +kernel), if_neg (show ¬ (4 : Int32) = 3 by decide +kernel), if_pos rfl, nI_clamp (show k < 2 ^ 31 by omega)]
theorem hof_7 (h : zT H N (fun _ => N) Q P 0 t u) {k : Nat} (hk : k < H) : rX6_houseOf t (nI k) 7 = (if u 1 (14 * k + 7) ≤ 0 then -1000004 else u 1 (14 * k + 7) - 1) := by
  have hH := h.Hl
  have y1 := house_y h hk
  rw [q_houseOf h]
  unfold rX7_houseOf
  rw [if_neg y1, if_neg (show ¬ rX7_in 7 0 13 = 0 by decide +kernel), if_neg (show ¬ (7 : Int32) = 3 by decide +kernel), if_neg (show ¬ (7 : Int32) = 4 by decide +kernel), if_neg (show ¬ (7 : Int32) = 5 by decide +kernel), if_neg (show ¬ (7 : Int32) = 6 by decide +kernel), if_pos (show (7 : Int32) = 7 from rfl), nI_clamp (show k < 2 ^ 31 by omega)]
theorem why_g (h : zT H N (fun _ => N) Q P 0 t u) {k : Nat} (hk : k < H) : rX6_why t (nI k) = rX7_barred u k := by
  have hH := h.Hl
  rw [q_why h]
  unfold rX7_why
  rw [if_neg (house_y h hk), nI_clamp (show k < 2 ^ 31 by omega)]
theorem ifr_0 (h : zT H N (fun _ => N) Q P 0 t u) {k : Nat} (hk : k < H) : rX6_ifRead t (nI k) 0 = rX7_unitsOf u k := by
  have hH := h.Hl
  rw [q_ifRead h]
  unfold rX7_ifRead
  rw [if_neg (house_y h hk), if_neg (show ¬ rX7_in 0 0 3 = 0 by decide +kernel), if_pos rfl, nI_clamp (show k < 2 ^ 31 by omega)]
theorem ifr_1 (h : zT H N (fun _ => N) Q P 0 t u) {k : Nat} (hk : k < H) : rX6_ifRead t (nI k) 1 = 1000 + rX7_balanceThen u k := by
  have hH := h.Hl
  rw [q_ifRead h]
  unfold rX7_ifRead
  rw [if_neg (house_y h hk), if_neg (show ¬ rX7_in 1 0 3 = 0 by decide +kernel), if_neg (show ¬ (1 : Int32) = 0 by decide +kernel), if_pos rfl, nI_clamp (show k < 2 ^ 31 by omega)]
theorem ifr_2 (h : zT H N (fun _ => N) Q P 0 t u) {k : Nat} (hk : k < H) : rX6_ifRead t (nI k) 2 = (if rX7_balanceThen u k ≤ 0 then (if 0 ≤ rX7_balanceThen u k then 0 else 2) else 1) := by
  have hH := h.Hl
  rw [q_ifRead h]
  unfold rX7_ifRead
  rw [if_neg (house_y h hk), if_neg (show ¬ rX7_in 2 0 3 = 0 by decide +kernel), if_neg (show ¬ (2 : Int32) = 0 by decide +kernel), if_neg (show ¬ (2 : Int32) = 1 by decide +kernel), if_pos (show (2 : Int32) = 2 from rfl), nI_clamp (show k < 2 ^ 31 by omega)]
theorem ifr_3 (h : zT H N (fun _ => N) Q P 0 t u) {k : Nat} (hk : k < H) : rX6_ifRead t (nI k) 3 = rX7_unitsOf u k * u 1 411 := by
  have hH := h.Hl
  rw [q_ifRead h]
  unfold rX7_ifRead
  rw [if_neg (house_y h hk), if_neg (show ¬ rX7_in 3 0 3 = 0 by decide +kernel), if_neg (show ¬ (3 : Int32) = 0 by decide +kernel), if_neg (show ¬ (3 : Int32) = 1 by decide +kernel), if_neg (show ¬ (3 : Int32) = 2 by decide +kernel), nI_clamp (show k < 2 ^ 31 by omega)]
theorem at_g (h : zT H N (fun _ => N) Q P 0 t u) {k : Nat} (hk : k < H) : rX6_at t (nI (Q k)) (nI (P k)) = nI k := by
  have hH := h.Hl
  obtain ⟨hq, h1, h2⟩ := h.P1 hk
  rw [q_at h]
  unfold rX7_at
  rw [if_neg (isPlace_y hq h1 h2)]
  rcases atPlace_loop h hq h1 h2 25 0 (Nat.zero_le _) (by omega) (fun k hk => absurd hk (by omega)) with ⟨l1, -⟩ | ⟨k9, hk9, l1, l2, l3⟩
  · exact absurd ⟨rfl, rfl⟩ (l1 k hk)
  · have e := h.uq hk9 hk l1 (by rw [l2])
    subst e
    exact l3
theorem ok_houses (hA : lA t u) (h : zT H N (fun _ => N) Q P 0 t u) (hH : H ≤ 16) {k : Nat} (hk : k < H) : lOKh t k := by
  obtain ⟨D, M, B, hD, hM, hB1, hB2, lb, ub, lu, ru, le, re, br⟩ := hA.use h (k := k) (by omega)
  have k16 : k < 16 := by omega
  have a0 : t 271 (4 * k + 0) = u 1 (14 * k + 0) := hA.ra k16 (by decide)
  have a1 : t 271 (4 * k + 1) = u 1 (14 * k + 1) := hA.ra k16 (by decide)
  have eT : lThen t k = rX7_balanceThen u k := by
    unfold lThen rX7_balanceThen
    rw [lb, ub, lu, ru, le, re]
  have t11 : t 277 11 = u 1 411 := hA.rt (by decide)
  refine ⟨?_, ?_, ?_, ?_, ?_, ?_, ?_, ?_, ?_, ?_, ?_, ?_, ?_, ?_, ?_, ?_, ?_, ?_, ?_, ?_⟩
  · exact (hof_g h hk (w := 0) (by decide) (by decide) (by decide) (by decide)).trans a0.symm
  · exact (hof_g h hk (w := 1) (by decide) (by decide) (by decide) (by decide)).trans a1.symm
  · exact (hof_g h hk (w := 2) (by decide) (by decide) (by decide) (by decide)).trans (hA.ra (f := 2) k16 (by decide)).symm
  · rw [hof_3 h hk, ru, lu]
  · rw [hof_4 h hk, Int32.add_comm, lb, ub]
  · exact (hof_g h hk (w := 5) (by decide) (by decide) (by decide) (by decide)).trans (hA.rb (f := 1) k16 (by decide)).symm
  · exact (hof_g h hk (w := 6) (by decide) (by decide) (by decide) (by decide)).trans (hA.rb (f := 2) k16 (by decide)).symm
  · have e7 : t 272 (4 * k + 3) = u 1 (14 * k + 7) := hA.rb k16 (by decide)
    rw [hof_7 h hk, e7]
  · exact (hof_g h hk (w := 8) (by decide) (by decide) (by decide) (by decide)).trans (hA.rc (f := 0) k16 (by decide)).symm
  · exact (hof_g h hk (w := 9) (by decide) (by decide) (by decide) (by decide)).trans (hA.rc (f := 1) k16 (by decide)).symm
  · exact (hof_g h hk (w := 10) (by decide) (by decide) (by decide) (by decide)).trans (hA.rc (f := 2) k16 (by decide)).symm
  · exact (hof_g h hk (w := 11) (by decide) (by decide) (by decide) (by decide)).trans (hA.rc (f := 3) k16 (by decide)).symm
  · exact (hof_g h hk (w := 12) (by decide) (by decide) (by decide) (by decide)).trans (hA.rd (f := 0) k16 (by decide)).symm
  · exact (hof_g h hk (w := 13) (by decide) (by decide) (by decide) (by decide)).trans (hA.rd (f := 1) k16 (by decide)).symm
  · rw [why_g h hk, hA.why k16]
  · rw [ifr_0 h hk, re, le]
  · rw [ifr_1 h hk, eT]
  · rw [ifr_2 h hk, eT]
  · rw [ifr_3 h hk, re, le, t11]
  · rw [a0, a1, h.m0 hk, h.m1 hk]
    exact at_g h hk
theorem ok_h1 (hA : lA t u) (h : zT H N (fun _ => N) Q P 0 t u) : rX6_houseOf t (t 277 1) 0 = -1000001 := by
  have hH := h.Hl
  have e1 : t 277 1 = nI H := (hA.rt (by decide)).trans h.m4
  rw [q_houseOf h, e1]
  unfold rX7_houseOf
  rw [if_pos (house_n h (Nat.le_refl _) (by omega))]
theorem ok_h2 (h : zT H N (fun _ => N) Q P 0 t u) : rX6_houseOf t (-1) 0 = -1000001 := by
  unfold rX6_houseOf
  rw [if_neg (fun c => c.1 (by decide +kernel))]
theorem ok_h3 (hA : lA t u) (h : zT H N (fun _ => N) Q P 0 t u) : rX6_why t (t 277 1) = -1000001 := by
  have hH := h.Hl
  have e1 : t 277 1 = nI H := (hA.rt (by decide)).trans h.m4
  rw [q_why h, e1]
  unfold rX7_why
  rw [if_pos (house_n h (Nat.le_refl _) (by omega))]
end LK
