/-! a reading keeps the table alike, and the sums in two ways -/
theorem li_o {i x : Nat} (h : lv i x) (hi : i ≠ 276) : (li i x < 340 ∨ 400 ≤ li i x) ∧ (¬ (i = 277 ∧ x = 9) → li i x ≠ 409) := by
  rcases h with ⟨rfl, h⟩ | ⟨rfl, h⟩ | ⟨rfl, h⟩ | ⟨rfl, h⟩ | ⟨rfl, h⟩ | ⟨rfl, h⟩ | ⟨rfl, h⟩
  · rw [li1]; omega
  · rw [li2]; omega
  · rw [li3]; omega
  · rw [li4]; omega
  · rw [li5]; omega
  · exact absurd rfl hi
  · rw [li7]; omega
theorem ifb1 {B : Int} (h1 : -99 ≤ B) (h2 : B ≤ 99) : (if Int32.ofInt B ≤ 0 then (0 : Int32) else 1) = (if B ≤ 0 then 0 else 1) := by
  have k : Int32.ofInt B ≤ 0 ↔ B ≤ 0 := by rw [zo0]; exact zoL (by omega) (by omega) (by decide) (by decide)
  by_cases c : B ≤ 0
  · rw [if_pos c, if_pos (k.mpr c)]
  · rw [if_neg c, if_neg (fun q => c (k.mp q))]
theorem ifb2 {B : Int} (h1 : -99 ≤ B) (h2 : B ≤ 99) : (if 0 ≤ Int32.ofInt B then (0 : Int32) else 1) = (if 0 ≤ B then 0 else 1) := by
  have k : 0 ≤ Int32.ofInt B ↔ 0 ≤ B := by rw [zo0]; exact zoL (by decide) (by decide) (by omega) (by omega)
  by_cases c : 0 ≤ B
  · rw [if_pos c, if_pos (k.mpr c)]
  · rw [if_neg c, if_neg (fun q => c (k.mp q))]
section LC
variable {H N : Nat} {ρ Q P : Nat → Nat} {b k : Nat} {c t u : zM}
set_option maxHeartbeats 1000000 in
theorem lA.set (hA : lA t u) (hk : k < 16) (B2 : Int) (U V : Int32) : lA (lSet k t (Int32.ofInt B2) (if B2 ≤ 0 then 0 else 1) (if 0 ≤ B2 then 0 else 1) U V) (zset (zset (zset (zset (mSet k u B2 V) 1 402 ((u 1 402) + 1)) 1 403 ((u 1 403) + V)) 1 404 ((u 1 404) + (V * (u 1 411)))) 1 405 ((u 1 405) + U)) := by
  have f2 : t 271 (4 * k + 2) = u 1 (14 * k + 2) := hA.ra hk (by decide)
  have f8 : t 273 (4 * k + 0) = u 1 (14 * k + 8) := hA.rc hk (by decide)
  have f9 : t 273 (4 * k + 1) = u 1 (14 * k + 9) := hA.rc hk (by decide)
  have f10 : t 273 (4 * k + 2) = u 1 (14 * k + 10) := hA.rc hk (by decide)
  have f11 : t 273 (4 * k + 3) = u 1 (14 * k + 11) := hA.rc hk (by decide)
  have t0 : t 277 0 = u 1 400 := hA.rt (by decide)
  have t2 : t 277 2 = u 1 402 := hA.rt (by decide)
  have t3 : t 277 3 = u 1 403 := hA.rt (by decide)
  have t4 : t 277 4 = u 1 404 := hA.rt (by decide)
  have t5 : t 277 5 = u 1 405 := hA.rt (by decide)
  have t11 : t 277 11 = u 1 411 := hA.rt (by decide)
  unfold lSet mSet
  rw [f2, f8, f9, f10, f11, t0, t2, t3, t4, t5, t11]
  have g1 := hA.b hk (f := 0) (y := 14 * k + 4) (by decide) (by omega) (Int32.ofInt B2)
  have g2 := g1.a hk (f := 3) (y := 14 * k + 3) (by decide) (by omega) (u 1 (14 * k + 2))
  have g3 := g2.b hk (f := 3) (y := 14 * k + 7) (by decide) (by omega) (u 1 400 + 1)
  have g4 := g3.c hk (f := 0) (y := 14 * k + 8) (by decide) (by omega) (u 1 (14 * k + 8) + 1)
  have g5 := g4.c hk (f := 1) (y := 14 * k + 9) (by decide) (by omega) (u 1 (14 * k + 9) + V)
  have g6 := g5.c hk (f := 2) (y := 14 * k + 10) (by decide) (by omega) (u 1 (14 * k + 10) + (if B2 ≤ 0 then 0 else 1))
  have g7 := g6.c hk (f := 3) (y := 14 * k + 11) (by decide) (by omega) (u 1 (14 * k + 11) + (if 0 ≤ B2 then 0 else 1))
  have g8 := g7.tt (x := 2) (y := 402) (by decide) rfl (u 1 402 + 1)
  have g9 := g8.tt (x := 3) (y := 403) (by decide) rfl (u 1 403 + V)
  have g10 := g9.tt (x := 4) (y := 404) (by decide) rfl (u 1 404 + V * u 1 411)
  exact g10.tt (x := 5) (y := 405) (by decide) rfl (u 1 405 + U)
theorem mSet_hi (k : Nat) (u : zM) (B2 : Int) (V : Int32) {y : Nat} (hk : k < 24) (h : 336 ≤ y) : mSet k u B2 V 1 y = u 1 y := by
  unfold mSet
  rw [zset_nk _ _ _ (by omega), zset_nk _ _ _ (by omega), zset_nk _ _ _ (by omega), zset_nk _ _ _ (by omega), zset_nk _ _ _ (by omega), zset_nk _ _ _ (by omega), zset_nk _ _ _ (by omega)]
set_option maxHeartbeats 1000000 in
theorem lA.read (hA : lA t u) (h : zT H N ρ Q P b c u) (hk : k < 16) : lA (sL_read t k) (sX7_reads u (nI k) k) ∧ ∃ V, V ≤ 1000 ∧ rL_read t k = nI V ∧ rX7_reads u (nI k) k = nI V := by
  obtain ⟨D, M, B, hD, hM, hB1, hB2, lb, ub, lu, ru, le, re, br⟩ := hA.use h hk
  have hU := usedN_lt D M
  generalize usedN D M = U at *
  obtain ⟨re1, re2⟩ := reads_e (nI k) hB1 hB2 br ru re
  have hb := balN_b (U := U) hB1 hB2
  refine ⟨?_, unitsN U B, unitsN_le hU, (rL_read_e t k).trans le, re2⟩
  obtain ⟨w, hw, es⟩ := sL_read_e t k (Int32.ofInt (balN U B)) _ _ (nI U) (nI (unitsN U B)) lu le (by rw [lb]; exact bal_c U B) (ifb1 hb.1 hb.2) (ifb2 hb.1 hb.2)
  have hT := hA.set hk (balN U B) (nI U) (nI (unitsN U B))
  have hcd := lcode_e hU lu le
  have ho : ∀ y, y = 400 ∨ y = 409 → (zset (zset (zset (zset (mSet k u (balN U B) (nI (unitsN U B))) 1 402 ((u 1 402) + 1)) 1 403 ((u 1 403) + (nI (unitsN U B)))) 1 404 ((u 1 404) + ((nI (unitsN U B)) * (u 1 411)))) 1 405 ((u 1 405) + (nI U))) 1 y = u 1 y := fun y hy => by
    rw [zset_nk _ _ _ (by omega), zset_nk _ _ _ (by omega), zset_nk _ _ _ (by omega), zset_nk _ _ _ (by omega)]
    exact mSet_hi k u _ _ (by omega) (by omega)
  rw [re1, es, hcd]
  generalize (zset (zset (zset (zset (mSet k u (balN U B) (nI (unitsN U B))) 1 402 ((u 1 402) + 1)) 1 403 ((u 1 403) + (nI (unitsN U B)))) 1 404 ((u 1 404) + ((nI (unitsN U B)) * (u 1 411)))) 1 405 ((u 1 405) + (nI U))) = R at *
  generalize lSet k t (Int32.ofInt (balN U B)) (if balN U B ≤ 0 then 0 else 1) (if 0 ≤ balN U B then 0 else 1) (nI U) (nI (unitsN U B)) = T at *
  obtain ⟨w', ⟨m1, m2, m3, m4⟩, me⟩ := enters_e R (nI k) (nI U) (nI (unitsN U B)) (Int32.ofInt (balN U B))
  obtain ⟨s1, s2, s3⟩ := hw
  rw [me]
  have t0 : t 277 0 = u 1 400 := hA.rt (by decide)
  have t9 : t 277 9 = u 1 409 := hA.rt (by decide)
  intro i x hv
  by_cases e : i = 276
  · subst e
    have hx : x < 60 := by
      rcases hv with ⟨e, _⟩ | ⟨e, _⟩ | ⟨e, _⟩ | ⟨e, _⟩ | ⟨e, _⟩ | ⟨_, h⟩ | ⟨e, _⟩
      · exact absurd e (by decide)
      · exact absurd e (by decide)
      · exact absurd e (by decide)
      · exact absurd e (by decide)
      · exact absurd e (by decide)
      · exact h
      · exact absurd e (by decide)
    rw [li6]
    unfold lLay mLay
    rw [zset_nk _ _ _ (show 340 + x ≠ 409 by omega)]
    by_cases h6 : x < 6
    · rcases (show x = 0 ∨ x = 1 ∨ x = 2 ∨ x = 3 ∨ x = 4 ∨ x = 5 by omega) with rfl | rfl | rfl | rfl | rfl | rfl
      · rw [zset_nk _ _ _ (by decide), zset_nk _ _ _ (by decide), zset_nk _ _ _ (by decide), zset_nk _ _ _ (by decide), zset_nk _ _ _ (by decide), zset_eq, zset_nk _ _ _ (by decide), zset_nk _ _ _ (by decide), zset_nk _ _ _ (by decide), zset_nk _ _ _ (by decide), zset_nk _ _ _ (by decide), zset_eq, m3 400 (by omega), ho 400 (Or.inl rfl), t0]
      · rw [zset_nk _ _ _ (by decide), zset_nk _ _ _ (by decide), zset_nk _ _ _ (by decide), zset_nk _ _ _ (by decide), zset_eq, zset_nk _ _ _ (by decide), zset_nk _ _ _ (by decide), zset_nk _ _ _ (by decide), zset_nk _ _ _ (by decide), zset_eq]
      · rw [zset_nk _ _ _ (by decide), zset_nk _ _ _ (by decide), zset_nk _ _ _ (by decide), zset_eq, zset_nk _ _ _ (by decide), zset_nk _ _ _ (by decide), zset_nk _ _ _ (by decide), zset_eq]
      · rw [zset_nk _ _ _ (by decide), zset_nk _ _ _ (by decide), zset_eq, zset_nk _ _ _ (by decide), zset_nk _ _ _ (by decide), zset_eq]
      · rw [zset_nk _ _ _ (by decide), zset_eq, zset_nk _ _ _ (by decide), zset_eq]
      · rw [zset_eq, zset_eq, Int32.add_comm]
    · rw [zset_nk _ _ _ (by omega), zset_nk _ _ _ (by omega), zset_nk _ _ _ (by omega), zset_nk _ _ _ (by omega), zset_nk _ _ _ (by omega), zset_nk _ _ _ (by omega), zset_nk _ _ _ (by omega), zset_nk _ _ _ (by omega), zset_nk _ _ _ (by omega), zset_nk _ _ _ (by omega), zset_nk _ _ _ (by omega), zset_nk _ _ _ (by omega), s1 x (by omega) hx (by omega), m1 x (by omega) hx (by omega), zset_idk _ _ _ _ (by decide)]
      have := hT.rl (x := x - 6) (by omega)
      rw [this]
      exact congrArg (R 1) (by omega)
  · obtain ⟨o1, o2⟩ := li_o hv e
    unfold lLay mLay
    rw [zset_idk _ _ _ _ e, zset_idk _ _ _ _ e, zset_idk _ _ _ _ e, zset_idk _ _ _ _ e, zset_idk _ _ _ _ e, zset_idk _ _ _ _ e, s3 i e]
    by_cases e9 : i = 277 ∧ x = 9
    · obtain ⟨rfl, rfl⟩ := e9
      rw [li7, zset_eq, zset_eq, ho 409 (Or.inr rfl), t9]
    · rw [zset_nk _ _ _ (o2 e9), zset_nk _ _ _ (by omega), zset_nk _ _ _ (by omega), zset_nk _ _ _ (by omega), zset_nk _ _ _ (by omega), zset_nk _ _ _ (by omega), zset_nk _ _ _ (by omega), m3 _ o1]
      refine Eq.trans ?_ (hT i x hv)
      by_cases ei : i = 277
      · subst ei; exact zset_nk _ _ _ (fun q => e9 ⟨rfl, q⟩)
      · exact zset_idk _ _ _ _ ei
end LC
