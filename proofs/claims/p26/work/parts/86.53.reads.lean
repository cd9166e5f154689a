theorem zset_same {t : zM} {i k : Nat} {v : Int32} (h : t i k = v) : zset t i k v = t := by
  funext x y
  by_cases e : x = i
  · subst e
    by_cases e2 : y = k
    · subst e2; rw [zset_eq, h]
    · rw [zset_nk _ _ _ e2]
  · rw [zset_idk _ _ _ _ e]
theorem zBd.fr {H N : Nat} {ρ : Nat → Nat} {b : Nat} {t t1 : zM} (h : zBd H N ρ b t) (h1 : ∀ k, k < 24 → t1 (b + 2 + k) = t (b + 2 + k)) (h4 : t1 b 4 = t b 4) (h5 : t1 b 5 = t b 5) (h3 : t1 (b + 37) = t (b + 37)) : zBd H N ρ b t1 := by
  obtain ⟨b1, b2, b3, b4, b5, b6⟩ := h
  refine ⟨b1, h4.trans b2, h5.trans b3, fun k hk => by rw [h1 k hk]; exact b4 k hk, fun k hk hH => by rw [h1 k hk]; exact b5 k hk hH, by rw [h3]; exact b6⟩
/-- one house changes -/
theorem zBd.one {H N : Nat} {ρ ρ1 : Nat → Nat} {b k : Nat} {t t1 : zM} (h : zBd H N ρ b t) (hk : k < H) (h1 : ∀ i, i < 24 → i ≠ k → t1 (b + 2 + i) = t (b + 2 + i)) (hρ : ∀ i, i < 24 → i ≠ k → ρ1 i = ρ i) (h4 : t1 b 4 = t b 4) (h5 : t1 b 5 = t b 5) (h3 : t1 (b + 37) = t (b + 37)) (hh : zHb (ρ1 k) (t1 (b + 2 + k))) : zBd H N ρ1 b t1 := by
  obtain ⟨b1, b2, b3, b4, b5, b6⟩ := h
  refine ⟨b1, h4.trans b2, h5.trans b3, fun i hi => ?_, fun i hi hH => ?_, by rw [h3]; exact b6⟩
  · by_cases e : i = k
    · subst e; exact hh
    · rw [h1 i hi e, hρ i hi e]; exact b4 i hi
  · rw [h1 i hi (by omega)]; exact b5 i hi hH
theorem zSt.fr {H : Nat} {Q P : Nat → Nat} {b : Nat} {t t1 u u1 : zM} (hH : H ≤ 24) (h : zSt H Q P b t u) (h0 : ∀ k, k < 24 → t1 (b + 2 + k) 0 = t (b + 2 + k) 0 ∧ t1 (b + 2 + k) 1 = t (b + 2 + k) 1) (h1 : ∀ j, j < 4 → t1 (b + 27 + 2 * j) 1 = t (b + 27 + 2 * j) 1 ∧ t1 (b + 28 + 2 * j) = t (b + 28 + 2 * j)) (h2 : ∀ j, j < 4 → u1 1 (336 + j) = u 1 (336 + j)) : zSt H Q P b t1 u1 := by
  obtain ⟨s1, s2, s3, s4⟩ := h
  refine ⟨fun k hk => ?_, fun k hk => ?_, fun j hj p hp => ?_, fun j hj => ?_⟩
  · rw [(h0 k (by omega)).1, (h0 k (by omega)).2]; exact s1 k hk
  · rw [(h1 _ (s1 k hk).1).2]; exact s2 k hk
  · rw [(h1 j hj).2]; exact s3 j hj p hp
  · rw [(h1 j hj).1, h2 j hj]; exact s4 j hj
theorem zadd0 (x : Int32) : x + Int32.ofInt 0 = x := by
  rw [← zo0]
  exact Int32.add_zero x
/-- the class's settling, in one row -/
def cSet (h : Nat) (t : zM) (B2 : Int) (day V : Int32) : zM := zset (zset (zset (zset (zset (zset (zset t h 6 (Int32.ofInt B2)) h 3 (t h 2)) h 7 day) h 8 (t h 8 + 1)) h 9 (t h 9 + V)) h 10 (t h 10 + (if B2 ≤ 0 then 0 else 1))) h 11 (t h 11 + (if 0 ≤ B2 then 0 else 1))
theorem settle_e {h U : Nat} {B : Int} {t : zM} (day : Int32) (hB1 : -99 ≤ B) (hB2 : B ≤ 99) (h6 : t h 6 = Int32.ofInt B) : sX1_settle h t day (nI U) (nI (unitsN U B)) = cSet h t (balN U B) day (nI (unitsN U B)) := by
  have hb := balN_b (U := U) hB1 hB2
  unfold sX1_settle cSet
  rw [h6, bal_c]
  rw [zo0]
  by_cases c1 : balN U B ≤ 0
  · rw [if_pos ((zoL (by omega) (by omega) (by decide) (by decide)).mpr c1), if_pos c1, zadd0]
    by_cases c2 : 0 ≤ balN U B
    · rw [if_pos ((zoL (by decide) (by decide) (by omega) (by omega)).mpr c2), if_pos c2, zadd0]
      rw [zset_same (k := 10), zset_same (k := 11)]
      · rw [zset_nk _ _ _ (by decide), zset_nk _ _ _ (by decide), zset_nk _ _ _ (by decide), zset_nk _ _ _ (by decide), zset_nk _ _ _ (by decide)]
      · rw [zset_nk _ _ _ (by decide), zset_nk _ _ _ (by decide), zset_nk _ _ _ (by decide), zset_nk _ _ _ (by decide), zset_nk _ _ _ (by decide)]
    · rw [if_neg (fun q => c2 ((zoL (by decide) (by decide) (by omega) (by omega)).mp q)), if_neg c2]
      rw [zset_same (k := 10)]
      rw [zset_nk _ _ _ (by decide), zset_nk _ _ _ (by decide), zset_nk _ _ _ (by decide), zset_nk _ _ _ (by decide), zset_nk _ _ _ (by decide)]
  · rw [if_neg (fun q => c1 ((zoL (by omega) (by omega) (by decide) (by decide)).mp q)), if_neg c1, if_pos (show 0 ≤ balN U B by omega), zadd0]
    rw [zset_same (k := 11)]
    rw [zset_nk _ _ _ (by decide), zset_nk _ _ _ (by decide), zset_nk _ _ _ (by decide), zset_nk _ _ _ (by decide), zset_nk _ _ _ (by decide), zset_nk _ _ _ (by decide)]
/-- the reference's -/
def mSet (k : Nat) (u : zM) (B2 : Int) (V : Int32) : zM := zset (zset (zset (zset (zset (zset (zset u 1 (14 * k + 4) (Int32.ofInt B2)) 1 (14 * k + 3) (u 1 (14 * k + 2))) 1 (14 * k + 7) ((u 1 400) + 1)) 1 (14 * k + 8) ((u 1 (14 * k + 8)) + 1)) 1 (14 * k + 9) ((u 1 (14 * k + 9)) + V)) 1 (14 * k + 10) ((u 1 (14 * k + 10)) + (if B2 ≤ 0 then 0 else 1))) 1 (14 * k + 11) ((u 1 (14 * k + 11)) + (if 0 ≤ B2 then 0 else 1))
theorem reads_e {k U : Nat} {B : Int} {u : zM} (x : Int32) (hB1 : -99 ≤ B) (hB2 : B ≤ 99) (e4 : rX7_balanceThen u k = Int32.ofInt (balN U B)) (eu : rX7_used u k = nI U) (ev : rX7_unitsOf u k = nI (unitsN U B)) :
    sX7_reads u x k = sX7_enters (zset (zset (zset (zset (mSet k u (balN U B) (nI (unitsN U B))) 1 402 ((u 1 402) + 1)) 1 403 ((u 1 403) + nI (unitsN U B))) 1 404 ((u 1 404) + (nI (unitsN U B) * (u 1 411)))) 1 405 ((u 1 405) + nI U)) x (nI U) (nI (unitsN U B)) (Int32.ofInt (balN U B)) ∧ rX7_reads u x k = nI (unitsN U B) := by
  have hb := balN_b (U := U) hB1 hB2
  unfold sX7_reads rX7_reads mSet
  rw [e4, eu, ev]
  constructor
  · rw [zo0]
    by_cases c1 : balN U B ≤ 0
    · rw [if_pos ((zoL (by omega) (by omega) (by decide) (by decide)).mpr c1), if_pos c1]
      by_cases c2 : 0 ≤ balN U B
      · rw [if_pos ((zoL (by decide) (by decide) (by omega) (by omega)).mpr c2), if_pos c2]
      · rw [if_neg (fun q => c2 ((zoL (by decide) (by decide) (by omega) (by omega)).mp q)), if_neg c2]
    · rw [if_neg (fun q => c1 ((zoL (by omega) (by omega) (by decide) (by decide)).mp q)), if_neg c1]
      rw [if_pos ((zoL (by decide) (by decide) (by omega) (by omega)).mpr (show 0 ≤ balN U B by omega)), if_pos (show 0 ≤ balN U B by omega)]
  · repeat' split
    all_goals rfl
/-- what the relation says of a house's use, units and balance -/
theorem zT.use {H N : Nat} {ρ Q P : Nat → Nat} {b k : Nat} {t u : zM} (h : zT H N ρ Q P b t u) (hk : k < 24) : ∃ (D M : Nat) (B : Int), D < 100000 ∧ M < 100000 ∧ -99 ≤ B ∧ B ≤ 99 ∧ t (b + 2 + k) 2 = nI D ∧ t (b + 2 + k) 3 = nI M ∧ t (b + 2 + k) 6 = Int32.ofInt B ∧ rX1_used (b + 2 + k) t = nI (usedN D M) ∧ rX7_used u k = nI (usedN D M) ∧ rX6_unitsFor (nI (usedN D M)) (Int32.ofInt B) = nI (unitsN (usedN D M) B) ∧ rX7_unitsOf u k = nI (unitsN (usedN D M) B) ∧ rX7_balanceThen u k = Int32.ofInt (balN (usedN D M) B) := by
  obtain ⟨⟨e1, -, -, -, -⟩, ⟨-, -, -, b4, -, -⟩, -, -⟩ := h
  obtain ⟨⟨D, hD, d1⟩, ⟨M, hM, m1⟩, -, -, ⟨B, hB1, hB2, b1⟩, -, -⟩ := b4 k hk
  have u2 : u 1 (14 * k + 2) = nI D := (e1 k hk 2 (by decide) (by decide)).trans d1
  have u3 : u 1 (14 * k + 3) = nI M := (e1 k hk 3 (by decide) (by decide)).trans m1
  have u4 : u 1 (14 * k + 4) = Int32.ofInt B := (e1 k hk 6 (by decide) (by decide)).trans b1
  have uu := used_r u2 u3 hD hM
  have uv := units_r u4 uu (usedN_lt D M) hB1 hB2
  exact ⟨D, M, B, hD, hM, hB1, hB2, d1, m1, b1, used_c d1 m1 hD hM, uu, units_c (usedN_lt D M) hB1 hB2, uv, bal_r u4 uu uv⟩
set_option maxHeartbeats 1000000 in
theorem zT.read {H N : Nat} {ρ Q P : Nat → Nat} {b k : Nat} {t u : zM} (h : zT H N ρ Q P b t u) (hN : N ≤ 20000) (hk : k < H) (x : Int32) : zT H N ρ Q P b (sX5_readMeter b t k x) (sX7_reads u x k) ∧ ∃ V, V ≤ 1000 ∧ rX5_readMeter b t k x = nI V ∧ rX7_reads u x k = nI V := by
  have hH := h.2.1.1
  have hk2 : k < 24 := by omega
  obtain ⟨D, M, B, hD, hM, hB1, hB2, d1, m1, b1, uc, ur, vc, vr, br⟩ := h.use hk2
  obtain ⟨re1, re2⟩ := reads_e x hB1 hB2 br ur vr
  have hb := balN_b (U := usedN D M) hB1 hB2
  have hU := usedN_lt D M
  obtain ⟨hE, hB, hS, hL⟩ := h
  obtain ⟨e1, e2, e3, ⟨e4, e5⟩, e6⟩ := hE
  refine ⟨?_, unitsN (usedN D M) B, unitsN_le hU, ?_, re2⟩
  rotate_left
  · unfold rX5_readMeter
    rw [uc, b1, vc]
  have s6 : (cSet (b + 2 + k) t (balN (usedN D M) B) (t b 5) (nI (unitsN (usedN D M) B))) (b + 2 + k) 6 = Int32.ofInt (balN (usedN D M) B) := by
    unfold cSet
    rw [zset_nk _ _ _ (by decide), zset_nk _ _ _ (by decide), zset_nk _ _ _ (by decide), zset_nk _ _ _ (by decide), zset_nk _ _ _ (by decide), zset_nk _ _ _ (by decide), zset_eq]
  have so : ∀ i, i ≠ b + 2 + k → cSet (b + 2 + k) t (balN (usedN D M) B) (t b 5) (nI (unitsN (usedN D M) B)) i = t i := fun i hi => by
    unfold cSet
    simp only [zset_id _ _ _ hi]
  have s0 : ∀ y, y = 0 ∨ y = 1 ∨ y = 2 ∨ y = 4 ∨ y = 5 ∨ y = 12 → cSet (b + 2 + k) t (balN (usedN D M) B) (t b 5) (nI (unitsN (usedN D M) B)) (b + 2 + k) y = t (b + 2 + k) y := fun y hy => by
    unfold cSet
    rw [zset_nk _ _ _ (by omega), zset_nk _ _ _ (by omega), zset_nk _ _ _ (by omega), zset_nk _ _ _ (by omega), zset_nk _ _ _ (by omega), zset_nk _ _ _ (by omega), zset_nk _ _ _ (by omega)]
  have s3 : cSet (b + 2 + k) t (balN (usedN D M) B) (t b 5) (nI (unitsN (usedN D M) B)) (b + 2 + k) 3 = nI D := by
    unfold cSet
    rw [zset_nk _ _ _ (by decide), zset_nk _ _ _ (by decide), zset_nk _ _ _ (by decide), zset_nk _ _ _ (by decide), zset_nk _ _ _ (by decide), zset_eq, d1]
  have s7 : cSet (b + 2 + k) t (balN (usedN D M) B) (t b 5) (nI (unitsN (usedN D M) B)) (b + 2 + k) 7 = t b 5 := by
    unfold cSet
    rw [zset_nk _ _ _ (by decide), zset_nk _ _ _ (by decide), zset_nk _ _ _ (by decide), zset_nk _ _ _ (by decide), zset_eq]
  -- the reference's settled numbers, with the class's values
  have eM : zE b (cSet (b + 2 + k) t (balN (usedN D M) B) (t b 5) (nI (unitsN (usedN D M) B))) (mSet k u (balN (usedN D M) B) (nI (unitsN (usedN D M) B))) := by
    have g0 : zE b t u := ⟨e1, e2, e3, ⟨e4, e5⟩, e6⟩
    have f2 : u 1 (14 * k + 2) = t (b + 2 + k) 2 := e1 k hk2 2 (by decide) (by decide)
    have f8 : u 1 (14 * k + 8) = t (b + 2 + k) 8 := e1 k hk2 8 (by decide) (by decide)
    have f9 : u 1 (14 * k + 9) = t (b + 2 + k) 9 := e1 k hk2 9 (by decide) (by decide)
    have f10 : u 1 (14 * k + 10) = t (b + 2 + k) 10 := e1 k hk2 10 (by decide) (by decide)
    have f11 : u 1 (14 * k + 11) = t (b + 2 + k) 11 := e1 k hk2 11 (by decide) (by decide)
    unfold cSet mSet
    rw [f2, f8, f9, f10, f11, e4]
    have g1 := g0.h hk2 (f := 6) (by decide) (by decide) (Int32.ofInt (balN (usedN D M) B))
    have g2 := g1.h hk2 (f := 3) (by decide) (by decide) (t (b + 2 + k) 2)
    have g3 := g2.d hk2 (t b 5)
    have g4 := g3.h hk2 (f := 8) (by decide) (by decide) (t (b + 2 + k) 8 + 1)
    have g5 := g4.h hk2 (f := 9) (by decide) (by decide) (t (b + 2 + k) 9 + nI (unitsN (usedN D M) B))
    have g6 := g5.h hk2 (f := 10) (by decide) (by decide) (t (b + 2 + k) 10 + (if balN (usedN D M) B ≤ 0 then 0 else 1))
    exact g6.h hk2 (f := 11) (by decide) (by decide) (t (b + 2 + k) 11 + (if 0 ≤ balN (usedN D M) B then 0 else 1))
  have mo : ∀ y, y < 14 * k ∨ 14 * k + 14 ≤ y → mSet k u (balN (usedN D M) B) (nI (unitsN (usedN D M) B)) 1 y = u 1 y := fun y hy => by
    unfold mSet
    rw [zset_nk _ _ _ (by omega), zset_nk _ _ _ (by omega), zset_nk _ _ _ (by omega), zset_nk _ _ _ (by omega), zset_nk _ _ _ (by omega), zset_nk _ _ _ (by omega), zset_nk _ _ _ (by omega)]
  rw [re1]
  unfold sX5_readMeter
  rw [uc, b1, vc, settle_e _ hB1 hB2 b1, s6]
  generalize hT : cSet (b + 2 + k) t (balN (usedN D M) B) (t b 5) (nI (unitsN (usedN D M) B)) = T at so s0 s3 s6 s7 eM
  generalize hR : mSet k u (balN (usedN D M) B) (nI (unitsN (usedN D M) B)) = R at mo eM
  generalize hUU : usedN D M = U at *
  have ao : ∀ i, i ≠ b + 35 → i ≠ b + 36 → sX2_add (b + 35) T (t (b + 35) 1).toNatClampNeg (t b 5) x (nI U) (nI (unitsN U B)) (Int32.ofInt (balN U B)) i = T i := fun i h1 h2 => sX2_add_o _ _ _ _ _ _ _ _ h1 h2
  generalize hA : sX2_add (b + 35) T (t (b + 35) 1).toNatClampNeg (t b 5) x (nI U) (nI (unitsN U B)) (Int32.ofInt (balN U B)) = A at *
  refine ⟨?_, ?_, ?_, ?_⟩
  · have a0 : zE b A R := eM.fr (fun i hi => ao _ (by omega) (by omega)) (ao _ (by omega) (by omega)) (ao _ (by omega) (by omega)) (fun _ _ => rfl)
    have v2 : u 1 402 = t b 6 := e3 6 (by decide) (by decide)
    have v3 : u 1 403 = t b 7 := e3 7 (by decide) (by decide)
    have v4 : u 1 404 = t b 8 := e3 8 (by decide) (by decide)
    have v5 : u 1 405 = t b 9 := e3 9 (by decide) (by decide)
    have v6 : u 1 411 = t (b + 37) 1 := e6 1 (by decide)
    rw [v2, v3, v4, v5, v6]
    have a1 := a0.c (c := 6) (x := 402) (by decide) (by decide) (t b 6 + 1) (by decide)
    have a2 := a1.c (c := 7) (x := 403) (by decide) (by decide) (t b 7 + nI (unitsN U B)) (by decide)
    have a3 := a2.c (c := 8) (x := 404) (by decide) (by decide) (t b 8 + (nI (unitsN U B) * t (b + 37) 1)) (by decide)
    have a4 := a3.c (c := 9) (x := 405) (by decide) (by decide) (t b 9 + nI U) (by decide)
    exact a4.fr (fun _ _ => rfl) rfl rfl (fun y hy => enters_o _ _ _ _ _ (by omega))
  · have q : zBd H N ρ b T := hB.one hk (fun i hi hne => so _ (by omega)) (fun _ _ _ => rfl) (by rw [so _ (by omega)]) (by rw [so _ (by omega)]) (so _ (by omega)) (by
      obtain ⟨g1, g2, g3, g4, g5, g6, g7⟩ := hB.2.2.2.1 k hk2
      refine ⟨?_, ⟨D, hD, s3⟩, ?_, ?_, ⟨balN U B, hb.1, hb.2, s6⟩, Or.inr ⟨N, hN, s7.trans hB.2.2.1⟩, ?_⟩
      · rw [s0 2 (by decide)]; exact g1
      · rw [s0 4 (by decide)]; exact g3
      · rw [s0 5 (by decide)]; exact g4
      · rw [s0 12 (by decide)]; exact g7)
    refine q.fr (fun i hi => ?_) ?_ ?_ ?_
    · rw [zset_id _ _ _ (by omega), zset_id _ _ _ (by omega), zset_id _ _ _ (by omega), zset_id _ _ _ (by omega)]; exact ao _ (by omega) (by omega)
    · rw [zset_nk _ _ _ (by decide), zset_nk _ _ _ (by decide), zset_nk _ _ _ (by decide), zset_nk _ _ _ (by decide), ao _ (by omega) (by omega)]
    · rw [zset_nk _ _ _ (by decide), zset_nk _ _ _ (by decide), zset_nk _ _ _ (by decide), zset_nk _ _ _ (by decide), ao _ (by omega) (by omega)]
    · rw [zset_id _ _ _ (by omega), zset_id _ _ _ (by omega), zset_id _ _ _ (by omega), zset_id _ _ _ (by omega)]; exact ao _ (by omega) (by omega)
  · refine hS.fr hH (fun i hi => ?_) (fun j hj => ?_) (fun j hj => ?_)
    · rw [zset_id _ _ _ (by omega), zset_id _ _ _ (by omega), zset_id _ _ _ (by omega), zset_id _ _ _ (by omega), ao _ (by omega) (by omega)]
      by_cases e : i = k
      · subst e; exact ⟨s0 0 (by decide), s0 1 (by decide)⟩
      · rw [so _ (by omega)]; exact ⟨rfl, rfl⟩
    · rw [zset_id _ _ _ (by omega), zset_id _ _ _ (by omega), zset_id _ _ _ (by omega), zset_id _ _ _ (by omega), ao _ (by omega) (by omega), so _ (by omega)]
      refine ⟨rfl, ?_⟩
      rw [zset_id _ _ _ (by omega), zset_id _ _ _ (by omega), zset_id _ _ _ (by omega), zset_id _ _ _ (by omega), ao _ (by omega) (by omega), so _ (by omega)]
    · rw [enters_o _ _ _ _ _ (by omega), zset_nk _ _ _ (by omega), zset_nk _ _ _ (by omega), zset_nk _ _ _ (by omega), zset_nk _ _ _ (by omega)]
      exact mo _ (by omega)
  · have l0 : zLe b T (zset (zset (zset (zset R 1 402 ((u 1 402) + 1)) 1 403 ((u 1 403) + nI (unitsN U B))) 1 404 ((u 1 404) + (nI (unitsN U B) * (u 1 411)))) 1 405 ((u 1 405) + nI U)) := hL.fr (so _ (by omega)) (so _ (by omega)) (fun y hy => by
      rw [zset_nk _ _ _ (by omega), zset_nk _ _ _ (by omega), zset_nk _ _ _ (by omega), zset_nk _ _ _ (by omega)]
      exact mo _ (by omega))
    have l1 := l0.read (a1 := t b 5) (a2 := x) (a3 := nI U) (a4 := nI (unitsN U B)) (a5 := Int32.ofInt (balN U B)) (by
      rw [zset_nk _ _ _ (by decide), zset_nk _ _ _ (by decide), zset_nk _ _ _ (by decide), zset_nk _ _ _ (by decide), mo _ (by omega)]
      exact e4) (code_eq hU)
    rw [so (b + 35) (by omega), hA] at l1
    exact l1.fr (by rw [zset_id _ _ _ (by omega), zset_id _ _ _ (by omega), zset_id _ _ _ (by omega), zset_id _ _ _ (by omega)]) (by rw [zset_id _ _ _ (by omega), zset_id _ _ _ (by omega), zset_id _ _ _ (by omega), zset_id _ _ _ (by omega)]) (fun _ _ => rfl)
