/-! the law's day -/
section LF
variable {H N : Nat} {ρ Q P : Nat → Nat} {b : Nat} {c t u : zM}
theorem dial_v {D F : Nat} (hD : D < 100000) (hF : F ≤ 999) : (nI D + nI F) - (if nI D + nI F ≤ 99999 then (0 : Int32) else 100000) = nI ((D + F) % 100000) := by
  rw [nI_add]
  by_cases q : D + F ≤ 99999
  · rw [if_pos (show nI (D + F) ≤ 99999 from (nI_leI (b := 99999) (by omega) (by decide)).mpr q), Int32.sub_zero]
    exact congrArg nI (by omega)
  · rw [if_neg (show ¬ nI (D + F) ≤ 99999 from fun x => q (zle (b := 99999) (by omega) (by decide) x))]
    have e : nI (D + F) - 100000 = nI (D + F - 100000) := nI_sub (b := 100000) (by omega)
    rw [e]
    exact congrArg nI (by omega)
/-- the day behind its dials, by the law -/
def lNow (w : zM) : zM := zset w 277 0 (w 277 0 + 1)
theorem lA.dials (hA : lA t u) (h : zT H N ρ Q P b c u) (hH : H ≤ 16) (hI : lI H t) (t0 : zM) (N2 : Nat) : ∃ w, lA w (mDl u H) ∧ lI H w ∧ lsL_day_3 t0 N2 17 0 t = lsL_day_101 t0 N2 21 0 0 (rL_round (lNow w) ((N2 + 1) % 4)).toNatClampNeg ((N2 + 1) % 4) (sL_round (lNow w) ((N2 + 1) % 4)) ∧ lL_day_3 t0 N2 17 0 t = lL_day_101 t0 N2 21 0 0 (rL_round (lNow w) ((N2 + 1) % 4)).toNatClampNeg ((N2 + 1) % 4) (sL_round (lNow w) ((N2 + 1) % 4)) := by
  have key : ∀ (j k : Nat) (w : zM), 17 ≤ k + j → k ≤ H → lA w (mDl u k) → lI H w → ∃ w', lA w' (mDl u H) ∧ lI H w' ∧ lsL_day_3 t0 N2 j k w = lsL_day_101 t0 N2 21 0 0 (rL_round (lNow w') ((N2 + 1) % 4)).toNatClampNeg ((N2 + 1) % 4) (sL_round (lNow w') ((N2 + 1) % 4)) ∧ lL_day_3 t0 N2 j k w = lL_day_101 t0 N2 21 0 0 (rL_round (lNow w') ((N2 + 1) % 4)).toNatClampNeg ((N2 + 1) % 4) (sL_round (lNow w') ((N2 + 1) % 4)) := by
    intro j
    induction j with
    | zero => intro k w h0 hk; omega
    | succ j ih =>
      intro k w h0 hk hw hi
      have e1 : w 277 1 = nI H := by
        have e : w 277 1 = mDl u k 1 401 := hw.rt (by decide)
        rw [e, mDl_k u k (by decide) (by omega)]
        exact h.m4
      unfold lsL_day_3 lL_day_3
      rw [e1]
      by_cases q1 : nI H ≤ nI k
      · have : k = H := by have := zle (by omega) (by omega) q1; omega
        subst this
        rw [if_pos q1, if_pos q1]
        exact ⟨w, hw, hi, rfl, rfl⟩
      · have hk2 : k < H := zge (by omega) (by omega) q1
        rw [if_neg q1, if_neg q1]
        have qd := h.dl k hk
        obtain ⟨⟨D, hD, d1⟩, a2, ⟨F, hF, f1⟩, -⟩ := qd.2.1.2.2.2.1 k (by omega)
        have u2 : mDl u k 1 (14 * k + 2) = nI D := (qd.1.1 k (by omega) 2 (by decide) (by decide)).trans d1
        have u5 : mDl u k 1 (14 * k + 5) = nI F := (qd.1.1 k (by omega) 4 (by decide) (by decide)).trans f1
        have w2 : w 271 (4 * k + 2) = nI D := (hw.ra (k := k) (f := 2) (by omega) (by decide)).trans u2
        have w5 : w 272 (4 * k + 1) = nI F := (hw.rb (k := k) (f := 1) (by omega) (by decide)).trans u5
        rw [w2, w5, zset_zset, dial_v hD hF]
        have er : zrem ((mDl u k) 1 (14 * k + 2) + (mDl u k) 1 (14 * k + 5)) 100000 = nI ((D + F) % 100000) := by
          rw [u2, u5, nI_add]
          exact zrem_n (b := 100000) (by omega) (by decide) (by decide)
        have em : mDl u (k + 1) = zset (mDl u k) 1 (14 * k + 2) (nI ((D + F) % 100000)) := by rw [← er]; rfl
        refine ih (k + 1) _ (by omega) hk2 ?_ (hi.fr (fun i hi => zset_idk _ _ _ _ (by decide)) (zset_idk _ _ _ _ (by decide)) (zset_idk _ _ _ _ (by decide)) (zset_idk _ _ _ _ (by decide)))
        rw [em]
        exact hw.a (by omega) (by decide) (by omega) _
  exact key 17 0 t (by decide) (Nat.zero_le _) hA hI
theorem lA.year (t0 u0 : zM) (N2 : Nat) (hH : H ≤ 16) : ∀ (j j2 i : Nat) (v : Int32) (w z : zM), 17 ≤ i + j → 25 ≤ i + j2 → i ≤ H → lA w z → z 1 401 = nI H → lI H w → lA (lsL_day_203 t0 N2 j i v w) (lsX7_refunds_14 u0 j2 i z) ∧ lL_day_203 t0 N2 j i v w = v ∧ lI H (lsL_day_203 t0 N2 j i v w) := by
  intro j
  induction j with
  | zero => intro j2 i v w z h0 h2 hi; omega
  | succ j ih =>
    intro j2 i v w z h0 h2 hi hw hz hI
    cases j2 with
    | zero => omega
    | succ j2 =>
    have e1 : w 277 1 = nI H := (hw.rt (by decide)).trans hz
    unfold lsL_day_203 lL_day_203 lsX7_refunds_14
    rw [e1, hz]
    by_cases q1 : nI H ≤ nI i
    · rw [if_pos q1, if_pos q1, if_pos q1]
      exact ⟨hw, rfl, hI⟩
    · have hi2 : i < H := zge (by omega) (by omega) q1
      have f4 : w 272 (4 * i + 0) = z 1 (14 * i + 4) := hw.rb (by omega) (by decide)
      have f12 : w 277 12 = z 1 412 := hw.rt (by decide)
      have fd : w 274 (2 * i + 0) = z 1 (14 * i + 12) := hw.rd (by omega) (by decide)
      have f6 : w 277 6 = z 1 406 := hw.rt (by decide)
      have f7 : w 277 7 = z 1 407 := hw.rt (by decide)
      have f11 : w 277 11 = z 1 411 := hw.rt (by decide)
      rw [if_neg q1, if_neg q1, if_neg q1, f4, f12]
      by_cases q2 : z 1 (14 * i + 4) < z 1 412
      · rw [if_pos q2, if_pos q2, if_pos q2]
        exact ih j2 (i + 1) v w z (by omega) (by omega) hi2 hw hz hI
      · rw [if_neg q2, if_neg q2, if_neg q2, fd, f6, f7, f11, Int32.sub_eq_add_neg]
        have g1 := hw.b (k := i) (f := 0) (y := 14 * i + 4) (by omega) (by decide) (by omega) (z 1 (14 * i + 4) + (-100))
        have g2 := g1.d (k := i) (f := 0) (y := 14 * i + 12) (by omega) (by decide) (by omega) (z 1 (14 * i + 12) + 1)
        have g3 := g2.tt (x := 6) (y := 406) (by decide) rfl (z 1 406 + 1)
        have g4 := g3.tt (x := 7) (y := 407) (by decide) rfl (z 1 407 + z 1 411)
        refine ih j2 (i + 1) v _ _ (by omega) (by omega) hi2 g4 ?_ ?_
        · rw [zset_nk _ _ _ (by decide), zset_nk _ _ _ (by decide), zset_nk _ _ _ (by omega), zset_nk _ _ _ (by omega)]
          exact hz
        · have k2 : ∀ i9, zset (zset (zset (zset w 272 (4 * i + 0) (z 1 (14 * i + 4) + (-100))) 274 (2 * i + 0) (z 1 (14 * i + 12) + 1)) 277 6 (z 1 406 + 1)) 277 7 (z 1 407 + z 1 411) 272 (4 * i9 + 0) = zset w 272 (4 * i + 0) (z 1 (14 * i + 4) + (-100)) 272 (4 * i9 + 0) := fun i9 => by
            rw [zset_idk _ _ _ _ (by decide), zset_idk _ _ _ _ (by decide), zset_idk _ _ _ _ (by decide)]
          have hs := lSu_put (t := w) (S := zset (zset (zset (zset w 272 (4 * i + 0) (z 1 (14 * i + 4) + (-100))) 274 (2 * i + 0) (z 1 (14 * i + 12) + 1)) 277 6 (z 1 406 + 1)) 277 7 (z 1 407 + z 1 411)) (k := i) (-100) (by rw [k2, zset_eq, f4]) H hi2 (fun i9 h9 hne => by rw [k2, zset_nk _ _ _ (by omega)])
          unfold lI
          rw [hs, zset_nk _ _ _ (show (6 : Nat) ≠ 7 by decide), zset_eq, zset_nk _ _ _ (show (3 : Nat) ≠ 7 by decide), zset_nk _ _ _ (show (3 : Nat) ≠ 6 by decide), zset_nk _ _ _ (show (5 : Nat) ≠ 7 by decide), zset_nk _ _ _ (show (5 : Nat) ≠ 6 by decide), zset_idk _ _ _ _ (show (277 : Nat) ≠ 274 by decide), zset_idk _ _ _ _ (show (277 : Nat) ≠ 274 by decide), zset_idk _ _ _ _ (show (277 : Nat) ≠ 272 by decide), zset_idk _ _ _ _ (show (277 : Nat) ≠ 272 by decide), ← f6]
          exact lI_f _ _ _ _ hI
end LF
