/-! what copies and orders' doing give -/
/-- the town at b holds the same ints in S as the town at b2 in t -/
def zTe (b b2 : Nat) (S t : zM) : Prop := (∀ k, k < 24 → ∀ w, w < 14 → S (b + 2 + k) w = t (b2 + 2 + k) w) ∧ (∀ j, j < 4 → S (b + 27 + 2 * j) 1 = t (b2 + 27 + 2 * j) 1 ∧ ∀ p, p < 20 → S (b + 28 + 2 * j) p = t (b2 + 28 + 2 * j) p) ∧ S (b + 35) 1 = t (b2 + 35) 1 ∧ S (b + 35) 2 = t (b2 + 35) 2 ∧ (∀ r, r < 60 → S (b + 36) r = t (b2 + 36) r) ∧ (∀ i, i < 4 → S (b + 37) i = t (b2 + 37) i) ∧ ∀ w, 4 ≤ w → w ≤ 12 → S b w = t b2 w
theorem zcp_eq {t : zM} {a c n k : Nat} (h : k < n) : zcp t a c n c k = t a k := by
  unfold zcp
  rw [if_pos rfl, if_pos h]
theorem sX4_copyFrom_e (b : Nat) (t : zM) (b2 : Nat) : sX4_copyFrom b t b2 b 1 = t b2 1 ∧ (∀ p, p < 20 → sX4_copyFrom b t b2 (b + 1) p = t (b2 + 1) p) := by
  unfold sX4_copyFrom
  refine ⟨zset_eq _ _ _ _, fun p hp => ?_⟩
  rw [zset_idk _ _ _ _ (by omega), zcp_eq hp]
theorem sX2_copyFrom_e (b : Nat) (t : zM) (b2 : Nat) : sX2_copyFrom b t b2 b 1 = t b2 1 ∧ sX2_copyFrom b t b2 b 2 = t b2 2 ∧ (∀ p, p < 60 → sX2_copyFrom b t b2 (b + 1) p = t (b2 + 1) p) := by
  unfold sX2_copyFrom
  refine ⟨?_, zset_eq _ _ _ _, fun p hp => ?_⟩
  · rw [zset_nk _ _ _ (by decide), zset_eq]
  · rw [zset_idk _ _ _ _ (by omega), zset_idk _ _ _ _ (by omega), zcp_eq hp]
theorem lsX5_copyFrom_31_e (b : Nat) (t0 t : zM) (b2 : Nat) (h : b2 + 38 ≤ b ∨ b + 38 ≤ b2) : ∀ (j i : Nat) (w : zM), i ≤ 4 → 5 ≤ i + j → (∀ k, k < 24 → ∀ y, y < 14 → w (b + 2 + k) y = t (b2 + 2 + k) y) → (∀ q, q < i → w (b + 27 + 2 * q) 1 = t (b2 + 27 + 2 * q) 1 ∧ ∀ p, p < 20 → w (b + 28 + 2 * q) p = t (b2 + 28 + 2 * q) p) → (∀ x, x < b ∨ b + 38 ≤ x → w x = t x) → zTe b b2 (lsX5_copyFrom_31 b t0 b2 j i w) t := by
  intro j
  induction j with
  | zero => intro i w hi hj; omega
  | succ j ih =>
    intro i w hi hj hH hS hO
    unfold lsX5_copyFrom_31
    split
    · have hi4 : i = 4 := by have := zle (a := 4) (by decide) (by omega) ‹(4 : Int32) ≤ nI i›; omega
      have e2 := sX2_copyFrom_e (b + 35) w (b2 + 35)
      have ho : ∀ x, x ≠ b + 35 → x ≠ b + 36 → sX2_copyFrom (b + 35) w (b2 + 35) x = w x := fun x h1 h2 => sX2_copyFrom_o _ _ _ h1 h2
      refine ⟨fun k hk y hy => ?_, fun q hq => ⟨?_, fun p hp => ?_⟩, ?_, ?_, fun r hr => ?_, fun i9 hi9 => ?_, fun y h1 h2 => ?_⟩
      · simp only [zset_id _ _ _ (show b + 2 + k ≠ b by omega)]
        rw [zcp_id _ _ _ _ (by omega), ho _ (by omega) (by omega)]
        exact hH k hk y hy
      · simp only [zset_id _ _ _ (show b + 27 + 2 * q ≠ b by omega)]
        rw [zcp_id _ _ _ _ (by omega), ho _ (by omega) (by omega)]
        exact (hS q (by omega)).1
      · simp only [zset_id _ _ _ (show b + 28 + 2 * q ≠ b by omega)]
        rw [zcp_id _ _ _ _ (by omega), ho _ (by omega) (by omega)]
        exact (hS q (by omega)).2 p hp
      · simp only [zset_id _ _ _ (show b + 35 ≠ b by omega)]
        rw [zcp_id _ _ _ _ (by omega), e2.1, hO _ (by omega)]
      · simp only [zset_id _ _ _ (show b + 35 ≠ b by omega)]
        rw [zcp_id _ _ _ _ (by omega), e2.2.1, hO _ (by omega)]
      · simp only [zset_id _ _ _ (show b + 36 ≠ b by omega)]
        rw [zcp_id _ _ _ _ (by omega), show b + 36 = b + 35 + 1 from rfl, e2.2.2 r hr, hO _ (by omega)]
      · simp only [zset_id _ _ _ (show b + 37 ≠ b by omega)]
        rw [zcp_eq hi9, ho _ (by omega) (by omega), hO _ (by omega)]
      · have e : sX2_copyFrom (b + 35) w (b2 + 35) b2 = t b2 := (ho b2 (by omega) (by omega)).trans (hO b2 (by omega))
        rw [e]
        rcases (show y = 4 ∨ y = 5 ∨ y = 6 ∨ y = 7 ∨ y = 8 ∨ y = 9 ∨ y = 10 ∨ y = 11 ∨ y = 12 by omega) with rfl | rfl | rfl | rfl | rfl | rfl | rfl | rfl | rfl <;> simp [zset, upd]
    · have hi4 : i < 4 := zge (b := 4) (by omega) (by decide) ‹¬ (4 : Int32) ≤ nI i›
      have e4 := sX4_copyFrom_e (b + 27 + 2 * i) w (b2 + 27 + 2 * i)
      have ho : ∀ x, x ≠ b + 27 + 2 * i → x ≠ b + 27 + 2 * i + 1 → sX4_copyFrom (b + 27 + 2 * i) w (b2 + 27 + 2 * i) x = w x := fun x h1 h2 => sX4_copyFrom_o _ _ _ h1 h2
      refine ih _ _ (by omega) (by omega) (fun k hk y hy => ?_) (fun q hq => ?_) (fun x hx => ?_)
      · rw [ho _ (by omega) (by omega)]
        exact hH k hk y hy
      · by_cases e : q = i
        · subst e
          refine ⟨by rw [e4.1, hO _ (by omega)], fun p hp => ?_⟩
          rw [show b + 28 + 2 * q = b + 27 + 2 * q + 1 by omega, e4.2 p hp, hO _ (by omega), show b2 + 28 + 2 * q = b2 + 27 + 2 * q + 1 by omega]
        · rw [ho _ (by omega) (by omega), ho _ (by omega) (by omega)]
          exact hS q (by omega)
      · rw [ho _ (by omega) (by omega)]
        exact hO x hx
theorem lsX5_copyFrom_2_e (b : Nat) (t0 t : zM) (b2 : Nat) (h : b2 + 38 ≤ b ∨ b + 38 ≤ b2) : ∀ (j k : Nat) (u : zM), k ≤ 24 → 25 ≤ k + j → (∀ q, q < k → ∀ y, y < 14 → u (b + 2 + q) y = t (b2 + 2 + q) y) → (∀ x, x < b ∨ b + 38 ≤ x → u x = t x) → zTe b b2 (lsX5_copyFrom_2 b t0 b2 j k u) t := by
  intro j
  induction j with
  | zero => intro k u hk hj; omega
  | succ j ih =>
    intro k u hk hj hH hO
    unfold lsX5_copyFrom_2
    split
    · have hk4 : k = 24 := by have := zle (a := 24) (by decide) (by omega) ‹(24 : Int32) ≤ nI k›; omega
      exact lsX5_copyFrom_31_e b t0 t b2 h _ _ _ (by decide) (by decide) (fun q hq => hH q (by omega)) (fun q hq => absurd hq (by omega)) hO
    · have hk4 : k < 24 := zge (b := 24) (by omega) (by decide) ‹¬ (24 : Int32) ≤ nI k›
      refine ih _ _ (by omega) (by omega) (fun q hq y hy => ?_) (fun x hx => ?_)
      · by_cases e : q = k
        · subst e
          rw [sX1_copyFrom_e _ _ _ hy, hO _ (by omega)]
        · rw [sX1_copyFrom_o _ _ _ (by omega)]
          exact hH q (by omega) y hy
      · rw [sX1_copyFrom_o _ _ _ (by omega)]
        exact hO x hx
/-- a copy holds the same -/
theorem sX5_copyFrom_e (b : Nat) (t : zM) (b2 : Nat) (h : b2 + 38 ≤ b ∨ b + 38 ≤ b2) : zTe b b2 (sX5_copyFrom b t b2) t := lsX5_copyFrom_2_e b t t b2 h _ _ _ (by decide) (by decide) (fun _ hq => absurd hq (by omega)) (fun _ _ => rfl)
theorem zTe.ok {b b2 : Nat} {S t : zM} (h : zTe b b2 S t) (hk : zOK b2 t) : zOK b S := by
  obtain ⟨N, hN, h1, h2, h3⟩ := hk
  obtain ⟨-, -, e1, -, -, -, e2⟩ := h
  exact ⟨N, hN, (e2 5 (by decide) (by decide)).trans h1, by rw [e1]; exact h2, by rw [e2 4 (by decide) (by decide)]; exact h3⟩
theorem zTe.bits {b b2 : Nat} {S t : zM} (h : zTe b b2 S t) (hb : zBits b2 t) : zBits b S := fun k hk => by
  rw [h.1 k hk 5 (by decide)]
  exact hb k hk
