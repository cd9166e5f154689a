section ZSU
variable {H N : Nat} {ρ Q P : Nat → Nat} {b : Nat} {t u : zM}
theorem c24 {k : Nat} (hk : k < 24) : ¬ (24 : Int32) ≤ nI k := fun q => absurd (zle (a := 24) (by decide) (by omega) q) (by omega)
theorem cH {k H : Nat} (hH : H ≤ 24) (hk : k < H) : ¬ nI H ≤ nI k := fun q => absurd (zle (by omega) (by omega) q) (by omega)
theorem c24' : (24 : Int32) ≤ nI 24 := by decide +kernel
theorem zT.z (h : zT H N ρ Q P b t u) {k : Nat} (hk : k < 24) (hH : H ≤ k) : t (b + 2 + k) 5 = 0 ∧ t (b + 2 + k) 6 = 0 := ⟨(h.2.1.2.2.2.2.1 k hk hH).2.2.1, (h.2.1.2.2.2.2.1 k hk hH).2.2.2⟩
theorem zT.bl (h : zT H N ρ Q P b t u) {k : Nat} (hk : k < 24) : ∃ B : Int, -99 ≤ B ∧ B ≤ 99 ∧ t (b + 2 + k) 6 = Int32.ofInt B ∧ u 1 (14 * k + 4) = Int32.ofInt B := by
  obtain ⟨-, -, -, -, ⟨B, h1, h2, e⟩, -, -⟩ := h.2.1.2.2.2.1 k hk
  exact ⟨B, h1, h2, e, (h.1.1 k hk 6 (by decide) (by decide)).trans e⟩
theorem lock_tail (h : zT H N ρ Q P b t u) : ∀ (j k : Nat) (v : Int32), H ≤ k → k ≤ 24 → 24 < k + j → lX5_housesLocked_13 b t j k v = v := by
  intro j
  induction j with
  | zero => intro k v _ hk hj; omega
  | succ j ih =>
    intro k v hH hk hj
    rw [lX5_housesLocked_13]
    by_cases e : k = 24
    · subst e; rw [if_pos c24']
    · rw [if_neg (c24 (by omega)), (h.z (by omega) hH).1, if_pos rfl]
      exact ih (k + 1) v (by omega) (by omega) (by omega)
theorem lock_loop (h : zT H N ρ Q P b t u) : ∀ (j k : Nat) (v : Int32), k ≤ H → 24 < k + j → lX5_housesLocked_13 b t j k v = lX7_locked_4 u j k v := by
  intro j
  induction j with
  | zero => intro k v hk hj; have := h.Hl; omega
  | succ j ih =>
    intro k v hk hj
    have hH := h.Hl
    by_cases e : k = H
    · subst e
      rw [lock_tail h _ _ _ (Nat.le_refl _) hH hj, lX7_locked_4, h.m4, if_pos (Int32.le_refl _)]
    · rw [lX5_housesLocked_13, lX7_locked_4, h.m4, if_neg (c24 (by omega)), if_neg (cH hH (by omega))]
      have e6 : u 1 (14 * k + 6) = t (b + 2 + k) 5 := h.1.1 k (by omega) 5 (by decide) (by decide)
      rw [e6]
      rcases (h.2.1.2.2.2.1 k (by omega)).2.2.2.1 with q | q
      · rw [q, if_pos rfl, Int32.add_zero]
        exact ih (k + 1) v (by omega) (by omega)
      · rw [q, if_neg (by decide +kernel)]
        exact ih (k + 1) _ (by omega) (by omega)
theorem sum_tail (h : zT H N ρ Q P b t u) : ∀ (j k : Nat) (v : Int32), H ≤ k → k ≤ 24 → 24 < k + j → lX5_balances_13 b t j k v = v := by
  intro j
  induction j with
  | zero => intro k v _ hk hj; omega
  | succ j ih =>
    intro k v hH hk hj
    rw [lX5_balances_13]
    by_cases e : k = 24
    · subst e; rw [if_pos c24']
    · rw [if_neg (c24 (by omega)), (h.z (by omega) hH).2, Int32.add_zero]
      exact ih (k + 1) v (by omega) (by omega) (by omega)
theorem sum_loop (h : zT H N ρ Q P b t u) : ∀ (j k : Nat) (v : Int32), k ≤ H → 24 < k + j → 10000 + lX5_balances_13 b t j k v = lX7_balances_6 u j k (10000 + v) := by
  intro j
  induction j with
  | zero => intro k v hk hj; have := h.Hl; omega
  | succ j ih =>
    intro k v hk hj
    have hH := h.Hl
    by_cases e : k = H
    · subst e
      rw [sum_tail h _ _ _ (Nat.le_refl _) hH hj, lX7_balances_6, h.m4, if_pos (Int32.le_refl _)]
    · rw [lX5_balances_13, lX7_balances_6, h.m4, if_neg (c24 (by omega)), if_neg (cH hH (by omega))]
      have e6 : u 1 (14 * k + 4) = t (b + 2 + k) 6 := h.1.1 k (by omega) 6 (by decide) (by decide)
      rw [e6, Int32.add_assoc]
      exact ih (k + 1) _ (by omega) (by omega)
theorem btw_tail (h : zT H N ρ Q P b t u) {l g : Int32} (hz : (0 : Int32) < l ∨ g < (0 : Int32)) : ∀ (j k : Nat) (v : Int32), H ≤ k → k ≤ 24 → 24 < k + j → lX5_housesBetween_16 b t l g j k v = v := by
  intro j
  induction j with
  | zero => intro k v _ hk hj; omega
  | succ j ih =>
    intro k v hH hk hj
    rw [lX5_housesBetween_16]
    by_cases e : k = 24
    · subst e; rw [if_pos c24']
    · rw [if_neg (c24 (by omega)), (h.z (by omega) hH).2]
      have := ih (k + 1) v (by omega) (by omega) (by omega)
      by_cases c : (0 : Int32) < l
      · rw [if_pos c]; exact this
      · rw [if_neg c, if_pos (hz.resolve_left c)]; exact this
theorem above_loop (h : zT H N ρ Q P b t u) : ∀ (j k : Nat) (v : Int32), k ≤ H → 24 < k + j → lX5_housesBetween_16 b t 1 100 j k v = lX7_signed_4 u 1 j k v := by
  intro j
  induction j with
  | zero => intro k v hk hj; have := h.Hl; omega
  | succ j ih =>
    intro k v hk hj
    have hH := h.Hl
    by_cases e : k = H
    · subst e
      rw [btw_tail h (Or.inl (by decide +kernel)) _ _ _ (Nat.le_refl _) hH hj, lX7_signed_4, h.m4, if_pos (Int32.le_refl _)]
    · rw [lX5_housesBetween_16, lX7_signed_4, h.m4, if_neg (c24 (by omega)), if_neg (cH hH (by omega))]
      obtain ⟨B, b1, b2, e1, e2⟩ := h.bl (show k < 24 by omega)
      rw [e1, e2, Int32.one_mul, zo0]
      rw [if_neg (show ¬ (100 : Int32) < Int32.ofInt B from fun q => absurd ((zoT (A := 100) (by decide) (by decide) (by omega) (by omega)).mp q) (by omega))]
      by_cases c : B ≤ 0
      · rw [if_pos ((zoL (by omega) (by omega) (by decide) (by decide)).mpr c), if_pos (show Int32.ofInt B < 1 from (zoT (B := 1) (by omega) (by omega) (by decide) (by decide)).mpr (by omega)), zadd0]
        exact ih (k + 1) v (by omega) (by omega)
      · rw [if_neg (fun q => c ((zoL (by omega) (by omega) (by decide) (by decide)).mp q)), if_neg (show ¬ Int32.ofInt B < 1 from fun q => absurd ((zoT (B := 1) (by omega) (by omega) (by decide) (by decide)).mp q) (by omega))]
        exact ih (k + 1) _ (by omega) (by omega)
theorem below_loop (h : zT H N ρ Q P b t u) : ∀ (j k : Nat) (v : Int32), k ≤ H → 24 < k + j → lX5_housesBetween_16 b t (-100) (-1) j k v = lX7_signed_4 u (-1) j k v := by
  intro j
  induction j with
  | zero => intro k v hk hj; have := h.Hl; omega
  | succ j ih =>
    intro k v hk hj
    have hH := h.Hl
    by_cases e : k = H
    · subst e
      rw [btw_tail h (Or.inr (by decide +kernel)) _ _ _ (Nat.le_refl _) hH hj, lX7_signed_4, h.m4, if_pos (Int32.le_refl _)]
    · rw [lX5_housesBetween_16, lX7_signed_4, h.m4, if_neg (c24 (by omega)), if_neg (cH hH (by omega))]
      obtain ⟨B, b1, b2, e1, e2⟩ := h.bl (show k < 24 by omega)
      have em : (-1 : Int32) * Int32.ofInt B = Int32.ofInt (-1 * B) := by
        rw [Int32.ofInt_mul]; rfl
      have en : (-100 : Int32) = Int32.ofInt (-100) := by decide +kernel
      have en1 : (-1 : Int32) = Int32.ofInt (-1) := by decide +kernel
      rw [e1, e2, em, en, en1, zo0]
      rw [if_neg (show ¬ Int32.ofInt B < Int32.ofInt (-100) from fun q => absurd ((zoT (by omega) (by omega) (by decide) (by decide)).mp q) (by omega))]
      by_cases c : 0 ≤ B
      · rw [if_pos ((zoL (A := -1 * B) (by omega) (by omega) (by decide) (by decide)).mpr (by omega)), if_pos ((zoT (by decide) (by decide) (by omega) (by omega)).mpr (by omega)), zadd0]
        have := ih (k + 1) v (by omega) (by omega)
        rw [en, en1] at this
        exact this
      · rw [if_neg (show ¬ Int32.ofInt (-1) < Int32.ofInt B from fun q => absurd ((zoT (by decide) (by decide) (by omega) (by omega)).mp q) (by omega)), if_neg (show ¬ Int32.ofInt (-1 * B) ≤ Int32.ofInt 0 from fun q => c (by have := (zoL (A := -1 * B) (by omega) (by omega) (by decide) (by decide)).mp q; omega))]
        have := ih (k + 1) (v + 1) (by omega) (by omega)
        rw [en, en1] at this
        exact this
theorem zoN {X : Int} (h : 0 ≤ X) : Int32.ofInt X = nI X.toNat := by
  rw [zoI, Int.toNat_of_nonneg h]
theorem ahead_loop (h : zT H N ρ Q P b t u) {k : Nat} (hk : k < H) (x : Int32) : ∀ (j i : Nat) (v : Int32), i ≤ H → lX5_housesAhead_5 b t (nI k) (t (b + 2 + k) 6) j i v = lX7_wronged_26 u x k j i v := by
  intro j
  induction j with
  | zero => intro i v hi; rfl
  | succ j ih =>
    intro i v hi
    have hH := h.Hl
    rw [lX5_housesAhead_5, lX7_wronged_26, h.m4, h.h4]
    by_cases c : nI H ≤ nI i
    · rw [if_pos c, if_pos c]
    · have hi2 : i < H := zge (by omega) (by omega) c
      rw [if_neg c, if_neg c, if_neg (c24 (by omega))]
      obtain ⟨B, b1, b2, e1, e2⟩ := h.bl (show k < 24 by omega)
      obtain ⟨C, c1, c2, e3, e4⟩ := h.bl (show i < 24 by omega)
      have ih1 := ih (i + 1) (v + 1) (by omega)
      have ih0 := ih (i + 1) v (by omega)
      rw [e1] at ih1 ih0
      rw [e1, e2, e3, e4, ← Int32.ofInt_sub, zo0]
      have k1 : Int32.ofInt 0 < Int32.ofInt (C - B) ↔ B < C := by rw [zoT (by decide) (by decide) (by omega) (by omega)]; omega
      have k2 : Int32.ofInt B < Int32.ofInt C ↔ B < C := zoT (by omega) (by omega) (by omega) (by omega)
      have k3 : Int32.ofInt (C - B) = Int32.ofInt 0 ↔ C = B := by rw [zoE (by omega) (by omega) (by decide) (by decide)]; omega
      have k4 : Int32.ofInt C = Int32.ofInt B ↔ C = B := zoE (by omega) (by omega) (by omega) (by omega)
      by_cases d1 : B < C
      · rw [if_pos (k1.mpr d1), if_pos (k2.mpr d1)]
        exact ih1
      · rw [if_neg (fun q => d1 (k1.mp q)), if_neg (fun q => d1 (k2.mp q))]
        by_cases d2 : C = B
        · rw [if_pos (k3.mpr d2), if_pos (k4.mpr d2)]
          by_cases d3 : nI k ≤ nI i
          · rw [if_pos d3, if_pos d3, zadd0]
            exact ih0
          · rw [if_neg d3, if_neg d3]
            exact ih1
        · rw [if_neg (fun q => d2 (k3.mp q)), if_neg (fun q => d2 (k4.mp q)), zadd0]
          exact ih0
theorem wronged_loop (h : zT H N ρ Q P b t u) (x : Int32) : ∀ (j i : Nat), i ≤ H → lX5_houseByBalance_2 b t x j i = lX7_wronged_9 u x j i := by
  intro j
  induction j with
  | zero => intro i hi; rfl
  | succ j ih =>
    intro i hi
    have hH := h.Hl
    rw [lX5_houseByBalance_2, lX7_wronged_9, h.m4, h.h4]
    by_cases c : nI H ≤ nI i
    · rw [if_pos c, if_pos c]
    · have hi2 : i < H := zge (by omega) (by omega) c
      rw [if_neg c, if_neg c, if_neg (c24 (by omega))]
      rw [show rX5_housesAhead b t (nI i) (t (b + 2 + i) 6) = lX7_wronged_26 u x i 25 0 0 from ahead_loop h hi2 x 25 0 0 (Nat.zero_le _), ih (i + 1) (by omega)]
theorem q_wronged (h : zT H N ρ Q P 0 t u) (a1 : Int32) : rX6_wronged t a1 = rX7_wronged u a1 := by
  unfold rX6_wronged rX7_wronged rX5_houseByBalance
  rw [wronged_loop h a1 25 0 (Nat.zero_le _)]
set_option maxHeartbeats 4000000 in
theorem q_count (h : zT H N ρ Q P 0 t u) (e15 : t 266 2 = u 0 4) (e16 : t 268 1 = u 0 7) (a1 : Int32) : rX6_count t a1 = rX7_count u a1 := by
  have f : ∀ c, 6 ≤ c → c ≤ 12 → u 1 (396 + c) = t 0 c := h.1.2.2.1
  have s : ∀ i, i < 4 → u 1 (410 + i) = t (0 + 37) i := h.1.2.2.2.2
  by_cases c : rX7_in a1 0 23 = 0
  · have hn : ∀ v : Int32, ¬ rX7_in v 0 23 = 0 → ¬ a1 = v := fun v hv e => hv (e ▸ c)
    have hl : rX6_count t a1 = -1000001 := by
      unfold rX6_count rX5_number
      rw [if_neg (hn 15 (by decide +kernel)), if_neg (hn 16 (by decide +kernel)), if_neg (hn 0 (by decide +kernel)), if_neg (hn 1 (by decide +kernel)), if_neg (hn 2 (by decide +kernel)), if_neg (hn 3 (by decide +kernel)), if_neg (hn 4 (by decide +kernel)), if_neg (hn 5 (by decide +kernel)), if_neg (hn 6 (by decide +kernel)), if_neg (hn 7 (by decide +kernel)), if_neg (hn 8 (by decide +kernel)), if_neg (hn 9 (by decide +kernel)), if_neg (hn 10 (by decide +kernel)), if_neg (hn 11 (by decide +kernel)), if_neg (hn 12 (by decide +kernel)), if_neg (hn 13 (by decide +kernel)), if_neg (hn 14 (by decide +kernel))]
      by_cases c1 : a1 < 20
      · rw [if_pos c1]
      · rw [if_neg c1]
        by_cases c2 : 24 ≤ a1
        · rw [if_pos c2]
        · refine absurd c (in_ok (fun q => c1 (Int32.lt_trans q (by decide +kernel))) (fun q => ?_))
          have h0 : ¬ a1 < 0 := fun q => c1 (Int32.lt_trans q (by decide +kernel))
          obtain ⟨j, hj, rfl⟩ := nI_of h0
          have := zge (b := 24) hj (by decide) c2
          have := zlt (a := 23) (by decide) hj q
          omega
    rw [hl]
    unfold rX7_count
    rw [if_neg (hn 0 (by decide +kernel)), if_neg (hn 1 (by decide +kernel)), if_neg (hn 2 (by decide +kernel)), if_neg (hn 3 (by decide +kernel)), if_neg (hn 4 (by decide +kernel)), if_neg (hn 5 (by decide +kernel)), if_neg (hn 6 (by decide +kernel)), if_neg (hn 7 (by decide +kernel)), if_neg (hn 8 (by decide +kernel)), if_neg (hn 9 (by decide +kernel)), if_neg (hn 10 (by decide +kernel)), if_neg (hn 11 (by decide +kernel)), if_neg (hn 12 (by decide +kernel)), if_neg (hn 13 (by decide +kernel)), if_neg (hn 14 (by decide +kernel)), if_neg (hn 15 (by decide +kernel)), if_neg (hn 16 (by decide +kernel)), if_neg (hn 17 (by decide +kernel)), if_neg (hn 18 (by decide +kernel)), if_neg (hn 19 (by decide +kernel)), if_neg (hn 20 (by decide +kernel)), if_neg (hn 21 (by decide +kernel)), if_neg (hn 22 (by decide +kernel)), if_neg (hn 23 (by decide +kernel))]
  · obtain ⟨w, hw, rfl⟩ := in_of (m := 23) (by decide) c
    unfold rX6_count rX5_number rX7_count
    rcases (show w = 0 ∨ w = 1 ∨ w = 2 ∨ w = 3 ∨ w = 4 ∨ w = 5 ∨ w = 6 ∨ w = 7 ∨ w = 8 ∨ w = 9 ∨ w = 10 ∨ w = 11 ∨ w = 12 ∨ w = 13 ∨ w = 14 ∨ w = 15 ∨ w = 16 ∨ w = 17 ∨ w = 18 ∨ w = 19 ∨ w = 20 ∨ w = 21 ∨ w = 22 ∨ w = 23 by omega) with rfl | rfl | rfl | rfl | rfl | rfl | rfl | rfl | rfl | rfl | rfl | rfl | rfl | rfl | rfl | rfl | rfl | rfl | rfl | rfl | rfl | rfl | rfl | rfl
    · rw [if_neg (by decide +kernel), if_neg (by decide +kernel), if_pos (by decide +kernel), if_pos (by decide +kernel)]
      exact h.1.2.2.2.1.1.symm
    · rw [if_neg (by decide +kernel), if_neg (by decide +kernel), if_neg (by decide +kernel), if_pos (by decide +kernel), if_neg (by decide +kernel), if_pos (by decide +kernel)]
      exact h.1.2.2.2.1.2.symm
    · rw [if_neg (by decide +kernel), if_neg (by decide +kernel), if_neg (by decide +kernel), if_neg (by decide +kernel), if_pos (by decide +kernel), if_neg (by decide +kernel), if_neg (by decide +kernel), if_pos (by decide +kernel)]
      exact lock_loop h 25 0 0 (Nat.zero_le _) (by decide)
    · rw [if_neg (by decide +kernel), if_neg (by decide +kernel), if_neg (by decide +kernel), if_neg (by decide +kernel), if_neg (by decide +kernel), if_pos (by decide +kernel), if_neg (by decide +kernel), if_neg (by decide +kernel), if_neg (by decide +kernel), if_pos (by decide +kernel)]
      exact (f 6 (by decide) (by decide)).symm
    · rw [if_neg (by decide +kernel), if_neg (by decide +kernel), if_neg (by decide +kernel), if_neg (by decide +kernel), if_neg (by decide +kernel), if_neg (by decide +kernel), if_pos (by decide +kernel), if_neg (by decide +kernel), if_neg (by decide +kernel), if_neg (by decide +kernel), if_neg (by decide +kernel), if_pos (by decide +kernel)]
      exact (f 7 (by decide) (by decide)).symm
    · rw [if_neg (by decide +kernel), if_neg (by decide +kernel), if_neg (by decide +kernel), if_neg (by decide +kernel), if_neg (by decide +kernel), if_neg (by decide +kernel), if_neg (by decide +kernel), if_pos (by decide +kernel), if_neg (by decide +kernel), if_neg (by decide +kernel), if_neg (by decide +kernel), if_neg (by decide +kernel), if_neg (by decide +kernel), if_pos (by decide +kernel)]
      exact (f 8 (by decide) (by decide)).symm
    · rw [if_neg (by decide +kernel), if_neg (by decide +kernel), if_neg (by decide +kernel), if_neg (by decide +kernel), if_neg (by decide +kernel), if_neg (by decide +kernel), if_neg (by decide +kernel), if_neg (by decide +kernel), if_pos (by decide +kernel), if_neg (by decide +kernel), if_neg (by decide +kernel), if_neg (by decide +kernel), if_neg (by decide +kernel), if_neg (by decide +kernel), if_neg (by decide +kernel), if_pos (by decide +kernel)]
      exact (f 9 (by decide) (by decide)).symm
    · rw [if_neg (by decide +kernel), if_neg (by decide +kernel), if_neg (by decide +kernel), if_neg (by decide +kernel), if_neg (by decide +kernel), if_neg (by decide +kernel), if_neg (by decide +kernel), if_neg (by decide +kernel), if_neg (by decide +kernel), if_pos (by decide +kernel), if_neg (by decide +kernel), if_neg (by decide +kernel), if_neg (by decide +kernel), if_neg (by decide +kernel), if_neg (by decide +kernel), if_neg (by decide +kernel), if_neg (by decide +kernel), if_pos (by decide +kernel)]
      exact (f 10 (by decide) (by decide)).symm
    · rw [if_neg (by decide +kernel), if_neg (by decide +kernel), if_neg (by decide +kernel), if_neg (by decide +kernel), if_neg (by decide +kernel), if_neg (by decide +kernel), if_neg (by decide +kernel), if_neg (by decide +kernel), if_neg (by decide +kernel), if_neg (by decide +kernel), if_pos (by decide +kernel), if_neg (by decide +kernel), if_neg (by decide +kernel), if_neg (by decide +kernel), if_neg (by decide +kernel), if_neg (by decide +kernel), if_neg (by decide +kernel), if_neg (by decide +kernel), if_neg (by decide +kernel), if_pos (by decide +kernel)]
      exact (f 11 (by decide) (by decide)).symm
    · rw [if_neg (by decide +kernel), if_neg (by decide +kernel), if_neg (by decide +kernel), if_neg (by decide +kernel), if_neg (by decide +kernel), if_neg (by decide +kernel), if_neg (by decide +kernel), if_neg (by decide +kernel), if_neg (by decide +kernel), if_neg (by decide +kernel), if_neg (by decide +kernel), if_pos (by decide +kernel), if_neg (by decide +kernel), if_neg (by decide +kernel), if_neg (by decide +kernel), if_neg (by decide +kernel), if_neg (by decide +kernel), if_neg (by decide +kernel), if_neg (by decide +kernel), if_neg (by decide +kernel), if_neg (by decide +kernel), if_pos (by decide +kernel)]
      exact above_loop h 25 0 0 (Nat.zero_le _) (by decide)
    · rw [if_neg (by decide +kernel), if_neg (by decide +kernel), if_neg (by decide +kernel), if_neg (by decide +kernel), if_neg (by decide +kernel), if_neg (by decide +kernel), if_neg (by decide +kernel), if_neg (by decide +kernel), if_neg (by decide +kernel), if_neg (by decide +kernel), if_neg (by decide +kernel), if_neg (by decide +kernel), if_pos (by decide +kernel), if_neg (by decide +kernel), if_neg (by decide +kernel), if_neg (by decide +kernel), if_neg (by decide +kernel), if_neg (by decide +kernel), if_neg (by decide +kernel), if_neg (by decide +kernel), if_neg (by decide +kernel), if_neg (by decide +kernel), if_neg (by decide +kernel), if_pos (by decide +kernel)]
      exact below_loop h 25 0 0 (Nat.zero_le _) (by decide)
    · rw [if_neg (by decide +kernel), if_neg (by decide +kernel), if_neg (by decide +kernel), if_neg (by decide +kernel), if_neg (by decide +kernel), if_neg (by decide +kernel), if_neg (by decide +kernel), if_neg (by decide +kernel), if_neg (by decide +kernel), if_neg (by decide +kernel), if_neg (by decide +kernel), if_neg (by decide +kernel), if_neg (by decide +kernel), if_pos (by decide +kernel), if_neg (by decide +kernel), if_neg (by decide +kernel), if_neg (by decide +kernel), if_neg (by decide +kernel), if_neg (by decide +kernel), if_neg (by decide +kernel), if_neg (by decide +kernel), if_neg (by decide +kernel), if_neg (by decide +kernel), if_neg (by decide +kernel), if_neg (by decide +kernel), if_pos (by decide +kernel)]
      exact sum_loop h 25 0 0 (Nat.zero_le _) (by decide)
    · rw [if_neg (by decide +kernel), if_neg (by decide +kernel), if_neg (by decide +kernel), if_neg (by decide +kernel), if_neg (by decide +kernel), if_neg (by decide +kernel), if_neg (by decide +kernel), if_neg (by decide +kernel), if_neg (by decide +kernel), if_neg (by decide +kernel), if_neg (by decide +kernel), if_neg (by decide +kernel), if_neg (by decide +kernel), if_neg (by decide +kernel), if_pos (by decide +kernel), if_neg (by decide +kernel), if_neg (by decide +kernel), if_neg (by decide +kernel), if_neg (by decide +kernel), if_neg (by decide +kernel), if_neg (by decide +kernel), if_neg (by decide +kernel), if_neg (by decide +kernel), if_neg (by decide +kernel), if_neg (by decide +kernel), if_neg (by decide +kernel), if_neg (by decide +kernel), if_pos (by decide +kernel)]
      rw [show u 1 403 = t 0 7 from f 7 (by decide) (by decide), show u 1 405 = t 0 9 from f 9 (by decide) (by decide), show u 1 406 = t 0 10 from f 10 (by decide) (by decide)]
    · rw [if_neg (by decide +kernel), if_neg (by decide +kernel), if_neg (by decide +kernel), if_neg (by decide +kernel), if_neg (by decide +kernel), if_neg (by decide +kernel), if_neg (by decide +kernel), if_neg (by decide +kernel), if_neg (by decide +kernel), if_neg (by decide +kernel), if_neg (by decide +kernel), if_neg (by decide +kernel), if_neg (by decide +kernel), if_neg (by decide +kernel), if_neg (by decide +kernel), if_pos (by decide +kernel), if_neg (by decide +kernel), if_neg (by decide +kernel), if_neg (by decide +kernel), if_neg (by decide +kernel), if_neg (by decide +kernel), if_neg (by decide +kernel), if_neg (by decide +kernel), if_neg (by decide +kernel), if_neg (by decide +kernel), if_neg (by decide +kernel), if_neg (by decide +kernel), if_neg (by decide +kernel), if_neg (by decide +kernel), if_pos (by decide +kernel)]
      exact (f 12 (by decide) (by decide)).symm
    · rw [if_neg (by decide +kernel), if_neg (by decide +kernel), if_neg (by decide +kernel), if_neg (by decide +kernel), if_neg (by decide +kernel), if_neg (by decide +kernel), if_neg (by decide +kernel), if_neg (by decide +kernel), if_neg (by decide +kernel), if_neg (by decide +kernel), if_neg (by decide +kernel), if_neg (by decide +kernel), if_neg (by decide +kernel), if_neg (by decide +kernel), if_neg (by decide +kernel), if_neg (by decide +kernel), if_pos (by decide +kernel), if_neg (by decide +kernel), if_neg (by decide +kernel), if_neg (by decide +kernel), if_neg (by decide +kernel), if_neg (by decide +kernel), if_neg (by decide +kernel), if_neg (by decide +kernel), if_neg (by decide +kernel), if_neg (by decide +kernel), if_neg (by decide +kernel), if_neg (by decide +kernel), if_neg (by decide +kernel), if_neg (by decide +kernel), if_neg (by decide +kernel), if_pos (by decide +kernel)]
      obtain ⟨w, E, -, -, -, l4, l5, -⟩ := h.2.2.2; exact l4.trans l5.symm
    · rw [if_pos (by decide +kernel), if_neg (by decide +kernel), if_neg (by decide +kernel), if_neg (by decide +kernel), if_neg (by decide +kernel), if_neg (by decide +kernel), if_neg (by decide +kernel), if_neg (by decide +kernel), if_neg (by decide +kernel), if_neg (by decide +kernel), if_neg (by decide +kernel), if_neg (by decide +kernel), if_neg (by decide +kernel), if_neg (by decide +kernel), if_neg (by decide +kernel), if_neg (by decide +kernel), if_pos (by decide +kernel)]
      exact e15
    · rw [if_neg (by decide +kernel), if_pos (by decide +kernel), if_neg (by decide +kernel), if_neg (by decide +kernel), if_neg (by decide +kernel), if_neg (by decide +kernel), if_neg (by decide +kernel), if_neg (by decide +kernel), if_neg (by decide +kernel), if_neg (by decide +kernel), if_neg (by decide +kernel), if_neg (by decide +kernel), if_neg (by decide +kernel), if_neg (by decide +kernel), if_neg (by decide +kernel), if_neg (by decide +kernel), if_neg (by decide +kernel), if_neg (by decide +kernel), if_pos (by decide +kernel)]
      exact e16
    · rw [if_neg (by decide +kernel), if_neg (by decide +kernel), if_neg (by decide +kernel), if_neg (by decide +kernel), if_neg (by decide +kernel), if_neg (by decide +kernel), if_neg (by decide +kernel), if_neg (by decide +kernel), if_neg (by decide +kernel), if_neg (by decide +kernel), if_neg (by decide +kernel), if_neg (by decide +kernel), if_neg (by decide +kernel), if_neg (by decide +kernel), if_neg (by decide +kernel), if_neg (by decide +kernel), if_neg (by decide +kernel), if_pos (by decide +kernel), if_neg (by decide +kernel), if_neg (by decide +kernel), if_neg (by decide +kernel), if_neg (by decide +kernel), if_neg (by decide +kernel), if_neg (by decide +kernel), if_neg (by decide +kernel), if_neg (by decide +kernel), if_neg (by decide +kernel), if_neg (by decide +kernel), if_neg (by decide +kernel), if_neg (by decide +kernel), if_neg (by decide +kernel), if_neg (by decide +kernel), if_neg (by decide +kernel), if_neg (by decide +kernel), if_neg (by decide +kernel), if_pos (by decide +kernel)]
    · rw [if_neg (by decide +kernel), if_neg (by decide +kernel), if_neg (by decide +kernel), if_neg (by decide +kernel), if_neg (by decide +kernel), if_neg (by decide +kernel), if_neg (by decide +kernel), if_neg (by decide +kernel), if_neg (by decide +kernel), if_neg (by decide +kernel), if_neg (by decide +kernel), if_neg (by decide +kernel), if_neg (by decide +kernel), if_neg (by decide +kernel), if_neg (by decide +kernel), if_neg (by decide +kernel), if_neg (by decide +kernel), if_pos (by decide +kernel), if_neg (by decide +kernel), if_neg (by decide +kernel), if_neg (by decide +kernel), if_neg (by decide +kernel), if_neg (by decide +kernel), if_neg (by decide +kernel), if_neg (by decide +kernel), if_neg (by decide +kernel), if_neg (by decide +kernel), if_neg (by decide +kernel), if_neg (by decide +kernel), if_neg (by decide +kernel), if_neg (by decide +kernel), if_neg (by decide +kernel), if_neg (by decide +kernel), if_neg (by decide +kernel), if_neg (by decide +kernel), if_neg (by decide +kernel), if_pos (by decide +kernel)]
    · rw [if_neg (by decide +kernel), if_neg (by decide +kernel), if_neg (by decide +kernel), if_neg (by decide +kernel), if_neg (by decide +kernel), if_neg (by decide +kernel), if_neg (by decide +kernel), if_neg (by decide +kernel), if_neg (by decide +kernel), if_neg (by decide +kernel), if_neg (by decide +kernel), if_neg (by decide +kernel), if_neg (by decide +kernel), if_neg (by decide +kernel), if_neg (by decide +kernel), if_neg (by decide +kernel), if_neg (by decide +kernel), if_pos (by decide +kernel), if_neg (by decide +kernel), if_neg (by decide +kernel), if_neg (by decide +kernel), if_neg (by decide +kernel), if_neg (by decide +kernel), if_neg (by decide +kernel), if_neg (by decide +kernel), if_neg (by decide +kernel), if_neg (by decide +kernel), if_neg (by decide +kernel), if_neg (by decide +kernel), if_neg (by decide +kernel), if_neg (by decide +kernel), if_neg (by decide +kernel), if_neg (by decide +kernel), if_neg (by decide +kernel), if_neg (by decide +kernel), if_neg (by decide +kernel), if_neg (by decide +kernel), if_pos (by decide +kernel)]
    · rw [if_neg (by decide +kernel), if_neg (by decide +kernel), if_neg (by decide +kernel), if_neg (by decide +kernel), if_neg (by decide +kernel), if_neg (by decide +kernel), if_neg (by decide +kernel), if_neg (by decide +kernel), if_neg (by decide +kernel), if_neg (by decide +kernel), if_neg (by decide +kernel), if_neg (by decide +kernel), if_neg (by decide +kernel), if_neg (by decide +kernel), if_neg (by decide +kernel), if_neg (by decide +kernel), if_neg (by decide +kernel), if_neg (by decide +kernel), if_neg (by decide +kernel), if_neg (by decide +kernel), if_neg (by decide +kernel), if_neg (by decide +kernel), if_neg (by decide +kernel), if_neg (by decide +kernel), if_neg (by decide +kernel), if_neg (by decide +kernel), if_neg (by decide +kernel), if_neg (by decide +kernel), if_neg (by decide +kernel), if_neg (by decide +kernel), if_neg (by decide +kernel), if_neg (by decide +kernel), if_neg (by decide +kernel), if_neg (by decide +kernel), if_neg (by decide +kernel), if_neg (by decide +kernel), if_neg (by decide +kernel), if_neg (by decide +kernel), if_neg (by decide +kernel), if_pos (by decide +kernel)]
      exact (s 0 (by decide)).symm
    · rw [if_neg (by decide +kernel), if_neg (by decide +kernel), if_neg (by decide +kernel), if_neg (by decide +kernel), if_neg (by decide +kernel), if_neg (by decide +kernel), if_neg (by decide +kernel), if_neg (by decide +kernel), if_neg (by decide +kernel), if_neg (by decide +kernel), if_neg (by decide +kernel), if_neg (by decide +kernel), if_neg (by decide +kernel), if_neg (by decide +kernel), if_neg (by decide +kernel), if_neg (by decide +kernel), if_neg (by decide +kernel), if_neg (by decide +kernel), if_neg (by decide +kernel), if_neg (by decide +kernel), if_neg (by decide +kernel), if_neg (by decide +kernel), if_neg (by decide +kernel), if_neg (by decide +kernel), if_neg (by decide +kernel), if_neg (by decide +kernel), if_neg (by decide +kernel), if_neg (by decide +kernel), if_neg (by decide +kernel), if_neg (by decide +kernel), if_neg (by decide +kernel), if_neg (by decide +kernel), if_neg (by decide +kernel), if_neg (by decide +kernel), if_neg (by decide +kernel), if_neg (by decide +kernel), if_neg (by decide +kernel), if_neg (by decide +kernel), if_neg (by decide +kernel), if_neg (by decide +kernel), if_pos (by decide +kernel)]
      exact (s 1 (by decide)).symm
    · rw [if_neg (by decide +kernel), if_neg (by decide +kernel), if_neg (by decide +kernel), if_neg (by decide +kernel), if_neg (by decide +kernel), if_neg (by decide +kernel), if_neg (by decide +kernel), if_neg (by decide +kernel), if_neg (by decide +kernel), if_neg (by decide +kernel), if_neg (by decide +kernel), if_neg (by decide +kernel), if_neg (by decide +kernel), if_neg (by decide +kernel), if_neg (by decide +kernel), if_neg (by decide +kernel), if_neg (by decide +kernel), if_neg (by decide +kernel), if_neg (by decide +kernel), if_neg (by decide +kernel), if_neg (by decide +kernel), if_neg (by decide +kernel), if_neg (by decide +kernel), if_neg (by decide +kernel), if_neg (by decide +kernel), if_neg (by decide +kernel), if_neg (by decide +kernel), if_neg (by decide +kernel), if_neg (by decide +kernel), if_neg (by decide +kernel), if_neg (by decide +kernel), if_neg (by decide +kernel), if_neg (by decide +kernel), if_neg (by decide +kernel), if_neg (by decide +kernel), if_neg (by decide +kernel), if_neg (by decide +kernel), if_neg (by decide +kernel), if_neg (by decide +kernel), if_neg (by decide +kernel), if_neg (by decide +kernel), if_pos (by decide +kernel)]
      exact (s 2 (by decide)).symm
    · rw [if_neg (by decide +kernel), if_neg (by decide +kernel), if_neg (by decide +kernel), if_neg (by decide +kernel), if_neg (by decide +kernel), if_neg (by decide +kernel), if_neg (by decide +kernel), if_neg (by decide +kernel), if_neg (by decide +kernel), if_neg (by decide +kernel), if_neg (by decide +kernel), if_neg (by decide +kernel), if_neg (by decide +kernel), if_neg (by decide +kernel), if_neg (by decide +kernel), if_neg (by decide +kernel), if_neg (by decide +kernel), if_neg (by decide +kernel), if_neg (by decide +kernel), if_neg (by decide +kernel), if_neg (by decide +kernel), if_neg (by decide +kernel), if_neg (by decide +kernel), if_neg (by decide +kernel), if_neg (by decide +kernel), if_neg (by decide +kernel), if_neg (by decide +kernel), if_neg (by decide +kernel), if_neg (by decide +kernel), if_neg (by decide +kernel), if_neg (by decide +kernel), if_neg (by decide +kernel), if_neg (by decide +kernel), if_neg (by decide +kernel), if_neg (by decide +kernel), if_neg (by decide +kernel), if_neg (by decide +kernel), if_neg (by decide +kernel), if_neg (by decide +kernel), if_neg (by decide +kernel), if_neg (by decide +kernel), if_neg (by decide +kernel), if_pos (by decide +kernel)]
      exact (s 3 (by decide)).symm
end ZSU
