/-! the law's day -/
theorem round_92_e (t : zM) (q : Nat) {n g : Nat} (hn : n ≤ 20) : ∀ (j i : Nat) (w : zM), i ≤ n → n < i + j → lL_round_92 t q j i n g w = nI n ∧ (∀ x, x < n → i ≤ x → lsL_round_92 t q j i n g w 275 (4 + x) = w 275 (24 + (g + x) % n)) ∧ ∀ x, x < i → lsL_round_92 t q j i n g w 275 (4 + x) = w 275 (4 + x) := by
  intro j
  induction j with
  | zero => intro i w hi hj; omega
  | succ j ih =>
    intro i w hi hj
    unfold lL_round_92 lsL_round_92
    by_cases c : nI n ≤ nI i
    · have : i = n := by have := zle (by omega) (by omega) c; omega
      subst this
      rw [if_pos c, if_pos c]
      exact ⟨rfl, fun x h1 h2 => by omega, fun _ _ => rfl⟩
    · have hi2 : i < n := zge (by omega) (by omega) c
      rw [if_neg c, if_neg c]
      obtain ⟨r1, r2, r3⟩ := ih (i + 1) (zset w 275 (4 + i) (w 275 (24 + (g + i) % n))) (by omega) (by omega)
      refine ⟨r1, fun x h1 h2 => ?_, fun x hx => ?_⟩
      · by_cases e : x = i
        · subst e
          rw [r3 x (by omega), zset_eq]
        · rw [r2 x h1 (by omega), zset_nk _ _ _ (by omega)]
      · rw [r3 x (by omega), zset_nk _ _ _ (by omega)]
/-- the first rows of w from 4 on are houses -/
def lR (H m : Nat) (w : zM) : Prop := ∀ x, x < m → ∃ h, h < H ∧ w 275 (4 + x) = nI h
theorem lR.c {H m x : Nat} {w : zM} (h : lR H m w) (hH : H ≤ 16) (hx : x < m) : (w 275 (4 + x)).toNatClampNeg < 16 ∧ w 275 (4 + x) = nI (w 275 (4 + x)).toNatClampNeg := by
  obtain ⟨k, hk, e⟩ := h x hx
  rw [e, nI_clamp (by omega)]
  exact ⟨by omega, rfl⟩
theorem lR.fr {H m : Nat} {w S : zM} (h : lR H m w) (e : ∀ x, x < m → S 275 (4 + x) = w 275 (4 + x)) : lR H m S := fun x hx => by
  obtain ⟨k, hk, e1⟩ := h x hx
  exact ⟨k, hk, (e x hx).trans e1⟩
theorem round_lR {H q : Nat} {t : zM} (h0 : lS H t) : ∃ m, m ≤ 20 ∧ rL_round t q = nI m ∧ lR H m (sL_round t q) := by
  have key : ∀ (j k n g : Nat) (u : zM), 21 ≤ k + j → k ≤ 20 → n ≤ k → g ≤ n → lS H u → (∀ y, y < n → ∃ h, h < H ∧ u 275 (24 + y) = nI h) → ∃ m, m ≤ 20 ∧ lL_round_9 t q j k n g u = nI m ∧ lR H m (lsL_round_9 t q j k n g u) := by
    intro j
    induction j with
    | zero => intro k n g u h0 hk; omega
    | succ j ih =>
      intro k n g u hj hk hn hg hu hy
      unfold lL_round_9 lsL_round_9
      by_cases c : (20 : Int32) ≤ nI k
      · rw [if_pos c, if_pos c]
        obtain ⟨r1, r2, -⟩ := round_92_e t q (n := n) (g := g) (by omega) 21 0 u (Nat.zero_le _) (by omega)
        refine ⟨n, by omega, r1, fun x hx => ?_⟩
        rw [r2 x hx (Nat.zero_le _)]
        exact hy _ (Nat.mod_lt _ (by omega))
      · have hk2 : k < 20 := zge (b := 20) (by omega) (by decide) c
        rw [if_neg c, if_neg c]
        generalize ea : (if 10 ≤ nI k then (40 - (2 * nI k)) else ((2 * nI k) + 1) : Int32) = pl
        rcases rL_at_lt hu (nI q) pl with e | ⟨h, hh, e⟩
        · rw [e]
          rw [if_pos (show (-1 : Int32) < 0 by decide +kernel), if_pos (show (-1 : Int32) < 0 by decide +kernel)]
          exact ih _ _ _ _ (by omega) (by omega) (by omega) hg hu hy
        · have hH := hu.1
          rw [e, if_neg (nI_pos (by omega)), if_neg (nI_pos (by omega))]
          have hu2 : lS H (zset u 275 (24 + n) (nI h)) := hu.fr (zset_idk _ _ _ _ (by decide))
          have hy2 : ∀ y, y < n + 1 → ∃ h2, h2 < H ∧ zset u 275 (24 + n) (nI h) 275 (24 + y) = nI h2 := fun y hy9 => by
            by_cases e9 : y = n
            · subst e9; exact ⟨h, hh, zset_eq _ _ _ _⟩
            · obtain ⟨h2, q1, q2⟩ := hy y (by omega)
              exact ⟨h2, q1, (zset_nk _ _ _ (by omega)).trans q2⟩
          by_cases c2 : (u (275) q) = (nI h + 1)
          · rw [if_pos c2, if_pos c2]
            exact ih _ _ _ _ (by omega) (by omega) (by omega) (Nat.le_refl _) hu2 hy2
          · rw [if_neg c2, if_neg c2]
            exact ih _ _ _ _ (by omega) (by omega) (by omega) (by omega) hu2 hy2
  exact key 21 0 0 0 t (by decide) (by decide) (Nat.le_refl _) (Nat.le_refl _) h0 (fun y hy => by omega)
theorem round_n {H q : Nat} {t : zM} (h0 : lS H t) : (rL_round t q).toNatClampNeg ≤ 20 ∧ rL_round t q = nI (rL_round t q).toNatClampNeg ∧ lR H (rL_round t q).toNatClampNeg (sL_round t q) := by
  obtain ⟨m, hm, e, hr⟩ := round_lR (q := q) h0
  rw [e, nI_clamp (by omega)]
  exact ⟨hm, rfl, hr⟩
/-- the table's day and year, too -/
def lD (H N : Nat) (t : zM) : Prop := lS H t ∧ t 277 0 = nI N ∧ ¬ t 277 13 = 0
theorem lD.fr {H N : Nat} {t S : zM} (h : lD H N t) (e1 : S 277 1 = t 277 1) (e0 : S 277 0 = t 277 0) (e13 : S 277 13 = t 277 13) : lD H N S := ⟨h.1.fr e1, e0.trans h.2.1, by rw [e13]; exact h.2.2⟩
theorem lD.id {H N i k : Nat} {t : zM} {v : Int32} (h : lD H N t) (hi : i ≠ 277) : lD H N (zset t i k v) := h.fr (zset_idk _ _ _ _ (Ne.symm hi)) (zset_idk _ _ _ _ (Ne.symm hi)) (zset_idk _ _ _ _ (Ne.symm hi))
theorem lD.tk {H N k : Nat} {t : zM} {v : Int32} (h : lD H N t) (h0 : k ≠ 0) (h1 : k ≠ 1) (h13 : k ≠ 13) : lD H N (zset t 277 k v) := h.fr (zset_nk _ _ _ (Ne.symm h1)) (zset_nk _ _ _ (Ne.symm h0)) (zset_nk _ _ _ (Ne.symm h13))
theorem lD.now {H N : Nat} {t : zM} (h : lD H N t) : lD H (N + 1) (zset t 277 0 (t 277 0 + 1)) := ⟨h.1.fr (zset_nk _ _ _ (by decide)), by rw [zset_eq, h.2.1]; exact nI_1 N, by rw [zset_nk _ _ _ (by decide)]; exact h.2.2⟩
theorem lD.read {H N : Nat} {t : zM} (h : lD H N t) (k : Nat) : lD H N (sL_read t k) := h.fr (sL_read_t _ _ (by decide)) (sL_read_t _ _ (by decide)) (sL_read_t _ _ (by decide))
theorem lD.round {H N : Nat} {t : zM} (h : lD H N t) (q : Nat) : lD H N (sL_round t q) := h.fr (sL_round_o _ _ (by decide)) (sL_round_o _ _ (by decide)) (sL_round_o _ _ (by decide))
