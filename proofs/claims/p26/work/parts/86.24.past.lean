theorem lsX7_changes_59_e (t : zM) (P : Nat) (hP : P ≤ 3) : ∀ (j i : Nat) (u : zM), 415 ≤ i + j → i ≤ 414 → u 0 4 = nI P → lsX7_changes_59 t j i u = fun id => if id = 0 then upd (u 0) 4 (nI (P + 1)) else if id = 2 then (fun a => if 414 * P + i ≤ a ∧ a < 414 * P + 414 then u 1 (a - 414 * P) else u 2 a) else u id := by
  intro j
  induction j with
  | zero => intro i u h0 hi; omega
  | succ j ih =>
    intro i u h0 hi hu
    unfold lsX7_changes_59
    have hc : (u 0 4).toNatClampNeg = P := by rw [hu, nI_clamp (by omega)]
    split
    · have : i = 414 := by have := zle (a := 414) (by decide) (by omega) ‹(414 : Int32) ≤ nI i›; omega
      subst this
      funext id
      by_cases h : id = 0
      · subst h
        rw [if_pos rfl, hu, nI_1]
        funext k
        simp [zset]
      · rw [if_neg h, zset_id _ _ _ h]
        by_cases h2 : id = 2
        · subst h2
          rw [if_pos rfl]
          funext a
          rw [if_neg (by omega)]
        · rw [if_neg h2]
    · have hk2 : i < 414 := zge (b := 414) (by omega) (by decide) ‹¬ (414 : Int32) ≤ nI i›
      rw [hc, ih _ _ (by omega) (by omega) (by rw [zset_idk _ _ _ _ (by decide)]; exact hu)]
      funext id
      by_cases h : id = 0
      · subst h
        rw [if_pos rfl, if_pos rfl, zset_id _ _ _ (by decide)]
      · rw [if_neg h, if_neg h]
        by_cases h2 : id = 2
        · subst h2
          rw [if_pos rfl, if_pos rfl]
          funext a
          rw [zset_idk _ _ _ _ (show (1 : Nat) ≠ 2 by decide)]
          by_cases ha : a = 414 * P + i
          · subst ha
            rw [if_neg (by omega), if_pos (by omega), zset_eq, Nat.add_sub_cancel_left]
          · rw [zset_nk _ _ _ ha]
            by_cases hb : 414 * P + (i + 1) ≤ a ∧ a < 414 * P + 414
            · rw [if_pos hb, if_pos (by omega)]
            · rw [if_neg hb, if_neg (by omega)]
        · rw [if_neg h2, if_neg h2, zset_id _ _ _ h2]
theorem lsX7_changes_18_e (t : zM) : ∀ (j k : Nat) (w : zM), 1243 ≤ k + j → k ≤ 1242 → w 0 4 = nI 4 → lsX7_changes_18 t j k w = fun id => if id = 0 then w 0 else if id = 2 then (fun a => if k ≤ a ∧ a < 1242 then w 2 (a + 414) else if 1242 ≤ a ∧ a < 1656 then w 1 (a - 1242) else w 2 a) else w id := by
  intro j
  induction j with
  | zero => intro k w h0 hk; omega
  | succ j ih =>
    intro k w h0 hk hw
    unfold lsX7_changes_18
    split
    · have : k = 1242 := by have := zle (a := 1242) (by decide) (by omega) ‹(1242 : Int32) ≤ nI k›; omega
      subst this
      rw [lsX7_changes_59_e t 3 (by decide) _ _ _ (by decide) (by decide) (by rw [zset_eq, hw]; decide +kernel)]
      funext id
      by_cases h : id = 0
      · subst h
        rw [if_pos rfl, if_pos rfl]
        funext q
        by_cases hq : q = 4
        · subst hq
          rw [hw]
          simp [upd]
        · simp [upd, hq, zset]
      · rw [if_neg h, if_neg h]
        by_cases h2 : id = 2
        · subst h2
          rw [if_pos rfl, if_pos rfl, zset_id _ _ _ (show (1 : Nat) ≠ 0 by decide), zset_id _ _ _ (show (2 : Nat) ≠ 0 by decide)]
          funext a
          rw [if_neg (show ¬ (1242 ≤ a ∧ a < 1242) by omega)]
        · rw [if_neg h2, if_neg h2, zset_id _ _ _ h]
    · have hk2 : k < 1242 := zge (b := 1242) (by omega) (by decide) ‹¬ (1242 : Int32) ≤ nI k›
      rw [ih _ _ (by omega) (by omega) (by rw [zset_idk _ _ _ _ (by decide)]; exact hw)]
      funext id
      by_cases h : id = 0
      · subst h
        rw [if_pos rfl, if_pos rfl, zset_id _ _ _ (by decide)]
      · rw [if_neg h, if_neg h]
        by_cases h2 : id = 2
        · subst h2
          rw [if_pos rfl, if_pos rfl]
          funext a
          rw [zset_id _ _ _ (show (1 : Nat) ≠ 2 by decide)]
          by_cases ha : a = k
          · subst ha
            rw [if_neg (show ¬ (a + 1 ≤ a ∧ a < 1242) by omega), if_neg (show ¬ (1242 ≤ a ∧ a < 1656) by omega), if_pos (show a ≤ a ∧ a < 1242 by omega), zset_eq]
          · rw [zset_nk _ _ _ ha]
            by_cases hb : k + 1 ≤ a ∧ a < 1242
            · rw [if_pos hb, if_pos (by omega), zset_nk _ _ _ (by omega)]
            · rw [if_neg hb, if_neg (show ¬ (k ≤ a ∧ a < 1242) by omega)]
        · rw [if_neg h2, if_neg h2, zset_id _ _ _ h2]
/-- pasts, the past and the rest behind 'changes' -/
theorem sX7_changes_e {t : zM} {P : Nat} (hP : P ≤ 4) (hp : t 0 4 = nI P) (hr : t 0 5 = 0) : sX7_changes t = fun id => if id = 0 then upd (t 0) 4 (nI (if P = 4 then 4 else P + 1)) else if id = 2 then
    (if P = 4 then (fun a => if a < 1242 then t 2 (a + 414) else if a < 1656 then t 1 (a - 1242) else t 2 a) else (fun a => if 414 * P ≤ a ∧ a < 414 * P + 414 then t 1 (a - 414 * P) else t 2 a)) else t id := by
  unfold sX7_changes
  rw [if_pos hr]
  by_cases h4 : P = 4
  · subst h4
    rw [if_pos (show t 0 4 = 4 from hp), lsX7_changes_18_e t _ _ _ (by decide) (by decide) hp]
    funext id
    by_cases h : id = 0
    · subst h
      rw [if_pos rfl, if_pos rfl]
      funext q
      by_cases hq : q = 4
      · subst hq; rw [hp]; simp [upd]
      · simp [upd, hq]
    · rw [if_neg h, if_neg h]
      by_cases h2 : id = 2
      · subst h2
        rw [if_pos rfl, if_pos rfl, if_pos rfl]
        funext a
        by_cases ha : a < 1242
        · rw [if_pos (by omega), if_pos ha]
        · rw [if_neg (by omega), if_neg ha]
          by_cases hb : a < 1656
          · rw [if_pos (by omega), if_pos hb]
          · rw [if_neg (by omega), if_neg hb]
      · rw [if_neg h2, if_neg h2]
  · have hne : ¬ t 0 4 = 4 := fun h => h4 ((nI_eq (b := 4) (by omega) (by decide)).mp (hp ▸ h))
    rw [if_neg hne, lsX7_changes_59_e t P (by omega) _ _ _ (by decide) (Nat.zero_le _) hp]
    simp only [if_neg h4, Nat.add_zero]
theorem sX7_changes_run {t : zM} (hr : ¬ t 0 5 = 0) : sX7_changes t = t := by
  unfold sX7_changes
  rw [if_neg hr]
theorem sX7_changes_k {t : zM} (hp : mP t) {k : Nat} (hk : k ≠ 4) : sX7_changes t 0 k = t 0 k := by
  by_cases hr : t 0 5 = 0
  · obtain ⟨P, hP, e⟩ := hp
    rw [sX7_changes_e hP e hr]
    simp [upd, hk]
  · rw [sX7_changes_run hr]
theorem sX7_changes_P {t : zM} (hp : mP t) : mP (sX7_changes t) := by
  by_cases hr : t 0 5 = 0
  · obtain ⟨P, hP, e⟩ := hp
    rw [sX7_changes_e hP e hr]
    refine ⟨if P = 4 then 4 else P + 1, ?_, ?_⟩
    · split <;> omega
    · simp [upd]
  · rw [sX7_changes_run hr]
    exact hp
