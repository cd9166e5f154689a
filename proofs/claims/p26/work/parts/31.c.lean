theorem lsL_day_203_o (t : zM) (N : Nat) {x : Nat} (h : x < 271) : ∀ (j i : Nat) (v : Int32) (u : zM), lsL_day_203 t N j i v u x = u x := by
  intro j
  induction j with
  | zero => intro i v u; rfl
  | succ j ih =>
    intro i v u
    unfold lsL_day_203
    repeat' split
    all_goals first
      | rfl
      | exact ih _ _ _
      | (rw [ih]; simp only [zset_id _ _ _ (show x ≠ 272 by omega), zset_id _ _ _ (show x ≠ 274 by omega), zset_id _ _ _ (show x ≠ 277 by omega)])
theorem lsL_day_203_D {H N2 : Nat} (t : zM) (N : Nat) : ∀ (j i : Nat) (v : Int32) (u : zM), lD H N2 u → lD H N2 (lsL_day_203 t N j i v u) := by
  intro j
  induction j with
  | zero => intro i v u h; exact h
  | succ j ih =>
    intro i v u h
    unfold lsL_day_203
    repeat' split
    all_goals first
      | exact h
      | exact ih _ _ _ h
      | exact ih _ _ _ ((((h.id (by decide)).id (by decide)).tk (by decide) (by decide) (by decide)).tk (by decide) (by decide) (by decide))
theorem lsL_day_101_o (t : zM) (N : Nat) {x : Nat} (h : x < 271) : ∀ (j k : Nat) (v : Int32) (m q : Nat) (u : zM), lsL_day_101 t N j k v m q u x = u x := by
  intro j
  induction j with
  | zero => intro k v m q u; rfl
  | succ j ih =>
    intro k v m q u
    unfold lsL_day_101
    repeat' split
    all_goals first
      | rfl
      | exact ih _ _ _ _ _
      | (rw [lsL_day_203_o _ _ h]; exact zset_id _ _ _ (by omega))
      | (rw [ih, zset_id _ _ _ (by omega)]; exact sL_read_o _ _ (Or.inl h))
theorem lsL_day_101_D {H N2 : Nat} (t : zM) (N : Nat) : ∀ (j k : Nat) (v : Int32) (m q : Nat) (u : zM), lD H N2 u → lD H N2 (lsL_day_101 t N j k v m q u) := by
  intro j
  induction j with
  | zero => intro k v m q u h; exact h
  | succ j ih =>
    intro k v m q u h
    unfold lsL_day_101
    repeat' split
    all_goals first
      | exact h
      | exact ih _ _ _ _ _ h
      | exact lsL_day_203_D _ _ _ _ _ _ (h.tk (by decide) (by decide) (by decide))
      | exact ih _ _ _ _ _ ((h.read _).id (by decide))
theorem lsL_day_3_o (t : zM) (N : Nat) {x : Nat} (h : x < 271) : ∀ (j k : Nat) (u : zM), lsL_day_3 t N j k u x = u x := by
  intro j
  induction j with
  | zero => intro k u; rfl
  | succ j ih =>
    intro k u
    unfold lsL_day_3
    split
    · rw [lsL_day_101_o _ _ h]
      funext y
      exact (sL_round_o _ _ (Or.inl (by omega))).trans (zset_idk _ _ _ _ (by omega))
    · rw [ih]
      simp only [zset_id _ _ _ (show x ≠ 271 by omega)]
theorem lsL_day_3_D {H N : Nat} (t : zM) : ∀ (j k : Nat) (u : zM), 17 ≤ k + j → k ≤ H → lD H N u → lD H (N + 1) (lsL_day_3 t N j k u) := by
  intro j
  induction j with
  | zero => intro k u h0 hk h; have := h.1.1; omega
  | succ j ih =>
    intro k u h0 hk h
    unfold lsL_day_3
    split
    · exact lsL_day_101_D _ _ _ _ _ _ _ _ (h.now.round _)
    · exact ih _ _ (by omega) (h.1.lt hk (by assumption)) ((h.id (by decide)).id (by decide))
/-- a day leaves the class alone -/
theorem sL_day_o (t : zM) (N : Nat) {x : Nat} (h : x < 271) : sL_day t N x = t x := lsL_day_3_o t N h _ _ _
theorem sL_day_D {H N : Nat} {t : zM} (h : lD H N t) : lD H (N + 1) (sL_day t N) := lsL_day_3_D t _ _ _ (by decide) (Nat.zero_le _) h

