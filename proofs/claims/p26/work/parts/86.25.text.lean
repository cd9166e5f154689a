def mX (A B : Nat) (t : zM) : Prop := ∃ x, A ≤ x ∧ x ≤ B ∧ t 0 9 = nI x
theorem mX.c {A B : Nat} {t : zM} (h : mX A B t) (hB : B ≤ 1000) : A ≤ (t 0 9).toNatClampNeg ∧ (t 0 9).toNatClampNeg ≤ B ∧ t 0 9 = nI (t 0 9).toNatClampNeg := by
  obtain ⟨x, hA, hx, e⟩ := h
  rw [e, nI_clamp (by omega)]
  exact ⟨hA, hx, rfl⟩
theorem mX.mono {A A2 B B2 : Nat} {t : zM} (h : mX A B t) (hA : A2 ≤ A) (hB : B ≤ B2) : mX A2 B2 t := by
  obtain ⟨x, h1, hx, e⟩ := h
  exact ⟨x, by omega, by omega, e⟩
theorem mX.lt {A B : Nat} {t : zM} (hB : B ≤ 1000) (hT : mT t) (h : mX A B t) (c : ¬ t 0 7 ≤ t 0 9) : (t 0 9).toNatClampNeg < 60 := by
  obtain ⟨x, h1, hx, e⟩ := h
  obtain ⟨T, hT, e2⟩ := hT
  rw [e, e2] at c
  rw [e, nI_clamp (by omega)]
  have := zge (by omega) (by omega) c
  omega
theorem mT_set {id k : Nat} {t : zM} {v : Int32} (h : mT t) (hk : id ≠ 0 ∨ k ≠ 7) : mT (zset t id k v) := by
  obtain ⟨x, hx, e⟩ := h
  refine ⟨x, hx, ?_⟩
  rw [← e]
  by_cases h0 : 0 = id
  · subst h0
    rcases hk with hk | hk
    · exact absurd rfl hk
    · exact zset_nk _ _ _ (Ne.symm hk)
  · exact zset_idk _ _ _ _ h0
