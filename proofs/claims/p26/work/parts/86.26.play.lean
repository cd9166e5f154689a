theorem mOK.c {t : zM} (h : mOK t) : (t 1 400).toNatClampNeg ≤ 9999 ∧ mS (t 1 401).toNatClampNeg (t 1 400).toNatClampNeg t ∧ mP t ∧ t 1 400 = nI (t 1 400).toNatClampNeg := by
  obtain ⟨⟨H, N, hN, hm⟩, hp⟩ := h
  have hH := hm.1
  rw [show t 1 400 = nI N from hm.2.2.1, show t 1 401 = nI H from hm.2.1, nI_clamp (by omega), nI_clamp (by omega)]
  exact ⟨hN, hm, hp, rfl⟩
