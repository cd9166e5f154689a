theorem mOK.c {t : zM} (h : mOK t) : (t 1 400).toNatClampNeg ≤ 9999 ∧ mS (t 1 401).toNatClampNeg (t 1 400).toNatClampNeg t ∧ mP t ∧ t 1 400 = nI (t 1 400).toNatClampNeg := by
  obtain ⟨⟨H, N, hN, hm⟩, hp⟩ := h
  have hH := hm.1
  rw [show t 1 400 = nI N from hm.2.2.1, show t 1 401 = nI H from hm.2.1, nI_clamp (by omega), nI_clamp (by omega)]
  exact ⟨hN, hm, hp, rfl⟩
theorem mOK_fr {t S : zM} (h : mOK t) (h1 : S 1 = t 1) (h6 : S 6 = t 6) (h4 : S 0 4 = t 0 4) : mOK S := by
  obtain ⟨⟨H, N, hN, hm⟩, P, hP, e⟩ := h
  exact ⟨⟨H, N, hN, mS_fr hm h1 h6⟩, P, hP, h4.trans e⟩
theorem mOK_put0 {t : zM} (h : mOK t) {k : Nat} {v : Int32} (hk : k ≠ 4) : mOK (zset t 0 k v) := mOK_fr h (zset_id _ _ _ (by decide)) (zset_id _ _ _ (by decide)) (zset_nk _ _ _ (Ne.symm hk))
