theorem zOK.fr {b : Nat} {t t1 : zM} (h : zOK b t) (h0 : t1 b = t b) (h1 : t1 (b + 35) = t (b + 35)) : zOK b t1 := by
  obtain ⟨N, hN, h⟩ := h
  exact ⟨N, hN, zTs_fr h h0 h1⟩
theorem zOK.set {b2 b k : Nat} {t : zM} (h : zOK b2 t) (v : Int32) (h1 : b ≠ b2) (h2 : b ≠ b2 + 35) : zOK b2 (zset t b k v) := h.fr (zset_id _ _ _ (Ne.symm h1)) (zset_id _ _ _ (Ne.symm h2))
theorem zBits.set {b2 b k : Nat} {t : zM} (h : zBits b2 t) (v : Int32) (h1 : b < b2 + 2 ∨ b2 + 26 ≤ b) : zBits b2 (zset t b k v) := zBits_fr h (fun i hi => zset_id _ _ _ (by omega))
