def zX (b : Nat) (t u : zM) (L p : Nat) (c : Nat → Nat) : Prop := L ≤ 60 ∧ p ≤ L ∧ t b 1 = nI L ∧ u 0 7 = nI L ∧ t b 2 = nI p ∧ u 0 9 = nI p ∧ ∀ i, i < L → 32 ≤ c i ∧ c i ≤ 126 ∧ t (b + 1) i = nI (c i) ∧ u 5 i = nI (c i)
section ZTX
variable {b L p : Nat} {t u : zM} {c : Nat → Nat}
/-- what a step of both leaves alone -/
def zFc (b : Nat) (t T : zM) : Prop := ∀ x y, (x ≠ b ∨ y < 2 ∨ 5 < y) → T x y = t x y
def zFr (u V : zM) : Prop := ∀ x y, x ≠ 7 → (x ≠ 0 ∨ (y ≠ 9 ∧ y ≠ 14)) → V x y = u x y
theorem zFc.put {T : zM} (h1 : zFc b t T) {k : Nat} (v : Int32) (h2 : 2 ≤ k) (h5 : k ≤ 5) : zFc b t (zset T b k v) := fun x y h => by
  rw [← h1 x y h]
  by_cases e : x = b
  · subst e
    exact zset_nk _ _ _ (by rcases h with h | h | h <;> first | exact absurd rfl h | omega)
  · exact zset_idk _ _ _ _ e
theorem zFr.put {V : zM} (h1 : zFr u V) {k : Nat} (v : Int32) (hk : k = 9 ∨ k = 14) : zFr u (zset V 0 k v) := fun x y h g => by
  rw [← h1 x y h g]
  by_cases e : x = 0
  · subst e
    exact zset_nk _ _ _ (by rcases g with g | g <;> first | exact absurd rfl g | omega)
  · exact zset_idk _ _ _ _ e
end ZTX
