def zX (b : Nat) (t u : zM) (L p : Nat) (c : Nat → Nat) : Prop := L ≤ 60 ∧ p ≤ L ∧ t b 1 = nI L ∧ u 0 7 = nI L ∧ t b 2 = nI p ∧ u 0 9 = nI p ∧ ∀ i, i < L → 32 ≤ c i ∧ c i ≤ 126 ∧ t (b + 1) i = nI (c i) ∧ u 5 i = nI (c i)
section ZTX
variable {b L p : Nat} {t u : zM} {c : Nat → Nat}
end ZTX
