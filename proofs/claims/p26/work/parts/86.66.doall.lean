theorem zT.ok {H N : Nat} {ρ Q P : Nat → Nat} {b : Nat} {t u : zM} (h : zT H N ρ Q P b t u) (hN : N ≤ 9999) : zOK b t := by
  obtain ⟨w, E, hw, -, l3, -⟩ := h.2.2.2
  exact ⟨N, hN, h.h5, ⟨w, hw, l3⟩, ⟨H, h.Hl, h.h4⟩⟩
theorem zO_eq {b : Nat} {t u : zM} {r r' r1 r1' : Int32} {S V S1 V1 : zM} (e1 : r1 = r) (e2 : r1' = r') (e3 : S1 = S) (e4 : V1 = V) (h : zO b t u r r' S V) : zO b t u r1 r1' S1 V1 := by
  subst e1; subst e2; subst e3; subst e4
  exact h
section ZDO
variable {H N : Nat} {Q P : Nat → Nat} {b : Nat} {t u : zM}
end ZDO
theorem zX.fr {b L p : Nat} {t u S V : zM} {c : Nat → Nat} (h : zX b t u L p c) (h1 : S b 1 = t b 1) (h2 : S b 2 = t b 2) (h3 : S (b + 1) = t (b + 1)) (h4 : V 0 7 = u 0 7) (h5 : V 0 9 = u 0 9) (h6 : V 5 = u 5) : zX b S V L p c := by
  obtain ⟨hL, hp, e1, e2, e3, e4, hc⟩ := h
  exact ⟨hL, hp, h1.trans e1, h4.trans e2, h2.trans e3, h5.trans e4, fun i hi => ⟨(hc i hi).1, (hc i hi).2.1, by rw [h3]; exact (hc i hi).2.2.1, by rw [h6]; exact (hc i hi).2.2.2⟩⟩
/-- the text, on both sides -/
def zTx (t u : zM) : Prop := ∃ (L : Nat) (c : Nat → Nat), L ≤ 60 ∧ t 268 1 = nI L ∧ u 0 7 = nI L ∧ ∀ i, i < L → 32 ≤ c i ∧ c i ≤ 126 ∧ t 269 i = nI (c i) ∧ u 5 i = nI (c i)
