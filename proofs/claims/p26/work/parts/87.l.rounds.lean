/-! what the law asks of rounds -/
section LL
variable {H N : Nat} {Q P : Nat → Nat} {t u : zM}
theorem ok_rounds (hA : lA t u) (h : zT H N (fun _ => N) Q P 0 t u) (hH : H ≤ 16) {q : Nat} (hq : q < 4) {v : zM} (hv : lWs t v) : lOKr q v := by
  have hv1 : lA v u := hA.fr (fun i x hx => hv i x (by
    rcases hx with ⟨rfl, _⟩ | ⟨rfl, _⟩ | ⟨rfl, _⟩ | ⟨rfl, _⟩ | ⟨rfl, h9⟩ | ⟨rfl, _⟩ | ⟨rfl, _⟩
    · exact Or.inl (by decide)
    · exact Or.inl (by decide)
    · exact Or.inl (by decide)
    · exact Or.inl (by decide)
    · exact Or.inr h9
    · exact Or.inl (by decide)
    · exact Or.inl (by decide))) (fun _ _ => rfl)
  have hS : zT H N (fun _ => N) Q P 0 (sL_round v q) u := h.fr (fun x _ hx => (hv.rd q).up (by omega))
  obtain ⟨f, g, hB, hBg, hst, hg⟩ := hS.bg2 hq
  obtain ⟨r1, r2, r3⟩ := rounds_e hS hB hq hg
  obtain ⟨l1, l2⟩ := hv1.round hS hH hq hBg
  have hle := zn_le (H := H) (Q := Q) (P := P) q f 20
  have y1 : ¬ rX7_in (nI q) 0 3 = 0 := in_ok (nI_pos (by omega)) (fun x => absurd (zlt (a := 3) (by decide) (by omega) x) (by omega))
  have nx : ∀ x, x < 2 ^ 31 → rX6_next (sL_round v q) (nI q) (nI x) = if nI (zn H Q P q f 20) ≤ nI x then -1000004 else sX7_rounds u q 6 x := fun x hx => by
    rw [q_next hS]
    unfold rX7_next
    rw [if_neg y1, if_pos (nI_pos' hx), nI_clamp (show q < 2 ^ 31 by omega), r1, nI_clamp hx]
  unfold lOKr
  rw [l1, nI_clamp (by omega)]
  refine ⟨fun x hx => ?_, ?_⟩
  · obtain ⟨k, q1, q2, q3⟩ := zn_sur hS hB.lt.1 hq hst hx
    rw [nx x (by omega), if_neg (fun e => absurd (zle (by omega) (by omega) e) (by omega)), ← q3, l2 k q1 q2]
    exact r3 k q1 q2
  · rw [nx _ (by omega), if_pos (Int32.le_refl _)]
theorem ok_n1 (h : zT H N (fun _ => N) Q P 0 t u) : rX6_next t 4 0 = -1000001 := by
  rw [q_next h]
  unfold rX7_next
  rw [if_pos (show rX7_in 4 0 3 = 0 by decide +kernel)]
theorem ok_n2 (h : zT H N (fun _ => N) Q P 0 t u) : rX6_next t 0 (-1) = -1000001 := by
  rw [q_next h]
  unfold rX7_next
  rw [if_neg (show ¬ rX7_in 0 0 3 = 0 by decide +kernel), if_neg (show ¬ (0 : Int32) ≤ -1 by decide +kernel)]
end LL
