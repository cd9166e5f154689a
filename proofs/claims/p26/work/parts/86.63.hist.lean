def zPs (t u : zM) (f p : Nat) : Prop := ∀ i, i < p → ∃ H N Q P, N ≤ 9999 ∧ zT H N (fun _ => N) Q P (76 + 38 * ((f + 4 - i) % 5)) t (fun _ x => u 2 (414 * (p - 1 - i) + x))
def zHi (t u : zM) : Prop := (∃ f p, f < 5 ∧ p ≤ 4 ∧ t 266 1 = nI f ∧ t 266 2 = nI p ∧ u 0 4 = nI p ∧ zPs t u f p) ∧ ∀ s, s < 5 → zBits (76 + 38 * s) t
theorem zHi.fs {t u : zM} (h : zHi t u) : zFs (t 266 1) := by
  obtain ⟨⟨f, p, hf, -, e, -⟩, -⟩ := h
  exact ⟨f, hf, e⟩
theorem zHi.mp {t u : zM} (h : zHi t u) : mP u := by
  obtain ⟨⟨f, p, -, hp, -, -, e, -⟩, -⟩ := h
  exact ⟨p, hp, e⟩
theorem zHi.fr {t u S V : zM} (h : zHi t u) (h1 : ∀ x, 76 ≤ x → x ≤ 266 → S x = t x) (h2 : V 2 = u 2) (h3 : V 0 4 = u 0 4) : zHi S V := by
  obtain ⟨⟨f, p, hf, hp, e1, e2, e3, hs⟩, hb⟩ := h
  refine ⟨⟨f, p, hf, hp, by rw [h1 266 (by decide) (by decide)]; exact e1, by rw [h1 266 (by decide) (by decide)]; exact e2, by rw [h3]; exact e3, fun i hi => ?_⟩, fun s hs2 => zBits_fr (hb s hs2) (fun k hk => h1 _ (by omega) (by omega))⟩
  obtain ⟨H, N, Q, P, hN, g⟩ := hs i hi
  refine ⟨H, N, Q, P, hN, ?_⟩
  rw [h2]
  exact g.fr (fun x hx1 hx2 => h1 x (by omega) (by omega))
theorem rec_e {t : zM} {f : Nat} (hf : f < 5) (e : t 266 1 = nI f) : sX0_record t 0 = sX5_copyFrom (76 + 38 * f) t 0 := by
  unfold sX0_record
  rw [e, if_neg (nI_pos (by omega)), if_neg (show ¬ (5 : Int32) ≤ nI f from fun q => absurd (zle (a := 5) (by decide) (by omega) q) (by omega)), nI_clamp (by omega)]
theorem rec_in {t : zM} {f : Nat} : zTe (76 + 38 * f) 0 (sX5_copyFrom (76 + 38 * f) t 0) t := sX5_copyFrom_e (76 + 38 * f) t 0 (Or.inl (by omega))
theorem rec_o {t : zM} {f x : Nat} (h : x < 76 + 38 * f ∨ 76 + 38 * f + 38 ≤ x) : sX5_copyFrom (76 + 38 * f) t 0 x = t x := sX5_copyFrom_o _ t 0 h
/-- what was recorded, and not kept, is not seen -/
theorem zHi.rec {t u : zM} (h : zHi t u) (h0 : zBits 0 t) : zHi (sX0_record t 0) u := by
  obtain ⟨⟨f, p, hf, hp, e1, e2, e3, hs⟩, hb⟩ := h
  rw [rec_e hf e1]
  refine ⟨⟨f, p, hf, hp, by rw [rec_o (by omega)]; exact e1, by rw [rec_o (by omega)]; exact e2, e3, fun i hi => ?_⟩, fun s hs2 => ?_⟩
  · obtain ⟨H, N, Q, P, hN, g⟩ := hs i hi
    exact ⟨H, N, Q, P, hN, g.fr (fun x hx1 hx2 => rec_o (by omega))⟩
  · by_cases e : s = f
    · subst e; exact rec_in.bits h0
    · exact zBits_fr (hb s hs2) (fun k hk => rec_o (by omega))
/-- a change is recorded and kept -/
theorem zHi.chg {H N : Nat} {Q P : Nat → Nat} {t u S V : zM} (h : zHi t u) (h0 : zT H N (fun _ => N) Q P 0 t u) (hN : N ≤ 9999) (hr : u 0 5 = 0) (hS : ∀ x, 38 ≤ x → S x = sX0_record t 0 x) (hV0 : V 0 4 = sX7_changes u 0 4) (hV2 : V 2 = sX7_changes u 2) : zHi (sX0_keep S) V := by
  obtain ⟨⟨f, p, hf, hp, e1, e2, e3, hs⟩, hb⟩ := h
  rw [rec_e hf e1] at hS
  have s1 : S 266 1 = nI f := by rw [hS 266 (by decide), rec_o (by omega)]; exact e1
  have s2 : S 266 2 = nI p := by rw [hS 266 (by decide), rec_o (by omega)]; exact e2
  have ce := sX7_changes_e hp e3 hr
  have v04 : V 0 4 = nI (if p = 4 then 4 else p + 1) := by
    rw [hV0, ce]
    show upd (u 0) 4 _ 4 = _
    exact if_pos rfl
  have v2 : V 2 = (if p = 4 then (fun a => if a < 1242 then u 2 (a + 414) else if a < 1656 then u 1 (a - 1242) else u 2 a) else (fun a => if 414 * p ≤ a ∧ a < 414 * p + 414 then u 1 (a - 414 * p) else u 2 a)) := by
    rw [hV2, ce]
    rfl
  have kp : ∀ x, x ≠ 266 → sX0_keep S x = S x := fun x hx => sX0_keep_o S hx
  have k1 : sX0_keep S 266 1 = nI ((f + 1) % 5) := by
    unfold sX0_keep
    split
    · rw [zset_eq, s1, nI_1]
      exact zrem_n (b := 5) (by omega) (by decide) (by decide)
    · rw [zset_nk _ _ _ (by decide), zset_eq, s1, nI_1]
      exact zrem_n (b := 5) (by omega) (by decide) (by decide)
  have k2 : sX0_keep S 266 2 = nI (if p = 4 then 4 else p + 1) := by
    unfold sX0_keep
    by_cases c : p = 4
    · rw [if_pos (show (4 : Int32) ≤ S 266 2 by rw [s2, c]; decide +kernel), if_pos c, zset_nk _ _ _ (by decide), s2, c]
    · rw [if_neg (show ¬ (4 : Int32) ≤ S 266 2 from fun q => absurd (zle (a := 4) (by decide) (by omega) (s2 ▸ q)) (by omega)), if_neg c, zset_eq, s2, nI_1]
  refine ⟨⟨(f + 1) % 5, if p = 4 then 4 else p + 1, by omega, by split <;> omega, k1, k2, v04, fun i hi => ?_⟩, fun s hs2 => ?_⟩
  · by_cases ei : i = 0
    · subst ei
      have es : ((f + 1) % 5 + 4 - 0) % 5 = f := by omega
      rw [es]
      refine ⟨H, N, Q, P, hN, ((h0.mv rec_in).fr (S := sX0_keep S) (fun x hx1 hx2 => by rw [kp x (by omega), hS x (by omega)])).ru (fun x hx => ?_)⟩
      show V 2 _ = u 1 x
      rw [v2]
      by_cases c : p = 4
      · rw [if_pos c, if_pos c]
        show (if 414 * (4 - 1 - 0) + x < 1242 then _ else if 414 * (4 - 1 - 0) + x < 1656 then u 1 (414 * (4 - 1 - 0) + x - 1242) else _) = _
        rw [if_neg (by omega), if_pos (by omega)]
        exact congrArg (u 1) (by omega)
      · rw [if_neg c, if_neg c]
        show (if 414 * p ≤ 414 * (p + 1 - 1 - 0) + x ∧ 414 * (p + 1 - 1 - 0) + x < 414 * p + 414 then u 1 (414 * (p + 1 - 1 - 0) + x - 414 * p) else _) = _
        have e9 : 414 * (p + 1 - 1 - 0) + x = 414 * p + x := by rw [Nat.sub_zero, Nat.add_sub_cancel]
        rw [e9, if_pos (by omega)]
        exact congrArg (u 1) (by omega)
    · have hip : i - 1 < p ∧ i < 4 := by
        split at hi <;> omega
      obtain ⟨H2, N2, Q2, P2, hN2, g⟩ := hs (i - 1) hip.1
      have es : ((f + 1) % 5 + 4 - i) % 5 = (f + 4 - (i - 1)) % 5 := by omega
      rw [es]
      have hne : (f + 4 - (i - 1)) % 5 ≠ f := by omega
      have hl5 : (f + 4 - (i - 1)) % 5 < 5 := Nat.mod_lt _ (by decide)
      refine ⟨H2, N2, Q2, P2, hN2, (g.fr (S := sX0_keep S) (fun x hx1 hx2 => by rw [kp x (by omega), hS x (by omega)]; exact rec_o (by omega))).ru (fun x hx => ?_)⟩
      show V 2 _ = u 2 _
      rw [v2]
      by_cases c : p = 4
      · subst c
        rw [if_pos rfl, if_pos rfl]
        show (if 414 * (4 - 1 - i) + x < 1242 then u 2 (414 * (4 - 1 - i) + x + 414) else _) = _
        rw [if_pos (by omega)]
        exact congrArg (u 2) (by omega)
      · rw [if_neg c] at hi
        rw [if_neg c, if_neg c]
        have e9 : 414 * (p + 1 - 1 - i) + x = 414 * (p - 1 - (i - 1)) + x := by
          rw [show p + 1 - 1 - i = p - 1 - (i - 1) by omega]
        rw [e9]
        show (if 414 * p ≤ 414 * (p - 1 - (i - 1)) + x ∧ 414 * (p - 1 - (i - 1)) + x < 414 * p + 414 then _ else u 2 (414 * (p - 1 - (i - 1)) + x)) = _
        rw [if_neg (by omega)]
  · by_cases e : s = f
    · subst e
      refine zBits_fr (rec_in (t := t).bits h0.bits) (fun k hk => ?_)
      rw [kp _ (by omega), hS _ (by omega)]
    · refine zBits_fr (hb s hs2) (fun k hk => ?_)
      rw [kp _ (by omega), hS _ (by omega)]
      exact rec_o (by omega)
