/-! the history, on both sides -/
def zPs (t u : zM) (f p : Nat) : Prop := ∀ i, i < p → ∃ H N Q P, N ≤ 9999 ∧ zT H N (fun _ => N) Q P (76 + 38 * ((f + 4 - i) % 5)) t (fun _ x => u 2 (414 * (p - 1 - i) + x))
def zHi (t u : zM) : Prop := (∃ f p, f < 5 ∧ p ≤ 4 ∧ t 266 1 = nI f ∧ t 266 2 = nI p ∧ u 0 4 = nI p ∧ zPs t u f p) ∧ ∀ s, s < 5 → zBits (76 + 38 * s) t
theorem zHi.fs {t u : zM} (h : zHi t u) : zFs (t 266 1) := by
  obtain ⟨⟨f, p, hf, -, e, -⟩, -⟩ := h
  exact ⟨f, hf, e⟩
theorem zHi.mp {t u : zM} (h : zHi t u) : mP u := by
  obtain ⟨⟨f, p, -, hp, -, -, e, -⟩, -⟩ := h
  exact ⟨p, hp, e⟩
theorem zHi.fr {t u S V : zM} (h : zHi t u) (h1 : ∀ x, 76 ≤ x → x ≤ 266 → S x = t x) (h2 : V 2 = u 2) (h3 : V 0 4 = u 0 4) : zHi S V := by
  obtain ⟨⟨f, p, hf, hp, e1, e2, e3, hs⟩, hb⟩ := h
  refine ⟨⟨f, p, hf, hp, by rw [h1 266 (by decide) (by decide)]; exact e1, by rw [h1 266 (by decide) (by decide)]; exact e2, by rw [h3]; exact e3, fun i hi => ?_⟩, fun s hs2 => zBits_fr (hb s hs2) (fun k hk => h1 _ (by omega) (by omega))⟩
  obtain ⟨H, N, Q, P, hN, g⟩ := hs i hi
  refine ⟨H, N, Q, P, hN, ?_⟩
  rw [h2]
  exact g.fr (fun x hx1 hx2 => h1 x (by omega) (by omega))
theorem rec_e {t : zM} {f : Nat} (hf : f < 5) (e : t 266 1 = nI f) : sX0_record t 0 = sX5_copyFrom (76 + 38 * f) t 0 := by
  unfold sX0_record
  rw [e, if_neg (nI_pos (by omega)), if_neg (show ¬ (5 : Int32) ≤ nI f from fun q => absurd (zle (a := 5) (by decide) (by omega) q) (by omega)), nI_clamp (by omega)]
theorem rec_in {t : zM} {f : Nat} : zTe (76 + 38 * f) 0 (sX5_copyFrom (76 + 38 * f) t 0) t := sX5_copyFrom_e (76 + 38 * f) t 0 (Or.inl (by omega))
theorem rec_o {t : zM} {f x : Nat} (h : x < 76 + 38 * f ∨ 76 + 38 * f + 38 ≤ x) : sX5_copyFrom (76 + 38 * f) t 0 x = t x := sX5_copyFrom_o _ t 0 h
/-- what was recorded, and not kept, is not seen -/
theorem zHi.rec {t u : zM} (h : zHi t u) (h0 : zBits 0 t) : zHi (sX0_record t 0) u := by
  obtain ⟨⟨f, p, hf, hp, e1, e2, e3, hs⟩, hb⟩ := h
  rw [rec_e hf e1]
  refine ⟨⟨f, p, hf, hp, by rw [rec_o (by omega)]; exact e1, by rw [rec_o (by omega)]; exact e2, e3, fun i hi => ?_⟩, fun s hs2 => ?_⟩
  · obtain ⟨H, N, Q, P, hN, g⟩ := hs i hi
    exact ⟨H, N, Q, P, hN, g.fr (fun x hx1 hx2 => rec_o (by omega))⟩
  · by_cases e : s = f
    · subst e; exact rec_in.bits h0
    · exact zBits_fr (hb s hs2) (fun k hk => rec_o (by omega))
/-- a change is recorded and kept -/
theorem zHi.chg {H N : Nat} {Q P : Nat → Nat} {t u S V : zM} (h : zHi t u) (h0 : zT H N (fun _ => N) Q P 0 t u) (hN : N ≤ 9999) (hr : u 0 5 = 0) (hS : ∀ x, 38 ≤ x → S x = sX0_record t 0 x) (hV0 : V 0 4 = sX7_changes u 0 4) (hV2 : V 2 = sX7_changes u 2) : zHi (sX0_keep S) V := by
  obtain ⟨⟨f, p, hf, hp, e1, e2, e3, hs⟩, hb⟩ := h
  rw [rec_e hf e1] at hS
  have s1 : S 266 1 = nI f := by rw [hS 266 (by decide), rec_o (by omega)]; exact e1
  have s2 : S 266 2 = nI p := by rw [hS 266 (by decide), rec_o (by omega)]; exact e2
  have ce := sX7_changes_e hp e3 hr
  have v04 : V 0 4 = nI (if p = 4 then 4 else p + 1) := by
    rw [hV0, ce]
    show upd (u 0) 4 _ 4 = _
    exact if_pos rfl
  have v2 : V 2 = (if p = 4 then (fun a => if a < 1242 then u 2 (a + 414) else if a < 1656 then u 1 (a - 1242) else u 2 a) else (fun a => if 414 * p ≤ a ∧ a < 414 * p + 414 then u 1 (a - 414 * p) else u 2 a)) := by
    rw [hV2, ce]
    rfl
  have kp : ∀ x, x ≠ 266 → sX0_keep S x = S x := fun x hx => sX0_keep_o S hx
  have k1 : sX0_keep S 266 1 = nI ((f + 1) % 5) := by
    unfold sX0_keep
    split
    · rw [zset_eq, s1, nI_1]
      exact zrem_n (b := 5) (by omega) (by decide) (by decide)
    · rw [zset_nk _ _ _ (by decide), zset_eq, s1, nI_1]
      exact zrem_n (b := 5) (by omega) (by decide) (by decide)
  have k2 : sX0_keep S 266 2 = nI (if p = 4 then 4 else p + 1) := by
    unfold sX0_keep
    by_cases c : p = 4
    · rw [if_pos (show (4 : Int32) ≤ S 266 2 by rw [s2, c]; decide +kernel), if_pos c, zset_nk _ _ _ (by decide), s2, c]
    · rw [if_neg (show ¬ (4 : Int32) ≤ S 266 2 from fun q => absurd (zle (a := 4) (by decide) (by omega) (s2 ▸ q)) (by omega)), if_neg c, zset_eq, s2, nI_1]
  refine ⟨⟨(f + 1) % 5, if p = 4 then 4 else p + 1, by omega, by split <;> omega, k1, k2, v04, fun i hi => ?_⟩, fun s hs2 => ?_⟩
  · by_cases ei : i = 0
    · subst ei
      have es : ((f + 1) % 5 + 4 - 0) % 5 = f := by omega
      rw [es]
      refine ⟨H, N, Q, P, hN, ((h0.mv rec_in).fr (S := sX0_keep S) (fun x hx1 hx2 => by rw [kp x (by omega), hS x (by omega)])).ru (fun x hx => ?_)⟩
      show V 2 _ = u 1 x
      rw [v2]
      by_cases c : p = 4
      · rw [if_pos c, if_pos c]
        show (if 414 * (4 - 1 - 0) + x < 1242 then _ else if 414 * (4 - 1 - 0) + x < 1656 then u 1 (414 * (4 - 1 - 0) + x - 1242) else _) = _
        rw [if_neg (by omega), if_pos (by omega)]
        exact congrArg (u 1) (by omega)
      · rw [if_neg c, if_neg c]
        show (if 414 * p ≤ 414 * (p + 1 - 1 - 0) + x ∧ 414 * (p + 1 - 1 - 0) + x < 414 * p + 414 then u 1 (414 * (p + 1 - 1 - 0) + x - 414 * p) else _) = _
        have e9 : 414 * (p + 1 - 1 - 0) + x = 414 * p + x := by rw [Nat.sub_zero, Nat.add_sub_cancel]
        rw [e9, if_pos (by omega)]
        exact congrArg (u 1) (by omega)
    · have hip : i - 1 < p ∧ i < 4 := by
        split at hi <;> omega
      obtain ⟨H2, N2, Q2, P2, hN2, g⟩ := hs (i - 1) hip.1
      have es : ((f + 1) % 5 + 4 - i) % 5 = (f + 4 - (i - 1)) % 5 := by omega
      rw [es]
      have hne : (f + 4 - (i - 1)) % 5 ≠ f := by omega
      have hl5 : (f + 4 - (i - 1)) % 5 < 5 := Nat.mod_lt _ (by decide)
      refine ⟨H2, N2, Q2, P2, hN2, (g.fr (S := sX0_keep S) (fun x hx1 hx2 => by rw [kp x (by omega), hS x (by omega)]; exact rec_o (by omega))).ru (fun x hx => ?_)⟩
      show V 2 _ = u 2 _
      rw [v2]
      by_cases c : p = 4
      · subst c
        rw [if_pos rfl, if_pos rfl]
        show (if 414 * (4 - 1 - i) + x < 1242 then u 2 (414 * (4 - 1 - i) + x + 414) else _) = _
        rw [if_pos (by omega)]
        exact congrArg (u 2) (by omega)
      · rw [if_neg c] at hi
        rw [if_neg c, if_neg c]
        have e9 : 414 * (p + 1 - 1 - i) + x = 414 * (p - 1 - (i - 1)) + x := by
          rw [show p + 1 - 1 - i = p - 1 - (i - 1) by omega]
        rw [e9]
        show (if 414 * p ≤ 414 * (p - 1 - (i - 1)) + x ∧ 414 * (p - 1 - (i - 1)) + x < 414 * p + 414 then _ else u 2 (414 * (p - 1 - (i - 1)) + x)) = _
        rw [if_neg (by omega)]
  · by_cases e : s = f
    · subst e
      refine zBits_fr (rec_in (t := t).bits h0.bits) (fun k hk => ?_)
      rw [kp _ (by omega), hS _ (by omega)]
    · refine zBits_fr (hb s hs2) (fun k hk => ?_)
      rw [kp _ (by omega), hS _ (by omega)]
      exact rec_o (by omega)
/-- the reference's undoing -/
theorem undo_loop (t : zM) {p : Nat} (hp : p < 4) (hp1 : (t 0 4 - 1).toNatClampNeg = p) : ∀ (j k : Nat) (u : zM), k ≤ 414 → 414 < k + j → lX7_undo_22 t j k u = u 0 4 ∧ (∀ x, x ≠ 1 → lsX7_undo_22 t j k u x = u x) ∧ (∀ x, x < 414 → lsX7_undo_22 t j k u 1 x = if k ≤ x then u 2 (414 * p + x) else u 1 x) := by
  intro j
  induction j with
  | zero => intro k u hk hj; omega
  | succ j ih =>
    intro k u hk hj
    rw [lX7_undo_22, lsX7_undo_22, hp1]
    by_cases c : k = 414
    · subst c
      rw [if_pos (show (414 : Int32) ≤ nI 414 by decide +kernel), if_pos (show (414 : Int32) ≤ nI 414 by decide +kernel)]
      exact ⟨rfl, fun _ _ => rfl, fun x hx => by rw [if_neg (by omega)]⟩
    · have c1 : ¬ (414 : Int32) ≤ nI k := fun q => absurd (zle (a := 414) (by decide) (by omega) q) (by omega)
      rw [if_neg c1, if_neg c1]
      obtain ⟨r1, r2, r3⟩ := ih (k + 1) (zset u 1 k (u 2 (414 * p + k))) (by omega) (by omega)
      refine ⟨r1.trans (zset_idk _ _ _ _ (by decide)), fun x hx => (r2 x hx).trans (zset_id _ _ _ hx), fun x hx => ?_⟩
      rw [r3 x hx]
      by_cases e : x = k
      · subst e
        rw [if_neg (by omega), if_pos (Nat.le_refl _), zset_eq]
      · by_cases e2 : k ≤ x
        · rw [if_pos (by omega), if_pos e2, zset_idk _ _ _ _ (by decide)]
        · rw [if_neg (by omega), if_neg e2, zset_nk _ _ _ e]
theorem op_undo {t u : zM} (h : zHi t u) : rX6_undo t = rX7_undo u ∧ ((sX6_undo t = t ∧ sX7_undo u = u) ∨ ((∃ H N Q P, N ≤ 9999 ∧ zT H N (fun _ => N) Q P 0 (sX6_undo t) (sX7_undo u)) ∧ zHi (sX6_undo t) (sX7_undo u) ∧ (∀ x, 267 ≤ x → sX6_undo t x = t x) ∧ (∀ x, x ≠ 0 → x ≠ 1 → sX7_undo u x = u x) ∧ ∀ k, k ≠ 4 → sX7_undo u 0 k = u 0 k)) := by
  obtain ⟨⟨f, p, hf, hp, e1, e2, e3, hs⟩, hb⟩ := h
  unfold rX6_undo sX6_undo rX7_undo sX7_undo rX0_restore sX0_restore
  rw [e1, e2, e3]
  by_cases c : p = 0
  · subst c
    rw [if_pos (show nI 0 ≤ (0 : Int32) by decide +kernel), if_pos (show nI 0 ≤ (0 : Int32) by decide +kernel), if_pos (show nI 0 = 0 from rfl), if_pos (show nI 0 = 0 from rfl)]
    exact ⟨rfl, Or.inl ⟨rfl, rfl⟩⟩
  · have c1 : ¬ nI p ≤ (0 : Int32) := fun q => absurd (zle (b := 0) (by omega) (by decide) q) (by omega)
    have c2 : ¬ nI p = 0 := fun e => c ((nI_eq (b := 0) (by omega) (by decide)).mp e)
    have ep : nI p - 1 = nI (p - 1) := nI_sub (b := 1) (by omega)
    have ef : zrem (((nI f) + 5) - 1) 5 = nI ((f + 4) % 5) := by
      show zrem (nI f + nI 5 - nI 1) (nI 5) = _
      rw [nI_add, nI_sub (by omega), zrem_n (by omega) (by decide) (by decide)]
      exact congrArg nI (by omega)
    have hl5 : (f + 4) % 5 < 5 := Nat.mod_lt _ (by decide)
    have n0 : ¬ nI ((f + 4) % 5) < 0 := nI_pos (by omega)
    have n5 : nI ((f + 4) % 5) < 5 := (nI_ltI (b := 5) (by omega) (by decide)).mpr hl5
    rw [if_neg c1, if_neg c1, if_neg c2, if_neg c2, ef, if_neg n0, if_neg n0, if_pos n5, if_pos n5, nI_clamp (by omega), ep]
    have h1 : (u 0 4 - 1).toNatClampNeg = p - 1 := by rw [e3, ep, nI_clamp (by omega)]
    obtain ⟨r1, r2, r3⟩ := undo_loop u (p := p - 1) (by omega) h1 415 0 (zset u 0 4 (nI (p - 1))) (by decide) (by decide)
    have co : ∀ x, 38 ≤ x → sX5_copyFrom 0 t (76 + 38 * ((f + 4) % 5)) x = t x := fun x hx => sX5_copyFrom_o 0 t _ (Or.inr (by omega))
    have ce := sX5_copyFrom_e 0 t (76 + 38 * ((f + 4) % 5)) (Or.inr (by omega))
    generalize sX5_copyFrom 0 t (76 + 38 * ((f + 4) % 5)) = T at *
    have eT : T 266 2 - 1 = nI (p - 1) := by rw [co 266 (by decide), e2, ep]
    generalize hS : zset (zset T 266 1 (nI ((f + 4) % 5))) 266 2 (T 266 2 - 1) = S
    have so : ∀ x, x ≠ 266 → S x = T x := fun x hx => by rw [← hS, zset_id _ _ _ hx, zset_id _ _ _ hx]
    have t1 : S 266 1 = nI ((f + 4) % 5) := by rw [← hS, zset_nk _ _ _ (by decide), zset_eq]
    have t2 : S 266 2 = nI (p - 1) := by rw [← hS, zset_eq, eT]
    refine ⟨?_, Or.inr ⟨?_, ⟨⟨(f + 4) % 5, p - 1, hl5, by omega, t1, t2, ?_, fun i hi => ?_⟩, fun s hs2 => ?_⟩, fun x hx => ?_, fun x h0 h1 => ?_, fun k hk => ?_⟩⟩
    · rw [r1, zset_eq]; exact eT
    · obtain ⟨H, N, Q, P, hN, g⟩ := hs 0 (by omega)
      rw [Nat.sub_zero] at g
      refine ⟨H, N, Q, P, hN, ((g.mv ce).fr (S := S) (fun x hx1 hx2 => so x (by omega))).ru (fun x hx => ?_)⟩
      rw [r3 x hx, if_pos (Nat.zero_le _), zset_idk _ _ _ _ (by decide)]
      show _ = u 2 (414 * (p - 1 - 0) + x)
      rw [Nat.sub_zero]
    · rw [r2 0 (by decide), zset_eq]
    · obtain ⟨H, N, Q, P, hN, g⟩ := hs (i + 1) (by omega)
      have es : ((f + 4) % 5 + 4 - i) % 5 = (f + 4 - (i + 1)) % 5 := by omega
      rw [es]
      have hl6 : (f + 4 - (i + 1)) % 5 < 5 := Nat.mod_lt _ (by decide)
      refine ⟨H, N, Q, P, hN, (g.fr (S := S) (fun x hx1 hx2 => by rw [so x (by omega), co x (by omega)])).ru (fun x hx => ?_)⟩
      show lsX7_undo_22 u 415 0 _ 2 _ = u 2 _
      rw [r2 2 (by decide), zset_id _ _ _ (by decide), show p - 1 - 1 - i = p - 1 - (i + 1) by omega]
    · exact zBits_fr (hb s hs2) (fun k hk => by rw [so _ (by omega), co _ (by omega)])
    · rw [so x (by omega), co x (by omega)]
    · rw [r2 x h1, zset_id _ _ _ h0]
    · rw [r2 0 (by decide), zset_nk _ _ _ hk]
