/-- where a field of a house lies in the reference's fourteen -/
def hf (f : Nat) : Nat := if f = 4 then 5 else if f = 5 then 6 else if f = 6 then 4 else f
theorem hf_lt {f : Nat} (h : f < 14) (h7 : f ≠ 7) : hf f < 14 ∧ hf f ≠ 7 := by
  unfold hf
  repeat' split
  all_goals omega
theorem hf_inj {f g : Nat} (h : hf f = hf g) : f = g := by
  unfold hf at h
  repeat' split at h
  all_goals omega
/-- the step of a walk on which a place is passed -/
def st (p : Nat) : Nat := if p % 2 = 1 then p / 2 else 20 - p / 2
theorem st_lt {p : Nat} (h1 : 1 ≤ p) (h2 : p ≤ 20) : st p < 20 := by
  unfold st
  split <;> omega
theorem st_inj {p q : Nat} (h1 : 1 ≤ p) (h2 : p ≤ 20) (h3 : 1 ≤ q) (h4 : q ≤ 20) (h : st p = st q) : p = q := by
  unfold st at h
  repeat' split at h
  all_goals omega
/-- the same numbers -/
def zE (b : Nat) (t u : zM) : Prop :=
  (∀ k, k < 24 → ∀ f, f < 14 → f ≠ 7 → u 1 (14 * k + hf f) = t (b + 2 + k) f) ∧ (∀ k, k < 24 → u 1 (14 * k + 7) = t (b + 2 + k) 7 + 1) ∧ (∀ c, 6 ≤ c → c ≤ 12 → u 1 (396 + c) = t b c) ∧ (u 1 400 = t b 5 ∧ u 1 401 = t b 4) ∧ ∀ i, i < 4 → u 1 (410 + i) = t (b + 37) i
/-- how large the numbers are -/
def zHb (R : Nat) (h : Nat → Int32) : Prop := (∃ D, D < 100000 ∧ h 2 = nI D) ∧ (∃ M, M < 100000 ∧ h 3 = nI M) ∧ (∃ F, F ≤ 999 ∧ h 4 = nI F) ∧ (h 5 = 0 ∨ h 5 = 1) ∧ (∃ B : Int, -99 ≤ B ∧ B ≤ 99 ∧ h 6 = Int32.ofInt B) ∧ (h 7 = -1 ∨ ∃ d, d ≤ 20000 ∧ h 7 = nI d) ∧ ∃ r, r ≤ R ∧ h 12 = nI r
def zSg (s : Nat → Int32) : Prop := (∃ S, S ≤ 12 ∧ s 0 = nI S) ∧ (∃ S, 1 ≤ S ∧ S ≤ 50 ∧ s 1 = nI S) ∧ (∃ S, 1 ≤ S ∧ S ≤ 99 ∧ s 2 = nI S) ∧ ∃ S, 5 ≤ S ∧ S ≤ 400 ∧ s 3 = nI S
def zBd (H N : Nat) (ρ : Nat → Nat) (b : Nat) (t : zM) : Prop := H ≤ 24 ∧ t b 4 = nI H ∧ t b 5 = nI N ∧ (∀ k, k < 24 → zHb (ρ k) (t (b + 2 + k))) ∧ (∀ k, k < 24 → H ≤ k → t (b + 2 + k) 2 = 0 ∧ t (b + 2 + k) 4 = 0 ∧ t (b + 2 + k) 5 = 0 ∧ t (b + 2 + k) 6 = 0) ∧ zSg (t (b + 37))
/-- where the houses are, and where the walks went on -/
def zSt (H : Nat) (Q P : Nat → Nat) (b : Nat) (t u : zM) : Prop := (∀ k, k < H → Q k < 4 ∧ 1 ≤ P k ∧ P k ≤ 20 ∧ t (b + 2 + k) 0 = nI (Q k) ∧ t (b + 2 + k) 1 = nI (P k)) ∧ (∀ k, k < H → t (b + 28 + 2 * Q k) (st (P k)) = nI k) ∧ (∀ j, j < 4 → ∀ p, p < 20 → t (b + 28 + 2 * j) p = -1 ∨ ∃ k, k < H ∧ Q k = j ∧ st (P k) = p) ∧ ∀ j, j < 4 → (t (b + 27 + 2 * j) 1 = -1 ∧ u 1 (336 + j) = 0) ∨ ∃ k, k < H ∧ Q k = j ∧ t (b + 27 + 2 * j) 1 = nI (st (P k)) ∧ u 1 (336 + j) = nI (k + 1)
/-- the ledger: rows round and round against the latest first -/
def zLe (b : Nat) (t u : zM) : Prop := ∃ w E, w < 10 ∧ E ≤ 10 ∧ t (b + 35) 1 = nI w ∧ t (b + 35) 2 = nI E ∧ u 1 409 = nI E ∧ ∀ a, a < E → ∀ f, f < 6 → u 1 (340 + 6 * a + f) = t (b + 36) ((w + 9 - a) % 10 * 6 + f)
def zT (H N : Nat) (ρ Q P : Nat → Nat) (b : Nat) (t u : zM) : Prop := zE b t u ∧ zBd H N ρ b t ∧ zSt H Q P b t u ∧ zLe b t u
theorem zT.mv {H N : Nat} {ρ Q P : Nat → Nat} {b b2 : Nat} {S t u : zM} (h : zT H N ρ Q P b2 t u) (e : zTe b b2 S t) : zT H N ρ Q P b S u := by
  obtain ⟨⟨e1, e2, e3, ⟨e4, e5⟩, e6⟩, ⟨b1, b2', b3, b4, b5, b6⟩, ⟨s1, s2, s3, s4⟩, ⟨w, E, l1, l2, l3, l4, l5, l6⟩⟩ := h
  obtain ⟨q1, q2, q3, q4, q5, q6, q7⟩ := e
  refine ⟨⟨fun k hk f hf h7 => ?_, fun k hk => ?_, fun c h1 h2 => ?_, ⟨?_, ?_⟩, fun i hi => ?_⟩, ⟨b1, ?_, ?_, fun k hk => ?_, fun k hk hH => ?_, ?_⟩, ⟨fun k hk => ?_, fun k hk => ?_, fun j hj p hp => ?_, fun j hj => ?_⟩, ⟨w, E, l1, l2, ?_, ?_, l5, fun a ha f hf => ?_⟩⟩
  · rw [q1 k hk f hf]; exact e1 k hk f hf h7
  · rw [q1 k hk 7 (by decide)]; exact e2 k hk
  · rw [q7 c (by omega) h2]; exact e3 c h1 h2
  · rw [q7 5 (by decide) (by decide)]; exact e4
  · rw [q7 4 (by decide) (by decide)]; exact e5
  · rw [q6 i hi]; exact e6 i hi
  · rw [q7 4 (by decide) (by decide)]; exact b2'
  · rw [q7 5 (by decide) (by decide)]; exact b3
  · have := b4 k hk
    unfold zHb at this ⊢
    rw [q1 k hk 2 (by decide), q1 k hk 3 (by decide), q1 k hk 4 (by decide), q1 k hk 5 (by decide), q1 k hk 6 (by decide), q1 k hk 7 (by decide), q1 k hk 12 (by decide)]
    exact this
  · rw [q1 k hk 2 (by decide), q1 k hk 4 (by decide), q1 k hk 5 (by decide), q1 k hk 6 (by decide)]
    exact b5 k hk hH
  · unfold zSg at b6 ⊢
    rw [q6 0 (by decide), q6 1 (by decide), q6 2 (by decide), q6 3 (by decide)]
    exact b6
  · rw [q1 k (by omega) 0 (by decide), q1 k (by omega) 1 (by decide)]
    exact s1 k hk
  · have := s1 k hk
    rw [(q2 _ this.1).2 _ (st_lt this.2.1 this.2.2.1)]
    exact s2 k hk
  · rw [(q2 j hj).2 p hp]
    exact s3 j hj p hp
  · rw [(q2 j hj).1]
    exact s4 j hj
  · rw [q3]; exact l3
  · rw [q4]; exact l4
  · rw [q5 _ (by omega)]; exact l6 a ha f hf
theorem zTe.rf {b : Nat} {S t : zM} (h : ∀ x, b ≤ x → x < b + 38 → S x = t x) : zTe b b S t := by
  refine ⟨fun k hk w _ => ?_, fun j hj => ⟨?_, fun p _ => ?_⟩, ?_, ?_, fun r _ => ?_, fun i _ => ?_, fun w _ _ => ?_⟩
  all_goals rw [h _ (by omega) (by omega)]
theorem zT.fr {H N : Nat} {ρ Q P : Nat → Nat} {b : Nat} {S t u : zM} (h : zT H N ρ Q P b t u) (e : ∀ x, b ≤ x → x < b + 38 → S x = t x) : zT H N ρ Q P b S u := h.mv (zTe.rf e)
theorem zT.ru {H N : Nat} {ρ Q P : Nat → Nat} {b : Nat} {t u v : zM} (h : zT H N ρ Q P b t u) (e : ∀ x, x < 414 → v 1 x = u 1 x) : zT H N ρ Q P b t v := by
  obtain ⟨⟨e1, e2, e3, ⟨e4, e5⟩, e6⟩, hb, ⟨s1, s2, s3, s4⟩, ⟨w, E, l1, l2, l3, l4, l5, l6⟩⟩ := h
  refine ⟨⟨fun k hk f hf h7 => ?_, fun k hk => ?_, fun c h1 h2 => ?_, ⟨?_, ?_⟩, fun i hi => ?_⟩, hb, ⟨s1, s2, s3, fun j hj => ?_⟩, ⟨w, E, l1, l2, l3, l4, ?_, fun a ha f hf => ?_⟩⟩
  · have := hf_lt hf h7
    rw [e _ (by omega)]; exact e1 k hk f hf h7
  · rw [e _ (by omega)]; exact e2 k hk
  · rw [e _ (by omega)]; exact e3 c h1 h2
  · rw [e _ (by omega)]; exact e4
  · rw [e _ (by omega)]; exact e5
  · rw [e _ (by omega)]; exact e6 i hi
  · rw [e _ (by omega)]; exact s4 j hj
  · rw [e _ (by omega)]; exact l5
  · rw [e _ (by omega)]; exact l6 a ha f hf
theorem zE.h {b k f : Nat} {t u : zM} (h : zE b t u) (hk : k < 24) (hf1 : f < 14) (h7 : f ≠ 7) (v : Int32) : zE b (zset t (b + 2 + k) f v) (zset u 1 (14 * k + hf f) v) := by
  obtain ⟨e1, e2, e3, ⟨e4, e5⟩, e6⟩ := h
  have q := hf_lt hf1 h7
  refine ⟨fun k2 hk2 f2 hf2 h72 => ?_, fun k2 hk2 => ?_, fun c h1 h2 => ?_, ⟨?_, ?_⟩, fun i hi => ?_⟩
  · have q2 := hf_lt hf2 h72
    by_cases ek : k2 = k
    · subst ek
      by_cases ef : f2 = f
      · subst ef; rw [zset_eq, zset_eq]
      · have : hf f2 ≠ hf f := fun e => ef (hf_inj e)
        rw [zset_nk _ _ _ (by omega), zset_nk _ _ _ ef]
        exact e1 k2 hk2 f2 hf2 h72
    · rw [zset_nk _ _ _ (by omega), zset_idk _ _ _ _ (by omega)]
      exact e1 k2 hk2 f2 hf2 h72
  · by_cases ek : k2 = k
    · subst ek
      rw [zset_nk _ _ _ (by omega), zset_nk _ _ _ (by omega)]
      exact e2 k2 hk2
    · rw [zset_nk _ _ _ (by omega), zset_idk _ _ _ _ (by omega)]
      exact e2 k2 hk2
  · rw [zset_nk _ _ _ (by omega), zset_idk _ _ _ _ (by omega)]; exact e3 c h1 h2
  · rw [zset_nk _ _ _ (by omega), zset_idk _ _ _ _ (by omega)]; exact e4
  · rw [zset_nk _ _ _ (by omega), zset_idk _ _ _ _ (by omega)]; exact e5
  · rw [zset_nk _ _ _ (by omega), zset_idk _ _ _ _ (by omega)]; exact e6 i hi
theorem zE.d {b k : Nat} {t u : zM} (h : zE b t u) (hk : k < 24) (v : Int32) : zE b (zset t (b + 2 + k) 7 v) (zset u 1 (14 * k + 7) (v + 1)) := by
  obtain ⟨e1, e2, e3, ⟨e4, e5⟩, e6⟩ := h
  refine ⟨fun k2 hk2 f2 hf2 h72 => ?_, fun k2 hk2 => ?_, fun c h1 h2 => ?_, ⟨?_, ?_⟩, fun i hi => ?_⟩
  · have q2 := hf_lt hf2 h72
    by_cases ek : k2 = k
    · subst ek
      rw [zset_nk _ _ _ (by omega), zset_nk _ _ _ h72]
      exact e1 k2 hk2 f2 hf2 h72
    · rw [zset_nk _ _ _ (by omega), zset_idk _ _ _ _ (by omega)]
      exact e1 k2 hk2 f2 hf2 h72
  · by_cases ek : k2 = k
    · subst ek; rw [zset_eq, zset_eq]
    · rw [zset_nk _ _ _ (by omega), zset_idk _ _ _ _ (by omega)]
      exact e2 k2 hk2
  · rw [zset_nk _ _ _ (by omega), zset_idk _ _ _ _ (by omega)]; exact e3 c h1 h2
  · rw [zset_nk _ _ _ (by omega), zset_idk _ _ _ _ (by omega)]; exact e4
  · rw [zset_nk _ _ _ (by omega), zset_idk _ _ _ _ (by omega)]; exact e5
  · rw [zset_nk _ _ _ (by omega), zset_idk _ _ _ _ (by omega)]; exact e6 i hi
theorem zE.c {b c : Nat} {t u : zM} (h : zE b t u) (h1 : 4 ≤ c) (h2 : c ≤ 12) (v : Int32) {x : Nat} (hx : (c = 4 ∧ x = 401) ∨ (c = 5 ∧ x = 400) ∨ (6 ≤ c ∧ x = 396 + c)) : zE b (zset t b c v) (zset u 1 x v) := by
  obtain ⟨e1, e2, e3, ⟨e4, e5⟩, e6⟩ := h
  have q : 400 ≤ x ∧ x ≤ 408 := by omega
  refine ⟨fun k2 hk2 f2 hf2 h72 => ?_, fun k2 hk2 => ?_, fun c2 h12 h22 => ?_, ⟨?_, ?_⟩, fun i hi => ?_⟩
  · have q2 := hf_lt hf2 h72
    rw [zset_nk _ _ _ (by omega), zset_idk _ _ _ _ (by omega)]
    exact e1 k2 hk2 f2 hf2 h72
  · rw [zset_nk _ _ _ (by omega), zset_idk _ _ _ _ (by omega)]
    exact e2 k2 hk2
  · by_cases e : c2 = c
    · subst e
      rw [show x = 396 + c2 by omega, zset_eq, zset_eq]
    · rw [zset_nk _ _ _ (by omega), zset_nk _ _ _ e]; exact e3 c2 h12 h22
  · by_cases e : c = 5
    · subst e; rw [show x = 400 by omega]; exact (zset_eq _ _ _ _).trans (zset_eq _ _ _ _).symm
    · rw [zset_nk _ _ _ (by omega), zset_nk _ _ _ (Ne.symm e)]; exact e4
  · by_cases e : c = 4
    · subst e; rw [show x = 401 by omega]; exact (zset_eq _ _ _ _).trans (zset_eq _ _ _ _).symm
    · rw [zset_nk _ _ _ (by omega), zset_nk _ _ _ (Ne.symm e)]; exact e5
  · rw [zset_nk _ _ _ (by omega), zset_idk _ _ _ _ (by omega)]; exact e6 i hi
theorem zE.s {b i : Nat} {t u : zM} (h : zE b t u) (hi : i < 4) (v : Int32) : zE b (zset t (b + 37) i v) (zset u 1 (410 + i) v) := by
  obtain ⟨e1, e2, e3, ⟨e4, e5⟩, e6⟩ := h
  refine ⟨fun k2 hk2 f2 hf2 h72 => ?_, fun k2 hk2 => ?_, fun c2 h12 h22 => ?_, ⟨?_, ?_⟩, fun i2 hi2 => ?_⟩
  · have q2 := hf_lt hf2 h72
    rw [zset_nk _ _ _ (by omega), zset_idk _ _ _ _ (by omega)]
    exact e1 k2 hk2 f2 hf2 h72
  · rw [zset_nk _ _ _ (by omega), zset_idk _ _ _ _ (by omega)]; exact e2 k2 hk2
  · rw [zset_nk _ _ _ (by omega), zset_idk _ _ _ _ (by omega)]; exact e3 c2 h12 h22
  · rw [zset_nk _ _ _ (by omega), zset_idk _ _ _ _ (by omega)]; exact e4
  · rw [zset_nk _ _ _ (by omega), zset_idk _ _ _ _ (by omega)]; exact e5
  · by_cases e : i2 = i
    · subst e; rw [zset_eq, zset_eq]
    · rw [zset_nk _ _ _ (by omega), zset_nk _ _ _ e]; exact e6 i2 hi2
theorem zE.fr {b : Nat} {t t1 u u1 : zM} (h : zE b t u) (h1 : ∀ k, k < 24 → t1 (b + 2 + k) = t (b + 2 + k)) (h2 : t1 b = t b) (h3 : t1 (b + 37) = t (b + 37)) (h4 : ∀ x, x < 336 ∨ (400 ≤ x ∧ x ≤ 408) ∨ (410 ≤ x ∧ x < 414) → u1 1 x = u 1 x) : zE b t1 u1 := by
  obtain ⟨e1, e2, e3, ⟨e4, e5⟩, e6⟩ := h
  refine ⟨fun k2 hk2 f2 hf2 h72 => ?_, fun k2 hk2 => ?_, fun c2 h12 h22 => ?_, ⟨?_, ?_⟩, fun i2 hi2 => ?_⟩
  · have q2 := hf_lt hf2 h72
    rw [h1 k2 hk2, h4 _ (by omega)]; exact e1 k2 hk2 f2 hf2 h72
  · rw [h1 k2 hk2, h4 _ (by omega)]; exact e2 k2 hk2
  · rw [h2, h4 _ (by omega)]; exact e3 c2 h12 h22
  · rw [h2, h4 _ (by omega)]; exact e4
  · rw [h2, h4 _ (by omega)]; exact e5
  · rw [h3, h4 _ (by omega)]; exact e6 i2 hi2
