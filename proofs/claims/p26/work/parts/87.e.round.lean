/-! the law's round -/
theorem zc_add {p q r : Nat → Bool} : ∀ n, (∀ i, i < n → (r i = true ↔ p i = true ∨ q i = true) ∧ ¬ (p i = true ∧ q i = true)) → zc r n = zc p n + zc q n := by
  intro n
  induction n with
  | zero => intro _; rfl
  | succ n ih =>
    intro h
    rw [zc_s, zc_s, zc_s, ih (fun i hi => h i (by omega))]
    obtain ⟨e1, e2⟩ := h n (by omega)
    by_cases hp : p n = true
    · have hq : ¬ q n = true := fun q9 => e2 ⟨hp, q9⟩
      rw [if_pos hp, if_neg hq, if_pos (e1.mpr (Or.inl hp))]
      omega
    · by_cases hq : q n = true
      · rw [if_neg hp, if_pos hq, if_pos (e1.mpr (Or.inr hq))]
        omega
      · rw [if_neg hp, if_neg hq, if_neg (fun r9 => (e1.mp r9).elim hp hq)]
        omega
section LE
variable {H N : Nat} {ρ Q P : Nat → Nat} {b : Nat} {c t u : zM}
theorem cyc1 (h : zT H N ρ Q P b c u) {q f s : Nat} (hs : s < 20) (hfs : f ≤ s) : zn H Q P q f ((s + 20 - f) % 20) + zn H Q P q 0 f = zn H Q P q 0 s := by
  unfold zn
  refine (zc_add H (fun i hi => ?_)).symm
  have := h.sl hi
  simp only [decide_eq_true_eq]
  unfold zd
  constructor
  · omega
  · omega
theorem cyc2 (h : zT H N ρ Q P b c u) {q f s : Nat} (hf : f < 20) (hfs : s < f) : zn H Q P q f ((s + 20 - f) % 20) + zn H Q P q 0 f = zn H Q P q 0 20 + zn H Q P q 0 s := by
  have e1 : zn H Q P q f ((s + 20 - f) % 20) = zc (fun j => decide (Q j = q ∧ ¬ st (P j) < f)) H + zn H Q P q 0 s := by
    unfold zn
    refine zc_add H (fun i hi => ?_)
    have := h.sl hi
    simp only [decide_eq_true_eq]
    unfold zd
    constructor
    · omega
    · omega
  have e2 : zn H Q P q 0 20 = zc (fun j => decide (Q j = q ∧ ¬ st (P j) < f)) H + zn H Q P q 0 f := by
    unfold zn
    refine zc_add H (fun i hi => ?_)
    have := h.sl hi
    simp only [decide_eq_true_eq]
    unfold zd
    constructor
    · omega
    · omega
  omega
theorem zn_20 (h : zT H N ρ Q P b c u) {q f : Nat} (hf : f < 20) : zn H Q P q f 20 = zn H Q P q 0 20 := by
  unfold zn
  refine zc_ext H (fun i hi => ?_)
  have h1 : zd P f i < 20 := Nat.mod_lt _ (by decide)
  have h2 : zd P 0 i < 20 := Nat.mod_lt _ (by decide)
  simp [h1, h2]
theorem zd_0 (h : zT H N ρ Q P b c u) {i : Nat} (hi : i < H) : zd P 0 i = st (P i) := by
  have := h.sl hi
  unfold zd
  omega
theorem lA.at (hA : lA t u) (h : zT H N ρ Q P b c u) (hH : H ≤ 16) {q p : Nat} (hq : q < 4) (h1 : 1 ≤ p) (h2 : p ≤ 20) : ((∀ k, k < H → ¬ (Q k = q ∧ P k = p)) ∧ rL_at t (nI q) (nI p) = -1) ∨ ∃ k, k < H ∧ Q k = q ∧ P k = p ∧ rL_at t (nI q) (nI p) = nI k := by
  have key : ∀ (j i : Nat), 17 ≤ i + j → i ≤ H → (∀ k, k < i → ¬ (Q k = q ∧ P k = p)) → ((∀ k, k < H → ¬ (Q k = q ∧ P k = p)) ∧ lL_at_3 t (nI q) (nI p) j i = -1) ∨ ∃ k, k < H ∧ Q k = q ∧ P k = p ∧ lL_at_3 t (nI q) (nI p) j i = nI k := by
    intro j
    induction j with
    | zero => intro i h0 hi; omega
    | succ j ih =>
      intro i h0 hi hn
      have e1 : t 277 1 = nI H := (hA.rt (by decide)).trans h.m4
      unfold lL_at_3
      rw [e1]
      by_cases q1 : nI H ≤ nI i
      · have : i = H := by have := zle (by omega) (by omega) q1; omega
        subst this
        rw [if_pos q1]
        exact Or.inl ⟨hn, rfl⟩
      · have hi2 : i < H := zge (by omega) (by omega) q1
        have a0 : t 271 (4 * i + 0) = nI (Q i) := (hA.ra (k := i) (f := 0) (by omega) (by decide)).trans (h.m0 hi2)
        have a1 : t 271 (4 * i + 1) = nI (P i) := (hA.ra (k := i) (f := 1) (by omega) (by decide)).trans (h.m1 hi2)
        have hP := h.P1 hi2
        rw [if_neg q1, a0, a1]
        by_cases q2 : Q i = q
        · rw [if_pos (congrArg nI q2)]
          by_cases q3 : P i = p
          · rw [if_pos (congrArg nI q3)]
            exact Or.inr ⟨i, hi2, q2, q3, rfl⟩
          · rw [if_neg (fun e => q3 ((nI_eq (by omega) (by omega)).mp e))]
            exact ih (i + 1) (by omega) hi2 (fun k hk => by
              by_cases e : k = i
              · subst e; exact fun x => q3 x.2
              · exact hn k (by omega))
        · rw [if_neg (fun e => q2 ((nI_eq (by omega) (by omega)).mp e))]
          exact ih (i + 1) (by omega) hi2 (fun k hk => by
            by_cases e : k = i
            · subst e; exact fun x => q2 x.1
            · exact hn k (by omega))
  exact key 17 0 (by decide) (Nat.zero_le _) (fun k hk => absurd hk (by omega))
/-- the place that is passed on a step -/
theorem pl_e {k : Nat} (hk : k < 20) : ∃ p, 1 ≤ p ∧ p ≤ 20 ∧ st p = k ∧ (if 10 ≤ nI k then (40 - (2 * nI k)) else ((2 * nI k) + 1) : Int32) = nI p := by
  have e2 : (2 : Int32) * nI k = nI (2 * k) := nI_mul 2 k
  rw [e2]
  by_cases c1 : 10 ≤ k
  · refine ⟨40 - 2 * k, by omega, by omega, ?_, ?_⟩
    · unfold st
      rw [if_neg (by omega)]
      omega
    · rw [if_pos (show (10 : Int32) ≤ nI k from (nI_leI (a := 10) (by decide) (by omega)).mpr c1)]
      exact nI_sub (a := 40) (by omega)
  · refine ⟨2 * k + 1, by omega, by omega, ?_, ?_⟩
    · unfold st
      rw [if_pos (by omega)]
      omega
    · rw [if_neg (show ¬ (10 : Int32) ≤ nI k from fun q => c1 (zle (a := 10) (by decide) (by omega) q))]
      exact nI_1 _
/-- where the round begins, by the reference's number of the latest house -/
def lBg (H : Nat) (Q P : Nat → Nat) (u : zM) (q f : Nat) : Prop := (f = 0 ∧ u 1 (336 + q) = 0) ∨ ∃ k, k < H ∧ Q k = q ∧ f = (st (P k) + 1) % 20 ∧ u 1 (336 + q) = nI (k + 1)
theorem lBg.lt {q f : Nat} (h : lBg H Q P u q f) : f < 20 := by
  rcases h with ⟨e, -⟩ | ⟨k, -, -, e, -⟩
  · omega
  · omega
theorem zT.bg2 (h : zT H N ρ Q P b t u) {q : Nat} (hq : q < 4) : ∃ f g, zBg f g ∧ lBg H Q P u q f ∧ (∀ a, a < 1000 → rX4_stepAhead (b + 27 + 2 * q) t (nI a) = nI ((f + a) % 20)) ∧ (if 0 ≤ (u 1 (336 + q)) - 1 then rX7_turn u (((u 1 (336 + q)) - 1).toNatClampNeg) else 0) = nI g := by
  have hH := h.Hl
  rcases h.2.2.1.2.2.2 q hq with ⟨e1, e2⟩ | ⟨k, hk, e0, e1, e2⟩
  · refine ⟨0, 0, Or.inl ⟨rfl, rfl⟩, Or.inl ⟨rfl, e2⟩, fun a ha => ?_, ?_⟩
    · unfold rX4_stepAhead
      rw [e1, show (-1 : Int32) + 1 = nI 0 from by decide +kernel, nI_add]
      exact zrem_n (b := 20) (by omega) (by decide) (by decide)
    · rw [e2, if_neg (by decide +kernel)]; rfl
  · have hl := h.sl hk
    refine ⟨(st (P k) + 1) % 20, kf (st (P k)), Or.inr ⟨st (P k), hl, rfl, rfl⟩, Or.inr ⟨k, hk, e0, rfl, e2⟩, fun a ha => ?_, ?_⟩
    · unfold rX4_stepAhead
      rw [e1, nI_1, nI_add]
      rw [show zrem (nI (st (P k) + 1 + a)) 20 = nI ((st (P k) + 1 + a) % 20) from zrem_n (b := 20) (by omega) (by decide) (by decide)]
      exact congrArg nI (by omega)
    · have e3 : nI (k + 1) - 1 = nI k := nI_sub (b := 1) (by omega)
      rw [e2, e3, if_pos (nI_pos' (by omega)), nI_clamp (by omega)]
      exact h.turn hk
/-- the beginning that the law has counted by a step -/
def lGo (H : Nat) (Q P : Nat → Nat) (u : zM) (q f k g : Nat) : Prop := (f = 0 ∧ u 1 (336 + q) = 0 ∧ g = 0) ∨ ∃ k0, k0 < H ∧ Q k0 = q ∧ f = (st (P k0) + 1) % 20 ∧ u 1 (336 + q) = nI (k0 + 1) ∧ g = (if st (P k0) < k then zn H Q P q 0 (st (P k0)) + 1 else 0)
theorem lGo.pos (h : zT H N ρ Q P b c u) {q f g : Nat} (hg : lGo H Q P u q f 20 g) {i : Nat} (hi : i < H) (hQ : Q i = q) : zn H Q P q f (zd P f i) < zn H Q P q 0 20 ∧ (g + zn H Q P q f (zd P f i)) % zn H Q P q 0 20 = zn H Q P q 0 (st (P i)) := by
  have hs := h.sl hi
  have d0 := zd_0 h hi
  have c1 : zn H Q P q 0 (st (P i) + 1) = zn H Q P q 0 (st (P i)) + 1 := by
    have := zn_some h (q := q) (f := 0) (by decide) hi hQ
    rw [d0] at this
    exact this
  have c2 := zn_mono (H := H) (Q := Q) (P := P) (q := q) (f := 0) (show st (P i) + 1 ≤ 20 by omega)
  have lt : zn H Q P q 0 (st (P i)) < zn H Q P q 0 20 := by omega
  have hz : ∀ f, f < 20 → zn H Q P q f (zd P f i) < zn H Q P q 0 20 := fun f hf => by
    have := zn_some h (q := q) hf hi hQ
    have hd : zd P f i < 20 := Nat.mod_lt _ (by decide)
    have := zn_mono (H := H) (Q := Q) (P := P) (q := q) (f := f) (show zd P f i + 1 ≤ 20 by omega)
    rw [zn_20 h hf] at this
    omega
  rcases hg with ⟨rfl, -, rfl⟩ | ⟨k0, hk0, hQ0, hf0, -, hg0⟩
  · refine ⟨hz 0 (by decide), ?_⟩
    rw [d0, Nat.zero_add]
    exact Nat.mod_eq_of_lt lt
  · have hs0 := h.sl hk0
    have d00 := zd_0 h hk0
    have g1 : g = zn H Q P q 0 (st (P k0) + 1) := by
      have := zn_some h (q := q) (f := 0) (by decide) hk0 hQ0
      rw [d00] at this
      rw [hg0, if_pos (by omega), this]
    refine ⟨hz f (by omega), ?_⟩
    by_cases e20 : st (P k0) + 1 = 20
    · have ef : f = 0 := by omega
      subst ef
      rw [d0, g1, e20, Nat.add_mod_left]
      exact Nat.mod_eq_of_lt lt
    · have ef : f = st (P k0) + 1 := by omega
      rw [g1, ← ef]
      have ez : zd P f i = (st (P i) + 20 - f) % 20 := rfl
      rw [ez]
      by_cases e9 : f ≤ st (P i)
      · rw [Nat.add_comm, cyc1 h hs e9]
        exact Nat.mod_eq_of_lt lt
      · rw [Nat.add_comm, cyc2 h (by omega) (by omega), Nat.add_mod_left]
        exact Nat.mod_eq_of_lt lt
set_option maxHeartbeats 1000000 in
theorem lA.round (hA : lA t u) (h : zT H N ρ Q P b c u) (hH : H ≤ 16) {q f : Nat} (hq : q < 4) (hB : lBg H Q P u q f) : rL_round t q = nI (zn H Q P q f 20) ∧ ∀ i, i < H → Q i = q → sL_round t q 275 (4 + zn H Q P q f (zd P f i)) = nI i := by
  have hle := zn_le (H := H) (Q := Q) (P := P) q 0 20
  have key : ∀ (j k g : Nat) (w : zM), 21 ≤ k + j → k ≤ 20 → lGo H Q P u q f k g → lA w u → (∀ i, i < H → Q i = q → st (P i) < k → w 275 (24 + zn H Q P q 0 (st (P i))) = nI i) → lL_round_9 t q j k (zn H Q P q 0 k) g w = nI (zn H Q P q 0 20) ∧ ∀ i, i < H → Q i = q → lsL_round_9 t q j k (zn H Q P q 0 k) g w 275 (4 + zn H Q P q f (zd P f i)) = nI i := by
    intro j
    induction j with
    | zero => intro k g w h0 hk; omega
    | succ j ih =>
      intro k g w h0 hk hg hw hl
      unfold lL_round_9 lsL_round_9
      by_cases q1 : (20 : Int32) ≤ nI k
      · have : k = 20 := by have := zle (a := 20) (by decide) (by omega) q1; omega
        subst this
        rw [if_pos q1, if_pos q1]
        obtain ⟨r1, r2, -⟩ := round_92_e t q (n := zn H Q P q 0 20) (g := g) (by omega) 21 0 w (Nat.zero_le _) (by omega)
        refine ⟨r1, fun i hi hQ => ?_⟩
        obtain ⟨p1, p2⟩ := hg.pos h hi hQ
        rw [r2 _ p1 (Nat.zero_le _), p2]
        exact hl i hi hQ (h.sl hi)
      · have hk2 : k < 20 := zge (b := 20) (by omega) (by decide) q1
        rw [if_neg q1, if_neg q1]
        obtain ⟨p, hp1, hp2, hp3, hp4⟩ := pl_e hk2
        rw [hp4]
        rcases hw.at h hH hq hp1 hp2 with ⟨a1, a2⟩ | ⟨i0, hi0, a1, a2, a3⟩
        · have hne : ∀ i, i < H → Q i = q → st (P i) ≠ k := fun i hi hQ e => a1 i hi ⟨hQ, st_inj (h.P1 hi).2.1 (h.P1 hi).2.2 hp1 hp2 (e.trans hp3.symm)⟩
          have e0 : zn H Q P q 0 (k + 1) = zn H Q P q 0 k := zn_none (fun i hi hQ => by rw [zd_0 h hi]; exact hne i hi hQ)
          rw [a2, if_pos (show (-1 : Int32) < 0 by decide +kernel), if_pos (show (-1 : Int32) < 0 by decide +kernel), ← e0]
          refine ih (k + 1) g w (by omega) (by omega) ?_ hw (fun i hi hQ hs => hl i hi hQ (by have := hne i hi hQ; omega))
          rcases hg with g1 | ⟨k0, g1, g2, g3, g4, g5⟩
          · exact Or.inl g1
          · refine Or.inr ⟨k0, g1, g2, g3, g4, ?_⟩
            have := hne k0 g1 g2
            rw [g5]
            by_cases e9 : st (P k0) < k
            · rw [if_pos e9, if_pos (by omega)]
            · rw [if_neg e9, if_neg (by omega)]
        · have hs0 : st (P i0) = k := by rw [a2]; exact hp3
          have d0 := zd_0 h hi0
          have e0 : zn H Q P q 0 (k + 1) = zn H Q P q 0 k + 1 := by
            have := zn_some h (q := q) (f := 0) (by decide) hi0 a1
            rw [d0, hs0] at this
            exact this
          have hne : ∀ i, i < H → Q i = q → i ≠ i0 → st (P i) ≠ k := fun i hi hQ e1 e2 => e1 (h.uq hi hi0 (hQ.trans a1.symm) (e2.trans hs0.symm))
          have hn0 : ¬ nI i0 < 0 := nI_pos (by omega)
          have ew : w 275 q = u 1 (336 + q) := hw.rw hq
          rw [a3, if_neg hn0, if_neg hn0, ew, nI_1]
          have hw2 : lA (zset w 275 (24 + zn H Q P q 0 k) (nI i0)) u := hw.junk (by omega) _
          have hl2 : ∀ i, i < H → Q i = q → st (P i) < k + 1 → zset w 275 (24 + zn H Q P q 0 k) (nI i0) 275 (24 + zn H Q P q 0 (st (P i))) = nI i := fun i hi hQ hs => by
            by_cases e : i = i0
            · subst e
              rw [hs0]
              exact zset_eq _ _ _ _
            · have hs2 : st (P i) < k := by have := hne i hi hQ e; omega
              have c1 : zn H Q P q 0 (st (P i) + 1) = zn H Q P q 0 (st (P i)) + 1 := by
                have := zn_some h (q := q) (f := 0) (by decide) hi hQ
                rw [zd_0 h hi] at this
                exact this
              have c2 := zn_mono (H := H) (Q := Q) (P := P) (q := q) (f := 0) (show st (P i) + 1 ≤ k by omega)
              rw [zset_nk _ _ _ (by omega)]
              exact hl i hi hQ hs2
          by_cases cu : u 1 (336 + q) = nI (i0 + 1)
          · rw [if_pos cu, if_pos cu, ← e0]
            refine ih (k + 1) _ _ (by omega) (by omega) ?_ hw2 hl2
            rcases hg with ⟨g1, g2, g3⟩ | ⟨k0, g1, g2, g3, g4, g5⟩
            · exact absurd (g2.symm.trans cu) (fun e => absurd ((nI_eq (a := 0) (by decide) (by omega)).mp e) (by omega))
            · have e9 : k0 = i0 := by have := (nI_eq (by omega) (by omega)).mp (g4.symm.trans cu); omega
              subst e9
              refine Or.inr ⟨k0, g1, g2, g3, g4, ?_⟩
              rw [if_pos (by omega), hs0, e0]
          · rw [if_neg cu, if_neg cu, ← e0]
            refine ih (k + 1) _ _ (by omega) (by omega) ?_ hw2 hl2
            rcases hg with g1 | ⟨k0, g1, g2, g3, g4, g5⟩
            · exact Or.inl g1
            · refine Or.inr ⟨k0, g1, g2, g3, g4, ?_⟩
              have e8 : k0 ≠ i0 := fun e => cu (by rw [← e]; exact g4)
              have := hne k0 g1 g2 e8
              rw [g5]
              by_cases e9 : st (P k0) < k
              · rw [if_pos e9, if_pos (by omega)]
              · rw [if_neg e9, if_neg (by omega)]
  have hz : zn H Q P q 0 0 = 0 := zn_0 q 0
  have hk := key 21 0 0 t (by decide) (by decide) ?_ hA (fun i hi hQ hs => absurd hs (by omega))
  · rw [hz] at hk
    rw [zn_20 h hB.lt]
    exact hk
  · rcases hB with ⟨b1, b2⟩ | ⟨k0, b1, b2, b3, b4⟩
    · exact Or.inl ⟨b1, b2, rfl⟩
    · exact Or.inr ⟨k0, b1, b2, b3, b4, by rw [if_neg (by omega)]⟩
end LE
