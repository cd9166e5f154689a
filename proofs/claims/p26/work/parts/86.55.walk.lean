def zc (p : Nat → Bool) : Nat → Nat
  | 0 => 0
  | n + 1 => zc p n + (if p n = true then 1 else 0)
theorem zc_s (p : Nat → Bool) (n : Nat) : zc p (n + 1) = zc p n + (if p n = true then 1 else 0) := rfl
theorem zc_ext {p p' : Nat → Bool} : ∀ n, (∀ i, i < n → p i = p' i) → zc p n = zc p' n := by
  intro n
  induction n with
  | zero => intro _; rfl
  | succ n ih =>
    intro h
    rw [zc_s, zc_s, ih (fun i hi => h i (by omega)), h n (by omega)]
theorem zc_one {p p' : Nat → Bool} {k : Nat} (h0 : p k = false) (h1 : p' k = true) : ∀ n, k < n → (∀ i, i < n → i ≠ k → p i = p' i) → zc p' n = zc p n + 1 := by
  intro n
  induction n with
  | zero => intro hk; omega
  | succ n ih =>
    intro hk h
    unfold zc
    by_cases e : k = n
    · subst e
      rw [h0, h1, zc_ext k (fun i hi => h i (by omega) (by omega))]
      simp
    · rw [ih (by omega) (fun i hi => h i (by omega)), h n (by omega) (fun q => e q.symm)]
      omega
theorem zc_le {p p' : Nat → Bool} : ∀ n, (∀ i, i < n → p i = true → p' i = true) → zc p n ≤ zc p' n := by
  intro n
  induction n with
  | zero => intro _; exact Nat.le_refl _
  | succ n ih =>
    intro h
    unfold zc
    have := ih (fun i hi => h i (by omega))
    cases hp : p n with
    | false => simp; omega
    | true => rw [h n (by omega) hp]; simp; omega
theorem zc_n (p : Nat → Bool) : ∀ n, zc p n ≤ n := by
  intro n
  induction n with
  | zero => exact Nat.le_refl _
  | succ n ih =>
    unfold zc
    split <;> omega
def kf (s : Nat) : Nat := if s < 10 then 2 * s + 1 else 60 + 2 * s
theorem kf_lt {s : Nat} (h : s < 20) : 1 ≤ kf s ∧ kf s ≤ 98 := by
  unfold kf
  split <;> omega
theorem key_lt : ∀ a, a < 20 → ∀ c, c < 20 → ∀ l, l < 20 → (decide ((kf a + 199 - kf l) % 200 < (kf c + 199 - kf l) % 200) = decide ((a + 20 - (l + 1) % 20) % 20 < (c + 20 - (l + 1) % 20) % 20)) := by decide +kernel
theorem key_lt0 : ∀ a, a < 20 → ∀ c, c < 20 → (decide ((kf a + 199 - 0) % 200 < (kf c + 199 - 0) % 200) = decide ((a + 20 - 0) % 20 < (c + 20 - 0) % 20)) := by decide +kernel
theorem turn_e {k p : Nat} {u : zM} (h : u 1 (14 * k + 1) = nI p) (h1 : 1 ≤ p) (h2 : p ≤ 20) : rX7_turn u k = nI (kf (st p)) := by
  unfold rX7_turn
  rw [h, show zrem (nI p) 2 = nI (p % 2) from zrem_n (b := 2) (by omega) (by decide) (by decide)]
  by_cases c : p % 2 = 1
  · rw [if_pos (show nI (p % 2) = 1 from (by rw [c]; rfl))]
    exact congrArg nI (by unfold kf st; rw [if_pos c, if_pos (by omega)]; omega)
  · rw [if_neg (show ¬ nI (p % 2) = 1 from fun q => c ((nI_eq (b := 1) (by omega) (by decide)).mp q))]
    have : (100 : Int32) - nI p = nI (100 - p) := nI_sub (a := 100) (by omega)
    rw [this]
    exact congrArg nI (by unfold kf st; rw [if_neg c, if_neg (by omega)]; omega)
/-- where the walk begins: the step, and the turn behind which the round begins -/
def zBg (f g : Nat) : Prop := (f = 0 ∧ g = 0) ∨ ∃ l, l < 20 ∧ f = (l + 1) % 20 ∧ g = kf l
theorem zBg.lt {f g : Nat} (h : zBg f g) : f < 20 ∧ g ≤ 98 := by
  rcases h with ⟨rfl, rfl⟩ | ⟨l, hl, rfl, rfl⟩
  · decide
  · exact ⟨by omega, (kf_lt hl).2⟩
theorem zBg.key {f g a c : Nat} (h : zBg f g) (ha : a < 20) (hc : c < 20) : (kf a + 199 - g) % 200 < (kf c + 199 - g) % 200 ↔ (a + 20 - f) % 20 < (c + 20 - f) % 20 := by
  rcases h with ⟨rfl, rfl⟩ | ⟨l, hl, rfl, rfl⟩
  · have := key_lt0 a ha c hc
    simpa using this
  · have := key_lt a ha c hc l hl
    simpa using this
/-- the cyclic distance of a house's step -/
def zd (P : Nat → Nat) (f k : Nat) : Nat := (st (P k) + 20 - f) % 20
/-- houses of street q with a distance below m -/
def zn (H : Nat) (Q P : Nat → Nat) (q f m : Nat) : Nat := zc (fun j => decide (Q j = q ∧ zd P f j < m)) H
section ZWK
variable {H N : Nat} {ρ Q P : Nat → Nat} {b : Nat} {t u : zM}
theorem zT.Hl (h : zT H N ρ Q P b t u) : H ≤ 24 := h.2.1.1
theorem zT.h4 (h : zT H N ρ Q P b t u) : t b 4 = nI H := h.2.1.2.1
theorem zT.h5 (h : zT H N ρ Q P b t u) : t b 5 = nI N := h.2.1.2.2.1
theorem zT.m4 (h : zT H N ρ Q P b t u) : u 1 401 = nI H := h.1.2.2.2.1.2.trans h.h4
theorem zT.m5 (h : zT H N ρ Q P b t u) : u 1 400 = nI N := h.1.2.2.2.1.1.trans h.h5
theorem zT.P1 (h : zT H N ρ Q P b t u) {k : Nat} (hk : k < H) : Q k < 4 ∧ 1 ≤ P k ∧ P k ≤ 20 := ⟨(h.2.2.1.1 k hk).1, (h.2.2.1.1 k hk).2.1, (h.2.2.1.1 k hk).2.2.1⟩
theorem zT.sl (h : zT H N ρ Q P b t u) {k : Nat} (hk : k < H) : st (P k) < 20 := st_lt (h.P1 hk).2.1 (h.P1 hk).2.2
theorem zT.m0 (h : zT H N ρ Q P b t u) {k : Nat} (hk : k < H) : u 1 (14 * k + 0) = nI (Q k) := by
  have := h.Hl
  exact (h.1.1 k (by omega) 0 (by decide) (by decide)).trans (h.2.2.1.1 k hk).2.2.2.1
theorem zT.m1 (h : zT H N ρ Q P b t u) {k : Nat} (hk : k < H) : u 1 (14 * k + 1) = nI (P k) := by
  have := h.Hl
  exact (h.1.1 k (by omega) 1 (by decide) (by decide)).trans (h.2.2.1.1 k hk).2.2.2.2
theorem zT.turn (h : zT H N ρ Q P b t u) {k : Nat} (hk : k < H) : rX7_turn u k = nI (kf (st (P k))) := turn_e (h.m1 hk) (h.P1 hk).2.1 (h.P1 hk).2.2
/-- no two houses at one place -/
theorem zT.uq (h : zT H N ρ Q P b t u) {i k : Nat} (hi : i < H) (hk : k < H) (e : Q i = Q k) (e2 : st (P i) = st (P k)) : i = k := by
  have h1 := h.2.2.1.2.1 i hi
  rw [e, e2, h.2.2.1.2.1 k hk] at h1
  have := h.Hl
  exact ((nI_eq (by omega) (by omega)).mp h1).symm
theorem zT.uqd (h : zT H N ρ Q P b t u) {i k f : Nat} (hf : f < 20) (hi : i < H) (hk : k < H) (e : Q i = Q k) (e2 : zd P f i = zd P f k) : i = k := by
  have h1 := h.sl hi
  have h2 := h.sl hk
  refine h.uq hi hk e ?_
  unfold zd at e2
  omega
theorem zT.m0q (h : zT H N ρ Q P b t u) {k q : Nat} (hq : q < 4) (hk : k < H) : u 1 (14 * k + 0) = nI q ↔ Q k = q := by
  rw [h.m0 hk]
  have := (h.P1 hk).1
  exact nI_eq (by omega) (by omega)
theorem rank_key (h : zT H N ρ Q P b t u) {i k f g : Nat} (hB : zBg f g) (hi : i < H) (hk : k < H) : zrem (((rX7_turn u k) - nI g) + 199) 200 ≤ zrem (((rX7_turn u i) - nI g) + 199) 200 ↔ ¬ zd P f i < zd P f k := by
  have hg := hB.lt
  have k1 := kf_lt (h.sl hi)
  have k2 := kf_lt (h.sl hk)
  rw [h.turn hi, h.turn hk]
  have e : ∀ a, a ≤ 98 → zrem ((nI a - nI g) + 199) 200 = nI ((a + 199 - g) % 200) := fun a ha => by
    rw [z_sub_add]
    show zrem (nI a + nI 199 - nI g) (nI 200) = _
    rw [nI_add, nI_sub (by omega), zrem_n (by omega) (by decide) (by decide)]
  rw [e _ k1.2, e _ k2.2, nI_leI (by omega) (by omega)]
  have := hB.key (h.sl hi) (h.sl hk)
  unfold zd
  omega
theorem rankOf_e (h : zT H N ρ Q P b t u) {k q f g : Nat} (hB : zBg f g) (hq : q < 4) (hk : k < H) : ∀ (j i : Nat), i ≤ H → H < i + j → lX7_rankOf_23 u k (nI q) (nI g) j i (nI (zc (fun x => decide (Q x = q ∧ zd P f x < zd P f k)) i)) = nI (zn H Q P q f (zd P f k)) := by
  intro j
  induction j with
  | zero => intro i hi hj; omega
  | succ j ih =>
    intro i hi hj
    have hH := h.Hl
    unfold lX7_rankOf_23
    rw [h.m4]
    by_cases c : nI H ≤ nI i
    · have : i = H := by have := zle (by omega) (by omega) c; omega
      subst this
      rw [if_pos c]
      rfl
    · have hi2 : i < H := zge (by omega) (by omega) c
      rw [if_neg c]
      have hs := ih (i + 1) (by omega) (by omega)
      have key := rank_key h hB hi2 hk
      by_cases c1 : Q i = q
      · rw [if_pos ((h.m0q hq hi2).mpr c1)]
        by_cases c2 : zd P f i < zd P f k
        · rw [if_neg (fun q => (key.mp q) c2), nI_1]
          rw [show zc (fun x => decide (Q x = q ∧ zd P f x < zd P f k)) (i + 1) = zc (fun x => decide (Q x = q ∧ zd P f x < zd P f k)) i + 1 from by rw [zc_s, if_pos (by simp [c1, c2])]] at hs
          exact hs
        · rw [if_pos (key.mpr c2), Int32.add_zero]
          rw [show zc (fun x => decide (Q x = q ∧ zd P f x < zd P f k)) (i + 1) = zc (fun x => decide (Q x = q ∧ zd P f x < zd P f k)) i from by rw [zc_s, if_neg (by simp [c2]), Nat.add_zero]] at hs
          exact hs
      · rw [if_neg (fun e => c1 ((h.m0q hq hi2).mp e)), Int32.add_zero]
        rw [show zc (fun x => decide (Q x = q ∧ zd P f x < zd P f k)) (i + 1) = zc (fun x => decide (Q x = q ∧ zd P f x < zd P f k)) i from by rw [zc_s, if_neg (by simp [c1]), Nat.add_zero]] at hs
        exact hs
/-- one more distance: a house is there, or none -/
theorem zn_some (h : zT H N ρ Q P b t u) {k q f : Nat} (hf : f < 20) (hk : k < H) (e : Q k = q) : zn H Q P q f (zd P f k + 1) = zn H Q P q f (zd P f k) + 1 := by
  unfold zn
  refine zc_one (k := k) (by simp) (by simp [e]) H hk (fun i hi hne => ?_)
  by_cases c : Q i = q
  · have hn : zd P f i ≠ zd P f k := fun q2 => hne (h.uqd hf hi hk (c.trans e.symm) q2)
    have : zd P f i < zd P f k ↔ zd P f i < zd P f k + 1 := by omega
    simp [c, this]
  · simp [c]
theorem zn_none {q f m : Nat} (h : ∀ k, k < H → Q k = q → zd P f k ≠ m) : zn H Q P q f (m + 1) = zn H Q P q f m := by
  unfold zn
  refine zc_ext H (fun i hi => ?_)
  by_cases c : Q i = q
  · have := h i hi c
    have : zd P f i < m + 1 ↔ zd P f i < m := by omega
    simp [c, this]
  · simp [c]
theorem zn_mono {q f m m' : Nat} (h : m ≤ m') : zn H Q P q f m ≤ zn H Q P q f m' := by
  unfold zn
  refine zc_le H (fun i hi hp => ?_)
  simp at hp ⊢
  omega
theorem zn_le (q f m : Nat) : zn H Q P q f m ≤ H := zc_n _ _
theorem zn_inj (h : zT H N ρ Q P b t u) {i k q f : Nat} (hf : f < 20) (hi : i < H) (hk : k < H) (ei : Q i = q) (ek : Q k = q) (e : zn H Q P q f (zd P f i) = zn H Q P q f (zd P f k)) : i = k := by
  refine h.uqd hf hi hk (ei.trans ek.symm) ?_
  rcases Nat.lt_trichotomy (zd P f i) (zd P f k) with c | c | c
  · have h1 := zn_some h hf hi ei
    have h2 := zn_mono (H := H) (Q := Q) (P := P) (q := q) (f := f) (show zd P f i + 1 ≤ zd P f k by omega)
    omega
  · exact c
  · have h1 := zn_some h hf hk ek
    have h2 := zn_mono (H := H) (Q := Q) (P := P) (q := q) (f := f) (show zd P f k + 1 ≤ zd P f i by omega)
    omega
/-- the reference's round -/
theorem rounds_71 (h : zT H N ρ Q P b t u) {q f g : Nat} (hB : zBg f g) (hq : q < 4) (t0 : zM) (v : Int32) : ∀ (j i : Nat) (w : zM), (∀ x, x ≠ 6 → w x = u x) → i ≤ H → H < i + j → lX7_rounds_71 t0 q j i v (nI g) w = v ∧ (∀ x, x ≠ 6 → lsX7_rounds_71 t0 q j i v (nI g) w x = u x) ∧ ∀ k, k < H → Q k = q → (i ≤ k ∨ w 6 (zn H Q P q f (zd P f k)) = nI k) → lsX7_rounds_71 t0 q j i v (nI g) w 6 (zn H Q P q f (zd P f k)) = nI k := by
  intro j
  induction j with
  | zero => intro i w hw hi hj; omega
  | succ j ih =>
    intro i w hw hi hj
    have hH := h.Hl
    have e1 : w 1 = u 1 := hw 1 (by decide)
    unfold lX7_rounds_71 lsX7_rounds_71
    rw [e1, h.m4]
    by_cases c : nI H ≤ nI i
    · have : i = H := by have := zle (by omega) (by omega) c; omega
      subst this
      rw [if_pos c, if_pos c]
      refine ⟨rfl, hw, fun k hk e q => ?_⟩
      rcases q with q | q
      · omega
      · exact q
    · have hi2 : i < H := zge (by omega) (by omega) c
      rw [if_neg c, if_neg c]
      by_cases c1 : Q i = q
      · rw [if_pos ((h.m0q hq hi2).mpr c1), if_pos ((h.m0q hq hi2).mpr c1)]
        have hw' : zT H N ρ Q P b t w := h.ru (fun x _ => by rw [e1])
        have er : rX7_rankOf w i (nI q) (nI g) = nI (zn H Q P q f (zd P f i)) := rankOf_e hw' hB hq hi2 25 0 (Nat.zero_le _) (by omega)
        have hn := zn_le (H := H) (Q := Q) (P := P) q f (zd P f i)
        rw [er, nI_clamp (by omega)]
        obtain ⟨r1, r2, r3⟩ := ih (i + 1) (zset w 6 (zn H Q P q f (zd P f i)) (nI i)) (fun x hx => (zset_id _ _ _ hx).trans (hw x hx)) (by omega) (by omega)
        refine ⟨r1, r2, fun k hk e hh => r3 k hk e ?_⟩
        by_cases ek : k = i
        · subst ek
          exact Or.inr (zset_eq _ _ _ _)
        · rcases hh with q1 | q1
          · exact Or.inl (by omega)
          · refine Or.inr ?_
            rw [zset_nk _ _ _ (fun q2 => ek (zn_inj h hB.lt.1 hk hi2 e c1 q2))]
            exact q1
      · rw [if_neg (fun e => c1 ((h.m0q hq hi2).mp e)), if_neg (fun e => c1 ((h.m0q hq hi2).mp e))]
        obtain ⟨r1, r2, r3⟩ := ih (i + 1) w hw (by omega) (by omega)
        refine ⟨r1, r2, fun k hk e hh => r3 k hk e ?_⟩
        rcases hh with q1 | q1
        · refine Or.inl ?_
          rcases Nat.lt_or_ge i k with q2 | q2
          · exact q2
          · exact absurd (show Q i = q from (show i = k by omega) ▸ e) c1
        · exact Or.inr q1
/-- where the walk in a street begins, on both sides -/
theorem zT.bg (h : zT H N ρ Q P b t u) {q : Nat} (hq : q < 4) : ∃ f g, zBg f g ∧ rX4_stepAhead (b + 27 + 2 * q) t 0 = nI f ∧ (∀ a, a < 1000 → rX4_stepAhead (b + 27 + 2 * q) t (nI a) = nI ((f + a) % 20)) ∧ (if 0 ≤ (u 1 (336 + q)) - 1 then rX7_turn u (((u 1 (336 + q)) - 1).toNatClampNeg) else 0) = nI g := by
  have hH := h.Hl
  have key : ∃ f g, zBg f g ∧ (∀ a, a < 1000 → rX4_stepAhead (b + 27 + 2 * q) t (nI a) = nI ((f + a) % 20)) ∧ (if 0 ≤ (u 1 (336 + q)) - 1 then rX7_turn u (((u 1 (336 + q)) - 1).toNatClampNeg) else 0) = nI g := by
    rcases h.2.2.1.2.2.2 q hq with ⟨e1, e2⟩ | ⟨k, hk, e0, e1, e2⟩
    · refine ⟨0, 0, Or.inl ⟨rfl, rfl⟩, fun a ha => ?_, ?_⟩
      · unfold rX4_stepAhead
        rw [e1, show (-1 : Int32) + 1 = nI 0 from by decide +kernel, nI_add]
        exact zrem_n (b := 20) (by omega) (by decide) (by decide)
      · rw [e2, if_neg (by decide +kernel)]; rfl
    · have hl := h.sl hk
      refine ⟨(st (P k) + 1) % 20, kf (st (P k)), Or.inr ⟨st (P k), hl, rfl, rfl⟩, fun a ha => ?_, ?_⟩
      · unfold rX4_stepAhead
        rw [e1, nI_1, nI_add]
        rw [show zrem (nI (st (P k) + 1 + a)) 20 = nI ((st (P k) + 1 + a) % 20) from zrem_n (b := 20) (by omega) (by decide) (by decide)]
        exact congrArg nI (by omega)
      · have e3 : nI (k + 1) - 1 = nI k := nI_sub (b := 1) (by omega)
        rw [e2, e3, if_pos (nI_pos' (by omega)), nI_clamp (by omega)]
        exact h.turn hk
  obtain ⟨f, g, hB, h1, h2⟩ := key
  refine ⟨f, g, hB, ?_, h1, h2⟩
  have := h1 0 (by decide)
  rw [show (0 : Int32) = nI 0 from rfl, this]
  exact congrArg nI (by have := hB.lt.1; omega)
theorem rounds_e (h : zT H N ρ Q P b t u) {q f g : Nat} (hB : zBg f g) (hq : q < 4) (hg : (if 0 ≤ (u 1 (336 + q)) - 1 then rX7_turn u (((u 1 (336 + q)) - 1).toNatClampNeg) else 0) = nI g) : rX7_rounds u q = nI (zn H Q P q f 20) ∧ (∀ x, x ≠ 6 → sX7_rounds u q x = u x) ∧ ∀ k, k < H → Q k = q → sX7_rounds u q 6 (zn H Q P q f (zd P f k)) = nI k := by
  have hH := h.Hl
  have hf := hB.lt.1
  have loop : ∀ (j i : Nat), i ≤ H → H < i + j → lX7_rounds_4 u q j i (nI (zc (fun x => decide (Q x = q ∧ zd P f x < 20)) i)) = nI (zn H Q P q f 20) ∧ (∀ x, x ≠ 6 → lsX7_rounds_4 u q j i (nI (zc (fun x => decide (Q x = q ∧ zd P f x < 20)) i)) x = u x) ∧ ∀ k, k < H → Q k = q → lsX7_rounds_4 u q j i (nI (zc (fun x => decide (Q x = q ∧ zd P f x < 20)) i)) 6 (zn H Q P q f (zd P f k)) = nI k := by
    intro j
    induction j with
    | zero => intro i hi hj; omega
    | succ j ih =>
      intro i hi hj
      unfold lX7_rounds_4 lsX7_rounds_4
      rw [h.m4]
      by_cases c : nI H ≤ nI i
      · have : i = H := by have := zle (by omega) (by omega) c; omega
        subst this
        rw [if_pos c, if_pos c]
        obtain ⟨r1, r2, r3⟩ := rounds_71 h hB hq u (nI (zc (fun x => decide (Q x = q ∧ zd P f x < 20)) i)) 25 0 u (fun _ _ => rfl) (Nat.zero_le _) (by omega)
        by_cases c3 : 0 ≤ (u 1 (336 + q)) - 1
        · rw [if_pos c3] at hg
          rw [if_pos c3, if_pos c3, hg]
          exact ⟨r1, r2, fun k hk e => r3 k hk e (Or.inl (Nat.zero_le _))⟩
        · rw [if_neg c3] at hg
          rw [if_neg c3, if_neg c3, hg]
          exact ⟨r1, r2, fun k hk e => r3 k hk e (Or.inl (Nat.zero_le _))⟩
      · have hi2 : i < H := zge (by omega) (by omega) c
        rw [if_neg c, if_neg c]
        have hs := ih (i + 1) (by omega) (by omega)
        have hd : zd P f i < 20 := Nat.mod_lt _ (by decide)
        by_cases c1 : Q i = q
        · rw [if_pos ((h.m0q hq hi2).mpr c1), if_pos ((h.m0q hq hi2).mpr c1), nI_1]
          rw [show zc (fun x => decide (Q x = q ∧ zd P f x < 20)) (i + 1) = zc (fun x => decide (Q x = q ∧ zd P f x < 20)) i + 1 from by rw [zc_s, if_pos (by simp [c1, hd])]] at hs
          exact hs
        · rw [if_neg (fun e => c1 ((h.m0q hq hi2).mp e)), if_neg (fun e => c1 ((h.m0q hq hi2).mp e)), Int32.add_zero]
          rw [show zc (fun x => decide (Q x = q ∧ zd P f x < 20)) (i + 1) = zc (fun x => decide (Q x = q ∧ zd P f x < 20)) i from by rw [zc_s, if_neg (by simp [c1]), Nat.add_zero]] at hs
          exact hs
  exact loop 25 0 (Nat.zero_le _) (by omega)
end ZWK
