theorem zset_zset (t : zM) (i k : Nat) (v w : Int32) : zset (zset t i k v) i k w = zset t i k w := by
  funext x y
  by_cases e : x = i
  · subst e
    by_cases e2 : y = k
    · subst e2; rw [zset_eq, zset_eq]
    · rw [zset_nk _ _ _ e2, zset_nk _ _ _ e2, zset_nk _ _ _ e2]
  · rw [zset_idk _ _ _ _ e, zset_idk _ _ _ _ e, zset_idk _ _ _ _ e]
theorem zHb.mono {R R1 : Nat} {h : Nat → Int32} (q : zHb R h) (le : R ≤ R1) : zHb R1 h := by
  obtain ⟨a1, a2, a3, a4, a5, a6, r, hr, e⟩ := q
  exact ⟨a1, a2, a3, a4, a5, a6, r, by omega, e⟩
theorem zT.mono {H N : Nat} {ρ ρ1 Q P : Nat → Nat} {b : Nat} {t u : zM} (h : zT H N ρ Q P b t u) (le : ∀ i, i < 24 → ρ i ≤ ρ1 i) : zT H N ρ1 Q P b t u := by
  obtain ⟨hE, ⟨b1, b2, b3, b4, b5, b6⟩, hS, hL⟩ := h
  exact ⟨hE, ⟨b1, b2, b3, fun k hk => (b4 k hk).mono (le k hk), b5, b6⟩, hS, hL⟩
/-- a field of a house -/
theorem zT.hs {H N : Nat} {ρ ρ1 Q P : Nat → Nat} {b : Nat} {t u : zM} (h : zT H N ρ Q P b t u) {k f y : Nat} {v : Int32} (hk : k < H) (hf2 : 2 ≤ f) (hf1 : f < 14) (h7 : f ≠ 7) (hy : y = 14 * k + hf f) (hρ : ∀ i, i < 24 → i ≠ k → ρ1 i = ρ i) (hh : zHb (ρ1 k) (zset t (b + 2 + k) f v (b + 2 + k))) : zT H N ρ1 Q P b (zset t (b + 2 + k) f v) (zset u 1 y v) := by
  subst hy
  obtain ⟨hE, hB, hS, hL⟩ := h
  have hH := hB.1
  have q := hf_lt hf1 h7
  exact ⟨hE.h (by omega) hf1 h7 v, hB.one hk (fun i hi hne => zset_id _ _ _ (by omega)) hρ (zset_idk _ _ _ _ (by omega)) (zset_idk _ _ _ _ (by omega)) (zset_id _ _ _ (by omega)) hh, hS.fr hH (fun i hi => by
    by_cases e : i = k
    · subst e; rw [zset_nk _ _ _ (by omega), zset_nk _ _ _ (by omega)]; exact ⟨rfl, rfl⟩
    · rw [zset_id _ _ _ (by omega)]; exact ⟨rfl, rfl⟩) (fun j hj => ⟨by rw [zset_id _ _ _ (by omega)], by rw [zset_id _ _ _ (by omega)]⟩) (fun j hj => zset_nk _ _ _ (by omega)), hL.fr (zset_id _ _ _ (by omega)) (zset_id _ _ _ (by omega)) (fun x hx => zset_nk _ _ _ (by omega))⟩
/-- an account -/
theorem zT.ac {H N : Nat} {ρ Q P : Nat → Nat} {b : Nat} {t u : zM} (h : zT H N ρ Q P b t u) {c x : Nat} (v : Int32) (h1 : 6 ≤ c) (h2 : c ≤ 12) (hx : x = 396 + c) : zT H N ρ Q P b (zset t b c v) (zset u 1 x v) := by
  subst hx
  obtain ⟨hE, hB, hS, hL⟩ := h
  have hH := hB.1
  exact ⟨hE.c (by omega) h2 v (by omega), hB.fr (fun i hi => zset_id _ _ _ (by omega)) (zset_nk _ _ _ (by omega)) (zset_nk _ _ _ (by omega)) (zset_id _ _ _ (by omega)), hS.fr hH (fun i hi => by rw [zset_id _ _ _ (by omega)]; exact ⟨rfl, rfl⟩) (fun j hj => ⟨by rw [zset_id _ _ _ (by omega)], by rw [zset_id _ _ _ (by omega)]⟩) (fun j hj => zset_nk _ _ _ (by omega)), hL.fr (zset_id _ _ _ (by omega)) (zset_id _ _ _ (by omega)) (fun y hy => zset_nk _ _ _ (by omega))⟩
/-- the day of now -/
theorem zT.nw {H N : Nat} {ρ Q P : Nat → Nat} {b : Nat} {t u : zM} (h : zT H N ρ Q P b t u) : zT H (N + 1) ρ Q P b (zset t b 5 (t b 5 + 1)) (zset u 1 400 (u 1 400 + 1)) := by
  obtain ⟨hE, hB, hS, hL⟩ := h
  have hH := hB.1
  have e5 : u 1 400 = t b 5 := hE.2.2.2.1.1
  rw [e5]
  obtain ⟨b1, b2, b3, b4, b5, b6⟩ := hB
  exact ⟨hE.c (by omega) (by omega) _ (by omega), ⟨b1, (zset_nk _ _ _ (by omega)).trans b2, by rw [zset_eq, b3]; exact nI_1 N, fun i hi => by rw [zset_id _ _ _ (by omega)]; exact b4 i hi, fun i hi hH2 => by rw [zset_id _ _ _ (by omega)]; exact b5 i hi hH2, by rw [zset_id _ _ _ (by omega)]; exact b6⟩, hS.fr hH (fun i hi => by rw [zset_id _ _ _ (by omega)]; exact ⟨rfl, rfl⟩) (fun j hj => ⟨by rw [zset_id _ _ _ (by omega)], by rw [zset_id _ _ _ (by omega)]⟩) (fun j hj => zset_nk _ _ _ (by omega)), hL.fr (zset_id _ _ _ (by omega)) (zset_id _ _ _ (by omega)) (fun y hy => zset_nk _ _ _ (by omega))⟩
def cDl (b : Nat) (t : zM) : Nat → zM
  | 0 => t
  | k + 1 => sX1_goOn (b + 2 + k) (cDl b t k)
def mDl (u : zM) : Nat → zM
  | 0 => u
  | k + 1 => zset (mDl u k) 1 (14 * k + 2) (zrem ((mDl u k) 1 (14 * k + 2) + (mDl u k) 1 (14 * k + 5)) 100000)
theorem pd26_e (b : Nat) (t0 w : zM) (M N : Nat) : ∀ (j k : Nat), k ≤ 24 → 24 < k + j → lsX5_passDays_26 b t0 M N j k (cDl b w k) = cDl b w 24 := by
  intro j
  induction j with
  | zero => intro k hk hj; omega
  | succ j ih =>
    intro k hk hj
    unfold lsX5_passDays_26
    by_cases c : (24 : Int32) ≤ nI k
    · have : k = 24 := by have := zle (a := 24) (by decide) (by omega) c; omega
      subst this
      rw [if_pos c]
    · have hk2 : k < 24 := zge (b := 24) (by omega) (by decide) c
      rw [if_neg c]
      exact ih (k + 1) (by omega) (by omega)
/-- the rest of the reference's day -/
def mRest (N : Nat) (u : zM) : zM := if (zrem ((sX7_walks (zset u 1 400 ((u 1 400) + 1)) ((N + 1) % 4)) 1 400) ((sX7_walks (zset u 1 400 ((u 1 400) + 1)) ((N + 1) % 4)) 1 413)) = 0 then (sX7_refunds (sX7_walks (zset u 1 400 ((u 1 400) + 1)) ((N + 1) % 4))) else (sX7_walks (zset u 1 400 ((u 1 400) + 1)) ((N + 1) % 4))
theorem mDl_k (u : zM) (k : Nat) {x : Nat} (h : 336 ≤ x) (hk : k ≤ 24) : mDl u k 1 x = u 1 x := by
  induction k with
  | zero => rfl
  | succ k ih =>
    unfold mDl
    rw [zset_nk _ _ _ (by omega)]
    exact ih (by omega)
theorem day2_e (t0 u : zM) (N H : Nat) (hH : H ≤ 24) (h1 : u 1 401 = nI H) : ∀ (j k : Nat), k ≤ H → H < k + j → lsX7_day_2 t0 N j k (mDl u k) = mRest N (mDl u H) ∧ lX7_day_2 t0 N j k (mDl u k) = rX7_walks (zset (mDl u H) 1 400 ((mDl u H) 1 400 + 1)) ((N + 1) % 4) := by
  intro j
  induction j with
  | zero => intro k hk hj; omega
  | succ j ih =>
    intro k hk hj
    unfold lsX7_day_2 lX7_day_2
    rw [mDl_k u k (by decide) (by omega), h1]
    by_cases c : nI H ≤ nI k
    · have : k = H := by have := zle (by omega) (by omega) c; omega
      subst this
      rw [if_pos c, if_pos c]
      exact ⟨rfl, ite_self _⟩
    · have hk2 : k < H := zge (by omega) (by omega) c
      rw [if_neg c, if_neg c]
      exact ih (k + 1) (by omega) (by omega)
theorem goOn_e {h D F : Nat} {t : zM} (h2 : t h 2 = nI D) (h4 : t h 4 = nI F) (hD : D < 100000) (hF : F ≤ 999) : sX1_goOn h t = zset t h 2 (nI ((D + F) % 100000)) := by
  unfold sX1_goOn
  rw [h2, h4, nI_add]
  by_cases c : D + F < 100000
  · rw [if_pos (show nI (D + F) < 100000 from (nI_ltI (b := 100000) (by omega) (by decide)).mpr c), Nat.mod_eq_of_lt c]
  · rw [if_neg (show ¬ nI (D + F) < 100000 from fun q => c (zlt (b := 100000) (by omega) (by decide) q)), zset_zset]
    have : nI (D + F) - 100000 = nI (D + F - 100000) := nI_sub (b := 100000) (by omega)
    rw [this]
    exact congrArg (zset t h 2) (congrArg nI (by omega))
theorem zT.dl {H N : Nat} {ρ Q P : Nat → Nat} {b : Nat} {t u : zM} (h : zT H N ρ Q P b t u) : ∀ k, k ≤ H → zT H N ρ Q P b (cDl b t k) (mDl u k) := by
  intro k
  induction k with
  | zero => intro _; exact h
  | succ k ih =>
    intro hk
    have q := ih (by omega)
    have hH := q.2.1.1
    obtain ⟨⟨D, hD, d1⟩, a2, ⟨F, hF, f1⟩, a4, a5, a6, a7⟩ := q.2.1.2.2.2.1 k (by omega)
    have u2 : mDl u k 1 (14 * k + 2) = nI D := (q.1.1 k (by omega) 2 (by decide) (by decide)).trans d1
    have u5 : mDl u k 1 (14 * k + 5) = nI F := (q.1.1 k (by omega) 4 (by decide) (by decide)).trans f1
    show zT H N ρ Q P b (sX1_goOn (b + 2 + k) (cDl b t k)) (zset (mDl u k) 1 (14 * k + 2) (zrem ((mDl u k) 1 (14 * k + 2) + (mDl u k) 1 (14 * k + 5)) 100000))
    have er : zrem ((mDl u k) 1 (14 * k + 2) + (mDl u k) 1 (14 * k + 5)) 100000 = nI ((D + F) % 100000) := by
      rw [u2, u5, nI_add]
      exact zrem_n (b := 100000) (by omega) (by decide) (by decide)
    rw [er, goOn_e d1 f1 hD hF]
    refine q.hs (by omega) (by decide) (by decide) (by decide) rfl (fun _ _ _ => rfl) ⟨⟨(D + F) % 100000, by omega, zset_eq _ _ _ _⟩, ?_, ⟨F, hF, ?_⟩, ?_, ?_, ?_, ?_⟩
    · rw [zset_nk _ _ _ (by decide)]; exact a2
    · rw [zset_nk _ _ _ (by decide)]; exact f1
    · rw [zset_nk _ _ _ (by decide)]; exact a4
    · rw [zset_nk _ _ _ (by decide)]; exact a5
    · rw [zset_nk _ _ _ (by decide)]; exact a6
    · rw [zset_nk _ _ _ (by decide)]; exact a7
theorem cDl_tail {H N : Nat} {ρ : Nat → Nat} {b : Nat} {t : zM} (h : zBd H N ρ b (cDl b t H)) : ∀ k, k ≤ 24 → H ≤ k → cDl b t k = cDl b t H := by
  intro k
  induction k with
  | zero => intro _ h0; rw [show H = 0 by omega]
  | succ k ih =>
    intro hk hH
    by_cases e : H = k + 1
    · rw [e]
    · have q := ih (by omega) (by omega)
      show sX1_goOn (b + 2 + k) (cDl b t k) = _
      rw [q]
      obtain ⟨z2, z4, -, -⟩ := h.2.2.2.2.1 k (by omega) (by omega)
      rw [goOn_e (D := 0) (F := 0) z2 z4 (by decide) (by decide)]
      exact zset_same z2
theorem zT.dials {H N : Nat} {ρ Q P : Nat → Nat} {b : Nat} {t u : zM} (h : zT H N ρ Q P b t u) (t0 : zM) (M N2 : Nat) : zT H N ρ Q P b (lsX5_passDays_26 b t0 M N2 25 0 t) (mDl u H) := by
  have e := pd26_e b t0 t M N2 25 0 (by decide) (by decide)
  have q := h.dl H (Nat.le_refl H)
  rw [show lsX5_passDays_26 b t0 M N2 25 0 t = cDl b t 24 from e, cDl_tail q.2.1 24 (Nat.le_refl _) q.2.1.1]
  exact q
/-- refunds of a house: as they were, or one more -/
def zUp (b : Nat) (t t1 : zM) : Prop := ∀ k, k < 24 → t1 (b + 2 + k) 12 = t (b + 2 + k) 12 ∨ t1 (b + 2 + k) 12 = t (b + 2 + k) 12 + 1
theorem cDl_12 (b : Nat) (t : zM) (k : Nat) : ∀ x, cDl b t k x 12 = t x 12 := by
  induction k with
  | zero => intro x; rfl
  | succ k ih =>
    intro x
    rw [← ih x]
    show sX1_goOn (b + 2 + k) (cDl b t k) x 12 = _
    unfold sX1_goOn
    by_cases e : x = b + 2 + k
    · subst e
      split
      · exact zset_nk _ _ _ (by decide)
      · rw [zset_nk _ _ _ (by decide)]; exact zset_nk _ _ _ (by decide)
    · split
      · exact zset_idk _ _ _ _ e
      · rw [zset_idk _ _ _ _ e]; exact zset_idk _ _ _ _ e
theorem endYear_tail {H N : Nat} {ρ : Nat → Nat} {b : Nat} {t : zM} (t0 : zM) (h : zBd H N ρ b t) : ∀ (j k : Nat), H ≤ k → k ≤ 24 → 24 < k + j → lsX5_endYear_20 b t0 j k t = t := by
  intro j
  induction j with
  | zero => intro k _ hk hj; omega
  | succ j ih =>
    intro k hH hk hj
    unfold lsX5_endYear_20
    by_cases c : (24 : Int32) ≤ nI k
    · rw [if_pos c]
    · have hk2 : k < 24 := zge (b := 24) (by omega) (by decide) c
      obtain ⟨-, -, -, z6⟩ := h.2.2.2.2.1 k hk2 hH
      obtain ⟨-, -, ⟨S, hS1, hS2, e⟩, -⟩ := h.2.2.2.2.2
      rw [if_neg c, if_pos (by rw [z6, e]; exact (nI_ltI (a := 0) (by decide) (by omega)).mpr hS1)]
      exact ih (k + 1) (by omega) (by omega) (by omega)
theorem zo_100 (B : Int) : Int32.ofInt B - 100 = Int32.ofInt (B - 100) := by
  rw [zo100, ← Int32.ofInt_sub]
set_option maxHeartbeats 1000000 in
theorem endYear_loop {H N R : Nat} {Q P : Nat → Nat} {b : Nat} (t0 u0 : zM) : ∀ (j k : Nat) (ρ : Nat → Nat) (t u : zM), k ≤ H → 24 < k + j → zT H N ρ Q P b t u → (∀ i, i < 24 → ρ i ≤ R + 1) → (∀ i, k ≤ i → i < 24 → ρ i ≤ R) → zT H N (fun _ => R + 1) Q P b (lsX5_endYear_20 b t0 j k t) (lsX7_refunds_14 u0 j k u) ∧ (∀ i, i < 24 → (lsX5_endYear_20 b t0 j k t) (b + 2 + i) 12 = t (b + 2 + i) 12 ∨ (k ≤ i ∧ (lsX5_endYear_20 b t0 j k t) (b + 2 + i) 12 = t (b + 2 + i) 12 + 1)) := by
  intro j
  induction j with
  | zero => intro k ρ t u hk hj h; have := h.2.1.1; omega
  | succ j ih =>
    intro k ρ t u hk hj h h1 h2
    have hH := h.2.1.1
    by_cases e : k = H
    · subst e
      rw [endYear_tail t0 h.2.1 (j + 1) k (Nat.le_refl _) hH hj]
      unfold lsX7_refunds_14
      have e4 : u 1 401 = nI k := h.1.2.2.2.1.2.trans h.2.1.2.1
      rw [e4, if_pos (Int32.le_refl _)]
      exact ⟨h.mono h1, fun _ _ => Or.inl rfl⟩
    · have hk2 : k < H := by omega
      have e4 : u 1 401 = nI H := h.1.2.2.2.1.2.trans h.2.1.2.1
      have e6 : u 1 (14 * k + 4) = t (b + 2 + k) 6 := h.1.1 k (by omega) 6 (by decide) (by decide)
      have e12 : u 1 (14 * k + 12) = t (b + 2 + k) 12 := h.1.1 k (by omega) 12 (by decide) (by decide)
      have es : u 1 412 = t (b + 37) 2 := h.1.2.2.2.2 2 (by decide)
      have ep : u 1 411 = t (b + 37) 1 := h.1.2.2.2.2 1 (by decide)
      have e10 : u 1 406 = t b 10 := h.1.2.2.1 10 (by decide) (by decide)
      have e11 : u 1 407 = t b 11 := h.1.2.2.1 11 (by decide) (by decide)
      unfold lsX5_endYear_20 lsX7_refunds_14
      rw [if_neg (show ¬ (24 : Int32) ≤ nI k from fun q => absurd (zle (a := 24) (by decide) (by omega) q) (by omega)), e4, if_neg (show ¬ nI H ≤ nI k from fun q => absurd (zle (by omega) (by omega) q) (by omega)), e6, e12, es, ep, e10, e11]
      by_cases c : t (b + 2 + k) 6 < t (b + 37) 2
      · rw [if_pos c, if_pos c]
        obtain ⟨r1, r2⟩ := ih (k + 1) ρ t u hk2 (by omega) h h1 (fun i hi hi2 => h2 i (by omega) hi2)
        exact ⟨r1, fun i hi => (r2 i hi).imp id (fun q => ⟨by omega, q.2⟩)⟩
      · rw [if_neg c, if_neg c]
        obtain ⟨a1, a2, a3, a4, ⟨B, hB1, hB2, b1⟩, a6, r, hr, r1⟩ := h.2.1.2.2.2.1 k (by omega)
        obtain ⟨-, -, ⟨S, hS1, hS2, s1⟩, -⟩ := h.2.1.2.2.2.2.2
        have hBS : (S : Int) ≤ B := by
          rw [b1, s1, zoI] at c
          have := znlt.mp c
          exact (zoL (by omega) (by omega) (by omega) (by omega)).mp this
        have g1 := h.hs (f := 6) (y := 14 * k + 4) (v := t (b + 2 + k) 6 - 100) hk2 (by decide) (by decide) (by decide) rfl (fun _ _ _ => rfl) (ρ1 := ρ) (by
          refine ⟨?_, ?_, ?_, ?_, ⟨B - 100, by omega, by omega, ?_⟩, ?_, ⟨r, hr, ?_⟩⟩
          · rw [zset_nk _ _ _ (by decide)]; exact a1
          · rw [zset_nk _ _ _ (by decide)]; exact a2
          · rw [zset_nk _ _ _ (by decide)]; exact a3
          · rw [zset_nk _ _ _ (by decide)]; exact a4
          · rw [zset_eq, b1]; exact zo_100 B
          · rw [zset_nk _ _ _ (by decide)]; exact a6
          · rw [zset_nk _ _ _ (by decide)]; exact r1)
        have hR := h2 k (Nat.le_refl _) (by omega)
        have g2 := g1.hs (f := 12) (y := 14 * k + 12) (v := t (b + 2 + k) 12 + 1) hk2 (by decide) (by decide) (by decide) rfl (ρ1 := fun i => if i = k then R + 1 else ρ i) (fun i _ hne => if_neg hne) (by
          rw [if_pos rfl]
          obtain ⟨a1, a2, a3, a4, a5, a6, -⟩ := g1.2.1.2.2.2.1 k (by omega)
          refine ⟨?_, ?_, ?_, ?_, ?_, ?_, ⟨r + 1, by omega, ?_⟩⟩
          · rw [zset_nk _ _ _ (by decide)]; exact a1
          · rw [zset_nk _ _ _ (by decide)]; exact a2
          · rw [zset_nk _ _ _ (by decide)]; exact a3
          · rw [zset_nk _ _ _ (by decide)]; exact a4
          · rw [zset_nk _ _ _ (by decide)]; exact a5
          · rw [zset_nk _ _ _ (by decide)]; exact a6
          · rw [zset_eq, r1]; exact nI_1 r)
        have g3 := g2.ac (c := 10) (x := 406) (t b 10 + 1) (by decide) (by decide) rfl
        have g4 := g3.ac (c := 11) (x := 407) (t b 11 + t (b + 37) 1) (by decide) (by decide) rfl
        have e100 : t (b + 2 + k) 6 + (-100) = t (b + 2 + k) 6 - 100 := (Int32.sub_eq_add_neg ..).symm
        rw [e100]
        -- both sides' chains, read
        have c12 : zset t (b + 2 + k) 6 (t (b + 2 + k) 6 - 100) (b + 2 + k) 12 = t (b + 2 + k) 12 := zset_nk _ _ _ (by decide)
        obtain ⟨r1', r2'⟩ := ih (k + 1) _ _ _ hk2 (by omega) g4 (fun i hi => by
          show (if i = k then R + 1 else ρ i) ≤ R + 1
          split
          · exact Nat.le_refl _
          · exact h1 i hi) (fun i hi hi2 => by
          show (if i = k then R + 1 else ρ i) ≤ R
          rw [if_neg (by omega)]
          exact h2 i (by omega) hi2)
        have key : ∀ i, i < 24 → (zset (zset (zset (zset t (b + 2 + k) 6 (t (b + 2 + k) 6 - 100)) (b + 2 + k) 12 (t (b + 2 + k) 12 + 1)) b 10 (t b 10 + 1)) b 11 (t b 11 + t (b + 37) 1)) (b + 2 + i) 12 = if i = k then t (b + 2 + i) 12 + 1 else t (b + 2 + i) 12 := by
          intro i hi
          rw [zset_idk _ _ _ _ (by omega), zset_idk _ _ _ _ (by omega)]
          by_cases ei : i = k
          · subst ei; rw [if_pos rfl, zset_eq]
          · rw [if_neg ei, zset_idk _ _ _ _ (by omega), zset_idk _ _ _ _ (by omega)]
        refine ⟨r1', fun i hi => ?_⟩
        have := r2' i hi
        rw [key i hi] at this
        by_cases ei : i = k
        · subst ei
          rw [if_pos rfl] at this
          rcases this with q | q
          · exact Or.inr ⟨Nat.le_refl _, q⟩
          · exact absurd q.1 (by omega)
        · rw [if_neg ei] at this
          exact this.imp id (fun q => ⟨by omega, q.2⟩)
theorem zT.year {H N R : Nat} {Q P : Nat → Nat} {b : Nat} {t u : zM} (h : zT H N (fun _ => R) Q P b t u) : zT H N (fun _ => R + 1) Q P b (sX5_endYear b t) (sX7_refunds u) ∧ zUp b t (sX5_endYear b t) := by
  have e12 : u 1 408 = t b 12 := h.1.2.2.1 12 (by decide) (by decide)
  unfold sX5_endYear sX7_refunds
  rw [e12]
  have g := h.ac (c := 12) (x := 408) (t b 12 + 1) (by decide) (by decide) rfl
  obtain ⟨r1, r2⟩ := endYear_loop t u 25 0 (fun _ => R) _ _ (Nat.zero_le H) (by decide) g (fun _ _ => Nat.le_succ R) (fun _ _ _ => Nat.le_refl R)
  refine ⟨r1, fun k hk => ?_⟩
  have := r2 k hk
  rw [zset_idk _ _ _ _ (show b + 2 + k ≠ b by omega)] at this
  exact this.imp id (fun q => q.2)
