theorem reads_402 {H N : Nat} {ρ Q P : Nat → Nat} {b k : Nat} {t u : zM} (h : zT H N ρ Q P b t u) (hk : k < 24) (x : Int32) : sX7_reads u x k 1 402 = u 1 402 + 1 := by
  obtain ⟨D, M, B, hD, hM, hB1, hB2, d1, m1, b1, uc, ur, vc, vr, br⟩ := h.use hk
  obtain ⟨re1, -⟩ := reads_e x hB1 hB2 br ur vr
  rw [re1, enters_o _ _ _ _ _ (by omega), zset_nk _ _ _ (by decide), zset_nk _ _ _ (by decide), zset_nk _ _ _ (by decide), zset_eq]
/-- a reading leaves the refunds -/
theorem read_12 {H N : Nat} {ρ Q P : Nat → Nat} {b k : Nat} {t u : zM} (h : zT H N ρ Q P b t u) (hk : k < 24) (x : Int32) : ∀ k2, k2 < 24 → sX5_readMeter b t k x (b + 2 + k2) 12 = t (b + 2 + k2) 12 := by
  intro k2 hk2
  obtain ⟨D, M, B, hD, hM, hB1, hB2, d1, m1, b1, uc, ur, vc, vr, br⟩ := h.use hk
  unfold sX5_readMeter
  rw [uc, b1, vc, settle_e _ hB1 hB2 b1, zset_idk _ _ _ _ (by omega), zset_idk _ _ _ _ (by omega), zset_idk _ _ _ _ (by omega), zset_idk _ _ _ _ (by omega), sX2_add_o _ _ _ _ _ _ _ _ (by omega) (by omega)]
  unfold cSet
  by_cases e : k2 = k
  · subst e
    rw [zset_nk _ _ _ (by decide), zset_nk _ _ _ (by decide), zset_nk _ _ _ (by decide), zset_nk _ _ _ (by decide), zset_nk _ _ _ (by decide), zset_nk _ _ _ (by decide), zset_nk _ _ _ (by decide)]
  · simp only [zset_id _ _ _ (show b + 2 + k2 ≠ b + 2 + k by omega)]
theorem read_37 {H N : Nat} {ρ Q P : Nat → Nat} {b k : Nat} {t u : zM} (h : zT H N ρ Q P b t u) (hk : k < 24) (x : Int32) : sX5_readMeter b t k x (b + 37) = t (b + 37) := by
  obtain ⟨D, M, B, hD, hM, hB1, hB2, d1, m1, b1, uc, ur, vc, vr, br⟩ := h.use hk
  unfold sX5_readMeter
  rw [uc, b1, vc, settle_e _ hB1 hB2 b1, zset_id _ _ _ (by omega), zset_id _ _ _ (by omega), zset_id _ _ _ (by omega), zset_id _ _ _ (by omega), sX2_add_o _ _ _ _ _ _ _ _ (by omega) (by omega)]
  unfold cSet
  simp only [zset_id _ _ _ (show b + 37 ≠ b + 2 + k by omega)]
theorem add_step {X Z : Int32} {n n2 : Nat} (h : X + nI (n + 1) = (Z + 1) + nI n2) : X + nI n = Z + nI n2 := by
  rw [← nI_1 n, ← Int32.add_assoc, Int32.add_assoc Z, Int32.add_comm 1, ← Int32.add_assoc] at h
  exact zadd1 h
/-- where the walk went on to -/
theorem zT.wk {H N : Nat} {ρ Q P : Nat → Nat} {b k q : Nat} {t u : zM} (h : zT H N ρ Q P b t u) (hk : k < H) (hq : q < 4) (e : Q k = q) : zT H N ρ Q P b (zset t (b + 27 + 2 * q) 1 (nI (st (P k)))) (zset u 1 (336 + q) (nI (k + 1))) := by
  obtain ⟨hE, hB, ⟨s1, s2, s3, s4⟩, hL⟩ := h
  have hH := hB.1
  refine ⟨hE.fr (fun i hi => zset_id _ _ _ (by omega)) (zset_id _ _ _ (by omega)) (zset_id _ _ _ (by omega)) (fun x hx => zset_nk _ _ _ (by omega)), hB.fr (fun i hi => zset_id _ _ _ (by omega)) (zset_idk _ _ _ _ (by omega)) (zset_idk _ _ _ _ (by omega)) (zset_id _ _ _ (by omega)), ⟨fun i hi => ?_, fun i hi => ?_, fun j hj p hp => ?_, fun j hj => ?_⟩, hL.fr (zset_id _ _ _ (by omega)) (zset_id _ _ _ (by omega)) (fun x hx => zset_nk _ _ _ (by omega))⟩
  · rw [zset_id _ _ _ (show b + 2 + i ≠ b + 27 + 2 * q by omega)]; exact s1 i hi
  · rw [zset_id _ _ _ (show b + 28 + 2 * Q i ≠ b + 27 + 2 * q by omega)]; exact s2 i hi
  · rw [zset_id _ _ _ (show b + 28 + 2 * j ≠ b + 27 + 2 * q by omega)]; exact s3 j hj p hp
  · by_cases ej : j = q
    · subst ej
      exact Or.inr ⟨k, hk, e, zset_eq _ _ _ _, zset_eq _ _ _ _⟩
    · rw [zset_nk _ _ _ (by omega), zset_idk _ _ _ _ (by omega)]; exact s4 j hj
/-- what lies at the step of a distance -/
theorem zT.on {H N : Nat} {ρ Q P : Nat → Nat} {b q f : Nat} {t u : zM} (h : zT H N ρ Q P b t u) (hf : f < 20) (hq : q < 4) {i : Nat} (hi : i < 20) : (rX4_houseOn (b + 27 + 2 * q) t (nI ((f + i) % 20)) = -1 ∧ ∀ k, k < H → Q k = q → zd P f k ≠ i) ∨ ∃ k, k < H ∧ Q k = q ∧ zd P f k = i ∧ (f + i) % 20 = st (P k) ∧ rX4_houseOn (b + 27 + 2 * q) t (nI ((f + i) % 20)) = nI k := by
  have hl : (f + i) % 20 < 20 := Nat.mod_lt _ (by decide)
  have e : rX4_houseOn (b + 27 + 2 * q) t (nI ((f + i) % 20)) = t (b + 28 + 2 * q) ((f + i) % 20) := by
    unfold rX4_houseOn
    rw [if_neg (nI_pos (by omega)), if_neg (show ¬ (20 : Int32) ≤ nI ((f + i) % 20) from fun c => absurd (zle (a := 20) (by decide) (by omega) c) (by omega)), nI_clamp (by omega)]
    rw [show b + 27 + 2 * q + 1 = b + 28 + 2 * q by omega]
  rw [e]
  have key : ∀ k, k < H → Q k = q → (zd P f k = i ↔ st (P k) = (f + i) % 20) := fun k hk _ => by
    have := h.sl hk
    unfold zd
    omega
  by_cases c : ∃ k, k < H ∧ Q k = q ∧ zd P f k = i
  · obtain ⟨k, hk, e1, e2⟩ := c
    have e3 := (key k hk e1).mp e2
    refine Or.inr ⟨k, hk, e1, e2, e3.symm, ?_⟩
    rw [← e3, ← e1]
    exact h.2.2.1.2.1 k hk
  · refine Or.inl ⟨?_, fun k hk e1 e2 => c ⟨k, hk, e1, e2⟩⟩
    rcases h.2.2.1.2.2.1 q hq _ hl with g | ⟨k, hk, e1, e2⟩
    · exact g
    · exact absurd ⟨k, hk, e1, (key k hk e1).mpr e2⟩ c
set_option maxHeartbeats 2000000 in
theorem walk_loop {H N : Nat} {ρ Q P : Nat → Nat} {b q f s0 : Nat} {t0 u0 : zM} {R6 : Nat → Int32} (hN : N ≤ 20000) (hf : f < 20) (hq : q < 4) (hs0 : s0 ≤ 12) (e0 : ∀ a, a < 1000 → rX4_stepAhead (b + 27 + 2 * q) t0 (nI a) = nI ((f + a) % 20)) (er : rX7_rounds u0 q = nI (zn H Q P q f 20)) (e6 : ∀ k, k < H → Q k = q → R6 (zn H Q P q f (zd P f k)) = nI k) :
    ∀ (j j2 i n : Nat) (w z : zM), i ≤ 20 → 20 < i + j → 24 < zn H Q P q f i + j2 → n ≤ s0 → zT H N ρ Q P b w z → w (b + 37) 0 = nI s0 → z 6 = R6 →
      zT H N ρ Q P b (lsX5_walk_16 b t0 q j i (nI (s0 - n)) w) (lsX7_walks_11 u0 q j2 (zn H Q P q f i) (nI n) z) ∧ (∀ k x, k < 24 → (x = 12) → lsX5_walk_16 b t0 q j i (nI (s0 - n)) w (b + 2 + k) x = w (b + 2 + k) x) ∧ ∃ n2, n2 ≤ 12 ∧ n ≤ n2 ∧ lX7_walks_11 u0 q j2 (zn H Q P q f i) (nI n) z = nI n2 ∧ (lsX7_walks_11 u0 q j2 (zn H Q P q f i) (nI n) z) 1 402 + nI n = z 1 402 + nI n2 := by
  intro j
  induction j with
  | zero => intro j2 i n w z hi hj; omega
  | succ j ih =>
    intro j2 i n w z hi hj hj2 hn h e37 ez
    have hH := h.Hl
    have hzn := zn_le (H := H) (Q := Q) (P := P) q f i
    have es : z 1 410 = nI s0 := (h.1.2.2.2.2 0 (by decide)).trans e37
    cases j2 with
    | zero => omega
    | succ j2 =>
    by_cases c20 : i = 20
    · subst c20
      have hx : lsX5_walk_16 b t0 q (j + 1) 20 (nI (s0 - n)) w = w := by
        unfold lsX5_walk_16
        rw [if_pos (show (20 : Int32) ≤ nI 20 by decide +kernel)]
      have hy : lsX7_walks_11 u0 q (j2 + 1) (zn H Q P q f 20) (nI n) z = z ∧ lX7_walks_11 u0 q (j2 + 1) (zn H Q P q f 20) (nI n) z = nI n := by
        unfold lsX7_walks_11 lX7_walks_11
        rw [er, if_pos (Int32.le_refl _), if_pos (Int32.le_refl _)]
        exact ⟨rfl, rfl⟩
      rw [hx, hy.1, hy.2]
      exact ⟨h, fun _ _ _ _ => rfl, n, by omega, Nat.le_refl _, rfl, rfl⟩
    · by_cases cn : n = s0
      · subst cn
        have hx : lsX5_walk_16 b t0 q (j + 1) i (nI (n - n)) w = w := by
          unfold lsX5_walk_16
          rw [Nat.sub_self, if_pos (show nI 0 ≤ 0 by decide +kernel), ite_self]
        have hy : lsX7_walks_11 u0 q (j2 + 1) (zn H Q P q f i) (nI n) z = z ∧ lX7_walks_11 u0 q (j2 + 1) (zn H Q P q f i) (nI n) z = nI n := by
          unfold lsX7_walks_11 lX7_walks_11
          rw [es, if_pos (Int32.le_refl _), if_pos (Int32.le_refl _), ite_self, ite_self]
          exact ⟨rfl, rfl⟩
        rw [hx, hy.1, hy.2]
        exact ⟨h, fun _ _ _ _ => rfl, n, by omega, Nat.le_refl _, rfl, rfl⟩
      · have hn2 : n < s0 := by omega
        have hi2 : i < 20 := by omega
        have estep : zrem ((rX4_stepAhead (b + 27 + 2 * q) t0 0) + nI i) 20 = nI ((f + i) % 20) := by
          have e00 : rX4_stepAhead (b + 27 + 2 * q) t0 0 = nI f := (e0 0 (by decide)).trans (congrArg nI (by omega))
          rw [e00, nI_add]
          exact zrem_n (b := 20) (by omega) (by decide) (by decide)
        have c1 : ¬ (20 : Int32) ≤ nI i := fun c => absurd (zle (a := 20) (by decide) (by omega) c) (by omega)
        have c2 : ¬ nI (s0 - n) ≤ 0 := fun c => absurd (zle (b := 0) (by omega) (by decide) c) (by omega)
        have hneg : ¬ zin (w b 4) (-1) := fun c => c.1 (by decide +kernel)
        rcases h.on hf hq hi2 with ⟨g1, g2⟩ | ⟨k, hk, g1, g2, g3, g4⟩
        · have hx : lsX5_walk_16 b t0 q (j + 1) i (nI (s0 - n)) w = lsX5_walk_16 b t0 q j (i + 1) (nI (s0 - n)) w := by
            rw [lsX5_walk_16, if_neg c1, if_neg c2, estep, g1, if_neg hneg]
          rw [hx, ← zn_none g2]
          exact ih (j2 + 1) (i + 1) n w z (by omega) (by omega) (by rw [zn_none g2]; exact hj2) hn h e37 ez
        · have hs : zn H Q P q f (i + 1) = zn H Q P q f i + 1 := by rw [← g2]; exact zn_some h hf hk g1
          have hm := zn_mono (H := H) (Q := Q) (P := P) (q := q) (f := f) (show i + 1 ≤ 20 by omega)
          have e6k : z 6 (zn H Q P q f i) = nI k := by rw [ez, ← g2]; exact e6 k hk g1
          have hbit := h.2.1.2.2.2.1 k (by omega)
          have hbar := barred_eq h.1 (show k < 24 by omega) hbit.2.2.2.1
          have hkc : (nI k).toNatClampNeg = k := nI_clamp (by omega)
          have hzin : zin (w b 4) (nI k) := ⟨nI_pos (by omega), by rw [h.h4]; exact (nI_ltI (by omega) (by omega)).mpr hk, (nI_ltI (b := 24) (by omega) (by decide)).mpr (by omega)⟩
          have d1 : ¬ rX7_rounds u0 q ≤ nI (zn H Q P q f i) := by
            rw [er]
            have := zn_le (H := H) (Q := Q) (P := P) q f 20
            exact fun c => absurd (zle (by omega) (by omega) c) (by omega)
          have d2 : ¬ z 1 410 ≤ nI n := by
            rw [es]
            exact fun c => absurd (zle (by omega) (by omega) c) (by omega)
          have hx : lsX5_walk_16 b t0 q (j + 1) i (nI (s0 - n)) w = if rX1_reasonOn (b + 2 + k) w (w b 5) = 0 then lsX5_walk_16 b t0 q j (i + 1) (nI (s0 - n) + (-1)) (zset (sX5_readMeter b w k (nI k)) (b + 27 + 2 * q) 1 (nI (st (P k)))) else lsX5_walk_16 b t0 q j (i + 1) (nI (s0 - n)) w := by
            rw [lsX5_walk_16, if_neg c1, if_neg c2, estep, g4, if_pos hzin, hkc, g3]
          obtain ⟨hr1, V, hV, hr2, hr3⟩ := h.read hN hk (nI k)
          have hy1 : lsX7_walks_11 u0 q (j2 + 1) (zn H Q P q f i) (nI n) z = if rX7_barred z k = 0 then lsX7_walks_11 u0 q j2 (zn H Q P q f i + 1) (nI n + 1) (zset (sX7_reads z (nI k) k) 1 (336 + q) (nI k + 1)) else lsX7_walks_11 u0 q j2 (zn H Q P q f i + 1) (nI n) z := by
            rw [lsX7_walks_11, if_neg d1, if_neg d2, e6k, hkc, if_pos (show (0 : Int32) ≤ rX7_reads z (nI k) k from by rw [hr3]; exact nI_pos' (by omega))]
          have hy2 : lX7_walks_11 u0 q (j2 + 1) (zn H Q P q f i) (nI n) z = if rX7_barred z k = 0 then lX7_walks_11 u0 q j2 (zn H Q P q f i + 1) (nI n + 1) (zset (sX7_reads z (nI k) k) 1 (336 + q) (nI k + 1)) else lX7_walks_11 u0 q j2 (zn H Q P q f i + 1) (nI n) z := by
            rw [lX7_walks_11, if_neg d1, if_neg d2, e6k, hkc, if_pos (show (0 : Int32) ≤ rX7_reads z (nI k) k from by rw [hr3]; exact nI_pos' (by omega))]
          rw [hx, hy1, hy2, hbar]
          by_cases cb : rX1_reasonOn (b + 2 + k) w (w b 5) = 0
          · rw [if_pos cb, if_pos cb, if_pos cb]
            have hw := hr1.wk hk hq g1
            rw [nI_1 k, nI_1 n, nI_dec (k := s0 - n) (by omega), ← hs, show s0 - n - 1 = s0 - (n + 1) by omega]
            obtain ⟨r1, r2, n2, r3, r4, r5, r6⟩ := ih j2 (i + 1) (n + 1) _ _ (by omega) (by omega) (by omega) (by omega) hw (by
              rw [zset_idk _ _ _ _ (by omega)]
              rw [read_37 h (by omega) (nI k)]
              exact e37) (by rw [zset_id _ _ _ (by decide), sX7_reads_o _ _ _ (by decide)]; exact ez)
            refine ⟨r1, fun k2 x hk2 hx => ?_, n2, r3, by omega, r5, ?_⟩
            · rw [r2 k2 x hk2 hx, zset_idk _ _ _ _ (by omega), hx]
              exact read_12 h (by omega) (nI k) k2 hk2
            · rw [zset_nk _ _ _ (by omega), reads_402 h (by omega)] at r6
              exact add_step r6
          · rw [if_neg cb, if_neg cb, if_neg cb, ← hs]
            exact ih j2 (i + 1) n w z (by omega) (by omega) (by omega) (by omega) h e37 ez
theorem zT.walk {H N : Nat} {ρ Q P : Nat → Nat} {b q : Nat} {t u : zM} (h : zT H N ρ Q P b t u) (hN : N ≤ 20000) (hq : q < 4) : zT H N ρ Q P b (sX5_walk b t q) (sX7_walks u q) ∧ (∀ k, k < 24 → sX5_walk b t q (b + 2 + k) 12 = t (b + 2 + k) 12) ∧ ∃ n, n ≤ 12 ∧ rX7_walks u q = nI n ∧ sX7_walks u q 1 402 = u 1 402 + nI n := by
  obtain ⟨f, g, hB, -, e0, hg⟩ := h.bg hq
  obtain ⟨r1, r2, r3⟩ := rounds_e h hB hq hg
  obtain ⟨⟨s0, hs0, es⟩, -⟩ := h.2.1.2.2.2.2.2
  have h2 : zT H N ρ Q P b t (sX7_rounds u q) := h.ru (fun x _ => congrFun (r2 1 (by decide)) x)
  have z0 : zn H Q P q f 0 = 0 := by
    have : zn H Q P q f 0 ≤ zc (fun _ => false) H := zc_le H (fun i _ hp => by simp at hp)
    have z : ∀ n, zc (fun _ => false) n = 0 := fun n => by
      induction n with
      | zero => rfl
      | succ n ih => simp [zc_s, ih]
    rw [z] at this
    omega
  obtain ⟨w1, w2, n2, w3, -, w5, w6⟩ := walk_loop (u0 := u) (t0 := t) hN hB.lt.1 hq hs0 e0 r1 r3 21 25 0 0 t (sX7_rounds u q) (by decide) (by decide) (by omega) (Nat.zero_le _) h2 es rfl
  rw [z0, Nat.sub_zero, ← es] at w1 
  rw [Nat.sub_zero, ← es] at w2
  rw [z0] at w5 w6
  refine ⟨w1, fun k hk => w2 k 12 hk rfl, n2, w3, w5, ?_⟩
  rw [show nI 0 = 0 from rfl, Int32.add_zero, r2 1 (by decide)] at w6
  exact w6
