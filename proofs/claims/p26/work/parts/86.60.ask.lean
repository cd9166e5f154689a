theorem in_of {a : Int32} {m : Nat} (hm : m < 2 ^ 31) (h : ¬ rX7_in a 0 (nI m) = 0) : ∃ w, w ≤ m ∧ a = nI w := by
  by_cases c : a < 0
  · exact absurd (in_lo c) h
  · obtain ⟨j, hj, rfl⟩ := nI_of c
    by_cases c2 : nI m < nI j
    · exact absurd (in_hi c2) h
    · exact ⟨j, zle hj hm (znlt.mp c2), rfl⟩
theorem fact_out {b : Nat} {t : zM} {a : Int32} (c : rX7_in a 0 13 = 0) : rX1_fact b t a = -1000001 := by
  have hn : ∀ v : Int32, ¬ rX7_in v 0 13 = 0 → ¬ a = v := fun v hv e => hv (e ▸ c)
  unfold rX1_fact
  rw [if_neg (hn 0 (by decide +kernel)), if_neg (hn 1 (by decide +kernel)), if_neg (hn 2 (by decide +kernel)), if_neg (hn 3 (by decide +kernel)), if_neg (hn 4 (by decide +kernel)), if_neg (hn 5 (by decide +kernel)), if_neg (hn 6 (by decide +kernel)), if_neg (hn 7 (by decide +kernel)), if_neg (hn 8 (by decide +kernel)), if_neg (hn 9 (by decide +kernel)), if_neg (hn 10 (by decide +kernel)), if_neg (hn 11 (by decide +kernel)), if_neg (hn 12 (by decide +kernel)), if_neg (hn 13 (by decide +kernel))]
section ZQ
variable {H N : Nat} {ρ Q P : Nat → Nat} {b : Nat} {t u : zM}
theorem q_why (h : zT H N ρ Q P 0 t u) (a1 : Int32) : rX6_why t a1 = rX7_why u a1 := by
  have hH := h.Hl
  unfold rX6_why rX7_why
  rcases h.ish a1 with ⟨c1, c2, k, hk, rfl⟩ | ⟨c1, c2⟩
  · rw [if_pos c1, if_neg c2, nI_clamp (by omega)]
    exact (barred_eq h.1 (show k < 24 by omega) (h.2.1.2.2.2.1 k (by omega)).2.2.2.1).symm
  · rw [if_neg c1, if_pos c2]
set_option maxHeartbeats 1000000 in
theorem q_houseOf (h : zT H N ρ Q P 0 t u) (a1 a2 : Int32) : rX6_houseOf t a1 a2 = rX7_houseOf u a1 a2 := by
  have hH := h.Hl
  unfold rX6_houseOf rX7_houseOf
  rcases h.ish a1 with ⟨c1, c2, k, hk, rfl⟩ | ⟨c1, c2⟩
  · rw [if_pos c1, if_neg c2, nI_clamp (by omega)]
    by_cases c3 : rX7_in a2 0 13 = 0
    · rw [if_pos c3, fact_out c3]
    · rw [if_neg c3]
      obtain ⟨w, hw, rfl⟩ := in_of (m := 13) (by decide) c3
      have e := h.1.1 k (by omega)
      obtain ⟨-, -, -, b5, -, b7, -⟩ := h.2.1.2.2.2.1 k (by omega)
      unfold rX1_fact
      rcases (show w = 0 ∨ w = 1 ∨ w = 2 ∨ w = 3 ∨ w = 4 ∨ w = 5 ∨ w = 6 ∨ w = 7 ∨ w = 8 ∨ w = 9 ∨ w = 10 ∨ w = 11 ∨ w = 12 ∨ w = 13 by omega) with rfl | rfl | rfl | rfl | rfl | rfl | rfl | rfl | rfl | rfl | rfl | rfl | rfl | rfl
      · rw [if_pos (by decide +kernel), if_neg (by decide +kernel), if_neg (by decide +kernel), if_neg (by decide +kernel), if_neg (by decide +kernel), if_neg (by decide +kernel), nI_clamp (by decide)]
        exact (e 0 (by decide) (by decide)).symm
      · rw [if_neg (by decide +kernel), if_pos (by decide +kernel), if_neg (by decide +kernel), if_neg (by decide +kernel), if_neg (by decide +kernel), if_neg (by decide +kernel), if_neg (by decide +kernel), nI_clamp (by decide)]
        exact (e 1 (by decide) (by decide)).symm
      · rw [if_neg (by decide +kernel), if_neg (by decide +kernel), if_pos (by decide +kernel), if_neg (by decide +kernel), if_neg (by decide +kernel), if_neg (by decide +kernel), if_neg (by decide +kernel), if_neg (by decide +kernel), nI_clamp (by decide)]
        exact (e 2 (by decide) (by decide)).symm
      · rw [if_neg (by decide +kernel), if_neg (by decide +kernel), if_neg (by decide +kernel), if_pos (by decide +kernel), if_pos (by decide +kernel)]
        obtain ⟨D, M, B, -, -, -, -, -, -, -, uc, ur, -⟩ := h.use (show k < 24 by omega)
        rw [uc, ur]
      · rw [if_neg (by decide +kernel), if_neg (by decide +kernel), if_neg (by decide +kernel), if_neg (by decide +kernel), if_pos (by decide +kernel), if_neg (by decide +kernel), if_pos (by decide +kernel)]
        exact congrArg (1000 + ·) (e 6 (by decide) (by decide)).symm
      · rw [if_neg (by decide +kernel), if_neg (by decide +kernel), if_neg (by decide +kernel), if_neg (by decide +kernel), if_neg (by decide +kernel), if_pos (by decide +kernel), if_neg (by decide +kernel), if_neg (by decide +kernel), if_pos (by decide +kernel), nI_clamp (by decide)]
        exact (e 4 (by decide) (by decide)).symm
      · rw [if_neg (by decide +kernel), if_neg (by decide +kernel), if_neg (by decide +kernel), if_neg (by decide +kernel), if_neg (by decide +kernel), if_neg (by decide +kernel), if_pos (by decide +kernel), if_neg (c := nI 6 = 3) (by decide +kernel), if_neg (c := nI 6 = 4) (by decide +kernel), if_neg (c := nI 6 = 5) (by decide +kernel), if_pos (c := nI 6 = 6) (by decide +kernel), nI_clamp (by decide)]
        have e6 : u 1 (14 * k + 6) = t (0 + 2 + k) 5 := e 5 (by decide) (by decide)
        rw [e6]
        rcases b5 with q | q
        · rw [q, if_pos rfl]
        · rw [q, if_neg (by decide +kernel)]
      · rw [if_neg (by decide +kernel), if_neg (by decide +kernel), if_neg (by decide +kernel), if_neg (by decide +kernel), if_neg (by decide +kernel), if_neg (by decide +kernel), if_neg (by decide +kernel), if_pos (by decide +kernel), if_neg (c := nI 7 = 3) (by decide +kernel), if_neg (c := nI 7 = 4) (by decide +kernel), if_neg (c := nI 7 = 5) (by decide +kernel), if_neg (c := nI 7 = 6) (by decide +kernel), if_pos (c := nI 7 = 7) (by decide +kernel)]
        rw [h.1.2.1 k (by omega)]
        rcases b7 with q | ⟨d, hd, q⟩
        · rw [q, if_pos rfl, if_pos (by decide +kernel)]
        · rw [q, nI_1, if_neg (fun e => absurd (show nI d < 0 by rw [e]; decide +kernel) (nI_pos (by omega))), if_neg (show ¬ nI (d + 1) ≤ 0 from fun q2 => absurd (zle (a := d + 1) (b := 0) (by omega) (by decide) q2) (by omega))]
          exact (nI_sub (a := d + 1) (b := 1) (by omega)).symm
      · rw [if_neg (by decide +kernel), if_neg (by decide +kernel), if_neg (by decide +kernel), if_neg (by decide +kernel), if_neg (by decide +kernel), if_neg (by decide +kernel), if_neg (by decide +kernel), if_neg (by decide +kernel), if_pos (by decide +kernel), if_neg (by decide +kernel), if_neg (by decide +kernel), if_neg (by decide +kernel), if_neg (by decide +kernel), if_neg (by decide +kernel), nI_clamp (by decide)]
        exact (e 8 (by decide) (by decide)).symm
      · rw [if_neg (by decide +kernel), if_neg (by decide +kernel), if_neg (by decide +kernel), if_neg (by decide +kernel), if_neg (by decide +kernel), if_neg (by decide +kernel), if_neg (by decide +kernel), if_neg (by decide +kernel), if_neg (by decide +kernel), if_pos (by decide +kernel), if_neg (by decide +kernel), if_neg (by decide +kernel), if_neg (by decide +kernel), if_neg (by decide +kernel), if_neg (by decide +kernel), nI_clamp (by decide)]
        exact (e 9 (by decide) (by decide)).symm
      · rw [if_neg (by decide +kernel), if_neg (by decide +kernel), if_neg (by decide +kernel), if_neg (by decide +kernel), if_neg (by decide +kernel), if_neg (by decide +kernel), if_neg (by decide +kernel), if_neg (by decide +kernel), if_neg (by decide +kernel), if_neg (by decide +kernel), if_pos (by decide +kernel), if_neg (by decide +kernel), if_neg (by decide +kernel), if_neg (by decide +kernel), if_neg (by decide +kernel), if_neg (by decide +kernel), nI_clamp (by decide)]
        exact (e 10 (by decide) (by decide)).symm
      · rw [if_neg (by decide +kernel), if_neg (by decide +kernel), if_neg (by decide +kernel), if_neg (by decide +kernel), if_neg (by decide +kernel), if_neg (by decide +kernel), if_neg (by decide +kernel), if_neg (by decide +kernel), if_neg (by decide +kernel), if_neg (by decide +kernel), if_neg (by decide +kernel), if_pos (by decide +kernel), if_neg (by decide +kernel), if_neg (by decide +kernel), if_neg (by decide +kernel), if_neg (by decide +kernel), if_neg (by decide +kernel), nI_clamp (by decide)]
        exact (e 11 (by decide) (by decide)).symm
      · rw [if_neg (by decide +kernel), if_neg (by decide +kernel), if_neg (by decide +kernel), if_neg (by decide +kernel), if_neg (by decide +kernel), if_neg (by decide +kernel), if_neg (by decide +kernel), if_neg (by decide +kernel), if_neg (by decide +kernel), if_neg (by decide +kernel), if_neg (by decide +kernel), if_neg (by decide +kernel), if_pos (by decide +kernel), if_neg (by decide +kernel), if_neg (by decide +kernel), if_neg (by decide +kernel), if_neg (by decide +kernel), if_neg (by decide +kernel), nI_clamp (by decide)]
        exact (e 12 (by decide) (by decide)).symm
      · rw [if_neg (by decide +kernel), if_neg (by decide +kernel), if_neg (by decide +kernel), if_neg (by decide +kernel), if_neg (by decide +kernel), if_neg (by decide +kernel), if_neg (by decide +kernel), if_neg (by decide +kernel), if_neg (by decide +kernel), if_neg (by decide +kernel), if_neg (by decide +kernel), if_neg (by decide +kernel), if_neg (by decide +kernel), if_pos (by decide +kernel), if_neg (by decide +kernel), if_neg (by decide +kernel), if_neg (by decide +kernel), if_neg (by decide +kernel), if_neg (by decide +kernel), nI_clamp (by decide)]
        exact (e 13 (by decide) (by decide)).symm
  · rw [if_neg c1, if_pos c2]
theorem q_at (h : zT H N ρ Q P 0 t u) (a1 a2 : Int32) : rX6_at t a1 a2 = rX7_at u a1 a2 := by
  have hH := h.Hl
  unfold rX6_at rX7_at
  rcases place_both a1 a2 with ⟨q, p, hq, h1, h2, rfl, rfl, z1, z2, z3⟩ | ⟨z1, z2⟩
  · rw [if_pos z1, if_neg z2, if_neg z3, stepOf_e h1 h2, nI_clamp (show q < 2 ^ 31 by omega)]
    rcases h.at hq h1 h2 with ⟨g1, g2, g3⟩ | ⟨k, hk, g1, g2⟩
    · rw [g1, g3, if_pos rfl]
    · rw [g1, g2, if_neg (fun e => absurd (show nI k < 0 by rw [e]; decide +kernel) (nI_pos (by omega)))]
  · rw [if_pos z2]
    rcases z1 with z | ⟨z, z'⟩
    · rw [if_neg z]
    · rw [if_pos z, if_pos z']
theorem q_ledger (h : zT H N ρ Q P 0 t u) (a1 a2 : Int32) : rX6_ledger t a1 a2 = rX7_ledger u a1 a2 := by
  obtain ⟨w, E, hw, hE, l3, l4, l5, l6⟩ := h.2.2.2
  unfold rX6_ledger rX2_entry rX7_ledger
  by_cases c1 : a1 < 0
  · rw [if_pos c1, if_pos c1]
  · rw [if_neg c1, if_neg c1]
    by_cases c2 : rX7_in a2 0 5 = 0
    · rw [if_pos c2]
      by_cases c3 : a2 < 0
      · rw [if_pos c3]
      · rw [if_neg c3]
        by_cases c4 : a2 < 6
        · refine absurd c2 (in_ok c3 (fun q => ?_))
          obtain ⟨j, hj, rfl⟩ := nI_of c3
          have := zlt (b := 6) hj (by decide) c4
          have := zlt (a := 5) (by decide) hj q
          omega
        · rw [if_neg c4]
    · obtain ⟨f, hf, rfl⟩ := in_of (m := 5) (by decide) c2
      obtain ⟨a, ha, rfl⟩ := nI_of c1
      rw [if_neg c2, if_neg (nI_pos (by omega)), if_pos (show nI f < 6 from (nI_ltI (b := 6) (by omega) (by decide)).mpr (by omega)), l5, nI_clamp ha, nI_clamp (show f < 2 ^ 31 by omega)]
      have l4' : t (0 + 35) 2 = nI E := l4
      rw [l4']
      by_cases c3 : a < E
      · rw [if_pos ((nI_ltI ha (by omega)).mpr c3), if_neg (fun q => absurd (zle (by omega) ha q) (by omega))]
        have e : (((zrem ((((t (0 + 35) 1) + 10) - 1) - nI a) 10) * 6) + nI f) = nI ((w + 9 - a) % 10 * 6 + f) := by
          have l3' : t (0 + 35) 1 = nI w := l3
          rw [l3']
          show (zrem (nI w + nI 10 - nI 1 - nI a) (nI 10) * nI 6 + nI f) = _
          rw [nI_add, nI_sub (by omega), nI_sub (by omega), zrem_n (by omega) (by decide) (by decide), nI_mul, nI_add]
          rw [show w + 10 - 1 - a = w + 9 - a by omega]
        rw [e, if_neg (nI_pos (by omega)), if_neg (show ¬ (60 : Int32) ≤ nI ((w + 9 - a) % 10 * 6 + f) from fun q => absurd (zle (a := 60) (by decide) (by omega) q) (by omega)), nI_clamp (by omega)]
        exact (l6 a c3 f (by omega)).symm
      · rw [if_neg (fun q => c3 (zlt ha (by omega) q)), if_pos ((nI_leI (by omega) ha).mpr (by omega))]
theorem q_ifRead (h : zT H N ρ Q P 0 t u) (a1 a2 : Int32) : rX6_ifRead t a1 a2 = rX7_ifRead u a1 a2 := by
  have hH := h.Hl
  unfold rX6_ifRead rX7_ifRead
  rcases h.ish a1 with ⟨c1, c2, k, hk, rfl⟩ | ⟨c1, c2⟩
  · rw [if_pos c1, if_neg c2, nI_clamp (by omega)]
    obtain ⟨D, M, B, hD, hM, hB1, hB2, d1, m1, b1, uc, ur, vc, vr, br⟩ := h.use (show k < 24 by omega)
    have eb : (t (0 + 2 + k) 6 + 100 * rX6_unitsFor (rX1_used (0 + 2 + k) t) (t (0 + 2 + k) 6)) - rX1_used (0 + 2 + k) t = rX7_balanceThen u k := by
      unfold rX7_balanceThen
      rw [uc, b1, vc, ur, vr]
      have e6 : u 1 (14 * k + 4) = t (0 + 2 + k) 6 := h.1.1 k (by omega) 6 (by decide) (by decide)
      rw [e6, b1]
    have eu : rX6_unitsFor (rX1_used (0 + 2 + k) t) (t (0 + 2 + k) 6) = rX7_unitsOf u k := by rw [uc, b1, vc, vr]
    have ep : u 1 411 = t (0 + 37) 1 := h.1.2.2.2.2 1 (by decide)
    rw [eb, eu, ← ep]
    by_cases c3 : rX7_in a2 0 3 = 0
    · have hn : ∀ v : Int32, ¬ rX7_in v 0 3 = 0 → ¬ a2 = v := fun v hv e => hv (e ▸ c3)
      rw [if_pos c3, if_neg (hn 0 (by decide +kernel)), if_neg (hn 1 (by decide +kernel)), if_neg (hn 2 (by decide +kernel)), if_neg (hn 3 (by decide +kernel))]
    · rw [if_neg c3]
      obtain ⟨w, hw, rfl⟩ := in_of (m := 3) (by decide) c3
      rcases (show w = 0 ∨ w = 1 ∨ w = 2 ∨ w = 3 by omega) with rfl | rfl | rfl | rfl
      · rw [if_pos (by decide +kernel), if_pos (by decide +kernel)]
      · rw [if_neg (by decide +kernel), if_pos (by decide +kernel), if_neg (by decide +kernel), if_pos (by decide +kernel)]
      · rw [if_neg (by decide +kernel), if_neg (by decide +kernel), if_pos (c := nI 2 = 2) (by decide +kernel), if_neg (c := nI 2 = 0) (by decide +kernel), if_neg (c := nI 2 = 1) (by decide +kernel), if_pos (c := nI 2 = 2) (by decide +kernel)]
      · rw [if_neg (by decide +kernel), if_neg (by decide +kernel), if_neg (by decide +kernel), if_pos (by decide +kernel), if_neg (by decide +kernel), if_neg (by decide +kernel), if_neg (by decide +kernel)]
  · rw [if_neg c1, if_pos c2]
theorem ranked_loop (h : zT H N ρ Q P b t u) {q f r : Nat} (hf : f < 20) (hq : q < 4) (hr : r < 2 ^ 31) (e0 : ∀ a, a < 1000 → rX4_stepAhead (b + 27 + 2 * q) t (nI a) = nI ((f + a) % 20)) : ∀ (j i : Nat), i ≤ 20 → 20 < i + j → zn H Q P q f i ≤ r → (r < zn H Q P q f 20 → ∃ k, k < H ∧ Q k = q ∧ zn H Q P q f (zd P f k) = r ∧ lX4_houseRanked_4 (b + 27 + 2 * q) t (nI r) j i (nI (zn H Q P q f i)) = nI k) ∧ (zn H Q P q f 20 ≤ r → lX4_houseRanked_4 (b + 27 + 2 * q) t (nI r) j i (nI (zn H Q P q f i)) = -1000004) := by
  intro j
  induction j with
  | zero => intro i hi hj; omega
  | succ j ih =>
    intro i hi hj hz
    have hH := h.Hl
    have hzn := zn_le (H := H) (Q := Q) (P := P) q f i
    rw [lX4_houseRanked_4]
    by_cases c20 : i = 20
    · subst c20
      rw [if_pos (show (20 : Int32) ≤ nI 20 by decide +kernel)]
      exact ⟨fun c => by omega, fun _ => rfl⟩
    · rw [if_neg (show ¬ (20 : Int32) ≤ nI i from fun c => absurd (zle (a := 20) (by decide) (by omega) c) (by omega)), e0 i (by omega)]
      rcases h.on hf hq (show i < 20 by omega) with ⟨g1, g2⟩ | ⟨k, hk, g1, g2, g3, g4⟩
      · rw [g1, if_pos rfl, ← zn_none g2]
        exact ih (i + 1) (by omega) (by omega) (by rw [zn_none g2]; exact hz)
      · have hs : zn H Q P q f (i + 1) = zn H Q P q f i + 1 := by rw [← g2]; exact zn_some h hf hk g1
        have hm := zn_mono (H := H) (Q := Q) (P := P) (q := q) (f := f) (show i + 1 ≤ 20 by omega)
        rw [g4, if_neg (fun e => absurd (show nI k < 0 by rw [e]; decide +kernel) (nI_pos (by omega)))]
        by_cases c : zn H Q P q f i = r
        · rw [if_pos (congrArg nI c)]
          exact ⟨fun _ => ⟨k, hk, g1, by rw [g2]; exact c, rfl⟩, fun _ => by omega⟩
        · rw [if_neg (fun e => c ((nI_eq (by omega) hr).mp e)), nI_1, ← hs]
          exact ih (i + 1) (by omega) (by omega) (by omega)
theorem zn_0 (q f : Nat) : zn H Q P q f 0 = 0 := by
  have h1 : zn H Q P q f 0 ≤ zc (fun _ => false) H := zc_le H (fun i _ hp => by simp at hp)
  have z : ∀ n, zc (fun _ => false) n = 0 := fun n => by
    induction n with
    | zero => rfl
    | succ n ih => simp [zc_s, ih]
  rw [z] at h1
  omega
theorem q_next (h : zT H N ρ Q P 0 t u) (a1 a2 : Int32) : rX6_next t a1 a2 = rX7_next u a1 a2 := by
  have hH := h.Hl
  unfold rX6_next rX7_next
  by_cases c1 : a1 < 0
  · rw [if_neg (fun q => q.1 c1), if_pos (in_lo c1)]
  · obtain ⟨q, hq, rfl⟩ := nI_of c1
    by_cases c2 : q < 4
    · have z1 : zis (nI q) := ⟨c1, (nI_ltI (b := 4) hq (by decide)).mpr c2⟩
      have z2 : ¬ rX7_in (nI q) 0 3 = 0 := in_ok c1 (fun x => absurd (zlt (a := 3) (by decide) hq x) (by omega))
      rw [if_pos z1, if_neg z2, nI_clamp hq]
      by_cases c3 : 0 ≤ a2
      · rw [if_pos c3, if_pos c3]
        obtain ⟨r, hr, rfl⟩ := nI_of (znlt.mpr c3)
        obtain ⟨f, g, hB, -, e0, hg⟩ := h.bg c2
        obtain ⟨r1, r2, r3⟩ := rounds_e h hB c2 hg
        obtain ⟨l1, l2⟩ := ranked_loop h hB.lt.1 c2 hr e0 21 0 (by decide) (by decide) (by rw [zn_0]; exact Nat.zero_le _)
        have hz := zn_le (H := H) (Q := Q) (P := P) q f 20
        rw [zn_0] at l1 l2
        rw [r1, nI_clamp hr]
        unfold rX4_houseRanked
        by_cases c4 : r < zn H Q P q f 20
        · obtain ⟨k, hk, g1, g2, g3⟩ := l1 c4
          rw [if_neg (fun x => absurd (zle (by omega) hr x) (by omega)), ← g2, r3 k hk g1, g2]
          exact g3
        · rw [if_pos ((nI_leI (by omega) hr).mpr (by omega))]
          exact l2 (by omega)
      · rw [if_neg c3, if_neg c3]
    · rw [if_neg (fun x => c2 (zlt (b := 4) hq (by decide) x.2)), if_pos (in_hi (show (3 : Int32) < nI q from (nI_ltI (a := 3) (by decide) hq).mpr (by omega)))]
end ZQ
