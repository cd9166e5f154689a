section ZOP2
variable {H N : Nat} {ρ Q P : Nat → Nat} {b : Nat} {t u : zM}
theorem isPlace_c {p : Nat} (hp : p < 2 ^ 31) : rX6_isPlace (nI p) = if 1 ≤ p ∧ p ≤ 20 then 1 else 0 := by
  unfold rX6_isPlace
  by_cases c : 1 ≤ p ∧ p ≤ 20
  · rw [if_pos c, if_neg (show ¬ nI p < 1 from fun q => absurd (zlt (b := 1) hp (by decide) q) (by omega)), if_neg (show ¬ (20 : Int32) < nI p from fun q => absurd (zlt (a := 20) (by decide) hp q) (by omega))]
  · rw [if_neg c]
    by_cases c1 : p < 1
    · rw [if_pos (show nI p < 1 from (nI_ltI (b := 1) hp (by decide)).mpr c1)]
    · rw [if_neg (show ¬ nI p < 1 from fun q => c1 (zlt (b := 1) hp (by decide) q)), if_pos (show (20 : Int32) < nI p from (nI_ltI (a := 20) (by decide) hp).mpr (by omega))]
/-- a street and a place, on both sides -/
theorem place_both (a1 a2 : Int32) : (∃ q p, q < 4 ∧ 1 ≤ p ∧ p ≤ 20 ∧ a1 = nI q ∧ a2 = nI p ∧ zis a1 ∧ ¬ rX6_isPlace a2 = 0 ∧ ¬ rX7_isPlace a1 a2 = 0) ∨ ((¬ zis a1 ∨ (zis a1 ∧ rX6_isPlace a2 = 0)) ∧ rX7_isPlace a1 a2 = 0) := by
  unfold rX7_isPlace
  by_cases c1 : a1 < 0
  · refine Or.inr ⟨Or.inl (fun q => q.1 c1), ?_⟩
    rw [in_lo c1, if_pos rfl]
  · obtain ⟨q, hq, rfl⟩ := nI_of c1
    by_cases c2 : q < 4
    · have hz : zis (nI q) := ⟨c1, (nI_ltI (b := 4) (by omega) (by decide)).mpr c2⟩
      have hi : ¬ rX7_in (nI q) 0 3 = 0 := in_ok c1 (fun x => absurd (zlt (a := 3) (by decide) (by omega) x) (by omega))
      by_cases c3 : a2 < 1
      · refine Or.inr ⟨Or.inr ⟨hz, ?_⟩, ?_⟩
        · unfold rX6_isPlace; rw [if_pos c3]
        · rw [if_neg hi, in_lo c3, if_pos rfl]
      · have c30 : ¬ a2 < 0 := fun x => c3 (Int32.lt_trans x (by decide +kernel))
        obtain ⟨p, hp, rfl⟩ := nI_of c30
        have hp1 : 1 ≤ p := by
          rcases Nat.lt_or_ge p 1 with x | x
          · exact absurd ((nI_ltI (b := 1) hp (by decide)).mpr x) c3
          · exact x
        by_cases c4 : p ≤ 20
        · have h1 : ¬ rX6_isPlace (nI p) = 0 := by rw [isPlace_c hp, if_pos ⟨hp1, c4⟩]; decide +kernel
          have h2 : ¬ rX7_in (nI p) 1 20 = 0 := in_ok c3 (fun x => absurd (zlt (a := 20) (by decide) hp x) (by omega))
          refine Or.inl ⟨q, p, c2, hp1, c4, rfl, rfl, hz, h1, ?_⟩
          rw [if_neg hi, if_neg h2]
          decide +kernel
        · refine Or.inr ⟨Or.inr ⟨hz, ?_⟩, ?_⟩
          · rw [isPlace_c hp, if_neg (by omega)]
          · rw [if_neg hi, in_hi (show (20 : Int32) < nI p from (nI_ltI (a := 20) (by decide) hp).mpr (by omega)), if_pos rfl]
    · refine Or.inr ⟨Or.inl (fun x => c2 (zlt (b := 4) hq (by decide) x.2)), ?_⟩
      rw [in_hi (show (3 : Int32) < nI q from (nI_ltI (a := 3) (by decide) hq).mpr (by omega)), if_pos rfl]
theorem stepOf_e {p : Nat} (h1 : 1 ≤ p) (h2 : p ≤ 20) : rX6_stepOf (nI p) = nI (st p) := by
  unfold rX6_stepOf st
  rw [show zrem (nI p) 2 = nI (p % 2) from zrem_n (b := 2) (by omega) (by decide) (by decide), show nI p / 2 = nI (p / 2) from nI_div (b := 2) (by omega) (by decide)]
  by_cases c : p % 2 = 1
  · rw [if_pos (show nI (p % 2) = 1 from (by rw [c]; rfl)), if_pos c]
  · rw [if_neg (show ¬ nI (p % 2) = 1 from fun q => c ((nI_eq (b := 1) (by omega) (by decide)).mp q)), if_neg c]
    exact nI_sub (a := 20) (by omega)
theorem houseOn_e {b p : Nat} {t : zM} (hp : p < 20) : rX4_houseOn b t (nI p) = t (b + 1) p := by
  unfold rX4_houseOn
  rw [if_neg (nI_pos (by omega)), if_neg (show ¬ (20 : Int32) ≤ nI p from fun c => absurd (zle (a := 20) (by decide) (by omega) c) (by omega)), nI_clamp (by omega)]
/-- who lives at a place -/
theorem zT.pl (h : zT H N ρ Q P b t u) {q p : Nat} (hq : q < 4) (h1 : 1 ≤ p) (h2 : p ≤ 20) : (rX4_houseOn (b + 27 + 2 * q) t (nI (st p)) = -1 ∧ ∀ k, k < H → ¬ (Q k = q ∧ P k = p)) ∨ ∃ k, k < H ∧ Q k = q ∧ P k = p ∧ rX4_houseOn (b + 27 + 2 * q) t (nI (st p)) = nI k := by
  have hH := h.Hl
  have hl := st_lt h1 h2
  rw [houseOn_e hl, show b + 27 + 2 * q + 1 = b + 28 + 2 * q by omega]
  by_cases c : ∃ k, k < H ∧ Q k = q ∧ P k = p
  · obtain ⟨k, hk, e1, e2⟩ := c
    refine Or.inr ⟨k, hk, e1, e2, ?_⟩
    rw [← e1, ← e2]
    exact h.2.2.1.2.1 k hk
  · refine Or.inl ⟨?_, fun k hk e => c ⟨k, hk, e⟩⟩
    rcases h.2.2.1.2.2.1 q hq _ hl with g | ⟨k, hk, e1, e2⟩
    · exact g
    · exact absurd ⟨k, hk, e1, st_inj (h.P1 hk).2.1 (h.P1 hk).2.2 h1 h2 e2⟩ c
theorem atPlace_loop (h : zT H N ρ Q P b t u) {q p : Nat} (hq : q < 4) (h1 : 1 ≤ p) (h2 : p ≤ 20) : ∀ (j i : Nat), i ≤ H → H < i + j → (∀ k, k < i → ¬ (Q k = q ∧ P k = p)) → ((∀ k, k < H → ¬ (Q k = q ∧ P k = p)) ∧ lX7_atPlace_2 u (nI q) (nI p) j i = -1000004) ∨ ∃ k, k < H ∧ Q k = q ∧ P k = p ∧ lX7_atPlace_2 u (nI q) (nI p) j i = nI k := by
  intro j
  induction j with
  | zero => intro i hi hj; omega
  | succ j ih =>
    intro i hi hj hn
    have hH := h.Hl
    rw [lX7_atPlace_2, h.m4]
    by_cases c : nI H ≤ nI i
    · have : i = H := by have := zle (by omega) (by omega) c; omega
      subst this
      rw [if_pos c]
      exact Or.inl ⟨hn, rfl⟩
    · have hi2 : i < H := zge (by omega) (by omega) c
      have hP := h.P1 hi2
      rw [if_neg c, h.m1 hi2]
      by_cases c1 : Q i = q
      · rw [if_pos ((h.m0q hq hi2).mpr c1)]
        by_cases c2 : P i = p
        · rw [if_pos (congrArg nI c2)]
          exact Or.inr ⟨i, hi2, c1, c2, rfl⟩
        · rw [if_neg (fun e => c2 ((nI_eq (by omega) (by omega)).mp e))]
          exact ih (i + 1) (by omega) (by omega) (fun k hk => by
            by_cases e : k = i
            · subst e; exact fun x => c2 x.2
            · exact hn k (by omega))
      · rw [if_neg (fun e => c1 ((h.m0q hq hi2).mp e))]
        exact ih (i + 1) (by omega) (by omega) (fun k hk => by
          by_cases e : k = i
          · subst e; exact fun x => c1 x.1
          · exact hn k (by omega))
/-- the two tell alike who lives at a place -/
theorem zT.at (h : zT H N ρ Q P b t u) {q p : Nat} (hq : q < 4) (h1 : 1 ≤ p) (h2 : p ≤ 20) : (rX4_houseOn (b + 27 + 2 * q) t (nI (st p)) = -1 ∧ (∀ k, k < H → ¬ (Q k = q ∧ P k = p)) ∧ rX7_atPlace u (nI q) (nI p) = -1000004) ∨ ∃ k, k < H ∧ rX4_houseOn (b + 27 + 2 * q) t (nI (st p)) = nI k ∧ rX7_atPlace u (nI q) (nI p) = nI k := by
  have hH := h.Hl
  have l := atPlace_loop h hq h1 h2 25 0 (Nat.zero_le _) (by omega) (fun k hk => absurd hk (by omega))
  rcases h.pl hq h1 h2 with ⟨g1, g2⟩ | ⟨k, hk, g1, g2, g3⟩
  · rcases l with ⟨-, l2⟩ | ⟨k, hk, l1, l2, -⟩
    · exact Or.inl ⟨g1, g2, l2⟩
    · exact absurd ⟨l1, l2⟩ (g2 k hk)
  · rcases l with ⟨l1, -⟩ | ⟨k2, hk2, l1, l2, l3⟩
    · exact absurd ⟨g1, g2⟩ (l1 k hk)
    · have e := h.uq hk hk2 (g1.trans l1.symm) (by rw [g2, l2])
      subst e
      exact Or.inr ⟨k, hk, g3, l3⟩
def zNw (Q : Nat → Nat) (H q : Nat) : Nat → Nat := fun i => if i = H then q else Q i
theorem zNw_eq (Q : Nat → Nat) (H q : Nat) : zNw Q H q H = q := if_pos rfl
theorem zNw_ne (Q : Nat → Nat) {H : Nat} (q : Nat) {i : Nat} (h : i ≠ H) : zNw Q H q i = Q i := if_neg h
/-- the towns with one house more -/
theorem zT.new (h : zT H N ρ Q P b t u) (hH24 : H < 24) {q p : Nat} (hq : q < 4) (h1 : 1 ≤ p) (h2 : p ≤ 20) (hn : ∀ k, k < H → ¬ (Q k = q ∧ P k = p)) : zT (H + 1) N ρ (zNw Q H q) (zNw P H p) b (zset (zset (zset (zset t (b + 2 + H) 0 (nI q)) (b + 2 + H) 1 (nI p)) (b + 28 + 2 * q) (st p) (nI H)) b 4 (nI (H + 1))) (zset (zset (zset u 1 (14 * H + 0) (nI q)) 1 (14 * H + 1) (nI p)) 1 401 (nI (H + 1))) := by
  have hl := st_lt h1 h2
  obtain ⟨hE, ⟨b1, b2, b3, b4, b5, b6⟩, ⟨s1, s2, s3, s4⟩, hL⟩ := h
  have s3' := s3
  have hst : ∀ k, k < H → Q k = q → st (P k) ≠ st p := fun k hk e e2 => hn k hk ⟨e, st_inj (s1 k hk).2.1 (s1 k hk).2.2.1 h1 h2 e2⟩
  refine ⟨?_, ⟨hH24, zset_eq _ _ _ _, ?_, fun k hk => ?_, fun k hk hk2 => ?_, ?_⟩, ⟨fun k hk => ?_, fun k hk => ?_, fun j hj x hx => ?_, fun j hj => ?_⟩, ?_⟩
  · have g1 := hE.h (k := H) (f := 0) hH24 (by decide) (by decide) (nI q)
    have g2 := g1.h (k := H) (f := 1) hH24 (by decide) (by decide) (nI p)
    have g3 := g2.fr (t1 := zset (zset (zset t (b + 2 + H) 0 (nI q)) (b + 2 + H) 1 (nI p)) (b + 28 + 2 * q) (st p) (nI H)) (u1 := zset (zset u 1 (14 * H + 0) (nI q)) 1 (14 * H + 1) (nI p)) (fun i hi => zset_id _ _ _ (by omega)) (zset_id _ _ _ (by omega)) (zset_id _ _ _ (by omega)) (fun _ _ => rfl)
    exact g3.c (c := 4) (x := 401) (by decide) (by decide) (nI (H + 1)) (by decide)
  · rw [zset_nk _ _ _ (by decide), zset_idk _ _ _ _ (by omega), zset_idk _ _ _ _ (by omega), zset_idk _ _ _ _ (by omega)]; exact b3
  · rw [zset_id _ _ _ (by omega), zset_id _ _ _ (by omega)]
    by_cases e : k = H
    · subst e
      obtain ⟨a1, a2, a3, a4, a5, a6, a7⟩ := b4 k hk
      refine ⟨?_, ?_, ?_, ?_, ?_, ?_, ?_⟩
      · rw [zset_nk _ _ _ (by decide), zset_nk _ _ _ (by decide)]; exact a1
      · rw [zset_nk _ _ _ (by decide), zset_nk _ _ _ (by decide)]; exact a2
      · rw [zset_nk _ _ _ (by decide), zset_nk _ _ _ (by decide)]; exact a3
      · rw [zset_nk _ _ _ (by decide), zset_nk _ _ _ (by decide)]; exact a4
      · rw [zset_nk _ _ _ (by decide), zset_nk _ _ _ (by decide)]; exact a5
      · rw [zset_nk _ _ _ (by decide), zset_nk _ _ _ (by decide)]; exact a6
      · rw [zset_nk _ _ _ (by decide), zset_nk _ _ _ (by decide)]; exact a7
    · rw [zset_id _ _ _ (by omega), zset_id _ _ _ (by omega)]; exact b4 k hk
  · rw [zset_id _ _ _ (by omega), zset_id _ _ _ (by omega), zset_id _ _ _ (by omega), zset_id _ _ _ (by omega)]; exact b5 k hk (by omega)
  · rw [zset_id _ _ _ (by omega), zset_id _ _ _ (by omega), zset_id _ _ _ (by omega), zset_id _ _ _ (by omega)]; exact b6
  · by_cases e : k = H
    · subst e
      refine ⟨by rw [zNw_eq]; exact hq, by rw [zNw_eq]; exact h1, by rw [zNw_eq]; exact h2, ?_, ?_⟩
      · rw [zNw_eq, zset_idk _ _ _ _ (by omega), zset_idk _ _ _ _ (by omega), zset_nk _ _ _ (by decide), zset_eq]
      · rw [zNw_eq, zset_idk _ _ _ _ (by omega), zset_idk _ _ _ _ (by omega), zset_eq]
    · rw [zNw_ne _ _ e, zNw_ne _ _ e, zset_id _ _ _ (show b + 2 + k ≠ b by omega), zset_id _ _ _ (show b + 2 + k ≠ b + 28 + 2 * q by omega), zset_id _ _ _ (show b + 2 + k ≠ b + 2 + H by omega), zset_id _ _ _ (show b + 2 + k ≠ b + 2 + H by omega)]
      exact s1 k (by omega)
  · by_cases e : k = H
    · subst e
      rw [zNw_eq, zNw_eq, zset_idk _ _ _ _ (by omega), zset_eq]
    · have hk2 : k < H := by omega
      rw [zNw_ne _ _ e, zNw_ne _ _ e, zset_idk _ _ _ _ (by omega)]
      by_cases e2 : Q k = q
      · rw [e2, zset_nk _ _ _ (hst k hk2 e2), zset_idk _ _ _ _ (by omega), zset_idk _ _ _ _ (by omega), ← e2]
        exact s2 k hk2
      · have := (s1 k hk2).1
        rw [zset_idk _ _ _ _ (by omega), zset_idk _ _ _ _ (by omega), zset_idk _ _ _ _ (by omega)]
        exact s2 k hk2
  · rw [zset_idk _ _ _ _ (by omega)]
    by_cases e : j = q ∧ x = st p
    · obtain ⟨rfl, rfl⟩ := e
      exact Or.inr ⟨H, by omega, zNw_eq _ _ _, by rw [zNw_eq]⟩
    · have e9 : zset (zset (zset t (b + 2 + H) 0 (nI q)) (b + 2 + H) 1 (nI p)) (b + 28 + 2 * q) (st p) (nI H) (b + 28 + 2 * j) x = t (b + 28 + 2 * j) x := by
        by_cases ej : j = q
        · subst ej
          rw [zset_nk _ _ _ (fun ex => e ⟨rfl, ex⟩), zset_idk _ _ _ _ (by omega), zset_idk _ _ _ _ (by omega)]
        · rw [zset_idk _ _ _ _ (by omega), zset_idk _ _ _ _ (by omega), zset_idk _ _ _ _ (by omega)]
      rw [e9]
      rcases s3 j hj x hx with g | ⟨k, hk, g1, g2⟩
      · exact Or.inl g
      · exact Or.inr ⟨k, by omega, by rw [zNw_ne _ _ (by omega)]; exact g1, by rw [zNw_ne _ _ (by omega)]; exact g2⟩
  · rw [zset_idk _ _ _ _ (by omega), zset_idk _ _ _ _ (by omega), zset_idk _ _ _ _ (by omega), zset_idk _ _ _ _ (by omega), zset_nk _ _ _ (by omega), zset_nk _ _ _ (by omega), zset_nk _ _ _ (by omega)]
    rcases s4 j hj with g | ⟨k, hk, g1, g2, g3⟩
    · exact Or.inl g
    · exact Or.inr ⟨k, by omega, by rw [zNw_ne _ _ (by omega)]; exact g1, by rw [zNw_ne _ _ (by omega)]; exact g2, g3⟩
  · exact hL.fr (by rw [zset_id _ _ _ (by omega), zset_id _ _ _ (by omega), zset_id _ _ _ (by omega), zset_id _ _ _ (by omega)]) (by rw [zset_id _ _ _ (by omega), zset_id _ _ _ (by omega), zset_id _ _ _ (by omega), zset_id _ _ _ (by omega)]) (fun x hx => by rw [zset_nk _ _ _ (by omega), zset_nk _ _ _ (by omega), zset_nk _ _ _ (by omega)])
theorem op_house (h : zT H N (fun _ => N) Q P b t u) (hN : N ≤ 9999) (a1 a2 : Int32) : zO b t u (rX5_addHouse b t (t b 4).toNatClampNeg a1 a2) (rX7_house u a1 a2) (sX5_addHouse b t (t b 4).toNatClampNeg a1 a2) (sX7_house u a1 a2) := by
  have hH := h.Hl
  unfold rX5_addHouse sX5_addHouse rX7_house sX7_house
  rcases place_both a1 a2 with ⟨q, p, hq, h1, h2, rfl, rfl, z1, z2, z3⟩ | ⟨z1, z2⟩
  · have hl := st_lt h1 h2
    rw [if_pos z1, if_pos z1, if_neg z2, if_neg z2, if_neg z3, if_neg z3, stepOf_e h1 h2, nI_clamp (show q < 2 ^ 31 by omega)]
    rcases h.at hq h1 h2 with ⟨g1, g2, g3⟩ | ⟨k, hk, g1, g2⟩
    · rw [g1, if_pos rfl, if_pos rfl, g3, if_pos neg4, if_pos neg4, h.h4, h.m4, nI_clamp (by omega)]
      by_cases c : H < 24
      · have c1 : nI H < 24 := (nI_ltI (b := 24) (by omega) (by decide)).mpr c
        have c2 : ¬ nI H = 24 := fun e => absurd ((nI_eq (b := 24) (by omega) (by decide)).mp e) (by omega)
        rw [if_pos c1, if_pos c1, if_neg c2, if_neg c2, nI_1]
        have ep : sX4_putHouse (b + 27 + 2 * q) (zset (zset t (b + 2 + H) 0 (nI q)) (b + 2 + H) 1 (nI p)) (nI (st p)) (nI H) = zset (zset (zset t (b + 2 + H) 0 (nI q)) (b + 2 + H) 1 (nI p)) (b + 28 + 2 * q) (st p) (nI H) := by
          unfold sX4_putHouse
          rw [if_neg (nI_pos (by omega)), if_neg (show ¬ (20 : Int32) ≤ nI (st p) from fun c => absurd (zle (a := 20) (by decide) (by omega) c) (by omega)), nI_clamp (by omega), show b + 27 + 2 * q + 1 = b + 28 + 2 * q by omega]
        have er : nI (H + 1) - 1 = nI H := nI_sub (b := 1) (by omega)
        rw [ep, er]
        exact ⟨rfl, Or.inr ⟨nI_pos (by omega), ⟨H + 1, N, _, _, hN, h.ch.new c hq h1 h2 g2⟩, fun x hx _ => by rw [zset_id _ _ _ hx, zset_id _ _ _ hx, zset_id _ _ _ hx]⟩⟩
      · have e : H = 24 := by omega
        subst e
        rw [if_neg (show ¬ nI 24 < 24 by decide +kernel), if_neg (show ¬ nI 24 < 24 by decide +kernel), if_pos (show nI 24 = 24 from rfl), if_pos (show nI 24 = 24 from rfl)]
        exact zO.err neg3
    · have hne : ¬ nI k = -1 := fun e => absurd (show nI k < 0 by rw [e]; decide +kernel) (nI_pos (by omega))
      have hnn : ¬ nI k < 0 := nI_pos (by omega)
      rw [g1, g2, if_neg hne, if_neg hne, if_neg hnn, if_neg hnn]
      exact zO.err neg2
  · rw [if_pos z2, if_pos z2]
    rcases z1 with z | ⟨z, z'⟩
    · rw [if_neg z, if_neg z]; exact zO.err neg1
    · rw [if_pos z, if_pos z, if_pos z', if_pos z']; exact zO.err neg1
/-- a setting -/
theorem zT.st1 (h : zT H N ρ Q P b t u) {i : Nat} {v : Int32} (hi : i < 4) (hv : zSg (zset t (b + 37) i v (b + 37))) : zT H N ρ Q P b (zset t (b + 37) i v) (zset u 1 (410 + i) v) := by
  obtain ⟨hE, ⟨b1, b2, b3, b4, b5, b6⟩, hS, hL⟩ := h
  exact ⟨hE.s hi v, ⟨b1, (zset_idk _ _ _ _ (by omega)).trans b2, (zset_idk _ _ _ _ (by omega)).trans b3, fun k hk => by rw [zset_id _ _ _ (by omega)]; exact b4 k hk, fun k hk hk2 => by rw [zset_id _ _ _ (by omega)]; exact b5 k hk hk2, hv⟩, hS.fr b1 (fun k hk => by rw [zset_id _ _ _ (by omega)]; exact ⟨rfl, rfl⟩) (fun j hj => by rw [zset_id _ _ _ (by omega), zset_id _ _ _ (by omega)]; exact ⟨rfl, rfl⟩) (fun j hj => zset_nk _ _ _ (by omega)), hL.fr (zset_id _ _ _ (by omega)) (zset_id _ _ _ (by omega)) (fun x hx => zset_nk _ _ _ (by omega))⟩
theorem op_set (h : zT H N (fun _ => N) Q P b t u) (hN : N ≤ 9999) (a1 a2 : Int32) : zO b t u (rX5_putSetting b t a1 a2) (rX7_set u a1 a2) (sX5_putSetting b t a1 a2) (sX7_set u a1 a2) := by
  have hH := h.Hl
  unfold rX5_putSetting sX5_putSetting rX7_set sX7_set
  by_cases c1 : a1 < 0
  · rw [if_pos c1, if_pos c1, if_pos (in_lo c1), if_pos (in_lo c1)]
    exact zO.err neg1
  · obtain ⟨i, hi, rfl⟩ := nI_of c1
    rw [if_neg c1, if_neg c1]
    by_cases c2 : (4 : Int32) ≤ nI i
    · have := zle (a := 4) (by decide) hi c2
      have c3 : rX7_in (nI i) 0 3 = 0 := in_hi ((nI_ltI (a := 3) (by decide) hi).mpr (by omega))
      rw [if_pos c2, if_pos c2, if_pos c3, if_pos c3]
      exact zO.err neg1
    · have hi4 : i < 4 := zge (b := 4) hi (by decide) c2
      have c3 : ¬ rX7_in (nI i) 0 3 = 0 := in_ok c1 (fun x => absurd (zlt (a := 3) (by decide) hi x) (by omega))
      have el : zLeast i = rX7_least (nI i) := by
        rcases (show i = 0 ∨ i = 1 ∨ i = 2 ∨ i = 3 by omega) with rfl | rfl | rfl | rfl <;> decide +kernel
      have em : zMost i = rX7_most (nI i) := by
        rcases (show i = 0 ∨ i = 1 ∨ i = 2 ∨ i = 3 by omega) with rfl | rfl | rfl | rfl <;> decide +kernel
      rw [if_neg c2, if_neg c2, if_neg c3, if_neg c3, nI_clamp hi, ← el, ← em]
      by_cases c4 : a2 < zLeast i
      · rw [if_pos c4, if_pos c4, if_pos (in_lo c4), if_pos (in_lo c4)]
        exact zO.err neg1
      · rw [if_neg c4, if_neg c4]
        by_cases c5 : a2 ≤ zMost i
        · have c6 : ¬ rX7_in a2 (zLeast i) (zMost i) = 0 := in_ok c4 (znlt.mpr c5)
          rw [if_pos c5, if_pos c5, if_neg c6, if_neg c6]
          have eu : u 1 (410 + i) = t (b + 37) i := h.1.2.2.2.2 i hi4
          obtain ⟨⟨S0, s0, f0⟩, ⟨S1, s1, s1', f1⟩, ⟨S2, s2, s2', f2⟩, ⟨S3, s3, s3', f3⟩⟩ := h.2.1.2.2.2.2.2
          have h0 : ¬ a2 < 0 := fun x => c4 (by
            rcases (show i = 0 ∨ i = 1 ∨ i = 2 ∨ i = 3 by omega) with rfl | rfl | rfl | rfl
            · exact x
            · exact Int32.lt_trans x (show (0 : Int32) < 1 by decide +kernel)
            · exact Int32.lt_trans x (show (0 : Int32) < 1 by decide +kernel)
            · exact Int32.lt_trans x (show (0 : Int32) < 5 by decide +kernel))
          obtain ⟨V, hV, rfl⟩ := nI_of h0
          have hb : ∀ L M : Nat, L < 1000 → M < 1000 → zLeast i = nI L → zMost i = nI M → L ≤ V ∧ V ≤ M := fun L M hL hM eL eM => by
            rw [eL] at c4
            rw [eM] at c5
            exact ⟨zle (by omega) hV (znlt.mp c4), zle hV (by omega) c5⟩
          rw [eu]
          refine ⟨rfl, Or.inr ⟨?_, ⟨H, N, Q, P, hN, h.ch.st1 hi4 ?_⟩, fun x hx _ => zset_id _ _ _ hx⟩⟩
          · rcases (show i = 0 ∨ i = 1 ∨ i = 2 ∨ i = 3 by omega) with rfl | rfl | rfl | rfl
            · rw [f0]; exact nI_pos (by omega)
            · rw [f1]; exact nI_pos (by omega)
            · rw [f2]; exact nI_pos (by omega)
            · rw [f3]; exact nI_pos (by omega)
          · rcases (show i = 0 ∨ i = 1 ∨ i = 2 ∨ i = 3 by omega) with rfl | rfl | rfl | rfl
            · have := hb 0 12 (by decide) (by decide) rfl rfl
              exact ⟨⟨V, this.2, zset_eq _ _ _ _⟩, ⟨S1, s1, s1', by rw [zset_nk _ _ _ (by decide)]; exact f1⟩, ⟨S2, s2, s2', by rw [zset_nk _ _ _ (by decide)]; exact f2⟩, ⟨S3, s3, s3', by rw [zset_nk _ _ _ (by decide)]; exact f3⟩⟩
            · have := hb 1 50 (by decide) (by decide) rfl rfl
              exact ⟨⟨S0, s0, by rw [zset_nk _ _ _ (by decide)]; exact f0⟩, ⟨V, this.1, this.2, zset_eq _ _ _ _⟩, ⟨S2, s2, s2', by rw [zset_nk _ _ _ (by decide)]; exact f2⟩, ⟨S3, s3, s3', by rw [zset_nk _ _ _ (by decide)]; exact f3⟩⟩
            · have := hb 1 99 (by decide) (by decide) rfl rfl
              exact ⟨⟨S0, s0, by rw [zset_nk _ _ _ (by decide)]; exact f0⟩, ⟨S1, s1, s1', by rw [zset_nk _ _ _ (by decide)]; exact f1⟩, ⟨V, this.1, this.2, zset_eq _ _ _ _⟩, ⟨S3, s3, s3', by rw [zset_nk _ _ _ (by decide)]; exact f3⟩⟩
            · have := hb 5 400 (by decide) (by decide) rfl rfl
              exact ⟨⟨S0, s0, by rw [zset_nk _ _ _ (by decide)]; exact f0⟩, ⟨S1, s1, s1', by rw [zset_nk _ _ _ (by decide)]; exact f1⟩, ⟨S2, s2, s2', by rw [zset_nk _ _ _ (by decide)]; exact f2⟩, ⟨V, this.1, this.2, zset_eq _ _ _ _⟩⟩
        · have c6 : rX7_in a2 (zLeast i) (zMost i) = 0 := in_hi (znl.mp c5)
          rw [if_neg c5, if_neg c5, if_pos c6, if_pos c6]
          exact zO.err neg1
end ZOP2
