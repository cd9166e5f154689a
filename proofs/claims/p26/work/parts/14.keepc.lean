/-! what a town's calls keep: the bits of the locks, all outside the town, and its own safety -/
def zW (b : Nat) (t S : zM) : Prop := zBits b S ∧ ∀ x, x < b ∨ b + 38 ≤ x → S x = t x
theorem zW.rf {b : Nat} {t : zM} (h : zBits b t) : zW b t t := ⟨h, fun _ _ => rfl⟩
theorem zW.set {b : Nat} {t S : zM} (h : zW b t S) {id k : Nat} {v : Int32} (h1 : b ≤ id) (h2 : id < b + 38) (hk : k ≠ 5 ∨ id < b + 2 ∨ b + 26 ≤ id ∨ v = 0 ∨ v = 1) : zW b t (zset S id k v) := by
  refine ⟨fun i hi => ?_, fun x hx => (zset_id _ _ _ (by omega)).trans (h.2 x hx)⟩
  by_cases e : b + 2 + i = id
  · subst e
    by_cases e5 : k = 5
    · subst e5
      rw [zset_eq]
      rcases hk with q | q | q | q | q
      · exact absurd rfl q
      · omega
      · omega
      · exact Or.inl q
      · exact Or.inr q
    · rw [zset_nk _ _ _ (Ne.symm e5)]
      exact h.1 i hi
  · rw [zset_idk _ _ _ _ e]
    exact h.1 i hi
theorem zW.fr {b : Nat} {t S S2 : zM} (h : zW b t S) (h1 : ∀ i, i < 24 → S2 (b + 2 + i) = S (b + 2 + i)) (h2 : ∀ x, x < b ∨ b + 38 ≤ x → S2 x = S x) : zW b t S2 :=
  ⟨zBits_fr h.1 h1, fun x hx => (h2 x hx).trans (h.2 x hx)⟩
theorem zW.settle {b : Nat} {t S : zM} (h : zW b t S) {k : Nat} (hk : k < 24) (a1 a2 a3 : Int32) : zW b t (sX1_settle (b + 2 + k) S a1 a2 a3) := by
  unfold sX1_settle
  repeat' split
  all_goals
    repeat (refine zW.set ?_ (by omega) (by omega) (Or.inl (by decide)))
    exact h
theorem zW.goOn {b : Nat} {t S : zM} (h : zW b t S) {k : Nat} (hk : k < 24) : zW b t (sX1_goOn (b + 2 + k) S) := by
  unfold sX1_goOn
  repeat' split
  all_goals
    repeat (refine zW.set ?_ (by omega) (by omega) (Or.inl (by decide)))
    exact h
theorem zW.renew {b : Nat} {t S : zM} (h : zW b t S) {k : Nat} (hk : k < 24) : zW b t (sX1_renewMeter (b + 2 + k) S) := by
  unfold sX1_renewMeter
  repeat (refine zW.set ?_ (by omega) (by omega) (Or.inl (by decide)))
  exact h
theorem zW.add {b : Nat} {t S : zM} (h : zW b t S) (w : Nat) (a1 a2 a3 a4 a5 : Int32) : zW b t (sX2_add (b + 35) S w a1 a2 a3 a4 a5) :=
  h.fr (fun i hi => sX2_add_o _ _ _ _ _ _ _ _ (by omega) (by omega)) (fun x hx => sX2_add_o _ _ _ _ _ _ _ _ (by omega) (by omega))
theorem zW.rd {b : Nat} {t S : zM} (h : zW b t S) {k : Nat} (hk : k < 24) (a : Int32) : zW b t (sX5_readMeter b S k a) := by
  unfold sX5_readMeter
  refine zW.set (zW.set (zW.set (zW.set ?_ (by omega) (by omega) (Or.inl (by decide))) (by omega) (by omega) (Or.inl (by decide))) (by omega) (by omega) (Or.inl (by decide))) (by omega) (by omega) (Or.inl (by decide))
  exact (h.settle hk _ _ _).add _ _ _ _ _ _
theorem zW.walk16 {b q : Nat} {t : zM} (hq : q < 4) (t0 : zM) : ∀ (j k : Nat) (v : Int32) (u : zM), zW b t u → zW b t (lsX5_walk_16 b t0 q j k v u) := by
  intro j
  induction j with
  | zero => intro k v u h; exact h
  | succ j ih =>
    intro k v u h
    unfold lsX5_walk_16
    repeat' split
    all_goals first
      | exact h
      | exact ih _ _ _ h
      | exact ih _ _ _ ((h.rd (zin_lt (by assumption)) _).set (by omega) (by omega) (Or.inl (by decide)))
theorem zW.walk {b q : Nat} {t S : zM} (hq : q < 4) (h : zW b t S) : zW b t (sX5_walk b S q) := zW.walk16 hq S _ _ _ _ h
theorem zW.end20 {b : Nat} {t : zM} (t0 : zM) : ∀ (j k : Nat) (u : zM), k ≤ 24 → zW b t u → zW b t (lsX5_endYear_20 b t0 j k u) := by
  intro j
  induction j with
  | zero => intro k u hk h; exact h
  | succ j ih =>
    intro k u hk h
    unfold lsX5_endYear_20
    split
    · exact h
    · have hk2 : k < 24 := zge (b := 24) (by omega) (by decide) ‹¬ (24 : Int32) ≤ nI k›
      split
      · exact ih _ _ (by omega) h
      · exact ih _ _ (by omega) ((((h.set (by omega) (by omega) (Or.inl (by decide))).set (by omega) (by omega) (Or.inl (by decide))).set (by omega) (by omega) (Or.inl (by decide))).set (by omega) (by omega) (Or.inl (by decide)))
theorem zW.endYear {b : Nat} {t S : zM} (h : zW b t S) : zW b t (sX5_endYear b S) := zW.end20 S _ _ _ (by decide) (h.set (by omega) (by omega) (Or.inl (by decide)))
theorem zW.pd26 {b : Nat} {t : zM} (t0 : zM) (M N : Nat) : ∀ (j i : Nat) (u : zM), i ≤ 24 → zW b t u → zW b t (lsX5_passDays_26 b t0 M N j i u) := by
  intro j
  induction j with
  | zero => intro i u hi h; exact h
  | succ j ih =>
    intro i u hi h
    unfold lsX5_passDays_26
    split
    · exact h
    · have hk2 : i < 24 := zge (b := 24) (by omega) (by decide) ‹¬ (24 : Int32) ≤ nI i›
      exact ih _ _ (by omega) (h.goOn hk2)
theorem zW.pd7 {b : Nat} {t : zM} (t0 : zM) (M N : Nat) : ∀ (j k : Nat) (u : zM), zW b t u → zW b t (lsX5_passDays_7 b t0 M N j k u) := by
  intro j
  induction j with
  | zero => intro k u h; exact h
  | succ j ih =>
    intro k u h
    unfold lsX5_passDays_7
    split
    · exact h
    · have h3 := zW.walk (q := (N + k + 1) % 4) (by omega) ((zW.pd26 t0 M N 25 0 u (by decide) h).set (id := b) (k := 5) (v := (lsX5_passDays_26 b t0 M N 25 0 u) b 5 + 1) (by omega) (by omega) (Or.inr (Or.inl (by omega))))
      split
      · exact ih _ _ h3
      · split
        · exact ih _ _ h3.endYear
        · exact ih _ _ h3
theorem zW.passDays {b M N : Nat} {t S : zM} (h : zW b t S) : zW b t (sX5_passDays b S M N) := zW.pd7 S M N _ _ _ h
def zOK (b : Nat) (t : zM) : Prop := ∃ N, N ≤ 9999 ∧ zTs N b t
theorem zOK.c {b : Nat} {t : zM} (h : zOK b t) : (t b 5).toNatClampNeg ≤ 9999 ∧ zTs (t b 5).toNatClampNeg b t := by
  obtain ⟨N, hN, h⟩ := h
  rw [h.1, nI_clamp (by omega)]
  exact ⟨hN, h⟩
/-- a town's call keeps the town -/
def zKp (b : Nat) (t S : zM) : Prop := zOK b S ∧ zW b t S
theorem zKp.rf {b : Nat} {t : zM} (h : zOK b t) (hb : zBits b t) : zKp b t t := ⟨h, zW.rf hb⟩
theorem zTs_cnt {N b : Nat} {t : zM} {v : Int32} (h : zTs N b t) (hv : zCnt v) : zTs N b (zset t b 4 v) := by
  obtain ⟨a1, a2, a3⟩ := h
  unfold zTs
  rw [zset_eq, zset_idk _ _ _ _ (show b + 35 ≠ b by omega), zset_nk _ _ _ (show 5 ≠ 4 by decide)]
  exact ⟨a1, a2, hv⟩
theorem addHouse_K {b : Nat} {t : zM} (h : zOK b t) (hb : zBits b t) (a1 a2 : Int32) : zKp b t (sX5_addHouse b t (t b 4).toNatClampNeg a1 a2) := by
  have r := zKp.rf h hb
  obtain ⟨N, hN, hs⟩ := h
  have hc := hs.2.2.c
  unfold sX5_addHouse
  split
  · rename_i c1
    have hq := zis_lt c1
    split
    · exact r
    · split
      · split
        · rename_i c4
          have hH : (t b 4).toNatClampNeg < 24 := zidxc (m := 24) (by rw [hc.2]; exact nI_pos (by omega)) c4 (by decide)
          refine ⟨⟨N, hN, zTs_cnt ?_ ⟨(t b 4).toNatClampNeg + 1, by omega, (congrArg (· + 1) hc.2).trans (nI_1 _)⟩⟩, zW.set ?_ (by omega) (by omega) (Or.inl (by decide))⟩
          · exact zTs_fr (zTs_set (zTs_set hs (Or.inl (by omega)) (by omega)) (Or.inl (by omega)) (by omega)) (sX4_putHouse_o _ _ _ _ (by omega)) (sX4_putHouse_o _ _ _ _ (by omega))
          · exact zW.fr (((zW.rf hb).set (id := b + 2 + (t b 4).toNatClampNeg) (k := 0) (v := a1) (by omega) (by omega) (Or.inl (by decide))).set (id := b + 2 + (t b 4).toNatClampNeg) (k := 1) (v := a2) (by omega) (by omega) (Or.inl (by decide))) (fun i hi => sX4_putHouse_o _ _ _ _ (by omega)) (fun x hx => sX4_putHouse_o _ _ _ _ (by omega))
        · exact r
      · exact r
  · exact r
theorem putFlow_K {b : Nat} {t : zM} (h : zOK b t) (hb : zBits b t) (a1 a2 : Int32) : zKp b t (sX5_putFlow b t a1 a2) := by
  have r := zKp.rf h hb
  obtain ⟨N, hN, hs⟩ := h
  unfold sX5_putFlow
  split
  · rename_i c
    have hk := zin_lt c
    split
    · exact r
    · split
      · exact ⟨⟨N, hN, zTs_set hs (Or.inl (by omega)) (by omega)⟩, (zW.rf hb).set (by omega) (by omega) (Or.inl (by decide))⟩
      · exact r
  · exact r
theorem putLock_K {b : Nat} {t : zM} (h : zOK b t) (hb : zBits b t) (a1 : Int32) {a2 : Int32} (h2 : a2 = 0 ∨ a2 = 1) : zKp b t (sX5_putLock b t a1 a2) := by
  have r := zKp.rf h hb
  obtain ⟨N, hN, hs⟩ := h
  unfold sX5_putLock
  split
  · rename_i c
    have hk := zin_lt c
    split
    · exact ⟨⟨N, hN, zTs_set hs (Or.inl (by omega)) (by omega)⟩, (zW.rf hb).set (by omega) (by omega) (Or.inr (Or.inr (Or.inr h2)))⟩
    · exact ⟨⟨N, hN, zTs_set hs (Or.inl (by omega)) (by omega)⟩, (zW.rf hb).set (by omega) (by omega) (Or.inr (Or.inr (Or.inr h2)))⟩
  · exact r
theorem turnLock_K {b : Nat} {t : zM} (h : zOK b t) (hb : zBits b t) (a1 : Int32) : zKp b t (sX5_turnLock b t a1) := by
  unfold sX5_turnLock
  split
  · split
    · exact putLock_K h hb _ (Or.inr rfl)
    · exact putLock_K h hb _ (Or.inl rfl)
  · exact zKp.rf h hb
theorem readIfOpen_K {b : Nat} {t : zM} (h : zOK b t) (hb : zBits b t) (a1 : Int32) : zKp b t (sX5_readIfOpen b t a1) := by
  have r := zKp.rf h hb
  obtain ⟨N, hN, hs⟩ := h
  unfold sX5_readIfOpen
  split
  · rename_i c
    have hk := zin_lt c
    split
    · exact ⟨⟨N, hN, sX5_readMeter_S hk hs⟩, (zW.rf hb).rd hk _⟩
    · exact r
  · exact r
theorem changeMeter_K {b : Nat} {t : zM} (h : zOK b t) (hb : zBits b t) (a1 : Int32) : zKp b t (sX5_changeMeter b t a1) := by
  have r := zKp.rf h hb
  obtain ⟨N, hN, hs⟩ := h
  unfold sX5_changeMeter
  split
  · rename_i c
    have hk := zin_lt c
    exact ⟨⟨N, hN, zTs_fr (sX5_readMeter_S hk hs) (sX1_renewMeter_o _ _ (by omega)) (sX1_renewMeter_o _ _ (by omega))⟩, ((zW.rf hb).rd hk _).renew hk⟩
  · exact r
theorem days_K {b : Nat} {t : zM} (h : zOK b t) (hb : zBits b t) {a2 : Int32} (h1 : ¬ a2 < 1) (h2 : a2 ≤ 99) (h3 : t b 5 + a2 ≤ 9999) : zKp b t (sX5_passDays b t a2.toNatClampNeg (t b 5).toNatClampNeg) := by
  have hc := h.c
  have hM := z99 h1 (znlt.mpr h2)
  refine ⟨⟨(t b 5).toNatClampNeg + a2.toNatClampNeg, ?_, sX5_passDays_S hM hc.2⟩, zW.passDays (zW.rf hb)⟩
  rw [hc.2.1, znc (zlt1 h1), nI_add] at h3
  exact zle (b := 9999) (by omega) (by decide) h3
theorem zite1 {P : zM → Prop} {c : Prop} [Decidable c] {a b : zM} (h1 : c → P a) (h2 : ¬c → P b) : P (if c then a else b) := by
  split
  · exact h1 (by assumption)
  · exact h2 (by assumption)
theorem sX5_obey_K {b : Nat} {t : zM} (h : zOK b t) (hb : zBits b t) (a1 a2 a3 : Int32) : zKp b t (sX5_obey b t a1 a2 a3 (t b 5).toNatClampNeg) := by
  have r := zKp.rf h hb
  unfold sX5_obey
  refine zite1 (P := zKp b t) (fun _ => changeMeter_K h hb _) (fun _ => ?_)
  refine zite1 (P := zKp b t) (fun _ => zite1 (P := zKp b t) (fun _ => r) (fun c1 => zite1 (P := zKp b t) (fun c2 => zite1 (P := zKp b t) (fun c3 => days_K h hb c1 c2 c3) (fun _ => r)) (fun _ => r))) (fun _ => ?_)
  refine zite1 (P := zKp b t) (fun _ => r) (fun _ => ?_)
  refine zite1 (P := zKp b t) (fun _ => putFlow_K h hb _ _) (fun _ => ?_)
  refine zite1 (P := zKp b t) (fun _ => r) (fun _ => ?_)
  refine zite1 (P := zKp b t) (fun _ => addHouse_K h hb _ _) (fun _ => ?_)
  refine zite1 (P := zKp b t) (fun _ => r) (fun _ => ?_)
  refine zite1 (P := zKp b t) (fun _ => r) (fun _ => ?_)
  refine zite1 (P := zKp b t) (fun _ => r) (fun _ => ?_)
  refine zite1 (P := zKp b t) (fun _ => turnLock_K h hb _) (fun _ => ?_)
  refine zite1 (P := zKp b t) (fun _ => r) (fun _ => ?_)
  refine zite1 (P := zKp b t) (fun _ => r) (fun _ => ?_)
  refine zite1 (P := zKp b t) (fun _ => r) (fun _ => ?_)
  refine zite1 (P := zKp b t) (fun _ => r) (fun _ => ?_)
  refine zite1 (P := zKp b t) (fun _ => r) (fun _ => ?_)
  exact zite1 (P := zKp b t) (fun _ => readIfOpen_K h hb _) (fun _ => r)
