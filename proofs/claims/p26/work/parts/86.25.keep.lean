theorem lsX7_rounds_71_o (t : zM) (q : Nat) {x : Nat} (h : x ≠ 6) : ∀ (j i : Nat) (v g : Int32) (u : zM), lsX7_rounds_71 t q j i v g u x = u x := by
  intro j
  induction j with
  | zero => intro i v g u; rfl
  | succ j ih =>
    intro i v g u
    unfold lsX7_rounds_71
    split
    · rfl
    · split
      · rw [ih]; exact zset_id _ _ _ h
      · exact ih _ _ _ _
theorem lsX7_rounds_4_o (t : zM) (q : Nat) {x : Nat} (h : x ≠ 6) : ∀ (j k : Nat) (v : Int32), lsX7_rounds_4 t q j k v x = t x := by
  intro j
  induction j with
  | zero => intro k v; rfl
  | succ j ih =>
    intro k v
    unfold lsX7_rounds_4
    split
    · split
      · exact lsX7_rounds_71_o t q h _ _ _ _ _
      · exact lsX7_rounds_71_o t q h _ _ _ _ _
    · split
      · exact ih _ _
      · exact ih _ _
theorem sX7_rounds_o (t : zM) (q : Nat) {x : Nat} (h : x ≠ 6) : sX7_rounds t q x = t x := lsX7_rounds_4_o t q h _ _ _
theorem lsX7_walks_11_o (t : zM) (q : Nat) {x : Nat} (h1 : x ≠ 1) : ∀ (j k : Nat) (v : Int32) (u : zM), lsX7_walks_11 t q j k v u x = u x := by
  intro j
  induction j with
  | zero => intro k v u; rfl
  | succ j ih =>
    intro k v u
    unfold lsX7_walks_11
    split
    · rfl
    · split
      · rfl
      · split
        · split
          · rw [ih, zset_id _ _ _ h1]; exact sX7_reads_o _ _ _ h1
          · rw [ih, zset_id _ _ _ h1]; exact sX7_reads_o _ _ _ h1
        · exact ih _ _ _
theorem sX7_walks_o (t : zM) (q : Nat) {x : Nat} (h1 : x ≠ 1) (h6 : x ≠ 6) : sX7_walks t q x = t x := (lsX7_walks_11_o t q h1 _ _ _ _).trans (sX7_rounds_o t q h6)
theorem lsX7_refunds_14_o (t : zM) {x : Nat} (h1 : x ≠ 1) : ∀ (j k : Nat) (u : zM), lsX7_refunds_14 t j k u x = u x := by
  intro j
  induction j with
  | zero => intro k u; rfl
  | succ j ih =>
    intro k u
    unfold lsX7_refunds_14
    split
    · rfl
    · split
      · exact ih _ _
      · rw [ih]; simp only [zset_id _ _ _ h1]
theorem sX7_refunds_o (t : zM) {x : Nat} (h1 : x ≠ 1) : sX7_refunds t x = t x := (lsX7_refunds_14_o t h1 _ _ _).trans (zset_id _ _ _ h1)
theorem lsX7_day_2_o (t : zM) (N : Nat) {x : Nat} (h1 : x ≠ 1) (h6 : x ≠ 6) : ∀ (j k : Nat) (u : zM), lsX7_day_2 t N j k u x = u x := by
  intro j
  induction j with
  | zero => intro k u; rfl
  | succ j ih =>
    intro k u
    unfold lsX7_day_2
    split
    · split
      · rw [sX7_refunds_o _ h1, sX7_walks_o _ _ h1 h6]; exact zset_id _ _ _ h1
      · rw [sX7_walks_o _ _ h1 h6]; exact zset_id _ _ _ h1
    · rw [ih]; exact zset_id _ _ _ h1
theorem sX7_day_o (t : zM) (N : Nat) {x : Nat} (h1 : x ≠ 1) (h6 : x ≠ 6) : sX7_day t N x = t x := lsX7_day_2_o t N h1 h6 _ _ _
theorem lsX7_pass_4_o (t : zM) (M N : Nat) {x : Nat} (h1 : x ≠ 1) (h6 : x ≠ 6) : ∀ (j k : Nat) (v : Int32) (u : zM), lsX7_pass_4 t M N j k v u x = u x := by
  intro j
  induction j with
  | zero => intro k v u; rfl
  | succ j ih =>
    intro k v u
    unfold lsX7_pass_4
    split
    · rfl
    · rw [ih]; exact sX7_day_o _ _ h1 h6
theorem sX7_pass_o (t : zM) (M N : Nat) {x : Nat} (h1 : x ≠ 1) (h6 : x ≠ 6) : sX7_pass t M N x = t x := lsX7_pass_4_o t M N h1 h6 _ _ _ _
def mOK (t : zM) : Prop := (∃ H N, N ≤ 9999 ∧ mS H N t) ∧ mP t
def mK (t S : zM) : Prop := mOK S ∧ (∀ k, k ≠ 4 → S 0 k = t 0 k) ∧ ∀ x, 3 ≤ x → x ≠ 6 → S x = t x
theorem mK.rf {t : zM} (h : mOK t) : mK t t := ⟨h, fun _ _ => rfl, fun _ _ _ => rfl⟩
theorem mP_fr {t S : zM} (h : mP t) (e : S 0 = t 0) : mP S := by
  unfold mP
  rw [e]
  exact h
theorem mK.s {t S S2 : zM} (h : mK t S) {H N : Nat} (hN : N ≤ 9999) (hm : mS H N S2) (h0 : S2 0 = S 0) (ho : ∀ x, 3 ≤ x → x ≠ 6 → S2 x = S x) : mK t S2 :=
  ⟨⟨⟨H, N, hN, hm⟩, mP_fr h.1.2 h0⟩, fun k hk => by rw [h0]; exact h.2.1 k hk, fun x h3 h6 => (ho x h3 h6).trans (h.2.2 x h3 h6)⟩
theorem mK.put {t S : zM} (h : mK t S) {i : Nat} {v : Int32} (h1 : i ≠ 401) (h2 : i ≠ 400) (h3 : i < 336 ∨ 340 ≤ i) (h4 : i ≠ 413) : mK t (zset S 1 i v) := by
  obtain ⟨⟨H, N, hN, hm⟩, hp⟩ := h.1
  exact h.s hN (mS_set1 hm h1 h2 h3 h4) (zset_id _ _ _ (by decide)) (fun x h3 _ => zset_id _ _ _ (by omega))
theorem mK.ch {t : zM} (h : mOK t) : mK t (sX7_changes t) := by
  obtain ⟨⟨H, N, hN, hm⟩, hp⟩ := h
  exact ⟨⟨⟨H, N, hN, sX7_changes_S hm⟩, sX7_changes_P hp⟩, fun k hk => sX7_changes_k hp hk, fun x h3 _ => sX7_changes_o _ (by omega) (by omega)⟩
theorem mK.rd {t S : zM} (h : mK t S) {a : Int32} {k : Nat} (hk : k < 24) : mK t (sX7_reads S a k) := by
  obtain ⟨⟨H, N, hN, hm⟩, hp⟩ := h.1
  exact h.s hN (sX7_reads_S hk hm) (sX7_reads_o _ _ _ (by decide)) (fun x h3 _ => sX7_reads_o _ _ _ (by omega))
theorem mS_many {H N : Nat} {t : zM} {v : Int32} (h : mS H N t) (hH : H < 24) (hv : v = nI (H + 1)) : mS (H + 1) N (zset t 1 401 v) := by
  obtain ⟨a0, a1, a2, a3, a4, a5⟩ := h
  refine ⟨hH, ?_, ?_, fun q hq => ?_, fun k hk => ?_, ?_⟩
  · rw [zset_eq]; exact hv
  · rw [zset_nk _ _ _ (by decide)]; exact a2
  · rw [zset_nk _ _ _ (by omega)]; exact a3 q hq
  · rw [zset_idk _ _ _ _ (by decide)]; exact a4 k hk
  · rw [zset_nk _ _ _ (by decide)]; exact a5
theorem sX7_house_K {t : zM} (h : mOK t) (a1 a2 : Int32) : mK t (sX7_house t a1 a2) := by
  unfold sX7_house
  split
  · exact mK.rf h
  · split
    · split
      · exact mK.rf h
      · rename_i c
        obtain ⟨⟨H, N, hN, hm⟩, hp⟩ := id h
        have h1 := mH_lt hm c
        have h2 := ((mK.ch h).put (i := 14 * (t 1 401).toNatClampNeg + 0) (v := a1) (by omega) (by omega) (by omega) (by omega)).put (i := 14 * (t 1 401).toNatClampNeg + 1) (v := a2) (by omega) (by omega) (by omega) (by omega)
        have hH : (t 1 401).toNatClampNeg = H := by rw [hm.2.1, nI_clamp (by have := hm.1; omega)]
        have hm2 : mS H N (zset (zset (sX7_changes t) 1 (14 * (t 1 401).toNatClampNeg + 0) a1) 1 (14 * (t 1 401).toNatClampNeg + 1) a2) := mS_set1 (mS_set1 (sX7_changes_S hm) (by omega) (by omega) (by omega) (by omega)) (by omega) (by omega) (by omega) (by omega)
        exact h2.s hN (mS_many hm2 (by omega) (by rw [hm.2.1]; exact nI_1 H)) (zset_id _ _ _ (by decide)) (fun x h3 _ => zset_id _ _ _ (by omega))
    · exact mK.rf h
theorem mHs {t : zM} (h : mOK t) {a : Int32} (c : ¬ rX7_isHouse t a = 0) : a.toNatClampNeg < 24 := by
  obtain ⟨⟨H, N, hN, hm⟩, hp⟩ := h
  exact Nat.lt_of_lt_of_le (isHouse_lt hm c).1 hm.1
theorem sX7_flow_K {t : zM} (h : mOK t) (a1 a2 : Int32) : mK t (sX7_flow t a1 a2) := by
  unfold sX7_flow
  split
  · exact mK.rf h
  · have hk := mHs h (by assumption)
    split
    · exact mK.rf h
    · exact (mK.ch h).put (by omega) (by omega) (by omega) (by omega)
theorem sX7_lock_K {t : zM} (h : mOK t) (a1 a2 : Int32) : mK t (sX7_lock t a1 a2) := by
  unfold sX7_lock
  split
  · exact mK.rf h
  · have hk := mHs h (by assumption)
    split
    · exact (mK.ch h).put (by omega) (by omega) (by omega) (by omega)
    · exact (mK.ch h).put (by omega) (by omega) (by omega) (by omega)
theorem sX7_read_K {t : zM} (h : mOK t) (a1 : Int32) : mK t (sX7_read t a1) := by
  unfold sX7_read
  split
  · exact mK.rf h
  · have hk := mHs h (by assumption)
    split
    · exact (mK.ch h).rd hk
    · exact mK.rf h
theorem sX7_change_K {t : zM} (h : mOK t) (a1 : Int32) : mK t (sX7_change t a1) := by
  unfold sX7_change
  split
  · exact mK.rf h
  · have hk := mHs h (by assumption)
    exact ((((mK.ch h).rd hk).put (by omega) (by omega) (by omega) (by omega)).put (by omega) (by omega) (by omega) (by omega)).put (by omega) (by omega) (by omega) (by omega)
theorem sX7_days_K {t : zM} (h : mOK t) (a1 : Int32) {N : Nat} (hN0 : t 1 400 = nI N) (hN : N ≤ 9999) : mK t (sX7_days t a1 N) := by
  unfold sX7_days
  split
  · exact mK.rf h
  · rename_i c
    have h1 := m99 c
    split
    · rename_i c2
      obtain ⟨⟨H, N2, hN2, hm⟩, hp⟩ := id h
      have e : N2 = N := (nI_eq (by omega) (by omega)).mp (hm.2.2.1.symm.trans hN0)
      subst e
      have h3 : N2 + a1.toNatClampNeg ≤ 9999 := by
        rw [hN0, h1.2, nI_add] at c2
        exact zle (b := 9999) (by omega) (by decide) c2
      exact (mK.ch h).s h3 (sX7_pass_S h1.1 (sX7_changes_S hm)) (sX7_pass_o _ _ _ (by decide) (by decide)) (fun x h3 h6 => sX7_pass_o _ _ _ (by omega) h6)
    · exact mK.rf h
