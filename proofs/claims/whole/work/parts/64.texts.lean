/-! the text, and an order of it, on both sides -/
def zX (b : Nat) (t u : zM) (L p : Nat) (c : Nat → Nat) : Prop := L ≤ 60 ∧ p ≤ L ∧ t b 1 = nI L ∧ u 0 7 = nI L ∧ t b 2 = nI p ∧ u 0 9 = nI p ∧ ∀ i, i < L → 32 ≤ c i ∧ c i ≤ 126 ∧ t (b + 1) i = nI (c i) ∧ u 5 i = nI (c i)
def sg (L : Nat) (c : Nat → Nat) (p : Nat) : Int32 := if p < L then nI (c p) else -1
section ZTX
variable {b L p : Nat} {t u : zM} {c : Nat → Nat}
theorem zX.sign (h : zX b t u L p c) : rX3_sign b t = sg L c p := by
  obtain ⟨hL, hp, e1, e2, e3, e4, hc⟩ := h
  unfold rX3_sign sg
  rw [e1, e3, if_neg (nI_pos (by omega)), nI_clamp (by omega)]
  by_cases q : p < L
  · rw [if_neg (fun x => absurd (zle (by omega) (by omega) x) (by omega)), if_neg (show ¬ (60 : Int32) ≤ nI p from fun x => absurd (zle (a := 60) (by decide) (by omega) x) (by omega)), if_pos q]
    exact (hc p q).2.2.1
  · rw [if_pos ((nI_leI (by omega) (by omega)).mpr (by omega)), if_neg q]
theorem zX.isAt (h : zX b t u L p c) {lo hi : Nat} (h1 : lo < 2 ^ 31) (h2 : hi < 2 ^ 31) : rX7_isAt u (nI lo) (nI hi) = if p < L ∧ lo ≤ c p ∧ c p ≤ hi then 1 else 0 := by
  obtain ⟨hL, hp, e1, e2, e3, e4, hc⟩ := h
  unfold rX7_isAt
  rw [e2, e4, nI_clamp (by omega)]
  by_cases q : p < L
  · rw [if_neg (fun x => absurd (zle (by omega) (by omega) x) (by omega))]
    obtain ⟨c1, c2, c3, c4⟩ := hc p q
    rw [c4]
    by_cases q1 : lo ≤ c p ∧ c p ≤ hi
    · have e : ¬ rX7_in (nI (c p)) (nI lo) (nI hi) = 0 := in_ok (fun x => absurd (zlt (by omega) (by omega) x) (by omega)) (fun x => absurd (zlt (by omega) (by omega) x) (by omega))
      rw [if_neg e, if_pos (⟨q, q1⟩ : p < L ∧ lo ≤ c p ∧ c p ≤ hi)]
    · have e : rX7_in (nI (c p)) (nI lo) (nI hi) = 0 := by
        by_cases q2 : c p < lo
        · exact in_lo ((nI_ltI (by omega) (by omega)).mpr q2)
        · exact in_hi ((nI_ltI (by omega) (by omega)).mpr (by omega))
      rw [if_pos e, if_neg (show ¬ (p < L ∧ lo ≤ c p ∧ c p ≤ hi) from fun x => q1 x.2)]
  · rw [if_pos ((nI_leI (by omega) (by omega)).mpr (by omega)), if_neg (show ¬ (p < L ∧ lo ≤ c p ∧ c p ≤ hi) from fun x => q x.1)]
/-- what a step of both leaves alone -/
def zFc (b : Nat) (t T : zM) : Prop := ∀ x y, (x ≠ b ∨ y < 2 ∨ 5 < y) → T x y = t x y
def zFr (u V : zM) : Prop := ∀ x y, x ≠ 7 → (x ≠ 0 ∨ (y ≠ 9 ∧ y ≠ 14)) → V x y = u x y
theorem zFc.tr {T S : zM} (h1 : zFc b t T) (h2 : zFc b T S) : zFc b t S := fun x y h => (h2 x y h).trans (h1 x y h)
theorem zFr.tr {V W : zM} (h1 : zFr u V) (h2 : zFr V W) : zFr u W := fun x y h g => (h2 x y h g).trans (h1 x y h g)
theorem zFc.put {T : zM} (h1 : zFc b t T) {k : Nat} (v : Int32) (h2 : 2 ≤ k) (h5 : k ≤ 5) : zFc b t (zset T b k v) := fun x y h => by
  rw [← h1 x y h]
  by_cases e : x = b
  · subst e
    exact zset_nk _ _ _ (by rcases h with h | h | h <;> first | exact absurd rfl h | omega)
  · exact zset_idk _ _ _ _ e
theorem zFr.put {V : zM} (h1 : zFr u V) {k : Nat} (v : Int32) (hk : k = 9 ∨ k = 14) : zFr u (zset V 0 k v) := fun x y h g => by
  rw [← h1 x y h g]
  by_cases e : x = 0
  · subst e
    exact zset_nk _ _ _ (by rcases g with g | g <;> first | exact absurd rfl g | omega)
  · exact zset_idk _ _ _ _ e
theorem zFr.put7 {V : zM} (h1 : zFr u V) {k : Nat} (v : Int32) : zFr u (zset V 7 k v) := fun x y h g => by
  rw [← h1 x y h g]
  exact zset_idk _ _ _ _ h
theorem zX.putc (h : zX b t u L p c) {k : Nat} (v : Int32) (h3 : 3 ≤ k) : zX b (zset t b k v) u L p c := by
  obtain ⟨hL, hp, e1, e2, e3, e4, hc⟩ := h
  exact ⟨hL, hp, (zset_nk _ _ _ (by omega)).trans e1, e2, (zset_nk _ _ _ (by omega)).trans e3, e4, fun i hi => ⟨(hc i hi).1, (hc i hi).2.1, (zset_idk _ _ _ _ (by omega)).trans (hc i hi).2.2.1, (hc i hi).2.2.2⟩⟩
theorem zX.putr (h : zX b t u L p c) {x k : Nat} (v : Int32) (h3 : x = 7 ∨ (x = 0 ∧ k ≠ 7 ∧ k ≠ 9)) : zX b t (zset u x k v) L p c := by
  obtain ⟨hL, hp, e1, e2, e3, e4, hc⟩ := h
  have g : ∀ y z, (y = 5 ∨ (y = 0 ∧ (z = 7 ∨ z = 9))) → zset u x k v y z = u y z := fun y z hy => by
    by_cases e : y = x
    · subst e
      exact zset_nk _ _ _ (by omega)
    · exact zset_idk _ _ _ _ e
  exact ⟨hL, hp, e1, (g 0 7 (by omega)).trans e2, e3, (g 0 9 (by omega)).trans e4, fun i hi => ⟨(hc i hi).1, (hc i hi).2.1, (hc i hi).2.2.1, (g 5 i (by omega)).trans (hc i hi).2.2.2⟩⟩
theorem zX.go (h : zX b t u L p c) (q : p < L) : zX b (zset t b 2 (nI (p + 1))) (zset u 0 9 (nI (p + 1))) L (p + 1) c := by
  obtain ⟨hL, hp, e1, e2, e3, e4, hc⟩ := h
  exact ⟨hL, q, (zset_nk _ _ _ (by omega)).trans e1, (zset_nk _ _ _ (by omega)).trans e2, zset_eq _ _ _ _, zset_eq _ _ _ _, fun i hi => ⟨(hc i hi).1, (hc i hi).2.1, (zset_idk _ _ _ _ (by omega)).trans (hc i hi).2.2.1, (zset_idk _ _ _ _ (by omega)).trans (hc i hi).2.2.2⟩⟩
/-- a sign is wanted -/
theorem zX.take (h : zX b t u L p c) {s : Nat} (hs : s < 2 ^ 31) : ((rX3_takeSign b t (nI s) = 0 ∧ rX7_sign u (nI s) = 0 ∧ zX b (sX3_takeSign b t (nI s)) (sX7_sign u (nI s)) L p c) ∨ (rX3_takeSign b t (nI s) = 1 ∧ ¬ rX7_sign u (nI s) = 0 ∧ zX b (sX3_takeSign b t (nI s)) (sX7_sign u (nI s)) L (p + 1) c)) ∧ zFc b t (sX3_takeSign b t (nI s)) ∧ zFr u (sX7_sign u (nI s)) ∧ (∀ y, y ≠ 2 → sX3_takeSign b t (nI s) b y = t b y) ∧ ∀ y, (y ≠ 9 → sX7_sign u (nI s) 0 y = u 0 y) := by
  have e := h.sign
  have e2 := h.isAt hs hs
  have hL := h.1
  have e3 := h.2.2.2.2.1
  have e4 := h.2.2.2.2.2.1
  unfold rX3_takeSign sX3_takeSign rX7_sign sX7_sign
  rw [ite_self, e, e2, e3, e4]
  unfold sg
  by_cases q : p < L ∧ c p = s
  · obtain ⟨q1, q2⟩ := q
    rw [if_pos q1, if_pos (congrArg nI q2), if_pos (congrArg nI q2), if_pos (⟨q1, by omega, by omega⟩ : p < L ∧ s ≤ c p ∧ c p ≤ s), if_neg (show ¬ (1 : Int32) = 0 by decide +kernel), nI_1]
    exact ⟨Or.inr ⟨rfl, by decide +kernel, h.go q1⟩, zFc.put (fun _ _ _ => rfl) _ (by decide) (by decide), zFr.put (fun _ _ _ _ => rfl) _ (Or.inl rfl), fun y hy => zset_nk _ _ _ hy, fun y hy => zset_nk _ _ _ hy⟩
  · have n1 : ¬ (if p < L then nI (c p) else -1) = nI s := by
      by_cases q1 : p < L
      · rw [if_pos q1]
        have := (h.2.2.2.2.2.2 p q1).2.1
        exact fun x => q ⟨q1, (nI_eq (by omega) hs).mp x⟩
      · rw [if_neg q1]
        exact fun x => absurd (show nI s < 0 by rw [← x]; decide +kernel) (nI_pos hs)
    have n2 : ¬ (p < L ∧ s ≤ c p ∧ c p ≤ s) := fun x => q ⟨x.1, by omega⟩
    rw [if_neg n1, if_neg n1, if_neg n2, if_pos rfl, Int32.add_zero]
    have ez : zset u 0 9 (nI p) = u := zset_same e4
    rw [ez]
    exact ⟨Or.inl ⟨rfl, rfl, h⟩, fun _ _ _ => rfl, fun _ _ _ _ => rfl, fun _ _ => rfl, fun _ _ => rfl⟩
/-- a number is wanted: k digits are behind, with the value m -/
theorem num_loop {w p0 : Nat} {t0 u0 : zM} (hw : w < 2) (h0 : u0 0 9 = nI p0) : ∀ (j k m p : Nat) (t u : zM), k ≤ 3 → 3 < k + j → p = p0 + k → zX b t u L p c → m < 10 ^ k → u 7 w = nI m → zFc b t0 t → zFr u0 u → (∀ y, y ≠ 2 → t b y = t0 b y) → (∀ y, y ≠ 9 → u 0 y = u0 0 y) → (∀ y, y ≠ w → u 7 y = u0 7 y) →
    ∃ k2 m2, k ≤ k2 ∧ m2 < 1000 ∧ lX3_takeNumber_4 b t0 j k (if k = 0 then -1 else nI m) t = (if k2 = 0 then -1 else nI m2) ∧ lX7_numbered_12 u0 w j k u = (if k2 = 0 then 0 else 1) ∧ zX b (lsX3_takeNumber_4 b t0 j k (if k = 0 then -1 else nI m) t) (lsX7_numbered_12 u0 w j k u) L (p0 + k2) c ∧ (lsX7_numbered_12 u0 w j k u) 7 w = nI m2 ∧ zFc b t0 (lsX3_takeNumber_4 b t0 j k (if k = 0 then -1 else nI m) t) ∧ zFr u0 (lsX7_numbered_12 u0 w j k u) ∧ (∀ y, y ≠ 2 → lsX3_takeNumber_4 b t0 j k (if k = 0 then -1 else nI m) t b y = t0 b y) ∧ (∀ y, y ≠ 9 → lsX7_numbered_12 u0 w j k u 0 y = u0 0 y) ∧ (∀ y, y ≠ w → lsX7_numbered_12 u0 w j k u 7 y = u0 7 y) := by
  intro j
  induction j with
  | zero => intro k m p t u hk hj; omega
  | succ j ih =>
    intro k m p t u hk hj hp h hm hv f1 f2 f3 f4 f5
    subst hp
    have hL := h.1
    have hpL := h.2.1
    have e9 := h.2.2.2.2.2.1
    have e2 := h.2.2.2.2.1
    rw [lX3_takeNumber_4, lsX3_takeNumber_4, lX7_numbered_12, lsX7_numbered_12, h.sign, show rX7_isAt u 48 57 = _ from h.isAt (lo := 48) (hi := 57) (by decide) (by decide), e9, h0, ite_self]
    have hm3 : m < 1000 := by
      rcases (show k = 0 ∨ k = 1 ∨ k = 2 ∨ k = 3 by omega) with rfl | rfl | rfl | rfl <;> simp at hm <;> omega
    have eend : (if nI (p0 + k) ≤ nI p0 then (0 : Int32) else 1) = (if k = 0 then 0 else 1) := by
      by_cases q : k = 0
      · subst q; rw [Nat.add_zero, if_pos (Int32.le_refl _), if_pos rfl]
      · rw [if_neg (fun x => absurd (zle (by omega) (by omega) x) (by omega)), if_neg q]
    have esub : nI (p0 + k) - nI p0 = nI k := by rw [nI_sub (by omega)]; exact congrArg nI (by omega)
    rw [eend, esub]
    by_cases q3 : k = 3
    · subst q3
      rw [if_pos (show (3 : Int32) ≤ nI 3 by decide +kernel), if_pos (show (3 : Int32) ≤ nI 3 by decide +kernel), if_pos (show (3 : Int32) ≤ nI 3 by decide +kernel), if_pos (show (3 : Int32) ≤ nI 3 by decide +kernel), ite_self, ite_self]
      exact ⟨3, m, Nat.le_refl _, hm3, rfl, rfl, h, hv, f1, f2, f3, f4, f5⟩
    · have q3' : ¬ (3 : Int32) ≤ nI k := fun x => absurd (zle (a := 3) (by decide) (by omega) x) (by omega)
      rw [if_neg q3', if_neg q3', if_neg q3', if_neg q3']
      by_cases qd : p0 + k < L ∧ 48 ≤ c (p0 + k) ∧ c (p0 + k) ≤ 57
      · have esg : sg L c (p0 + k) = nI (c (p0 + k)) := if_pos qd.1
        have edg : ¬ rX3_isDigit (nI (c (p0 + k))) = 0 := by
          unfold rX3_isDigit
          rw [if_neg (show ¬ nI (c (p0 + k)) < 48 from fun x => absurd (zlt (b := 48) (by omega) (by decide) x) (by omega)), if_neg (show ¬ (57 : Int32) < nI (c (p0 + k)) from fun x => absurd (zlt (a := 57) (by decide) (by omega) x) (by omega))]
          decide +kernel
        have e5 := (h.2.2.2.2.2.2 (p0 + k) qd.1).2.2.2
        rw [esg, if_neg edg, if_neg edg, if_pos qd, if_neg (show ¬ (1 : Int32) = 0 by decide +kernel), if_neg (show ¬ (1 : Int32) = 0 by decide +kernel), nI_clamp (by omega), hv, e5, e2, nI_1]
        have en : nI m * 10 = nI m * 10 := rfl
        have e10 : (10 * nI m) + nI (c (p0 + k)) - 48 = nI (10 * m + c (p0 + k) - 48) := by
          show nI 10 * nI m + nI (c (p0 + k)) - nI 48 = _
          rw [nI_mul, nI_add, nI_sub (by omega)]
        have ecl : (10 * (if (if k = 0 then (-1 : Int32) else nI m) < 0 then 0 else (if k = 0 then (-1 : Int32) else nI m))) + nI (c (p0 + k)) - 48 = nI (10 * m + c (p0 + k) - 48) := by
          by_cases q0 : k = 0
          · subst q0
            have : m = 0 := by simp at hm; omega
            subst this
            rw [if_pos rfl, if_pos (by decide +kernel)]
            exact e10
          · rw [if_neg q0, if_neg (nI_pos (by omega))]
            exact e10
        rw [ecl, e10]
        have hm' : 10 * m + c (p0 + k) - 48 < 10 ^ (k + 1) := by
          rw [Nat.pow_succ]; omega
        have h7 : zX b t (zset u 7 w (nI (10 * m + c (p0 + k) - 48))) L (p0 + k) c := h.putr _ (Or.inl rfl)
        have hgo := h7.go qd.1
        obtain ⟨k2, m2, r0, r⟩ := ih (k + 1) (10 * m + c (p0 + k) - 48) (p0 + k + 1) _ _ (by omega) (by omega) (by omega) hgo hm' (by rw [zset_idk _ _ _ _ (by decide), zset_eq]) (f1.put _ (by decide) (by decide)) ((f2.put7 _).put _ (Or.inl rfl)) (fun y hy => (zset_nk _ _ _ hy).trans (f3 y hy)) (fun y hy => by rw [zset_nk _ _ _ hy, zset_idk _ _ _ _ (by decide)]; exact f4 y hy) (fun y hy => by rw [zset_idk _ _ _ _ (by decide), zset_nk _ _ _ hy]; exact f5 y hy)
        rw [if_neg (show ¬ k + 1 = 0 by omega)] at r
        exact ⟨k2, m2, by omega, r⟩
      · have edg : rX3_isDigit (sg L c (p0 + k)) = 0 := by
          unfold rX3_isDigit sg
          by_cases q1 : p0 + k < L
          · have := (h.2.2.2.2.2.2 (p0 + k) q1).2.1
            rw [if_pos q1]
            by_cases q2 : c (p0 + k) < 48
            · rw [if_pos (show nI (c (p0 + k)) < 48 from (nI_ltI (b := 48) (by omega) (by decide)).mpr q2)]
            · rw [if_pos (show (57 : Int32) < nI (c (p0 + k)) from (nI_ltI (a := 57) (by decide) (by omega)).mpr (by omega)), ite_self]
          · rw [if_neg q1, if_pos (by decide +kernel)]
        rw [edg, if_pos rfl, if_pos rfl, if_neg qd, if_pos rfl, if_pos rfl]
        exact ⟨k, m, Nat.le_refl _, hm3, rfl, rfl, h, hv, f1, f2, f3, f4, f5⟩
theorem zX.num (h : zX b t u L p c) {w : Nat} (hw : w < 2) : ∃ k m, m < 1000 ∧ rX3_takeNumber b t = (if k = 0 then -1 else nI m) ∧ rX7_numbered u w = (if k = 0 then 0 else 1) ∧ zX b (sX3_takeNumber b t) (sX7_numbered u w) L (p + k) c ∧ sX7_numbered u w 7 w = nI m ∧ zFc b t (sX3_takeNumber b t) ∧ zFr u (sX7_numbered u w) ∧ (∀ y, y ≠ 2 → sX3_takeNumber b t b y = t b y) ∧ (∀ y, y ≠ 9 → sX7_numbered u w 0 y = u 0 y) ∧ (∀ y, y ≠ w → sX7_numbered u w 7 y = u 7 y) := by
  have h7 : zX b t (zset u 7 w 0) L p c := h.putr _ (Or.inl rfl)
  obtain ⟨k2, m2, -, r1, r2, r3, r4, r5, r6, r7, r8, r9, r10⟩ := num_loop (t0 := t) (u0 := u) (w := w) hw h.2.2.2.2.2.1 4 0 0 p t (zset u 7 w 0) (by decide) (by decide) rfl h7 (by decide) (zset_eq _ _ _ _) (fun _ _ _ => rfl) (zFr.put7 (fun _ _ _ _ => rfl) _) (fun _ _ => rfl) (fun y hy => zset_idk _ _ _ _ (by decide)) (fun y hy => zset_nk _ _ _ hy)
  exact ⟨k2, m2, r1, r2, r3, r4, r5, r6, r7, r8, r9, r10⟩
end ZTX
