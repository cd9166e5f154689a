/-! what the law asks of sums -/
theorem cn_0 (u : zM) : rX7_count u 0 = u 1 400 := by
  unfold rX7_count
  rw [if_pos (show (0 : Int32) = 0 from rfl)]
theorem cn_1 (u : zM) : rX7_count u 1 = u 1 401 := by
  unfold rX7_count
  rw [if_neg (show ¬ (1 : Int32) = 0 by decide +kernel), if_pos (show (1 : Int32) = 1 from rfl)]
theorem cn_2 (u : zM) : rX7_count u 2 = rX7_locked u := by
  unfold rX7_count
  rw [if_neg (show ¬ (2 : Int32) = 0 by decide +kernel), if_neg (show ¬ (2 : Int32) = 1 by decide +kernel), if_pos (show (2 : Int32) = 2 from rfl)]
theorem cn_3 (u : zM) : rX7_count u 3 = u 1 402 := by
  unfold rX7_count
  rw [if_neg (show ¬ (3 : Int32) = 0 by decide +kernel), if_neg (show ¬ (3 : Int32) = 1 by decide +kernel), if_neg (show ¬ (3 : Int32) = 2 by decide +kernel), if_pos (show (3 : Int32) = 3 from rfl)]
theorem cn_4 (u : zM) : rX7_count u 4 = u 1 403 := by
  unfold rX7_count
  rw [if_neg (show ¬ (4 : Int32) = 0 by decide +kernel), if_neg (show ¬ (4 : Int32) = 1 by decide +kernel), if_neg (show ¬ (4 : Int32) = 2 by decide +kernel), if_neg (show ¬ (4 : Int32) = 3 by decide +kernel), if_pos (show (4 : Int32) = 4 from rfl)]
theorem cn_5 (u : zM) : rX7_count u 5 = u 1 404 := by
  unfold rX7_count
  rw [if_neg (show ¬ (5 : Int32) = 0 by decide +kernel), if_neg (show ¬ (5 : Int32) = 1 by decide +kernel), if_neg (show ¬ (5 : Int32) = 2 by decide +kernel), if_neg (show ¬ (5 : Int32) = 3 by decide +kernel), if_neg (show ¬ (5 : Int32) = 4 by decide +kernel), if_pos (show (5 : Int32) = 5 from rfl)]
theorem cn_6 (u : zM) : rX7_count u 6 = u 1 405 := by
  unfold rX7_count
  rw [if_neg (show ¬ (6 : Int32) = 0 by decide +kernel), if_neg (show ¬ (6 : Int32) = 1 by decide +kernel), if_neg (show ¬ (6 : Int32) = 2 by decide +kernel), if_neg (show ¬ (6 : Int32) = 3 by decide +kernel), if_neg (show ¬ (6 : Int32) = 4 by decide +kernel), if_neg (show ¬ (6 : Int32) = 5 by decide +kernel), if_pos (show (6 : Int32) = 6 from rfl)]
theorem cn_7 (u : zM) : rX7_count u 7 = u 1 406 := by
  unfold rX7_count
  rw [if_neg (show ¬ (7 : Int32) = 0 by decide +kernel), if_neg (show ¬ (7 : Int32) = 1 by decide +kernel), if_neg (show ¬ (7 : Int32) = 2 by decide +kernel), if_neg (show ¬ (7 : Int32) = 3 by decide +kernel), if_neg (show ¬ (7 : Int32) = 4 by decide +kernel), if_neg (show ¬ (7 : Int32) = 5 by decide +kernel), if_neg (show ¬ (7 : Int32) = 6 by decide +kernel), if_pos (show (7 : Int32) = 7 from rfl)]
theorem cn_8 (u : zM) : rX7_count u 8 = u 1 407 := by
  unfold rX7_count
  rw [if_neg (show ¬ (8 : Int32) = 0 by decide +kernel), if_neg (show ¬ (8 : Int32) = 1 by decide +kernel), if_neg (show ¬ (8 : Int32) = 2 by decide +kernel), if_neg (show ¬ (8 : Int32) = 3 by decide +kernel), if_neg (show ¬ (8 : Int32) = 4 by decide +kernel), if_neg (show ¬ (8 : Int32) = 5 by decide +kernel), if_neg (show ¬ (8 : Int32) = 6 by decide +kernel), if_neg (show ¬ (8 : Int32) = 7 by decide +kernel), if_pos (show (8 : Int32) = 8 from rfl)]
theorem cn_9 (u : zM) : rX7_count u 9 = rX7_signed u 1 := by
  unfold rX7_count
  rw [if_neg (show ¬ (9 : Int32) = 0 by decide +kernel), if_neg (show ¬ (9 : Int32) = 1 by decide +kernel), if_neg (show ¬ (9 : Int32) = 2 by decide +kernel), if_neg (show ¬ (9 : Int32) = 3 by decide +kernel), if_neg (show ¬ (9 : Int32) = 4 by decide +kernel), if_neg (show ¬ (9 : Int32) = 5 by decide +kernel), if_neg (show ¬ (9 : Int32) = 6 by decide +kernel), if_neg (show ¬ (9 : Int32) = 7 by decide +kernel), if_neg (show ¬ (9 : Int32) = 8 by decide +kernel), if_pos (show (9 : Int32) = 9 from rfl)]
theorem cn_10 (u : zM) : rX7_count u 10 = rX7_signed u (-1) := by
  unfold rX7_count
  rw [if_neg (show ¬ (10 : Int32) = 0 by decide +kernel), if_neg (show ¬ (10 : Int32) = 1 by decide +kernel), if_neg (show ¬ (10 : Int32) = 2 by decide +kernel), if_neg (show ¬ (10 : Int32) = 3 by decide +kernel), if_neg (show ¬ (10 : Int32) = 4 by decide +kernel), if_neg (show ¬ (10 : Int32) = 5 by decide +kernel), if_neg (show ¬ (10 : Int32) = 6 by decide +kernel), if_neg (show ¬ (10 : Int32) = 7 by decide +kernel), if_neg (show ¬ (10 : Int32) = 8 by decide +kernel), if_neg (show ¬ (10 : Int32) = 9 by decide +kernel), if_pos (show (10 : Int32) = 10 from rfl)]
theorem cn_11 (u : zM) : rX7_count u 11 = rX7_balances u := by
  unfold rX7_count
  rw [if_neg (show ¬ (11 : Int32) = 0 by decide +kernel), if_neg (show ¬ (11 : Int32) = 1 by decide +kernel), if_neg (show ¬ (11 : Int32) = 2 by decide +kernel), if_neg (show ¬ (11 : Int32) = 3 by decide +kernel), if_neg (show ¬ (11 : Int32) = 4 by decide +kernel), if_neg (show ¬ (11 : Int32) = 5 by decide +kernel), if_neg (show ¬ (11 : Int32) = 6 by decide +kernel), if_neg (show ¬ (11 : Int32) = 7 by decide +kernel), if_neg (show ¬ (11 : Int32) = 8 by decide +kernel), if_neg (show ¬ (11 : Int32) = 9 by decide +kernel), if_neg (show ¬ (11 : Int32) = 10 by decide +kernel), if_pos (show (11 : Int32) = 11 from rfl)]
theorem cn_12 (u : zM) : rX7_count u 12 = ((10000 + (100 * (u 1 403))) - (u 1 405)) - (100 * (u 1 406)) := by
  unfold rX7_count
  rw [if_neg (show ¬ (12 : Int32) = 0 by decide +kernel), if_neg (show ¬ (12 : Int32) = 1 by decide +kernel), if_neg (show ¬ (12 : Int32) = 2 by decide +kernel), if_neg (show ¬ (12 : Int32) = 3 by decide +kernel), if_neg (show ¬ (12 : Int32) = 4 by decide +kernel), if_neg (show ¬ (12 : Int32) = 5 by decide +kernel), if_neg (show ¬ (12 : Int32) = 6 by decide +kernel), if_neg (show ¬ (12 : Int32) = 7 by decide +kernel), if_neg (show ¬ (12 : Int32) = 8 by decide +kernel), if_neg (show ¬ (12 : Int32) = 9 by decide +kernel), if_neg (show ¬ (12 : Int32) = 10 by decide +kernel), if_neg (show ¬ (12 : Int32) = 11 by decide +kernel), if_pos (show (12 : Int32) = 12 from rfl)]
theorem cn_13 (u : zM) : rX7_count u 13 = u 1 408 := by
  unfold rX7_count
  rw [if_neg (show ¬ (13 : Int32) = 0 by decide +kernel), if_neg (show ¬ (13 : Int32) = 1 by decide +kernel), if_neg (show ¬ (13 : Int32) = 2 by decide +kernel), if_neg (show ¬ (13 : Int32) = 3 by decide +kernel), if_neg (show ¬ (13 : Int32) = 4 by decide +kernel), if_neg (show ¬ (13 : Int32) = 5 by decide +kernel), if_neg (show ¬ (13 : Int32) = 6 by decide +kernel), if_neg (show ¬ (13 : Int32) = 7 by decide +kernel), if_neg (show ¬ (13 : Int32) = 8 by decide +kernel), if_neg (show ¬ (13 : Int32) = 9 by decide +kernel), if_neg (show ¬ (13 : Int32) = 10 by decide +kernel), if_neg (show ¬ (13 : Int32) = 11 by decide +kernel), if_neg (show ¬ (13 : Int32) = 12 by decide +kernel), if_pos (show (13 : Int32) = 13 from rfl)]
theorem cn_14 (u : zM) : rX7_count u 14 = u 1 409 := by
  unfold rX7_count
  rw [if_neg (show ¬ (14 : Int32) = 0 by decide +kernel), if_neg (show ¬ (14 : Int32) = 1 by decide +kernel), if_neg (show ¬ (14 : Int32) = 2 by decide +kernel), if_neg (show ¬ (14 : Int32) = 3 by decide +kernel), if_neg (show ¬ (14 : Int32) = 4 by decide +kernel), if_neg (show ¬ (14 : Int32) = 5 by decide +kernel), if_neg (show ¬ (14 : Int32) = 6 by decide +kernel), if_neg (show ¬ (14 : Int32) = 7 by decide +kernel), if_neg (show ¬ (14 : Int32) = 8 by decide +kernel), if_neg (show ¬ (14 : Int32) = 9 by decide +kernel), if_neg (show ¬ (14 : Int32) = 10 by decide +kernel), if_neg (show ¬ (14 : Int32) = 11 by decide +kernel), if_neg (show ¬ (14 : Int32) = 12 by decide +kernel), if_neg (show ¬ (14 : Int32) = 13 by decide +kernel), if_pos (show (14 : Int32) = 14 from rfl)]
theorem cn_20 (u : zM) : rX7_count u 20 = u 1 410 := by
  unfold rX7_count
  rw [if_neg (show ¬ (20 : Int32) = 0 by decide +kernel), if_neg (show ¬ (20 : Int32) = 1 by decide +kernel), if_neg (show ¬ (20 : Int32) = 2 by decide +kernel), if_neg (show ¬ (20 : Int32) = 3 by decide +kernel), if_neg (show ¬ (20 : Int32) = 4 by decide +kernel), if_neg (show ¬ (20 : Int32) = 5 by decide +kernel), if_neg (show ¬ (20 : Int32) = 6 by decide +kernel), if_neg (show ¬ (20 : Int32) = 7 by decide +kernel), if_neg (show ¬ (20 : Int32) = 8 by decide +kernel), if_neg (show ¬ (20 : Int32) = 9 by decide +kernel), if_neg (show ¬ (20 : Int32) = 10 by decide +kernel), if_neg (show ¬ (20 : Int32) = 11 by decide +kernel), if_neg (show ¬ (20 : Int32) = 12 by decide +kernel), if_neg (show ¬ (20 : Int32) = 13 by decide +kernel), if_neg (show ¬ (20 : Int32) = 14 by decide +kernel), if_neg (show ¬ (20 : Int32) = 15 by decide +kernel), if_neg (show ¬ (20 : Int32) = 16 by decide +kernel), if_neg (show ¬ (20 : Int32) = 17 by decide +kernel), if_neg (show ¬ (20 : Int32) = 18 by decide +kernel), if_neg (show ¬ (20 : Int32) = 19 by decide +kernel), if_pos (show (20 : Int32) = 20 from rfl)]
theorem cn_21 (u : zM) : rX7_count u 21 = u 1 411 := by
  unfold rX7_count
  rw [if_neg (show ¬ (21 : Int32) = 0 by decide +kernel), if_neg (show ¬ (21 : Int32) = 1 by decide +kernel), if_neg (show ¬ (21 : Int32) = 2 by decide +kernel), if_neg (show ¬ (21 : Int32) = 3 by decide +kernel), if_neg (show ¬ (21 : Int32) = 4 by decide +kernel), if_neg (show ¬ (21 : Int32) = 5 by decide +kernel), if_neg (show ¬ (21 : Int32) = 6 by decide +kernel), if_neg (show ¬ (21 : Int32) = 7 by decide +kernel), if_neg (show ¬ (21 : Int32) = 8 by decide +kernel), if_neg (show ¬ (21 : Int32) = 9 by decide +kernel), if_neg (show ¬ (21 : Int32) = 10 by decide +kernel), if_neg (show ¬ (21 : Int32) = 11 by decide +kernel), if_neg (show ¬ (21 : Int32) = 12 by decide +kernel), if_neg (show ¬ (21 : Int32) = 13 by decide +kernel), if_neg (show ¬ (21 : Int32) = 14 by decide +kernel), if_neg (show ¬ (21 : Int32) = 15 by decide +kernel), if_neg (show ¬ (21 : Int32) = 16 by decide +kernel), if_neg (show ¬ (21 : Int32) = 17 by decide +kernel), if_neg (show ¬ (21 : Int32) = 18 by decide +kernel), if_neg (show ¬ (21 : Int32) = 19 by decide +kernel), if_neg (show ¬ (21 : Int32) = 20 by decide +kernel), if_pos (show (21 : Int32) = 21 from rfl)]
theorem cn_22 (u : zM) : rX7_count u 22 = u 1 412 := by
  unfold rX7_count
  rw [if_neg (show ¬ (22 : Int32) = 0 by decide +kernel), if_neg (show ¬ (22 : Int32) = 1 by decide +kernel), if_neg (show ¬ (22 : Int32) = 2 by decide +kernel), if_neg (show ¬ (22 : Int32) = 3 by decide +kernel), if_neg (show ¬ (22 : Int32) = 4 by decide +kernel), if_neg (show ¬ (22 : Int32) = 5 by decide +kernel), if_neg (show ¬ (22 : Int32) = 6 by decide +kernel), if_neg (show ¬ (22 : Int32) = 7 by decide +kernel), if_neg (show ¬ (22 : Int32) = 8 by decide +kernel), if_neg (show ¬ (22 : Int32) = 9 by decide +kernel), if_neg (show ¬ (22 : Int32) = 10 by decide +kernel), if_neg (show ¬ (22 : Int32) = 11 by decide +kernel), if_neg (show ¬ (22 : Int32) = 12 by decide +kernel), if_neg (show ¬ (22 : Int32) = 13 by decide +kernel), if_neg (show ¬ (22 : Int32) = 14 by decide +kernel), if_neg (show ¬ (22 : Int32) = 15 by decide +kernel), if_neg (show ¬ (22 : Int32) = 16 by decide +kernel), if_neg (show ¬ (22 : Int32) = 17 by decide +kernel), if_neg (show ¬ (22 : Int32) = 18 by decide +kernel), if_neg (show ¬ (22 : Int32) = 19 by decide +kernel), if_neg (show ¬ (22 : Int32) = 20 by decide +kernel), if_neg (show ¬ (22 : Int32) = 21 by decide +kernel), if_pos (show (22 : Int32) = 22 from rfl)]
theorem cn_23 (u : zM) : rX7_count u 23 = u 1 413 := by
  unfold rX7_count
  rw [if_neg (show ¬ (23 : Int32) = 0 by decide +kernel), if_neg (show ¬ (23 : Int32) = 1 by decide +kernel), if_neg (show ¬ (23 : Int32) = 2 by decide +kernel), if_neg (show ¬ (23 : Int32) = 3 by decide +kernel), if_neg (show ¬ (23 : Int32) = 4 by decide +kernel), if_neg (show ¬ (23 : Int32) = 5 by decide +kernel), if_neg (show ¬ (23 : Int32) = 6 by decide +kernel), if_neg (show ¬ (23 : Int32) = 7 by decide +kernel), if_neg (show ¬ (23 : Int32) = 8 by decide +kernel), if_neg (show ¬ (23 : Int32) = 9 by decide +kernel), if_neg (show ¬ (23 : Int32) = 10 by decide +kernel), if_neg (show ¬ (23 : Int32) = 11 by decide +kernel), if_neg (show ¬ (23 : Int32) = 12 by decide +kernel), if_neg (show ¬ (23 : Int32) = 13 by decide +kernel), if_neg (show ¬ (23 : Int32) = 14 by decide +kernel), if_neg (show ¬ (23 : Int32) = 15 by decide +kernel), if_neg (show ¬ (23 : Int32) = 16 by decide +kernel), if_neg (show ¬ (23 : Int32) = 17 by decide +kernel), if_neg (show ¬ (23 : Int32) = 18 by decide +kernel), if_neg (show ¬ (23 : Int32) = 19 by decide +kernel), if_neg (show ¬ (23 : Int32) = 20 by decide +kernel), if_neg (show ¬ (23 : Int32) = 21 by decide +kernel), if_neg (show ¬ (23 : Int32) = 22 by decide +kernel), if_pos (show (23 : Int32) = 23 from rfl)]
/-- a strict count -/
theorem zc_lt {p p' : Nat → Bool} (n : Nat) (h : ∀ i, i < n → p i = true → p' i = true) {k : Nat} (hk : k < n) (h0 : p k = false) (h1 : p' k = true) : zc p n < zc p' n := by
  have e : zc (fun i => p i || decide (i = k)) n = zc p n + 1 := zc_one h0 (by simp) n hk (fun i _ hne => by simp [hne])
  have l : zc (fun i => p i || decide (i = k)) n ≤ zc p' n := zc_le n (fun i hi hp => by
    simp only [Bool.or_eq_true, decide_eq_true_eq] at hp
    rcases hp with q | q
    · exact h i hi q
    · rw [q]; exact h1)
  omega
theorem zc_true (n : Nat) : zc (fun _ => true) n = n := by
  induction n with
  | zero => rfl
  | succ n ih => rw [zc_s, ih, if_pos rfl]
section LM
variable {H N : Nat} {Q P : Nat → Nat} {t u : zM}
/-- a balance as a number -/
def lbb (t : zM) (k : Nat) : Int := (t 272 (4 * k + 0)).toInt
/-- who is ahead of a house -/
def lah (t : zM) (k : Nat) : Nat → Bool := fun i => decide (lbb t k < lbb t i ∨ (lbb t i = lbb t k ∧ i < k))
theorem lRk_e (t : zM) {k : Nat} (hk : k < 1000) : ∀ n, n < 1000 → lRk t k n = nI (zc (lah t k) n) := by
  intro n
  induction n with
  | zero => intro _; rfl
  | succ n ih =>
    intro hn
    show lRk t k n + _ = _
    have c1 : t 272 (4 * k + 0) < t 272 (4 * n + 0) ↔ lbb t k < lbb t n := Int32.lt_iff_toInt_lt
    have c2 : t 272 (4 * n + 0) = t 272 (4 * k + 0) ↔ lbb t n = lbb t k := Int32.toInt_inj.symm
    have c3 : nI k ≤ nI n ↔ k ≤ n := nI_leI (by omega) (by omega)
    rw [ih (by omega), zc_s]
    by_cases q1 : lbb t k < lbb t n
    · rw [if_pos (c1.mpr q1), if_pos (by unfold lah; simp [q1])]
      exact nI_1 _
    · rw [if_neg (fun e => q1 (c1.mp e))]
      by_cases q2 : lbb t n = lbb t k
      · rw [if_pos (c2.mpr q2)]
        by_cases q3 : k ≤ n
        · rw [if_pos (c3.mpr q3), if_neg (by unfold lah; simp only [decide_eq_true_eq]; omega)]
          exact Int32.add_zero _
        · rw [if_neg (fun e => q3 (c3.mp e)), if_pos (by unfold lah; simp only [decide_eq_true_eq]; omega)]
          exact nI_1 _
      · rw [if_neg (fun e => q2 (c2.mp e)), if_neg (by unfold lah; simp only [decide_eq_true_eq]; omega)]
        exact Int32.add_zero _
theorem lah_inj {i k : Nat} (hi : i < H) (hk : k < H) (e : zc (lah t i) H = zc (lah t k) H) : i = k := by
  have key : ∀ a b, a < H → b < H → (lbb t b < lbb t a ∨ (lbb t a = lbb t b ∧ a < b)) → zc (lah t a) H < zc (lah t b) H := fun a b ha hb hab => by
    refine zc_lt H (fun i _ hp => ?_) ha ?_ ?_
    · unfold lah at hp ⊢
      simp only [decide_eq_true_eq] at hp ⊢
      omega
    · unfold lah
      simp
    · unfold lah
      simp only [decide_eq_true_eq]
      exact hab
  rcases Nat.lt_trichotomy i k with q | q | q
  · by_cases c : lbb t i < lbb t k
    · have := key k i hk hi (Or.inl c); omega
    · have := key i k hi hk (by omega); omega
  · exact q
  · by_cases c : lbb t k < lbb t i
    · have := key i k hi hk (Or.inl c); omega
    · have := key k i hk hi (by omega); omega
theorem lah_lt {k : Nat} (hk : k < H) : zc (lah t k) H < H := by
  have := zc_lt (p := lah t k) (p' := fun _ => true) H (fun _ _ _ => rfl) hk (by unfold lah; simp) rfl
  rw [zc_true] at this
  exact this
theorem wr_26 (hA : lA t u) (h : zT H N (fun _ => N) Q P 0 t u) (hH : H ≤ 16) {k : Nat} (hk : k < H) (x : Int32) : ∀ (j i : Nat), 25 ≤ i + j → i ≤ H → lX7_wronged_26 u x k j i (lRk t k i) = lRk t k H := by
  intro j
  induction j with
  | zero => intro i h0 hi; omega
  | succ j ih =>
    intro i h0 hi
    rw [lX7_wronged_26, h.m4]
    by_cases c : nI H ≤ nI i
    · have : i = H := by have := zle (by omega) (by omega) c; omega
      subst this
      rw [if_pos c]
    · have hi2 : i < H := zge (by omega) (by omega) c
      rw [if_neg c]
      obtain ⟨B, b1, b2, e1, e2⟩ := h.bl (show k < 24 by omega)
      obtain ⟨C, c1, c2, e3, e4⟩ := h.bl (show i < 24 by omega)
      have tk : t 272 (4 * k + 0) = Int32.ofInt B := (hA.rb (k := k) (f := 0) (by omega) (by decide)).trans e2
      have ti : t 272 (4 * i + 0) = Int32.ofInt C := (hA.rb (k := i) (f := 0) (by omega) (by decide)).trans e4
      have ihs := ih (i + 1) (by omega) hi2
      have es : lRk t k (i + 1) = lRk t k i + (if t 272 (4 * k + 0) < t 272 (4 * i + 0) then 1 else (if t 272 (4 * i + 0) = t 272 (4 * k + 0) then (if nI k ≤ nI i then 0 else 1) else 0)) := rfl
      rw [es, tk, ti] at ihs
      rw [e2, e4, ← Int32.ofInt_sub, zo0]
      have k1 : Int32.ofInt 0 < Int32.ofInt (C - B) ↔ B < C := by rw [zoT (by decide) (by decide) (by omega) (by omega)]; omega
      have k2 : Int32.ofInt B < Int32.ofInt C ↔ B < C := zoT (by omega) (by omega) (by omega) (by omega)
      have k3 : Int32.ofInt (C - B) = Int32.ofInt 0 ↔ C = B := by rw [zoE (by omega) (by omega) (by decide) (by decide)]; omega
      have k4 : Int32.ofInt C = Int32.ofInt B ↔ C = B := zoE (by omega) (by omega) (by omega) (by omega)
      by_cases d1 : B < C
      · rw [if_pos (k2.mpr d1)] at ihs
        rw [if_pos (k1.mpr d1)]
        exact ihs
      · rw [if_neg (fun q => d1 (k2.mp q))] at ihs
        rw [if_neg (fun q => d1 (k1.mp q))]
        by_cases d2 : C = B
        · rw [if_pos (k4.mpr d2)] at ihs
          rw [if_pos (k3.mpr d2)]
          by_cases d3 : nI k ≤ nI i
          · rw [if_pos d3] at ihs ⊢
            exact ihs
          · rw [if_neg d3] at ihs ⊢
            exact ihs
        · rw [if_neg (fun q => d2 (k4.mp q))] at ihs
          rw [if_neg (fun q => d2 (k3.mp q))]
          exact ihs
theorem wr_9 (hA : lA t u) (h : zT H N (fun _ => N) Q P 0 t u) (hH : H ≤ 16) {r : Nat} (hr : r < 1000) : ∀ (j i : Nat), 25 ≤ i + j → i ≤ H → (∀ k, k < i → zc (lah t k) H ≠ r) → (∀ k, k < H → zc (lah t k) H = r → lX7_wronged_9 u (nI r) j i = nI k) ∧ ((∀ k, k < H → zc (lah t k) H ≠ r) → lX7_wronged_9 u (nI r) j i = -1000004) := by
  intro j
  induction j with
  | zero => intro i h0 hi; omega
  | succ j ih =>
    intro i h0 hi hn
    rw [lX7_wronged_9, h.m4]
    by_cases c : nI H ≤ nI i
    · have : i = H := by have := zle (by omega) (by omega) c; omega
      subst this
      rw [if_pos c]
      exact ⟨fun k hk e => absurd e (hn k hk), fun _ => rfl⟩
    · have hi2 : i < H := zge (by omega) (by omega) c
      have ew : lX7_wronged_26 u (nI r) i 25 0 0 = nI (zc (lah t i) H) := by
        have := wr_26 hA h hH hi2 (nI r) 25 0 (by decide) (Nat.zero_le _)
        rw [lRk_e t (show i < 1000 by omega) H (by omega)] at this
        exact this
      have hl := lah_lt (t := t) hi2
      rw [if_neg c, ew]
      by_cases d : zc (lah t i) H = r
      · rw [if_pos (congrArg nI d)]
        exact ⟨fun k hk e => by rw [lah_inj hi2 hk (d.trans e.symm)], fun q => absurd d (q i hi2)⟩
      · rw [if_neg (fun e => d ((nI_eq (by omega) (by omega)).mp e))]
        exact ih (i + 1) (by omega) hi2 (fun k hk => by
          by_cases e : k = i
          · subst e; exact d
          · exact hn k (by omega))
theorem ok_wr (hA : lA t u) (h : zT H N (fun _ => N) Q P 0 t u) (hH : H ≤ 16) {k : Nat} (hk : k < H) : lOKs t H k := by
  obtain ⟨D, M, B, hD, hM, hB1, hB2, lb, -⟩ := hA.use h (k := k) (by omega)
  have en : (-100 : Int32) = Int32.ofInt (-100) := by decide +kernel
  have hl := lah_lt (t := t) hk
  refine ⟨?_, ?_, ?_⟩
  · rw [lRk_e t (show k < 1000 by omega) H (by omega), q_wronged h]
    unfold rX7_wronged
    rw [if_pos (nI_pos' (by omega))]
    exact (wr_9 hA h hH (show zc (lah t k) H < 1000 by omega) 25 0 (by decide) (Nat.zero_le _) (fun k hk => absurd hk (by omega))).1 k hk rfl
  · rw [lb, en]
    exact fun q => absurd ((zoL (by omega) (by omega) (by decide) (by decide)).mp q) (by omega)
  · rw [lb, zo100]
    exact fun q => absurd ((zoL (by decide) (by decide) (by omega) (by omega)).mp q) (by omega)
theorem ok_wn (hA : lA t u) (h : zT H N (fun _ => N) Q P 0 t u) (hH : H ≤ 16) : rX6_wronged t (t 277 1) = -1000004 := by
  have e1 : t 277 1 = nI H := (hA.rt (by decide)).trans h.m4
  rw [e1, q_wronged h]
  unfold rX7_wronged
  rw [if_pos (nI_pos' (by omega))]
  exact (wr_9 hA h hH (show H < 1000 by omega) 25 0 (by decide) (Nat.zero_le _) (fun k hk => absurd hk (by omega))).2 (fun k hk => by have := lah_lt (t := t) hk; omega)
theorem ok_led (hA : lA t u) (h : zT H N (fun _ => N) Q P 0 t u) {x : Nat} (hx : x < 60) : rX6_ledger t (nI x / 6) (zrem (nI x) 6) = (if t 277 9 ≤ nI x / 6 then -1000004 else t 276 x) := by
  have e9 : t 277 9 = u 1 409 := hA.rt (by decide)
  have ed : nI x / 6 = nI (x / 6) := nI_div (b := 6) (by omega) (by decide)
  have em : zrem (nI x) 6 = nI (x % 6) := zrem_n (b := 6) (by omega) (by decide) (by decide)
  have y1 : ¬ rX7_in (nI (x % 6)) 0 5 = 0 := in_ok (nI_pos (by omega)) (fun q => absurd (zlt (a := 5) (by decide) (by omega) q) (by omega))
  rw [ed, em, q_ledger h, e9, hA.rl hx]
  unfold rX7_ledger
  rw [if_neg (nI_pos (by omega)), if_neg y1, nI_clamp (show x / 6 < 2 ^ 31 by omega), nI_clamp (show x % 6 < 2 ^ 31 by omega), show 340 + 6 * (x / 6) + x % 6 = 340 + x by omega]
theorem lk_e (hA : lA t u) (h : zT H N (fun _ => N) Q P 0 t u) (hH : H ≤ 16) : ∀ (j i : Nat), 25 ≤ i + j → i ≤ H → lX7_locked_4 u j i (lLk t i) = lLk t H := by
  intro j
  induction j with
  | zero => intro i h0 hi; omega
  | succ j ih =>
    intro i h0 hi
    rw [lX7_locked_4, h.m4]
    by_cases c : nI H ≤ nI i
    · have : i = H := by have := zle (by omega) (by omega) c; omega
      subst this
      rw [if_pos c]
    · have hi2 : i < H := zge (by omega) (by omega) c
      have e : u 1 (14 * i + 6) = t 272 (4 * i + 2) := (hA.rb (k := i) (f := 2) (by omega) (by decide)).symm
      rw [if_neg c, e]
      exact ih (i + 1) (by omega) hi2
theorem su_e (hA : lA t u) (h : zT H N (fun _ => N) Q P 0 t u) (hH : H ≤ 16) : ∀ (j i : Nat), 25 ≤ i + j → i ≤ H → lX7_balances_6 u j i (lSu t i) = lSu t H := by
  intro j
  induction j with
  | zero => intro i h0 hi; omega
  | succ j ih =>
    intro i h0 hi
    rw [lX7_balances_6, h.m4]
    by_cases c : nI H ≤ nI i
    · have : i = H := by have := zle (by omega) (by omega) c; omega
      subst this
      rw [if_pos c]
    · have hi2 : i < H := zge (by omega) (by omega) c
      have e : u 1 (14 * i + 4) = t 272 (4 * i + 0) := (hA.rb (k := i) (f := 0) (by omega) (by decide)).symm
      rw [if_neg c, e]
      exact ih (i + 1) (by omega) hi2
theorem ab_e (hA : lA t u) (h : zT H N (fun _ => N) Q P 0 t u) (hH : H ≤ 16) : ∀ (j i : Nat), 25 ≤ i + j → i ≤ H → lX7_signed_4 u 1 j i (lAb t i) = lAb t H := by
  intro j
  induction j with
  | zero => intro i h0 hi; omega
  | succ j ih =>
    intro i h0 hi
    rw [lX7_signed_4, h.m4]
    by_cases c : nI H ≤ nI i
    · have : i = H := by have := zle (by omega) (by omega) c; omega
      subst this
      rw [if_pos c]
    · have hi2 : i < H := zge (by omega) (by omega) c
      have e : u 1 (14 * i + 4) = t 272 (4 * i + 0) := (hA.rb (k := i) (f := 0) (by omega) (by decide)).symm
      have ihs := ih (i + 1) (by omega) hi2
      have es : lAb t (i + 1) = lAb t i + (if t 272 (4 * i + 0) ≤ 0 then 0 else 1) := rfl
      rw [es] at ihs
      rw [if_neg c, e, Int32.one_mul]
      by_cases d : t 272 (4 * i + 0) ≤ 0
      · rw [if_pos d] at ihs ⊢; exact ihs
      · rw [if_neg d] at ihs ⊢; exact ihs
theorem be_e (hA : lA t u) (h : zT H N (fun _ => N) Q P 0 t u) (hH : H ≤ 16) : ∀ (j i : Nat), 25 ≤ i + j → i ≤ H → lX7_signed_4 u (-1) j i (lBe t i) = lBe t H := by
  intro j
  induction j with
  | zero => intro i h0 hi; omega
  | succ j ih =>
    intro i h0 hi
    rw [lX7_signed_4, h.m4]
    by_cases c : nI H ≤ nI i
    · have : i = H := by have := zle (by omega) (by omega) c; omega
      subst this
      rw [if_pos c]
    · have hi2 : i < H := zge (by omega) (by omega) c
      obtain ⟨B, b1, b2, e1, e2⟩ := h.bl (show i < 24 by omega)
      have e : t 272 (4 * i + 0) = u 1 (14 * i + 4) := hA.rb (k := i) (f := 0) (by omega) (by decide)
      have ihs := ih (i + 1) (by omega) hi2
      have es : lBe t (i + 1) = lBe t i + (if 0 ≤ t 272 (4 * i + 0) then 0 else 1) := rfl
      have em : (-1 : Int32) * Int32.ofInt B = Int32.ofInt (-1 * B) := by
        rw [Int32.ofInt_mul]; rfl
      rw [es, e, e2] at ihs
      rw [if_neg c, e2, em]
      have k1 : Int32.ofInt (-1 * B) ≤ 0 ↔ 0 ≤ B := by rw [zo0, zoL (by omega) (by omega) (by decide) (by decide)]; omega
      have k2 : 0 ≤ Int32.ofInt B ↔ 0 ≤ B := by rw [zo0, zoL (by decide) (by decide) (by omega) (by omega)]
      by_cases d : 0 ≤ B
      · rw [if_pos (k2.mpr d)] at ihs
        rw [if_pos (k1.mpr d)]
        exact ihs
      · rw [if_neg (fun q => d (k2.mp q))] at ihs
        rw [if_neg (fun q => d (k1.mp q))]
        exact ihs
theorem cnt_g (hz : zRl t u) (h : zT H N (fun _ => N) Q P 0 t u) (a : Int32) : rX6_count t a = rX7_count u a := by
  obtain ⟨f, p, -, -, -, e2, e3, -⟩ := hz.2.1.1
  obtain ⟨L, c, -, e4, e5, -⟩ := hz.2.2.1
  exact q_count h (e2.trans e3.symm) (e4.trans e5.symm) a
theorem ok_c1 (hz : zRl t u) (hA : lA t u) (h : zT H N (fun _ => N) Q P 0 t u) {y : Nat} (hy : y < 2) : rX6_count t (nI y) = t 277 y := by
  rw [cnt_g hz h, hA.rt (x := y) (by omega)]
  rcases (show y = 0 ∨ y = 1 by omega) with rfl | rfl
  · exact cn_0 u
  · exact cn_1 u
theorem ok_c2 (hz : zRl t u) (hA : lA t u) (h : zT H N (fun _ => N) Q P 0 t u) {y : Nat} (hy : y < 9) (h2 : 2 ≤ y) (h3 : y ≠ 2) : rX6_count t (nI y) = t 277 (y - 1) := by
  rw [cnt_g hz h, hA.rt (x := y - 1) (by omega)]
  rcases (show y = 3 ∨ y = 4 ∨ y = 5 ∨ y = 6 ∨ y = 7 ∨ y = 8 by omega) with rfl | rfl | rfl | rfl | rfl | rfl
  · exact cn_3 u
  · exact cn_4 u
  · exact cn_5 u
  · exact cn_6 u
  · exact cn_7 u
  · exact cn_8 u
theorem ok_c3 (hz : zRl t u) (hA : lA t u) (h : zT H N (fun _ => N) Q P 0 t u) {y : Nat} (hy : y ≤ 3) : rX6_count t (20 + nI y) = t 277 (10 + y) := by
  have e : 20 + nI y = nI (20 + y) := nI_add 20 y
  rw [e, cnt_g hz h, hA.rt (x := 10 + y) (by omega)]
  rcases (show y = 0 ∨ y = 1 ∨ y = 2 ∨ y = 3 by omega) with rfl | rfl | rfl | rfl
  · exact cn_20 u
  · exact cn_21 u
  · exact cn_22 u
  · exact cn_23 u
theorem ok_sums (hz : zRl t u) (hA : lA t u) (h : zT H N (fun _ => N) Q P 0 t u) (hH : H ≤ 16) (hI : lI H t) : rX6_count t 2 = lLk t H ∧ rX6_count t 9 = lAb t H ∧ rX6_count t 10 = lBe t H ∧ rX6_count t 11 = lSu t H ∧ rX6_count t 12 = lSu t H ∧ rX6_count t 13 = t 277 8 ∧ rX6_count t 14 = t 277 9 := by
  refine ⟨?_, ?_, ?_, ?_, ?_, ?_, ?_⟩
  · rw [cnt_g hz h, cn_2]
    exact lk_e hA h hH 25 0 (by decide) (Nat.zero_le _)
  · rw [cnt_g hz h, cn_9]
    exact ab_e hA h hH 25 0 (by decide) (Nat.zero_le _)
  · rw [cnt_g hz h, cn_10]
    exact be_e hA h hH 25 0 (by decide) (Nat.zero_le _)
  · rw [cnt_g hz h, cn_11]
    exact su_e hA h hH 25 0 (by decide) (Nat.zero_le _)
  · have t3 : t 277 3 = u 1 403 := hA.rt (by decide)
    have t5 : t 277 5 = u 1 405 := hA.rt (by decide)
    have t6 : t 277 6 = u 1 406 := hA.rt (by decide)
    unfold lI at hI
    rw [cnt_g hz h, cn_12, hI, t3, t5, t6]
  · rw [cnt_g hz h, cn_13]
    exact (hA.rt (x := 8) (by decide)).symm
  · rw [cnt_g hz h, cn_14]
    exact (hA.rt (x := 9) (by decide)).symm
end LM
