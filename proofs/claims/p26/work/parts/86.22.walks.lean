def lX7_rounds_71 (t : zM) (q : Nat) : Nat → Nat → Int32 → Int32 → zM → Int32
  | 0, _, _, _, _ => 0
  | j2 + 1, i, v, g, u => (if (u (1) 401) ≤ nI i then v else (if (u (1) (14 * i + 0)) = nI q then (lX7_rounds_71 t q j2 (i + 1) v g (zset u (6) ((rX7_rankOf u i (nI q) g).toNatClampNeg) (nI i))) else (lX7_rounds_71 t q j2 (i + 1) v g u)))
def lsX7_rounds_71 (t : zM) (q : Nat) : Nat → Nat → Int32 → Int32 → zM → zM
  | 0, _, _, _, u => u
  | j2 + 1, i, v, g, u => (if (u (1) 401) ≤ nI i then u else (if (u (1) (14 * i + 0)) = nI q then (lsX7_rounds_71 t q j2 (i + 1) v g (zset u (6) ((rX7_rankOf u i (nI q) g).toNatClampNeg) (nI i))) else (lsX7_rounds_71 t q j2 (i + 1) v g u)))
def lX7_rounds_4 (t : zM) (q : Nat) : Nat → Nat → Int32 → Int32
  | 0, _, _ => 0
  | j + 1, k, v => (if (t (1) 401) ≤ nI k then (if 0 ≤ ((t (1) (336 + q)) - 1) then (lX7_rounds_71 t q 25 0 v (rX7_turn t (((t (1) (336 + q)) - 1).toNatClampNeg)) t) else (lX7_rounds_71 t q 25 0 v 0 t)) else (if (t (1) (14 * k + 0)) = nI q then (lX7_rounds_4 t q j (k + 1) (v + 1)) else (lX7_rounds_4 t q j (k + 1) (v + 0))))
def lsX7_rounds_4 (t : zM) (q : Nat) : Nat → Nat → Int32 → zM
  | 0, _, _ => t
  | j + 1, k, v => (if (t (1) 401) ≤ nI k then (if 0 ≤ ((t (1) (336 + q)) - 1) then (lsX7_rounds_71 t q 25 0 v (rX7_turn t (((t (1) (336 + q)) - 1).toNatClampNeg)) t) else (lsX7_rounds_71 t q 25 0 v 0 t)) else (if (t (1) (14 * k + 0)) = nI q then (lsX7_rounds_4 t q j (k + 1) (v + 1)) else (lsX7_rounds_4 t q j (k + 1) (v + 0))))
def rX7_rounds (t : zM) (q : Nat) : Int32 := (lX7_rounds_4 t q 25 0 0)
def sX7_rounds (t : zM) (q : Nat) : zM := (lsX7_rounds_4 t q 25 0 0)
theorem lsX7_rounds_71_S {H N : Nat} (t : zM) (q : Nat) : ∀ (j i : Nat) (v g : Int32) (u : zM), i ≤ H → mS H N u → mS H N (lsX7_rounds_71 t q j i v g u) := by
  intro j
  induction j with
  | zero => intro i v g u hi h; exact h
  | succ j ih =>
    intro i v g u hi hm2
    unfold lsX7_rounds_71
    split
    · exact hm2
    · have hlt : i < H := hm2.lt (Nat.le_trans hi hm2.1) (by assumption)
      have := hm2.1
      split
      · exact ih _ _ _ _ hlt (mS_setR hm2 rfl (by omega))
      · exact ih _ _ _ _ hlt hm2
theorem lsX7_rounds_4_S {H N : Nat} {t : zM} (q : Nat) (hm : mS H N t) : ∀ (j k : Nat) (v : Int32), mS H N (lsX7_rounds_4 t q j k v) := by
  intro j
  induction j with
  | zero => intro k v; exact hm
  | succ j ih =>
    intro k v
    unfold lsX7_rounds_4
    repeat' split
    all_goals first
      | exact ih _ _
      | exact lsX7_rounds_71_S t q _ _ _ _ _ (Nat.zero_le _) hm
theorem sX7_rounds_S {H N q : Nat} {t : zM} (hm : mS H N t) : mS H N (sX7_rounds t q) := lsX7_rounds_4_S q hm _ _ _
theorem lX7_rounds_71_v {H N : Nat} (t : zM) (q : Nat) : ∀ (j i : Nat) (v g : Int32) (u : zM), 25 ≤ i + j → i ≤ H → mS H N u → lX7_rounds_71 t q j i v g u = v := by
  intro j
  induction j with
  | zero => intro i v g u h0 hi h; have := h.1; omega
  | succ j ih =>
    intro i v g u h0 hi hm2
    unfold lX7_rounds_71
    split
    · rfl
    · have hlt : i < H := hm2.lt (Nat.le_trans hi hm2.1) (by assumption)
      have := hm2.1
      split
      · exact ih _ _ _ _ (by omega) hlt (mS_setR hm2 rfl (by omega))
      · exact ih _ _ _ _ (by omega) hlt hm2
theorem lX7_rounds_4_le {H N : Nat} {t : zM} (q : Nat) (hm : mS H N t) : ∀ (j k v : Nat), 25 ≤ k + j → k ≤ H → v ≤ k → ∃ r, r ≤ 24 ∧ lX7_rounds_4 t q j k (nI v) = nI r := by
  have hH := hm.1
  intro j
  induction j with
  | zero => intro k v h0 hk; omega
  | succ j ih =>
    intro k v h0 hk hv
    unfold lX7_rounds_4
    split
    · split
      · exact ⟨v, by omega, lX7_rounds_71_v t q _ _ _ _ _ (by omega) (Nat.zero_le _) hm⟩
      · exact ⟨v, by omega, lX7_rounds_71_v t q _ _ _ _ _ (by omega) (Nat.zero_le _) hm⟩
    · have hlt : k < H := hm.lt (by omega) (by assumption)
      split
      · rw [nI_1]
        exact ih _ _ (by omega) hlt (by omega)
      · rw [show nI v + 0 = nI v from Int32.add_zero _]
        exact ih _ _ (by omega) hlt (by omega)
theorem rX7_rounds_le {H N q : Nat} {t : zM} (hm : mS H N t) : ∃ r, r ≤ 24 ∧ rX7_rounds t q = nI r := lX7_rounds_4_le q hm 25 0 0 (by omega) (Nat.zero_le _) (Nat.le_refl _)
theorem zrnd_lt {x : Int32} {k : Nat} (h : ∃ r, r ≤ 24 ∧ x = nI r) (hk : k ≤ 24) (c : ¬ x ≤ nI k) : k < 24 := by
  obtain ⟨r, hr, rfl⟩ := h
  have := zge (by omega) (by omega) c
  omega
def lX7_walks_11 (t : zM) (q : Nat) : Nat → Nat → Int32 → zM → Int32
  | 0, _, _, _ => 0
  | j + 1, k, v, u => (if (rX7_rounds t q) ≤ nI k then v else (if (u (1) 410) ≤ v then v else (if (rX7_barred u ((u (6) k).toNatClampNeg)) = 0 then (if 0 ≤ (rX7_reads u (u (6) k) ((u (6) k).toNatClampNeg)) then (lX7_walks_11 t q j (k + 1) (v + 1) (zset (sX7_reads u (u (6) k) ((u (6) k).toNatClampNeg)) (1) (336 + q) ((u (6) k) + 1))) else (lX7_walks_11 t q j (k + 1) (v + 0) (zset (sX7_reads u (u (6) k) ((u (6) k).toNatClampNeg)) (1) (336 + q) ((u (6) k) + 1)))) else (lX7_walks_11 t q j (k + 1) v u))))
def lsX7_walks_11 (t : zM) (q : Nat) : Nat → Nat → Int32 → zM → zM
  | 0, _, _, u => u
  | j + 1, k, v, u => (if (rX7_rounds t q) ≤ nI k then u else (if (u (1) 410) ≤ v then u else (if (rX7_barred u ((u (6) k).toNatClampNeg)) = 0 then (if 0 ≤ (rX7_reads u (u (6) k) ((u (6) k).toNatClampNeg)) then (lsX7_walks_11 t q j (k + 1) (v + 1) (zset (sX7_reads u (u (6) k) ((u (6) k).toNatClampNeg)) (1) (336 + q) ((u (6) k) + 1))) else (lsX7_walks_11 t q j (k + 1) (v + 0) (zset (sX7_reads u (u (6) k) ((u (6) k).toNatClampNeg)) (1) (336 + q) ((u (6) k) + 1)))) else (lsX7_walks_11 t q j (k + 1) v u))))
def rX7_walks (t : zM) (q : Nat) : Int32 := (lX7_walks_11 t q 25 0 0 (sX7_rounds t q))
def sX7_walks (t : zM) (q : Nat) : zM := (lsX7_walks_11 t q 25 0 0 (sX7_rounds t q))
theorem lsX7_walks_11_S {H N q : Nat} {t : zM} (hq : q < 4) (hm0 : mS H N t) : ∀ (j k : Nat) (v : Int32) (u : zM), k ≤ 24 → mS H N u → mS H N (lsX7_walks_11 t q j k v u) := by
  intro j
  induction j with
  | zero => intro k v u hk h; exact h
  | succ j ih =>
    intro k v u hk hm
    unfold lsX7_walks_11
    split
    · exact hm
    · have hlt : k < 24 := zrnd_lt (rX7_rounds_le hm0) hk (by assumption)
      repeat' split
      all_goals first
        | exact hm
        | exact ih _ _ _ hlt hm
        | exact ih _ _ _ hlt (mS_setW (sX7_reads_S (hm.rnd hlt).1 hm) hq ((congrArg (· + 1) (hm.rnd hlt).2).trans (nI_1 _)) (hm.rnd hlt).1)
theorem sX7_walks_S {H N q : Nat} {t : zM} (hq : q < 4) (hm0 : mS H N t) : mS H N (sX7_walks t q) := lsX7_walks_11_S hq hm0 _ _ _ _ (by decide) (sX7_rounds_S hm0)
def lsX7_refunds_14 (t : zM) : Nat → Nat → zM → zM
  | 0, _, u => u
  | j + 1, k, u => (if (u (1) 401) ≤ nI k then u else (if (u (1) (14 * k + 4)) < (u (1) 412) then (lsX7_refunds_14 t j (k + 1) u) else (lsX7_refunds_14 t j (k + 1) (zset (zset (zset (zset u (1) (14 * k + 4) ((u (1) (14 * k + 4)) + (-100))) (1) (14 * k + 12) ((u (1) (14 * k + 12)) + 1)) (1) 406 ((u (1) 406) + 1)) (1) 407 ((u (1) 407) + (u (1) 411))))))
def sX7_refunds (t : zM)  : zM := (lsX7_refunds_14 t 25 0 (zset t (1) 408 ((t (1) 408) + 1)))
theorem lsX7_refunds_14_S {H N : Nat} (t : zM) : ∀ (j k : Nat) (u : zM), k ≤ H → mS H N u → mS H N (lsX7_refunds_14 t j k u) := by
  intro j
  induction j with
  | zero => intro k u hk h; exact h
  | succ j ih =>
    intro k u hk hm
    unfold lsX7_refunds_14
    split
    · exact hm
    · have hlt : k < H := hm.lt (Nat.le_trans hk hm.1) (by assumption)
      have := hm.1
      split
      · exact ih _ _ hlt hm
      · exact ih _ _ hlt (mS_set1 (mS_set1 (mS_set1 (mS_set1 hm (by omega) (by omega) (by omega) (by omega)) (by omega) (by omega) (by omega) (by omega)) (by omega) (by omega) (by omega) (by omega)) (by omega) (by omega) (by omega) (by omega))
theorem sX7_refunds_S {H N : Nat} {t : zM} (hm : mS H N t) : mS H N (sX7_refunds t) := lsX7_refunds_14_S t _ _ _ (Nat.zero_le _) (mS_set1 hm (by decide) (by decide) (by decide) (by decide))
def lX7_day_2 (t : zM) (N : Nat) : Nat → Nat → zM → Int32
  | 0, _, _ => 0
  | j + 1, k, u => (if (u (1) 401) ≤ nI k then (if (zrem ((sX7_walks (zset u (1) 400 ((u (1) 400) + 1)) ((N + 1) % 4)) (1) 400) ((sX7_walks (zset u (1) 400 ((u (1) 400) + 1)) ((N + 1) % 4)) (1) 413)) = 0 then (rX7_walks (zset u (1) 400 ((u (1) 400) + 1)) ((N + 1) % 4)) else (rX7_walks (zset u (1) 400 ((u (1) 400) + 1)) ((N + 1) % 4))) else (lX7_day_2 t N j (k + 1) (zset u (1) (14 * k + 2) (zrem ((u (1) (14 * k + 2)) + (u (1) (14 * k + 5))) 100000))))
def lsX7_day_2 (t : zM) (N : Nat) : Nat → Nat → zM → zM
  | 0, _, u => u
  | j + 1, k, u => (if (u (1) 401) ≤ nI k then (if (zrem ((sX7_walks (zset u (1) 400 ((u (1) 400) + 1)) ((N + 1) % 4)) (1) 400) ((sX7_walks (zset u (1) 400 ((u (1) 400) + 1)) ((N + 1) % 4)) (1) 413)) = 0 then (sX7_refunds (sX7_walks (zset u (1) 400 ((u (1) 400) + 1)) ((N + 1) % 4))) else (sX7_walks (zset u (1) 400 ((u (1) 400) + 1)) ((N + 1) % 4))) else (lsX7_day_2 t N j (k + 1) (zset u (1) (14 * k + 2) (zrem ((u (1) (14 * k + 2)) + (u (1) (14 * k + 5))) 100000))))
def rX7_day (t : zM) (N : Nat) : Int32 := (lX7_day_2 t N 25 0 t)
def sX7_day (t : zM) (N : Nat) : zM := (lsX7_day_2 t N 25 0 t)
theorem lsX7_day_2_S {H N : Nat} (t : zM) : ∀ (j k : Nat) (u : zM), 25 ≤ k + j → k ≤ H → mS H N u → mS H (N + 1) (lsX7_day_2 t N j k u) := by
  intro j
  induction j with
  | zero => intro k u h0 hk h; have := h.1; omega
  | succ j ih =>
    intro k u h0 hk hm
    unfold lsX7_day_2
    split
    · have h3 := sX7_walks_S (q := (N + 1) % 4) (by omega) (mS_now hm)
      split
      · exact sX7_refunds_S h3
      · exact h3
    · have hlt : k < H := hm.lt (Nat.le_trans hk hm.1) (by assumption)
      have := hm.1
      exact ih _ _ (by omega) hlt (mS_set1 hm (by omega) (by omega) (by omega) (by omega))
theorem sX7_day_S {H N : Nat} {t : zM} (hm : mS H N t) : mS H (N + 1) (sX7_day t N) := lsX7_day_2_S t _ _ _ (by omega) (Nat.zero_le _) hm
