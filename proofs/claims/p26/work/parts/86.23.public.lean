theorem rX7_in_ok {v a c : Int32} (h : ¬ rX7_in v a c = 0) : ¬ v < a ∧ ¬ c < v := by
  unfold rX7_in at h
  split at h
  · exact absurd rfl h
  · split at h
    · exact absurd rfl h
    · exact ⟨by assumption, by assumption⟩
theorem isHouse_lt {H N : Nat} {t : zM} {x : Int32} (hm : mS H N t) (h : ¬ rX7_isHouse t x = 0) : x.toNatClampNeg < H ∧ x = nI x.toNatClampNeg := by
  obtain ⟨h1, h2⟩ := rX7_in_ok h
  obtain ⟨k, hk, rfl⟩ := nI_of h1
  rw [nI_clamp hk]
  refine ⟨?_, rfl⟩
  have hH := hm.1
  rcases Nat.lt_or_ge k H with q | q
  · exact q
  · refine absurd ?_ h2
    rw [hm.2.1]
    rcases Nat.eq_zero_or_pos H with e | e
    · subst e
      rw [Int32.lt_iff_toInt_lt, nI_toInt hk]
      have : (nI 0 - 1).toInt = -1 := by decide +kernel
      omega
    · rw [show nI H - 1 = nI (H - 1) from nI_sub (b := 1) e]
      exact (nI_ltI (by omega) hk).mpr (by omega)
def mP (t : zM) : Prop := ∃ P, P ≤ 4 ∧ t 0 4 = nI P
theorem mH_lt {H N : Nat} {t : zM} (h : mS H N t) (c : ¬ t 1 401 = 24) : (t 1 401).toNatClampNeg < 24 ∧ t 1 401 = nI (t 1 401).toNatClampNeg := by
  have h0 := h.1
  have h1 := h.2.1
  rw [h1] at c ⊢
  rw [nI_clamp (by omega)]
  refine ⟨?_, rfl⟩
  rcases Nat.lt_or_ge H 24 with q | q
  · exact q
  · have : H = 24 := by omega
    subst this
    exact absurd rfl c
theorem m99 {x : Int32} (h : ¬ rX7_in x 1 99 = 0) : x.toNatClampNeg ≤ 99 ∧ x = nI x.toNatClampNeg := by
  obtain ⟨h1, h2⟩ := rX7_in_ok h
  have p0 : ¬ x < 0 := fun h => h1 (by
    rw [Int32.lt_iff_toInt_lt] at h ⊢
    have e : (Int32.toInt 1) = 1 := by decide
    have e0 : (Int32.toInt 0) = 0 := by decide
    omega)
  exact ⟨z99 h1 h2, znc p0⟩
def lsX7_changes_59 (t : zM) : Nat → Nat → zM → zM
  | 0, _, u => u
  | j2 + 1, i, u => (if 414 ≤ nI i then (zset u (0) 4 ((u (0) 4) + 1)) else (lsX7_changes_59 t j2 (i + 1) (zset u (2) (414 * (u (0) 4).toNatClampNeg + i) (u (1) i))))
def lsX7_changes_18 (t : zM) : Nat → Nat → zM → zM
  | 0, _, w => w
  | j1 + 1, k, w => (if 1242 ≤ nI k then (lsX7_changes_59 t 415 0 (zset w (0) 4 ((w (0) 4) - 1))) else (lsX7_changes_18 t j1 (k + 1) (zset w (2) k (w (2) (k + 414)))))
def sX7_changes (t : zM)  : zM := (if (t (0) 5) = 0 then (if (t (0) 4) = 4 then (lsX7_changes_18 t 1243 0 t) else (lsX7_changes_59 t 415 0 t)) else t)
theorem lsX7_changes_59_o (t : zM) {x : Nat} (h0 : x ≠ 0) (h2 : x ≠ 2) : ∀ (j i : Nat) (u : zM), lsX7_changes_59 t j i u x = u x := by
  intro j
  induction j with
  | zero => intro i u; rfl
  | succ j ih =>
    intro i u
    unfold lsX7_changes_59
    split
    · exact zset_id _ _ _ h0
    · rw [ih]
      exact zset_id _ _ _ h2
theorem lsX7_changes_18_o (t : zM) {x : Nat} (h0 : x ≠ 0) (h2 : x ≠ 2) : ∀ (j i : Nat) (u : zM), lsX7_changes_18 t j i u x = u x := by
  intro j
  induction j with
  | zero => intro i u; rfl
  | succ j ih =>
    intro i u
    unfold lsX7_changes_18
    split
    · rw [lsX7_changes_59_o _ h0 h2]
      exact zset_id _ _ _ h0
    · rw [ih]
      exact zset_id _ _ _ h2
theorem sX7_changes_o (t : zM) {x : Nat} (h0 : x ≠ 0) (h2 : x ≠ 2) : sX7_changes t x = t x := by
  unfold sX7_changes
  split
  · split
    · exact lsX7_changes_18_o t h0 h2 _ _ _
    · exact lsX7_changes_59_o t h0 h2 _ _ _
  · rfl
theorem mS_fr {H N : Nat} {t t1 : zM} (h : mS H N t) (h1 : t1 1 = t 1) (h6 : t1 6 = t 6) : mS H N t1 := by
  unfold mS
  rw [h1, h6]
  exact h
theorem sX7_changes_S {H N : Nat} {t : zM} (h : mS H N t) : mS H N (sX7_changes t) := mS_fr h (sX7_changes_o t (by decide) (by decide)) (sX7_changes_o t (by decide) (by decide))
def rX7_house (t : zM) (a1 : Int32) (a2 : Int32) : Int32 := (if (rX7_isPlace a1 a2) = 0 then (-1000001) else (if (rX7_atPlace t a1 a2) < 0 then (if (t (1) 401) = 24 then (-1000003) else (((t (1) 401) + 1) - 1)) else (-1000002)))
def sX7_house (t : zM) (a1 : Int32) (a2 : Int32) : zM := (if (rX7_isPlace a1 a2) = 0 then t else (if (rX7_atPlace t a1 a2) < 0 then (if (t (1) 401) = 24 then t else (zset (zset (zset (sX7_changes t) (1) (14 * ((t (1) 401).toNatClampNeg) + 0) a1) (1) (14 * ((t (1) 401).toNatClampNeg) + 1) a2) (1) 401 ((t (1) 401) + 1))) else t))
def rX7_flow (t : zM) (a1 : Int32) (a2 : Int32) : Int32 := (if (rX7_isHouse t a1) = 0 then (-1000001) else (if (rX7_in a2 0 999) = 0 then (-1000001) else (t (1) (14 * a1.toNatClampNeg + 5))))
def sX7_flow (t : zM) (a1 : Int32) (a2 : Int32) : zM := (if (rX7_isHouse t a1) = 0 then t else (if (rX7_in a2 0 999) = 0 then t else (zset (sX7_changes t) (1) (14 * a1.toNatClampNeg + 5) a2)))
def rX7_lock (t : zM) (a1 : Int32) (a2 : Int32) : Int32 := (if (rX7_isHouse t a1) = 0 then (-1000001) else (if a2 = 0 then (t (1) (14 * a1.toNatClampNeg + 6)) else (t (1) (14 * a1.toNatClampNeg + 6))))
def sX7_lock (t : zM) (a1 : Int32) (a2 : Int32) : zM := (if (rX7_isHouse t a1) = 0 then t else (if a2 = 0 then (zset (sX7_changes t) (1) (14 * a1.toNatClampNeg + 6) 0) else (zset (sX7_changes t) (1) (14 * a1.toNatClampNeg + 6) 1)))
def rX7_read (t : zM) (a1 : Int32) : Int32 := (if (rX7_isHouse t a1) = 0 then (-1000001) else (if (rX7_barred t a1.toNatClampNeg) ≤ 0 then (rX7_reads (sX7_changes t) a1 a1.toNatClampNeg) else (-1000002)))
def sX7_read (t : zM) (a1 : Int32) : zM := (if (rX7_isHouse t a1) = 0 then t else (if (rX7_barred t a1.toNatClampNeg) ≤ 0 then (sX7_reads (sX7_changes t) a1 a1.toNatClampNeg) else t))
def rX7_change (t : zM) (a1 : Int32) : Int32 := (if (rX7_isHouse t a1) = 0 then (-1000001) else (rX7_reads (sX7_changes t) a1 a1.toNatClampNeg))
def sX7_change (t : zM) (a1 : Int32) : zM := (if (rX7_isHouse t a1) = 0 then t else (zset (zset (zset (sX7_reads (sX7_changes t) a1 a1.toNatClampNeg) (1) (14 * a1.toNatClampNeg + 2) 0) (1) (14 * a1.toNatClampNeg + 3) 0) (1) (14 * a1.toNatClampNeg + 13) (((sX7_reads (sX7_changes t) a1 a1.toNatClampNeg) (1) (14 * a1.toNatClampNeg + 13)) + 1)))
def lX7_pass_4 (t : zM) (M : Nat) (N : Nat) : Nat → Nat → Int32 → zM → Int32
  | 0, _, _, _ => 0
  | j + 1, k, v, u => (if nI M ≤ nI k then v else (lX7_pass_4 t M N j (k + 1) (v + (rX7_day u (N + k))) (sX7_day u (N + k))))
def lsX7_pass_4 (t : zM) (M : Nat) (N : Nat) : Nat → Nat → Int32 → zM → zM
  | 0, _, _, u => u
  | j + 1, k, v, u => (if nI M ≤ nI k then u else (lsX7_pass_4 t M N j (k + 1) (v + (rX7_day u (N + k))) (sX7_day u (N + k))))
def rX7_pass (t : zM) (M : Nat) (N : Nat) : Int32 := (lX7_pass_4 t M N (M + 1) 0 0 t)
def sX7_pass (t : zM) (M : Nat) (N : Nat) : zM := (lsX7_pass_4 t M N (M + 1) 0 0 t)
theorem lsX7_pass_4_S {H : Nat} (t : zM) (M N : Nat) : ∀ (j k : Nat) (v : Int32) (u : zM), M + 1 ≤ k + j → k ≤ M → M ≤ 99 → mS H (N + k) u → mS H (N + M) (lsX7_pass_4 t M N j k v u) := by
  intro j
  induction j with
  | zero => intro k v u h0 hk hM h; omega
  | succ j ih =>
    intro k v u h0 hk hM h
    unfold lsX7_pass_4
    split
    · have : k = M := by have := zle (by omega) (by omega) ‹nI M ≤ nI k›; omega
      rw [← this]; exact h
    · have hk2 : k < M := zge (by omega) (by omega) ‹¬ nI M ≤ nI k›
      exact ih _ _ _ (by omega) (by omega) hM (sX7_day_S h)
theorem sX7_pass_S {H M N : Nat} {t : zM} (hM : M ≤ 99) (h : mS H N t) : mS H (N + M) (sX7_pass t M N) := lsX7_pass_4_S t M N _ _ _ _ (by omega) (Nat.zero_le _) hM h
def rX7_days (t : zM) (a1 : Int32) (N : Nat) : Int32 := (if (rX7_in a1 1 99) = 0 then (-1000001) else (if ((t (1) 400) + a1) ≤ 9999 then (rX7_pass (sX7_changes t) a1.toNatClampNeg N) else (-1000003)))
def sX7_days (t : zM) (a1 : Int32) (N : Nat) : zM := (if (rX7_in a1 1 99) = 0 then t else (if ((t (1) 400) + a1) ≤ 9999 then (sX7_pass (sX7_changes t) a1.toNatClampNeg N) else t))
def rX7_least (a1 : Int32) : Int32 := (if a1 = 0 then 0 else (if a1 = 3 then 5 else 1))
def rX7_most (a1 : Int32) : Int32 := (if a1 = 0 then 12 else (if a1 = 1 then 50 else (if a1 = 2 then 99 else 400)))
def rX7_set (t : zM) (a1 : Int32) (a2 : Int32) : Int32 := (if (rX7_in a1 0 3) = 0 then (-1000001) else (if (rX7_in a2 (rX7_least a1) (rX7_most a1)) = 0 then (-1000001) else (t (1) (410 + a1.toNatClampNeg))))
def sX7_set (t : zM) (a1 : Int32) (a2 : Int32) : zM := (if (rX7_in a1 0 3) = 0 then t else (if (rX7_in a2 (rX7_least a1) (rX7_most a1)) = 0 then t else (zset (sX7_changes t) (1) (410 + a1.toNatClampNeg) a2)))
def rX7_houseOf (t : zM) (a1 : Int32) (a2 : Int32) : Int32 := (if (rX7_isHouse t a1) = 0 then (-1000001) else (if (rX7_in a2 0 13) = 0 then (-1000001) else (if a2 = 3 then (rX7_used t a1.toNatClampNeg) else (if a2 = 4 then (1000 + (t (1) (14 * a1.toNatClampNeg + 4))) else (if a2 = 5 then (t (1) (14 * a1.toNatClampNeg + (a2.toNatClampNeg))) else (if a2 = 6 then (t (1) (14 * a1.toNatClampNeg + (a2.toNatClampNeg))) else (if a2 = 7 then (if (t (1) (14 * a1.toNatClampNeg + 7)) ≤ 0 then (-1000004) else ((t (1) (14 * a1.toNatClampNeg + 7)) - 1)) else (t (1) (14 * a1.toNatClampNeg + (a2.toNatClampNeg))))))))))
def rX7_at (t : zM) (a1 : Int32) (a2 : Int32) : Int32 := (if (rX7_isPlace a1 a2) = 0 then (-1000001) else (rX7_atPlace t a1 a2))
def rX7_next (t : zM) (a1 : Int32) (a2 : Int32) : Int32 := (if (rX7_in a1 0 3) = 0 then (-1000001) else (if 0 ≤ a2 then (if (rX7_rounds t a1.toNatClampNeg) ≤ a2 then (-1000004) else ((sX7_rounds t a1.toNatClampNeg) (6) a2.toNatClampNeg)) else (-1000001)))
def rX7_ledger (t : zM) (a1 : Int32) (a2 : Int32) : Int32 := (if a1 < 0 then (-1000001) else (if (rX7_in a2 0 5) = 0 then (-1000001) else (if (t (1) 409) ≤ a1 then (-1000004) else (t (1) (340 + 6 * a1.toNatClampNeg + a2.toNatClampNeg)))))
def rX7_why (t : zM) (a1 : Int32) : Int32 := (if (rX7_isHouse t a1) = 0 then (-1000001) else (rX7_barred t a1.toNatClampNeg))
def rX7_ifRead (t : zM) (a1 : Int32) (a2 : Int32) : Int32 := (if (rX7_isHouse t a1) = 0 then (-1000001) else (if (rX7_in a2 0 3) = 0 then (-1000001) else (if a2 = 0 then (rX7_unitsOf t a1.toNatClampNeg) else (if a2 = 1 then (1000 + (rX7_balanceThen t a1.toNatClampNeg)) else (if a2 = 2 then (if (rX7_balanceThen t a1.toNatClampNeg) ≤ 0 then (if 0 ≤ (rX7_balanceThen t a1.toNatClampNeg) then 0 else 2) else 1) else ((rX7_unitsOf t a1.toNatClampNeg) * (t (1) 411)))))))
