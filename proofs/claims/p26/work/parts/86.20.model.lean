section ZMO
variable {cy : Nat → ClassId} {K : zK} {n : Nat} {ad : Nat → Nat}
end ZMO
/-- what the walks of the reference need of its numbers -/
def mS (H N : Nat) (t : zM) : Prop := H ≤ 24 ∧ t 1 401 = nI H ∧ t 1 400 = nI N ∧ (∀ q, q < 4 → ∃ w, w ≤ 24 ∧ t 1 (336 + q) = nI w) ∧ (∀ k, k < 24 → ∃ w, w < 24 ∧ t 6 k = nI w) ∧ ¬ t 1 413 = 0
theorem mS.lt {H N k : Nat} {t : zM} (h : mS H N t) (hk : k ≤ 24) (c : ¬ t 1 401 ≤ nI k) : k < H := by
  rw [h.2.1] at c
  have := h.1
  exact zge (by omega) (by omega) c
theorem mS.rnd {H N k : Nat} {t : zM} (h : mS H N t) (hk : k < 24) : (t 6 k).toNatClampNeg < 24 ∧ t 6 k = nI (t 6 k).toNatClampNeg := by
  obtain ⟨w, hw, e⟩ := h.2.2.2.2.1 k hk
  rw [e, nI_clamp (by omega)]
  exact ⟨hw, rfl⟩
/-- puts that leave them alone -/
theorem mS_set1 {H N i : Nat} {t : zM} {v : Int32} (h : mS H N t) (h1 : i ≠ 401) (h2 : i ≠ 400) (h3 : i < 336 ∨ 340 ≤ i) (h4 : i ≠ 413) : mS H N (zset t 1 i v) := by
  obtain ⟨a0, a1, a2, a3, a4, a5⟩ := h
  refine ⟨a0, ?_, ?_, fun q hq => ?_, fun k hk => ?_, ?_⟩
  · rw [zset_nk _ _ _ (Ne.symm h1)]; exact a1
  · rw [zset_nk _ _ _ (Ne.symm h2)]; exact a2
  · rw [zset_nk _ _ _ (by omega)]; exact a3 q hq
  · rw [zset_idk _ _ _ _ (by decide)]; exact a4 k hk
  · rw [zset_nk _ _ _ (Ne.symm h4)]; exact a5
theorem mS_setW {H N q w : Nat} {t : zM} {v : Int32} (h : mS H N t) (hq : q < 4) (hv : v = nI w) (hw : w ≤ 24) : mS H N (zset t 1 (336 + q) v) := by
  obtain ⟨a0, a1, a2, a3, a4, a5⟩ := h
  refine ⟨a0, ?_, ?_, fun q2 hq2 => ?_, fun k hk => ?_, ?_⟩
  · rw [zset_nk _ _ _ (by omega)]; exact a1
  · rw [zset_nk _ _ _ (by omega)]; exact a2
  · by_cases e : q2 = q
    · subst e; rw [zset_eq]; exact ⟨w, hw, hv⟩
    · rw [zset_nk _ _ _ (by omega)]; exact a3 q2 hq2
  · rw [zset_idk _ _ _ _ (by decide)]; exact a4 k hk
  · rw [zset_nk _ _ _ (by omega)]; exact a5
theorem mS_setR {H N i w : Nat} {t : zM} {v : Int32} (h : mS H N t) (hv : v = nI w) (hw : w < 24) : mS H N (zset t 6 i v) := by
  obtain ⟨a0, a1, a2, a3, a4, a5⟩ := h
  refine ⟨a0, ?_, ?_, fun q2 hq2 => ?_, fun k hk => ?_, ?_⟩
  · rw [zset_idk _ _ _ _ (by decide)]; exact a1
  · rw [zset_idk _ _ _ _ (by decide)]; exact a2
  · rw [zset_idk _ _ _ _ (by decide)]; exact a3 q2 hq2
  · by_cases e : k = i
    · subst e; rw [zset_eq]; exact ⟨w, hw, hv⟩
    · rw [zset_nk _ _ _ e]; exact a4 k hk
  · rw [zset_idk _ _ _ _ (by decide)]; exact a5
theorem mS_now {H N : Nat} {t : zM} (h : mS H N t) : mS H (N + 1) (zset t 1 400 (t 1 400 + 1)) := by
  obtain ⟨a0, a1, a2, a3, a4, a5⟩ := h
  refine ⟨a0, ?_, ?_, fun q hq => ?_, fun k hk => ?_, ?_⟩
  · rw [zset_nk _ _ _ (by decide)]; exact a1
  · rw [zset_eq, a2]; exact nI_1 N
  · rw [zset_nk _ _ _ (by omega)]; exact a3 q hq
  · rw [zset_idk _ _ _ _ (by decide)]; exact a4 k hk
  · rw [zset_nk _ _ _ (by decide)]; exact a5
def rX7_in (a1 : Int32) (a2 : Int32) (a3 : Int32) : Int32 := (if a1 < a2 then 0 else (if a3 < a1 then 0 else 1))
def rX7_isHouse (t : zM) (a1 : Int32) : Int32 := (rX7_in a1 0 ((t (1) 401) - 1))
def rX7_isPlace (a1 : Int32) (a2 : Int32) : Int32 := (if (rX7_in a1 0 3) = 0 then 0 else (if (rX7_in a2 1 20) = 0 then 0 else 1))
def rX7_used (t : zM) (k : Nat) : Int32 := (zrem (((t (1) (14 * k + 2)) - (t (1) (14 * k + 3))) + 100000) 100000)
def rX7_unitsOf (t : zM) (k : Nat) : Int32 := (if (t (1) (14 * k + 4)) ≤ 0 then (if 0 ≤ (t (1) (14 * k + 4)) then (((rX7_used t k) + 50) / 100) else (((rX7_used t k) + 99) / 100)) else (((rX7_used t k) + 0) / 100))
def rX7_balanceThen (t : zM) (k : Nat) : Int32 := (((t (1) (14 * k + 4)) + (100 * (rX7_unitsOf t k))) - (rX7_used t k))
def rX7_barred (t : zM) (k : Nat) : Int32 := (if (t (1) (14 * k + 6)) = 1 then 1 else (if (t (1) (14 * k + 7)) = ((t (1) 400) + 1) then 2 else 0))
def rX7_turn (t : zM) (k : Nat) : Int32 := (if (zrem (t (1) (14 * k + 1)) 2) = 1 then (t (1) (14 * k + 1)) else (100 - (t (1) (14 * k + 1))))
