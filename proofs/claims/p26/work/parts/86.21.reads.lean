def lX7_atPlace_2 (t : zM) (a1 : Int32) (a2 : Int32) : Nat → Nat → Int32
  | 0, _ => 0
  | j + 1, k => (if (t (1) 401) ≤ nI k then (-1000004) else (if (t (1) (14 * k + 0)) = a1 then (if (t (1) (14 * k + 1)) = a2 then nI k else (lX7_atPlace_2 t a1 a2 j (k + 1))) else (lX7_atPlace_2 t a1 a2 j (k + 1))))
def rX7_atPlace (t : zM) (a1 : Int32) (a2 : Int32) : Int32 := (lX7_atPlace_2 t a1 a2 25 0)
def lsX7_enters_4 (t : zM) (a1 : Int32) (a2 : Int32) (a3 : Int32) (a4 : Int32) : Nat → Nat → zM → zM
  | 0, _, u => u
  | j + 1, k, u => (if nI k < 6 then (if (zrem a2 100) = 0 then (if 10 ≤ (u (1) 409) then (zset (zset (zset (zset (zset (zset (zset u (1) 340 (u (1) 400)) (1) 341 a1) (1) 342 a2) (1) 343 a3) (1) 344 2) (1) 345 (1000 + a4)) (1) 409 ((u (1) 409) + 0)) else (zset (zset (zset (zset (zset (zset (zset u (1) 340 (u (1) 400)) (1) 341 a1) (1) 342 a2) (1) 343 a3) (1) 344 2) (1) 345 (1000 + a4)) (1) 409 ((u (1) 409) + 1))) else (if (100 * a3) ≤ a2 then (if 10 ≤ (u (1) 409) then (zset (zset (zset (zset (zset (zset (zset u (1) 340 (u (1) 400)) (1) 341 a1) (1) 342 a2) (1) 343 a3) (1) 344 0) (1) 345 (1000 + a4)) (1) 409 ((u (1) 409) + 0)) else (zset (zset (zset (zset (zset (zset (zset u (1) 340 (u (1) 400)) (1) 341 a1) (1) 342 a2) (1) 343 a3) (1) 344 0) (1) 345 (1000 + a4)) (1) 409 ((u (1) 409) + 1))) else (if 10 ≤ (u (1) 409) then (zset (zset (zset (zset (zset (zset (zset u (1) 340 (u (1) 400)) (1) 341 a1) (1) 342 a2) (1) 343 a3) (1) 344 1) (1) 345 (1000 + a4)) (1) 409 ((u (1) 409) + 0)) else (zset (zset (zset (zset (zset (zset (zset u (1) 340 (u (1) 400)) (1) 341 a1) (1) 342 a2) (1) 343 a3) (1) 344 1) (1) 345 (1000 + a4)) (1) 409 ((u (1) 409) + 1))))) else (lsX7_enters_4 t a1 a2 a3 a4 j (k - 1) (zset u (1) (340 + k) (u (1) (340 + k - 6)))))
def sX7_enters (t : zM) (a1 : Int32) (a2 : Int32) (a3 : Int32) (a4 : Int32) : zM := (lsX7_enters_4 t a1 a2 a3 a4 55 59 t)
theorem lsX7_enters_4_S {H N : Nat} (t : zM) (a1 a2 a3 a4 : Int32) : ∀ (j k : Nat) (u : zM), k ≤ 59 → mS H N u → mS H N (lsX7_enters_4 t a1 a2 a3 a4 j k u) := by
  intro j
  induction j with
  | zero => intro k u hk h; exact h
  | succ j ih =>
    intro k u hk h
    unfold lsX7_enters_4
    repeat' split
    all_goals first
      | exact ih _ _ (by omega) (mS_set1 h (by omega) (by omega) (by omega) (by omega))
      | (repeat (refine mS_set1 ?_ (by decide) (by decide) (by decide) (by decide)))
    all_goals exact h
theorem sX7_enters_S {H N : Nat} {t : zM} {a1 a2 a3 a4 : Int32} (h : mS H N t) : mS H N (sX7_enters t a1 a2 a3 a4) := lsX7_enters_4_S t _ _ _ _ _ _ _ (by decide) h
theorem lsX7_enters_4_o (t : zM) (a1 a2 a3 a4 : Int32) {i : Nat} (hi : i ≠ 1) : ∀ (j k : Nat) (u : zM), lsX7_enters_4 t a1 a2 a3 a4 j k u i = u i := by
  intro j
  induction j with
  | zero => intro k u; rfl
  | succ j ih =>
    intro k u
    unfold lsX7_enters_4
    repeat' split
    all_goals first
      | (rw [ih]; exact zset_id _ _ _ hi)
      | simp only [zset_id _ _ _ hi]
theorem sX7_enters_o (t : zM) (a1 a2 a3 a4 : Int32) {i : Nat} (hi : i ≠ 1) : sX7_enters t a1 a2 a3 a4 i = t i := lsX7_enters_4_o t _ _ _ _ hi _ _ _
def rX7_reads (t : zM) (a1 : Int32) (k : Nat) : Int32 := (if (rX7_balanceThen t k) ≤ 0 then (if 0 ≤ (rX7_balanceThen t k) then (rX7_unitsOf t k) else (rX7_unitsOf t k)) else (if 0 ≤ (rX7_balanceThen t k) then (rX7_unitsOf t k) else (rX7_unitsOf t k)))
def sX7_reads (t : zM) (a1 : Int32) (k : Nat) : zM := (if (rX7_balanceThen t k) ≤ 0 then (if 0 ≤ (rX7_balanceThen t k) then (sX7_enters (zset (zset (zset (zset (zset (zset (zset (zset (zset (zset (zset t (1) (14 * k + 4) (rX7_balanceThen t k)) (1) (14 * k + 3) (t (1) (14 * k + 2))) (1) (14 * k + 7) ((t (1) 400) + 1)) (1) (14 * k + 8) ((t (1) (14 * k + 8)) + 1)) (1) (14 * k + 9) ((t (1) (14 * k + 9)) + (rX7_unitsOf t k))) (1) (14 * k + 10) ((t (1) (14 * k + 10)) + 0)) (1) (14 * k + 11) ((t (1) (14 * k + 11)) + 0)) (1) 402 ((t (1) 402) + 1)) (1) 403 ((t (1) 403) + (rX7_unitsOf t k))) (1) 404 ((t (1) 404) + ((rX7_unitsOf t k) * (t (1) 411)))) (1) 405 ((t (1) 405) + (rX7_used t k))) a1 (rX7_used t k) (rX7_unitsOf t k) (rX7_balanceThen t k)) else (sX7_enters (zset (zset (zset (zset (zset (zset (zset (zset (zset (zset (zset t (1) (14 * k + 4) (rX7_balanceThen t k)) (1) (14 * k + 3) (t (1) (14 * k + 2))) (1) (14 * k + 7) ((t (1) 400) + 1)) (1) (14 * k + 8) ((t (1) (14 * k + 8)) + 1)) (1) (14 * k + 9) ((t (1) (14 * k + 9)) + (rX7_unitsOf t k))) (1) (14 * k + 10) ((t (1) (14 * k + 10)) + 0)) (1) (14 * k + 11) ((t (1) (14 * k + 11)) + 1)) (1) 402 ((t (1) 402) + 1)) (1) 403 ((t (1) 403) + (rX7_unitsOf t k))) (1) 404 ((t (1) 404) + ((rX7_unitsOf t k) * (t (1) 411)))) (1) 405 ((t (1) 405) + (rX7_used t k))) a1 (rX7_used t k) (rX7_unitsOf t k) (rX7_balanceThen t k))) else (if 0 ≤ (rX7_balanceThen t k) then (sX7_enters (zset (zset (zset (zset (zset (zset (zset (zset (zset (zset (zset t (1) (14 * k + 4) (rX7_balanceThen t k)) (1) (14 * k + 3) (t (1) (14 * k + 2))) (1) (14 * k + 7) ((t (1) 400) + 1)) (1) (14 * k + 8) ((t (1) (14 * k + 8)) + 1)) (1) (14 * k + 9) ((t (1) (14 * k + 9)) + (rX7_unitsOf t k))) (1) (14 * k + 10) ((t (1) (14 * k + 10)) + 1)) (1) (14 * k + 11) ((t (1) (14 * k + 11)) + 0)) (1) 402 ((t (1) 402) + 1)) (1) 403 ((t (1) 403) + (rX7_unitsOf t k))) (1) 404 ((t (1) 404) + ((rX7_unitsOf t k) * (t (1) 411)))) (1) 405 ((t (1) 405) + (rX7_used t k))) a1 (rX7_used t k) (rX7_unitsOf t k) (rX7_balanceThen t k)) else (sX7_enters (zset (zset (zset (zset (zset (zset (zset (zset (zset (zset (zset t (1) (14 * k + 4) (rX7_balanceThen t k)) (1) (14 * k + 3) (t (1) (14 * k + 2))) (1) (14 * k + 7) ((t (1) 400) + 1)) (1) (14 * k + 8) ((t (1) (14 * k + 8)) + 1)) (1) (14 * k + 9) ((t (1) (14 * k + 9)) + (rX7_unitsOf t k))) (1) (14 * k + 10) ((t (1) (14 * k + 10)) + 1)) (1) (14 * k + 11) ((t (1) (14 * k + 11)) + 1)) (1) 402 ((t (1) 402) + 1)) (1) 403 ((t (1) 403) + (rX7_unitsOf t k))) (1) 404 ((t (1) 404) + ((rX7_unitsOf t k) * (t (1) 411)))) (1) 405 ((t (1) 405) + (rX7_used t k))) a1 (rX7_used t k) (rX7_unitsOf t k) (rX7_balanceThen t k))))
theorem sX7_reads_S {H N : Nat} {t : zM} {a1 : Int32} {k : Nat} (hk : k < 24) (h : mS H N t) : mS H N (sX7_reads t a1 k) := by
  unfold sX7_reads
  repeat' split
  all_goals
    refine sX7_enters_S ?_
    repeat (refine mS_set1 ?_ (by omega) (by omega) (by omega) (by omega))
    exact h
theorem sX7_reads_o (t : zM) (a1 : Int32) (k : Nat) {i : Nat} (hi : i ≠ 1) : sX7_reads t a1 k i = t i := by
  unfold sX7_reads
  repeat' split
  all_goals simp only [sX7_enters_o _ _ _ _ _ hi, zset_id _ _ _ hi]
def lX7_rankOf_23 (t : zM) (k : Nat) (a2 : Int32) (a3 : Int32) : Nat → Nat → Int32 → Int32
  | 0, _, _ => 0
  | j + 1, i, v => (if (t (1) 401) ≤ nI i then v else (if (t (1) (14 * i + 0)) = a2 then (if (zrem (((rX7_turn t k) - a3) + 199) 200) ≤ (zrem (((rX7_turn t i) - a3) + 199) 200) then (lX7_rankOf_23 t k a2 a3 j (i + 1) (v + 0)) else (lX7_rankOf_23 t k a2 a3 j (i + 1) (v + 1))) else (lX7_rankOf_23 t k a2 a3 j (i + 1) (v + 0))))
def rX7_rankOf (t : zM) (k : Nat) (a2 : Int32) (a3 : Int32) : Int32 := (lX7_rankOf_23 t k a2 a3 25 0 0)
