/-! sums in two ways -/
theorem lSu_fr {t S : zM} (n : Nat) (h : ∀ i, i < n → S 272 (4 * i + 0) = t 272 (4 * i + 0)) : lSu S n = lSu t n := by
  induction n with
  | zero => rfl
  | succ n ih =>
    show lSu S n + S 272 (4 * n + 0) = lSu t n + t 272 (4 * n + 0)
    rw [ih (fun i hi => h i (by omega)), h n (by omega)]
theorem i3c (a b c : Int32) : a + b + c = a + c + b := by rw [Int32.add_assoc, Int32.add_comm b c, ← Int32.add_assoc]
theorem lSu_put {t S : zM} {k : Nat} (d : Int32) (hS : S 272 (4 * k + 0) = t 272 (4 * k + 0) + d) : ∀ n, k < n → (∀ i, i < n → i ≠ k → S 272 (4 * i + 0) = t 272 (4 * i + 0)) → lSu S n = lSu t n + d := by
  intro n
  induction n with
  | zero => intro hk; omega
  | succ n ih =>
    intro hk ho
    show lSu S n + S 272 (4 * n + 0) = lSu t n + t 272 (4 * n + 0) + d
    by_cases e : k = n
    · subst e
      rw [lSu_fr k (fun i hi => ho i (by omega) (by omega)), hS, Int32.add_assoc]
    · rw [ih (by omega) (fun i hi => ho i (by omega)), ho n (by omega) (fun q => e q.symm), i3c]
def lI (H : Nat) (t : zM) : Prop := lSu t H = 10000 + 100 * t 277 3 - t 277 5 - 100 * t 277 6
theorem lI.fr {H : Nat} {t S : zM} (h : lI H t) (e : ∀ i, i < H → S 272 (4 * i + 0) = t 272 (4 * i + 0)) (e3 : S 277 3 = t 277 3) (e5 : S 277 5 = t 277 5) (e6 : S 277 6 = t 277 6) : lI H S := by
  unfold lI
  rw [lSu_fr H e, e3, e5, e6]
  exact h
theorem lI_r (a x y z U V : Int32) (h : a = 10000 + 100 * x - y - 100 * z) : a + (100 * V - U) = 10000 + 100 * (x + V) - (y + U) - 100 * z := by
  subst h
  grind
theorem lI_f (a x y z : Int32) (h : a = 10000 + 100 * x - y - 100 * z) : a + (-100) = 10000 + 100 * x - y - 100 * (z + 1) := by
  subst h
  grind
