/-! sums in two ways -/
theorem lSu_fr {t S : zM} (n : Nat) (h : ∀ i, i < n → S 272 (4 * i + 0) = t 272 (4 * i + 0)) : lSu S n = lSu t n := by
  induction n with
  | zero => rfl
  | succ n ih =>
    show lSu S n + S 272 (4 * n + 0) = lSu t n + t 272 (4 * n + 0)
    rw [ih (fun i hi => h i (by omega)), h n (by omega)]
theorem i3c (a b c : Int32) : a + b + c = a + c + b := by rw [Int32.add_assoc, Int32.add_comm b c, ← Int32.add_assoc]
theorem lSu_put {t S : zM} {k : Nat} (d : Int32) (hS : S 272 (4 * k + 0) = t 272 (4 * k + 0) + d) : ∀ n, k < n → (∀ i, i < n → i ≠ k → S 272 (4 * i + 0) = t 272 (4 * i + 0)) → lSu S n = lSu t n + d := by
  intro n
  induction n with
  | zero => intro hk; omega
  | succ n ih =>
    intro hk ho
    show lSu S n + S 272 (4 * n + 0) = lSu t n + t 272 (4 * n + 0) + d
    by_cases e : k = n
    · subst e
      rw [lSu_fr k (fun i hi => ho i (by omega) (by omega)), hS, Int32.add_assoc]
    · rw [ih (by omega) (fun i hi => ho i (by omega)), ho n (by omega) (fun q => e q.symm), i3c]
def lI (H : Nat) (t : zM) : Prop := lSu t H = 10000 + 100 * t 277 3 - t 277 5 - 100 * t 277 6
theorem lI.fr {H : Nat} {t S : zM} (h : lI H t) (e : ∀ i, i < H → S 272 (4 * i + 0) = t 272 (4 * i + 0)) (e3 : S 277 3 = t 277 3) (e5 : S 277 5 = t 277 5) (e6 : S 277 6 = t 277 6) : lI H S := by
  unfold lI
  rw [lSu_fr H e, e3, e5, e6]
  exact h
theorem lI_r (a x y z U V : Int32) (h : a = 10000 + 100 * x - y - 100 * z) : a + (100 * V - U) = 10000 + 100 * (x + V) - (y + U) - 100 * z := by
  subst h
  grind
theorem lI_f (a x y z : Int32) (h : a = 10000 + 100 * x - y - 100 * z) : a + (-100) = 10000 + 100 * x - y - 100 * (z + 1) := by
  subst h
  grind
theorem sL_read_I {H k : Nat} {t : zM} (h : lI H t) (hk : k < H) : lI H (sL_read t k) := by
  obtain ⟨w, ⟨-, -, s3⟩, es⟩ := sL_read_e t k _ _ _ _ _ rfl rfl rfl rfl rfl
  rw [es]
  generalize hB : t 272 (4 * k + 0) + (100 * rL_units t k - rL_used t k) = B2 at *
  have f2 : ∀ i, lLay w (t 277 0) (nI k) (rL_used t k) (rL_units t k) (lCd t k) (B2 + 1000) 272 (4 * i + 0) = if i = k then B2 else t 272 (4 * i + 0) := fun i => by
    unfold lLay
    rw [zset_idk _ _ _ _ (by decide), zset_idk _ _ _ _ (by decide), zset_idk _ _ _ _ (by decide), zset_idk _ _ _ _ (by decide), zset_idk _ _ _ _ (by decide), zset_idk _ _ _ _ (by decide), s3 272 (by decide)]
    unfold lSet
    simp only [zset_id _ _ _ (show (272 : Nat) ≠ 271 by decide), zset_id _ _ _ (show (272 : Nat) ≠ 277 by decide), zset_id _ _ _ (show (272 : Nat) ≠ 273 by decide)]
    rw [zset_nk _ _ _ (by omega), zset_idk _ _ _ _ (by decide)]
    by_cases e : i = k
    · subst e
      rw [zset_eq, if_pos rfl]
    · rw [zset_nk _ _ _ (by omega), if_neg e]
  have f7 : ∀ y, lLay w (t 277 0) (nI k) (rL_used t k) (rL_units t k) (lCd t k) (B2 + 1000) 277 y = w 277 y := fun y => by
    unfold lLay
    rw [zset_idk _ _ _ _ (by decide), zset_idk _ _ _ _ (by decide), zset_idk _ _ _ _ (by decide), zset_idk _ _ _ _ (by decide), zset_idk _ _ _ _ (by decide), zset_idk _ _ _ _ (by decide)]
  have e3 : w 277 3 = t 277 3 + rL_units t k := by
    rw [s3 277 (by decide), zset_nk _ _ _ (by decide)]
    unfold lSet
    rw [zset_nk _ _ _ (by decide), zset_nk _ _ _ (by decide), zset_eq]
  have e5 : w 277 5 = t 277 5 + rL_used t k := by
    rw [s3 277 (by decide), zset_nk _ _ _ (by decide)]
    unfold lSet
    rw [zset_eq]
  have e6 : w 277 6 = t 277 6 := by
    rw [s3 277 (by decide), zset_nk _ _ _ (by decide)]
    unfold lSet
    rw [zset_nk _ _ _ (by decide), zset_nk _ _ _ (by decide), zset_nk _ _ _ (by decide), zset_nk _ _ _ (by decide)]
    simp only [zset_id _ _ _ (show (277 : Nat) ≠ 271 by decide), zset_id _ _ _ (show (277 : Nat) ≠ 272 by decide), zset_id _ _ _ (show (277 : Nat) ≠ 273 by decide)]
  unfold lI
  rw [f7, f7, f7, e3, e5, e6]
  rw [lSu_put (t := t) (k := k) (100 * rL_units t k - rL_used t k) (by rw [f2, if_pos rfl, hB]) H hk (fun i hi hne => by rw [f2, if_neg hne])]
  exact lI_r _ _ _ _ _ _ h
