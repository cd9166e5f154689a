/-- what is laid behind the shift -/
def mLay (w : zM) (a1 a2 a3 c x : Int32) (v : Int32) : zM := zset (zset (zset (zset (zset (zset (zset w 1 340 (w 1 400)) 1 341 a1) 1 342 a2) 1 343 a3) 1 344 c) 1 345 x) 1 409 v
def mCode (a2 a3 : Int32) : Int32 := if zrem a2 100 = 0 then 2 else if 100 * a3 ≤ a2 then 0 else 1
/-- all entries one place on -/
def mSh (k : Nat) (u w : zM) : Prop := (∀ x, k < x → x < 60 → 6 ≤ x → w 1 (340 + x) = u 1 (340 + x - 6)) ∧ (∀ x, x ≤ k ∨ x < 6 → w 1 (340 + x) = u 1 (340 + x)) ∧ (∀ x, x < 340 ∨ 400 ≤ x → w 1 x = u 1 x) ∧ ∀ i, i ≠ 1 → w i = u i
theorem enters_4 (t u : zM) (a1 a2 a3 a4 : Int32) : ∀ (j k : Nat) (w : zM), k < 60 → 5 ≤ k → k < j + 5 → mSh k u w → ∃ w2, mSh 5 u w2 ∧ lsX7_enters_4 t a1 a2 a3 a4 j k w = mLay w2 a1 a2 a3 (mCode a2 a3) (1000 + a4) ((u 1 409) + (if 10 ≤ u 1 409 then 0 else 1)) := by
  intro j
  induction j with
  | zero => intro k w h0 h5 hj h; omega
  | succ j ih =>
    intro k w h0 h5 hj h
    unfold lsX7_enters_4
    by_cases c : nI k < 6
    · have hk : k = 5 := by have := zlt (b := 6) (by omega) (by decide) c; omega
      subst hk
      have e9 : w 1 409 = u 1 409 := h.2.2.1 409 (by omega)
      refine ⟨w, h, ?_⟩
      rw [if_pos c, e9]
      unfold mLay mCode
      repeat' split
      all_goals rfl
    · have hk : 6 ≤ k := by
        rcases Nat.lt_or_ge k 6 with q | q
        · exact absurd ((nI_ltI (b := 6) (by omega) (by decide)).mpr q) c
        · exact q
      rw [if_neg c]
      refine ih (k - 1) _ (by omega) (by omega) (by omega) ⟨fun x h1 h2 h3 => ?_, fun x hx => ?_, fun x hx => ?_, fun i hi => ?_⟩
      · by_cases e : x = k
        · subst e
          rw [zset_eq]
          have := h.2.1 (x - 6) (by omega)
          rw [show 340 + (x - 6) = 340 + x - 6 by omega] at this
          exact this
        · rw [zset_nk _ _ _ (by omega)]
          exact h.1 x (by omega) h2 h3
      · rw [zset_nk _ _ _ (by omega)]
        exact h.2.1 x (by omega)
      · rw [zset_nk _ _ _ (by omega)]
        exact h.2.2.1 x hx
      · rw [zset_id _ _ _ hi]
        exact h.2.2.2 i hi
theorem enters_e (u : zM) (a1 a2 a3 a4 : Int32) : ∃ w, mSh 5 u w ∧ sX7_enters u a1 a2 a3 a4 = mLay w a1 a2 a3 (mCode a2 a3) (1000 + a4) ((u 1 409) + (if 10 ≤ u 1 409 then 0 else 1)) := by
  unfold sX7_enters
  exact enters_4 u u a1 a2 a3 a4 55 59 u (by decide) (by decide) (by decide) ⟨fun x h1 h2 => absurd h2 (by omega), fun _ _ => rfl, fun _ _ => rfl, fun _ _ => rfl⟩
/-- what the class lays -/
def cLay (b : Nat) (t : zM) (w : Nat) (a1 a2 a3 a4 c x r z : Int32) : zM := zset (zset (zset (zset (zset (zset (zset (zset t (b + 1) (w * 6) a1) (b + 1) (w * 6 + 1) a2) (b + 1) (w * 6 + 2) a3) (b + 1) (w * 6 + 3) a4) (b + 1) (w * 6 + 4) c) (b + 1) (w * 6 + 5) x) b 1 r) b 2 z
def cCode (a3 a4 : Int32) : Int32 := if a3 ≤ 100 * a4 then (if 100 * a4 ≤ a3 then 2 else 1) else 0
theorem add_e {b w : Nat} {t : zM} (a1 a2 a3 a4 a5 : Int32) (hw : w < 10) (h1 : t b 1 = nI w) : sX2_add b t w a1 a2 a3 a4 a5 = cLay b t w a1 a2 a3 a4 (cCode a3 a4) (1000 + a5) (zrem ((t b 1) + 1) 10) (if 10 ≤ t b 2 then t b 2 else (t b 2) + 1) := by
  have zs : ∀ T : zM, T b 2 = t b 2 → T = zset T b 2 (t b 2) := fun T e => by
    rw [← e]
    funext x y
    by_cases ex : x = b
    · subst ex
      by_cases ey : y = 2
      · subst ey; rw [zset_eq]
      · rw [zset_nk _ _ _ ey]
    · rw [zset_idk _ _ _ _ ex]
  unfold sX2_add
  rw [h1, if_neg (nI_pos (by omega)), if_pos (show nI w < 10 from (nI_ltI (b := 10) (by omega) (by decide)).mpr hw)]
  unfold cLay cCode
  by_cases c0 : 10 ≤ t b 2
  · by_cases c1 : a3 ≤ 100 * a4
    · by_cases c2 : 100 * a4 ≤ a3
      · simp only [if_pos c0, if_pos c1, if_pos c2]
        refine zs _ ?_
        rw [zset_nk _ _ _ (by decide), zset_idk _ _ _ _ (by omega), zset_idk _ _ _ _ (by omega), zset_idk _ _ _ _ (by omega), zset_idk _ _ _ _ (by omega), zset_idk _ _ _ _ (by omega), zset_idk _ _ _ _ (by omega)]
      · simp only [if_pos c0, if_pos c1, if_neg c2]
        refine zs _ ?_
        rw [zset_nk _ _ _ (by decide), zset_idk _ _ _ _ (by omega), zset_idk _ _ _ _ (by omega), zset_idk _ _ _ _ (by omega), zset_idk _ _ _ _ (by omega), zset_idk _ _ _ _ (by omega), zset_idk _ _ _ _ (by omega)]
    · simp only [if_pos c0, if_neg c1]
      refine zs _ ?_
      rw [zset_nk _ _ _ (by decide), zset_idk _ _ _ _ (by omega), zset_idk _ _ _ _ (by omega), zset_idk _ _ _ _ (by omega), zset_idk _ _ _ _ (by omega), zset_idk _ _ _ _ (by omega), zset_idk _ _ _ _ (by omega)]
  · by_cases c1 : a3 ≤ 100 * a4
    · by_cases c2 : 100 * a4 ≤ a3
      · simp only [if_neg c0, if_pos c1, if_pos c2]
      · simp only [if_neg c0, if_pos c1, if_neg c2]
    · simp only [if_neg c0, if_neg c1]
theorem code_eq {U : Nat} {B : Int} (hU : U < 100000) : cCode (nI U) (nI (unitsN U B)) = mCode (nI U) (nI (unitsN U B)) := by
  have hV := unitsN_le (B := B) hU
  have e100 : (100 : Int32) * nI (unitsN U B) = nI (100 * unitsN U B) := nI_mul 100 _
  have em : zrem (nI U) 100 = nI (U % 100) := zrem_n (b := 100) (by omega) (by decide) (by decide)
  have key : U % 100 = 0 ↔ 100 * unitsN U B = U := by
    unfold unitsN
    repeat' split
    all_goals omega
  unfold cCode mCode
  rw [e100, em]
  have z0 : nI (U % 100) = 0 ↔ U % 100 = 0 := ⟨fun h => nI_inj (b := 0) (by omega) (by decide) h, fun h => by rw [h]; rfl⟩
  by_cases c1 : U % 100 = 0
  · have := key.mp c1
    rw [this, if_pos (Int32.le_refl _), if_pos (Int32.le_refl _), if_pos (z0.mpr c1)]
  · have hn : 100 * unitsN U B ≠ U := fun e => c1 (key.mpr e)
    rw [if_neg (fun q => c1 (z0.mp q))]
    by_cases c2 : U ≤ 100 * unitsN U B
    · rw [if_pos ((nI_leI (by omega) (by omega)).mpr c2), if_neg (fun q => absurd (zle (by omega) (by omega) q) (by omega)), if_neg (fun q => absurd (zle (by omega) (by omega) q) (by omega))]
    · rw [if_neg (fun q => c2 (zle (by omega) (by omega) q)), if_pos ((nI_leI (by omega) (by omega)).mpr (by omega))]
theorem zLe.fr {b : Nat} {t t1 u u1 : zM} (h : zLe b t u) (h1 : t1 (b + 35) = t (b + 35)) (h2 : t1 (b + 36) = t (b + 36)) (h3 : ∀ x, (340 ≤ x ∧ x < 400) ∨ x = 409 → u1 1 x = u 1 x) : zLe b t1 u1 := by
  obtain ⟨w, E, l1, l2, l3, l4, l5, l6⟩ := h
  refine ⟨w, E, l1, l2, by rw [h1]; exact l3, by rw [h1]; exact l4, by rw [h3 _ (by omega)]; exact l5, fun a ha f hf => ?_⟩
  rw [h2, h3 _ (by omega)]
  exact l6 a ha f hf
/-- both enter the same -/
theorem zLe.read {b : Nat} {t u : zM} (h : zLe b t u) {a1 a2 a3 a4 a5 : Int32} (h1 : u 1 400 = a1) (hc : cCode a3 a4 = mCode a3 a4) : zLe b (sX2_add (b + 35) t (t (b + 35) 1).toNatClampNeg a1 a2 a3 a4 a5) (sX7_enters u a2 a3 a4 a5) := by
  obtain ⟨w, E, l1, l2, l3, l4, l5, l6⟩ := h
  obtain ⟨v, ⟨m1, m2, m3, m4⟩, me⟩ := enters_e u a2 a3 a4 a5
  rw [me, l3, nI_clamp (by omega), add_e a1 a2 a3 a4 a5 l1 l3]
  have ez : (if 10 ≤ t (b + 35) 2 then t (b + 35) 2 else t (b + 35) 2 + 1) = nI (min (E + 1) 10) := by
    rw [l4]
    by_cases c : 10 ≤ E
    · rw [if_pos (show (10 : Int32) ≤ nI E from (nI_leI (a := 10) (by decide) (by omega)).mpr c), Nat.min_eq_right (by omega)]
      exact congrArg nI (by omega)
    · rw [if_neg (show ¬ (10 : Int32) ≤ nI E from fun q => c (zle (a := 10) (by decide) (by omega) q)), nI_1, Nat.min_eq_left (by omega)]
  have eu : (u 1 409) + (if 10 ≤ u 1 409 then (0 : Int32) else 1) = nI (min (E + 1) 10) := by
    rw [l5]
    by_cases c : 10 ≤ E
    · rw [if_pos (show (10 : Int32) ≤ nI E from (nI_leI (a := 10) (by decide) (by omega)).mpr c), Nat.min_eq_right (by omega), Int32.add_zero]
      exact congrArg nI (by omega)
    · rw [if_neg (show ¬ (10 : Int32) ≤ nI E from fun q => c (zle (a := 10) (by decide) (by omega) q)), nI_1, Nat.min_eq_left (by omega)]
  have er : zrem (t (b + 35) 1 + 1) 10 = nI ((w + 1) % 10) := by
    rw [l3, nI_1]
    exact zrem_n (b := 10) (by omega) (by decide) (by decide)
  refine ⟨(w + 1) % 10, min (E + 1) 10, by omega, by omega, ?_, ?_, ?_, fun a ha f hf => ?_⟩
  · unfold cLay
    rw [zset_nk _ _ _ (by decide), zset_eq, er]
  · unfold cLay
    rw [zset_eq, ez]
  · unfold mLay
    rw [zset_eq, eu]
  · by_cases ea : a = 0
    · subst ea
      have hr : ((w + 1) % 10 + 9 - 0) % 10 = w := by omega
      rw [hr]
      unfold cLay mLay
      rw [zset_nk _ _ _ (show 340 + 6 * 0 + f ≠ 409 by omega), zset_idk _ _ _ _ (show b + 36 ≠ b + 35 by omega), zset_idk _ _ _ _ (show b + 36 ≠ b + 35 by omega)]
      have e36 : b + 35 + 1 = b + 36 := rfl
      rw [e36]
      rcases (show f = 0 ∨ f = 1 ∨ f = 2 ∨ f = 3 ∨ f = 4 ∨ f = 5 by omega) with rfl | rfl | rfl | rfl | rfl | rfl
      · simp only [Nat.mul_zero, Nat.add_zero]
        rw [zset_nk _ _ _ (by decide), zset_nk _ _ _ (by decide), zset_nk _ _ _ (by decide), zset_nk _ _ _ (by decide), zset_nk _ _ _ (by decide), zset_eq, zset_nk _ _ _ (by omega), zset_nk _ _ _ (by omega), zset_nk _ _ _ (by omega), zset_nk _ _ _ (by omega), zset_nk _ _ _ (by omega), zset_eq, m3 400 (by omega), h1]
      · simp only [Nat.mul_zero, Nat.add_zero]
        rw [zset_nk _ _ _ (by decide), zset_nk _ _ _ (by decide), zset_nk _ _ _ (by decide), zset_nk _ _ _ (by decide), zset_eq, zset_nk _ _ _ (by omega), zset_nk _ _ _ (by omega), zset_nk _ _ _ (by omega), zset_nk _ _ _ (by omega), zset_eq]
      · simp only [Nat.mul_zero, Nat.add_zero]
        rw [zset_nk _ _ _ (by decide), zset_nk _ _ _ (by decide), zset_nk _ _ _ (by decide), zset_eq, zset_nk _ _ _ (by omega), zset_nk _ _ _ (by omega), zset_nk _ _ _ (by omega), zset_eq]
      · simp only [Nat.mul_zero, Nat.add_zero]
        rw [zset_nk _ _ _ (by decide), zset_nk _ _ _ (by decide), zset_eq, zset_nk _ _ _ (by omega), zset_nk _ _ _ (by omega), zset_eq]
      · simp only [Nat.mul_zero, Nat.add_zero]
        rw [zset_nk _ _ _ (by decide), zset_eq, zset_nk _ _ _ (by omega), zset_eq, hc]
      · simp only [Nat.mul_zero, Nat.add_zero]
        rw [zset_eq, zset_eq]
    · have hr : ((w + 1) % 10 + 9 - a) % 10 = (w + 9 - (a - 1)) % 10 := by omega
      have hne : (w + 9 - (a - 1)) % 10 ≠ w := by omega
      rw [hr]
      unfold cLay mLay
      rw [zset_nk _ _ _ (by omega), zset_nk _ _ _ (by omega), zset_nk _ _ _ (by omega), zset_nk _ _ _ (by omega), zset_nk _ _ _ (by omega), zset_nk _ _ _ (by omega), zset_nk _ _ _ (by omega)]
      rw [zset_idk _ _ _ _ (show b + 36 ≠ b + 35 by omega), zset_idk _ _ _ _ (show b + 36 ≠ b + 35 by omega)]
      have e36 : b + 35 + 1 = b + 36 := rfl
      rw [e36, zset_nk _ _ _ (by omega), zset_nk _ _ _ (by omega), zset_nk _ _ _ (by omega), zset_nk _ _ _ (by omega), zset_nk _ _ _ (by omega), zset_nk _ _ _ (by omega)]
      have := m1 (6 * a + f) (by omega) (by omega) (by omega)
      rw [show 340 + 6 * a + f = 340 + (6 * a + f) by omega, this, show 340 + (6 * a + f) - 6 = 340 + 6 * (a - 1) + f by omega]
      exact l6 (a - 1) (by omega) f hf
/-- an entry leaves the rest of the reference alone -/
theorem enters_o (u : zM) (a1 a2 a3 a4 : Int32) {x : Nat} (h : x < 340 ∨ (400 ≤ x ∧ x ≠ 409)) : sX7_enters u a1 a2 a3 a4 1 x = u 1 x := by
  obtain ⟨v, ⟨m1, m2, m3, m4⟩, me⟩ := enters_e u a1 a2 a3 a4
  rw [me]
  unfold mLay
  rw [zset_nk _ _ _ (by omega), zset_nk _ _ _ (by omega), zset_nk _ _ _ (by omega), zset_nk _ _ _ (by omega), zset_nk _ _ _ (by omega), zset_nk _ _ _ (by omega), zset_nk _ _ _ (by omega)]
  exact m3 x (by omega)
