/-! the law's reading against the reference's -/
section LB
variable {H N : Nat} {ρ Q P : Nat → Nat} {b k : Nat} {c t u : zM}
theorem lused_e {D M : Nat} (h2 : t 271 (4 * k + 2) = nI D) (h3 : t 271 (4 * k + 3) = nI M) (hD : D < 100000) (hM : M < 100000) : rL_used t k = nI (usedN D M) := by
  unfold rL_used usedN
  rw [h2, h3]
  by_cases q : M ≤ D
  · have e : nI D - nI M = nI (D - M) := nI_sub q
    rw [e, if_pos (nI_pos' (by omega))]
    exact congrArg nI (by omega)
  · have e : nI D - nI M = Int32.ofInt ((D : Int) - M) := by rw [zoI, zoI, ← Int32.ofInt_sub]
    have hn : ¬ (0 : Int32) ≤ nI D - nI M := by
      rw [e, zo0]
      exact fun q => absurd ((zoL (by decide) (by decide) (by omega) (by omega)).mp q) (by omega)
    rw [if_neg hn, z_sub_add]
    show nI D + nI 100000 - nI M = _
    rw [nI_add, nI_sub (by omega)]
    exact congrArg nI (by omega)
theorem lunits_e {U : Nat} {B : Int} (hb : t 272 (4 * k + 0) = Int32.ofInt B) (hu : rL_used t k = nI U) (hU : U < 100000) (h1 : -99 ≤ B) (h2 : B ≤ 99) : rL_units t k = nI (unitsN U B) := by
  have ed : nI U / 100 = nI (U / 100) := nI_div (b := 100) (by omega) (by decide)
  have em : zrem (nI U) 100 = nI (U % 100) := zrem_n (b := 100) (by omega) (by decide) (by decide)
  have e10 : ¬ (1 : Int32) = 0 := by decide +kernel
  have up : ∀ V : Nat, lUp t k = 1 → V = U / 100 + 1 → rL_units t k = nI V := fun V e1 e2 => by
    unfold rL_units
    rw [e1, if_neg e10, hu, ed, nI_1, e2]
  have dn : ∀ V : Nat, lUp t k = 0 → V = U / 100 → rL_units t k = nI V := fun V e1 e2 => by
    unfold rL_units
    rw [e1, if_pos rfl, hu, ed, e2]
  by_cases c1 : 0 ≤ B
  · have k1 : (0 : Int32) ≤ Int32.ofInt B := by rw [zo0]; exact (zoL (by decide) (by decide) (by omega) (by omega)).mpr c1
    by_cases c2 : B = 0
    · have k2 : Int32.ofInt B = 0 := by rw [c2]; exact zo0.symm
      by_cases c3 : U % 100 ≤ 49
      · refine dn _ ?_ (by unfold unitsN; rw [if_pos (by omega), if_pos c1]; omega)
        unfold lUp
        rw [hb, if_pos k1, if_pos k2, hu, em, if_pos (show nI (U % 100) ≤ 49 from (nI_leI (b := 49) (by omega) (by decide)).mpr c3)]
      · refine up _ ?_ (by unfold unitsN; rw [if_pos (by omega), if_pos c1]; omega)
        unfold lUp
        rw [hb, if_pos k1, if_pos k2, hu, em, if_neg (show ¬ nI (U % 100) ≤ 49 from fun q => c3 (zle (b := 49) (by omega) (by decide) q))]
    · have k2 : ¬ Int32.ofInt B = 0 := by rw [zo0]; exact fun q => c2 ((zoE (by omega) (by omega) (by decide) (by decide)).mp q)
      refine dn _ ?_ (by unfold unitsN; rw [if_neg (by omega)])
      unfold lUp
      rw [hb, if_pos k1, if_neg k2]
  · have k1 : ¬ (0 : Int32) ≤ Int32.ofInt B := by rw [zo0]; exact fun q => c1 ((zoL (by decide) (by decide) (by omega) (by omega)).mp q)
    by_cases c3 : U % 100 ≤ 0
    · refine dn _ ?_ (by unfold unitsN; rw [if_pos (by omega), if_neg c1]; omega)
      unfold lUp
      rw [hb, if_neg k1, hu, em, if_pos (show nI (U % 100) ≤ 0 from (nI_leI (b := 0) (by omega) (by decide)).mpr c3)]
    · refine up _ ?_ (by unfold unitsN; rw [if_pos (by omega), if_neg c1]; omega)
      unfold lUp
      rw [hb, if_neg k1, hu, em, if_neg (show ¬ nI (U % 100) ≤ 0 from fun q => c3 (zle (b := 0) (by omega) (by decide) q))]
/-- a house's use, units and balance, on both sides -/
theorem lA.use (hA : lA t u) (h : zT H N ρ Q P b c u) (hk : k < 16) : ∃ (D M : Nat) (B : Int), D < 100000 ∧ M < 100000 ∧ -99 ≤ B ∧ B ≤ 99 ∧ t 272 (4 * k + 0) = Int32.ofInt B ∧ u 1 (14 * k + 4) = Int32.ofInt B ∧ rL_used t k = nI (usedN D M) ∧ rX7_used u k = nI (usedN D M) ∧ rL_units t k = nI (unitsN (usedN D M) B) ∧ rX7_unitsOf u k = nI (unitsN (usedN D M) B) ∧ rX7_balanceThen u k = Int32.ofInt (balN (usedN D M) B) := by
  obtain ⟨D, M, B, hD, hM, hB1, hB2, d1, m1, b1, uc, ur, vc, vr, br⟩ := h.use (k := k) (by omega)
  have u2 : u 1 (14 * k + 2) = nI D := (h.1.1 k (by omega) 2 (by decide) (by decide)).trans d1
  have u3 : u 1 (14 * k + 3) = nI M := (h.1.1 k (by omega) 3 (by decide) (by decide)).trans m1
  have u4 : u 1 (14 * k + 4) = Int32.ofInt B := (h.1.1 k (by omega) 6 (by decide) (by decide)).trans b1
  have lu := lused_e ((hA.ra hk (f := 2) (by decide)).trans u2) ((hA.ra hk (f := 3) (by decide)).trans u3) hD hM
  have lb : t 272 (4 * k + 0) = Int32.ofInt B := (hA.rb hk (f := 0) (by decide)).trans u4
  exact ⟨D, M, B, hD, hM, hB1, hB2, lb, u4, lu, ur, lunits_e lb lu (usedN_lt D M) hB1 hB2, vr, br⟩
theorem lA.why (hA : lA t u) (hk : k < 16) : rL_why t k = rX7_barred u k := by
  unfold rL_why rX7_barred
  have e6 : t 272 (4 * k + 2) = u 1 (14 * k + 6) := hA.rb hk (by decide)
  have e7 : t 272 (4 * k + 3) = u 1 (14 * k + 7) := hA.rb hk (by decide)
  have e0 : t 277 0 = u 1 400 := hA.rt (by decide)
  rw [e6, e7, e0]
/-- the table's entries one place on -/
def lSh (i : Nat) (u w : zM) : Prop := (∀ x, i < x → x < 60 → 6 ≤ x → w 276 x = u 276 (x - 6)) ∧ (∀ x, x ≤ i ∨ x < 6 → w 276 x = u 276 x) ∧ ∀ j, j ≠ 276 → w j = u j
def lLay (w : zM) (a0 a1 a2 a3 a4 a5 : Int32) : zM := zset (zset (zset (zset (zset (zset w 276 0 a0) 276 1 a1) 276 2 a2) 276 3 a3) 276 4 a4) 276 5 a5
def lCd (t : zM) (k : Nat) : Int32 := if (zrem (rL_used t k) 100) = 0 then 2 else (if (rL_units t k) ≤ ((rL_used t k) / 100) then 0 else 1)
theorem lread_205 (t u : zM) (k : Nat) : ∀ (j i : Nat) (w : zM), i < 60 → 5 ≤ i → i < j + 5 → lSh i u w → ∃ w2, lSh 5 u w2 ∧ lsL_read_205 t k j i w = lLay w2 (u 277 0) (nI k) (rL_used t k) (rL_units t k) (lCd t k) (u 272 (4 * k + 0) + 1000) := by
  intro j
  induction j with
  | zero => intro i w h0 h5 hj h; omega
  | succ j ih =>
    intro i w h0 h5 hj h
    unfold lsL_read_205
    by_cases c : nI i ≤ 5
    · have hi : i = 5 := by have := zle (b := 5) (by omega) (by decide) c; omega
      subst hi
      refine ⟨w, h, ?_⟩
      rw [if_pos c, h.2.2 277 (by decide), h.2.2 272 (by decide)]
      rfl
    · have hi : 6 ≤ i := by have := zge (a := 5) (b := i) (by decide) (by omega) c; omega
      rw [if_neg c]
      refine ih (i - 1) _ (by omega) (by omega) (by omega) ⟨fun x h1 h2 h3 => ?_, fun x hx => ?_, fun j9 hj9 => ?_⟩
      · by_cases e : x = i
        · subst e
          rw [zset_eq]
          exact h.2.1 (x - 6) (by omega)
        · rw [zset_nk _ _ _ (by omega)]
          exact h.1 x (by omega) h2 h3
      · rw [zset_nk _ _ _ (by omega)]
        exact h.2.1 x (by omega)
      · rw [zset_id _ _ _ hj9]
        exact h.2.2 j9 hj9
theorem lread_v (t : zM) (k : Nat) : ∀ (j i : Nat) (w : zM), i < 60 → 5 ≤ i → i < j + 5 → lL_read_205 t k j i w = rL_units t k := by
  intro j
  induction j with
  | zero => intro i w h0 h5 hj; omega
  | succ j ih =>
    intro i w h0 h5 hj
    unfold lL_read_205
    by_cases c : nI i ≤ 5
    · rw [if_pos c]
    · have hi : 6 ≤ i := by have := zge (a := 5) (b := i) (by decide) (by omega) c; omega
      rw [if_neg c]
      exact ih (i - 1) _ (by omega) (by omega) (by omega)
theorem rL_read_e (t : zM) (k : Nat) : rL_read t k = rL_units t k := lread_v t k 55 59 _ (by decide) (by decide) (by decide)
/-- what the law settles -/
def lSet (k : Nat) (t : zM) (B2 : Int32) (p1 p2 U V : Int32) : zM := zset (zset (zset (zset (zset (zset (zset (zset (zset (zset (zset t 272 (4 * k + 0) B2) 271 (4 * k + 3) (t 271 (4 * k + 2))) 272 (4 * k + 3) (t 277 0 + 1)) 273 (4 * k + 0) (t 273 (4 * k + 0) + 1)) 273 (4 * k + 1) (t 273 (4 * k + 1) + V)) 273 (4 * k + 2) (t 273 (4 * k + 2) + p1)) 273 (4 * k + 3) (t 273 (4 * k + 3) + p2)) 277 2 (t 277 2 + 1)) 277 3 (t 277 3 + V)) 277 4 (t 277 4 + V * t 277 11)) 277 5 (t 277 5 + U)
theorem sL_read_e (t : zM) (k : Nat) (B2 p1 p2 U V : Int32) (eU : rL_used t k = U) (eV : rL_units t k = V) (eB : t 272 (4 * k + 0) + (100 * V - U) = B2) (e1 : (if B2 ≤ 0 then (0 : Int32) else 1) = p1) (e2 : (if 0 ≤ B2 then (0 : Int32) else 1) = p2) : ∃ w, lSh 5 (zset (lSet k t B2 p1 p2 U V) 277 9 (t 277 9 + (if 10 ≤ t 277 9 then 0 else 1))) w ∧ sL_read t k = lLay w (t 277 0) (nI k) U V (lCd t k) (B2 + 1000) := by
  have key := lread_205 t (zset (lSet k t B2 p1 p2 U V) 277 9 (t 277 9 + (if 10 ≤ t 277 9 then 0 else 1))) k 55 59 (zset (lSet k t B2 p1 p2 U V) 277 9 (t 277 9 + (if 10 ≤ t 277 9 then 0 else 1))) (by decide) (by decide) (by decide) ⟨fun x h1 h2 => absurd h2 (by omega), fun _ _ => rfl, fun _ _ => rfl⟩
  obtain ⟨w, hw, e⟩ := key
  refine ⟨w, hw, ?_⟩
  have es : sL_read t k = lsL_read_205 t k 55 59 (zset (lSet k t B2 p1 p2 U V) 277 9 (t 277 9 + (if 10 ≤ t 277 9 then 0 else 1))) := by
    unfold sL_read lSet
    rw [eU, eV, eB, e1, e2]
  have x0 : zset (lSet k t B2 p1 p2 U V) 277 9 (t 277 9 + (if 10 ≤ t 277 9 then 0 else 1)) 277 0 = t 277 0 := by
    unfold lSet
    rw [zset_nk _ _ _ (by decide), zset_nk _ _ _ (by decide), zset_nk _ _ _ (by decide), zset_nk _ _ _ (by decide), zset_nk _ _ _ (by decide)]
    simp only [zset_id _ _ _ (show (277 : Nat) ≠ 271 by decide), zset_id _ _ _ (show (277 : Nat) ≠ 272 by decide), zset_id _ _ _ (show (277 : Nat) ≠ 273 by decide)]
  have x1 : zset (lSet k t B2 p1 p2 U V) 277 9 (t 277 9 + (if 10 ≤ t 277 9 then 0 else 1)) 272 (4 * k + 0) = B2 := by
    unfold lSet
    simp only [zset_id _ _ _ (show (272 : Nat) ≠ 271 by decide), zset_id _ _ _ (show (272 : Nat) ≠ 277 by decide), zset_id _ _ _ (show (272 : Nat) ≠ 273 by decide)]
    rw [zset_nk _ _ _ (by omega), zset_idk _ _ _ _ (by decide), zset_eq]
  rw [es, e, eU, eV, x0, x1]
theorem lcode_e {U : Nat} {B : Int} (hU : U < 100000) (eU : rL_used t k = nI U) (eV : rL_units t k = nI (unitsN U B)) : lCd t k = mCode (nI U) (nI (unitsN U B)) := by
  have hV := unitsN_le (B := B) hU
  have em : zrem (nI U) 100 = nI (U % 100) := zrem_n (b := 100) (by omega) (by decide) (by decide)
  have ed : nI U / 100 = nI (U / 100) := nI_div (b := 100) (by omega) (by decide)
  have e100 : (100 : Int32) * nI (unitsN U B) = nI (100 * unitsN U B) := nI_mul 100 _
  unfold lCd mCode
  rw [eU, eV, em, ed, e100]
  by_cases c1 : nI (U % 100) = 0
  · rw [if_pos c1, if_pos c1]
  · have hc : U % 100 ≠ 0 := fun e => c1 (by rw [e]; rfl)
    have key : unitsN U B ≤ U / 100 ↔ 100 * unitsN U B ≤ U := by omega
    rw [if_neg c1, if_neg c1]
    by_cases c2 : unitsN U B ≤ U / 100
    · rw [if_pos ((nI_leI (by omega) (by omega)).mpr c2), if_pos ((nI_leI (by omega) (by omega)).mpr (key.mp c2))]
    · rw [if_neg (fun q => c2 (zle (by omega) (by omega) q)), if_neg (fun q => c2 (key.mpr (zle (by omega) (by omega) q)))]
end LB
