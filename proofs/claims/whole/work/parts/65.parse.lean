/-! an order is taken, on both sides -/
def zLt (l : Nat) : Prop := l = 99 ∨ l = 100 ∨ l = 102 ∨ l = 104 ∨ l = 108 ∨ l = 114
def zPa (b : Nat) (t u : zM) (L p : Nat) (c : Nat → Nat) (r r' : Int32) (T V : zM) : Prop := (∃ p', p ≤ p' ∧ zX b T V L p' c ∧ ((r = 0 ∧ r' = 0) ∨ (¬ r = 0 ∧ ¬ r' = 0 ∧ p < p' ∧ ∃ l, zLt l ∧ T b 3 = nI l ∧ V 0 14 = nI l ∧ T b 4 = V 7 0 ∧ (l = 102 ∨ l = 104 → T b 5 = V 7 1)))) ∧ zFc b t T ∧ zFr u V
theorem if0 {c : Prop} [Decidable c] {y : Int32} (h : y = 0) : (if c then (0 : Int32) else y) = 0 := by rw [h, ite_self]
theorem letter_no {x : Int32} (h : ∀ l, zLt l → ¬ x = nI l) : rX3_isLetterOfOrder x = 0 ∧ rX7_numbersOf x = 0 := by
  have h99 : ¬ x = 99 := h 99 (Or.inl rfl)
  have h100 : ¬ x = 100 := h 100 (Or.inr (Or.inl rfl))
  have h102 : ¬ x = 102 := h 102 (Or.inr (Or.inr (Or.inl rfl)))
  have h104 : ¬ x = 104 := h 104 (Or.inr (Or.inr (Or.inr (Or.inl rfl))))
  have h108 : ¬ x = 108 := h 108 (Or.inr (Or.inr (Or.inr (Or.inr (Or.inl rfl)))))
  have h114 : ¬ x = 114 := h 114 (Or.inr (Or.inr (Or.inr (Or.inr (Or.inr rfl)))))
  constructor
  · unfold rX3_isLetterOfOrder
    rw [if_neg h104, if_neg h102, if_neg h108, if_neg h114, if_neg h99, if_neg h100]
  · unfold rX7_numbersOf
    rw [if_neg h99, if_neg h100]
    refine if0 ?_
    rw [if_neg h102]
    refine if0 ?_
    rw [if_neg h104]
    refine if0 (if0 (if0 ?_))
    rw [if_neg h108]
    refine if0 (if0 (if0 (if0 (if0 ?_))))
    rw [if_neg h114]
theorem letter_yes {l : Nat} (h : zLt l) : ¬ rX3_isLetterOfOrder (nI l) = 0 ∧ ¬ rX7_numbersOf (nI l) = 0 ∧ (rX7_numbersOf (nI l) = 1 ↔ ¬ (l = 102 ∨ l = 104)) ∧ l ≤ 126 ∧ 33 ≤ l := by
  rcases h with rfl | rfl | rfl | rfl | rfl | rfl <;> decide +kernel
section ZPA
variable {b L p : Nat} {t u : zM} {c : Nat → Nat}
/-- behind the letter -/
theorem parse_rest {l : Nat} (hl : zLt l) {T1 U1 : zM} (h : zX b T1 U1 L (p + 1) c) (f1 : zFc b t T1) (f2 : zFr u U1) (e3 : T1 b 3 = nI l) (e14 : U1 0 14 = nI l) :
    zPa b t u L p c
      (if (rX3_takeNumber b T1) = (-1) then 0 else (if ((sX3_takeNumber b T1) b 3) = 104 then (if (rX3_takeSign b (zset (sX3_takeNumber b T1) b 4 (rX3_takeNumber b T1)) 44) = 0 then 0 else (if (rX3_takeNumber b (sX3_takeSign b (zset (sX3_takeNumber b T1) b 4 (rX3_takeNumber b T1)) 44)) = (-1) then 0 else (rX3_takeSign b (zset (sX3_takeNumber b (sX3_takeSign b (zset (sX3_takeNumber b T1) b 4 (rX3_takeNumber b T1)) 44)) b 5 (rX3_takeNumber b (sX3_takeSign b (zset (sX3_takeNumber b T1) b 4 (rX3_takeNumber b T1)) 44))) 59))) else (if ((sX3_takeNumber b T1) b 3) = 102 then (if (rX3_takeSign b (zset (sX3_takeNumber b T1) b 4 (rX3_takeNumber b T1)) 44) = 0 then 0 else (if (rX3_takeNumber b (sX3_takeSign b (zset (sX3_takeNumber b T1) b 4 (rX3_takeNumber b T1)) 44)) = (-1) then 0 else (rX3_takeSign b (zset (sX3_takeNumber b (sX3_takeSign b (zset (sX3_takeNumber b T1) b 4 (rX3_takeNumber b T1)) 44)) b 5 (rX3_takeNumber b (sX3_takeSign b (zset (sX3_takeNumber b T1) b 4 (rX3_takeNumber b T1)) 44))) 59))) else (rX3_takeSign b (zset (sX3_takeNumber b T1) b 4 (rX3_takeNumber b T1)) 59))))
      (if (rX7_numbered U1 0) = 0 then 0 else (if (rX7_numbersOf (nI l)) = 1 then (if (rX7_sign (sX7_numbered U1 0) 59) = 0 then 0 else 1) else (if (rX7_sign (sX7_numbered U1 0) 44) = 0 then 0 else (if (rX7_numbered (sX7_sign (sX7_numbered U1 0) 44) 1) = 0 then 0 else (if (rX7_sign (sX7_numbered (sX7_sign (sX7_numbered U1 0) 44) 1) 59) = 0 then 0 else 1)))))
      (if (rX3_takeNumber b T1) = (-1) then (zset (sX3_takeNumber b T1) b 4 (rX3_takeNumber b T1)) else (if ((sX3_takeNumber b T1) b 3) = 104 then (if (rX3_takeSign b (zset (sX3_takeNumber b T1) b 4 (rX3_takeNumber b T1)) 44) = 0 then (sX3_takeSign b (zset (sX3_takeNumber b T1) b 4 (rX3_takeNumber b T1)) 44) else (if (rX3_takeNumber b (sX3_takeSign b (zset (sX3_takeNumber b T1) b 4 (rX3_takeNumber b T1)) 44)) = (-1) then (zset (sX3_takeNumber b (sX3_takeSign b (zset (sX3_takeNumber b T1) b 4 (rX3_takeNumber b T1)) 44)) b 5 (rX3_takeNumber b (sX3_takeSign b (zset (sX3_takeNumber b T1) b 4 (rX3_takeNumber b T1)) 44))) else (sX3_takeSign b (zset (sX3_takeNumber b (sX3_takeSign b (zset (sX3_takeNumber b T1) b 4 (rX3_takeNumber b T1)) 44)) b 5 (rX3_takeNumber b (sX3_takeSign b (zset (sX3_takeNumber b T1) b 4 (rX3_takeNumber b T1)) 44))) 59))) else (if ((sX3_takeNumber b T1) b 3) = 102 then (if (rX3_takeSign b (zset (sX3_takeNumber b T1) b 4 (rX3_takeNumber b T1)) 44) = 0 then (sX3_takeSign b (zset (sX3_takeNumber b T1) b 4 (rX3_takeNumber b T1)) 44) else (if (rX3_takeNumber b (sX3_takeSign b (zset (sX3_takeNumber b T1) b 4 (rX3_takeNumber b T1)) 44)) = (-1) then (zset (sX3_takeNumber b (sX3_takeSign b (zset (sX3_takeNumber b T1) b 4 (rX3_takeNumber b T1)) 44)) b 5 (rX3_takeNumber b (sX3_takeSign b (zset (sX3_takeNumber b T1) b 4 (rX3_takeNumber b T1)) 44))) else (sX3_takeSign b (zset (sX3_takeNumber b (sX3_takeSign b (zset (sX3_takeNumber b T1) b 4 (rX3_takeNumber b T1)) 44)) b 5 (rX3_takeNumber b (sX3_takeSign b (zset (sX3_takeNumber b T1) b 4 (rX3_takeNumber b T1)) 44))) 59))) else (sX3_takeSign b (zset (sX3_takeNumber b T1) b 4 (rX3_takeNumber b T1)) 59))))
      (if (rX7_numbered U1 0) = 0 then (sX7_numbered U1 0) else (if (rX7_numbersOf (nI l)) = 1 then (if (rX7_sign (sX7_numbered U1 0) 59) = 0 then (sX7_sign (sX7_numbered U1 0) 59) else (sX7_sign (sX7_numbered U1 0) 59)) else (if (rX7_sign (sX7_numbered U1 0) 44) = 0 then (sX7_sign (sX7_numbered U1 0) 44) else (if (rX7_numbered (sX7_sign (sX7_numbered U1 0) 44) 1) = 0 then (sX7_numbered (sX7_sign (sX7_numbered U1 0) 44) 1) else (if (rX7_sign (sX7_numbered (sX7_sign (sX7_numbered U1 0) 44) 1) 59) = 0 then (sX7_sign (sX7_numbered (sX7_sign (sX7_numbered U1 0) 44) 1) 59) else (sX7_sign (sX7_numbered (sX7_sign (sX7_numbered U1 0) 44) 1) 59)))))) := by
  obtain ⟨ly1, ly2, ly3, ly4, ly5⟩ := letter_yes hl
  obtain ⟨k, m, n1, n2, n3, n4, n5, n6, n7, n8, n9, n10⟩ := h.num (w := 0) (by decide)
  generalize rX3_takeNumber b T1 = x1 at *
  generalize sX3_takeNumber b T1 = A1 at *
  generalize rX7_numbered U1 0 = y1 at *
  generalize sX7_numbered U1 0 = B1 at *
  have g1 := f1.tr n6
  have g2 := f2.tr n7
  subst n2
  subst n3
  by_cases k0 : k = 0
  · subst k0
    rw [if_pos rfl, if_pos rfl, if_pos rfl, if_pos rfl, if_pos rfl, if_pos rfl]
    exact ⟨⟨p + 1 + 0, by omega, n4.putc _ (by decide), Or.inl ⟨rfl, rfl⟩⟩, g1.put _ (by decide) (by decide), g2⟩
  · have nm : ¬ nI m = -1 := fun e => absurd (show nI m < 0 by rw [e]; decide +kernel) (nI_pos (by omega))
    have a3 : A1 b 3 = nI l := (n8 3 (by decide)).trans e3
    have b14 : B1 0 14 = nI l := (n9 14 (by decide)).trans e14
    rw [if_neg k0, if_neg k0, if_neg nm, if_neg nm, if_neg (show ¬ (1 : Int32) = 0 by decide +kernel), if_neg (show ¬ (1 : Int32) = 0 by decide +kernel), a3, ite_self, ite_self]
    have hA2 : zX b (zset A1 b 4 (nI m)) B1 L (p + 1 + k) c := n4.putc _ (by decide)
    have gA2 : zFc b t (zset A1 b 4 (nI m)) := g1.put _ (by decide) (by decide)
    have a23 : zset A1 b 4 (nI m) b 3 = nI l := (zset_nk _ _ _ (by decide)).trans a3
    have a24 : zset A1 b 4 (nI m) b 4 = nI m := zset_eq _ _ _ _
    by_cases cl : l = 102 ∨ l = 104
    · have two : ∀ {α : Type} (x y : α), (if nI l = 104 then x else if nI l = 102 then x else y) = x := fun x y => by
        rcases cl with q | q
        · rw [q, if_neg (by decide +kernel), if_pos (show nI 102 = 102 from rfl)]
        · rw [q, if_pos (show nI 104 = 104 from rfl)]
      have n2 : ¬ rX7_numbersOf (nI l) = 1 := fun e => (ly3.mp e) cl
      rw [two, two, if_neg n2, if_neg n2]
      obtain ⟨s1, s2, s3, s4, s5⟩ := hA2.take (s := 44) (by decide)
      have h44 : nI 44 = 44 := rfl
      rw [h44] at s1 s2 s3 s4 s5
      generalize rX3_takeSign b (zset A1 b 4 (nI m)) 44 = x2 at *
      generalize sX3_takeSign b (zset A1 b 4 (nI m)) 44 = A3 at *
      generalize rX7_sign B1 44 = y2 at *
      have sB3 : ∀ y, sX7_sign B1 44 7 y = B1 7 y := fun y => congrFun (sX7_sign_o _ _ (by decide)) y
      generalize sX7_sign B1 44 = B3 at *
      rcases s1 with ⟨q1, q2, q3⟩ | ⟨q1, q2, q3⟩
      · rw [if_pos q1, if_pos q1, if_pos q2, if_pos q2]
        exact ⟨⟨_, by omega, q3, Or.inl ⟨rfl, rfl⟩⟩, gA2.tr s2, g2.tr s3⟩
      · rw [q1, if_neg (show ¬ (1 : Int32) = 0 by decide +kernel), if_neg (show ¬ (1 : Int32) = 0 by decide +kernel), if_neg q2, if_neg q2]
        obtain ⟨k', m', o1, o2, o3, o4, o5, o6, o7, o8, o9, o10⟩ := q3.num (w := 1) (by decide)
        generalize rX3_takeNumber b A3 = x3 at *
        generalize sX3_takeNumber b A3 = A4 at *
        generalize rX7_numbered B3 1 = y3 at *
        generalize sX7_numbered B3 1 = B4 at *
        subst o2
        subst o3
        by_cases k0' : k' = 0
        · subst k0'
          rw [if_pos rfl, if_pos rfl, if_pos rfl, if_pos rfl, if_pos rfl, if_pos rfl]
          exact ⟨⟨_, by omega, o4.putc _ (by decide), Or.inl ⟨rfl, rfl⟩⟩, ((gA2.tr s2).tr o6).put _ (by decide) (by decide), (g2.tr s3).tr o7⟩
        · have nm' : ¬ nI m' = -1 := fun e => absurd (show nI m' < 0 by rw [e]; decide +kernel) (nI_pos (by omega))
          rw [if_neg k0', if_neg k0', if_neg nm', if_neg nm', if_neg (show ¬ (1 : Int32) = 0 by decide +kernel), if_neg (show ¬ (1 : Int32) = 0 by decide +kernel)]
          have hA5 : zX b (zset A4 b 5 (nI m')) B4 L (p + 1 + k + 1 + k') c := o4.putc _ (by decide)
          obtain ⟨v1, v2, v3, v4, v5⟩ := hA5.take (s := 59) (by decide)
          have h59 : nI 59 = 59 := rfl
          rw [h59] at v1 v2 v3 v4 v5
          have fin1 := (((gA2.tr s2).tr o6).put (k := 5) (nI m') (by decide) (by decide)).tr v2
          have fin2 := ((g2.tr s3).tr o7).tr v3
          rcases v1 with ⟨w1, w2, w3⟩ | ⟨w1, w2, w3⟩
          · rw [if_pos w2]
            exact ⟨⟨_, by omega, w3, Or.inl ⟨w1, rfl⟩⟩, fin1, fin2⟩
          · rw [if_neg w2]
            refine ⟨⟨_, by omega, w3, Or.inr ⟨by rw [w1]; decide +kernel, by decide +kernel, by omega, l, hl, ?_, ?_, ?_, fun _ => ?_⟩⟩, fin1, fin2⟩
            · rw [v4 3 (by decide), zset_nk _ _ _ (by decide), o8 3 (by decide), s4 3 (by decide)]; exact a23
            · rw [v5 14 (by decide), o9 14 (by decide), s5 14 (by decide)]; exact b14
            · rw [v4 4 (by decide), zset_nk _ _ _ (by decide), o8 4 (by decide), s4 4 (by decide), a24]
              rw [sX7_sign_o _ _ (by decide), o10 0 (by decide), sB3]
              exact n5.symm
            · rw [v4 5 (by decide), zset_eq]
              rw [sX7_sign_o _ _ (by decide)]
              exact o5.symm
    · have two : ∀ {α : Type} (x y : α), (if nI l = 104 then x else if nI l = 102 then x else y) = y := fun x y => by
        have := ly4
        rw [if_neg (show ¬ nI l = 104 from fun e => cl (Or.inr ((nI_eq (b := 104) (by omega) (by decide)).mp e))), if_neg (show ¬ nI l = 102 from fun e => cl (Or.inl ((nI_eq (b := 102) (by omega) (by decide)).mp e)))]
      have n2 : rX7_numbersOf (nI l) = 1 := ly3.mpr cl
      rw [two, two, if_pos n2, if_pos n2]
      obtain ⟨v1, v2, v3, v4, v5⟩ := hA2.take (s := 59) (by decide)
      have h59 : nI 59 = 59 := rfl
      rw [h59] at v1 v2 v3 v4 v5
      have fin1 := gA2.tr v2
      have fin2 := g2.tr v3
      rcases v1 with ⟨w1, w2, w3⟩ | ⟨w1, w2, w3⟩
      · rw [if_pos w2]
        exact ⟨⟨_, by omega, w3, Or.inl ⟨w1, rfl⟩⟩, fin1, fin2⟩
      · rw [if_neg w2]
        refine ⟨⟨_, by omega, w3, Or.inr ⟨by rw [w1]; decide +kernel, by decide +kernel, by omega, l, hl, ?_, ?_, ?_, fun q => absurd q cl⟩⟩, fin1, fin2⟩
        · rw [v4 3 (by decide)]; exact a23
        · rw [v5 14 (by decide)]; exact b14
        · rw [v4 4 (by decide), a24, sX7_sign_o _ _ (by decide)]
          exact n5.symm
theorem zX.parse (h : zX b t u L p c) : zPa b t u L p c (rX3_takeOrder b t) (rX7_parses u) (sX3_takeOrder b t) (sX7_parses u) := by
  have hL := h.1
  have e2 := h.2.2.2.2.1
  have e9 := h.2.2.2.2.2.1
  have ia := h.isAt (lo := 33) (hi := 126) (by decide) (by decide)
  have ia : rX7_isAt u 33 126 = if p < L ∧ 33 ≤ c p ∧ c p ≤ 126 then 1 else 0 := ia
  have n0 : rX7_numbersOf 0 = 0 := by decide +kernel
  unfold rX3_takeOrder sX3_takeOrder rX7_parses sX7_parses
  rw [h.sign, ia, n0, if_pos rfl, if_pos rfl, e2, e9, nI_clamp (by have := h.2.1; omega), nI_1]
  have f0 : zFc b t (zset (zset t b 3 (sg L c p)) b 5 0) := zFc.put (zFc.put (fun _ _ _ => rfl) _ (by decide) (by decide)) _ (by decide) (by decide)
  have x0 : zX b (zset (zset t b 3 (sg L c p)) b 5 0) u L p c := (h.putc _ (by decide)).putc _ (by decide)
  by_cases q : ∃ l, zLt l ∧ p < L ∧ c p = l
  · obtain ⟨l, hl, q1, q2⟩ := q
    obtain ⟨ly1, ly2, ly3, ly4, ly5⟩ := letter_yes hl
    have es : sg L c p = nI l := by unfold sg; rw [if_pos q1, q2]
    have e5 : u 5 p = nI l := by rw [(h.2.2.2.2.2.2 p q1).2.2.2, q2]
    rw [es] at x0 f0
    rw [es, e5, if_neg ly1, if_neg ly1, if_pos (⟨q1, by omega, by omega⟩ : p < L ∧ 33 ≤ c p ∧ c p ≤ 126), if_neg (show ¬ (1 : Int32) = 0 by decide +kernel), if_neg (show ¬ (1 : Int32) = 0 by decide +kernel), if_neg ly2, if_neg ly2]
    exact parse_rest hl ((x0.putr (nI l) (Or.inr ⟨rfl, by decide, by decide⟩)).go q1) (f0.put _ (by decide) (by decide)) ((zFr.put (fun _ _ _ _ => rfl) _ (Or.inr rfl)).put _ (Or.inl rfl)) (by rw [zset_nk _ _ _ (by decide), zset_nk _ _ _ (by decide), zset_eq]) (by rw [zset_nk _ _ _ (by decide), zset_eq])
  · have hno : ∀ x : Int32, (p < L → x = nI (c p)) → (¬ p < L → x = -1) → ∀ l, zLt l → ¬ x = nI l := fun x g1 g2 l hl e => by
      by_cases q1 : p < L
      · have := (h.2.2.2.2.2.2 p q1).2.1
        have := (letter_yes hl).2.2.2.1
        rw [g1 q1] at e
        exact q ⟨l, hl, q1, (nI_eq (by omega) (by omega)).mp e⟩
      · rw [g2 q1] at e
        have := (letter_yes hl).2.2.2.1
        exact absurd (show nI l < 0 by rw [← e]; decide +kernel) (nI_pos (by omega))
    have z1 := (letter_no (x := sg L c p) (hno _ (fun q1 => if_pos q1) (fun q1 => if_neg q1))).1
    rw [if_pos z1, if_pos z1]
    by_cases q3 : p < L ∧ 33 ≤ c p ∧ c p ≤ 126
    · have e5 : u 5 p = nI (c p) := (h.2.2.2.2.2.2 p q3.1).2.2.2
      have z2 := (letter_no (x := nI (c p)) (hno _ (fun _ => rfl) (fun q1 => absurd q3.1 q1))).2
      rw [if_pos q3, if_neg (show ¬ (1 : Int32) = 0 by decide +kernel), if_neg (show ¬ (1 : Int32) = 0 by decide +kernel), e5, if_pos z2, if_pos z2]
      exact ⟨⟨p, Nat.le_refl _, x0.putr _ (Or.inr ⟨rfl, by decide, by decide⟩), Or.inl ⟨rfl, rfl⟩⟩, f0, zFr.put (fun _ _ _ _ => rfl) _ (Or.inr rfl)⟩
    · rw [if_neg q3, if_pos rfl, if_pos rfl]
      exact ⟨⟨p, Nat.le_refl _, x0.putr _ (Or.inr ⟨rfl, by decide, by decide⟩), Or.inl ⟨rfl, rfl⟩⟩, f0, zFr.put (fun _ _ _ _ => rfl) _ (Or.inr rfl)⟩
end ZPA
