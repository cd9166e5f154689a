/-! all orders of the text, on both sides -/
theorem zT.ok {H N : Nat} {ρ Q P : Nat → Nat} {b : Nat} {t u : zM} (h : zT H N ρ Q P b t u) (hN : N ≤ 9999) : zOK b t := by
  obtain ⟨w, E, hw, -, l3, -⟩ := h.2.2.2
  exact ⟨N, hN, h.h5, ⟨w, hw, l3⟩, ⟨H, h.Hl, h.h4⟩⟩
theorem zO_eq {b : Nat} {t u : zM} {r r' r1 r1' : Int32} {S V S1 V1 : zM} (e1 : r1 = r) (e2 : r1' = r') (e3 : S1 = S) (e4 : V1 = V) (h : zO b t u r r' S V) : zO b t u r1 r1' S1 V1 := by
  subst e1; subst e2; subst e3; subst e4
  exact h
section ZDO
variable {H N : Nat} {Q P : Nat → Nat} {b : Nat} {t u : zM}
theorem obey_does (h : zT H N (fun _ => N) Q P b t u) (hN : N ≤ 9999) {l : Nat} (hl : zLt l) {x y : Int32} (e14 : u 0 14 = nI l) (e0 : u 7 0 = x) (e1 : l = 102 ∨ l = 104 → u 7 1 = y) : zO b t u (rX5_obey b t (nI l) x y N) (rX7_does u N) (sX5_obey b t (nI l) x y N) (sX7_does u N) := by
  unfold rX5_obey sX5_obey rX7_does sX7_does
  rw [e14, e0]
  rcases hl with rfl | rfl | rfl | rfl | rfl | rfl
  · show zO b t u _ _ _ _
    refine zO_eq ?_ ?_ ?_ ?_ (by exact op_change h hN x)
    · rw [if_pos (c := nI 99 = 99) (by decide +kernel)]
    · rw [if_pos (c := nI 99 = 99) (by decide +kernel)]
    · rw [if_pos (c := nI 99 = 99) (by decide +kernel)]
    · rw [if_pos (c := nI 99 = 99) (by decide +kernel)]
  · show zO b t u _ _ _ _
    refine zO_eq ?_ ?_ ?_ ?_ (by exact op_days h hN x)
    · rw [if_neg (c := nI 100 = 99) (by decide +kernel), if_pos (c := nI 100 = 100) (by decide +kernel)]
    · rw [if_neg (c := nI 100 = 99) (by decide +kernel), if_neg (c := nI 100 = 102) (by decide +kernel), if_neg (c := nI 100 = 104) (by decide +kernel), if_neg (c := nI 100 = 108) (by decide +kernel), if_neg (c := nI 100 = 114) (by decide +kernel)]
    · rw [if_neg (c := nI 100 = 99) (by decide +kernel), if_pos (c := nI 100 = 100) (by decide +kernel)]
    · rw [if_neg (c := nI 100 = 99) (by decide +kernel), if_neg (c := nI 100 = 102) (by decide +kernel), if_neg (c := nI 100 = 104) (by decide +kernel), if_neg (c := nI 100 = 108) (by decide +kernel), if_neg (c := nI 100 = 114) (by decide +kernel)]
  · rw [e1 (by decide)]
    refine zO_eq ?_ ?_ ?_ ?_ (by exact op_flow h hN x y)
    · rw [if_neg (c := nI 102 = 99) (by decide +kernel), if_neg (c := nI 102 = 100) (by decide +kernel), if_neg (c := nI 102 = 101) (by decide +kernel), if_pos (c := nI 102 = 102) (by decide +kernel)]
    · rw [if_neg (c := nI 102 = 99) (by decide +kernel), if_pos (c := nI 102 = 102) (by decide +kernel)]
    · rw [if_neg (c := nI 102 = 99) (by decide +kernel), if_neg (c := nI 102 = 100) (by decide +kernel), if_neg (c := nI 102 = 101) (by decide +kernel), if_pos (c := nI 102 = 102) (by decide +kernel)]
    · rw [if_neg (c := nI 102 = 99) (by decide +kernel), if_pos (c := nI 102 = 102) (by decide +kernel)]
  · rw [e1 (by decide)]
    refine zO_eq ?_ ?_ ?_ ?_ (by exact op_house h hN x y)
    · rw [if_neg (c := nI 104 = 99) (by decide +kernel), if_neg (c := nI 104 = 100) (by decide +kernel), if_neg (c := nI 104 = 101) (by decide +kernel), if_neg (c := nI 104 = 102) (by decide +kernel), if_neg (c := nI 104 = 103) (by decide +kernel), if_pos (c := nI 104 = 104) (by decide +kernel)]
    · rw [if_neg (c := nI 104 = 99) (by decide +kernel), if_neg (c := nI 104 = 102) (by decide +kernel), if_pos (c := nI 104 = 104) (by decide +kernel)]
    · rw [if_neg (c := nI 104 = 99) (by decide +kernel), if_neg (c := nI 104 = 100) (by decide +kernel), if_neg (c := nI 104 = 101) (by decide +kernel), if_neg (c := nI 104 = 102) (by decide +kernel), if_neg (c := nI 104 = 103) (by decide +kernel), if_pos (c := nI 104 = 104) (by decide +kernel)]
    · rw [if_neg (c := nI 104 = 99) (by decide +kernel), if_neg (c := nI 104 = 102) (by decide +kernel), if_pos (c := nI 104 = 104) (by decide +kernel)]
  · show zO b t u _ _ _ _
    refine zO_eq ?_ ?_ ?_ ?_ (by exact op_turn h hN x)
    · rw [if_neg (c := nI 108 = 99) (by decide +kernel), if_neg (c := nI 108 = 100) (by decide +kernel), if_neg (c := nI 108 = 101) (by decide +kernel), if_neg (c := nI 108 = 102) (by decide +kernel), if_neg (c := nI 108 = 103) (by decide +kernel), if_neg (c := nI 108 = 104) (by decide +kernel), if_neg (c := nI 108 = 105) (by decide +kernel), if_neg (c := nI 108 = 106) (by decide +kernel), if_neg (c := nI 108 = 107) (by decide +kernel), if_pos (c := nI 108 = 108) (by decide +kernel)]
    · rw [if_neg (c := nI 108 = 99) (by decide +kernel), if_neg (c := nI 108 = 102) (by decide +kernel), if_neg (c := nI 108 = 104) (by decide +kernel), if_pos (c := nI 108 = 108) (by decide +kernel)]
    · rw [if_neg (c := nI 108 = 99) (by decide +kernel), if_neg (c := nI 108 = 100) (by decide +kernel), if_neg (c := nI 108 = 101) (by decide +kernel), if_neg (c := nI 108 = 102) (by decide +kernel), if_neg (c := nI 108 = 103) (by decide +kernel), if_neg (c := nI 108 = 104) (by decide +kernel), if_neg (c := nI 108 = 105) (by decide +kernel), if_neg (c := nI 108 = 106) (by decide +kernel), if_neg (c := nI 108 = 107) (by decide +kernel), if_pos (c := nI 108 = 108) (by decide +kernel)]
    · rw [if_neg (c := nI 108 = 99) (by decide +kernel), if_neg (c := nI 108 = 102) (by decide +kernel), if_neg (c := nI 108 = 104) (by decide +kernel), if_pos (c := nI 108 = 108) (by decide +kernel)]
  · show zO b t u _ _ _ _
    refine zO_eq ?_ ?_ ?_ ?_ (by exact op_read h hN x)
    · rw [if_neg (c := nI 114 = 99) (by decide +kernel), if_neg (c := nI 114 = 100) (by decide +kernel), if_neg (c := nI 114 = 101) (by decide +kernel), if_neg (c := nI 114 = 102) (by decide +kernel), if_neg (c := nI 114 = 103) (by decide +kernel), if_neg (c := nI 114 = 104) (by decide +kernel), if_neg (c := nI 114 = 105) (by decide +kernel), if_neg (c := nI 114 = 106) (by decide +kernel), if_neg (c := nI 114 = 107) (by decide +kernel), if_neg (c := nI 114 = 108) (by decide +kernel), if_neg (c := nI 114 = 109) (by decide +kernel), if_neg (c := nI 114 = 110) (by decide +kernel), if_neg (c := nI 114 = 111) (by decide +kernel), if_neg (c := nI 114 = 112) (by decide +kernel), if_neg (c := nI 114 = 113) (by decide +kernel), if_pos (c := nI 114 = 114) (by decide +kernel)]
    · rw [if_neg (c := nI 114 = 99) (by decide +kernel), if_neg (c := nI 114 = 102) (by decide +kernel), if_neg (c := nI 114 = 104) (by decide +kernel), if_neg (c := nI 114 = 108) (by decide +kernel), if_pos (c := nI 114 = 114) (by decide +kernel)]
    · rw [if_neg (c := nI 114 = 99) (by decide +kernel), if_neg (c := nI 114 = 100) (by decide +kernel), if_neg (c := nI 114 = 101) (by decide +kernel), if_neg (c := nI 114 = 102) (by decide +kernel), if_neg (c := nI 114 = 103) (by decide +kernel), if_neg (c := nI 114 = 104) (by decide +kernel), if_neg (c := nI 114 = 105) (by decide +kernel), if_neg (c := nI 114 = 106) (by decide +kernel), if_neg (c := nI 114 = 107) (by decide +kernel), if_neg (c := nI 114 = 108) (by decide +kernel), if_neg (c := nI 114 = 109) (by decide +kernel), if_neg (c := nI 114 = 110) (by decide +kernel), if_neg (c := nI 114 = 111) (by decide +kernel), if_neg (c := nI 114 = 112) (by decide +kernel), if_neg (c := nI 114 = 113) (by decide +kernel), if_pos (c := nI 114 = 114) (by decide +kernel)]
    · rw [if_neg (c := nI 114 = 99) (by decide +kernel), if_neg (c := nI 114 = 102) (by decide +kernel), if_neg (c := nI 114 = 104) (by decide +kernel), if_neg (c := nI 114 = 108) (by decide +kernel), if_pos (c := nI 114 = 114) (by decide +kernel)]
end ZDO
theorem zX.fr {b L p : Nat} {t u S V : zM} {c : Nat → Nat} (h : zX b t u L p c) (h1 : S b 1 = t b 1) (h2 : S b 2 = t b 2) (h3 : S (b + 1) = t (b + 1)) (h4 : V 0 7 = u 0 7) (h5 : V 0 9 = u 0 9) (h6 : V 5 = u 5) : zX b S V L p c := by
  obtain ⟨hL, hp, e1, e2, e3, e4, hc⟩ := h
  exact ⟨hL, hp, h1.trans e1, h4.trans e2, h2.trans e3, h5.trans e4, fun i hi => ⟨(hc i hi).1, (hc i hi).2.1, by rw [h3]; exact (hc i hi).2.2.1, by rw [h6]; exact (hc i hi).2.2.2⟩⟩
/-- how both end -/
def zEn (u0 : zM) (T : zM) (v : Int32) (V : zM) : Prop := (∃ H N Q P, N ≤ 9999 ∧ zT H N (fun _ => N) Q P 38 T V) ∧ V 0 5 = 0 ∧ V 2 = u0 2 ∧ V 0 4 = u0 0 4 ∧ ((v = 1 ∧ T 268 8 = 0 ∧ ∃ d, d ≤ 60 ∧ T 268 7 = nI d ∧ V 0 13 = nI d) ∨ (v = 0 ∧ ¬ T 268 8 = 0 ∧ T 268 6 = V 0 10 ∧ T 268 8 = V 0 11 ∧ T 268 9 = V 0 12))
theorem play_out (u0 : zM) (j2 k2 : Nat) (W : zM) : lX7_plays_22 u0 (j2 + 1) 0 k2 W = 0 ∧ lsX7_plays_22 u0 (j2 + 1) 0 k2 W = zset W 0 5 0 := by
  rw [lX7_plays_22, lsX7_plays_22]
  rw [if_pos (c := (0 : Int32) = 0) rfl, if_pos (c := (0 : Int32) = 0) rfl, ite_self, ite_self]
  exact ⟨rfl, rfl⟩
set_option maxHeartbeats 2000000 in
theorem do_loop {L : Nat} {c : Nat → Nat} (t0 u0 : zM) : ∀ (j j2 k2 d p : Nat) (t u : zM), L - p < j → L - p + 1 < j2 → d ≤ p → zX 268 t u L p c → (∃ H N Q P, N ≤ 9999 ∧ zT H N (fun _ => N) Q P 38 t u) → u 0 5 = 1 → t 268 7 = nI d → u 0 13 = nI d → t 268 8 = 0 → u 2 = u0 2 → u 0 4 = u0 0 4 → zEn u0 (lsX3_doAllIn_22 268 t0 38 j d t) (lX7_plays_22 u0 j2 1 k2 u) (lsX7_plays_22 u0 j2 1 k2 u) := by
  intro j
  induction j with
  | zero => intro j2 k2 d p t u hj; omega
  | succ j ih =>
    intro j2 k2 d p t u hj hj2 hd hx hz h5 h7 h13 h8 h2 h4
    cases j2 with
    | zero => omega
    | succ j2 =>
    have hL := hx.1
    have hp := hx.2.1
    have x1 := hx.2.2.1
    have x2 := hx.2.2.2.1
    have x3 := hx.2.2.2.2.1
    have x4 := hx.2.2.2.2.2.1
    obtain ⟨H, N, Q, P, hN, hT⟩ := hz
    rw [lsX3_doAllIn_22, lX7_plays_22, lsX7_plays_22, h7, x1, x2, x3, x4]
    by_cases q : p = L
    · subst q
      rw [if_pos (c := nI p ≤ nI p) (Int32.le_refl _), if_pos (c := nI p ≤ nI p) (Int32.le_refl _), if_pos (c := nI p ≤ nI p) (Int32.le_refl _), ite_self]
      exact ⟨⟨H, N, Q, P, hN, hT.ru (fun x _ => zset_idk _ _ _ _ (by decide))⟩, zset_eq _ _ _ _, (zset_id _ _ _ (by decide)).trans h2, (zset_nk _ _ _ (by decide)).trans h4, Or.inl ⟨rfl, h8, d, by omega, h7, (zset_nk _ _ _ (by decide)).trans h13⟩⟩
    · have q1 : ¬ nI L ≤ nI p := fun x => absurd (zle (by omega) (by omega) x) (by omega)
      have q2 : ¬ (60 : Int32) ≤ nI d := fun x => absurd (zle (a := 60) (by decide) (by omega) x) (by omega)
      rw [if_neg q1, if_neg q1, if_neg q1, if_neg q2, if_neg (c := (1 : Int32) = 0) (by decide +kernel), if_neg (c := (1 : Int32) = 0) (by decide +kernel)]
      have hx0 : zX 268 (zset t 268 6 (nI p)) (zset u 0 10 (nI p)) L p c := (hx.putc _ (by decide)).putr _ (Or.inr ⟨rfl, by decide, by decide⟩)
      obtain ⟨⟨p', hpp, hx1, hr⟩, fc, fr⟩ := hx0.parse
      have tc : ∀ x, x ≠ 268 → sX3_takeOrder 268 (zset t 268 6 (nI p)) x = t x := fun x hx => funext fun y => (fc x y (Or.inl hx)).trans (zset_idk _ _ _ _ hx)
      have tk : ∀ y, (y < 2 ∨ 5 < y) → y ≠ 6 → sX3_takeOrder 268 (zset t 268 6 (nI p)) 268 y = t 268 y := fun y hy h6 => (fc 268 y (Or.inr hy)).trans (zset_nk _ _ _ h6)
      have t6 : sX3_takeOrder 268 (zset t 268 6 (nI p)) 268 6 = nI p := (fc 268 6 (Or.inr (Or.inr (by decide)))).trans (zset_eq _ _ _ _)
      have uc : ∀ x, x ≠ 0 → x ≠ 7 → sX7_parses (zset u 0 10 (nI p)) x = u x := fun x h0 h7 => funext fun y => (fr x y h7 (Or.inl h0)).trans (zset_idk _ _ _ _ h0)
      have uk : ∀ y, y ≠ 9 → y ≠ 14 → y ≠ 10 → sX7_parses (zset u 0 10 (nI p)) 0 y = u 0 y := fun y h9 h14 h10 => (fr 0 y (by decide) (Or.inr ⟨h9, h14⟩)).trans (zset_nk _ _ _ h10)
      have u10 : sX7_parses (zset u 0 10 (nI p)) 0 10 = nI p := (fr 0 10 (by decide) (Or.inr (by decide))).trans (zset_eq _ _ _ _)
      generalize rX3_takeOrder 268 (zset t 268 6 (nI p)) = R at *
      generalize sX3_takeOrder 268 (zset t 268 6 (nI p)) = T1 at *
      generalize rX7_parses (zset u 0 10 (nI p)) = R' at *
      generalize sX7_parses (zset u 0 10 (nI p)) = U1 at *
      have hT1 : zT H N (fun _ => N) Q P 38 T1 U1 := (hT.fr (fun x hx1 hx2 => tc x (by omega))).ru (fun x _ => by rw [uc 1 (by decide) (by decide)])
      have y2 := hx1.2.2.2.2.1
      have y9 := hx1.2.2.2.2.2.1
      cases j2 with
      | zero => omega
      | succ j2 =>
      rcases hr with ⟨r1, r2⟩ | ⟨r1, r2, hlt, l, hl, a3, a14, a4, a5⟩
      · rw [if_pos r1, if_pos r2, if_pos r2, (play_out u0 j2 (k2 + 1) _).1, (play_out u0 j2 (k2 + 1) _).2]
        refine ⟨⟨H, N, Q, P, hN, (hT1.fr (fun x hx1 hx2 => by rw [zset_id _ _ _ (by omega), zset_id _ _ _ (by omega)])).ru (fun x _ => by rw [zset_idk _ _ _ _ (by decide), zset_idk _ _ _ _ (by decide), zset_idk _ _ _ _ (by decide), zset_idk _ _ _ _ (by decide)])⟩, zset_eq _ _ _ _, ?_, ?_, Or.inr ⟨rfl, ?_, ?_, ?_, ?_⟩⟩
        · rw [zset_id _ _ _ (by decide), zset_id _ _ _ (by decide), zset_id _ _ _ (by decide), zset_id _ _ _ (by decide), uc 2 (by decide) (by decide)]; exact h2
        · rw [zset_nk _ _ _ (by decide), zset_nk _ _ _ (by decide), zset_nk _ _ _ (by decide), zset_nk _ _ _ (by decide), uk 4 (by decide) (by decide) (by decide)]; exact h4
        · rw [zset_nk _ _ _ (by decide), zset_eq]; decide +kernel
        · rw [zset_nk _ _ _ (by decide), zset_nk _ _ _ (by decide), t6, zset_nk _ _ _ (by decide), zset_nk _ _ _ (by decide), zset_nk _ _ _ (by decide), zset_nk _ _ _ (by decide), u10]
        · rw [zset_nk _ _ _ (by decide), zset_eq, zset_nk _ _ _ (by decide), zset_nk _ _ _ (by decide), zset_nk _ _ _ (by decide), zset_eq]
        · rw [zset_eq, zset_nk _ _ _ (by decide), zset_nk _ _ _ (by decide), zset_eq, y2, y9, u10]
      · have eN : (T1 38 5).toNatClampNeg = N := by rw [hT1.h5, nI_clamp (by omega)]
        have eN' : (u 1 400).toNatClampNeg = N := by rw [hT.m5, nI_clamp (by omega)]
        have fk := sX5_obey_K (hT1.ok hN) hT1.bits (T1 268 3) (T1 268 4) (T1 268 5)
        rw [eN] at fk
        rw [if_neg r1, if_neg r2, if_neg r2, eN, eN']
        have hz := obey_does hT1 hN hl (x := T1 268 4) (y := T1 268 5) a14 a4.symm (fun q => (a5 q).symm)
        rw [a3] at fk ⊢
        have run : ¬ U1 0 5 = 0 := by rw [uk 5 (by decide) (by decide) (by decide), h5]; decide +kernel
        have so : ∀ x, x < 38 ∨ 76 ≤ x → sX5_obey 38 T1 (nI l) (T1 268 4) (T1 268 5) N x = T1 x := fun x hx => fk.2.2 x (by omega)
        obtain ⟨er, hz⟩ := hz
        rw [← er]
        generalize rX5_obey 38 T1 (nI l) (T1 268 4) (T1 268 5) N = r at *
        generalize sX5_obey 38 T1 (nI l) (T1 268 4) (T1 268 5) N = S at *
        generalize sX7_does U1 N = V at *
        rcases hz with ⟨g1, g2, g3⟩ | ⟨g1, g2, g3⟩
        · subst g2; subst g3
          rw [if_neg (znl.mpr g1), if_pos g1, if_pos g1, (play_out u0 j2 (k2 + 1) _).1, (play_out u0 j2 (k2 + 1) _).2]
          refine ⟨⟨H, N, Q, P, hN, (hT1.fr (fun x hx1 hx2 => by rw [zset_id _ _ _ (by omega), zset_id _ _ _ (by omega)])).ru (fun x _ => by rw [zset_idk _ _ _ _ (by decide), zset_idk _ _ _ _ (by decide), zset_idk _ _ _ _ (by decide), zset_idk _ _ _ _ (by decide)])⟩, zset_eq _ _ _ _, ?_, ?_, Or.inr ⟨rfl, ?_, ?_, ?_, ?_⟩⟩
          · rw [zset_id _ _ _ (by decide), zset_id _ _ _ (by decide), zset_id _ _ _ (by decide), zset_id _ _ _ (by decide), uc 2 (by decide) (by decide)]; exact h2
          · rw [zset_nk _ _ _ (by decide), zset_nk _ _ _ (by decide), zset_nk _ _ _ (by decide), zset_nk _ _ _ (by decide), uk 4 (by decide) (by decide) (by decide)]; exact h4
          · rw [zset_nk _ _ _ (by decide), zset_eq]; decide +kernel
          · rw [zset_nk _ _ _ (by decide), zset_nk _ _ _ (by decide), t6, zset_nk _ _ _ (by decide), zset_nk _ _ _ (by decide), zset_nk _ _ _ (by decide), zset_nk _ _ _ (by decide), u10]
          · rw [zset_nk _ _ _ (by decide), zset_eq, zset_nk _ _ _ (by decide), zset_nk _ _ _ (by decide), zset_nk _ _ _ (by decide), zset_eq]
          · rw [zset_eq, zset_nk _ _ _ (by decide), zset_nk _ _ _ (by decide), zset_eq]
        · have g3' : ∀ x, x ≠ 1 → x ≠ 6 → V x = U1 x := fun x h1 h6 => by rw [g3 x h1 h6, sX7_changes_run run]
          rw [if_pos (znlt.mp g1), if_neg g1, if_neg g1, nI_1]
          have v0 := g3' 0 (by decide) (by decide)
          have v13 : V 0 13 = nI d := by rw [v0, uk 13 (by decide) (by decide) (by decide)]; exact h13
          rw [v13, nI_1]
          obtain ⟨H', N', Q', P', hN', hT'⟩ := g2
          refine ih (j2 + 1) (k2 + 1) (d + 1) p' _ _ (by omega) (by omega) (by omega) ?_ ⟨H', N', Q', P', hN', (hT'.fr (fun x hx1 hx2 => zset_id _ _ _ (by omega))).ru (fun x _ => by rw [zset_idk _ _ _ _ (by decide), zset_idk _ _ _ _ (by decide), zset_idk _ _ _ _ (by decide)])⟩ ?_ (zset_eq _ _ _ _) (zset_eq _ _ _ _) ?_ ?_ ?_
          · refine hx1.fr ?_ ?_ ?_ ?_ ?_ ?_
            · rw [zset_nk _ _ _ (by decide), so 268 (by decide)]
            · rw [zset_nk _ _ _ (by decide), so 268 (by decide)]
            · rw [zset_id _ _ _ (by decide), so 269 (by decide)]
            · rw [zset_nk _ _ _ (by decide), zset_nk _ _ _ (by decide), zset_nk _ _ _ (by decide), v0]
            · rw [zset_nk _ _ _ (by decide), zset_nk _ _ _ (by decide), zset_nk _ _ _ (by decide), v0]
            · rw [zset_id _ _ _ (by decide), zset_id _ _ _ (by decide), zset_id _ _ _ (by decide)]; exact g3' 5 (by decide) (by decide)
          · rw [zset_nk _ _ _ (by decide), zset_nk _ _ _ (by decide), zset_nk _ _ _ (by decide), v0, uk 5 (by decide) (by decide) (by decide)]; exact h5
          · rw [zset_nk _ _ _ (by decide), so 268 (by decide), tk 8 (Or.inr (by decide)) (by decide)]; exact h8
          · rw [zset_id _ _ _ (by decide), zset_id _ _ _ (by decide), zset_id _ _ _ (by decide), g3' 2 (by decide) (by decide), uc 2 (by decide) (by decide)]; exact h2
          · rw [zset_nk _ _ _ (by decide), zset_nk _ _ _ (by decide), zset_nk _ _ _ (by decide), v0, uk 4 (by decide) (by decide) (by decide)]; exact h4
/-- the text, on both sides -/
def zTx (t u : zM) : Prop := ∃ (L : Nat) (c : Nat → Nat), L ≤ 60 ∧ t 268 1 = nI L ∧ u 0 7 = nI L ∧ ∀ i, i < L → 32 ≤ c i ∧ c i ≤ 126 ∧ t 269 i = nI (c i) ∧ u 5 i = nI (c i)
theorem do_both {t u : zM} (hx : zTx t u) (hz : ∃ H N Q P, N ≤ 9999 ∧ zT H N (fun _ => N) Q P 38 t u) : zEn u (sX3_doAllIn 268 t 38) (rX7_plays u) (sX7_plays u) := by
  obtain ⟨L, c, hL, e1, e2, hc⟩ := hx
  obtain ⟨H, N, Q, P, hN, hT⟩ := hz
  unfold sX3_doAllIn rX7_plays sX7_plays
  have r := do_loop (L := L) (c := c) t u 61 62 0 0 0 (zset (zset (zset (zset t 268 2 0) 268 8 0) 268 9 0) 268 7 0) (zset (zset (zset (zset u 0 5 1) 0 9 0) 0 10 0) 0 13 0) (by omega) (by omega) (Nat.le_refl _) ?_ ⟨H, N, Q, P, hN, (hT.fr (fun x hx1 hx2 => by rw [zset_id _ _ _ (by omega), zset_id _ _ _ (by omega), zset_id _ _ _ (by omega), zset_id _ _ _ (by omega)])).ru (fun x _ => by rw [zset_idk _ _ _ _ (by decide), zset_idk _ _ _ _ (by decide), zset_idk _ _ _ _ (by decide), zset_idk _ _ _ _ (by decide)])⟩ ?_ (zset_eq _ _ _ _) (zset_eq _ _ _ _) ?_ ?_ ?_
  · exact r
  · refine ⟨hL, Nat.zero_le _, ?_, ?_, ?_, ?_, fun i hi => ⟨(hc i hi).1, (hc i hi).2.1, ?_, ?_⟩⟩
    · rw [zset_nk _ _ _ (by decide), zset_nk _ _ _ (by decide), zset_nk _ _ _ (by decide), zset_nk _ _ _ (by decide)]; exact e1
    · rw [zset_nk _ _ _ (by decide), zset_nk _ _ _ (by decide), zset_nk _ _ _ (by decide), zset_nk _ _ _ (by decide)]; exact e2
    · rw [zset_nk _ _ _ (by decide), zset_nk _ _ _ (by decide), zset_nk _ _ _ (by decide), zset_eq]; rfl
    · rw [zset_nk _ _ _ (by decide), zset_nk _ _ _ (by decide), zset_eq]; rfl
    · rw [zset_idk _ _ _ _ (by decide), zset_idk _ _ _ _ (by decide), zset_idk _ _ _ _ (by decide), zset_idk _ _ _ _ (by decide)]; exact (hc i hi).2.2.1
    · rw [zset_idk _ _ _ _ (by decide), zset_idk _ _ _ _ (by decide), zset_idk _ _ _ _ (by decide), zset_idk _ _ _ _ (by decide)]; exact (hc i hi).2.2.2
  · rw [zset_nk _ _ _ (by decide), zset_nk _ _ _ (by decide), zset_nk _ _ _ (by decide), zset_eq]
  · rw [zset_nk _ _ _ (by decide), zset_nk _ _ _ (by decide), zset_eq]
  · rw [zset_id _ _ _ (by decide), zset_id _ _ _ (by decide), zset_id _ _ _ (by decide), zset_id _ _ _ (by decide)]
  · rw [zset_nk _ _ _ (by decide), zset_nk _ _ _ (by decide), zset_nk _ _ _ (by decide), zset_nk _ _ _ (by decide)]
