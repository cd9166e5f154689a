/-! the law's act: it answers 1, and keeps all alike -/
theorem zLR.mono {E E1 : Nat} {t : zM} (h : zLR E t) (le : E ≤ E1) : zLR E1 t := by
  obtain ⟨u, H, N, Q, P, a1, a2, a3, a4, a5, a6⟩ := h
  exact ⟨u, H, N, Q, P, a1, a2, a3, a4, by omega, a6⟩
theorem lQ_e {y : Nat} (hy : y < 2 ^ 31) : ∃ q, q < 4 ∧ lQ y = nI q := by
  have e3 : zrem (nI (y / 16)) 3 = nI (y / 16 % 3) := zrem_n (b := 3) (by omega) (by decide) (by decide)
  have d3 : nI (y / 16) / 3 = nI (y / 16 / 3) := nI_div (b := 3) (by omega) (by decide)
  have e4 : zrem (nI (y / 16 / 3)) 4 = nI (y / 16 / 3 % 4) := zrem_n (b := 4) (by omega) (by decide) (by decide)
  unfold lQ
  rw [d3, e4]
  split
  · exact ⟨y / 16 / 3 % 4, by omega, rfl⟩
  · exact ⟨1, by decide, rfl⟩
theorem lP_e {y : Nat} (hy : y < 2 ^ 31) : ∃ p, 1 ≤ p ∧ p ≤ 20 ∧ lP y = nI p := by
  have d3 : nI (y / 16) / 12 = nI (y / 16 / 12) := nI_div (b := 12) (by omega) (by decide)
  have e4 : zrem (nI (y / 16 / 12)) 20 = nI (y / 16 / 12 % 20) := zrem_n (b := 20) (by omega) (by decide) (by decide)
  unfold lP
  rw [d3, e4]
  exact ⟨1 + y / 16 / 12 % 20, by omega, by omega, nI_add 1 _⟩
theorem lLo_b (y : Nat) : lLo y = 0 ∨ lLo y = 1 := ite01
theorem lSv_r {y : Nat} (hy : y < 2 ^ 31) : ¬ lSv y < rX7_least (nI (y % 4)) ∧ ¬ rX7_most (nI (y % 4)) < lSv y := by
  have e6 : zrem (nI (y / 16)) 6 = nI (y / 16 % 6) := zrem_n (b := 6) (by omega) (by decide) (by decide)
  have e50 : zrem (nI (y / 16)) 50 = nI (y / 16 % 50) := zrem_n (b := 50) (by omega) (by decide) (by decide)
  have e99 : zrem (nI (y / 16)) 99 = nI (y / 16 % 99) := zrem_n (b := 99) (by omega) (by decide) (by decide)
  have e30 : zrem (nI (y / 16)) 30 = nI (y / 16 % 30) := zrem_n (b := 30) (by omega) (by decide) (by decide)
  have a50 : 1 + nI (y / 16 % 50) = nI (1 + y / 16 % 50) := nI_add 1 _
  have a99 : 1 + nI (y / 16 % 99) = nI (1 + y / 16 % 99) := nI_add 1 _
  have a30 : 5 + nI (y / 16 % 30) = nI (5 + y / 16 % 30) := nI_add 5 _
  have key : ∀ L M V : Nat, L < 1000 → M < 1000 → L ≤ V → V ≤ M → ∀ l m v : Int32, l = nI L → m = nI M → v = nI V → ¬ v < l ∧ ¬ m < v := fun L M V hL hM h1 h2 l m v el em ev => by
    rw [el, em, ev]
    exact ⟨fun q => absurd (zlt (by omega) (by omega) q) (by omega), fun q => absurd (zlt (by omega) (by omega) q) (by omega)⟩
  unfold lSv
  rw [e6, e50, e99, e30, a50, a99, a30]
  rcases (show y % 4 = 0 ∨ y % 4 = 1 ∨ y % 4 = 2 ∨ y % 4 = 3 by omega) with e | e | e | e <;> rw [e]
  · rw [if_pos (show nI 0 = 0 from rfl)]
    exact key 0 12 (y / 16 % 6) (by decide) (by decide) (by omega) (by omega) _ _ _ (by decide +kernel) (by decide +kernel) rfl
  · rw [if_neg (show ¬ nI 1 = 0 by decide +kernel), if_pos (show nI 1 = 1 from rfl)]
    exact key 1 50 (1 + y / 16 % 50) (by decide) (by decide) (by omega) (by omega) _ _ _ (by decide +kernel) (by decide +kernel) rfl
  · rw [if_neg (show ¬ nI 2 = 0 by decide +kernel), if_neg (show ¬ nI 2 = 1 by decide +kernel), if_pos (show nI 2 = 2 from rfl)]
    exact key 1 99 (1 + y / 16 % 99) (by decide) (by decide) (by omega) (by omega) _ _ _ (by decide +kernel) (by decide +kernel) rfl
  · rw [if_neg (show ¬ nI 3 = 0 by decide +kernel), if_neg (show ¬ nI 3 = 1 by decide +kernel), if_neg (show ¬ nI 3 = 2 by decide +kernel)]
    exact key 5 400 (5 + y / 16 % 30) (by decide) (by decide) (by omega) (by omega) _ _ _ (by decide +kernel) (by decide +kernel) rfl
section LJ
variable {H N E : Nat} {Q P : Nat → Nat} {t u : zM}
set_option maxHeartbeats 4000000 in
theorem acted (hz : zRl t u) (hA : lA t u) (h : zT H N (fun _ => N) Q P 0 t u) (hH : H ≤ 16) (hN : N ≤ E) (hE : E + 60 ≤ 9000) (hI : lI H t) {way y : Nat} (hw : way < 1000) (hy : y < 2 ^ 31) : rL_isActed t H way y N = 1 ∧ zLR (E + 60) (sL_isActed t H way y N) := by
  have e1 : t 277 1 = nI H := (hA.rt (by decide)).trans h.m4
  have hk16 : y % 16 < 16 := Nat.mod_lt y (by decide)
  have eF : zrem (nI (y / 16)) 1000 = nI (y / 16 % 1000) := zrem_n (b := 1000) (by omega) (by decide) (by decide)
  have wle : ∀ b, b < 1000 → b ≤ way → nI b ≤ nI way := fun b h1 h2 => (nI_leI (by omega) (by omega)).mpr h2
  have wnl : ∀ b, b < 1000 → way < b → ¬ nI b ≤ nI way := fun b h1 h2 q => absurd (zle (by omega) (by omega) q) (by omega)
  have wne : ∀ b, b < 1000 → way ≠ b → ¬ nI way = nI b := fun b h1 h2 q => h2 ((nI_eq (by omega) (by omega)).mp q)
  have fl : ∀ k, k < H → rX6_flow (zset t 272 (4 * k + 1) (nI (y / 16 % 1000))) (nI k) (nI (y / 16 % 1000)) = t 272 (4 * k + 1) ∧ zLR (E + 60) (sX6_flow (zset t 272 (4 * k + 1) (nI (y / 16 % 1000))) (nI k) (nI (y / 16 % 1000))) := fun k hk => by
    obtain ⟨r1, r2⟩ := act_flow hz hA h hH hN (by omega) hI hk (show y / 16 % 1000 ≤ 999 by omega)
    exact ⟨r1, r2.mono (by omega)⟩
  unfold rL_isActed sL_isActed
  rw [eF]
  by_cases w5 : way < 5
  · rw [if_neg (show ¬ (5 : Int32) ≤ nI way from wnl 5 (by decide) w5), if_neg (show ¬ (5 : Int32) ≤ nI way from wnl 5 (by decide) w5)]
    by_cases h16 : H = 16
    · subst h16
      rw [if_pos (show t 277 1 = 16 from e1), if_pos (show t 277 1 = 16 from e1)]
      exact ⟨rfl, u, 16, N, Q, P, hz, hA, h, hH, by omega, hI⟩
    · have n16 : ¬ t 277 1 = 16 := fun e => h16 ((nI_eq (b := 16) (by omega) (by decide)).mp (e1.symm.trans e))
      rw [if_neg n16, if_neg n16]
      obtain ⟨q, hq, eq⟩ := lQ_e hy
      obtain ⟨p, hp1, hp2, ep⟩ := lP_e hy
      by_cases ht : rL_at t (nI q) (nI p) < 0
      · have k0 : lTk t y = 0 := by
          unfold lTk
          rw [eq, ep, if_pos ht]
        rw [if_pos k0, if_pos k0, eq, ep]
        obtain ⟨r1, r2⟩ := act_house hz hA h (show H < 16 by omega) hN (show E ≤ 9999 by omega) hI hq hp1 hp2 ht rfl
        rw [if_pos r1, ite_self]
        exact ⟨rfl, r2.mono (by omega)⟩
      · have k0 : ¬ lTk t y = 0 := by
          unfold lTk
          rw [eq, ep, if_neg ht]
          decide +kernel
        rw [if_neg k0, if_neg k0, eq, ep]
        obtain ⟨r1, r2⟩ := act_housen hz hA h hH hN (show E ≤ 9999 by omega) hI hq hp1 hp2 ht
        rw [if_pos r1, ite_self]
        exact ⟨rfl, r2.mono (by omega)⟩
  · rw [if_pos (show (5 : Int32) ≤ nI way from wle 5 (by decide) (by omega)), if_pos (show (5 : Int32) ≤ nI way from wle 5 (by decide) (by omega))]
    by_cases w16 : way < 16
    · rw [if_neg (show ¬ (16 : Int32) ≤ nI way from wnl 16 (by decide) w16), if_neg (show ¬ (16 : Int32) ≤ nI way from wnl 16 (by decide) w16), e1]
      by_cases hk : y % 16 < H
      · rw [if_pos ((nI_ltI (by omega) (by omega)).mpr hk), if_pos ((nI_ltI (by omega) (by omega)).mpr hk)]
        by_cases w9 : way < 9
        · rw [if_neg (show ¬ (9 : Int32) ≤ nI way from wnl 9 (by decide) w9), if_neg (show ¬ (9 : Int32) ≤ nI way from wnl 9 (by decide) w9)]
          obtain ⟨r1, r2⟩ := fl _ hk
          rw [if_pos r1, ite_self]
          exact ⟨rfl, r2⟩
        · rw [if_pos (show (9 : Int32) ≤ nI way from wle 9 (by decide) (by omega)), if_pos (show (9 : Int32) ≤ nI way from wle 9 (by decide) (by omega))]
          by_cases we9 : way = 9
          · rw [if_pos (show nI way = 9 from congrArg nI we9), if_pos (show nI way = 9 from congrArg nI we9)]
            obtain ⟨r1, r2⟩ := act_lock hz hA h hH hN (show E ≤ 9999 by omega) hI hk (lLo_b y)
            rw [if_pos r1, ite_self]
            exact ⟨rfl, r2.mono (by omega)⟩
          · rw [if_neg (show ¬ nI way = 9 from wne 9 (by decide) we9), if_neg (show ¬ nI way = 9 from wne 9 (by decide) we9)]
            by_cases w14 : way < 14
            · rw [if_neg (show ¬ (14 : Int32) ≤ nI way from wnl 14 (by decide) w14), if_neg (show ¬ (14 : Int32) ≤ nI way from wnl 14 (by decide) w14)]
              by_cases hy2 : rL_why t (y % 16) ≤ 0
              · obtain ⟨r1, r2⟩ := act_read hz hA h hH hN (show E ≤ 9999 by omega) hI hk hy2
                rw [if_pos hy2, if_pos hy2, if_pos r1, ite_self]
                exact ⟨rfl, r2.mono (by omega)⟩
              · obtain ⟨r1, r2⟩ := act_readn hz hA h hH hN (show E ≤ 9999 by omega) hI hk hy2
                rw [if_neg hy2, if_neg hy2, if_pos r1, ite_self]
                exact ⟨rfl, r2.mono (by omega)⟩
            · rw [if_pos (show (14 : Int32) ≤ nI way from wle 14 (by decide) (by omega)), if_pos (show (14 : Int32) ≤ nI way from wle 14 (by decide) (by omega))]
              obtain ⟨r1, r2⟩ := act_change hz hA h hH hN (show E ≤ 9999 by omega) hI hk
              rw [if_pos r1, ite_self]
              exact ⟨rfl, r2.mono (by omega)⟩
      · have nk : ¬ nI (y % 16) < nI H := fun q => hk (zlt (by omega) (by omega) q)
        rw [if_neg nk, if_neg nk]
        obtain ⟨r1, r2, r3, r4, r5⟩ := act_none hz hA h hH hN (show E ≤ 9999 by omega) hI (k := y % 16) (by omega) (by omega)
        rw [if_pos r1, if_pos r1, if_pos r2, if_pos r2, if_pos r3, if_pos r3, if_pos r4, ite_self]
        exact ⟨rfl, r5.mono (by omega)⟩
    · rw [if_pos (show (16 : Int32) ≤ nI way from wle 16 (by decide) (by omega)), if_pos (show (16 : Int32) ≤ nI way from wle 16 (by decide) (by omega)), if_pos (show (9 : Int32) ≤ nI way from wle 9 (by decide) (by omega)), if_pos (show (9 : Int32) ≤ nI way from wle 9 (by decide) (by omega)), if_neg (show ¬ nI way = 9 from wne 9 (by decide) (by omega)), if_neg (show ¬ nI way = 9 from wne 9 (by decide) (by omega)), if_pos (show (14 : Int32) ≤ nI way from wle 14 (by decide) (by omega)), if_pos (show (14 : Int32) ≤ nI way from wle 14 (by decide) (by omega))]
      by_cases we : way = 16
      · rw [if_pos (show nI way = 16 from congrArg nI we), if_pos (show nI way = 16 from congrArg nI we)]
        have hs := lSv_r hy
        obtain ⟨r1, r2⟩ := act_set hz hA h hH hN (show E ≤ 9999 by omega) hI (i := y % 4) (by omega) hs.1 hs.2
        rw [if_pos r1, ite_self]
        exact ⟨rfl, r2.mono (by omega)⟩
      · rw [if_neg (show ¬ nI way = 16 from wne 16 (by decide) we), if_neg (show ¬ nI way = 16 from wne 16 (by decide) we)]
        exact act_days hz hA h hH hN hE hI H way y
end LJ
