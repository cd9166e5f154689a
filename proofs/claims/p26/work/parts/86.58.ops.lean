theorem in_e (a lo hi : Int32) : rX7_in a lo hi = if a < lo then 0 else if hi < a then 0 else 1 := rfl
theorem in_ok {a lo hi : Int32} (h1 : ¬ a < lo) (h2 : ¬ hi < a) : ¬ rX7_in a lo hi = 0 := by
  rw [in_e, if_neg h1, if_neg h2]
  decide +kernel
theorem in_lo {a lo hi : Int32} (h1 : a < lo) : rX7_in a lo hi = 0 := by rw [in_e, if_pos h1]
theorem in_hi {a lo hi : Int32} (h2 : hi < a) : rX7_in a lo hi = 0 := by
  rw [in_e, if_pos h2, ite_self]
section ZOP
variable {H N : Nat} {ρ Q P : Nat → Nat} {b : Nat} {t u : zM}
theorem zT.ish (h : zT H N ρ Q P b t u) (a : Int32) : (zin (t b 4) a ∧ ¬ rX7_isHouse u a = 0 ∧ ∃ k, k < H ∧ a = nI k) ∨ (¬ zin (t b 4) a ∧ rX7_isHouse u a = 0) := by
  have hH := h.Hl
  unfold rX7_isHouse
  rw [h.h4, h.m4]
  have e1 : nI H - 1 = Int32.ofInt ((H : Int) - 1) := by
    rw [zoI, show (1 : Int32) = Int32.ofInt 1 from by decide +kernel, ← Int32.ofInt_sub]
  rw [e1]
  by_cases c : a < 0
  · exact Or.inr ⟨fun q => q.1 c, in_lo c⟩
  · obtain ⟨j, hj, rfl⟩ := nI_of c
    have e2 : Int32.ofInt ((H : Int) - 1) < nI j ↔ H ≤ j := by
      rw [zoI j, zoT (by omega) (by omega) (by omega) (by omega)]
      omega
    by_cases c2 : j < H
    · exact Or.inl ⟨⟨c, (nI_ltI (by omega) (by omega)).mpr c2, (nI_ltI (b := 24) (by omega) (by decide)).mpr (by omega)⟩, in_ok c (fun q => absurd (e2.mp q) (by omega)), j, c2, rfl⟩
    · exact Or.inr ⟨fun q => c2 (zlt (by omega) (by omega) q.2.1), in_hi (e2.mpr (by omega))⟩
theorem ch1 (u : zM) : sX7_changes u 1 = u 1 := sX7_changes_o u (by decide) (by decide)
theorem zT.ch (h : zT H N ρ Q P b t u) : zT H N ρ Q P b t (sX7_changes u) := h.ru (fun x _ => congrFun (ch1 u) x)
/-- what both sides' change comes to: the same answer; and either an error, and nothing changed, or the towns agree again -/
def zO (b : Nat) (t u : zM) (r r' : Int32) (S V : zM) : Prop := r = r' ∧ ((r < 0 ∧ S = t ∧ V = u) ∨ (¬ r < 0 ∧ (∃ H N Q P, N ≤ 9999 ∧ zT H N (fun _ => N) Q P b S V) ∧ ∀ x, x ≠ 1 → x ≠ 6 → V x = sX7_changes u x))
theorem zO.err {b : Nat} {t u : zM} {r : Int32} (h : r < 0) : zO b t u r r t u := ⟨rfl, Or.inl ⟨h, rfl, rfl⟩⟩
theorem neg1 : (-1000001 : Int32) < 0 := by decide +kernel
theorem neg2 : (-1000002 : Int32) < 0 := by decide +kernel
theorem neg3 : (-1000003 : Int32) < 0 := by decide +kernel
theorem neg4 : (-1000004 : Int32) < 0 := by decide +kernel
theorem op_flow (h : zT H N (fun _ => N) Q P b t u) (hN : N ≤ 9999) (a1 a2 : Int32) : zO b t u (rX5_putFlow b t a1 a2) (rX7_flow u a1 a2) (sX5_putFlow b t a1 a2) (sX7_flow u a1 a2) := by
  have hH := h.Hl
  unfold rX5_putFlow sX5_putFlow rX7_flow sX7_flow
  rcases h.ish a1 with ⟨c1, c2, k, hk, rfl⟩ | ⟨c1, c2⟩
  · rw [if_pos c1, if_pos c1, if_neg c2, if_neg c2, nI_clamp (by omega)]
    by_cases c3 : a2 < 0
    · rw [if_pos c3, if_pos c3, if_pos (in_lo c3), if_pos (in_lo c3)]
      exact zO.err neg1
    · rw [if_neg c3, if_neg c3]
      by_cases c4 : a2 ≤ 999
      · have c5 : ¬ rX7_in a2 0 999 = 0 := in_ok c3 (znlt.mpr c4)
        rw [if_pos c4, if_pos c4, if_neg c5, if_neg c5]
        obtain ⟨a1, a2', ⟨F, hF, f1⟩, a4, a5, a6, a7⟩ := h.2.1.2.2.2.1 k (by omega)
        have e5 : u 1 (14 * k + 5) = t (b + 2 + k) 4 := h.1.1 k (by omega) 4 (by decide) (by decide)
        obtain ⟨F2, hj2, rfl⟩ := nI_of c3
        have hF2 : F2 ≤ 999 := zle (b := 999) hj2 (by decide) c4
        refine ⟨e5.symm, Or.inr ⟨by rw [f1]; exact nI_pos (by omega), ⟨H, N, Q, P, hN, h.ch.hs (f := 4) hk (by decide) (by decide) (by decide) rfl (fun _ _ _ => rfl) ⟨?_, ?_, ⟨F2, hF2, zset_eq _ _ _ _⟩, ?_, ?_, ?_, ?_⟩⟩, fun x hx _ => zset_id _ _ _ hx⟩⟩
        · rw [zset_nk _ _ _ (by decide)]; exact a1
        · rw [zset_nk _ _ _ (by decide)]; exact a2'
        · rw [zset_nk _ _ _ (by decide)]; exact a4
        · rw [zset_nk _ _ _ (by decide)]; exact a5
        · rw [zset_nk _ _ _ (by decide)]; exact a6
        · rw [zset_nk _ _ _ (by decide)]; exact a7
      · have c5 : rX7_in a2 0 999 = 0 := in_hi (znl.mp c4)
        rw [if_neg c4, if_neg c4, if_pos c5, if_pos c5]
        exact zO.err neg1
  · rw [if_neg c1, if_neg c1, if_pos c2, if_pos c2]
    exact zO.err neg1
theorem op_lock (h : zT H N (fun _ => N) Q P b t u) (hN : N ≤ 9999) (a1 a2 : Int32) (hb : a2 = 0 ∨ a2 = 1) : zO b t u (rX5_putLock b t a1 a2) (rX7_lock u a1 a2) (sX5_putLock b t a1 a2) (sX7_lock u a1 a2) := by
  have hH := h.Hl
  unfold rX5_putLock sX5_putLock rX7_lock sX7_lock
  rcases h.ish a1 with ⟨c1, c2, k, hk, rfl⟩ | ⟨c1, c2⟩
  · rw [if_pos c1, if_pos c1, if_neg c2, if_neg c2, nI_clamp (by omega), ite_self, ite_self]
    have e6 : u 1 (14 * k + 6) = t (b + 2 + k) 5 := h.1.1 k (by omega) 5 (by decide) (by decide)
    obtain ⟨a1, a2', a3, a4, a5, a6, a7⟩ := h.2.1.2.2.2.1 k (by omega)
    have er : (if t (b + 2 + k) 5 = 0 then (0 : Int32) else 1) = t (b + 2 + k) 5 := by
      rcases a4 with q | q
      · rw [q, if_pos rfl]
      · rw [q, if_neg (by decide +kernel)]
    have es : (if a2 = 0 then zset (sX7_changes u) 1 (14 * k + 6) 0 else zset (sX7_changes u) 1 (14 * k + 6) 1) = zset (sX7_changes u) 1 (14 * k + 6) a2 := by
      rcases hb with q | q
      · rw [q, if_pos rfl]
      · rw [q, if_neg (by decide +kernel)]
    rw [er, es, e6]
    refine ⟨rfl, Or.inr ⟨?_, ⟨H, N, Q, P, hN, h.ch.hs (f := 5) hk (by decide) (by decide) (by decide) rfl (fun _ _ _ => rfl) ⟨?_, ?_, ?_, ?_, ?_, ?_, ?_⟩⟩, fun x hx _ => zset_id _ _ _ hx⟩⟩
    · rcases a4 with q | q
      · rw [q]; decide +kernel
      · rw [q]; decide +kernel
    · rw [zset_nk _ _ _ (by decide)]; exact a1
    · rw [zset_nk _ _ _ (by decide)]; exact a2'
    · rw [zset_nk _ _ _ (by decide)]; exact a3
    · rw [zset_eq]; exact hb
    · rw [zset_nk _ _ _ (by decide)]; exact a5
    · rw [zset_nk _ _ _ (by decide)]; exact a6
    · rw [zset_nk _ _ _ (by decide)]; exact a7
  · rw [if_neg c1, if_neg c1, if_pos c2, if_pos c2]
    exact zO.err neg1
theorem reads_x (u : zM) (a : Int32) (k : Nat) : ∀ x, x ≠ 1 → x ≠ 6 → sX7_reads (sX7_changes u) a k x = sX7_changes u x := fun x hx _ => sX7_reads_o _ _ _ hx
theorem op_read (h : zT H N (fun _ => N) Q P b t u) (hN : N ≤ 9999) (a1 : Int32) : zO b t u (rX5_readIfOpen b t a1) (rX7_read u a1) (sX5_readIfOpen b t a1) (sX7_read u a1) := by
  have hH := h.Hl
  unfold rX5_readIfOpen sX5_readIfOpen rX7_read sX7_read
  rcases h.ish a1 with ⟨c1, c2, k, hk, rfl⟩ | ⟨c1, c2⟩
  · rw [if_pos c1, if_pos c1, if_neg c2, if_neg c2, nI_clamp (by omega)]
    have hbar := barred_eq h.1 (show k < 24 by omega) (h.2.1.2.2.2.1 k (by omega)).2.2.2.1
    rw [hbar]
    obtain ⟨r1, V, hV, r2, r3⟩ := h.ch.read (by omega) hk (nI k)
    by_cases c : rX1_reasonOn (b + 2 + k) t (t b 5) = 0
    · rw [if_pos c, if_pos c, c, if_pos (Int32.le_refl _), if_pos (Int32.le_refl _), r2, r3]
      exact ⟨rfl, Or.inr ⟨nI_pos (by omega), ⟨H, N, Q, P, hN, r1⟩, reads_x u _ k⟩⟩
    · have c3 : ¬ rX1_reasonOn (b + 2 + k) t (t b 5) ≤ 0 := by
        revert c
        unfold rX1_reasonOn
        split
        · split
          · intro _; decide +kernel
          · intro q; exact absurd rfl q
        · intro _; decide +kernel
      rw [if_neg c, if_neg c, if_neg c3, if_neg c3]
      exact zO.err neg2
  · rw [if_neg c1, if_neg c1, if_pos c2, if_pos c2]
    exact zO.err neg1
theorem op_change (h : zT H N (fun _ => N) Q P b t u) (hN : N ≤ 9999) (a1 : Int32) : zO b t u (rX5_changeMeter b t a1) (rX7_change u a1) (sX5_changeMeter b t a1) (sX7_change u a1) := by
  have hH := h.Hl
  unfold rX5_changeMeter sX5_changeMeter rX7_change sX7_change
  rcases h.ish a1 with ⟨c1, c2, k, hk, rfl⟩ | ⟨c1, c2⟩
  · rw [if_pos c1, if_pos c1, if_neg c2, if_neg c2, nI_clamp (by omega)]
    obtain ⟨r1, V, hV, r2, r3⟩ := h.ch.read (by omega) hk (nI k)
    have rx := reads_x u (nI k) k
    rw [r2, r3]
    generalize sX5_readMeter b t k (nI k) = S at *
    generalize sX7_reads (sX7_changes u) (nI k) k = W at *
    unfold sX1_renewMeter
    have e13 : W 1 (14 * k + 13) = S (b + 2 + k) 13 := r1.1.1 k (by omega) 13 (by decide) (by decide)
    obtain ⟨a1, a2, a3, a4, a5, a6, a7⟩ := r1.2.1.2.2.2.1 k (by omega)
    have g1 := r1.hs (f := 2) (v := 0) (y := 14 * k + 2) (ρ1 := fun _ => N) hk (by decide) (by decide) (by decide) rfl (fun _ _ _ => rfl) (by
      refine ⟨⟨0, by decide, zset_eq _ _ _ _⟩, ?_, ?_, ?_, ?_, ?_, ?_⟩
      · rw [zset_nk _ _ _ (by decide)]; exact a2
      · rw [zset_nk _ _ _ (by decide)]; exact a3
      · rw [zset_nk _ _ _ (by decide)]; exact a4
      · rw [zset_nk _ _ _ (by decide)]; exact a5
      · rw [zset_nk _ _ _ (by decide)]; exact a6
      · rw [zset_nk _ _ _ (by decide)]; exact a7)
    obtain ⟨a1, a2, a3, a4, a5, a6, a7⟩ := g1.2.1.2.2.2.1 k (by omega)
    have g2 := g1.hs (f := 3) (v := 0) (y := 14 * k + 3) (ρ1 := fun _ => N) hk (by decide) (by decide) (by decide) rfl (fun _ _ _ => rfl) (by
      refine ⟨?_, ⟨0, by decide, zset_eq _ _ _ _⟩, ?_, ?_, ?_, ?_, ?_⟩
      · rw [zset_nk _ _ _ (by decide)]; exact a1
      · rw [zset_nk _ _ _ (by decide)]; exact a3
      · rw [zset_nk _ _ _ (by decide)]; exact a4
      · rw [zset_nk _ _ _ (by decide)]; exact a5
      · rw [zset_nk _ _ _ (by decide)]; exact a6
      · rw [zset_nk _ _ _ (by decide)]; exact a7)
    obtain ⟨a1, a2, a3, a4, a5, a6, a7⟩ := g2.2.1.2.2.2.1 k (by omega)
    have g3 := g2.hs (f := 13) (v := W 1 (14 * k + 13) + 1) (y := 14 * k + 13) (ρ1 := fun _ => N) hk (by decide) (by decide) (by decide) rfl (fun _ _ _ => rfl) (by
      refine ⟨?_, ?_, ?_, ?_, ?_, ?_, ?_⟩
      · rw [zset_nk _ _ _ (by decide)]; exact a1
      · rw [zset_nk _ _ _ (by decide)]; exact a2
      · rw [zset_nk _ _ _ (by decide)]; exact a3
      · rw [zset_nk _ _ _ (by decide)]; exact a4
      · rw [zset_nk _ _ _ (by decide)]; exact a5
      · rw [zset_nk _ _ _ (by decide)]; exact a6
      · rw [zset_nk _ _ _ (by decide)]; exact a7)
    rw [← e13]
    exact ⟨rfl, Or.inr ⟨nI_pos (by omega), ⟨H, N, Q, P, hN, g3⟩, fun x hx h6 => by rw [zset_id _ _ _ hx, zset_id _ _ _ hx, zset_id _ _ _ hx]; exact rx x hx h6⟩⟩
  · rw [if_neg c1, if_neg c1, if_pos c2, if_pos c2]
    exact zO.err neg1
/-- days that pass -/
theorem op_days (h : zT H N (fun _ => N) Q P b t u) (hN : N ≤ 9999) (a : Int32) : zO b t u (if a < 1 then (-1000001) else (if a ≤ 99 then (if ((t b 5) + a) ≤ 9999 then (rX5_passDays b t a.toNatClampNeg N) else (-1000003)) else (-1000001))) (rX7_days u a N) (if a < 1 then t else (if a ≤ 99 then (if ((t b 5) + a) ≤ 9999 then (sX5_passDays b t a.toNatClampNeg N) else t) else t)) (sX7_days u a N) := by
  have hH := h.Hl
  unfold rX7_days sX7_days
  rw [h.h5, h.m5]
  by_cases c1 : a < 1
  · rw [if_pos c1, if_pos c1, if_pos (in_lo c1), if_pos (in_lo c1)]
    exact zO.err neg1
  · rw [if_neg c1, if_neg c1]
    by_cases c2 : a ≤ 99
    · have c5 : ¬ rX7_in a 1 99 = 0 := in_ok c1 (znlt.mpr c2)
      obtain ⟨hM, eM⟩ := m99 c5
      rw [if_pos c2, if_pos c2, if_neg c5, if_neg c5]
      by_cases c3 : nI N + a ≤ 9999
      · rw [if_pos c3, if_pos c3, if_pos c3, if_pos c3]
        have hNM : N + a.toNatClampNeg ≤ 9999 := by
          rw [eM, nI_add] at c3
          exact zle (b := 9999) (by omega) (by decide) c3
        obtain ⟨p1, w, hw, p2, p3⟩ := h.ch.pass (M := a.toNatClampNeg) (by omega)
        rw [p2, p3]
        exact ⟨rfl, Or.inr ⟨nI_pos (by omega), ⟨H, _, Q, P, hNM, p1⟩, fun x hx h6 => sX7_pass_o _ _ _ hx h6⟩⟩
      · rw [if_neg c3, if_neg c3, if_neg c3, if_neg c3]
        exact zO.err neg3
    · have c5 : rX7_in a 1 99 = 0 := in_hi (znl.mp c2)
      rw [if_neg c2, if_neg c2, if_pos c5, if_pos c5]
      exact zO.err neg1
end ZOP
