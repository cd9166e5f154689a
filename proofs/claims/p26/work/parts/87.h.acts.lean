/-! the law's acts, one by one -/
section LH
variable {H N E : Nat} {Q P : Nat → Nat} {t u S V : zM}
/-- what the law's loop keeps -/
def zLR (E : Nat) (t : zM) : Prop := ∃ u H N Q P, zRl t u ∧ lA t u ∧ zT H N (fun _ => N) Q P 0 t u ∧ H ≤ 16 ∧ N ≤ E ∧ lI H t
theorem zRl.lw (h : zRl t u) (e : ∀ x, x < 271 → S x = t x) : zRl S u :=
  h.fr (fun x hx => e x (by omega)) (by rw [e 268 (by decide)]) (e 269 (by decide)) (fun _ _ => rfl) rfl rfl rfl rfl rfl h.2.2.2.2
theorem zLR.fin {t1 u1 : zM} (hz : zRl S V) (hA : lA t1 u1) (hV : V 1 = u1 1) (hS : ∀ x, 271 ≤ x → S x = t1 x) (h401 : u1 1 401 = nI H) (hH : H ≤ 16) (h400 : u1 1 400 = nI N) (hN : N ≤ E) (hE : E ≤ 9999) (hI : lI H t1) : zLR E S := by
  obtain ⟨H', N', Q, P, hN', hT⟩ := id hz.1
  have e1 : H' = H := by
    have := hT.Hl
    exact (nI_eq (by omega) (by omega)).mp (hT.m4.symm.trans ((congrFun hV 401).trans h401))
  have e2 : N' = N := (nI_eq (by omega) (by omega)).mp (hT.m5.symm.trans ((congrFun hV 400).trans h400))
  subst e1; subst e2
  exact ⟨V, H', N', Q, P, hz, (hA.ru hV).up hS, hT, hH, hN, hI.fr (fun i _ => by rw [hS 272 (by decide)]) (by rw [hS 277 (by decide)]) (by rw [hS 277 (by decide)]) (by rw [hS 277 (by decide)])⟩
theorem kept_o (S : zM) (r : Int32) {x : Nat} (hx : x ≠ 266) : sX6_kept S r x = S x := by
  unfold sX6_kept
  split
  · rfl
  · exact sX0_keep_o S hx
theorem co_o (h : zRl t u) (a1 a2 a3 : Int32) {x : Nat} (hx : 271 ≤ x) : sX6_carryOut t a1 a2 a3 x = t x := by
  unfold sX6_carryOut
  rw [kept_o _ _ (by omega), obey_o h a1 a2 a3 x (by omega)]
  exact sX0_record_o t 0 h.2.1.fs (by omega)
theorem house_o (h : zRl t u) (a1 a2 : Int32) {x : Nat} (hx : 271 ≤ x) : sX6_house t a1 a2 x = t x := co_o h _ _ _ hx
theorem flow_o (h : zRl t u) (a1 a2 : Int32) {x : Nat} (hx : 271 ≤ x) : sX6_flow t a1 a2 x = t x := co_o h _ _ _ hx
theorem read_o (h : zRl t u) (a1 : Int32) {x : Nat} (hx : 271 ≤ x) : sX6_read t a1 x = t x := co_o h _ _ _ hx
theorem change_o (h : zRl t u) (a1 : Int32) {x : Nat} (hx : 271 ≤ x) : sX6_change t a1 x = t x := co_o h _ _ _ hx
theorem days_o (h : zRl t u) (a1 : Int32) {x : Nat} (hx : 271 ≤ x) : sX6_days t a1 x = t x := co_o h _ _ _ hx
theorem lock_o (h : zRl t u) (a1 a2 : Int32) {x : Nat} (hx : 271 ≤ x) : sX6_lock t a1 a2 x = t x := by
  unfold sX6_lock
  rw [kept_o _ _ (by omega)]
  refine Eq.trans ?_ (sX0_record_o t 0 h.2.1.fs (by omega))
  unfold sX5_putLock
  split
  · rename_i c
    have := zin_lt c
    rw [ite_self]
    exact zset_id _ _ _ (by omega)
  · rfl
theorem set_o (h : zRl t u) (a1 a2 : Int32) {x : Nat} (hx : 271 ≤ x) : sX6_set t a1 a2 x = t x := by
  unfold sX6_set
  rw [kept_o _ _ (by omega)]
  refine Eq.trans ?_ (sX0_record_o t 0 h.2.1.fs (by omega))
  unfold sX5_putSetting
  repeat' split
  all_goals first
    | rfl
    | exact zset_id _ _ _ (by omega)
theorem ch1z (u : zM) (y : Nat) (v : Int32) : zset (sX7_changes u) 1 y v 1 = zset u 1 y v 1 := by
  funext x
  by_cases e : x = y
  · subst e; rw [zset_eq, zset_eq]
  · rw [zset_nk _ _ _ e, zset_nk _ _ _ e, ch1]
theorem zset_1c {u V : zM} (e : u 1 = V 1) (y : Nat) (v : Int32) : zset u 1 y v 1 = zset V 1 y v 1 := by
  funext x
  by_cases e9 : x = y
  · subst e9; rw [zset_eq, zset_eq]
  · rw [zset_nk _ _ _ e9, zset_nk _ _ _ e9, e]
theorem house_y (h : zT H N (fun _ => N) Q P 0 t u) {k : Nat} (hk : k < H) : ¬ rX7_isHouse u (nI k) = 0 := by
  have hH := h.Hl
  rcases h.ish (nI k) with ⟨-, c, -⟩ | ⟨c, -⟩
  · exact c
  · exact absurd ⟨nI_pos (by omega), by rw [h.h4]; exact (nI_ltI (by omega) (by omega)).mpr hk, (nI_ltI (b := 24) (by omega) (by decide)).mpr (by omega)⟩ c
theorem house_n (h : zT H N (fun _ => N) Q P 0 t u) {k : Nat} (hk : H ≤ k) (hk2 : k < 2 ^ 31) : rX7_isHouse u (nI k) = 0 := by
  have hH := h.Hl
  rcases h.ish (nI k) with ⟨c, -, -⟩ | ⟨-, c⟩
  · have c1 := c.2.1
    rw [h.h4] at c1
    exact absurd (zlt hk2 (by omega) c1) (by omega)
  · exact c
/-- a flow -/
theorem act_flow (hz : zRl t u) (hA : lA t u) (h : zT H N (fun _ => N) Q P 0 t u) (hH : H ≤ 16) (hN : N ≤ E) (hE : E ≤ 9999) (hI : lI H t) {k F : Nat} (hk : k < H) (hF : F ≤ 999) : rX6_flow (zset t 272 (4 * k + 1) (nI F)) (nI k) (nI F) = t 272 (4 * k + 1) ∧ zLR E (sX6_flow (zset t 272 (4 * k + 1) (nI F)) (nI k) (nI F)) := by
  have hz1 : zRl (zset t 272 (4 * k + 1) (nI F)) u := hz.lw (fun x hx => zset_id _ _ _ (by omega))
  obtain ⟨e1, e2⟩ := c_flow hz1 (nI k) (nI F)
  have y1 := house_y h hk
  have y2 : ¬ rX7_in (nI F) 0 999 = 0 := in_ok (nI_pos (by omega)) (fun q => absurd (zlt (a := 999) (by decide) (by omega) q) (by omega))
  have hc : (nI k).toNatClampNeg = k := nI_clamp (by omega)
  have r : rX7_flow u (nI k) (nI F) = u 1 (14 * k + 5) := by
    unfold rX7_flow
    rw [if_neg y1, if_neg y2, hc]
  have s : sX7_flow u (nI k) (nI F) = zset (sX7_changes u) 1 (14 * k + 5) (nI F) := by
    unfold sX7_flow
    rw [if_neg y1, if_neg y2, hc]
  refine ⟨e1.trans (r.trans (hA.rb (k := k) (f := 1) (by omega) (by decide)).symm), ?_⟩
  rw [s] at e2
  refine zLR.fin e2 (hA.b (k := k) (f := 1) (y := 14 * k + 5) (by omega) (by decide) (by omega) (nI F)) (ch1z _ _ _) (fun x hx => flow_o hz1 _ _ hx) ((zset_nk _ _ _ (by omega)).trans h.m4) hH ((zset_nk _ _ _ (by omega)).trans h.m5) hN hE (hI.fr (fun i _ => zset_nk _ _ _ (by omega)) (zset_idk _ _ _ _ (by decide)) (zset_idk _ _ _ _ (by decide)) (zset_idk _ _ _ _ (by decide)))
/-- a lock -/
theorem act_lock (hz : zRl t u) (hA : lA t u) (h : zT H N (fun _ => N) Q P 0 t u) (hH : H ≤ 16) (hN : N ≤ E) (hE : E ≤ 9999) (hI : lI H t) {k : Nat} {v : Int32} (hk : k < H) (hv : v = 0 ∨ v = 1) : rX6_lock (zset t 272 (4 * k + 2) v) (nI k) v = t 272 (4 * k + 2) ∧ zLR E (sX6_lock (zset t 272 (4 * k + 2) v) (nI k) v) := by
  have hz1 : zRl (zset t 272 (4 * k + 2) v) u := hz.lw (fun x hx => zset_id _ _ _ (by omega))
  obtain ⟨e1, e2⟩ := c_lock hz1 (nI k) v hv
  have y1 := house_y h hk
  have hc : (nI k).toNatClampNeg = k := nI_clamp (by omega)
  have r : rX7_lock u (nI k) v = u 1 (14 * k + 6) := by
    unfold rX7_lock
    rw [if_neg y1, hc, ite_self]
  have s : sX7_lock u (nI k) v = zset (sX7_changes u) 1 (14 * k + 6) v := by
    unfold sX7_lock
    rw [if_neg y1, hc]
    rcases hv with q | q
    · rw [q, if_pos rfl]
    · rw [q, if_neg (by decide +kernel)]
  refine ⟨e1.trans (r.trans (hA.rb (k := k) (f := 2) (by omega) (by decide)).symm), ?_⟩
  rw [s] at e2
  refine zLR.fin e2 (hA.b (k := k) (f := 2) (y := 14 * k + 6) (by omega) (by decide) (by omega) v) (ch1z _ _ _) (fun x hx => lock_o hz1 _ _ hx) ((zset_nk _ _ _ (by omega)).trans h.m4) hH ((zset_nk _ _ _ (by omega)).trans h.m5) hN hE (hI.fr (fun i _ => zset_nk _ _ _ (by omega)) (zset_idk _ _ _ _ (by decide)) (zset_idk _ _ _ _ (by decide)) (zset_idk _ _ _ _ (by decide)))
/-- a reading -/
theorem act_read (hz : zRl t u) (hA : lA t u) (h : zT H N (fun _ => N) Q P 0 t u) (hH : H ≤ 16) (hN : N ≤ E) (hE : E ≤ 9999) (hI : lI H t) {k : Nat} (hk : k < H) (hw : rL_why t k ≤ 0) : rX6_read (sL_read t k) (nI k) = rL_read t k ∧ zLR E (sX6_read (sL_read t k) (nI k)) := by
  have hz1 : zRl (sL_read t k) u := hz.lw (fun x hx => sL_read_o _ _ (Or.inl hx))
  obtain ⟨e1, e2⟩ := c_read hz1 (nI k)
  have y1 := house_y h hk
  have hc : (nI k).toNatClampNeg = k := nI_clamp (by omega)
  rw [hA.why (k := k) (by omega)] at hw
  obtain ⟨r1, V, hV, r2, r3⟩ := (hA.ru (ch1 u)).read h.ch (k := k) (by omega)
  obtain ⟨z1, -⟩ := h.ch.read (by omega) hk (nI k)
  have r : rX7_read u (nI k) = rX7_reads (sX7_changes u) (nI k) k := by
    unfold rX7_read
    rw [if_neg y1, hc, if_pos hw]
  have s : sX7_read u (nI k) = sX7_reads (sX7_changes u) (nI k) k := by
    unfold sX7_read
    rw [if_neg y1, hc, if_pos hw]
  refine ⟨e1.trans (r.trans (r3.trans r2.symm)), ?_⟩
  rw [s] at e2
  exact zLR.fin e2 r1 rfl (fun x hx => read_o hz1 _ hx) z1.m4 hH z1.m5 hN hE (sL_read_I hI hk)
theorem act_readn (hz : zRl t u) (hA : lA t u) (h : zT H N (fun _ => N) Q P 0 t u) (hH : H ≤ 16) (hN : N ≤ E) (hE : E ≤ 9999) (hI : lI H t) {k : Nat} (hk : k < H) (hw : ¬ rL_why t k ≤ 0) : rX6_read t (nI k) = -1000002 ∧ zLR E (sX6_read t (nI k)) := by
  obtain ⟨e1, e2⟩ := c_read hz (nI k)
  have y1 := house_y h hk
  have hc : (nI k).toNatClampNeg = k := nI_clamp (by omega)
  rw [hA.why (k := k) (by omega)] at hw
  have r : rX7_read u (nI k) = -1000002 := by
    unfold rX7_read
    rw [if_neg y1, hc, if_neg hw]
  have s : sX7_read u (nI k) = u := by
    unfold sX7_read
    rw [if_neg y1, hc, if_neg hw]
  refine ⟨e1.trans r, ?_⟩
  rw [s] at e2
  exact zLR.fin e2 hA rfl (fun x hx => read_o hz _ hx) h.m4 hH h.m5 hN hE hI
/-- a change -/
theorem act_change (hz : zRl t u) (hA : lA t u) (h : zT H N (fun _ => N) Q P 0 t u) (hH : H ≤ 16) (hN : N ≤ E) (hE : E ≤ 9999) (hI : lI H t) {k : Nat} (hk : k < H) : rX6_change (zset (zset (zset (sL_read t k) 271 (4 * k + 2) 0) 271 (4 * k + 3) 0) 274 (2 * k + 1) (t 274 (2 * k + 1) + 1)) (nI k) = rL_read t k ∧ zLR E (sX6_change (zset (zset (zset (sL_read t k) 271 (4 * k + 2) 0) 271 (4 * k + 3) 0) 274 (2 * k + 1) (t 274 (2 * k + 1) + 1)) (nI k)) := by
  have y1 := house_y h hk
  have hc : (nI k).toNatClampNeg = k := nI_clamp (by omega)
  obtain ⟨r1, V, hV, r2, r3⟩ := (hA.ru (ch1 u)).read h.ch (k := k) (by omega)
  obtain ⟨z1, -⟩ := h.ch.read (by omega) hk (nI k)
  have r : rX7_change u (nI k) = rX7_reads (sX7_changes u) (nI k) k := by
    unfold rX7_change
    rw [if_neg y1, hc]
  have s : sX7_change u (nI k) = zset (zset (zset (sX7_reads (sX7_changes u) (nI k) k) 1 (14 * k + 2) 0) 1 (14 * k + 3) 0) 1 (14 * k + 13) (sX7_reads (sX7_changes u) (nI k) k 1 (14 * k + 13) + 1) := by
    unfold sX7_change
    rw [if_neg y1, hc]
  have e13 : t 274 (2 * k + 1) = sX7_reads (sX7_changes u) (nI k) k 1 (14 * k + 13) := by
    have e : sL_read t k 274 (2 * k + 1) = sX7_reads (sX7_changes u) (nI k) k 1 (14 * k + 13) := r1.rd (k := k) (f := 1) (by omega) (by decide)
    rw [← e, sL_read_o _ _ (by decide)]
  rw [e13]
  generalize hW : sX7_reads (sX7_changes u) (nI k) k = W at *
  have hz1 : zRl (zset (zset (zset (sL_read t k) 271 (4 * k + 2) 0) 271 (4 * k + 3) 0) 274 (2 * k + 1) (W 1 (14 * k + 13) + 1)) u := hz.lw (fun x hx => by
    rw [zset_id _ _ _ (by omega), zset_id _ _ _ (by omega), zset_id _ _ _ (by omega)]
    exact sL_read_o _ _ (Or.inl hx))
  obtain ⟨e1, e2⟩ := c_change hz1 (nI k)
  refine ⟨e1.trans (r.trans (r3.trans r2.symm)), ?_⟩
  rw [s] at e2
  have g1 := r1.a (k := k) (f := 2) (y := 14 * k + 2) (by omega) (by decide) (by omega) 0
  have g2 := g1.a (k := k) (f := 3) (y := 14 * k + 3) (by omega) (by decide) (by omega) 0
  have g3 := g2.d (k := k) (f := 1) (y := 14 * k + 13) (by omega) (by decide) (by omega) (W 1 (14 * k + 13) + 1)
  refine zLR.fin e2 g3 rfl (fun x hx => change_o hz1 _ hx) ?_ hH ?_ hN hE ?_
  · rw [zset_nk _ _ _ (by omega), zset_nk _ _ _ (by omega), zset_nk _ _ _ (by omega)]; exact z1.m4
  · rw [zset_nk _ _ _ (by omega), zset_nk _ _ _ (by omega), zset_nk _ _ _ (by omega)]; exact z1.m5
  · refine (sL_read_I hI hk).fr (fun i _ => ?_) ?_ ?_ ?_
    all_goals rw [zset_idk _ _ _ _ (by decide), zset_idk _ _ _ _ (by decide), zset_idk _ _ _ _ (by decide)]
end LH
