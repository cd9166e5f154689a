def m6 (u : zM) : Prop := ∀ k, k < 24 → ∃ w, w < 24 ∧ u 6 k = nI w
theorem m6.fr {u V : zM} (h : m6 u) (e : V 6 = u 6) : m6 V := fun k hk => by rw [e]; exact h k hk
theorem mOK.m6 {u : zM} (h : mOK u) : m6 u := by
  obtain ⟨⟨H, N, hN, hm⟩, hp⟩ := h
  exact hm.2.2.2.2.1
def zTw (b : Nat) (t u : zM) : Prop := ∃ H N Q P, N ≤ 9999 ∧ zT H N (fun _ => N) Q P b t u
theorem zTw.fr {b : Nat} {t u S V : zM} (h : zTw b t u) (h1 : ∀ x, b ≤ x → x < b + 38 → S x = t x) (h2 : ∀ x, x < 414 → V 1 x = u 1 x) : zTw b S V := by
  obtain ⟨H, N, Q, P, hN, hT⟩ := h
  exact ⟨H, N, Q, P, hN, (hT.fr h1).ru h2⟩
theorem zTw.bits {b : Nat} {t u : zM} (h : zTw b t u) : zBits b t := by
  obtain ⟨H, N, Q, P, hN, hT⟩ := h
  exact hT.bits
theorem zTw.ok {b : Nat} {t u : zM} (h : zTw b t u) : zOK b t := by
  obtain ⟨H, N, Q, P, hN, hT⟩ := h
  exact hT.ok hN
def zRl (t u : zM) : Prop := zTw 0 t u ∧ zHi t u ∧ zTx t u ∧ u 0 5 = 0 ∧ m6 u
theorem zTx.fr {t u S V : zM} (h : zTx t u) (h1 : S 268 1 = t 268 1) (h2 : S 269 = t 269) (h3 : V 0 7 = u 0 7) (h4 : V 5 = u 5) : zTx S V := by
  obtain ⟨L, c, hL, e1, e2, hc⟩ := h
  exact ⟨L, c, hL, h1.trans e1, h3.trans e2, fun i hi => by rw [h2, h4]; exact hc i hi⟩
theorem zRl.gd {t u : zM} (h : zRl t u) : zGd t := by
  obtain ⟨hT, hh, ⟨L, c, hL, e1, -⟩, -⟩ := h
  refine ⟨hT.ok, hT.bits, hh.fs, hh.2, ?_, ⟨L, hL, e1⟩⟩
  obtain ⟨H, N, Q, P, hN, hT⟩ := hT
  obtain ⟨w, E, -, hE, -, l4, -⟩ := hT.2.2.2
  exact ⟨E, hE, l4⟩
theorem zTw.ms {b : Nat} {t u : zM} (h : zTw b t u) (h6 : m6 u) : ∃ H N, N ≤ 9999 ∧ mS H N u := by
  obtain ⟨H, N, Q, P, hN, hT⟩ := h
  have hH := hT.Hl
  refine ⟨H, N, hN, hH, hT.m4, hT.m5, fun q hq => ?_, h6, ?_⟩
  · rcases hT.2.2.1.2.2.2 q hq with ⟨-, e⟩ | ⟨k, hk, -, -, e⟩
    · exact ⟨0, by omega, e⟩
    · exact ⟨k + 1, by omega, e⟩
  · obtain ⟨-, -, -, S, hS1, hS2, eS⟩ := hT.2.1.2.2.2.2.2
    have e : u 1 413 = t (b + 37) 3 := hT.1.2.2.2.2 3 (by decide)
    rw [e, eS]
    exact fun q => absurd ((nI_eq (b := 0) (by omega) (by decide)).mp q) (by omega)
theorem zRl.ok {t u : zM} (h : zRl t u) : mOK u := ⟨h.1.ms h.2.2.2.2, h.2.1.mp⟩
theorem zRl.fr {t u S V : zM} (h : zRl t u) (h1 : ∀ x, (x < 38 ∨ (76 ≤ x ∧ x ≤ 266)) → S x = t x) (h2 : S 268 1 = t 268 1) (h3 : S 269 = t 269) (h4 : ∀ x, x < 414 → V 1 x = u 1 x) (h5 : V 2 = u 2) (h6 : V 0 4 = u 0 4) (h7 : V 0 5 = u 0 5) (h8 : V 0 7 = u 0 7) (h9 : V 5 = u 5) (h10 : m6 V) : zRl S V :=
  ⟨h.1.fr (fun x _ hx => h1 x (by omega)) h4, h.2.1.fr (fun x hx1 hx2 => h1 x (by omega)) h5 h6, h.2.2.1.fr h2 h3 h8 h9, h7.trans h.2.2.2.1, h10⟩
theorem kept_r (S : zM) (r : Int32) : rX6_kept S r = r := ite_self r
/-- a change, recorded and kept, or refused -/
theorem zRl.op {t u S V : zM} {r r' : Int32} (h : zRl t u) (hz : zO 0 (sX0_record t 0) u r r' S V) (hS : ∀ x, 38 ≤ x → S x = sX0_record t 0 x) (h6 : m6 V) : rX6_kept S r = r' ∧ zRl (sX6_kept S r) V := by
  obtain ⟨er, hz⟩ := hz
  have hfs := h.2.1.fs
  have ro : ∀ x, (x < 76 ∨ 266 ≤ x) → sX0_record t 0 x = t x := fun x hx => sX0_record_o t 0 hfs hx
  refine ⟨(kept_r S r).trans er, ?_⟩
  unfold sX6_kept
  rcases hz with ⟨g1, g2, g3⟩ | ⟨g1, g2, g3⟩
  · subst g2; subst g3
    rw [if_pos g1]
    exact ⟨h.1.fr (fun x _ hx => ro x (by omega)) (fun _ _ => rfl), h.2.1.rec h.1.bits, h.2.2.1.fr (by rw [ro 268 (by omega)]) (ro 269 (by omega)) rfl rfl, h.2.2.2.1, h6⟩
  · rw [if_neg g1]
    have kp : ∀ x, x ≠ 266 → sX0_keep S x = S x := fun x hx => by
      exact sX0_keep_o S hx
    obtain ⟨H, N, Q, P, hN, hT⟩ := h.1
    have e0 := g3 0 (by decide) (by decide)
    have e2 := g3 2 (by decide) (by decide)
    have e5 := g3 5 (by decide) (by decide)
    refine ⟨zTw.fr g2 (fun x _ hx => kp x (by omega)) (fun _ _ => rfl), h.2.1.chg hT hN h.2.2.2.1 hS (by rw [e0]) e2, h.2.2.1.fr ?_ ?_ ?_ ?_, ?_, h6⟩
    · rw [kp 268 (by decide), hS 268 (by decide), ro 268 (by omega)]
    · rw [kp 269 (by decide), hS 269 (by decide), ro 269 (by omega)]
    · rw [e0, sX7_changes_k h.2.1.mp (by decide)]
    · rw [e5, sX7_changes_o _ (by decide) (by decide)]
    · rw [e0, sX7_changes_k h.2.1.mp (by decide)]; exact h.2.2.2.1
/-- the recorded town, against the reference -/
theorem zRl.rc {t u : zM} (h : zRl t u) : ∃ H N Q P, N ≤ 9999 ∧ zT H N (fun _ => N) Q P 0 (sX0_record t 0) u ∧ ((sX0_record t 0) 0 5).toNatClampNeg = N := by
  obtain ⟨H, N, Q, P, hN, hT⟩ := h.1
  have hT' := hT.fr (S := sX0_record t 0) (fun x _ hx => sX0_record_o t 0 h.2.1.fs (by omega))
  exact ⟨H, N, Q, P, hN, hT', by rw [hT'.h5, nI_clamp (by omega)]⟩
theorem obey_o {t u : zM} (h : zRl t u) (a1 a2 a3 : Int32) : ∀ x, 38 ≤ x → sX5_obey 0 (sX0_record t 0) a1 a2 a3 ((sX0_record t 0) 0 5).toNatClampNeg x = sX0_record t 0 x := fun x hx => by
  obtain ⟨H, N, Q, P, hN, hT, eN⟩ := h.rc
  exact (sX5_obey_K (hT.ok hN) hT.bits a1 a2 a3).2.2 x (by omega)
section ZCO
variable {t u : zM}
theorem c_house (h : zRl t u) (a1 a2 : Int32) : rX6_house t a1 a2 = rX7_house u a1 a2 ∧ zRl (sX6_house t a1 a2) (sX7_house u a1 a2) := by
  obtain ⟨H, N, Q, P, hN, hT, eN⟩ := h.rc
  refine h.op (zO_eq ?_ rfl ?_ rfl (op_house hT hN a1 a2)) (obey_o h _ _ _) (sX7_house_K h.ok a1 a2).1.m6
  · unfold rX5_obey
    rw [if_neg (by decide +kernel), if_neg (c := (104 : Int32) = 100) (by decide +kernel), if_neg (c := (104 : Int32) = 101) (by decide +kernel), if_neg (c := (104 : Int32) = 102) (by decide +kernel), if_neg (c := (104 : Int32) = 103) (by decide +kernel), if_pos (c := (104 : Int32) = 104) rfl]
  · unfold sX5_obey
    rw [if_neg (by decide +kernel), if_neg (c := (104 : Int32) = 100) (by decide +kernel), if_neg (c := (104 : Int32) = 101) (by decide +kernel), if_neg (c := (104 : Int32) = 102) (by decide +kernel), if_neg (c := (104 : Int32) = 103) (by decide +kernel), if_pos (c := (104 : Int32) = 104) rfl]
theorem c_flow (h : zRl t u) (a1 a2 : Int32) : rX6_flow t a1 a2 = rX7_flow u a1 a2 ∧ zRl (sX6_flow t a1 a2) (sX7_flow u a1 a2) := by
  obtain ⟨H, N, Q, P, hN, hT, eN⟩ := h.rc
  refine h.op (zO_eq ?_ rfl ?_ rfl (op_flow hT hN a1 a2)) (obey_o h _ _ _) (sX7_flow_K h.ok a1 a2).1.m6
  · unfold rX5_obey
    rw [if_neg (by decide +kernel), if_neg (c := (102 : Int32) = 100) (by decide +kernel), if_neg (c := (102 : Int32) = 101) (by decide +kernel), if_pos (c := (102 : Int32) = 102) rfl]
  · unfold sX5_obey
    rw [if_neg (by decide +kernel), if_neg (c := (102 : Int32) = 100) (by decide +kernel), if_neg (c := (102 : Int32) = 101) (by decide +kernel), if_pos (c := (102 : Int32) = 102) rfl]
theorem c_read (h : zRl t u) (a1 : Int32) : rX6_read t a1 = rX7_read u a1 ∧ zRl (sX6_read t a1) (sX7_read u a1) := by
  obtain ⟨H, N, Q, P, hN, hT, eN⟩ := h.rc
  refine h.op (zO_eq ?_ rfl ?_ rfl (op_read hT hN a1)) (obey_o h _ _ _) (sX7_read_K h.ok a1).1.m6
  · unfold rX5_obey
    rw [if_neg (by decide +kernel)]
    repeat rw [if_neg (by decide +kernel)]
    rw [if_pos (c := (114 : Int32) = 114) rfl]
  · unfold sX5_obey
    repeat rw [if_neg (by decide +kernel)]
    rw [if_pos (c := (114 : Int32) = 114) rfl]
theorem c_change (h : zRl t u) (a1 : Int32) : rX6_change t a1 = rX7_change u a1 ∧ zRl (sX6_change t a1) (sX7_change u a1) := by
  obtain ⟨H, N, Q, P, hN, hT, eN⟩ := h.rc
  refine h.op (zO_eq ?_ rfl ?_ rfl (op_change hT hN a1)) (obey_o h _ _ _) (sX7_change_K h.ok a1).1.m6
  · unfold rX5_obey
    rw [if_pos (c := (99 : Int32) = 99) rfl]
  · unfold sX5_obey
    rw [if_pos (c := (99 : Int32) = 99) rfl]
theorem c_days (h : zRl t u) (a1 : Int32) {N : Nat} (hN1 : N ≤ 9999) (h400 : u 1 400 = nI N) : rX6_days t a1 = rX7_days u a1 N ∧ zRl (sX6_days t a1) (sX7_days u a1 N) := by
  obtain ⟨H, N', Q, P, hN, hT, eN⟩ := h.rc
  have e : N' = N := (nI_eq (by omega) (by omega)).mp (hT.m5.symm.trans h400)
  subst e
  refine h.op (zO_eq ?_ rfl ?_ rfl (op_days hT hN a1)) (obey_o h _ _ _) (sX7_days_K h.ok a1 h400 hN1).1.m6
  · unfold rX5_obey
    rw [eN, if_neg (c := (100 : Int32) = 99) (by decide +kernel), if_pos (c := (100 : Int32) = 100) rfl]
  · unfold sX5_obey
    rw [eN, if_neg (c := (100 : Int32) = 99) (by decide +kernel), if_pos (c := (100 : Int32) = 100) rfl]
theorem c_lock (h : zRl t u) (a1 a2 : Int32) (hb : a2 = 0 ∨ a2 = 1) : rX6_lock t a1 a2 = rX7_lock u a1 a2 ∧ zRl (sX6_lock t a1 a2) (sX7_lock u a1 a2) := by
  obtain ⟨H, N, Q, P, hN, hT, eN⟩ := h.rc
  have hH := hT.Hl
  refine h.op (op_lock hT hN a1 a2 hb) (fun x hx => ?_) (sX7_lock_K h.ok a1 a2).1.m6
  unfold sX5_putLock
  split
  · rename_i c
    have := zin_lt c
    rw [ite_self]
    exact zset_id _ _ _ (by omega)
  · rfl
theorem c_set (h : zRl t u) (a1 a2 : Int32) : rX6_set t a1 a2 = rX7_set u a1 a2 ∧ zRl (sX6_set t a1 a2) (sX7_set u a1 a2) := by
  obtain ⟨H, N, Q, P, hN, hT, eN⟩ := h.rc
  refine h.op (op_set hT hN a1 a2) (fun x hx => ?_) (h.2.2.2.2.fr ?_)
  · unfold sX5_putSetting
    repeat' split
    all_goals first
      | rfl
      | exact zset_id _ _ _ (by omega)
  · unfold sX7_set
    repeat' split
    all_goals first
      | rfl
      | rw [zset_id _ _ _ (by decide), sX7_changes_o _ (by decide) (by decide)]
end ZCO
