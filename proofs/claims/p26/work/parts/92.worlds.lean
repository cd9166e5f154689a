/-! the world as it is made: the class and the seven tables of the law -/
def kTown (cy : Nat → ClassId) (ad : Nat → Nat) (b r : Nat) (f : Nat → Int32) : va_E :=
  if r = 0 then .inr (5, [.ref (ad (b + 1)), .ref (ad (b + 26)), .ref (ad (b + 35)), .ref (ad (b + 37)), .int (f 4), .int (f 5), .int (f 6), .int (f 7), .int (f 8), .int (f 9), .int (f 10), .int (f 11), .int (f 12)])
  else if r = 1 then eR (cy 1) 24 (fun k => some (ad (b + 2 + k)))
  else if r < 26 then .inr (1, [.int (f 0), .int (f 1), .int (f 2), .int (f 3), .int (f 4), .int (f 5), .int (f 6), .int (f 7), .int (f 8), .int (f 9), .int (f 10), .int (f 11), .int (f 12), .int (f 13)])
  else if r = 26 then eR (cy 2) 4 (fun j => some (ad (b + 27 + 2 * j)))
  else if r < 35 then (if r % 2 = 1 then .inr (4, [.ref (ad (b + r + 1)), .int (f 1)]) else .inl (cy 0, 20, .inl f))
  else if r = 35 then .inr (2, [.ref (ad (b + 36)), .int (f 1), .int (f 2)])
  else if r = 36 then .inl (cy 0, 60, .inl f)
  else .inl (cy 0, 4, .inl f)
def zKL (cy : Nat → ClassId) : zK := fun ad c f =>
  if c < 266 then kTown cy ad (c / 38 * 38) (c % 38) f
  else if c = 266 then .inr (0, [.ref (ad 267), .int (f 1), .int (f 2)])
  else if c = 267 then eR (cy 3) 5 (fun i => some (ad (76 + 38 * i)))
  else if c = 268 then .inr (3, [.ref (ad 269), .int (f 1), .int (f 2), .int (f 3), .int (f 4), .int (f 5), .int (f 6), .int (f 7), .int (f 8), .int (f 9)])
  else if c = 269 then .inl (cy 0, 60, .inl f)
  else if c = 270 then .inr (6, [.ref (ad 0), .ref (ad 38), .ref (ad 266), .ref (ad 268)])
  else if c < 274 then .inl (cy 0, 64, .inl f)
  else if c = 274 then .inl (cy 0, 32, .inl f)
  else if c = 275 then .inl (cy 0, 44, .inl f)
  else if c = 276 then .inl (cy 0, 60, .inl f)
  else .inl (cy 0, 14, .inl f)
theorem k6_town (cy : Nat → ClassId) (ad : Nat → Nat) {i : Nat} (hi : i < 7) (r : Nat) (hr : r < 38) (f : Nat → Int32) : zKL cy ad (38 * i + r) f = kTown cy ad (38 * i) r f := by
  unfold zKL
  rw [if_pos (by omega), show (38 * i + r) / 38 * 38 = 38 * i by omega, show (38 * i + r) % 38 = r by omega]
theorem kT_1 (cy : Nat → ClassId) (ad : Nat → Nat) (b : Nat) (f : Nat → Int32) : kTown cy ad b 1 f = eR (cy 1) 24 (fun k => some (ad (b + 2 + k))) := rfl
theorem kT_h (cy : Nat → ClassId) (ad : Nat → Nat) (b : Nat) {k : Nat} (hk : k < 24) (f : Nat → Int32) : kTown cy ad b (2 + k) f = .inr (1, [.int (f 0), .int (f 1), .int (f 2), .int (f 3), .int (f 4), .int (f 5), .int (f 6), .int (f 7), .int (f 8), .int (f 9), .int (f 10), .int (f 11), .int (f 12), .int (f 13)]) := by
  unfold kTown
  rw [if_neg (by omega), if_neg (by omega), if_pos (by omega)]
theorem kT_26 (cy : Nat → ClassId) (ad : Nat → Nat) (b : Nat) (f : Nat → Int32) : kTown cy ad b 26 f = eR (cy 2) 4 (fun j => some (ad (b + 27 + 2 * j))) := rfl
theorem kT_s (cy : Nat → ClassId) (ad : Nat → Nat) (b : Nat) {j : Nat} (hj : j < 4) (f : Nat → Int32) : kTown cy ad b (27 + 2 * j) f = .inr (4, [.ref (ad (b + (27 + 2 * j) + 1)), .int (f 1)]) := by
  unfold kTown
  rw [if_neg (by omega), if_neg (by omega), if_neg (by omega), if_neg (by omega), if_pos (by omega), if_pos (by omega)]
theorem kT_p (cy : Nat → ClassId) (ad : Nat → Nat) (b : Nat) {j : Nat} (hj : j < 4) (f : Nat → Int32) : kTown cy ad b (28 + 2 * j) f = .inl (cy 0, 20, .inl f) := by
  unfold kTown
  rw [if_neg (by omega), if_neg (by omega), if_neg (by omega), if_neg (by omega), if_pos (by omega), if_neg (by omega)]
theorem k6_tn (cy : Nat → ClassId) (ad : Nat → Nat) {i : Nat} (hi : i < 7) : zTown cy (zKL cy) 278 ad (38 * i) := by
  have g := fun r hr f => k6_town cy ad hi r hr f
  refine ⟨by omega, fun f => (g 0 (by omega) f).trans rfl, fun f => (g 1 (by omega) f).trans rfl, fun k hk => ⟨by omega, fun f => ?_⟩, fun f => (g 26 (by omega) f).trans rfl, fun j hj => ⟨by omega, fun f => ?_, fun f => ?_⟩, ⟨by omega, fun f => (g 35 (by omega) f).trans rfl, fun f => (g 36 (by omega) f).trans rfl⟩, fun f => (g 37 (by omega) f).trans rfl⟩
  · rw [show 38 * i + 2 + k = 38 * i + (2 + k) by omega, g (2 + k) (by omega), kT_h cy ad _ hk]
  · rw [show 38 * i + 27 + 2 * j = 38 * i + (27 + 2 * j) by omega, g (27 + 2 * j) (by omega), kT_s cy ad _ hj]
  · rw [show 38 * i + 27 + 2 * j + 1 = 38 * i + (28 + 2 * j) by omega, g (28 + 2 * j) (by omega), kT_p cy ad _ hj]
theorem k6_ok (cy : Nat → ClassId) (ad : Nat → Nat) : zTop cy (zKL cy) 278 ad :=
  ⟨by decide, fun _ => rfl, k6_tn cy ad (i := 0) (by decide), k6_tn cy ad (i := 1) (by decide), ⟨by decide, fun _ => rfl, fun _ => rfl, fun i hi => by rw [show 76 + 38 * i = 38 * (i + 2) by omega]; exact k6_tn cy ad (by omega)⟩, ⟨by decide, fun _ => rfl, fun _ => rfl⟩⟩
theorem kL_ok (cy : Nat → ClassId) (ad : Nat → Nat) : zLw cy (zKL cy) 278 ad :=
  ⟨by decide, fun _ => rfl, fun _ => rfl, fun _ => rfl, fun _ => rfl, fun _ => rfl, fun _ => rfl, fun _ => rfl⟩
/-- where the class's cells lie among those made -/
def zpr (r : Nat) : Nat := if r < 2 then r else if r < 26 then r + 4 else if r = 26 then 2 else if r < 35 then r + 3 else r - 32
def ztb (q : Nat) : Nat := if q = 0 then 1 else if q = 1 then 39 else 3 + 38 * q
def zpi (c : Nat) : Nat := if c < 266 then ztb (c / 38) + zpr (c % 38) else if c = 266 then 77 else if c = 267 then 78 else if c = 268 then 269 else if c = 269 then 270 else 0
def zri (o : Nat) : Nat := if o < 2 then o else if o = 2 then 26 else if o < 6 then o + 32 else if o < 30 then o - 4 else o - 3
def zsg (x : Nat) : Nat := if x = 0 then 270 else if x < 39 then zri (x - 1) else if x < 77 then 38 + zri (x - 39) else if x = 77 then 266 else if x = 78 then 267 else if x = 269 then 268 else if x = 270 then 269 else (x - 3) / 38 * 38 + zri ((x - 3) % 38)
def zpiL (c : Nat) : Nat := if c < 271 then zpi c else c
theorem zpiL_lo {c : Nat} (h : c < 271) : zpiL c = zpi c := if_pos h
theorem zpiL_hi {c : Nat} (h : 271 ≤ c) : zpiL c = c := if_neg (by omega)
theorem zpi_ok : ∀ c, c < 271 → zsg (zpi c) = c ∧ zpi c < 271 := by decide +kernel
theorem zpi_town {i r : Nat} (hi : i < 7) (hr : r < 38) : zpi (38 * i + r) = ztb i + zpr r := by
  unfold zpi
  rw [if_pos (by omega), show (38 * i + r) / 38 = i by omega, show (38 * i + r) % 38 = r by omega]
/-- one entry in another's place -/
def ze (e e' : va_E) : Prop := ∀ (D : va_G) (cl : List vw_C) (a : Nat) (H : Heap), va_at D cl (a, e) H → va_at D cl (a, e') H
theorem ze.of {e e' : va_E} (h : e = e') : ze e e' := fun D cl a H q => h ▸ q
theorem arrV_ext (c : ClassId) (n : Nat) {f g : Nat → Value} (h : ∀ i, i < n → f i = g i) : arrV c n f = arrV c n g := by
  unfold arrV
  congr 2
  funext j
  exact h j.val j.isLt
theorem ze.refs {c : ClassId} {n : Nat} {f g : Nat → Option Nat} (h : ∀ i, i < n → f i = g i) : ze (eR c n f) (eR c n g) := fun D cl a H q => by
  have q : H[a]? = some (arrV c n (fun j => va_rf (f j))) := q
  show H[a]? = some (arrV c n (fun j => va_rf (g j)))
  rw [q, arrV_ext c n (fun i hi => by rw [h i hi])]
theorem ze.ints {c : ClassId} {n : Nat} {f g : Nat → Int32} (h : ∀ i, i < n → f i = g i) : ze (.inl (c, n, .inl f)) (.inl (c, n, .inl g)) := fun D cl a H q => by
  have q : H[a]? = some (arrV c n (fun j => .int (f j))) := q
  show H[a]? = some (arrV c n (fun j => .int (g j)))
  rw [q, arrV_ext c n (fun i hi => by rw [h i hi])]
/-- the first ints -/
def t0T (r k : Nat) : Int32 := if 2 ≤ r ∧ r < 26 then (if k = 7 then -1 else 0) else if 27 ≤ r ∧ r < 35 then (if r % 2 = 1 then (if k = 1 then -1 else 0) else -1) else if r = 37 then zFirst k else 0
def zt0 : zM := fun c k => if c < 266 then t0T (c % 38) k else 0
def eL0 : Nat → Int32 := upd (upd (upd (upd (fun _ => 0) 10 3) 11 7) 12 50) 13 60
def zt1 : zM := fun c => if c = 277 then eL0 else zt0 c
def eS0 : Nat → Int32 := upd (upd (upd (upd (fun _ => 0) 410 3) 411 7) 412 50) 413 60
def zu0 : zM := fun c k => if c = 1 then eS0 k else 0
theorem zt0_t {i r : Nat} (hi : i < 7) (hr : r < 38) (k : Nat) : zt0 (38 * i + r) k = t0T r k := by
  unfold zt0
  rw [if_pos (by omega), show (38 * i + r) % 38 = r by omega]
theorem t0_h {k f : Nat} (hk : k < 24) : t0T (2 + k) f = if f = 7 then -1 else 0 := by
  unfold t0T
  rw [if_pos (by omega)]
theorem t0_s {j : Nat} (hj : j < 4) (f : Nat) : t0T (27 + 2 * j) f = if f = 1 then -1 else 0 := by
  unfold t0T
  rw [if_neg (by omega), if_pos (by omega), if_pos (by omega)]
theorem t0_p {j : Nat} (hj : j < 4) (f : Nat) : t0T (28 + 2 * j) f = -1 := by
  unfold t0T
  rw [if_neg (by omega), if_pos (by omega), if_neg (by omega)]
set_option maxHeartbeats 1000000 in
theorem town_ze {cy : Nat → ClassId} {ad adK : Nat → Nat} {ε : Nat → va_E} {i : Nat} (hi : i < 7) (ha : ∀ r, r < 38 → adK (38 * i + r) = ad (ztb i + zpr r)) (h : zTI cy ad ε (ztb i) (ztb i + 1) 24 4 4) : ∀ r, r < 38 → ze (ε (ztb i + zpr r)) (zKL cy adK (38 * i + r) (zt0 (38 * i + r))) := by
  obtain ⟨g1, ⟨fh, g2, g3⟩, ⟨fs, g4, g5⟩, ⟨g6, g7⟩, ⟨g, g8, g9⟩, g10, g11⟩ := h
  intro r hr
  rw [k6_town cy adK hi r hr]
  have hz : zt0 (38 * i + r) = t0T r := funext fun k => zt0_t hi hr k
  rw [hz]
  rcases (show r = 0 ∨ r = 1 ∨ (∃ k, k < 24 ∧ r = 2 + k) ∨ r = 26 ∨ (∃ j, j < 4 ∧ r = 27 + 2 * j) ∨ (∃ j, j < 4 ∧ r = 28 + 2 * j) ∨ r = 35 ∨ r = 36 ∨ r = 37 by
    by_cases q1 : r < 2
    · omega
    · by_cases q2 : r < 26
      · exact Or.inr (Or.inr (Or.inl ⟨r - 2, by omega, by omega⟩))
      · by_cases q3 : r = 26
        · omega
        · by_cases q4 : r < 35
          · by_cases q5 : r % 2 = 1
            · exact Or.inr (Or.inr (Or.inr (Or.inr (Or.inl ⟨(r - 27) / 2, by omega, by omega⟩))))
            · exact Or.inr (Or.inr (Or.inr (Or.inr (Or.inr (Or.inl ⟨(r - 28) / 2, by omega, by omega⟩)))))
          · omega) with rfl | rfl | ⟨k, hk, rfl⟩ | rfl | ⟨j, hj, rfl⟩ | ⟨j, hj, rfl⟩ | rfl | rfl | rfl
  · refine ze.of ((show ε (ztb i + zpr 0) = ε (ztb i) from rfl).trans (g1.trans ?_))
    have a1 : adK (38 * i + 1) = ad (ztb i + 1) := ha 1 (by decide)
    have a26 : adK (38 * i + 26) = ad (ztb i + 1 + 1) := ha 26 (by decide)
    have a35 : adK (38 * i + 35) = ad (ztb i + 1 + 2) := ha 35 (by decide)
    have a37 : adK (38 * i + 37) = ad (ztb i + 1 + 4) := ha 37 (by decide)
    show eT ad (ztb i + 1) = .inr (5, [.ref (adK (38 * i + 1)), .ref (adK (38 * i + 26)), .ref (adK (38 * i + 35)), .ref (adK (38 * i + 37)), .int (t0T 0 4), .int (t0T 0 5), .int (t0T 0 6), .int (t0T 0 7), .int (t0T 0 8), .int (t0T 0 9), .int (t0T 0 10), .int (t0T 0 11), .int (t0T 0 12)])
    rw [a1, a26, a35, a37]
    rfl
  · have e : ε (ztb i + zpr 1) = eR (cy 1) 24 fh := g2
    rw [e, kT_1]
    refine ze.refs (fun x hx => ?_)
    rw [g3 x hx, show 38 * i + 2 + x = 38 * i + (2 + x) by omega, ha (2 + x) (by omega)]
    have : zpr (2 + x) = 6 + x := by unfold zpr; rw [if_neg (by omega), if_pos (by omega)]; omega
    rw [this, show ztb i + 1 + 5 + x = ztb i + (6 + x) by omega]
  · have : zpr (2 + k) = 6 + k := by unfold zpr; rw [if_neg (by omega), if_pos (by omega)]; omega
    rw [this, show ztb i + (6 + k) = ztb i + 1 + 5 + k by omega, g10 k hk, kT_h cy adK _ hk]
    refine ze.of ?_
    unfold eH
    simp only [t0_h hk]
    rfl
  · have e : ε (ztb i + zpr 26) = eR (cy 2) 4 fs := g4
    rw [e, kT_26]
    refine ze.refs (fun x hx => ?_)
    rw [g5 x hx, show 38 * i + 27 + 2 * x = 38 * i + (27 + 2 * x) by omega, ha (27 + 2 * x) (by omega)]
    have : zpr (27 + 2 * x) = 30 + 2 * x := by unfold zpr; rw [if_neg (by omega), if_neg (by omega), if_neg (by omega), if_pos (by omega)]; omega
    rw [this, show ztb i + 1 + 29 + 2 * x = ztb i + (30 + 2 * x) by omega]
  · obtain ⟨s1, -⟩ := g11 j hj
    have : zpr (27 + 2 * j) = 30 + 2 * j := by unfold zpr; rw [if_neg (by omega), if_neg (by omega), if_neg (by omega), if_pos (by omega)]; omega
    rw [this, show ztb i + (30 + 2 * j) = ztb i + 1 + 29 + 2 * j by omega, s1, kT_s cy adK _ hj]
    refine ze.of ?_
    have e : adK (38 * i + (27 + 2 * j) + 1) = ad (ztb i + 1 + 30 + 2 * j) := by
      rw [show 38 * i + (27 + 2 * j) + 1 = 38 * i + (28 + 2 * j) by omega, ha (28 + 2 * j) (by omega)]
      have : zpr (28 + 2 * j) = 31 + 2 * j := by unfold zpr; rw [if_neg (by omega), if_neg (by omega), if_neg (by omega), if_pos (by omega)]; omega
      rw [this, show ztb i + 1 + 30 + 2 * j = ztb i + (31 + 2 * j) by omega]
    rw [e]
    unfold eSt
    simp only [t0_s hj]
    rfl
  · obtain ⟨-, f, s1, s2⟩ := g11 j hj
    have : zpr (28 + 2 * j) = 31 + 2 * j := by unfold zpr; rw [if_neg (by omega), if_neg (by omega), if_neg (by omega), if_pos (by omega)]; omega
    rw [this, show ztb i + (31 + 2 * j) = ztb i + 1 + 30 + 2 * j by omega, s1, kT_p cy adK _ hj]
    exact ze.ints (fun x hx => by rw [s2 x hx, t0_p hj])
  · refine ze.of ((show ε (ztb i + zpr 35) = ε (ztb i + 1 + 2) from rfl).trans (g6.trans ?_))
    have a36 : adK (38 * i + 36) = ad (ztb i + 1 + 3) := ha 36 (by decide)
    show _ = (Sum.inr (2, [Value.ref (adK (38 * i + 36)), Value.int (t0T 35 1), Value.int (t0T 35 2)]) : va_E)
    rw [a36]
    rfl
  · exact ze.of ((show ε (ztb i + zpr 36) = ε (ztb i + 1 + 3) from rfl).trans g7)
  · have e : ε (ztb i + zpr 37) = .inl (cy 0, 4, .inl g) := g8
    rw [e]
    exact ze.ints (fun x hx => by rw [g9 x hx]; rfl)
/-- the class's world, out of what was made -/
theorem worldL {cy : Nat → ClassId} {ad : Nat → Nat} {ε : Nat → va_E} {D : va_G} {cl : List vw_C} {n : Nat} {H : Heap} (hn : 278 ≤ n) (hP : va_P D cl (zv n ad ε) H) (h : zTopI cy ad ε 0 1) (hL : ∀ k, 271 ≤ k → k < 278 → ε k = zKL cy (fun c => ad (zpiL c)) k (zt1 k)) : va_P D cl (zw (zKL cy) 278 (fun c => ad (zpiL c)) zt1) H := by
  obtain ⟨g1, g2, g3, ⟨h1, ⟨f, h2, h3⟩, h4⟩, g5, g6⟩ := h
  have key : ∀ c, c < 271 → ze (ε (zpi c)) (zKL cy (fun c => ad (zpiL c)) c (zt0 c)) := by
    intro c hc
    have tn : ∀ i, i < 7 → ∀ r, r < 38 → c = 38 * i + r → zTI cy ad ε (ztb i) (ztb i + 1) 24 4 4 → ze (ε (zpi c)) (zKL cy (fun c => ad (zpiL c)) c (zt0 c)) := fun i hi r hr e q => by
      subst e
      rw [zpi_town hi hr]
      exact town_ze hi (fun r hr => by show ad (zpiL _) = _; rw [zpiL_lo (by omega), zpi_town hi hr]) q r hr
    by_cases q : c < 266
    · have hT : ∀ i, i < 7 → zTI cy ad ε (ztb i) (ztb i + 1) 24 4 4 := fun i hi => by
        rcases (show i = 0 ∨ i = 1 ∨ 2 ≤ i by omega) with rfl | rfl | q2
        · exact g2
        · exact g3
        · have := h4 (i - 2) (by omega)
          have e : ztb i = 1 + 77 + 1 + 38 * (i - 2) := by unfold ztb; rw [if_neg (by omega), if_neg (by omega)]; omega
          rw [e, show 1 + 77 + 1 + 38 * (i - 2) + 1 = 1 + 77 + 2 + 38 * (i - 2) by omega]
          exact this
      exact tn (c / 38) (by omega) (c % 38) (by omega) (by omega) (hT _ (by omega))
    · rcases (show c = 266 ∨ c = 267 ∨ c = 268 ∨ c = 269 ∨ c = 270 by omega) with rfl | rfl | rfl | rfl | rfl
      · exact ze.of h1
      · have e : ε (zpi 267) = eR (cy 3) 5 f := h2
        rw [e]
        refine ze.refs (fun i hi => ?_)
        rw [h3 i hi]
        show some (ad (1 + 77 + 1 + 38 * i)) = some (ad (zpiL (76 + 38 * i)))
        rw [zpiL_lo (by omega)]
        rw [show 76 + 38 * i = 38 * (i + 2) + 0 by omega, zpi_town (by omega) (by decide)]
        have e : ztb (i + 2) = 3 + 38 * (i + 2) := by unfold ztb; rw [if_neg (by omega), if_neg (by omega)]
        rw [e]
        exact congrArg (fun x => some (ad x)) (by show _ = 3 + 38 * (i + 2) + 0; omega)
      · exact ze.of g5
      · exact ze.of g6
      · exact ze.of g1
  intro k q hq
  obtain ⟨hk, rfl⟩ := zw_in hq
  by_cases hc : k < 271
  · have hp := (zpi_ok k hc).2
    have e1 : zt1 k = zt0 k := if_neg (by omega)
    show va_at D cl (ad (zpiL k), _) H
    rw [e1, zpiL_lo hc]
    exact key k hc D cl _ H (hP (zpi k) _ (zv_at (by omega) rfl))
  · show va_at D cl (ad (zpiL k), _) H
    rw [← hL k (by omega) hk, zpiL_hi (by omega)]
    exact hP k _ (zv_at (by omega) rfl)
theorem zpiL_inj {i j : Nat} (hi : i < 278) (hj : j < 278) (e : zpiL i = zpiL j) : i = j := by
  by_cases h1 : i < 271 <;> by_cases h2 : j < 271
  · rw [zpiL_lo h1, zpiL_lo h2] at e
    rw [← (zpi_ok i h1).1, e, (zpi_ok j h2).1]
  · rw [zpiL_lo h1, zpiL_hi (by omega)] at e
    have := (zpi_ok i h1).2
    omega
  · rw [zpiL_hi (by omega), zpiL_lo h2] at e
    have := (zpi_ok j h2).2
    omega
  · rw [zpiL_hi (by omega), zpiL_hi (by omega)] at e
    exact e
theorem zpiL_lt {i : Nat} (hi : i < 278) : zpiL i < 278 := by
  by_cases h1 : i < 271
  · rw [zpiL_lo h1]
    have := (zpi_ok i h1).2
    omega
  · rw [zpiL_hi (by omega)]
    exact hi
theorem worldL_J {ad : Nat → Nat} {ε : Nat → va_E} {A : Nat → Prop} {n : Nat} (hn : 278 ≤ n) (hD : va_D A (zv n ad ε)) : zJ 278 (fun c => ad (zpiL c)) ∧ ∀ c, c < 278 → A (ad (zpiL c)) := by
  refine ⟨fun i j hi hj e => ?_, fun c hc => ?_⟩
  · exact zpiL_inj hi hj (hD.1 (zpiL i) (zpiL j) _ _ (zv_at (by have := zpiL_lt hi; omega) rfl) (zv_at (by have := zpiL_lt hj; omega) rfl) e)
  · exact hD.2 (zpiL c) _ (zv_at (by have := zpiL_lt hc; omega) rfl)
/-- at first both are alike -/
theorem zRT_0 : zT 0 0 (fun _ => 0) (fun _ => 0) (fun _ => 1) 0 zt0 zu0 ∧ (zT 0 0 (fun _ => 0) (fun _ => 0) (fun _ => 1) 0 zt0 zu0 → zRl zt0 zu0) := by
  have th : ∀ i, i < 7 → ∀ k, k < 24 → ∀ f, zt0 (38 * i + 2 + k) f = if f = 7 then -1 else 0 := fun i hi k hk f => by
    rw [show 38 * i + 2 + k = 38 * i + (2 + k) by omega, zt0_t hi (by omega), t0_h hk]
  have th0 : ∀ k, k < 24 → ∀ f, zt0 (0 + 2 + k) f = if f = 7 then -1 else 0 := fun k hk f => th 0 (by decide) k hk f
  have us : ∀ x, x < 410 → zu0 1 x = 0 := fun x hx => by
    show eS0 x = 0
    unfold eS0 upd
    rw [if_neg (by omega), if_neg (by omega), if_neg (by omega), if_neg (by omega)]
  have t00 : ∀ f, zt0 0 f = 0 := fun f => rfl
  have tset : ∀ i, zt0 (0 + 37) i = zFirst i := fun i => rfl
  refine ⟨⟨⟨fun k hk f hf h7 => ?_, fun k hk => ?_, fun c h1 h2 => ?_, ⟨us 400 (by decide), us 401 (by decide)⟩, fun i hi => ?_⟩, ⟨by decide, rfl, rfl, fun k hk => ?_, fun k hk _ => ?_, ?_⟩, ⟨fun k hk => absurd hk (by omega), fun k hk => absurd hk (by omega), fun j hj p hp => Or.inl ?_, fun j hj => Or.inl ⟨?_, us _ (by omega)⟩⟩, ⟨0, 0, by decide, by decide, rfl, rfl, us 409 (by decide), fun a ha => absurd ha (by omega)⟩⟩, fun hT => ⟨⟨0, 0, fun _ => 0, fun _ => 1, by decide, hT⟩, ⟨⟨0, 0, by decide, by decide, rfl, rfl, rfl, fun i hi => absurd hi (by omega)⟩, fun s hs k hk => Or.inl ?_⟩, ⟨0, fun _ => 0, by decide, rfl, rfl, fun i hi => absurd hi (by omega)⟩, rfl, fun k hk => ⟨0, by decide, rfl⟩⟩⟩
  · have := hf_lt hf h7
    rw [th0 k hk, if_neg h7, us _ (by omega)]
  · rw [th0 k hk, if_pos rfl, us _ (by omega)]
    decide +kernel
  · rw [us _ (by omega)]; rfl
  · rcases (show i = 0 ∨ i = 1 ∨ i = 2 ∨ i = 3 by omega) with rfl | rfl | rfl | rfl <;> rfl
  · refine ⟨⟨0, by decide, ?_⟩, ⟨0, by decide, ?_⟩, ⟨0, by decide, ?_⟩, Or.inl ?_, ⟨0, by decide, by decide, ?_⟩, Or.inl ?_, ⟨0, Nat.zero_le _, ?_⟩⟩
    all_goals rw [th0 k hk]
    all_goals decide +kernel
  · refine ⟨?_, ?_, ?_, ?_⟩
    all_goals rw [th0 k hk]
    all_goals decide +kernel
  · refine ⟨⟨3, by decide, rfl⟩, ⟨7, by decide, by decide, rfl⟩, ⟨50, by decide, by decide, rfl⟩, ⟨60, by decide, by decide, rfl⟩⟩
  · rw [show 0 + 28 + 2 * j = 38 * 0 + (28 + 2 * j) by omega, zt0_t (by decide) (by omega), t0_p hj]
  · rw [show 0 + 27 + 2 * j = 38 * 0 + (27 + 2 * j) by omega, zt0_t (by decide) (by omega), t0_s hj, if_pos rfl]
  · rw [show 76 + 38 * s + 2 + k = 38 * (s + 2) + 2 + k by omega, th (s + 2) (by omega) k hk, if_neg (by decide)]
theorem zRl_0 : zRl zt0 zu0 := zRT_0.2 zRT_0.1
theorem zt1_e (c : Nat) (h : c ≠ 277) : zt1 c = zt0 c := if_neg h
theorem zLR_0 : zLR 0 zt1 := by
  have e : ∀ x, x < 271 → zt1 x = zt0 x := fun x hx => zt1_e x (by omega)
  have us : ∀ x, x < 410 → zu0 1 x = 0 := fun x hx => by
    show eS0 x = 0
    unfold eS0 upd
    rw [if_neg (by omega), if_neg (by omega), if_neg (by omega), if_neg (by omega)]
  refine ⟨zu0, 0, 0, fun _ => 0, fun _ => 1, zRl_0.lw e, ?_, zRT_0.1.fr (fun x _ h2 => e x (by omega)), by decide, by decide, ?_⟩
  · have z : ∀ c x, 271 ≤ c → c ≠ 277 → zt1 c x = 0 := fun c x h1 h2 => by
      rw [zt1_e c h2]
      show (if c < 266 then t0T (c % 38) x else 0) = 0
      rw [if_neg (by omega)]
    intro i x hv
    rcases hv with ⟨rfl, h1⟩ | ⟨rfl, h1⟩ | ⟨rfl, h1⟩ | ⟨rfl, h1⟩ | ⟨rfl, h1⟩ | ⟨rfl, h1⟩ | ⟨rfl, h1⟩
    · rw [z _ _ (by decide) (by decide), us _ (by rw [li1]; omega)]
    · rw [z _ _ (by decide) (by decide), us _ (by rw [li2]; omega)]
    · rw [z _ _ (by decide) (by decide), us _ (by show 14 * (x / 4) + (8 + x % 4) < 410; omega)]
    · rw [z _ _ (by decide) (by decide), us _ (by show 14 * (x / 2) + (12 + x % 2) < 410; omega)]
    · rw [z _ _ (by decide) (by decide), us _ (by show 336 + x < 410; omega)]
    · rw [z _ _ (by decide) (by decide), us _ (by show 340 + x < 410; omega)]
    · revert h1 x
      decide +kernel
  · unfold lI
    decide +kernel
