/-! the law's table against the reference's numbers -/
def li (i x : Nat) : Nat := if i = 271 then 14 * (x / 4) + x % 4 else if i = 272 then 14 * (x / 4) + (4 + x % 4) else if i = 273 then 14 * (x / 4) + (8 + x % 4) else if i = 274 then 14 * (x / 2) + (12 + x % 2) else if i = 275 then 336 + x else if i = 276 then 340 + x else 400 + x
def lv (i x : Nat) : Prop := (i = 271 ∧ x < 64) ∨ (i = 272 ∧ x < 64) ∨ (i = 273 ∧ x < 64) ∨ (i = 274 ∧ x < 32) ∨ (i = 275 ∧ x < 4) ∨ (i = 276 ∧ x < 60) ∨ (i = 277 ∧ x < 14)
def lA (t u : zM) : Prop := ∀ i x, lv i x → t i x = u 1 (li i x)
theorem li1 (x : Nat) : li 271 x = 14 * (x / 4) + x % 4 := rfl
theorem li2 (x : Nat) : li 272 x = 14 * (x / 4) + (4 + x % 4) := rfl
theorem li3 (x : Nat) : li 273 x = 14 * (x / 4) + (8 + x % 4) := rfl
theorem li4 (x : Nat) : li 274 x = 14 * (x / 2) + (12 + x % 2) := rfl
theorem li5 (x : Nat) : li 275 x = 336 + x := rfl
theorem li6 (x : Nat) : li 276 x = 340 + x := rfl
theorem li7 (x : Nat) : li 277 x = 400 + x := rfl
theorem li_lt {i x : Nat} (h : lv i x) : li i x < 414 := by
  rcases h with ⟨rfl, h⟩ | ⟨rfl, h⟩ | ⟨rfl, h⟩ | ⟨rfl, h⟩ | ⟨rfl, h⟩ | ⟨rfl, h⟩ | ⟨rfl, h⟩
  · rw [li1]; omega
  · rw [li2]; omega
  · rw [li3]; omega
  · rw [li4]; omega
  · rw [li5]; omega
  · rw [li6]; omega
  · rw [li7]; omega
theorem li_inj {i x j y : Nat} (h1 : lv i x) (h2 : lv j y) (e : li i x = li j y) : i = j ∧ x = y := by
  rcases h1 with ⟨rfl, h1⟩ | ⟨rfl, h1⟩ | ⟨rfl, h1⟩ | ⟨rfl, h1⟩ | ⟨rfl, h1⟩ | ⟨rfl, h1⟩ | ⟨rfl, h1⟩ <;> rcases h2 with ⟨rfl, h2⟩ | ⟨rfl, h2⟩ | ⟨rfl, h2⟩ | ⟨rfl, h2⟩ | ⟨rfl, h2⟩ | ⟨rfl, h2⟩ | ⟨rfl, h2⟩ <;> simp only [li1, li2, li3, li4, li5, li6, li7] at e <;> omega
section LA
variable {t u S V : zM}
theorem lA.put (h : lA t u) {i x : Nat} (hv : lv i x) (v : Int32) : lA (zset t i x v) (zset u 1 (li i x) v) := fun j y hj => by
  by_cases e : j = i ∧ y = x
  · obtain ⟨rfl, rfl⟩ := e
    rw [zset_eq, zset_eq]
  · have hn : li j y ≠ li i x := fun q => e (li_inj hj hv q)
    rw [zset_nk _ _ _ hn]
    refine Eq.trans ?_ (h j y hj)
    by_cases e1 : j = i
    · subst e1; exact zset_nk _ _ _ (fun q => e ⟨rfl, q⟩)
    · exact zset_idk _ _ _ _ e1
theorem lA.fr (h : lA t u) (e : ∀ i x, lv i x → S i x = t i x) (e1 : ∀ x, x < 414 → V 1 x = u 1 x) : lA S V := fun i x hv => by
  rw [e i x hv, e1 _ (li_lt hv)]
  exact h i x hv
theorem lA.ru (h : lA t u) (e1 : V 1 = u 1) : lA t V := h.fr (fun _ _ _ => rfl) (fun x _ => congrFun e1 x)
theorem lA.junk (h : lA t u) {x : Nat} (hx : 4 ≤ x) (v : Int32) : lA (zset t 275 x v) u := h.fr (fun i y hv => by
  rcases hv with ⟨rfl, _⟩ | ⟨rfl, _⟩ | ⟨rfl, _⟩ | ⟨rfl, _⟩ | ⟨rfl, h1⟩ | ⟨rfl, _⟩ | ⟨rfl, _⟩
  · exact zset_idk _ _ _ _ (by decide)
  · exact zset_idk _ _ _ _ (by decide)
  · exact zset_idk _ _ _ _ (by decide)
  · exact zset_idk _ _ _ _ (by decide)
  · exact zset_nk _ _ _ (by omega)
  · exact zset_idk _ _ _ _ (by decide)
  · exact zset_idk _ _ _ _ (by decide)) (fun _ _ => rfl)
/-- a class's step leaves the table -/
theorem lA.up (h : lA t u) (e : ∀ x, 271 ≤ x → S x = t x) : lA S u := h.fr (fun i x hv => by
  have : 271 ≤ i := by rcases hv with ⟨rfl, _⟩ | ⟨rfl, _⟩ | ⟨rfl, _⟩ | ⟨rfl, _⟩ | ⟨rfl, _⟩ | ⟨rfl, _⟩ | ⟨rfl, _⟩ <;> decide
  rw [e i this]) (fun _ _ => rfl)
theorem lA.a (h : lA t u) {k f y : Nat} (hk : k < 16) (hf : f < 4) (hy : y = 14 * k + f) (v : Int32) : lA (zset t 271 (4 * k + f) v) (zset u 1 y v) := by
  have := h.put (i := 271) (x := 4 * k + f) (Or.inl ⟨rfl, by omega⟩) v
  rw [li1, show 14 * ((4 * k + f) / 4) + (4 * k + f) % 4 = y by omega] at this
  exact this
theorem lA.b (h : lA t u) {k f y : Nat} (hk : k < 16) (hf : f < 4) (hy : y = 14 * k + (4 + f)) (v : Int32) : lA (zset t 272 (4 * k + f) v) (zset u 1 y v) := by
  have := h.put (i := 272) (x := 4 * k + f) (Or.inr (Or.inl ⟨rfl, by omega⟩)) v
  rw [li2, show 14 * ((4 * k + f) / 4) + (4 + (4 * k + f) % 4) = y by omega] at this
  exact this
theorem lA.c (h : lA t u) {k f y : Nat} (hk : k < 16) (hf : f < 4) (hy : y = 14 * k + (8 + f)) (v : Int32) : lA (zset t 273 (4 * k + f) v) (zset u 1 y v) := by
  have := h.put (i := 273) (x := 4 * k + f) (Or.inr (Or.inr (Or.inl ⟨rfl, by omega⟩))) v
  rw [li3, show 14 * ((4 * k + f) / 4) + (8 + (4 * k + f) % 4) = y by omega] at this
  exact this
theorem lA.d (h : lA t u) {k f y : Nat} (hk : k < 16) (hf : f < 2) (hy : y = 14 * k + (12 + f)) (v : Int32) : lA (zset t 274 (2 * k + f) v) (zset u 1 y v) := by
  have := h.put (i := 274) (x := 2 * k + f) (Or.inr (Or.inr (Or.inr (Or.inl ⟨rfl, by omega⟩)))) v
  rw [li4, show 14 * ((2 * k + f) / 2) + (12 + (2 * k + f) % 2) = y by omega] at this
  exact this
theorem lA.w (h : lA t u) {q : Nat} (hq : q < 4) (v : Int32) : lA (zset t 275 q v) (zset u 1 (336 + q) v) := h.put (i := 275) (x := q) (Or.inr (Or.inr (Or.inr (Or.inr (Or.inl ⟨rfl, hq⟩))))) v
theorem lA.tt (h : lA t u) {x y : Nat} (hx : x < 14) (hy : y = 400 + x) (v : Int32) : lA (zset t 277 x v) (zset u 1 y v) := by
  subst hy
  exact h.put (i := 277) (x := x) (Or.inr (Or.inr (Or.inr (Or.inr (Or.inr (Or.inr ⟨rfl, hx⟩)))))) v
theorem lA.ra (h : lA t u) {k f : Nat} (hk : k < 16) (hf : f < 4) : t 271 (4 * k + f) = u 1 (14 * k + f) := by
  rw [h 271 (4 * k + f) (Or.inl ⟨rfl, by omega⟩), li1]
  exact congrArg (u 1) (by omega)
theorem lA.rb (h : lA t u) {k f : Nat} (hk : k < 16) (hf : f < 4) : t 272 (4 * k + f) = u 1 (14 * k + (4 + f)) := by
  rw [h 272 (4 * k + f) (Or.inr (Or.inl ⟨rfl, by omega⟩)), li2]
  exact congrArg (u 1) (by omega)
theorem lA.rc (h : lA t u) {k f : Nat} (hk : k < 16) (hf : f < 4) : t 273 (4 * k + f) = u 1 (14 * k + (8 + f)) := by
  rw [h 273 (4 * k + f) (Or.inr (Or.inr (Or.inl ⟨rfl, by omega⟩))), li3]
  exact congrArg (u 1) (by omega)
theorem lA.rd (h : lA t u) {k f : Nat} (hk : k < 16) (hf : f < 2) : t 274 (2 * k + f) = u 1 (14 * k + (12 + f)) := by
  rw [h 274 (2 * k + f) (Or.inr (Or.inr (Or.inr (Or.inl ⟨rfl, by omega⟩)))), li4]
  exact congrArg (u 1) (by omega)
theorem lA.rw (h : lA t u) {q : Nat} (hq : q < 4) : t 275 q = u 1 (336 + q) := h 275 q (Or.inr (Or.inr (Or.inr (Or.inr (Or.inl ⟨rfl, hq⟩)))))
theorem lA.rl (h : lA t u) {x : Nat} (hx : x < 60) : t 276 x = u 1 (340 + x) := h 276 x (Or.inr (Or.inr (Or.inr (Or.inr (Or.inr (Or.inl ⟨rfl, hx⟩))))))
theorem lA.rt (h : lA t u) {x : Nat} (hx : x < 14) : t 277 x = u 1 (400 + x) := h 277 x (Or.inr (Or.inr (Or.inr (Or.inr (Or.inr (Or.inr ⟨rfl, hx⟩))))))
end LA
