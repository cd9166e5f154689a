theorem zoI (n : Nat) : nI n = Int32.ofInt (n : Int) := Int32.toBitVec_inj.mp (BitVec.ofInt_natCast _ _).symm
theorem zoL {A B : Int} (a1 : -2147483648 ≤ A) (a2 : A < 2147483648) (b1 : -2147483648 ≤ B) (b2 : B < 2147483648) : Int32.ofInt A ≤ Int32.ofInt B ↔ A ≤ B := by
  rw [Int32.le_iff_toInt_le, Int32.toInt_ofInt_of_le a1 a2, Int32.toInt_ofInt_of_le b1 b2]
theorem zoT {A B : Int} (a1 : -2147483648 ≤ A) (a2 : A < 2147483648) (b1 : -2147483648 ≤ B) (b2 : B < 2147483648) : Int32.ofInt A < Int32.ofInt B ↔ A < B := by
  rw [Int32.lt_iff_toInt_lt, Int32.toInt_ofInt_of_le a1 a2, Int32.toInt_ofInt_of_le b1 b2]
theorem zoE {A B : Int} (a1 : -2147483648 ≤ A) (a2 : A < 2147483648) (b1 : -2147483648 ≤ B) (b2 : B < 2147483648) : Int32.ofInt A = Int32.ofInt B ↔ A = B := by
  rw [← Int32.toInt_inj, Int32.toInt_ofInt_of_le a1 a2, Int32.toInt_ofInt_of_le b1 b2]
theorem nI_inj {a b : Nat} (ha : a < 2147483648) (hb : b < 2147483648) (h : nI a = nI b) : a = b := by
  have := congrArg Int32.toInt h
  rw [nI_toInt ha, nI_toInt hb] at this
  omega
theorem zadd1 {x y : Int32} (h : x + 1 = y + 1) : x = y := by
  have := congrArg (· - 1) h
  simp only [Int32.add_sub_cancel] at this
  exact this
theorem z_sub_add (a b c : Int32) : a - b + c = a + c - b := by
  rw [Int32.sub_eq_add_neg, Int32.sub_eq_add_neg, Int32.add_assoc, Int32.add_comm (-b) c, ← Int32.add_assoc]
theorem z_add_sub (a b c : Int32) : a + (b - c) = a + b - c := by
  rw [Int32.sub_eq_add_neg, Int32.sub_eq_add_neg, ← Int32.add_assoc]
def usedN (D M : Nat) : Nat := (D + 100000 - M) % 100000
theorem usedN_lt (D M : Nat) : usedN D M < 100000 := Nat.mod_lt _ (by decide)
theorem used_c {b D M : Nat} {t : zM} (h2 : t b 2 = nI D) (h3 : t b 3 = nI M) (hD : D < 100000) (hM : M < 100000) : rX1_used b t = nI (usedN D M) := by
  unfold rX1_used usedN
  rw [h2, h3]
  split
  · have q : D < M := zlt (by omega) (by omega) (by assumption)
    rw [z_sub_add]
    show nI D + nI 100000 - nI M = _
    rw [nI_add, nI_sub (by omega), Nat.mod_eq_of_lt (by omega)]
  · have q : M ≤ D := by
      rcases Nat.lt_or_ge D M with q | q
      · exact absurd ((nI_ltI (by omega) (by omega)).mpr q) (by assumption)
      · exact q
    rw [nI_sub q]
    exact congrArg nI (by omega)
theorem used_r {k D M : Nat} {u : zM} (h2 : u 1 (14 * k + 2) = nI D) (h3 : u 1 (14 * k + 3) = nI M) (hD : D < 100000) (hM : M < 100000) : rX7_used u k = nI (usedN D M) := by
  unfold rX7_used usedN
  rw [h2, h3, z_sub_add]
  show zrem (nI D + nI 100000 - nI M) (nI 100000) = _
  rw [nI_add, nI_sub (by omega), zrem_n (by omega) (by decide) (by decide)]
def unitsN (U : Nat) (B : Int) : Nat := if B ≤ 0 then (if 0 ≤ B then (U + 50) / 100 else (U + 99) / 100) else U / 100
theorem unitsN_le {U : Nat} {B : Int} (h : U < 100000) : unitsN U B ≤ 1000 := by
  unfold unitsN
  repeat' split
  all_goals omega
theorem zo0 : (0 : Int32) = Int32.ofInt 0 := by decide +kernel
theorem units_c {U : Nat} {B : Int} (hU : U < 100000) (h1 : -99 ≤ B) (h2 : B ≤ 99) : rX6_unitsFor (nI U) (Int32.ofInt B) = nI (unitsN U B) := by
  unfold rX6_unitsFor unitsN
  rw [zo0]
  by_cases c1 : B ≤ 0
  · rw [if_pos ((zoL (by omega) (by omega) (by decide) (by decide)).mpr c1), if_pos c1]
    by_cases c2 : 0 ≤ B
    · rw [if_pos ((zoL (by decide) (by decide) (by omega) (by omega)).mpr c2), if_pos c2]
      show (nI U + nI 50) / nI 100 = _
      rw [nI_add, nI_div (by omega) (by decide)]
    · rw [if_neg (fun q => c2 ((zoL (by decide) (by decide) (by omega) (by omega)).mp q)), if_neg c2]
      show (nI U + nI 100 - nI 1) / nI 100 = _
      rw [nI_add, nI_sub (by omega), nI_div (by omega) (by decide)]
      exact congrArg nI (by omega)
  · rw [if_neg (fun q => c1 ((zoL (by omega) (by omega) (by decide) (by decide)).mp q)), if_neg c1]
    show nI U / nI 100 = _
    rw [nI_div (by omega) (by decide)]
theorem units_r {k U : Nat} {B : Int} {u : zM} (hb : u 1 (14 * k + 4) = Int32.ofInt B) (hu : rX7_used u k = nI U) (hU : U < 100000) (h1 : -99 ≤ B) (h2 : B ≤ 99) : rX7_unitsOf u k = nI (unitsN U B) := by
  unfold rX7_unitsOf unitsN
  rw [hb, hu, zo0]
  by_cases c1 : B ≤ 0
  · rw [if_pos ((zoL (by omega) (by omega) (by decide) (by decide)).mpr c1), if_pos c1]
    by_cases c2 : 0 ≤ B
    · rw [if_pos ((zoL (by decide) (by decide) (by omega) (by omega)).mpr c2), if_pos c2]
      show (nI U + nI 50) / nI 100 = _
      rw [nI_add, nI_div (by omega) (by decide)]
    · rw [if_neg (fun q => c2 ((zoL (by decide) (by decide) (by omega) (by omega)).mp q)), if_neg c2]
      show (nI U + nI 99) / nI 100 = _
      rw [nI_add, nI_div (by omega) (by decide)]
  · rw [if_neg (fun q => c1 ((zoL (by omega) (by omega) (by decide) (by decide)).mp q)), if_neg c1]
    show (nI U + nI 0) / nI 100 = _
    rw [nI_add, nI_div (by omega) (by decide), Nat.add_zero]
/-- the balance behind a reading -/
def balN (U : Nat) (B : Int) : Int := B + 100 * (unitsN U B : Int) - U
theorem balN_b {U : Nat} {B : Int} (h1 : -99 ≤ B) (h2 : B ≤ 99) : -99 ≤ balN U B ∧ balN U B ≤ 99 := by
  unfold balN unitsN
  repeat' split
  all_goals omega
theorem zo100 : (100 : Int32) = Int32.ofInt 100 := by decide +kernel
theorem bal_c (U : Nat) (B : Int) : Int32.ofInt B + ((100 * nI (unitsN U B)) - nI U) = Int32.ofInt (balN U B) := by
  unfold balN
  rw [z_add_sub, zoI, zoI, zo100, ← Int32.ofInt_mul, ← Int32.ofInt_add, ← Int32.ofInt_sub]
theorem bal_r {k U : Nat} {B : Int} {u : zM} (hb : u 1 (14 * k + 4) = Int32.ofInt B) (hu : rX7_used u k = nI U) (hv : rX7_unitsOf u k = nI (unitsN U B)) : rX7_balanceThen u k = Int32.ofInt (balN U B) := by
  unfold rX7_balanceThen balN
  rw [hb, hu, hv, zoI, zoI, zo100, ← Int32.ofInt_mul, ← Int32.ofInt_add, ← Int32.ofInt_sub]
/-- why a house is not read -/
theorem barred_eq {b k : Nat} {t u : zM} (h : zE b t u) (hk : k < 24) (hb : t (b + 2 + k) 5 = 0 ∨ t (b + 2 + k) 5 = 1) : rX7_barred u k = rX1_reasonOn (b + 2 + k) t (t b 5) := by
  obtain ⟨e1, e2, -, ⟨e4, -⟩, -⟩ := h
  have h5 : u 1 (14 * k + 6) = t (b + 2 + k) 5 := e1 k hk 5 (by decide) (by decide)
  unfold rX7_barred rX1_reasonOn
  rw [h5, e2 k hk, e4]
  rcases hb with q | q
  · rw [q, if_neg (by decide), if_pos rfl]
    by_cases c : t (b + 2 + k) 7 = t b 5
    · rw [c, if_pos rfl, if_pos rfl]
    · rw [if_neg (fun e => c (zadd1 e)), if_neg c]
  · rw [q, if_pos rfl, if_neg (by decide)]
