/-! floats: numbers of 24 digits, written as biased exponent and tail -/
theorem zf_tails : Jvm.FP.Core.b32.tails = 8388608 := by decide +kernel
theorem zf_exps : Jvm.FP.Core.b32.exps = 256 := by decide +kernel
theorem zf_qmin : Jvm.FP.Core.b32.qmin = -149 := by decide +kernel
theorem zf_qmax : Jvm.FP.Core.b32.qmax = 104 := by decide +kernel
theorem zf_p : Jvm.FP.Core.b32.p = 24 := rfl
theorem zf_dec {E T : Nat} (h1 : 1 ≤ E) (h2 : E ≤ 254) (hT : T < 8388608) : Jvm.FP.Core.decode Jvm.FP.Core.b32 (E * 8388608 + T) = .fin false (8388608 + T) (-149 + ((E : Int) - 1)) := by
  have e1 : (E * 8388608 + T) / 8388608 = E := by omega
  have e2 : (E * 8388608 + T) % 8388608 = T := by omega
  have e3 : E % 256 = E := by omega
  have e4 : E / 256 = 0 := by omega
  unfold Jvm.FP.Core.decode Jvm.FP.Core.fieldE Jvm.FP.Core.fieldT Jvm.FP.Core.fieldS
  rw [zf_tails, zf_exps, zf_qmin, e1, e2, e3, e4, if_neg (by omega), if_neg (by omega)]
  rfl
theorem zf_enc {c : Nat} {q : Int} (h1 : 8388608 ≤ c) : Jvm.FP.Core.encode Jvm.FP.Core.b32 (.fin false c q) = ((q + 149).toNat + 1) * 8388608 + (c - 8388608) := by
  unfold Jvm.FP.Core.encode Jvm.FP.Core.assemble
  rw [zf_tails, zf_exps, zf_qmin]
  simp only []
  rw [if_neg (by omega), show q - -149 = q + 149 by omega]
  simp
theorem zf_log {n k : Nat} (h1 : 2 ^ k ≤ n) (h2 : n < 2 ^ (k + 1)) : n.log2 = k := (Nat.log2_eq_iff (by have := Nat.two_pow_pos k; omega)).mpr ⟨h1, h2⟩
theorem zf_lead1 {n k : Nat} (h1 : 2 ^ k ≤ n) (h2 : n < 2 ^ (k + 1)) : Jvm.FP.Core.leading n 1 = k := by
  unfold Jvm.FP.Core.leading
  have e : Nat.log2 1 = 0 := zf_log (k := 0) (by decide) (by decide)
  rw [zf_log h1 h2, e]
  simp only []
  have e1 : ((k : Int) - ((0 : Nat) : Int)).toNat = k := by omega
  have e2 : (-((k : Int) - ((0 : Nat) : Int))).toNat = 0 := by omega
  rw [e1, e2, if_pos (by omega)]
  omega
theorem zf_near1 (n : Nat) : Jvm.FP.Core.nearest n 1 = n := by
  unfold Jvm.FP.Core.nearest
  rw [if_pos (by omega)]
  omega
theorem zf_nearm (n m : Nat) (hm : 0 < m) : Jvm.FP.Core.nearest (n * m) m = n := by
  unfold Jvm.FP.Core.nearest
  rw [Nat.mul_mod_left, if_pos (by omega), Nat.mul_div_cancel _ hm]
theorem zf_settle {c : Nat} {q : Int} (h1 : c < 16777216) (hq : q ≤ 104) : Jvm.FP.Core.settle Jvm.FP.Core.b32 false c q = .fin false c q := by
  unfold Jvm.FP.Core.settle Jvm.FP.Core.bound
  rw [zf_p, zf_qmax, if_pos (by omega), if_pos hq]
/-- twice -/
theorem zf_dbl {b : Nat} (h1 : 8388608 ≤ b) (h2 : b < 253 * 8388608) : FP.fmul (UInt32.ofNat b) FP.fconst2 = UInt32.ofNat (b + 8388608) := by
  obtain ⟨E, T, hE1, hE2, hT, rfl⟩ : ∃ E T, 1 ≤ E ∧ E ≤ 252 ∧ T < 8388608 ∧ b = E * 8388608 + T := ⟨b / 8388608, b % 8388608, by omega, by omega, by omega, by omega⟩
  show UInt32.ofNat (Jvm.FP.Core.mul Jvm.FP.Core.b32 (UInt32.ofNat (E * 8388608 + T)).toNat (UInt32.toNat FP.fconst2)) = _
  have e1 : (UInt32.ofNat (E * 8388608 + T)).toNat = E * 8388608 + T := UInt32.toNat_ofNat_of_lt' (show E * 8388608 + T < 4294967296 by omega)
  have e2 : UInt32.toNat FP.fconst2 = 128 * 8388608 + 0 := by decide
  congr 1
  unfold Jvm.FP.Core.mul
  rw [e1, e2, zf_dec hE1 (by omega) hT, zf_dec (by decide) (by decide) (by decide)]
  simp only [Jvm.FP.Core.exactProduct, Jvm.FP.Core.round]
  have hl : Jvm.FP.Core.leading ((8388608 + T) * (8388608 + 0)) 1 = (46 : Nat) := zf_lead1 (by rw [show (2 : Nat) ^ 46 = 70368744177664 by decide +kernel]; omega) (Nat.lt_of_le_of_lt (Nat.mul_le_mul (show 8388608 + T ≤ 16777215 by omega) (show 8388608 + 0 ≤ 8388608 by omega)) (by decide +kernel))
  unfold Jvm.FP.Core.roundRatio Jvm.FP.Core.roundAt Jvm.FP.Core.quantum Jvm.FP.Core.unitsNum Jvm.FP.Core.unitsDen
  rw [if_neg (by omega), hl, zf_p, zf_qmin]
  have hq : max (-149 : Int) ((46 : Nat) + (-149 + ((E : Int) - 1) + (-149 + (((128 : Nat) : Int) - 1))) - (((24 : Nat) : Int) - 1)) = -149 + (E : Int) := by omega
  rw [hq]
  have h3 : (-149 + ((E : Int) - 1) + (-149 + (((128 : Nat) : Int) - 1)) - (-149 + (E : Int))).toNat = 0 := by omega
  have h4 : ((-149 + (E : Int)) - (-149 + ((E : Int) - 1) + (-149 + (((128 : Nat) : Int) - 1)))).toNat = 23 := by omega
  rw [h3, h4, show (8388608 + T) * (8388608 + 0) * 2 ^ 0 = (8388608 + T) * (1 * 2 ^ 23) by omega, zf_nearm _ _ (by decide), show (false != false) = false from rfl, zf_settle (by omega) (by omega), zf_enc (by omega)]
  omega
theorem zf_cmp {b : Nat} (h1 : 8388608 ≤ b) (h2 : b < 255 * 8388608) : FP.fcmp (UInt32.ofNat b) 1258291200 = some .lt ∧ b < 1258291200 ∨ (FP.fcmp (UInt32.ofNat b) 1258291200 ≠ some .lt ∧ FP.fcmp (UInt32.ofNat b) 1258291200 ≠ none) ∧ 1258291200 ≤ b := by
  obtain ⟨E, T, hE1, hE2, hT, rfl⟩ : ∃ E T, 1 ≤ E ∧ E ≤ 254 ∧ T < 8388608 ∧ b = E * 8388608 + T := ⟨b / 8388608, b % 8388608, by omega, by omega, by omega, by omega⟩
  have e1 : (UInt32.ofNat (E * 8388608 + T)).toNat = E * 8388608 + T := UInt32.toNat_ofNat_of_lt' (show E * 8388608 + T < 4294967296 by omega)
  have e2 : UInt32.toNat 1258291200 = 150 * 8388608 + 0 := by decide
  have e3 : FP.fcmp (UInt32.ofNat (E * 8388608 + T)) 1258291200 = some (compare ((Jvm.FP.Core.inUnits (8388608 + T) (-149 + ((E : Int) - 1)) (min (-149 + ((E : Int) - 1)) 0) : Nat) : Int) ((Jvm.FP.Core.inUnits 8388608 0 (min (-149 + ((E : Int) - 1)) 0) : Nat) : Int)) := by
    show Jvm.FP.Core.order (Jvm.FP.Core.decode Jvm.FP.Core.b32 (UInt32.ofNat (E * 8388608 + T)).toNat) (Jvm.FP.Core.decode Jvm.FP.Core.b32 (UInt32.toNat 1258291200)) = _
    rw [e1, e2, zf_dec hE1 hE2 hT, zf_dec (by decide) (by decide) (by decide)]
    rfl
  by_cases hE : E < 150
  · left
    refine ⟨?_, by omega⟩
    rw [e3, show min (-149 + ((E : Int) - 1)) 0 = -149 + ((E : Int) - 1) by omega]
    unfold Jvm.FP.Core.inUnits
    have h3 : ((-149 + ((E : Int) - 1)) - (-149 + ((E : Int) - 1))).toNat = 0 := by omega
    obtain ⟨d, hd⟩ : ∃ d, (0 - (-149 + ((E : Int) - 1))).toNat = d + 1 := ⟨149 - E, by omega⟩
    rw [h3, hd]
    have hp : 1 ≤ 2 ^ d := Nat.two_pow_pos d
    have h5 : (8388608 + T) * 2 ^ 0 < 8388608 * 2 ^ (d + 1) := by
      rw [Nat.pow_succ]
      have : 8388608 * 1 ≤ 8388608 * 2 ^ d := Nat.mul_le_mul_left _ hp
      omega
    exact congrArg some (Int.compare_eq_lt.mpr (Int.ofNat_lt.mpr h5))
  · right
    refine ⟨?_, by omega⟩
    rw [e3, show min (-149 + ((E : Int) - 1)) 0 = 0 by omega]
    refine ⟨fun q => ?_, fun q => by cases q⟩
    have q1 := Int.compare_eq_lt.mp (Option.some.inj q)
    unfold Jvm.FP.Core.inUnits at q1
    have q2 := Int.ofNat_lt.mp q1
    rw [show ((0 : Int) - 0).toNat = 0 from rfl] at q2
    have hp : 1 ≤ 2 ^ ((-149 + ((E : Int) - 1)) - 0).toNat := Nat.two_pow_pos _
    have : (8388608 + T) * 1 ≤ (8388608 + T) * 2 ^ ((-149 + ((E : Int) - 1)) - 0).toNat := Nat.mul_le_mul_left _ hp
    omega
theorem zf_gt0 {b : Nat} (h1 : 8388608 ≤ b) (h2 : b < 255 * 8388608) : FP.fcmp (UInt32.ofNat b) FP.fconst0 = some .gt := by
  obtain ⟨E, T, hE1, hE2, hT, rfl⟩ : ∃ E T, 1 ≤ E ∧ E ≤ 254 ∧ T < 8388608 ∧ b = E * 8388608 + T := ⟨b / 8388608, b % 8388608, by omega, by omega, by omega, by omega⟩
  have e1 : (UInt32.ofNat (E * 8388608 + T)).toNat = E * 8388608 + T := UInt32.toNat_ofNat_of_lt' (show E * 8388608 + T < 4294967296 by omega)
  show Jvm.FP.Core.order (Jvm.FP.Core.decode Jvm.FP.Core.b32 (UInt32.ofNat (E * 8388608 + T)).toNat) (Jvm.FP.Core.decode Jvm.FP.Core.b32 (UInt32.toNat FP.fconst0)) = _
  rw [e1, zf_dec hE1 hE2 hT, show Jvm.FP.Core.decode Jvm.FP.Core.b32 (UInt32.toNat FP.fconst0) = .fin false 0 (-149) by decide +kernel]
  show some (compare ((Jvm.FP.Core.inUnits (8388608 + T) (-149 + ((E : Int) - 1)) (min (-149 + ((E : Int) - 1)) (-149)) : Nat) : Int) ((Jvm.FP.Core.inUnits 0 (-149) (min (-149 + ((E : Int) - 1)) (-149)) : Nat) : Int)) = _
  refine congrArg some (Int.compare_eq_gt.mpr (Int.ofNat_lt.mpr ?_))
  unfold Jvm.FP.Core.inUnits
  rw [Nat.zero_mul]
  exact Nat.mul_pos (by omega) (Nat.two_pow_pos _)
theorem zf_f2i {T : Nat} (hT : T < 8388608) : FP.f2i (UInt32.ofNat (150 * 8388608 + T)) = nI (8388608 + T) := by
  have e1 : (UInt32.ofNat (150 * 8388608 + T)).toNat = 150 * 8388608 + T := UInt32.toNat_ofNat_of_lt' (show 150 * 8388608 + T < 4294967296 by omega)
  show Jvm.FP.Core.toI (Jvm.FP.Core.decode Jvm.FP.Core.b32 (UInt32.ofNat (150 * 8388608 + T)).toNat) = _
  rw [e1, zf_dec (by decide) (by decide) hT]
  show Int32.ofInt (max (-2 ^ 31) (min (2 ^ 31 - 1) (Jvm.FP.Core.truncate false (8388608 + T) 0))) = _
  have e2 : Jvm.FP.Core.truncate false (8388608 + T) 0 = ((8388608 + T : Nat) : Int) := by
    show (((8388608 + T) * 2 ^ 0 / 2 ^ 0 : Nat) : Int) = _
    rw [Nat.pow_zero, Nat.mul_one, Nat.div_one]
  rw [e2, show max (-2 ^ 31 : Int) (min (2 ^ 31 - 1) ((8388608 + T : Nat) : Int)) = ((8388608 + T : Nat) : Int) by omega]
  rfl
theorem zf_i2f {n k : Nat} (h1 : 2 ^ k ≤ n) (h2 : n < 2 ^ (k + 1)) (hk : k ≤ 23) : FP.i2f (nI n) = UInt32.ofNat ((k + 127) * 8388608 + (n * 2 ^ (23 - k) - 8388608)) ∧ 8388608 ≤ n * 2 ^ (23 - k) ∧ n * 2 ^ (23 - k) < 16777216 := by
  have hp : 2 ^ k * 2 ^ (23 - k) = 8388608 := by rw [← Nat.pow_add, show k + (23 - k) = 23 by omega]
  have hp1 : 2 ^ (k + 1) * 2 ^ (23 - k) = 16777216 := by rw [← Nat.pow_add, show k + 1 + (23 - k) = 24 by omega]
  have hb : 8388608 ≤ n * 2 ^ (23 - k) := hp ▸ Nat.mul_le_mul_right _ h1
  have hc : n * 2 ^ (23 - k) < 16777216 := hp1 ▸ Nat.mul_lt_mul_of_pos_right h2 (Nat.two_pow_pos _)
  refine ⟨?_, hb, hc⟩
  have hn : n < 2 ^ 31 := by
    have : 2 ^ (k + 1) ≤ 2 ^ 24 := Nat.pow_le_pow_right (by decide) (by omega)
    omega
  have hn0 : n ≠ 0 := by have := Nat.two_pow_pos k; omega
  show UInt32.ofNat (Jvm.FP.Core.encode Jvm.FP.Core.b32 (Jvm.FP.Core.round Jvm.FP.Core.b32 (Jvm.FP.Core.ofInt (nI n).toInt))) = _
  rw [nI_toInt hn]
  have e1 : Jvm.FP.Core.ofInt (n : Int) = .fin false n 0 := by
    unfold Jvm.FP.Core.ofInt
    rw [decide_eq_false (by omega)]
    rfl
  rw [e1]
  show UInt32.ofNat (Jvm.FP.Core.encode Jvm.FP.Core.b32 (Jvm.FP.Core.roundRatio Jvm.FP.Core.b32 false n 1 0)) = _
  unfold Jvm.FP.Core.roundRatio Jvm.FP.Core.roundAt Jvm.FP.Core.quantum Jvm.FP.Core.unitsNum Jvm.FP.Core.unitsDen
  rw [if_neg hn0, zf_lead1 h1 h2, zf_p, zf_qmin, show max (-149 : Int) ((k : Int) + 0 - (((24 : Nat) : Int) - 1)) = (k : Int) - 23 by omega, show ((0 : Int) - ((k : Int) - 23)).toNat = 23 - k by omega, show ((k : Int) - 23 - 0).toNat = 0 by omega, show 1 * 2 ^ 0 = 1 from rfl, zf_near1, zf_settle hc (by omega), zf_enc hb, show ((k : Int) - 23 + 149).toNat + 1 = k + 127 by omega]
theorem zf_div {c d i j : Nat} (hc1 : 8388608 ≤ c) (hc2 : c < 16777216) (hd1 : 8388608 ≤ d) (hd2 : d < 16777216) (hi : i ≤ 20) (hj : j ≤ 20) : ∃ b, 2 * 8388608 ≤ b ∧ b < 150 * 8388608 ∧ FP.fdiv (UInt32.ofNat ((i + 127) * 8388608 + (c - 8388608))) (UInt32.ofNat ((j + 127) * 8388608 + (d - 8388608))) = UInt32.ofNat b := by
  have e1 : (UInt32.ofNat ((i + 127) * 8388608 + (c - 8388608))).toNat = (i + 127) * 8388608 + (c - 8388608) := UInt32.toNat_ofNat_of_lt' (show _ < 4294967296 by omega)
  have e2 : (UInt32.ofNat ((j + 127) * 8388608 + (d - 8388608))).toNat = (j + 127) * 8388608 + (d - 8388608) := UInt32.toNat_ofNat_of_lt' (show _ < 4294967296 by omega)
  have e3 : FP.fdiv (UInt32.ofNat ((i + 127) * 8388608 + (c - 8388608))) (UInt32.ofNat ((j + 127) * 8388608 + (d - 8388608))) = UInt32.ofNat (Jvm.FP.Core.encode Jvm.FP.Core.b32 (Jvm.FP.Core.roundRatio Jvm.FP.Core.b32 false c d ((i : Int) - j))) := by
    show UInt32.ofNat (Jvm.FP.Core.div Jvm.FP.Core.b32 _ _) = _
    rw [e1, e2]
    unfold Jvm.FP.Core.div
    rw [zf_dec (E := i + 127) (T := c - 8388608) (by omega) (by omega) (by omega), zf_dec (E := j + 127) (T := d - 8388608) (by omega) (by omega) (by omega)]
    simp only [Jvm.FP.Core.quotient]
    rw [if_neg (by omega), show 8388608 + (c - 8388608) = c by omega, show 8388608 + (d - 8388608) = d by omega, show (-149 + (((i + 127 : Nat) : Int) - 1)) - (-149 + (((j + 127 : Nat) : Int) - 1)) = (i : Int) - j by omega]
    rfl
  have hlc : c.log2 = 23 := zf_log hc1 hc2
  have hld : d.log2 = 23 := zf_log hd1 hd2
  -- what settling does
  have fin : ∀ (x : Nat) (q : Int), 8388608 ≤ x → x ≤ 16777216 → -60 ≤ q → q ≤ -2 → ∃ b, 2 * 8388608 ≤ b ∧ b < 150 * 8388608 ∧ Jvm.FP.Core.encode Jvm.FP.Core.b32 (Jvm.FP.Core.settle Jvm.FP.Core.b32 false x q) = b := by
    intro x q h1 h2 h3 h4
    by_cases h : x < 16777216
    · rw [zf_settle h (by omega), zf_enc h1]
      exact ⟨_, by omega, by omega, rfl⟩
    · have hx : x = 16777216 := by omega
      unfold Jvm.FP.Core.settle Jvm.FP.Core.bound
      rw [zf_p, zf_qmax, zf_tails, if_neg (by omega), if_pos (by omega), zf_enc (by decide)]
      exact ⟨_, by omega, by omega, rfl⟩
  have near : ∀ (u v lo hi : Nat), 0 < v → lo * v ≤ u → u < hi * v → lo ≤ Jvm.FP.Core.nearest u v ∧ Jvm.FP.Core.nearest u v ≤ hi := by
    intro u v lo hi h0 h1 h2
    have h3 : lo ≤ u / v := (Nat.le_div_iff_mul_le h0).mpr h1
    have h4 : u / v < hi := (Nat.div_lt_iff_lt_mul h0).mpr h2
    unfold Jvm.FP.Core.nearest
    split
    · omega
    · split
      · omega
      · omega
  rw [e3]
  unfold Jvm.FP.Core.roundRatio Jvm.FP.Core.roundAt Jvm.FP.Core.quantum Jvm.FP.Core.unitsNum Jvm.FP.Core.unitsDen
  rw [if_neg (by omega), zf_p, zf_qmin]
  by_cases hdc : d ≤ c
  · have hl : Jvm.FP.Core.leading c d = 0 := by
      unfold Jvm.FP.Core.leading
      rw [hlc, hld]
      simp only []
      rw [show (((23 : Nat) : Int) - ((23 : Nat) : Int)).toNat = 0 from rfl, show (-(((23 : Nat) : Int) - ((23 : Nat) : Int))).toNat = 0 from rfl, if_pos (by omega)]
      rfl
    rw [hl, show max (-149 : Int) (0 + ((i : Int) - j) - (((24 : Nat) : Int) - 1)) = (i : Int) - j - 23 by omega, show ((i : Int) - j - ((i : Int) - j - 23)).toNat = 23 by omega, show ((i : Int) - j - 23 - ((i : Int) - j)).toNat = 0 by omega]
    obtain ⟨n1, n2⟩ := near (c * 2 ^ 23) (d * 2 ^ 0) 8388608 16777216 (by omega) (by omega) (by omega)
    obtain ⟨b, b1, b2, b3⟩ := fin _ ((i : Int) - j - 23) n1 n2 (by omega) (by omega)
    exact ⟨b, b1, b2, by rw [b3]⟩
  · have hl : Jvm.FP.Core.leading c d = -1 := by
      unfold Jvm.FP.Core.leading
      rw [hlc, hld]
      simp only []
      rw [show (((23 : Nat) : Int) - ((23 : Nat) : Int)).toNat = 0 from rfl, show (-(((23 : Nat) : Int) - ((23 : Nat) : Int))).toNat = 0 from rfl, if_neg (by omega)]
      rfl
    rw [hl, show max (-149 : Int) (-1 + ((i : Int) - j) - (((24 : Nat) : Int) - 1)) = (i : Int) - j - 24 by omega, show ((i : Int) - j - ((i : Int) - j - 24)).toNat = 24 by omega, show ((i : Int) - j - 24 - ((i : Int) - j)).toNat = 0 by omega]
    obtain ⟨n1, n2⟩ := near (c * 2 ^ 24) (d * 2 ^ 0) 8388608 16777216 (by omega) (by omega) (by omega)
    obtain ⟨b, b1, b2, b3⟩ := fin _ ((i : Int) - j - 24) n1 n2 (by omega) (by omega)
    exact ⟨b, b1, b2, by rw [b3]⟩
/-- a mean of whole numbers: 0, or a number that is not too small and not too great -/
theorem zf_mean {S C : Nat} (hS : S ≤ 100000) (hC : 1 ≤ C) (hC2 : C ≤ 100000) : ∃ b, (b = 0 ∨ (2 * 8388608 ≤ b ∧ b < 150 * 8388608)) ∧ FP.fdiv (FP.i2f (nI S)) (FP.i2f (nI C)) = UInt32.ofNat b := by
  have lg : ∀ n : Nat, 1 ≤ n → n ≤ 100000 → ∃ k, k ≤ 16 ∧ 2 ^ k ≤ n ∧ n < 2 ^ (k + 1) := by
    intro n h1 h2
    refine ⟨n.log2, ?_, Nat.log2_self_le (by omega), Nat.lt_log2_self⟩
    have := (Nat.log2_lt (n := n) (k := 17) (by omega)).mpr (by omega)
    omega
  obtain ⟨j, j1, j2, j3⟩ := lg C hC hC2
  obtain ⟨f2, g2, g3⟩ := zf_i2f j2 j3 (by omega)
  rcases Nat.eq_zero_or_pos S with h0 | h0
  · subst h0
    refine ⟨0, Or.inl rfl, ?_⟩
    rw [f2, show FP.i2f (nI 0) = 0 by decide +kernel]
    have e2 : (UInt32.ofNat ((j + 127) * 8388608 + (C * 2 ^ (23 - j) - 8388608))).toNat = (j + 127) * 8388608 + (C * 2 ^ (23 - j) - 8388608) := UInt32.toNat_ofNat_of_lt' (show _ < 4294967296 by omega)
    show UInt32.ofNat (Jvm.FP.Core.div Jvm.FP.Core.b32 (UInt32.toNat 0) _) = _
    rw [e2]
    unfold Jvm.FP.Core.div
    rw [zf_dec (E := j + 127) (T := C * 2 ^ (23 - j) - 8388608) (by omega) (by omega) (by omega), show Jvm.FP.Core.decode Jvm.FP.Core.b32 (UInt32.toNat 0) = .fin false 0 (-149) by decide +kernel]
    simp only [Jvm.FP.Core.quotient]
    rw [if_neg (by omega)]
    unfold Jvm.FP.Core.roundRatio
    rw [if_pos rfl]
    decide +kernel
  · obtain ⟨i, i1, i2, i3⟩ := lg S h0 hS
    obtain ⟨f1, g0, g1⟩ := zf_i2f i2 i3 (by omega)
    rw [f1, f2]
    obtain ⟨b, b1, b2, b3⟩ := zf_div g0 g1 g2 g3 (i := i) (j := j) (by omega) (by omega)
    exact ⟨b, Or.inr ⟨b1, b2⟩, b3⟩
