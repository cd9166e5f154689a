section
-- ===== PART A: goes FIRST, ahead of the names: the tables' words, and 'selects' of the private methods out of them =====
/-- a private method of a class that the tables say can be made, by its rows of tables_1 -/
def lw_okq (q : MethodName × Nat) : Prop := (q.1.cls ≠ "java/lang/invoke/MethodHandle" ∧ q.1.cls ≠ "java/lang/invoke/VarHandle") ∧ Cond.instantiable q.1.cls q.2 ∈ tables_1 ∧ Cond.privateMethod q.1 ∈ tables_1 ∧ Cond.instanceMethod q.1 ∈ tables_1
theorem lw_p0 : lw_okq (⟨"WrongedMeters$Town", "housesAhead", "(II)I"⟩, 13) := ⟨⟨by decide +kernel, by decide +kernel⟩, List.mem_of_getElem? (i := 18) (by decide +kernel), List.mem_of_getElem? (i := 306) (by decide +kernel), List.mem_of_getElem? (i := 307) (by decide +kernel)⟩
theorem lw_p1 : lw_okq (⟨"WrongedMeters$Town", "housesLocked", "()I"⟩, 13) := ⟨⟨by decide +kernel, by decide +kernel⟩, List.mem_of_getElem? (i := 18) (by decide +kernel), List.mem_of_getElem? (i := 329) (by decide +kernel), List.mem_of_getElem? (i := 330) (by decide +kernel)⟩
theorem lw_p2 : lw_okq (⟨"WrongedMeters$Town", "housesBetween", "(II)I"⟩, 13) := ⟨⟨by decide +kernel, by decide +kernel⟩, List.mem_of_getElem? (i := 18) (by decide +kernel), List.mem_of_getElem? (i := 333) (by decide +kernel), List.mem_of_getElem? (i := 334) (by decide +kernel)⟩
theorem lw_p3 : lw_okq (⟨"WrongedMeters$Town", "balances", "()I"⟩, 13) := ⟨⟨by decide +kernel, by decide +kernel⟩, List.mem_of_getElem? (i := 18) (by decide +kernel), List.mem_of_getElem? (i := 337) (by decide +kernel), List.mem_of_getElem? (i := 338) (by decide +kernel)⟩
theorem lw_p4 : lw_okq (⟨"WrongedMeters", "carryOut", "(III)I"⟩, 4) := ⟨⟨by decide +kernel, by decide +kernel⟩, List.mem_of_getElem? (i := 10) (by decide +kernel), List.mem_of_getElem? (i := 372) (by decide +kernel), List.mem_of_getElem? (i := 373) (by decide +kernel)⟩
theorem lw_p5 : lw_okq (⟨"WrongedMeters$Town", "addHouse", "(II)I"⟩, 13) := ⟨⟨by decide +kernel, by decide +kernel⟩, List.mem_of_getElem? (i := 18) (by decide +kernel), List.mem_of_getElem? (i := 405) (by decide +kernel), List.mem_of_getElem? (i := 406) (by decide +kernel)⟩
theorem lw_p6 : lw_okq (⟨"WrongedMeters$Town", "putFlow", "(II)I"⟩, 13) := ⟨⟨by decide +kernel, by decide +kernel⟩, List.mem_of_getElem? (i := 18) (by decide +kernel), List.mem_of_getElem? (i := 419) (by decide +kernel), List.mem_of_getElem? (i := 420) (by decide +kernel)⟩
theorem lw_p7 : lw_okq (⟨"WrongedMeters$Town", "turnLock", "(I)I"⟩, 13) := ⟨⟨by decide +kernel, by decide +kernel⟩, List.mem_of_getElem? (i := 18) (by decide +kernel), List.mem_of_getElem? (i := 424) (by decide +kernel), List.mem_of_getElem? (i := 425) (by decide +kernel)⟩
theorem lw_p8 : lw_okq (⟨"WrongedMeters$Town", "readIfOpen", "(I)I"⟩, 13) := ⟨⟨by decide +kernel, by decide +kernel⟩, List.mem_of_getElem? (i := 18) (by decide +kernel), List.mem_of_getElem? (i := 432) (by decide +kernel), List.mem_of_getElem? (i := 433) (by decide +kernel)⟩
theorem lw_p9 : lw_okq (⟨"WrongedMeters$Town", "readMeter", "(LWrongedMeters$House;I)I"⟩, 13) := ⟨⟨by decide +kernel, by decide +kernel⟩, List.mem_of_getElem? (i := 18) (by decide +kernel), List.mem_of_getElem? (i := 437) (by decide +kernel), List.mem_of_getElem? (i := 438) (by decide +kernel)⟩
theorem lw_p10 : lw_okq (⟨"WrongedMeters$Town", "changeMeter", "(I)I"⟩, 13) := ⟨⟨by decide +kernel, by decide +kernel⟩, List.mem_of_getElem? (i := 18) (by decide +kernel), List.mem_of_getElem? (i := 451) (by decide +kernel), List.mem_of_getElem? (i := 452) (by decide +kernel)⟩
theorem lw_p11 : lw_okq (⟨"WrongedMeters$Town", "walk", "(LWrongedMeters$Street;)V"⟩, 13) := ⟨⟨by decide +kernel, by decide +kernel⟩, List.mem_of_getElem? (i := 18) (by decide +kernel), List.mem_of_getElem? (i := 467) (by decide +kernel), List.mem_of_getElem? (i := 468) (by decide +kernel)⟩
theorem lw_p12 : lw_okq (⟨"WrongedMeters$Town", "endYear", "()V"⟩, 13) := ⟨⟨by decide +kernel, by decide +kernel⟩, List.mem_of_getElem? (i := 18) (by decide +kernel), List.mem_of_getElem? (i := 472) (by decide +kernel), List.mem_of_getElem? (i := 473) (by decide +kernel)⟩
theorem lw_p13 : lw_okq (⟨"WrongedMeters", "kept", "(I)I"⟩, 4) := ⟨⟨by decide +kernel, by decide +kernel⟩, List.mem_of_getElem? (i := 10) (by decide +kernel), List.mem_of_getElem? (i := 476) (by decide +kernel), List.mem_of_getElem? (i := 477) (by decide +kernel)⟩
def lw_privs_1 : List (MethodName × Nat) := [(⟨"WrongedMeters$Town", "housesAhead", "(II)I"⟩, 13), (⟨"WrongedMeters$Town", "housesLocked", "()I"⟩, 13), (⟨"WrongedMeters$Town", "housesBetween", "(II)I"⟩, 13), (⟨"WrongedMeters$Town", "balances", "()I"⟩, 13), (⟨"WrongedMeters", "carryOut", "(III)I"⟩, 4), (⟨"WrongedMeters$Town", "addHouse", "(II)I"⟩, 13), (⟨"WrongedMeters$Town", "putFlow", "(II)I"⟩, 13), (⟨"WrongedMeters$Town", "turnLock", "(I)I"⟩, 13), (⟨"WrongedMeters$Town", "readIfOpen", "(I)I"⟩, 13), (⟨"WrongedMeters$Town", "readMeter", "(LWrongedMeters$House;I)I"⟩, 13), (⟨"WrongedMeters$Town", "changeMeter", "(I)I"⟩, 13), (⟨"WrongedMeters$Town", "walk", "(LWrongedMeters$Street;)V"⟩, 13), (⟨"WrongedMeters$Town", "endYear", "()V"⟩, 13), (⟨"WrongedMeters", "kept", "(I)I"⟩, 4)]
theorem lw_r1 : ∀ q ∈ lw_privs_1, lw_okq q := List.forall_mem_cons.mpr ⟨lw_p0, List.forall_mem_cons.mpr ⟨lw_p1, List.forall_mem_cons.mpr ⟨lw_p2, List.forall_mem_cons.mpr ⟨lw_p3, List.forall_mem_cons.mpr ⟨lw_p4, List.forall_mem_cons.mpr ⟨lw_p5, List.forall_mem_cons.mpr ⟨lw_p6, List.forall_mem_cons.mpr ⟨lw_p7, List.forall_mem_cons.mpr ⟨lw_p8, List.forall_mem_cons.mpr ⟨lw_p9, List.forall_mem_cons.mpr ⟨lw_p10, List.forall_mem_cons.mpr ⟨lw_p11, List.forall_mem_cons.mpr ⟨lw_p12, List.forall_mem_cons.mpr ⟨lw_p13, fun _ h => absurd h List.not_mem_nil⟩⟩⟩⟩⟩⟩⟩⟩⟩⟩⟩⟩⟩⟩
def lw_privs : List (MethodName × Nat) := lw_privs_1
def lw_tbl : List Cond := k2_sels lw_privs ++ tables_1
theorem lw_privs_ok : ∀ q ∈ lw_privs, lw_okq q := lw_r1
-- ===== end of PART A; then your names; then what follows =====
end
section
/-! ===== BEGIN words of one list among another's, by their places ===== -/
theorem goodIn_r {big : List Cond} (ws : List Cond) (ps : List Nat) (hp : ws = ps.filterMap (fun i => big[i]?)) (h : ws.all goodWord = true) : GoodIn big ws := by
  intro w hw
  have h1 := List.all_eq_true.mp h w hw
  rw [hp] at hw
  obtain ⟨i, -, hi⟩ := List.mem_filterMap.mp hw
  have hm : w ∈ big := by first | exact List.mem_of_getElem? hi | exact List.getElem?_mem hi
  exact ⟨hm, good_of_word h1⟩
theorem goodIn_app {big a b : List Cond} (ha : GoodIn big a) (hb : GoodIn big b) : GoodIn big (a ++ b) := fun w h => (List.mem_append.mp h).elim (ha w) (hb w)
theorem goodIn_ca {big a b : List Cond} {c : Cond} (ha : GoodIn big (c :: a)) (hb : GoodIn big b) : GoodIn big (c :: (a ++ b)) := fun w h => (List.mem_cons.mp h).elim (fun e => ha w (List.mem_cons.mpr (Or.inl e))) (fun h => (List.mem_append.mp h).elim (fun h => ha w (List.mem_cons.mpr (Or.inr h))) (hb w))
theorem goodIn_sub {big ws : List Cond} (hm : ∀ w ∈ ws, w ∈ big) (h : ws.all goodWord = true) : GoodIn big ws := fun w hw => ⟨hm w hw, good_of_word (List.all_eq_true.mp h w hw)⟩
/-! ===== END ===== -/

/-! ===== BEGIN printed: names, fields, word lists, decode rows ===== -/
def RX0 : String := "WrongedMeters$History"
def TX0 : u_T := fun k => match k with
  | 0 => ("WrongedMeters$History", "states", "[LWrongedMeters$Town;", true)
  | 1 => ("WrongedMeters$History", "freeSlot", "I", false)
  | _ => ("WrongedMeters$History", "size", "I", false)
def tyX0 : Nat → FieldType := fun k => match k with
  | 0 => .array (.object "WrongedMeters$Town")
  | 1 => .int
  | _ => .int
abbrev wsX00 : List Cond := u_ws RX0 TX0 3
theorem nmX0 : ∀ a, a < 3 → ∀ b, b < 3 → a ≠ b → (TX0 a).2.1 ≠ (TX0 b).2.1 := by decide +kernel
theorem tyX0_ok : ∀ k, k < 3 → parseFieldDescriptor (TX0 k).2.2.1 = some (tyX0 k) := by decide +kernel
abbrev cX0_init : ByteArray := prog_2_method_1_code
def yX0_init : MethodName := ⟨RX0, "<init>", "()V"⟩
abbrev cX0_record : ByteArray := prog_2_method_2_code
def yX0_record : MethodName := ⟨RX0, "record", "(LWrongedMeters$Town;)V"⟩
abbrev cX0_keep : ByteArray := prog_2_method_3_code
def yX0_keep : MethodName := ⟨RX0, "keep", "()V"⟩
def RX1 : String := "WrongedMeters$House"
def TX1 : u_T := fun k => match k with
  | 0 => ("WrongedMeters$House", "street", "I", false)
  | 1 => ("WrongedMeters$House", "place", "I", false)
  | 2 => ("WrongedMeters$House", "dial", "I", false)
  | 3 => ("WrongedMeters$House", "dialBefore", "I", false)
  | 4 => ("WrongedMeters$House", "flow", "I", false)
  | 5 => ("WrongedMeters$House", "isLocked", "Z", false)
  | 6 => ("WrongedMeters$House", "balance", "I", false)
  | 7 => ("WrongedMeters$House", "latestDay", "I", false)
  | 8 => ("WrongedMeters$House", "readings", "I", false)
  | 9 => ("WrongedMeters$House", "units", "I", false)
  | 10 => ("WrongedMeters$House", "timesHouseWronged", "I", false)
  | 11 => ("WrongedMeters$House", "timesCompanyWronged", "I", false)
  | 12 => ("WrongedMeters$House", "refunds", "I", false)
  | _ => ("WrongedMeters$House", "metersChanged", "I", false)
def tyX1 : Nat → FieldType := fun k => match k with
  | 0 => .int
  | 1 => .int
  | 2 => .int
  | 3 => .int
  | 4 => .int
  | 5 => .boolean
  | 6 => .int
  | 7 => .int
  | 8 => .int
  | 9 => .int
  | 10 => .int
  | 11 => .int
  | 12 => .int
  | _ => .int
abbrev wsX10 : List Cond := u_ws RX1 TX1 14
theorem nmX1 : ∀ a, a < 14 → ∀ b, b < 14 → a ≠ b → (TX1 a).2.1 ≠ (TX1 b).2.1 := by decide +kernel
theorem tyX1_ok : ∀ k, k < 14 → parseFieldDescriptor (TX1 k).2.2.1 = some (tyX1 k) := by decide +kernel
abbrev cX1_init : ByteArray := prog_3_method_1_code
def yX1_init : MethodName := ⟨RX1, "<init>", "()V"⟩
abbrev cX1_copyFrom : ByteArray := prog_3_method_2_code
def yX1_copyFrom : MethodName := ⟨RX1, "copyFrom", "(LWrongedMeters$House;)V"⟩
abbrev cX1_used : ByteArray := prog_3_method_3_code
def yX1_used : MethodName := ⟨RX1, "used", "()I"⟩
abbrev cX1_reasonOn : ByteArray := prog_3_method_4_code
def yX1_reasonOn : MethodName := ⟨RX1, "reasonOn", "(I)I"⟩
abbrev cX1_goOn : ByteArray := prog_3_method_5_code
def yX1_goOn : MethodName := ⟨RX1, "goOn", "()V"⟩
abbrev cX1_settle : ByteArray := prog_3_method_6_code
def yX1_settle : MethodName := ⟨RX1, "settle", "(III)V"⟩
abbrev cX1_renewMeter : ByteArray := prog_3_method_7_code
def yX1_renewMeter : MethodName := ⟨RX1, "renewMeter", "()V"⟩
abbrev cX1_fact : ByteArray := prog_3_method_8_code
def yX1_fact : MethodName := ⟨RX1, "fact", "(I)I"⟩
def RX2 : String := "WrongedMeters$Ledger"
def TX2 : u_T := fun k => match k with
  | 0 => ("WrongedMeters$Ledger", "facts", "[I", true)
  | 1 => ("WrongedMeters$Ledger", "nextRow", "I", false)
  | _ => ("WrongedMeters$Ledger", "size", "I", false)
def tyX2 : Nat → FieldType := fun k => match k with
  | 0 => .array .int
  | 1 => .int
  | _ => .int
abbrev wsX20 : List Cond := u_ws RX2 TX2 3
theorem nmX2 : ∀ a, a < 3 → ∀ b, b < 3 → a ≠ b → (TX2 a).2.1 ≠ (TX2 b).2.1 := by decide +kernel
theorem tyX2_ok : ∀ k, k < 3 → parseFieldDescriptor (TX2 k).2.2.1 = some (tyX2 k) := by decide +kernel
abbrev cX2_init : ByteArray := prog_4_method_1_code
def yX2_init : MethodName := ⟨RX2, "<init>", "()V"⟩
abbrev cX2_copyFrom : ByteArray := prog_4_method_2_code
def yX2_copyFrom : MethodName := ⟨RX2, "copyFrom", "(LWrongedMeters$Ledger;)V"⟩
abbrev cX2_add : ByteArray := prog_4_method_3_code
def yX2_add : MethodName := ⟨RX2, "add", "(IIIII)V"⟩
abbrev cX2_entry : ByteArray := prog_4_method_4_code
def yX2_entry : MethodName := ⟨RX2, "entry", "(II)I"⟩
def RX3 : String := "WrongedMeters$Orders"
def TX3 : u_T := fun k => match k with
  | 0 => ("WrongedMeters$Orders", "text", "[I", true)
  | 1 => ("WrongedMeters$Orders", "length", "I", false)
  | 2 => ("WrongedMeters$Orders", "position", "I", false)
  | 3 => ("WrongedMeters$Orders", "letter", "I", false)
  | 4 => ("WrongedMeters$Orders", "first", "I", false)
  | 5 => ("WrongedMeters$Orders", "second", "I", false)
  | 6 => ("WrongedMeters$Orders", "start", "I", false)
  | 7 => ("WrongedMeters$Orders", "done", "I", false)
  | 8 => ("WrongedMeters$Orders", "reason", "I", false)
  | _ => ("WrongedMeters$Orders", "cause", "I", false)
def tyX3 : Nat → FieldType := fun k => match k with
  | 0 => .array .int
  | 1 => .int
  | 2 => .int
  | 3 => .int
  | 4 => .int
  | 5 => .int
  | 6 => .int
  | 7 => .int
  | 8 => .int
  | _ => .int
abbrev wsX30 : List Cond := u_ws RX3 TX3 10
theorem nmX3 : ∀ a, a < 10 → ∀ b, b < 10 → a ≠ b → (TX3 a).2.1 ≠ (TX3 b).2.1 := by decide +kernel
theorem tyX3_ok : ∀ k, k < 10 → parseFieldDescriptor (TX3 k).2.2.1 = some (tyX3 k) := by decide +kernel
abbrev cX3_init : ByteArray := prog_5_method_1_code
def yX3_init : MethodName := ⟨RX3, "<init>", "()V"⟩
def RX4 : String := "WrongedMeters$Street"
def TX4 : u_T := fun k => match k with
  | 0 => ("WrongedMeters$Street", "houses", "[I", true)
  | _ => ("WrongedMeters$Street", "latestStep", "I", false)
def tyX4 : Nat → FieldType := fun k => match k with
  | 0 => .array .int
  | _ => .int
abbrev wsX40 : List Cond := u_ws RX4 TX4 2
theorem nmX4 : ∀ a, a < 2 → ∀ b, b < 2 → a ≠ b → (TX4 a).2.1 ≠ (TX4 b).2.1 := by decide +kernel
theorem tyX4_ok : ∀ k, k < 2 → parseFieldDescriptor (TX4 k).2.2.1 = some (tyX4 k) := by decide +kernel
abbrev cX4_init : ByteArray := prog_6_method_1_code
def yX4_init : MethodName := ⟨RX4, "<init>", "()V"⟩
abbrev cX4_copyFrom : ByteArray := prog_6_method_2_code
def yX4_copyFrom : MethodName := ⟨RX4, "copyFrom", "(LWrongedMeters$Street;)V"⟩
abbrev cX4_stepAhead : ByteArray := prog_6_method_3_code
def yX4_stepAhead : MethodName := ⟨RX4, "stepAhead", "(I)I"⟩
abbrev cX4_houseOn : ByteArray := prog_6_method_4_code
def yX4_houseOn : MethodName := ⟨RX4, "houseOn", "(I)I"⟩
abbrev cX4_putHouse : ByteArray := prog_6_method_5_code
def yX4_putHouse : MethodName := ⟨RX4, "putHouse", "(II)V"⟩
abbrev cX4_houseRanked : ByteArray := prog_6_method_6_code
def yX4_houseRanked : MethodName := ⟨RX4, "houseRanked", "(I)I"⟩
def RX5 : String := "WrongedMeters$Town"
def TX5 : u_T := fun k => match k with
  | 0 => ("WrongedMeters$Town", "houses", "[LWrongedMeters$House;", true)
  | 1 => ("WrongedMeters$Town", "streets", "[LWrongedMeters$Street;", true)
  | 2 => ("WrongedMeters$Town", "ledger", "LWrongedMeters$Ledger;", true)
  | 3 => ("WrongedMeters$Town", "settings", "[I", true)
  | 4 => ("WrongedMeters$Town", "houseCount", "I", false)
  | 5 => ("WrongedMeters$Town", "now", "I", false)
  | 6 => ("WrongedMeters$Town", "readings", "I", false)
  | 7 => ("WrongedMeters$Town", "units", "I", false)
  | 8 => ("WrongedMeters$Town", "coins", "I", false)
  | 9 => ("WrongedMeters$Town", "hundredths", "I", false)
  | 10 => ("WrongedMeters$Town", "refunds", "I", false)
  | 11 => ("WrongedMeters$Town", "coinsBack", "I", false)
  | _ => ("WrongedMeters$Town", "years", "I", false)
def tyX5 : Nat → FieldType := fun k => match k with
  | 0 => .array (.object "WrongedMeters$House")
  | 1 => .array (.object "WrongedMeters$Street")
  | 2 => .object "WrongedMeters$Ledger"
  | 3 => .array .int
  | 4 => .int
  | 5 => .int
  | 6 => .int
  | 7 => .int
  | 8 => .int
  | 9 => .int
  | 10 => .int
  | 11 => .int
  | _ => .int
abbrev wsX50 : List Cond := u_ws RX5 TX5 13
theorem nmX5 : ∀ a, a < 13 → ∀ b, b < 13 → a ≠ b → (TX5 a).2.1 ≠ (TX5 b).2.1 := by decide +kernel
theorem tyX5_ok : ∀ k, k < 13 → parseFieldDescriptor (TX5 k).2.2.1 = some (tyX5 k) := by decide +kernel
abbrev cX5_init : ByteArray := prog_7_method_1_code
def yX5_init : MethodName := ⟨RX5, "<init>", "()V"⟩
abbrev cX5_copyFrom : ByteArray := prog_7_method_2_code
def yX5_copyFrom : MethodName := ⟨RX5, "copyFrom", "(LWrongedMeters$Town;)V"⟩
abbrev cX5_houseNumbered : ByteArray := prog_7_method_3_code
def yX5_houseNumbered : MethodName := ⟨RX5, "houseNumbered", "(I)LWrongedMeters$House;"⟩
abbrev cX5_streetNumbered : ByteArray := prog_7_method_4_code
def yX5_streetNumbered : MethodName := ⟨RX5, "streetNumbered", "(I)LWrongedMeters$Street;"⟩
abbrev cX5_obey : ByteArray := prog_7_method_5_code
def yX5_obey : MethodName := ⟨RX5, "obey", "(III)I"⟩
abbrev cX5_addHouse : ByteArray := prog_7_method_6_code
def yX5_addHouse : MethodName := ⟨RX5, "addHouse", "(II)I"⟩
abbrev cX5_putFlow : ByteArray := prog_7_method_7_code
def yX5_putFlow : MethodName := ⟨RX5, "putFlow", "(II)I"⟩
abbrev cX5_putLock : ByteArray := prog_7_method_8_code
def yX5_putLock : MethodName := ⟨RX5, "putLock", "(IZ)I"⟩
abbrev cX5_turnLock : ByteArray := prog_7_method_9_code
def yX5_turnLock : MethodName := ⟨RX5, "turnLock", "(I)I"⟩
abbrev cX5_putSetting : ByteArray := prog_7_method_10_code
def yX5_putSetting : MethodName := ⟨RX5, "putSetting", "(II)I"⟩
abbrev cX5_readIfOpen : ByteArray := prog_7_method_11_code
def yX5_readIfOpen : MethodName := ⟨RX5, "readIfOpen", "(I)I"⟩
abbrev cX5_changeMeter : ByteArray := prog_7_method_12_code
def yX5_changeMeter : MethodName := ⟨RX5, "changeMeter", "(I)I"⟩
abbrev cX5_readMeter : ByteArray := prog_7_method_13_code
def yX5_readMeter : MethodName := ⟨RX5, "readMeter", "(LWrongedMeters$House;I)I"⟩
abbrev cX5_passDays : ByteArray := prog_7_method_14_code
def yX5_passDays : MethodName := ⟨RX5, "passDays", "(I)I"⟩
abbrev cX5_walk : ByteArray := prog_7_method_15_code
def yX5_walk : MethodName := ⟨RX5, "walk", "(LWrongedMeters$Street;)V"⟩
abbrev cX5_endYear : ByteArray := prog_7_method_16_code
def yX5_endYear : MethodName := ⟨RX5, "endYear", "()V"⟩
abbrev cX5_houseByBalance : ByteArray := prog_7_method_18_code
def yX5_houseByBalance : MethodName := ⟨RX5, "houseByBalance", "(I)I"⟩
abbrev cX5_housesAhead : ByteArray := prog_7_method_19_code
def yX5_housesAhead : MethodName := ⟨RX5, "housesAhead", "(II)I"⟩
abbrev cX5_number : ByteArray := prog_7_method_20_code
def yX5_number : MethodName := ⟨RX5, "number", "(I)I"⟩
abbrev cX5_housesLocked : ByteArray := prog_7_method_21_code
def yX5_housesLocked : MethodName := ⟨RX5, "housesLocked", "()I"⟩
abbrev cX5_housesBetween : ByteArray := prog_7_method_22_code
def yX5_housesBetween : MethodName := ⟨RX5, "housesBetween", "(II)I"⟩
abbrev cX5_balances : ByteArray := prog_7_method_23_code
def yX5_balances : MethodName := ⟨RX5, "balances", "()I"⟩
def RX6 : String := "WrongedMeters"
def TX6 : u_T := fun k => match k with
  | 0 => ("WrongedMeters", "town", "LWrongedMeters$Town;", true)
  | 1 => ("WrongedMeters", "trial", "LWrongedMeters$Town;", true)
  | 2 => ("WrongedMeters", "history", "LWrongedMeters$History;", true)
  | _ => ("WrongedMeters", "orders", "LWrongedMeters$Orders;", true)
def tyX6 : Nat → FieldType := fun k => match k with
  | 0 => .object "WrongedMeters$Town"
  | 1 => .object "WrongedMeters$Town"
  | 2 => .object "WrongedMeters$History"
  | _ => .object "WrongedMeters$Orders"
abbrev wsX60 : List Cond := u_ws RX6 TX6 4
theorem nmX6 : ∀ a, a < 4 → ∀ b, b < 4 → a ≠ b → (TX6 a).2.1 ≠ (TX6 b).2.1 := by decide +kernel
theorem tyX6_ok : ∀ k, k < 4 → parseFieldDescriptor (TX6 k).2.2.1 = some (tyX6 k) := by decide +kernel
abbrev cX6_init : ByteArray := prog_1_method_1_code
def yX6_init : MethodName := ⟨RX6, "<init>", "()V"⟩
abbrev cX6_house : ByteArray := prog_1_method_2_code
def yX6_house : MethodName := ⟨RX6, "house", "(II)I"⟩
abbrev cX6_flow : ByteArray := prog_1_method_3_code
def yX6_flow : MethodName := ⟨RX6, "flow", "(II)I"⟩
abbrev cX6_lock : ByteArray := prog_1_method_4_code
def yX6_lock : MethodName := ⟨RX6, "lock", "(IZ)I"⟩
abbrev cX6_read : ByteArray := prog_1_method_5_code
def yX6_read : MethodName := ⟨RX6, "read", "(I)I"⟩
abbrev cX6_change : ByteArray := prog_1_method_6_code
def yX6_change : MethodName := ⟨RX6, "change", "(I)I"⟩
abbrev cX6_days : ByteArray := prog_1_method_7_code
def yX6_days : MethodName := ⟨RX6, "days", "(I)I"⟩
abbrev cX6_set : ByteArray := prog_1_method_8_code
def yX6_set : MethodName := ⟨RX6, "set", "(II)I"⟩
abbrev cX6_houseOf : ByteArray := prog_1_method_9_code
def yX6_houseOf : MethodName := ⟨RX6, "houseOf", "(II)I"⟩
abbrev cX6_at : ByteArray := prog_1_method_10_code
def yX6_at : MethodName := ⟨RX6, "at", "(II)I"⟩
abbrev cX6_next : ByteArray := prog_1_method_11_code
def yX6_next : MethodName := ⟨RX6, "next", "(II)I"⟩
abbrev cX6_ledger : ByteArray := prog_1_method_12_code
def yX6_ledger : MethodName := ⟨RX6, "ledger", "(II)I"⟩
abbrev cX6_why : ByteArray := prog_1_method_13_code
def yX6_why : MethodName := ⟨RX6, "why", "(I)I"⟩
abbrev cX6_ifRead : ByteArray := prog_1_method_14_code
def yX6_ifRead : MethodName := ⟨RX6, "ifRead", "(II)I"⟩
abbrev cX6_wronged : ByteArray := prog_1_method_15_code
def yX6_wronged : MethodName := ⟨RX6, "wronged", "(I)I"⟩
abbrev cX6_count : ByteArray := prog_1_method_19_code
def yX6_count : MethodName := ⟨RX6, "count", "(I)I"⟩
abbrev cX6_carryOut : ByteArray := prog_1_method_25_code
def yX6_carryOut : MethodName := ⟨RX6, "carryOut", "(III)I"⟩
abbrev cX6_kept : ByteArray := prog_1_method_26_code
def yX6_kept : MethodName := ⟨RX6, "kept", "(I)I"⟩
abbrev cX6_isPlace : ByteArray := prog_1_method_27_code
def yX6_isPlace : MethodName := ⟨RX6, "isPlace", "(I)Z"⟩
abbrev cX6_stepOf : ByteArray := prog_1_method_28_code
def yX6_stepOf : MethodName := ⟨RX6, "stepOf", "(I)I"⟩
abbrev cX6_unitsFor : ByteArray := prog_1_method_29_code
def yX6_unitsFor : MethodName := ⟨RX6, "unitsFor", "(II)I"⟩
def RX7 : String := "WrongedMetersModel"
def TX7 : u_T := fun k => match k with
  | _ => ("", "", "", false)
def tyX7 : Nat → FieldType := fun k => match k with
  | _ => .int
abbrev wsX70 : List Cond := u_ws RX7 TX7 0
theorem nmX7 : ∀ a, a < 0 → ∀ b, b < 0 → a ≠ b → (TX7 a).2.1 ≠ (TX7 b).2.1 := by decide +kernel
theorem tyX7_ok : ∀ k, k < 0 → parseFieldDescriptor (TX7 k).2.2.1 = some (tyX7 k) := by decide +kernel
def RJ10 : String := "java/lang/System"
def TJ10 : u_T := fun k => match k with
  | _ => ("", "", "", false)
def tyJ10 : Nat → FieldType := fun k => match k with
  | _ => .int
abbrev wsJ100 : List Cond := u_ws RJ10 TJ10 0
theorem nmJ10 : ∀ a, a < 0 → ∀ b, b < 0 → a ≠ b → (TJ10 a).2.1 ≠ (TJ10 b).2.1 := by decide +kernel
theorem tyJ10_ok : ∀ k, k < 0 → parseFieldDescriptor (TJ10 k).2.2.1 = some (tyJ10 k) := by decide +kernel
def RL : String := "WrongedMetersLaw"
abbrev cL_cell : ByteArray := method_2_code
def yL_cell : MethodName := ⟨RL, "cell", "([II)I"⟩
abbrev cL_used : ByteArray := method_4_code
def yL_used : MethodName := ⟨RL, "used", "([II)I"⟩
abbrev cL_units : ByteArray := method_5_code
def yL_units : MethodName := ⟨RL, "units", "([I[II)I"⟩
abbrev cL_why : ByteArray := method_6_code
def yL_why : MethodName := ⟨RL, "why", "([I[II)I"⟩
abbrev cL_read : ByteArray := method_7_code
def yL_read : MethodName := ⟨RL, "read", "([I[I[I[I[II)I"⟩
abbrev cL_at : ByteArray := method_8_code
def yL_at : MethodName := ⟨RL, "at", "([I[III)I"⟩
abbrev cL_round : ByteArray := method_9_code
def yL_round : MethodName := ⟨RL, "round", "([I[I[II)I"⟩
abbrev cL_day : ByteArray := method_10_code
def yL_day : MethodName := ⟨RL, "day", "([I[I[I[I[I[I[I)I"⟩
abbrev cL_areHouses : ByteArray := method_11_code
def yL_areHouses : MethodName := ⟨RL, "areHouses", "(LWrongedMeters;[I[I[I[I[I)Z"⟩
abbrev cL_areSums : ByteArray := method_12_code
def yL_areSums : MethodName := ⟨RL, "areSums", "(LWrongedMeters;[I[I[I)Z"⟩
abbrev cL_areRounds : ByteArray := method_13_code
def yL_areRounds : MethodName := ⟨RL, "areRounds", "(LWrongedMeters;[I[I[I)Z"⟩
abbrev cL_isActed : ByteArray := method_14_code
def yL_isActed : MethodName := ⟨RL, "isActed", "(LWrongedMeters;[I[I[I[I[I[I[III)Z"⟩
abbrev cL_law : ByteArray := code
def yL_law : MethodName := ⟨RL, "law", "([I)Z"⟩
def wsX2_init : List Cond := .code yX2_init cX2_init 1 none :: ([.methodLink RX2 3 objectInit, .instanceMethod objectInit, .code objectInit ⟨#[0xb1]⟩ 1 none, .arrayClass .int, .fieldLink RX2 11 "WrongedMeters$Ledger" "facts" "[I"] ++ wsX20)
def wsX1_init : List Cond := .code yX1_init cX1_init 1 none :: ([.methodLink RX1 3 objectInit, .instanceMethod objectInit, .code objectInit ⟨#[0xb1]⟩ 1 none, .fieldLink RX1 9 "WrongedMeters$House" "latestDay" "I"] ++ wsX10)
def wsX4_init : List Cond := .code yX4_init cX4_init 2 none :: ([.methodLink RX4 3 objectInit, .instanceMethod objectInit, .code objectInit ⟨#[0xb1]⟩ 1 none, .arrayClass .int, .fieldLink RX4 9 "WrongedMeters$Street" "houses" "[I", .fieldLink RX4 15 "WrongedMeters$Street" "latestStep" "I"] ++ wsX40)
def wsX5_init_r1 : List Cond := [Cond.methodLink RX5 3 objectInit, Cond.instanceMethod objectInit, Cond.code objectInit ⟨#[0xb1]⟩ 1 none, Cond.classLink RX5 9 RX1, Cond.fieldLink RX5 11 "WrongedMeters$Town" "houses" "[LWrongedMeters$House;", Cond.classLink RX5 17 RX4, Cond.fieldLink RX5 19 "WrongedMeters$Town" "streets" "[LWrongedMeters$Street;", Cond.classLink RX5 23 RX2, Cond.instantiable RX2 3, Cond.initialized RX2, Cond.fieldLink RX5 26 "WrongedMeters$Town" "ledger" "LWrongedMeters$Ledger;", Cond.arrayClass .int, Cond.fieldLink RX5 30 "WrongedMeters$Town" "settings" "[I", Cond.instantiable RX1 14, Cond.initialized RX1, Cond.instantiable RX4 2, Cond.initialized RX4, Cond.instanceMethod yX2_init, Cond.code yX2_init cX2_init 1 none, Cond.methodLink RX2 3 objectInit, Cond.fieldLink RX2 11 "WrongedMeters$Ledger" "facts" "[I", Cond.instanceMethod yX1_init, Cond.code yX1_init cX1_init 1 none, Cond.methodLink RX1 3 objectInit]
def wsX5_init_r2 : List Cond := [Cond.fieldLink RX1 9 "WrongedMeters$House" "latestDay" "I", Cond.methodLink RX5 35 yX4_init, Cond.instanceMethod yX4_init, Cond.code yX4_init cX4_init 2 none, Cond.methodLink RX4 3 objectInit, Cond.fieldLink RX4 9 "WrongedMeters$Street" "houses" "[I", Cond.fieldLink RX4 15 "WrongedMeters$Street" "latestStep" "I"]
def wsX5_init : List Cond := .code yX5_init cX5_init 2 none :: ((wsX5_init_r1 ++ wsX5_init_r2) ++ wsX50 ++ wsX20 ++ wsX10 ++ wsX40)
def wsX0_init_r1 : List Cond := [Cond.methodLink RX0 5 objectInit, Cond.instanceMethod objectInit, Cond.code objectInit ⟨#[0xb1]⟩ 1 none, Cond.classLink RX0 11 RX5, Cond.fieldLink RX0 13 "WrongedMeters$History" "states" "[LWrongedMeters$Town;", Cond.instantiable RX5 13, Cond.initialized RX5, Cond.methodLink RX0 17 yX5_init, Cond.instanceMethod yX5_init, Cond.code yX5_init cX5_init 2 none, Cond.methodLink RX5 3 objectInit, Cond.classLink RX5 9 RX1, Cond.fieldLink RX5 11 "WrongedMeters$Town" "houses" "[LWrongedMeters$House;", Cond.classLink RX5 17 RX4, Cond.fieldLink RX5 19 "WrongedMeters$Town" "streets" "[LWrongedMeters$Street;", Cond.classLink RX5 23 RX2, Cond.instantiable RX2 3, Cond.initialized RX2, Cond.fieldLink RX5 26 "WrongedMeters$Town" "ledger" "LWrongedMeters$Ledger;", Cond.arrayClass .int, Cond.fieldLink RX5 30 "WrongedMeters$Town" "settings" "[I", Cond.instantiable RX1 14, Cond.initialized RX1, Cond.instantiable RX4 2]
def wsX0_init_r2 : List Cond := [Cond.initialized RX4, Cond.instanceMethod yX2_init, Cond.code yX2_init cX2_init 1 none, Cond.methodLink RX2 3 objectInit, Cond.fieldLink RX2 11 "WrongedMeters$Ledger" "facts" "[I", Cond.instanceMethod yX1_init, Cond.code yX1_init cX1_init 1 none, Cond.methodLink RX1 3 objectInit, Cond.fieldLink RX1 9 "WrongedMeters$House" "latestDay" "I", Cond.methodLink RX5 35 yX4_init, Cond.instanceMethod yX4_init, Cond.code yX4_init cX4_init 2 none, Cond.methodLink RX4 3 objectInit, Cond.fieldLink RX4 9 "WrongedMeters$Street" "houses" "[I", Cond.fieldLink RX4 15 "WrongedMeters$Street" "latestStep" "I"]
def wsX0_init : List Cond := .code yX0_init cX0_init 2 none :: ((wsX0_init_r1 ++ wsX0_init_r2) ++ wsX00 ++ wsX50 ++ wsX20 ++ wsX10 ++ wsX40)
def wsX1_copyFrom : List Cond := .code yX1_copyFrom cX1_copyFrom 2 none :: ([.fieldLink RX1 15 "WrongedMeters$House" "street" "I", .fieldLink RX1 18 "WrongedMeters$House" "place" "I", .fieldLink RX1 21 "WrongedMeters$House" "dial" "I", .fieldLink RX1 24 "WrongedMeters$House" "dialBefore" "I", .fieldLink RX1 27 "WrongedMeters$House" "flow" "I", .fieldLink RX1 30 "WrongedMeters$House" "isLocked" "Z", .fieldLink RX1 34 "WrongedMeters$House" "balance" "I", .fieldLink RX1 9 "WrongedMeters$House" "latestDay" "I", .fieldLink RX1 37 "WrongedMeters$House" "readings" "I", .fieldLink RX1 40 "WrongedMeters$House" "units" "I", .fieldLink RX1 43 "WrongedMeters$House" "timesHouseWronged" "I", .fieldLink RX1 46 "WrongedMeters$House" "timesCompanyWronged" "I", .fieldLink RX1 49 "WrongedMeters$House" "refunds" "I", .fieldLink RX1 52 "WrongedMeters$House" "metersChanged" "I"] ++ wsX10)
def wsX4_copyFrom : List Cond := .code yX4_copyFrom cX4_copyFrom 2 none :: ([.fieldLink RX4 9 "WrongedMeters$Street" "houses" "[I", .methodLink RX4 19 arraycopyName, .native arraycopyName, .static arraycopyName, .initialized "java/lang/System", .fieldLink RX4 15 "WrongedMeters$Street" "latestStep" "I"] ++ wsX40)
def wsX2_copyFrom : List Cond := .code yX2_copyFrom cX2_copyFrom 2 none :: ([.fieldLink RX2 11 "WrongedMeters$Ledger" "facts" "[I", .methodLink RX2 15 arraycopyName, .native arraycopyName, .static arraycopyName, .initialized "java/lang/System", .fieldLink RX2 21 "WrongedMeters$Ledger" "nextRow" "I", .fieldLink RX2 25 "WrongedMeters$Ledger" "size" "I"] ++ wsX20)
def wsX5_copyFrom_r1 : List Cond := [Cond.fieldLink RX5 11 "WrongedMeters$Town" "houses" "[LWrongedMeters$House;", Cond.fieldLink RX5 19 "WrongedMeters$Town" "streets" "[LWrongedMeters$Street;", Cond.fieldLink RX5 26 "WrongedMeters$Town" "ledger" "LWrongedMeters$Ledger;", Cond.fieldLink RX5 30 "WrongedMeters$Town" "settings" "[I", Cond.methodLink RX5 49 arraycopyName, Cond.native arraycopyName, Cond.static arraycopyName, Cond.initialized "java/lang/System", Cond.fieldLink RX5 55 "WrongedMeters$Town" "houseCount" "I", Cond.fieldLink RX5 59 "WrongedMeters$Town" "now" "I", Cond.fieldLink RX5 62 "WrongedMeters$Town" "readings" "I", Cond.fieldLink RX5 65 "WrongedMeters$Town" "units" "I", Cond.fieldLink RX5 68 "WrongedMeters$Town" "coins" "I", Cond.fieldLink RX5 71 "WrongedMeters$Town" "hundredths" "I", Cond.fieldLink RX5 74 "WrongedMeters$Town" "refunds" "I", Cond.fieldLink RX5 77 "WrongedMeters$Town" "coinsBack" "I", Cond.fieldLink RX5 80 "WrongedMeters$Town" "years" "I", Cond.methodLink RX5 39 yX1_copyFrom, Cond.instanceMethod yX1_copyFrom, Cond.selects RX1 yX1_copyFrom yX1_copyFrom, Cond.initialized RX1, Cond.code yX1_copyFrom cX1_copyFrom 2 none, Cond.fieldLink RX1 15 "WrongedMeters$House" "street" "I", Cond.fieldLink RX1 18 "WrongedMeters$House" "place" "I"]
def wsX5_copyFrom_r2 : List Cond := [Cond.fieldLink RX1 21 "WrongedMeters$House" "dial" "I", Cond.fieldLink RX1 24 "WrongedMeters$House" "dialBefore" "I", Cond.fieldLink RX1 27 "WrongedMeters$House" "flow" "I", Cond.fieldLink RX1 30 "WrongedMeters$House" "isLocked" "Z", Cond.fieldLink RX1 34 "WrongedMeters$House" "balance" "I", Cond.fieldLink RX1 9 "WrongedMeters$House" "latestDay" "I", Cond.fieldLink RX1 37 "WrongedMeters$House" "readings" "I", Cond.fieldLink RX1 40 "WrongedMeters$House" "units" "I", Cond.fieldLink RX1 43 "WrongedMeters$House" "timesHouseWronged" "I", Cond.fieldLink RX1 46 "WrongedMeters$House" "timesCompanyWronged" "I", Cond.fieldLink RX1 49 "WrongedMeters$House" "refunds" "I", Cond.fieldLink RX1 52 "WrongedMeters$House" "metersChanged" "I", Cond.methodLink RX5 43 yX4_copyFrom, Cond.instanceMethod yX4_copyFrom, Cond.selects RX4 yX4_copyFrom yX4_copyFrom, Cond.initialized RX4, Cond.code yX4_copyFrom cX4_copyFrom 2 none, Cond.fieldLink RX4 9 "WrongedMeters$Street" "houses" "[I", Cond.methodLink RX4 19 arraycopyName, Cond.fieldLink RX4 15 "WrongedMeters$Street" "latestStep" "I", Cond.methodLink RX5 46 yX2_copyFrom, Cond.instanceMethod yX2_copyFrom, Cond.selects RX2 yX2_copyFrom yX2_copyFrom, Cond.initialized RX2]
def wsX5_copyFrom_r3 : List Cond := [Cond.code yX2_copyFrom cX2_copyFrom 2 none, Cond.fieldLink RX2 11 "WrongedMeters$Ledger" "facts" "[I", Cond.methodLink RX2 15 arraycopyName, Cond.fieldLink RX2 21 "WrongedMeters$Ledger" "nextRow" "I", Cond.fieldLink RX2 25 "WrongedMeters$Ledger" "size" "I"]
def wsX5_copyFrom : List Cond := .code yX5_copyFrom cX5_copyFrom 3 none :: ((wsX5_copyFrom_r1 ++ (wsX5_copyFrom_r2 ++ wsX5_copyFrom_r3)) ++ wsX50 ++ wsX10 ++ wsX40 ++ wsX20)
def wsX0_record_r1 : List Cond := [Cond.fieldLink RX0 18 "WrongedMeters$History" "freeSlot" "I", Cond.fieldLink RX0 13 "WrongedMeters$History" "states" "[LWrongedMeters$Town;", Cond.methodLink RX0 22 yX5_copyFrom, Cond.instanceMethod yX5_copyFrom, Cond.selects RX5 yX5_copyFrom yX5_copyFrom, Cond.initialized RX5, Cond.code yX5_copyFrom cX5_copyFrom 3 none, Cond.fieldLink RX5 11 "WrongedMeters$Town" "houses" "[LWrongedMeters$House;", Cond.fieldLink RX5 19 "WrongedMeters$Town" "streets" "[LWrongedMeters$Street;", Cond.fieldLink RX5 26 "WrongedMeters$Town" "ledger" "LWrongedMeters$Ledger;", Cond.fieldLink RX5 30 "WrongedMeters$Town" "settings" "[I", Cond.methodLink RX5 49 arraycopyName, Cond.native arraycopyName, Cond.static arraycopyName, Cond.initialized "java/lang/System", Cond.fieldLink RX5 55 "WrongedMeters$Town" "houseCount" "I", Cond.fieldLink RX5 59 "WrongedMeters$Town" "now" "I", Cond.fieldLink RX5 62 "WrongedMeters$Town" "readings" "I", Cond.fieldLink RX5 65 "WrongedMeters$Town" "units" "I", Cond.fieldLink RX5 68 "WrongedMeters$Town" "coins" "I", Cond.fieldLink RX5 71 "WrongedMeters$Town" "hundredths" "I", Cond.fieldLink RX5 74 "WrongedMeters$Town" "refunds" "I", Cond.fieldLink RX5 77 "WrongedMeters$Town" "coinsBack" "I", Cond.fieldLink RX5 80 "WrongedMeters$Town" "years" "I"]
def wsX0_record_r2 : List Cond := [Cond.methodLink RX5 39 yX1_copyFrom, Cond.instanceMethod yX1_copyFrom, Cond.selects RX1 yX1_copyFrom yX1_copyFrom, Cond.initialized RX1, Cond.code yX1_copyFrom cX1_copyFrom 2 none, Cond.fieldLink RX1 15 "WrongedMeters$House" "street" "I", Cond.fieldLink RX1 18 "WrongedMeters$House" "place" "I", Cond.fieldLink RX1 21 "WrongedMeters$House" "dial" "I", Cond.fieldLink RX1 24 "WrongedMeters$House" "dialBefore" "I", Cond.fieldLink RX1 27 "WrongedMeters$House" "flow" "I", Cond.fieldLink RX1 30 "WrongedMeters$House" "isLocked" "Z", Cond.fieldLink RX1 34 "WrongedMeters$House" "balance" "I", Cond.fieldLink RX1 9 "WrongedMeters$House" "latestDay" "I", Cond.fieldLink RX1 37 "WrongedMeters$House" "readings" "I", Cond.fieldLink RX1 40 "WrongedMeters$House" "units" "I", Cond.fieldLink RX1 43 "WrongedMeters$House" "timesHouseWronged" "I", Cond.fieldLink RX1 46 "WrongedMeters$House" "timesCompanyWronged" "I", Cond.fieldLink RX1 49 "WrongedMeters$House" "refunds" "I", Cond.fieldLink RX1 52 "WrongedMeters$House" "metersChanged" "I", Cond.methodLink RX5 43 yX4_copyFrom, Cond.instanceMethod yX4_copyFrom, Cond.selects RX4 yX4_copyFrom yX4_copyFrom, Cond.initialized RX4, Cond.code yX4_copyFrom cX4_copyFrom 2 none]
def wsX0_record_r3 : List Cond := [Cond.fieldLink RX4 9 "WrongedMeters$Street" "houses" "[I", Cond.methodLink RX4 19 arraycopyName, Cond.fieldLink RX4 15 "WrongedMeters$Street" "latestStep" "I", Cond.methodLink RX5 46 yX2_copyFrom, Cond.instanceMethod yX2_copyFrom, Cond.selects RX2 yX2_copyFrom yX2_copyFrom, Cond.initialized RX2, Cond.code yX2_copyFrom cX2_copyFrom 2 none, Cond.fieldLink RX2 11 "WrongedMeters$Ledger" "facts" "[I", Cond.methodLink RX2 15 arraycopyName, Cond.fieldLink RX2 21 "WrongedMeters$Ledger" "nextRow" "I", Cond.fieldLink RX2 25 "WrongedMeters$Ledger" "size" "I"]
def wsX0_record : List Cond := .code yX0_record cX0_record 2 none :: ((wsX0_record_r1 ++ (wsX0_record_r2 ++ wsX0_record_r3)) ++ wsX00 ++ wsX50 ++ wsX10 ++ wsX40 ++ wsX20)
def wsX0_keep : List Cond := .code yX0_keep cX0_keep 1 none :: ([.fieldLink RX0 18 "WrongedMeters$History" "freeSlot" "I", .fieldLink RX0 26 "WrongedMeters$History" "size" "I"] ++ wsX00)
def wsX1_used : List Cond := .code yX1_used cX1_used 1 (some .int) :: ([.fieldLink RX1 21 "WrongedMeters$House" "dial" "I", .fieldLink RX1 24 "WrongedMeters$House" "dialBefore" "I", .constant RX1 55 (100000)] ++ wsX10)
def wsX1_reasonOn : List Cond := .code yX1_reasonOn cX1_reasonOn 2 (some .int) :: ([.fieldLink RX1 30 "WrongedMeters$House" "isLocked" "Z", .fieldLink RX1 9 "WrongedMeters$House" "latestDay" "I"] ++ wsX10)
def wsX1_goOn : List Cond := .code yX1_goOn cX1_goOn 1 none :: ([.fieldLink RX1 21 "WrongedMeters$House" "dial" "I", .fieldLink RX1 27 "WrongedMeters$House" "flow" "I", .constant RX1 55 (100000)] ++ wsX10)
def wsX1_settle : List Cond := .code yX1_settle cX1_settle 4 none :: ([.fieldLink RX1 34 "WrongedMeters$House" "balance" "I", .fieldLink RX1 21 "WrongedMeters$House" "dial" "I", .fieldLink RX1 24 "WrongedMeters$House" "dialBefore" "I", .fieldLink RX1 9 "WrongedMeters$House" "latestDay" "I", .fieldLink RX1 37 "WrongedMeters$House" "readings" "I", .fieldLink RX1 40 "WrongedMeters$House" "units" "I", .fieldLink RX1 43 "WrongedMeters$House" "timesHouseWronged" "I", .fieldLink RX1 46 "WrongedMeters$House" "timesCompanyWronged" "I"] ++ wsX10)
def wsX1_renewMeter : List Cond := .code yX1_renewMeter cX1_renewMeter 1 none :: ([.fieldLink RX1 21 "WrongedMeters$House" "dial" "I", .fieldLink RX1 24 "WrongedMeters$House" "dialBefore" "I", .fieldLink RX1 52 "WrongedMeters$House" "metersChanged" "I"] ++ wsX10)
def wsX1_fact : List Cond := .code yX1_fact cX1_fact 2 (some .int) :: ([.fieldLink RX1 15 "WrongedMeters$House" "street" "I", .fieldLink RX1 18 "WrongedMeters$House" "place" "I", .fieldLink RX1 21 "WrongedMeters$House" "dial" "I", .fieldLink RX1 34 "WrongedMeters$House" "balance" "I", .fieldLink RX1 27 "WrongedMeters$House" "flow" "I", .fieldLink RX1 30 "WrongedMeters$House" "isLocked" "Z", .fieldLink RX1 9 "WrongedMeters$House" "latestDay" "I", .constant RX1 60 (-1000004), .fieldLink RX1 37 "WrongedMeters$House" "readings" "I", .fieldLink RX1 40 "WrongedMeters$House" "units" "I", .fieldLink RX1 43 "WrongedMeters$House" "timesHouseWronged" "I", .fieldLink RX1 46 "WrongedMeters$House" "timesCompanyWronged" "I", .fieldLink RX1 49 "WrongedMeters$House" "refunds" "I", .fieldLink RX1 52 "WrongedMeters$House" "metersChanged" "I", .constant RX1 61 (-1000001), .methodLink RX1 56 yX1_used, .instanceMethod yX1_used, .selects RX1 yX1_used yX1_used, .initialized RX1, .code yX1_used cX1_used 1 (some .int), .fieldLink RX1 24 "WrongedMeters$House" "dialBefore" "I", .constant RX1 55 (100000)] ++ wsX10)
def wsX2_add : List Cond := .code yX2_add cX2_add 7 none :: ([.fieldLink RX2 21 "WrongedMeters$Ledger" "nextRow" "I", .fieldLink RX2 11 "WrongedMeters$Ledger" "facts" "[I", .fieldLink RX2 25 "WrongedMeters$Ledger" "size" "I"] ++ wsX20)
def wsX2_entry : List Cond := .code yX2_entry cX2_entry 4 (some .int) :: ([.constant RX2 28 (-1000001), .fieldLink RX2 25 "WrongedMeters$Ledger" "size" "I", .constant RX2 29 (-1000004), .fieldLink RX2 21 "WrongedMeters$Ledger" "nextRow" "I", .fieldLink RX2 11 "WrongedMeters$Ledger" "facts" "[I"] ++ wsX20)
def wsX3_init : List Cond := .code yX3_init cX3_init 1 none :: ([.methodLink RX3 3 objectInit, .instanceMethod objectInit, .code objectInit ⟨#[0xb1]⟩ 1 none, .arrayClass .int, .fieldLink RX3 11 "WrongedMeters$Orders" "text" "[I"] ++ wsX30)
def wsX4_stepAhead : List Cond := .code yX4_stepAhead cX4_stepAhead 2 (some .int) :: ([.fieldLink RX4 15 "WrongedMeters$Street" "latestStep" "I"] ++ wsX40)
def wsX4_houseOn : List Cond := .code yX4_houseOn cX4_houseOn 2 (some .int) :: ([.fieldLink RX4 9 "WrongedMeters$Street" "houses" "[I"] ++ wsX40)
def wsX4_putHouse : List Cond := .code yX4_putHouse cX4_putHouse 3 none :: ([.fieldLink RX4 9 "WrongedMeters$Street" "houses" "[I"] ++ wsX40)
def wsX4_houseRanked : List Cond := .code yX4_houseRanked cX4_houseRanked 5 (some .int) :: ([.constant RX4 32 (-1000004), .methodLink RX4 25 yX4_stepAhead, .instanceMethod yX4_stepAhead, .selects RX4 yX4_stepAhead yX4_stepAhead, .initialized RX4, .code yX4_stepAhead cX4_stepAhead 2 (some .int), .fieldLink RX4 15 "WrongedMeters$Street" "latestStep" "I", .methodLink RX4 29 yX4_houseOn, .instanceMethod yX4_houseOn, .selects RX4 yX4_houseOn yX4_houseOn, .code yX4_houseOn cX4_houseOn 2 (some .int), .fieldLink RX4 9 "WrongedMeters$Street" "houses" "[I"] ++ wsX40)
def wsX5_houseNumbered : List Cond := .code yX5_houseNumbered cX5_houseNumbered 2 (some (.object "WrongedMeters$House")) :: ([.fieldLink RX5 55 "WrongedMeters$Town" "houseCount" "I", .fieldLink RX5 11 "WrongedMeters$Town" "houses" "[LWrongedMeters$House;"] ++ wsX50)
def wsX5_streetNumbered : List Cond := .code yX5_streetNumbered cX5_streetNumbered 2 (some (.object "WrongedMeters$Street")) :: ([.fieldLink RX5 19 "WrongedMeters$Town" "streets" "[LWrongedMeters$Street;"] ++ wsX50)
def wsX6_isPlace : List Cond := .code yX6_isPlace cX6_isPlace 1 (some .boolean) :: ([])
def wsX6_stepOf : List Cond := .code yX6_stepOf cX6_stepOf 1 (some .int) :: ([])
def wsX5_addHouse_r1 : List Cond := [Cond.constant RX5 100 (-1000001), Cond.constant RX5 119 (-1000002), Cond.fieldLink RX5 55 "WrongedMeters$Town" "houseCount" "I", Cond.constant RX5 101 (-1000003), Cond.fieldLink RX5 11 "WrongedMeters$Town" "houses" "[LWrongedMeters$House;", Cond.methodLink RX5 105 yX5_streetNumbered, Cond.instanceMethod yX5_streetNumbered, Cond.selects RX5 yX5_streetNumbered yX5_streetNumbered, Cond.initialized RX5, Cond.code yX5_streetNumbered cX5_streetNumbered 2 (some (.object "WrongedMeters$Street")), Cond.fieldLink RX5 19 "WrongedMeters$Town" "streets" "[LWrongedMeters$Street;", Cond.static yX6_isPlace, Cond.initialized RX6, Cond.code yX6_isPlace cX6_isPlace 1 (some .boolean), Cond.static yX6_stepOf, Cond.code yX6_stepOf cX6_stepOf 1 (some .int), Cond.methodLink RX5 116 yX4_houseOn, Cond.instanceMethod yX4_houseOn, Cond.selects RX4 yX4_houseOn yX4_houseOn, Cond.initialized RX4, Cond.code yX4_houseOn cX4_houseOn 2 (some .int), Cond.fieldLink RX4 9 "WrongedMeters$Street" "houses" "[I", Cond.methodLink RX5 126 yX4_putHouse, Cond.instanceMethod yX4_putHouse]
def wsX5_addHouse_r2 : List Cond := [Cond.selects RX4 yX4_putHouse yX4_putHouse, Cond.code yX4_putHouse cX4_putHouse 3 none]
def wsX5_addHouse : List Cond := .code yX5_addHouse cX5_addHouse 5 (some .int) :: ((wsX5_addHouse_r1 ++ wsX5_addHouse_r2) ++ wsX50 ++ wsX10 ++ wsX40)
def wsX5_putFlow : List Cond := .code yX5_putFlow cX5_putFlow 5 (some .int) :: ([.constant RX5 100 (-1000001), .methodLink RX5 130 yX5_houseNumbered, .instanceMethod yX5_houseNumbered, .selects RX5 yX5_houseNumbered yX5_houseNumbered, .initialized RX5, .code yX5_houseNumbered cX5_houseNumbered 2 (some (.object "WrongedMeters$House")), .fieldLink RX5 55 "WrongedMeters$Town" "houseCount" "I", .fieldLink RX5 11 "WrongedMeters$Town" "houses" "[LWrongedMeters$House;"] ++ wsX10 ++ wsX50)
def wsX5_putLock : List Cond := .code yX5_putLock cX5_putLock 5 (some .int) :: ([.constant RX5 100 (-1000001), .methodLink RX5 130 yX5_houseNumbered, .instanceMethod yX5_houseNumbered, .selects RX5 yX5_houseNumbered yX5_houseNumbered, .initialized RX5, .code yX5_houseNumbered cX5_houseNumbered 2 (some (.object "WrongedMeters$House")), .fieldLink RX5 55 "WrongedMeters$Town" "houseCount" "I", .fieldLink RX5 11 "WrongedMeters$Town" "houses" "[LWrongedMeters$House;"] ++ wsX10 ++ wsX50)
def wsX5_turnLock : List Cond := .code yX5_turnLock cX5_turnLock 3 (some .int) :: ([.constant RX5 100 (-1000001), .methodLink RX5 130 yX5_houseNumbered, .instanceMethod yX5_houseNumbered, .selects RX5 yX5_houseNumbered yX5_houseNumbered, .initialized RX5, .code yX5_houseNumbered cX5_houseNumbered 2 (some (.object "WrongedMeters$House")), .fieldLink RX5 55 "WrongedMeters$Town" "houseCount" "I", .fieldLink RX5 11 "WrongedMeters$Town" "houses" "[LWrongedMeters$House;", .methodLink RX5 141 yX5_putLock, .instanceMethod yX5_putLock, .selects RX5 yX5_putLock yX5_putLock, .code yX5_putLock cX5_putLock 5 (some .int)] ++ wsX10 ++ wsX50)
def wsX6_unitsFor : List Cond := .code yX6_unitsFor cX6_unitsFor 2 (some .int) :: ([])
def wsX5_readMeter_r1 : List Cond := [Cond.fieldLink RX5 59 "WrongedMeters$Town" "now" "I", Cond.fieldLink RX5 26 "WrongedMeters$Town" "ledger" "LWrongedMeters$Ledger;", Cond.fieldLink RX5 62 "WrongedMeters$Town" "readings" "I", Cond.fieldLink RX5 65 "WrongedMeters$Town" "units" "I", Cond.fieldLink RX5 68 "WrongedMeters$Town" "coins" "I", Cond.fieldLink RX5 30 "WrongedMeters$Town" "settings" "[I", Cond.fieldLink RX5 71 "WrongedMeters$Town" "hundredths" "I", Cond.methodLink RX5 161 yX1_used, Cond.instanceMethod yX1_used, Cond.selects RX1 yX1_used yX1_used, Cond.initialized RX1, Cond.code yX1_used cX1_used 1 (some .int), Cond.fieldLink RX1 21 "WrongedMeters$House" "dial" "I", Cond.fieldLink RX1 24 "WrongedMeters$House" "dialBefore" "I", Cond.constant RX1 55 (100000), Cond.static yX6_unitsFor, Cond.initialized RX6, Cond.code yX6_unitsFor cX6_unitsFor 2 (some .int), Cond.methodLink RX5 171 yX1_settle, Cond.instanceMethod yX1_settle, Cond.selects RX1 yX1_settle yX1_settle, Cond.code yX1_settle cX1_settle 4 none, Cond.fieldLink RX1 34 "WrongedMeters$House" "balance" "I", Cond.fieldLink RX1 9 "WrongedMeters$House" "latestDay" "I"]
def wsX5_readMeter_r2 : List Cond := [Cond.fieldLink RX1 37 "WrongedMeters$House" "readings" "I", Cond.fieldLink RX1 40 "WrongedMeters$House" "units" "I", Cond.fieldLink RX1 43 "WrongedMeters$House" "timesHouseWronged" "I", Cond.fieldLink RX1 46 "WrongedMeters$House" "timesCompanyWronged" "I", Cond.methodLink RX5 175 yX2_add, Cond.instanceMethod yX2_add, Cond.selects RX2 yX2_add yX2_add, Cond.initialized RX2, Cond.code yX2_add cX2_add 7 none, Cond.fieldLink RX2 21 "WrongedMeters$Ledger" "nextRow" "I", Cond.fieldLink RX2 11 "WrongedMeters$Ledger" "facts" "[I", Cond.fieldLink RX2 25 "WrongedMeters$Ledger" "size" "I"]
def wsX5_readMeter : List Cond := .code yX5_readMeter cX5_readMeter 5 (some .int) :: ((wsX5_readMeter_r1 ++ wsX5_readMeter_r2) ++ wsX10 ++ wsX50 ++ wsX20)
def wsX5_readIfOpen_r1 : List Cond := [Cond.constant RX5 100 (-1000001), Cond.fieldLink RX5 59 "WrongedMeters$Town" "now" "I", Cond.constant RX5 119 (-1000002), Cond.methodLink RX5 130 yX5_houseNumbered, Cond.instanceMethod yX5_houseNumbered, Cond.selects RX5 yX5_houseNumbered yX5_houseNumbered, Cond.initialized RX5, Cond.code yX5_houseNumbered cX5_houseNumbered 2 (some (.object "WrongedMeters$House")), Cond.fieldLink RX5 55 "WrongedMeters$Town" "houseCount" "I", Cond.fieldLink RX5 11 "WrongedMeters$Town" "houses" "[LWrongedMeters$House;", Cond.methodLink RX5 151 yX1_reasonOn, Cond.instanceMethod yX1_reasonOn, Cond.selects RX1 yX1_reasonOn yX1_reasonOn, Cond.initialized RX1, Cond.code yX1_reasonOn cX1_reasonOn 2 (some .int), Cond.fieldLink RX1 30 "WrongedMeters$House" "isLocked" "Z", Cond.fieldLink RX1 9 "WrongedMeters$House" "latestDay" "I", Cond.methodLink RX5 154 yX5_readMeter, Cond.instanceMethod yX5_readMeter, Cond.selects RX5 yX5_readMeter yX5_readMeter, Cond.code yX5_readMeter cX5_readMeter 5 (some .int), Cond.fieldLink RX5 26 "WrongedMeters$Town" "ledger" "LWrongedMeters$Ledger;", Cond.fieldLink RX5 62 "WrongedMeters$Town" "readings" "I", Cond.fieldLink RX5 65 "WrongedMeters$Town" "units" "I"]
def wsX5_readIfOpen_r2 : List Cond := [Cond.fieldLink RX5 68 "WrongedMeters$Town" "coins" "I", Cond.fieldLink RX5 30 "WrongedMeters$Town" "settings" "[I", Cond.fieldLink RX5 71 "WrongedMeters$Town" "hundredths" "I", Cond.methodLink RX5 161 yX1_used, Cond.instanceMethod yX1_used, Cond.selects RX1 yX1_used yX1_used, Cond.code yX1_used cX1_used 1 (some .int), Cond.fieldLink RX1 21 "WrongedMeters$House" "dial" "I", Cond.fieldLink RX1 24 "WrongedMeters$House" "dialBefore" "I", Cond.constant RX1 55 (100000), Cond.static yX6_unitsFor, Cond.initialized RX6, Cond.code yX6_unitsFor cX6_unitsFor 2 (some .int), Cond.methodLink RX5 171 yX1_settle, Cond.instanceMethod yX1_settle, Cond.selects RX1 yX1_settle yX1_settle, Cond.code yX1_settle cX1_settle 4 none, Cond.fieldLink RX1 34 "WrongedMeters$House" "balance" "I", Cond.fieldLink RX1 37 "WrongedMeters$House" "readings" "I", Cond.fieldLink RX1 40 "WrongedMeters$House" "units" "I", Cond.fieldLink RX1 43 "WrongedMeters$House" "timesHouseWronged" "I", Cond.fieldLink RX1 46 "WrongedMeters$House" "timesCompanyWronged" "I", Cond.methodLink RX5 175 yX2_add, Cond.instanceMethod yX2_add]
def wsX5_readIfOpen_r3 : List Cond := [Cond.selects RX2 yX2_add yX2_add, Cond.initialized RX2, Cond.code yX2_add cX2_add 7 none, Cond.fieldLink RX2 21 "WrongedMeters$Ledger" "nextRow" "I", Cond.fieldLink RX2 11 "WrongedMeters$Ledger" "facts" "[I", Cond.fieldLink RX2 25 "WrongedMeters$Ledger" "size" "I"]
def wsX5_readIfOpen : List Cond := .code yX5_readIfOpen cX5_readIfOpen 3 (some .int) :: ((wsX5_readIfOpen_r1 ++ (wsX5_readIfOpen_r2 ++ wsX5_readIfOpen_r3)) ++ wsX50 ++ wsX10 ++ wsX20)
def wsX5_changeMeter_r1 : List Cond := [Cond.constant RX5 100 (-1000001), Cond.methodLink RX5 130 yX5_houseNumbered, Cond.instanceMethod yX5_houseNumbered, Cond.selects RX5 yX5_houseNumbered yX5_houseNumbered, Cond.initialized RX5, Cond.code yX5_houseNumbered cX5_houseNumbered 2 (some (.object "WrongedMeters$House")), Cond.fieldLink RX5 55 "WrongedMeters$Town" "houseCount" "I", Cond.fieldLink RX5 11 "WrongedMeters$Town" "houses" "[LWrongedMeters$House;", Cond.methodLink RX5 154 yX5_readMeter, Cond.instanceMethod yX5_readMeter, Cond.selects RX5 yX5_readMeter yX5_readMeter, Cond.code yX5_readMeter cX5_readMeter 5 (some .int), Cond.fieldLink RX5 59 "WrongedMeters$Town" "now" "I", Cond.fieldLink RX5 26 "WrongedMeters$Town" "ledger" "LWrongedMeters$Ledger;", Cond.fieldLink RX5 62 "WrongedMeters$Town" "readings" "I", Cond.fieldLink RX5 65 "WrongedMeters$Town" "units" "I", Cond.fieldLink RX5 68 "WrongedMeters$Town" "coins" "I", Cond.fieldLink RX5 30 "WrongedMeters$Town" "settings" "[I", Cond.fieldLink RX5 71 "WrongedMeters$Town" "hundredths" "I", Cond.methodLink RX5 161 yX1_used, Cond.instanceMethod yX1_used, Cond.selects RX1 yX1_used yX1_used, Cond.initialized RX1, Cond.code yX1_used cX1_used 1 (some .int)]
def wsX5_changeMeter_r2 : List Cond := [Cond.fieldLink RX1 21 "WrongedMeters$House" "dial" "I", Cond.fieldLink RX1 24 "WrongedMeters$House" "dialBefore" "I", Cond.constant RX1 55 (100000), Cond.static yX6_unitsFor, Cond.initialized RX6, Cond.code yX6_unitsFor cX6_unitsFor 2 (some .int), Cond.methodLink RX5 171 yX1_settle, Cond.instanceMethod yX1_settle, Cond.selects RX1 yX1_settle yX1_settle, Cond.code yX1_settle cX1_settle 4 none, Cond.fieldLink RX1 34 "WrongedMeters$House" "balance" "I", Cond.fieldLink RX1 9 "WrongedMeters$House" "latestDay" "I", Cond.fieldLink RX1 37 "WrongedMeters$House" "readings" "I", Cond.fieldLink RX1 40 "WrongedMeters$House" "units" "I", Cond.fieldLink RX1 43 "WrongedMeters$House" "timesHouseWronged" "I", Cond.fieldLink RX1 46 "WrongedMeters$House" "timesCompanyWronged" "I", Cond.methodLink RX5 175 yX2_add, Cond.instanceMethod yX2_add, Cond.selects RX2 yX2_add yX2_add, Cond.initialized RX2, Cond.code yX2_add cX2_add 7 none, Cond.fieldLink RX2 21 "WrongedMeters$Ledger" "nextRow" "I", Cond.fieldLink RX2 11 "WrongedMeters$Ledger" "facts" "[I", Cond.fieldLink RX2 25 "WrongedMeters$Ledger" "size" "I"]
def wsX5_changeMeter_r3 : List Cond := [Cond.methodLink RX5 158 yX1_renewMeter, Cond.instanceMethod yX1_renewMeter, Cond.selects RX1 yX1_renewMeter yX1_renewMeter, Cond.code yX1_renewMeter cX1_renewMeter 1 none, Cond.fieldLink RX1 52 "WrongedMeters$House" "metersChanged" "I"]
def wsX5_changeMeter : List Cond := .code yX5_changeMeter cX5_changeMeter 4 (some .int) :: ((wsX5_changeMeter_r1 ++ (wsX5_changeMeter_r2 ++ wsX5_changeMeter_r3)) ++ wsX50 ++ wsX10 ++ wsX20)
def wsX5_walk_r1 : List Cond := [Cond.fieldLink RX5 30 "WrongedMeters$Town" "settings" "[I", Cond.fieldLink RX5 59 "WrongedMeters$Town" "now" "I", Cond.methodLink RX5 188 yX4_stepAhead, Cond.instanceMethod yX4_stepAhead, Cond.selects RX4 yX4_stepAhead yX4_stepAhead, Cond.initialized RX4, Cond.code yX4_stepAhead cX4_stepAhead 2 (some .int), Cond.fieldLink RX4 15 "WrongedMeters$Street" "latestStep" "I", Cond.methodLink RX5 116 yX4_houseOn, Cond.instanceMethod yX4_houseOn, Cond.selects RX4 yX4_houseOn yX4_houseOn, Cond.code yX4_houseOn cX4_houseOn 2 (some .int), Cond.fieldLink RX4 9 "WrongedMeters$Street" "houses" "[I", Cond.methodLink RX5 130 yX5_houseNumbered, Cond.instanceMethod yX5_houseNumbered, Cond.selects RX5 yX5_houseNumbered yX5_houseNumbered, Cond.initialized RX5, Cond.code yX5_houseNumbered cX5_houseNumbered 2 (some (.object "WrongedMeters$House")), Cond.fieldLink RX5 55 "WrongedMeters$Town" "houseCount" "I", Cond.fieldLink RX5 11 "WrongedMeters$Town" "houses" "[LWrongedMeters$House;", Cond.methodLink RX5 151 yX1_reasonOn, Cond.instanceMethod yX1_reasonOn, Cond.selects RX1 yX1_reasonOn yX1_reasonOn, Cond.initialized RX1]
def wsX5_walk_r2 : List Cond := [Cond.code yX1_reasonOn cX1_reasonOn 2 (some .int), Cond.fieldLink RX1 30 "WrongedMeters$House" "isLocked" "Z", Cond.fieldLink RX1 9 "WrongedMeters$House" "latestDay" "I", Cond.methodLink RX5 154 yX5_readMeter, Cond.instanceMethod yX5_readMeter, Cond.selects RX5 yX5_readMeter yX5_readMeter, Cond.code yX5_readMeter cX5_readMeter 5 (some .int), Cond.fieldLink RX5 26 "WrongedMeters$Town" "ledger" "LWrongedMeters$Ledger;", Cond.fieldLink RX5 62 "WrongedMeters$Town" "readings" "I", Cond.fieldLink RX5 65 "WrongedMeters$Town" "units" "I", Cond.fieldLink RX5 68 "WrongedMeters$Town" "coins" "I", Cond.fieldLink RX5 71 "WrongedMeters$Town" "hundredths" "I", Cond.methodLink RX5 161 yX1_used, Cond.instanceMethod yX1_used, Cond.selects RX1 yX1_used yX1_used, Cond.code yX1_used cX1_used 1 (some .int), Cond.fieldLink RX1 21 "WrongedMeters$House" "dial" "I", Cond.fieldLink RX1 24 "WrongedMeters$House" "dialBefore" "I", Cond.constant RX1 55 (100000), Cond.static yX6_unitsFor, Cond.initialized RX6, Cond.code yX6_unitsFor cX6_unitsFor 2 (some .int), Cond.methodLink RX5 171 yX1_settle, Cond.instanceMethod yX1_settle]
def wsX5_walk_r3 : List Cond := [Cond.selects RX1 yX1_settle yX1_settle, Cond.code yX1_settle cX1_settle 4 none, Cond.fieldLink RX1 34 "WrongedMeters$House" "balance" "I", Cond.fieldLink RX1 37 "WrongedMeters$House" "readings" "I", Cond.fieldLink RX1 40 "WrongedMeters$House" "units" "I", Cond.fieldLink RX1 43 "WrongedMeters$House" "timesHouseWronged" "I", Cond.fieldLink RX1 46 "WrongedMeters$House" "timesCompanyWronged" "I", Cond.methodLink RX5 175 yX2_add, Cond.instanceMethod yX2_add, Cond.selects RX2 yX2_add yX2_add, Cond.initialized RX2, Cond.code yX2_add cX2_add 7 none, Cond.fieldLink RX2 21 "WrongedMeters$Ledger" "nextRow" "I", Cond.fieldLink RX2 11 "WrongedMeters$Ledger" "facts" "[I", Cond.fieldLink RX2 25 "WrongedMeters$Ledger" "size" "I"]
def wsX5_walk : List Cond := .code yX5_walk cX5_walk 8 none :: ((wsX5_walk_r1 ++ (wsX5_walk_r2 ++ wsX5_walk_r3)) ++ wsX50 ++ wsX40 ++ wsX10 ++ wsX20)
def wsX5_endYear : List Cond := .code yX5_endYear cX5_endYear 5 none :: ([.fieldLink RX5 80 "WrongedMeters$Town" "years" "I", .fieldLink RX5 11 "WrongedMeters$Town" "houses" "[LWrongedMeters$House;", .fieldLink RX5 30 "WrongedMeters$Town" "settings" "[I", .fieldLink RX5 74 "WrongedMeters$Town" "refunds" "I", .fieldLink RX5 77 "WrongedMeters$Town" "coinsBack" "I"] ++ wsX50 ++ wsX10)
def wsX5_passDays_r1 : List Cond := [Cond.fieldLink RX5 62 "WrongedMeters$Town" "readings" "I", Cond.fieldLink RX5 11 "WrongedMeters$Town" "houses" "[LWrongedMeters$House;", Cond.fieldLink RX5 59 "WrongedMeters$Town" "now" "I", Cond.fieldLink RX5 30 "WrongedMeters$Town" "settings" "[I", Cond.methodLink RX5 179 yX1_goOn, Cond.instanceMethod yX1_goOn, Cond.selects RX1 yX1_goOn yX1_goOn, Cond.initialized RX1, Cond.code yX1_goOn cX1_goOn 1 none, Cond.fieldLink RX1 21 "WrongedMeters$House" "dial" "I", Cond.fieldLink RX1 27 "WrongedMeters$House" "flow" "I", Cond.constant RX1 55 (100000), Cond.methodLink RX5 105 yX5_streetNumbered, Cond.instanceMethod yX5_streetNumbered, Cond.selects RX5 yX5_streetNumbered yX5_streetNumbered, Cond.initialized RX5, Cond.code yX5_streetNumbered cX5_streetNumbered 2 (some (.object "WrongedMeters$Street")), Cond.fieldLink RX5 19 "WrongedMeters$Town" "streets" "[LWrongedMeters$Street;", Cond.methodLink RX5 182 yX5_walk, Cond.instanceMethod yX5_walk, Cond.selects RX5 yX5_walk yX5_walk, Cond.code yX5_walk cX5_walk 8 none, Cond.methodLink RX5 188 yX4_stepAhead, Cond.instanceMethod yX4_stepAhead]
def wsX5_passDays_r2 : List Cond := [Cond.selects RX4 yX4_stepAhead yX4_stepAhead, Cond.initialized RX4, Cond.code yX4_stepAhead cX4_stepAhead 2 (some .int), Cond.fieldLink RX4 15 "WrongedMeters$Street" "latestStep" "I", Cond.methodLink RX5 116 yX4_houseOn, Cond.instanceMethod yX4_houseOn, Cond.selects RX4 yX4_houseOn yX4_houseOn, Cond.code yX4_houseOn cX4_houseOn 2 (some .int), Cond.fieldLink RX4 9 "WrongedMeters$Street" "houses" "[I", Cond.methodLink RX5 130 yX5_houseNumbered, Cond.instanceMethod yX5_houseNumbered, Cond.selects RX5 yX5_houseNumbered yX5_houseNumbered, Cond.code yX5_houseNumbered cX5_houseNumbered 2 (some (.object "WrongedMeters$House")), Cond.fieldLink RX5 55 "WrongedMeters$Town" "houseCount" "I", Cond.methodLink RX5 151 yX1_reasonOn, Cond.instanceMethod yX1_reasonOn, Cond.selects RX1 yX1_reasonOn yX1_reasonOn, Cond.code yX1_reasonOn cX1_reasonOn 2 (some .int), Cond.fieldLink RX1 30 "WrongedMeters$House" "isLocked" "Z", Cond.fieldLink RX1 9 "WrongedMeters$House" "latestDay" "I", Cond.methodLink RX5 154 yX5_readMeter, Cond.instanceMethod yX5_readMeter, Cond.selects RX5 yX5_readMeter yX5_readMeter, Cond.code yX5_readMeter cX5_readMeter 5 (some .int)]
def wsX5_passDays_r3 : List Cond := [Cond.fieldLink RX5 26 "WrongedMeters$Town" "ledger" "LWrongedMeters$Ledger;", Cond.fieldLink RX5 65 "WrongedMeters$Town" "units" "I", Cond.fieldLink RX5 68 "WrongedMeters$Town" "coins" "I", Cond.fieldLink RX5 71 "WrongedMeters$Town" "hundredths" "I", Cond.methodLink RX5 161 yX1_used, Cond.instanceMethod yX1_used, Cond.selects RX1 yX1_used yX1_used, Cond.code yX1_used cX1_used 1 (some .int), Cond.fieldLink RX1 24 "WrongedMeters$House" "dialBefore" "I", Cond.static yX6_unitsFor, Cond.initialized RX6, Cond.code yX6_unitsFor cX6_unitsFor 2 (some .int), Cond.methodLink RX5 171 yX1_settle, Cond.instanceMethod yX1_settle, Cond.selects RX1 yX1_settle yX1_settle, Cond.code yX1_settle cX1_settle 4 none, Cond.fieldLink RX1 34 "WrongedMeters$House" "balance" "I", Cond.fieldLink RX1 37 "WrongedMeters$House" "readings" "I", Cond.fieldLink RX1 40 "WrongedMeters$House" "units" "I", Cond.fieldLink RX1 43 "WrongedMeters$House" "timesHouseWronged" "I", Cond.fieldLink RX1 46 "WrongedMeters$House" "timesCompanyWronged" "I", Cond.methodLink RX5 175 yX2_add, Cond.instanceMethod yX2_add, Cond.selects RX2 yX2_add yX2_add]
def wsX5_passDays_r4 : List Cond := [Cond.initialized RX2, Cond.code yX2_add cX2_add 7 none, Cond.fieldLink RX2 21 "WrongedMeters$Ledger" "nextRow" "I", Cond.fieldLink RX2 11 "WrongedMeters$Ledger" "facts" "[I", Cond.fieldLink RX2 25 "WrongedMeters$Ledger" "size" "I", Cond.methodLink RX5 185 yX5_endYear, Cond.instanceMethod yX5_endYear, Cond.selects RX5 yX5_endYear yX5_endYear, Cond.code yX5_endYear cX5_endYear 5 none, Cond.fieldLink RX5 80 "WrongedMeters$Town" "years" "I", Cond.fieldLink RX5 74 "WrongedMeters$Town" "refunds" "I", Cond.fieldLink RX5 77 "WrongedMeters$Town" "coinsBack" "I"]
def wsX5_passDays : List Cond := .code yX5_passDays cX5_passDays 8 (some .int) :: ((wsX5_passDays_r1 ++ (wsX5_passDays_r2 ++ (wsX5_passDays_r3 ++ wsX5_passDays_r4))) ++ wsX50 ++ wsX10 ++ wsX40 ++ wsX20)
def wsX5_obey_r1 : List Cond := [Cond.constant RX5 100 (-1000001), Cond.fieldLink RX5 59 "WrongedMeters$Town" "now" "I", Cond.constant RX5 101 (-1000003), Cond.methodLink RX5 83 yX5_addHouse, Cond.instanceMethod yX5_addHouse, Cond.selects RX5 yX5_addHouse yX5_addHouse, Cond.initialized RX5, Cond.code yX5_addHouse cX5_addHouse 5 (some .int), Cond.constant RX5 119 (-1000002), Cond.fieldLink RX5 55 "WrongedMeters$Town" "houseCount" "I", Cond.fieldLink RX5 11 "WrongedMeters$Town" "houses" "[LWrongedMeters$House;", Cond.methodLink RX5 105 yX5_streetNumbered, Cond.instanceMethod yX5_streetNumbered, Cond.selects RX5 yX5_streetNumbered yX5_streetNumbered, Cond.code yX5_streetNumbered cX5_streetNumbered 2 (some (.object "WrongedMeters$Street")), Cond.fieldLink RX5 19 "WrongedMeters$Town" "streets" "[LWrongedMeters$Street;", Cond.static yX6_isPlace, Cond.initialized RX6, Cond.code yX6_isPlace cX6_isPlace 1 (some .boolean), Cond.static yX6_stepOf, Cond.code yX6_stepOf cX6_stepOf 1 (some .int), Cond.methodLink RX5 116 yX4_houseOn, Cond.instanceMethod yX4_houseOn, Cond.selects RX4 yX4_houseOn yX4_houseOn]
def wsX5_obey_r2 : List Cond := [Cond.initialized RX4, Cond.code yX4_houseOn cX4_houseOn 2 (some .int), Cond.fieldLink RX4 9 "WrongedMeters$Street" "houses" "[I", Cond.methodLink RX5 126 yX4_putHouse, Cond.instanceMethod yX4_putHouse, Cond.selects RX4 yX4_putHouse yX4_putHouse, Cond.code yX4_putHouse cX4_putHouse 3 none, Cond.methodLink RX5 87 yX5_putFlow, Cond.instanceMethod yX5_putFlow, Cond.selects RX5 yX5_putFlow yX5_putFlow, Cond.code yX5_putFlow cX5_putFlow 5 (some .int), Cond.methodLink RX5 130 yX5_houseNumbered, Cond.instanceMethod yX5_houseNumbered, Cond.selects RX5 yX5_houseNumbered yX5_houseNumbered, Cond.code yX5_houseNumbered cX5_houseNumbered 2 (some (.object "WrongedMeters$House")), Cond.methodLink RX5 90 yX5_turnLock, Cond.instanceMethod yX5_turnLock, Cond.selects RX5 yX5_turnLock yX5_turnLock, Cond.code yX5_turnLock cX5_turnLock 3 (some .int), Cond.methodLink RX5 141 yX5_putLock, Cond.instanceMethod yX5_putLock, Cond.selects RX5 yX5_putLock yX5_putLock, Cond.code yX5_putLock cX5_putLock 5 (some .int), Cond.methodLink RX5 94 yX5_readIfOpen]
def wsX5_obey_r3 : List Cond := [Cond.instanceMethod yX5_readIfOpen, Cond.selects RX5 yX5_readIfOpen yX5_readIfOpen, Cond.code yX5_readIfOpen cX5_readIfOpen 3 (some .int), Cond.methodLink RX5 151 yX1_reasonOn, Cond.instanceMethod yX1_reasonOn, Cond.selects RX1 yX1_reasonOn yX1_reasonOn, Cond.initialized RX1, Cond.code yX1_reasonOn cX1_reasonOn 2 (some .int), Cond.fieldLink RX1 30 "WrongedMeters$House" "isLocked" "Z", Cond.fieldLink RX1 9 "WrongedMeters$House" "latestDay" "I", Cond.methodLink RX5 154 yX5_readMeter, Cond.instanceMethod yX5_readMeter, Cond.selects RX5 yX5_readMeter yX5_readMeter, Cond.code yX5_readMeter cX5_readMeter 5 (some .int), Cond.fieldLink RX5 26 "WrongedMeters$Town" "ledger" "LWrongedMeters$Ledger;", Cond.fieldLink RX5 62 "WrongedMeters$Town" "readings" "I", Cond.fieldLink RX5 65 "WrongedMeters$Town" "units" "I", Cond.fieldLink RX5 68 "WrongedMeters$Town" "coins" "I", Cond.fieldLink RX5 30 "WrongedMeters$Town" "settings" "[I", Cond.fieldLink RX5 71 "WrongedMeters$Town" "hundredths" "I", Cond.methodLink RX5 161 yX1_used, Cond.instanceMethod yX1_used, Cond.selects RX1 yX1_used yX1_used, Cond.code yX1_used cX1_used 1 (some .int)]
def wsX5_obey_r4 : List Cond := [Cond.fieldLink RX1 21 "WrongedMeters$House" "dial" "I", Cond.fieldLink RX1 24 "WrongedMeters$House" "dialBefore" "I", Cond.constant RX1 55 (100000), Cond.static yX6_unitsFor, Cond.code yX6_unitsFor cX6_unitsFor 2 (some .int), Cond.methodLink RX5 171 yX1_settle, Cond.instanceMethod yX1_settle, Cond.selects RX1 yX1_settle yX1_settle, Cond.code yX1_settle cX1_settle 4 none, Cond.fieldLink RX1 34 "WrongedMeters$House" "balance" "I", Cond.fieldLink RX1 37 "WrongedMeters$House" "readings" "I", Cond.fieldLink RX1 40 "WrongedMeters$House" "units" "I", Cond.fieldLink RX1 43 "WrongedMeters$House" "timesHouseWronged" "I", Cond.fieldLink RX1 46 "WrongedMeters$House" "timesCompanyWronged" "I", Cond.methodLink RX5 175 yX2_add, Cond.instanceMethod yX2_add, Cond.selects RX2 yX2_add yX2_add, Cond.initialized RX2, Cond.code yX2_add cX2_add 7 none, Cond.fieldLink RX2 21 "WrongedMeters$Ledger" "nextRow" "I", Cond.fieldLink RX2 11 "WrongedMeters$Ledger" "facts" "[I", Cond.fieldLink RX2 25 "WrongedMeters$Ledger" "size" "I", Cond.methodLink RX5 97 yX5_changeMeter, Cond.instanceMethod yX5_changeMeter]
def wsX5_obey_r5 : List Cond := [Cond.selects RX5 yX5_changeMeter yX5_changeMeter, Cond.code yX5_changeMeter cX5_changeMeter 4 (some .int), Cond.methodLink RX5 158 yX1_renewMeter, Cond.instanceMethod yX1_renewMeter, Cond.selects RX1 yX1_renewMeter yX1_renewMeter, Cond.code yX1_renewMeter cX1_renewMeter 1 none, Cond.fieldLink RX1 52 "WrongedMeters$House" "metersChanged" "I", Cond.methodLink RX5 102 yX5_passDays, Cond.instanceMethod yX5_passDays, Cond.selects RX5 yX5_passDays yX5_passDays, Cond.code yX5_passDays cX5_passDays 8 (some .int), Cond.methodLink RX5 179 yX1_goOn, Cond.instanceMethod yX1_goOn, Cond.selects RX1 yX1_goOn yX1_goOn, Cond.code yX1_goOn cX1_goOn 1 none, Cond.fieldLink RX1 27 "WrongedMeters$House" "flow" "I", Cond.methodLink RX5 182 yX5_walk, Cond.instanceMethod yX5_walk, Cond.selects RX5 yX5_walk yX5_walk, Cond.code yX5_walk cX5_walk 8 none, Cond.methodLink RX5 188 yX4_stepAhead, Cond.instanceMethod yX4_stepAhead, Cond.selects RX4 yX4_stepAhead yX4_stepAhead, Cond.code yX4_stepAhead cX4_stepAhead 2 (some .int)]
def wsX5_obey_r6 : List Cond := [Cond.fieldLink RX4 15 "WrongedMeters$Street" "latestStep" "I", Cond.methodLink RX5 185 yX5_endYear, Cond.instanceMethod yX5_endYear, Cond.selects RX5 yX5_endYear yX5_endYear, Cond.code yX5_endYear cX5_endYear 5 none, Cond.fieldLink RX5 80 "WrongedMeters$Town" "years" "I", Cond.fieldLink RX5 74 "WrongedMeters$Town" "refunds" "I", Cond.fieldLink RX5 77 "WrongedMeters$Town" "coinsBack" "I"]
def wsX5_obey : List Cond := .code yX5_obey cX5_obey 4 (some .int) :: ((wsX5_obey_r1 ++ (wsX5_obey_r2 ++ (wsX5_obey_r3 ++ (wsX5_obey_r4 ++ (wsX5_obey_r5 ++ wsX5_obey_r6))))) ++ wsX50 ++ wsX10 ++ wsX40 ++ wsX20)
def wsX5_putSetting : List Cond := .code yX5_putSetting cX5_putSetting 4 (some .int) :: ([.constant RX5 100 (-1000001), .fieldLink RX5 30 "WrongedMeters$Town" "settings" "[I"] ++ wsX50)
def wsX5_housesAhead : List Cond := .code yX5_housesAhead cX5_housesAhead 6 (some .int) :: ([.fieldLink RX5 55 "WrongedMeters$Town" "houseCount" "I", .fieldLink RX5 11 "WrongedMeters$Town" "houses" "[LWrongedMeters$House;"] ++ wsX50 ++ wsX10)
def wsX5_houseByBalance : List Cond := .code yX5_houseByBalance cX5_houseByBalance 3 (some .int) :: ([.fieldLink RX5 55 "WrongedMeters$Town" "houseCount" "I", .fieldLink RX5 11 "WrongedMeters$Town" "houses" "[LWrongedMeters$House;", .constant RX5 195 (-1000004), .methodLink RX5 196 yX5_housesAhead, .instanceMethod yX5_housesAhead, .selects RX5 yX5_housesAhead yX5_housesAhead, .initialized RX5, .code yX5_housesAhead cX5_housesAhead 6 (some .int)] ++ wsX50 ++ wsX10)
def wsX5_housesLocked : List Cond := .code yX5_housesLocked cX5_housesLocked 6 (some .int) :: ([.fieldLink RX5 11 "WrongedMeters$Town" "houses" "[LWrongedMeters$House;"] ++ wsX50 ++ wsX10)
def wsX5_housesBetween : List Cond := .code yX5_housesBetween cX5_housesBetween 8 (some .int) :: ([.fieldLink RX5 11 "WrongedMeters$Town" "houses" "[LWrongedMeters$House;"] ++ wsX50 ++ wsX10)
def wsX5_balances : List Cond := .code yX5_balances cX5_balances 6 (some .int) :: ([.fieldLink RX5 11 "WrongedMeters$Town" "houses" "[LWrongedMeters$House;"] ++ wsX50 ++ wsX10)
def wsX5_number_r1 : List Cond := [Cond.fieldLink RX5 59 "WrongedMeters$Town" "now" "I", Cond.fieldLink RX5 55 "WrongedMeters$Town" "houseCount" "I", Cond.fieldLink RX5 62 "WrongedMeters$Town" "readings" "I", Cond.fieldLink RX5 65 "WrongedMeters$Town" "units" "I", Cond.fieldLink RX5 68 "WrongedMeters$Town" "coins" "I", Cond.fieldLink RX5 71 "WrongedMeters$Town" "hundredths" "I", Cond.fieldLink RX5 74 "WrongedMeters$Town" "refunds" "I", Cond.fieldLink RX5 77 "WrongedMeters$Town" "coinsBack" "I", Cond.fieldLink RX5 80 "WrongedMeters$Town" "years" "I", Cond.fieldLink RX5 26 "WrongedMeters$Town" "ledger" "LWrongedMeters$Ledger;", Cond.fieldLink RX5 30 "WrongedMeters$Town" "settings" "[I", Cond.constant RX5 100 (-1000001), Cond.methodLink RX5 199 yX5_housesLocked, Cond.instanceMethod yX5_housesLocked, Cond.selects RX5 yX5_housesLocked yX5_housesLocked, Cond.initialized RX5, Cond.code yX5_housesLocked cX5_housesLocked 6 (some .int), Cond.fieldLink RX5 11 "WrongedMeters$Town" "houses" "[LWrongedMeters$House;", Cond.methodLink RX5 202 yX5_housesBetween, Cond.instanceMethod yX5_housesBetween, Cond.selects RX5 yX5_housesBetween yX5_housesBetween, Cond.code yX5_housesBetween cX5_housesBetween 8 (some .int), Cond.methodLink RX5 205 yX5_balances, Cond.instanceMethod yX5_balances]
def wsX5_number_r2 : List Cond := [Cond.selects RX5 yX5_balances yX5_balances, Cond.code yX5_balances cX5_balances 6 (some .int)]
def wsX5_number : List Cond := .code yX5_number cX5_number 2 (some .int) :: ((wsX5_number_r1 ++ wsX5_number_r2) ++ wsX50 ++ wsX20 ++ wsX10)
def wsX6_init_r1 : List Cond := [Cond.methodLink RX6 1 objectInit, Cond.instanceMethod objectInit, Cond.code objectInit ⟨#[0xb1]⟩ 1 none, Cond.classLink RX6 7 RX5, Cond.instantiable RX5 13, Cond.initialized RX5, Cond.fieldLink RX6 10 "WrongedMeters" "town" "LWrongedMeters$Town;", Cond.fieldLink RX6 16 "WrongedMeters" "trial" "LWrongedMeters$Town;", Cond.classLink RX6 19 RX0, Cond.instantiable RX0 3, Cond.initialized RX0, Cond.fieldLink RX6 22 "WrongedMeters" "history" "LWrongedMeters$History;", Cond.classLink RX6 26 RX3, Cond.instantiable RX3 10, Cond.initialized RX3, Cond.fieldLink RX6 29 "WrongedMeters" "orders" "LWrongedMeters$Orders;", Cond.methodLink RX6 9 yX5_init, Cond.instanceMethod yX5_init, Cond.code yX5_init cX5_init 2 none, Cond.methodLink RX5 3 objectInit, Cond.classLink RX5 9 RX1, Cond.fieldLink RX5 11 "WrongedMeters$Town" "houses" "[LWrongedMeters$House;", Cond.classLink RX5 17 RX4, Cond.fieldLink RX5 19 "WrongedMeters$Town" "streets" "[LWrongedMeters$Street;"]
def wsX6_init_r2 : List Cond := [Cond.classLink RX5 23 RX2, Cond.instantiable RX2 3, Cond.initialized RX2, Cond.fieldLink RX5 26 "WrongedMeters$Town" "ledger" "LWrongedMeters$Ledger;", Cond.arrayClass .int, Cond.fieldLink RX5 30 "WrongedMeters$Town" "settings" "[I", Cond.instantiable RX1 14, Cond.initialized RX1, Cond.instantiable RX4 2, Cond.initialized RX4, Cond.instanceMethod yX2_init, Cond.code yX2_init cX2_init 1 none, Cond.methodLink RX2 3 objectInit, Cond.fieldLink RX2 11 "WrongedMeters$Ledger" "facts" "[I", Cond.instanceMethod yX1_init, Cond.code yX1_init cX1_init 1 none, Cond.methodLink RX1 3 objectInit, Cond.fieldLink RX1 9 "WrongedMeters$House" "latestDay" "I", Cond.methodLink RX5 35 yX4_init, Cond.instanceMethod yX4_init, Cond.code yX4_init cX4_init 2 none, Cond.methodLink RX4 3 objectInit, Cond.fieldLink RX4 9 "WrongedMeters$Street" "houses" "[I", Cond.fieldLink RX4 15 "WrongedMeters$Street" "latestStep" "I"]
def wsX6_init_r3 : List Cond := [Cond.methodLink RX6 21 yX0_init, Cond.instanceMethod yX0_init, Cond.code yX0_init cX0_init 2 none, Cond.methodLink RX0 5 objectInit, Cond.classLink RX0 11 RX5, Cond.fieldLink RX0 13 "WrongedMeters$History" "states" "[LWrongedMeters$Town;", Cond.methodLink RX0 17 yX5_init, Cond.instanceMethod yX3_init, Cond.code yX3_init cX3_init 1 none, Cond.methodLink RX3 3 objectInit, Cond.fieldLink RX3 11 "WrongedMeters$Orders" "text" "[I"]
def wsX6_init : List Cond := .code yX6_init cX6_init 1 none :: ((wsX6_init_r1 ++ (wsX6_init_r2 ++ wsX6_init_r3)) ++ wsX50 ++ wsX60 ++ wsX00 ++ wsX30 ++ wsX20 ++ wsX10 ++ wsX40)
def wsX6_kept : List Cond := .code yX6_kept cX6_kept 2 (some .int) :: ([.fieldLink RX6 22 "WrongedMeters" "history" "LWrongedMeters$History;", .methodLink RX6 179 yX0_keep, .instanceMethod yX0_keep, .selects RX0 yX0_keep yX0_keep, .initialized RX0, .code yX0_keep cX0_keep 1 none, .fieldLink RX0 18 "WrongedMeters$History" "freeSlot" "I", .fieldLink RX0 26 "WrongedMeters$History" "size" "I"] ++ wsX60 ++ wsX00)
def wsX6_carryOut_r1 : List Cond := [Cond.fieldLink RX6 22 "WrongedMeters" "history" "LWrongedMeters$History;", Cond.fieldLink RX6 10 "WrongedMeters" "town" "LWrongedMeters$Town;", Cond.methodLink RX6 37 yX0_record, Cond.instanceMethod yX0_record, Cond.selects RX0 yX0_record yX0_record, Cond.initialized RX0, Cond.code yX0_record cX0_record 2 none, Cond.fieldLink RX0 18 "WrongedMeters$History" "freeSlot" "I", Cond.fieldLink RX0 13 "WrongedMeters$History" "states" "[LWrongedMeters$Town;", Cond.methodLink RX0 22 yX5_copyFrom, Cond.instanceMethod yX5_copyFrom, Cond.selects RX5 yX5_copyFrom yX5_copyFrom, Cond.initialized RX5, Cond.code yX5_copyFrom cX5_copyFrom 3 none, Cond.fieldLink RX5 11 "WrongedMeters$Town" "houses" "[LWrongedMeters$House;", Cond.fieldLink RX5 19 "WrongedMeters$Town" "streets" "[LWrongedMeters$Street;", Cond.fieldLink RX5 26 "WrongedMeters$Town" "ledger" "LWrongedMeters$Ledger;", Cond.fieldLink RX5 30 "WrongedMeters$Town" "settings" "[I", Cond.methodLink RX5 49 arraycopyName, Cond.native arraycopyName, Cond.static arraycopyName, Cond.initialized "java/lang/System", Cond.fieldLink RX5 55 "WrongedMeters$Town" "houseCount" "I", Cond.fieldLink RX5 59 "WrongedMeters$Town" "now" "I"]
def wsX6_carryOut_r2 : List Cond := [Cond.fieldLink RX5 62 "WrongedMeters$Town" "readings" "I", Cond.fieldLink RX5 65 "WrongedMeters$Town" "units" "I", Cond.fieldLink RX5 68 "WrongedMeters$Town" "coins" "I", Cond.fieldLink RX5 71 "WrongedMeters$Town" "hundredths" "I", Cond.fieldLink RX5 74 "WrongedMeters$Town" "refunds" "I", Cond.fieldLink RX5 77 "WrongedMeters$Town" "coinsBack" "I", Cond.fieldLink RX5 80 "WrongedMeters$Town" "years" "I", Cond.methodLink RX5 39 yX1_copyFrom, Cond.instanceMethod yX1_copyFrom, Cond.selects RX1 yX1_copyFrom yX1_copyFrom, Cond.initialized RX1, Cond.code yX1_copyFrom cX1_copyFrom 2 none, Cond.fieldLink RX1 15 "WrongedMeters$House" "street" "I", Cond.fieldLink RX1 18 "WrongedMeters$House" "place" "I", Cond.fieldLink RX1 21 "WrongedMeters$House" "dial" "I", Cond.fieldLink RX1 24 "WrongedMeters$House" "dialBefore" "I", Cond.fieldLink RX1 27 "WrongedMeters$House" "flow" "I", Cond.fieldLink RX1 30 "WrongedMeters$House" "isLocked" "Z", Cond.fieldLink RX1 34 "WrongedMeters$House" "balance" "I", Cond.fieldLink RX1 9 "WrongedMeters$House" "latestDay" "I", Cond.fieldLink RX1 37 "WrongedMeters$House" "readings" "I", Cond.fieldLink RX1 40 "WrongedMeters$House" "units" "I", Cond.fieldLink RX1 43 "WrongedMeters$House" "timesHouseWronged" "I", Cond.fieldLink RX1 46 "WrongedMeters$House" "timesCompanyWronged" "I"]
def wsX6_carryOut_r3 : List Cond := [Cond.fieldLink RX1 49 "WrongedMeters$House" "refunds" "I", Cond.fieldLink RX1 52 "WrongedMeters$House" "metersChanged" "I", Cond.methodLink RX5 43 yX4_copyFrom, Cond.instanceMethod yX4_copyFrom, Cond.selects RX4 yX4_copyFrom yX4_copyFrom, Cond.initialized RX4, Cond.code yX4_copyFrom cX4_copyFrom 2 none, Cond.fieldLink RX4 9 "WrongedMeters$Street" "houses" "[I", Cond.methodLink RX4 19 arraycopyName, Cond.fieldLink RX4 15 "WrongedMeters$Street" "latestStep" "I", Cond.methodLink RX5 46 yX2_copyFrom, Cond.instanceMethod yX2_copyFrom, Cond.selects RX2 yX2_copyFrom yX2_copyFrom, Cond.initialized RX2, Cond.code yX2_copyFrom cX2_copyFrom 2 none, Cond.fieldLink RX2 11 "WrongedMeters$Ledger" "facts" "[I", Cond.methodLink RX2 15 arraycopyName, Cond.fieldLink RX2 21 "WrongedMeters$Ledger" "nextRow" "I", Cond.fieldLink RX2 25 "WrongedMeters$Ledger" "size" "I", Cond.methodLink RX6 176 yX5_obey, Cond.instanceMethod yX5_obey, Cond.selects RX5 yX5_obey yX5_obey, Cond.code yX5_obey cX5_obey 4 (some .int), Cond.constant RX5 100 (-1000001)]
def wsX6_carryOut_r4 : List Cond := [Cond.constant RX5 101 (-1000003), Cond.methodLink RX5 83 yX5_addHouse, Cond.instanceMethod yX5_addHouse, Cond.selects RX5 yX5_addHouse yX5_addHouse, Cond.code yX5_addHouse cX5_addHouse 5 (some .int), Cond.constant RX5 119 (-1000002), Cond.methodLink RX5 105 yX5_streetNumbered, Cond.instanceMethod yX5_streetNumbered, Cond.selects RX5 yX5_streetNumbered yX5_streetNumbered, Cond.code yX5_streetNumbered cX5_streetNumbered 2 (some (.object "WrongedMeters$Street")), Cond.static yX6_isPlace, Cond.initialized RX6, Cond.code yX6_isPlace cX6_isPlace 1 (some .boolean), Cond.static yX6_stepOf, Cond.code yX6_stepOf cX6_stepOf 1 (some .int), Cond.methodLink RX5 116 yX4_houseOn, Cond.instanceMethod yX4_houseOn, Cond.selects RX4 yX4_houseOn yX4_houseOn, Cond.code yX4_houseOn cX4_houseOn 2 (some .int), Cond.methodLink RX5 126 yX4_putHouse, Cond.instanceMethod yX4_putHouse, Cond.selects RX4 yX4_putHouse yX4_putHouse, Cond.code yX4_putHouse cX4_putHouse 3 none, Cond.methodLink RX5 87 yX5_putFlow]
def wsX6_carryOut_r5 : List Cond := [Cond.instanceMethod yX5_putFlow, Cond.selects RX5 yX5_putFlow yX5_putFlow, Cond.code yX5_putFlow cX5_putFlow 5 (some .int), Cond.methodLink RX5 130 yX5_houseNumbered, Cond.instanceMethod yX5_houseNumbered, Cond.selects RX5 yX5_houseNumbered yX5_houseNumbered, Cond.code yX5_houseNumbered cX5_houseNumbered 2 (some (.object "WrongedMeters$House")), Cond.methodLink RX5 90 yX5_turnLock, Cond.instanceMethod yX5_turnLock, Cond.selects RX5 yX5_turnLock yX5_turnLock, Cond.code yX5_turnLock cX5_turnLock 3 (some .int), Cond.methodLink RX5 141 yX5_putLock, Cond.instanceMethod yX5_putLock, Cond.selects RX5 yX5_putLock yX5_putLock, Cond.code yX5_putLock cX5_putLock 5 (some .int), Cond.methodLink RX5 94 yX5_readIfOpen, Cond.instanceMethod yX5_readIfOpen, Cond.selects RX5 yX5_readIfOpen yX5_readIfOpen, Cond.code yX5_readIfOpen cX5_readIfOpen 3 (some .int), Cond.methodLink RX5 151 yX1_reasonOn, Cond.instanceMethod yX1_reasonOn, Cond.selects RX1 yX1_reasonOn yX1_reasonOn, Cond.code yX1_reasonOn cX1_reasonOn 2 (some .int), Cond.methodLink RX5 154 yX5_readMeter]
def wsX6_carryOut_r6 : List Cond := [Cond.instanceMethod yX5_readMeter, Cond.selects RX5 yX5_readMeter yX5_readMeter, Cond.code yX5_readMeter cX5_readMeter 5 (some .int), Cond.methodLink RX5 161 yX1_used, Cond.instanceMethod yX1_used, Cond.selects RX1 yX1_used yX1_used, Cond.code yX1_used cX1_used 1 (some .int), Cond.constant RX1 55 (100000), Cond.static yX6_unitsFor, Cond.code yX6_unitsFor cX6_unitsFor 2 (some .int), Cond.methodLink RX5 171 yX1_settle, Cond.instanceMethod yX1_settle, Cond.selects RX1 yX1_settle yX1_settle, Cond.code yX1_settle cX1_settle 4 none, Cond.methodLink RX5 175 yX2_add, Cond.instanceMethod yX2_add, Cond.selects RX2 yX2_add yX2_add, Cond.code yX2_add cX2_add 7 none, Cond.methodLink RX5 97 yX5_changeMeter, Cond.instanceMethod yX5_changeMeter, Cond.selects RX5 yX5_changeMeter yX5_changeMeter, Cond.code yX5_changeMeter cX5_changeMeter 4 (some .int), Cond.methodLink RX5 158 yX1_renewMeter, Cond.instanceMethod yX1_renewMeter]
def wsX6_carryOut_r7 : List Cond := [Cond.selects RX1 yX1_renewMeter yX1_renewMeter, Cond.code yX1_renewMeter cX1_renewMeter 1 none, Cond.methodLink RX5 102 yX5_passDays, Cond.instanceMethod yX5_passDays, Cond.selects RX5 yX5_passDays yX5_passDays, Cond.code yX5_passDays cX5_passDays 8 (some .int), Cond.methodLink RX5 179 yX1_goOn, Cond.instanceMethod yX1_goOn, Cond.selects RX1 yX1_goOn yX1_goOn, Cond.code yX1_goOn cX1_goOn 1 none, Cond.methodLink RX5 182 yX5_walk, Cond.instanceMethod yX5_walk, Cond.selects RX5 yX5_walk yX5_walk, Cond.code yX5_walk cX5_walk 8 none, Cond.methodLink RX5 188 yX4_stepAhead, Cond.instanceMethod yX4_stepAhead, Cond.selects RX4 yX4_stepAhead yX4_stepAhead, Cond.code yX4_stepAhead cX4_stepAhead 2 (some .int), Cond.methodLink RX5 185 yX5_endYear, Cond.instanceMethod yX5_endYear, Cond.selects RX5 yX5_endYear yX5_endYear, Cond.code yX5_endYear cX5_endYear 5 none, Cond.methodLink RX6 45 yX6_kept, Cond.instanceMethod yX6_kept]
def wsX6_carryOut_r8 : List Cond := [Cond.selects RX6 yX6_kept yX6_kept, Cond.code yX6_kept cX6_kept 2 (some .int), Cond.methodLink RX6 179 yX0_keep, Cond.instanceMethod yX0_keep, Cond.selects RX0 yX0_keep yX0_keep, Cond.code yX0_keep cX0_keep 1 none, Cond.fieldLink RX0 26 "WrongedMeters$History" "size" "I"]
def wsX6_carryOut : List Cond := .code yX6_carryOut cX6_carryOut 4 (some .int) :: ((wsX6_carryOut_r1 ++ (wsX6_carryOut_r2 ++ (wsX6_carryOut_r3 ++ (wsX6_carryOut_r4 ++ (wsX6_carryOut_r5 ++ (wsX6_carryOut_r6 ++ (wsX6_carryOut_r7 ++ wsX6_carryOut_r8))))))) ++ wsX60 ++ wsX00 ++ wsX50 ++ wsX10 ++ wsX40 ++ wsX20)
def wsX6_house_r1 : List Cond := [Cond.methodLink RX6 33 yX6_carryOut, Cond.instanceMethod yX6_carryOut, Cond.selects RX6 yX6_carryOut yX6_carryOut, Cond.initialized RX6, Cond.code yX6_carryOut cX6_carryOut 4 (some .int), Cond.fieldLink RX6 22 "WrongedMeters" "history" "LWrongedMeters$History;", Cond.fieldLink RX6 10 "WrongedMeters" "town" "LWrongedMeters$Town;", Cond.methodLink RX6 37 yX0_record, Cond.instanceMethod yX0_record, Cond.selects RX0 yX0_record yX0_record, Cond.initialized RX0, Cond.code yX0_record cX0_record 2 none, Cond.fieldLink RX0 18 "WrongedMeters$History" "freeSlot" "I", Cond.fieldLink RX0 13 "WrongedMeters$History" "states" "[LWrongedMeters$Town;", Cond.methodLink RX0 22 yX5_copyFrom, Cond.instanceMethod yX5_copyFrom, Cond.selects RX5 yX5_copyFrom yX5_copyFrom, Cond.initialized RX5, Cond.code yX5_copyFrom cX5_copyFrom 3 none, Cond.fieldLink RX5 11 "WrongedMeters$Town" "houses" "[LWrongedMeters$House;", Cond.fieldLink RX5 19 "WrongedMeters$Town" "streets" "[LWrongedMeters$Street;", Cond.fieldLink RX5 26 "WrongedMeters$Town" "ledger" "LWrongedMeters$Ledger;", Cond.fieldLink RX5 30 "WrongedMeters$Town" "settings" "[I", Cond.methodLink RX5 49 arraycopyName]
def wsX6_house_r2 : List Cond := [Cond.native arraycopyName, Cond.static arraycopyName, Cond.initialized "java/lang/System", Cond.fieldLink RX5 55 "WrongedMeters$Town" "houseCount" "I", Cond.fieldLink RX5 59 "WrongedMeters$Town" "now" "I", Cond.fieldLink RX5 62 "WrongedMeters$Town" "readings" "I", Cond.fieldLink RX5 65 "WrongedMeters$Town" "units" "I", Cond.fieldLink RX5 68 "WrongedMeters$Town" "coins" "I", Cond.fieldLink RX5 71 "WrongedMeters$Town" "hundredths" "I", Cond.fieldLink RX5 74 "WrongedMeters$Town" "refunds" "I", Cond.fieldLink RX5 77 "WrongedMeters$Town" "coinsBack" "I", Cond.fieldLink RX5 80 "WrongedMeters$Town" "years" "I", Cond.methodLink RX5 39 yX1_copyFrom, Cond.instanceMethod yX1_copyFrom, Cond.selects RX1 yX1_copyFrom yX1_copyFrom, Cond.initialized RX1, Cond.code yX1_copyFrom cX1_copyFrom 2 none, Cond.fieldLink RX1 15 "WrongedMeters$House" "street" "I", Cond.fieldLink RX1 18 "WrongedMeters$House" "place" "I", Cond.fieldLink RX1 21 "WrongedMeters$House" "dial" "I", Cond.fieldLink RX1 24 "WrongedMeters$House" "dialBefore" "I", Cond.fieldLink RX1 27 "WrongedMeters$House" "flow" "I", Cond.fieldLink RX1 30 "WrongedMeters$House" "isLocked" "Z", Cond.fieldLink RX1 34 "WrongedMeters$House" "balance" "I"]
def wsX6_house_r3 : List Cond := [Cond.fieldLink RX1 9 "WrongedMeters$House" "latestDay" "I", Cond.fieldLink RX1 37 "WrongedMeters$House" "readings" "I", Cond.fieldLink RX1 40 "WrongedMeters$House" "units" "I", Cond.fieldLink RX1 43 "WrongedMeters$House" "timesHouseWronged" "I", Cond.fieldLink RX1 46 "WrongedMeters$House" "timesCompanyWronged" "I", Cond.fieldLink RX1 49 "WrongedMeters$House" "refunds" "I", Cond.fieldLink RX1 52 "WrongedMeters$House" "metersChanged" "I", Cond.methodLink RX5 43 yX4_copyFrom, Cond.instanceMethod yX4_copyFrom, Cond.selects RX4 yX4_copyFrom yX4_copyFrom, Cond.initialized RX4, Cond.code yX4_copyFrom cX4_copyFrom 2 none, Cond.fieldLink RX4 9 "WrongedMeters$Street" "houses" "[I", Cond.methodLink RX4 19 arraycopyName, Cond.fieldLink RX4 15 "WrongedMeters$Street" "latestStep" "I", Cond.methodLink RX5 46 yX2_copyFrom, Cond.instanceMethod yX2_copyFrom, Cond.selects RX2 yX2_copyFrom yX2_copyFrom, Cond.initialized RX2, Cond.code yX2_copyFrom cX2_copyFrom 2 none, Cond.fieldLink RX2 11 "WrongedMeters$Ledger" "facts" "[I", Cond.methodLink RX2 15 arraycopyName, Cond.fieldLink RX2 21 "WrongedMeters$Ledger" "nextRow" "I", Cond.fieldLink RX2 25 "WrongedMeters$Ledger" "size" "I"]
def wsX6_house_r4 : List Cond := [Cond.methodLink RX6 176 yX5_obey, Cond.instanceMethod yX5_obey, Cond.selects RX5 yX5_obey yX5_obey, Cond.code yX5_obey cX5_obey 4 (some .int), Cond.constant RX5 100 (-1000001), Cond.constant RX5 101 (-1000003), Cond.methodLink RX5 83 yX5_addHouse, Cond.instanceMethod yX5_addHouse, Cond.selects RX5 yX5_addHouse yX5_addHouse, Cond.code yX5_addHouse cX5_addHouse 5 (some .int), Cond.constant RX5 119 (-1000002), Cond.methodLink RX5 105 yX5_streetNumbered, Cond.instanceMethod yX5_streetNumbered, Cond.selects RX5 yX5_streetNumbered yX5_streetNumbered, Cond.code yX5_streetNumbered cX5_streetNumbered 2 (some (.object "WrongedMeters$Street")), Cond.static yX6_isPlace, Cond.code yX6_isPlace cX6_isPlace 1 (some .boolean), Cond.static yX6_stepOf, Cond.code yX6_stepOf cX6_stepOf 1 (some .int), Cond.methodLink RX5 116 yX4_houseOn, Cond.instanceMethod yX4_houseOn, Cond.selects RX4 yX4_houseOn yX4_houseOn, Cond.code yX4_houseOn cX4_houseOn 2 (some .int), Cond.methodLink RX5 126 yX4_putHouse]
def wsX6_house_r5 : List Cond := [Cond.instanceMethod yX4_putHouse, Cond.selects RX4 yX4_putHouse yX4_putHouse, Cond.code yX4_putHouse cX4_putHouse 3 none, Cond.methodLink RX5 87 yX5_putFlow, Cond.instanceMethod yX5_putFlow, Cond.selects RX5 yX5_putFlow yX5_putFlow, Cond.code yX5_putFlow cX5_putFlow 5 (some .int), Cond.methodLink RX5 130 yX5_houseNumbered, Cond.instanceMethod yX5_houseNumbered, Cond.selects RX5 yX5_houseNumbered yX5_houseNumbered, Cond.code yX5_houseNumbered cX5_houseNumbered 2 (some (.object "WrongedMeters$House")), Cond.methodLink RX5 90 yX5_turnLock, Cond.instanceMethod yX5_turnLock, Cond.selects RX5 yX5_turnLock yX5_turnLock, Cond.code yX5_turnLock cX5_turnLock 3 (some .int), Cond.methodLink RX5 141 yX5_putLock, Cond.instanceMethod yX5_putLock, Cond.selects RX5 yX5_putLock yX5_putLock, Cond.code yX5_putLock cX5_putLock 5 (some .int), Cond.methodLink RX5 94 yX5_readIfOpen, Cond.instanceMethod yX5_readIfOpen, Cond.selects RX5 yX5_readIfOpen yX5_readIfOpen, Cond.code yX5_readIfOpen cX5_readIfOpen 3 (some .int), Cond.methodLink RX5 151 yX1_reasonOn]
def wsX6_house_r6 : List Cond := [Cond.instanceMethod yX1_reasonOn, Cond.selects RX1 yX1_reasonOn yX1_reasonOn, Cond.code yX1_reasonOn cX1_reasonOn 2 (some .int), Cond.methodLink RX5 154 yX5_readMeter, Cond.instanceMethod yX5_readMeter, Cond.selects RX5 yX5_readMeter yX5_readMeter, Cond.code yX5_readMeter cX5_readMeter 5 (some .int), Cond.methodLink RX5 161 yX1_used, Cond.instanceMethod yX1_used, Cond.selects RX1 yX1_used yX1_used, Cond.code yX1_used cX1_used 1 (some .int), Cond.constant RX1 55 (100000), Cond.static yX6_unitsFor, Cond.code yX6_unitsFor cX6_unitsFor 2 (some .int), Cond.methodLink RX5 171 yX1_settle, Cond.instanceMethod yX1_settle, Cond.selects RX1 yX1_settle yX1_settle, Cond.code yX1_settle cX1_settle 4 none, Cond.methodLink RX5 175 yX2_add, Cond.instanceMethod yX2_add, Cond.selects RX2 yX2_add yX2_add, Cond.code yX2_add cX2_add 7 none, Cond.methodLink RX5 97 yX5_changeMeter, Cond.instanceMethod yX5_changeMeter]
def wsX6_house_r7 : List Cond := [Cond.selects RX5 yX5_changeMeter yX5_changeMeter, Cond.code yX5_changeMeter cX5_changeMeter 4 (some .int), Cond.methodLink RX5 158 yX1_renewMeter, Cond.instanceMethod yX1_renewMeter, Cond.selects RX1 yX1_renewMeter yX1_renewMeter, Cond.code yX1_renewMeter cX1_renewMeter 1 none, Cond.methodLink RX5 102 yX5_passDays, Cond.instanceMethod yX5_passDays, Cond.selects RX5 yX5_passDays yX5_passDays, Cond.code yX5_passDays cX5_passDays 8 (some .int), Cond.methodLink RX5 179 yX1_goOn, Cond.instanceMethod yX1_goOn, Cond.selects RX1 yX1_goOn yX1_goOn, Cond.code yX1_goOn cX1_goOn 1 none, Cond.methodLink RX5 182 yX5_walk, Cond.instanceMethod yX5_walk, Cond.selects RX5 yX5_walk yX5_walk, Cond.code yX5_walk cX5_walk 8 none, Cond.methodLink RX5 188 yX4_stepAhead, Cond.instanceMethod yX4_stepAhead, Cond.selects RX4 yX4_stepAhead yX4_stepAhead, Cond.code yX4_stepAhead cX4_stepAhead 2 (some .int), Cond.methodLink RX5 185 yX5_endYear, Cond.instanceMethod yX5_endYear]
def wsX6_house_r8 : List Cond := [Cond.selects RX5 yX5_endYear yX5_endYear, Cond.code yX5_endYear cX5_endYear 5 none, Cond.methodLink RX6 45 yX6_kept, Cond.instanceMethod yX6_kept, Cond.selects RX6 yX6_kept yX6_kept, Cond.code yX6_kept cX6_kept 2 (some .int), Cond.methodLink RX6 179 yX0_keep, Cond.instanceMethod yX0_keep, Cond.selects RX0 yX0_keep yX0_keep, Cond.code yX0_keep cX0_keep 1 none, Cond.fieldLink RX0 26 "WrongedMeters$History" "size" "I"]
def wsX6_house : List Cond := .code yX6_house cX6_house 3 (some .int) :: ((wsX6_house_r1 ++ (wsX6_house_r2 ++ (wsX6_house_r3 ++ (wsX6_house_r4 ++ (wsX6_house_r5 ++ (wsX6_house_r6 ++ (wsX6_house_r7 ++ wsX6_house_r8))))))) ++ wsX60 ++ wsX00 ++ wsX50 ++ wsX10 ++ wsX40 ++ wsX20)
def wsX6_flow_r1 : List Cond := [Cond.methodLink RX6 33 yX6_carryOut, Cond.instanceMethod yX6_carryOut, Cond.selects RX6 yX6_carryOut yX6_carryOut, Cond.initialized RX6, Cond.code yX6_carryOut cX6_carryOut 4 (some .int), Cond.fieldLink RX6 22 "WrongedMeters" "history" "LWrongedMeters$History;", Cond.fieldLink RX6 10 "WrongedMeters" "town" "LWrongedMeters$Town;", Cond.methodLink RX6 37 yX0_record, Cond.instanceMethod yX0_record, Cond.selects RX0 yX0_record yX0_record, Cond.initialized RX0, Cond.code yX0_record cX0_record 2 none, Cond.fieldLink RX0 18 "WrongedMeters$History" "freeSlot" "I", Cond.fieldLink RX0 13 "WrongedMeters$History" "states" "[LWrongedMeters$Town;", Cond.methodLink RX0 22 yX5_copyFrom, Cond.instanceMethod yX5_copyFrom, Cond.selects RX5 yX5_copyFrom yX5_copyFrom, Cond.initialized RX5, Cond.code yX5_copyFrom cX5_copyFrom 3 none, Cond.fieldLink RX5 11 "WrongedMeters$Town" "houses" "[LWrongedMeters$House;", Cond.fieldLink RX5 19 "WrongedMeters$Town" "streets" "[LWrongedMeters$Street;", Cond.fieldLink RX5 26 "WrongedMeters$Town" "ledger" "LWrongedMeters$Ledger;", Cond.fieldLink RX5 30 "WrongedMeters$Town" "settings" "[I", Cond.methodLink RX5 49 arraycopyName]
def wsX6_flow_r2 : List Cond := [Cond.native arraycopyName, Cond.static arraycopyName, Cond.initialized "java/lang/System", Cond.fieldLink RX5 55 "WrongedMeters$Town" "houseCount" "I", Cond.fieldLink RX5 59 "WrongedMeters$Town" "now" "I", Cond.fieldLink RX5 62 "WrongedMeters$Town" "readings" "I", Cond.fieldLink RX5 65 "WrongedMeters$Town" "units" "I", Cond.fieldLink RX5 68 "WrongedMeters$Town" "coins" "I", Cond.fieldLink RX5 71 "WrongedMeters$Town" "hundredths" "I", Cond.fieldLink RX5 74 "WrongedMeters$Town" "refunds" "I", Cond.fieldLink RX5 77 "WrongedMeters$Town" "coinsBack" "I", Cond.fieldLink RX5 80 "WrongedMeters$Town" "years" "I", Cond.methodLink RX5 39 yX1_copyFrom, Cond.instanceMethod yX1_copyFrom, Cond.selects RX1 yX1_copyFrom yX1_copyFrom, Cond.initialized RX1, Cond.code yX1_copyFrom cX1_copyFrom 2 none, Cond.fieldLink RX1 15 "WrongedMeters$House" "street" "I", Cond.fieldLink RX1 18 "WrongedMeters$House" "place" "I", Cond.fieldLink RX1 21 "WrongedMeters$House" "dial" "I", Cond.fieldLink RX1 24 "WrongedMeters$House" "dialBefore" "I", Cond.fieldLink RX1 27 "WrongedMeters$House" "flow" "I", Cond.fieldLink RX1 30 "WrongedMeters$House" "isLocked" "Z", Cond.fieldLink RX1 34 "WrongedMeters$House" "balance" "I"]
def wsX6_flow_r3 : List Cond := [Cond.fieldLink RX1 9 "WrongedMeters$House" "latestDay" "I", Cond.fieldLink RX1 37 "WrongedMeters$House" "readings" "I", Cond.fieldLink RX1 40 "WrongedMeters$House" "units" "I", Cond.fieldLink RX1 43 "WrongedMeters$House" "timesHouseWronged" "I", Cond.fieldLink RX1 46 "WrongedMeters$House" "timesCompanyWronged" "I", Cond.fieldLink RX1 49 "WrongedMeters$House" "refunds" "I", Cond.fieldLink RX1 52 "WrongedMeters$House" "metersChanged" "I", Cond.methodLink RX5 43 yX4_copyFrom, Cond.instanceMethod yX4_copyFrom, Cond.selects RX4 yX4_copyFrom yX4_copyFrom, Cond.initialized RX4, Cond.code yX4_copyFrom cX4_copyFrom 2 none, Cond.fieldLink RX4 9 "WrongedMeters$Street" "houses" "[I", Cond.methodLink RX4 19 arraycopyName, Cond.fieldLink RX4 15 "WrongedMeters$Street" "latestStep" "I", Cond.methodLink RX5 46 yX2_copyFrom, Cond.instanceMethod yX2_copyFrom, Cond.selects RX2 yX2_copyFrom yX2_copyFrom, Cond.initialized RX2, Cond.code yX2_copyFrom cX2_copyFrom 2 none, Cond.fieldLink RX2 11 "WrongedMeters$Ledger" "facts" "[I", Cond.methodLink RX2 15 arraycopyName, Cond.fieldLink RX2 21 "WrongedMeters$Ledger" "nextRow" "I", Cond.fieldLink RX2 25 "WrongedMeters$Ledger" "size" "I"]
def wsX6_flow_r4 : List Cond := [Cond.methodLink RX6 176 yX5_obey, Cond.instanceMethod yX5_obey, Cond.selects RX5 yX5_obey yX5_obey, Cond.code yX5_obey cX5_obey 4 (some .int), Cond.constant RX5 100 (-1000001), Cond.constant RX5 101 (-1000003), Cond.methodLink RX5 83 yX5_addHouse, Cond.instanceMethod yX5_addHouse, Cond.selects RX5 yX5_addHouse yX5_addHouse, Cond.code yX5_addHouse cX5_addHouse 5 (some .int), Cond.constant RX5 119 (-1000002), Cond.methodLink RX5 105 yX5_streetNumbered, Cond.instanceMethod yX5_streetNumbered, Cond.selects RX5 yX5_streetNumbered yX5_streetNumbered, Cond.code yX5_streetNumbered cX5_streetNumbered 2 (some (.object "WrongedMeters$Street")), Cond.static yX6_isPlace, Cond.code yX6_isPlace cX6_isPlace 1 (some .boolean), Cond.static yX6_stepOf, Cond.code yX6_stepOf cX6_stepOf 1 (some .int), Cond.methodLink RX5 116 yX4_houseOn, Cond.instanceMethod yX4_houseOn, Cond.selects RX4 yX4_houseOn yX4_houseOn, Cond.code yX4_houseOn cX4_houseOn 2 (some .int), Cond.methodLink RX5 126 yX4_putHouse]
def wsX6_flow_r5 : List Cond := [Cond.instanceMethod yX4_putHouse, Cond.selects RX4 yX4_putHouse yX4_putHouse, Cond.code yX4_putHouse cX4_putHouse 3 none, Cond.methodLink RX5 87 yX5_putFlow, Cond.instanceMethod yX5_putFlow, Cond.selects RX5 yX5_putFlow yX5_putFlow, Cond.code yX5_putFlow cX5_putFlow 5 (some .int), Cond.methodLink RX5 130 yX5_houseNumbered, Cond.instanceMethod yX5_houseNumbered, Cond.selects RX5 yX5_houseNumbered yX5_houseNumbered, Cond.code yX5_houseNumbered cX5_houseNumbered 2 (some (.object "WrongedMeters$House")), Cond.methodLink RX5 90 yX5_turnLock, Cond.instanceMethod yX5_turnLock, Cond.selects RX5 yX5_turnLock yX5_turnLock, Cond.code yX5_turnLock cX5_turnLock 3 (some .int), Cond.methodLink RX5 141 yX5_putLock, Cond.instanceMethod yX5_putLock, Cond.selects RX5 yX5_putLock yX5_putLock, Cond.code yX5_putLock cX5_putLock 5 (some .int), Cond.methodLink RX5 94 yX5_readIfOpen, Cond.instanceMethod yX5_readIfOpen, Cond.selects RX5 yX5_readIfOpen yX5_readIfOpen, Cond.code yX5_readIfOpen cX5_readIfOpen 3 (some .int), Cond.methodLink RX5 151 yX1_reasonOn]
def wsX6_flow_r6 : List Cond := [Cond.instanceMethod yX1_reasonOn, Cond.selects RX1 yX1_reasonOn yX1_reasonOn, Cond.code yX1_reasonOn cX1_reasonOn 2 (some .int), Cond.methodLink RX5 154 yX5_readMeter, Cond.instanceMethod yX5_readMeter, Cond.selects RX5 yX5_readMeter yX5_readMeter, Cond.code yX5_readMeter cX5_readMeter 5 (some .int), Cond.methodLink RX5 161 yX1_used, Cond.instanceMethod yX1_used, Cond.selects RX1 yX1_used yX1_used, Cond.code yX1_used cX1_used 1 (some .int), Cond.constant RX1 55 (100000), Cond.static yX6_unitsFor, Cond.code yX6_unitsFor cX6_unitsFor 2 (some .int), Cond.methodLink RX5 171 yX1_settle, Cond.instanceMethod yX1_settle, Cond.selects RX1 yX1_settle yX1_settle, Cond.code yX1_settle cX1_settle 4 none, Cond.methodLink RX5 175 yX2_add, Cond.instanceMethod yX2_add, Cond.selects RX2 yX2_add yX2_add, Cond.code yX2_add cX2_add 7 none, Cond.methodLink RX5 97 yX5_changeMeter, Cond.instanceMethod yX5_changeMeter]
def wsX6_flow_r7 : List Cond := [Cond.selects RX5 yX5_changeMeter yX5_changeMeter, Cond.code yX5_changeMeter cX5_changeMeter 4 (some .int), Cond.methodLink RX5 158 yX1_renewMeter, Cond.instanceMethod yX1_renewMeter, Cond.selects RX1 yX1_renewMeter yX1_renewMeter, Cond.code yX1_renewMeter cX1_renewMeter 1 none, Cond.methodLink RX5 102 yX5_passDays, Cond.instanceMethod yX5_passDays, Cond.selects RX5 yX5_passDays yX5_passDays, Cond.code yX5_passDays cX5_passDays 8 (some .int), Cond.methodLink RX5 179 yX1_goOn, Cond.instanceMethod yX1_goOn, Cond.selects RX1 yX1_goOn yX1_goOn, Cond.code yX1_goOn cX1_goOn 1 none, Cond.methodLink RX5 182 yX5_walk, Cond.instanceMethod yX5_walk, Cond.selects RX5 yX5_walk yX5_walk, Cond.code yX5_walk cX5_walk 8 none, Cond.methodLink RX5 188 yX4_stepAhead, Cond.instanceMethod yX4_stepAhead, Cond.selects RX4 yX4_stepAhead yX4_stepAhead, Cond.code yX4_stepAhead cX4_stepAhead 2 (some .int), Cond.methodLink RX5 185 yX5_endYear, Cond.instanceMethod yX5_endYear]
def wsX6_flow_r8 : List Cond := [Cond.selects RX5 yX5_endYear yX5_endYear, Cond.code yX5_endYear cX5_endYear 5 none, Cond.methodLink RX6 45 yX6_kept, Cond.instanceMethod yX6_kept, Cond.selects RX6 yX6_kept yX6_kept, Cond.code yX6_kept cX6_kept 2 (some .int), Cond.methodLink RX6 179 yX0_keep, Cond.instanceMethod yX0_keep, Cond.selects RX0 yX0_keep yX0_keep, Cond.code yX0_keep cX0_keep 1 none, Cond.fieldLink RX0 26 "WrongedMeters$History" "size" "I"]
def wsX6_flow : List Cond := .code yX6_flow cX6_flow 3 (some .int) :: ((wsX6_flow_r1 ++ (wsX6_flow_r2 ++ (wsX6_flow_r3 ++ (wsX6_flow_r4 ++ (wsX6_flow_r5 ++ (wsX6_flow_r6 ++ (wsX6_flow_r7 ++ wsX6_flow_r8))))))) ++ wsX60 ++ wsX00 ++ wsX50 ++ wsX10 ++ wsX40 ++ wsX20)
def wsX6_lock_r1 : List Cond := [Cond.fieldLink RX6 22 "WrongedMeters" "history" "LWrongedMeters$History;", Cond.fieldLink RX6 10 "WrongedMeters" "town" "LWrongedMeters$Town;", Cond.methodLink RX6 37 yX0_record, Cond.instanceMethod yX0_record, Cond.selects RX0 yX0_record yX0_record, Cond.initialized RX0, Cond.code yX0_record cX0_record 2 none, Cond.fieldLink RX0 18 "WrongedMeters$History" "freeSlot" "I", Cond.fieldLink RX0 13 "WrongedMeters$History" "states" "[LWrongedMeters$Town;", Cond.methodLink RX0 22 yX5_copyFrom, Cond.instanceMethod yX5_copyFrom, Cond.selects RX5 yX5_copyFrom yX5_copyFrom, Cond.initialized RX5, Cond.code yX5_copyFrom cX5_copyFrom 3 none, Cond.fieldLink RX5 11 "WrongedMeters$Town" "houses" "[LWrongedMeters$House;", Cond.fieldLink RX5 19 "WrongedMeters$Town" "streets" "[LWrongedMeters$Street;", Cond.fieldLink RX5 26 "WrongedMeters$Town" "ledger" "LWrongedMeters$Ledger;", Cond.fieldLink RX5 30 "WrongedMeters$Town" "settings" "[I", Cond.methodLink RX5 49 arraycopyName, Cond.native arraycopyName, Cond.static arraycopyName, Cond.initialized "java/lang/System", Cond.fieldLink RX5 55 "WrongedMeters$Town" "houseCount" "I", Cond.fieldLink RX5 59 "WrongedMeters$Town" "now" "I"]
def wsX6_lock_r2 : List Cond := [Cond.fieldLink RX5 62 "WrongedMeters$Town" "readings" "I", Cond.fieldLink RX5 65 "WrongedMeters$Town" "units" "I", Cond.fieldLink RX5 68 "WrongedMeters$Town" "coins" "I", Cond.fieldLink RX5 71 "WrongedMeters$Town" "hundredths" "I", Cond.fieldLink RX5 74 "WrongedMeters$Town" "refunds" "I", Cond.fieldLink RX5 77 "WrongedMeters$Town" "coinsBack" "I", Cond.fieldLink RX5 80 "WrongedMeters$Town" "years" "I", Cond.methodLink RX5 39 yX1_copyFrom, Cond.instanceMethod yX1_copyFrom, Cond.selects RX1 yX1_copyFrom yX1_copyFrom, Cond.initialized RX1, Cond.code yX1_copyFrom cX1_copyFrom 2 none, Cond.fieldLink RX1 15 "WrongedMeters$House" "street" "I", Cond.fieldLink RX1 18 "WrongedMeters$House" "place" "I", Cond.fieldLink RX1 21 "WrongedMeters$House" "dial" "I", Cond.fieldLink RX1 24 "WrongedMeters$House" "dialBefore" "I", Cond.fieldLink RX1 27 "WrongedMeters$House" "flow" "I", Cond.fieldLink RX1 30 "WrongedMeters$House" "isLocked" "Z", Cond.fieldLink RX1 34 "WrongedMeters$House" "balance" "I", Cond.fieldLink RX1 9 "WrongedMeters$House" "latestDay" "I", Cond.fieldLink RX1 37 "WrongedMeters$House" "readings" "I", Cond.fieldLink RX1 40 "WrongedMeters$House" "units" "I", Cond.fieldLink RX1 43 "WrongedMeters$House" "timesHouseWronged" "I", Cond.fieldLink RX1 46 "WrongedMeters$House" "timesCompanyWronged" "I"]
def wsX6_lock_r3 : List Cond := [Cond.fieldLink RX1 49 "WrongedMeters$House" "refunds" "I", Cond.fieldLink RX1 52 "WrongedMeters$House" "metersChanged" "I", Cond.methodLink RX5 43 yX4_copyFrom, Cond.instanceMethod yX4_copyFrom, Cond.selects RX4 yX4_copyFrom yX4_copyFrom, Cond.initialized RX4, Cond.code yX4_copyFrom cX4_copyFrom 2 none, Cond.fieldLink RX4 9 "WrongedMeters$Street" "houses" "[I", Cond.methodLink RX4 19 arraycopyName, Cond.fieldLink RX4 15 "WrongedMeters$Street" "latestStep" "I", Cond.methodLink RX5 46 yX2_copyFrom, Cond.instanceMethod yX2_copyFrom, Cond.selects RX2 yX2_copyFrom yX2_copyFrom, Cond.initialized RX2, Cond.code yX2_copyFrom cX2_copyFrom 2 none, Cond.fieldLink RX2 11 "WrongedMeters$Ledger" "facts" "[I", Cond.methodLink RX2 15 arraycopyName, Cond.fieldLink RX2 21 "WrongedMeters$Ledger" "nextRow" "I", Cond.fieldLink RX2 25 "WrongedMeters$Ledger" "size" "I", Cond.methodLink RX6 41 yX5_putLock, Cond.instanceMethod yX5_putLock, Cond.selects RX5 yX5_putLock yX5_putLock, Cond.code yX5_putLock cX5_putLock 5 (some .int), Cond.constant RX5 100 (-1000001)]
def wsX6_lock_r4 : List Cond := [Cond.methodLink RX5 130 yX5_houseNumbered, Cond.instanceMethod yX5_houseNumbered, Cond.selects RX5 yX5_houseNumbered yX5_houseNumbered, Cond.code yX5_houseNumbered cX5_houseNumbered 2 (some (.object "WrongedMeters$House")), Cond.methodLink RX6 45 yX6_kept, Cond.instanceMethod yX6_kept, Cond.selects RX6 yX6_kept yX6_kept, Cond.initialized RX6, Cond.code yX6_kept cX6_kept 2 (some .int), Cond.methodLink RX6 179 yX0_keep, Cond.instanceMethod yX0_keep, Cond.selects RX0 yX0_keep yX0_keep, Cond.code yX0_keep cX0_keep 1 none, Cond.fieldLink RX0 26 "WrongedMeters$History" "size" "I"]
def wsX6_lock : List Cond := .code yX6_lock cX6_lock 3 (some .int) :: ((wsX6_lock_r1 ++ (wsX6_lock_r2 ++ (wsX6_lock_r3 ++ wsX6_lock_r4))) ++ wsX60 ++ wsX00 ++ wsX50 ++ wsX10 ++ wsX40 ++ wsX20)
def wsX6_read_r1 : List Cond := [Cond.methodLink RX6 33 yX6_carryOut, Cond.instanceMethod yX6_carryOut, Cond.selects RX6 yX6_carryOut yX6_carryOut, Cond.initialized RX6, Cond.code yX6_carryOut cX6_carryOut 4 (some .int), Cond.fieldLink RX6 22 "WrongedMeters" "history" "LWrongedMeters$History;", Cond.fieldLink RX6 10 "WrongedMeters" "town" "LWrongedMeters$Town;", Cond.methodLink RX6 37 yX0_record, Cond.instanceMethod yX0_record, Cond.selects RX0 yX0_record yX0_record, Cond.initialized RX0, Cond.code yX0_record cX0_record 2 none, Cond.fieldLink RX0 18 "WrongedMeters$History" "freeSlot" "I", Cond.fieldLink RX0 13 "WrongedMeters$History" "states" "[LWrongedMeters$Town;", Cond.methodLink RX0 22 yX5_copyFrom, Cond.instanceMethod yX5_copyFrom, Cond.selects RX5 yX5_copyFrom yX5_copyFrom, Cond.initialized RX5, Cond.code yX5_copyFrom cX5_copyFrom 3 none, Cond.fieldLink RX5 11 "WrongedMeters$Town" "houses" "[LWrongedMeters$House;", Cond.fieldLink RX5 19 "WrongedMeters$Town" "streets" "[LWrongedMeters$Street;", Cond.fieldLink RX5 26 "WrongedMeters$Town" "ledger" "LWrongedMeters$Ledger;", Cond.fieldLink RX5 30 "WrongedMeters$Town" "settings" "[I", Cond.methodLink RX5 49 arraycopyName]
def wsX6_read_r2 : List Cond := [Cond.native arraycopyName, Cond.static arraycopyName, Cond.initialized "java/lang/System", Cond.fieldLink RX5 55 "WrongedMeters$Town" "houseCount" "I", Cond.fieldLink RX5 59 "WrongedMeters$Town" "now" "I", Cond.fieldLink RX5 62 "WrongedMeters$Town" "readings" "I", Cond.fieldLink RX5 65 "WrongedMeters$Town" "units" "I", Cond.fieldLink RX5 68 "WrongedMeters$Town" "coins" "I", Cond.fieldLink RX5 71 "WrongedMeters$Town" "hundredths" "I", Cond.fieldLink RX5 74 "WrongedMeters$Town" "refunds" "I", Cond.fieldLink RX5 77 "WrongedMeters$Town" "coinsBack" "I", Cond.fieldLink RX5 80 "WrongedMeters$Town" "years" "I", Cond.methodLink RX5 39 yX1_copyFrom, Cond.instanceMethod yX1_copyFrom, Cond.selects RX1 yX1_copyFrom yX1_copyFrom, Cond.initialized RX1, Cond.code yX1_copyFrom cX1_copyFrom 2 none, Cond.fieldLink RX1 15 "WrongedMeters$House" "street" "I", Cond.fieldLink RX1 18 "WrongedMeters$House" "place" "I", Cond.fieldLink RX1 21 "WrongedMeters$House" "dial" "I", Cond.fieldLink RX1 24 "WrongedMeters$House" "dialBefore" "I", Cond.fieldLink RX1 27 "WrongedMeters$House" "flow" "I", Cond.fieldLink RX1 30 "WrongedMeters$House" "isLocked" "Z", Cond.fieldLink RX1 34 "WrongedMeters$House" "balance" "I"]
def wsX6_read_r3 : List Cond := [Cond.fieldLink RX1 9 "WrongedMeters$House" "latestDay" "I", Cond.fieldLink RX1 37 "WrongedMeters$House" "readings" "I", Cond.fieldLink RX1 40 "WrongedMeters$House" "units" "I", Cond.fieldLink RX1 43 "WrongedMeters$House" "timesHouseWronged" "I", Cond.fieldLink RX1 46 "WrongedMeters$House" "timesCompanyWronged" "I", Cond.fieldLink RX1 49 "WrongedMeters$House" "refunds" "I", Cond.fieldLink RX1 52 "WrongedMeters$House" "metersChanged" "I", Cond.methodLink RX5 43 yX4_copyFrom, Cond.instanceMethod yX4_copyFrom, Cond.selects RX4 yX4_copyFrom yX4_copyFrom, Cond.initialized RX4, Cond.code yX4_copyFrom cX4_copyFrom 2 none, Cond.fieldLink RX4 9 "WrongedMeters$Street" "houses" "[I", Cond.methodLink RX4 19 arraycopyName, Cond.fieldLink RX4 15 "WrongedMeters$Street" "latestStep" "I", Cond.methodLink RX5 46 yX2_copyFrom, Cond.instanceMethod yX2_copyFrom, Cond.selects RX2 yX2_copyFrom yX2_copyFrom, Cond.initialized RX2, Cond.code yX2_copyFrom cX2_copyFrom 2 none, Cond.fieldLink RX2 11 "WrongedMeters$Ledger" "facts" "[I", Cond.methodLink RX2 15 arraycopyName, Cond.fieldLink RX2 21 "WrongedMeters$Ledger" "nextRow" "I", Cond.fieldLink RX2 25 "WrongedMeters$Ledger" "size" "I"]
def wsX6_read_r4 : List Cond := [Cond.methodLink RX6 176 yX5_obey, Cond.instanceMethod yX5_obey, Cond.selects RX5 yX5_obey yX5_obey, Cond.code yX5_obey cX5_obey 4 (some .int), Cond.constant RX5 100 (-1000001), Cond.constant RX5 101 (-1000003), Cond.methodLink RX5 83 yX5_addHouse, Cond.instanceMethod yX5_addHouse, Cond.selects RX5 yX5_addHouse yX5_addHouse, Cond.code yX5_addHouse cX5_addHouse 5 (some .int), Cond.constant RX5 119 (-1000002), Cond.methodLink RX5 105 yX5_streetNumbered, Cond.instanceMethod yX5_streetNumbered, Cond.selects RX5 yX5_streetNumbered yX5_streetNumbered, Cond.code yX5_streetNumbered cX5_streetNumbered 2 (some (.object "WrongedMeters$Street")), Cond.static yX6_isPlace, Cond.code yX6_isPlace cX6_isPlace 1 (some .boolean), Cond.static yX6_stepOf, Cond.code yX6_stepOf cX6_stepOf 1 (some .int), Cond.methodLink RX5 116 yX4_houseOn, Cond.instanceMethod yX4_houseOn, Cond.selects RX4 yX4_houseOn yX4_houseOn, Cond.code yX4_houseOn cX4_houseOn 2 (some .int), Cond.methodLink RX5 126 yX4_putHouse]
def wsX6_read_r5 : List Cond := [Cond.instanceMethod yX4_putHouse, Cond.selects RX4 yX4_putHouse yX4_putHouse, Cond.code yX4_putHouse cX4_putHouse 3 none, Cond.methodLink RX5 87 yX5_putFlow, Cond.instanceMethod yX5_putFlow, Cond.selects RX5 yX5_putFlow yX5_putFlow, Cond.code yX5_putFlow cX5_putFlow 5 (some .int), Cond.methodLink RX5 130 yX5_houseNumbered, Cond.instanceMethod yX5_houseNumbered, Cond.selects RX5 yX5_houseNumbered yX5_houseNumbered, Cond.code yX5_houseNumbered cX5_houseNumbered 2 (some (.object "WrongedMeters$House")), Cond.methodLink RX5 90 yX5_turnLock, Cond.instanceMethod yX5_turnLock, Cond.selects RX5 yX5_turnLock yX5_turnLock, Cond.code yX5_turnLock cX5_turnLock 3 (some .int), Cond.methodLink RX5 141 yX5_putLock, Cond.instanceMethod yX5_putLock, Cond.selects RX5 yX5_putLock yX5_putLock, Cond.code yX5_putLock cX5_putLock 5 (some .int), Cond.methodLink RX5 94 yX5_readIfOpen, Cond.instanceMethod yX5_readIfOpen, Cond.selects RX5 yX5_readIfOpen yX5_readIfOpen, Cond.code yX5_readIfOpen cX5_readIfOpen 3 (some .int), Cond.methodLink RX5 151 yX1_reasonOn]
def wsX6_read_r6 : List Cond := [Cond.instanceMethod yX1_reasonOn, Cond.selects RX1 yX1_reasonOn yX1_reasonOn, Cond.code yX1_reasonOn cX1_reasonOn 2 (some .int), Cond.methodLink RX5 154 yX5_readMeter, Cond.instanceMethod yX5_readMeter, Cond.selects RX5 yX5_readMeter yX5_readMeter, Cond.code yX5_readMeter cX5_readMeter 5 (some .int), Cond.methodLink RX5 161 yX1_used, Cond.instanceMethod yX1_used, Cond.selects RX1 yX1_used yX1_used, Cond.code yX1_used cX1_used 1 (some .int), Cond.constant RX1 55 (100000), Cond.static yX6_unitsFor, Cond.code yX6_unitsFor cX6_unitsFor 2 (some .int), Cond.methodLink RX5 171 yX1_settle, Cond.instanceMethod yX1_settle, Cond.selects RX1 yX1_settle yX1_settle, Cond.code yX1_settle cX1_settle 4 none, Cond.methodLink RX5 175 yX2_add, Cond.instanceMethod yX2_add, Cond.selects RX2 yX2_add yX2_add, Cond.code yX2_add cX2_add 7 none, Cond.methodLink RX5 97 yX5_changeMeter, Cond.instanceMethod yX5_changeMeter]
def wsX6_read_r7 : List Cond := [Cond.selects RX5 yX5_changeMeter yX5_changeMeter, Cond.code yX5_changeMeter cX5_changeMeter 4 (some .int), Cond.methodLink RX5 158 yX1_renewMeter, Cond.instanceMethod yX1_renewMeter, Cond.selects RX1 yX1_renewMeter yX1_renewMeter, Cond.code yX1_renewMeter cX1_renewMeter 1 none, Cond.methodLink RX5 102 yX5_passDays, Cond.instanceMethod yX5_passDays, Cond.selects RX5 yX5_passDays yX5_passDays, Cond.code yX5_passDays cX5_passDays 8 (some .int), Cond.methodLink RX5 179 yX1_goOn, Cond.instanceMethod yX1_goOn, Cond.selects RX1 yX1_goOn yX1_goOn, Cond.code yX1_goOn cX1_goOn 1 none, Cond.methodLink RX5 182 yX5_walk, Cond.instanceMethod yX5_walk, Cond.selects RX5 yX5_walk yX5_walk, Cond.code yX5_walk cX5_walk 8 none, Cond.methodLink RX5 188 yX4_stepAhead, Cond.instanceMethod yX4_stepAhead, Cond.selects RX4 yX4_stepAhead yX4_stepAhead, Cond.code yX4_stepAhead cX4_stepAhead 2 (some .int), Cond.methodLink RX5 185 yX5_endYear, Cond.instanceMethod yX5_endYear]
def wsX6_read_r8 : List Cond := [Cond.selects RX5 yX5_endYear yX5_endYear, Cond.code yX5_endYear cX5_endYear 5 none, Cond.methodLink RX6 45 yX6_kept, Cond.instanceMethod yX6_kept, Cond.selects RX6 yX6_kept yX6_kept, Cond.code yX6_kept cX6_kept 2 (some .int), Cond.methodLink RX6 179 yX0_keep, Cond.instanceMethod yX0_keep, Cond.selects RX0 yX0_keep yX0_keep, Cond.code yX0_keep cX0_keep 1 none, Cond.fieldLink RX0 26 "WrongedMeters$History" "size" "I"]
def wsX6_read : List Cond := .code yX6_read cX6_read 2 (some .int) :: ((wsX6_read_r1 ++ (wsX6_read_r2 ++ (wsX6_read_r3 ++ (wsX6_read_r4 ++ (wsX6_read_r5 ++ (wsX6_read_r6 ++ (wsX6_read_r7 ++ wsX6_read_r8))))))) ++ wsX60 ++ wsX00 ++ wsX50 ++ wsX10 ++ wsX40 ++ wsX20)
def wsX6_change_r1 : List Cond := [Cond.methodLink RX6 33 yX6_carryOut, Cond.instanceMethod yX6_carryOut, Cond.selects RX6 yX6_carryOut yX6_carryOut, Cond.initialized RX6, Cond.code yX6_carryOut cX6_carryOut 4 (some .int), Cond.fieldLink RX6 22 "WrongedMeters" "history" "LWrongedMeters$History;", Cond.fieldLink RX6 10 "WrongedMeters" "town" "LWrongedMeters$Town;", Cond.methodLink RX6 37 yX0_record, Cond.instanceMethod yX0_record, Cond.selects RX0 yX0_record yX0_record, Cond.initialized RX0, Cond.code yX0_record cX0_record 2 none, Cond.fieldLink RX0 18 "WrongedMeters$History" "freeSlot" "I", Cond.fieldLink RX0 13 "WrongedMeters$History" "states" "[LWrongedMeters$Town;", Cond.methodLink RX0 22 yX5_copyFrom, Cond.instanceMethod yX5_copyFrom, Cond.selects RX5 yX5_copyFrom yX5_copyFrom, Cond.initialized RX5, Cond.code yX5_copyFrom cX5_copyFrom 3 none, Cond.fieldLink RX5 11 "WrongedMeters$Town" "houses" "[LWrongedMeters$House;", Cond.fieldLink RX5 19 "WrongedMeters$Town" "streets" "[LWrongedMeters$Street;", Cond.fieldLink RX5 26 "WrongedMeters$Town" "ledger" "LWrongedMeters$Ledger;", Cond.fieldLink RX5 30 "WrongedMeters$Town" "settings" "[I", Cond.methodLink RX5 49 arraycopyName]
def wsX6_change_r2 : List Cond := [Cond.native arraycopyName, Cond.static arraycopyName, Cond.initialized "java/lang/System", Cond.fieldLink RX5 55 "WrongedMeters$Town" "houseCount" "I", Cond.fieldLink RX5 59 "WrongedMeters$Town" "now" "I", Cond.fieldLink RX5 62 "WrongedMeters$Town" "readings" "I", Cond.fieldLink RX5 65 "WrongedMeters$Town" "units" "I", Cond.fieldLink RX5 68 "WrongedMeters$Town" "coins" "I", Cond.fieldLink RX5 71 "WrongedMeters$Town" "hundredths" "I", Cond.fieldLink RX5 74 "WrongedMeters$Town" "refunds" "I", Cond.fieldLink RX5 77 "WrongedMeters$Town" "coinsBack" "I", Cond.fieldLink RX5 80 "WrongedMeters$Town" "years" "I", Cond.methodLink RX5 39 yX1_copyFrom, Cond.instanceMethod yX1_copyFrom, Cond.selects RX1 yX1_copyFrom yX1_copyFrom, Cond.initialized RX1, Cond.code yX1_copyFrom cX1_copyFrom 2 none, Cond.fieldLink RX1 15 "WrongedMeters$House" "street" "I", Cond.fieldLink RX1 18 "WrongedMeters$House" "place" "I", Cond.fieldLink RX1 21 "WrongedMeters$House" "dial" "I", Cond.fieldLink RX1 24 "WrongedMeters$House" "dialBefore" "I", Cond.fieldLink RX1 27 "WrongedMeters$House" "flow" "I", Cond.fieldLink RX1 30 "WrongedMeters$House" "isLocked" "Z", Cond.fieldLink RX1 34 "WrongedMeters$House" "balance" "I"]
def wsX6_change_r3 : List Cond := [Cond.fieldLink RX1 9 "WrongedMeters$House" "latestDay" "I", Cond.fieldLink RX1 37 "WrongedMeters$House" "readings" "I", Cond.fieldLink RX1 40 "WrongedMeters$House" "units" "I", Cond.fieldLink RX1 43 "WrongedMeters$House" "timesHouseWronged" "I", Cond.fieldLink RX1 46 "WrongedMeters$House" "timesCompanyWronged" "I", Cond.fieldLink RX1 49 "WrongedMeters$House" "refunds" "I", Cond.fieldLink RX1 52 "WrongedMeters$House" "metersChanged" "I", Cond.methodLink RX5 43 yX4_copyFrom, Cond.instanceMethod yX4_copyFrom, Cond.selects RX4 yX4_copyFrom yX4_copyFrom, Cond.initialized RX4, Cond.code yX4_copyFrom cX4_copyFrom 2 none, Cond.fieldLink RX4 9 "WrongedMeters$Street" "houses" "[I", Cond.methodLink RX4 19 arraycopyName, Cond.fieldLink RX4 15 "WrongedMeters$Street" "latestStep" "I", Cond.methodLink RX5 46 yX2_copyFrom, Cond.instanceMethod yX2_copyFrom, Cond.selects RX2 yX2_copyFrom yX2_copyFrom, Cond.initialized RX2, Cond.code yX2_copyFrom cX2_copyFrom 2 none, Cond.fieldLink RX2 11 "WrongedMeters$Ledger" "facts" "[I", Cond.methodLink RX2 15 arraycopyName, Cond.fieldLink RX2 21 "WrongedMeters$Ledger" "nextRow" "I", Cond.fieldLink RX2 25 "WrongedMeters$Ledger" "size" "I"]
def wsX6_change_r4 : List Cond := [Cond.methodLink RX6 176 yX5_obey, Cond.instanceMethod yX5_obey, Cond.selects RX5 yX5_obey yX5_obey, Cond.code yX5_obey cX5_obey 4 (some .int), Cond.constant RX5 100 (-1000001), Cond.constant RX5 101 (-1000003), Cond.methodLink RX5 83 yX5_addHouse, Cond.instanceMethod yX5_addHouse, Cond.selects RX5 yX5_addHouse yX5_addHouse, Cond.code yX5_addHouse cX5_addHouse 5 (some .int), Cond.constant RX5 119 (-1000002), Cond.methodLink RX5 105 yX5_streetNumbered, Cond.instanceMethod yX5_streetNumbered, Cond.selects RX5 yX5_streetNumbered yX5_streetNumbered, Cond.code yX5_streetNumbered cX5_streetNumbered 2 (some (.object "WrongedMeters$Street")), Cond.static yX6_isPlace, Cond.code yX6_isPlace cX6_isPlace 1 (some .boolean), Cond.static yX6_stepOf, Cond.code yX6_stepOf cX6_stepOf 1 (some .int), Cond.methodLink RX5 116 yX4_houseOn, Cond.instanceMethod yX4_houseOn, Cond.selects RX4 yX4_houseOn yX4_houseOn, Cond.code yX4_houseOn cX4_houseOn 2 (some .int), Cond.methodLink RX5 126 yX4_putHouse]
def wsX6_change_r5 : List Cond := [Cond.instanceMethod yX4_putHouse, Cond.selects RX4 yX4_putHouse yX4_putHouse, Cond.code yX4_putHouse cX4_putHouse 3 none, Cond.methodLink RX5 87 yX5_putFlow, Cond.instanceMethod yX5_putFlow, Cond.selects RX5 yX5_putFlow yX5_putFlow, Cond.code yX5_putFlow cX5_putFlow 5 (some .int), Cond.methodLink RX5 130 yX5_houseNumbered, Cond.instanceMethod yX5_houseNumbered, Cond.selects RX5 yX5_houseNumbered yX5_houseNumbered, Cond.code yX5_houseNumbered cX5_houseNumbered 2 (some (.object "WrongedMeters$House")), Cond.methodLink RX5 90 yX5_turnLock, Cond.instanceMethod yX5_turnLock, Cond.selects RX5 yX5_turnLock yX5_turnLock, Cond.code yX5_turnLock cX5_turnLock 3 (some .int), Cond.methodLink RX5 141 yX5_putLock, Cond.instanceMethod yX5_putLock, Cond.selects RX5 yX5_putLock yX5_putLock, Cond.code yX5_putLock cX5_putLock 5 (some .int), Cond.methodLink RX5 94 yX5_readIfOpen, Cond.instanceMethod yX5_readIfOpen, Cond.selects RX5 yX5_readIfOpen yX5_readIfOpen, Cond.code yX5_readIfOpen cX5_readIfOpen 3 (some .int), Cond.methodLink RX5 151 yX1_reasonOn]
def wsX6_change_r6 : List Cond := [Cond.instanceMethod yX1_reasonOn, Cond.selects RX1 yX1_reasonOn yX1_reasonOn, Cond.code yX1_reasonOn cX1_reasonOn 2 (some .int), Cond.methodLink RX5 154 yX5_readMeter, Cond.instanceMethod yX5_readMeter, Cond.selects RX5 yX5_readMeter yX5_readMeter, Cond.code yX5_readMeter cX5_readMeter 5 (some .int), Cond.methodLink RX5 161 yX1_used, Cond.instanceMethod yX1_used, Cond.selects RX1 yX1_used yX1_used, Cond.code yX1_used cX1_used 1 (some .int), Cond.constant RX1 55 (100000), Cond.static yX6_unitsFor, Cond.code yX6_unitsFor cX6_unitsFor 2 (some .int), Cond.methodLink RX5 171 yX1_settle, Cond.instanceMethod yX1_settle, Cond.selects RX1 yX1_settle yX1_settle, Cond.code yX1_settle cX1_settle 4 none, Cond.methodLink RX5 175 yX2_add, Cond.instanceMethod yX2_add, Cond.selects RX2 yX2_add yX2_add, Cond.code yX2_add cX2_add 7 none, Cond.methodLink RX5 97 yX5_changeMeter, Cond.instanceMethod yX5_changeMeter]
def wsX6_change_r7 : List Cond := [Cond.selects RX5 yX5_changeMeter yX5_changeMeter, Cond.code yX5_changeMeter cX5_changeMeter 4 (some .int), Cond.methodLink RX5 158 yX1_renewMeter, Cond.instanceMethod yX1_renewMeter, Cond.selects RX1 yX1_renewMeter yX1_renewMeter, Cond.code yX1_renewMeter cX1_renewMeter 1 none, Cond.methodLink RX5 102 yX5_passDays, Cond.instanceMethod yX5_passDays, Cond.selects RX5 yX5_passDays yX5_passDays, Cond.code yX5_passDays cX5_passDays 8 (some .int), Cond.methodLink RX5 179 yX1_goOn, Cond.instanceMethod yX1_goOn, Cond.selects RX1 yX1_goOn yX1_goOn, Cond.code yX1_goOn cX1_goOn 1 none, Cond.methodLink RX5 182 yX5_walk, Cond.instanceMethod yX5_walk, Cond.selects RX5 yX5_walk yX5_walk, Cond.code yX5_walk cX5_walk 8 none, Cond.methodLink RX5 188 yX4_stepAhead, Cond.instanceMethod yX4_stepAhead, Cond.selects RX4 yX4_stepAhead yX4_stepAhead, Cond.code yX4_stepAhead cX4_stepAhead 2 (some .int), Cond.methodLink RX5 185 yX5_endYear, Cond.instanceMethod yX5_endYear]
def wsX6_change_r8 : List Cond := [Cond.selects RX5 yX5_endYear yX5_endYear, Cond.code yX5_endYear cX5_endYear 5 none, Cond.methodLink RX6 45 yX6_kept, Cond.instanceMethod yX6_kept, Cond.selects RX6 yX6_kept yX6_kept, Cond.code yX6_kept cX6_kept 2 (some .int), Cond.methodLink RX6 179 yX0_keep, Cond.instanceMethod yX0_keep, Cond.selects RX0 yX0_keep yX0_keep, Cond.code yX0_keep cX0_keep 1 none, Cond.fieldLink RX0 26 "WrongedMeters$History" "size" "I"]
def wsX6_change : List Cond := .code yX6_change cX6_change 2 (some .int) :: ((wsX6_change_r1 ++ (wsX6_change_r2 ++ (wsX6_change_r3 ++ (wsX6_change_r4 ++ (wsX6_change_r5 ++ (wsX6_change_r6 ++ (wsX6_change_r7 ++ wsX6_change_r8))))))) ++ wsX60 ++ wsX00 ++ wsX50 ++ wsX10 ++ wsX40 ++ wsX20)
def wsX6_days_r1 : List Cond := [Cond.methodLink RX6 33 yX6_carryOut, Cond.instanceMethod yX6_carryOut, Cond.selects RX6 yX6_carryOut yX6_carryOut, Cond.initialized RX6, Cond.code yX6_carryOut cX6_carryOut 4 (some .int), Cond.fieldLink RX6 22 "WrongedMeters" "history" "LWrongedMeters$History;", Cond.fieldLink RX6 10 "WrongedMeters" "town" "LWrongedMeters$Town;", Cond.methodLink RX6 37 yX0_record, Cond.instanceMethod yX0_record, Cond.selects RX0 yX0_record yX0_record, Cond.initialized RX0, Cond.code yX0_record cX0_record 2 none, Cond.fieldLink RX0 18 "WrongedMeters$History" "freeSlot" "I", Cond.fieldLink RX0 13 "WrongedMeters$History" "states" "[LWrongedMeters$Town;", Cond.methodLink RX0 22 yX5_copyFrom, Cond.instanceMethod yX5_copyFrom, Cond.selects RX5 yX5_copyFrom yX5_copyFrom, Cond.initialized RX5, Cond.code yX5_copyFrom cX5_copyFrom 3 none, Cond.fieldLink RX5 11 "WrongedMeters$Town" "houses" "[LWrongedMeters$House;", Cond.fieldLink RX5 19 "WrongedMeters$Town" "streets" "[LWrongedMeters$Street;", Cond.fieldLink RX5 26 "WrongedMeters$Town" "ledger" "LWrongedMeters$Ledger;", Cond.fieldLink RX5 30 "WrongedMeters$Town" "settings" "[I", Cond.methodLink RX5 49 arraycopyName]
def wsX6_days_r2 : List Cond := [Cond.native arraycopyName, Cond.static arraycopyName, Cond.initialized "java/lang/System", Cond.fieldLink RX5 55 "WrongedMeters$Town" "houseCount" "I", Cond.fieldLink RX5 59 "WrongedMeters$Town" "now" "I", Cond.fieldLink RX5 62 "WrongedMeters$Town" "readings" "I", Cond.fieldLink RX5 65 "WrongedMeters$Town" "units" "I", Cond.fieldLink RX5 68 "WrongedMeters$Town" "coins" "I", Cond.fieldLink RX5 71 "WrongedMeters$Town" "hundredths" "I", Cond.fieldLink RX5 74 "WrongedMeters$Town" "refunds" "I", Cond.fieldLink RX5 77 "WrongedMeters$Town" "coinsBack" "I", Cond.fieldLink RX5 80 "WrongedMeters$Town" "years" "I", Cond.methodLink RX5 39 yX1_copyFrom, Cond.instanceMethod yX1_copyFrom, Cond.selects RX1 yX1_copyFrom yX1_copyFrom, Cond.initialized RX1, Cond.code yX1_copyFrom cX1_copyFrom 2 none, Cond.fieldLink RX1 15 "WrongedMeters$House" "street" "I", Cond.fieldLink RX1 18 "WrongedMeters$House" "place" "I", Cond.fieldLink RX1 21 "WrongedMeters$House" "dial" "I", Cond.fieldLink RX1 24 "WrongedMeters$House" "dialBefore" "I", Cond.fieldLink RX1 27 "WrongedMeters$House" "flow" "I", Cond.fieldLink RX1 30 "WrongedMeters$House" "isLocked" "Z", Cond.fieldLink RX1 34 "WrongedMeters$House" "balance" "I"]
def wsX6_days_r3 : List Cond := [Cond.fieldLink RX1 9 "WrongedMeters$House" "latestDay" "I", Cond.fieldLink RX1 37 "WrongedMeters$House" "readings" "I", Cond.fieldLink RX1 40 "WrongedMeters$House" "units" "I", Cond.fieldLink RX1 43 "WrongedMeters$House" "timesHouseWronged" "I", Cond.fieldLink RX1 46 "WrongedMeters$House" "timesCompanyWronged" "I", Cond.fieldLink RX1 49 "WrongedMeters$House" "refunds" "I", Cond.fieldLink RX1 52 "WrongedMeters$House" "metersChanged" "I", Cond.methodLink RX5 43 yX4_copyFrom, Cond.instanceMethod yX4_copyFrom, Cond.selects RX4 yX4_copyFrom yX4_copyFrom, Cond.initialized RX4, Cond.code yX4_copyFrom cX4_copyFrom 2 none, Cond.fieldLink RX4 9 "WrongedMeters$Street" "houses" "[I", Cond.methodLink RX4 19 arraycopyName, Cond.fieldLink RX4 15 "WrongedMeters$Street" "latestStep" "I", Cond.methodLink RX5 46 yX2_copyFrom, Cond.instanceMethod yX2_copyFrom, Cond.selects RX2 yX2_copyFrom yX2_copyFrom, Cond.initialized RX2, Cond.code yX2_copyFrom cX2_copyFrom 2 none, Cond.fieldLink RX2 11 "WrongedMeters$Ledger" "facts" "[I", Cond.methodLink RX2 15 arraycopyName, Cond.fieldLink RX2 21 "WrongedMeters$Ledger" "nextRow" "I", Cond.fieldLink RX2 25 "WrongedMeters$Ledger" "size" "I"]
def wsX6_days_r4 : List Cond := [Cond.methodLink RX6 176 yX5_obey, Cond.instanceMethod yX5_obey, Cond.selects RX5 yX5_obey yX5_obey, Cond.code yX5_obey cX5_obey 4 (some .int), Cond.constant RX5 100 (-1000001), Cond.constant RX5 101 (-1000003), Cond.methodLink RX5 83 yX5_addHouse, Cond.instanceMethod yX5_addHouse, Cond.selects RX5 yX5_addHouse yX5_addHouse, Cond.code yX5_addHouse cX5_addHouse 5 (some .int), Cond.constant RX5 119 (-1000002), Cond.methodLink RX5 105 yX5_streetNumbered, Cond.instanceMethod yX5_streetNumbered, Cond.selects RX5 yX5_streetNumbered yX5_streetNumbered, Cond.code yX5_streetNumbered cX5_streetNumbered 2 (some (.object "WrongedMeters$Street")), Cond.static yX6_isPlace, Cond.code yX6_isPlace cX6_isPlace 1 (some .boolean), Cond.static yX6_stepOf, Cond.code yX6_stepOf cX6_stepOf 1 (some .int), Cond.methodLink RX5 116 yX4_houseOn, Cond.instanceMethod yX4_houseOn, Cond.selects RX4 yX4_houseOn yX4_houseOn, Cond.code yX4_houseOn cX4_houseOn 2 (some .int), Cond.methodLink RX5 126 yX4_putHouse]
def wsX6_days_r5 : List Cond := [Cond.instanceMethod yX4_putHouse, Cond.selects RX4 yX4_putHouse yX4_putHouse, Cond.code yX4_putHouse cX4_putHouse 3 none, Cond.methodLink RX5 87 yX5_putFlow, Cond.instanceMethod yX5_putFlow, Cond.selects RX5 yX5_putFlow yX5_putFlow, Cond.code yX5_putFlow cX5_putFlow 5 (some .int), Cond.methodLink RX5 130 yX5_houseNumbered, Cond.instanceMethod yX5_houseNumbered, Cond.selects RX5 yX5_houseNumbered yX5_houseNumbered, Cond.code yX5_houseNumbered cX5_houseNumbered 2 (some (.object "WrongedMeters$House")), Cond.methodLink RX5 90 yX5_turnLock, Cond.instanceMethod yX5_turnLock, Cond.selects RX5 yX5_turnLock yX5_turnLock, Cond.code yX5_turnLock cX5_turnLock 3 (some .int), Cond.methodLink RX5 141 yX5_putLock, Cond.instanceMethod yX5_putLock, Cond.selects RX5 yX5_putLock yX5_putLock, Cond.code yX5_putLock cX5_putLock 5 (some .int), Cond.methodLink RX5 94 yX5_readIfOpen, Cond.instanceMethod yX5_readIfOpen, Cond.selects RX5 yX5_readIfOpen yX5_readIfOpen, Cond.code yX5_readIfOpen cX5_readIfOpen 3 (some .int), Cond.methodLink RX5 151 yX1_reasonOn]
def wsX6_days_r6 : List Cond := [Cond.instanceMethod yX1_reasonOn, Cond.selects RX1 yX1_reasonOn yX1_reasonOn, Cond.code yX1_reasonOn cX1_reasonOn 2 (some .int), Cond.methodLink RX5 154 yX5_readMeter, Cond.instanceMethod yX5_readMeter, Cond.selects RX5 yX5_readMeter yX5_readMeter, Cond.code yX5_readMeter cX5_readMeter 5 (some .int), Cond.methodLink RX5 161 yX1_used, Cond.instanceMethod yX1_used, Cond.selects RX1 yX1_used yX1_used, Cond.code yX1_used cX1_used 1 (some .int), Cond.constant RX1 55 (100000), Cond.static yX6_unitsFor, Cond.code yX6_unitsFor cX6_unitsFor 2 (some .int), Cond.methodLink RX5 171 yX1_settle, Cond.instanceMethod yX1_settle, Cond.selects RX1 yX1_settle yX1_settle, Cond.code yX1_settle cX1_settle 4 none, Cond.methodLink RX5 175 yX2_add, Cond.instanceMethod yX2_add, Cond.selects RX2 yX2_add yX2_add, Cond.code yX2_add cX2_add 7 none, Cond.methodLink RX5 97 yX5_changeMeter, Cond.instanceMethod yX5_changeMeter]
def wsX6_days_r7 : List Cond := [Cond.selects RX5 yX5_changeMeter yX5_changeMeter, Cond.code yX5_changeMeter cX5_changeMeter 4 (some .int), Cond.methodLink RX5 158 yX1_renewMeter, Cond.instanceMethod yX1_renewMeter, Cond.selects RX1 yX1_renewMeter yX1_renewMeter, Cond.code yX1_renewMeter cX1_renewMeter 1 none, Cond.methodLink RX5 102 yX5_passDays, Cond.instanceMethod yX5_passDays, Cond.selects RX5 yX5_passDays yX5_passDays, Cond.code yX5_passDays cX5_passDays 8 (some .int), Cond.methodLink RX5 179 yX1_goOn, Cond.instanceMethod yX1_goOn, Cond.selects RX1 yX1_goOn yX1_goOn, Cond.code yX1_goOn cX1_goOn 1 none, Cond.methodLink RX5 182 yX5_walk, Cond.instanceMethod yX5_walk, Cond.selects RX5 yX5_walk yX5_walk, Cond.code yX5_walk cX5_walk 8 none, Cond.methodLink RX5 188 yX4_stepAhead, Cond.instanceMethod yX4_stepAhead, Cond.selects RX4 yX4_stepAhead yX4_stepAhead, Cond.code yX4_stepAhead cX4_stepAhead 2 (some .int), Cond.methodLink RX5 185 yX5_endYear, Cond.instanceMethod yX5_endYear]
def wsX6_days_r8 : List Cond := [Cond.selects RX5 yX5_endYear yX5_endYear, Cond.code yX5_endYear cX5_endYear 5 none, Cond.methodLink RX6 45 yX6_kept, Cond.instanceMethod yX6_kept, Cond.selects RX6 yX6_kept yX6_kept, Cond.code yX6_kept cX6_kept 2 (some .int), Cond.methodLink RX6 179 yX0_keep, Cond.instanceMethod yX0_keep, Cond.selects RX0 yX0_keep yX0_keep, Cond.code yX0_keep cX0_keep 1 none, Cond.fieldLink RX0 26 "WrongedMeters$History" "size" "I"]
def wsX6_days : List Cond := .code yX6_days cX6_days 2 (some .int) :: ((wsX6_days_r1 ++ (wsX6_days_r2 ++ (wsX6_days_r3 ++ (wsX6_days_r4 ++ (wsX6_days_r5 ++ (wsX6_days_r6 ++ (wsX6_days_r7 ++ wsX6_days_r8))))))) ++ wsX60 ++ wsX00 ++ wsX50 ++ wsX10 ++ wsX40 ++ wsX20)
def wsX6_set_r1 : List Cond := [Cond.fieldLink RX6 22 "WrongedMeters" "history" "LWrongedMeters$History;", Cond.fieldLink RX6 10 "WrongedMeters" "town" "LWrongedMeters$Town;", Cond.methodLink RX6 37 yX0_record, Cond.instanceMethod yX0_record, Cond.selects RX0 yX0_record yX0_record, Cond.initialized RX0, Cond.code yX0_record cX0_record 2 none, Cond.fieldLink RX0 18 "WrongedMeters$History" "freeSlot" "I", Cond.fieldLink RX0 13 "WrongedMeters$History" "states" "[LWrongedMeters$Town;", Cond.methodLink RX0 22 yX5_copyFrom, Cond.instanceMethod yX5_copyFrom, Cond.selects RX5 yX5_copyFrom yX5_copyFrom, Cond.initialized RX5, Cond.code yX5_copyFrom cX5_copyFrom 3 none, Cond.fieldLink RX5 11 "WrongedMeters$Town" "houses" "[LWrongedMeters$House;", Cond.fieldLink RX5 19 "WrongedMeters$Town" "streets" "[LWrongedMeters$Street;", Cond.fieldLink RX5 26 "WrongedMeters$Town" "ledger" "LWrongedMeters$Ledger;", Cond.fieldLink RX5 30 "WrongedMeters$Town" "settings" "[I", Cond.methodLink RX5 49 arraycopyName, Cond.native arraycopyName, Cond.static arraycopyName, Cond.initialized "java/lang/System", Cond.fieldLink RX5 55 "WrongedMeters$Town" "houseCount" "I", Cond.fieldLink RX5 59 "WrongedMeters$Town" "now" "I"]
def wsX6_set_r2 : List Cond := [Cond.fieldLink RX5 62 "WrongedMeters$Town" "readings" "I", Cond.fieldLink RX5 65 "WrongedMeters$Town" "units" "I", Cond.fieldLink RX5 68 "WrongedMeters$Town" "coins" "I", Cond.fieldLink RX5 71 "WrongedMeters$Town" "hundredths" "I", Cond.fieldLink RX5 74 "WrongedMeters$Town" "refunds" "I", Cond.fieldLink RX5 77 "WrongedMeters$Town" "coinsBack" "I", Cond.fieldLink RX5 80 "WrongedMeters$Town" "years" "I", Cond.methodLink RX5 39 yX1_copyFrom, Cond.instanceMethod yX1_copyFrom, Cond.selects RX1 yX1_copyFrom yX1_copyFrom, Cond.initialized RX1, Cond.code yX1_copyFrom cX1_copyFrom 2 none, Cond.fieldLink RX1 15 "WrongedMeters$House" "street" "I", Cond.fieldLink RX1 18 "WrongedMeters$House" "place" "I", Cond.fieldLink RX1 21 "WrongedMeters$House" "dial" "I", Cond.fieldLink RX1 24 "WrongedMeters$House" "dialBefore" "I", Cond.fieldLink RX1 27 "WrongedMeters$House" "flow" "I", Cond.fieldLink RX1 30 "WrongedMeters$House" "isLocked" "Z", Cond.fieldLink RX1 34 "WrongedMeters$House" "balance" "I", Cond.fieldLink RX1 9 "WrongedMeters$House" "latestDay" "I", Cond.fieldLink RX1 37 "WrongedMeters$House" "readings" "I", Cond.fieldLink RX1 40 "WrongedMeters$House" "units" "I", Cond.fieldLink RX1 43 "WrongedMeters$House" "timesHouseWronged" "I", Cond.fieldLink RX1 46 "WrongedMeters$House" "timesCompanyWronged" "I"]
def wsX6_set_r3 : List Cond := [Cond.fieldLink RX1 49 "WrongedMeters$House" "refunds" "I", Cond.fieldLink RX1 52 "WrongedMeters$House" "metersChanged" "I", Cond.methodLink RX5 43 yX4_copyFrom, Cond.instanceMethod yX4_copyFrom, Cond.selects RX4 yX4_copyFrom yX4_copyFrom, Cond.initialized RX4, Cond.code yX4_copyFrom cX4_copyFrom 2 none, Cond.fieldLink RX4 9 "WrongedMeters$Street" "houses" "[I", Cond.methodLink RX4 19 arraycopyName, Cond.fieldLink RX4 15 "WrongedMeters$Street" "latestStep" "I", Cond.methodLink RX5 46 yX2_copyFrom, Cond.instanceMethod yX2_copyFrom, Cond.selects RX2 yX2_copyFrom yX2_copyFrom, Cond.initialized RX2, Cond.code yX2_copyFrom cX2_copyFrom 2 none, Cond.fieldLink RX2 11 "WrongedMeters$Ledger" "facts" "[I", Cond.methodLink RX2 15 arraycopyName, Cond.fieldLink RX2 21 "WrongedMeters$Ledger" "nextRow" "I", Cond.fieldLink RX2 25 "WrongedMeters$Ledger" "size" "I", Cond.methodLink RX6 49 yX5_putSetting, Cond.instanceMethod yX5_putSetting, Cond.selects RX5 yX5_putSetting yX5_putSetting, Cond.code yX5_putSetting cX5_putSetting 4 (some .int), Cond.constant RX5 100 (-1000001)]
def wsX6_set_r4 : List Cond := [Cond.methodLink RX6 45 yX6_kept, Cond.instanceMethod yX6_kept, Cond.selects RX6 yX6_kept yX6_kept, Cond.initialized RX6, Cond.code yX6_kept cX6_kept 2 (some .int), Cond.methodLink RX6 179 yX0_keep, Cond.instanceMethod yX0_keep, Cond.selects RX0 yX0_keep yX0_keep, Cond.code yX0_keep cX0_keep 1 none, Cond.fieldLink RX0 26 "WrongedMeters$History" "size" "I"]
def wsX6_set : List Cond := .code yX6_set cX6_set 3 (some .int) :: ((wsX6_set_r1 ++ (wsX6_set_r2 ++ (wsX6_set_r3 ++ wsX6_set_r4))) ++ wsX60 ++ wsX00 ++ wsX50 ++ wsX10 ++ wsX40 ++ wsX20)
def wsX6_houseOf_r1 : List Cond := [Cond.fieldLink RX6 10 "WrongedMeters" "town" "LWrongedMeters$Town;", Cond.constant RX6 57 (-1000001), Cond.methodLink RX6 53 yX5_houseNumbered, Cond.instanceMethod yX5_houseNumbered, Cond.selects RX5 yX5_houseNumbered yX5_houseNumbered, Cond.initialized RX5, Cond.code yX5_houseNumbered cX5_houseNumbered 2 (some (.object "WrongedMeters$House")), Cond.fieldLink RX5 55 "WrongedMeters$Town" "houseCount" "I", Cond.fieldLink RX5 11 "WrongedMeters$Town" "houses" "[LWrongedMeters$House;", Cond.methodLink RX6 58 yX1_fact, Cond.instanceMethod yX1_fact, Cond.selects RX1 yX1_fact yX1_fact, Cond.initialized RX1, Cond.code yX1_fact cX1_fact 2 (some .int), Cond.fieldLink RX1 15 "WrongedMeters$House" "street" "I", Cond.fieldLink RX1 18 "WrongedMeters$House" "place" "I", Cond.fieldLink RX1 21 "WrongedMeters$House" "dial" "I", Cond.fieldLink RX1 34 "WrongedMeters$House" "balance" "I", Cond.fieldLink RX1 27 "WrongedMeters$House" "flow" "I", Cond.fieldLink RX1 30 "WrongedMeters$House" "isLocked" "Z", Cond.fieldLink RX1 9 "WrongedMeters$House" "latestDay" "I", Cond.constant RX1 60 (-1000004), Cond.fieldLink RX1 37 "WrongedMeters$House" "readings" "I", Cond.fieldLink RX1 40 "WrongedMeters$House" "units" "I"]
def wsX6_houseOf_r2 : List Cond := [Cond.fieldLink RX1 43 "WrongedMeters$House" "timesHouseWronged" "I", Cond.fieldLink RX1 46 "WrongedMeters$House" "timesCompanyWronged" "I", Cond.fieldLink RX1 49 "WrongedMeters$House" "refunds" "I", Cond.fieldLink RX1 52 "WrongedMeters$House" "metersChanged" "I", Cond.constant RX1 61 (-1000001), Cond.methodLink RX1 56 yX1_used, Cond.instanceMethod yX1_used, Cond.selects RX1 yX1_used yX1_used, Cond.code yX1_used cX1_used 1 (some .int), Cond.fieldLink RX1 24 "WrongedMeters$House" "dialBefore" "I", Cond.constant RX1 55 (100000)]
def wsX6_houseOf : List Cond := .code yX6_houseOf cX6_houseOf 4 (some .int) :: ((wsX6_houseOf_r1 ++ wsX6_houseOf_r2) ++ wsX60 ++ wsX50 ++ wsX10)
def wsX6_at : List Cond := .code yX6_at cX6_at 5 (some .int) :: ([.fieldLink RX6 10 "WrongedMeters" "town" "LWrongedMeters$Town;", .constant RX6 57 (-1000001), .constant RX6 79 (-1000004), .methodLink RX6 63 yX5_streetNumbered, .instanceMethod yX5_streetNumbered, .selects RX5 yX5_streetNumbered yX5_streetNumbered, .initialized RX5, .code yX5_streetNumbered cX5_streetNumbered 2 (some (.object "WrongedMeters$Street")), .fieldLink RX5 19 "WrongedMeters$Town" "streets" "[LWrongedMeters$Street;", .methodLink RX6 67 yX6_isPlace, .static yX6_isPlace, .initialized RX6, .code yX6_isPlace cX6_isPlace 1 (some .boolean), .methodLink RX6 71 yX6_stepOf, .static yX6_stepOf, .code yX6_stepOf cX6_stepOf 1 (some .int), .methodLink RX6 74 yX4_houseOn, .instanceMethod yX4_houseOn, .selects RX4 yX4_houseOn yX4_houseOn, .initialized RX4, .code yX4_houseOn cX4_houseOn 2 (some .int), .fieldLink RX4 9 "WrongedMeters$Street" "houses" "[I"] ++ wsX60 ++ wsX50 ++ wsX40)
def wsX6_next : List Cond := .code yX6_next cX6_next 4 (some .int) :: ([.fieldLink RX6 10 "WrongedMeters" "town" "LWrongedMeters$Town;", .constant RX6 57 (-1000001), .methodLink RX6 63 yX5_streetNumbered, .instanceMethod yX5_streetNumbered, .selects RX5 yX5_streetNumbered yX5_streetNumbered, .initialized RX5, .code yX5_streetNumbered cX5_streetNumbered 2 (some (.object "WrongedMeters$Street")), .fieldLink RX5 19 "WrongedMeters$Town" "streets" "[LWrongedMeters$Street;", .methodLink RX6 80 yX4_houseRanked, .instanceMethod yX4_houseRanked, .selects RX4 yX4_houseRanked yX4_houseRanked, .initialized RX4, .code yX4_houseRanked cX4_houseRanked 5 (some .int), .constant RX4 32 (-1000004), .methodLink RX4 25 yX4_stepAhead, .instanceMethod yX4_stepAhead, .selects RX4 yX4_stepAhead yX4_stepAhead, .code yX4_stepAhead cX4_stepAhead 2 (some .int), .fieldLink RX4 15 "WrongedMeters$Street" "latestStep" "I", .methodLink RX4 29 yX4_houseOn, .instanceMethod yX4_houseOn, .selects RX4 yX4_houseOn yX4_houseOn, .code yX4_houseOn cX4_houseOn 2 (some .int), .fieldLink RX4 9 "WrongedMeters$Street" "houses" "[I"] ++ wsX60 ++ wsX50 ++ wsX40)
def wsX6_ledger : List Cond := .code yX6_ledger cX6_ledger 3 (some .int) :: ([.fieldLink RX6 10 "WrongedMeters" "town" "LWrongedMeters$Town;", .methodLink RX6 87 yX2_entry, .instanceMethod yX2_entry, .selects RX2 yX2_entry yX2_entry, .initialized RX2, .code yX2_entry cX2_entry 4 (some .int), .constant RX2 28 (-1000001), .fieldLink RX2 25 "WrongedMeters$Ledger" "size" "I", .constant RX2 29 (-1000004), .fieldLink RX2 21 "WrongedMeters$Ledger" "nextRow" "I", .fieldLink RX2 11 "WrongedMeters$Ledger" "facts" "[I"] ++ wsX60 ++ wsX50 ++ wsX20)
def wsX6_why : List Cond := .code yX6_why cX6_why 3 (some .int) :: ([.fieldLink RX6 10 "WrongedMeters" "town" "LWrongedMeters$Town;", .constant RX6 57 (-1000001), .methodLink RX6 53 yX5_houseNumbered, .instanceMethod yX5_houseNumbered, .selects RX5 yX5_houseNumbered yX5_houseNumbered, .initialized RX5, .code yX5_houseNumbered cX5_houseNumbered 2 (some (.object "WrongedMeters$House")), .fieldLink RX5 55 "WrongedMeters$Town" "houseCount" "I", .fieldLink RX5 11 "WrongedMeters$Town" "houses" "[LWrongedMeters$House;", .methodLink RX6 96 yX1_reasonOn, .instanceMethod yX1_reasonOn, .selects RX1 yX1_reasonOn yX1_reasonOn, .initialized RX1, .code yX1_reasonOn cX1_reasonOn 2 (some .int), .fieldLink RX1 30 "WrongedMeters$House" "isLocked" "Z", .fieldLink RX1 9 "WrongedMeters$House" "latestDay" "I"] ++ wsX60 ++ wsX50 ++ wsX10)
def wsX6_ifRead : List Cond := .code yX6_ifRead cX6_ifRead 7 (some .int) :: ([.fieldLink RX6 10 "WrongedMeters" "town" "LWrongedMeters$Town;", .constant RX6 57 (-1000001), .methodLink RX6 53 yX5_houseNumbered, .instanceMethod yX5_houseNumbered, .selects RX5 yX5_houseNumbered yX5_houseNumbered, .initialized RX5, .code yX5_houseNumbered cX5_houseNumbered 2 (some (.object "WrongedMeters$House")), .fieldLink RX5 55 "WrongedMeters$Town" "houseCount" "I", .fieldLink RX5 11 "WrongedMeters$Town" "houses" "[LWrongedMeters$House;", .methodLink RX6 99 yX1_used, .instanceMethod yX1_used, .selects RX1 yX1_used yX1_used, .initialized RX1, .code yX1_used cX1_used 1 (some .int), .fieldLink RX1 21 "WrongedMeters$House" "dial" "I", .fieldLink RX1 24 "WrongedMeters$House" "dialBefore" "I", .constant RX1 55 (100000), .methodLink RX6 106 yX6_unitsFor, .static yX6_unitsFor, .initialized RX6, .code yX6_unitsFor cX6_unitsFor 2 (some .int)] ++ wsX60 ++ wsX10 ++ wsX50)
def wsX6_wronged : List Cond := .code yX6_wronged cX6_wronged 2 (some .int) :: ([.constant RX6 57 (-1000001), .fieldLink RX6 10 "WrongedMeters" "town" "LWrongedMeters$Town;", .methodLink RX6 113 yX5_houseByBalance, .instanceMethod yX5_houseByBalance, .selects RX5 yX5_houseByBalance yX5_houseByBalance, .initialized RX5, .code yX5_houseByBalance cX5_houseByBalance 3 (some .int), .fieldLink RX5 55 "WrongedMeters$Town" "houseCount" "I", .fieldLink RX5 11 "WrongedMeters$Town" "houses" "[LWrongedMeters$House;", .constant RX5 195 (-1000004), .methodLink RX5 196 yX5_housesAhead, .instanceMethod yX5_housesAhead, .selects RX5 yX5_housesAhead yX5_housesAhead, .code yX5_housesAhead cX5_housesAhead 6 (some .int)] ++ wsX60 ++ wsX50 ++ wsX10)
def wsX6_count_r1 : List Cond := [Cond.fieldLink RX6 22 "WrongedMeters" "history" "LWrongedMeters$History;", Cond.fieldLink RX6 29 "WrongedMeters" "orders" "LWrongedMeters$Orders;", Cond.fieldLink RX6 10 "WrongedMeters" "town" "LWrongedMeters$Town;", Cond.methodLink RX6 150 yX5_number, Cond.instanceMethod yX5_number, Cond.selects RX5 yX5_number yX5_number, Cond.initialized RX5, Cond.code yX5_number cX5_number 2 (some .int), Cond.fieldLink RX5 59 "WrongedMeters$Town" "now" "I", Cond.fieldLink RX5 55 "WrongedMeters$Town" "houseCount" "I", Cond.fieldLink RX5 62 "WrongedMeters$Town" "readings" "I", Cond.fieldLink RX5 65 "WrongedMeters$Town" "units" "I", Cond.fieldLink RX5 68 "WrongedMeters$Town" "coins" "I", Cond.fieldLink RX5 71 "WrongedMeters$Town" "hundredths" "I", Cond.fieldLink RX5 74 "WrongedMeters$Town" "refunds" "I", Cond.fieldLink RX5 77 "WrongedMeters$Town" "coinsBack" "I", Cond.fieldLink RX5 80 "WrongedMeters$Town" "years" "I", Cond.fieldLink RX5 26 "WrongedMeters$Town" "ledger" "LWrongedMeters$Ledger;", Cond.fieldLink RX5 30 "WrongedMeters$Town" "settings" "[I", Cond.constant RX5 100 (-1000001), Cond.methodLink RX5 199 yX5_housesLocked, Cond.instanceMethod yX5_housesLocked, Cond.selects RX5 yX5_housesLocked yX5_housesLocked, Cond.code yX5_housesLocked cX5_housesLocked 6 (some .int)]
def wsX6_count_r2 : List Cond := [Cond.fieldLink RX5 11 "WrongedMeters$Town" "houses" "[LWrongedMeters$House;", Cond.methodLink RX5 202 yX5_housesBetween, Cond.instanceMethod yX5_housesBetween, Cond.selects RX5 yX5_housesBetween yX5_housesBetween, Cond.code yX5_housesBetween cX5_housesBetween 8 (some .int), Cond.methodLink RX5 205 yX5_balances, Cond.instanceMethod yX5_balances, Cond.selects RX5 yX5_balances yX5_balances, Cond.code yX5_balances cX5_balances 6 (some .int)]
def wsX6_count : List Cond := .code yX6_count cX6_count 2 (some .int) :: ((wsX6_count_r1 ++ wsX6_count_r2) ++ wsX60 ++ wsX00 ++ wsX30 ++ wsX50 ++ wsX20 ++ wsX10)
def wsL_cell : List Cond := .code yL_cell cL_cell 2 (some .int) :: ([.constant RL 7 (40503)])
def wsL_used : List Cond := .code yL_used cL_used 3 (some .int) :: ([.constant RL 9 (100000)])
def wsL_units : List Cond := .code yL_units cL_units 7 (some .int) :: ([.methodLink RL 10 yL_used, .static yL_used, .initialized RL, .code yL_used cL_used 3 (some .int), .constant RL 9 (100000)])
def wsL_why : List Cond := .code yL_why cL_why 3 (some .int) :: ([])
def wsL_read : List Cond := .code yL_read cL_read 9 (some .int) :: ([.methodLink RL 10 yL_used, .static yL_used, .initialized RL, .code yL_used cL_used 3 (some .int), .constant RL 9 (100000), .methodLink RL 16 yL_units, .static yL_units, .code yL_units cL_units 7 (some .int)])
def wsL_at : List Cond := .code yL_at cL_at 5 (some .int) :: ([])
def wsL_round : List Cond := .code yL_round cL_round 8 (some .int) :: ([.methodLink RL 20 yL_at, .static yL_at, .initialized RL, .code yL_at cL_at 5 (some .int)])
def wsL_day : List Cond := .code yL_day cL_day 12 (some .int) :: ([.constant RL 24 (99999), .constant RL 9 (100000), .methodLink RL 25 yL_round, .static yL_round, .initialized RL, .code yL_round cL_round 8 (some .int), .methodLink RL 20 yL_at, .static yL_at, .code yL_at cL_at 5 (some .int), .methodLink RL 29 yL_why, .static yL_why, .code yL_why cL_why 3 (some .int), .methodLink RL 32 yL_read, .static yL_read, .code yL_read cL_read 9 (some .int), .methodLink RL 10 yL_used, .static yL_used, .code yL_used cL_used 3 (some .int), .methodLink RL 16 yL_units, .static yL_units, .code yL_units cL_units 7 (some .int)])
def wsL_areHouses_r1 : List Cond := [Cond.constant RL 42 (-1000001), Cond.constant RL 46 (-1000004), Cond.methodLink RL 36 yX6_houseOf, Cond.instanceMethod yX6_houseOf, Cond.selects RX6 yX6_houseOf yX6_houseOf, Cond.initialized RX6, Cond.code yX6_houseOf cX6_houseOf 4 (some .int), Cond.fieldLink RX6 10 "WrongedMeters" "town" "LWrongedMeters$Town;", Cond.constant RX6 57 (-1000001), Cond.methodLink RX6 53 yX5_houseNumbered, Cond.instanceMethod yX5_houseNumbered, Cond.selects RX5 yX5_houseNumbered yX5_houseNumbered, Cond.initialized RX5, Cond.code yX5_houseNumbered cX5_houseNumbered 2 (some (.object "WrongedMeters$House")), Cond.fieldLink RX5 55 "WrongedMeters$Town" "houseCount" "I", Cond.fieldLink RX5 11 "WrongedMeters$Town" "houses" "[LWrongedMeters$House;", Cond.methodLink RX6 58 yX1_fact, Cond.instanceMethod yX1_fact, Cond.selects RX1 yX1_fact yX1_fact, Cond.initialized RX1, Cond.code yX1_fact cX1_fact 2 (some .int), Cond.fieldLink RX1 15 "WrongedMeters$House" "street" "I", Cond.fieldLink RX1 18 "WrongedMeters$House" "place" "I", Cond.fieldLink RX1 21 "WrongedMeters$House" "dial" "I"]
def wsL_areHouses_r2 : List Cond := [Cond.fieldLink RX1 34 "WrongedMeters$House" "balance" "I", Cond.fieldLink RX1 27 "WrongedMeters$House" "flow" "I", Cond.fieldLink RX1 30 "WrongedMeters$House" "isLocked" "Z", Cond.fieldLink RX1 9 "WrongedMeters$House" "latestDay" "I", Cond.constant RX1 60 (-1000004), Cond.fieldLink RX1 37 "WrongedMeters$House" "readings" "I", Cond.fieldLink RX1 40 "WrongedMeters$House" "units" "I", Cond.fieldLink RX1 43 "WrongedMeters$House" "timesHouseWronged" "I", Cond.fieldLink RX1 46 "WrongedMeters$House" "timesCompanyWronged" "I", Cond.fieldLink RX1 49 "WrongedMeters$House" "refunds" "I", Cond.fieldLink RX1 52 "WrongedMeters$House" "metersChanged" "I", Cond.constant RX1 61 (-1000001), Cond.methodLink RX1 56 yX1_used, Cond.instanceMethod yX1_used, Cond.selects RX1 yX1_used yX1_used, Cond.code yX1_used cX1_used 1 (some .int), Cond.fieldLink RX1 24 "WrongedMeters$House" "dialBefore" "I", Cond.constant RX1 55 (100000), Cond.methodLink RL 43 yX6_why, Cond.instanceMethod yX6_why, Cond.selects RX6 yX6_why yX6_why, Cond.code yX6_why cX6_why 3 (some .int), Cond.methodLink RX6 96 yX1_reasonOn, Cond.instanceMethod yX1_reasonOn]
def wsL_areHouses_r3 : List Cond := [Cond.selects RX1 yX1_reasonOn yX1_reasonOn, Cond.code yX1_reasonOn cX1_reasonOn 2 (some .int), Cond.methodLink RL 16 yL_units, Cond.static yL_units, Cond.initialized RL, Cond.code yL_units cL_units 7 (some .int), Cond.methodLink RL 10 yL_used, Cond.static yL_used, Cond.code yL_used cL_used 3 (some .int), Cond.constant RL 9 (100000), Cond.methodLink RL 29 yL_why, Cond.static yL_why, Cond.code yL_why cL_why 3 (some .int), Cond.methodLink RL 47 yX6_ifRead, Cond.instanceMethod yX6_ifRead, Cond.selects RX6 yX6_ifRead yX6_ifRead, Cond.code yX6_ifRead cX6_ifRead 7 (some .int), Cond.methodLink RX6 99 yX1_used, Cond.methodLink RX6 106 yX6_unitsFor, Cond.static yX6_unitsFor, Cond.code yX6_unitsFor cX6_unitsFor 2 (some .int), Cond.methodLink RL 50 yX6_at, Cond.instanceMethod yX6_at, Cond.selects RX6 yX6_at yX6_at]
def wsL_areHouses_r4 : List Cond := [Cond.code yX6_at cX6_at 5 (some .int), Cond.constant RX6 79 (-1000004), Cond.methodLink RX6 63 yX5_streetNumbered, Cond.instanceMethod yX5_streetNumbered, Cond.selects RX5 yX5_streetNumbered yX5_streetNumbered, Cond.code yX5_streetNumbered cX5_streetNumbered 2 (some (.object "WrongedMeters$Street")), Cond.fieldLink RX5 19 "WrongedMeters$Town" "streets" "[LWrongedMeters$Street;", Cond.methodLink RX6 67 yX6_isPlace, Cond.static yX6_isPlace, Cond.code yX6_isPlace cX6_isPlace 1 (some .boolean), Cond.methodLink RX6 71 yX6_stepOf, Cond.static yX6_stepOf, Cond.code yX6_stepOf cX6_stepOf 1 (some .int), Cond.methodLink RX6 74 yX4_houseOn, Cond.instanceMethod yX4_houseOn, Cond.selects RX4 yX4_houseOn yX4_houseOn, Cond.initialized RX4, Cond.code yX4_houseOn cX4_houseOn 2 (some .int), Cond.fieldLink RX4 9 "WrongedMeters$Street" "houses" "[I"]
def wsL_areHouses : List Cond := .code yL_areHouses cL_areHouses 10 (some .boolean) :: ((wsL_areHouses_r1 ++ (wsL_areHouses_r2 ++ (wsL_areHouses_r3 ++ wsL_areHouses_r4))) ++ wsX60 ++ wsX50 ++ wsX10 ++ wsX40)
def wsL_areSums_r1 : List Cond := [Cond.constant RL 46 (-1000004), Cond.methodLink RL 52 yX6_wronged, Cond.instanceMethod yX6_wronged, Cond.selects RX6 yX6_wronged yX6_wronged, Cond.initialized RX6, Cond.code yX6_wronged cX6_wronged 2 (some .int), Cond.constant RX6 57 (-1000001), Cond.fieldLink RX6 10 "WrongedMeters" "town" "LWrongedMeters$Town;", Cond.methodLink RX6 113 yX5_houseByBalance, Cond.instanceMethod yX5_houseByBalance, Cond.selects RX5 yX5_houseByBalance yX5_houseByBalance, Cond.initialized RX5, Cond.code yX5_houseByBalance cX5_houseByBalance 3 (some .int), Cond.fieldLink RX5 55 "WrongedMeters$Town" "houseCount" "I", Cond.fieldLink RX5 11 "WrongedMeters$Town" "houses" "[LWrongedMeters$House;", Cond.constant RX5 195 (-1000004), Cond.methodLink RX5 196 yX5_housesAhead, Cond.instanceMethod yX5_housesAhead, Cond.selects RX5 yX5_housesAhead yX5_housesAhead, Cond.code yX5_housesAhead cX5_housesAhead 6 (some .int), Cond.methodLink RL 55 yX6_ledger, Cond.instanceMethod yX6_ledger, Cond.selects RX6 yX6_ledger yX6_ledger, Cond.code yX6_ledger cX6_ledger 3 (some .int)]
def wsL_areSums_r2 : List Cond := [Cond.methodLink RX6 87 yX2_entry, Cond.instanceMethod yX2_entry, Cond.selects RX2 yX2_entry yX2_entry, Cond.initialized RX2, Cond.code yX2_entry cX2_entry 4 (some .int), Cond.constant RX2 28 (-1000001), Cond.fieldLink RX2 25 "WrongedMeters$Ledger" "size" "I", Cond.constant RX2 29 (-1000004), Cond.fieldLink RX2 21 "WrongedMeters$Ledger" "nextRow" "I", Cond.fieldLink RX2 11 "WrongedMeters$Ledger" "facts" "[I", Cond.methodLink RL 58 yX6_count, Cond.instanceMethod yX6_count, Cond.selects RX6 yX6_count yX6_count, Cond.code yX6_count cX6_count 2 (some .int), Cond.fieldLink RX6 22 "WrongedMeters" "history" "LWrongedMeters$History;", Cond.fieldLink RX6 29 "WrongedMeters" "orders" "LWrongedMeters$Orders;", Cond.methodLink RX6 150 yX5_number, Cond.instanceMethod yX5_number, Cond.selects RX5 yX5_number yX5_number, Cond.code yX5_number cX5_number 2 (some .int), Cond.fieldLink RX5 59 "WrongedMeters$Town" "now" "I", Cond.fieldLink RX5 62 "WrongedMeters$Town" "readings" "I", Cond.fieldLink RX5 65 "WrongedMeters$Town" "units" "I", Cond.fieldLink RX5 68 "WrongedMeters$Town" "coins" "I"]
def wsL_areSums_r3 : List Cond := [Cond.fieldLink RX5 71 "WrongedMeters$Town" "hundredths" "I", Cond.fieldLink RX5 74 "WrongedMeters$Town" "refunds" "I", Cond.fieldLink RX5 77 "WrongedMeters$Town" "coinsBack" "I", Cond.fieldLink RX5 80 "WrongedMeters$Town" "years" "I", Cond.fieldLink RX5 26 "WrongedMeters$Town" "ledger" "LWrongedMeters$Ledger;", Cond.fieldLink RX5 30 "WrongedMeters$Town" "settings" "[I", Cond.constant RX5 100 (-1000001), Cond.methodLink RX5 199 yX5_housesLocked, Cond.instanceMethod yX5_housesLocked, Cond.selects RX5 yX5_housesLocked yX5_housesLocked, Cond.code yX5_housesLocked cX5_housesLocked 6 (some .int), Cond.methodLink RX5 202 yX5_housesBetween, Cond.instanceMethod yX5_housesBetween, Cond.selects RX5 yX5_housesBetween yX5_housesBetween, Cond.code yX5_housesBetween cX5_housesBetween 8 (some .int), Cond.methodLink RX5 205 yX5_balances, Cond.instanceMethod yX5_balances, Cond.selects RX5 yX5_balances yX5_balances, Cond.code yX5_balances cX5_balances 6 (some .int)]
def wsL_areSums : List Cond := .code yL_areSums cL_areSums 12 (some .boolean) :: ((wsL_areSums_r1 ++ (wsL_areSums_r2 ++ wsL_areSums_r3)) ++ wsX60 ++ wsX50 ++ wsX10 ++ wsX20 ++ wsX00 ++ wsX30)
def wsL_areRounds_r1 : List Cond := [Cond.constant RL 42 (-1000001), Cond.constant RL 46 (-1000004), Cond.methodLink RL 61 yX6_next, Cond.instanceMethod yX6_next, Cond.selects RX6 yX6_next yX6_next, Cond.initialized RX6, Cond.code yX6_next cX6_next 4 (some .int), Cond.fieldLink RX6 10 "WrongedMeters" "town" "LWrongedMeters$Town;", Cond.constant RX6 57 (-1000001), Cond.methodLink RX6 63 yX5_streetNumbered, Cond.instanceMethod yX5_streetNumbered, Cond.selects RX5 yX5_streetNumbered yX5_streetNumbered, Cond.initialized RX5, Cond.code yX5_streetNumbered cX5_streetNumbered 2 (some (.object "WrongedMeters$Street")), Cond.fieldLink RX5 19 "WrongedMeters$Town" "streets" "[LWrongedMeters$Street;", Cond.methodLink RX6 80 yX4_houseRanked, Cond.instanceMethod yX4_houseRanked, Cond.selects RX4 yX4_houseRanked yX4_houseRanked, Cond.initialized RX4, Cond.code yX4_houseRanked cX4_houseRanked 5 (some .int), Cond.constant RX4 32 (-1000004), Cond.methodLink RX4 25 yX4_stepAhead, Cond.instanceMethod yX4_stepAhead, Cond.selects RX4 yX4_stepAhead yX4_stepAhead]
def wsL_areRounds_r2 : List Cond := [Cond.code yX4_stepAhead cX4_stepAhead 2 (some .int), Cond.fieldLink RX4 15 "WrongedMeters$Street" "latestStep" "I", Cond.methodLink RX4 29 yX4_houseOn, Cond.instanceMethod yX4_houseOn, Cond.selects RX4 yX4_houseOn yX4_houseOn, Cond.code yX4_houseOn cX4_houseOn 2 (some .int), Cond.fieldLink RX4 9 "WrongedMeters$Street" "houses" "[I", Cond.methodLink RL 25 yL_round, Cond.static yL_round, Cond.initialized RL, Cond.code yL_round cL_round 8 (some .int), Cond.methodLink RL 20 yL_at, Cond.static yL_at, Cond.code yL_at cL_at 5 (some .int)]
def wsL_areRounds : List Cond := .code yL_areRounds cL_areRounds 8 (some .boolean) :: ((wsL_areRounds_r1 ++ wsL_areRounds_r2) ++ wsX60 ++ wsX50 ++ wsX40)
def wsL_isActed_r1 : List Cond := [Cond.constant RL 67 (-1000002), Cond.constant RL 42 (-1000001), Cond.methodLink RL 20 yL_at, Cond.static yL_at, Cond.initialized RL, Cond.code yL_at cL_at 5 (some .int), Cond.methodLink RL 64 yX6_house, Cond.instanceMethod yX6_house, Cond.selects RX6 yX6_house yX6_house, Cond.initialized RX6, Cond.code yX6_house cX6_house 3 (some .int), Cond.methodLink RX6 33 yX6_carryOut, Cond.instanceMethod yX6_carryOut, Cond.selects RX6 yX6_carryOut yX6_carryOut, Cond.code yX6_carryOut cX6_carryOut 4 (some .int), Cond.fieldLink RX6 22 "WrongedMeters" "history" "LWrongedMeters$History;", Cond.fieldLink RX6 10 "WrongedMeters" "town" "LWrongedMeters$Town;", Cond.methodLink RX6 37 yX0_record, Cond.instanceMethod yX0_record, Cond.selects RX0 yX0_record yX0_record, Cond.initialized RX0, Cond.code yX0_record cX0_record 2 none, Cond.fieldLink RX0 18 "WrongedMeters$History" "freeSlot" "I", Cond.fieldLink RX0 13 "WrongedMeters$History" "states" "[LWrongedMeters$Town;"]
def wsL_isActed_r2 : List Cond := [Cond.methodLink RX0 22 yX5_copyFrom, Cond.instanceMethod yX5_copyFrom, Cond.selects RX5 yX5_copyFrom yX5_copyFrom, Cond.initialized RX5, Cond.code yX5_copyFrom cX5_copyFrom 3 none, Cond.fieldLink RX5 11 "WrongedMeters$Town" "houses" "[LWrongedMeters$House;", Cond.fieldLink RX5 19 "WrongedMeters$Town" "streets" "[LWrongedMeters$Street;", Cond.fieldLink RX5 26 "WrongedMeters$Town" "ledger" "LWrongedMeters$Ledger;", Cond.fieldLink RX5 30 "WrongedMeters$Town" "settings" "[I", Cond.methodLink RX5 49 arraycopyName, Cond.native arraycopyName, Cond.static arraycopyName, Cond.initialized "java/lang/System", Cond.fieldLink RX5 55 "WrongedMeters$Town" "houseCount" "I", Cond.fieldLink RX5 59 "WrongedMeters$Town" "now" "I", Cond.fieldLink RX5 62 "WrongedMeters$Town" "readings" "I", Cond.fieldLink RX5 65 "WrongedMeters$Town" "units" "I", Cond.fieldLink RX5 68 "WrongedMeters$Town" "coins" "I", Cond.fieldLink RX5 71 "WrongedMeters$Town" "hundredths" "I", Cond.fieldLink RX5 74 "WrongedMeters$Town" "refunds" "I", Cond.fieldLink RX5 77 "WrongedMeters$Town" "coinsBack" "I", Cond.fieldLink RX5 80 "WrongedMeters$Town" "years" "I", Cond.methodLink RX5 39 yX1_copyFrom, Cond.instanceMethod yX1_copyFrom]
def wsL_isActed_r3 : List Cond := [Cond.selects RX1 yX1_copyFrom yX1_copyFrom, Cond.initialized RX1, Cond.code yX1_copyFrom cX1_copyFrom 2 none, Cond.fieldLink RX1 15 "WrongedMeters$House" "street" "I", Cond.fieldLink RX1 18 "WrongedMeters$House" "place" "I", Cond.fieldLink RX1 21 "WrongedMeters$House" "dial" "I", Cond.fieldLink RX1 24 "WrongedMeters$House" "dialBefore" "I", Cond.fieldLink RX1 27 "WrongedMeters$House" "flow" "I", Cond.fieldLink RX1 30 "WrongedMeters$House" "isLocked" "Z", Cond.fieldLink RX1 34 "WrongedMeters$House" "balance" "I", Cond.fieldLink RX1 9 "WrongedMeters$House" "latestDay" "I", Cond.fieldLink RX1 37 "WrongedMeters$House" "readings" "I", Cond.fieldLink RX1 40 "WrongedMeters$House" "units" "I", Cond.fieldLink RX1 43 "WrongedMeters$House" "timesHouseWronged" "I", Cond.fieldLink RX1 46 "WrongedMeters$House" "timesCompanyWronged" "I", Cond.fieldLink RX1 49 "WrongedMeters$House" "refunds" "I", Cond.fieldLink RX1 52 "WrongedMeters$House" "metersChanged" "I", Cond.methodLink RX5 43 yX4_copyFrom, Cond.instanceMethod yX4_copyFrom, Cond.selects RX4 yX4_copyFrom yX4_copyFrom, Cond.initialized RX4, Cond.code yX4_copyFrom cX4_copyFrom 2 none, Cond.fieldLink RX4 9 "WrongedMeters$Street" "houses" "[I", Cond.methodLink RX4 19 arraycopyName]
def wsL_isActed_r4 : List Cond := [Cond.fieldLink RX4 15 "WrongedMeters$Street" "latestStep" "I", Cond.methodLink RX5 46 yX2_copyFrom, Cond.instanceMethod yX2_copyFrom, Cond.selects RX2 yX2_copyFrom yX2_copyFrom, Cond.initialized RX2, Cond.code yX2_copyFrom cX2_copyFrom 2 none, Cond.fieldLink RX2 11 "WrongedMeters$Ledger" "facts" "[I", Cond.methodLink RX2 15 arraycopyName, Cond.fieldLink RX2 21 "WrongedMeters$Ledger" "nextRow" "I", Cond.fieldLink RX2 25 "WrongedMeters$Ledger" "size" "I", Cond.methodLink RX6 176 yX5_obey, Cond.instanceMethod yX5_obey, Cond.selects RX5 yX5_obey yX5_obey, Cond.code yX5_obey cX5_obey 4 (some .int), Cond.constant RX5 100 (-1000001), Cond.constant RX5 101 (-1000003), Cond.methodLink RX5 83 yX5_addHouse, Cond.instanceMethod yX5_addHouse, Cond.selects RX5 yX5_addHouse yX5_addHouse, Cond.code yX5_addHouse cX5_addHouse 5 (some .int), Cond.constant RX5 119 (-1000002), Cond.methodLink RX5 105 yX5_streetNumbered, Cond.instanceMethod yX5_streetNumbered, Cond.selects RX5 yX5_streetNumbered yX5_streetNumbered]
def wsL_isActed_r5 : List Cond := [Cond.code yX5_streetNumbered cX5_streetNumbered 2 (some (.object "WrongedMeters$Street")), Cond.static yX6_isPlace, Cond.code yX6_isPlace cX6_isPlace 1 (some .boolean), Cond.static yX6_stepOf, Cond.code yX6_stepOf cX6_stepOf 1 (some .int), Cond.methodLink RX5 116 yX4_houseOn, Cond.instanceMethod yX4_houseOn, Cond.selects RX4 yX4_houseOn yX4_houseOn, Cond.code yX4_houseOn cX4_houseOn 2 (some .int), Cond.methodLink RX5 126 yX4_putHouse, Cond.instanceMethod yX4_putHouse, Cond.selects RX4 yX4_putHouse yX4_putHouse, Cond.code yX4_putHouse cX4_putHouse 3 none, Cond.methodLink RX5 87 yX5_putFlow, Cond.instanceMethod yX5_putFlow, Cond.selects RX5 yX5_putFlow yX5_putFlow, Cond.code yX5_putFlow cX5_putFlow 5 (some .int), Cond.methodLink RX5 130 yX5_houseNumbered, Cond.instanceMethod yX5_houseNumbered, Cond.selects RX5 yX5_houseNumbered yX5_houseNumbered, Cond.code yX5_houseNumbered cX5_houseNumbered 2 (some (.object "WrongedMeters$House")), Cond.methodLink RX5 90 yX5_turnLock, Cond.instanceMethod yX5_turnLock, Cond.selects RX5 yX5_turnLock yX5_turnLock]
def wsL_isActed_r6 : List Cond := [Cond.code yX5_turnLock cX5_turnLock 3 (some .int), Cond.methodLink RX5 141 yX5_putLock, Cond.instanceMethod yX5_putLock, Cond.selects RX5 yX5_putLock yX5_putLock, Cond.code yX5_putLock cX5_putLock 5 (some .int), Cond.methodLink RX5 94 yX5_readIfOpen, Cond.instanceMethod yX5_readIfOpen, Cond.selects RX5 yX5_readIfOpen yX5_readIfOpen, Cond.code yX5_readIfOpen cX5_readIfOpen 3 (some .int), Cond.methodLink RX5 151 yX1_reasonOn, Cond.instanceMethod yX1_reasonOn, Cond.selects RX1 yX1_reasonOn yX1_reasonOn, Cond.code yX1_reasonOn cX1_reasonOn 2 (some .int), Cond.methodLink RX5 154 yX5_readMeter, Cond.instanceMethod yX5_readMeter, Cond.selects RX5 yX5_readMeter yX5_readMeter, Cond.code yX5_readMeter cX5_readMeter 5 (some .int), Cond.methodLink RX5 161 yX1_used, Cond.instanceMethod yX1_used, Cond.selects RX1 yX1_used yX1_used, Cond.code yX1_used cX1_used 1 (some .int), Cond.constant RX1 55 (100000), Cond.static yX6_unitsFor, Cond.code yX6_unitsFor cX6_unitsFor 2 (some .int)]
def wsL_isActed_r7 : List Cond := [Cond.methodLink RX5 171 yX1_settle, Cond.instanceMethod yX1_settle, Cond.selects RX1 yX1_settle yX1_settle, Cond.code yX1_settle cX1_settle 4 none, Cond.methodLink RX5 175 yX2_add, Cond.instanceMethod yX2_add, Cond.selects RX2 yX2_add yX2_add, Cond.code yX2_add cX2_add 7 none, Cond.methodLink RX5 97 yX5_changeMeter, Cond.instanceMethod yX5_changeMeter, Cond.selects RX5 yX5_changeMeter yX5_changeMeter, Cond.code yX5_changeMeter cX5_changeMeter 4 (some .int), Cond.methodLink RX5 158 yX1_renewMeter, Cond.instanceMethod yX1_renewMeter, Cond.selects RX1 yX1_renewMeter yX1_renewMeter, Cond.code yX1_renewMeter cX1_renewMeter 1 none, Cond.methodLink RX5 102 yX5_passDays, Cond.instanceMethod yX5_passDays, Cond.selects RX5 yX5_passDays yX5_passDays, Cond.code yX5_passDays cX5_passDays 8 (some .int), Cond.methodLink RX5 179 yX1_goOn, Cond.instanceMethod yX1_goOn, Cond.selects RX1 yX1_goOn yX1_goOn, Cond.code yX1_goOn cX1_goOn 1 none]
def wsL_isActed_r8 : List Cond := [Cond.methodLink RX5 182 yX5_walk, Cond.instanceMethod yX5_walk, Cond.selects RX5 yX5_walk yX5_walk, Cond.code yX5_walk cX5_walk 8 none, Cond.methodLink RX5 188 yX4_stepAhead, Cond.instanceMethod yX4_stepAhead, Cond.selects RX4 yX4_stepAhead yX4_stepAhead, Cond.code yX4_stepAhead cX4_stepAhead 2 (some .int), Cond.methodLink RX5 185 yX5_endYear, Cond.instanceMethod yX5_endYear, Cond.selects RX5 yX5_endYear yX5_endYear, Cond.code yX5_endYear cX5_endYear 5 none, Cond.methodLink RX6 45 yX6_kept, Cond.instanceMethod yX6_kept, Cond.selects RX6 yX6_kept yX6_kept, Cond.code yX6_kept cX6_kept 2 (some .int), Cond.methodLink RX6 179 yX0_keep, Cond.instanceMethod yX0_keep, Cond.selects RX0 yX0_keep yX0_keep, Cond.code yX0_keep cX0_keep 1 none, Cond.fieldLink RX0 26 "WrongedMeters$History" "size" "I", Cond.methodLink RL 68 yX6_flow, Cond.instanceMethod yX6_flow, Cond.selects RX6 yX6_flow yX6_flow]
def wsL_isActed_r9 : List Cond := [Cond.code yX6_flow cX6_flow 3 (some .int), Cond.methodLink RL 71 yX6_read, Cond.instanceMethod yX6_read, Cond.selects RX6 yX6_read yX6_read, Cond.code yX6_read cX6_read 2 (some .int), Cond.methodLink RL 73 yX6_change, Cond.instanceMethod yX6_change, Cond.selects RX6 yX6_change yX6_change, Cond.code yX6_change cX6_change 2 (some .int), Cond.methodLink RL 76 yX6_lock, Cond.instanceMethod yX6_lock, Cond.selects RX6 yX6_lock yX6_lock, Cond.code yX6_lock cX6_lock 3 (some .int), Cond.methodLink RX6 41 yX5_putLock, Cond.methodLink RL 29 yL_why, Cond.static yL_why, Cond.code yL_why cL_why 3 (some .int), Cond.methodLink RL 32 yL_read, Cond.static yL_read, Cond.code yL_read cL_read 9 (some .int), Cond.methodLink RL 10 yL_used, Cond.static yL_used, Cond.code yL_used cL_used 3 (some .int), Cond.constant RL 9 (100000)]
def wsL_isActed_r10 : List Cond := [Cond.methodLink RL 16 yL_units, Cond.static yL_units, Cond.code yL_units cL_units 7 (some .int), Cond.methodLink RL 80 yX6_set, Cond.instanceMethod yX6_set, Cond.selects RX6 yX6_set yX6_set, Cond.code yX6_set cX6_set 3 (some .int), Cond.methodLink RX6 49 yX5_putSetting, Cond.instanceMethod yX5_putSetting, Cond.selects RX5 yX5_putSetting yX5_putSetting, Cond.code yX5_putSetting cX5_putSetting 4 (some .int), Cond.methodLink RL 83 yL_day, Cond.static yL_day, Cond.code yL_day cL_day 12 (some .int), Cond.constant RL 24 (99999), Cond.methodLink RL 25 yL_round, Cond.static yL_round, Cond.code yL_round cL_round 8 (some .int), Cond.methodLink RL 87 yX6_days, Cond.instanceMethod yX6_days, Cond.selects RX6 yX6_days yX6_days, Cond.code yX6_days cX6_days 2 (some .int)]
def wsL_isActed : List Cond := .code yL_isActed cL_isActed 15 (some .boolean) :: ((wsL_isActed_r1 ++ (wsL_isActed_r2 ++ (wsL_isActed_r3 ++ (wsL_isActed_r4 ++ (wsL_isActed_r5 ++ (wsL_isActed_r6 ++ (wsL_isActed_r7 ++ (wsL_isActed_r8 ++ (wsL_isActed_r9 ++ wsL_isActed_r10))))))))) ++ wsX60 ++ wsX00 ++ wsX50 ++ wsX10 ++ wsX40 ++ wsX20)
def wsL_law_r1 : List Cond := [Cond.classLink RL 37 RX6, Cond.instantiable RX6 4, Cond.initialized RX6, Cond.arrayClass .int, Cond.constant RL 8 (2147483647), Cond.methodLink RL 90 yX6_init, Cond.instanceMethod yX6_init, Cond.code yX6_init cX6_init 1 none, Cond.methodLink RX6 1 objectInit, Cond.instanceMethod objectInit, Cond.code objectInit ⟨#[0xb1]⟩ 1 none, Cond.classLink RX6 7 RX5, Cond.instantiable RX5 13, Cond.initialized RX5, Cond.fieldLink RX6 10 "WrongedMeters" "town" "LWrongedMeters$Town;", Cond.fieldLink RX6 16 "WrongedMeters" "trial" "LWrongedMeters$Town;", Cond.classLink RX6 19 RX0, Cond.instantiable RX0 3, Cond.initialized RX0, Cond.fieldLink RX6 22 "WrongedMeters" "history" "LWrongedMeters$History;", Cond.classLink RX6 26 RX3, Cond.instantiable RX3 10, Cond.initialized RX3, Cond.fieldLink RX6 29 "WrongedMeters" "orders" "LWrongedMeters$Orders;"]
def wsL_law_r2 : List Cond := [Cond.methodLink RX6 9 yX5_init, Cond.instanceMethod yX5_init, Cond.code yX5_init cX5_init 2 none, Cond.methodLink RX5 3 objectInit, Cond.classLink RX5 9 RX1, Cond.fieldLink RX5 11 "WrongedMeters$Town" "houses" "[LWrongedMeters$House;", Cond.classLink RX5 17 RX4, Cond.fieldLink RX5 19 "WrongedMeters$Town" "streets" "[LWrongedMeters$Street;", Cond.classLink RX5 23 RX2, Cond.instantiable RX2 3, Cond.initialized RX2, Cond.fieldLink RX5 26 "WrongedMeters$Town" "ledger" "LWrongedMeters$Ledger;", Cond.fieldLink RX5 30 "WrongedMeters$Town" "settings" "[I", Cond.instantiable RX1 14, Cond.initialized RX1, Cond.instantiable RX4 2, Cond.initialized RX4, Cond.instanceMethod yX2_init, Cond.code yX2_init cX2_init 1 none, Cond.methodLink RX2 3 objectInit, Cond.fieldLink RX2 11 "WrongedMeters$Ledger" "facts" "[I", Cond.instanceMethod yX1_init, Cond.code yX1_init cX1_init 1 none, Cond.methodLink RX1 3 objectInit]
def wsL_law_r3 : List Cond := [Cond.fieldLink RX1 9 "WrongedMeters$House" "latestDay" "I", Cond.methodLink RX5 35 yX4_init, Cond.instanceMethod yX4_init, Cond.code yX4_init cX4_init 2 none, Cond.methodLink RX4 3 objectInit, Cond.fieldLink RX4 9 "WrongedMeters$Street" "houses" "[I", Cond.fieldLink RX4 15 "WrongedMeters$Street" "latestStep" "I", Cond.methodLink RX6 21 yX0_init, Cond.instanceMethod yX0_init, Cond.code yX0_init cX0_init 2 none, Cond.methodLink RX0 5 objectInit, Cond.classLink RX0 11 RX5, Cond.fieldLink RX0 13 "WrongedMeters$History" "states" "[LWrongedMeters$Town;", Cond.methodLink RX0 17 yX5_init, Cond.instanceMethod yX3_init, Cond.code yX3_init cX3_init 1 none, Cond.methodLink RX3 3 objectInit, Cond.fieldLink RX3 11 "WrongedMeters$Orders" "text" "[I", Cond.methodLink RL 91 yL_cell, Cond.static yL_cell, Cond.initialized RL, Cond.code yL_cell cL_cell 2 (some .int), Cond.constant RL 7 (40503), Cond.methodLink RL 94 yL_isActed]
def wsL_law_r4 : List Cond := [Cond.static yL_isActed, Cond.code yL_isActed cL_isActed 15 (some .boolean), Cond.constant RL 67 (-1000002), Cond.constant RL 42 (-1000001), Cond.methodLink RL 20 yL_at, Cond.static yL_at, Cond.code yL_at cL_at 5 (some .int), Cond.methodLink RL 64 yX6_house, Cond.instanceMethod yX6_house, Cond.selects RX6 yX6_house yX6_house, Cond.code yX6_house cX6_house 3 (some .int), Cond.methodLink RX6 33 yX6_carryOut, Cond.instanceMethod yX6_carryOut, Cond.selects RX6 yX6_carryOut yX6_carryOut, Cond.code yX6_carryOut cX6_carryOut 4 (some .int), Cond.methodLink RX6 37 yX0_record, Cond.instanceMethod yX0_record, Cond.selects RX0 yX0_record yX0_record, Cond.code yX0_record cX0_record 2 none, Cond.fieldLink RX0 18 "WrongedMeters$History" "freeSlot" "I", Cond.methodLink RX0 22 yX5_copyFrom, Cond.instanceMethod yX5_copyFrom, Cond.selects RX5 yX5_copyFrom yX5_copyFrom, Cond.code yX5_copyFrom cX5_copyFrom 3 none]
def wsL_law_r5 : List Cond := [Cond.methodLink RX5 49 arraycopyName, Cond.native arraycopyName, Cond.static arraycopyName, Cond.initialized "java/lang/System", Cond.fieldLink RX5 55 "WrongedMeters$Town" "houseCount" "I", Cond.fieldLink RX5 59 "WrongedMeters$Town" "now" "I", Cond.fieldLink RX5 62 "WrongedMeters$Town" "readings" "I", Cond.fieldLink RX5 65 "WrongedMeters$Town" "units" "I", Cond.fieldLink RX5 68 "WrongedMeters$Town" "coins" "I", Cond.fieldLink RX5 71 "WrongedMeters$Town" "hundredths" "I", Cond.fieldLink RX5 74 "WrongedMeters$Town" "refunds" "I", Cond.fieldLink RX5 77 "WrongedMeters$Town" "coinsBack" "I", Cond.fieldLink RX5 80 "WrongedMeters$Town" "years" "I", Cond.methodLink RX5 39 yX1_copyFrom, Cond.instanceMethod yX1_copyFrom, Cond.selects RX1 yX1_copyFrom yX1_copyFrom, Cond.code yX1_copyFrom cX1_copyFrom 2 none, Cond.fieldLink RX1 15 "WrongedMeters$House" "street" "I", Cond.fieldLink RX1 18 "WrongedMeters$House" "place" "I", Cond.fieldLink RX1 21 "WrongedMeters$House" "dial" "I", Cond.fieldLink RX1 24 "WrongedMeters$House" "dialBefore" "I", Cond.fieldLink RX1 27 "WrongedMeters$House" "flow" "I", Cond.fieldLink RX1 30 "WrongedMeters$House" "isLocked" "Z", Cond.fieldLink RX1 34 "WrongedMeters$House" "balance" "I"]
def wsL_law_r6 : List Cond := [Cond.fieldLink RX1 37 "WrongedMeters$House" "readings" "I", Cond.fieldLink RX1 40 "WrongedMeters$House" "units" "I", Cond.fieldLink RX1 43 "WrongedMeters$House" "timesHouseWronged" "I", Cond.fieldLink RX1 46 "WrongedMeters$House" "timesCompanyWronged" "I", Cond.fieldLink RX1 49 "WrongedMeters$House" "refunds" "I", Cond.fieldLink RX1 52 "WrongedMeters$House" "metersChanged" "I", Cond.methodLink RX5 43 yX4_copyFrom, Cond.instanceMethod yX4_copyFrom, Cond.selects RX4 yX4_copyFrom yX4_copyFrom, Cond.code yX4_copyFrom cX4_copyFrom 2 none, Cond.methodLink RX4 19 arraycopyName, Cond.methodLink RX5 46 yX2_copyFrom, Cond.instanceMethod yX2_copyFrom, Cond.selects RX2 yX2_copyFrom yX2_copyFrom, Cond.code yX2_copyFrom cX2_copyFrom 2 none, Cond.methodLink RX2 15 arraycopyName, Cond.fieldLink RX2 21 "WrongedMeters$Ledger" "nextRow" "I", Cond.fieldLink RX2 25 "WrongedMeters$Ledger" "size" "I", Cond.methodLink RX6 176 yX5_obey, Cond.instanceMethod yX5_obey, Cond.selects RX5 yX5_obey yX5_obey, Cond.code yX5_obey cX5_obey 4 (some .int), Cond.constant RX5 100 (-1000001), Cond.constant RX5 101 (-1000003)]
def wsL_law_r7 : List Cond := [Cond.methodLink RX5 83 yX5_addHouse, Cond.instanceMethod yX5_addHouse, Cond.selects RX5 yX5_addHouse yX5_addHouse, Cond.code yX5_addHouse cX5_addHouse 5 (some .int), Cond.constant RX5 119 (-1000002), Cond.methodLink RX5 105 yX5_streetNumbered, Cond.instanceMethod yX5_streetNumbered, Cond.selects RX5 yX5_streetNumbered yX5_streetNumbered, Cond.code yX5_streetNumbered cX5_streetNumbered 2 (some (.object "WrongedMeters$Street")), Cond.static yX6_isPlace, Cond.code yX6_isPlace cX6_isPlace 1 (some .boolean), Cond.static yX6_stepOf, Cond.code yX6_stepOf cX6_stepOf 1 (some .int), Cond.methodLink RX5 116 yX4_houseOn, Cond.instanceMethod yX4_houseOn, Cond.selects RX4 yX4_houseOn yX4_houseOn, Cond.code yX4_houseOn cX4_houseOn 2 (some .int), Cond.methodLink RX5 126 yX4_putHouse, Cond.instanceMethod yX4_putHouse, Cond.selects RX4 yX4_putHouse yX4_putHouse, Cond.code yX4_putHouse cX4_putHouse 3 none, Cond.methodLink RX5 87 yX5_putFlow, Cond.instanceMethod yX5_putFlow, Cond.selects RX5 yX5_putFlow yX5_putFlow]
def wsL_law_r8 : List Cond := [Cond.code yX5_putFlow cX5_putFlow 5 (some .int), Cond.methodLink RX5 130 yX5_houseNumbered, Cond.instanceMethod yX5_houseNumbered, Cond.selects RX5 yX5_houseNumbered yX5_houseNumbered, Cond.code yX5_houseNumbered cX5_houseNumbered 2 (some (.object "WrongedMeters$House")), Cond.methodLink RX5 90 yX5_turnLock, Cond.instanceMethod yX5_turnLock, Cond.selects RX5 yX5_turnLock yX5_turnLock, Cond.code yX5_turnLock cX5_turnLock 3 (some .int), Cond.methodLink RX5 141 yX5_putLock, Cond.instanceMethod yX5_putLock, Cond.selects RX5 yX5_putLock yX5_putLock, Cond.code yX5_putLock cX5_putLock 5 (some .int), Cond.methodLink RX5 94 yX5_readIfOpen, Cond.instanceMethod yX5_readIfOpen, Cond.selects RX5 yX5_readIfOpen yX5_readIfOpen, Cond.code yX5_readIfOpen cX5_readIfOpen 3 (some .int), Cond.methodLink RX5 151 yX1_reasonOn, Cond.instanceMethod yX1_reasonOn, Cond.selects RX1 yX1_reasonOn yX1_reasonOn, Cond.code yX1_reasonOn cX1_reasonOn 2 (some .int), Cond.methodLink RX5 154 yX5_readMeter, Cond.instanceMethod yX5_readMeter, Cond.selects RX5 yX5_readMeter yX5_readMeter]
def wsL_law_r9 : List Cond := [Cond.code yX5_readMeter cX5_readMeter 5 (some .int), Cond.methodLink RX5 161 yX1_used, Cond.instanceMethod yX1_used, Cond.selects RX1 yX1_used yX1_used, Cond.code yX1_used cX1_used 1 (some .int), Cond.constant RX1 55 (100000), Cond.static yX6_unitsFor, Cond.code yX6_unitsFor cX6_unitsFor 2 (some .int), Cond.methodLink RX5 171 yX1_settle, Cond.instanceMethod yX1_settle, Cond.selects RX1 yX1_settle yX1_settle, Cond.code yX1_settle cX1_settle 4 none, Cond.methodLink RX5 175 yX2_add, Cond.instanceMethod yX2_add, Cond.selects RX2 yX2_add yX2_add, Cond.code yX2_add cX2_add 7 none, Cond.methodLink RX5 97 yX5_changeMeter, Cond.instanceMethod yX5_changeMeter, Cond.selects RX5 yX5_changeMeter yX5_changeMeter, Cond.code yX5_changeMeter cX5_changeMeter 4 (some .int), Cond.methodLink RX5 158 yX1_renewMeter, Cond.instanceMethod yX1_renewMeter, Cond.selects RX1 yX1_renewMeter yX1_renewMeter, Cond.code yX1_renewMeter cX1_renewMeter 1 none]
def wsL_law_r10 : List Cond := [Cond.methodLink RX5 102 yX5_passDays, Cond.instanceMethod yX5_passDays, Cond.selects RX5 yX5_passDays yX5_passDays, Cond.code yX5_passDays cX5_passDays 8 (some .int), Cond.methodLink RX5 179 yX1_goOn, Cond.instanceMethod yX1_goOn, Cond.selects RX1 yX1_goOn yX1_goOn, Cond.code yX1_goOn cX1_goOn 1 none, Cond.methodLink RX5 182 yX5_walk, Cond.instanceMethod yX5_walk, Cond.selects RX5 yX5_walk yX5_walk, Cond.code yX5_walk cX5_walk 8 none, Cond.methodLink RX5 188 yX4_stepAhead, Cond.instanceMethod yX4_stepAhead, Cond.selects RX4 yX4_stepAhead yX4_stepAhead, Cond.code yX4_stepAhead cX4_stepAhead 2 (some .int), Cond.methodLink RX5 185 yX5_endYear, Cond.instanceMethod yX5_endYear, Cond.selects RX5 yX5_endYear yX5_endYear, Cond.code yX5_endYear cX5_endYear 5 none, Cond.methodLink RX6 45 yX6_kept, Cond.instanceMethod yX6_kept, Cond.selects RX6 yX6_kept yX6_kept, Cond.code yX6_kept cX6_kept 2 (some .int)]
def wsL_law_r11 : List Cond := [Cond.methodLink RX6 179 yX0_keep, Cond.instanceMethod yX0_keep, Cond.selects RX0 yX0_keep yX0_keep, Cond.code yX0_keep cX0_keep 1 none, Cond.fieldLink RX0 26 "WrongedMeters$History" "size" "I", Cond.methodLink RL 68 yX6_flow, Cond.instanceMethod yX6_flow, Cond.selects RX6 yX6_flow yX6_flow, Cond.code yX6_flow cX6_flow 3 (some .int), Cond.methodLink RL 71 yX6_read, Cond.instanceMethod yX6_read, Cond.selects RX6 yX6_read yX6_read, Cond.code yX6_read cX6_read 2 (some .int), Cond.methodLink RL 73 yX6_change, Cond.instanceMethod yX6_change, Cond.selects RX6 yX6_change yX6_change, Cond.code yX6_change cX6_change 2 (some .int), Cond.methodLink RL 76 yX6_lock, Cond.instanceMethod yX6_lock, Cond.selects RX6 yX6_lock yX6_lock, Cond.code yX6_lock cX6_lock 3 (some .int), Cond.methodLink RX6 41 yX5_putLock, Cond.methodLink RL 29 yL_why, Cond.static yL_why]
def wsL_law_r12 : List Cond := [Cond.code yL_why cL_why 3 (some .int), Cond.methodLink RL 32 yL_read, Cond.static yL_read, Cond.code yL_read cL_read 9 (some .int), Cond.methodLink RL 10 yL_used, Cond.static yL_used, Cond.code yL_used cL_used 3 (some .int), Cond.constant RL 9 (100000), Cond.methodLink RL 16 yL_units, Cond.static yL_units, Cond.code yL_units cL_units 7 (some .int), Cond.methodLink RL 80 yX6_set, Cond.instanceMethod yX6_set, Cond.selects RX6 yX6_set yX6_set, Cond.code yX6_set cX6_set 3 (some .int), Cond.methodLink RX6 49 yX5_putSetting, Cond.instanceMethod yX5_putSetting, Cond.selects RX5 yX5_putSetting yX5_putSetting, Cond.code yX5_putSetting cX5_putSetting 4 (some .int), Cond.methodLink RL 83 yL_day, Cond.static yL_day, Cond.code yL_day cL_day 12 (some .int), Cond.constant RL 24 (99999), Cond.methodLink RL 25 yL_round]
def wsL_law_r13 : List Cond := [Cond.static yL_round, Cond.code yL_round cL_round 8 (some .int), Cond.methodLink RL 87 yX6_days, Cond.instanceMethod yX6_days, Cond.selects RX6 yX6_days yX6_days, Cond.code yX6_days cX6_days 2 (some .int), Cond.methodLink RL 98 yL_areHouses, Cond.static yL_areHouses, Cond.code yL_areHouses cL_areHouses 10 (some .boolean), Cond.constant RL 46 (-1000004), Cond.methodLink RL 36 yX6_houseOf, Cond.instanceMethod yX6_houseOf, Cond.selects RX6 yX6_houseOf yX6_houseOf, Cond.code yX6_houseOf cX6_houseOf 4 (some .int), Cond.constant RX6 57 (-1000001), Cond.methodLink RX6 53 yX5_houseNumbered, Cond.methodLink RX6 58 yX1_fact, Cond.instanceMethod yX1_fact, Cond.selects RX1 yX1_fact yX1_fact, Cond.code yX1_fact cX1_fact 2 (some .int), Cond.constant RX1 60 (-1000004), Cond.constant RX1 61 (-1000001), Cond.methodLink RX1 56 yX1_used, Cond.methodLink RL 43 yX6_why]
def wsL_law_r14 : List Cond := [Cond.instanceMethod yX6_why, Cond.selects RX6 yX6_why yX6_why, Cond.code yX6_why cX6_why 3 (some .int), Cond.methodLink RX6 96 yX1_reasonOn, Cond.methodLink RL 47 yX6_ifRead, Cond.instanceMethod yX6_ifRead, Cond.selects RX6 yX6_ifRead yX6_ifRead, Cond.code yX6_ifRead cX6_ifRead 7 (some .int), Cond.methodLink RX6 99 yX1_used, Cond.methodLink RX6 106 yX6_unitsFor, Cond.methodLink RL 50 yX6_at, Cond.instanceMethod yX6_at, Cond.selects RX6 yX6_at yX6_at, Cond.code yX6_at cX6_at 5 (some .int), Cond.constant RX6 79 (-1000004), Cond.methodLink RX6 63 yX5_streetNumbered, Cond.methodLink RX6 67 yX6_isPlace, Cond.methodLink RX6 71 yX6_stepOf, Cond.methodLink RX6 74 yX4_houseOn, Cond.methodLink RL 102 yL_areSums, Cond.static yL_areSums, Cond.code yL_areSums cL_areSums 12 (some .boolean), Cond.methodLink RL 52 yX6_wronged, Cond.instanceMethod yX6_wronged]
def wsL_law_r15 : List Cond := [Cond.selects RX6 yX6_wronged yX6_wronged, Cond.code yX6_wronged cX6_wronged 2 (some .int), Cond.methodLink RX6 113 yX5_houseByBalance, Cond.instanceMethod yX5_houseByBalance, Cond.selects RX5 yX5_houseByBalance yX5_houseByBalance, Cond.code yX5_houseByBalance cX5_houseByBalance 3 (some .int), Cond.constant RX5 195 (-1000004), Cond.methodLink RX5 196 yX5_housesAhead, Cond.instanceMethod yX5_housesAhead, Cond.selects RX5 yX5_housesAhead yX5_housesAhead, Cond.code yX5_housesAhead cX5_housesAhead 6 (some .int), Cond.methodLink RL 55 yX6_ledger, Cond.instanceMethod yX6_ledger, Cond.selects RX6 yX6_ledger yX6_ledger, Cond.code yX6_ledger cX6_ledger 3 (some .int), Cond.methodLink RX6 87 yX2_entry, Cond.instanceMethod yX2_entry, Cond.selects RX2 yX2_entry yX2_entry, Cond.code yX2_entry cX2_entry 4 (some .int), Cond.constant RX2 28 (-1000001), Cond.constant RX2 29 (-1000004), Cond.methodLink RL 58 yX6_count, Cond.instanceMethod yX6_count, Cond.selects RX6 yX6_count yX6_count]
def wsL_law_r16 : List Cond := [Cond.code yX6_count cX6_count 2 (some .int), Cond.methodLink RX6 150 yX5_number, Cond.instanceMethod yX5_number, Cond.selects RX5 yX5_number yX5_number, Cond.code yX5_number cX5_number 2 (some .int), Cond.methodLink RX5 199 yX5_housesLocked, Cond.instanceMethod yX5_housesLocked, Cond.selects RX5 yX5_housesLocked yX5_housesLocked, Cond.code yX5_housesLocked cX5_housesLocked 6 (some .int), Cond.methodLink RX5 202 yX5_housesBetween, Cond.instanceMethod yX5_housesBetween, Cond.selects RX5 yX5_housesBetween yX5_housesBetween, Cond.code yX5_housesBetween cX5_housesBetween 8 (some .int), Cond.methodLink RX5 205 yX5_balances, Cond.instanceMethod yX5_balances, Cond.selects RX5 yX5_balances yX5_balances, Cond.code yX5_balances cX5_balances 6 (some .int), Cond.methodLink RL 106 yL_areRounds, Cond.static yL_areRounds, Cond.code yL_areRounds cL_areRounds 8 (some .boolean), Cond.methodLink RL 61 yX6_next, Cond.instanceMethod yX6_next, Cond.selects RX6 yX6_next yX6_next, Cond.code yX6_next cX6_next 4 (some .int)]
def wsL_law_r17 : List Cond := [Cond.methodLink RX6 80 yX4_houseRanked, Cond.instanceMethod yX4_houseRanked, Cond.selects RX4 yX4_houseRanked yX4_houseRanked, Cond.code yX4_houseRanked cX4_houseRanked 5 (some .int), Cond.constant RX4 32 (-1000004), Cond.methodLink RX4 25 yX4_stepAhead, Cond.methodLink RX4 29 yX4_houseOn]
def wsL_law : List Cond := (wsL_law_r1 ++ (wsL_law_r2 ++ (wsL_law_r3 ++ (wsL_law_r4 ++ (wsL_law_r5 ++ (wsL_law_r6 ++ (wsL_law_r7 ++ (wsL_law_r8 ++ (wsL_law_r9 ++ (wsL_law_r10 ++ (wsL_law_r11 ++ (wsL_law_r12 ++ (wsL_law_r13 ++ (wsL_law_r14 ++ (wsL_law_r15 ++ (wsL_law_r16 ++ wsL_law_r17)))))))))))))))) ++ wsX60 ++ wsX50 ++ wsX00 ++ wsX30 ++ wsX20 ++ wsX10 ++ wsX40 ++ ([] : List Cond)
end
section
/-! words compared with their codes byte by byte in a row -/
def weqBytes (a b : ByteArray) : Bool := decide (a.data.toList = b.data.toList)
theorem weqBytes_ok {a b : ByteArray} (h : weqBytes a b = true) : a = b := by
  have h1 : a.data.toList = b.data.toList := of_decide_eq_true h
  cases a with
  | mk x =>
    cases b with
    | mk y => exact congrArg ByteArray.mk (Array.toList_inj.mp h1)
def wcode : Cond → Option (MethodName × ByteArray × Nat × Option FieldType)
  | .code y c n r => some (y, c, n, r)
  | _ => none
theorem wcode_s {w : Cond} {y : MethodName} {c : ByteArray} {n : Nat} {r : Option FieldType} (h : wcode w = some (y, c, n, r)) : w = .code y c n r := by
  cases w <;> first | (simp [wcode] at h; done) | (simp only [wcode, Option.some.injEq, Prod.mk.injEq] at h; obtain ⟨rfl, rfl, rfl, rfl⟩ := h; rfl)
def weq (w v : Cond) : Bool :=
  match wcode w, wcode v with
  | some (y, c, n, r), some (y', c', n', r') => decide (y = y') && weqBytes c c' && decide (n = n') && decide (r = r')
  | none, none => decide (w = v)
  | _, _ => false
theorem weq_ok {w v : Cond} (h : weq w v = true) : w = v := by
  unfold weq at h
  cases e1 : wcode w with
  | none =>
    cases e2 : wcode v with
    | none => rw [e1, e2] at h; exact of_decide_eq_true h
    | some q => rw [e1, e2] at h; exact absurd h (by simp)
  | some p =>
    obtain ⟨y, c, n, r⟩ := p
    cases e2 : wcode v with
    | none => rw [e1, e2] at h; exact absurd h (by simp)
    | some q =>
      obtain ⟨y', c', n', r'⟩ := q
      rw [e1, e2] at h
      simp only [Bool.and_eq_true, decide_eq_true_eq] at h
      obtain ⟨⟨⟨h1, h2⟩, h3⟩, h4⟩ := h
      rw [wcode_s e1, wcode_s e2, h1, weqBytes_ok h2, h3, h4]
def weqs : List Cond → List Cond → Bool
  | [], [] => true
  | w :: l, v :: l' => weq w v && weqs l l'
  | _, _ => false
theorem weqs_ok : ∀ {l l' : List Cond}, weqs l l' = true → l = l'
  | [], [], _ => rfl
  | [], _ :: _, h => by simp [weqs] at h
  | _ :: _, [], h => by simp [weqs] at h
  | w :: l, v :: l', h => by
    simp only [weqs, Bool.and_eq_true] at h
    rw [weq_ok h.1, weqs_ok h.2]
theorem goodIn_rB {big : List Cond} (ws : List Cond) (ps : List Nat) (hp : weqs ws (ps.filterMap (fun i => big[i]?)) = true) (h : ws.all goodWord = true) : GoodIn big ws := goodIn_r ws ps (weqs_ok hp) h
theorem goodIn_pB {big : List Cond} (ws : List Cond) (ps : List Nat) (hp : weqs (ws.filter k2_isCode) (ps.filterMap (fun i => big[i]?)) = true) (h : (ws.filter (fun w => !k2_isCode w)).all (fun w => decide (w ∈ big) && goodWord w) = true) : GoodIn big ws := goodIn_p ws ps (weqs_ok hp) h
end
section
set_option maxRecDepth 20000 in
theorem wsL_in_1 : GoodIn lw_tbl wsL_law_r1 := goodIn_pB _ [27, 30] (by decide +kernel) (by decide +kernel)
set_option maxRecDepth 20000 in
theorem wsL_in_2 : GoodIn lw_tbl wsL_law_r2 := goodIn_pB _ [35, 45, 62] (by decide +kernel) (by decide +kernel)
set_option maxRecDepth 20000 in
theorem wsL_in_3 : GoodIn lw_tbl wsL_law_r3 := goodIn_pB _ [117, 176, 196, 236] (by decide +kernel) (by decide +kernel)
set_option maxRecDepth 20000 in
theorem wsL_in_4 : GoodIn lw_tbl wsL_law_r4 := goodIn_pB _ [380, 377, 384, 388, 392, 396] (by decide +kernel) (by decide +kernel)
set_option maxRecDepth 20000 in
theorem wsL_in_5 : GoodIn lw_tbl wsL_law_r5 := goodIn_pB _ [400] (by decide +kernel) (by decide +kernel)
set_option maxRecDepth 20000 in
theorem wsL_in_6 : GoodIn lw_tbl wsL_law_r6 := goodIn_pB _ [404, 411, 417] (by decide +kernel) (by decide +kernel)
set_option maxRecDepth 20000 in
theorem wsL_in_7 : GoodIn lw_tbl wsL_law_r7 := goodIn_pB _ [421, 296, 299, 302, 306, 431] (by decide +kernel) (by decide +kernel)
set_option maxRecDepth 20000 in
theorem wsL_in_8 : GoodIn lw_tbl wsL_law_r8 := goodIn_pB _ [435, 248, 440, 444, 448, 269] (by decide +kernel) (by decide +kernel)
set_option maxRecDepth 20000 in
theorem wsL_in_9 : GoodIn lw_tbl wsL_law_r9 := goodIn_pB _ [453, 257, 288, 459, 463, 467, 471] (by decide +kernel) (by decide +kernel)
set_option maxRecDepth 20000 in
theorem wsL_in_10 : GoodIn lw_tbl wsL_law_r10 := goodIn_pB _ [475, 479, 483, 369, 488, 492] (by decide +kernel) (by decide +kernel)
set_option maxRecDepth 20000 in
theorem wsL_in_11 : GoodIn lw_tbl wsL_law_r11 := goodIn_pB _ [496, 501, 505, 509, 513] (by decide +kernel) (by decide +kernel)
set_option maxRecDepth 20000 in
theorem wsL_in_12 : GoodIn lw_tbl wsL_law_r12 := goodIn_pB _ [280, 517, 275, 272, 521, 525, 532] (by decide +kernel) (by decide +kernel)
set_option maxRecDepth 20000 in
theorem wsL_in_13 : GoodIn lw_tbl wsL_law_r13 := goodIn_pB _ [374, 537, 240, 244, 253] (by decide +kernel) (by decide +kernel)
set_option maxRecDepth 20000 in
theorem wsL_in_14 : GoodIn lw_tbl wsL_law_r14 := goodIn_pB _ [265, 284, 292, 310] (by decide +kernel) (by decide +kernel)
set_option maxRecDepth 20000 in
theorem wsL_in_15 : GoodIn lw_tbl wsL_law_r15 := goodIn_pB _ [314, 318, 322, 327, 331] (by decide +kernel) (by decide +kernel)
set_option maxRecDepth 20000 in
theorem wsL_in_16 : GoodIn lw_tbl wsL_law_r16 := goodIn_pB _ [337, 341, 345, 349, 353, 357, 361] (by decide +kernel) (by decide +kernel)
set_option maxRecDepth 20000 in
theorem wsL_in_17 : GoodIn lw_tbl wsL_law_r17 := goodIn_pB _ [365] (by decide +kernel) (by decide +kernel)
set_option maxRecDepth 20000 in
theorem wsX_in_60 : GoodIn lw_tbl wsX60 := goodIn_pB _ [] (by decide +kernel) (by decide +kernel)
set_option maxRecDepth 20000 in
theorem wsX_in_50 : GoodIn lw_tbl wsX50 := goodIn_pB _ [] (by decide +kernel) (by decide +kernel)
set_option maxRecDepth 20000 in
theorem wsX_in_00 : GoodIn lw_tbl wsX00 := goodIn_pB _ [] (by decide +kernel) (by decide +kernel)
set_option maxRecDepth 20000 in
theorem wsX_in_30 : GoodIn lw_tbl wsX30 := goodIn_pB _ [] (by decide +kernel) (by decide +kernel)
set_option maxRecDepth 20000 in
theorem wsX_in_20 : GoodIn lw_tbl wsX20 := goodIn_pB _ [] (by decide +kernel) (by decide +kernel)
set_option maxRecDepth 20000 in
theorem wsX_in_10 : GoodIn lw_tbl wsX10 := goodIn_pB _ [] (by decide +kernel) (by decide +kernel)
set_option maxRecDepth 20000 in
theorem wsX_in_40 : GoodIn lw_tbl wsX40 := goodIn_pB _ [] (by decide +kernel) (by decide +kernel)
theorem wsL_law_good : GoodIn lw_tbl wsL_law := (goodIn_app (goodIn_app (goodIn_app (goodIn_app (goodIn_app (goodIn_app (goodIn_app (goodIn_app (goodIn_app wsL_in_1 (goodIn_app wsL_in_2 (goodIn_app wsL_in_3 (goodIn_app wsL_in_4 (goodIn_app wsL_in_5 (goodIn_app wsL_in_6 (goodIn_app wsL_in_7 (goodIn_app wsL_in_8 (goodIn_app wsL_in_9 (goodIn_app wsL_in_10 (goodIn_app wsL_in_11 (goodIn_app wsL_in_12 (goodIn_app wsL_in_13 (goodIn_app wsL_in_14 (goodIn_app wsL_in_15 (goodIn_app wsL_in_16 (wsL_in_17))))))))))))))))) wsX_in_60) wsX_in_50) wsX_in_00) wsX_in_30) wsX_in_20) wsX_in_10) wsX_in_40) (fun _ h => absurd h List.not_mem_nil))
theorem wsL_law_in : ∀ w ∈ wsL_law, w ∈ lw_tbl := fun w h => (wsL_law_good w h).1
theorem inlX0 : ∀ w ∈ wsX00, w ∈ wsL_law := fun _ h => List.mem_append_left _ (List.mem_append_left _ (List.mem_append_left _ (List.mem_append_left _ (List.mem_append_left _ (List.mem_append_right _ h)))))
theorem inX0 : ∀ w ∈ wsX00, w ∈ lw_tbl := fun w h => wsL_law_in w (inlX0 w h)
theorem inlX1 : ∀ w ∈ wsX10, w ∈ wsL_law := fun _ h => List.mem_append_left _ (List.mem_append_left _ (List.mem_append_right _ h))
theorem inX1 : ∀ w ∈ wsX10, w ∈ lw_tbl := fun w h => wsL_law_in w (inlX1 w h)
theorem inlX2 : ∀ w ∈ wsX20, w ∈ wsL_law := fun _ h => List.mem_append_left _ (List.mem_append_left _ (List.mem_append_left _ (List.mem_append_right _ h)))
theorem inX2 : ∀ w ∈ wsX20, w ∈ lw_tbl := fun w h => wsL_law_in w (inlX2 w h)
theorem inlX3 : ∀ w ∈ wsX30, w ∈ wsL_law := fun _ h => List.mem_append_left _ (List.mem_append_left _ (List.mem_append_left _ (List.mem_append_left _ (List.mem_append_right _ h))))
theorem inX3 : ∀ w ∈ wsX30, w ∈ lw_tbl := fun w h => wsL_law_in w (inlX3 w h)
theorem inlX4 : ∀ w ∈ wsX40, w ∈ wsL_law := fun _ h => List.mem_append_left _ (List.mem_append_right _ h)
theorem inX4 : ∀ w ∈ wsX40, w ∈ lw_tbl := fun w h => wsL_law_in w (inlX4 w h)
theorem inlX5 : ∀ w ∈ wsX50, w ∈ wsL_law := fun _ h => List.mem_append_left _ (List.mem_append_left _ (List.mem_append_left _ (List.mem_append_left _ (List.mem_append_left _ (List.mem_append_left _ (List.mem_append_right _ h))))))
theorem inX5 : ∀ w ∈ wsX50, w ∈ lw_tbl := fun w h => wsL_law_in w (inlX5 w h)
theorem inlX6 : ∀ w ∈ wsX60, w ∈ wsL_law := fun _ h => List.mem_append_left _ (List.mem_append_left _ (List.mem_append_left _ (List.mem_append_left _ (List.mem_append_left _ (List.mem_append_left _ (List.mem_append_left _ (List.mem_append_right _ h)))))))
theorem inX6 : ∀ w ∈ wsX60, w ∈ lw_tbl := fun w h => wsL_law_in w (inlX6 w h)
theorem inX7 : ∀ w ∈ wsX70, w ∈ lw_tbl := by decide +kernel
theorem inJ10 : ∀ w ∈ wsJ100, w ∈ lw_tbl := by decide +kernel
abbrev vwCl : List vw_C := [(RX0, TX0, 3), (RX1, TX1, 14), (RX2, TX2, 3), (RX3, TX3, 10), (RX4, TX4, 2), (RX5, TX5, 13), (RX6, TX6, 4)]
end
section
set_option maxRecDepth 20000 in
theorem ggX0_init_X5_init : GoodIn wsX0_init wsX5_init := goodIn_rB _ [10, 11, 2, 3, 12, 13, 14, 15, 16, 17, 18, 19, 20, 21, 22, 23, 24, 25, 26, 27, 28, 29, 30, 31, 32, 33, 34, 35, 36, 37, 38, 39, 43, 44, 45, 46, 47, 48, 49, 50, 51, 52, 53, 54, 55, 56, 57, 58, 59, 60, 61, 62, 63, 64, 65, 66, 67, 68, 69, 70, 71, 72, 73, 74] (by decide +kernel) (by decide +kernel)
set_option maxRecDepth 20000 in
theorem gX0_init_X5_init : GoodIn wsX0_init (wsX5_init) := ggX0_init_X5_init
theorem dX0_init_0 : decode cX0_init 0 = .ok (.aload_n 0, 1) := by decide +kernel
theorem dX0_init_1 : decode cX0_init 1 = .ok (.invokespecial 5, 3) := by decide +kernel
theorem dX0_init_4 : decode cX0_init 4 = .ok (.aload_n 0, 1) := by decide +kernel
theorem dX0_init_5 : decode cX0_init 5 = .ok (.iconst 5, 1) := by decide +kernel
theorem dX0_init_6 : decode cX0_init 6 = .ok (.anewarray 11, 3) := by decide +kernel
theorem dX0_init_9 : decode cX0_init 9 = .ok (.putfield 13, 3) := by decide +kernel
theorem dX0_init_12 : decode cX0_init 12 = .ok (.iconst 0, 1) := by decide +kernel
theorem dX0_init_13 : decode cX0_init 13 = .ok (.istore_n 1, 1) := by decide +kernel
theorem dX0_init_14 : decode cX0_init 14 = .ok (.iload_n 1, 1) := by decide +kernel
theorem dX0_init_15 : decode cX0_init 15 = .ok (.iconst 5, 1) := by decide +kernel
theorem dX0_init_16 : decode cX0_init 16 = .ok (.if_icmp .ge 22, 3) := by decide +kernel
theorem dX0_init_19 : decode cX0_init 19 = .ok (.aload_n 0, 1) := by decide +kernel
theorem dX0_init_20 : decode cX0_init 20 = .ok (.getfield 13, 3) := by decide +kernel
theorem dX0_init_23 : decode cX0_init 23 = .ok (.iload_n 1, 1) := by decide +kernel
theorem dX0_init_24 : decode cX0_init 24 = .ok (.new 11, 3) := by decide +kernel
theorem dX0_init_27 : decode cX0_init 27 = .ok (.dup, 1) := by decide +kernel
theorem dX0_init_28 : decode cX0_init 28 = .ok (.invokespecial 17, 3) := by decide +kernel
theorem dX0_init_31 : decode cX0_init 31 = .ok (.aastore, 1) := by decide +kernel
theorem dX0_init_32 : decode cX0_init 32 = .ok (.iinc 1 1, 3) := by decide +kernel
theorem dX0_init_35 : decode cX0_init 35 = .ok (.goto (-21), 3) := by decide +kernel
theorem dX0_init_38 : decode cX0_init 38 = .ok (.return_, 1) := by decide +kernel
set_option maxRecDepth 20000 in
theorem ggX0_record_X5_copyFrom : GoodIn wsX0_record wsX5_copyFrom := goodIn_rB _ [7, 8, 9, 10, 11, 12, 13, 14, 15, 16, 17, 18, 19, 20, 21, 22, 23, 24, 25, 26, 27, 28, 29, 30, 31, 32, 33, 34, 35, 36, 37, 38, 39, 40, 41, 42, 43, 44, 45, 46, 47, 48, 49, 50, 51, 52, 53, 54, 55, 56, 57, 58, 59, 60, 64, 65, 66, 67, 68, 69, 70, 71, 72, 73, 74, 75, 76, 77, 78, 79, 80, 81, 82, 83, 84, 85, 86, 87, 88, 89, 90, 91, 92, 93, 94, 95] (by decide +kernel) (by decide +kernel)
set_option maxRecDepth 20000 in
theorem gX0_record_X5_copyFrom : GoodIn wsX0_record (wsV RX0 22 RX5 yX5_copyFrom wsX5_copyFrom) := goodIn_app (goodIn_of _ (by decide +kernel)) ggX0_record_X5_copyFrom
theorem dX0_record_0 : decode cX0_record 0 = .ok (.aload_n 0, 1) := by decide +kernel
theorem dX0_record_1 : decode cX0_record 1 = .ok (.getfield 18, 3) := by decide +kernel
theorem dX0_record_4 : decode cX0_record 4 = .ok (.ifCond .lt 24, 3) := by decide +kernel
theorem dX0_record_7 : decode cX0_record 7 = .ok (.aload_n 0, 1) := by decide +kernel
theorem dX0_record_8 : decode cX0_record 8 = .ok (.getfield 18, 3) := by decide +kernel
theorem dX0_record_11 : decode cX0_record 11 = .ok (.iconst 5, 1) := by decide +kernel
theorem dX0_record_12 : decode cX0_record 12 = .ok (.if_icmp .ge 16, 3) := by decide +kernel
theorem dX0_record_15 : decode cX0_record 15 = .ok (.aload_n 0, 1) := by decide +kernel
theorem dX0_record_16 : decode cX0_record 16 = .ok (.getfield 13, 3) := by decide +kernel
theorem dX0_record_19 : decode cX0_record 19 = .ok (.aload_n 0, 1) := by decide +kernel
theorem dX0_record_20 : decode cX0_record 20 = .ok (.getfield 18, 3) := by decide +kernel
theorem dX0_record_23 : decode cX0_record 23 = .ok (.aaload, 1) := by decide +kernel
theorem dX0_record_24 : decode cX0_record 24 = .ok (.aload_n 1, 1) := by decide +kernel
theorem dX0_record_25 : decode cX0_record 25 = .ok (.invokevirtual 22, 3) := by decide +kernel
theorem dX0_record_28 : decode cX0_record 28 = .ok (.return_, 1) := by decide +kernel
theorem dX0_keep_0 : decode cX0_keep 0 = .ok (.aload_n 0, 1) := by decide +kernel
theorem dX0_keep_1 : decode cX0_keep 1 = .ok (.aload_n 0, 1) := by decide +kernel
theorem dX0_keep_2 : decode cX0_keep 2 = .ok (.getfield 18, 3) := by decide +kernel
theorem dX0_keep_5 : decode cX0_keep 5 = .ok (.iconst 1, 1) := by decide +kernel
theorem dX0_keep_6 : decode cX0_keep 6 = .ok (.iadd, 1) := by decide +kernel
theorem dX0_keep_7 : decode cX0_keep 7 = .ok (.iconst 5, 1) := by decide +kernel
theorem dX0_keep_8 : decode cX0_keep 8 = .ok (.irem, 1) := by decide +kernel
theorem dX0_keep_9 : decode cX0_keep 9 = .ok (.putfield 18, 3) := by decide +kernel
theorem dX0_keep_12 : decode cX0_keep 12 = .ok (.aload_n 0, 1) := by decide +kernel
theorem dX0_keep_13 : decode cX0_keep 13 = .ok (.getfield 26, 3) := by decide +kernel
theorem dX0_keep_16 : decode cX0_keep 16 = .ok (.iconst 4, 1) := by decide +kernel
theorem dX0_keep_17 : decode cX0_keep 17 = .ok (.if_icmp .ge 13, 3) := by decide +kernel
theorem dX0_keep_20 : decode cX0_keep 20 = .ok (.aload_n 0, 1) := by decide +kernel
theorem dX0_keep_21 : decode cX0_keep 21 = .ok (.dup, 1) := by decide +kernel
theorem dX0_keep_22 : decode cX0_keep 22 = .ok (.getfield 26, 3) := by decide +kernel
theorem dX0_keep_25 : decode cX0_keep 25 = .ok (.iconst 1, 1) := by decide +kernel
theorem dX0_keep_26 : decode cX0_keep 26 = .ok (.iadd, 1) := by decide +kernel
theorem dX0_keep_27 : decode cX0_keep 27 = .ok (.putfield 26, 3) := by decide +kernel
theorem dX0_keep_30 : decode cX0_keep 30 = .ok (.return_, 1) := by decide +kernel
theorem dX1_init_0 : decode cX1_init 0 = .ok (.aload_n 0, 1) := by decide +kernel
theorem dX1_init_1 : decode cX1_init 1 = .ok (.invokespecial 3, 3) := by decide +kernel
theorem dX1_init_4 : decode cX1_init 4 = .ok (.aload_n 0, 1) := by decide +kernel
theorem dX1_init_5 : decode cX1_init 5 = .ok (.iconst (-1), 1) := by decide +kernel
theorem dX1_init_6 : decode cX1_init 6 = .ok (.putfield 9, 3) := by decide +kernel
theorem dX1_init_9 : decode cX1_init 9 = .ok (.return_, 1) := by decide +kernel
theorem dX1_copyFrom_0 : decode cX1_copyFrom 0 = .ok (.aload_n 0, 1) := by decide +kernel
theorem dX1_copyFrom_1 : decode cX1_copyFrom 1 = .ok (.aload_n 1, 1) := by decide +kernel
theorem dX1_copyFrom_2 : decode cX1_copyFrom 2 = .ok (.getfield 15, 3) := by decide +kernel
theorem dX1_copyFrom_5 : decode cX1_copyFrom 5 = .ok (.putfield 15, 3) := by decide +kernel
theorem dX1_copyFrom_8 : decode cX1_copyFrom 8 = .ok (.aload_n 0, 1) := by decide +kernel
theorem dX1_copyFrom_9 : decode cX1_copyFrom 9 = .ok (.aload_n 1, 1) := by decide +kernel
theorem dX1_copyFrom_10 : decode cX1_copyFrom 10 = .ok (.getfield 18, 3) := by decide +kernel
theorem dX1_copyFrom_13 : decode cX1_copyFrom 13 = .ok (.putfield 18, 3) := by decide +kernel
theorem dX1_copyFrom_16 : decode cX1_copyFrom 16 = .ok (.aload_n 0, 1) := by decide +kernel
theorem dX1_copyFrom_17 : decode cX1_copyFrom 17 = .ok (.aload_n 1, 1) := by decide +kernel
theorem dX1_copyFrom_18 : decode cX1_copyFrom 18 = .ok (.getfield 21, 3) := by decide +kernel
theorem dX1_copyFrom_21 : decode cX1_copyFrom 21 = .ok (.putfield 21, 3) := by decide +kernel
theorem dX1_copyFrom_24 : decode cX1_copyFrom 24 = .ok (.aload_n 0, 1) := by decide +kernel
theorem dX1_copyFrom_25 : decode cX1_copyFrom 25 = .ok (.aload_n 1, 1) := by decide +kernel
theorem dX1_copyFrom_26 : decode cX1_copyFrom 26 = .ok (.getfield 24, 3) := by decide +kernel
theorem dX1_copyFrom_29 : decode cX1_copyFrom 29 = .ok (.putfield 24, 3) := by decide +kernel
theorem dX1_copyFrom_32 : decode cX1_copyFrom 32 = .ok (.aload_n 0, 1) := by decide +kernel
theorem dX1_copyFrom_33 : decode cX1_copyFrom 33 = .ok (.aload_n 1, 1) := by decide +kernel
theorem dX1_copyFrom_34 : decode cX1_copyFrom 34 = .ok (.getfield 27, 3) := by decide +kernel
theorem dX1_copyFrom_37 : decode cX1_copyFrom 37 = .ok (.putfield 27, 3) := by decide +kernel
theorem dX1_copyFrom_40 : decode cX1_copyFrom 40 = .ok (.aload_n 0, 1) := by decide +kernel
theorem dX1_copyFrom_41 : decode cX1_copyFrom 41 = .ok (.aload_n 1, 1) := by decide +kernel
theorem dX1_copyFrom_42 : decode cX1_copyFrom 42 = .ok (.getfield 30, 3) := by decide +kernel
theorem dX1_copyFrom_45 : decode cX1_copyFrom 45 = .ok (.putfield 30, 3) := by decide +kernel
theorem dX1_copyFrom_48 : decode cX1_copyFrom 48 = .ok (.aload_n 0, 1) := by decide +kernel
theorem dX1_copyFrom_49 : decode cX1_copyFrom 49 = .ok (.aload_n 1, 1) := by decide +kernel
theorem dX1_copyFrom_50 : decode cX1_copyFrom 50 = .ok (.getfield 34, 3) := by decide +kernel
theorem dX1_copyFrom_53 : decode cX1_copyFrom 53 = .ok (.putfield 34, 3) := by decide +kernel
theorem dX1_copyFrom_56 : decode cX1_copyFrom 56 = .ok (.aload_n 0, 1) := by decide +kernel
theorem dX1_copyFrom_57 : decode cX1_copyFrom 57 = .ok (.aload_n 1, 1) := by decide +kernel
theorem dX1_copyFrom_58 : decode cX1_copyFrom 58 = .ok (.getfield 9, 3) := by decide +kernel
theorem dX1_copyFrom_61 : decode cX1_copyFrom 61 = .ok (.putfield 9, 3) := by decide +kernel
theorem dX1_copyFrom_64 : decode cX1_copyFrom 64 = .ok (.aload_n 0, 1) := by decide +kernel
theorem dX1_copyFrom_65 : decode cX1_copyFrom 65 = .ok (.aload_n 1, 1) := by decide +kernel
theorem dX1_copyFrom_66 : decode cX1_copyFrom 66 = .ok (.getfield 37, 3) := by decide +kernel
theorem dX1_copyFrom_69 : decode cX1_copyFrom 69 = .ok (.putfield 37, 3) := by decide +kernel
theorem dX1_copyFrom_72 : decode cX1_copyFrom 72 = .ok (.aload_n 0, 1) := by decide +kernel
theorem dX1_copyFrom_73 : decode cX1_copyFrom 73 = .ok (.aload_n 1, 1) := by decide +kernel
theorem dX1_copyFrom_74 : decode cX1_copyFrom 74 = .ok (.getfield 40, 3) := by decide +kernel
theorem dX1_copyFrom_77 : decode cX1_copyFrom 77 = .ok (.putfield 40, 3) := by decide +kernel
theorem dX1_copyFrom_80 : decode cX1_copyFrom 80 = .ok (.aload_n 0, 1) := by decide +kernel
theorem dX1_copyFrom_81 : decode cX1_copyFrom 81 = .ok (.aload_n 1, 1) := by decide +kernel
theorem dX1_copyFrom_82 : decode cX1_copyFrom 82 = .ok (.getfield 43, 3) := by decide +kernel
theorem dX1_copyFrom_85 : decode cX1_copyFrom 85 = .ok (.putfield 43, 3) := by decide +kernel
theorem dX1_copyFrom_88 : decode cX1_copyFrom 88 = .ok (.aload_n 0, 1) := by decide +kernel
theorem dX1_copyFrom_89 : decode cX1_copyFrom 89 = .ok (.aload_n 1, 1) := by decide +kernel
theorem dX1_copyFrom_90 : decode cX1_copyFrom 90 = .ok (.getfield 46, 3) := by decide +kernel
theorem dX1_copyFrom_93 : decode cX1_copyFrom 93 = .ok (.putfield 46, 3) := by decide +kernel
theorem dX1_copyFrom_96 : decode cX1_copyFrom 96 = .ok (.aload_n 0, 1) := by decide +kernel
theorem dX1_copyFrom_97 : decode cX1_copyFrom 97 = .ok (.aload_n 1, 1) := by decide +kernel
theorem dX1_copyFrom_98 : decode cX1_copyFrom 98 = .ok (.getfield 49, 3) := by decide +kernel
theorem dX1_copyFrom_101 : decode cX1_copyFrom 101 = .ok (.putfield 49, 3) := by decide +kernel
theorem dX1_copyFrom_104 : decode cX1_copyFrom 104 = .ok (.aload_n 0, 1) := by decide +kernel
theorem dX1_copyFrom_105 : decode cX1_copyFrom 105 = .ok (.aload_n 1, 1) := by decide +kernel
theorem dX1_copyFrom_106 : decode cX1_copyFrom 106 = .ok (.getfield 52, 3) := by decide +kernel
theorem dX1_copyFrom_109 : decode cX1_copyFrom 109 = .ok (.putfield 52, 3) := by decide +kernel
theorem dX1_copyFrom_112 : decode cX1_copyFrom 112 = .ok (.return_, 1) := by decide +kernel
theorem dX1_used_0 : decode cX1_used 0 = .ok (.aload_n 0, 1) := by decide +kernel
theorem dX1_used_1 : decode cX1_used 1 = .ok (.getfield 21, 3) := by decide +kernel
theorem dX1_used_4 : decode cX1_used 4 = .ok (.aload_n 0, 1) := by decide +kernel
theorem dX1_used_5 : decode cX1_used 5 = .ok (.getfield 24, 3) := by decide +kernel
theorem dX1_used_8 : decode cX1_used 8 = .ok (.if_icmp .lt 15, 3) := by decide +kernel
theorem dX1_used_11 : decode cX1_used 11 = .ok (.aload_n 0, 1) := by decide +kernel
theorem dX1_used_12 : decode cX1_used 12 = .ok (.getfield 21, 3) := by decide +kernel
theorem dX1_used_15 : decode cX1_used 15 = .ok (.aload_n 0, 1) := by decide +kernel
theorem dX1_used_16 : decode cX1_used 16 = .ok (.getfield 24, 3) := by decide +kernel
theorem dX1_used_19 : decode cX1_used 19 = .ok (.isub, 1) := by decide +kernel
theorem dX1_used_20 : decode cX1_used 20 = .ok (.goto 15, 3) := by decide +kernel
theorem dX1_used_23 : decode cX1_used 23 = .ok (.aload_n 0, 1) := by decide +kernel
theorem dX1_used_24 : decode cX1_used 24 = .ok (.getfield 21, 3) := by decide +kernel
theorem dX1_used_27 : decode cX1_used 27 = .ok (.aload_n 0, 1) := by decide +kernel
theorem dX1_used_28 : decode cX1_used 28 = .ok (.getfield 24, 3) := by decide +kernel
theorem dX1_used_31 : decode cX1_used 31 = .ok (.isub, 1) := by decide +kernel
theorem dX1_used_32 : decode cX1_used 32 = .ok (.ldc 55, 2) := by decide +kernel
theorem dX1_used_34 : decode cX1_used 34 = .ok (.iadd, 1) := by decide +kernel
theorem dX1_used_35 : decode cX1_used 35 = .ok (.ireturn, 1) := by decide +kernel
theorem dX1_reasonOn_0 : decode cX1_reasonOn 0 = .ok (.aload_n 0, 1) := by decide +kernel
theorem dX1_reasonOn_1 : decode cX1_reasonOn 1 = .ok (.getfield 30, 3) := by decide +kernel
theorem dX1_reasonOn_4 : decode cX1_reasonOn 4 = .ok (.ifCond .eq 7, 3) := by decide +kernel
theorem dX1_reasonOn_7 : decode cX1_reasonOn 7 = .ok (.iconst 1, 1) := by decide +kernel
theorem dX1_reasonOn_8 : decode cX1_reasonOn 8 = .ok (.goto 16, 3) := by decide +kernel
theorem dX1_reasonOn_11 : decode cX1_reasonOn 11 = .ok (.aload_n 0, 1) := by decide +kernel
theorem dX1_reasonOn_12 : decode cX1_reasonOn 12 = .ok (.getfield 9, 3) := by decide +kernel
theorem dX1_reasonOn_15 : decode cX1_reasonOn 15 = .ok (.iload_n 1, 1) := by decide +kernel
theorem dX1_reasonOn_16 : decode cX1_reasonOn 16 = .ok (.if_icmp .ne 7, 3) := by decide +kernel
theorem dX1_reasonOn_19 : decode cX1_reasonOn 19 = .ok (.iconst 2, 1) := by decide +kernel
theorem dX1_reasonOn_20 : decode cX1_reasonOn 20 = .ok (.goto 4, 3) := by decide +kernel
theorem dX1_reasonOn_23 : decode cX1_reasonOn 23 = .ok (.iconst 0, 1) := by decide +kernel
theorem dX1_reasonOn_24 : decode cX1_reasonOn 24 = .ok (.ireturn, 1) := by decide +kernel
theorem dX1_goOn_0 : decode cX1_goOn 0 = .ok (.aload_n 0, 1) := by decide +kernel
theorem dX1_goOn_1 : decode cX1_goOn 1 = .ok (.dup, 1) := by decide +kernel
theorem dX1_goOn_2 : decode cX1_goOn 2 = .ok (.getfield 21, 3) := by decide +kernel
theorem dX1_goOn_5 : decode cX1_goOn 5 = .ok (.aload_n 0, 1) := by decide +kernel
theorem dX1_goOn_6 : decode cX1_goOn 6 = .ok (.getfield 27, 3) := by decide +kernel
theorem dX1_goOn_9 : decode cX1_goOn 9 = .ok (.iadd, 1) := by decide +kernel
theorem dX1_goOn_10 : decode cX1_goOn 10 = .ok (.putfield 21, 3) := by decide +kernel
theorem dX1_goOn_13 : decode cX1_goOn 13 = .ok (.aload_n 0, 1) := by decide +kernel
theorem dX1_goOn_14 : decode cX1_goOn 14 = .ok (.getfield 21, 3) := by decide +kernel
theorem dX1_goOn_17 : decode cX1_goOn 17 = .ok (.ldc 55, 2) := by decide +kernel
theorem dX1_goOn_19 : decode cX1_goOn 19 = .ok (.if_icmp .lt 14, 3) := by decide +kernel
theorem dX1_goOn_22 : decode cX1_goOn 22 = .ok (.aload_n 0, 1) := by decide +kernel
theorem dX1_goOn_23 : decode cX1_goOn 23 = .ok (.dup, 1) := by decide +kernel
theorem dX1_goOn_24 : decode cX1_goOn 24 = .ok (.getfield 21, 3) := by decide +kernel
theorem dX1_goOn_27 : decode cX1_goOn 27 = .ok (.ldc 55, 2) := by decide +kernel
theorem dX1_goOn_29 : decode cX1_goOn 29 = .ok (.isub, 1) := by decide +kernel
theorem dX1_goOn_30 : decode cX1_goOn 30 = .ok (.putfield 21, 3) := by decide +kernel
theorem dX1_goOn_33 : decode cX1_goOn 33 = .ok (.return_, 1) := by decide +kernel
theorem dX1_settle_0 : decode cX1_settle 0 = .ok (.aload_n 0, 1) := by decide +kernel
theorem dX1_settle_1 : decode cX1_settle 1 = .ok (.dup, 1) := by decide +kernel
theorem dX1_settle_2 : decode cX1_settle 2 = .ok (.getfield 34, 3) := by decide +kernel
theorem dX1_settle_5 : decode cX1_settle 5 = .ok (.bipush 100, 2) := by decide +kernel
theorem dX1_settle_7 : decode cX1_settle 7 = .ok (.iload_n 3, 1) := by decide +kernel
theorem dX1_settle_8 : decode cX1_settle 8 = .ok (.imul, 1) := by decide +kernel
theorem dX1_settle_9 : decode cX1_settle 9 = .ok (.iload_n 2, 1) := by decide +kernel
theorem dX1_settle_10 : decode cX1_settle 10 = .ok (.isub, 1) := by decide +kernel
theorem dX1_settle_11 : decode cX1_settle 11 = .ok (.iadd, 1) := by decide +kernel
theorem dX1_settle_12 : decode cX1_settle 12 = .ok (.putfield 34, 3) := by decide +kernel
theorem dX1_settle_15 : decode cX1_settle 15 = .ok (.aload_n 0, 1) := by decide +kernel
theorem dX1_settle_16 : decode cX1_settle 16 = .ok (.aload_n 0, 1) := by decide +kernel
theorem dX1_settle_17 : decode cX1_settle 17 = .ok (.getfield 21, 3) := by decide +kernel
theorem dX1_settle_20 : decode cX1_settle 20 = .ok (.putfield 24, 3) := by decide +kernel
theorem dX1_settle_23 : decode cX1_settle 23 = .ok (.aload_n 0, 1) := by decide +kernel
theorem dX1_settle_24 : decode cX1_settle 24 = .ok (.iload_n 1, 1) := by decide +kernel
theorem dX1_settle_25 : decode cX1_settle 25 = .ok (.putfield 9, 3) := by decide +kernel
theorem dX1_settle_28 : decode cX1_settle 28 = .ok (.aload_n 0, 1) := by decide +kernel
theorem dX1_settle_29 : decode cX1_settle 29 = .ok (.dup, 1) := by decide +kernel
theorem dX1_settle_30 : decode cX1_settle 30 = .ok (.getfield 37, 3) := by decide +kernel
theorem dX1_settle_33 : decode cX1_settle 33 = .ok (.iconst 1, 1) := by decide +kernel
theorem dX1_settle_34 : decode cX1_settle 34 = .ok (.iadd, 1) := by decide +kernel
theorem dX1_settle_35 : decode cX1_settle 35 = .ok (.putfield 37, 3) := by decide +kernel
theorem dX1_settle_38 : decode cX1_settle 38 = .ok (.aload_n 0, 1) := by decide +kernel
theorem dX1_settle_39 : decode cX1_settle 39 = .ok (.dup, 1) := by decide +kernel
theorem dX1_settle_40 : decode cX1_settle 40 = .ok (.getfield 40, 3) := by decide +kernel
theorem dX1_settle_43 : decode cX1_settle 43 = .ok (.iload_n 3, 1) := by decide +kernel
theorem dX1_settle_44 : decode cX1_settle 44 = .ok (.iadd, 1) := by decide +kernel
theorem dX1_settle_45 : decode cX1_settle 45 = .ok (.putfield 40, 3) := by decide +kernel
theorem dX1_settle_48 : decode cX1_settle 48 = .ok (.aload_n 0, 1) := by decide +kernel
theorem dX1_settle_49 : decode cX1_settle 49 = .ok (.getfield 34, 3) := by decide +kernel
theorem dX1_settle_52 : decode cX1_settle 52 = .ok (.ifCond .le 16, 3) := by decide +kernel
theorem dX1_settle_55 : decode cX1_settle 55 = .ok (.aload_n 0, 1) := by decide +kernel
theorem dX1_settle_56 : decode cX1_settle 56 = .ok (.dup, 1) := by decide +kernel
theorem dX1_settle_57 : decode cX1_settle 57 = .ok (.getfield 43, 3) := by decide +kernel
theorem dX1_settle_60 : decode cX1_settle 60 = .ok (.iconst 1, 1) := by decide +kernel
theorem dX1_settle_61 : decode cX1_settle 61 = .ok (.iadd, 1) := by decide +kernel
theorem dX1_settle_62 : decode cX1_settle 62 = .ok (.putfield 43, 3) := by decide +kernel
theorem dX1_settle_65 : decode cX1_settle 65 = .ok (.goto 20, 3) := by decide +kernel
theorem dX1_settle_68 : decode cX1_settle 68 = .ok (.aload_n 0, 1) := by decide +kernel
theorem dX1_settle_69 : decode cX1_settle 69 = .ok (.getfield 34, 3) := by decide +kernel
theorem dX1_settle_72 : decode cX1_settle 72 = .ok (.ifCond .ge 13, 3) := by decide +kernel
theorem dX1_settle_75 : decode cX1_settle 75 = .ok (.aload_n 0, 1) := by decide +kernel
theorem dX1_settle_76 : decode cX1_settle 76 = .ok (.dup, 1) := by decide +kernel
theorem dX1_settle_77 : decode cX1_settle 77 = .ok (.getfield 46, 3) := by decide +kernel
theorem dX1_settle_80 : decode cX1_settle 80 = .ok (.iconst 1, 1) := by decide +kernel
theorem dX1_settle_81 : decode cX1_settle 81 = .ok (.iadd, 1) := by decide +kernel
theorem dX1_settle_82 : decode cX1_settle 82 = .ok (.putfield 46, 3) := by decide +kernel
theorem dX1_settle_85 : decode cX1_settle 85 = .ok (.return_, 1) := by decide +kernel
theorem dX1_renewMeter_0 : decode cX1_renewMeter 0 = .ok (.aload_n 0, 1) := by decide +kernel
theorem dX1_renewMeter_1 : decode cX1_renewMeter 1 = .ok (.iconst 0, 1) := by decide +kernel
theorem dX1_renewMeter_2 : decode cX1_renewMeter 2 = .ok (.putfield 21, 3) := by decide +kernel
theorem dX1_renewMeter_5 : decode cX1_renewMeter 5 = .ok (.aload_n 0, 1) := by decide +kernel
theorem dX1_renewMeter_6 : decode cX1_renewMeter 6 = .ok (.iconst 0, 1) := by decide +kernel
theorem dX1_renewMeter_7 : decode cX1_renewMeter 7 = .ok (.putfield 24, 3) := by decide +kernel
theorem dX1_renewMeter_10 : decode cX1_renewMeter 10 = .ok (.aload_n 0, 1) := by decide +kernel
theorem dX1_renewMeter_11 : decode cX1_renewMeter 11 = .ok (.dup, 1) := by decide +kernel
theorem dX1_renewMeter_12 : decode cX1_renewMeter 12 = .ok (.getfield 52, 3) := by decide +kernel
theorem dX1_renewMeter_15 : decode cX1_renewMeter 15 = .ok (.iconst 1, 1) := by decide +kernel
theorem dX1_renewMeter_16 : decode cX1_renewMeter 16 = .ok (.iadd, 1) := by decide +kernel
theorem dX1_renewMeter_17 : decode cX1_renewMeter 17 = .ok (.putfield 52, 3) := by decide +kernel
theorem dX1_renewMeter_20 : decode cX1_renewMeter 20 = .ok (.return_, 1) := by decide +kernel
set_option maxRecDepth 20000 in
theorem ggX1_fact_X1_used : GoodIn wsX1_fact wsX1_used := goodIn_rB _ [20, 3, 21, 22, 23, 24, 25, 26, 27, 28, 29, 30, 31, 32, 33, 34, 35, 36] (by decide +kernel) (by decide +kernel)
set_option maxRecDepth 20000 in
theorem gX1_fact_X1_used : GoodIn wsX1_fact (wsV RX1 56 RX1 yX1_used wsX1_used) := goodIn_app (goodIn_of _ (by decide +kernel)) ggX1_fact_X1_used
theorem dX1_fact_0 : decode cX1_fact 0 = .ok (.iload_n 1, 1) := by decide +kernel
theorem dX1_fact_1 : decode cX1_fact 1 = .ok (.tableswitch 166 0 13 #[71, 76, 81, 86, 91, 100, 105, 118, 136, 141, 146, 151, 156, 161], 71) := by decide +kernel
theorem dX1_fact_72 : decode cX1_fact 72 = .ok (.aload_n 0, 1) := by decide +kernel
theorem dX1_fact_73 : decode cX1_fact 73 = .ok (.getfield 15, 3) := by decide +kernel
theorem dX1_fact_76 : decode cX1_fact 76 = .ok (.ireturn, 1) := by decide +kernel
theorem dX1_fact_77 : decode cX1_fact 77 = .ok (.aload_n 0, 1) := by decide +kernel
theorem dX1_fact_78 : decode cX1_fact 78 = .ok (.getfield 18, 3) := by decide +kernel
theorem dX1_fact_81 : decode cX1_fact 81 = .ok (.ireturn, 1) := by decide +kernel
theorem dX1_fact_82 : decode cX1_fact 82 = .ok (.aload_n 0, 1) := by decide +kernel
theorem dX1_fact_83 : decode cX1_fact 83 = .ok (.getfield 21, 3) := by decide +kernel
theorem dX1_fact_86 : decode cX1_fact 86 = .ok (.ireturn, 1) := by decide +kernel
theorem dX1_fact_87 : decode cX1_fact 87 = .ok (.aload_n 0, 1) := by decide +kernel
theorem dX1_fact_88 : decode cX1_fact 88 = .ok (.invokevirtual 56, 3) := by decide +kernel
theorem dX1_fact_91 : decode cX1_fact 91 = .ok (.ireturn, 1) := by decide +kernel
theorem dX1_fact_92 : decode cX1_fact 92 = .ok (.sipush 1000, 3) := by decide +kernel
theorem dX1_fact_95 : decode cX1_fact 95 = .ok (.aload_n 0, 1) := by decide +kernel
theorem dX1_fact_96 : decode cX1_fact 96 = .ok (.getfield 34, 3) := by decide +kernel
theorem dX1_fact_99 : decode cX1_fact 99 = .ok (.iadd, 1) := by decide +kernel
theorem dX1_fact_100 : decode cX1_fact 100 = .ok (.ireturn, 1) := by decide +kernel
theorem dX1_fact_101 : decode cX1_fact 101 = .ok (.aload_n 0, 1) := by decide +kernel
theorem dX1_fact_102 : decode cX1_fact 102 = .ok (.getfield 27, 3) := by decide +kernel
theorem dX1_fact_105 : decode cX1_fact 105 = .ok (.ireturn, 1) := by decide +kernel
theorem dX1_fact_106 : decode cX1_fact 106 = .ok (.aload_n 0, 1) := by decide +kernel
theorem dX1_fact_107 : decode cX1_fact 107 = .ok (.getfield 30, 3) := by decide +kernel
theorem dX1_fact_110 : decode cX1_fact 110 = .ok (.ifCond .eq 7, 3) := by decide +kernel
theorem dX1_fact_113 : decode cX1_fact 113 = .ok (.iconst 1, 1) := by decide +kernel
theorem dX1_fact_114 : decode cX1_fact 114 = .ok (.goto 4, 3) := by decide +kernel
theorem dX1_fact_117 : decode cX1_fact 117 = .ok (.iconst 0, 1) := by decide +kernel
theorem dX1_fact_118 : decode cX1_fact 118 = .ok (.ireturn, 1) := by decide +kernel
theorem dX1_fact_119 : decode cX1_fact 119 = .ok (.aload_n 0, 1) := by decide +kernel
theorem dX1_fact_120 : decode cX1_fact 120 = .ok (.getfield 9, 3) := by decide +kernel
theorem dX1_fact_123 : decode cX1_fact 123 = .ok (.iconst (-1), 1) := by decide +kernel
theorem dX1_fact_124 : decode cX1_fact 124 = .ok (.if_icmp .ne 8, 3) := by decide +kernel
theorem dX1_fact_127 : decode cX1_fact 127 = .ok (.ldc 60, 2) := by decide +kernel
theorem dX1_fact_129 : decode cX1_fact 129 = .ok (.goto 7, 3) := by decide +kernel
theorem dX1_fact_132 : decode cX1_fact 132 = .ok (.aload_n 0, 1) := by decide +kernel
theorem dX1_fact_133 : decode cX1_fact 133 = .ok (.getfield 9, 3) := by decide +kernel
theorem dX1_fact_136 : decode cX1_fact 136 = .ok (.ireturn, 1) := by decide +kernel
theorem dX1_fact_137 : decode cX1_fact 137 = .ok (.aload_n 0, 1) := by decide +kernel
theorem dX1_fact_138 : decode cX1_fact 138 = .ok (.getfield 37, 3) := by decide +kernel
theorem dX1_fact_141 : decode cX1_fact 141 = .ok (.ireturn, 1) := by decide +kernel
theorem dX1_fact_142 : decode cX1_fact 142 = .ok (.aload_n 0, 1) := by decide +kernel
theorem dX1_fact_143 : decode cX1_fact 143 = .ok (.getfield 40, 3) := by decide +kernel
theorem dX1_fact_146 : decode cX1_fact 146 = .ok (.ireturn, 1) := by decide +kernel
theorem dX1_fact_147 : decode cX1_fact 147 = .ok (.aload_n 0, 1) := by decide +kernel
theorem dX1_fact_148 : decode cX1_fact 148 = .ok (.getfield 43, 3) := by decide +kernel
theorem dX1_fact_151 : decode cX1_fact 151 = .ok (.ireturn, 1) := by decide +kernel
theorem dX1_fact_152 : decode cX1_fact 152 = .ok (.aload_n 0, 1) := by decide +kernel
theorem dX1_fact_153 : decode cX1_fact 153 = .ok (.getfield 46, 3) := by decide +kernel
theorem dX1_fact_156 : decode cX1_fact 156 = .ok (.ireturn, 1) := by decide +kernel
theorem dX1_fact_157 : decode cX1_fact 157 = .ok (.aload_n 0, 1) := by decide +kernel
theorem dX1_fact_158 : decode cX1_fact 158 = .ok (.getfield 49, 3) := by decide +kernel
theorem dX1_fact_161 : decode cX1_fact 161 = .ok (.ireturn, 1) := by decide +kernel
theorem dX1_fact_162 : decode cX1_fact 162 = .ok (.aload_n 0, 1) := by decide +kernel
theorem dX1_fact_163 : decode cX1_fact 163 = .ok (.getfield 52, 3) := by decide +kernel
theorem dX1_fact_166 : decode cX1_fact 166 = .ok (.ireturn, 1) := by decide +kernel
theorem dX1_fact_167 : decode cX1_fact 167 = .ok (.ldc 61, 2) := by decide +kernel
theorem dX1_fact_169 : decode cX1_fact 169 = .ok (.ireturn, 1) := by decide +kernel
theorem dX2_init_0 : decode cX2_init 0 = .ok (.aload_n 0, 1) := by decide +kernel
theorem dX2_init_1 : decode cX2_init 1 = .ok (.invokespecial 3, 3) := by decide +kernel
theorem dX2_init_4 : decode cX2_init 4 = .ok (.aload_n 0, 1) := by decide +kernel
theorem dX2_init_5 : decode cX2_init 5 = .ok (.bipush 60, 2) := by decide +kernel
theorem dX2_init_7 : decode cX2_init 7 = .ok (.newarray .int, 2) := by decide +kernel
theorem dX2_init_9 : decode cX2_init 9 = .ok (.putfield 11, 3) := by decide +kernel
theorem dX2_init_12 : decode cX2_init 12 = .ok (.return_, 1) := by decide +kernel
theorem dX2_copyFrom_0 : decode cX2_copyFrom 0 = .ok (.aload_n 1, 1) := by decide +kernel
theorem dX2_copyFrom_1 : decode cX2_copyFrom 1 = .ok (.getfield 11, 3) := by decide +kernel
theorem dX2_copyFrom_4 : decode cX2_copyFrom 4 = .ok (.iconst 0, 1) := by decide +kernel
theorem dX2_copyFrom_5 : decode cX2_copyFrom 5 = .ok (.aload_n 0, 1) := by decide +kernel
theorem dX2_copyFrom_6 : decode cX2_copyFrom 6 = .ok (.getfield 11, 3) := by decide +kernel
theorem dX2_copyFrom_9 : decode cX2_copyFrom 9 = .ok (.iconst 0, 1) := by decide +kernel
theorem dX2_copyFrom_10 : decode cX2_copyFrom 10 = .ok (.bipush 60, 2) := by decide +kernel
theorem dX2_copyFrom_12 : decode cX2_copyFrom 12 = .ok (.invokestatic 15, 3) := by decide +kernel
theorem dX2_copyFrom_15 : decode cX2_copyFrom 15 = .ok (.aload_n 0, 1) := by decide +kernel
theorem dX2_copyFrom_16 : decode cX2_copyFrom 16 = .ok (.aload_n 1, 1) := by decide +kernel
theorem dX2_copyFrom_17 : decode cX2_copyFrom 17 = .ok (.getfield 21, 3) := by decide +kernel
theorem dX2_copyFrom_20 : decode cX2_copyFrom 20 = .ok (.putfield 21, 3) := by decide +kernel
theorem dX2_copyFrom_23 : decode cX2_copyFrom 23 = .ok (.aload_n 0, 1) := by decide +kernel
theorem dX2_copyFrom_24 : decode cX2_copyFrom 24 = .ok (.aload_n 1, 1) := by decide +kernel
theorem dX2_copyFrom_25 : decode cX2_copyFrom 25 = .ok (.getfield 25, 3) := by decide +kernel
theorem dX2_copyFrom_28 : decode cX2_copyFrom 28 = .ok (.putfield 25, 3) := by decide +kernel
theorem dX2_copyFrom_31 : decode cX2_copyFrom 31 = .ok (.return_, 1) := by decide +kernel
theorem dX2_add_0 : decode cX2_add 0 = .ok (.aload_n 0, 1) := by decide +kernel
theorem dX2_add_1 : decode cX2_add 1 = .ok (.getfield 21, 3) := by decide +kernel
theorem dX2_add_4 : decode cX2_add 4 = .ok (.ifCond .lt 12, 3) := by decide +kernel
theorem dX2_add_7 : decode cX2_add 7 = .ok (.aload_n 0, 1) := by decide +kernel
theorem dX2_add_8 : decode cX2_add 8 = .ok (.getfield 21, 3) := by decide +kernel
theorem dX2_add_11 : decode cX2_add 11 = .ok (.bipush 10, 2) := by decide +kernel
theorem dX2_add_13 : decode cX2_add 13 = .ok (.if_icmp .lt 4, 3) := by decide +kernel
theorem dX2_add_16 : decode cX2_add 16 = .ok (.return_, 1) := by decide +kernel
theorem dX2_add_17 : decode cX2_add 17 = .ok (.aload_n 0, 1) := by decide +kernel
theorem dX2_add_18 : decode cX2_add 18 = .ok (.getfield 21, 3) := by decide +kernel
theorem dX2_add_21 : decode cX2_add 21 = .ok (.bipush 6, 2) := by decide +kernel
theorem dX2_add_23 : decode cX2_add 23 = .ok (.imul, 1) := by decide +kernel
theorem dX2_add_24 : decode cX2_add 24 = .ok (.istore 6, 2) := by decide +kernel
theorem dX2_add_26 : decode cX2_add 26 = .ok (.aload_n 0, 1) := by decide +kernel
theorem dX2_add_27 : decode cX2_add 27 = .ok (.getfield 11, 3) := by decide +kernel
theorem dX2_add_30 : decode cX2_add 30 = .ok (.iload 6, 2) := by decide +kernel
theorem dX2_add_32 : decode cX2_add 32 = .ok (.iload_n 1, 1) := by decide +kernel
theorem dX2_add_33 : decode cX2_add 33 = .ok (.iastore, 1) := by decide +kernel
theorem dX2_add_34 : decode cX2_add 34 = .ok (.aload_n 0, 1) := by decide +kernel
theorem dX2_add_35 : decode cX2_add 35 = .ok (.getfield 11, 3) := by decide +kernel
theorem dX2_add_38 : decode cX2_add 38 = .ok (.iload 6, 2) := by decide +kernel
theorem dX2_add_40 : decode cX2_add 40 = .ok (.iconst 1, 1) := by decide +kernel
theorem dX2_add_41 : decode cX2_add 41 = .ok (.iadd, 1) := by decide +kernel
theorem dX2_add_42 : decode cX2_add 42 = .ok (.iload_n 2, 1) := by decide +kernel
theorem dX2_add_43 : decode cX2_add 43 = .ok (.iastore, 1) := by decide +kernel
theorem dX2_add_44 : decode cX2_add 44 = .ok (.aload_n 0, 1) := by decide +kernel
theorem dX2_add_45 : decode cX2_add 45 = .ok (.getfield 11, 3) := by decide +kernel
theorem dX2_add_48 : decode cX2_add 48 = .ok (.iload 6, 2) := by decide +kernel
theorem dX2_add_50 : decode cX2_add 50 = .ok (.iconst 2, 1) := by decide +kernel
theorem dX2_add_51 : decode cX2_add 51 = .ok (.iadd, 1) := by decide +kernel
theorem dX2_add_52 : decode cX2_add 52 = .ok (.iload_n 3, 1) := by decide +kernel
theorem dX2_add_53 : decode cX2_add 53 = .ok (.iastore, 1) := by decide +kernel
theorem dX2_add_54 : decode cX2_add 54 = .ok (.aload_n 0, 1) := by decide +kernel
theorem dX2_add_55 : decode cX2_add 55 = .ok (.getfield 11, 3) := by decide +kernel
theorem dX2_add_58 : decode cX2_add 58 = .ok (.iload 6, 2) := by decide +kernel
theorem dX2_add_60 : decode cX2_add 60 = .ok (.iconst 3, 1) := by decide +kernel
theorem dX2_add_61 : decode cX2_add 61 = .ok (.iadd, 1) := by decide +kernel
theorem dX2_add_62 : decode cX2_add 62 = .ok (.iload 4, 2) := by decide +kernel
theorem dX2_add_64 : decode cX2_add 64 = .ok (.iastore, 1) := by decide +kernel
theorem dX2_add_65 : decode cX2_add 65 = .ok (.aload_n 0, 1) := by decide +kernel
theorem dX2_add_66 : decode cX2_add 66 = .ok (.getfield 11, 3) := by decide +kernel
theorem dX2_add_69 : decode cX2_add 69 = .ok (.iload 6, 2) := by decide +kernel
theorem dX2_add_71 : decode cX2_add 71 = .ok (.iconst 4, 1) := by decide +kernel
theorem dX2_add_72 : decode cX2_add 72 = .ok (.iadd, 1) := by decide +kernel
theorem dX2_add_73 : decode cX2_add 73 = .ok (.bipush 100, 2) := by decide +kernel
theorem dX2_add_75 : decode cX2_add 75 = .ok (.iload 4, 2) := by decide +kernel
theorem dX2_add_77 : decode cX2_add 77 = .ok (.imul, 1) := by decide +kernel
theorem dX2_add_78 : decode cX2_add 78 = .ok (.iload_n 3, 1) := by decide +kernel
theorem dX2_add_79 : decode cX2_add 79 = .ok (.if_icmp .ge 7, 3) := by decide +kernel
theorem dX2_add_82 : decode cX2_add 82 = .ok (.iconst 0, 1) := by decide +kernel
theorem dX2_add_83 : decode cX2_add 83 = .ok (.goto 17, 3) := by decide +kernel
theorem dX2_add_86 : decode cX2_add 86 = .ok (.bipush 100, 2) := by decide +kernel
theorem dX2_add_88 : decode cX2_add 88 = .ok (.iload 4, 2) := by decide +kernel
theorem dX2_add_90 : decode cX2_add 90 = .ok (.imul, 1) := by decide +kernel
theorem dX2_add_91 : decode cX2_add 91 = .ok (.iload_n 3, 1) := by decide +kernel
theorem dX2_add_92 : decode cX2_add 92 = .ok (.if_icmp .le 7, 3) := by decide +kernel
theorem dX2_add_95 : decode cX2_add 95 = .ok (.iconst 1, 1) := by decide +kernel
theorem dX2_add_96 : decode cX2_add 96 = .ok (.goto 4, 3) := by decide +kernel
theorem dX2_add_99 : decode cX2_add 99 = .ok (.iconst 2, 1) := by decide +kernel
theorem dX2_add_100 : decode cX2_add 100 = .ok (.iastore, 1) := by decide +kernel
theorem dX2_add_101 : decode cX2_add 101 = .ok (.aload_n 0, 1) := by decide +kernel
theorem dX2_add_102 : decode cX2_add 102 = .ok (.getfield 11, 3) := by decide +kernel
theorem dX2_add_105 : decode cX2_add 105 = .ok (.iload 6, 2) := by decide +kernel
theorem dX2_add_107 : decode cX2_add 107 = .ok (.iconst 5, 1) := by decide +kernel
theorem dX2_add_108 : decode cX2_add 108 = .ok (.iadd, 1) := by decide +kernel
theorem dX2_add_109 : decode cX2_add 109 = .ok (.sipush 1000, 3) := by decide +kernel
theorem dX2_add_112 : decode cX2_add 112 = .ok (.iload 5, 2) := by decide +kernel
theorem dX2_add_114 : decode cX2_add 114 = .ok (.iadd, 1) := by decide +kernel
theorem dX2_add_115 : decode cX2_add 115 = .ok (.iastore, 1) := by decide +kernel
theorem dX2_add_116 : decode cX2_add 116 = .ok (.aload_n 0, 1) := by decide +kernel
theorem dX2_add_117 : decode cX2_add 117 = .ok (.aload_n 0, 1) := by decide +kernel
theorem dX2_add_118 : decode cX2_add 118 = .ok (.getfield 21, 3) := by decide +kernel
theorem dX2_add_121 : decode cX2_add 121 = .ok (.iconst 1, 1) := by decide +kernel
theorem dX2_add_122 : decode cX2_add 122 = .ok (.iadd, 1) := by decide +kernel
theorem dX2_add_123 : decode cX2_add 123 = .ok (.bipush 10, 2) := by decide +kernel
theorem dX2_add_125 : decode cX2_add 125 = .ok (.irem, 1) := by decide +kernel
theorem dX2_add_126 : decode cX2_add 126 = .ok (.putfield 21, 3) := by decide +kernel
theorem dX2_add_129 : decode cX2_add 129 = .ok (.aload_n 0, 1) := by decide +kernel
theorem dX2_add_130 : decode cX2_add 130 = .ok (.getfield 25, 3) := by decide +kernel
theorem dX2_add_133 : decode cX2_add 133 = .ok (.bipush 10, 2) := by decide +kernel
theorem dX2_add_135 : decode cX2_add 135 = .ok (.if_icmp .ge 13, 3) := by decide +kernel
theorem dX2_add_138 : decode cX2_add 138 = .ok (.aload_n 0, 1) := by decide +kernel
theorem dX2_add_139 : decode cX2_add 139 = .ok (.dup, 1) := by decide +kernel
theorem dX2_add_140 : decode cX2_add 140 = .ok (.getfield 25, 3) := by decide +kernel
theorem dX2_add_143 : decode cX2_add 143 = .ok (.iconst 1, 1) := by decide +kernel
theorem dX2_add_144 : decode cX2_add 144 = .ok (.iadd, 1) := by decide +kernel
theorem dX2_add_145 : decode cX2_add 145 = .ok (.putfield 25, 3) := by decide +kernel
theorem dX2_add_148 : decode cX2_add 148 = .ok (.return_, 1) := by decide +kernel
theorem dX2_entry_0 : decode cX2_entry 0 = .ok (.iload_n 1, 1) := by decide +kernel
theorem dX2_entry_1 : decode cX2_entry 1 = .ok (.ifCond .lt 13, 3) := by decide +kernel
theorem dX2_entry_4 : decode cX2_entry 4 = .ok (.iload_n 2, 1) := by decide +kernel
theorem dX2_entry_5 : decode cX2_entry 5 = .ok (.ifCond .lt 9, 3) := by decide +kernel
theorem dX2_entry_8 : decode cX2_entry 8 = .ok (.iload_n 2, 1) := by decide +kernel
theorem dX2_entry_9 : decode cX2_entry 9 = .ok (.bipush 6, 2) := by decide +kernel
theorem dX2_entry_11 : decode cX2_entry 11 = .ok (.if_icmp .lt 6, 3) := by decide +kernel
theorem dX2_entry_14 : decode cX2_entry 14 = .ok (.ldc 28, 2) := by decide +kernel
theorem dX2_entry_16 : decode cX2_entry 16 = .ok (.ireturn, 1) := by decide +kernel
theorem dX2_entry_17 : decode cX2_entry 17 = .ok (.iload_n 1, 1) := by decide +kernel
theorem dX2_entry_18 : decode cX2_entry 18 = .ok (.aload_n 0, 1) := by decide +kernel
theorem dX2_entry_19 : decode cX2_entry 19 = .ok (.getfield 25, 3) := by decide +kernel
theorem dX2_entry_22 : decode cX2_entry 22 = .ok (.if_icmp .lt 6, 3) := by decide +kernel
theorem dX2_entry_25 : decode cX2_entry 25 = .ok (.ldc 29, 2) := by decide +kernel
theorem dX2_entry_27 : decode cX2_entry 27 = .ok (.ireturn, 1) := by decide +kernel
theorem dX2_entry_28 : decode cX2_entry 28 = .ok (.aload_n 0, 1) := by decide +kernel
theorem dX2_entry_29 : decode cX2_entry 29 = .ok (.getfield 21, 3) := by decide +kernel
theorem dX2_entry_32 : decode cX2_entry 32 = .ok (.bipush 10, 2) := by decide +kernel
theorem dX2_entry_34 : decode cX2_entry 34 = .ok (.iadd, 1) := by decide +kernel
theorem dX2_entry_35 : decode cX2_entry 35 = .ok (.iconst 1, 1) := by decide +kernel
theorem dX2_entry_36 : decode cX2_entry 36 = .ok (.isub, 1) := by decide +kernel
theorem dX2_entry_37 : decode cX2_entry 37 = .ok (.iload_n 1, 1) := by decide +kernel
theorem dX2_entry_38 : decode cX2_entry 38 = .ok (.isub, 1) := by decide +kernel
theorem dX2_entry_39 : decode cX2_entry 39 = .ok (.bipush 10, 2) := by decide +kernel
theorem dX2_entry_41 : decode cX2_entry 41 = .ok (.irem, 1) := by decide +kernel
theorem dX2_entry_42 : decode cX2_entry 42 = .ok (.bipush 6, 2) := by decide +kernel
theorem dX2_entry_44 : decode cX2_entry 44 = .ok (.imul, 1) := by decide +kernel
theorem dX2_entry_45 : decode cX2_entry 45 = .ok (.iload_n 2, 1) := by decide +kernel
theorem dX2_entry_46 : decode cX2_entry 46 = .ok (.iadd, 1) := by decide +kernel
theorem dX2_entry_47 : decode cX2_entry 47 = .ok (.istore_n 3, 1) := by decide +kernel
theorem dX2_entry_48 : decode cX2_entry 48 = .ok (.iload_n 3, 1) := by decide +kernel
theorem dX2_entry_49 : decode cX2_entry 49 = .ok (.ifCond .lt 18, 3) := by decide +kernel
theorem dX2_entry_52 : decode cX2_entry 52 = .ok (.iload_n 3, 1) := by decide +kernel
theorem dX2_entry_53 : decode cX2_entry 53 = .ok (.bipush 60, 2) := by decide +kernel
theorem dX2_entry_55 : decode cX2_entry 55 = .ok (.if_icmp .ge 12, 3) := by decide +kernel
theorem dX2_entry_58 : decode cX2_entry 58 = .ok (.aload_n 0, 1) := by decide +kernel
theorem dX2_entry_59 : decode cX2_entry 59 = .ok (.getfield 11, 3) := by decide +kernel
theorem dX2_entry_62 : decode cX2_entry 62 = .ok (.iload_n 3, 1) := by decide +kernel
theorem dX2_entry_63 : decode cX2_entry 63 = .ok (.iaload, 1) := by decide +kernel
theorem dX2_entry_64 : decode cX2_entry 64 = .ok (.goto 5, 3) := by decide +kernel
theorem dX2_entry_67 : decode cX2_entry 67 = .ok (.ldc 29, 2) := by decide +kernel
theorem dX2_entry_69 : decode cX2_entry 69 = .ok (.ireturn, 1) := by decide +kernel
theorem dX3_init_0 : decode cX3_init 0 = .ok (.aload_n 0, 1) := by decide +kernel
theorem dX3_init_1 : decode cX3_init 1 = .ok (.invokespecial 3, 3) := by decide +kernel
theorem dX3_init_4 : decode cX3_init 4 = .ok (.aload_n 0, 1) := by decide +kernel
theorem dX3_init_5 : decode cX3_init 5 = .ok (.bipush 60, 2) := by decide +kernel
theorem dX3_init_7 : decode cX3_init 7 = .ok (.newarray .int, 2) := by decide +kernel
theorem dX3_init_9 : decode cX3_init 9 = .ok (.putfield 11, 3) := by decide +kernel
theorem dX3_init_12 : decode cX3_init 12 = .ok (.return_, 1) := by decide +kernel
theorem dX4_init_0 : decode cX4_init 0 = .ok (.aload_n 0, 1) := by decide +kernel
theorem dX4_init_1 : decode cX4_init 1 = .ok (.invokespecial 3, 3) := by decide +kernel
theorem dX4_init_4 : decode cX4_init 4 = .ok (.aload_n 0, 1) := by decide +kernel
theorem dX4_init_5 : decode cX4_init 5 = .ok (.bipush 20, 2) := by decide +kernel
theorem dX4_init_7 : decode cX4_init 7 = .ok (.newarray .int, 2) := by decide +kernel
theorem dX4_init_9 : decode cX4_init 9 = .ok (.putfield 9, 3) := by decide +kernel
theorem dX4_init_12 : decode cX4_init 12 = .ok (.aload_n 0, 1) := by decide +kernel
theorem dX4_init_13 : decode cX4_init 13 = .ok (.iconst (-1), 1) := by decide +kernel
theorem dX4_init_14 : decode cX4_init 14 = .ok (.putfield 15, 3) := by decide +kernel
theorem dX4_init_17 : decode cX4_init 17 = .ok (.iconst 0, 1) := by decide +kernel
theorem dX4_init_18 : decode cX4_init 18 = .ok (.istore_n 1, 1) := by decide +kernel
theorem dX4_init_19 : decode cX4_init 19 = .ok (.iload_n 1, 1) := by decide +kernel
theorem dX4_init_20 : decode cX4_init 20 = .ok (.bipush 20, 2) := by decide +kernel
theorem dX4_init_22 : decode cX4_init 22 = .ok (.if_icmp .ge 16, 3) := by decide +kernel
theorem dX4_init_25 : decode cX4_init 25 = .ok (.aload_n 0, 1) := by decide +kernel
theorem dX4_init_26 : decode cX4_init 26 = .ok (.getfield 9, 3) := by decide +kernel
theorem dX4_init_29 : decode cX4_init 29 = .ok (.iload_n 1, 1) := by decide +kernel
theorem dX4_init_30 : decode cX4_init 30 = .ok (.iconst (-1), 1) := by decide +kernel
theorem dX4_init_31 : decode cX4_init 31 = .ok (.iastore, 1) := by decide +kernel
theorem dX4_init_32 : decode cX4_init 32 = .ok (.iinc 1 1, 3) := by decide +kernel
theorem dX4_init_35 : decode cX4_init 35 = .ok (.goto (-16), 3) := by decide +kernel
theorem dX4_init_38 : decode cX4_init 38 = .ok (.return_, 1) := by decide +kernel
theorem dX4_copyFrom_0 : decode cX4_copyFrom 0 = .ok (.aload_n 1, 1) := by decide +kernel
theorem dX4_copyFrom_1 : decode cX4_copyFrom 1 = .ok (.getfield 9, 3) := by decide +kernel
theorem dX4_copyFrom_4 : decode cX4_copyFrom 4 = .ok (.iconst 0, 1) := by decide +kernel
theorem dX4_copyFrom_5 : decode cX4_copyFrom 5 = .ok (.aload_n 0, 1) := by decide +kernel
theorem dX4_copyFrom_6 : decode cX4_copyFrom 6 = .ok (.getfield 9, 3) := by decide +kernel
theorem dX4_copyFrom_9 : decode cX4_copyFrom 9 = .ok (.iconst 0, 1) := by decide +kernel
theorem dX4_copyFrom_10 : decode cX4_copyFrom 10 = .ok (.bipush 20, 2) := by decide +kernel
theorem dX4_copyFrom_12 : decode cX4_copyFrom 12 = .ok (.invokestatic 19, 3) := by decide +kernel
theorem dX4_copyFrom_15 : decode cX4_copyFrom 15 = .ok (.aload_n 0, 1) := by decide +kernel
theorem dX4_copyFrom_16 : decode cX4_copyFrom 16 = .ok (.aload_n 1, 1) := by decide +kernel
theorem dX4_copyFrom_17 : decode cX4_copyFrom 17 = .ok (.getfield 15, 3) := by decide +kernel
theorem dX4_copyFrom_20 : decode cX4_copyFrom 20 = .ok (.putfield 15, 3) := by decide +kernel
theorem dX4_copyFrom_23 : decode cX4_copyFrom 23 = .ok (.return_, 1) := by decide +kernel
theorem dX4_stepAhead_0 : decode cX4_stepAhead 0 = .ok (.aload_n 0, 1) := by decide +kernel
theorem dX4_stepAhead_1 : decode cX4_stepAhead 1 = .ok (.getfield 15, 3) := by decide +kernel
theorem dX4_stepAhead_4 : decode cX4_stepAhead 4 = .ok (.iconst 1, 1) := by decide +kernel
theorem dX4_stepAhead_5 : decode cX4_stepAhead 5 = .ok (.iadd, 1) := by decide +kernel
theorem dX4_stepAhead_6 : decode cX4_stepAhead 6 = .ok (.iload_n 1, 1) := by decide +kernel
theorem dX4_stepAhead_7 : decode cX4_stepAhead 7 = .ok (.iadd, 1) := by decide +kernel
theorem dX4_stepAhead_8 : decode cX4_stepAhead 8 = .ok (.bipush 20, 2) := by decide +kernel
theorem dX4_stepAhead_10 : decode cX4_stepAhead 10 = .ok (.irem, 1) := by decide +kernel
theorem dX4_stepAhead_11 : decode cX4_stepAhead 11 = .ok (.ireturn, 1) := by decide +kernel
theorem dX4_houseOn_0 : decode cX4_houseOn 0 = .ok (.iload_n 1, 1) := by decide +kernel
theorem dX4_houseOn_1 : decode cX4_houseOn 1 = .ok (.ifCond .lt 18, 3) := by decide +kernel
theorem dX4_houseOn_4 : decode cX4_houseOn 4 = .ok (.iload_n 1, 1) := by decide +kernel
theorem dX4_houseOn_5 : decode cX4_houseOn 5 = .ok (.bipush 20, 2) := by decide +kernel
theorem dX4_houseOn_7 : decode cX4_houseOn 7 = .ok (.if_icmp .ge 12, 3) := by decide +kernel
theorem dX4_houseOn_10 : decode cX4_houseOn 10 = .ok (.aload_n 0, 1) := by decide +kernel
theorem dX4_houseOn_11 : decode cX4_houseOn 11 = .ok (.getfield 9, 3) := by decide +kernel
theorem dX4_houseOn_14 : decode cX4_houseOn 14 = .ok (.iload_n 1, 1) := by decide +kernel
theorem dX4_houseOn_15 : decode cX4_houseOn 15 = .ok (.iaload, 1) := by decide +kernel
theorem dX4_houseOn_16 : decode cX4_houseOn 16 = .ok (.goto 4, 3) := by decide +kernel
theorem dX4_houseOn_19 : decode cX4_houseOn 19 = .ok (.iconst (-1), 1) := by decide +kernel
theorem dX4_houseOn_20 : decode cX4_houseOn 20 = .ok (.ireturn, 1) := by decide +kernel
theorem dX4_putHouse_0 : decode cX4_putHouse 0 = .ok (.iload_n 1, 1) := by decide +kernel
theorem dX4_putHouse_1 : decode cX4_putHouse 1 = .ok (.ifCond .lt 16, 3) := by decide +kernel
theorem dX4_putHouse_4 : decode cX4_putHouse 4 = .ok (.iload_n 1, 1) := by decide +kernel
theorem dX4_putHouse_5 : decode cX4_putHouse 5 = .ok (.bipush 20, 2) := by decide +kernel
theorem dX4_putHouse_7 : decode cX4_putHouse 7 = .ok (.if_icmp .ge 10, 3) := by decide +kernel
theorem dX4_putHouse_10 : decode cX4_putHouse 10 = .ok (.aload_n 0, 1) := by decide +kernel
theorem dX4_putHouse_11 : decode cX4_putHouse 11 = .ok (.getfield 9, 3) := by decide +kernel
theorem dX4_putHouse_14 : decode cX4_putHouse 14 = .ok (.iload_n 1, 1) := by decide +kernel
theorem dX4_putHouse_15 : decode cX4_putHouse 15 = .ok (.iload_n 2, 1) := by decide +kernel
theorem dX4_putHouse_16 : decode cX4_putHouse 16 = .ok (.iastore, 1) := by decide +kernel
theorem dX4_putHouse_17 : decode cX4_putHouse 17 = .ok (.return_, 1) := by decide +kernel
set_option maxRecDepth 20000 in
theorem ggX4_houseRanked_X4_stepAhead : GoodIn wsX4_houseRanked wsX4_stepAhead := goodIn_rB _ [6, 7, 13, 14] (by decide +kernel) (by decide +kernel)
set_option maxRecDepth 20000 in
theorem gX4_houseRanked_X4_stepAhead : GoodIn wsX4_houseRanked (wsV RX4 25 RX4 yX4_stepAhead wsX4_stepAhead) := goodIn_app (goodIn_of _ (by decide +kernel)) ggX4_houseRanked_X4_stepAhead
set_option maxRecDepth 20000 in
theorem ggX4_houseRanked_X4_houseOn : GoodIn wsX4_houseRanked wsX4_houseOn := goodIn_rB _ [11, 12, 13, 14] (by decide +kernel) (by decide +kernel)
set_option maxRecDepth 20000 in
theorem gX4_houseRanked_X4_houseOn : GoodIn wsX4_houseRanked (wsV RX4 29 RX4 yX4_houseOn wsX4_houseOn) := goodIn_app (goodIn_of _ (by decide +kernel)) ggX4_houseRanked_X4_houseOn
theorem dX4_houseRanked_0 : decode cX4_houseRanked 0 = .ok (.iconst 0, 1) := by decide +kernel
theorem dX4_houseRanked_1 : decode cX4_houseRanked 1 = .ok (.istore_n 2, 1) := by decide +kernel
theorem dX4_houseRanked_2 : decode cX4_houseRanked 2 = .ok (.iconst 0, 1) := by decide +kernel
theorem dX4_houseRanked_3 : decode cX4_houseRanked 3 = .ok (.istore_n 3, 1) := by decide +kernel
theorem dX4_houseRanked_4 : decode cX4_houseRanked 4 = .ok (.iload_n 3, 1) := by decide +kernel
theorem dX4_houseRanked_5 : decode cX4_houseRanked 5 = .ok (.bipush 20, 2) := by decide +kernel
theorem dX4_houseRanked_7 : decode cX4_houseRanked 7 = .ok (.if_icmp .ge 37, 3) := by decide +kernel
theorem dX4_houseRanked_10 : decode cX4_houseRanked 10 = .ok (.aload_n 0, 1) := by decide +kernel
theorem dX4_houseRanked_11 : decode cX4_houseRanked 11 = .ok (.aload_n 0, 1) := by decide +kernel
theorem dX4_houseRanked_12 : decode cX4_houseRanked 12 = .ok (.iload_n 3, 1) := by decide +kernel
theorem dX4_houseRanked_13 : decode cX4_houseRanked 13 = .ok (.invokevirtual 25, 3) := by decide +kernel
theorem dX4_houseRanked_16 : decode cX4_houseRanked 16 = .ok (.invokevirtual 29, 3) := by decide +kernel
theorem dX4_houseRanked_19 : decode cX4_houseRanked 19 = .ok (.istore 4, 2) := by decide +kernel
theorem dX4_houseRanked_21 : decode cX4_houseRanked 21 = .ok (.iload 4, 2) := by decide +kernel
theorem dX4_houseRanked_23 : decode cX4_houseRanked 23 = .ok (.iconst (-1), 1) := by decide +kernel
theorem dX4_houseRanked_24 : decode cX4_houseRanked 24 = .ok (.if_icmp .eq 14, 3) := by decide +kernel
theorem dX4_houseRanked_27 : decode cX4_houseRanked 27 = .ok (.iload_n 2, 1) := by decide +kernel
theorem dX4_houseRanked_28 : decode cX4_houseRanked 28 = .ok (.iload_n 1, 1) := by decide +kernel
theorem dX4_houseRanked_29 : decode cX4_houseRanked 29 = .ok (.if_icmp .ne 6, 3) := by decide +kernel
theorem dX4_houseRanked_32 : decode cX4_houseRanked 32 = .ok (.iload 4, 2) := by decide +kernel
theorem dX4_houseRanked_34 : decode cX4_houseRanked 34 = .ok (.ireturn, 1) := by decide +kernel
theorem dX4_houseRanked_35 : decode cX4_houseRanked 35 = .ok (.iinc 2 1, 3) := by decide +kernel
theorem dX4_houseRanked_38 : decode cX4_houseRanked 38 = .ok (.iinc 3 1, 3) := by decide +kernel
theorem dX4_houseRanked_41 : decode cX4_houseRanked 41 = .ok (.goto (-37), 3) := by decide +kernel
theorem dX4_houseRanked_44 : decode cX4_houseRanked 44 = .ok (.ldc 32, 2) := by decide +kernel
theorem dX4_houseRanked_46 : decode cX4_houseRanked 46 = .ok (.ireturn, 1) := by decide +kernel
set_option maxRecDepth 20000 in
theorem ggX5_init_X2_init : GoodIn wsX5_init wsX2_init := goodIn_rB _ [19, 20, 2, 3, 12, 21, 45, 46, 47] (by decide +kernel) (by decide +kernel)
set_option maxRecDepth 20000 in
theorem gX5_init_X2_init_n25 : GoodIn wsX5_init (wsX2_init) := ggX5_init_X2_init
set_option maxRecDepth 20000 in
theorem ggX5_init_X1_init : GoodIn wsX5_init wsX1_init := goodIn_rB _ [23, 24, 2, 3, 25, 48, 49, 50, 51, 52, 53, 54, 55, 56, 57, 58, 59, 60, 61] (by decide +kernel) (by decide +kernel)
set_option maxRecDepth 20000 in
theorem gX5_init_X1_init_n34 : GoodIn wsX5_init (wsX1_init) := ggX5_init_X1_init
set_option maxRecDepth 20000 in
theorem ggX5_init_X4_init : GoodIn wsX5_init wsX4_init := goodIn_rB _ [28, 29, 2, 3, 12, 30, 31, 62, 63] (by decide +kernel) (by decide +kernel)
set_option maxRecDepth 20000 in
theorem gX5_init_X4_init : GoodIn wsX5_init (wsX4_init) := ggX5_init_X4_init
theorem dX5_init_0 : decode cX5_init 0 = .ok (.aload_n 0, 1) := by decide +kernel
theorem dX5_init_1 : decode cX5_init 1 = .ok (.invokespecial 3, 3) := by decide +kernel
theorem dX5_init_4 : decode cX5_init 4 = .ok (.aload_n 0, 1) := by decide +kernel
theorem dX5_init_5 : decode cX5_init 5 = .ok (.bipush 24, 2) := by decide +kernel
theorem dX5_init_7 : decode cX5_init 7 = .ok (.anewarray 9, 3) := by decide +kernel
theorem dX5_init_10 : decode cX5_init 10 = .ok (.putfield 11, 3) := by decide +kernel
theorem dX5_init_13 : decode cX5_init 13 = .ok (.aload_n 0, 1) := by decide +kernel
theorem dX5_init_14 : decode cX5_init 14 = .ok (.iconst 4, 1) := by decide +kernel
theorem dX5_init_15 : decode cX5_init 15 = .ok (.anewarray 17, 3) := by decide +kernel
theorem dX5_init_18 : decode cX5_init 18 = .ok (.putfield 19, 3) := by decide +kernel
theorem dX5_init_21 : decode cX5_init 21 = .ok (.aload_n 0, 1) := by decide +kernel
theorem dX5_init_22 : decode cX5_init 22 = .ok (.new 23, 3) := by decide +kernel
theorem dX5_init_25 : decode cX5_init 25 = .ok (.dup, 1) := by decide +kernel
theorem dX5_init_26 : decode cX5_init 26 = .ok (.invokespecial 25, 3) := by decide +kernel
theorem dX5_init_29 : decode cX5_init 29 = .ok (.putfield 26, 3) := by decide +kernel
theorem dX5_init_32 : decode cX5_init 32 = .ok (.aload_n 0, 1) := by decide +kernel
theorem dX5_init_33 : decode cX5_init 33 = .ok (.iconst 4, 1) := by decide +kernel
theorem dX5_init_34 : decode cX5_init 34 = .ok (.newarray .int, 2) := by decide +kernel
theorem dX5_init_36 : decode cX5_init 36 = .ok (.putfield 30, 3) := by decide +kernel
theorem dX5_init_39 : decode cX5_init 39 = .ok (.iconst 0, 1) := by decide +kernel
theorem dX5_init_40 : decode cX5_init 40 = .ok (.istore_n 1, 1) := by decide +kernel
theorem dX5_init_41 : decode cX5_init 41 = .ok (.iload_n 1, 1) := by decide +kernel
theorem dX5_init_42 : decode cX5_init 42 = .ok (.bipush 24, 2) := by decide +kernel
theorem dX5_init_44 : decode cX5_init 44 = .ok (.if_icmp .ge 22, 3) := by decide +kernel
theorem dX5_init_47 : decode cX5_init 47 = .ok (.aload_n 0, 1) := by decide +kernel
theorem dX5_init_48 : decode cX5_init 48 = .ok (.getfield 11, 3) := by decide +kernel
theorem dX5_init_51 : decode cX5_init 51 = .ok (.iload_n 1, 1) := by decide +kernel
theorem dX5_init_52 : decode cX5_init 52 = .ok (.new 9, 3) := by decide +kernel
theorem dX5_init_55 : decode cX5_init 55 = .ok (.dup, 1) := by decide +kernel
theorem dX5_init_56 : decode cX5_init 56 = .ok (.invokespecial 34, 3) := by decide +kernel
theorem dX5_init_59 : decode cX5_init 59 = .ok (.aastore, 1) := by decide +kernel
theorem dX5_init_60 : decode cX5_init 60 = .ok (.iinc 1 1, 3) := by decide +kernel
theorem dX5_init_63 : decode cX5_init 63 = .ok (.goto (-22), 3) := by decide +kernel
theorem dX5_init_66 : decode cX5_init 66 = .ok (.iconst 0, 1) := by decide +kernel
theorem dX5_init_67 : decode cX5_init 67 = .ok (.istore_n 1, 1) := by decide +kernel
theorem dX5_init_68 : decode cX5_init 68 = .ok (.iload_n 1, 1) := by decide +kernel
theorem dX5_init_69 : decode cX5_init 69 = .ok (.iconst 4, 1) := by decide +kernel
theorem dX5_init_70 : decode cX5_init 70 = .ok (.if_icmp .ge 22, 3) := by decide +kernel
theorem dX5_init_73 : decode cX5_init 73 = .ok (.aload_n 0, 1) := by decide +kernel
theorem dX5_init_74 : decode cX5_init 74 = .ok (.getfield 19, 3) := by decide +kernel
theorem dX5_init_77 : decode cX5_init 77 = .ok (.iload_n 1, 1) := by decide +kernel
theorem dX5_init_78 : decode cX5_init 78 = .ok (.new 17, 3) := by decide +kernel
theorem dX5_init_81 : decode cX5_init 81 = .ok (.dup, 1) := by decide +kernel
theorem dX5_init_82 : decode cX5_init 82 = .ok (.invokespecial 35, 3) := by decide +kernel
theorem dX5_init_85 : decode cX5_init 85 = .ok (.aastore, 1) := by decide +kernel
theorem dX5_init_86 : decode cX5_init 86 = .ok (.iinc 1 1, 3) := by decide +kernel
theorem dX5_init_89 : decode cX5_init 89 = .ok (.goto (-21), 3) := by decide +kernel
theorem dX5_init_92 : decode cX5_init 92 = .ok (.iconst 0, 1) := by decide +kernel
theorem dX5_init_93 : decode cX5_init 93 = .ok (.istore_n 1, 1) := by decide +kernel
theorem dX5_init_94 : decode cX5_init 94 = .ok (.iload_n 1, 1) := by decide +kernel
theorem dX5_init_95 : decode cX5_init 95 = .ok (.iconst 4, 1) := by decide +kernel
theorem dX5_init_96 : decode cX5_init 96 = .ok (.if_icmp .ge 20, 3) := by decide +kernel
theorem dX5_init_99 : decode cX5_init 99 = .ok (.aload_n 0, 1) := by decide +kernel
theorem dX5_init_100 : decode cX5_init 100 = .ok (.getfield 30, 3) := by decide +kernel
theorem dX5_init_103 : decode cX5_init 103 = .ok (.iload_n 1, 1) := by decide +kernel
theorem dX5_init_104 : decode cX5_init 104 = .ok (.getstatic 36, 3) := by decide +kernel
theorem dX5_init_107 : decode cX5_init 107 = .ok (.iload_n 1, 1) := by decide +kernel
theorem dX5_init_108 : decode cX5_init 108 = .ok (.iaload, 1) := by decide +kernel
theorem dX5_init_109 : decode cX5_init 109 = .ok (.iastore, 1) := by decide +kernel
theorem dX5_init_110 : decode cX5_init 110 = .ok (.iinc 1 1, 3) := by decide +kernel
theorem dX5_init_113 : decode cX5_init 113 = .ok (.goto (-19), 3) := by decide +kernel
theorem dX5_init_116 : decode cX5_init 116 = .ok (.return_, 1) := by decide +kernel
set_option maxRecDepth 20000 in
theorem ggX5_copyFrom_X1_copyFrom : GoodIn wsX5_copyFrom wsX1_copyFrom := goodIn_rB _ [22, 23, 24, 25, 26, 27, 28, 29, 30, 31, 32, 33, 34, 35, 36, 67, 68, 69, 70, 71, 72, 73, 74, 75, 76, 77, 78, 79, 80] (by decide +kernel) (by decide +kernel)
set_option maxRecDepth 20000 in
theorem gX5_copyFrom_X1_copyFrom : GoodIn wsX5_copyFrom (wsV RX5 39 RX1 yX1_copyFrom wsX1_copyFrom) := goodIn_app (goodIn_of _ (by decide +kernel)) ggX5_copyFrom_X1_copyFrom
set_option maxRecDepth 20000 in
theorem ggX5_copyFrom_X4_copyFrom : GoodIn wsX5_copyFrom wsX4_copyFrom := goodIn_rB _ [41, 42, 43, 6, 7, 8, 44, 81, 82] (by decide +kernel) (by decide +kernel)
set_option maxRecDepth 20000 in
theorem gX5_copyFrom_X4_copyFrom : GoodIn wsX5_copyFrom (wsV RX5 43 RX4 yX4_copyFrom wsX4_copyFrom) := goodIn_app (goodIn_of _ (by decide +kernel)) ggX5_copyFrom_X4_copyFrom
set_option maxRecDepth 20000 in
theorem ggX5_copyFrom_X2_copyFrom : GoodIn wsX5_copyFrom wsX2_copyFrom := goodIn_rB _ [49, 50, 51, 6, 7, 8, 52, 53, 83, 84, 85] (by decide +kernel) (by decide +kernel)
set_option maxRecDepth 20000 in
theorem gX5_copyFrom_X2_copyFrom : GoodIn wsX5_copyFrom (wsV RX5 46 RX2 yX2_copyFrom wsX2_copyFrom) := goodIn_app (goodIn_of _ (by decide +kernel)) ggX5_copyFrom_X2_copyFrom
theorem dX5_copyFrom_0 : decode cX5_copyFrom 0 = .ok (.iconst 0, 1) := by decide +kernel
theorem dX5_copyFrom_1 : decode cX5_copyFrom 1 = .ok (.istore_n 2, 1) := by decide +kernel
theorem dX5_copyFrom_2 : decode cX5_copyFrom 2 = .ok (.iload_n 2, 1) := by decide +kernel
theorem dX5_copyFrom_3 : decode cX5_copyFrom 3 = .ok (.bipush 24, 2) := by decide +kernel
theorem dX5_copyFrom_5 : decode cX5_copyFrom 5 = .ok (.if_icmp .ge 24, 3) := by decide +kernel
theorem dX5_copyFrom_8 : decode cX5_copyFrom 8 = .ok (.aload_n 0, 1) := by decide +kernel
theorem dX5_copyFrom_9 : decode cX5_copyFrom 9 = .ok (.getfield 11, 3) := by decide +kernel
theorem dX5_copyFrom_12 : decode cX5_copyFrom 12 = .ok (.iload_n 2, 1) := by decide +kernel
theorem dX5_copyFrom_13 : decode cX5_copyFrom 13 = .ok (.aaload, 1) := by decide +kernel
theorem dX5_copyFrom_14 : decode cX5_copyFrom 14 = .ok (.aload_n 1, 1) := by decide +kernel
theorem dX5_copyFrom_15 : decode cX5_copyFrom 15 = .ok (.getfield 11, 3) := by decide +kernel
theorem dX5_copyFrom_18 : decode cX5_copyFrom 18 = .ok (.iload_n 2, 1) := by decide +kernel
theorem dX5_copyFrom_19 : decode cX5_copyFrom 19 = .ok (.aaload, 1) := by decide +kernel
theorem dX5_copyFrom_20 : decode cX5_copyFrom 20 = .ok (.invokevirtual 39, 3) := by decide +kernel
theorem dX5_copyFrom_23 : decode cX5_copyFrom 23 = .ok (.iinc 2 1, 3) := by decide +kernel
theorem dX5_copyFrom_26 : decode cX5_copyFrom 26 = .ok (.goto (-24), 3) := by decide +kernel
theorem dX5_copyFrom_29 : decode cX5_copyFrom 29 = .ok (.iconst 0, 1) := by decide +kernel
theorem dX5_copyFrom_30 : decode cX5_copyFrom 30 = .ok (.istore_n 2, 1) := by decide +kernel
theorem dX5_copyFrom_31 : decode cX5_copyFrom 31 = .ok (.iload_n 2, 1) := by decide +kernel
theorem dX5_copyFrom_32 : decode cX5_copyFrom 32 = .ok (.iconst 4, 1) := by decide +kernel
theorem dX5_copyFrom_33 : decode cX5_copyFrom 33 = .ok (.if_icmp .ge 24, 3) := by decide +kernel
theorem dX5_copyFrom_36 : decode cX5_copyFrom 36 = .ok (.aload_n 0, 1) := by decide +kernel
theorem dX5_copyFrom_37 : decode cX5_copyFrom 37 = .ok (.getfield 19, 3) := by decide +kernel
theorem dX5_copyFrom_40 : decode cX5_copyFrom 40 = .ok (.iload_n 2, 1) := by decide +kernel
theorem dX5_copyFrom_41 : decode cX5_copyFrom 41 = .ok (.aaload, 1) := by decide +kernel
theorem dX5_copyFrom_42 : decode cX5_copyFrom 42 = .ok (.aload_n 1, 1) := by decide +kernel
theorem dX5_copyFrom_43 : decode cX5_copyFrom 43 = .ok (.getfield 19, 3) := by decide +kernel
theorem dX5_copyFrom_46 : decode cX5_copyFrom 46 = .ok (.iload_n 2, 1) := by decide +kernel
theorem dX5_copyFrom_47 : decode cX5_copyFrom 47 = .ok (.aaload, 1) := by decide +kernel
theorem dX5_copyFrom_48 : decode cX5_copyFrom 48 = .ok (.invokevirtual 43, 3) := by decide +kernel
theorem dX5_copyFrom_51 : decode cX5_copyFrom 51 = .ok (.iinc 2 1, 3) := by decide +kernel
theorem dX5_copyFrom_54 : decode cX5_copyFrom 54 = .ok (.goto (-23), 3) := by decide +kernel
theorem dX5_copyFrom_57 : decode cX5_copyFrom 57 = .ok (.aload_n 0, 1) := by decide +kernel
theorem dX5_copyFrom_58 : decode cX5_copyFrom 58 = .ok (.getfield 26, 3) := by decide +kernel
theorem dX5_copyFrom_61 : decode cX5_copyFrom 61 = .ok (.aload_n 1, 1) := by decide +kernel
theorem dX5_copyFrom_62 : decode cX5_copyFrom 62 = .ok (.getfield 26, 3) := by decide +kernel
theorem dX5_copyFrom_65 : decode cX5_copyFrom 65 = .ok (.invokevirtual 46, 3) := by decide +kernel
theorem dX5_copyFrom_68 : decode cX5_copyFrom 68 = .ok (.aload_n 1, 1) := by decide +kernel
theorem dX5_copyFrom_69 : decode cX5_copyFrom 69 = .ok (.getfield 30, 3) := by decide +kernel
theorem dX5_copyFrom_72 : decode cX5_copyFrom 72 = .ok (.iconst 0, 1) := by decide +kernel
theorem dX5_copyFrom_73 : decode cX5_copyFrom 73 = .ok (.aload_n 0, 1) := by decide +kernel
theorem dX5_copyFrom_74 : decode cX5_copyFrom 74 = .ok (.getfield 30, 3) := by decide +kernel
theorem dX5_copyFrom_77 : decode cX5_copyFrom 77 = .ok (.iconst 0, 1) := by decide +kernel
theorem dX5_copyFrom_78 : decode cX5_copyFrom 78 = .ok (.iconst 4, 1) := by decide +kernel
theorem dX5_copyFrom_79 : decode cX5_copyFrom 79 = .ok (.invokestatic 49, 3) := by decide +kernel
theorem dX5_copyFrom_82 : decode cX5_copyFrom 82 = .ok (.aload_n 0, 1) := by decide +kernel
theorem dX5_copyFrom_83 : decode cX5_copyFrom 83 = .ok (.aload_n 1, 1) := by decide +kernel
theorem dX5_copyFrom_84 : decode cX5_copyFrom 84 = .ok (.getfield 55, 3) := by decide +kernel
theorem dX5_copyFrom_87 : decode cX5_copyFrom 87 = .ok (.putfield 55, 3) := by decide +kernel
theorem dX5_copyFrom_90 : decode cX5_copyFrom 90 = .ok (.aload_n 0, 1) := by decide +kernel
theorem dX5_copyFrom_91 : decode cX5_copyFrom 91 = .ok (.aload_n 1, 1) := by decide +kernel
theorem dX5_copyFrom_92 : decode cX5_copyFrom 92 = .ok (.getfield 59, 3) := by decide +kernel
theorem dX5_copyFrom_95 : decode cX5_copyFrom 95 = .ok (.putfield 59, 3) := by decide +kernel
theorem dX5_copyFrom_98 : decode cX5_copyFrom 98 = .ok (.aload_n 0, 1) := by decide +kernel
theorem dX5_copyFrom_99 : decode cX5_copyFrom 99 = .ok (.aload_n 1, 1) := by decide +kernel
theorem dX5_copyFrom_100 : decode cX5_copyFrom 100 = .ok (.getfield 62, 3) := by decide +kernel
theorem dX5_copyFrom_103 : decode cX5_copyFrom 103 = .ok (.putfield 62, 3) := by decide +kernel
theorem dX5_copyFrom_106 : decode cX5_copyFrom 106 = .ok (.aload_n 0, 1) := by decide +kernel
theorem dX5_copyFrom_107 : decode cX5_copyFrom 107 = .ok (.aload_n 1, 1) := by decide +kernel
theorem dX5_copyFrom_108 : decode cX5_copyFrom 108 = .ok (.getfield 65, 3) := by decide +kernel
theorem dX5_copyFrom_111 : decode cX5_copyFrom 111 = .ok (.putfield 65, 3) := by decide +kernel
theorem dX5_copyFrom_114 : decode cX5_copyFrom 114 = .ok (.aload_n 0, 1) := by decide +kernel
theorem dX5_copyFrom_115 : decode cX5_copyFrom 115 = .ok (.aload_n 1, 1) := by decide +kernel
theorem dX5_copyFrom_116 : decode cX5_copyFrom 116 = .ok (.getfield 68, 3) := by decide +kernel
theorem dX5_copyFrom_119 : decode cX5_copyFrom 119 = .ok (.putfield 68, 3) := by decide +kernel
theorem dX5_copyFrom_122 : decode cX5_copyFrom 122 = .ok (.aload_n 0, 1) := by decide +kernel
theorem dX5_copyFrom_123 : decode cX5_copyFrom 123 = .ok (.aload_n 1, 1) := by decide +kernel
theorem dX5_copyFrom_124 : decode cX5_copyFrom 124 = .ok (.getfield 71, 3) := by decide +kernel
theorem dX5_copyFrom_127 : decode cX5_copyFrom 127 = .ok (.putfield 71, 3) := by decide +kernel
theorem dX5_copyFrom_130 : decode cX5_copyFrom 130 = .ok (.aload_n 0, 1) := by decide +kernel
theorem dX5_copyFrom_131 : decode cX5_copyFrom 131 = .ok (.aload_n 1, 1) := by decide +kernel
theorem dX5_copyFrom_132 : decode cX5_copyFrom 132 = .ok (.getfield 74, 3) := by decide +kernel
theorem dX5_copyFrom_135 : decode cX5_copyFrom 135 = .ok (.putfield 74, 3) := by decide +kernel
theorem dX5_copyFrom_138 : decode cX5_copyFrom 138 = .ok (.aload_n 0, 1) := by decide +kernel
theorem dX5_copyFrom_139 : decode cX5_copyFrom 139 = .ok (.aload_n 1, 1) := by decide +kernel
theorem dX5_copyFrom_140 : decode cX5_copyFrom 140 = .ok (.getfield 77, 3) := by decide +kernel
theorem dX5_copyFrom_143 : decode cX5_copyFrom 143 = .ok (.putfield 77, 3) := by decide +kernel
theorem dX5_copyFrom_146 : decode cX5_copyFrom 146 = .ok (.aload_n 0, 1) := by decide +kernel
theorem dX5_copyFrom_147 : decode cX5_copyFrom 147 = .ok (.aload_n 1, 1) := by decide +kernel
theorem dX5_copyFrom_148 : decode cX5_copyFrom 148 = .ok (.getfield 80, 3) := by decide +kernel
theorem dX5_copyFrom_151 : decode cX5_copyFrom 151 = .ok (.putfield 80, 3) := by decide +kernel
theorem dX5_copyFrom_154 : decode cX5_copyFrom 154 = .ok (.return_, 1) := by decide +kernel
theorem dX5_houseNumbered_0 : decode cX5_houseNumbered 0 = .ok (.iload_n 1, 1) := by decide +kernel
theorem dX5_houseNumbered_1 : decode cX5_houseNumbered 1 = .ok (.ifCond .lt 26, 3) := by decide +kernel
theorem dX5_houseNumbered_4 : decode cX5_houseNumbered 4 = .ok (.iload_n 1, 1) := by decide +kernel
theorem dX5_houseNumbered_5 : decode cX5_houseNumbered 5 = .ok (.aload_n 0, 1) := by decide +kernel
theorem dX5_houseNumbered_6 : decode cX5_houseNumbered 6 = .ok (.getfield 55, 3) := by decide +kernel
theorem dX5_houseNumbered_9 : decode cX5_houseNumbered 9 = .ok (.if_icmp .ge 18, 3) := by decide +kernel
theorem dX5_houseNumbered_12 : decode cX5_houseNumbered 12 = .ok (.iload_n 1, 1) := by decide +kernel
theorem dX5_houseNumbered_13 : decode cX5_houseNumbered 13 = .ok (.bipush 24, 2) := by decide +kernel
theorem dX5_houseNumbered_15 : decode cX5_houseNumbered 15 = .ok (.if_icmp .ge 12, 3) := by decide +kernel
theorem dX5_houseNumbered_18 : decode cX5_houseNumbered 18 = .ok (.aload_n 0, 1) := by decide +kernel
theorem dX5_houseNumbered_19 : decode cX5_houseNumbered 19 = .ok (.getfield 11, 3) := by decide +kernel
theorem dX5_houseNumbered_22 : decode cX5_houseNumbered 22 = .ok (.iload_n 1, 1) := by decide +kernel
theorem dX5_houseNumbered_23 : decode cX5_houseNumbered 23 = .ok (.aaload, 1) := by decide +kernel
theorem dX5_houseNumbered_24 : decode cX5_houseNumbered 24 = .ok (.goto 4, 3) := by decide +kernel
theorem dX5_houseNumbered_27 : decode cX5_houseNumbered 27 = .ok (.aconst_null, 1) := by decide +kernel
theorem dX5_houseNumbered_28 : decode cX5_houseNumbered 28 = .ok (.areturn, 1) := by decide +kernel
theorem dX5_streetNumbered_0 : decode cX5_streetNumbered 0 = .ok (.iload_n 1, 1) := by decide +kernel
theorem dX5_streetNumbered_1 : decode cX5_streetNumbered 1 = .ok (.ifCond .lt 17, 3) := by decide +kernel
theorem dX5_streetNumbered_4 : decode cX5_streetNumbered 4 = .ok (.iload_n 1, 1) := by decide +kernel
theorem dX5_streetNumbered_5 : decode cX5_streetNumbered 5 = .ok (.iconst 4, 1) := by decide +kernel
theorem dX5_streetNumbered_6 : decode cX5_streetNumbered 6 = .ok (.if_icmp .ge 12, 3) := by decide +kernel
theorem dX5_streetNumbered_9 : decode cX5_streetNumbered 9 = .ok (.aload_n 0, 1) := by decide +kernel
theorem dX5_streetNumbered_10 : decode cX5_streetNumbered 10 = .ok (.getfield 19, 3) := by decide +kernel
theorem dX5_streetNumbered_13 : decode cX5_streetNumbered 13 = .ok (.iload_n 1, 1) := by decide +kernel
theorem dX5_streetNumbered_14 : decode cX5_streetNumbered 14 = .ok (.aaload, 1) := by decide +kernel
theorem dX5_streetNumbered_15 : decode cX5_streetNumbered 15 = .ok (.goto 4, 3) := by decide +kernel
theorem dX5_streetNumbered_18 : decode cX5_streetNumbered 18 = .ok (.aconst_null, 1) := by decide +kernel
theorem dX5_streetNumbered_19 : decode cX5_streetNumbered 19 = .ok (.areturn, 1) := by decide +kernel
set_option maxRecDepth 20000 in
theorem ggX5_obey_X5_addHouse : GoodIn wsX5_obey wsX5_addHouse := goodIn_rB _ [8, 1, 9, 10, 3, 11, 12, 13, 14, 7, 15, 16, 17, 18, 19, 20, 21, 22, 23, 24, 25, 26, 27, 28, 29, 30, 31, 129, 130, 131, 132, 133, 134, 135, 136, 137, 138, 139, 140, 141, 142, 143, 144, 145, 146, 147, 148, 149, 150, 151, 152, 153, 154, 155, 156, 157] (by decide +kernel) (by decide +kernel)
set_option maxRecDepth 20000 in
theorem gX5_obey_X5_addHouse : GoodIn wsX5_obey (wsV RX5 83 RX5 yX5_addHouse wsX5_addHouse) := goodIn_app (goodIn_of _ (by decide +kernel)) ggX5_obey_X5_addHouse
set_option maxRecDepth 20000 in
theorem ggX5_obey_X5_putFlow : GoodIn wsX5_obey wsX5_putFlow := goodIn_rB _ [35, 1, 36, 37, 38, 7, 39, 10, 11, 142, 143, 144, 145, 146, 147, 148, 149, 150, 151, 152, 153, 154, 155, 129, 130, 131, 132, 133, 134, 135, 136, 137, 138, 139, 140, 141] (by decide +kernel) (by decide +kernel)
set_option maxRecDepth 20000 in
theorem gX5_obey_X5_putFlow : GoodIn wsX5_obey (wsV RX5 87 RX5 yX5_putFlow wsX5_putFlow) := goodIn_app (goodIn_of _ (by decide +kernel)) ggX5_obey_X5_putFlow
set_option maxRecDepth 20000 in
theorem ggX5_obey_X5_turnLock : GoodIn wsX5_obey wsX5_turnLock := goodIn_rB _ [43, 1, 36, 37, 38, 7, 39, 10, 11, 44, 45, 46, 47, 142, 143, 144, 145, 146, 147, 148, 149, 150, 151, 152, 153, 154, 155, 129, 130, 131, 132, 133, 134, 135, 136, 137, 138, 139, 140, 141] (by decide +kernel) (by decide +kernel)
set_option maxRecDepth 20000 in
theorem gX5_obey_X5_turnLock : GoodIn wsX5_obey (wsV RX5 90 RX5 yX5_turnLock wsX5_turnLock) := goodIn_app (goodIn_of _ (by decide +kernel)) ggX5_obey_X5_turnLock
set_option maxRecDepth 20000 in
theorem ggX5_obey_X5_readIfOpen : GoodIn wsX5_obey wsX5_readIfOpen := goodIn_rB _ [51, 1, 2, 9, 36, 37, 38, 7, 39, 10, 11, 52, 53, 54, 55, 56, 57, 58, 59, 60, 61, 62, 63, 64, 65, 66, 67, 68, 69, 70, 71, 72, 73, 74, 75, 76, 18, 77, 78, 79, 80, 81, 82, 83, 84, 85, 86, 87, 88, 89, 90, 91, 92, 93, 94, 129, 130, 131, 132, 133, 134, 135, 136, 137, 138, 139, 140, 141, 142, 143, 144, 145, 146, 147, 148, 149, 150, 151, 152, 153, 154, 155, 158, 159, 160] (by decide +kernel) (by decide +kernel)
set_option maxRecDepth 20000 in
theorem gX5_obey_X5_readIfOpen : GoodIn wsX5_obey (wsV RX5 94 RX5 yX5_readIfOpen wsX5_readIfOpen) := goodIn_app (goodIn_of _ (by decide +kernel)) ggX5_obey_X5_readIfOpen
set_option maxRecDepth 20000 in
theorem ggX5_obey_X5_changeMeter : GoodIn wsX5_obey wsX5_changeMeter := goodIn_rB _ [98, 1, 36, 37, 38, 7, 39, 10, 11, 59, 60, 61, 62, 2, 63, 64, 65, 66, 67, 68, 69, 70, 71, 55, 72, 73, 74, 75, 76, 18, 77, 78, 79, 80, 81, 82, 58, 83, 84, 85, 86, 87, 88, 89, 90, 91, 92, 93, 94, 99, 100, 101, 102, 103, 129, 130, 131, 132, 133, 134, 135, 136, 137, 138, 139, 140, 141, 142, 143, 144, 145, 146, 147, 148, 149, 150, 151, 152, 153, 154, 155, 158, 159, 160] (by decide +kernel) (by decide +kernel)
set_option maxRecDepth 20000 in
theorem gX5_obey_X5_changeMeter : GoodIn wsX5_obey (wsV RX5 97 RX5 yX5_changeMeter wsX5_changeMeter) := goodIn_app (goodIn_of _ (by decide +kernel)) ggX5_obey_X5_changeMeter
set_option maxRecDepth 20000 in
theorem ggX5_obey_X5_passDays : GoodIn wsX5_obey wsX5_passDays := goodIn_rB _ [107, 64, 11, 2, 67, 108, 109, 110, 55, 111, 73, 112, 75, 12, 13, 14, 7, 15, 16, 113, 114, 115, 116, 117, 118, 119, 25, 120, 121, 22, 23, 24, 26, 27, 36, 37, 38, 39, 10, 52, 53, 54, 56, 57, 58, 59, 60, 61, 62, 63, 65, 66, 68, 69, 70, 71, 72, 74, 76, 18, 77, 78, 79, 80, 81, 82, 83, 84, 85, 86, 87, 88, 89, 90, 91, 92, 93, 94, 122, 123, 124, 125, 126, 127, 128, 129, 130, 131, 132, 133, 134, 135, 136, 137, 138, 139, 140, 141, 142, 143, 144, 145, 146, 147, 148, 149, 150, 151, 152, 153, 154, 155, 156, 157, 158, 159, 160] (by decide +kernel) (by decide +kernel)
set_option maxRecDepth 20000 in
theorem gX5_obey_X5_passDays : GoodIn wsX5_obey (wsV RX5 102 RX5 yX5_passDays wsX5_passDays) := goodIn_app (goodIn_of _ (by decide +kernel)) ggX5_obey_X5_passDays
theorem dX5_obey_0 : decode cX5_obey 0 = .ok (.iload_n 1, 1) := by decide +kernel
theorem dX5_obey_1 : decode cX5_obey 1 = .ok (.tableswitch 148 99 114 #[105, 111, 148, 86, 148, 79, 148, 148, 148, 93, 148, 148, 148, 148, 148, 99], 79) := by decide +kernel
theorem dX5_obey_80 : decode cX5_obey 80 = .ok (.aload_n 0, 1) := by decide +kernel
theorem dX5_obey_81 : decode cX5_obey 81 = .ok (.iload_n 2, 1) := by decide +kernel
theorem dX5_obey_82 : decode cX5_obey 82 = .ok (.iload_n 3, 1) := by decide +kernel
theorem dX5_obey_83 : decode cX5_obey 83 = .ok (.invokevirtual 83, 3) := by decide +kernel
theorem dX5_obey_86 : decode cX5_obey 86 = .ok (.ireturn, 1) := by decide +kernel
theorem dX5_obey_87 : decode cX5_obey 87 = .ok (.aload_n 0, 1) := by decide +kernel
theorem dX5_obey_88 : decode cX5_obey 88 = .ok (.iload_n 2, 1) := by decide +kernel
theorem dX5_obey_89 : decode cX5_obey 89 = .ok (.iload_n 3, 1) := by decide +kernel
theorem dX5_obey_90 : decode cX5_obey 90 = .ok (.invokevirtual 87, 3) := by decide +kernel
theorem dX5_obey_93 : decode cX5_obey 93 = .ok (.ireturn, 1) := by decide +kernel
theorem dX5_obey_94 : decode cX5_obey 94 = .ok (.aload_n 0, 1) := by decide +kernel
theorem dX5_obey_95 : decode cX5_obey 95 = .ok (.iload_n 2, 1) := by decide +kernel
theorem dX5_obey_96 : decode cX5_obey 96 = .ok (.invokevirtual 90, 3) := by decide +kernel
theorem dX5_obey_99 : decode cX5_obey 99 = .ok (.ireturn, 1) := by decide +kernel
theorem dX5_obey_100 : decode cX5_obey 100 = .ok (.aload_n 0, 1) := by decide +kernel
theorem dX5_obey_101 : decode cX5_obey 101 = .ok (.iload_n 2, 1) := by decide +kernel
theorem dX5_obey_102 : decode cX5_obey 102 = .ok (.invokevirtual 94, 3) := by decide +kernel
theorem dX5_obey_105 : decode cX5_obey 105 = .ok (.ireturn, 1) := by decide +kernel
theorem dX5_obey_106 : decode cX5_obey 106 = .ok (.aload_n 0, 1) := by decide +kernel
theorem dX5_obey_107 : decode cX5_obey 107 = .ok (.iload_n 2, 1) := by decide +kernel
theorem dX5_obey_108 : decode cX5_obey 108 = .ok (.invokevirtual 97, 3) := by decide +kernel
theorem dX5_obey_111 : decode cX5_obey 111 = .ok (.ireturn, 1) := by decide +kernel
theorem dX5_obey_112 : decode cX5_obey 112 = .ok (.iload_n 2, 1) := by decide +kernel
theorem dX5_obey_113 : decode cX5_obey 113 = .ok (.iconst 1, 1) := by decide +kernel
theorem dX5_obey_114 : decode cX5_obey 114 = .ok (.if_icmp .lt 9, 3) := by decide +kernel
theorem dX5_obey_117 : decode cX5_obey 117 = .ok (.iload_n 2, 1) := by decide +kernel
theorem dX5_obey_118 : decode cX5_obey 118 = .ok (.bipush 99, 2) := by decide +kernel
theorem dX5_obey_120 : decode cX5_obey 120 = .ok (.if_icmp .le 6, 3) := by decide +kernel
theorem dX5_obey_123 : decode cX5_obey 123 = .ok (.ldc 100, 2) := by decide +kernel
theorem dX5_obey_125 : decode cX5_obey 125 = .ok (.ireturn, 1) := by decide +kernel
theorem dX5_obey_126 : decode cX5_obey 126 = .ok (.aload_n 0, 1) := by decide +kernel
theorem dX5_obey_127 : decode cX5_obey 127 = .ok (.getfield 59, 3) := by decide +kernel
theorem dX5_obey_130 : decode cX5_obey 130 = .ok (.iload_n 2, 1) := by decide +kernel
theorem dX5_obey_131 : decode cX5_obey 131 = .ok (.iadd, 1) := by decide +kernel
theorem dX5_obey_132 : decode cX5_obey 132 = .ok (.sipush 9999, 3) := by decide +kernel
theorem dX5_obey_135 : decode cX5_obey 135 = .ok (.if_icmp .le 8, 3) := by decide +kernel
theorem dX5_obey_138 : decode cX5_obey 138 = .ok (.ldc 101, 2) := by decide +kernel
theorem dX5_obey_140 : decode cX5_obey 140 = .ok (.goto 8, 3) := by decide +kernel
theorem dX5_obey_143 : decode cX5_obey 143 = .ok (.aload_n 0, 1) := by decide +kernel
theorem dX5_obey_144 : decode cX5_obey 144 = .ok (.iload_n 2, 1) := by decide +kernel
theorem dX5_obey_145 : decode cX5_obey 145 = .ok (.invokevirtual 102, 3) := by decide +kernel
theorem dX5_obey_148 : decode cX5_obey 148 = .ok (.ireturn, 1) := by decide +kernel
theorem dX5_obey_149 : decode cX5_obey 149 = .ok (.ldc 100, 2) := by decide +kernel
theorem dX5_obey_151 : decode cX5_obey 151 = .ok (.ireturn, 1) := by decide +kernel
set_option maxRecDepth 20000 in
theorem ggX5_addHouse_X5_streetNumbered : GoodIn wsX5_addHouse wsX5_streetNumbered := goodIn_rB _ [10, 11, 27, 28, 29, 30, 31, 32, 33, 34, 35, 36, 37, 38, 39] (by decide +kernel) (by decide +kernel)
set_option maxRecDepth 20000 in
theorem gX5_addHouse_X5_streetNumbered : GoodIn wsX5_addHouse (wsV RX5 105 RX5 yX5_streetNumbered wsX5_streetNumbered) := goodIn_app (goodIn_of _ (by decide +kernel)) ggX5_addHouse_X5_streetNumbered
set_option maxRecDepth 20000 in
theorem ggX5_addHouse_X6_isPlace : GoodIn wsX5_addHouse wsX6_isPlace := goodIn_rB _ [14] (by decide +kernel) (by decide +kernel)
set_option maxRecDepth 20000 in
theorem gX5_addHouse_X6_isPlace_n109 : GoodIn wsX5_addHouse (wsX6_isPlace) := ggX5_addHouse_X6_isPlace
set_option maxRecDepth 20000 in
theorem ggX5_addHouse_X6_stepOf : GoodIn wsX5_addHouse wsX6_stepOf := goodIn_rB _ [16] (by decide +kernel) (by decide +kernel)
set_option maxRecDepth 20000 in
theorem gX5_addHouse_X6_stepOf_n113 : GoodIn wsX5_addHouse (wsX6_stepOf) := ggX5_addHouse_X6_stepOf
set_option maxRecDepth 20000 in
theorem ggX5_addHouse_X4_houseOn : GoodIn wsX5_addHouse wsX4_houseOn := goodIn_rB _ [21, 22, 54, 55] (by decide +kernel) (by decide +kernel)
set_option maxRecDepth 20000 in
theorem gX5_addHouse_X4_houseOn : GoodIn wsX5_addHouse (wsV RX5 116 RX4 yX4_houseOn wsX4_houseOn) := goodIn_app (goodIn_of _ (by decide +kernel)) ggX5_addHouse_X4_houseOn
set_option maxRecDepth 20000 in
theorem ggX5_addHouse_X4_putHouse : GoodIn wsX5_addHouse wsX4_putHouse := goodIn_rB _ [26, 22, 54, 55] (by decide +kernel) (by decide +kernel)
set_option maxRecDepth 20000 in
theorem gX5_addHouse_X4_putHouse : GoodIn wsX5_addHouse (wsV RX5 126 RX4 yX4_putHouse wsX4_putHouse) := goodIn_app (goodIn_of _ (by decide +kernel)) ggX5_addHouse_X4_putHouse
theorem dX5_addHouse_0 : decode cX5_addHouse 0 = .ok (.aload_n 0, 1) := by decide +kernel
theorem dX5_addHouse_1 : decode cX5_addHouse 1 = .ok (.iload_n 1, 1) := by decide +kernel
theorem dX5_addHouse_2 : decode cX5_addHouse 2 = .ok (.invokevirtual 105, 3) := by decide +kernel
theorem dX5_addHouse_5 : decode cX5_addHouse 5 = .ok (.astore_n 3, 1) := by decide +kernel
theorem dX5_addHouse_6 : decode cX5_addHouse 6 = .ok (.aload_n 3, 1) := by decide +kernel
theorem dX5_addHouse_7 : decode cX5_addHouse 7 = .ok (.ifnull 10, 3) := by decide +kernel
theorem dX5_addHouse_10 : decode cX5_addHouse 10 = .ok (.iload_n 2, 1) := by decide +kernel
theorem dX5_addHouse_11 : decode cX5_addHouse 11 = .ok (.invokestatic 109, 3) := by decide +kernel
theorem dX5_addHouse_14 : decode cX5_addHouse 14 = .ok (.ifCond .ne 6, 3) := by decide +kernel
theorem dX5_addHouse_17 : decode cX5_addHouse 17 = .ok (.ldc 100, 2) := by decide +kernel
theorem dX5_addHouse_19 : decode cX5_addHouse 19 = .ok (.ireturn, 1) := by decide +kernel
theorem dX5_addHouse_20 : decode cX5_addHouse 20 = .ok (.aload_n 3, 1) := by decide +kernel
theorem dX5_addHouse_21 : decode cX5_addHouse 21 = .ok (.iload_n 2, 1) := by decide +kernel
theorem dX5_addHouse_22 : decode cX5_addHouse 22 = .ok (.invokestatic 113, 3) := by decide +kernel
theorem dX5_addHouse_25 : decode cX5_addHouse 25 = .ok (.invokevirtual 116, 3) := by decide +kernel
theorem dX5_addHouse_28 : decode cX5_addHouse 28 = .ok (.iconst (-1), 1) := by decide +kernel
theorem dX5_addHouse_29 : decode cX5_addHouse 29 = .ok (.if_icmp .eq 6, 3) := by decide +kernel
theorem dX5_addHouse_32 : decode cX5_addHouse 32 = .ok (.ldc 119, 2) := by decide +kernel
theorem dX5_addHouse_34 : decode cX5_addHouse 34 = .ok (.ireturn, 1) := by decide +kernel
theorem dX5_addHouse_35 : decode cX5_addHouse 35 = .ok (.aload_n 0, 1) := by decide +kernel
theorem dX5_addHouse_36 : decode cX5_addHouse 36 = .ok (.getfield 55, 3) := by decide +kernel
theorem dX5_addHouse_39 : decode cX5_addHouse 39 = .ok (.bipush 24, 2) := by decide +kernel
theorem dX5_addHouse_41 : decode cX5_addHouse 41 = .ok (.if_icmp .lt 6, 3) := by decide +kernel
theorem dX5_addHouse_44 : decode cX5_addHouse 44 = .ok (.ldc 101, 2) := by decide +kernel
theorem dX5_addHouse_46 : decode cX5_addHouse 46 = .ok (.ireturn, 1) := by decide +kernel
theorem dX5_addHouse_47 : decode cX5_addHouse 47 = .ok (.aload_n 0, 1) := by decide +kernel
theorem dX5_addHouse_48 : decode cX5_addHouse 48 = .ok (.getfield 11, 3) := by decide +kernel
theorem dX5_addHouse_51 : decode cX5_addHouse 51 = .ok (.aload_n 0, 1) := by decide +kernel
theorem dX5_addHouse_52 : decode cX5_addHouse 52 = .ok (.getfield 55, 3) := by decide +kernel
theorem dX5_addHouse_55 : decode cX5_addHouse 55 = .ok (.aaload, 1) := by decide +kernel
theorem dX5_addHouse_56 : decode cX5_addHouse 56 = .ok (.astore 4, 2) := by decide +kernel
theorem dX5_addHouse_58 : decode cX5_addHouse 58 = .ok (.aload 4, 2) := by decide +kernel
theorem dX5_addHouse_60 : decode cX5_addHouse 60 = .ok (.iload_n 1, 1) := by decide +kernel
theorem dX5_addHouse_61 : decode cX5_addHouse 61 = .ok (.putfield 120, 3) := by decide +kernel
theorem dX5_addHouse_64 : decode cX5_addHouse 64 = .ok (.aload 4, 2) := by decide +kernel
theorem dX5_addHouse_66 : decode cX5_addHouse 66 = .ok (.iload_n 2, 1) := by decide +kernel
theorem dX5_addHouse_67 : decode cX5_addHouse 67 = .ok (.putfield 123, 3) := by decide +kernel
theorem dX5_addHouse_70 : decode cX5_addHouse 70 = .ok (.aload_n 3, 1) := by decide +kernel
theorem dX5_addHouse_71 : decode cX5_addHouse 71 = .ok (.iload_n 2, 1) := by decide +kernel
theorem dX5_addHouse_72 : decode cX5_addHouse 72 = .ok (.invokestatic 113, 3) := by decide +kernel
theorem dX5_addHouse_75 : decode cX5_addHouse 75 = .ok (.aload_n 0, 1) := by decide +kernel
theorem dX5_addHouse_76 : decode cX5_addHouse 76 = .ok (.getfield 55, 3) := by decide +kernel
theorem dX5_addHouse_79 : decode cX5_addHouse 79 = .ok (.invokevirtual 126, 3) := by decide +kernel
theorem dX5_addHouse_82 : decode cX5_addHouse 82 = .ok (.aload_n 0, 1) := by decide +kernel
theorem dX5_addHouse_83 : decode cX5_addHouse 83 = .ok (.dup, 1) := by decide +kernel
theorem dX5_addHouse_84 : decode cX5_addHouse 84 = .ok (.getfield 55, 3) := by decide +kernel
theorem dX5_addHouse_87 : decode cX5_addHouse 87 = .ok (.iconst 1, 1) := by decide +kernel
theorem dX5_addHouse_88 : decode cX5_addHouse 88 = .ok (.iadd, 1) := by decide +kernel
theorem dX5_addHouse_89 : decode cX5_addHouse 89 = .ok (.putfield 55, 3) := by decide +kernel
theorem dX5_addHouse_92 : decode cX5_addHouse 92 = .ok (.aload_n 0, 1) := by decide +kernel
theorem dX5_addHouse_93 : decode cX5_addHouse 93 = .ok (.getfield 55, 3) := by decide +kernel
theorem dX5_addHouse_96 : decode cX5_addHouse 96 = .ok (.iconst 1, 1) := by decide +kernel
theorem dX5_addHouse_97 : decode cX5_addHouse 97 = .ok (.isub, 1) := by decide +kernel
theorem dX5_addHouse_98 : decode cX5_addHouse 98 = .ok (.ireturn, 1) := by decide +kernel
set_option maxRecDepth 20000 in
theorem ggX5_putFlow_X5_houseNumbered : GoodIn wsX5_putFlow wsX5_houseNumbered := goodIn_rB _ [6, 7, 8, 23, 24, 25, 26, 27, 28, 29, 30, 31, 32, 33, 34, 35] (by decide +kernel) (by decide +kernel)
set_option maxRecDepth 20000 in
theorem gX5_putFlow_X5_houseNumbered : GoodIn wsX5_putFlow (wsV RX5 130 RX5 yX5_houseNumbered wsX5_houseNumbered) := goodIn_app (goodIn_of _ (by decide +kernel)) ggX5_putFlow_X5_houseNumbered
theorem dX5_putFlow_0 : decode cX5_putFlow 0 = .ok (.aload_n 0, 1) := by decide +kernel
theorem dX5_putFlow_1 : decode cX5_putFlow 1 = .ok (.iload_n 1, 1) := by decide +kernel
theorem dX5_putFlow_2 : decode cX5_putFlow 2 = .ok (.invokevirtual 130, 3) := by decide +kernel
theorem dX5_putFlow_5 : decode cX5_putFlow 5 = .ok (.astore_n 3, 1) := by decide +kernel
theorem dX5_putFlow_6 : decode cX5_putFlow 6 = .ok (.aload_n 3, 1) := by decide +kernel
theorem dX5_putFlow_7 : decode cX5_putFlow 7 = .ok (.ifnull 14, 3) := by decide +kernel
theorem dX5_putFlow_10 : decode cX5_putFlow 10 = .ok (.iload_n 2, 1) := by decide +kernel
theorem dX5_putFlow_11 : decode cX5_putFlow 11 = .ok (.ifCond .lt 10, 3) := by decide +kernel
theorem dX5_putFlow_14 : decode cX5_putFlow 14 = .ok (.iload_n 2, 1) := by decide +kernel
theorem dX5_putFlow_15 : decode cX5_putFlow 15 = .ok (.sipush 999, 3) := by decide +kernel
theorem dX5_putFlow_18 : decode cX5_putFlow 18 = .ok (.if_icmp .le 6, 3) := by decide +kernel
theorem dX5_putFlow_21 : decode cX5_putFlow 21 = .ok (.ldc 100, 2) := by decide +kernel
theorem dX5_putFlow_23 : decode cX5_putFlow 23 = .ok (.ireturn, 1) := by decide +kernel
theorem dX5_putFlow_24 : decode cX5_putFlow 24 = .ok (.aload_n 3, 1) := by decide +kernel
theorem dX5_putFlow_25 : decode cX5_putFlow 25 = .ok (.getfield 134, 3) := by decide +kernel
theorem dX5_putFlow_28 : decode cX5_putFlow 28 = .ok (.istore 4, 2) := by decide +kernel
theorem dX5_putFlow_30 : decode cX5_putFlow 30 = .ok (.aload_n 3, 1) := by decide +kernel
theorem dX5_putFlow_31 : decode cX5_putFlow 31 = .ok (.iload_n 2, 1) := by decide +kernel
theorem dX5_putFlow_32 : decode cX5_putFlow 32 = .ok (.putfield 134, 3) := by decide +kernel
theorem dX5_putFlow_35 : decode cX5_putFlow 35 = .ok (.iload 4, 2) := by decide +kernel
theorem dX5_putFlow_37 : decode cX5_putFlow 37 = .ok (.ireturn, 1) := by decide +kernel
set_option maxRecDepth 20000 in
theorem ggX5_putLock_X5_houseNumbered : GoodIn wsX5_putLock wsX5_houseNumbered := goodIn_rB _ [6, 7, 8, 23, 24, 25, 26, 27, 28, 29, 30, 31, 32, 33, 34, 35] (by decide +kernel) (by decide +kernel)
set_option maxRecDepth 20000 in
theorem gX5_putLock_X5_houseNumbered : GoodIn wsX5_putLock (wsV RX5 130 RX5 yX5_houseNumbered wsX5_houseNumbered) := goodIn_app (goodIn_of _ (by decide +kernel)) ggX5_putLock_X5_houseNumbered
theorem dX5_putLock_0 : decode cX5_putLock 0 = .ok (.aload_n 0, 1) := by decide +kernel
theorem dX5_putLock_1 : decode cX5_putLock 1 = .ok (.iload_n 1, 1) := by decide +kernel
theorem dX5_putLock_2 : decode cX5_putLock 2 = .ok (.invokevirtual 130, 3) := by decide +kernel
theorem dX5_putLock_5 : decode cX5_putLock 5 = .ok (.astore_n 3, 1) := by decide +kernel
theorem dX5_putLock_6 : decode cX5_putLock 6 = .ok (.aload_n 3, 1) := by decide +kernel
theorem dX5_putLock_7 : decode cX5_putLock 7 = .ok (.ifnonnull 6, 3) := by decide +kernel
theorem dX5_putLock_10 : decode cX5_putLock 10 = .ok (.ldc 100, 2) := by decide +kernel
theorem dX5_putLock_12 : decode cX5_putLock 12 = .ok (.ireturn, 1) := by decide +kernel
theorem dX5_putLock_13 : decode cX5_putLock 13 = .ok (.aload_n 3, 1) := by decide +kernel
theorem dX5_putLock_14 : decode cX5_putLock 14 = .ok (.getfield 137, 3) := by decide +kernel
theorem dX5_putLock_17 : decode cX5_putLock 17 = .ok (.ifCond .eq 7, 3) := by decide +kernel
theorem dX5_putLock_20 : decode cX5_putLock 20 = .ok (.iconst 1, 1) := by decide +kernel
theorem dX5_putLock_21 : decode cX5_putLock 21 = .ok (.goto 4, 3) := by decide +kernel
theorem dX5_putLock_24 : decode cX5_putLock 24 = .ok (.iconst 0, 1) := by decide +kernel
theorem dX5_putLock_25 : decode cX5_putLock 25 = .ok (.istore 4, 2) := by decide +kernel
theorem dX5_putLock_27 : decode cX5_putLock 27 = .ok (.aload_n 3, 1) := by decide +kernel
theorem dX5_putLock_28 : decode cX5_putLock 28 = .ok (.iload_n 2, 1) := by decide +kernel
theorem dX5_putLock_29 : decode cX5_putLock 29 = .ok (.putfield 137, 3) := by decide +kernel
theorem dX5_putLock_32 : decode cX5_putLock 32 = .ok (.iload 4, 2) := by decide +kernel
theorem dX5_putLock_34 : decode cX5_putLock 34 = .ok (.ireturn, 1) := by decide +kernel
set_option maxRecDepth 20000 in
theorem ggX5_turnLock_X5_houseNumbered : GoodIn wsX5_turnLock wsX5_houseNumbered := goodIn_rB _ [6, 7, 8, 27, 28, 29, 30, 31, 32, 33, 34, 35, 36, 37, 38, 39] (by decide +kernel) (by decide +kernel)
set_option maxRecDepth 20000 in
theorem gX5_turnLock_X5_houseNumbered : GoodIn wsX5_turnLock (wsV RX5 130 RX5 yX5_houseNumbered wsX5_houseNumbered) := goodIn_app (goodIn_of _ (by decide +kernel)) ggX5_turnLock_X5_houseNumbered
set_option maxRecDepth 20000 in
theorem ggX5_turnLock_X5_putLock : GoodIn wsX5_turnLock wsX5_putLock := goodIn_rB _ [12, 1, 2, 3, 4, 5, 6, 7, 8, 13, 14, 15, 16, 17, 18, 19, 20, 21, 22, 23, 24, 25, 26, 27, 28, 29, 30, 31, 32, 33, 34, 35, 36, 37, 38, 39] (by decide +kernel) (by decide +kernel)
set_option maxRecDepth 20000 in
theorem gX5_turnLock_X5_putLock : GoodIn wsX5_turnLock (wsV RX5 141 RX5 yX5_putLock wsX5_putLock) := goodIn_app (goodIn_of _ (by decide +kernel)) ggX5_turnLock_X5_putLock
theorem dX5_turnLock_0 : decode cX5_turnLock 0 = .ok (.aload_n 0, 1) := by decide +kernel
theorem dX5_turnLock_1 : decode cX5_turnLock 1 = .ok (.iload_n 1, 1) := by decide +kernel
theorem dX5_turnLock_2 : decode cX5_turnLock 2 = .ok (.invokevirtual 130, 3) := by decide +kernel
theorem dX5_turnLock_5 : decode cX5_turnLock 5 = .ok (.astore_n 2, 1) := by decide +kernel
theorem dX5_turnLock_6 : decode cX5_turnLock 6 = .ok (.aload_n 2, 1) := by decide +kernel
theorem dX5_turnLock_7 : decode cX5_turnLock 7 = .ok (.ifnonnull 8, 3) := by decide +kernel
theorem dX5_turnLock_10 : decode cX5_turnLock 10 = .ok (.ldc 100, 2) := by decide +kernel
theorem dX5_turnLock_12 : decode cX5_turnLock 12 = .ok (.goto 20, 3) := by decide +kernel
theorem dX5_turnLock_15 : decode cX5_turnLock 15 = .ok (.aload_n 0, 1) := by decide +kernel
theorem dX5_turnLock_16 : decode cX5_turnLock 16 = .ok (.iload_n 1, 1) := by decide +kernel
theorem dX5_turnLock_17 : decode cX5_turnLock 17 = .ok (.aload_n 2, 1) := by decide +kernel
theorem dX5_turnLock_18 : decode cX5_turnLock 18 = .ok (.getfield 137, 3) := by decide +kernel
theorem dX5_turnLock_21 : decode cX5_turnLock 21 = .ok (.ifCond .ne 7, 3) := by decide +kernel
theorem dX5_turnLock_24 : decode cX5_turnLock 24 = .ok (.iconst 1, 1) := by decide +kernel
theorem dX5_turnLock_25 : decode cX5_turnLock 25 = .ok (.goto 4, 3) := by decide +kernel
theorem dX5_turnLock_28 : decode cX5_turnLock 28 = .ok (.iconst 0, 1) := by decide +kernel
theorem dX5_turnLock_29 : decode cX5_turnLock 29 = .ok (.invokevirtual 141, 3) := by decide +kernel
theorem dX5_turnLock_32 : decode cX5_turnLock 32 = .ok (.ireturn, 1) := by decide +kernel
theorem dX5_putSetting_0 : decode cX5_putSetting 0 = .ok (.iload_n 1, 1) := by decide +kernel
theorem dX5_putSetting_1 : decode cX5_putSetting 1 = .ok (.ifCond .lt 26, 3) := by decide +kernel
theorem dX5_putSetting_4 : decode cX5_putSetting 4 = .ok (.iload_n 1, 1) := by decide +kernel
theorem dX5_putSetting_5 : decode cX5_putSetting 5 = .ok (.iconst 4, 1) := by decide +kernel
theorem dX5_putSetting_6 : decode cX5_putSetting 6 = .ok (.if_icmp .ge 21, 3) := by decide +kernel
theorem dX5_putSetting_9 : decode cX5_putSetting 9 = .ok (.iload_n 2, 1) := by decide +kernel
theorem dX5_putSetting_10 : decode cX5_putSetting 10 = .ok (.getstatic 145, 3) := by decide +kernel
theorem dX5_putSetting_13 : decode cX5_putSetting 13 = .ok (.iload_n 1, 1) := by decide +kernel
theorem dX5_putSetting_14 : decode cX5_putSetting 14 = .ok (.iaload, 1) := by decide +kernel
theorem dX5_putSetting_15 : decode cX5_putSetting 15 = .ok (.if_icmp .lt 12, 3) := by decide +kernel
theorem dX5_putSetting_18 : decode cX5_putSetting 18 = .ok (.iload_n 2, 1) := by decide +kernel
theorem dX5_putSetting_19 : decode cX5_putSetting 19 = .ok (.getstatic 148, 3) := by decide +kernel
theorem dX5_putSetting_22 : decode cX5_putSetting 22 = .ok (.iload_n 1, 1) := by decide +kernel
theorem dX5_putSetting_23 : decode cX5_putSetting 23 = .ok (.iaload, 1) := by decide +kernel
theorem dX5_putSetting_24 : decode cX5_putSetting 24 = .ok (.if_icmp .le 6, 3) := by decide +kernel
theorem dX5_putSetting_27 : decode cX5_putSetting 27 = .ok (.ldc 100, 2) := by decide +kernel
theorem dX5_putSetting_29 : decode cX5_putSetting 29 = .ok (.ireturn, 1) := by decide +kernel
theorem dX5_putSetting_30 : decode cX5_putSetting 30 = .ok (.aload_n 0, 1) := by decide +kernel
theorem dX5_putSetting_31 : decode cX5_putSetting 31 = .ok (.getfield 30, 3) := by decide +kernel
theorem dX5_putSetting_34 : decode cX5_putSetting 34 = .ok (.iload_n 1, 1) := by decide +kernel
theorem dX5_putSetting_35 : decode cX5_putSetting 35 = .ok (.iaload, 1) := by decide +kernel
theorem dX5_putSetting_36 : decode cX5_putSetting 36 = .ok (.istore_n 3, 1) := by decide +kernel
theorem dX5_putSetting_37 : decode cX5_putSetting 37 = .ok (.aload_n 0, 1) := by decide +kernel
theorem dX5_putSetting_38 : decode cX5_putSetting 38 = .ok (.getfield 30, 3) := by decide +kernel
theorem dX5_putSetting_41 : decode cX5_putSetting 41 = .ok (.iload_n 1, 1) := by decide +kernel
theorem dX5_putSetting_42 : decode cX5_putSetting 42 = .ok (.iload_n 2, 1) := by decide +kernel
theorem dX5_putSetting_43 : decode cX5_putSetting 43 = .ok (.iastore, 1) := by decide +kernel
theorem dX5_putSetting_44 : decode cX5_putSetting 44 = .ok (.iload_n 3, 1) := by decide +kernel
theorem dX5_putSetting_45 : decode cX5_putSetting 45 = .ok (.ireturn, 1) := by decide +kernel
set_option maxRecDepth 20000 in
theorem ggX5_readIfOpen_X5_houseNumbered : GoodIn wsX5_readIfOpen wsX5_houseNumbered := goodIn_rB _ [8, 9, 10, 55, 56, 57, 58, 59, 60, 61, 62, 63, 64, 65, 66, 67] (by decide +kernel) (by decide +kernel)
end
section
set_option maxRecDepth 20000 in
theorem gX5_readIfOpen_X5_houseNumbered : GoodIn wsX5_readIfOpen (wsV RX5 130 RX5 yX5_houseNumbered wsX5_houseNumbered) := goodIn_app (goodIn_of _ (by decide +kernel)) ggX5_readIfOpen_X5_houseNumbered
set_option maxRecDepth 20000 in
theorem ggX5_readIfOpen_X1_reasonOn : GoodIn wsX5_readIfOpen wsX1_reasonOn := goodIn_rB _ [15, 16, 17, 68, 69, 70, 71, 72, 73, 74, 75, 76, 77, 78, 79, 80, 81] (by decide +kernel) (by decide +kernel)
set_option maxRecDepth 20000 in
theorem gX5_readIfOpen_X1_reasonOn : GoodIn wsX5_readIfOpen (wsV RX5 151 RX1 yX1_reasonOn wsX1_reasonOn) := goodIn_app (goodIn_of _ (by decide +kernel)) ggX5_readIfOpen_X1_reasonOn
set_option maxRecDepth 20000 in
theorem ggX5_readIfOpen_X5_readMeter : GoodIn wsX5_readIfOpen wsX5_readMeter := goodIn_rB _ [21, 2, 22, 23, 24, 25, 26, 27, 28, 29, 30, 14, 31, 32, 33, 34, 35, 36, 37, 38, 39, 40, 41, 42, 17, 43, 44, 45, 46, 47, 48, 49, 50, 51, 52, 53, 54, 68, 69, 70, 71, 72, 73, 74, 75, 76, 77, 78, 79, 80, 81, 55, 56, 57, 58, 59, 60, 61, 62, 63, 64, 65, 66, 67, 82, 83, 84] (by decide +kernel) (by decide +kernel)
set_option maxRecDepth 20000 in
theorem gX5_readIfOpen_X5_readMeter : GoodIn wsX5_readIfOpen (wsV RX5 154 RX5 yX5_readMeter wsX5_readMeter) := goodIn_app (goodIn_of _ (by decide +kernel)) ggX5_readIfOpen_X5_readMeter
theorem dX5_readIfOpen_0 : decode cX5_readIfOpen 0 = .ok (.aload_n 0, 1) := by decide +kernel
theorem dX5_readIfOpen_1 : decode cX5_readIfOpen 1 = .ok (.iload_n 1, 1) := by decide +kernel
theorem dX5_readIfOpen_2 : decode cX5_readIfOpen 2 = .ok (.invokevirtual 130, 3) := by decide +kernel
theorem dX5_readIfOpen_5 : decode cX5_readIfOpen 5 = .ok (.astore_n 2, 1) := by decide +kernel
theorem dX5_readIfOpen_6 : decode cX5_readIfOpen 6 = .ok (.aload_n 2, 1) := by decide +kernel
theorem dX5_readIfOpen_7 : decode cX5_readIfOpen 7 = .ok (.ifnonnull 6, 3) := by decide +kernel
theorem dX5_readIfOpen_10 : decode cX5_readIfOpen 10 = .ok (.ldc 100, 2) := by decide +kernel
theorem dX5_readIfOpen_12 : decode cX5_readIfOpen 12 = .ok (.ireturn, 1) := by decide +kernel
theorem dX5_readIfOpen_13 : decode cX5_readIfOpen 13 = .ok (.aload_n 2, 1) := by decide +kernel
theorem dX5_readIfOpen_14 : decode cX5_readIfOpen 14 = .ok (.aload_n 0, 1) := by decide +kernel
theorem dX5_readIfOpen_15 : decode cX5_readIfOpen 15 = .ok (.getfield 59, 3) := by decide +kernel
theorem dX5_readIfOpen_18 : decode cX5_readIfOpen 18 = .ok (.invokevirtual 151, 3) := by decide +kernel
theorem dX5_readIfOpen_21 : decode cX5_readIfOpen 21 = .ok (.ifCond .ne 12, 3) := by decide +kernel
theorem dX5_readIfOpen_24 : decode cX5_readIfOpen 24 = .ok (.aload_n 0, 1) := by decide +kernel
theorem dX5_readIfOpen_25 : decode cX5_readIfOpen 25 = .ok (.aload_n 2, 1) := by decide +kernel
theorem dX5_readIfOpen_26 : decode cX5_readIfOpen 26 = .ok (.iload_n 1, 1) := by decide +kernel
theorem dX5_readIfOpen_27 : decode cX5_readIfOpen 27 = .ok (.invokevirtual 154, 3) := by decide +kernel
theorem dX5_readIfOpen_30 : decode cX5_readIfOpen 30 = .ok (.goto 5, 3) := by decide +kernel
theorem dX5_readIfOpen_33 : decode cX5_readIfOpen 33 = .ok (.ldc 119, 2) := by decide +kernel
theorem dX5_readIfOpen_35 : decode cX5_readIfOpen 35 = .ok (.ireturn, 1) := by decide +kernel
set_option maxRecDepth 20000 in
theorem ggX5_changeMeter_X5_houseNumbered : GoodIn wsX5_changeMeter wsX5_houseNumbered := goodIn_rB _ [6, 7, 8, 54, 55, 56, 57, 58, 59, 60, 61, 62, 63, 64, 65, 66] (by decide +kernel) (by decide +kernel)
set_option maxRecDepth 20000 in
theorem gX5_changeMeter_X5_houseNumbered : GoodIn wsX5_changeMeter (wsV RX5 130 RX5 yX5_houseNumbered wsX5_houseNumbered) := goodIn_app (goodIn_of _ (by decide +kernel)) ggX5_changeMeter_X5_houseNumbered
set_option maxRecDepth 20000 in
theorem ggX5_changeMeter_X5_readMeter : GoodIn wsX5_changeMeter wsX5_readMeter := goodIn_rB _ [12, 13, 14, 15, 16, 17, 18, 19, 20, 21, 22, 23, 24, 25, 26, 27, 28, 29, 30, 31, 32, 33, 34, 35, 36, 37, 38, 39, 40, 41, 42, 43, 44, 45, 46, 47, 48, 67, 68, 69, 70, 71, 72, 73, 74, 75, 76, 77, 78, 79, 80, 54, 55, 56, 57, 58, 59, 60, 61, 62, 63, 64, 65, 66, 81, 82, 83] (by decide +kernel) (by decide +kernel)
set_option maxRecDepth 20000 in
theorem gX5_changeMeter_X5_readMeter : GoodIn wsX5_changeMeter (wsV RX5 154 RX5 yX5_readMeter wsX5_readMeter) := goodIn_app (goodIn_of _ (by decide +kernel)) ggX5_changeMeter_X5_readMeter
set_option maxRecDepth 20000 in
theorem ggX5_changeMeter_X1_renewMeter : GoodIn wsX5_changeMeter wsX1_renewMeter := goodIn_rB _ [52, 25, 26, 53, 67, 68, 69, 70, 71, 72, 73, 74, 75, 76, 77, 78, 79, 80] (by decide +kernel) (by decide +kernel)
set_option maxRecDepth 20000 in
theorem gX5_changeMeter_X1_renewMeter : GoodIn wsX5_changeMeter (wsV RX5 158 RX1 yX1_renewMeter wsX1_renewMeter) := goodIn_app (goodIn_of _ (by decide +kernel)) ggX5_changeMeter_X1_renewMeter
theorem dX5_changeMeter_0 : decode cX5_changeMeter 0 = .ok (.aload_n 0, 1) := by decide +kernel
theorem dX5_changeMeter_1 : decode cX5_changeMeter 1 = .ok (.iload_n 1, 1) := by decide +kernel
theorem dX5_changeMeter_2 : decode cX5_changeMeter 2 = .ok (.invokevirtual 130, 3) := by decide +kernel
theorem dX5_changeMeter_5 : decode cX5_changeMeter 5 = .ok (.astore_n 2, 1) := by decide +kernel
theorem dX5_changeMeter_6 : decode cX5_changeMeter 6 = .ok (.aload_n 2, 1) := by decide +kernel
theorem dX5_changeMeter_7 : decode cX5_changeMeter 7 = .ok (.ifnonnull 6, 3) := by decide +kernel
theorem dX5_changeMeter_10 : decode cX5_changeMeter 10 = .ok (.ldc 100, 2) := by decide +kernel
theorem dX5_changeMeter_12 : decode cX5_changeMeter 12 = .ok (.ireturn, 1) := by decide +kernel
theorem dX5_changeMeter_13 : decode cX5_changeMeter 13 = .ok (.aload_n 0, 1) := by decide +kernel
theorem dX5_changeMeter_14 : decode cX5_changeMeter 14 = .ok (.aload_n 2, 1) := by decide +kernel
theorem dX5_changeMeter_15 : decode cX5_changeMeter 15 = .ok (.iload_n 1, 1) := by decide +kernel
theorem dX5_changeMeter_16 : decode cX5_changeMeter 16 = .ok (.invokevirtual 154, 3) := by decide +kernel
theorem dX5_changeMeter_19 : decode cX5_changeMeter 19 = .ok (.istore_n 3, 1) := by decide +kernel
theorem dX5_changeMeter_20 : decode cX5_changeMeter 20 = .ok (.aload_n 2, 1) := by decide +kernel
theorem dX5_changeMeter_21 : decode cX5_changeMeter 21 = .ok (.invokevirtual 158, 3) := by decide +kernel
theorem dX5_changeMeter_24 : decode cX5_changeMeter 24 = .ok (.iload_n 3, 1) := by decide +kernel
theorem dX5_changeMeter_25 : decode cX5_changeMeter 25 = .ok (.ireturn, 1) := by decide +kernel
set_option maxRecDepth 20000 in
theorem ggX5_readMeter_X1_used : GoodIn wsX5_readMeter wsX1_used := goodIn_rB _ [12, 13, 14, 15, 37, 38, 39, 40, 41, 42, 43, 44, 45, 46, 47, 48, 49, 50] (by decide +kernel) (by decide +kernel)
set_option maxRecDepth 20000 in
theorem gX5_readMeter_X1_used : GoodIn wsX5_readMeter (wsV RX5 161 RX1 yX1_used wsX1_used) := goodIn_app (goodIn_of _ (by decide +kernel)) ggX5_readMeter_X1_used
set_option maxRecDepth 20000 in
theorem ggX5_readMeter_X6_unitsFor : GoodIn wsX5_readMeter wsX6_unitsFor := goodIn_rB _ [18] (by decide +kernel) (by decide +kernel)
set_option maxRecDepth 20000 in
theorem gX5_readMeter_X6_unitsFor_n168 : GoodIn wsX5_readMeter (wsX6_unitsFor) := ggX5_readMeter_X6_unitsFor
set_option maxRecDepth 20000 in
theorem ggX5_readMeter_X1_settle : GoodIn wsX5_readMeter wsX1_settle := goodIn_rB _ [22, 23, 13, 14, 24, 25, 26, 27, 28, 37, 38, 39, 40, 41, 42, 43, 44, 45, 46, 47, 48, 49, 50] (by decide +kernel) (by decide +kernel)
set_option maxRecDepth 20000 in
theorem gX5_readMeter_X1_settle : GoodIn wsX5_readMeter (wsV RX5 171 RX1 yX1_settle wsX1_settle) := goodIn_app (goodIn_of _ (by decide +kernel)) ggX5_readMeter_X1_settle
set_option maxRecDepth 20000 in
theorem ggX5_readMeter_X2_add : GoodIn wsX5_readMeter wsX2_add := goodIn_rB _ [33, 34, 35, 36, 64, 65, 66] (by decide +kernel) (by decide +kernel)
set_option maxRecDepth 20000 in
theorem gX5_readMeter_X2_add : GoodIn wsX5_readMeter (wsV RX5 175 RX2 yX2_add wsX2_add) := goodIn_app (goodIn_of _ (by decide +kernel)) ggX5_readMeter_X2_add
theorem dX5_readMeter_0 : decode cX5_readMeter 0 = .ok (.aload_n 1, 1) := by decide +kernel
theorem dX5_readMeter_1 : decode cX5_readMeter 1 = .ok (.invokevirtual 161, 3) := by decide +kernel
theorem dX5_readMeter_4 : decode cX5_readMeter 4 = .ok (.istore_n 3, 1) := by decide +kernel
theorem dX5_readMeter_5 : decode cX5_readMeter 5 = .ok (.iload_n 3, 1) := by decide +kernel
theorem dX5_readMeter_6 : decode cX5_readMeter 6 = .ok (.aload_n 1, 1) := by decide +kernel
theorem dX5_readMeter_7 : decode cX5_readMeter 7 = .ok (.getfield 165, 3) := by decide +kernel
theorem dX5_readMeter_10 : decode cX5_readMeter 10 = .ok (.invokestatic 168, 3) := by decide +kernel
theorem dX5_readMeter_13 : decode cX5_readMeter 13 = .ok (.istore 4, 2) := by decide +kernel
theorem dX5_readMeter_15 : decode cX5_readMeter 15 = .ok (.aload_n 1, 1) := by decide +kernel
theorem dX5_readMeter_16 : decode cX5_readMeter 16 = .ok (.aload_n 0, 1) := by decide +kernel
theorem dX5_readMeter_17 : decode cX5_readMeter 17 = .ok (.getfield 59, 3) := by decide +kernel
theorem dX5_readMeter_20 : decode cX5_readMeter 20 = .ok (.iload_n 3, 1) := by decide +kernel
theorem dX5_readMeter_21 : decode cX5_readMeter 21 = .ok (.iload 4, 2) := by decide +kernel
theorem dX5_readMeter_23 : decode cX5_readMeter 23 = .ok (.invokevirtual 171, 3) := by decide +kernel
theorem dX5_readMeter_26 : decode cX5_readMeter 26 = .ok (.aload_n 0, 1) := by decide +kernel
theorem dX5_readMeter_27 : decode cX5_readMeter 27 = .ok (.getfield 26, 3) := by decide +kernel
theorem dX5_readMeter_30 : decode cX5_readMeter 30 = .ok (.aload_n 0, 1) := by decide +kernel
theorem dX5_readMeter_31 : decode cX5_readMeter 31 = .ok (.getfield 59, 3) := by decide +kernel
theorem dX5_readMeter_34 : decode cX5_readMeter 34 = .ok (.iload_n 2, 1) := by decide +kernel
theorem dX5_readMeter_35 : decode cX5_readMeter 35 = .ok (.iload_n 3, 1) := by decide +kernel
theorem dX5_readMeter_36 : decode cX5_readMeter 36 = .ok (.iload 4, 2) := by decide +kernel
theorem dX5_readMeter_38 : decode cX5_readMeter 38 = .ok (.aload_n 1, 1) := by decide +kernel
theorem dX5_readMeter_39 : decode cX5_readMeter 39 = .ok (.getfield 165, 3) := by decide +kernel
theorem dX5_readMeter_42 : decode cX5_readMeter 42 = .ok (.invokevirtual 175, 3) := by decide +kernel
theorem dX5_readMeter_45 : decode cX5_readMeter 45 = .ok (.aload_n 0, 1) := by decide +kernel
theorem dX5_readMeter_46 : decode cX5_readMeter 46 = .ok (.dup, 1) := by decide +kernel
theorem dX5_readMeter_47 : decode cX5_readMeter 47 = .ok (.getfield 62, 3) := by decide +kernel
theorem dX5_readMeter_50 : decode cX5_readMeter 50 = .ok (.iconst 1, 1) := by decide +kernel
theorem dX5_readMeter_51 : decode cX5_readMeter 51 = .ok (.iadd, 1) := by decide +kernel
theorem dX5_readMeter_52 : decode cX5_readMeter 52 = .ok (.putfield 62, 3) := by decide +kernel
theorem dX5_readMeter_55 : decode cX5_readMeter 55 = .ok (.aload_n 0, 1) := by decide +kernel
theorem dX5_readMeter_56 : decode cX5_readMeter 56 = .ok (.dup, 1) := by decide +kernel
theorem dX5_readMeter_57 : decode cX5_readMeter 57 = .ok (.getfield 65, 3) := by decide +kernel
theorem dX5_readMeter_60 : decode cX5_readMeter 60 = .ok (.iload 4, 2) := by decide +kernel
theorem dX5_readMeter_62 : decode cX5_readMeter 62 = .ok (.iadd, 1) := by decide +kernel
theorem dX5_readMeter_63 : decode cX5_readMeter 63 = .ok (.putfield 65, 3) := by decide +kernel
theorem dX5_readMeter_66 : decode cX5_readMeter 66 = .ok (.aload_n 0, 1) := by decide +kernel
theorem dX5_readMeter_67 : decode cX5_readMeter 67 = .ok (.dup, 1) := by decide +kernel
theorem dX5_readMeter_68 : decode cX5_readMeter 68 = .ok (.getfield 68, 3) := by decide +kernel
theorem dX5_readMeter_71 : decode cX5_readMeter 71 = .ok (.iload 4, 2) := by decide +kernel
theorem dX5_readMeter_73 : decode cX5_readMeter 73 = .ok (.aload_n 0, 1) := by decide +kernel
theorem dX5_readMeter_74 : decode cX5_readMeter 74 = .ok (.getfield 30, 3) := by decide +kernel
theorem dX5_readMeter_77 : decode cX5_readMeter 77 = .ok (.iconst 1, 1) := by decide +kernel
theorem dX5_readMeter_78 : decode cX5_readMeter 78 = .ok (.iaload, 1) := by decide +kernel
theorem dX5_readMeter_79 : decode cX5_readMeter 79 = .ok (.imul, 1) := by decide +kernel
theorem dX5_readMeter_80 : decode cX5_readMeter 80 = .ok (.iadd, 1) := by decide +kernel
theorem dX5_readMeter_81 : decode cX5_readMeter 81 = .ok (.putfield 68, 3) := by decide +kernel
theorem dX5_readMeter_84 : decode cX5_readMeter 84 = .ok (.aload_n 0, 1) := by decide +kernel
theorem dX5_readMeter_85 : decode cX5_readMeter 85 = .ok (.dup, 1) := by decide +kernel
theorem dX5_readMeter_86 : decode cX5_readMeter 86 = .ok (.getfield 71, 3) := by decide +kernel
theorem dX5_readMeter_89 : decode cX5_readMeter 89 = .ok (.iload_n 3, 1) := by decide +kernel
theorem dX5_readMeter_90 : decode cX5_readMeter 90 = .ok (.iadd, 1) := by decide +kernel
theorem dX5_readMeter_91 : decode cX5_readMeter 91 = .ok (.putfield 71, 3) := by decide +kernel
theorem dX5_readMeter_94 : decode cX5_readMeter 94 = .ok (.iload 4, 2) := by decide +kernel
theorem dX5_readMeter_96 : decode cX5_readMeter 96 = .ok (.ireturn, 1) := by decide +kernel
set_option maxRecDepth 20000 in
theorem ggX5_passDays_X1_goOn : GoodIn wsX5_passDays wsX1_goOn := goodIn_rB _ [9, 10, 11, 12, 98, 99, 100, 101, 102, 103, 104, 105, 106, 107, 108, 109, 110, 111] (by decide +kernel) (by decide +kernel)
set_option maxRecDepth 20000 in
theorem gX5_passDays_X1_goOn : GoodIn wsX5_passDays (wsV RX5 179 RX1 yX1_goOn wsX1_goOn) := goodIn_app (goodIn_of _ (by decide +kernel)) ggX5_passDays_X1_goOn
set_option maxRecDepth 20000 in
theorem ggX5_passDays_X5_streetNumbered : GoodIn wsX5_passDays wsX5_streetNumbered := goodIn_rB _ [17, 18, 85, 86, 87, 88, 89, 90, 91, 92, 93, 94, 95, 96, 97] (by decide +kernel) (by decide +kernel)
set_option maxRecDepth 20000 in
theorem gX5_passDays_X5_streetNumbered : GoodIn wsX5_passDays (wsV RX5 105 RX5 yX5_streetNumbered wsX5_streetNumbered) := goodIn_app (goodIn_of _ (by decide +kernel)) ggX5_passDays_X5_streetNumbered
set_option maxRecDepth 20000 in
theorem ggX5_passDays_X5_walk : GoodIn wsX5_passDays wsX5_walk := goodIn_rB _ [22, 4, 3, 23, 24, 25, 26, 27, 28, 29, 30, 31, 32, 33, 34, 35, 36, 16, 37, 38, 2, 39, 40, 41, 8, 42, 43, 44, 45, 46, 47, 48, 49, 1, 50, 51, 52, 53, 54, 55, 56, 10, 57, 12, 58, 59, 60, 61, 62, 63, 64, 65, 66, 67, 68, 69, 70, 71, 72, 73, 74, 75, 76, 77, 85, 86, 87, 88, 89, 90, 91, 92, 93, 94, 95, 96, 97, 112, 113, 98, 99, 100, 101, 102, 103, 104, 105, 106, 107, 108, 109, 110, 111, 114, 115, 116] (by decide +kernel) (by decide +kernel)
set_option maxRecDepth 20000 in
theorem gX5_passDays_X5_walk : GoodIn wsX5_passDays (wsV RX5 182 RX5 yX5_walk wsX5_walk) := goodIn_app (goodIn_of _ (by decide +kernel)) ggX5_passDays_X5_walk
set_option maxRecDepth 20000 in
theorem ggX5_passDays_X5_endYear : GoodIn wsX5_passDays wsX5_endYear := goodIn_rB _ [81, 82, 2, 4, 83, 84, 85, 86, 87, 88, 89, 90, 91, 92, 93, 94, 95, 96, 97, 98, 99, 100, 101, 102, 103, 104, 105, 106, 107, 108, 109, 110, 111] (by decide +kernel) (by decide +kernel)
set_option maxRecDepth 20000 in
theorem gX5_passDays_X5_endYear : GoodIn wsX5_passDays (wsV RX5 185 RX5 yX5_endYear wsX5_endYear) := goodIn_app (goodIn_of _ (by decide +kernel)) ggX5_passDays_X5_endYear
theorem dX5_passDays_0 : decode cX5_passDays 0 = .ok (.aload_n 0, 1) := by decide +kernel
theorem dX5_passDays_1 : decode cX5_passDays 1 = .ok (.getfield 62, 3) := by decide +kernel
theorem dX5_passDays_4 : decode cX5_passDays 4 = .ok (.istore_n 2, 1) := by decide +kernel
theorem dX5_passDays_5 : decode cX5_passDays 5 = .ok (.iconst 0, 1) := by decide +kernel
theorem dX5_passDays_6 : decode cX5_passDays 6 = .ok (.istore_n 3, 1) := by decide +kernel
theorem dX5_passDays_7 : decode cX5_passDays 7 = .ok (.iload_n 3, 1) := by decide +kernel
theorem dX5_passDays_8 : decode cX5_passDays 8 = .ok (.iload_n 1, 1) := by decide +kernel
theorem dX5_passDays_9 : decode cX5_passDays 9 = .ok (.if_icmp .ge 108, 3) := by decide +kernel
theorem dX5_passDays_12 : decode cX5_passDays 12 = .ok (.aload_n 0, 1) := by decide +kernel
theorem dX5_passDays_13 : decode cX5_passDays 13 = .ok (.getfield 11, 3) := by decide +kernel
theorem dX5_passDays_16 : decode cX5_passDays 16 = .ok (.astore 4, 2) := by decide +kernel
theorem dX5_passDays_18 : decode cX5_passDays 18 = .ok (.aload 4, 2) := by decide +kernel
theorem dX5_passDays_20 : decode cX5_passDays 20 = .ok (.arraylength, 1) := by decide +kernel
theorem dX5_passDays_21 : decode cX5_passDays 21 = .ok (.istore 5, 2) := by decide +kernel
theorem dX5_passDays_23 : decode cX5_passDays 23 = .ok (.iconst 0, 1) := by decide +kernel
theorem dX5_passDays_24 : decode cX5_passDays 24 = .ok (.istore 6, 2) := by decide +kernel
theorem dX5_passDays_26 : decode cX5_passDays 26 = .ok (.iload 6, 2) := by decide +kernel
theorem dX5_passDays_28 : decode cX5_passDays 28 = .ok (.iload 5, 2) := by decide +kernel
theorem dX5_passDays_30 : decode cX5_passDays 30 = .ok (.if_icmp .ge 21, 3) := by decide +kernel
theorem dX5_passDays_33 : decode cX5_passDays 33 = .ok (.aload 4, 2) := by decide +kernel
theorem dX5_passDays_35 : decode cX5_passDays 35 = .ok (.iload 6, 2) := by decide +kernel
theorem dX5_passDays_37 : decode cX5_passDays 37 = .ok (.aaload, 1) := by decide +kernel
theorem dX5_passDays_38 : decode cX5_passDays 38 = .ok (.astore 7, 2) := by decide +kernel
theorem dX5_passDays_40 : decode cX5_passDays 40 = .ok (.aload 7, 2) := by decide +kernel
theorem dX5_passDays_42 : decode cX5_passDays 42 = .ok (.invokevirtual 179, 3) := by decide +kernel
theorem dX5_passDays_45 : decode cX5_passDays 45 = .ok (.iinc 6 1, 3) := by decide +kernel
theorem dX5_passDays_48 : decode cX5_passDays 48 = .ok (.goto (-22), 3) := by decide +kernel
theorem dX5_passDays_51 : decode cX5_passDays 51 = .ok (.aload_n 0, 1) := by decide +kernel
theorem dX5_passDays_52 : decode cX5_passDays 52 = .ok (.dup, 1) := by decide +kernel
theorem dX5_passDays_53 : decode cX5_passDays 53 = .ok (.getfield 59, 3) := by decide +kernel
theorem dX5_passDays_56 : decode cX5_passDays 56 = .ok (.iconst 1, 1) := by decide +kernel
theorem dX5_passDays_57 : decode cX5_passDays 57 = .ok (.iadd, 1) := by decide +kernel
theorem dX5_passDays_58 : decode cX5_passDays 58 = .ok (.putfield 59, 3) := by decide +kernel
theorem dX5_passDays_61 : decode cX5_passDays 61 = .ok (.aload_n 0, 1) := by decide +kernel
theorem dX5_passDays_62 : decode cX5_passDays 62 = .ok (.aload_n 0, 1) := by decide +kernel
theorem dX5_passDays_63 : decode cX5_passDays 63 = .ok (.getfield 59, 3) := by decide +kernel
theorem dX5_passDays_66 : decode cX5_passDays 66 = .ok (.iconst 4, 1) := by decide +kernel
theorem dX5_passDays_67 : decode cX5_passDays 67 = .ok (.irem, 1) := by decide +kernel
theorem dX5_passDays_68 : decode cX5_passDays 68 = .ok (.invokevirtual 105, 3) := by decide +kernel
theorem dX5_passDays_71 : decode cX5_passDays 71 = .ok (.astore 4, 2) := by decide +kernel
theorem dX5_passDays_73 : decode cX5_passDays 73 = .ok (.aload 4, 2) := by decide +kernel
theorem dX5_passDays_75 : decode cX5_passDays 75 = .ok (.ifnull 9, 3) := by decide +kernel
theorem dX5_passDays_78 : decode cX5_passDays 78 = .ok (.aload_n 0, 1) := by decide +kernel
theorem dX5_passDays_79 : decode cX5_passDays 79 = .ok (.aload 4, 2) := by decide +kernel
theorem dX5_passDays_81 : decode cX5_passDays 81 = .ok (.invokevirtual 182, 3) := by decide +kernel
theorem dX5_passDays_84 : decode cX5_passDays 84 = .ok (.aload_n 0, 1) := by decide +kernel
theorem dX5_passDays_85 : decode cX5_passDays 85 = .ok (.getfield 30, 3) := by decide +kernel
theorem dX5_passDays_88 : decode cX5_passDays 88 = .ok (.iconst 3, 1) := by decide +kernel
theorem dX5_passDays_89 : decode cX5_passDays 89 = .ok (.iaload, 1) := by decide +kernel
theorem dX5_passDays_90 : decode cX5_passDays 90 = .ok (.istore 5, 2) := by decide +kernel
theorem dX5_passDays_92 : decode cX5_passDays 92 = .ok (.iload 5, 2) := by decide +kernel
theorem dX5_passDays_94 : decode cX5_passDays 94 = .ok (.ifCond .le 17, 3) := by decide +kernel
theorem dX5_passDays_97 : decode cX5_passDays 97 = .ok (.aload_n 0, 1) := by decide +kernel
theorem dX5_passDays_98 : decode cX5_passDays 98 = .ok (.getfield 59, 3) := by decide +kernel
theorem dX5_passDays_101 : decode cX5_passDays 101 = .ok (.iload 5, 2) := by decide +kernel
theorem dX5_passDays_103 : decode cX5_passDays 103 = .ok (.irem, 1) := by decide +kernel
theorem dX5_passDays_104 : decode cX5_passDays 104 = .ok (.ifCond .ne 7, 3) := by decide +kernel
theorem dX5_passDays_107 : decode cX5_passDays 107 = .ok (.aload_n 0, 1) := by decide +kernel
theorem dX5_passDays_108 : decode cX5_passDays 108 = .ok (.invokevirtual 185, 3) := by decide +kernel
theorem dX5_passDays_111 : decode cX5_passDays 111 = .ok (.iinc 3 1, 3) := by decide +kernel
theorem dX5_passDays_114 : decode cX5_passDays 114 = .ok (.goto (-107), 3) := by decide +kernel
theorem dX5_passDays_117 : decode cX5_passDays 117 = .ok (.aload_n 0, 1) := by decide +kernel
theorem dX5_passDays_118 : decode cX5_passDays 118 = .ok (.getfield 62, 3) := by decide +kernel
theorem dX5_passDays_121 : decode cX5_passDays 121 = .ok (.iload_n 2, 1) := by decide +kernel
theorem dX5_passDays_122 : decode cX5_passDays 122 = .ok (.isub, 1) := by decide +kernel
theorem dX5_passDays_123 : decode cX5_passDays 123 = .ok (.ireturn, 1) := by decide +kernel
set_option maxRecDepth 20000 in
theorem ggX5_walk_X4_stepAhead : GoodIn wsX5_walk wsX4_stepAhead := goodIn_rB _ [7, 8, 77, 78] (by decide +kernel) (by decide +kernel)
set_option maxRecDepth 20000 in
theorem gX5_walk_X4_stepAhead : GoodIn wsX5_walk (wsV RX5 188 RX4 yX4_stepAhead wsX4_stepAhead) := goodIn_app (goodIn_of _ (by decide +kernel)) ggX5_walk_X4_stepAhead
set_option maxRecDepth 20000 in
theorem ggX5_walk_X4_houseOn : GoodIn wsX5_walk wsX4_houseOn := goodIn_rB _ [12, 13, 77, 78] (by decide +kernel) (by decide +kernel)
set_option maxRecDepth 20000 in
theorem gX5_walk_X4_houseOn : GoodIn wsX5_walk (wsV RX5 116 RX4 yX4_houseOn wsX4_houseOn) := goodIn_app (goodIn_of _ (by decide +kernel)) ggX5_walk_X4_houseOn
set_option maxRecDepth 20000 in
theorem ggX5_walk_X5_houseNumbered : GoodIn wsX5_walk wsX5_houseNumbered := goodIn_rB _ [18, 19, 20, 64, 65, 66, 67, 68, 69, 70, 71, 72, 73, 74, 75, 76] (by decide +kernel) (by decide +kernel)
set_option maxRecDepth 20000 in
theorem gX5_walk_X5_houseNumbered : GoodIn wsX5_walk (wsV RX5 130 RX5 yX5_houseNumbered wsX5_houseNumbered) := goodIn_app (goodIn_of _ (by decide +kernel)) ggX5_walk_X5_houseNumbered
set_option maxRecDepth 20000 in
theorem ggX5_walk_X1_reasonOn : GoodIn wsX5_walk wsX1_reasonOn := goodIn_rB _ [25, 26, 27, 79, 80, 81, 82, 83, 84, 85, 86, 87, 88, 89, 90, 91, 92] (by decide +kernel) (by decide +kernel)
set_option maxRecDepth 20000 in
theorem gX5_walk_X1_reasonOn : GoodIn wsX5_walk (wsV RX5 151 RX1 yX1_reasonOn wsX1_reasonOn) := goodIn_app (goodIn_of _ (by decide +kernel)) ggX5_walk_X1_reasonOn
set_option maxRecDepth 20000 in
theorem ggX5_walk_X5_readMeter : GoodIn wsX5_walk wsX5_readMeter := goodIn_rB _ [31, 2, 32, 33, 34, 35, 1, 36, 37, 38, 39, 24, 40, 41, 42, 43, 44, 45, 46, 47, 48, 49, 50, 51, 27, 52, 53, 54, 55, 56, 57, 58, 59, 60, 61, 62, 63, 79, 80, 81, 82, 83, 84, 85, 86, 87, 88, 89, 90, 91, 92, 64, 65, 66, 67, 68, 69, 70, 71, 72, 73, 74, 75, 76, 93, 94, 95] (by decide +kernel) (by decide +kernel)
set_option maxRecDepth 20000 in
theorem gX5_walk_X5_readMeter : GoodIn wsX5_walk (wsV RX5 154 RX5 yX5_readMeter wsX5_readMeter) := goodIn_app (goodIn_of _ (by decide +kernel)) ggX5_walk_X5_readMeter
theorem dX5_walk_0 : decode cX5_walk 0 = .ok (.aload_n 1, 1) := by decide +kernel
theorem dX5_walk_1 : decode cX5_walk 1 = .ok (.iconst 0, 1) := by decide +kernel
theorem dX5_walk_2 : decode cX5_walk 2 = .ok (.invokevirtual 188, 3) := by decide +kernel
theorem dX5_walk_5 : decode cX5_walk 5 = .ok (.istore_n 2, 1) := by decide +kernel
theorem dX5_walk_6 : decode cX5_walk 6 = .ok (.aload_n 0, 1) := by decide +kernel
theorem dX5_walk_7 : decode cX5_walk 7 = .ok (.getfield 30, 3) := by decide +kernel
theorem dX5_walk_10 : decode cX5_walk 10 = .ok (.iconst 0, 1) := by decide +kernel
theorem dX5_walk_11 : decode cX5_walk 11 = .ok (.iaload, 1) := by decide +kernel
theorem dX5_walk_12 : decode cX5_walk 12 = .ok (.istore_n 3, 1) := by decide +kernel
theorem dX5_walk_13 : decode cX5_walk 13 = .ok (.iconst 0, 1) := by decide +kernel
theorem dX5_walk_14 : decode cX5_walk 14 = .ok (.istore 4, 2) := by decide +kernel
theorem dX5_walk_16 : decode cX5_walk 16 = .ok (.iload 4, 2) := by decide +kernel
theorem dX5_walk_18 : decode cX5_walk 18 = .ok (.bipush 20, 2) := by decide +kernel
theorem dX5_walk_20 : decode cX5_walk 20 = .ok (.if_icmp .ge 73, 3) := by decide +kernel
theorem dX5_walk_23 : decode cX5_walk 23 = .ok (.iload_n 3, 1) := by decide +kernel
theorem dX5_walk_24 : decode cX5_walk 24 = .ok (.ifCond .le 69, 3) := by decide +kernel
theorem dX5_walk_27 : decode cX5_walk 27 = .ok (.iload_n 2, 1) := by decide +kernel
theorem dX5_walk_28 : decode cX5_walk 28 = .ok (.iload 4, 2) := by decide +kernel
theorem dX5_walk_30 : decode cX5_walk 30 = .ok (.iadd, 1) := by decide +kernel
theorem dX5_walk_31 : decode cX5_walk 31 = .ok (.bipush 20, 2) := by decide +kernel
theorem dX5_walk_33 : decode cX5_walk 33 = .ok (.irem, 1) := by decide +kernel
theorem dX5_walk_34 : decode cX5_walk 34 = .ok (.istore 5, 2) := by decide +kernel
theorem dX5_walk_36 : decode cX5_walk 36 = .ok (.aload_n 1, 1) := by decide +kernel
theorem dX5_walk_37 : decode cX5_walk 37 = .ok (.iload 5, 2) := by decide +kernel
theorem dX5_walk_39 : decode cX5_walk 39 = .ok (.invokevirtual 116, 3) := by decide +kernel
theorem dX5_walk_42 : decode cX5_walk 42 = .ok (.istore 6, 2) := by decide +kernel
theorem dX5_walk_44 : decode cX5_walk 44 = .ok (.aload_n 0, 1) := by decide +kernel
theorem dX5_walk_45 : decode cX5_walk 45 = .ok (.iload 6, 2) := by decide +kernel
theorem dX5_walk_47 : decode cX5_walk 47 = .ok (.invokevirtual 130, 3) := by decide +kernel
theorem dX5_walk_50 : decode cX5_walk 50 = .ok (.astore 7, 2) := by decide +kernel
theorem dX5_walk_52 : decode cX5_walk 52 = .ok (.aload 7, 2) := by decide +kernel
theorem dX5_walk_54 : decode cX5_walk 54 = .ok (.ifnull 33, 3) := by decide +kernel
theorem dX5_walk_57 : decode cX5_walk 57 = .ok (.aload 7, 2) := by decide +kernel
theorem dX5_walk_59 : decode cX5_walk 59 = .ok (.aload_n 0, 1) := by decide +kernel
theorem dX5_walk_60 : decode cX5_walk 60 = .ok (.getfield 59, 3) := by decide +kernel
theorem dX5_walk_63 : decode cX5_walk 63 = .ok (.invokevirtual 151, 3) := by decide +kernel
theorem dX5_walk_66 : decode cX5_walk 66 = .ok (.ifCond .ne 21, 3) := by decide +kernel
theorem dX5_walk_69 : decode cX5_walk 69 = .ok (.aload_n 0, 1) := by decide +kernel
theorem dX5_walk_70 : decode cX5_walk 70 = .ok (.aload 7, 2) := by decide +kernel
theorem dX5_walk_72 : decode cX5_walk 72 = .ok (.iload 6, 2) := by decide +kernel
theorem dX5_walk_74 : decode cX5_walk 74 = .ok (.invokevirtual 154, 3) := by decide +kernel
theorem dX5_walk_77 : decode cX5_walk 77 = .ok (.pop, 1) := by decide +kernel
theorem dX5_walk_78 : decode cX5_walk 78 = .ok (.aload_n 1, 1) := by decide +kernel
theorem dX5_walk_79 : decode cX5_walk 79 = .ok (.iload 5, 2) := by decide +kernel
theorem dX5_walk_81 : decode cX5_walk 81 = .ok (.putfield 191, 3) := by decide +kernel
theorem dX5_walk_84 : decode cX5_walk 84 = .ok (.iinc 3 (-1), 3) := by decide +kernel
theorem dX5_walk_87 : decode cX5_walk 87 = .ok (.iinc 4 1, 3) := by decide +kernel
theorem dX5_walk_90 : decode cX5_walk 90 = .ok (.goto (-74), 3) := by decide +kernel
theorem dX5_walk_93 : decode cX5_walk 93 = .ok (.return_, 1) := by decide +kernel
theorem dX5_endYear_0 : decode cX5_endYear 0 = .ok (.aload_n 0, 1) := by decide +kernel
theorem dX5_endYear_1 : decode cX5_endYear 1 = .ok (.dup, 1) := by decide +kernel
theorem dX5_endYear_2 : decode cX5_endYear 2 = .ok (.getfield 80, 3) := by decide +kernel
theorem dX5_endYear_5 : decode cX5_endYear 5 = .ok (.iconst 1, 1) := by decide +kernel
theorem dX5_endYear_6 : decode cX5_endYear 6 = .ok (.iadd, 1) := by decide +kernel
theorem dX5_endYear_7 : decode cX5_endYear 7 = .ok (.putfield 80, 3) := by decide +kernel
theorem dX5_endYear_10 : decode cX5_endYear 10 = .ok (.aload_n 0, 1) := by decide +kernel
theorem dX5_endYear_11 : decode cX5_endYear 11 = .ok (.getfield 11, 3) := by decide +kernel
theorem dX5_endYear_14 : decode cX5_endYear 14 = .ok (.astore_n 1, 1) := by decide +kernel
theorem dX5_endYear_15 : decode cX5_endYear 15 = .ok (.aload_n 1, 1) := by decide +kernel
theorem dX5_endYear_16 : decode cX5_endYear 16 = .ok (.arraylength, 1) := by decide +kernel
theorem dX5_endYear_17 : decode cX5_endYear 17 = .ok (.istore_n 2, 1) := by decide +kernel
theorem dX5_endYear_18 : decode cX5_endYear 18 = .ok (.iconst 0, 1) := by decide +kernel
theorem dX5_endYear_19 : decode cX5_endYear 19 = .ok (.istore_n 3, 1) := by decide +kernel
theorem dX5_endYear_20 : decode cX5_endYear 20 = .ok (.iload_n 3, 1) := by decide +kernel
theorem dX5_endYear_21 : decode cX5_endYear 21 = .ok (.iload_n 2, 1) := by decide +kernel
theorem dX5_endYear_22 : decode cX5_endYear 22 = .ok (.if_icmp .ge 76, 3) := by decide +kernel
theorem dX5_endYear_25 : decode cX5_endYear 25 = .ok (.aload_n 1, 1) := by decide +kernel
theorem dX5_endYear_26 : decode cX5_endYear 26 = .ok (.iload_n 3, 1) := by decide +kernel
theorem dX5_endYear_27 : decode cX5_endYear 27 = .ok (.aaload, 1) := by decide +kernel
theorem dX5_endYear_28 : decode cX5_endYear 28 = .ok (.astore 4, 2) := by decide +kernel
theorem dX5_endYear_30 : decode cX5_endYear 30 = .ok (.aload 4, 2) := by decide +kernel
theorem dX5_endYear_32 : decode cX5_endYear 32 = .ok (.getfield 165, 3) := by decide +kernel
theorem dX5_endYear_35 : decode cX5_endYear 35 = .ok (.aload_n 0, 1) := by decide +kernel
theorem dX5_endYear_36 : decode cX5_endYear 36 = .ok (.getfield 30, 3) := by decide +kernel
theorem dX5_endYear_39 : decode cX5_endYear 39 = .ok (.iconst 2, 1) := by decide +kernel
theorem dX5_endYear_40 : decode cX5_endYear 40 = .ok (.iaload, 1) := by decide +kernel
theorem dX5_endYear_41 : decode cX5_endYear 41 = .ok (.if_icmp .lt 51, 3) := by decide +kernel
theorem dX5_endYear_44 : decode cX5_endYear 44 = .ok (.aload 4, 2) := by decide +kernel
theorem dX5_endYear_46 : decode cX5_endYear 46 = .ok (.dup, 1) := by decide +kernel
theorem dX5_endYear_47 : decode cX5_endYear 47 = .ok (.getfield 165, 3) := by decide +kernel
theorem dX5_endYear_50 : decode cX5_endYear 50 = .ok (.bipush 100, 2) := by decide +kernel
theorem dX5_endYear_52 : decode cX5_endYear 52 = .ok (.isub, 1) := by decide +kernel
theorem dX5_endYear_53 : decode cX5_endYear 53 = .ok (.putfield 165, 3) := by decide +kernel
theorem dX5_endYear_56 : decode cX5_endYear 56 = .ok (.aload 4, 2) := by decide +kernel
theorem dX5_endYear_58 : decode cX5_endYear 58 = .ok (.dup, 1) := by decide +kernel
theorem dX5_endYear_59 : decode cX5_endYear 59 = .ok (.getfield 194, 3) := by decide +kernel
theorem dX5_endYear_62 : decode cX5_endYear 62 = .ok (.iconst 1, 1) := by decide +kernel
theorem dX5_endYear_63 : decode cX5_endYear 63 = .ok (.iadd, 1) := by decide +kernel
theorem dX5_endYear_64 : decode cX5_endYear 64 = .ok (.putfield 194, 3) := by decide +kernel
theorem dX5_endYear_67 : decode cX5_endYear 67 = .ok (.aload_n 0, 1) := by decide +kernel
theorem dX5_endYear_68 : decode cX5_endYear 68 = .ok (.dup, 1) := by decide +kernel
theorem dX5_endYear_69 : decode cX5_endYear 69 = .ok (.getfield 74, 3) := by decide +kernel
theorem dX5_endYear_72 : decode cX5_endYear 72 = .ok (.iconst 1, 1) := by decide +kernel
theorem dX5_endYear_73 : decode cX5_endYear 73 = .ok (.iadd, 1) := by decide +kernel
theorem dX5_endYear_74 : decode cX5_endYear 74 = .ok (.putfield 74, 3) := by decide +kernel
theorem dX5_endYear_77 : decode cX5_endYear 77 = .ok (.aload_n 0, 1) := by decide +kernel
theorem dX5_endYear_78 : decode cX5_endYear 78 = .ok (.dup, 1) := by decide +kernel
theorem dX5_endYear_79 : decode cX5_endYear 79 = .ok (.getfield 77, 3) := by decide +kernel
theorem dX5_endYear_82 : decode cX5_endYear 82 = .ok (.aload_n 0, 1) := by decide +kernel
theorem dX5_endYear_83 : decode cX5_endYear 83 = .ok (.getfield 30, 3) := by decide +kernel
theorem dX5_endYear_86 : decode cX5_endYear 86 = .ok (.iconst 1, 1) := by decide +kernel
theorem dX5_endYear_87 : decode cX5_endYear 87 = .ok (.iaload, 1) := by decide +kernel
theorem dX5_endYear_88 : decode cX5_endYear 88 = .ok (.iadd, 1) := by decide +kernel
theorem dX5_endYear_89 : decode cX5_endYear 89 = .ok (.putfield 77, 3) := by decide +kernel
theorem dX5_endYear_92 : decode cX5_endYear 92 = .ok (.iinc 3 1, 3) := by decide +kernel
theorem dX5_endYear_95 : decode cX5_endYear 95 = .ok (.goto (-75), 3) := by decide +kernel
theorem dX5_endYear_98 : decode cX5_endYear 98 = .ok (.return_, 1) := by decide +kernel
set_option maxRecDepth 20000 in
theorem ggX5_houseByBalance_X5_housesAhead : GoodIn wsX5_houseByBalance wsX5_housesAhead := goodIn_rB _ [8, 1, 2, 9, 10, 11, 12, 13, 14, 15, 16, 17, 18, 19, 20, 21, 22, 23, 24, 25, 26, 27, 28, 29, 30, 31, 32, 33, 34, 35] (by decide +kernel) (by decide +kernel)
set_option maxRecDepth 20000 in
theorem gX5_houseByBalance_X5_housesAhead : GoodIn wsX5_houseByBalance (wsV RX5 196 RX5 yX5_housesAhead wsX5_housesAhead) := goodIn_app (goodIn_of _ (by decide +kernel)) ggX5_houseByBalance_X5_housesAhead
theorem dX5_houseByBalance_0 : decode cX5_houseByBalance 0 = .ok (.iconst 0, 1) := by decide +kernel
theorem dX5_houseByBalance_1 : decode cX5_houseByBalance 1 = .ok (.istore_n 2, 1) := by decide +kernel
theorem dX5_houseByBalance_2 : decode cX5_houseByBalance 2 = .ok (.iload_n 2, 1) := by decide +kernel
theorem dX5_houseByBalance_3 : decode cX5_houseByBalance 3 = .ok (.aload_n 0, 1) := by decide +kernel
theorem dX5_houseByBalance_4 : decode cX5_houseByBalance 4 = .ok (.getfield 55, 3) := by decide +kernel
theorem dX5_houseByBalance_7 : decode cX5_houseByBalance 7 = .ok (.if_icmp .ge 35, 3) := by decide +kernel
theorem dX5_houseByBalance_10 : decode cX5_houseByBalance 10 = .ok (.iload_n 2, 1) := by decide +kernel
theorem dX5_houseByBalance_11 : decode cX5_houseByBalance 11 = .ok (.bipush 24, 2) := by decide +kernel
theorem dX5_houseByBalance_13 : decode cX5_houseByBalance 13 = .ok (.if_icmp .ge 29, 3) := by decide +kernel
theorem dX5_houseByBalance_16 : decode cX5_houseByBalance 16 = .ok (.aload_n 0, 1) := by decide +kernel
theorem dX5_houseByBalance_17 : decode cX5_houseByBalance 17 = .ok (.iload_n 2, 1) := by decide +kernel
theorem dX5_houseByBalance_18 : decode cX5_houseByBalance 18 = .ok (.aload_n 0, 1) := by decide +kernel
theorem dX5_houseByBalance_19 : decode cX5_houseByBalance 19 = .ok (.getfield 11, 3) := by decide +kernel
theorem dX5_houseByBalance_22 : decode cX5_houseByBalance 22 = .ok (.iload_n 2, 1) := by decide +kernel
theorem dX5_houseByBalance_23 : decode cX5_houseByBalance 23 = .ok (.aaload, 1) := by decide +kernel
theorem dX5_houseByBalance_24 : decode cX5_houseByBalance 24 = .ok (.getfield 165, 3) := by decide +kernel
theorem dX5_houseByBalance_27 : decode cX5_houseByBalance 27 = .ok (.invokevirtual 196, 3) := by decide +kernel
theorem dX5_houseByBalance_30 : decode cX5_houseByBalance 30 = .ok (.iload_n 1, 1) := by decide +kernel
theorem dX5_houseByBalance_31 : decode cX5_houseByBalance 31 = .ok (.if_icmp .ne 5, 3) := by decide +kernel
theorem dX5_houseByBalance_34 : decode cX5_houseByBalance 34 = .ok (.iload_n 2, 1) := by decide +kernel
theorem dX5_houseByBalance_35 : decode cX5_houseByBalance 35 = .ok (.ireturn, 1) := by decide +kernel
theorem dX5_houseByBalance_36 : decode cX5_houseByBalance 36 = .ok (.iinc 2 1, 3) := by decide +kernel
theorem dX5_houseByBalance_39 : decode cX5_houseByBalance 39 = .ok (.goto (-37), 3) := by decide +kernel
theorem dX5_houseByBalance_42 : decode cX5_houseByBalance 42 = .ok (.ldc 195, 2) := by decide +kernel
theorem dX5_houseByBalance_44 : decode cX5_houseByBalance 44 = .ok (.ireturn, 1) := by decide +kernel
theorem dX5_housesAhead_0 : decode cX5_housesAhead 0 = .ok (.iconst 0, 1) := by decide +kernel
theorem dX5_housesAhead_1 : decode cX5_housesAhead 1 = .ok (.istore_n 3, 1) := by decide +kernel
theorem dX5_housesAhead_2 : decode cX5_housesAhead 2 = .ok (.iconst 0, 1) := by decide +kernel
theorem dX5_housesAhead_3 : decode cX5_housesAhead 3 = .ok (.istore 4, 2) := by decide +kernel
theorem dX5_housesAhead_5 : decode cX5_housesAhead 5 = .ok (.iload 4, 2) := by decide +kernel
theorem dX5_housesAhead_7 : decode cX5_housesAhead 7 = .ok (.aload_n 0, 1) := by decide +kernel
theorem dX5_housesAhead_8 : decode cX5_housesAhead 8 = .ok (.getfield 55, 3) := by decide +kernel
theorem dX5_housesAhead_11 : decode cX5_housesAhead 11 = .ok (.if_icmp .ge 49, 3) := by decide +kernel
theorem dX5_housesAhead_14 : decode cX5_housesAhead 14 = .ok (.iload 4, 2) := by decide +kernel
theorem dX5_housesAhead_16 : decode cX5_housesAhead 16 = .ok (.bipush 24, 2) := by decide +kernel
theorem dX5_housesAhead_18 : decode cX5_housesAhead 18 = .ok (.if_icmp .ge 42, 3) := by decide +kernel
theorem dX5_housesAhead_21 : decode cX5_housesAhead 21 = .ok (.aload_n 0, 1) := by decide +kernel
theorem dX5_housesAhead_22 : decode cX5_housesAhead 22 = .ok (.getfield 11, 3) := by decide +kernel
theorem dX5_housesAhead_25 : decode cX5_housesAhead 25 = .ok (.iload 4, 2) := by decide +kernel
theorem dX5_housesAhead_27 : decode cX5_housesAhead 27 = .ok (.aaload, 1) := by decide +kernel
theorem dX5_housesAhead_28 : decode cX5_housesAhead 28 = .ok (.getfield 165, 3) := by decide +kernel
theorem dX5_housesAhead_31 : decode cX5_housesAhead 31 = .ok (.istore 5, 2) := by decide +kernel
theorem dX5_housesAhead_33 : decode cX5_housesAhead 33 = .ok (.iload 5, 2) := by decide +kernel
theorem dX5_housesAhead_35 : decode cX5_housesAhead 35 = .ok (.iload_n 2, 1) := by decide +kernel
theorem dX5_housesAhead_36 : decode cX5_housesAhead 36 = .ok (.if_icmp .gt 15, 3) := by decide +kernel
theorem dX5_housesAhead_39 : decode cX5_housesAhead 39 = .ok (.iload 5, 2) := by decide +kernel
theorem dX5_housesAhead_41 : decode cX5_housesAhead 41 = .ok (.iload_n 2, 1) := by decide +kernel
theorem dX5_housesAhead_42 : decode cX5_housesAhead 42 = .ok (.if_icmp .ne 12, 3) := by decide +kernel
theorem dX5_housesAhead_45 : decode cX5_housesAhead 45 = .ok (.iload 4, 2) := by decide +kernel
theorem dX5_housesAhead_47 : decode cX5_housesAhead 47 = .ok (.iload_n 1, 1) := by decide +kernel
theorem dX5_housesAhead_48 : decode cX5_housesAhead 48 = .ok (.if_icmp .ge 6, 3) := by decide +kernel
theorem dX5_housesAhead_51 : decode cX5_housesAhead 51 = .ok (.iinc 3 1, 3) := by decide +kernel
theorem dX5_housesAhead_54 : decode cX5_housesAhead 54 = .ok (.iinc 4 1, 3) := by decide +kernel
theorem dX5_housesAhead_57 : decode cX5_housesAhead 57 = .ok (.goto (-52), 3) := by decide +kernel
theorem dX5_housesAhead_60 : decode cX5_housesAhead 60 = .ok (.iload_n 3, 1) := by decide +kernel
theorem dX5_housesAhead_61 : decode cX5_housesAhead 61 = .ok (.ireturn, 1) := by decide +kernel
set_option maxRecDepth 20000 in
theorem ggX5_number_X5_housesLocked : GoodIn wsX5_number wsX5_housesLocked := goodIn_rB _ [17, 18, 27, 28, 29, 30, 31, 32, 33, 34, 35, 36, 37, 38, 39, 43, 44, 45, 46, 47, 48, 49, 50, 51, 52, 53, 54, 55, 56] (by decide +kernel) (by decide +kernel)
set_option maxRecDepth 20000 in
theorem gX5_number_X5_housesLocked : GoodIn wsX5_number (wsV RX5 199 RX5 yX5_housesLocked wsX5_housesLocked) := goodIn_app (goodIn_of _ (by decide +kernel)) ggX5_number_X5_housesLocked
set_option maxRecDepth 20000 in
theorem ggX5_number_X5_housesBetween : GoodIn wsX5_number wsX5_housesBetween := goodIn_rB _ [22, 18, 27, 28, 29, 30, 31, 32, 33, 34, 35, 36, 37, 38, 39, 43, 44, 45, 46, 47, 48, 49, 50, 51, 52, 53, 54, 55, 56] (by decide +kernel) (by decide +kernel)
set_option maxRecDepth 20000 in
theorem gX5_number_X5_housesBetween : GoodIn wsX5_number (wsV RX5 202 RX5 yX5_housesBetween wsX5_housesBetween) := goodIn_app (goodIn_of _ (by decide +kernel)) ggX5_number_X5_housesBetween
set_option maxRecDepth 20000 in
theorem ggX5_number_X5_balances : GoodIn wsX5_number wsX5_balances := goodIn_rB _ [26, 18, 27, 28, 29, 30, 31, 32, 33, 34, 35, 36, 37, 38, 39, 43, 44, 45, 46, 47, 48, 49, 50, 51, 52, 53, 54, 55, 56] (by decide +kernel) (by decide +kernel)
set_option maxRecDepth 20000 in
theorem gX5_number_X5_balances : GoodIn wsX5_number (wsV RX5 205 RX5 yX5_balances wsX5_balances) := goodIn_app (goodIn_of _ (by decide +kernel)) ggX5_number_X5_balances
theorem dX5_number_0 : decode cX5_number 0 = .ok (.iload_n 1, 1) := by decide +kernel
theorem dX5_number_1 : decode cX5_number 1 = .ok (.tableswitch 183 0 14 #[75, 80, 85, 90, 95, 100, 105, 110, 115, 120, 128, 136, 145, 170, 175], 75) := by decide +kernel
theorem dX5_number_76 : decode cX5_number 76 = .ok (.aload_n 0, 1) := by decide +kernel
theorem dX5_number_77 : decode cX5_number 77 = .ok (.getfield 59, 3) := by decide +kernel
theorem dX5_number_80 : decode cX5_number 80 = .ok (.ireturn, 1) := by decide +kernel
theorem dX5_number_81 : decode cX5_number 81 = .ok (.aload_n 0, 1) := by decide +kernel
theorem dX5_number_82 : decode cX5_number 82 = .ok (.getfield 55, 3) := by decide +kernel
theorem dX5_number_85 : decode cX5_number 85 = .ok (.ireturn, 1) := by decide +kernel
theorem dX5_number_86 : decode cX5_number 86 = .ok (.aload_n 0, 1) := by decide +kernel
theorem dX5_number_87 : decode cX5_number 87 = .ok (.invokevirtual 199, 3) := by decide +kernel
theorem dX5_number_90 : decode cX5_number 90 = .ok (.ireturn, 1) := by decide +kernel
theorem dX5_number_91 : decode cX5_number 91 = .ok (.aload_n 0, 1) := by decide +kernel
theorem dX5_number_92 : decode cX5_number 92 = .ok (.getfield 62, 3) := by decide +kernel
theorem dX5_number_95 : decode cX5_number 95 = .ok (.ireturn, 1) := by decide +kernel
theorem dX5_number_96 : decode cX5_number 96 = .ok (.aload_n 0, 1) := by decide +kernel
theorem dX5_number_97 : decode cX5_number 97 = .ok (.getfield 65, 3) := by decide +kernel
theorem dX5_number_100 : decode cX5_number 100 = .ok (.ireturn, 1) := by decide +kernel
theorem dX5_number_101 : decode cX5_number 101 = .ok (.aload_n 0, 1) := by decide +kernel
theorem dX5_number_102 : decode cX5_number 102 = .ok (.getfield 68, 3) := by decide +kernel
theorem dX5_number_105 : decode cX5_number 105 = .ok (.ireturn, 1) := by decide +kernel
theorem dX5_number_106 : decode cX5_number 106 = .ok (.aload_n 0, 1) := by decide +kernel
theorem dX5_number_107 : decode cX5_number 107 = .ok (.getfield 71, 3) := by decide +kernel
theorem dX5_number_110 : decode cX5_number 110 = .ok (.ireturn, 1) := by decide +kernel
theorem dX5_number_111 : decode cX5_number 111 = .ok (.aload_n 0, 1) := by decide +kernel
theorem dX5_number_112 : decode cX5_number 112 = .ok (.getfield 74, 3) := by decide +kernel
theorem dX5_number_115 : decode cX5_number 115 = .ok (.ireturn, 1) := by decide +kernel
theorem dX5_number_116 : decode cX5_number 116 = .ok (.aload_n 0, 1) := by decide +kernel
theorem dX5_number_117 : decode cX5_number 117 = .ok (.getfield 77, 3) := by decide +kernel
theorem dX5_number_120 : decode cX5_number 120 = .ok (.ireturn, 1) := by decide +kernel
theorem dX5_number_121 : decode cX5_number 121 = .ok (.aload_n 0, 1) := by decide +kernel
theorem dX5_number_122 : decode cX5_number 122 = .ok (.iconst 1, 1) := by decide +kernel
theorem dX5_number_123 : decode cX5_number 123 = .ok (.bipush 100, 2) := by decide +kernel
theorem dX5_number_125 : decode cX5_number 125 = .ok (.invokevirtual 202, 3) := by decide +kernel
theorem dX5_number_128 : decode cX5_number 128 = .ok (.ireturn, 1) := by decide +kernel
theorem dX5_number_129 : decode cX5_number 129 = .ok (.aload_n 0, 1) := by decide +kernel
theorem dX5_number_130 : decode cX5_number 130 = .ok (.bipush (-100), 2) := by decide +kernel
theorem dX5_number_132 : decode cX5_number 132 = .ok (.iconst (-1), 1) := by decide +kernel
theorem dX5_number_133 : decode cX5_number 133 = .ok (.invokevirtual 202, 3) := by decide +kernel
theorem dX5_number_136 : decode cX5_number 136 = .ok (.ireturn, 1) := by decide +kernel
theorem dX5_number_137 : decode cX5_number 137 = .ok (.sipush 10000, 3) := by decide +kernel
theorem dX5_number_140 : decode cX5_number 140 = .ok (.aload_n 0, 1) := by decide +kernel
theorem dX5_number_141 : decode cX5_number 141 = .ok (.invokevirtual 205, 3) := by decide +kernel
theorem dX5_number_144 : decode cX5_number 144 = .ok (.iadd, 1) := by decide +kernel
theorem dX5_number_145 : decode cX5_number 145 = .ok (.ireturn, 1) := by decide +kernel
theorem dX5_number_146 : decode cX5_number 146 = .ok (.sipush 10000, 3) := by decide +kernel
theorem dX5_number_149 : decode cX5_number 149 = .ok (.bipush 100, 2) := by decide +kernel
theorem dX5_number_151 : decode cX5_number 151 = .ok (.aload_n 0, 1) := by decide +kernel
theorem dX5_number_152 : decode cX5_number 152 = .ok (.getfield 65, 3) := by decide +kernel
theorem dX5_number_155 : decode cX5_number 155 = .ok (.imul, 1) := by decide +kernel
theorem dX5_number_156 : decode cX5_number 156 = .ok (.iadd, 1) := by decide +kernel
theorem dX5_number_157 : decode cX5_number 157 = .ok (.aload_n 0, 1) := by decide +kernel
theorem dX5_number_158 : decode cX5_number 158 = .ok (.getfield 71, 3) := by decide +kernel
theorem dX5_number_161 : decode cX5_number 161 = .ok (.isub, 1) := by decide +kernel
theorem dX5_number_162 : decode cX5_number 162 = .ok (.bipush 100, 2) := by decide +kernel
theorem dX5_number_164 : decode cX5_number 164 = .ok (.aload_n 0, 1) := by decide +kernel
theorem dX5_number_165 : decode cX5_number 165 = .ok (.getfield 74, 3) := by decide +kernel
theorem dX5_number_168 : decode cX5_number 168 = .ok (.imul, 1) := by decide +kernel
theorem dX5_number_169 : decode cX5_number 169 = .ok (.isub, 1) := by decide +kernel
theorem dX5_number_170 : decode cX5_number 170 = .ok (.ireturn, 1) := by decide +kernel
theorem dX5_number_171 : decode cX5_number 171 = .ok (.aload_n 0, 1) := by decide +kernel
theorem dX5_number_172 : decode cX5_number 172 = .ok (.getfield 80, 3) := by decide +kernel
theorem dX5_number_175 : decode cX5_number 175 = .ok (.ireturn, 1) := by decide +kernel
theorem dX5_number_176 : decode cX5_number 176 = .ok (.aload_n 0, 1) := by decide +kernel
theorem dX5_number_177 : decode cX5_number 177 = .ok (.getfield 26, 3) := by decide +kernel
theorem dX5_number_180 : decode cX5_number 180 = .ok (.getfield 208, 3) := by decide +kernel
theorem dX5_number_183 : decode cX5_number 183 = .ok (.ireturn, 1) := by decide +kernel
theorem dX5_number_184 : decode cX5_number 184 = .ok (.iload_n 1, 1) := by decide +kernel
theorem dX5_number_185 : decode cX5_number 185 = .ok (.bipush 20, 2) := by decide +kernel
theorem dX5_number_187 : decode cX5_number 187 = .ok (.if_icmp .lt 21, 3) := by decide +kernel
theorem dX5_number_190 : decode cX5_number 190 = .ok (.iload_n 1, 1) := by decide +kernel
theorem dX5_number_191 : decode cX5_number 191 = .ok (.bipush 24, 2) := by decide +kernel
theorem dX5_number_193 : decode cX5_number 193 = .ok (.if_icmp .ge 15, 3) := by decide +kernel
theorem dX5_number_196 : decode cX5_number 196 = .ok (.aload_n 0, 1) := by decide +kernel
theorem dX5_number_197 : decode cX5_number 197 = .ok (.getfield 30, 3) := by decide +kernel
theorem dX5_number_200 : decode cX5_number 200 = .ok (.iload_n 1, 1) := by decide +kernel
theorem dX5_number_201 : decode cX5_number 201 = .ok (.bipush 20, 2) := by decide +kernel
theorem dX5_number_203 : decode cX5_number 203 = .ok (.isub, 1) := by decide +kernel
theorem dX5_number_204 : decode cX5_number 204 = .ok (.iaload, 1) := by decide +kernel
theorem dX5_number_205 : decode cX5_number 205 = .ok (.goto 5, 3) := by decide +kernel
theorem dX5_number_208 : decode cX5_number 208 = .ok (.ldc 100, 2) := by decide +kernel
theorem dX5_number_210 : decode cX5_number 210 = .ok (.ireturn, 1) := by decide +kernel
theorem dX5_housesLocked_0 : decode cX5_housesLocked 0 = .ok (.iconst 0, 1) := by decide +kernel
theorem dX5_housesLocked_1 : decode cX5_housesLocked 1 = .ok (.istore_n 1, 1) := by decide +kernel
theorem dX5_housesLocked_2 : decode cX5_housesLocked 2 = .ok (.aload_n 0, 1) := by decide +kernel
theorem dX5_housesLocked_3 : decode cX5_housesLocked 3 = .ok (.getfield 11, 3) := by decide +kernel
theorem dX5_housesLocked_6 : decode cX5_housesLocked 6 = .ok (.astore_n 2, 1) := by decide +kernel
theorem dX5_housesLocked_7 : decode cX5_housesLocked 7 = .ok (.aload_n 2, 1) := by decide +kernel
theorem dX5_housesLocked_8 : decode cX5_housesLocked 8 = .ok (.arraylength, 1) := by decide +kernel
theorem dX5_housesLocked_9 : decode cX5_housesLocked 9 = .ok (.istore_n 3, 1) := by decide +kernel
theorem dX5_housesLocked_10 : decode cX5_housesLocked 10 = .ok (.iconst 0, 1) := by decide +kernel
theorem dX5_housesLocked_11 : decode cX5_housesLocked 11 = .ok (.istore 4, 2) := by decide +kernel
theorem dX5_housesLocked_13 : decode cX5_housesLocked 13 = .ok (.iload 4, 2) := by decide +kernel
theorem dX5_housesLocked_15 : decode cX5_housesLocked 15 = .ok (.iload_n 3, 1) := by decide +kernel
theorem dX5_housesLocked_16 : decode cX5_housesLocked 16 = .ok (.if_icmp .ge 26, 3) := by decide +kernel
theorem dX5_housesLocked_19 : decode cX5_housesLocked 19 = .ok (.aload_n 2, 1) := by decide +kernel
theorem dX5_housesLocked_20 : decode cX5_housesLocked 20 = .ok (.iload 4, 2) := by decide +kernel
theorem dX5_housesLocked_22 : decode cX5_housesLocked 22 = .ok (.aaload, 1) := by decide +kernel
theorem dX5_housesLocked_23 : decode cX5_housesLocked 23 = .ok (.astore 5, 2) := by decide +kernel
theorem dX5_housesLocked_25 : decode cX5_housesLocked 25 = .ok (.aload 5, 2) := by decide +kernel
theorem dX5_housesLocked_27 : decode cX5_housesLocked 27 = .ok (.getfield 137, 3) := by decide +kernel
theorem dX5_housesLocked_30 : decode cX5_housesLocked 30 = .ok (.ifCond .eq 6, 3) := by decide +kernel
theorem dX5_housesLocked_33 : decode cX5_housesLocked 33 = .ok (.iinc 1 1, 3) := by decide +kernel
theorem dX5_housesLocked_36 : decode cX5_housesLocked 36 = .ok (.iinc 4 1, 3) := by decide +kernel
theorem dX5_housesLocked_39 : decode cX5_housesLocked 39 = .ok (.goto (-26), 3) := by decide +kernel
theorem dX5_housesLocked_42 : decode cX5_housesLocked 42 = .ok (.iload_n 1, 1) := by decide +kernel
theorem dX5_housesLocked_43 : decode cX5_housesLocked 43 = .ok (.ireturn, 1) := by decide +kernel
theorem dX5_housesBetween_0 : decode cX5_housesBetween 0 = .ok (.iconst 0, 1) := by decide +kernel
theorem dX5_housesBetween_1 : decode cX5_housesBetween 1 = .ok (.istore_n 3, 1) := by decide +kernel
theorem dX5_housesBetween_2 : decode cX5_housesBetween 2 = .ok (.aload_n 0, 1) := by decide +kernel
theorem dX5_housesBetween_3 : decode cX5_housesBetween 3 = .ok (.getfield 11, 3) := by decide +kernel
theorem dX5_housesBetween_6 : decode cX5_housesBetween 6 = .ok (.astore 4, 2) := by decide +kernel
theorem dX5_housesBetween_8 : decode cX5_housesBetween 8 = .ok (.aload 4, 2) := by decide +kernel
theorem dX5_housesBetween_10 : decode cX5_housesBetween 10 = .ok (.arraylength, 1) := by decide +kernel
theorem dX5_housesBetween_11 : decode cX5_housesBetween 11 = .ok (.istore 5, 2) := by decide +kernel
theorem dX5_housesBetween_13 : decode cX5_housesBetween 13 = .ok (.iconst 0, 1) := by decide +kernel
theorem dX5_housesBetween_14 : decode cX5_housesBetween 14 = .ok (.istore 6, 2) := by decide +kernel
theorem dX5_housesBetween_16 : decode cX5_housesBetween 16 = .ok (.iload 6, 2) := by decide +kernel
theorem dX5_housesBetween_18 : decode cX5_housesBetween 18 = .ok (.iload 5, 2) := by decide +kernel
theorem dX5_housesBetween_20 : decode cX5_housesBetween 20 = .ok (.if_icmp .ge 37, 3) := by decide +kernel
theorem dX5_housesBetween_23 : decode cX5_housesBetween 23 = .ok (.aload 4, 2) := by decide +kernel
theorem dX5_housesBetween_25 : decode cX5_housesBetween 25 = .ok (.iload 6, 2) := by decide +kernel
theorem dX5_housesBetween_27 : decode cX5_housesBetween 27 = .ok (.aaload, 1) := by decide +kernel
theorem dX5_housesBetween_28 : decode cX5_housesBetween 28 = .ok (.astore 7, 2) := by decide +kernel
theorem dX5_housesBetween_30 : decode cX5_housesBetween 30 = .ok (.aload 7, 2) := by decide +kernel
theorem dX5_housesBetween_32 : decode cX5_housesBetween 32 = .ok (.getfield 165, 3) := by decide +kernel
theorem dX5_housesBetween_35 : decode cX5_housesBetween 35 = .ok (.iload_n 1, 1) := by decide +kernel
theorem dX5_housesBetween_36 : decode cX5_housesBetween 36 = .ok (.if_icmp .lt 15, 3) := by decide +kernel
theorem dX5_housesBetween_39 : decode cX5_housesBetween 39 = .ok (.aload 7, 2) := by decide +kernel
theorem dX5_housesBetween_41 : decode cX5_housesBetween 41 = .ok (.getfield 165, 3) := by decide +kernel
theorem dX5_housesBetween_44 : decode cX5_housesBetween 44 = .ok (.iload_n 2, 1) := by decide +kernel
theorem dX5_housesBetween_45 : decode cX5_housesBetween 45 = .ok (.if_icmp .gt 6, 3) := by decide +kernel
theorem dX5_housesBetween_48 : decode cX5_housesBetween 48 = .ok (.iinc 3 1, 3) := by decide +kernel
theorem dX5_housesBetween_51 : decode cX5_housesBetween 51 = .ok (.iinc 6 1, 3) := by decide +kernel
theorem dX5_housesBetween_54 : decode cX5_housesBetween 54 = .ok (.goto (-38), 3) := by decide +kernel
theorem dX5_housesBetween_57 : decode cX5_housesBetween 57 = .ok (.iload_n 3, 1) := by decide +kernel
theorem dX5_housesBetween_58 : decode cX5_housesBetween 58 = .ok (.ireturn, 1) := by decide +kernel
theorem dX5_balances_0 : decode cX5_balances 0 = .ok (.iconst 0, 1) := by decide +kernel
theorem dX5_balances_1 : decode cX5_balances 1 = .ok (.istore_n 1, 1) := by decide +kernel
theorem dX5_balances_2 : decode cX5_balances 2 = .ok (.aload_n 0, 1) := by decide +kernel
theorem dX5_balances_3 : decode cX5_balances 3 = .ok (.getfield 11, 3) := by decide +kernel
theorem dX5_balances_6 : decode cX5_balances 6 = .ok (.astore_n 2, 1) := by decide +kernel
theorem dX5_balances_7 : decode cX5_balances 7 = .ok (.aload_n 2, 1) := by decide +kernel
theorem dX5_balances_8 : decode cX5_balances 8 = .ok (.arraylength, 1) := by decide +kernel
theorem dX5_balances_9 : decode cX5_balances 9 = .ok (.istore_n 3, 1) := by decide +kernel
theorem dX5_balances_10 : decode cX5_balances 10 = .ok (.iconst 0, 1) := by decide +kernel
theorem dX5_balances_11 : decode cX5_balances 11 = .ok (.istore 4, 2) := by decide +kernel
theorem dX5_balances_13 : decode cX5_balances 13 = .ok (.iload 4, 2) := by decide +kernel
theorem dX5_balances_15 : decode cX5_balances 15 = .ok (.iload_n 3, 1) := by decide +kernel
theorem dX5_balances_16 : decode cX5_balances 16 = .ok (.if_icmp .ge 23, 3) := by decide +kernel
theorem dX5_balances_19 : decode cX5_balances 19 = .ok (.aload_n 2, 1) := by decide +kernel
theorem dX5_balances_20 : decode cX5_balances 20 = .ok (.iload 4, 2) := by decide +kernel
theorem dX5_balances_22 : decode cX5_balances 22 = .ok (.aaload, 1) := by decide +kernel
theorem dX5_balances_23 : decode cX5_balances 23 = .ok (.astore 5, 2) := by decide +kernel
theorem dX5_balances_25 : decode cX5_balances 25 = .ok (.iload_n 1, 1) := by decide +kernel
theorem dX5_balances_26 : decode cX5_balances 26 = .ok (.aload 5, 2) := by decide +kernel
theorem dX5_balances_28 : decode cX5_balances 28 = .ok (.getfield 165, 3) := by decide +kernel
theorem dX5_balances_31 : decode cX5_balances 31 = .ok (.iadd, 1) := by decide +kernel
theorem dX5_balances_32 : decode cX5_balances 32 = .ok (.istore_n 1, 1) := by decide +kernel
theorem dX5_balances_33 : decode cX5_balances 33 = .ok (.iinc 4 1, 3) := by decide +kernel
theorem dX5_balances_36 : decode cX5_balances 36 = .ok (.goto (-23), 3) := by decide +kernel
theorem dX5_balances_39 : decode cX5_balances 39 = .ok (.iload_n 1, 1) := by decide +kernel
theorem dX5_balances_40 : decode cX5_balances 40 = .ok (.ireturn, 1) := by decide +kernel
set_option maxRecDepth 20000 in
theorem ggX6_init_X5_init : GoodIn wsX6_init wsX5_init := goodIn_rB _ [19, 20, 2, 3, 21, 22, 23, 24, 25, 26, 27, 28, 29, 30, 31, 32, 33, 34, 35, 36, 37, 38, 39, 40, 41, 42, 43, 44, 45, 46, 47, 48, 60, 61, 62, 63, 64, 65, 66, 67, 68, 69, 70, 71, 72, 90, 91, 92, 93, 94, 95, 96, 97, 98, 99, 100, 101, 102, 103, 104, 105, 106, 107, 108] (by decide +kernel) (by decide +kernel)
set_option maxRecDepth 20000 in
theorem gX6_init_X5_init : GoodIn wsX6_init (wsX5_init) := ggX6_init_X5_init
set_option maxRecDepth 20000 in
theorem ggX6_init_X0_init : GoodIn wsX6_init wsX0_init := goodIn_rB _ [51, 52, 2, 3, 53, 54, 5, 6, 55, 18, 19, 20, 21, 22, 23, 24, 25, 26, 27, 28, 29, 30, 31, 32, 33, 34, 35, 36, 37, 38, 39, 40, 41, 42, 43, 44, 45, 46, 47, 48, 77, 78, 79, 60, 61, 62, 63, 64, 65, 66, 67, 68, 69, 70, 71, 72, 90, 91, 92, 93, 94, 95, 96, 97, 98, 99, 100, 101, 102, 103, 104, 105, 106, 107, 108] (by decide +kernel) (by decide +kernel)
set_option maxRecDepth 20000 in
theorem gX6_init_X0_init : GoodIn wsX6_init (wsX0_init) := ggX6_init_X0_init
set_option maxRecDepth 20000 in
theorem ggX6_init_X3_init : GoodIn wsX6_init wsX3_init := goodIn_rB _ [57, 58, 2, 3, 29, 59, 80, 81, 82, 83, 84, 85, 86, 87, 88, 89] (by decide +kernel) (by decide +kernel)
set_option maxRecDepth 20000 in
theorem gX6_init_X3_init_n28 : GoodIn wsX6_init (wsX3_init) := ggX6_init_X3_init
theorem dX6_init_0 : decode cX6_init 0 = .ok (.aload_n 0, 1) := by decide +kernel
theorem dX6_init_1 : decode cX6_init 1 = .ok (.invokespecial 1, 3) := by decide +kernel
theorem dX6_init_4 : decode cX6_init 4 = .ok (.aload_n 0, 1) := by decide +kernel
theorem dX6_init_5 : decode cX6_init 5 = .ok (.new 7, 3) := by decide +kernel
theorem dX6_init_8 : decode cX6_init 8 = .ok (.dup, 1) := by decide +kernel
theorem dX6_init_9 : decode cX6_init 9 = .ok (.invokespecial 9, 3) := by decide +kernel
theorem dX6_init_12 : decode cX6_init 12 = .ok (.putfield 10, 3) := by decide +kernel
theorem dX6_init_15 : decode cX6_init 15 = .ok (.aload_n 0, 1) := by decide +kernel
theorem dX6_init_16 : decode cX6_init 16 = .ok (.new 7, 3) := by decide +kernel
theorem dX6_init_19 : decode cX6_init 19 = .ok (.dup, 1) := by decide +kernel
theorem dX6_init_20 : decode cX6_init 20 = .ok (.invokespecial 9, 3) := by decide +kernel
theorem dX6_init_23 : decode cX6_init 23 = .ok (.putfield 16, 3) := by decide +kernel
theorem dX6_init_26 : decode cX6_init 26 = .ok (.aload_n 0, 1) := by decide +kernel
theorem dX6_init_27 : decode cX6_init 27 = .ok (.new 19, 3) := by decide +kernel
theorem dX6_init_30 : decode cX6_init 30 = .ok (.dup, 1) := by decide +kernel
theorem dX6_init_31 : decode cX6_init 31 = .ok (.invokespecial 21, 3) := by decide +kernel
theorem dX6_init_34 : decode cX6_init 34 = .ok (.putfield 22, 3) := by decide +kernel
theorem dX6_init_37 : decode cX6_init 37 = .ok (.aload_n 0, 1) := by decide +kernel
theorem dX6_init_38 : decode cX6_init 38 = .ok (.new 26, 3) := by decide +kernel
theorem dX6_init_41 : decode cX6_init 41 = .ok (.dup, 1) := by decide +kernel
theorem dX6_init_42 : decode cX6_init 42 = .ok (.invokespecial 28, 3) := by decide +kernel
theorem dX6_init_45 : decode cX6_init 45 = .ok (.putfield 29, 3) := by decide +kernel
theorem dX6_init_48 : decode cX6_init 48 = .ok (.return_, 1) := by decide +kernel
set_option maxRecDepth 20000 in
theorem ggX6_house_X6_carryOut : GoodIn wsX6_house wsX6_carryOut := goodIn_rB _ [5, 6, 7, 8, 9, 10, 11, 12, 13, 14, 15, 16, 17, 18, 19, 20, 21, 22, 23, 24, 25, 26, 27, 28, 29, 30, 31, 32, 33, 34, 35, 36, 37, 38, 39, 40, 41, 42, 43, 44, 45, 46, 47, 48, 49, 50, 51, 52, 53, 54, 55, 56, 57, 58, 59, 60, 61, 62, 63, 64, 65, 66, 67, 68, 69, 70, 71, 72, 73, 74, 75, 76, 77, 78, 79, 80, 81, 82, 83, 84, 85, 86, 87, 88, 4, 89, 90, 91, 92, 93, 94, 95, 96, 97, 98, 99, 100, 101, 102, 103, 104, 105, 106, 107, 108, 109, 110, 111, 112, 113, 114, 115, 116, 117, 118, 119, 120, 121, 122, 123, 124, 125, 126, 127, 128, 129, 130, 131, 132, 133, 134, 135, 136, 137, 138, 139, 140, 141, 142, 143, 144, 145, 146, 147, 148, 149, 150, 151, 152, 153, 154, 155, 156, 157, 158, 159, 160, 161, 162, 163, 164, 165, 166, 167, 168, 169, 170, 171, 172, 173, 174, 175, 176, 177, 178, 179, 180, 181, 182, 183, 184, 185, 186, 187, 188, 189, 190, 191, 192, 193, 194, 195, 196, 197, 198, 199, 200, 201, 202, 203, 204, 205, 206, 207, 208, 209, 210, 211, 212, 213, 214, 215, 216, 217, 218] (by decide +kernel) (by decide +kernel)
set_option maxRecDepth 20000 in
theorem gX6_house_X6_carryOut : GoodIn wsX6_house (wsV RX6 33 RX6 yX6_carryOut wsX6_carryOut) := goodIn_app (goodIn_of _ (by decide +kernel)) ggX6_house_X6_carryOut
theorem dX6_house_0 : decode cX6_house 0 = .ok (.aload_n 0, 1) := by decide +kernel
theorem dX6_house_1 : decode cX6_house 1 = .ok (.bipush 104, 2) := by decide +kernel
theorem dX6_house_3 : decode cX6_house 3 = .ok (.iload_n 1, 1) := by decide +kernel
theorem dX6_house_4 : decode cX6_house 4 = .ok (.iload_n 2, 1) := by decide +kernel
theorem dX6_house_5 : decode cX6_house 5 = .ok (.invokevirtual 33, 3) := by decide +kernel
theorem dX6_house_8 : decode cX6_house 8 = .ok (.ireturn, 1) := by decide +kernel
set_option maxRecDepth 20000 in
theorem ggX6_flow_X6_carryOut : GoodIn wsX6_flow wsX6_carryOut := goodIn_rB _ [5, 6, 7, 8, 9, 10, 11, 12, 13, 14, 15, 16, 17, 18, 19, 20, 21, 22, 23, 24, 25, 26, 27, 28, 29, 30, 31, 32, 33, 34, 35, 36, 37, 38, 39, 40, 41, 42, 43, 44, 45, 46, 47, 48, 49, 50, 51, 52, 53, 54, 55, 56, 57, 58, 59, 60, 61, 62, 63, 64, 65, 66, 67, 68, 69, 70, 71, 72, 73, 74, 75, 76, 77, 78, 79, 80, 81, 82, 83, 84, 85, 86, 87, 88, 4, 89, 90, 91, 92, 93, 94, 95, 96, 97, 98, 99, 100, 101, 102, 103, 104, 105, 106, 107, 108, 109, 110, 111, 112, 113, 114, 115, 116, 117, 118, 119, 120, 121, 122, 123, 124, 125, 126, 127, 128, 129, 130, 131, 132, 133, 134, 135, 136, 137, 138, 139, 140, 141, 142, 143, 144, 145, 146, 147, 148, 149, 150, 151, 152, 153, 154, 155, 156, 157, 158, 159, 160, 161, 162, 163, 164, 165, 166, 167, 168, 169, 170, 171, 172, 173, 174, 175, 176, 177, 178, 179, 180, 181, 182, 183, 184, 185, 186, 187, 188, 189, 190, 191, 192, 193, 194, 195, 196, 197, 198, 199, 200, 201, 202, 203, 204, 205, 206, 207, 208, 209, 210, 211, 212, 213, 214, 215, 216, 217, 218] (by decide +kernel) (by decide +kernel)
set_option maxRecDepth 20000 in
theorem gX6_flow_X6_carryOut : GoodIn wsX6_flow (wsV RX6 33 RX6 yX6_carryOut wsX6_carryOut) := goodIn_app (goodIn_of _ (by decide +kernel)) ggX6_flow_X6_carryOut
theorem dX6_flow_0 : decode cX6_flow 0 = .ok (.aload_n 0, 1) := by decide +kernel
theorem dX6_flow_1 : decode cX6_flow 1 = .ok (.bipush 102, 2) := by decide +kernel
theorem dX6_flow_3 : decode cX6_flow 3 = .ok (.iload_n 1, 1) := by decide +kernel
theorem dX6_flow_4 : decode cX6_flow 4 = .ok (.iload_n 2, 1) := by decide +kernel
theorem dX6_flow_5 : decode cX6_flow 5 = .ok (.invokevirtual 33, 3) := by decide +kernel
theorem dX6_flow_8 : decode cX6_flow 8 = .ok (.ireturn, 1) := by decide +kernel
set_option maxRecDepth 20000 in
theorem ggX6_lock_X0_record : GoodIn wsX6_lock wsX0_record := goodIn_rB _ [7, 8, 9, 10, 11, 12, 13, 14, 15, 16, 17, 18, 19, 20, 21, 22, 23, 24, 25, 26, 27, 28, 29, 30, 31, 32, 33, 34, 35, 36, 37, 38, 39, 40, 41, 42, 43, 44, 45, 46, 47, 48, 49, 50, 51, 52, 53, 54, 55, 56, 57, 58, 59, 60, 61, 62, 63, 64, 65, 66, 67, 91, 92, 93, 94, 95, 96, 97, 98, 99, 100, 101, 102, 103, 104, 105, 106, 107, 108, 109, 110, 111, 112, 113, 114, 115, 116, 117, 118, 119, 120, 121, 122, 123, 124, 125] (by decide +kernel) (by decide +kernel)
set_option maxRecDepth 20000 in
theorem gX6_lock_X0_record : GoodIn wsX6_lock (wsV RX6 37 RX0 yX0_record wsX0_record) := goodIn_app (goodIn_of _ (by decide +kernel)) ggX6_lock_X0_record
set_option maxRecDepth 20000 in
theorem ggX6_lock_X5_putLock : GoodIn wsX6_lock wsX5_putLock := goodIn_rB _ [71, 72, 73, 74, 75, 13, 76, 23, 15, 107, 108, 109, 110, 111, 112, 113, 114, 115, 116, 117, 118, 119, 120, 94, 95, 96, 97, 98, 99, 100, 101, 102, 103, 104, 105, 106] (by decide +kernel) (by decide +kernel)
set_option maxRecDepth 20000 in
theorem gX6_lock_X5_putLock : GoodIn wsX6_lock (wsV RX6 41 RX5 yX5_putLock wsX5_putLock) := goodIn_app (goodIn_of _ (by decide +kernel)) ggX6_lock_X5_putLock
set_option maxRecDepth 20000 in
theorem ggX6_lock_X6_kept : GoodIn wsX6_lock wsX6_kept := goodIn_rB _ [81, 1, 82, 83, 84, 6, 85, 8, 86, 87, 88, 89, 90, 91, 92, 93] (by decide +kernel) (by decide +kernel)
set_option maxRecDepth 20000 in
theorem gX6_lock_X6_kept : GoodIn wsX6_lock (wsV RX6 45 RX6 yX6_kept wsX6_kept) := goodIn_app (goodIn_of _ (by decide +kernel)) ggX6_lock_X6_kept
theorem dX6_lock_0 : decode cX6_lock 0 = .ok (.aload_n 0, 1) := by decide +kernel
theorem dX6_lock_1 : decode cX6_lock 1 = .ok (.getfield 22, 3) := by decide +kernel
theorem dX6_lock_4 : decode cX6_lock 4 = .ok (.aload_n 0, 1) := by decide +kernel
theorem dX6_lock_5 : decode cX6_lock 5 = .ok (.getfield 10, 3) := by decide +kernel
theorem dX6_lock_8 : decode cX6_lock 8 = .ok (.invokevirtual 37, 3) := by decide +kernel
theorem dX6_lock_11 : decode cX6_lock 11 = .ok (.aload_n 0, 1) := by decide +kernel
theorem dX6_lock_12 : decode cX6_lock 12 = .ok (.aload_n 0, 1) := by decide +kernel
theorem dX6_lock_13 : decode cX6_lock 13 = .ok (.getfield 10, 3) := by decide +kernel
theorem dX6_lock_16 : decode cX6_lock 16 = .ok (.iload_n 1, 1) := by decide +kernel
theorem dX6_lock_17 : decode cX6_lock 17 = .ok (.iload_n 2, 1) := by decide +kernel
theorem dX6_lock_18 : decode cX6_lock 18 = .ok (.invokevirtual 41, 3) := by decide +kernel
theorem dX6_lock_21 : decode cX6_lock 21 = .ok (.invokevirtual 45, 3) := by decide +kernel
theorem dX6_lock_24 : decode cX6_lock 24 = .ok (.ireturn, 1) := by decide +kernel
set_option maxRecDepth 20000 in
theorem ggX6_read_X6_carryOut : GoodIn wsX6_read wsX6_carryOut := goodIn_rB _ [5, 6, 7, 8, 9, 10, 11, 12, 13, 14, 15, 16, 17, 18, 19, 20, 21, 22, 23, 24, 25, 26, 27, 28, 29, 30, 31, 32, 33, 34, 35, 36, 37, 38, 39, 40, 41, 42, 43, 44, 45, 46, 47, 48, 49, 50, 51, 52, 53, 54, 55, 56, 57, 58, 59, 60, 61, 62, 63, 64, 65, 66, 67, 68, 69, 70, 71, 72, 73, 74, 75, 76, 77, 78, 79, 80, 81, 82, 83, 84, 85, 86, 87, 88, 4, 89, 90, 91, 92, 93, 94, 95, 96, 97, 98, 99, 100, 101, 102, 103, 104, 105, 106, 107, 108, 109, 110, 111, 112, 113, 114, 115, 116, 117, 118, 119, 120, 121, 122, 123, 124, 125, 126, 127, 128, 129, 130, 131, 132, 133, 134, 135, 136, 137, 138, 139, 140, 141, 142, 143, 144, 145, 146, 147, 148, 149, 150, 151, 152, 153, 154, 155, 156, 157, 158, 159, 160, 161, 162, 163, 164, 165, 166, 167, 168, 169, 170, 171, 172, 173, 174, 175, 176, 177, 178, 179, 180, 181, 182, 183, 184, 185, 186, 187, 188, 189, 190, 191, 192, 193, 194, 195, 196, 197, 198, 199, 200, 201, 202, 203, 204, 205, 206, 207, 208, 209, 210, 211, 212, 213, 214, 215, 216, 217, 218] (by decide +kernel) (by decide +kernel)
set_option maxRecDepth 20000 in
theorem gX6_read_X6_carryOut : GoodIn wsX6_read (wsV RX6 33 RX6 yX6_carryOut wsX6_carryOut) := goodIn_app (goodIn_of _ (by decide +kernel)) ggX6_read_X6_carryOut
theorem dX6_read_0 : decode cX6_read 0 = .ok (.aload_n 0, 1) := by decide +kernel
theorem dX6_read_1 : decode cX6_read 1 = .ok (.bipush 114, 2) := by decide +kernel
theorem dX6_read_3 : decode cX6_read 3 = .ok (.iload_n 1, 1) := by decide +kernel
theorem dX6_read_4 : decode cX6_read 4 = .ok (.iconst 0, 1) := by decide +kernel
theorem dX6_read_5 : decode cX6_read 5 = .ok (.invokevirtual 33, 3) := by decide +kernel
theorem dX6_read_8 : decode cX6_read 8 = .ok (.ireturn, 1) := by decide +kernel
set_option maxRecDepth 20000 in
theorem ggX6_change_X6_carryOut : GoodIn wsX6_change wsX6_carryOut := goodIn_rB _ [5, 6, 7, 8, 9, 10, 11, 12, 13, 14, 15, 16, 17, 18, 19, 20, 21, 22, 23, 24, 25, 26, 27, 28, 29, 30, 31, 32, 33, 34, 35, 36, 37, 38, 39, 40, 41, 42, 43, 44, 45, 46, 47, 48, 49, 50, 51, 52, 53, 54, 55, 56, 57, 58, 59, 60, 61, 62, 63, 64, 65, 66, 67, 68, 69, 70, 71, 72, 73, 74, 75, 76, 77, 78, 79, 80, 81, 82, 83, 84, 85, 86, 87, 88, 4, 89, 90, 91, 92, 93, 94, 95, 96, 97, 98, 99, 100, 101, 102, 103, 104, 105, 106, 107, 108, 109, 110, 111, 112, 113, 114, 115, 116, 117, 118, 119, 120, 121, 122, 123, 124, 125, 126, 127, 128, 129, 130, 131, 132, 133, 134, 135, 136, 137, 138, 139, 140, 141, 142, 143, 144, 145, 146, 147, 148, 149, 150, 151, 152, 153, 154, 155, 156, 157, 158, 159, 160, 161, 162, 163, 164, 165, 166, 167, 168, 169, 170, 171, 172, 173, 174, 175, 176, 177, 178, 179, 180, 181, 182, 183, 184, 185, 186, 187, 188, 189, 190, 191, 192, 193, 194, 195, 196, 197, 198, 199, 200, 201, 202, 203, 204, 205, 206, 207, 208, 209, 210, 211, 212, 213, 214, 215, 216, 217, 218] (by decide +kernel) (by decide +kernel)
set_option maxRecDepth 20000 in
theorem gX6_change_X6_carryOut : GoodIn wsX6_change (wsV RX6 33 RX6 yX6_carryOut wsX6_carryOut) := goodIn_app (goodIn_of _ (by decide +kernel)) ggX6_change_X6_carryOut
theorem dX6_change_0 : decode cX6_change 0 = .ok (.aload_n 0, 1) := by decide +kernel
theorem dX6_change_1 : decode cX6_change 1 = .ok (.bipush 99, 2) := by decide +kernel
theorem dX6_change_3 : decode cX6_change 3 = .ok (.iload_n 1, 1) := by decide +kernel
theorem dX6_change_4 : decode cX6_change 4 = .ok (.iconst 0, 1) := by decide +kernel
theorem dX6_change_5 : decode cX6_change 5 = .ok (.invokevirtual 33, 3) := by decide +kernel
theorem dX6_change_8 : decode cX6_change 8 = .ok (.ireturn, 1) := by decide +kernel
set_option maxRecDepth 20000 in
theorem ggX6_days_X6_carryOut : GoodIn wsX6_days wsX6_carryOut := goodIn_rB _ [5, 6, 7, 8, 9, 10, 11, 12, 13, 14, 15, 16, 17, 18, 19, 20, 21, 22, 23, 24, 25, 26, 27, 28, 29, 30, 31, 32, 33, 34, 35, 36, 37, 38, 39, 40, 41, 42, 43, 44, 45, 46, 47, 48, 49, 50, 51, 52, 53, 54, 55, 56, 57, 58, 59, 60, 61, 62, 63, 64, 65, 66, 67, 68, 69, 70, 71, 72, 73, 74, 75, 76, 77, 78, 79, 80, 81, 82, 83, 84, 85, 86, 87, 88, 4, 89, 90, 91, 92, 93, 94, 95, 96, 97, 98, 99, 100, 101, 102, 103, 104, 105, 106, 107, 108, 109, 110, 111, 112, 113, 114, 115, 116, 117, 118, 119, 120, 121, 122, 123, 124, 125, 126, 127, 128, 129, 130, 131, 132, 133, 134, 135, 136, 137, 138, 139, 140, 141, 142, 143, 144, 145, 146, 147, 148, 149, 150, 151, 152, 153, 154, 155, 156, 157, 158, 159, 160, 161, 162, 163, 164, 165, 166, 167, 168, 169, 170, 171, 172, 173, 174, 175, 176, 177, 178, 179, 180, 181, 182, 183, 184, 185, 186, 187, 188, 189, 190, 191, 192, 193, 194, 195, 196, 197, 198, 199, 200, 201, 202, 203, 204, 205, 206, 207, 208, 209, 210, 211, 212, 213, 214, 215, 216, 217, 218] (by decide +kernel) (by decide +kernel)
set_option maxRecDepth 20000 in
theorem gX6_days_X6_carryOut : GoodIn wsX6_days (wsV RX6 33 RX6 yX6_carryOut wsX6_carryOut) := goodIn_app (goodIn_of _ (by decide +kernel)) ggX6_days_X6_carryOut
theorem dX6_days_0 : decode cX6_days 0 = .ok (.aload_n 0, 1) := by decide +kernel
theorem dX6_days_1 : decode cX6_days 1 = .ok (.bipush 100, 2) := by decide +kernel
theorem dX6_days_3 : decode cX6_days 3 = .ok (.iload_n 1, 1) := by decide +kernel
theorem dX6_days_4 : decode cX6_days 4 = .ok (.iconst 0, 1) := by decide +kernel
theorem dX6_days_5 : decode cX6_days 5 = .ok (.invokevirtual 33, 3) := by decide +kernel
theorem dX6_days_8 : decode cX6_days 8 = .ok (.ireturn, 1) := by decide +kernel
set_option maxRecDepth 20000 in
theorem ggX6_set_X0_record : GoodIn wsX6_set wsX0_record := goodIn_rB _ [7, 8, 9, 10, 11, 12, 13, 14, 15, 16, 17, 18, 19, 20, 21, 22, 23, 24, 25, 26, 27, 28, 29, 30, 31, 32, 33, 34, 35, 36, 37, 38, 39, 40, 41, 42, 43, 44, 45, 46, 47, 48, 49, 50, 51, 52, 53, 54, 55, 56, 57, 58, 59, 60, 61, 62, 63, 64, 65, 66, 67, 87, 88, 89, 90, 91, 92, 93, 94, 95, 96, 97, 98, 99, 100, 101, 102, 103, 104, 105, 106, 107, 108, 109, 110, 111, 112, 113, 114, 115, 116, 117, 118, 119, 120, 121] (by decide +kernel) (by decide +kernel)
set_option maxRecDepth 20000 in
theorem gX6_set_X0_record : GoodIn wsX6_set (wsV RX6 37 RX0 yX0_record wsX0_record) := goodIn_app (goodIn_of _ (by decide +kernel)) ggX6_set_X0_record
set_option maxRecDepth 20000 in
theorem ggX6_set_X5_putSetting : GoodIn wsX6_set wsX5_putSetting := goodIn_rB _ [71, 72, 18, 90, 91, 92, 93, 94, 95, 96, 97, 98, 99, 100, 101, 102] (by decide +kernel) (by decide +kernel)
set_option maxRecDepth 20000 in
theorem gX6_set_X5_putSetting : GoodIn wsX6_set (wsV RX6 49 RX5 yX5_putSetting wsX5_putSetting) := goodIn_app (goodIn_of _ (by decide +kernel)) ggX6_set_X5_putSetting
set_option maxRecDepth 20000 in
theorem ggX6_set_X6_kept : GoodIn wsX6_set wsX6_kept := goodIn_rB _ [77, 1, 78, 79, 80, 6, 81, 8, 82, 83, 84, 85, 86, 87, 88, 89] (by decide +kernel) (by decide +kernel)
set_option maxRecDepth 20000 in
theorem gX6_set_X6_kept : GoodIn wsX6_set (wsV RX6 45 RX6 yX6_kept wsX6_kept) := goodIn_app (goodIn_of _ (by decide +kernel)) ggX6_set_X6_kept
theorem dX6_set_0 : decode cX6_set 0 = .ok (.aload_n 0, 1) := by decide +kernel
theorem dX6_set_1 : decode cX6_set 1 = .ok (.getfield 22, 3) := by decide +kernel
theorem dX6_set_4 : decode cX6_set 4 = .ok (.aload_n 0, 1) := by decide +kernel
theorem dX6_set_5 : decode cX6_set 5 = .ok (.getfield 10, 3) := by decide +kernel
theorem dX6_set_8 : decode cX6_set 8 = .ok (.invokevirtual 37, 3) := by decide +kernel
theorem dX6_set_11 : decode cX6_set 11 = .ok (.aload_n 0, 1) := by decide +kernel
theorem dX6_set_12 : decode cX6_set 12 = .ok (.aload_n 0, 1) := by decide +kernel
theorem dX6_set_13 : decode cX6_set 13 = .ok (.getfield 10, 3) := by decide +kernel
theorem dX6_set_16 : decode cX6_set 16 = .ok (.iload_n 1, 1) := by decide +kernel
theorem dX6_set_17 : decode cX6_set 17 = .ok (.iload_n 2, 1) := by decide +kernel
theorem dX6_set_18 : decode cX6_set 18 = .ok (.invokevirtual 49, 3) := by decide +kernel
theorem dX6_set_21 : decode cX6_set 21 = .ok (.invokevirtual 45, 3) := by decide +kernel
theorem dX6_set_24 : decode cX6_set 24 = .ok (.ireturn, 1) := by decide +kernel
set_option maxRecDepth 20000 in
theorem ggX6_houseOf_X5_houseNumbered : GoodIn wsX6_houseOf wsX5_houseNumbered := goodIn_rB _ [7, 8, 9, 40, 41, 42, 43, 44, 45, 46, 47, 48, 49, 50, 51, 52] (by decide +kernel) (by decide +kernel)
set_option maxRecDepth 20000 in
theorem gX6_houseOf_X5_houseNumbered : GoodIn wsX6_houseOf (wsV RX6 53 RX5 yX5_houseNumbered wsX5_houseNumbered) := goodIn_app (goodIn_of _ (by decide +kernel)) ggX6_houseOf_X5_houseNumbered
set_option maxRecDepth 20000 in
theorem ggX6_houseOf_X1_fact : GoodIn wsX6_houseOf wsX1_fact := goodIn_rB _ [14, 15, 16, 17, 18, 19, 20, 21, 22, 23, 24, 25, 26, 27, 28, 29, 30, 31, 32, 13, 33, 34, 35, 53, 54, 55, 56, 57, 58, 59, 60, 61, 62, 63, 64, 65, 66] (by decide +kernel) (by decide +kernel)
set_option maxRecDepth 20000 in
theorem gX6_houseOf_X1_fact : GoodIn wsX6_houseOf (wsV RX6 58 RX1 yX1_fact wsX1_fact) := goodIn_app (goodIn_of _ (by decide +kernel)) ggX6_houseOf_X1_fact
theorem dX6_houseOf_0 : decode cX6_houseOf 0 = .ok (.aload_n 0, 1) := by decide +kernel
theorem dX6_houseOf_1 : decode cX6_houseOf 1 = .ok (.getfield 10, 3) := by decide +kernel
theorem dX6_houseOf_4 : decode cX6_houseOf 4 = .ok (.iload_n 1, 1) := by decide +kernel
theorem dX6_houseOf_5 : decode cX6_houseOf 5 = .ok (.invokevirtual 53, 3) := by decide +kernel
theorem dX6_houseOf_8 : decode cX6_houseOf 8 = .ok (.astore_n 3, 1) := by decide +kernel
theorem dX6_houseOf_9 : decode cX6_houseOf 9 = .ok (.aload_n 3, 1) := by decide +kernel
theorem dX6_houseOf_10 : decode cX6_houseOf 10 = .ok (.ifnonnull 8, 3) := by decide +kernel
theorem dX6_houseOf_13 : decode cX6_houseOf 13 = .ok (.ldc 57, 2) := by decide +kernel
theorem dX6_houseOf_15 : decode cX6_houseOf 15 = .ok (.goto 8, 3) := by decide +kernel
theorem dX6_houseOf_18 : decode cX6_houseOf 18 = .ok (.aload_n 3, 1) := by decide +kernel
theorem dX6_houseOf_19 : decode cX6_houseOf 19 = .ok (.iload_n 2, 1) := by decide +kernel
theorem dX6_houseOf_20 : decode cX6_houseOf 20 = .ok (.invokevirtual 58, 3) := by decide +kernel
theorem dX6_houseOf_23 : decode cX6_houseOf 23 = .ok (.ireturn, 1) := by decide +kernel
set_option maxRecDepth 20000 in
theorem ggX6_at_X5_streetNumbered : GoodIn wsX6_at wsX5_streetNumbered := goodIn_rB _ [8, 9, 27, 28, 29, 30, 31, 32, 33, 34, 35, 36, 37, 38, 39] (by decide +kernel) (by decide +kernel)
set_option maxRecDepth 20000 in
theorem gX6_at_X5_streetNumbered : GoodIn wsX6_at (wsV RX6 63 RX5 yX5_streetNumbered wsX5_streetNumbered) := goodIn_app (goodIn_of _ (by decide +kernel)) ggX6_at_X5_streetNumbered
set_option maxRecDepth 20000 in
theorem ggX6_at_X6_isPlace : GoodIn wsX6_at wsX6_isPlace := goodIn_rB _ [13] (by decide +kernel) (by decide +kernel)
set_option maxRecDepth 20000 in
theorem gX6_at_X6_isPlace : GoodIn wsX6_at (va_wsS RX6 67 yX6_isPlace wsX6_isPlace) := goodIn_app (goodIn_of _ (by decide +kernel)) ggX6_at_X6_isPlace
set_option maxRecDepth 20000 in
theorem ggX6_at_X6_stepOf : GoodIn wsX6_at wsX6_stepOf := goodIn_rB _ [16] (by decide +kernel) (by decide +kernel)
set_option maxRecDepth 20000 in
theorem gX6_at_X6_stepOf : GoodIn wsX6_at (va_wsS RX6 71 yX6_stepOf wsX6_stepOf) := goodIn_app (goodIn_of _ (by decide +kernel)) ggX6_at_X6_stepOf
set_option maxRecDepth 20000 in
theorem ggX6_at_X4_houseOn : GoodIn wsX6_at wsX4_houseOn := goodIn_rB _ [21, 22, 40, 41] (by decide +kernel) (by decide +kernel)
set_option maxRecDepth 20000 in
theorem gX6_at_X4_houseOn : GoodIn wsX6_at (wsV RX6 74 RX4 yX4_houseOn wsX4_houseOn) := goodIn_app (goodIn_of _ (by decide +kernel)) ggX6_at_X4_houseOn
theorem dX6_at_0 : decode cX6_at 0 = .ok (.aload_n 0, 1) := by decide +kernel
theorem dX6_at_1 : decode cX6_at 1 = .ok (.getfield 10, 3) := by decide +kernel
theorem dX6_at_4 : decode cX6_at 4 = .ok (.iload_n 1, 1) := by decide +kernel
theorem dX6_at_5 : decode cX6_at 5 = .ok (.invokevirtual 63, 3) := by decide +kernel
theorem dX6_at_8 : decode cX6_at 8 = .ok (.astore_n 3, 1) := by decide +kernel
theorem dX6_at_9 : decode cX6_at 9 = .ok (.aload_n 3, 1) := by decide +kernel
theorem dX6_at_10 : decode cX6_at 10 = .ok (.ifnull 10, 3) := by decide +kernel
theorem dX6_at_13 : decode cX6_at 13 = .ok (.iload_n 2, 1) := by decide +kernel
theorem dX6_at_14 : decode cX6_at 14 = .ok (.invokestatic 67, 3) := by decide +kernel
theorem dX6_at_17 : decode cX6_at 17 = .ok (.ifCond .ne 6, 3) := by decide +kernel
theorem dX6_at_20 : decode cX6_at 20 = .ok (.ldc 57, 2) := by decide +kernel
theorem dX6_at_22 : decode cX6_at 22 = .ok (.ireturn, 1) := by decide +kernel
theorem dX6_at_23 : decode cX6_at 23 = .ok (.aload_n 3, 1) := by decide +kernel
theorem dX6_at_24 : decode cX6_at 24 = .ok (.iload_n 2, 1) := by decide +kernel
theorem dX6_at_25 : decode cX6_at 25 = .ok (.invokestatic 71, 3) := by decide +kernel
theorem dX6_at_28 : decode cX6_at 28 = .ok (.invokevirtual 74, 3) := by decide +kernel
theorem dX6_at_31 : decode cX6_at 31 = .ok (.istore 4, 2) := by decide +kernel
theorem dX6_at_33 : decode cX6_at 33 = .ok (.iload 4, 2) := by decide +kernel
theorem dX6_at_35 : decode cX6_at 35 = .ok (.iconst (-1), 1) := by decide +kernel
theorem dX6_at_36 : decode cX6_at 36 = .ok (.if_icmp .ne 8, 3) := by decide +kernel
theorem dX6_at_39 : decode cX6_at 39 = .ok (.ldc 79, 2) := by decide +kernel
theorem dX6_at_41 : decode cX6_at 41 = .ok (.goto 5, 3) := by decide +kernel
theorem dX6_at_44 : decode cX6_at 44 = .ok (.iload 4, 2) := by decide +kernel
theorem dX6_at_46 : decode cX6_at 46 = .ok (.ireturn, 1) := by decide +kernel
set_option maxRecDepth 20000 in
theorem ggX6_next_X5_streetNumbered : GoodIn wsX6_next wsX5_streetNumbered := goodIn_rB _ [7, 8, 29, 30, 31, 32, 33, 34, 35, 36, 37, 38, 39, 40, 41] (by decide +kernel) (by decide +kernel)
set_option maxRecDepth 20000 in
theorem gX6_next_X5_streetNumbered : GoodIn wsX6_next (wsV RX6 63 RX5 yX5_streetNumbered wsX5_streetNumbered) := goodIn_app (goodIn_of _ (by decide +kernel)) ggX6_next_X5_streetNumbered
set_option maxRecDepth 20000 in
theorem ggX6_next_X4_houseRanked : GoodIn wsX6_next wsX4_houseRanked := goodIn_rB _ [13, 14, 15, 16, 17, 12, 18, 19, 20, 21, 22, 23, 24, 42, 43] (by decide +kernel) (by decide +kernel)
set_option maxRecDepth 20000 in
theorem gX6_next_X4_houseRanked : GoodIn wsX6_next (wsV RX6 80 RX4 yX4_houseRanked wsX4_houseRanked) := goodIn_app (goodIn_of _ (by decide +kernel)) ggX6_next_X4_houseRanked
theorem dX6_next_0 : decode cX6_next 0 = .ok (.aload_n 0, 1) := by decide +kernel
theorem dX6_next_1 : decode cX6_next 1 = .ok (.getfield 10, 3) := by decide +kernel
theorem dX6_next_4 : decode cX6_next 4 = .ok (.iload_n 1, 1) := by decide +kernel
theorem dX6_next_5 : decode cX6_next 5 = .ok (.invokevirtual 63, 3) := by decide +kernel
theorem dX6_next_8 : decode cX6_next 8 = .ok (.astore_n 3, 1) := by decide +kernel
theorem dX6_next_9 : decode cX6_next 9 = .ok (.aload_n 3, 1) := by decide +kernel
theorem dX6_next_10 : decode cX6_next 10 = .ok (.ifnull 7, 3) := by decide +kernel
theorem dX6_next_13 : decode cX6_next 13 = .ok (.iload_n 2, 1) := by decide +kernel
theorem dX6_next_14 : decode cX6_next 14 = .ok (.ifCond .ge 6, 3) := by decide +kernel
theorem dX6_next_17 : decode cX6_next 17 = .ok (.ldc 57, 2) := by decide +kernel
theorem dX6_next_19 : decode cX6_next 19 = .ok (.ireturn, 1) := by decide +kernel
theorem dX6_next_20 : decode cX6_next 20 = .ok (.aload_n 3, 1) := by decide +kernel
theorem dX6_next_21 : decode cX6_next 21 = .ok (.iload_n 2, 1) := by decide +kernel
theorem dX6_next_22 : decode cX6_next 22 = .ok (.invokevirtual 80, 3) := by decide +kernel
theorem dX6_next_25 : decode cX6_next 25 = .ok (.ireturn, 1) := by decide +kernel
set_option maxRecDepth 20000 in
theorem ggX6_ledger_X2_entry : GoodIn wsX6_ledger wsX2_entry := goodIn_rB _ [6, 7, 8, 9, 10, 11, 29, 30, 31] (by decide +kernel) (by decide +kernel)
set_option maxRecDepth 20000 in
theorem gX6_ledger_X2_entry : GoodIn wsX6_ledger (wsV RX6 87 RX2 yX2_entry wsX2_entry) := goodIn_app (goodIn_of _ (by decide +kernel)) ggX6_ledger_X2_entry
theorem dX6_ledger_0 : decode cX6_ledger 0 = .ok (.aload_n 0, 1) := by decide +kernel
theorem dX6_ledger_1 : decode cX6_ledger 1 = .ok (.getfield 10, 3) := by decide +kernel
theorem dX6_ledger_4 : decode cX6_ledger 4 = .ok (.getfield 83, 3) := by decide +kernel
theorem dX6_ledger_7 : decode cX6_ledger 7 = .ok (.iload_n 1, 1) := by decide +kernel
theorem dX6_ledger_8 : decode cX6_ledger 8 = .ok (.iload_n 2, 1) := by decide +kernel
theorem dX6_ledger_9 : decode cX6_ledger 9 = .ok (.invokevirtual 87, 3) := by decide +kernel
theorem dX6_ledger_12 : decode cX6_ledger 12 = .ok (.ireturn, 1) := by decide +kernel
set_option maxRecDepth 20000 in
theorem ggX6_why_X5_houseNumbered : GoodIn wsX6_why wsX5_houseNumbered := goodIn_rB _ [7, 8, 9, 21, 22, 23, 24, 25, 26, 27, 28, 29, 30, 31, 32, 33] (by decide +kernel) (by decide +kernel)
set_option maxRecDepth 20000 in
theorem gX6_why_X5_houseNumbered : GoodIn wsX6_why (wsV RX6 53 RX5 yX5_houseNumbered wsX5_houseNumbered) := goodIn_app (goodIn_of _ (by decide +kernel)) ggX6_why_X5_houseNumbered
set_option maxRecDepth 20000 in
theorem ggX6_why_X1_reasonOn : GoodIn wsX6_why wsX1_reasonOn := goodIn_rB _ [14, 15, 16, 34, 35, 36, 37, 38, 39, 40, 41, 42, 43, 44, 45, 46, 47] (by decide +kernel) (by decide +kernel)
set_option maxRecDepth 20000 in
theorem gX6_why_X1_reasonOn : GoodIn wsX6_why (wsV RX6 96 RX1 yX1_reasonOn wsX1_reasonOn) := goodIn_app (goodIn_of _ (by decide +kernel)) ggX6_why_X1_reasonOn
theorem dX6_why_0 : decode cX6_why 0 = .ok (.aload_n 0, 1) := by decide +kernel
theorem dX6_why_1 : decode cX6_why 1 = .ok (.getfield 10, 3) := by decide +kernel
theorem dX6_why_4 : decode cX6_why 4 = .ok (.iload_n 1, 1) := by decide +kernel
theorem dX6_why_5 : decode cX6_why 5 = .ok (.invokevirtual 53, 3) := by decide +kernel
theorem dX6_why_8 : decode cX6_why 8 = .ok (.astore_n 2, 1) := by decide +kernel
theorem dX6_why_9 : decode cX6_why 9 = .ok (.aload_n 2, 1) := by decide +kernel
theorem dX6_why_10 : decode cX6_why 10 = .ok (.ifnonnull 8, 3) := by decide +kernel
theorem dX6_why_13 : decode cX6_why 13 = .ok (.ldc 57, 2) := by decide +kernel
theorem dX6_why_15 : decode cX6_why 15 = .ok (.goto 14, 3) := by decide +kernel
theorem dX6_why_18 : decode cX6_why 18 = .ok (.aload_n 2, 1) := by decide +kernel
theorem dX6_why_19 : decode cX6_why 19 = .ok (.aload_n 0, 1) := by decide +kernel
theorem dX6_why_20 : decode cX6_why 20 = .ok (.getfield 10, 3) := by decide +kernel
theorem dX6_why_23 : decode cX6_why 23 = .ok (.getfield 92, 3) := by decide +kernel
theorem dX6_why_26 : decode cX6_why 26 = .ok (.invokevirtual 96, 3) := by decide +kernel
theorem dX6_why_29 : decode cX6_why 29 = .ok (.ireturn, 1) := by decide +kernel
set_option maxRecDepth 20000 in
theorem ggX6_ifRead_X5_houseNumbered : GoodIn wsX6_ifRead wsX5_houseNumbered := goodIn_rB _ [7, 8, 9, 40, 41, 42, 43, 44, 45, 46, 47, 48, 49, 50, 51, 52] (by decide +kernel) (by decide +kernel)
set_option maxRecDepth 20000 in
theorem gX6_ifRead_X5_houseNumbered : GoodIn wsX6_ifRead (wsV RX6 53 RX5 yX5_houseNumbered wsX5_houseNumbered) := goodIn_app (goodIn_of _ (by decide +kernel)) ggX6_ifRead_X5_houseNumbered
set_option maxRecDepth 20000 in
theorem ggX6_ifRead_X1_used : GoodIn wsX6_ifRead wsX1_used := goodIn_rB _ [14, 15, 16, 17, 26, 27, 28, 29, 30, 31, 32, 33, 34, 35, 36, 37, 38, 39] (by decide +kernel) (by decide +kernel)
set_option maxRecDepth 20000 in
theorem gX6_ifRead_X1_used : GoodIn wsX6_ifRead (wsV RX6 99 RX1 yX1_used wsX1_used) := goodIn_app (goodIn_of _ (by decide +kernel)) ggX6_ifRead_X1_used
set_option maxRecDepth 20000 in
theorem ggX6_ifRead_X6_unitsFor : GoodIn wsX6_ifRead wsX6_unitsFor := goodIn_rB _ [21] (by decide +kernel) (by decide +kernel)
set_option maxRecDepth 20000 in
theorem gX6_ifRead_X6_unitsFor : GoodIn wsX6_ifRead (va_wsS RX6 106 yX6_unitsFor wsX6_unitsFor) := goodIn_app (goodIn_of _ (by decide +kernel)) ggX6_ifRead_X6_unitsFor
theorem dX6_ifRead_0 : decode cX6_ifRead 0 = .ok (.aload_n 0, 1) := by decide +kernel
theorem dX6_ifRead_1 : decode cX6_ifRead 1 = .ok (.getfield 10, 3) := by decide +kernel
theorem dX6_ifRead_4 : decode cX6_ifRead 4 = .ok (.iload_n 1, 1) := by decide +kernel
theorem dX6_ifRead_5 : decode cX6_ifRead 5 = .ok (.invokevirtual 53, 3) := by decide +kernel
theorem dX6_ifRead_8 : decode cX6_ifRead 8 = .ok (.astore_n 3, 1) := by decide +kernel
theorem dX6_ifRead_9 : decode cX6_ifRead 9 = .ok (.aload_n 3, 1) := by decide +kernel
theorem dX6_ifRead_10 : decode cX6_ifRead 10 = .ok (.ifnonnull 6, 3) := by decide +kernel
theorem dX6_ifRead_13 : decode cX6_ifRead 13 = .ok (.ldc 57, 2) := by decide +kernel
theorem dX6_ifRead_15 : decode cX6_ifRead 15 = .ok (.ireturn, 1) := by decide +kernel
theorem dX6_ifRead_16 : decode cX6_ifRead 16 = .ok (.aload_n 3, 1) := by decide +kernel
theorem dX6_ifRead_17 : decode cX6_ifRead 17 = .ok (.invokevirtual 99, 3) := by decide +kernel
theorem dX6_ifRead_20 : decode cX6_ifRead 20 = .ok (.istore 4, 2) := by decide +kernel
theorem dX6_ifRead_22 : decode cX6_ifRead 22 = .ok (.iload 4, 2) := by decide +kernel
theorem dX6_ifRead_24 : decode cX6_ifRead 24 = .ok (.aload_n 3, 1) := by decide +kernel
theorem dX6_ifRead_25 : decode cX6_ifRead 25 = .ok (.getfield 103, 3) := by decide +kernel
theorem dX6_ifRead_28 : decode cX6_ifRead 28 = .ok (.invokestatic 106, 3) := by decide +kernel
theorem dX6_ifRead_31 : decode cX6_ifRead 31 = .ok (.istore 5, 2) := by decide +kernel
theorem dX6_ifRead_33 : decode cX6_ifRead 33 = .ok (.aload_n 3, 1) := by decide +kernel
theorem dX6_ifRead_34 : decode cX6_ifRead 34 = .ok (.getfield 103, 3) := by decide +kernel
theorem dX6_ifRead_37 : decode cX6_ifRead 37 = .ok (.bipush 100, 2) := by decide +kernel
theorem dX6_ifRead_39 : decode cX6_ifRead 39 = .ok (.iload 5, 2) := by decide +kernel
theorem dX6_ifRead_41 : decode cX6_ifRead 41 = .ok (.imul, 1) := by decide +kernel
theorem dX6_ifRead_42 : decode cX6_ifRead 42 = .ok (.iadd, 1) := by decide +kernel
theorem dX6_ifRead_43 : decode cX6_ifRead 43 = .ok (.iload 4, 2) := by decide +kernel
theorem dX6_ifRead_45 : decode cX6_ifRead 45 = .ok (.isub, 1) := by decide +kernel
theorem dX6_ifRead_46 : decode cX6_ifRead 46 = .ok (.istore 6, 2) := by decide +kernel
theorem dX6_ifRead_48 : decode cX6_ifRead 48 = .ok (.iload_n 2, 1) := by decide +kernel
theorem dX6_ifRead_49 : decode cX6_ifRead 49 = .ok (.tableswitch 74 0 3 #[31, 34, 41, 61], 31) := by decide +kernel
theorem dX6_ifRead_80 : decode cX6_ifRead 80 = .ok (.iload 5, 2) := by decide +kernel
theorem dX6_ifRead_82 : decode cX6_ifRead 82 = .ok (.ireturn, 1) := by decide +kernel
theorem dX6_ifRead_83 : decode cX6_ifRead 83 = .ok (.sipush 1000, 3) := by decide +kernel
theorem dX6_ifRead_86 : decode cX6_ifRead 86 = .ok (.iload 6, 2) := by decide +kernel
theorem dX6_ifRead_88 : decode cX6_ifRead 88 = .ok (.iadd, 1) := by decide +kernel
theorem dX6_ifRead_89 : decode cX6_ifRead 89 = .ok (.ireturn, 1) := by decide +kernel
theorem dX6_ifRead_90 : decode cX6_ifRead 90 = .ok (.iload 6, 2) := by decide +kernel
theorem dX6_ifRead_92 : decode cX6_ifRead 92 = .ok (.ifCond .le 7, 3) := by decide +kernel
theorem dX6_ifRead_95 : decode cX6_ifRead 95 = .ok (.iconst 1, 1) := by decide +kernel
theorem dX6_ifRead_96 : decode cX6_ifRead 96 = .ok (.goto 13, 3) := by decide +kernel
theorem dX6_ifRead_99 : decode cX6_ifRead 99 = .ok (.iload 6, 2) := by decide +kernel
theorem dX6_ifRead_101 : decode cX6_ifRead 101 = .ok (.ifCond .ge 7, 3) := by decide +kernel
theorem dX6_ifRead_104 : decode cX6_ifRead 104 = .ok (.iconst 2, 1) := by decide +kernel
theorem dX6_ifRead_105 : decode cX6_ifRead 105 = .ok (.goto 4, 3) := by decide +kernel
theorem dX6_ifRead_108 : decode cX6_ifRead 108 = .ok (.iconst 0, 1) := by decide +kernel
theorem dX6_ifRead_109 : decode cX6_ifRead 109 = .ok (.ireturn, 1) := by decide +kernel
theorem dX6_ifRead_110 : decode cX6_ifRead 110 = .ok (.iload 5, 2) := by decide +kernel
theorem dX6_ifRead_112 : decode cX6_ifRead 112 = .ok (.aload_n 0, 1) := by decide +kernel
theorem dX6_ifRead_113 : decode cX6_ifRead 113 = .ok (.getfield 10, 3) := by decide +kernel
theorem dX6_ifRead_116 : decode cX6_ifRead 116 = .ok (.getfield 109, 3) := by decide +kernel
theorem dX6_ifRead_119 : decode cX6_ifRead 119 = .ok (.iconst 1, 1) := by decide +kernel
theorem dX6_ifRead_120 : decode cX6_ifRead 120 = .ok (.iaload, 1) := by decide +kernel
theorem dX6_ifRead_121 : decode cX6_ifRead 121 = .ok (.imul, 1) := by decide +kernel
theorem dX6_ifRead_122 : decode cX6_ifRead 122 = .ok (.ireturn, 1) := by decide +kernel
theorem dX6_ifRead_123 : decode cX6_ifRead 123 = .ok (.ldc 57, 2) := by decide +kernel
theorem dX6_ifRead_125 : decode cX6_ifRead 125 = .ok (.ireturn, 1) := by decide +kernel
set_option maxRecDepth 20000 in
theorem ggX6_wronged_X5_houseByBalance : GoodIn wsX6_wronged wsX5_houseByBalance := goodIn_rB _ [7, 8, 9, 10, 11, 12, 13, 6, 14, 19, 20, 21, 22, 23, 24, 25, 26, 27, 28, 29, 30, 31, 32, 33, 34, 35, 36, 37, 38, 39, 40, 41, 42, 43, 44, 45] (by decide +kernel) (by decide +kernel)
set_option maxRecDepth 20000 in
theorem gX6_wronged_X5_houseByBalance : GoodIn wsX6_wronged (wsV RX6 113 RX5 yX5_houseByBalance wsX5_houseByBalance) := goodIn_app (goodIn_of _ (by decide +kernel)) ggX6_wronged_X5_houseByBalance
theorem dX6_wronged_0 : decode cX6_wronged 0 = .ok (.iload_n 1, 1) := by decide +kernel
theorem dX6_wronged_1 : decode cX6_wronged 1 = .ok (.ifCond .ge 8, 3) := by decide +kernel
theorem dX6_wronged_4 : decode cX6_wronged 4 = .ok (.ldc 57, 2) := by decide +kernel
theorem dX6_wronged_6 : decode cX6_wronged 6 = .ok (.goto 11, 3) := by decide +kernel
theorem dX6_wronged_9 : decode cX6_wronged 9 = .ok (.aload_n 0, 1) := by decide +kernel
theorem dX6_wronged_10 : decode cX6_wronged 10 = .ok (.getfield 10, 3) := by decide +kernel
theorem dX6_wronged_13 : decode cX6_wronged 13 = .ok (.iload_n 1, 1) := by decide +kernel
theorem dX6_wronged_14 : decode cX6_wronged 14 = .ok (.invokevirtual 113, 3) := by decide +kernel
theorem dX6_wronged_17 : decode cX6_wronged 17 = .ok (.ireturn, 1) := by decide +kernel
set_option maxRecDepth 20000 in
theorem ggX6_count_X5_number : GoodIn wsX6_count wsX5_number := goodIn_rB _ [8, 9, 10, 11, 12, 13, 14, 15, 16, 17, 18, 19, 20, 21, 22, 23, 7, 24, 25, 26, 27, 28, 29, 30, 31, 32, 33, 51, 52, 53, 54, 55, 56, 57, 58, 59, 60, 61, 62, 63, 64, 65, 66, 67, 68, 69, 70, 71, 72, 73, 74, 75, 76, 77, 78, 79, 80] (by decide +kernel) (by decide +kernel)
set_option maxRecDepth 20000 in
theorem gX6_count_X5_number : GoodIn wsX6_count (wsV RX6 150 RX5 yX5_number wsX5_number) := goodIn_app (goodIn_of _ (by decide +kernel)) ggX6_count_X5_number
theorem dX6_count_0 : decode cX6_count 0 = .ok (.iload_n 1, 1) := by decide +kernel
theorem dX6_count_1 : decode cX6_count 1 = .ok (.lookupswitch 43 #[(15, 27), (16, 35)], 27) := by decide +kernel
theorem dX6_count_28 : decode cX6_count 28 = .ok (.aload_n 0, 1) := by decide +kernel
theorem dX6_count_29 : decode cX6_count 29 = .ok (.getfield 22, 3) := by decide +kernel
theorem dX6_count_32 : decode cX6_count 32 = .ok (.getfield 144, 3) := by decide +kernel
theorem dX6_count_35 : decode cX6_count 35 = .ok (.ireturn, 1) := by decide +kernel
theorem dX6_count_36 : decode cX6_count 36 = .ok (.aload_n 0, 1) := by decide +kernel
theorem dX6_count_37 : decode cX6_count 37 = .ok (.getfield 29, 3) := by decide +kernel
theorem dX6_count_40 : decode cX6_count 40 = .ok (.getfield 147, 3) := by decide +kernel
theorem dX6_count_43 : decode cX6_count 43 = .ok (.ireturn, 1) := by decide +kernel
theorem dX6_count_44 : decode cX6_count 44 = .ok (.aload_n 0, 1) := by decide +kernel
theorem dX6_count_45 : decode cX6_count 45 = .ok (.getfield 10, 3) := by decide +kernel
theorem dX6_count_48 : decode cX6_count 48 = .ok (.iload_n 1, 1) := by decide +kernel
theorem dX6_count_49 : decode cX6_count 49 = .ok (.invokevirtual 150, 3) := by decide +kernel
theorem dX6_count_52 : decode cX6_count 52 = .ok (.ireturn, 1) := by decide +kernel
set_option maxRecDepth 20000 in
theorem ggX6_carryOut_X0_record : GoodIn wsX6_carryOut wsX0_record := goodIn_rB _ [7, 8, 9, 10, 11, 12, 13, 14, 15, 16, 17, 18, 19, 20, 21, 22, 23, 24, 25, 26, 27, 28, 29, 30, 31, 32, 33, 34, 35, 36, 37, 38, 39, 40, 41, 42, 43, 44, 45, 46, 47, 48, 49, 50, 51, 52, 53, 54, 55, 56, 57, 58, 59, 60, 61, 62, 63, 64, 65, 66, 67, 180, 181, 182, 183, 184, 185, 186, 187, 188, 189, 190, 191, 192, 193, 194, 195, 196, 197, 198, 199, 200, 201, 202, 203, 204, 205, 206, 207, 208, 209, 210, 211, 212, 213, 214] (by decide +kernel) (by decide +kernel)
set_option maxRecDepth 20000 in
theorem gX6_carryOut_X0_record : GoodIn wsX6_carryOut (wsV RX6 37 RX0 yX0_record wsX0_record) := goodIn_app (goodIn_of _ (by decide +kernel)) ggX6_carryOut_X0_record
set_option maxRecDepth 20000 in
theorem ggX6_carryOut_X5_obey : GoodIn wsX6_carryOut wsX5_obey := goodIn_rB _ [71, 72, 24, 73, 74, 75, 76, 13, 77, 78, 23, 15, 79, 80, 81, 82, 16, 83, 84, 85, 86, 87, 88, 89, 90, 54, 91, 56, 92, 93, 94, 95, 96, 97, 98, 99, 100, 101, 102, 103, 104, 105, 106, 107, 108, 109, 110, 111, 112, 113, 114, 115, 116, 117, 118, 35, 119, 42, 44, 120, 121, 122, 123, 17, 25, 26, 27, 18, 28, 124, 125, 126, 127, 39, 40, 128, 129, 130, 131, 132, 133, 134, 43, 45, 46, 47, 48, 135, 136, 137, 62, 138, 66, 64, 67, 139, 140, 141, 142, 143, 144, 145, 146, 50, 147, 148, 149, 150, 151, 152, 153, 154, 41, 155, 156, 157, 158, 159, 160, 161, 162, 58, 163, 164, 165, 166, 31, 29, 30, 183, 184, 185, 186, 187, 188, 189, 190, 191, 192, 193, 194, 195, 196, 197, 198, 199, 200, 201, 202, 203, 204, 205, 206, 207, 208, 209, 210, 211, 212, 213, 214] (by decide +kernel) (by decide +kernel)
set_option maxRecDepth 20000 in
theorem gX6_carryOut_X5_obey : GoodIn wsX6_carryOut (wsV RX6 176 RX5 yX5_obey wsX5_obey) := goodIn_app (goodIn_of _ (by decide +kernel)) ggX6_carryOut_X5_obey
set_option maxRecDepth 20000 in
theorem ggX6_carryOut_X6_kept : GoodIn wsX6_carryOut wsX6_kept := goodIn_rB _ [170, 1, 171, 172, 173, 6, 174, 8, 175, 176, 177, 178, 179, 180, 181, 182] (by decide +kernel) (by decide +kernel)
set_option maxRecDepth 20000 in
theorem gX6_carryOut_X6_kept : GoodIn wsX6_carryOut (wsV RX6 45 RX6 yX6_kept wsX6_kept) := goodIn_app (goodIn_of _ (by decide +kernel)) ggX6_carryOut_X6_kept
theorem dX6_carryOut_0 : decode cX6_carryOut 0 = .ok (.aload_n 0, 1) := by decide +kernel
theorem dX6_carryOut_1 : decode cX6_carryOut 1 = .ok (.getfield 22, 3) := by decide +kernel
theorem dX6_carryOut_4 : decode cX6_carryOut 4 = .ok (.aload_n 0, 1) := by decide +kernel
theorem dX6_carryOut_5 : decode cX6_carryOut 5 = .ok (.getfield 10, 3) := by decide +kernel
theorem dX6_carryOut_8 : decode cX6_carryOut 8 = .ok (.invokevirtual 37, 3) := by decide +kernel
theorem dX6_carryOut_11 : decode cX6_carryOut 11 = .ok (.aload_n 0, 1) := by decide +kernel
theorem dX6_carryOut_12 : decode cX6_carryOut 12 = .ok (.aload_n 0, 1) := by decide +kernel
theorem dX6_carryOut_13 : decode cX6_carryOut 13 = .ok (.getfield 10, 3) := by decide +kernel
theorem dX6_carryOut_16 : decode cX6_carryOut 16 = .ok (.iload_n 1, 1) := by decide +kernel
theorem dX6_carryOut_17 : decode cX6_carryOut 17 = .ok (.iload_n 2, 1) := by decide +kernel
theorem dX6_carryOut_18 : decode cX6_carryOut 18 = .ok (.iload_n 3, 1) := by decide +kernel
theorem dX6_carryOut_19 : decode cX6_carryOut 19 = .ok (.invokevirtual 176, 3) := by decide +kernel
theorem dX6_carryOut_22 : decode cX6_carryOut 22 = .ok (.invokevirtual 45, 3) := by decide +kernel
theorem dX6_carryOut_25 : decode cX6_carryOut 25 = .ok (.ireturn, 1) := by decide +kernel
set_option maxRecDepth 20000 in
theorem ggX6_kept_X0_keep : GoodIn wsX6_kept wsX0_keep := goodIn_rB _ [6, 7, 8, 13, 14, 15] (by decide +kernel) (by decide +kernel)
set_option maxRecDepth 20000 in
theorem gX6_kept_X0_keep : GoodIn wsX6_kept (wsV RX6 179 RX0 yX0_keep wsX0_keep) := goodIn_app (goodIn_of _ (by decide +kernel)) ggX6_kept_X0_keep
theorem dX6_kept_0 : decode cX6_kept 0 = .ok (.iload_n 1, 1) := by decide +kernel
theorem dX6_kept_1 : decode cX6_kept 1 = .ok (.ifCond .lt 10, 3) := by decide +kernel
theorem dX6_kept_4 : decode cX6_kept 4 = .ok (.aload_n 0, 1) := by decide +kernel
theorem dX6_kept_5 : decode cX6_kept 5 = .ok (.getfield 22, 3) := by decide +kernel
theorem dX6_kept_8 : decode cX6_kept 8 = .ok (.invokevirtual 179, 3) := by decide +kernel
theorem dX6_kept_11 : decode cX6_kept 11 = .ok (.iload_n 1, 1) := by decide +kernel
theorem dX6_kept_12 : decode cX6_kept 12 = .ok (.ireturn, 1) := by decide +kernel
theorem dX6_isPlace_0 : decode cX6_isPlace 0 = .ok (.iload_n 0, 1) := by decide +kernel
theorem dX6_isPlace_1 : decode cX6_isPlace 1 = .ok (.iconst 1, 1) := by decide +kernel
theorem dX6_isPlace_2 : decode cX6_isPlace 2 = .ok (.if_icmp .lt 13, 3) := by decide +kernel
theorem dX6_isPlace_5 : decode cX6_isPlace 5 = .ok (.iload_n 0, 1) := by decide +kernel
theorem dX6_isPlace_6 : decode cX6_isPlace 6 = .ok (.bipush 20, 2) := by decide +kernel
theorem dX6_isPlace_8 : decode cX6_isPlace 8 = .ok (.if_icmp .gt 7, 3) := by decide +kernel
theorem dX6_isPlace_11 : decode cX6_isPlace 11 = .ok (.iconst 1, 1) := by decide +kernel
theorem dX6_isPlace_12 : decode cX6_isPlace 12 = .ok (.goto 4, 3) := by decide +kernel
theorem dX6_isPlace_15 : decode cX6_isPlace 15 = .ok (.iconst 0, 1) := by decide +kernel
theorem dX6_isPlace_16 : decode cX6_isPlace 16 = .ok (.ireturn, 1) := by decide +kernel
theorem dX6_stepOf_0 : decode cX6_stepOf 0 = .ok (.iload_n 0, 1) := by decide +kernel
theorem dX6_stepOf_1 : decode cX6_stepOf 1 = .ok (.iconst 2, 1) := by decide +kernel
theorem dX6_stepOf_2 : decode cX6_stepOf 2 = .ok (.irem, 1) := by decide +kernel
theorem dX6_stepOf_3 : decode cX6_stepOf 3 = .ok (.iconst 1, 1) := by decide +kernel
theorem dX6_stepOf_4 : decode cX6_stepOf 4 = .ok (.if_icmp .ne 9, 3) := by decide +kernel
theorem dX6_stepOf_7 : decode cX6_stepOf 7 = .ok (.iload_n 0, 1) := by decide +kernel
theorem dX6_stepOf_8 : decode cX6_stepOf 8 = .ok (.iconst 2, 1) := by decide +kernel
theorem dX6_stepOf_9 : decode cX6_stepOf 9 = .ok (.idiv, 1) := by decide +kernel
theorem dX6_stepOf_10 : decode cX6_stepOf 10 = .ok (.goto 9, 3) := by decide +kernel
theorem dX6_stepOf_13 : decode cX6_stepOf 13 = .ok (.bipush 20, 2) := by decide +kernel
theorem dX6_stepOf_15 : decode cX6_stepOf 15 = .ok (.iload_n 0, 1) := by decide +kernel
theorem dX6_stepOf_16 : decode cX6_stepOf 16 = .ok (.iconst 2, 1) := by decide +kernel
theorem dX6_stepOf_17 : decode cX6_stepOf 17 = .ok (.idiv, 1) := by decide +kernel
theorem dX6_stepOf_18 : decode cX6_stepOf 18 = .ok (.isub, 1) := by decide +kernel
theorem dX6_stepOf_19 : decode cX6_stepOf 19 = .ok (.ireturn, 1) := by decide +kernel
theorem dX6_unitsFor_0 : decode cX6_unitsFor 0 = .ok (.iload_n 1, 1) := by decide +kernel
theorem dX6_unitsFor_1 : decode cX6_unitsFor 1 = .ok (.ifCond .le 8, 3) := by decide +kernel
theorem dX6_unitsFor_4 : decode cX6_unitsFor 4 = .ok (.iload_n 0, 1) := by decide +kernel
theorem dX6_unitsFor_5 : decode cX6_unitsFor 5 = .ok (.bipush 100, 2) := by decide +kernel
theorem dX6_unitsFor_7 : decode cX6_unitsFor 7 = .ok (.idiv, 1) := by decide +kernel
theorem dX6_unitsFor_8 : decode cX6_unitsFor 8 = .ok (.ireturn, 1) := by decide +kernel
theorem dX6_unitsFor_9 : decode cX6_unitsFor 9 = .ok (.iload_n 1, 1) := by decide +kernel
theorem dX6_unitsFor_10 : decode cX6_unitsFor 10 = .ok (.ifCond .ge 13, 3) := by decide +kernel
theorem dX6_unitsFor_13 : decode cX6_unitsFor 13 = .ok (.iload_n 0, 1) := by decide +kernel
theorem dX6_unitsFor_14 : decode cX6_unitsFor 14 = .ok (.bipush 100, 2) := by decide +kernel
theorem dX6_unitsFor_16 : decode cX6_unitsFor 16 = .ok (.iadd, 1) := by decide +kernel
theorem dX6_unitsFor_17 : decode cX6_unitsFor 17 = .ok (.iconst 1, 1) := by decide +kernel
theorem dX6_unitsFor_18 : decode cX6_unitsFor 18 = .ok (.isub, 1) := by decide +kernel
theorem dX6_unitsFor_19 : decode cX6_unitsFor 19 = .ok (.bipush 100, 2) := by decide +kernel
theorem dX6_unitsFor_21 : decode cX6_unitsFor 21 = .ok (.idiv, 1) := by decide +kernel
theorem dX6_unitsFor_22 : decode cX6_unitsFor 22 = .ok (.ireturn, 1) := by decide +kernel
theorem dX6_unitsFor_23 : decode cX6_unitsFor 23 = .ok (.iload_n 0, 1) := by decide +kernel
theorem dX6_unitsFor_24 : decode cX6_unitsFor 24 = .ok (.bipush 50, 2) := by decide +kernel
theorem dX6_unitsFor_26 : decode cX6_unitsFor 26 = .ok (.iadd, 1) := by decide +kernel
theorem dX6_unitsFor_27 : decode cX6_unitsFor 27 = .ok (.bipush 100, 2) := by decide +kernel
theorem dX6_unitsFor_29 : decode cX6_unitsFor 29 = .ok (.idiv, 1) := by decide +kernel
theorem dX6_unitsFor_30 : decode cX6_unitsFor 30 = .ok (.ireturn, 1) := by decide +kernel
end
section
/-! numbers -/
theorem nI_mul (a b : Nat) : nI a * nI b = nI (a * b) := by
  apply Int32.toBitVec_inj.mp
  show BitVec.ofNat 32 a * BitVec.ofNat 32 b = BitVec.ofNat 32 (a * b)
  exact (BitVec.ofNat_mul ..).symm
theorem nI_sub {a b : Nat} (h : b ≤ a) : nI a - nI b = nI (a - b) := by
  have h1 : nI (a - b) + nI b = nI a := by rw [nI_add, Nat.sub_add_cancel h]
  rw [← h1]
  exact Int32.add_sub_cancel _ _
theorem zlt {a b : Nat} (ha : a < 2 ^ 31) (hb : b < 2 ^ 31) (h : nI a < nI b) : a < b := (nI_ltI ha hb).mp h
theorem zle {a b : Nat} (ha : a < 2 ^ 31) (hb : b < 2 ^ 31) (h : nI a ≤ nI b) : a ≤ b := (nI_leI ha hb).mp h
theorem zge {a b : Nat} (ha : a < 2 ^ 31) (hb : b < 2 ^ 31) (h : ¬ nI b ≤ nI a) : a < b := by
  rcases Nat.lt_or_ge a b with q | q
  · exact q
  · exact absurd ((nI_leI hb ha).mpr q) h
theorem znl {x y : Int32} : ¬ y ≤ x ↔ x < y := by rw [Int32.lt_iff_toInt_lt, Int32.le_iff_toInt_le]; omega
theorem znlt {x y : Int32} : ¬ x < y ↔ y ≤ x := by rw [Int32.lt_iff_toInt_lt, Int32.le_iff_toInt_le]; omega
/-- a number that is not below 0 and below n -/
theorem zidx {x : Int32} {n : Nat} (h0 : ¬ x < 0) (h1 : x < nI n) (hn : n < 2 ^ 31) : ∃ k, k < n ∧ x = nI k := by
  obtain ⟨j, hj, rfl⟩ := nI_of h0
  exact ⟨j, zlt hj hn h1, rfl⟩
theorem zvp1 {x : Int32} {n : Nat} (h0 : ¬ x < 0) (h1 : ¬ nI n ≤ x) (hn : n < 2 ^ 31) : vp_in x n := by
  obtain ⟨k, hk, rfl⟩ := zidx h0 (znl.mp h1) hn
  exact vp_in_nI hk hn
theorem nI_dec {k : Nat} (h : 1 ≤ k) : nI k + (-1) = nI (k - 1) := by
  rw [← nI_sub h]
  exact (Int32.sub_eq_add_neg ..).symm
theorem nI_mod {a b : Nat} (ha : a < 2 ^ 31) (hb : b < 2 ^ 31) : nI a % nI b = nI (a % b) := by
  have h2 : a % b ≤ a := Nat.mod_le ..
  apply Int32.toInt_inj.mp
  rw [Int32.toInt_mod, nI_toInt ha, nI_toInt hb, nI_toInt (by omega)]
  exact (Int.ofNat_tmod a b).symm
theorem nI_div {a b : Nat} (ha : a < 2 ^ 31) (hb : b < 2 ^ 31) : nI a / nI b = nI (a / b) := by
  have h2 : a / b ≤ a := Nat.div_le_self ..
  apply Int32.toInt_inj.mp
  rw [Int32.toInt_div_of_ne_right _ _ (fun h => by
    have := congrArg Int32.toInt h
    rw [nI_toInt hb] at this
    have e : (Int32.toInt (-1)) = -1 := by decide
    rw [e] at this
    omega), nI_toInt ha, nI_toInt hb, nI_toInt (by omega)]
  exact (Int.ofNat_tdiv a b).symm
end
section
/-- the links to private members of nest mates -/
def zNests : List Cond := [Cond.fieldLinkNest RX5 208 "WrongedMeters$Ledger" "size" "I" "WrongedMeters", Cond.fieldLinkNest RX5 120 "WrongedMeters$House" "street" "I" "WrongedMeters", Cond.fieldLinkNest RX5 123 "WrongedMeters$House" "place" "I" "WrongedMeters", Cond.fieldLinkNest RX5 134 "WrongedMeters$House" "flow" "I" "WrongedMeters", Cond.fieldLinkNest RX5 137 "WrongedMeters$House" "isLocked" "Z" "WrongedMeters", Cond.fieldLinkNest RX5 165 "WrongedMeters$House" "balance" "I" "WrongedMeters", Cond.fieldLinkNest RX6 103 "WrongedMeters$House" "balance" "I" "WrongedMeters", Cond.fieldLinkNest RX5 194 "WrongedMeters$House" "refunds" "I" "WrongedMeters", Cond.fieldLinkNest RX5 191 "WrongedMeters$Street" "latestStep" "I" "WrongedMeters", Cond.fieldLinkNest RX5 36 "WrongedMeters" "SETTING_FIRST" "[I" "WrongedMeters", Cond.fieldLinkNest RX6 83 "WrongedMeters$Town" "ledger" "LWrongedMeters$Ledger;" "WrongedMeters", Cond.fieldLinkNest RX6 109 "WrongedMeters$Town" "settings" "[I" "WrongedMeters", Cond.fieldLinkNest RX6 92 "WrongedMeters$Town" "now" "I" "WrongedMeters", Cond.fieldLinkNest RX6 144 "WrongedMeters$History" "size" "I" "WrongedMeters", Cond.fieldLinkNest RX6 147 "WrongedMeters$Orders" "length" "I" "WrongedMeters", Cond.fieldLinkNest RX5 145 "WrongedMeters" "SETTING_LEAST" "[I" "WrongedMeters", Cond.fieldLinkNest RX5 148 "WrongedMeters" "SETTING_MOST" "[I" "WrongedMeters", Cond.methodLinkNest RX5 25 yX2_init "WrongedMeters", Cond.methodLinkNest RX5 34 yX1_init "WrongedMeters", Cond.methodLinkNest RX6 28 yX3_init "WrongedMeters", Cond.methodLinkNest RX5 109 yX6_isPlace "WrongedMeters", Cond.methodLinkNest RX5 113 yX6_stepOf "WrongedMeters", Cond.methodLinkNest RX5 168 yX6_unitsFor "WrongedMeters"]
theorem nst_f5_208 : Cond.fieldLinkNest RX5 208 "WrongedMeters$Ledger" "size" "I" "WrongedMeters" ∈ zNests := List.mem_of_getElem? (i := 0) rfl
theorem nst_f5_120 : Cond.fieldLinkNest RX5 120 "WrongedMeters$House" "street" "I" "WrongedMeters" ∈ zNests := List.mem_of_getElem? (i := 1) rfl
theorem nst_f5_123 : Cond.fieldLinkNest RX5 123 "WrongedMeters$House" "place" "I" "WrongedMeters" ∈ zNests := List.mem_of_getElem? (i := 2) rfl
theorem nst_f5_134 : Cond.fieldLinkNest RX5 134 "WrongedMeters$House" "flow" "I" "WrongedMeters" ∈ zNests := List.mem_of_getElem? (i := 3) rfl
theorem nst_f5_137 : Cond.fieldLinkNest RX5 137 "WrongedMeters$House" "isLocked" "Z" "WrongedMeters" ∈ zNests := List.mem_of_getElem? (i := 4) rfl
theorem nst_f5_165 : Cond.fieldLinkNest RX5 165 "WrongedMeters$House" "balance" "I" "WrongedMeters" ∈ zNests := List.mem_of_getElem? (i := 5) rfl
theorem nst_f6_103 : Cond.fieldLinkNest RX6 103 "WrongedMeters$House" "balance" "I" "WrongedMeters" ∈ zNests := List.mem_of_getElem? (i := 6) rfl
theorem nst_f5_194 : Cond.fieldLinkNest RX5 194 "WrongedMeters$House" "refunds" "I" "WrongedMeters" ∈ zNests := List.mem_of_getElem? (i := 7) rfl
theorem nst_f5_191 : Cond.fieldLinkNest RX5 191 "WrongedMeters$Street" "latestStep" "I" "WrongedMeters" ∈ zNests := List.mem_of_getElem? (i := 8) rfl
theorem nst_f5_36 : Cond.fieldLinkNest RX5 36 "WrongedMeters" "SETTING_FIRST" "[I" "WrongedMeters" ∈ zNests := List.mem_of_getElem? (i := 9) rfl
theorem nst_f6_83 : Cond.fieldLinkNest RX6 83 "WrongedMeters$Town" "ledger" "LWrongedMeters$Ledger;" "WrongedMeters" ∈ zNests := List.mem_of_getElem? (i := 10) rfl
theorem nst_f6_109 : Cond.fieldLinkNest RX6 109 "WrongedMeters$Town" "settings" "[I" "WrongedMeters" ∈ zNests := List.mem_of_getElem? (i := 11) rfl
theorem nst_f6_92 : Cond.fieldLinkNest RX6 92 "WrongedMeters$Town" "now" "I" "WrongedMeters" ∈ zNests := List.mem_of_getElem? (i := 12) rfl
theorem nst_f6_144 : Cond.fieldLinkNest RX6 144 "WrongedMeters$History" "size" "I" "WrongedMeters" ∈ zNests := List.mem_of_getElem? (i := 13) rfl
theorem nst_f6_147 : Cond.fieldLinkNest RX6 147 "WrongedMeters$Orders" "length" "I" "WrongedMeters" ∈ zNests := List.mem_of_getElem? (i := 14) rfl
theorem nst_f5_145 : Cond.fieldLinkNest RX5 145 "WrongedMeters" "SETTING_LEAST" "[I" "WrongedMeters" ∈ zNests := List.mem_of_getElem? (i := 15) rfl
theorem nst_f5_148 : Cond.fieldLinkNest RX5 148 "WrongedMeters" "SETTING_MOST" "[I" "WrongedMeters" ∈ zNests := List.mem_of_getElem? (i := 16) rfl
theorem nst_m5_25 : Cond.methodLinkNest RX5 25 yX2_init "WrongedMeters" ∈ zNests := List.mem_of_getElem? (i := 17) rfl
theorem nst_m5_34 : Cond.methodLinkNest RX5 34 yX1_init "WrongedMeters" ∈ zNests := List.mem_of_getElem? (i := 18) rfl
theorem nst_m6_28 : Cond.methodLinkNest RX6 28 yX3_init "WrongedMeters" ∈ zNests := List.mem_of_getElem? (i := 19) rfl
theorem nst_m5_109 : Cond.methodLinkNest RX5 109 yX6_isPlace "WrongedMeters" ∈ zNests := List.mem_of_getElem? (i := 20) rfl
theorem nst_m5_113 : Cond.methodLinkNest RX5 113 yX6_stepOf "WrongedMeters" ∈ zNests := List.mem_of_getElem? (i := 21) rfl
theorem nst_m5_168 : Cond.methodLinkNest RX5 168 yX6_unitsFor "WrongedMeters" ∈ zNests := List.mem_of_getElem? (i := 22) rfl
def zIsN : Cond → Bool
  | .fieldLinkNest _ _ _ _ _ _ => true
  | .methodLinkNest _ _ _ _ => true
  | _ => false
theorem zNests_all : zNests.all zIsN = true := by decide +kernel
def zNst (U : State) : Prop := ∀ w ∈ zNests, va_Nw w U
theorem zNst.same {u U : State} (h : u.vm = U.vm) (hZ : zNst u) : zNst U := fun w hw => by
  have h1 := List.all_eq_true.mp zNests_all w hw
  have h2 := hZ w hw
  cases w <;> first | (cases h1; done) | exact va_Nw.same rfl h h2
theorem zNst.warm {s U : State} (hW : s.WarmedH U.vm) (hZ : zNst s) : zNst U := fun w hw => by
  have h1 := List.all_eq_true.mp zNests_all w hw
  have h2 := hZ w hw
  cases w <;> first | (cases h1; done) | exact va_Nw.warmF hW h2 | exact va_Nw.warmM hW h2
/-! A world of n cells by ids: cell c lies at the address ad c and holds K ad c (t c), where t tells all ints of the world -/
abbrev zM : Type := Nat → Nat → Int32
abbrev zK : Type := (Nat → Nat) → Nat → (Nat → Int32) → va_E
def zw (K : zK) (n : Nat) (ad : Nat → Nat) (t : zM) : va_W := (List.range n).map fun c => (ad c, K ad c (t c))
theorem zw_at {K : zK} {n : Nat} {ad : Nat → Nat} {t : zM} {c : Nat} {e : va_E} (hc : c < n) (he : K ad c (t c) = e) : (zw K n ad t)[c]? = some (ad c, e) := by
  subst he
  simp [zw, hc]
theorem zw_in {K : zK} {n : Nat} {ad : Nat → Nat} {t : zM} {k : Nat} {q : Nat × va_E} (h : (zw K n ad t)[k]? = some q) : k < n ∧ q = (ad k, K ad k (t k)) := by
  have hk : k < n := by
    have := (List.getElem?_eq_some_iff.mp h).1
    simpa [zw] using this
  refine ⟨hk, ?_⟩
  rw [zw_at hk rfl] at h
  exact (Option.some.inj h).symm
def zup (t : zM) (c : Nat) (f : Nat → Int32) : zM := fun j => if j = c then f else t j
theorem zup_eq (t : zM) (c : Nat) (f : Nat → Int32) : zup t c f c = f := if_pos rfl
theorem zup_ne (t : zM) {c j : Nat} (f : Nat → Int32) (h : j ≠ c) : zup t c f j = t j := if_neg h
theorem zw_set {K : zK} {n : Nat} {ad : Nat → Nat} {t : zM} {c : Nat} {f : Nat → Int32} {e : va_E} (hc : c < n) (he : K ad c f = e) : (zw K n ad t).set c (ad c, e) = zw K n ad (zup t c f) := by
  subst he
  apply List.ext_getElem?
  intro j
  rw [List.getElem?_set]
  by_cases h : c = j
  · subst h
    simp [zw, zup, hc]
  · rw [if_neg h]
    by_cases hj : j < n
    · rw [zw_at hj rfl, zw_at hj rfl, zup_ne _ _ (fun q => h q.symm)]
    · have h1 : ∀ t', (zw K n ad t')[j]? = none := fun t' => by simp [zw, hj]
      rw [h1, h1]
def zset (t : zM) (c k : Nat) (v : Int32) : zM := fun j => if j = c then upd (t j) k v else t j
theorem zfit_i (x : Int32) : fits .int (.int x) = true := rfl
theorem zfit_b {x : Int32} (h : x = 0 ∨ x = 1) : fits .boolean (.int x) = true := by rcases h with rfl | rfl <;> decide +kernel
theorem znar_b {x : Int32} (h : x = 0 ∨ x = 1) : narrow .boolean (.int x) = .int x := by rcases h with rfl | rfl <;> decide +kernel
theorem zset_up (t : zM) (c k : Nat) (v : Int32) : zup t c (upd (t c) k v) = zset t c k v := by
  funext j
  by_cases h : j = c
  · subst h; simp [zup, zset]
  · simp [zup, zset, h]
theorem zset_eq (t : zM) (c k : Nat) (v : Int32) : zset t c k v c k = v := by simp [zset, upd]
theorem zset_nk (t : zM) (c : Nat) {k k' : Nat} (v : Int32) (h : k' ≠ k) : zset t c k v c k' = t c k' := by simp [zset, upd, h]
theorem zset_id (t : zM) {c c' : Nat} (k : Nat) (v : Int32) (h : c' ≠ c) : zset t c k v c' = t c' := if_neg h
theorem zset_idk (t : zM) {c c' : Nat} (k k' : Nat) (v : Int32) (h : c' ≠ c) : zset t c k v c' k' = t c' k' := congrFun (if_neg h) k'
/-- the ids' addresses are apart, and of a kind -/
def zJ (n : Nat) (ad : Nat → Nat) : Prop := ∀ i j, i < n → j < n → ad i = ad j → i = j
def zG (n : Nat) (ad : Nat → Nat) (A : Nat → Prop) : Prop := zJ n ad ∧ ∀ i, i < n → A (ad i)
theorem zG.D {n : Nat} {ad : Nat → Nat} {A : Nat → Prop} (h : zG n ad A) {K : zK} {t : zM} : va_D A (zw K n ad t) := by
  refine ⟨fun i j x y hx hy hxy => ?_, fun k q hq => ?_⟩
  · obtain ⟨hi, rfl⟩ := zw_in hx
    obtain ⟨hj, rfl⟩ := zw_in hy
    exact h.1 i j hi hj hxy
  · obtain ⟨hk, rfl⟩ := zw_in hq
    exact h.2 k hk
theorem zA_iff {K : zK} {n : Nat} {ad : Nat → Nat} {t : zM} {sz q : Nat} : va_A (zw K n ad t) sz q ↔ (∃ k, k < n ∧ q = ad k) ∨ sz ≤ q := by
  constructor
  · rintro (⟨k, e, h⟩ | h)
    · obtain ⟨hk, h2⟩ := zw_in h
      exact Or.inl ⟨k, hk, congrArg Prod.fst h2⟩
    · exact Or.inr h
  · rintro (⟨k, hk, rfl⟩ | h)
    · exact Or.inl ⟨k, _, zw_at hk rfl⟩
    · exact Or.inr h
theorem zG.self {n : Nat} {ad : Nat → Nat} (h : zJ n ad) {K : zK} {t : zM} {sz : Nat} : zG n ad (va_A (zw K n ad t) sz) := ⟨h, fun i hi => zA_iff.mpr (Or.inl ⟨i, hi, rfl⟩)⟩
theorem zG.free {n : Nat} {ad : Nat → Nat} {A : Nat → Prop} (h : zG n ad A) {sz sz' : Nat} (hA : ∀ q, sz ≤ q → A q) (hz : sz ≤ sz') {K : zK} {t : zM} : ∀ q, va_A (zw K n ad t) sz' q → A q := by
  intro q hq
  rcases zA_iff.mp hq with ⟨k, hk, rfl⟩ | h2
  · exact h.2 k hk
  · exact hA q (Nat.le_trans hz h2)
/-- the array types of the world: ints, houses, streets, towns -/
def ztys (cy : Nat → ClassId) : List (ClassId × FieldType) := [(cy 0, .int), (cy 1, .object "WrongedMeters$House"), (cy 2, .object "WrongedMeters$Street"), (cy 3, .object "WrongedMeters$Town")]
/-- what holds all along a method's walk -/
def zC (p : Program) (s : State) (m : MethodId) (args : Array Value) (meth : Method) (c : Code) (cc : ByteArray) (nL : Nat) (ret : Option FieldType) (own : String) (ws : List Cond) (D : va_G) (cy : Nat → ClassId) (n : Nat) (ad : Nat → Nat) (A : Nat → Prop) : Prop :=
  CallFix p m c cc nL s args ws own ∧ va_K D vwCl (ztys cy) s ∧ zG n ad A ∧ (∀ q, s.heap.size ≤ q → A q) ∧ meth.sig.returnType = ret ∧ meth.locks = false ∧ zNst s
/-- the machine at pc, with the locals ls, the stack st and the world t, comes to Q -/
def Zw (p : Program) (l : Launch) (e : Env) (R : Room) (s : State) (m : MethodId) (args : Array Value) (below : List Frame) (meth : Method) (c : Code) (D : va_G) (A : Nat → Prop) (K : zK) (n : Nat) (ad : Nat → Nat) (nL : Nat) (Q : State → Prop) (pc : Nat) (ls : List (Nat × Value)) (st : List Value) (t : zM) : Prop :=
  ∀ (H : Heap) (locs : List Loc) (la : Array Slot), va_P D vwCl (zw K n ad t) H → va_S A s.heap H locs → lv_has la nL ls → W p l e R s m args below meth c H locs 0 0 Q (F0 m pc la st)
def zR (d : Nat) : Room := { frames := d, cells := 0, slots := 0, locals := 40 * d }
abbrev zPre (D : va_G) (cy : Nat → ClassId) (K : zK) (n : Nat) (ad : Nat → Nat) (t : zM) (av : List Value) (sz : Nat) : Array Value → State → Prop := va_Pc av (fun U => U.heap.size = sz ∧ va_P D vwCl (zw K n ad t) U.heap ∧ va_K D vwCl (ztys cy) U ∧ zNst U)
abbrev zB (D : va_G) (K : zK) (n : Nat) (ad : Nat → Nat) (u : zM) (U : State) : Prop := va_P D vwCl (zw K n ad u) U.heap
abbrev zEi (D : va_G) (K : zK) (n : Nat) (ad : Nat → Nat) (t : zM) (sz : Nat) (post : Int32 → zM → Prop) : Array Value → State → Outcome → State → Prop := va_Qi post (zB D K n ad) (va_A (zw K n ad t) sz)
abbrev zEv (D : va_G) (K : zK) (n : Nat) (ad : Nat → Nat) (t : zM) (sz : Nat) (post : zM → Prop) : Array Value → State → Outcome → State → Prop := va_Qv post (zB D K n ad) (va_A (zw K n ad t) sz)
abbrev zEq (D : va_G) (K : zK) (n : Nat) (ad : Nat → Nat) (t : zM) (sz : Nat) (post : Option Nat → zM → Prop) : Array Value → State → Outcome → State → Prop := va_Qq post (zB D K n ad) (va_A (zw K n ad t) sz)
/-- contracts: a method of an int (boolean) answer, of none, of a reference -/
def zI (l : Launch) (y : MethodName) (ws : List Cond) (d : Nat) (D : va_G) (cy : Nat → ClassId) (K : zK) (n : Nat) (ad : Nat → Nat) (t : zM) (av : List Value) (post : Int32 → zM → Prop) : Prop :=
  ∀ sz, Met l y ws (zR d) (zPre D cy K n ad t av sz) (zEi D K n ad t sz post) 0 0 (va_A (zw K n ad t) sz)
def zV (l : Launch) (y : MethodName) (ws : List Cond) (d : Nat) (D : va_G) (cy : Nat → ClassId) (K : zK) (n : Nat) (ad : Nat → Nat) (t : zM) (av : List Value) (post : zM → Prop) : Prop :=
  ∀ sz, Met l y ws (zR d) (zPre D cy K n ad t av sz) (zEv D K n ad t sz post) 0 0 (va_A (zw K n ad t) sz)
def zQ (l : Launch) (y : MethodName) (ws : List Cond) (d : Nat) (D : va_G) (cy : Nat → ClassId) (K : zK) (n : Nat) (ad : Nat → Nat) (t : zM) (av : List Value) (post : Option Nat → zM → Prop) : Prop :=
  ∀ sz, Met l y ws (zR d) (zPre D cy K n ad t av sz) (zEq D K n ad t sz post) 0 0 (va_A (zw K n ad t) sz)
section ZZ
variable {p : Program} {l : Launch} {e : Env} {R : Room} {s : State} {m : MethodId} {args : Array Value} {below : List Frame} {meth : Method} {c : Code} {D : va_G} {A : Nat → Prop} {K : zK} {n : Nat} {ad : Nat → Nat} {nL : Nat} {Q : State → Prop} {ls ls' : List (Nat × Value)} {st : List Value} {t : zM} {cc : ByteArray} {ret : Option FieldType} {own : String} {ws : List Cond} {cy : Nat → ClassId}
theorem z_iconst (C : zC p s m args meth c cc nL ret own ws D cy n ad A) (pc : Nat) {x : Int} {v : Int32} (hd : decode cc pc = .ok (.iconst x, 1)) (hv : Int32.ofInt x = v) (kk : Zw p l e R s m args below meth c D A K n ad nL Q (pc + 1) ls (.int v :: st) t) : Zw p l e R s m args below meth c D A K n ad nL Q (pc) ls st t := fun H locs la hP hS hl => lv_iconst C.1.1 C.1.2.1 hd hv (kk H locs la hP hS hl)
theorem z_bipush (C : zC p s m args meth c cc nL ret own ws D cy n ad A) (pc : Nat) {x : Int} {v : Int32} (hd : decode cc pc = .ok (.bipush x, 2)) (hv : (Int8.ofInt x).toInt32 = v) (kk : Zw p l e R s m args below meth c D A K n ad nL Q (pc + 2) ls (.int v :: st) t) : Zw p l e R s m args below meth c D A K n ad nL Q (pc) ls st t := fun H locs la hP hS hl => lv_bipush C.1.1 C.1.2.1 hd hv (kk H locs la hP hS hl)
theorem z_sipush (C : zC p s m args meth c cc nL ret own ws D cy n ad A) (pc : Nat) {x : Int} {v : Int32} (hd : decode cc pc = .ok (.sipush x, 3)) (hv : (Int16.ofInt x).toInt32 = v) (kk : Zw p l e R s m args below meth c D A K n ad nL Q (pc + 3) ls (.int v :: st) t) : Zw p l e R s m args below meth c D A K n ad nL Q (pc) ls st t := fun H locs la hP hS hl => lv_sipush C.1.1 C.1.2.1 hd hv (kk H locs la hP hS hl)
theorem z_ldc (C : zC p s m args meth c cc nL ret own ws D cy n ad A) (pc : Nat) {idx : Nat} {v : Int32} (hd : decode cc pc = .ok (.ldc idx, 2)) (hw : Cond.constant own idx v ∈ ws) (kk : Zw p l e R s m args below meth c D A K n ad nL Q (pc + 2) ls (.int v :: st) t) : Zw p l e R s m args below meth c D A K n ad nL Q (pc) ls st t := fun H locs la hP hS hl => lv_ldc C.1.1 C.1.2.1 C.1.2.2.2.1 (C.1.2.2.2.2 _ hw) hd (kk H locs la hP hS hl)
theorem z_ldcf (C : zC p s m args meth c cc nL ret own ws D cy n ad A) (pc : Nat) {idx : Nat} {v : UInt32} (hd : decode cc pc = .ok (.ldc idx, 2)) (hw : Cond.constantFloat own idx v ∈ ws) (kk : Zw p l e R s m args below meth c D A K n ad nL Q (pc + 2) ls (.float v :: st) t) : Zw p l e R s m args below meth c D A K n ad nL Q (pc) ls st t := fun H locs la hP hS hl => lv_ldcf C.1.1 C.1.2.1 C.1.2.2.2.1 (C.1.2.2.2.2 _ hw) hd (kk H locs la hP hS hl)
theorem z_iload_n (C : zC p s m args meth c cc nL ret own ws D cy n ad A) (pc : Nat) {k : Fin 4} {x : Int32} (i pl : Nat) (hd : decode cc pc = .ok (.iload_n k, 1)) (hi : (k : Nat) = i) (hx : ls[pl]? = some (i, .int x)) (kk : Zw p l e R s m args below meth c D A K n ad nL Q (pc + 1) ls (.int x :: st) t) : Zw p l e R s m args below meth c D A K n ad nL Q (pc) ls st t := fun H locs la hP hS hl => lv_iload_n C.1.1 C.1.2.1 hd hi (lv_at hl pl hx) (kk H locs la hP hS hl)
theorem z_iload (C : zC p s m args meth c cc nL ret own ws D cy n ad A) (pc : Nat) {x : Int32} (i pl : Nat) (hd : decode cc pc = .ok (.iload i, 2)) (hx : ls[pl]? = some (i, .int x)) (kk : Zw p l e R s m args below meth c D A K n ad nL Q (pc + 2) ls (.int x :: st) t) : Zw p l e R s m args below meth c D A K n ad nL Q (pc) ls st t := fun H locs la hP hS hl => lv_iload C.1.1 C.1.2.1 hd (lv_at hl pl hx) (kk H locs la hP hS hl)
theorem z_istore_n (C : zC p s m args meth c cc nL ret own ws D cy n ad A) (pc : Nat) {k : Fin 4} {x : Int32} (i : Nat) (ls' : List (Nat × Value)) (hd : decode cc pc = .ok (.istore_n k, 1)) (hi : (k : Nat) = i) (hn : i < nL) (hf : (i, Value.int x) :: ls.filter (fun q => !(q.1 == i) && !(q.1 + 1 == i && q.2.category == 2)) = ls') (kk : Zw p l e R s m args below meth c D A K n ad nL Q (pc + 1) ls' st t) : Zw p l e R s m args below meth c D A K n ad nL Q (pc) ls (.int x :: st) t := fun H locs la hP hS hl => lv_istore_n C.1.1 C.1.2.1 hd hi hl hn hf (fun la hl => (kk H locs la hP hS hl))
theorem z_istore (C : zC p s m args meth c cc nL ret own ws D cy n ad A) (pc : Nat) {x : Int32} (i : Nat) (ls' : List (Nat × Value)) (hd : decode cc pc = .ok (.istore i, 2)) (hn : i < nL) (hf : (i, Value.int x) :: ls.filter (fun q => !(q.1 == i) && !(q.1 + 1 == i && q.2.category == 2)) = ls') (kk : Zw p l e R s m args below meth c D A K n ad nL Q (pc + 2) ls' st t) : Zw p l e R s m args below meth c D A K n ad nL Q (pc) ls (.int x :: st) t := fun H locs la hP hS hl => lv_istore C.1.1 C.1.2.1 hd hl hn hf (fun la hl => (kk H locs la hP hS hl))
theorem z_aload_n (C : zC p s m args meth c cc nL ret own ws D cy n ad A) (pc : Nat) {k : Fin 4} {x : Nat} (i pl : Nat) (hd : decode cc pc = .ok (.aload_n k, 1)) (hi : (k : Nat) = i) (hx : ls[pl]? = some (i, .ref x)) (kk : Zw p l e R s m args below meth c D A K n ad nL Q (pc + 1) ls (.ref x :: st) t) : Zw p l e R s m args below meth c D A K n ad nL Q (pc) ls st t := fun H locs la hP hS hl => lv_aload_n C.1.1 C.1.2.1 hd hi (lv_at hl pl hx) (kk H locs la hP hS hl)
theorem z_aload (C : zC p s m args meth c cc nL ret own ws D cy n ad A) (pc : Nat) {x : Nat} (i pl : Nat) (hd : decode cc pc = .ok (.aload i, 2)) (hx : ls[pl]? = some (i, .ref x)) (kk : Zw p l e R s m args below meth c D A K n ad nL Q (pc + 2) ls (.ref x :: st) t) : Zw p l e R s m args below meth c D A K n ad nL Q (pc) ls st t := fun H locs la hP hS hl => lv_aload C.1.1 C.1.2.1 hd (lv_at hl pl hx) (kk H locs la hP hS hl)
theorem z_astore_n (C : zC p s m args meth c cc nL ret own ws D cy n ad A) (pc : Nat) {k : Fin 4} {x : Nat} (i : Nat) (ls' : List (Nat × Value)) (hd : decode cc pc = .ok (.astore_n k, 1)) (hi : (k : Nat) = i) (hn : i < nL) (hf : (i, Value.ref x) :: ls.filter (fun q => !(q.1 == i) && !(q.1 + 1 == i && q.2.category == 2)) = ls') (kk : Zw p l e R s m args below meth c D A K n ad nL Q (pc + 1) ls' st t) : Zw p l e R s m args below meth c D A K n ad nL Q (pc) ls (.ref x :: st) t := fun H locs la hP hS hl => lv_astore_n C.1.1 C.1.2.1 hd hi hl hn hf (fun la hl => (kk H locs la hP hS hl))
theorem z_astore (C : zC p s m args meth c cc nL ret own ws D cy n ad A) (pc : Nat) {x : Nat} (i : Nat) (ls' : List (Nat × Value)) (hd : decode cc pc = .ok (.astore i, 2)) (hn : i < nL) (hf : (i, Value.ref x) :: ls.filter (fun q => !(q.1 == i) && !(q.1 + 1 == i && q.2.category == 2)) = ls') (kk : Zw p l e R s m args below meth c D A K n ad nL Q (pc + 2) ls' st t) : Zw p l e R s m args below meth c D A K n ad nL Q (pc) ls (.ref x :: st) t := fun H locs la hP hS hl => lv_astore C.1.1 C.1.2.1 hd hl hn hf (fun la hl => (kk H locs la hP hS hl))
theorem z_fload_n (C : zC p s m args meth c cc nL ret own ws D cy n ad A) (pc : Nat) {k : Fin 4} {x : UInt32} (i pl : Nat) (hd : decode cc pc = .ok (.fload_n k, 1)) (hi : (k : Nat) = i) (hx : ls[pl]? = some (i, .float x)) (kk : Zw p l e R s m args below meth c D A K n ad nL Q (pc + 1) ls (.float x :: st) t) : Zw p l e R s m args below meth c D A K n ad nL Q (pc) ls st t := fun H locs la hP hS hl => lv_fload_n C.1.1 C.1.2.1 hd hi (lv_at hl pl hx) (kk H locs la hP hS hl)
theorem z_fload (C : zC p s m args meth c cc nL ret own ws D cy n ad A) (pc : Nat) {x : UInt32} (i pl : Nat) (hd : decode cc pc = .ok (.fload i, 2)) (hx : ls[pl]? = some (i, .float x)) (kk : Zw p l e R s m args below meth c D A K n ad nL Q (pc + 2) ls (.float x :: st) t) : Zw p l e R s m args below meth c D A K n ad nL Q (pc) ls st t := fun H locs la hP hS hl => lv_fload C.1.1 C.1.2.1 hd (lv_at hl pl hx) (kk H locs la hP hS hl)
theorem z_fstore_n (C : zC p s m args meth c cc nL ret own ws D cy n ad A) (pc : Nat) {k : Fin 4} {x : UInt32} (i : Nat) (ls' : List (Nat × Value)) (hd : decode cc pc = .ok (.fstore_n k, 1)) (hi : (k : Nat) = i) (hn : i < nL) (hf : (i, Value.float x) :: ls.filter (fun q => !(q.1 == i) && !(q.1 + 1 == i && q.2.category == 2)) = ls') (kk : Zw p l e R s m args below meth c D A K n ad nL Q (pc + 1) ls' st t) : Zw p l e R s m args below meth c D A K n ad nL Q (pc) ls (.float x :: st) t := fun H locs la hP hS hl => lv_fstore_n C.1.1 C.1.2.1 hd hi hl hn hf (fun la hl => (kk H locs la hP hS hl))
theorem z_fstore (C : zC p s m args meth c cc nL ret own ws D cy n ad A) (pc : Nat) {x : UInt32} (i : Nat) (ls' : List (Nat × Value)) (hd : decode cc pc = .ok (.fstore i, 2)) (hn : i < nL) (hf : (i, Value.float x) :: ls.filter (fun q => !(q.1 == i) && !(q.1 + 1 == i && q.2.category == 2)) = ls') (kk : Zw p l e R s m args below meth c D A K n ad nL Q (pc + 2) ls' st t) : Zw p l e R s m args below meth c D A K n ad nL Q (pc) ls (.float x :: st) t := fun H locs la hP hS hl => lv_fstore C.1.1 C.1.2.1 hd hl hn hf (fun la hl => (kk H locs la hP hS hl))
theorem z_aload_nN (C : zC p s m args meth c cc nL ret own ws D cy n ad A) (pc : Nat) {k : Fin 4} (i pl : Nat) (hd : decode cc pc = .ok (.aload_n k, 1)) (hi : (k : Nat) = i) (hx : ls[pl]? = some (i, .null)) (kk : Zw p l e R s m args below meth c D A K n ad nL Q (pc + 1) ls (.null :: st) t) : Zw p l e R s m args below meth c D A K n ad nL Q (pc) ls st t := fun H locs la hP hS hl => lv_aload_nN C.1.1 C.1.2.1 hd hi (lv_at hl pl hx) (kk H locs la hP hS hl)
theorem z_aloadN (C : zC p s m args meth c cc nL ret own ws D cy n ad A) (pc : Nat) (i pl : Nat) (hd : decode cc pc = .ok (.aload i, 2)) (hx : ls[pl]? = some (i, .null)) (kk : Zw p l e R s m args below meth c D A K n ad nL Q (pc + 2) ls (.null :: st) t) : Zw p l e R s m args below meth c D A K n ad nL Q (pc) ls st t := fun H locs la hP hS hl => lv_aloadN C.1.1 C.1.2.1 hd (lv_at hl pl hx) (kk H locs la hP hS hl)
theorem z_astore_nN (C : zC p s m args meth c cc nL ret own ws D cy n ad A) (pc : Nat) {k : Fin 4} (i : Nat) (ls' : List (Nat × Value)) (hd : decode cc pc = .ok (.astore_n k, 1)) (hi : (k : Nat) = i) (hn : i < nL) (hf : (i, Value.null) :: ls.filter (fun q => !(q.1 == i) && !(q.1 + 1 == i && q.2.category == 2)) = ls') (kk : Zw p l e R s m args below meth c D A K n ad nL Q (pc + 1) ls' st t) : Zw p l e R s m args below meth c D A K n ad nL Q (pc) ls (.null :: st) t := fun H locs la hP hS hl => lv_astore_nN C.1.1 C.1.2.1 hd hi hl hn hf (fun la hl => (kk H locs la hP hS hl))
theorem z_astoreN (C : zC p s m args meth c cc nL ret own ws D cy n ad A) (pc : Nat) (i : Nat) (ls' : List (Nat × Value)) (hd : decode cc pc = .ok (.astore i, 2)) (hn : i < nL) (hf : (i, Value.null) :: ls.filter (fun q => !(q.1 == i) && !(q.1 + 1 == i && q.2.category == 2)) = ls') (kk : Zw p l e R s m args below meth c D A K n ad nL Q (pc + 2) ls' st t) : Zw p l e R s m args below meth c D A K n ad nL Q (pc) ls (.null :: st) t := fun H locs la hP hS hl => lv_astoreN C.1.1 C.1.2.1 hd hl hn hf (fun la hl => (kk H locs la hP hS hl))
theorem z_iinc (C : zC p s m args meth c cc nL ret own ws D cy n ad A) (pc : Nat) {x : Int} {v w : Int32} (i pl : Nat) (ls' : List (Nat × Value)) (hd : decode cc pc = .ok (.iinc i x, 3)) (hk : ls[pl]? = some (i, .int w)) (hv : w + Int32.ofInt x = v) (hn : i < nL) (hf : (i, Value.int v) :: ls.filter (fun q => !(q.1 == i) && !(q.1 + 1 == i && q.2.category == 2)) = ls') (kk : Zw p l e R s m args below meth c D A K n ad nL Q (pc + 3) ls' st t) : Zw p l e R s m args below meth c D A K n ad nL Q (pc) ls st t := fun H locs la hP hS hl => lv_iinc C.1.1 C.1.2.1 hd hl hk hv hn hf (fun la hl => (kk H locs la hP hS hl))
theorem z_iadd (C : zC p s m args meth c cc nL ret own ws D cy n ad A) (pc : Nat) {x y : Int32} (hd : decode cc pc = .ok (.iadd, 1)) (kk : Zw p l e R s m args below meth c D A K n ad nL Q (pc + 1) ls (.int (x + y) :: st) t) : Zw p l e R s m args below meth c D A K n ad nL Q (pc) ls (.int y :: .int x :: st) t := fun H locs la hP hS hl => lv_iadd C.1.1 C.1.2.1 hd (kk H locs la hP hS hl)
theorem z_isub (C : zC p s m args meth c cc nL ret own ws D cy n ad A) (pc : Nat) {x y : Int32} (hd : decode cc pc = .ok (.isub, 1)) (kk : Zw p l e R s m args below meth c D A K n ad nL Q (pc + 1) ls (.int (x - y) :: st) t) : Zw p l e R s m args below meth c D A K n ad nL Q (pc) ls (.int y :: .int x :: st) t := fun H locs la hP hS hl => lv_isub C.1.1 C.1.2.1 hd (kk H locs la hP hS hl)
theorem z_imul (C : zC p s m args meth c cc nL ret own ws D cy n ad A) (pc : Nat) {x y : Int32} (hd : decode cc pc = .ok (.imul, 1)) (kk : Zw p l e R s m args below meth c D A K n ad nL Q (pc + 1) ls (.int (x * y) :: st) t) : Zw p l e R s m args below meth c D A K n ad nL Q (pc) ls (.int y :: .int x :: st) t := fun H locs la hP hS hl => lv_imul C.1.1 C.1.2.1 hd (kk H locs la hP hS hl)
theorem z_iand (C : zC p s m args meth c cc nL ret own ws D cy n ad A) (pc : Nat) {x y : Int32} (hd : decode cc pc = .ok (.iand, 1)) (kk : Zw p l e R s m args below meth c D A K n ad nL Q (pc + 1) ls (.int (x &&& y) :: st) t) : Zw p l e R s m args below meth c D A K n ad nL Q (pc) ls (.int y :: .int x :: st) t := fun H locs la hP hS hl => lv_iand C.1.1 C.1.2.1 hd (kk H locs la hP hS hl)
theorem z_ior (C : zC p s m args meth c cc nL ret own ws D cy n ad A) (pc : Nat) {x y : Int32} (hd : decode cc pc = .ok (.ior, 1)) (kk : Zw p l e R s m args below meth c D A K n ad nL Q (pc + 1) ls (.int (x ||| y) :: st) t) : Zw p l e R s m args below meth c D A K n ad nL Q (pc) ls (.int y :: .int x :: st) t := fun H locs la hP hS hl => lv_ior C.1.1 C.1.2.1 hd (kk H locs la hP hS hl)
def zrem (x y : Int32) : Int32 := x - x / y * y
theorem zrem_n {a b : Nat} (ha : a < 2 ^ 31) (h0 : 0 < b) (hb : b < 2 ^ 31) : zrem (nI a) (nI b) = nI (a % b) := pk_rem ha h0 hb
theorem z_idiv (C : zC p s m args meth c cc nL ret own ws D cy n ad A) (pc : Nat) {x y : Int32} (hd : decode cc pc = .ok (.idiv, 1)) (hne : ¬ y = 0) (kk : Zw p l e R s m args below meth c D A K n ad nL Q (pc + 1) ls (.int (x / y) :: st) t) : Zw p l e R s m args below meth c D A K n ad nL Q (pc) ls (.int y :: .int x :: st) t := fun H locs la hP hS hl => lv_idiv C.1.1 C.1.2.1 hd hne (kk H locs la hP hS hl)
theorem z_irem (C : zC p s m args meth c cc nL ret own ws D cy n ad A) (pc : Nat) {x y : Int32} (hd : decode cc pc = .ok (.irem, 1)) (hne : ¬ y = 0) (kk : Zw p l e R s m args below meth c D A K n ad nL Q (pc + 1) ls (.int (zrem x y) :: st) t) : Zw p l e R s m args below meth c D A K n ad nL Q (pc) ls (.int y :: .int x :: st) t := fun H locs la hP hS hl => lv_irem C.1.1 C.1.2.1 hd hne (kk H locs la hP hS hl)
theorem z_ineg (C : zC p s m args meth c cc nL ret own ws D cy n ad A) (pc : Nat) {x : Int32} (hd : decode cc pc = .ok (.ineg, 1)) (kk : Zw p l e R s m args below meth c D A K n ad nL Q (pc + 1) ls (.int (-x) :: st) t) : Zw p l e R s m args below meth c D A K n ad nL Q (pc) ls (.int x :: st) t := fun H locs la hP hS hl => lv_ineg C.1.1 C.1.2.1 hd (kk H locs la hP hS hl)
theorem z_dup (C : zC p s m args meth c cc nL ret own ws D cy n ad A) (pc : Nat) {va : Value} (hd : decode cc pc = .ok (.dup, 1)) (hv : va.category = 1) (kk : Zw p l e R s m args below meth c D A K n ad nL Q (pc + 1) ls (va :: va :: st) t) : Zw p l e R s m args below meth c D A K n ad nL Q (pc) ls (va :: st) t := fun H locs la hP hS hl => lv_dup C.1.1 C.1.2.1 hd hv (kk H locs la hP hS hl)
theorem z_pop (C : zC p s m args meth c cc nL ret own ws D cy n ad A) (pc : Nat) {va : Value} (hd : decode cc pc = .ok (.pop, 1)) (hv : va.category = 1) (kk : Zw p l e R s m args below meth c D A K n ad nL Q (pc + 1) ls st t) : Zw p l e R s m args below meth c D A K n ad nL Q (pc) ls (va :: st) t := fun H locs la hP hS hl => lv_pop C.1.1 C.1.2.1 hd hv (kk H locs la hP hS hl)
theorem z_dup2 (C : zC p s m args meth c cc nL ret own ws D cy n ad A) (pc : Nat) {va vb : Value} (hd : decode cc pc = .ok (.dup2, 1)) (hv : va.category = 1) (hw : vb.category = 1) (kk : Zw p l e R s m args below meth c D A K n ad nL Q (pc + 1) ls (va :: vb :: va :: vb :: st) t) : Zw p l e R s m args below meth c D A K n ad nL Q (pc) ls (va :: vb :: st) t := fun H locs la hP hS hl => lv_dup2_11 C.1.1 C.1.2.1 hd hv hw (kk H locs la hP hS hl)
-- branches: the conditions as the kit has them
theorem z_icmp_eq (C : zC p s m args meth c cc nL ret own ws D cy n ad A) (pc : Nat) {x y : Int32} {off : Int} (tgt : Nat) (hd : decode cc pc = .ok (.if_icmp .eq off, 3)) (ht : (pc : Int) + off = (tgt : Int)) (kt : x = y → Zw p l e R s m args below meth c D A K n ad nL Q (tgt) ls st t) (kf : ¬ (x = y) → Zw p l e R s m args below meth c D A K n ad nL Q (pc + 3) ls st t) : Zw p l e R s m args below meth c D A K n ad nL Q (pc) ls (.int y :: .int x :: st) t := fun H locs la hP hS hl => lv_icmp_eq C.1.1 C.1.2.1 hd ht (fun q => kt q H locs la hP hS hl) (fun q => kf q H locs la hP hS hl)
theorem z_if_eq (C : zC p s m args meth c cc nL ret own ws D cy n ad A) (pc : Nat) {x : Int32} {off : Int} (tgt : Nat) (hd : decode cc pc = .ok (.ifCond .eq off, 3)) (ht : (pc : Int) + off = (tgt : Int)) (kt : x = 0 → Zw p l e R s m args below meth c D A K n ad nL Q (tgt) ls st t) (kf : ¬ (x = 0) → Zw p l e R s m args below meth c D A K n ad nL Q (pc + 3) ls st t) : Zw p l e R s m args below meth c D A K n ad nL Q (pc) ls (.int x :: st) t := fun H locs la hP hS hl => lv_if_eq C.1.1 C.1.2.1 hd ht (fun q => kt q H locs la hP hS hl) (fun q => kf q H locs la hP hS hl)
theorem z_icmp_ne (C : zC p s m args meth c cc nL ret own ws D cy n ad A) (pc : Nat) {x y : Int32} {off : Int} (tgt : Nat) (hd : decode cc pc = .ok (.if_icmp .ne off, 3)) (ht : (pc : Int) + off = (tgt : Int)) (kt : ¬ x = y → Zw p l e R s m args below meth c D A K n ad nL Q (tgt) ls st t) (kf : x = y → Zw p l e R s m args below meth c D A K n ad nL Q (pc + 3) ls st t) : Zw p l e R s m args below meth c D A K n ad nL Q (pc) ls (.int y :: .int x :: st) t := fun H locs la hP hS hl => lv_icmp_ne C.1.1 C.1.2.1 hd ht (fun q => kt q H locs la hP hS hl) (fun q => kf q H locs la hP hS hl)
theorem z_if_ne (C : zC p s m args meth c cc nL ret own ws D cy n ad A) (pc : Nat) {x : Int32} {off : Int} (tgt : Nat) (hd : decode cc pc = .ok (.ifCond .ne off, 3)) (ht : (pc : Int) + off = (tgt : Int)) (kt : ¬ x = 0 → Zw p l e R s m args below meth c D A K n ad nL Q (tgt) ls st t) (kf : x = 0 → Zw p l e R s m args below meth c D A K n ad nL Q (pc + 3) ls st t) : Zw p l e R s m args below meth c D A K n ad nL Q (pc) ls (.int x :: st) t := fun H locs la hP hS hl => lv_if_ne C.1.1 C.1.2.1 hd ht (fun q => kt q H locs la hP hS hl) (fun q => kf q H locs la hP hS hl)
theorem z_icmp_lt (C : zC p s m args meth c cc nL ret own ws D cy n ad A) (pc : Nat) {x y : Int32} {off : Int} (tgt : Nat) (hd : decode cc pc = .ok (.if_icmp .lt off, 3)) (ht : (pc : Int) + off = (tgt : Int)) (kt : x < y → Zw p l e R s m args below meth c D A K n ad nL Q (tgt) ls st t) (kf : ¬ (x < y) → Zw p l e R s m args below meth c D A K n ad nL Q (pc + 3) ls st t) : Zw p l e R s m args below meth c D A K n ad nL Q (pc) ls (.int y :: .int x :: st) t := fun H locs la hP hS hl => lv_icmp_lt C.1.1 C.1.2.1 hd ht (fun q => kt q H locs la hP hS hl) (fun q => kf q H locs la hP hS hl)
theorem z_if_lt (C : zC p s m args meth c cc nL ret own ws D cy n ad A) (pc : Nat) {x : Int32} {off : Int} (tgt : Nat) (hd : decode cc pc = .ok (.ifCond .lt off, 3)) (ht : (pc : Int) + off = (tgt : Int)) (kt : x < 0 → Zw p l e R s m args below meth c D A K n ad nL Q (tgt) ls st t) (kf : ¬ (x < 0) → Zw p l e R s m args below meth c D A K n ad nL Q (pc + 3) ls st t) : Zw p l e R s m args below meth c D A K n ad nL Q (pc) ls (.int x :: st) t := fun H locs la hP hS hl => lv_if_lt C.1.1 C.1.2.1 hd ht (fun q => kt q H locs la hP hS hl) (fun q => kf q H locs la hP hS hl)
theorem z_icmp_ge (C : zC p s m args meth c cc nL ret own ws D cy n ad A) (pc : Nat) {x y : Int32} {off : Int} (tgt : Nat) (hd : decode cc pc = .ok (.if_icmp .ge off, 3)) (ht : (pc : Int) + off = (tgt : Int)) (kt : y ≤ x → Zw p l e R s m args below meth c D A K n ad nL Q (tgt) ls st t) (kf : ¬ (y ≤ x) → Zw p l e R s m args below meth c D A K n ad nL Q (pc + 3) ls st t) : Zw p l e R s m args below meth c D A K n ad nL Q (pc) ls (.int y :: .int x :: st) t := fun H locs la hP hS hl => lv_icmp_ge C.1.1 C.1.2.1 hd ht (fun q => kt q H locs la hP hS hl) (fun q => kf q H locs la hP hS hl)
theorem z_if_ge (C : zC p s m args meth c cc nL ret own ws D cy n ad A) (pc : Nat) {x : Int32} {off : Int} (tgt : Nat) (hd : decode cc pc = .ok (.ifCond .ge off, 3)) (ht : (pc : Int) + off = (tgt : Int)) (kt : 0 ≤ x → Zw p l e R s m args below meth c D A K n ad nL Q (tgt) ls st t) (kf : ¬ (0 ≤ x) → Zw p l e R s m args below meth c D A K n ad nL Q (pc + 3) ls st t) : Zw p l e R s m args below meth c D A K n ad nL Q (pc) ls (.int x :: st) t := fun H locs la hP hS hl => lv_if_ge C.1.1 C.1.2.1 hd ht (fun q => kt q H locs la hP hS hl) (fun q => kf q H locs la hP hS hl)
theorem z_icmp_gt (C : zC p s m args meth c cc nL ret own ws D cy n ad A) (pc : Nat) {x y : Int32} {off : Int} (tgt : Nat) (hd : decode cc pc = .ok (.if_icmp .gt off, 3)) (ht : (pc : Int) + off = (tgt : Int)) (kt : y < x → Zw p l e R s m args below meth c D A K n ad nL Q (tgt) ls st t) (kf : ¬ (y < x) → Zw p l e R s m args below meth c D A K n ad nL Q (pc + 3) ls st t) : Zw p l e R s m args below meth c D A K n ad nL Q (pc) ls (.int y :: .int x :: st) t := fun H locs la hP hS hl => lv_icmp_gt C.1.1 C.1.2.1 hd ht (fun q => kt q H locs la hP hS hl) (fun q => kf q H locs la hP hS hl)
theorem z_if_gt (C : zC p s m args meth c cc nL ret own ws D cy n ad A) (pc : Nat) {x : Int32} {off : Int} (tgt : Nat) (hd : decode cc pc = .ok (.ifCond .gt off, 3)) (ht : (pc : Int) + off = (tgt : Int)) (kt : 0 < x → Zw p l e R s m args below meth c D A K n ad nL Q (tgt) ls st t) (kf : ¬ (0 < x) → Zw p l e R s m args below meth c D A K n ad nL Q (pc + 3) ls st t) : Zw p l e R s m args below meth c D A K n ad nL Q (pc) ls (.int x :: st) t := fun H locs la hP hS hl => lv_if_gt C.1.1 C.1.2.1 hd ht (fun q => kt q H locs la hP hS hl) (fun q => kf q H locs la hP hS hl)
theorem z_icmp_le (C : zC p s m args meth c cc nL ret own ws D cy n ad A) (pc : Nat) {x y : Int32} {off : Int} (tgt : Nat) (hd : decode cc pc = .ok (.if_icmp .le off, 3)) (ht : (pc : Int) + off = (tgt : Int)) (kt : x ≤ y → Zw p l e R s m args below meth c D A K n ad nL Q (tgt) ls st t) (kf : ¬ (x ≤ y) → Zw p l e R s m args below meth c D A K n ad nL Q (pc + 3) ls st t) : Zw p l e R s m args below meth c D A K n ad nL Q (pc) ls (.int y :: .int x :: st) t := fun H locs la hP hS hl => lv_icmp_le C.1.1 C.1.2.1 hd ht (fun q => kt q H locs la hP hS hl) (fun q => kf q H locs la hP hS hl)
theorem z_if_le (C : zC p s m args meth c cc nL ret own ws D cy n ad A) (pc : Nat) {x : Int32} {off : Int} (tgt : Nat) (hd : decode cc pc = .ok (.ifCond .le off, 3)) (ht : (pc : Int) + off = (tgt : Int)) (kt : x ≤ 0 → Zw p l e R s m args below meth c D A K n ad nL Q (tgt) ls st t) (kf : ¬ (x ≤ 0) → Zw p l e R s m args below meth c D A K n ad nL Q (pc + 3) ls st t) : Zw p l e R s m args below meth c D A K n ad nL Q (pc) ls (.int x :: st) t := fun H locs la hP hS hl => lv_if_le C.1.1 C.1.2.1 hd ht (fun q => kt q H locs la hP hS hl) (fun q => kf q H locs la hP hS hl)
theorem z_goto (C : zC p s m args meth c cc nL ret own ws D cy n ad A) (pc : Nat) {off : Int} (tgt : Nat) (hd : decode cc pc = .ok (.goto off, 3)) (ht : (pc : Int) + off = (tgt : Int)) (kk : Zw p l e R s m args below meth c D A K n ad nL Q (tgt) ls st t) : Zw p l e R s m args below meth c D A K n ad nL Q (pc) ls st t := fun H locs la hP hS hl => lv_goto C.1.1 C.1.2.1 hd ht (kk H locs la hP hS hl)
theorem z_ifnull (C : zC p s m args meth c cc nL ret own ws D cy n ad A) (pc : Nat) {x : Nat} {off : Int} (hd : decode cc pc = .ok (.ifnull off, 3)) (kk : Zw p l e R s m args below meth c D A K n ad nL Q (pc + 3) ls st t) : Zw p l e R s m args below meth c D A K n ad nL Q (pc) ls (.ref x :: st) t := fun H locs la hP hS hl => lv_ifnull C.1.1 C.1.2.1 hd (kk H locs la hP hS hl)
theorem z_ifnullN (C : zC p s m args meth c cc nL ret own ws D cy n ad A) (pc : Nat) {off : Int} (tgt : Nat) (hd : decode cc pc = .ok (.ifnull off, 3)) (ht : (pc : Int) + off = (tgt : Int)) (kk : Zw p l e R s m args below meth c D A K n ad nL Q (tgt) ls st t) : Zw p l e R s m args below meth c D A K n ad nL Q (pc) ls (.null :: st) t := fun H locs la hP hS hl => lv_ifnullN C.1.1 C.1.2.1 hd ht (kk H locs la hP hS hl)
theorem z_ifnonnull (C : zC p s m args meth c cc nL ret own ws D cy n ad A) (pc : Nat) {x : Nat} {off : Int} (tgt : Nat) (hd : decode cc pc = .ok (.ifnonnull off, 3)) (ht : (pc : Int) + off = (tgt : Int)) (kk : Zw p l e R s m args below meth c D A K n ad nL Q (tgt) ls st t) : Zw p l e R s m args below meth c D A K n ad nL Q (pc) ls (.ref x :: st) t := fun H locs la hP hS hl => lv_ifnonnull C.1.1 C.1.2.1 hd ht (kk H locs la hP hS hl)
theorem z_ifnonnullN (C : zC p s m args meth c cc nL ret own ws D cy n ad A) (pc : Nat) {off : Int} (hd : decode cc pc = .ok (.ifnonnull off, 3)) (kk : Zw p l e R s m args below meth c D A K n ad nL Q (pc + 3) ls st t) : Zw p l e R s m args below meth c D A K n ad nL Q (pc) ls (.null :: st) t := fun H locs la hP hS hl => lv_ifnonnullN C.1.1 C.1.2.1 hd (kk H locs la hP hS hl)
theorem z_null (C : zC p s m args meth c cc nL ret own ws D cy n ad A) (pc : Nat) (hd : decode cc pc = .ok (.aconst_null, 1)) (kk : Zw p l e R s m args below meth c D A K n ad nL Q (pc + 1) ls (.null :: st) t) : Zw p l e R s m args below meth c D A K n ad nL Q (pc) ls st t := fun H locs la hP hS hl => lv_null C.1.1 C.1.2.1 hd (kk H locs la hP hS hl)
theorem z_tableOut (C : zC p s m args meth c cc nL ret own ws D cy n ad A) (pc : Nat) {dflt lo hi : Int} {offs : Array Int} {len : Nat} {x : Int32} (tgt : Nat) (hd : decode cc pc = .ok (.tableswitch dflt lo hi offs, len)) (h : x.toInt < lo ∨ hi < x.toInt) (ht : (pc : Int) + dflt = (tgt : Int)) (kk : Zw p l e R s m args below meth c D A K n ad nL Q (tgt) ls st t) : Zw p l e R s m args below meth c D A K n ad nL Q (pc) ls (.int x :: st) t := fun H locs la hP hS hl => lv_tableOut C.1.1 C.1.2.1 hd h ht (kk H locs la hP hS hl)
theorem z_tableIn (C : zC p s m args meth c cc nL ret own ws D cy n ad A) (pc : Nat) {dflt lo hi : Int} {offs : Array Int} {len : Nat} {x : Int32} {off : Int} (tgt : Nat) (hd : decode cc pc = .ok (.tableswitch dflt lo hi offs, len)) (h1 : ¬ x.toInt < lo) (h2 : ¬ hi < x.toInt) (ho : offs[(x.toInt - lo).toNat]? = some off) (ht : (pc : Int) + off = (tgt : Int)) (kk : Zw p l e R s m args below meth c D A K n ad nL Q (tgt) ls st t) : Zw p l e R s m args below meth c D A K n ad nL Q (pc) ls (.int x :: st) t := fun H locs la hP hS hl => lv_tableIn C.1.1 C.1.2.1 hd h1 h2 ho ht (kk H locs la hP hS hl)
theorem z_lookup (C : zC p s m args meth c cc nL ret own ws D cy n ad A) (pc : Nat) {dflt : Int} {ps : Array (Int × Int)} {len : Nat} {x : Int32} {off : Int} (tgt : Nat) (hd : decode cc pc = .ok (.lookupswitch dflt ps, len)) (hp : (ps.toList.zip (ps.toList.drop 1)).all (fun (a, next) => a.1 < next.1) = true) (ho : Op.lookupswitch.offset ps.toList dflt x.toInt = off) (ht : (pc : Int) + off = (tgt : Int)) (kk : Zw p l e R s m args below meth c D A K n ad nL Q (tgt) ls st t) : Zw p l e R s m args below meth c D A K n ad nL Q (pc) ls (.int x :: st) t := fun H locs la hP hS hl => lv_lookup C.1.1 C.1.2.1 hd hp ho ht (kk H locs la hP hS hl)
theorem z_ls {pc : Nat} (ks : List Nat) (ls' : List (Nat × Value)) (h : lv_pick ls ks = ls') (kk : Zw p l e R s m args below meth c D A K n ad nL Q pc ls' st t) : Zw p l e R s m args below meth c D A K n ad nL Q pc ls st t := fun H locs la hP hS hl => kk H locs la hP hS (lv_sub hl ks h)
theorem z_topi {pc : Nat} {x : Int32} (kk : ∀ y : Int32, y = x → Zw p l e R s m args below meth c D A K n ad nL Q pc ls (.int y :: st) t) : Zw p l e R s m args below meth c D A K n ad nL Q pc ls (.int x :: st) t := kk x rfl
theorem z_nv {pc : Nat} {x : Int32} (y : Int32) (h : x = y) (kk : Zw p l e R s m args below meth c D A K n ad nL Q pc ls (.int y :: st) t) : Zw p l e R s m args below meth c D A K n ad nL Q pc ls (.int x :: st) t := h ▸ kk
theorem z_nt {pc : Nat} (t1 : zM) (h : t = t1) (kk : Zw p l e R s m args below meth c D A K n ad nL Q pc ls st t1) : Zw p l e R s m args below meth c D A K n ad nL Q pc ls st t := h ▸ kk
theorem z_cast {pc : Nat} {st2 : List Value} (h : st = st2) (kk : Zw p l e R s m args below meth c D A K n ad nL Q pc ls st2 t) : Zw p l e R s m args below meth c D A K n ad nL Q pc ls st t := h ▸ kk
theorem z_geti (C : zC p s m args meth c cc nL ret own ws D cy n ad A) (pc : Nat) {ci idx N : Nat} {Cn : String} {T : u_T} {fs : (Nat → Int32) → List Value} (id : Nat) (k : Nat) (hd : decode cc pc = .ok (.getfield idx, 3)) (hid : id < n) (he : ∀ f, K ad id f = .inr (ci, fs f)) (hin : ∀ w ∈ u_ws Cn T N, w ∈ ws) (hc : vwCl[ci]? = some (Cn, T, N)) (hk : k < N) (hw : Cond.fieldLink own idx (T k).1 (T k).2.1 (T k).2.2.1 ∈ ws) (hv : ∀ g : Nat → Int32, (fs g)[k]? = some (.int (g k))) (kk : Zw p l e R s m args below meth c D A K n ad nL Q (pc + 3) ls (.int (t id k) :: st) t) : Zw p l e R s m args below meth c D A K n ad nL Q (pc) ls (.ref (ad id) :: st) t := fun H locs la hP hS hl =>
  va_get C.1.1 C.1.2.1 C.1.2.2.2.2 hin C.1.2.2.2.1 C.2.1 hP id (zw_at hid (he _)) hc k hk (C.1.2.2.2.2 _ hw) (fun _ h9 => h9) (hv _) hd (kk H locs la hP hS hl)
theorem z_getr (C : zC p s m args meth c cc nL ret own ws D cy n ad A) (pc : Nat) {ci idx N : Nat} {Cn : String} {T : u_T} {fs : (Nat → Int32) → List Value} {a9 : Nat} (id : Nat) (k : Nat) (hd : decode cc pc = .ok (.getfield idx, 3)) (hid : id < n) (he : ∀ f, K ad id f = .inr (ci, fs f)) (hin : ∀ w ∈ u_ws Cn T N, w ∈ ws) (hc : vwCl[ci]? = some (Cn, T, N)) (hk : k < N) (hw : Cond.fieldLink own idx (T k).1 (T k).2.1 (T k).2.2.1 ∈ ws) (hv : ∀ g : Nat → Int32, (fs g)[k]? = some (.ref a9)) (kk : Zw p l e R s m args below meth c D A K n ad nL Q (pc + 3) ls (.ref a9 :: st) t) : Zw p l e R s m args below meth c D A K n ad nL Q (pc) ls (.ref (ad id) :: st) t := fun H locs la hP hS hl =>
  va_get C.1.1 C.1.2.1 C.1.2.2.2.2 hin C.1.2.2.2.1 C.2.1 hP id (zw_at hid (he _)) hc k hk (C.1.2.2.2.2 _ hw) (fun _ h9 => h9) (hv _) hd (kk H locs la hP hS hl)
theorem z_put (C : zC p s m args meth c cc nL ret own ws D cy n ad A) (pc : Nat) {ci idx N : Nat} {Cn : String} {T : u_T} {fs : (Nat → Int32) → List Value} {v : Int32} {ty : FieldType} (id : Nat) (k : Nat) (hd : decode cc pc = .ok (.putfield idx, 3)) (hid : id < n) (he : ∀ f, K ad id f = .inr (ci, fs f)) (hin : ∀ w ∈ u_ws Cn T N, w ∈ ws) (ty0 : Nat → FieldType) (hty : ∀ k, k < N → parseFieldDescriptor (T k).2.2.1 = some (ty0 k)) (hnm : ∀ a, a < N → ∀ b, b < N → a ≠ b → (T a).2.1 ≠ (T b).2.1) (hc : vwCl[ci]? = some (Cn, T, N)) (hk : k < N) (hw : Cond.fieldLink own idx (T k).1 (T k).2.1 (T k).2.2.1 ∈ ws) (hfin : (T k).2.2.2 = false) (hdd : parseFieldDescriptor (T k).2.2.1 = some ty) (hnn : narrow ty (.int v) = .int v) (hfit : fits ty (.int v) = true) (hl9 : ∀ g : Nat → Int32, k < (fs g).length) (he2 : ∀ (g : Nat → Int32) (w : Int32), fs (upd g k w) = (fs g).set k (.int w)) (kk : Zw p l e R s m args below meth c D A K n ad nL Q (pc + 3) ls st (zset t id k v)) : Zw p l e R s m args below meth c D A K n ad nL Q (pc) ls (.int v :: .ref (ad id) :: st) t := fun H locs la hP hS hl =>
  va_put C.1.1 C.1.2.1 C.1.2.2.2.2 hin ty0 hty hnm C.1.2.2.2.1 C.2.1 hP C.2.2.1.D hS id (zw_at hid (he _)) hc k hk (C.1.2.2.2.2 _ hw) (fun _ h9 => h9) hfin hdd hnn hfit (hl9 _) hd (fun H1 locs1 hP1 hD1 hS1 => kk H1 locs1 la (by rw [← zset_up, ← zw_set hid ((he _).trans (by rw [he2]))]; exact hP1) hS1 hl)
theorem z_getiN (C : zC p s m args meth c cc nL ret own ws D cy n ad A) (pc : Nat) {ci idx N : Nat} {Cn host : String} {T : u_T} {fs : (Nat → Int32) → List Value} (id : Nat) (k : Nat) (hd : decode cc pc = .ok (.getfield idx, 3)) (hid : id < n) (he : ∀ f, K ad id f = .inr (ci, fs f)) (hin : ∀ w ∈ u_ws Cn T N, w ∈ ws) (hc : vwCl[ci]? = some (Cn, T, N)) (hk : k < N) (hw : Cond.fieldLinkNest own idx (T k).1 (T k).2.1 (T k).2.2.1 host ∈ zNests) (hv : ∀ g : Nat → Int32, (fs g)[k]? = some (.int (g k))) (kk : Zw p l e R s m args below meth c D A K n ad nL Q (pc + 3) ls (.int (t id k) :: st) t) : Zw p l e R s m args below meth c D A K n ad nL Q (pc) ls (.ref (ad id) :: st) t := fun H locs la hP hS hl =>
  va_getN C.1.1 C.1.2.1 C.1.2.2.2.2 hin C.1.2.2.2.1 C.2.1 hP id (zw_at hid (he _)) hc k hk (va_Nw.use rfl (C.2.2.2.2.2.2 _ hw)) (fun _ h9 => h9) (hv _) hd (kk H locs la hP hS hl)
theorem z_getrN (C : zC p s m args meth c cc nL ret own ws D cy n ad A) (pc : Nat) {ci idx N : Nat} {Cn host : String} {T : u_T} {fs : (Nat → Int32) → List Value} {a9 : Nat} (id : Nat) (k : Nat) (hd : decode cc pc = .ok (.getfield idx, 3)) (hid : id < n) (he : ∀ f, K ad id f = .inr (ci, fs f)) (hin : ∀ w ∈ u_ws Cn T N, w ∈ ws) (hc : vwCl[ci]? = some (Cn, T, N)) (hk : k < N) (hw : Cond.fieldLinkNest own idx (T k).1 (T k).2.1 (T k).2.2.1 host ∈ zNests) (hv : ∀ g : Nat → Int32, (fs g)[k]? = some (.ref a9)) (kk : Zw p l e R s m args below meth c D A K n ad nL Q (pc + 3) ls (.ref a9 :: st) t) : Zw p l e R s m args below meth c D A K n ad nL Q (pc) ls (.ref (ad id) :: st) t := fun H locs la hP hS hl =>
  va_getN C.1.1 C.1.2.1 C.1.2.2.2.2 hin C.1.2.2.2.1 C.2.1 hP id (zw_at hid (he _)) hc k hk (va_Nw.use rfl (C.2.2.2.2.2.2 _ hw)) (fun _ h9 => h9) (hv _) hd (kk H locs la hP hS hl)
theorem z_putN (C : zC p s m args meth c cc nL ret own ws D cy n ad A) (pc : Nat) {ci idx N : Nat} {Cn host : String} {T : u_T} {fs : (Nat → Int32) → List Value} {v : Int32} {ty : FieldType} (id : Nat) (k : Nat) (hd : decode cc pc = .ok (.putfield idx, 3)) (hid : id < n) (he : ∀ f, K ad id f = .inr (ci, fs f)) (hin : ∀ w ∈ u_ws Cn T N, w ∈ ws) (ty0 : Nat → FieldType) (hty : ∀ k, k < N → parseFieldDescriptor (T k).2.2.1 = some (ty0 k)) (hnm : ∀ a, a < N → ∀ b, b < N → a ≠ b → (T a).2.1 ≠ (T b).2.1) (hc : vwCl[ci]? = some (Cn, T, N)) (hk : k < N) (hw : Cond.fieldLinkNest own idx (T k).1 (T k).2.1 (T k).2.2.1 host ∈ zNests) (hfin : (T k).2.2.2 = false) (hdd : parseFieldDescriptor (T k).2.2.1 = some ty) (hnn : narrow ty (.int v) = .int v) (hfit : fits ty (.int v) = true) (hl9 : ∀ g : Nat → Int32, k < (fs g).length) (he2 : ∀ (g : Nat → Int32) (w : Int32), fs (upd g k w) = (fs g).set k (.int w)) (kk : Zw p l e R s m args below meth c D A K n ad nL Q (pc + 3) ls st (zset t id k v)) : Zw p l e R s m args below meth c D A K n ad nL Q (pc) ls (.int v :: .ref (ad id) :: st) t := fun H locs la hP hS hl =>
  va_putN C.1.1 C.1.2.1 C.1.2.2.2.2 hin ty0 hty hnm C.1.2.2.2.1 C.2.1 hP C.2.2.1.D hS id (zw_at hid (he _)) hc k hk (va_Nw.use rfl (C.2.2.2.2.2.2 _ hw)) (fun _ h9 => h9) hfin hdd hnn hfit (hl9 _) hd (fun H1 locs1 hP1 hD1 hS1 => kk H1 locs1 la (by rw [← zset_up, ← zw_set hid ((he _).trans (by rw [he2]))]; exact hP1) hS1 hl)
theorem z_iald (C : zC p s m args meth c cc nL ret own ws D cy n ad A) (pc : Nat) {nn : Nat} {i : Int32} (id : Nat) (hd : decode cc pc = .ok (.iaload, 1)) (hid : id < n) (he : ∀ f, K ad id f = .inl (cy 0, nn, .inl f)) (hin : vp_in i nn) (kk : Zw p l e R s m args below meth c D A K n ad nL Q (pc + 1) ls (.int (t id i.toNatClampNeg) :: st) t) : Zw p l e R s m args below meth c D A K n ad nL Q (pc) ls (.int i :: .ref (ad id) :: st) t := fun H locs la hP hS hl =>
  va_iald C.1.1 C.1.2.1 C.2.1 hP id 0 (zw_at hid (he _)) rfl hin hd (kk H locs la hP hS hl)
theorem z_ialdN (C : zC p s m args meth c cc nL ret own ws D cy n ad A) (pc : Nat) {nn : Nat} {i : Int32} (id k : Nat) (hd : decode cc pc = .ok (.iaload, 1)) (hid : id < n) (he : ∀ f, K ad id f = .inl (cy 0, nn, .inl f)) (hi : i = nI k) (hk : k < nn) (hnn : nn < 2 ^ 31) (kk : Zw p l e R s m args below meth c D A K n ad nL Q (pc + 1) ls (.int (t id k) :: st) t) : Zw p l e R s m args below meth c D A K n ad nL Q (pc) ls (.int i :: .ref (ad id) :: st) t := fun H locs la hP hS hl => by
  subst hi
  refine va_iald C.1.1 C.1.2.1 C.2.1 hP id 0 (zw_at hid (he _)) rfl (vp_in_nI hk hnn) hd ?_
  rw [nI_clamp (by omega)]
  exact (kk H locs la hP hS hl)
theorem z_iast (C : zC p s m args meth c cc nL ret own ws D cy n ad A) (pc : Nat) {nn : Nat} {i x : Int32} (id : Nat) (hd : decode cc pc = .ok (.iastore, 1)) (hid : id < n) (he : ∀ f, K ad id f = .inl (cy 0, nn, .inl f)) (hin : vp_in i nn) (kk : Zw p l e R s m args below meth c D A K n ad nL Q (pc + 1) ls st (zset t id i.toNatClampNeg x)) : Zw p l e R s m args below meth c D A K n ad nL Q (pc) ls (.int x :: .int i :: .ref (ad id) :: st) t := fun H locs la hP hS hl =>
  va_iast C.1.1 C.1.2.1 C.2.1 hP C.2.2.1.D hS id 0 (zw_at hid (he _)) rfl hin hd (fun H1 locs1 hP1 hD1 hS1 => kk H1 locs1 la (by rw [← zset_up, ← zw_set hid (he _)]; exact hP1) hS1 hl)
theorem z_iastN (C : zC p s m args meth c cc nL ret own ws D cy n ad A) (pc : Nat) {nn : Nat} {i x : Int32} (id k : Nat) (hd : decode cc pc = .ok (.iastore, 1)) (hid : id < n) (he : ∀ f, K ad id f = .inl (cy 0, nn, .inl f)) (hi : i = nI k) (hk : k < nn) (hnn : nn < 2 ^ 31) (kk : Zw p l e R s m args below meth c D A K n ad nL Q (pc + 1) ls st (zset t id k x)) : Zw p l e R s m args below meth c D A K n ad nL Q (pc) ls (.int x :: .int i :: .ref (ad id) :: st) t := by
  subst hi
  exact z_iast C pc id hd hid he (vp_in_nI hk hnn) (by rw [nI_clamp (by omega)]; exact kk)
theorem z_aald (C : zC p s m args meth c cc nL ret own ws D cy n ad A) (pc : Nat) {nn : Nat} {f9 : Nat → Option Nat} {i : Int32} {Cn : String} (id t0 k a : Nat) (hd : decode cc pc = .ok (.aaload, 1)) (hid : id < n) (he : ∀ f, K ad id f = .inl (cy t0, nn, .inr (.inr (.inr (.inr f9))))) (ht : (ztys cy)[t0]? = some (cy t0, .object Cn)) (hi : i = nI k) (hk : k < nn) (hnn : nn < 2 ^ 31) (hv : f9 k = some a) (kk : Zw p l e R s m args below meth c D A K n ad nL Q (pc + 1) ls (.ref a :: st) t) : Zw p l e R s m args below meth c D A K n ad nL Q (pc) ls (.int i :: .ref (ad id) :: st) t := fun H locs la hP hS hl => by
  subst hi
  refine va_aldq C.1.1 C.1.2.1 C.2.1 hP id t0 (zw_at hid (he _)) ht (vp_in_nI hk hnn) hd ?_
  rw [nI_clamp (by omega), hv]
  exact (kk H locs la hP hS hl)
theorem z_alen (C : zC p s m args meth c cc nL ret own ws D cy n ad A) (pc : Nat) {x : (Nat → Int32) → vp_A} {v : Int32} {ty : FieldType} (id t0 : Nat) (hd : decode cc pc = .ok (.arraylength, 1)) (hid : id < n) (he : ∀ f, K ad id f = .inl (cy t0, x f)) (ht : (ztys cy)[t0]? = some (cy t0, ty)) (hv : Int32.ofNat (x (t id)).1 = v) (kk : Zw p l e R s m args below meth c D A K n ad nL Q (pc + 1) ls (.int v :: st) t) : Zw p l e R s m args below meth c D A K n ad nL Q (pc) ls (.ref (ad id) :: st) t := fun H locs la hP hS hl =>
  va_alen C.1.1 C.1.2.1 C.2.1 hP id t0 (zw_at hid (he _)) ht hv hd (kk H locs la hP hS hl)
theorem z_iret (C : zC p s m args meth c cc nL ret own ws D cy n ad A) (pc : Nat) {post : Int32 → zM → Prop} {x : Int32} {t0 : zM} (hA : A = va_A (zw K n ad t0) s.heap.size) (hQ : Q = MQ below (zEi D K n ad t0 s.heap.size post) args s 0 0 A) (hr : ret = some .int) (hd : decode cc pc = .ok (.ireturn, 1)) (hp : post x t) : Zw p l e R s m args below meth c D A K n ad nL Q pc ls [.int x] t := fun H locs la hP hS hl => by
  subst hA; subst hQ
  exact W.iret C.1.1 C.1.2.1 (C.2.2.2.2.1.trans hr) (fun u hu hW => ⟨⟨x, t, rfl, hp, by rw [← hu] at hP; exact hP⟩, hS.F hu⟩) hS.2.2 hd C.2.2.2.2.2.1
theorem z_zret (C : zC p s m args meth c cc nL ret own ws D cy n ad A) (pc : Nat) {post : Int32 → zM → Prop} {x : Int32} {t0 : zM} (hA : A = va_A (zw K n ad t0) s.heap.size) (hQ : Q = MQ below (zEi D K n ad t0 s.heap.size post) args s 0 0 A) (hr : ret = some .boolean) (hx : x = 0 ∨ x = 1) (hd : decode cc pc = .ok (.ireturn, 1)) (hp : post x t) : Zw p l e R s m args below meth c D A K n ad nL Q pc ls [.int x] t := fun H locs la hP hS hl => by
  subst hA; subst hQ
  exact W.zret C.1.1 C.1.2.1 (C.2.2.2.2.1.trans hr) (by rcases hx with rfl | rfl <;> decide +kernel) (fun u hu hW => ⟨⟨x, t, rfl, hp, by rw [← hu] at hP; exact hP⟩, hS.F hu⟩) hS.2.2 hd C.2.2.2.2.2.1
theorem z_vret (C : zC p s m args meth c cc nL ret own ws D cy n ad A) (pc : Nat) {post : zM → Prop} {t0 : zM} (hA : A = va_A (zw K n ad t0) s.heap.size) (hQ : Q = MQ below (zEv D K n ad t0 s.heap.size post) args s 0 0 A) (hr : ret = none) (hd : decode cc pc = .ok (.return_, 1)) (hp : post t) : Zw p l e R s m args below meth c D A K n ad nL Q pc ls [] t := fun H locs la hP hS hl => by
  subst hA; subst hQ
  exact W.vret C.1.1 C.1.2.1 (C.2.2.2.2.1.trans hr) (fun u hu hW => ⟨⟨t, rfl, hp, by rw [← hu] at hP; exact hP⟩, hS.F hu⟩) hS.2.2 hd C.2.2.2.2.2.1
theorem z_aret (C : zC p s m args meth c cc nL ret own ws D cy n ad A) (pc : Nat) {post : Option Nat → zM → Prop} {o : Option Nat} {Cn : String} {t0 : zM} {v : Value} (hA : A = va_A (zw K n ad t0) s.heap.size) (hQ : Q = MQ below (zEq D K n ad t0 s.heap.size post) args s 0 0 A) (hr : ret = some (.object Cn)) (hd : decode cc pc = .ok (.areturn, 1)) (hv : v = va_rf o) (hp : post o t) : Zw p l e R s m args below meth c D A K n ad nL Q pc ls [v] t := fun H locs la hP hS hl => by
  subst hA; subst hQ; subst hv
  exact W.aret C.1.1 C.1.2.1 (C.2.2.2.2.1.trans hr) (Or.inl ⟨_, rfl⟩) (by cases o <;> first | exact Or.inl rfl | exact Or.inr ⟨_, rfl⟩) (fun u hu hW => ⟨⟨o, t, rfl, hp, by rw [← hu] at hP; exact hP⟩, hS.F hu⟩) hS.2.2 hd C.2.2.2.2.2.1
theorem z_virtI (C : zC p s m args meth c cc nL ret own ws D cy n ad A) (pc : Nat) {idx mL k9 d d9 : Nat} {y : MethodName} {bytes : ByteArray} {ret9 : Option FieldType} {ws9 ws8 : List Cond} {As st0 : List Value} {b id ci N : Nat} {Cn : String} {T : u_T} {fs : (Nat → Int32) → List Value} {post : Int32 → zM → Prop} (hM : zI l y ws9 d9 D cy K n ad t (.ref b :: As) post) (hd : decode cc pc = .ok (.invokevirtual idx, 3)) (hws : ws9 = .code y bytes mL ret9 :: ws8) (hG : GoodIn ws (wsV own idx Cn y ws9)) (hy : y.cls = Cn ∧ y.cls ≠ "java/lang/invoke/MethodHandle" ∧ y.cls ≠ "java/lang/invoke/VarHandle" ∧ (parseMethodDescriptor y.desc).map (fun d => d.parameters.length) = some k9) (hR : R = zR d) (hdd : d9 < d) (hmL : mL ≤ 20) (hid : id < n) (hb9 : b = ad id) (he : ∀ f, K ad id f = .inr (ci, fs f)) (hc : vwCl[ci]? = some (Cn, T, N)) (hn : As.length = k9) (hst : st0 = As.reverse ++ .ref b :: st) (hcat : (st.map fun v => v.category).sum ≤ 8) (kk : ∀ (r : Int32) (t1 : zM), post r t1 → Zw p l e R s m args below meth c D A K n ad nL Q (pc + 3) ls (.int r :: st) t1) : Zw p l e R s m args below meth c D A K n ad nL Q (pc) ls st0 t := fun H locs la hP hS hl => by
  subst hR; subst hb9
  exact va_calli (va_runV (As := As) (rest := st) C.1 (hM H.size) (cwV k9 C.1.2.2.2.2 hG hws rfl rfl hy ⟨by show d9 + 1 ≤ d; omega, by show 8 + (mL + 11) + 40 * d9 ≤ 40 * d; omega⟩) ⟨fun a U g mk q => ⟨q.1, q.2.1, q.2.2.1, va_K.moved (u := U) (U := U.calling g mk a) (Vm.Alike.refl U.vm) q.2.2.2.1, zNst.same (u := U) (U := U.calling g mk a) rfl q.2.2.2.2⟩, va_recv C.2.1 hP hc (zw_at hid (he _)), fun U hU hW => ⟨rfl, by rw [hU], by rw [hU]; exact hP, va_K.moved hW.alike C.2.1, zNst.warm hW C.2.2.2.2.2.2⟩⟩ rfl hn hl.1 hst (lv_room hcat) hd ⟨Nat.zero_le _, Nat.zero_le _⟩) hS (fun q _ h => C.2.2.1.free C.2.2.2.1 hS.1 q h) (fun q h => C.2.2.1.free C.2.2.2.1 hS.1 q h) (fun r u u9 H1 locs1 hu _ hp hB _ _ hS1 => kk r u hp H1 locs1 la (by rw [← hu]; exact hB) hS1 hl)
theorem z_statI (C : zC p s m args meth c cc nL ret own ws D cy n ad A) (pc : Nat) {idx mL k9 d d9 : Nat} {y : MethodName} {bytes : ByteArray} {ret9 : Option FieldType} {ws9 ws8 : List Cond} {As st0 : List Value} {post : Int32 → zM → Prop} (hM : zI l y ws9 d9 D cy K n ad t As post) (hd : decode cc pc = .ok (.invokestatic idx, 3)) (hws : ws9 = .code y bytes mL ret9 :: ws8) (hG : GoodIn ws (va_wsS own idx y ws9)) (hy : y.cls ≠ "java/lang/invoke/MethodHandle" ∧ y.cls ≠ "java/lang/invoke/VarHandle" ∧ (parseMethodDescriptor y.desc).map (fun d => d.parameters.length) = some k9) (hR : R = zR d) (hdd : d9 < d) (hmL : mL ≤ 20) (hn : As.length = k9) (hst : st0 = As.reverse ++ st) (hcat : (st.map fun v => v.category).sum ≤ 8) (kk : ∀ (r : Int32) (t1 : zM), post r t1 → Zw p l e R s m args below meth c D A K n ad nL Q (pc + 3) ls (.int r :: st) t1) : Zw p l e R s m args below meth c D A K n ad nL Q (pc) ls st0 t := fun H locs la hP hS hl => by
  subst hR
  exact va_calli (va_runS (As := As) (rest := st) C.1 (hM H.size) (va_cwS k9 C.1.2.2.2.2 hG hws rfl rfl hy ⟨by show d9 + 1 ≤ d; omega, by show 8 + (mL + 11) + 40 * d9 ≤ 40 * d; omega⟩) ⟨fun a U g mk q => ⟨q.1, q.2.1, q.2.2.1, va_K.moved (u := U) (U := U.calling g mk a) (Vm.Alike.refl U.vm) q.2.2.2.1, zNst.same (u := U) (U := U.calling g mk a) rfl q.2.2.2.2⟩, fun U hU hW => ⟨rfl, by rw [hU], by rw [hU]; exact hP, va_K.moved hW.alike C.2.1, zNst.warm hW C.2.2.2.2.2.2⟩⟩ rfl hn hl.1 hst (lv_room hcat) hd ⟨Nat.zero_le _, Nat.zero_le _⟩) hS (fun q _ h => C.2.2.1.free C.2.2.2.1 hS.1 q h) (fun q h => C.2.2.1.free C.2.2.2.1 hS.1 q h) (fun r u u9 H1 locs1 hu _ hp hB _ _ hS1 => kk r u hp H1 locs1 la (by rw [← hu]; exact hB) hS1 hl)
theorem z_virtV (C : zC p s m args meth c cc nL ret own ws D cy n ad A) (pc : Nat) {idx mL k9 d d9 : Nat} {y : MethodName} {bytes : ByteArray} {ret9 : Option FieldType} {ws9 ws8 : List Cond} {As st0 : List Value} {b id ci N : Nat} {Cn : String} {T : u_T} {fs : (Nat → Int32) → List Value} {post : zM → Prop} (hM : zV l y ws9 d9 D cy K n ad t (.ref b :: As) post) (hd : decode cc pc = .ok (.invokevirtual idx, 3)) (hws : ws9 = .code y bytes mL ret9 :: ws8) (hG : GoodIn ws (wsV own idx Cn y ws9)) (hy : y.cls = Cn ∧ y.cls ≠ "java/lang/invoke/MethodHandle" ∧ y.cls ≠ "java/lang/invoke/VarHandle" ∧ (parseMethodDescriptor y.desc).map (fun d => d.parameters.length) = some k9) (hR : R = zR d) (hdd : d9 < d) (hmL : mL ≤ 20) (hid : id < n) (hb9 : b = ad id) (he : ∀ f, K ad id f = .inr (ci, fs f)) (hc : vwCl[ci]? = some (Cn, T, N)) (hn : As.length = k9) (hst : st0 = As.reverse ++ .ref b :: st) (hcat : (st.map fun v => v.category).sum ≤ 8) (kk : ∀ (t1 : zM), post t1 → Zw p l e R s m args below meth c D A K n ad nL Q (pc + 3) ls st t1) : Zw p l e R s m args below meth c D A K n ad nL Q (pc) ls st0 t := fun H locs la hP hS hl => by
  subst hR; subst hb9
  exact va_callv (va_runV (As := As) (rest := st) C.1 (hM H.size) (cwV k9 C.1.2.2.2.2 hG hws rfl rfl hy ⟨by show d9 + 1 ≤ d; omega, by show 8 + (mL + 11) + 40 * d9 ≤ 40 * d; omega⟩) ⟨fun a U g mk q => ⟨q.1, q.2.1, q.2.2.1, va_K.moved (u := U) (U := U.calling g mk a) (Vm.Alike.refl U.vm) q.2.2.2.1, zNst.same (u := U) (U := U.calling g mk a) rfl q.2.2.2.2⟩, va_recv C.2.1 hP hc (zw_at hid (he _)), fun U hU hW => ⟨rfl, by rw [hU], by rw [hU]; exact hP, va_K.moved hW.alike C.2.1, zNst.warm hW C.2.2.2.2.2.2⟩⟩ rfl hn hl.1 hst (lv_room hcat) hd ⟨Nat.zero_le _, Nat.zero_le _⟩) hS (fun q _ h => C.2.2.1.free C.2.2.2.1 hS.1 q h) (fun q h => C.2.2.1.free C.2.2.2.1 hS.1 q h) (fun u u9 H1 locs1 hu _ hp hB _ _ hS1 => kk u hp H1 locs1 la (by rw [← hu]; exact hB) hS1 hl)
theorem z_statV (C : zC p s m args meth c cc nL ret own ws D cy n ad A) (pc : Nat) {idx mL k9 d d9 : Nat} {y : MethodName} {bytes : ByteArray} {ret9 : Option FieldType} {ws9 ws8 : List Cond} {As st0 : List Value} {post : zM → Prop} (hM : zV l y ws9 d9 D cy K n ad t As post) (hd : decode cc pc = .ok (.invokestatic idx, 3)) (hws : ws9 = .code y bytes mL ret9 :: ws8) (hG : GoodIn ws (va_wsS own idx y ws9)) (hy : y.cls ≠ "java/lang/invoke/MethodHandle" ∧ y.cls ≠ "java/lang/invoke/VarHandle" ∧ (parseMethodDescriptor y.desc).map (fun d => d.parameters.length) = some k9) (hR : R = zR d) (hdd : d9 < d) (hmL : mL ≤ 20) (hn : As.length = k9) (hst : st0 = As.reverse ++ st) (hcat : (st.map fun v => v.category).sum ≤ 8) (kk : ∀ (t1 : zM), post t1 → Zw p l e R s m args below meth c D A K n ad nL Q (pc + 3) ls st t1) : Zw p l e R s m args below meth c D A K n ad nL Q (pc) ls st0 t := fun H locs la hP hS hl => by
  subst hR
  exact va_callv (va_runS (As := As) (rest := st) C.1 (hM H.size) (va_cwS k9 C.1.2.2.2.2 hG hws rfl rfl hy ⟨by show d9 + 1 ≤ d; omega, by show 8 + (mL + 11) + 40 * d9 ≤ 40 * d; omega⟩) ⟨fun a U g mk q => ⟨q.1, q.2.1, q.2.2.1, va_K.moved (u := U) (U := U.calling g mk a) (Vm.Alike.refl U.vm) q.2.2.2.1, zNst.same (u := U) (U := U.calling g mk a) rfl q.2.2.2.2⟩, fun U hU hW => ⟨rfl, by rw [hU], by rw [hU]; exact hP, va_K.moved hW.alike C.2.1, zNst.warm hW C.2.2.2.2.2.2⟩⟩ rfl hn hl.1 hst (lv_room hcat) hd ⟨Nat.zero_le _, Nat.zero_le _⟩) hS (fun q _ h => C.2.2.1.free C.2.2.2.1 hS.1 q h) (fun q h => C.2.2.1.free C.2.2.2.1 hS.1 q h) (fun u u9 H1 locs1 hu _ hp hB _ _ hS1 => kk u hp H1 locs1 la (by rw [← hu]; exact hB) hS1 hl)
theorem z_virtQ (C : zC p s m args meth c cc nL ret own ws D cy n ad A) (pc : Nat) {idx mL k9 d d9 : Nat} {y : MethodName} {bytes : ByteArray} {ret9 : Option FieldType} {ws9 ws8 : List Cond} {As st0 : List Value} {b id ci N : Nat} {Cn : String} {T : u_T} {fs : (Nat → Int32) → List Value} {post : Option Nat → zM → Prop} (hM : zQ l y ws9 d9 D cy K n ad t (.ref b :: As) post) (hd : decode cc pc = .ok (.invokevirtual idx, 3)) (hws : ws9 = .code y bytes mL ret9 :: ws8) (hG : GoodIn ws (wsV own idx Cn y ws9)) (hy : y.cls = Cn ∧ y.cls ≠ "java/lang/invoke/MethodHandle" ∧ y.cls ≠ "java/lang/invoke/VarHandle" ∧ (parseMethodDescriptor y.desc).map (fun d => d.parameters.length) = some k9) (hR : R = zR d) (hdd : d9 < d) (hmL : mL ≤ 20) (hid : id < n) (hb9 : b = ad id) (he : ∀ f, K ad id f = .inr (ci, fs f)) (hc : vwCl[ci]? = some (Cn, T, N)) (hn : As.length = k9) (hst : st0 = As.reverse ++ .ref b :: st) (hcat : (st.map fun v => v.category).sum ≤ 8) (kk : ∀ (r : Option Nat) (t1 : zM), post r t1 → Zw p l e R s m args below meth c D A K n ad nL Q (pc + 3) ls (va_rf r :: st) t1) : Zw p l e R s m args below meth c D A K n ad nL Q (pc) ls st0 t := fun H locs la hP hS hl => by
  subst hR; subst hb9
  exact va_callq (va_runV (As := As) (rest := st) C.1 (hM H.size) (cwV k9 C.1.2.2.2.2 hG hws rfl rfl hy ⟨by show d9 + 1 ≤ d; omega, by show 8 + (mL + 11) + 40 * d9 ≤ 40 * d; omega⟩) ⟨fun a U g mk q => ⟨q.1, q.2.1, q.2.2.1, va_K.moved (u := U) (U := U.calling g mk a) (Vm.Alike.refl U.vm) q.2.2.2.1, zNst.same (u := U) (U := U.calling g mk a) rfl q.2.2.2.2⟩, va_recv C.2.1 hP hc (zw_at hid (he _)), fun U hU hW => ⟨rfl, by rw [hU], by rw [hU]; exact hP, va_K.moved hW.alike C.2.1, zNst.warm hW C.2.2.2.2.2.2⟩⟩ rfl hn hl.1 hst (lv_room hcat) hd ⟨Nat.zero_le _, Nat.zero_le _⟩) hS (fun q _ h => C.2.2.1.free C.2.2.2.1 hS.1 q h) (fun q h => C.2.2.1.free C.2.2.2.1 hS.1 q h) (fun r u u9 H1 locs1 hu _ hp hB _ _ hS1 => kk r u hp H1 locs1 la (by rw [← hu]; exact hB) hS1 hl)
theorem z_statQ (C : zC p s m args meth c cc nL ret own ws D cy n ad A) (pc : Nat) {idx mL k9 d d9 : Nat} {y : MethodName} {bytes : ByteArray} {ret9 : Option FieldType} {ws9 ws8 : List Cond} {As st0 : List Value} {post : Option Nat → zM → Prop} (hM : zQ l y ws9 d9 D cy K n ad t As post) (hd : decode cc pc = .ok (.invokestatic idx, 3)) (hws : ws9 = .code y bytes mL ret9 :: ws8) (hG : GoodIn ws (va_wsS own idx y ws9)) (hy : y.cls ≠ "java/lang/invoke/MethodHandle" ∧ y.cls ≠ "java/lang/invoke/VarHandle" ∧ (parseMethodDescriptor y.desc).map (fun d => d.parameters.length) = some k9) (hR : R = zR d) (hdd : d9 < d) (hmL : mL ≤ 20) (hn : As.length = k9) (hst : st0 = As.reverse ++ st) (hcat : (st.map fun v => v.category).sum ≤ 8) (kk : ∀ (r : Option Nat) (t1 : zM), post r t1 → Zw p l e R s m args below meth c D A K n ad nL Q (pc + 3) ls (va_rf r :: st) t1) : Zw p l e R s m args below meth c D A K n ad nL Q (pc) ls st0 t := fun H locs la hP hS hl => by
  subst hR
  exact va_callq (va_runS (As := As) (rest := st) C.1 (hM H.size) (va_cwS k9 C.1.2.2.2.2 hG hws rfl rfl hy ⟨by show d9 + 1 ≤ d; omega, by show 8 + (mL + 11) + 40 * d9 ≤ 40 * d; omega⟩) ⟨fun a U g mk q => ⟨q.1, q.2.1, q.2.2.1, va_K.moved (u := U) (U := U.calling g mk a) (Vm.Alike.refl U.vm) q.2.2.2.1, zNst.same (u := U) (U := U.calling g mk a) rfl q.2.2.2.2⟩, fun U hU hW => ⟨rfl, by rw [hU], by rw [hU]; exact hP, va_K.moved hW.alike C.2.1, zNst.warm hW C.2.2.2.2.2.2⟩⟩ rfl hn hl.1 hst (lv_room hcat) hd ⟨Nat.zero_le _, Nat.zero_le _⟩) hS (fun q _ h => C.2.2.1.free C.2.2.2.1 hS.1 q h) (fun q h => C.2.2.1.free C.2.2.2.1 hS.1 q h) (fun r u u9 H1 locs1 hu _ hp hB _ _ hS1 => kk r u hp H1 locs1 la (by rw [← hu]; exact hB) hS1 hl)
theorem z_statNI (C : zC p s m args meth c cc nL ret own ws D cy n ad A) (pc : Nat) {idx mL k9 d d9 : Nat} {y : MethodName} {bytes : ByteArray} {ret9 : Option FieldType} {ws9 ws8 : List Cond} {As st0 : List Value} {host : String} {post : Int32 → zM → Prop} (hM : zI l y ws9 d9 D cy K n ad t As post) (hd : decode cc pc = .ok (.invokestatic idx, 3)) (hws : ws9 = .code y bytes mL ret9 :: ws8) (hG : GoodIn ws ws9) (hw : Cond.methodLinkNest own idx y host ∈ zNests) (hstat : Cond.static y ∈ ws) (hini : Cond.initialized y.cls ∈ ws) (hy : y.cls ≠ "java/lang/invoke/MethodHandle" ∧ y.cls ≠ "java/lang/invoke/VarHandle" ∧ (parseMethodDescriptor y.desc).map (fun d => d.parameters.length) = some k9) (hR : R = zR d) (hdd : d9 < d) (hmL : mL ≤ 20) (hn : As.length = k9) (hst : st0 = As.reverse ++ st) (hcat : (st.map fun v => v.category).sum ≤ 8) (kk : ∀ (r : Int32) (t1 : zM), post r t1 → Zw p l e R s m args below meth c D A K n ad nL Q (pc + 3) ls (.int r :: st) t1) : Zw p l e R s m args below meth c D A K n ad nL Q (pc) ls st0 t := fun H locs la hP hS hl => by
  subst hR
  exact va_calli (va_runSN (As := As) (rest := st) C.1 (hM H.size) ⟨va_cnB k9 C.1.2.2.2.2 hG hws rfl rfl (C.2.2.2.2.2.2 _ hw) (C.1.2.2.2.2 _ hini) hy ⟨by show d9 + 1 ≤ d; omega, by show 8 + (mL + 11) + 40 * d9 ≤ 40 * d; omega⟩, C.1.2.2.2.2 _ hstat, trivial⟩ ⟨fun a U g mk q => ⟨q.1, q.2.1, q.2.2.1, va_K.moved (u := U) (U := U.calling g mk a) (Vm.Alike.refl U.vm) q.2.2.2.1, zNst.same (u := U) (U := U.calling g mk a) rfl q.2.2.2.2⟩, fun U hU hW => ⟨rfl, by rw [hU], by rw [hU]; exact hP, va_K.moved hW.alike C.2.1, zNst.warm hW C.2.2.2.2.2.2⟩⟩ rfl hn hl.1 hst (lv_room hcat) hd ⟨Nat.zero_le _, Nat.zero_le _⟩) hS (fun q _ h => C.2.2.1.free C.2.2.2.1 hS.1 q h) (fun q h => C.2.2.1.free C.2.2.2.1 hS.1 q h) (fun r u u9 H1 locs1 hu _ hp hB _ _ hS1 => kk r u hp H1 locs1 la (by rw [← hu]; exact hB) hS1 hl)
theorem z_statNV (C : zC p s m args meth c cc nL ret own ws D cy n ad A) (pc : Nat) {idx mL k9 d d9 : Nat} {y : MethodName} {bytes : ByteArray} {ret9 : Option FieldType} {ws9 ws8 : List Cond} {As st0 : List Value} {host : String} {post : zM → Prop} (hM : zV l y ws9 d9 D cy K n ad t As post) (hd : decode cc pc = .ok (.invokestatic idx, 3)) (hws : ws9 = .code y bytes mL ret9 :: ws8) (hG : GoodIn ws ws9) (hw : Cond.methodLinkNest own idx y host ∈ zNests) (hstat : Cond.static y ∈ ws) (hini : Cond.initialized y.cls ∈ ws) (hy : y.cls ≠ "java/lang/invoke/MethodHandle" ∧ y.cls ≠ "java/lang/invoke/VarHandle" ∧ (parseMethodDescriptor y.desc).map (fun d => d.parameters.length) = some k9) (hR : R = zR d) (hdd : d9 < d) (hmL : mL ≤ 20) (hn : As.length = k9) (hst : st0 = As.reverse ++ st) (hcat : (st.map fun v => v.category).sum ≤ 8) (kk : ∀ (t1 : zM), post t1 → Zw p l e R s m args below meth c D A K n ad nL Q (pc + 3) ls st t1) : Zw p l e R s m args below meth c D A K n ad nL Q (pc) ls st0 t := fun H locs la hP hS hl => by
  subst hR
  exact va_callv (va_runSN (As := As) (rest := st) C.1 (hM H.size) ⟨va_cnB k9 C.1.2.2.2.2 hG hws rfl rfl (C.2.2.2.2.2.2 _ hw) (C.1.2.2.2.2 _ hini) hy ⟨by show d9 + 1 ≤ d; omega, by show 8 + (mL + 11) + 40 * d9 ≤ 40 * d; omega⟩, C.1.2.2.2.2 _ hstat, trivial⟩ ⟨fun a U g mk q => ⟨q.1, q.2.1, q.2.2.1, va_K.moved (u := U) (U := U.calling g mk a) (Vm.Alike.refl U.vm) q.2.2.2.1, zNst.same (u := U) (U := U.calling g mk a) rfl q.2.2.2.2⟩, fun U hU hW => ⟨rfl, by rw [hU], by rw [hU]; exact hP, va_K.moved hW.alike C.2.1, zNst.warm hW C.2.2.2.2.2.2⟩⟩ rfl hn hl.1 hst (lv_room hcat) hd ⟨Nat.zero_le _, Nat.zero_le _⟩) hS (fun q _ h => C.2.2.1.free C.2.2.2.1 hS.1 q h) (fun q h => C.2.2.1.free C.2.2.2.1 hS.1 q h) (fun u u9 H1 locs1 hu _ hp hB _ _ hS1 => kk u hp H1 locs1 la (by rw [← hu]; exact hB) hS1 hl)
theorem z_statNQ (C : zC p s m args meth c cc nL ret own ws D cy n ad A) (pc : Nat) {idx mL k9 d d9 : Nat} {y : MethodName} {bytes : ByteArray} {ret9 : Option FieldType} {ws9 ws8 : List Cond} {As st0 : List Value} {host : String} {post : Option Nat → zM → Prop} (hM : zQ l y ws9 d9 D cy K n ad t As post) (hd : decode cc pc = .ok (.invokestatic idx, 3)) (hws : ws9 = .code y bytes mL ret9 :: ws8) (hG : GoodIn ws ws9) (hw : Cond.methodLinkNest own idx y host ∈ zNests) (hstat : Cond.static y ∈ ws) (hini : Cond.initialized y.cls ∈ ws) (hy : y.cls ≠ "java/lang/invoke/MethodHandle" ∧ y.cls ≠ "java/lang/invoke/VarHandle" ∧ (parseMethodDescriptor y.desc).map (fun d => d.parameters.length) = some k9) (hR : R = zR d) (hdd : d9 < d) (hmL : mL ≤ 20) (hn : As.length = k9) (hst : st0 = As.reverse ++ st) (hcat : (st.map fun v => v.category).sum ≤ 8) (kk : ∀ (r : Option Nat) (t1 : zM), post r t1 → Zw p l e R s m args below meth c D A K n ad nL Q (pc + 3) ls (va_rf r :: st) t1) : Zw p l e R s m args below meth c D A K n ad nL Q (pc) ls st0 t := fun H locs la hP hS hl => by
  subst hR
  exact va_callq (va_runSN (As := As) (rest := st) C.1 (hM H.size) ⟨va_cnB k9 C.1.2.2.2.2 hG hws rfl rfl (C.2.2.2.2.2.2 _ hw) (C.1.2.2.2.2 _ hini) hy ⟨by show d9 + 1 ≤ d; omega, by show 8 + (mL + 11) + 40 * d9 ≤ 40 * d; omega⟩, C.1.2.2.2.2 _ hstat, trivial⟩ ⟨fun a U g mk q => ⟨q.1, q.2.1, q.2.2.1, va_K.moved (u := U) (U := U.calling g mk a) (Vm.Alike.refl U.vm) q.2.2.2.1, zNst.same (u := U) (U := U.calling g mk a) rfl q.2.2.2.2⟩, fun U hU hW => ⟨rfl, by rw [hU], by rw [hU]; exact hP, va_K.moved hW.alike C.2.1, zNst.warm hW C.2.2.2.2.2.2⟩⟩ rfl hn hl.1 hst (lv_room hcat) hd ⟨Nat.zero_le _, Nat.zero_le _⟩) hS (fun q _ h => C.2.2.1.free C.2.2.2.1 hS.1 q h) (fun q h => C.2.2.1.free C.2.2.2.1 hS.1 q h) (fun r u u9 H1 locs1 hu _ hp hB _ _ hS1 => kk r u hp H1 locs1 la (by rw [← hu]; exact hB) hS1 hl)
def zcp (t : zM) (a c : Nat) (n : Nat) : zM := fun j => if j = c then (fun k => if k < n then t a k else t c k) else t j
theorem zcp_id (t : zM) (a c n : Nat) {j : Nat} (h : j ≠ c) (k : Nat) : zcp t a c n j k = t j k := congrFun (if_neg h) k
theorem z_acp {st : List Value} {d : Nat} (h : (st.map fun v => v.category).sum ≤ 8) (hd : 0 < d) : (st.map fun v => v.category).sum + (nativeFrameWords "java/lang/System" "arraycopy" 5 + 11) ≤ (zR d).locals := by
  have hw : nativeFrameWords "java/lang/System" "arraycopy" 5 + 11 ≤ 32 := by decide +kernel
  show _ ≤ 40 * d
  omega
theorem z_copyi (C : zC p s m args meth c cc nL ret own ws D cy n ad A) (pc : Nat) {idx d na nc : Nat} {x : Int32} (a b nn : Nat) (hd : decode cc pc = .ok (.invokestatic idx, 3)) (h1 : Cond.methodLink own idx arraycopyName ∈ ws) (h2 : Cond.native arraycopyName ∈ ws) (h3 : Cond.static arraycopyName ∈ ws) (h4 : Cond.initialized "java/lang/System" ∈ ws) (ha : a < n) (hb9 : b < n) (hea : ∀ f, K ad a f = .inl (cy 0, na, .inl f)) (heb : ∀ f, K ad b f = .inl (cy 0, nc, .inl f)) (hx : x = nI nn) (hna : nn ≤ na) (hnc : nn ≤ nc) (hnn : nn < 2 ^ 31) (hR : R = zR d) (hd0 : 0 < d) (hcat : (st.map fun v => v.category).sum ≤ 8) (kk : Zw p l e R s m args below meth c D A K n ad nL Q (pc + 3) ls st (zcp t a b nn)) : Zw p l e R s m args below meth c D A K n ad nL Q (pc) ls (.int x :: .int 0 :: .ref (ad b) :: .int 0 :: .ref (ad a) :: st) t := fun H locs la hP hS hl => by
  subst hR; subst hx
  have e0 : (0 : Int32).toNatClampNeg = 0 := by decide +kernel
  have e1 : (nI nn).toNatClampNeg = nn := nI_clamp hnn
  refine va_copyi C.1.1 C.1.2.1 (C.1.2.2.1.trans hl.1.symm) C.1.2.2.2.1 (C.1.2.2.2.2 _ h1) (C.1.2.2.2.2 _ h2) (C.1.2.2.2.2 _ h3) (C.1.2.2.2.2 _ h4) C.2.1 hP C.2.2.1.D hS a b 0 0 (zw_at ha (hea _)) (zw_at hb9 (heb _)) rfl rfl rfl (show ¬ (0 : Int32) < 0 by decide +kernel) (show ¬ (0 : Int32) < 0 by decide +kernel) (nI_pos hnn) (by rw [e0, e1]; omega) (by rw [e0, e1]; omega) (fun i _ => rfl) (show 1 ≤ d from hd0) (z_acp hcat hd0) hd (fun H1 locs1 hP1 hD1 hS1 => kk H1 locs1 la ?_ hS1 hl)
  rw [e0, e1, zw_set hb9 (heb _)] at hP1
  have e2 : zup t b (va_cpy (t a) (t b) 0 0 nn) = zcp t a b nn := by
    funext j k
    by_cases hj : j = b
    · subst hj
      simp [zup, zcp, va_cpy]
    · simp [zup, zcp, hj]
  rw [← e2]
  exact hP1
theorem z_min (C : zC p s m args meth c cc nL ret own ws D cy n ad A) (pc : Nat) {idx d : Nat} {x y : Int32} (hd : decode cc pc = .ok (.invokestatic idx, 3)) (h1 : Cond.methodLink own idx Lib.Math.min.name ∈ ws) (h2 : Cond.static Lib.Math.min.name ∈ ws) (h3 : Cond.initialized "java/lang/Math" ∈ ws) (h4 : Cond.code Lib.Math.min.name Lib.Math.min.code 2 (some .int) ∈ ws) (hR : R = zR d) (hd0 : 0 < d) (hcat : (st.map fun v => v.category).sum ≤ 8) (kk : Zw p l e R s m args below meth c D A K n ad nL Q (pc + 3) ls (.int (if y < x then y else x) :: st) t) : Zw p l e R s m args below meth c D A K n ad nL Q (pc) ls (.int y :: .int x :: st) t := fun H locs la hP hS hl => by
  subst hR
  exact va_mmin C.1.1 C.1.2.1 (C.1.2.2.1.trans hl.1.symm) C.1.2.2.2.1 (C.1.2.2.2.2 _ h1) (C.1.2.2.2.2 _ h2) (C.1.2.2.2.2 _ h3) (C.1.2.2.2.2 _ h4) (show 1 ≤ d from hd0) (by show _ ≤ 40 * d; omega) (Nat.zero_le _) (Nat.zero_le _) hd (kk H locs la hP hS hl)
theorem z_max (C : zC p s m args meth c cc nL ret own ws D cy n ad A) (pc : Nat) {idx d : Nat} {x y : Int32} (hd : decode cc pc = .ok (.invokestatic idx, 3)) (h1 : Cond.methodLink own idx Lib.Math.max.name ∈ ws) (h2 : Cond.static Lib.Math.max.name ∈ ws) (h3 : Cond.initialized "java/lang/Math" ∈ ws) (h4 : Cond.code Lib.Math.max.name Lib.Math.max.code 2 (some .int) ∈ ws) (hR : R = zR d) (hd0 : 0 < d) (hcat : (st.map fun v => v.category).sum ≤ 8) (kk : Zw p l e R s m args below meth c D A K n ad nL Q (pc + 3) ls (.int (if x < y then y else x) :: st) t) : Zw p l e R s m args below meth c D A K n ad nL Q (pc) ls (.int y :: .int x :: st) t := fun H locs la hP hS hl => by
  subst hR
  exact va_mmax C.1.1 C.1.2.1 (C.1.2.2.1.trans hl.1.symm) C.1.2.2.2.1 (C.1.2.2.2.2 _ h1) (C.1.2.2.2.2 _ h2) (C.1.2.2.2.2 _ h3) (C.1.2.2.2.2 _ h4) (show 1 ≤ d from hd0) (by show _ ≤ 40 * d; omega) (Nat.zero_le _) (Nat.zero_le _) hd (kk H locs la hP hS hl)
theorem z_abs (C : zC p s m args meth c cc nL ret own ws D cy n ad A) (pc : Nat) {idx d : Nat} {x : Int32} (hd : decode cc pc = .ok (.invokestatic idx, 3)) (h1 : Cond.methodLink own idx Lib.Math.abs.name ∈ ws) (h2 : Cond.static Lib.Math.abs.name ∈ ws) (h3 : Cond.initialized "java/lang/Math" ∈ ws) (h4 : Cond.code Lib.Math.abs.name Lib.Math.abs.code 1 (some .int) ∈ ws) (hR : R = zR d) (hd0 : 0 < d) (hcat : (st.map fun v => v.category).sum ≤ 8) (kk : Zw p l e R s m args below meth c D A K n ad nL Q (pc + 3) ls (.int (if 0 ≤ x then x else 0 - x) :: st) t) : Zw p l e R s m args below meth c D A K n ad nL Q (pc) ls (.int x :: st) t := fun H locs la hP hS hl => by
  subst hR
  exact va_mabs C.1.1 C.1.2.1 (C.1.2.2.1.trans hl.1.symm) C.1.2.2.2.1 (C.1.2.2.2.2 _ h1) (C.1.2.2.2.2 _ h2) (C.1.2.2.2.2 _ h3) (C.1.2.2.2.2 _ h4) (show 1 ≤ d from hd0) (by show _ ≤ 40 * d; omega) (Nat.zero_le _) (Nat.zero_le _) hd (kk H locs la hP hS hl)
theorem z_virtIe (C : zC p s m args meth c cc nL ret own ws D cy n ad A) (pc : Nat) {idx mL k9 d d9 : Nat} {y : MethodName} {bytes : ByteArray} {ret9 : Option FieldType} {ws9 ws8 : List Cond} {As st0 : List Value} {b id ci N : Nat} {Cn : String} {T : u_T} {fs : (Nat → Int32) → List Value} {F : Int32} {S : zM} (hM : zI l y ws9 d9 D cy K n ad t (.ref b :: As) (fun r t1 => r = F ∧ t1 = S)) (hd : decode cc pc = .ok (.invokevirtual idx, 3)) (hws : ws9 = .code y bytes mL ret9 :: ws8) (hG : GoodIn ws (wsV own idx Cn y ws9)) (hy : y.cls = Cn ∧ y.cls ≠ "java/lang/invoke/MethodHandle" ∧ y.cls ≠ "java/lang/invoke/VarHandle" ∧ (parseMethodDescriptor y.desc).map (fun d => d.parameters.length) = some k9) (hR : R = zR d) (hdd : d9 < d) (hmL : mL ≤ 20) (hid : id < n) (hb9 : b = ad id) (he : ∀ f, K ad id f = .inr (ci, fs f)) (hc : vwCl[ci]? = some (Cn, T, N)) (hn : As.length = k9) (hst : st0 = As.reverse ++ .ref b :: st) (hcat : (st.map fun v => v.category).sum ≤ 8) (kk : Zw p l e R s m args below meth c D A K n ad nL Q (pc + 3) ls (.int F :: st) S) : Zw p l e R s m args below meth c D A K n ad nL Q (pc) ls st0 t := z_virtI C pc hM hd hws hG hy hR hdd hmL hid hb9 he hc hn hst hcat (fun r t1 h => by obtain ⟨e1, e2⟩ := h; subst e1; subst e2; exact kk)
theorem z_virtVe (C : zC p s m args meth c cc nL ret own ws D cy n ad A) (pc : Nat) {idx mL k9 d d9 : Nat} {y : MethodName} {bytes : ByteArray} {ret9 : Option FieldType} {ws9 ws8 : List Cond} {As st0 : List Value} {b id ci N : Nat} {Cn : String} {T : u_T} {fs : (Nat → Int32) → List Value} {S : zM} (hM : zV l y ws9 d9 D cy K n ad t (.ref b :: As) (fun t1 => t1 = S)) (hd : decode cc pc = .ok (.invokevirtual idx, 3)) (hws : ws9 = .code y bytes mL ret9 :: ws8) (hG : GoodIn ws (wsV own idx Cn y ws9)) (hy : y.cls = Cn ∧ y.cls ≠ "java/lang/invoke/MethodHandle" ∧ y.cls ≠ "java/lang/invoke/VarHandle" ∧ (parseMethodDescriptor y.desc).map (fun d => d.parameters.length) = some k9) (hR : R = zR d) (hdd : d9 < d) (hmL : mL ≤ 20) (hid : id < n) (hb9 : b = ad id) (he : ∀ f, K ad id f = .inr (ci, fs f)) (hc : vwCl[ci]? = some (Cn, T, N)) (hn : As.length = k9) (hst : st0 = As.reverse ++ .ref b :: st) (hcat : (st.map fun v => v.category).sum ≤ 8) (kk : Zw p l e R s m args below meth c D A K n ad nL Q (pc + 3) ls st S) : Zw p l e R s m args below meth c D A K n ad nL Q (pc) ls st0 t := z_virtV C pc hM hd hws hG hy hR hdd hmL hid hb9 he hc hn hst hcat (fun t1 h => by subst h; exact kk)
theorem z_statIe (C : zC p s m args meth c cc nL ret own ws D cy n ad A) (pc : Nat) {idx mL k9 d d9 : Nat} {y : MethodName} {bytes : ByteArray} {ret9 : Option FieldType} {ws9 ws8 : List Cond} {As st0 : List Value}  {F : Int32} {S : zM} (hM : zI l y ws9 d9 D cy K n ad t As (fun r t1 => r = F ∧ t1 = S)) (hd : decode cc pc = .ok (.invokestatic idx, 3)) (hws : ws9 = .code y bytes mL ret9 :: ws8) (hG : GoodIn ws (va_wsS own idx y ws9)) (hy : y.cls ≠ "java/lang/invoke/MethodHandle" ∧ y.cls ≠ "java/lang/invoke/VarHandle" ∧ (parseMethodDescriptor y.desc).map (fun d => d.parameters.length) = some k9) (hR : R = zR d) (hdd : d9 < d) (hmL : mL ≤ 20) (hn : As.length = k9) (hst : st0 = As.reverse ++ st) (hcat : (st.map fun v => v.category).sum ≤ 8) (kk : Zw p l e R s m args below meth c D A K n ad nL Q (pc + 3) ls (.int F :: st) S) : Zw p l e R s m args below meth c D A K n ad nL Q (pc) ls st0 t := z_statI C pc hM hd hws hG hy hR hdd hmL hn hst hcat (fun r t1 h => by obtain ⟨e1, e2⟩ := h; subst e1; subst e2; exact kk)
theorem z_statVe (C : zC p s m args meth c cc nL ret own ws D cy n ad A) (pc : Nat) {idx mL k9 d d9 : Nat} {y : MethodName} {bytes : ByteArray} {ret9 : Option FieldType} {ws9 ws8 : List Cond} {As st0 : List Value}  {S : zM} (hM : zV l y ws9 d9 D cy K n ad t As (fun t1 => t1 = S)) (hd : decode cc pc = .ok (.invokestatic idx, 3)) (hws : ws9 = .code y bytes mL ret9 :: ws8) (hG : GoodIn ws (va_wsS own idx y ws9)) (hy : y.cls ≠ "java/lang/invoke/MethodHandle" ∧ y.cls ≠ "java/lang/invoke/VarHandle" ∧ (parseMethodDescriptor y.desc).map (fun d => d.parameters.length) = some k9) (hR : R = zR d) (hdd : d9 < d) (hmL : mL ≤ 20) (hn : As.length = k9) (hst : st0 = As.reverse ++ st) (hcat : (st.map fun v => v.category).sum ≤ 8) (kk : Zw p l e R s m args below meth c D A K n ad nL Q (pc + 3) ls st S) : Zw p l e R s m args below meth c D A K n ad nL Q (pc) ls st0 t := z_statV C pc hM hd hws hG hy hR hdd hmL hn hst hcat (fun t1 h => by subst h; exact kk)
theorem z_statNIe (C : zC p s m args meth c cc nL ret own ws D cy n ad A) (pc : Nat) {idx mL k9 d d9 : Nat} {y : MethodName} {bytes : ByteArray} {ret9 : Option FieldType} {ws9 ws8 : List Cond} {As st0 : List Value} {host : String} {F : Int32} {S : zM} (hM : zI l y ws9 d9 D cy K n ad t As (fun r t1 => r = F ∧ t1 = S)) (hd : decode cc pc = .ok (.invokestatic idx, 3)) (hws : ws9 = .code y bytes mL ret9 :: ws8) (hG : GoodIn ws ws9) (hw : Cond.methodLinkNest own idx y host ∈ zNests) (hstat : Cond.static y ∈ ws) (hini : Cond.initialized y.cls ∈ ws) (hy : y.cls ≠ "java/lang/invoke/MethodHandle" ∧ y.cls ≠ "java/lang/invoke/VarHandle" ∧ (parseMethodDescriptor y.desc).map (fun d => d.parameters.length) = some k9) (hR : R = zR d) (hdd : d9 < d) (hmL : mL ≤ 20) (hn : As.length = k9) (hst : st0 = As.reverse ++ st) (hcat : (st.map fun v => v.category).sum ≤ 8) (kk : Zw p l e R s m args below meth c D A K n ad nL Q (pc + 3) ls (.int F :: st) S) : Zw p l e R s m args below meth c D A K n ad nL Q (pc) ls st0 t := z_statNI C pc hM hd hws hG hw hstat hini hy hR hdd hmL hn hst hcat (fun r t1 h => by obtain ⟨e1, e2⟩ := h; subst e1; subst e2; exact kk)
theorem z_statNVe (C : zC p s m args meth c cc nL ret own ws D cy n ad A) (pc : Nat) {idx mL k9 d d9 : Nat} {y : MethodName} {bytes : ByteArray} {ret9 : Option FieldType} {ws9 ws8 : List Cond} {As st0 : List Value} {host : String} {S : zM} (hM : zV l y ws9 d9 D cy K n ad t As (fun t1 => t1 = S)) (hd : decode cc pc = .ok (.invokestatic idx, 3)) (hws : ws9 = .code y bytes mL ret9 :: ws8) (hG : GoodIn ws ws9) (hw : Cond.methodLinkNest own idx y host ∈ zNests) (hstat : Cond.static y ∈ ws) (hini : Cond.initialized y.cls ∈ ws) (hy : y.cls ≠ "java/lang/invoke/MethodHandle" ∧ y.cls ≠ "java/lang/invoke/VarHandle" ∧ (parseMethodDescriptor y.desc).map (fun d => d.parameters.length) = some k9) (hR : R = zR d) (hdd : d9 < d) (hmL : mL ≤ 20) (hn : As.length = k9) (hst : st0 = As.reverse ++ st) (hcat : (st.map fun v => v.category).sum ≤ 8) (kk : Zw p l e R s m args below meth c D A K n ad nL Q (pc + 3) ls st S) : Zw p l e R s m args below meth c D A K n ad nL Q (pc) ls st0 t := z_statNV C pc hM hd hws hG hw hstat hini hy hR hdd hmL hn hst hcat (fun t1 h => by subst h; exact kk)
end ZZ
section ZS
variable {l : Launch} {y : MethodName} {ws ws8 : List Cond} {d : Nat} {D : va_G} {cy : Nat → ClassId} {K : zK} {n : Nat} {ad : Nat → Nat} {t : zM} {av : List Value} {cc : ByteArray} {mL : Nat} {ret : Option FieldType} {own : String}
theorem z_startI {post : Int32 → zM → Prop} (hws : ws = .code y cc mL ret :: ws8) (hy : plainName y.cls = true) (hown : y.cls = own) (hJ : zJ n ad) (hlen : (lg_sl av).length ≤ mL) (body : ∀ (p : Program) (e : Env) (s : State) (m : MethodId) (args : Array Value) (below : List Frame) (meth : Method) (c : Code) (A : Nat → Prop), A = va_A (zw K n ad t) s.heap.size → ∀ (Q : State → Prop), Q = MQ below (zEi D K n ad t s.heap.size post) args s 0 0 A → zC p s m args meth c cc mL ret own ws D cy n ad A → Zw p l e (zR d) s m args below meth c D A K n ad mL Q 0 (lv_args 0 av) [] t) : zI l y ws d D cy K n ad t av post := by
  intro sz
  refine Met.ofW (cc := cc) (maxL := mL) (ret := ret) hy hws ?_
  intro p e s m args below meth c s₁ B hml hv
  obtain ⟨rfl, hsz, hP, hK, hN⟩ := hv
  subst hsz
  have hts := atoms_spec (ws := ws) B.pre
  have ho : s.vm.findClass own = some m.cls := hown ▸ findClass_of_methodNamed B.named
  have hl := lv_entry av (n := mL) hlen
  have := body p e s m av.toArray below meth c _ rfl _ rfl ⟨⟨B.exec, B.bytes, hml, ho, hts⟩, hK, zG.self hJ, fun q h => zA_iff.mpr (Or.inr h), B.returns, B.notSynchronized, hN⟩ s.heap [] _ hP va_S.rf hl
  rw [lg_entry_eq]
  exact this
theorem z_startV {post : zM → Prop} (hws : ws = .code y cc mL ret :: ws8) (hy : plainName y.cls = true) (hown : y.cls = own) (hJ : zJ n ad) (hlen : (lg_sl av).length ≤ mL) (body : ∀ (p : Program) (e : Env) (s : State) (m : MethodId) (args : Array Value) (below : List Frame) (meth : Method) (c : Code) (A : Nat → Prop), A = va_A (zw K n ad t) s.heap.size → ∀ (Q : State → Prop), Q = MQ below (zEv D K n ad t s.heap.size post) args s 0 0 A → zC p s m args meth c cc mL ret own ws D cy n ad A → Zw p l e (zR d) s m args below meth c D A K n ad mL Q 0 (lv_args 0 av) [] t) : zV l y ws d D cy K n ad t av post := by
  intro sz
  refine Met.ofW (cc := cc) (maxL := mL) (ret := ret) hy hws ?_
  intro p e s m args below meth c s₁ B hml hv
  obtain ⟨rfl, hsz, hP, hK, hN⟩ := hv
  subst hsz
  have hts := atoms_spec (ws := ws) B.pre
  have ho : s.vm.findClass own = some m.cls := hown ▸ findClass_of_methodNamed B.named
  have hl := lv_entry av (n := mL) hlen
  have := body p e s m av.toArray below meth c _ rfl _ rfl ⟨⟨B.exec, B.bytes, hml, ho, hts⟩, hK, zG.self hJ, fun q h => zA_iff.mpr (Or.inr h), B.returns, B.notSynchronized, hN⟩ s.heap [] _ hP va_S.rf hl
  rw [lg_entry_eq]
  exact this
theorem z_startQ {post : Option Nat → zM → Prop} (hws : ws = .code y cc mL ret :: ws8) (hy : plainName y.cls = true) (hown : y.cls = own) (hJ : zJ n ad) (hlen : (lg_sl av).length ≤ mL) (body : ∀ (p : Program) (e : Env) (s : State) (m : MethodId) (args : Array Value) (below : List Frame) (meth : Method) (c : Code) (A : Nat → Prop), A = va_A (zw K n ad t) s.heap.size → ∀ (Q : State → Prop), Q = MQ below (zEq D K n ad t s.heap.size post) args s 0 0 A → zC p s m args meth c cc mL ret own ws D cy n ad A → Zw p l e (zR d) s m args below meth c D A K n ad mL Q 0 (lv_args 0 av) [] t) : zQ l y ws d D cy K n ad t av post := by
  intro sz
  refine Met.ofW (cc := cc) (maxL := mL) (ret := ret) hy hws ?_
  intro p e s m args below meth c s₁ B hml hv
  obtain ⟨rfl, hsz, hP, hK, hN⟩ := hv
  subst hsz
  have hts := atoms_spec (ws := ws) B.pre
  have ho : s.vm.findClass own = some m.cls := hown ▸ findClass_of_methodNamed B.named
  have hl := lv_entry av (n := mL) hlen
  have := body p e s m av.toArray below meth c _ rfl _ rfl ⟨⟨B.exec, B.bytes, hml, ho, hts⟩, hK, zG.self hJ, fun q h => zA_iff.mpr (Or.inr h), B.returns, B.notSynchronized, hN⟩ s.heap [] _ hP va_S.rf hl
  rw [lg_entry_eq]
  exact this
end ZS
end
section
/-! The objects by ids -/
def zHouse (K : zK) (n : Nat) (ad : Nat → Nat) (b : Nat) : Prop := b < n ∧ ∀ f, K ad b f = .inr (1, [.int (f 0), .int (f 1), .int (f 2), .int (f 3), .int (f 4), .int (f 5), .int (f 6), .int (f 7), .int (f 8), .int (f 9), .int (f 10), .int (f 11), .int (f 12), .int (f 13)])
def zStreet (cy : Nat → ClassId) (K : zK) (n : Nat) (ad : Nat → Nat) (b : Nat) : Prop := b + 1 < n ∧ (∀ f, K ad b f = .inr (4, [.ref (ad (b + 1)), .int (f 1)])) ∧ ∀ f, K ad (b + 1) f = .inl (cy 0, 20, .inl f)
def zLedger (cy : Nat → ClassId) (K : zK) (n : Nat) (ad : Nat → Nat) (b : Nat) : Prop := b + 1 < n ∧ (∀ f, K ad b f = .inr (2, [.ref (ad (b + 1)), .int (f 1), .int (f 2)])) ∧ ∀ f, K ad (b + 1) f = .inl (cy 0, 60, .inl f)
def zOrders (cy : Nat → ClassId) (K : zK) (n : Nat) (ad : Nat → Nat) (b : Nat) : Prop := b + 1 < n ∧ (∀ f, K ad b f = .inr (3, [.ref (ad (b + 1)), .int (f 1), .int (f 2), .int (f 3), .int (f 4), .int (f 5), .int (f 6), .int (f 7), .int (f 8), .int (f 9)])) ∧ ∀ f, K ad (b + 1) f = .inl (cy 0, 60, .inl f)
def rX1_used (b : Nat) (t : zM)  : Int32 := (if (t (b) 2) < (t (b) 3) then (((t (b) 2) - (t (b) 3)) + 100000) else ((t (b) 2) - (t (b) 3)))
theorem mX1_used_f21 : Cond.fieldLink RX1 21 "WrongedMeters$House" "dial" "I" ∈ wsX1_used := by decide +kernel
set_option maxRecDepth 20000 in
theorem mX1_used_in1 : ∀ w ∈ u_ws RX1 TX1 14, w ∈ wsX1_used := by decide +kernel
theorem mX1_used_f24 : Cond.fieldLink RX1 24 "WrongedMeters$House" "dialBefore" "I" ∈ wsX1_used := by decide +kernel
theorem mX1_used_c55 : Cond.constant RX1 55 (100000) ∈ wsX1_used := by decide +kernel
theorem hyX1_used : yX1_used.cls = RX1 ∧ yX1_used.cls ≠ "java/lang/invoke/MethodHandle" ∧ yX1_used.cls ≠ "java/lang/invoke/VarHandle" ∧ (parseMethodDescriptor yX1_used.desc).map (fun d => d.parameters.length) = some 0 := by decide +kernel
set_option maxHeartbeats 3000000 in
set_option maxRecDepth 100000 in
theorem kX1_used (l : Launch) (D : va_G) (cy : Nat → ClassId) (K : zK) (n : Nat) (ad : Nat → Nat) (hJ : zJ n ad) (b : Nat) (hO : zHouse K n ad b) (t : zM)   : zI l yX1_used wsX1_used 0 D cy K n ad t [.ref (ad (b))] (fun r t1 => r = rX1_used b t ∧ t1 = t) := by
  refine z_startI (cc := cX1_used) (mL := 1) (ret := (some .int)) (own := RX1) rfl (by decide +kernel) rfl hJ (Nat.le_of_ble_eq_true rfl) ?_
  intro p e s m args below meth c A hA Q hQ C
  refine z_aload_n C 0 0 0 dX1_used_0 rfl rfl ?_
  refine z_geti C 1 (b) 2 dX1_used_1 hO.1 hO.2 mX1_used_in1 rfl (by decide) mX1_used_f21 (fun _ => rfl) ?_
  refine z_aload_n C 4 0 0 dX1_used_4 rfl rfl ?_
  refine z_geti C 5 (b) 3 dX1_used_5 hO.1 hO.2 mX1_used_in1 rfl (by decide) mX1_used_f24 (fun _ => rfl) ?_
  refine z_icmp_lt C 8 23 dX1_used_8 (by decide) (fun c8_1 => ?_) (fun c8_1 => ?_)
  · refine z_aload_n C 23 0 0 dX1_used_23 rfl rfl ?_
    refine z_geti C 24 (b) 2 dX1_used_24 hO.1 hO.2 mX1_used_in1 rfl (by decide) mX1_used_f21 (fun _ => rfl) ?_
    refine z_aload_n C 27 0 0 dX1_used_27 rfl rfl ?_
    refine z_geti C 28 (b) 3 dX1_used_28 hO.1 hO.2 mX1_used_in1 rfl (by decide) mX1_used_f24 (fun _ => rfl) ?_
    refine z_isub C 31 dX1_used_31 ?_
    refine z_ldc C 32 (v := 100000) dX1_used_32 mX1_used_c55 ?_
    refine z_iadd C 34 dX1_used_34 ?_
    exact z_iret C 35 hA hQ rfl dX1_used_35 ⟨((if_pos c8_1).trans rfl).symm, rfl⟩
  · refine z_aload_n C 11 0 0 dX1_used_11 rfl rfl ?_
    refine z_geti C 12 (b) 2 dX1_used_12 hO.1 hO.2 mX1_used_in1 rfl (by decide) mX1_used_f21 (fun _ => rfl) ?_
    refine z_aload_n C 15 0 0 dX1_used_15 rfl rfl ?_
    refine z_geti C 16 (b) 3 dX1_used_16 hO.1 hO.2 mX1_used_in1 rfl (by decide) mX1_used_f24 (fun _ => rfl) ?_
    refine z_isub C 19 dX1_used_19 ?_
    refine z_goto C 20 35 dX1_used_20 (by decide) ?_
    exact z_iret C 35 hA hQ rfl dX1_used_35 ⟨((if_neg c8_1).trans rfl).symm, rfl⟩
def rX1_reasonOn (b : Nat) (t : zM) (a1 : Int32) : Int32 := (if (t (b) 5) = 0 then (if (t (b) 7) = a1 then 2 else 0) else 1)
theorem mX1_reasonOn_f30 : Cond.fieldLink RX1 30 "WrongedMeters$House" "isLocked" "Z" ∈ wsX1_reasonOn := by decide +kernel
set_option maxRecDepth 20000 in
theorem mX1_reasonOn_in1 : ∀ w ∈ u_ws RX1 TX1 14, w ∈ wsX1_reasonOn := by decide +kernel
theorem mX1_reasonOn_f9 : Cond.fieldLink RX1 9 "WrongedMeters$House" "latestDay" "I" ∈ wsX1_reasonOn := by decide +kernel
theorem hyX1_reasonOn : yX1_reasonOn.cls = RX1 ∧ yX1_reasonOn.cls ≠ "java/lang/invoke/MethodHandle" ∧ yX1_reasonOn.cls ≠ "java/lang/invoke/VarHandle" ∧ (parseMethodDescriptor yX1_reasonOn.desc).map (fun d => d.parameters.length) = some 1 := by decide +kernel
set_option maxHeartbeats 3000000 in
set_option maxRecDepth 100000 in
theorem kX1_reasonOn (l : Launch) (D : va_G) (cy : Nat → ClassId) (K : zK) (n : Nat) (ad : Nat → Nat) (hJ : zJ n ad) (b : Nat) (hO : zHouse K n ad b) (t : zM) (a1 : Int32)  : zI l yX1_reasonOn wsX1_reasonOn 0 D cy K n ad t [.ref (ad (b)), .int a1] (fun r t1 => r = rX1_reasonOn b t a1 ∧ t1 = t) := by
  refine z_startI (cc := cX1_reasonOn) (mL := 2) (ret := (some .int)) (own := RX1) rfl (by decide +kernel) rfl hJ (Nat.le_of_ble_eq_true rfl) ?_
  intro p e s m args below meth c A hA Q hQ C
  refine z_aload_n C 0 0 0 dX1_reasonOn_0 rfl rfl ?_
  refine z_geti C 1 (b) 5 dX1_reasonOn_1 hO.1 hO.2 mX1_reasonOn_in1 rfl (by decide) mX1_reasonOn_f30 (fun _ => rfl) ?_
  refine z_if_eq C 4 11 dX1_reasonOn_4 (by decide) (fun c4_1 => ?_) (fun c4_1 => ?_)
  · refine z_aload_n C 11 0 0 dX1_reasonOn_11 rfl rfl ?_
    refine z_geti C 12 (b) 7 dX1_reasonOn_12 hO.1 hO.2 mX1_reasonOn_in1 rfl (by decide) mX1_reasonOn_f9 (fun _ => rfl) ?_
    refine z_iload_n C 15 1 1 dX1_reasonOn_15 rfl rfl ?_
    refine z_icmp_ne C 16 23 dX1_reasonOn_16 (by decide) (fun c16_2 => ?_) (fun c16_2 => ?_)
    · refine z_iconst C 23 (v := 0) dX1_reasonOn_23 (by decide +kernel) ?_
      exact z_iret C 24 hA hQ rfl dX1_reasonOn_24 ⟨((if_pos c4_1).trans ((if_neg c16_2).trans rfl)).symm, rfl⟩
    · refine z_iconst C 19 (v := 2) dX1_reasonOn_19 (by decide +kernel) ?_
      refine z_goto C 20 24 dX1_reasonOn_20 (by decide) ?_
      exact z_iret C 24 hA hQ rfl dX1_reasonOn_24 ⟨((if_pos c4_1).trans ((if_pos c16_2).trans rfl)).symm, rfl⟩
  · refine z_iconst C 7 (v := 1) dX1_reasonOn_7 (by decide +kernel) ?_
    refine z_goto C 8 24 dX1_reasonOn_8 (by decide) ?_
    exact z_iret C 24 hA hQ rfl dX1_reasonOn_24 ⟨((if_neg c4_1).trans rfl).symm, rfl⟩
def sX1_goOn (b : Nat) (t : zM)  : zM := (if ((t (b) 2) + (t (b) 4)) < 100000 then (zset t (b) 2 ((t (b) 2) + (t (b) 4))) else (zset (zset t (b) 2 ((t (b) 2) + (t (b) 4))) (b) 2 (((t (b) 2) + (t (b) 4)) - 100000)))
theorem mX1_goOn_f21 : Cond.fieldLink RX1 21 "WrongedMeters$House" "dial" "I" ∈ wsX1_goOn := by decide +kernel
set_option maxRecDepth 20000 in
theorem mX1_goOn_in1 : ∀ w ∈ u_ws RX1 TX1 14, w ∈ wsX1_goOn := by decide +kernel
theorem mX1_goOn_f27 : Cond.fieldLink RX1 27 "WrongedMeters$House" "flow" "I" ∈ wsX1_goOn := by decide +kernel
theorem mX1_goOn_c55 : Cond.constant RX1 55 (100000) ∈ wsX1_goOn := by decide +kernel
theorem hyX1_goOn : yX1_goOn.cls = RX1 ∧ yX1_goOn.cls ≠ "java/lang/invoke/MethodHandle" ∧ yX1_goOn.cls ≠ "java/lang/invoke/VarHandle" ∧ (parseMethodDescriptor yX1_goOn.desc).map (fun d => d.parameters.length) = some 0 := by decide +kernel
set_option maxHeartbeats 3000000 in
set_option maxRecDepth 100000 in
theorem kX1_goOn (l : Launch) (D : va_G) (cy : Nat → ClassId) (K : zK) (n : Nat) (ad : Nat → Nat) (hJ : zJ n ad) (b : Nat) (hO : zHouse K n ad b) (t : zM)   : zV l yX1_goOn wsX1_goOn 0 D cy K n ad t [.ref (ad (b))] (fun t1 => t1 = sX1_goOn b t) := by
  refine z_startV (cc := cX1_goOn) (mL := 1) (ret := none) (own := RX1) rfl (by decide +kernel) rfl hJ (Nat.le_of_ble_eq_true rfl) ?_
  intro p e s m args below meth c A hA Q hQ C
  refine z_aload_n C 0 0 0 dX1_goOn_0 rfl rfl ?_
  refine z_dup C 1 dX1_goOn_1 rfl ?_
  refine z_geti C 2 (b) 2 dX1_goOn_2 hO.1 hO.2 mX1_goOn_in1 rfl (by decide) mX1_goOn_f21 (fun _ => rfl) ?_
  refine z_aload_n C 5 0 0 dX1_goOn_5 rfl rfl ?_
  refine z_geti C 6 (b) 4 dX1_goOn_6 hO.1 hO.2 mX1_goOn_in1 rfl (by decide) mX1_goOn_f27 (fun _ => rfl) ?_
  refine z_iadd C 9 dX1_goOn_9 ?_
  refine z_put C 10 (ty := .int) (b) 2 dX1_goOn_10 hO.1 hO.2 mX1_goOn_in1 tyX1 tyX1_ok nmX1 rfl (by decide) mX1_goOn_f21 rfl (by decide +kernel) (vp_nar_int _) (zfit_i _) (fun _ => Nat.le_of_ble_eq_true rfl) (fun _ _ => rfl) ?_
  refine z_aload_n C 13 0 0 dX1_goOn_13 rfl rfl ?_
  refine z_geti C 14 (b) 2 dX1_goOn_14 hO.1 hO.2 mX1_goOn_in1 rfl (by decide) mX1_goOn_f21 (fun _ => rfl) ?_
  refine z_nv ((t (b) 2) + (t (b) 4)) (zset_eq _ _ _ _) ?_
  refine z_ldc C 17 (v := 100000) dX1_goOn_17 mX1_goOn_c55 ?_
  refine z_icmp_lt C 19 33 dX1_goOn_19 (by decide) (fun c19_1 => ?_) (fun c19_1 => ?_)
  · exact z_vret C 33 hA hQ rfl dX1_goOn_33 ((if_pos c19_1).trans rfl).symm
  · refine z_aload_n C 22 0 0 dX1_goOn_22 rfl rfl ?_
    refine z_dup C 23 dX1_goOn_23 rfl ?_
    refine z_geti C 24 (b) 2 dX1_goOn_24 hO.1 hO.2 mX1_goOn_in1 rfl (by decide) mX1_goOn_f21 (fun _ => rfl) ?_
    refine z_nv ((t (b) 2) + (t (b) 4)) (zset_eq _ _ _ _) ?_
    refine z_ldc C 27 (v := 100000) dX1_goOn_27 mX1_goOn_c55 ?_
    refine z_isub C 29 dX1_goOn_29 ?_
    refine z_put C 30 (ty := .int) (b) 2 dX1_goOn_30 hO.1 hO.2 mX1_goOn_in1 tyX1 tyX1_ok nmX1 rfl (by decide) mX1_goOn_f21 rfl (by decide +kernel) (vp_nar_int _) (zfit_i _) (fun _ => Nat.le_of_ble_eq_true rfl) (fun _ _ => rfl) ?_
    exact z_vret C 33 hA hQ rfl dX1_goOn_33 ((if_neg c19_1).trans rfl).symm
theorem sX1_goOn_o (b : Nat) (t : zM)  {j : Nat} (h : j ≠ b) : sX1_goOn b t  j = t j := by
  unfold sX1_goOn
  repeat' split
  all_goals simp only [zset_id _ _ _ h]
def sX1_settle (b : Nat) (t : zM) (a1 : Int32) (a2 : Int32) (a3 : Int32) : zM := (if ((t (b) 6) + ((100 * a3) - a2)) ≤ 0 then (if 0 ≤ ((t (b) 6) + ((100 * a3) - a2)) then (zset (zset (zset (zset (zset t (b) 6 ((t (b) 6) + ((100 * a3) - a2))) (b) 3 (t (b) 2)) (b) 7 a1) (b) 8 ((t (b) 8) + 1)) (b) 9 ((t (b) 9) + a3)) else (zset (zset (zset (zset (zset (zset t (b) 6 ((t (b) 6) + ((100 * a3) - a2))) (b) 3 (t (b) 2)) (b) 7 a1) (b) 8 ((t (b) 8) + 1)) (b) 9 ((t (b) 9) + a3)) (b) 11 ((t (b) 11) + 1))) else (zset (zset (zset (zset (zset (zset t (b) 6 ((t (b) 6) + ((100 * a3) - a2))) (b) 3 (t (b) 2)) (b) 7 a1) (b) 8 ((t (b) 8) + 1)) (b) 9 ((t (b) 9) + a3)) (b) 10 ((t (b) 10) + 1)))
theorem mX1_settle_f34 : Cond.fieldLink RX1 34 "WrongedMeters$House" "balance" "I" ∈ wsX1_settle := by decide +kernel
set_option maxRecDepth 20000 in
theorem mX1_settle_in1 : ∀ w ∈ u_ws RX1 TX1 14, w ∈ wsX1_settle := by decide +kernel
theorem mX1_settle_f21 : Cond.fieldLink RX1 21 "WrongedMeters$House" "dial" "I" ∈ wsX1_settle := by decide +kernel
theorem mX1_settle_f24 : Cond.fieldLink RX1 24 "WrongedMeters$House" "dialBefore" "I" ∈ wsX1_settle := by decide +kernel
theorem mX1_settle_f9 : Cond.fieldLink RX1 9 "WrongedMeters$House" "latestDay" "I" ∈ wsX1_settle := by decide +kernel
theorem mX1_settle_f37 : Cond.fieldLink RX1 37 "WrongedMeters$House" "readings" "I" ∈ wsX1_settle := by decide +kernel
theorem mX1_settle_f40 : Cond.fieldLink RX1 40 "WrongedMeters$House" "units" "I" ∈ wsX1_settle := by decide +kernel
theorem mX1_settle_f46 : Cond.fieldLink RX1 46 "WrongedMeters$House" "timesCompanyWronged" "I" ∈ wsX1_settle := by decide +kernel
theorem mX1_settle_f43 : Cond.fieldLink RX1 43 "WrongedMeters$House" "timesHouseWronged" "I" ∈ wsX1_settle := by decide +kernel
theorem hyX1_settle : yX1_settle.cls = RX1 ∧ yX1_settle.cls ≠ "java/lang/invoke/MethodHandle" ∧ yX1_settle.cls ≠ "java/lang/invoke/VarHandle" ∧ (parseMethodDescriptor yX1_settle.desc).map (fun d => d.parameters.length) = some 3 := by decide +kernel
set_option maxHeartbeats 3000000 in
set_option maxRecDepth 100000 in
theorem kX1_settle (l : Launch) (D : va_G) (cy : Nat → ClassId) (K : zK) (n : Nat) (ad : Nat → Nat) (hJ : zJ n ad) (b : Nat) (hO : zHouse K n ad b) (t : zM) (a1 : Int32) (a2 : Int32) (a3 : Int32)  : zV l yX1_settle wsX1_settle 0 D cy K n ad t [.ref (ad (b)), .int a1, .int a2, .int a3] (fun t1 => t1 = sX1_settle b t a1 a2 a3) := by
  refine z_startV (cc := cX1_settle) (mL := 4) (ret := none) (own := RX1) rfl (by decide +kernel) rfl hJ (Nat.le_of_ble_eq_true rfl) ?_
  intro p e s m args below meth c A hA Q hQ C
  refine z_aload_n C 0 0 0 dX1_settle_0 rfl rfl ?_
  refine z_dup C 1 dX1_settle_1 rfl ?_
  refine z_geti C 2 (b) 6 dX1_settle_2 hO.1 hO.2 mX1_settle_in1 rfl (by decide) mX1_settle_f34 (fun _ => rfl) ?_
  refine z_bipush C 5 (v := 100) dX1_settle_5 (by decide +kernel) ?_
  refine z_iload_n C 7 3 3 dX1_settle_7 rfl rfl ?_
  refine z_imul C 8 dX1_settle_8 ?_
  refine z_iload_n C 9 2 2 dX1_settle_9 rfl rfl ?_
  refine z_isub C 10 dX1_settle_10 ?_
  refine z_iadd C 11 dX1_settle_11 ?_
  refine z_put C 12 (ty := .int) (b) 6 dX1_settle_12 hO.1 hO.2 mX1_settle_in1 tyX1 tyX1_ok nmX1 rfl (by decide) mX1_settle_f34 rfl (by decide +kernel) (vp_nar_int _) (zfit_i _) (fun _ => Nat.le_of_ble_eq_true rfl) (fun _ _ => rfl) ?_
  refine z_aload_n C 15 0 0 dX1_settle_15 rfl rfl ?_
  refine z_aload_n C 16 0 0 dX1_settle_16 rfl rfl ?_
  refine z_geti C 17 (b) 2 dX1_settle_17 hO.1 hO.2 mX1_settle_in1 rfl (by decide) mX1_settle_f21 (fun _ => rfl) ?_
  refine z_nv (t (b) 2) ((zset_nk _ _ _ (by decide)).trans rfl) ?_
  refine z_put C 20 (ty := .int) (b) 3 dX1_settle_20 hO.1 hO.2 mX1_settle_in1 tyX1 tyX1_ok nmX1 rfl (by decide) mX1_settle_f24 rfl (by decide +kernel) (vp_nar_int _) (zfit_i _) (fun _ => Nat.le_of_ble_eq_true rfl) (fun _ _ => rfl) ?_
  refine z_aload_n C 23 0 0 dX1_settle_23 rfl rfl ?_
  refine z_iload_n C 24 1 1 dX1_settle_24 rfl rfl ?_
  refine z_put C 25 (ty := .int) (b) 7 dX1_settle_25 hO.1 hO.2 mX1_settle_in1 tyX1 tyX1_ok nmX1 rfl (by decide) mX1_settle_f9 rfl (by decide +kernel) (vp_nar_int _) (zfit_i _) (fun _ => Nat.le_of_ble_eq_true rfl) (fun _ _ => rfl) ?_
  refine z_aload_n C 28 0 0 dX1_settle_28 rfl rfl ?_
  refine z_dup C 29 dX1_settle_29 rfl ?_
  refine z_geti C 30 (b) 8 dX1_settle_30 hO.1 hO.2 mX1_settle_in1 rfl (by decide) mX1_settle_f37 (fun _ => rfl) ?_
  refine z_nv (t (b) 8) ((zset_nk _ _ _ (by decide)).trans ((zset_nk _ _ _ (by decide)).trans ((zset_nk _ _ _ (by decide)).trans rfl))) ?_
  refine z_iconst C 33 (v := 1) dX1_settle_33 (by decide +kernel) ?_
  refine z_iadd C 34 dX1_settle_34 ?_
  refine z_put C 35 (ty := .int) (b) 8 dX1_settle_35 hO.1 hO.2 mX1_settle_in1 tyX1 tyX1_ok nmX1 rfl (by decide) mX1_settle_f37 rfl (by decide +kernel) (vp_nar_int _) (zfit_i _) (fun _ => Nat.le_of_ble_eq_true rfl) (fun _ _ => rfl) ?_
  refine z_aload_n C 38 0 0 dX1_settle_38 rfl rfl ?_
  refine z_dup C 39 dX1_settle_39 rfl ?_
  refine z_geti C 40 (b) 9 dX1_settle_40 hO.1 hO.2 mX1_settle_in1 rfl (by decide) mX1_settle_f40 (fun _ => rfl) ?_
  refine z_nv (t (b) 9) ((zset_nk _ _ _ (by decide)).trans ((zset_nk _ _ _ (by decide)).trans ((zset_nk _ _ _ (by decide)).trans ((zset_nk _ _ _ (by decide)).trans rfl)))) ?_
  refine z_iload_n C 43 3 3 dX1_settle_43 rfl rfl ?_
  refine z_iadd C 44 dX1_settle_44 ?_
  refine z_put C 45 (ty := .int) (b) 9 dX1_settle_45 hO.1 hO.2 mX1_settle_in1 tyX1 tyX1_ok nmX1 rfl (by decide) mX1_settle_f40 rfl (by decide +kernel) (vp_nar_int _) (zfit_i _) (fun _ => Nat.le_of_ble_eq_true rfl) (fun _ _ => rfl) ?_
  refine z_aload_n C 48 0 0 dX1_settle_48 rfl rfl ?_
  refine z_geti C 49 (b) 6 dX1_settle_49 hO.1 hO.2 mX1_settle_in1 rfl (by decide) mX1_settle_f34 (fun _ => rfl) ?_
  refine z_nv ((t (b) 6) + ((100 * a3) - a2)) ((zset_nk _ _ _ (by decide)).trans ((zset_nk _ _ _ (by decide)).trans ((zset_nk _ _ _ (by decide)).trans ((zset_nk _ _ _ (by decide)).trans (zset_eq _ _ _ _))))) ?_
  refine z_if_le C 52 68 dX1_settle_52 (by decide) (fun c52_1 => ?_) (fun c52_1 => ?_)
  · refine z_aload_n C 68 0 0 dX1_settle_68 rfl rfl ?_
    refine z_geti C 69 (b) 6 dX1_settle_69 hO.1 hO.2 mX1_settle_in1 rfl (by decide) mX1_settle_f34 (fun _ => rfl) ?_
    refine z_nv ((t (b) 6) + ((100 * a3) - a2)) ((zset_nk _ _ _ (by decide)).trans ((zset_nk _ _ _ (by decide)).trans ((zset_nk _ _ _ (by decide)).trans ((zset_nk _ _ _ (by decide)).trans (zset_eq _ _ _ _))))) ?_
    refine z_if_ge C 72 85 dX1_settle_72 (by decide) (fun c72_2 => ?_) (fun c72_2 => ?_)
    · exact z_vret C 85 hA hQ rfl dX1_settle_85 ((if_pos c52_1).trans ((if_pos c72_2).trans rfl)).symm
    · refine z_aload_n C 75 0 0 dX1_settle_75 rfl rfl ?_
      refine z_dup C 76 dX1_settle_76 rfl ?_
      refine z_geti C 77 (b) 11 dX1_settle_77 hO.1 hO.2 mX1_settle_in1 rfl (by decide) mX1_settle_f46 (fun _ => rfl) ?_
      refine z_nv (t (b) 11) ((zset_nk _ _ _ (by decide)).trans ((zset_nk _ _ _ (by decide)).trans ((zset_nk _ _ _ (by decide)).trans ((zset_nk _ _ _ (by decide)).trans ((zset_nk _ _ _ (by decide)).trans rfl))))) ?_
      refine z_iconst C 80 (v := 1) dX1_settle_80 (by decide +kernel) ?_
      refine z_iadd C 81 dX1_settle_81 ?_
      refine z_put C 82 (ty := .int) (b) 11 dX1_settle_82 hO.1 hO.2 mX1_settle_in1 tyX1 tyX1_ok nmX1 rfl (by decide) mX1_settle_f46 rfl (by decide +kernel) (vp_nar_int _) (zfit_i _) (fun _ => Nat.le_of_ble_eq_true rfl) (fun _ _ => rfl) ?_
      exact z_vret C 85 hA hQ rfl dX1_settle_85 ((if_pos c52_1).trans ((if_neg c72_2).trans rfl)).symm
  · refine z_aload_n C 55 0 0 dX1_settle_55 rfl rfl ?_
    refine z_dup C 56 dX1_settle_56 rfl ?_
    refine z_geti C 57 (b) 10 dX1_settle_57 hO.1 hO.2 mX1_settle_in1 rfl (by decide) mX1_settle_f43 (fun _ => rfl) ?_
    refine z_nv (t (b) 10) ((zset_nk _ _ _ (by decide)).trans ((zset_nk _ _ _ (by decide)).trans ((zset_nk _ _ _ (by decide)).trans ((zset_nk _ _ _ (by decide)).trans ((zset_nk _ _ _ (by decide)).trans rfl))))) ?_
    refine z_iconst C 60 (v := 1) dX1_settle_60 (by decide +kernel) ?_
    refine z_iadd C 61 dX1_settle_61 ?_
    refine z_put C 62 (ty := .int) (b) 10 dX1_settle_62 hO.1 hO.2 mX1_settle_in1 tyX1 tyX1_ok nmX1 rfl (by decide) mX1_settle_f43 rfl (by decide +kernel) (vp_nar_int _) (zfit_i _) (fun _ => Nat.le_of_ble_eq_true rfl) (fun _ _ => rfl) ?_
    refine z_goto C 65 85 dX1_settle_65 (by decide) ?_
    exact z_vret C 85 hA hQ rfl dX1_settle_85 ((if_neg c52_1).trans rfl).symm
theorem sX1_settle_o (b : Nat) (t : zM) (a1 : Int32) (a2 : Int32) (a3 : Int32) {j : Nat} (h : j ≠ b) : sX1_settle b t a1 a2 a3 j = t j := by
  unfold sX1_settle
  repeat' split
  all_goals simp only [zset_id _ _ _ h]
def sX1_renewMeter (b : Nat) (t : zM)  : zM := (zset (zset (zset t (b) 2 0) (b) 3 0) (b) 13 ((t (b) 13) + 1))
theorem mX1_renewMeter_f21 : Cond.fieldLink RX1 21 "WrongedMeters$House" "dial" "I" ∈ wsX1_renewMeter := by decide +kernel
set_option maxRecDepth 20000 in
theorem mX1_renewMeter_in1 : ∀ w ∈ u_ws RX1 TX1 14, w ∈ wsX1_renewMeter := by decide +kernel
theorem mX1_renewMeter_f24 : Cond.fieldLink RX1 24 "WrongedMeters$House" "dialBefore" "I" ∈ wsX1_renewMeter := by decide +kernel
theorem mX1_renewMeter_f52 : Cond.fieldLink RX1 52 "WrongedMeters$House" "metersChanged" "I" ∈ wsX1_renewMeter := by decide +kernel
theorem hyX1_renewMeter : yX1_renewMeter.cls = RX1 ∧ yX1_renewMeter.cls ≠ "java/lang/invoke/MethodHandle" ∧ yX1_renewMeter.cls ≠ "java/lang/invoke/VarHandle" ∧ (parseMethodDescriptor yX1_renewMeter.desc).map (fun d => d.parameters.length) = some 0 := by decide +kernel
set_option maxHeartbeats 3000000 in
set_option maxRecDepth 100000 in
theorem kX1_renewMeter (l : Launch) (D : va_G) (cy : Nat → ClassId) (K : zK) (n : Nat) (ad : Nat → Nat) (hJ : zJ n ad) (b : Nat) (hO : zHouse K n ad b) (t : zM)   : zV l yX1_renewMeter wsX1_renewMeter 0 D cy K n ad t [.ref (ad (b))] (fun t1 => t1 = sX1_renewMeter b t) := by
  refine z_startV (cc := cX1_renewMeter) (mL := 1) (ret := none) (own := RX1) rfl (by decide +kernel) rfl hJ (Nat.le_of_ble_eq_true rfl) ?_
  intro p e s m args below meth c A hA Q hQ C
  refine z_aload_n C 0 0 0 dX1_renewMeter_0 rfl rfl ?_
  refine z_iconst C 1 (v := 0) dX1_renewMeter_1 (by decide +kernel) ?_
  refine z_put C 2 (ty := .int) (b) 2 dX1_renewMeter_2 hO.1 hO.2 mX1_renewMeter_in1 tyX1 tyX1_ok nmX1 rfl (by decide) mX1_renewMeter_f21 rfl (by decide +kernel) (vp_nar_int _) (zfit_i _) (fun _ => Nat.le_of_ble_eq_true rfl) (fun _ _ => rfl) ?_
  refine z_aload_n C 5 0 0 dX1_renewMeter_5 rfl rfl ?_
  refine z_iconst C 6 (v := 0) dX1_renewMeter_6 (by decide +kernel) ?_
  refine z_put C 7 (ty := .int) (b) 3 dX1_renewMeter_7 hO.1 hO.2 mX1_renewMeter_in1 tyX1 tyX1_ok nmX1 rfl (by decide) mX1_renewMeter_f24 rfl (by decide +kernel) (vp_nar_int _) (zfit_i _) (fun _ => Nat.le_of_ble_eq_true rfl) (fun _ _ => rfl) ?_
  refine z_aload_n C 10 0 0 dX1_renewMeter_10 rfl rfl ?_
  refine z_dup C 11 dX1_renewMeter_11 rfl ?_
  refine z_geti C 12 (b) 13 dX1_renewMeter_12 hO.1 hO.2 mX1_renewMeter_in1 rfl (by decide) mX1_renewMeter_f52 (fun _ => rfl) ?_
  refine z_nv (t (b) 13) ((zset_nk _ _ _ (by decide)).trans ((zset_nk _ _ _ (by decide)).trans rfl)) ?_
  refine z_iconst C 15 (v := 1) dX1_renewMeter_15 (by decide +kernel) ?_
  refine z_iadd C 16 dX1_renewMeter_16 ?_
  refine z_put C 17 (ty := .int) (b) 13 dX1_renewMeter_17 hO.1 hO.2 mX1_renewMeter_in1 tyX1 tyX1_ok nmX1 rfl (by decide) mX1_renewMeter_f52 rfl (by decide +kernel) (vp_nar_int _) (zfit_i _) (fun _ => Nat.le_of_ble_eq_true rfl) (fun _ _ => rfl) ?_
  exact z_vret C 20 hA hQ rfl dX1_renewMeter_20 rfl
theorem sX1_renewMeter_o (b : Nat) (t : zM)  {j : Nat} (h : j ≠ b) : sX1_renewMeter b t  j = t j := by
  unfold sX1_renewMeter
  repeat' split
  all_goals simp only [zset_id _ _ _ h]
def rX1_fact (b : Nat) (t : zM) (a1 : Int32) : Int32 := (if a1 = 0 then (t (b) 0) else (if a1 = 1 then (t (b) 1) else (if a1 = 2 then (t (b) 2) else (if a1 = 3 then (rX1_used (b) t) else (if a1 = 4 then (1000 + (t (b) 6)) else (if a1 = 5 then (t (b) 4) else (if a1 = 6 then (if (t (b) 5) = 0 then 0 else 1) else (if a1 = 7 then (if (t (b) 7) = (-1) then (-1000004) else (t (b) 7)) else (if a1 = 8 then (t (b) 8) else (if a1 = 9 then (t (b) 9) else (if a1 = 10 then (t (b) 10) else (if a1 = 11 then (t (b) 11) else (if a1 = 12 then (t (b) 12) else (if a1 = 13 then (t (b) 13) else (-1000001)))))))))))))))
theorem mX1_fact_f15 : Cond.fieldLink RX1 15 "WrongedMeters$House" "street" "I" ∈ wsX1_fact := by decide +kernel
set_option maxRecDepth 20000 in
theorem mX1_fact_in1 : ∀ w ∈ u_ws RX1 TX1 14, w ∈ wsX1_fact := by decide +kernel
theorem mX1_fact_f18 : Cond.fieldLink RX1 18 "WrongedMeters$House" "place" "I" ∈ wsX1_fact := by decide +kernel
theorem mX1_fact_f21 : Cond.fieldLink RX1 21 "WrongedMeters$House" "dial" "I" ∈ wsX1_fact := by decide +kernel
theorem mX1_fact_f34 : Cond.fieldLink RX1 34 "WrongedMeters$House" "balance" "I" ∈ wsX1_fact := by decide +kernel
theorem mX1_fact_f27 : Cond.fieldLink RX1 27 "WrongedMeters$House" "flow" "I" ∈ wsX1_fact := by decide +kernel
theorem mX1_fact_f30 : Cond.fieldLink RX1 30 "WrongedMeters$House" "isLocked" "Z" ∈ wsX1_fact := by decide +kernel
theorem mX1_fact_f9 : Cond.fieldLink RX1 9 "WrongedMeters$House" "latestDay" "I" ∈ wsX1_fact := by decide +kernel
theorem mX1_fact_c60 : Cond.constant RX1 60 (-1000004) ∈ wsX1_fact := by decide +kernel
theorem mX1_fact_f37 : Cond.fieldLink RX1 37 "WrongedMeters$House" "readings" "I" ∈ wsX1_fact := by decide +kernel
theorem mX1_fact_f40 : Cond.fieldLink RX1 40 "WrongedMeters$House" "units" "I" ∈ wsX1_fact := by decide +kernel
theorem mX1_fact_f43 : Cond.fieldLink RX1 43 "WrongedMeters$House" "timesHouseWronged" "I" ∈ wsX1_fact := by decide +kernel
theorem mX1_fact_f46 : Cond.fieldLink RX1 46 "WrongedMeters$House" "timesCompanyWronged" "I" ∈ wsX1_fact := by decide +kernel
theorem mX1_fact_f49 : Cond.fieldLink RX1 49 "WrongedMeters$House" "refunds" "I" ∈ wsX1_fact := by decide +kernel
theorem mX1_fact_f52 : Cond.fieldLink RX1 52 "WrongedMeters$House" "metersChanged" "I" ∈ wsX1_fact := by decide +kernel
theorem mX1_fact_c61 : Cond.constant RX1 61 (-1000001) ∈ wsX1_fact := by decide +kernel
theorem hyX1_fact : yX1_fact.cls = RX1 ∧ yX1_fact.cls ≠ "java/lang/invoke/MethodHandle" ∧ yX1_fact.cls ≠ "java/lang/invoke/VarHandle" ∧ (parseMethodDescriptor yX1_fact.desc).map (fun d => d.parameters.length) = some 1 := by decide +kernel
set_option maxHeartbeats 3000000 in
set_option maxRecDepth 100000 in
theorem kX1_fact (l : Launch) (D : va_G) (cy : Nat → ClassId) (K : zK) (n : Nat) (ad : Nat → Nat) (hJ : zJ n ad) (b : Nat) (hO : zHouse K n ad b) (t : zM) (a1 : Int32)  : zI l yX1_fact wsX1_fact 1 D cy K n ad t [.ref (ad (b)), .int a1] (fun r t1 => r = rX1_fact b t a1 ∧ t1 = t) := by
  refine z_startI (cc := cX1_fact) (mL := 2) (ret := (some .int)) (own := RX1) rfl (by decide +kernel) rfl hJ (Nat.le_of_ble_eq_true rfl) ?_
  intro p e s m args below meth c A hA Q hQ C
  refine z_iload_n C 0 1 1 dX1_fact_0 rfl rfl ?_
  by_cases c1_1 : a1 = 0
  · refine z_tableIn C 1 72 dX1_fact_1 (by rw [c1_1]; decide +kernel) (by rw [c1_1]; decide +kernel) (off := 71) (by rw [c1_1]; decide +kernel) (by decide) ?_
    refine z_aload_n C 72 0 0 dX1_fact_72 rfl rfl ?_
    refine z_geti C 73 (b) 0 dX1_fact_73 hO.1 hO.2 mX1_fact_in1 rfl (by decide) mX1_fact_f15 (fun _ => rfl) ?_
    exact z_iret C 76 hA hQ rfl dX1_fact_76 ⟨((if_pos c1_1).trans rfl).symm, rfl⟩
  · by_cases c1_2 : a1 = 1
    · refine z_tableIn C 1 77 dX1_fact_1 (by rw [c1_2]; decide +kernel) (by rw [c1_2]; decide +kernel) (off := 76) (by rw [c1_2]; decide +kernel) (by decide) ?_
      refine z_aload_n C 77 0 0 dX1_fact_77 rfl rfl ?_
      refine z_geti C 78 (b) 1 dX1_fact_78 hO.1 hO.2 mX1_fact_in1 rfl (by decide) mX1_fact_f18 (fun _ => rfl) ?_
      exact z_iret C 81 hA hQ rfl dX1_fact_81 ⟨((if_neg c1_1).trans ((if_pos c1_2).trans rfl)).symm, rfl⟩
    · by_cases c1_3 : a1 = 2
      · refine z_tableIn C 1 82 dX1_fact_1 (by rw [c1_3]; decide +kernel) (by rw [c1_3]; decide +kernel) (off := 81) (by rw [c1_3]; decide +kernel) (by decide) ?_
        refine z_aload_n C 82 0 0 dX1_fact_82 rfl rfl ?_
        refine z_geti C 83 (b) 2 dX1_fact_83 hO.1 hO.2 mX1_fact_in1 rfl (by decide) mX1_fact_f21 (fun _ => rfl) ?_
        exact z_iret C 86 hA hQ rfl dX1_fact_86 ⟨((if_neg c1_1).trans ((if_neg c1_2).trans ((if_pos c1_3).trans rfl))).symm, rfl⟩
      · by_cases c1_4 : a1 = 3
        · refine z_tableIn C 1 87 dX1_fact_1 (by rw [c1_4]; decide +kernel) (by rw [c1_4]; decide +kernel) (off := 86) (by rw [c1_4]; decide +kernel) (by decide) ?_
          refine z_aload_n C 87 0 0 dX1_fact_87 rfl rfl ?_
          refine z_virtIe C 88 (As := []) (st := []) (id := b) (kX1_used l D cy K n ad hJ (b) hO t  ) dX1_fact_88 rfl gX1_fact_X1_used hyX1_used rfl (by decide) (by decide) hO.1 rfl hO.2 rfl rfl rfl (Nat.le_of_ble_eq_true rfl) ?_
          exact z_iret C 91 hA hQ rfl dX1_fact_91 ⟨((if_neg c1_1).trans ((if_neg c1_2).trans ((if_neg c1_3).trans ((if_pos c1_4).trans rfl)))).symm, rfl⟩
        · by_cases c1_6 : a1 = 4
          · refine z_tableIn C 1 92 dX1_fact_1 (by rw [c1_6]; decide +kernel) (by rw [c1_6]; decide +kernel) (off := 91) (by rw [c1_6]; decide +kernel) (by decide) ?_
            refine z_sipush C 92 (v := 1000) dX1_fact_92 (by decide +kernel) ?_
            refine z_aload_n C 95 0 0 dX1_fact_95 rfl rfl ?_
            refine z_geti C 96 (b) 6 dX1_fact_96 hO.1 hO.2 mX1_fact_in1 rfl (by decide) mX1_fact_f34 (fun _ => rfl) ?_
            refine z_iadd C 99 dX1_fact_99 ?_
            exact z_iret C 100 hA hQ rfl dX1_fact_100 ⟨((if_neg c1_1).trans ((if_neg c1_2).trans ((if_neg c1_3).trans ((if_neg c1_4).trans ((if_pos c1_6).trans rfl))))).symm, rfl⟩
          · by_cases c1_7 : a1 = 5
            · refine z_tableIn C 1 101 dX1_fact_1 (by rw [c1_7]; decide +kernel) (by rw [c1_7]; decide +kernel) (off := 100) (by rw [c1_7]; decide +kernel) (by decide) ?_
              refine z_aload_n C 101 0 0 dX1_fact_101 rfl rfl ?_
              refine z_geti C 102 (b) 4 dX1_fact_102 hO.1 hO.2 mX1_fact_in1 rfl (by decide) mX1_fact_f27 (fun _ => rfl) ?_
              exact z_iret C 105 hA hQ rfl dX1_fact_105 ⟨((if_neg c1_1).trans ((if_neg c1_2).trans ((if_neg c1_3).trans ((if_neg c1_4).trans ((if_neg c1_6).trans ((if_pos c1_7).trans rfl)))))).symm, rfl⟩
            · by_cases c1_8 : a1 = 6
              · refine z_tableIn C 1 106 dX1_fact_1 (by rw [c1_8]; decide +kernel) (by rw [c1_8]; decide +kernel) (off := 105) (by rw [c1_8]; decide +kernel) (by decide) ?_
                refine z_aload_n C 106 0 0 dX1_fact_106 rfl rfl ?_
                refine z_geti C 107 (b) 5 dX1_fact_107 hO.1 hO.2 mX1_fact_in1 rfl (by decide) mX1_fact_f30 (fun _ => rfl) ?_
                refine z_if_eq C 110 117 dX1_fact_110 (by decide) (fun c110_9 => ?_) (fun c110_9 => ?_)
                · refine z_iconst C 117 (v := 0) dX1_fact_117 (by decide +kernel) ?_
                  exact z_iret C 118 hA hQ rfl dX1_fact_118 ⟨((if_neg c1_1).trans ((if_neg c1_2).trans ((if_neg c1_3).trans ((if_neg c1_4).trans ((if_neg c1_6).trans ((if_neg c1_7).trans ((if_pos c1_8).trans ((if_pos c110_9).trans rfl)))))))).symm, rfl⟩
                · refine z_iconst C 113 (v := 1) dX1_fact_113 (by decide +kernel) ?_
                  refine z_goto C 114 118 dX1_fact_114 (by decide) ?_
                  exact z_iret C 118 hA hQ rfl dX1_fact_118 ⟨((if_neg c1_1).trans ((if_neg c1_2).trans ((if_neg c1_3).trans ((if_neg c1_4).trans ((if_neg c1_6).trans ((if_neg c1_7).trans ((if_pos c1_8).trans ((if_neg c110_9).trans rfl)))))))).symm, rfl⟩
              · by_cases c1_10 : a1 = 7
                · refine z_tableIn C 1 119 dX1_fact_1 (by rw [c1_10]; decide +kernel) (by rw [c1_10]; decide +kernel) (off := 118) (by rw [c1_10]; decide +kernel) (by decide) ?_
                  refine z_aload_n C 119 0 0 dX1_fact_119 rfl rfl ?_
                  refine z_geti C 120 (b) 7 dX1_fact_120 hO.1 hO.2 mX1_fact_in1 rfl (by decide) mX1_fact_f9 (fun _ => rfl) ?_
                  refine z_iconst C 123 (v := (-1)) dX1_fact_123 (by decide +kernel) ?_
                  refine z_icmp_ne C 124 132 dX1_fact_124 (by decide) (fun c124_11 => ?_) (fun c124_11 => ?_)
                  · refine z_aload_n C 132 0 0 dX1_fact_132 rfl rfl ?_
                    refine z_geti C 133 (b) 7 dX1_fact_133 hO.1 hO.2 mX1_fact_in1 rfl (by decide) mX1_fact_f9 (fun _ => rfl) ?_
                    exact z_iret C 136 hA hQ rfl dX1_fact_136 ⟨((if_neg c1_1).trans ((if_neg c1_2).trans ((if_neg c1_3).trans ((if_neg c1_4).trans ((if_neg c1_6).trans ((if_neg c1_7).trans ((if_neg c1_8).trans ((if_pos c1_10).trans ((if_neg c124_11).trans rfl))))))))).symm, rfl⟩
                  · refine z_ldc C 127 (v := (-1000004)) dX1_fact_127 mX1_fact_c60 ?_
                    refine z_goto C 129 136 dX1_fact_129 (by decide) ?_
                    exact z_iret C 136 hA hQ rfl dX1_fact_136 ⟨((if_neg c1_1).trans ((if_neg c1_2).trans ((if_neg c1_3).trans ((if_neg c1_4).trans ((if_neg c1_6).trans ((if_neg c1_7).trans ((if_neg c1_8).trans ((if_pos c1_10).trans ((if_pos c124_11).trans rfl))))))))).symm, rfl⟩
                · by_cases c1_12 : a1 = 8
                  · refine z_tableIn C 1 137 dX1_fact_1 (by rw [c1_12]; decide +kernel) (by rw [c1_12]; decide +kernel) (off := 136) (by rw [c1_12]; decide +kernel) (by decide) ?_
                    refine z_aload_n C 137 0 0 dX1_fact_137 rfl rfl ?_
                    refine z_geti C 138 (b) 8 dX1_fact_138 hO.1 hO.2 mX1_fact_in1 rfl (by decide) mX1_fact_f37 (fun _ => rfl) ?_
                    exact z_iret C 141 hA hQ rfl dX1_fact_141 ⟨((if_neg c1_1).trans ((if_neg c1_2).trans ((if_neg c1_3).trans ((if_neg c1_4).trans ((if_neg c1_6).trans ((if_neg c1_7).trans ((if_neg c1_8).trans ((if_neg c1_10).trans ((if_pos c1_12).trans rfl))))))))).symm, rfl⟩
                  · by_cases c1_13 : a1 = 9
                    · refine z_tableIn C 1 142 dX1_fact_1 (by rw [c1_13]; decide +kernel) (by rw [c1_13]; decide +kernel) (off := 141) (by rw [c1_13]; decide +kernel) (by decide) ?_
                      refine z_aload_n C 142 0 0 dX1_fact_142 rfl rfl ?_
                      refine z_geti C 143 (b) 9 dX1_fact_143 hO.1 hO.2 mX1_fact_in1 rfl (by decide) mX1_fact_f40 (fun _ => rfl) ?_
                      exact z_iret C 146 hA hQ rfl dX1_fact_146 ⟨((if_neg c1_1).trans ((if_neg c1_2).trans ((if_neg c1_3).trans ((if_neg c1_4).trans ((if_neg c1_6).trans ((if_neg c1_7).trans ((if_neg c1_8).trans ((if_neg c1_10).trans ((if_neg c1_12).trans ((if_pos c1_13).trans rfl)))))))))).symm, rfl⟩
                    · by_cases c1_14 : a1 = 10
                      · refine z_tableIn C 1 147 dX1_fact_1 (by rw [c1_14]; decide +kernel) (by rw [c1_14]; decide +kernel) (off := 146) (by rw [c1_14]; decide +kernel) (by decide) ?_
                        refine z_aload_n C 147 0 0 dX1_fact_147 rfl rfl ?_
                        refine z_geti C 148 (b) 10 dX1_fact_148 hO.1 hO.2 mX1_fact_in1 rfl (by decide) mX1_fact_f43 (fun _ => rfl) ?_
                        exact z_iret C 151 hA hQ rfl dX1_fact_151 ⟨((if_neg c1_1).trans ((if_neg c1_2).trans ((if_neg c1_3).trans ((if_neg c1_4).trans ((if_neg c1_6).trans ((if_neg c1_7).trans ((if_neg c1_8).trans ((if_neg c1_10).trans ((if_neg c1_12).trans ((if_neg c1_13).trans ((if_pos c1_14).trans rfl))))))))))).symm, rfl⟩
                      · by_cases c1_15 : a1 = 11
                        · refine z_tableIn C 1 152 dX1_fact_1 (by rw [c1_15]; decide +kernel) (by rw [c1_15]; decide +kernel) (off := 151) (by rw [c1_15]; decide +kernel) (by decide) ?_
                          refine z_aload_n C 152 0 0 dX1_fact_152 rfl rfl ?_
                          refine z_geti C 153 (b) 11 dX1_fact_153 hO.1 hO.2 mX1_fact_in1 rfl (by decide) mX1_fact_f46 (fun _ => rfl) ?_
                          exact z_iret C 156 hA hQ rfl dX1_fact_156 ⟨((if_neg c1_1).trans ((if_neg c1_2).trans ((if_neg c1_3).trans ((if_neg c1_4).trans ((if_neg c1_6).trans ((if_neg c1_7).trans ((if_neg c1_8).trans ((if_neg c1_10).trans ((if_neg c1_12).trans ((if_neg c1_13).trans ((if_neg c1_14).trans ((if_pos c1_15).trans rfl)))))))))))).symm, rfl⟩
                        · by_cases c1_16 : a1 = 12
                          · refine z_tableIn C 1 157 dX1_fact_1 (by rw [c1_16]; decide +kernel) (by rw [c1_16]; decide +kernel) (off := 156) (by rw [c1_16]; decide +kernel) (by decide) ?_
                            refine z_aload_n C 157 0 0 dX1_fact_157 rfl rfl ?_
                            refine z_geti C 158 (b) 12 dX1_fact_158 hO.1 hO.2 mX1_fact_in1 rfl (by decide) mX1_fact_f49 (fun _ => rfl) ?_
                            exact z_iret C 161 hA hQ rfl dX1_fact_161 ⟨((if_neg c1_1).trans ((if_neg c1_2).trans ((if_neg c1_3).trans ((if_neg c1_4).trans ((if_neg c1_6).trans ((if_neg c1_7).trans ((if_neg c1_8).trans ((if_neg c1_10).trans ((if_neg c1_12).trans ((if_neg c1_13).trans ((if_neg c1_14).trans ((if_neg c1_15).trans ((if_pos c1_16).trans rfl))))))))))))).symm, rfl⟩
                          · by_cases c1_17 : a1 = 13
                            · refine z_tableIn C 1 162 dX1_fact_1 (by rw [c1_17]; decide +kernel) (by rw [c1_17]; decide +kernel) (off := 161) (by rw [c1_17]; decide +kernel) (by decide) ?_
                              refine z_aload_n C 162 0 0 dX1_fact_162 rfl rfl ?_
                              refine z_geti C 163 (b) 13 dX1_fact_163 hO.1 hO.2 mX1_fact_in1 rfl (by decide) mX1_fact_f52 (fun _ => rfl) ?_
                              exact z_iret C 166 hA hQ rfl dX1_fact_166 ⟨((if_neg c1_1).trans ((if_neg c1_2).trans ((if_neg c1_3).trans ((if_neg c1_4).trans ((if_neg c1_6).trans ((if_neg c1_7).trans ((if_neg c1_8).trans ((if_neg c1_10).trans ((if_neg c1_12).trans ((if_neg c1_13).trans ((if_neg c1_14).trans ((if_neg c1_15).trans ((if_neg c1_16).trans ((if_pos c1_17).trans rfl)))))))))))))).symm, rfl⟩
                            · have qc1_1 := lv_neT (a := 0) c1_1 rfl
                              have qc1_2 := lv_neT (a := 1) c1_2 rfl
                              have qc1_3 := lv_neT (a := 2) c1_3 rfl
                              have qc1_4 := lv_neT (a := 3) c1_4 rfl
                              have qc1_6 := lv_neT (a := 4) c1_6 rfl
                              have qc1_7 := lv_neT (a := 5) c1_7 rfl
                              have qc1_8 := lv_neT (a := 6) c1_8 rfl
                              have qc1_10 := lv_neT (a := 7) c1_10 rfl
                              have qc1_12 := lv_neT (a := 8) c1_12 rfl
                              have qc1_13 := lv_neT (a := 9) c1_13 rfl
                              have qc1_14 := lv_neT (a := 10) c1_14 rfl
                              have qc1_15 := lv_neT (a := 11) c1_15 rfl
                              have qc1_16 := lv_neT (a := 12) c1_16 rfl
                              have qc1_17 := lv_neT (a := 13) c1_17 rfl
                              refine z_tableOut C 1 167 dX1_fact_1 (by omega) (by decide) ?_
                              refine z_ldc C 167 (v := (-1000001)) dX1_fact_167 mX1_fact_c61 ?_
                              exact z_iret C 169 hA hQ rfl dX1_fact_169 ⟨((if_neg c1_1).trans ((if_neg c1_2).trans ((if_neg c1_3).trans ((if_neg c1_4).trans ((if_neg c1_6).trans ((if_neg c1_7).trans ((if_neg c1_8).trans ((if_neg c1_10).trans ((if_neg c1_12).trans ((if_neg c1_13).trans ((if_neg c1_14).trans ((if_neg c1_15).trans ((if_neg c1_16).trans ((if_neg c1_17).trans rfl)))))))))))))).symm, rfl⟩
end
section
def rX6_isPlace (a1 : Int32) : Int32 := (if a1 < 1 then 0 else (if 20 < a1 then 0 else 1))
theorem hyX6_isPlace : yX6_isPlace.cls ≠ "java/lang/invoke/MethodHandle" ∧ yX6_isPlace.cls ≠ "java/lang/invoke/VarHandle" ∧ (parseMethodDescriptor yX6_isPlace.desc).map (fun d => d.parameters.length) = some 1 := by decide +kernel
set_option maxHeartbeats 3000000 in
set_option maxRecDepth 100000 in
theorem kX6_isPlace (l : Launch) (D : va_G) (cy : Nat → ClassId) (K : zK) (n : Nat) (ad : Nat → Nat) (hJ : zJ n ad) (t : zM) (a1 : Int32)  : zI l yX6_isPlace wsX6_isPlace 0 D cy K n ad t [.int a1] (fun r t1 => r = rX6_isPlace a1 ∧ t1 = t) := by
  refine z_startI (cc := cX6_isPlace) (mL := 1) (ret := (some .boolean)) (own := RX6) rfl (by decide +kernel) rfl hJ (Nat.le_of_ble_eq_true rfl) ?_
  intro p e s m args below meth c A hA Q hQ C
  refine z_iload_n C 0 0 0 dX6_isPlace_0 rfl rfl ?_
  refine z_iconst C 1 (v := 1) dX6_isPlace_1 (by decide +kernel) ?_
  refine z_icmp_lt C 2 15 dX6_isPlace_2 (by decide) (fun c2_1 => ?_) (fun c2_1 => ?_)
  · refine z_iconst C 15 (v := 0) dX6_isPlace_15 (by decide +kernel) ?_
    exact z_zret C 16 hA hQ rfl (Or.inl rfl) dX6_isPlace_16 ⟨((if_pos c2_1).trans rfl).symm, rfl⟩
  · refine z_iload_n C 5 0 0 dX6_isPlace_5 rfl rfl ?_
    refine z_bipush C 6 (v := 20) dX6_isPlace_6 (by decide +kernel) ?_
    refine z_icmp_gt C 8 15 dX6_isPlace_8 (by decide) (fun c8_2 => ?_) (fun c8_2 => ?_)
    · refine z_iconst C 15 (v := 0) dX6_isPlace_15 (by decide +kernel) ?_
      exact z_zret C 16 hA hQ rfl (Or.inl rfl) dX6_isPlace_16 ⟨((if_neg c2_1).trans ((if_pos c8_2).trans rfl)).symm, rfl⟩
    · refine z_iconst C 11 (v := 1) dX6_isPlace_11 (by decide +kernel) ?_
      refine z_goto C 12 16 dX6_isPlace_12 (by decide) ?_
      exact z_zret C 16 hA hQ rfl (Or.inr rfl) dX6_isPlace_16 ⟨((if_neg c2_1).trans ((if_neg c8_2).trans rfl)).symm, rfl⟩
def rX6_stepOf (a1 : Int32) : Int32 := (if (zrem a1 2) = 1 then (a1 / 2) else (20 - (a1 / 2)))
theorem hyX6_stepOf : yX6_stepOf.cls ≠ "java/lang/invoke/MethodHandle" ∧ yX6_stepOf.cls ≠ "java/lang/invoke/VarHandle" ∧ (parseMethodDescriptor yX6_stepOf.desc).map (fun d => d.parameters.length) = some 1 := by decide +kernel
set_option maxHeartbeats 3000000 in
set_option maxRecDepth 100000 in
theorem kX6_stepOf (l : Launch) (D : va_G) (cy : Nat → ClassId) (K : zK) (n : Nat) (ad : Nat → Nat) (hJ : zJ n ad) (t : zM) (a1 : Int32)  : zI l yX6_stepOf wsX6_stepOf 0 D cy K n ad t [.int a1] (fun r t1 => r = rX6_stepOf a1 ∧ t1 = t) := by
  refine z_startI (cc := cX6_stepOf) (mL := 1) (ret := (some .int)) (own := RX6) rfl (by decide +kernel) rfl hJ (Nat.le_of_ble_eq_true rfl) ?_
  intro p e s m args below meth c A hA Q hQ C
  refine z_iload_n C 0 0 0 dX6_stepOf_0 rfl rfl ?_
  refine z_iconst C 1 (v := 2) dX6_stepOf_1 (by decide +kernel) ?_
  refine z_irem C 2 dX6_stepOf_2 (by decide) ?_
  refine z_iconst C 3 (v := 1) dX6_stepOf_3 (by decide +kernel) ?_
  refine z_icmp_ne C 4 13 dX6_stepOf_4 (by decide) (fun c4_1 => ?_) (fun c4_1 => ?_)
  · refine z_bipush C 13 (v := 20) dX6_stepOf_13 (by decide +kernel) ?_
    refine z_iload_n C 15 0 0 dX6_stepOf_15 rfl rfl ?_
    refine z_iconst C 16 (v := 2) dX6_stepOf_16 (by decide +kernel) ?_
    refine z_idiv C 17 dX6_stepOf_17 (by decide) ?_
    refine z_isub C 18 dX6_stepOf_18 ?_
    exact z_iret C 19 hA hQ rfl dX6_stepOf_19 ⟨((if_neg c4_1).trans rfl).symm, rfl⟩
  · refine z_iload_n C 7 0 0 dX6_stepOf_7 rfl rfl ?_
    refine z_iconst C 8 (v := 2) dX6_stepOf_8 (by decide +kernel) ?_
    refine z_idiv C 9 dX6_stepOf_9 (by decide) ?_
    refine z_goto C 10 19 dX6_stepOf_10 (by decide) ?_
    exact z_iret C 19 hA hQ rfl dX6_stepOf_19 ⟨((if_pos c4_1).trans rfl).symm, rfl⟩
def rX6_unitsFor (a1 : Int32) (a2 : Int32) : Int32 := (if a2 ≤ 0 then (if 0 ≤ a2 then ((a1 + 50) / 100) else (((a1 + 100) - 1) / 100)) else (a1 / 100))
theorem hyX6_unitsFor : yX6_unitsFor.cls ≠ "java/lang/invoke/MethodHandle" ∧ yX6_unitsFor.cls ≠ "java/lang/invoke/VarHandle" ∧ (parseMethodDescriptor yX6_unitsFor.desc).map (fun d => d.parameters.length) = some 2 := by decide +kernel
set_option maxHeartbeats 3000000 in
set_option maxRecDepth 100000 in
theorem kX6_unitsFor (l : Launch) (D : va_G) (cy : Nat → ClassId) (K : zK) (n : Nat) (ad : Nat → Nat) (hJ : zJ n ad) (t : zM) (a1 : Int32) (a2 : Int32)  : zI l yX6_unitsFor wsX6_unitsFor 0 D cy K n ad t [.int a1, .int a2] (fun r t1 => r = rX6_unitsFor a1 a2 ∧ t1 = t) := by
  refine z_startI (cc := cX6_unitsFor) (mL := 2) (ret := (some .int)) (own := RX6) rfl (by decide +kernel) rfl hJ (Nat.le_of_ble_eq_true rfl) ?_
  intro p e s m args below meth c A hA Q hQ C
  refine z_iload_n C 0 1 1 dX6_unitsFor_0 rfl rfl ?_
  refine z_if_le C 1 9 dX6_unitsFor_1 (by decide) (fun c1_1 => ?_) (fun c1_1 => ?_)
  · refine z_iload_n C 9 1 1 dX6_unitsFor_9 rfl rfl ?_
    refine z_if_ge C 10 23 dX6_unitsFor_10 (by decide) (fun c10_2 => ?_) (fun c10_2 => ?_)
    · refine z_iload_n C 23 0 0 dX6_unitsFor_23 rfl rfl ?_
      refine z_bipush C 24 (v := 50) dX6_unitsFor_24 (by decide +kernel) ?_
      refine z_iadd C 26 dX6_unitsFor_26 ?_
      refine z_bipush C 27 (v := 100) dX6_unitsFor_27 (by decide +kernel) ?_
      refine z_idiv C 29 dX6_unitsFor_29 (by decide) ?_
      exact z_iret C 30 hA hQ rfl dX6_unitsFor_30 ⟨((if_pos c1_1).trans ((if_pos c10_2).trans rfl)).symm, rfl⟩
    · refine z_iload_n C 13 0 0 dX6_unitsFor_13 rfl rfl ?_
      refine z_bipush C 14 (v := 100) dX6_unitsFor_14 (by decide +kernel) ?_
      refine z_iadd C 16 dX6_unitsFor_16 ?_
      refine z_iconst C 17 (v := 1) dX6_unitsFor_17 (by decide +kernel) ?_
      refine z_isub C 18 dX6_unitsFor_18 ?_
      refine z_bipush C 19 (v := 100) dX6_unitsFor_19 (by decide +kernel) ?_
      refine z_idiv C 21 dX6_unitsFor_21 (by decide) ?_
      exact z_iret C 22 hA hQ rfl dX6_unitsFor_22 ⟨((if_pos c1_1).trans ((if_neg c10_2).trans rfl)).symm, rfl⟩
  · refine z_iload_n C 4 0 0 dX6_unitsFor_4 rfl rfl ?_
    refine z_bipush C 5 (v := 100) dX6_unitsFor_5 (by decide +kernel) ?_
    refine z_idiv C 7 dX6_unitsFor_7 (by decide) ?_
    exact z_iret C 8 hA hQ rfl dX6_unitsFor_8 ⟨((if_neg c1_1).trans rfl).symm, rfl⟩
def rX4_stepAhead (b : Nat) (t : zM) (a1 : Int32) : Int32 := (zrem (((t (b) 1) + 1) + a1) 20)
theorem mX4_stepAhead_f15 : Cond.fieldLink RX4 15 "WrongedMeters$Street" "latestStep" "I" ∈ wsX4_stepAhead := by decide +kernel
set_option maxRecDepth 20000 in
theorem mX4_stepAhead_in4 : ∀ w ∈ u_ws RX4 TX4 2, w ∈ wsX4_stepAhead := by decide +kernel
theorem hyX4_stepAhead : yX4_stepAhead.cls = RX4 ∧ yX4_stepAhead.cls ≠ "java/lang/invoke/MethodHandle" ∧ yX4_stepAhead.cls ≠ "java/lang/invoke/VarHandle" ∧ (parseMethodDescriptor yX4_stepAhead.desc).map (fun d => d.parameters.length) = some 1 := by decide +kernel
set_option maxHeartbeats 3000000 in
set_option maxRecDepth 100000 in
theorem kX4_stepAhead (l : Launch) (D : va_G) (cy : Nat → ClassId) (K : zK) (n : Nat) (ad : Nat → Nat) (hJ : zJ n ad) (b : Nat) (hO : zStreet cy K n ad b) (t : zM) (a1 : Int32)  : zI l yX4_stepAhead wsX4_stepAhead 0 D cy K n ad t [.ref (ad (b)), .int a1] (fun r t1 => r = rX4_stepAhead b t a1 ∧ t1 = t) := by
  refine z_startI (cc := cX4_stepAhead) (mL := 2) (ret := (some .int)) (own := RX4) rfl (by decide +kernel) rfl hJ (Nat.le_of_ble_eq_true rfl) ?_
  intro p e s m args below meth c A hA Q hQ C
  refine z_aload_n C 0 0 0 dX4_stepAhead_0 rfl rfl ?_
  refine z_geti C 1 (b) 1 dX4_stepAhead_1 (Nat.lt_of_succ_lt hO.1) hO.2.1 mX4_stepAhead_in4 rfl (by decide) mX4_stepAhead_f15 (fun _ => rfl) ?_
  refine z_iconst C 4 (v := 1) dX4_stepAhead_4 (by decide +kernel) ?_
  refine z_iadd C 5 dX4_stepAhead_5 ?_
  refine z_iload_n C 6 1 1 dX4_stepAhead_6 rfl rfl ?_
  refine z_iadd C 7 dX4_stepAhead_7 ?_
  refine z_bipush C 8 (v := 20) dX4_stepAhead_8 (by decide +kernel) ?_
  refine z_irem C 10 dX4_stepAhead_10 (by decide) ?_
  exact z_iret C 11 hA hQ rfl dX4_stepAhead_11 ⟨rfl, rfl⟩
def rX4_houseOn (b : Nat) (t : zM) (a1 : Int32) : Int32 := (if a1 < 0 then (-1) else (if 20 ≤ a1 then (-1) else (t (b + 1) (a1).toNatClampNeg)))
theorem mX4_houseOn_f9 : Cond.fieldLink RX4 9 "WrongedMeters$Street" "houses" "[I" ∈ wsX4_houseOn := by decide +kernel
set_option maxRecDepth 20000 in
theorem mX4_houseOn_in4 : ∀ w ∈ u_ws RX4 TX4 2, w ∈ wsX4_houseOn := by decide +kernel
theorem hyX4_houseOn : yX4_houseOn.cls = RX4 ∧ yX4_houseOn.cls ≠ "java/lang/invoke/MethodHandle" ∧ yX4_houseOn.cls ≠ "java/lang/invoke/VarHandle" ∧ (parseMethodDescriptor yX4_houseOn.desc).map (fun d => d.parameters.length) = some 1 := by decide +kernel
set_option maxHeartbeats 3000000 in
set_option maxRecDepth 100000 in
theorem kX4_houseOn (l : Launch) (D : va_G) (cy : Nat → ClassId) (K : zK) (n : Nat) (ad : Nat → Nat) (hJ : zJ n ad) (b : Nat) (hO : zStreet cy K n ad b) (t : zM) (a1 : Int32)  : zI l yX4_houseOn wsX4_houseOn 0 D cy K n ad t [.ref (ad (b)), .int a1] (fun r t1 => r = rX4_houseOn b t a1 ∧ t1 = t) := by
  refine z_startI (cc := cX4_houseOn) (mL := 2) (ret := (some .int)) (own := RX4) rfl (by decide +kernel) rfl hJ (Nat.le_of_ble_eq_true rfl) ?_
  intro p e s m args below meth c A hA Q hQ C
  refine z_iload_n C 0 1 1 dX4_houseOn_0 rfl rfl ?_
  refine z_if_lt C 1 19 dX4_houseOn_1 (by decide) (fun c1_1 => ?_) (fun c1_1 => ?_)
  · refine z_iconst C 19 (v := (-1)) dX4_houseOn_19 (by decide +kernel) ?_
    exact z_iret C 20 hA hQ rfl dX4_houseOn_20 ⟨((if_pos c1_1).trans rfl).symm, rfl⟩
  · refine z_iload_n C 4 1 1 dX4_houseOn_4 rfl rfl ?_
    refine z_bipush C 5 (v := 20) dX4_houseOn_5 (by decide +kernel) ?_
    refine z_icmp_ge C 7 19 dX4_houseOn_7 (by decide) (fun c7_2 => ?_) (fun c7_2 => ?_)
    · refine z_iconst C 19 (v := (-1)) dX4_houseOn_19 (by decide +kernel) ?_
      exact z_iret C 20 hA hQ rfl dX4_houseOn_20 ⟨((if_neg c1_1).trans ((if_pos c7_2).trans rfl)).symm, rfl⟩
    · refine z_aload_n C 10 0 0 dX4_houseOn_10 rfl rfl ?_
      refine z_getr C 11 (a9 := ad (b + 1)) (b) 0 dX4_houseOn_11 (Nat.lt_of_succ_lt hO.1) hO.2.1 mX4_houseOn_in4 rfl (by decide) mX4_houseOn_f9 (fun _ => rfl) ?_
      refine z_iload_n C 14 1 1 dX4_houseOn_14 rfl rfl ?_
      refine z_iald C 15 (b + 1) dX4_houseOn_15 hO.1 hO.2.2 (zvp1 ‹¬ a1 < 0› ‹¬ 20 ≤ a1› (by decide)) ?_
      refine z_goto C 16 20 dX4_houseOn_16 (by decide) ?_
      exact z_iret C 20 hA hQ rfl dX4_houseOn_20 ⟨((if_neg c1_1).trans ((if_neg c7_2).trans rfl)).symm, rfl⟩
def sX4_putHouse (b : Nat) (t : zM) (a1 : Int32) (a2 : Int32) : zM := (if a1 < 0 then t else (if 20 ≤ a1 then t else (zset t (b + 1) (a1.toNatClampNeg) a2)))
theorem mX4_putHouse_f9 : Cond.fieldLink RX4 9 "WrongedMeters$Street" "houses" "[I" ∈ wsX4_putHouse := by decide +kernel
set_option maxRecDepth 20000 in
theorem mX4_putHouse_in4 : ∀ w ∈ u_ws RX4 TX4 2, w ∈ wsX4_putHouse := by decide +kernel
theorem hyX4_putHouse : yX4_putHouse.cls = RX4 ∧ yX4_putHouse.cls ≠ "java/lang/invoke/MethodHandle" ∧ yX4_putHouse.cls ≠ "java/lang/invoke/VarHandle" ∧ (parseMethodDescriptor yX4_putHouse.desc).map (fun d => d.parameters.length) = some 2 := by decide +kernel
set_option maxHeartbeats 3000000 in
set_option maxRecDepth 100000 in
theorem kX4_putHouse (l : Launch) (D : va_G) (cy : Nat → ClassId) (K : zK) (n : Nat) (ad : Nat → Nat) (hJ : zJ n ad) (b : Nat) (hO : zStreet cy K n ad b) (t : zM) (a1 : Int32) (a2 : Int32)  : zV l yX4_putHouse wsX4_putHouse 0 D cy K n ad t [.ref (ad (b)), .int a1, .int a2] (fun t1 => t1 = sX4_putHouse b t a1 a2) := by
  refine z_startV (cc := cX4_putHouse) (mL := 3) (ret := none) (own := RX4) rfl (by decide +kernel) rfl hJ (Nat.le_of_ble_eq_true rfl) ?_
  intro p e s m args below meth c A hA Q hQ C
  refine z_iload_n C 0 1 1 dX4_putHouse_0 rfl rfl ?_
  refine z_if_lt C 1 17 dX4_putHouse_1 (by decide) (fun c1_1 => ?_) (fun c1_1 => ?_)
  · exact z_vret C 17 hA hQ rfl dX4_putHouse_17 ((if_pos c1_1).trans rfl).symm
  · refine z_iload_n C 4 1 1 dX4_putHouse_4 rfl rfl ?_
    refine z_bipush C 5 (v := 20) dX4_putHouse_5 (by decide +kernel) ?_
    refine z_icmp_ge C 7 17 dX4_putHouse_7 (by decide) (fun c7_2 => ?_) (fun c7_2 => ?_)
    · exact z_vret C 17 hA hQ rfl dX4_putHouse_17 ((if_neg c1_1).trans ((if_pos c7_2).trans rfl)).symm
    · refine z_aload_n C 10 0 0 dX4_putHouse_10 rfl rfl ?_
      refine z_getr C 11 (a9 := ad (b + 1)) (b) 0 dX4_putHouse_11 (Nat.lt_of_succ_lt hO.1) hO.2.1 mX4_putHouse_in4 rfl (by decide) mX4_putHouse_f9 (fun _ => rfl) ?_
      refine z_iload_n C 14 1 1 dX4_putHouse_14 rfl rfl ?_
      refine z_iload_n C 15 2 2 dX4_putHouse_15 rfl rfl ?_
      refine z_iast C 16 (b + 1) dX4_putHouse_16 hO.1 hO.2.2 (zvp1 ‹¬ a1 < 0› ‹¬ 20 ≤ a1› (by decide)) ?_
      exact z_vret C 17 hA hQ rfl dX4_putHouse_17 ((if_neg c1_1).trans ((if_neg c7_2).trans rfl)).symm
theorem sX4_putHouse_o (b : Nat) (t : zM) (a1 a2 : Int32) {j : Nat} (h : j ≠ b + 1) : sX4_putHouse b t a1 a2 j = t j := by
  unfold sX4_putHouse
  repeat' split
  all_goals simp only [zset_id _ _ _ h]
def lX4_houseRanked_4 (b : Nat) (t : zM) (a1 : Int32) : Nat → Nat → Int32 → Int32
  | 0, _, _ => 0
  | j + 1, k, v => (if 20 ≤ nI k then (-1000004) else (if (rX4_houseOn (b) t (rX4_stepAhead (b) t (nI k))) = (-1) then (lX4_houseRanked_4 b t a1 j (k + 1) v) else (if v = a1 then (rX4_houseOn (b) t (rX4_stepAhead (b) t (nI k))) else (lX4_houseRanked_4 b t a1 j (k + 1) (v + 1)))))
def rX4_houseRanked (b : Nat) (t : zM) (a1 : Int32) : Int32 := (lX4_houseRanked_4 b t a1 21 0 0)
theorem mX4_houseRanked_c32 : Cond.constant RX4 32 (-1000004) ∈ wsX4_houseRanked := by decide +kernel
theorem hyX4_houseRanked : yX4_houseRanked.cls = RX4 ∧ yX4_houseRanked.cls ≠ "java/lang/invoke/MethodHandle" ∧ yX4_houseRanked.cls ≠ "java/lang/invoke/VarHandle" ∧ (parseMethodDescriptor yX4_houseRanked.desc).map (fun d => d.parameters.length) = some 1 := by decide +kernel
set_option maxHeartbeats 3000000 in
set_option maxRecDepth 100000 in
theorem kX4_houseRanked (l : Launch) (D : va_G) (cy : Nat → ClassId) (K : zK) (n : Nat) (ad : Nat → Nat) (hJ : zJ n ad) (b : Nat) (hO : zStreet cy K n ad b) (t : zM) (a1 : Int32)  : zI l yX4_houseRanked wsX4_houseRanked 1 D cy K n ad t [.ref (ad (b)), .int a1] (fun r t1 => r = rX4_houseRanked b t a1 ∧ t1 = t) := by
  refine z_startI (cc := cX4_houseRanked) (mL := 5) (ret := (some .int)) (own := RX4) rfl (by decide +kernel) rfl hJ (Nat.le_of_ble_eq_true rfl) ?_
  intro p e s m args below meth c A hA Q hQ C
  refine z_iconst C 0 (v := 0) dX4_houseRanked_0 (by decide +kernel) ?_
  refine z_istore_n C 1 2 ([(2, .int 0), (0, .ref (ad (b))), (1, .int a1)]) dX4_houseRanked_1 rfl (by decide) rfl ?_
  refine z_iconst C 2 (v := 0) dX4_houseRanked_2 (by decide +kernel) ?_
  refine z_istore_n C 3 3 ([(3, .int 0), (2, .int 0), (0, .ref (ad (b))), (1, .int a1)]) dX4_houseRanked_3 rfl (by decide) rfl ?_
  have L4 : ∀ (j : Nat) (k : Nat) (v : Int32), (h0_4 : 21 ≤ k + j) → (hk : k ≤ 20) → (hI4 : rX4_houseRanked b t a1 = (lX4_houseRanked_4 b t a1 j k v)) → Zw p l e (zR 1) s m args below meth c D A K n ad 5 Q 4 ([(3, .int (nI k)), (2, .int v), (0, .ref (ad (b))), (1, .int a1)]) [] t := by
    intro j
    induction j with
    | zero =>
      intro k v h0_4 hk hI4
      exact absurd h0_4 (by omega)
    | succ j ih4 =>
      intro k v h0_4 hk hI4
      refine z_iload_n C 4 3 0 dX4_houseRanked_4 rfl rfl ?_
      refine z_bipush C 5 (v := 20) dX4_houseRanked_5 (by decide +kernel) ?_
      refine z_icmp_ge C 7 44 dX4_houseRanked_7 (by decide) (fun c7_1 => ?_) (fun c7_1 => ?_)
      · refine z_ldc C 44 (v := (-1000004)) dX4_houseRanked_44 mX4_houseRanked_c32 ?_
        exact z_iret C 46 hA hQ rfl dX4_houseRanked_46 ⟨((hI4.trans ((if_pos c7_1).trans rfl))).symm, rfl⟩
      · refine z_aload_n C 10 0 2 dX4_houseRanked_10 rfl rfl ?_
        refine z_aload_n C 11 0 2 dX4_houseRanked_11 rfl rfl ?_
        refine z_iload_n C 12 3 0 dX4_houseRanked_12 rfl rfl ?_
        refine z_virtIe C 13 (As := [.int (nI k)]) (st := [.ref (ad (b))]) (id := b) (kX4_stepAhead l D cy K n ad hJ (b) hO t (nI k) ) dX4_houseRanked_13 rfl gX4_houseRanked_X4_stepAhead hyX4_stepAhead rfl (by decide) (by decide) (Nat.lt_of_succ_lt hO.1) rfl hO.2.1 rfl rfl rfl (Nat.le_of_ble_eq_true rfl) ?_
        refine z_virtIe C 16 (As := [.int (rX4_stepAhead (b) t (nI k))]) (st := []) (id := b) (kX4_houseOn l D cy K n ad hJ (b) hO t (rX4_stepAhead (b) t (nI k)) ) dX4_houseRanked_16 rfl gX4_houseRanked_X4_houseOn hyX4_houseOn rfl (by decide) (by decide) (Nat.lt_of_succ_lt hO.1) rfl hO.2.1 rfl rfl rfl (Nat.le_of_ble_eq_true rfl) ?_
        refine z_istore C 19 4 ([(4, .int (rX4_houseOn (b) t (rX4_stepAhead (b) t (nI k)))), (3, .int (nI k)), (2, .int v), (0, .ref (ad (b))), (1, .int a1)]) dX4_houseRanked_19 (by decide) rfl ?_
        refine z_iload C 21 4 0 dX4_houseRanked_21 rfl ?_
        refine z_iconst C 23 (v := (-1)) dX4_houseRanked_23 (by decide +kernel) ?_
        refine z_icmp_eq C 24 38 dX4_houseRanked_24 (by decide) (fun c24_4 => ?_) (fun c24_4 => ?_)
        · refine z_iinc C 38 (v := nI (k + 1)) 3 1 ([(3, .int (nI (k + 1))), (4, .int (rX4_houseOn (b) t (rX4_stepAhead (b) t (nI k)))), (2, .int v), (0, .ref (ad (b))), (1, .int a1)]) dX4_houseRanked_38 rfl (nI_1 _) (by decide) rfl ?_
          refine z_goto C 41 4 dX4_houseRanked_41 (by decide) ?_
          refine z_ls [0, 2, 3, 4] _ rfl ?_
          exact ih4 (k + 1) v (by omega) (by have := zge (b := 20) (by omega) (by decide) ‹¬ (20 : Int32) ≤ nI k›; omega) (hI4.trans ((if_neg c7_1).trans ((if_pos c24_4).trans rfl)))
        · refine z_iload_n C 27 2 2 dX4_houseRanked_27 rfl rfl ?_
          refine z_iload_n C 28 1 4 dX4_houseRanked_28 rfl rfl ?_
          refine z_icmp_ne C 29 35 dX4_houseRanked_29 (by decide) (fun c29_5 => ?_) (fun c29_5 => ?_)
          · refine z_iinc C 35 (v := (v + 1)) 2 2 ([(2, .int (v + 1)), (4, .int (rX4_houseOn (b) t (rX4_stepAhead (b) t (nI k)))), (3, .int (nI k)), (0, .ref (ad (b))), (1, .int a1)]) dX4_houseRanked_35 rfl (by first | rfl | (congr 1)) (by decide) rfl ?_
            refine z_iinc C 38 (v := nI (k + 1)) 3 2 ([(3, .int (nI (k + 1))), (2, .int (v + 1)), (4, .int (rX4_houseOn (b) t (rX4_stepAhead (b) t (nI k)))), (0, .ref (ad (b))), (1, .int a1)]) dX4_houseRanked_38 rfl (nI_1 _) (by decide) rfl ?_
            refine z_goto C 41 4 dX4_houseRanked_41 (by decide) ?_
            refine z_ls [0, 1, 3, 4] _ rfl ?_
            exact ih4 (k + 1) (v + 1) (by omega) (by have := zge (b := 20) (by omega) (by decide) ‹¬ (20 : Int32) ≤ nI k›; omega) (hI4.trans ((if_neg c7_1).trans ((if_neg c24_4).trans ((if_neg c29_5).trans rfl))))
          · refine z_iload C 32 4 0 dX4_houseRanked_32 rfl ?_
            exact z_iret C 34 hA hQ rfl dX4_houseRanked_34 ⟨((hI4.trans ((if_neg c7_1).trans ((if_neg c24_4).trans ((if_pos c29_5).trans rfl))))).symm, rfl⟩
  refine z_ls [0, 1, 2, 3] _ rfl ?_
  exact L4 (21) 0 0 (by omega) (by decide) rfl
def sX2_add (b : Nat) (t : zM) (w : Nat) (a1 : Int32) (a2 : Int32) (a3 : Int32) (a4 : Int32) (a5 : Int32) : zM := (if (t (b) 1) < 0 then t else (if (t (b) 1) < 10 then (if a3 ≤ (100 * a4) then (if (100 * a4) ≤ a3 then (if 10 ≤ (t (b) 2) then (zset (zset (zset (zset (zset (zset (zset t (b + 1) (w * 6) a1) (b + 1) (w * 6 + 1) a2) (b + 1) (w * 6 + 2) a3) (b + 1) (w * 6 + 3) a4) (b + 1) (w * 6 + 4) 2) (b + 1) (w * 6 + 5) (1000 + a5)) (b) 1 (zrem ((t (b) 1) + 1) 10)) else (zset (zset (zset (zset (zset (zset (zset (zset t (b + 1) (w * 6) a1) (b + 1) (w * 6 + 1) a2) (b + 1) (w * 6 + 2) a3) (b + 1) (w * 6 + 3) a4) (b + 1) (w * 6 + 4) 2) (b + 1) (w * 6 + 5) (1000 + a5)) (b) 1 (zrem ((t (b) 1) + 1) 10)) (b) 2 ((t (b) 2) + 1))) else (if 10 ≤ (t (b) 2) then (zset (zset (zset (zset (zset (zset (zset t (b + 1) (w * 6) a1) (b + 1) (w * 6 + 1) a2) (b + 1) (w * 6 + 2) a3) (b + 1) (w * 6 + 3) a4) (b + 1) (w * 6 + 4) 1) (b + 1) (w * 6 + 5) (1000 + a5)) (b) 1 (zrem ((t (b) 1) + 1) 10)) else (zset (zset (zset (zset (zset (zset (zset (zset t (b + 1) (w * 6) a1) (b + 1) (w * 6 + 1) a2) (b + 1) (w * 6 + 2) a3) (b + 1) (w * 6 + 3) a4) (b + 1) (w * 6 + 4) 1) (b + 1) (w * 6 + 5) (1000 + a5)) (b) 1 (zrem ((t (b) 1) + 1) 10)) (b) 2 ((t (b) 2) + 1)))) else (if 10 ≤ (t (b) 2) then (zset (zset (zset (zset (zset (zset (zset t (b + 1) (w * 6) a1) (b + 1) (w * 6 + 1) a2) (b + 1) (w * 6 + 2) a3) (b + 1) (w * 6 + 3) a4) (b + 1) (w * 6 + 4) 0) (b + 1) (w * 6 + 5) (1000 + a5)) (b) 1 (zrem ((t (b) 1) + 1) 10)) else (zset (zset (zset (zset (zset (zset (zset (zset t (b + 1) (w * 6) a1) (b + 1) (w * 6 + 1) a2) (b + 1) (w * 6 + 2) a3) (b + 1) (w * 6 + 3) a4) (b + 1) (w * 6 + 4) 0) (b + 1) (w * 6 + 5) (1000 + a5)) (b) 1 (zrem ((t (b) 1) + 1) 10)) (b) 2 ((t (b) 2) + 1)))) else t))
theorem mX2_add_f21 : Cond.fieldLink RX2 21 "WrongedMeters$Ledger" "nextRow" "I" ∈ wsX2_add := by decide +kernel
set_option maxRecDepth 20000 in
theorem mX2_add_in2 : ∀ w ∈ u_ws RX2 TX2 3, w ∈ wsX2_add := by decide +kernel
theorem mX2_add_f11 : Cond.fieldLink RX2 11 "WrongedMeters$Ledger" "facts" "[I" ∈ wsX2_add := by decide +kernel
theorem mX2_add_f25 : Cond.fieldLink RX2 25 "WrongedMeters$Ledger" "size" "I" ∈ wsX2_add := by decide +kernel
theorem hyX2_add : yX2_add.cls = RX2 ∧ yX2_add.cls ≠ "java/lang/invoke/MethodHandle" ∧ yX2_add.cls ≠ "java/lang/invoke/VarHandle" ∧ (parseMethodDescriptor yX2_add.desc).map (fun d => d.parameters.length) = some 5 := by decide +kernel
set_option maxHeartbeats 3000000 in
set_option maxRecDepth 100000 in
theorem kX2_add (l : Launch) (D : va_G) (cy : Nat → ClassId) (K : zK) (n : Nat) (ad : Nat → Nat) (hJ : zJ n ad) (b : Nat) (hO : zLedger cy K n ad b) (t : zM) (w : Nat) (a1 : Int32) (a2 : Int32) (a3 : Int32) (a4 : Int32) (a5 : Int32) (hw : w < 10) (hx : t b 1 = nI w) : zV l yX2_add wsX2_add 0 D cy K n ad t [.ref (ad (b)), .int a1, .int a2, .int a3, .int a4, .int a5] (fun t1 => t1 = sX2_add b t w a1 a2 a3 a4 a5) := by
  refine z_startV (cc := cX2_add) (mL := 7) (ret := none) (own := RX2) rfl (by decide +kernel) rfl hJ (Nat.le_of_ble_eq_true rfl) ?_
  intro p e s m args below meth c A hA Q hQ C
  refine z_aload_n C 0 0 0 dX2_add_0 rfl rfl ?_
  refine z_geti C 1 (b) 1 dX2_add_1 (Nat.lt_of_succ_lt hO.1) hO.2.1 mX2_add_in2 rfl (by decide) mX2_add_f21 (fun _ => rfl) ?_
  refine z_if_lt C 4 16 dX2_add_4 (by decide) (fun c4_1 => ?_) (fun c4_1 => ?_)
  · exact z_vret C 16 hA hQ rfl dX2_add_16 ((if_pos c4_1).trans rfl).symm
  · refine z_aload_n C 7 0 0 dX2_add_7 rfl rfl ?_
    refine z_geti C 8 (b) 1 dX2_add_8 (Nat.lt_of_succ_lt hO.1) hO.2.1 mX2_add_in2 rfl (by decide) mX2_add_f21 (fun _ => rfl) ?_
    refine z_bipush C 11 (v := 10) dX2_add_11 (by decide +kernel) ?_
    refine z_icmp_lt C 13 17 dX2_add_13 (by decide) (fun c13_2 => ?_) (fun c13_2 => ?_)
    · refine z_aload_n C 17 0 0 dX2_add_17 rfl rfl ?_
      refine z_geti C 18 (b) 1 dX2_add_18 (Nat.lt_of_succ_lt hO.1) hO.2.1 mX2_add_in2 rfl (by decide) mX2_add_f21 (fun _ => rfl) ?_
      refine z_bipush C 21 (v := 6) dX2_add_21 (by decide +kernel) ?_
      refine z_imul C 23 dX2_add_23 ?_
      refine z_istore C 24 6 ([(6, .int ((t (b) 1) * 6)), (0, .ref (ad (b))), (1, .int a1), (2, .int a2), (3, .int a3), (4, .int a4), (5, .int a5)]) dX2_add_24 (by decide) rfl ?_
      refine z_aload_n C 26 0 1 dX2_add_26 rfl rfl ?_
      refine z_getr C 27 (a9 := ad (b + 1)) (b) 0 dX2_add_27 (Nat.lt_of_succ_lt hO.1) hO.2.1 mX2_add_in2 rfl (by decide) mX2_add_f11 (fun _ => rfl) ?_
      refine z_iload C 30 6 0 dX2_add_30 rfl ?_
      refine z_iload_n C 32 1 2 dX2_add_32 rfl rfl ?_
      refine z_iastN C 33 (b + 1) (w * 6) dX2_add_33 hO.1 hO.2.2 (by rw [hx]; first | exact (nI_mul w 6) | exact (congrArg (· + nI 0) (nI_mul w 6)).trans (nI_add _ _)) (by omega) (by decide) ?_
      refine z_aload_n C 34 0 1 dX2_add_34 rfl rfl ?_
      refine z_getr C 35 (a9 := ad (b + 1)) (b) 0 dX2_add_35 (Nat.lt_of_succ_lt hO.1) hO.2.1 mX2_add_in2 rfl (by decide) mX2_add_f11 (fun _ => rfl) ?_
      refine z_iload C 38 6 0 dX2_add_38 rfl ?_
      refine z_iconst C 40 (v := 1) dX2_add_40 (by decide +kernel) ?_
      refine z_iadd C 41 dX2_add_41 ?_
      refine z_iload_n C 42 2 3 dX2_add_42 rfl rfl ?_
      refine z_iastN C 43 (b + 1) (w * 6 + 1) dX2_add_43 hO.1 hO.2.2 (by rw [hx]; first | exact (nI_mul w 6) | exact (congrArg (· + nI 1) (nI_mul w 6)).trans (nI_add _ _)) (by omega) (by decide) ?_
      refine z_aload_n C 44 0 1 dX2_add_44 rfl rfl ?_
      refine z_getr C 45 (a9 := ad (b + 1)) (b) 0 dX2_add_45 (Nat.lt_of_succ_lt hO.1) hO.2.1 mX2_add_in2 rfl (by decide) mX2_add_f11 (fun _ => rfl) ?_
      refine z_iload C 48 6 0 dX2_add_48 rfl ?_
      refine z_iconst C 50 (v := 2) dX2_add_50 (by decide +kernel) ?_
      refine z_iadd C 51 dX2_add_51 ?_
      refine z_iload_n C 52 3 4 dX2_add_52 rfl rfl ?_
      refine z_iastN C 53 (b + 1) (w * 6 + 2) dX2_add_53 hO.1 hO.2.2 (by rw [hx]; first | exact (nI_mul w 6) | exact (congrArg (· + nI 2) (nI_mul w 6)).trans (nI_add _ _)) (by omega) (by decide) ?_
      refine z_aload_n C 54 0 1 dX2_add_54 rfl rfl ?_
      refine z_getr C 55 (a9 := ad (b + 1)) (b) 0 dX2_add_55 (Nat.lt_of_succ_lt hO.1) hO.2.1 mX2_add_in2 rfl (by decide) mX2_add_f11 (fun _ => rfl) ?_
      refine z_iload C 58 6 0 dX2_add_58 rfl ?_
      refine z_iconst C 60 (v := 3) dX2_add_60 (by decide +kernel) ?_
      refine z_iadd C 61 dX2_add_61 ?_
      refine z_iload C 62 4 5 dX2_add_62 rfl ?_
      refine z_iastN C 64 (b + 1) (w * 6 + 3) dX2_add_64 hO.1 hO.2.2 (by rw [hx]; first | exact (nI_mul w 6) | exact (congrArg (· + nI 3) (nI_mul w 6)).trans (nI_add _ _)) (by omega) (by decide) ?_
      refine z_aload_n C 65 0 1 dX2_add_65 rfl rfl ?_
      refine z_getr C 66 (a9 := ad (b + 1)) (b) 0 dX2_add_66 (Nat.lt_of_succ_lt hO.1) hO.2.1 mX2_add_in2 rfl (by decide) mX2_add_f11 (fun _ => rfl) ?_
      refine z_iload C 69 6 0 dX2_add_69 rfl ?_
      refine z_iconst C 71 (v := 4) dX2_add_71 (by decide +kernel) ?_
      refine z_iadd C 72 dX2_add_72 ?_
      refine z_bipush C 73 (v := 100) dX2_add_73 (by decide +kernel) ?_
      refine z_iload C 75 4 5 dX2_add_75 rfl ?_
      refine z_imul C 77 dX2_add_77 ?_
      refine z_iload_n C 78 3 4 dX2_add_78 rfl rfl ?_
      refine z_icmp_ge C 79 86 dX2_add_79 (by decide) (fun c79_3 => ?_) (fun c79_3 => ?_)
      · refine z_bipush C 86 (v := 100) dX2_add_86 (by decide +kernel) ?_
        refine z_iload C 88 4 5 dX2_add_88 rfl ?_
        refine z_imul C 90 dX2_add_90 ?_
        refine z_iload_n C 91 3 4 dX2_add_91 rfl rfl ?_
        refine z_icmp_le C 92 99 dX2_add_92 (by decide) (fun c92_4 => ?_) (fun c92_4 => ?_)
        · refine z_iconst C 99 (v := 2) dX2_add_99 (by decide +kernel) ?_
          refine z_iastN C 100 (b + 1) (w * 6 + 4) dX2_add_100 hO.1 hO.2.2 (by rw [hx]; first | exact (nI_mul w 6) | exact (congrArg (· + nI 4) (nI_mul w 6)).trans (nI_add _ _)) (by omega) (by decide) ?_
          refine z_aload_n C 101 0 1 dX2_add_101 rfl rfl ?_
          refine z_getr C 102 (a9 := ad (b + 1)) (b) 0 dX2_add_102 (Nat.lt_of_succ_lt hO.1) hO.2.1 mX2_add_in2 rfl (by decide) mX2_add_f11 (fun _ => rfl) ?_
          refine z_iload C 105 6 0 dX2_add_105 rfl ?_
          refine z_iconst C 107 (v := 5) dX2_add_107 (by decide +kernel) ?_
          refine z_iadd C 108 dX2_add_108 ?_
          refine z_sipush C 109 (v := 1000) dX2_add_109 (by decide +kernel) ?_
          refine z_iload C 112 5 6 dX2_add_112 rfl ?_
          refine z_iadd C 114 dX2_add_114 ?_
          refine z_iastN C 115 (b + 1) (w * 6 + 5) dX2_add_115 hO.1 hO.2.2 (by rw [hx]; first | exact (nI_mul w 6) | exact (congrArg (· + nI 5) (nI_mul w 6)).trans (nI_add _ _)) (by omega) (by decide) ?_
          refine z_aload_n C 116 0 1 dX2_add_116 rfl rfl ?_
          refine z_aload_n C 117 0 1 dX2_add_117 rfl rfl ?_
          refine z_geti C 118 (b) 1 dX2_add_118 (Nat.lt_of_succ_lt hO.1) hO.2.1 mX2_add_in2 rfl (by decide) mX2_add_f21 (fun _ => rfl) ?_
          refine z_nv (t (b) 1) ((zset_idk _ _ _ _ (by omega)).trans ((zset_idk _ _ _ _ (by omega)).trans ((zset_idk _ _ _ _ (by omega)).trans ((zset_idk _ _ _ _ (by omega)).trans ((zset_idk _ _ _ _ (by omega)).trans ((zset_idk _ _ _ _ (by omega)).trans rfl)))))) ?_
          refine z_iconst C 121 (v := 1) dX2_add_121 (by decide +kernel) ?_
          refine z_iadd C 122 dX2_add_122 ?_
          refine z_bipush C 123 (v := 10) dX2_add_123 (by decide +kernel) ?_
          refine z_irem C 125 dX2_add_125 (by decide) ?_
          refine z_put C 126 (ty := .int) (b) 1 dX2_add_126 (Nat.lt_of_succ_lt hO.1) hO.2.1 mX2_add_in2 tyX2 tyX2_ok nmX2 rfl (by decide) mX2_add_f21 rfl (by decide +kernel) (vp_nar_int _) (zfit_i _) (fun _ => Nat.le_of_ble_eq_true rfl) (fun _ _ => rfl) ?_
          refine z_aload_n C 129 0 1 dX2_add_129 rfl rfl ?_
          refine z_geti C 130 (b) 2 dX2_add_130 (Nat.lt_of_succ_lt hO.1) hO.2.1 mX2_add_in2 rfl (by decide) mX2_add_f25 (fun _ => rfl) ?_
          refine z_nv (t (b) 2) ((zset_nk _ _ _ (by decide)).trans ((zset_idk _ _ _ _ (by omega)).trans ((zset_idk _ _ _ _ (by omega)).trans ((zset_idk _ _ _ _ (by omega)).trans ((zset_idk _ _ _ _ (by omega)).trans ((zset_idk _ _ _ _ (by omega)).trans ((zset_idk _ _ _ _ (by omega)).trans rfl))))))) ?_
          refine z_bipush C 133 (v := 10) dX2_add_133 (by decide +kernel) ?_
          refine z_icmp_ge C 135 148 dX2_add_135 (by decide) (fun c135_5 => ?_) (fun c135_5 => ?_)
          · exact z_vret C 148 hA hQ rfl dX2_add_148 ((if_neg c4_1).trans ((if_pos c13_2).trans ((if_pos c79_3).trans ((if_pos c92_4).trans ((if_pos c135_5).trans rfl))))).symm
          · refine z_aload_n C 138 0 1 dX2_add_138 rfl rfl ?_
            refine z_dup C 139 dX2_add_139 rfl ?_
            refine z_geti C 140 (b) 2 dX2_add_140 (Nat.lt_of_succ_lt hO.1) hO.2.1 mX2_add_in2 rfl (by decide) mX2_add_f25 (fun _ => rfl) ?_
            refine z_nv (t (b) 2) ((zset_nk _ _ _ (by decide)).trans ((zset_idk _ _ _ _ (by omega)).trans ((zset_idk _ _ _ _ (by omega)).trans ((zset_idk _ _ _ _ (by omega)).trans ((zset_idk _ _ _ _ (by omega)).trans ((zset_idk _ _ _ _ (by omega)).trans ((zset_idk _ _ _ _ (by omega)).trans rfl))))))) ?_
            refine z_iconst C 143 (v := 1) dX2_add_143 (by decide +kernel) ?_
            refine z_iadd C 144 dX2_add_144 ?_
            refine z_put C 145 (ty := .int) (b) 2 dX2_add_145 (Nat.lt_of_succ_lt hO.1) hO.2.1 mX2_add_in2 tyX2 tyX2_ok nmX2 rfl (by decide) mX2_add_f25 rfl (by decide +kernel) (vp_nar_int _) (zfit_i _) (fun _ => Nat.le_of_ble_eq_true rfl) (fun _ _ => rfl) ?_
            exact z_vret C 148 hA hQ rfl dX2_add_148 ((if_neg c4_1).trans ((if_pos c13_2).trans ((if_pos c79_3).trans ((if_pos c92_4).trans ((if_neg c135_5).trans rfl))))).symm
        · refine z_iconst C 95 (v := 1) dX2_add_95 (by decide +kernel) ?_
          refine z_goto C 96 100 dX2_add_96 (by decide) ?_
          refine z_iastN C 100 (b + 1) (w * 6 + 4) dX2_add_100 hO.1 hO.2.2 (by rw [hx]; first | exact (nI_mul w 6) | exact (congrArg (· + nI 4) (nI_mul w 6)).trans (nI_add _ _)) (by omega) (by decide) ?_
          refine z_aload_n C 101 0 1 dX2_add_101 rfl rfl ?_
          refine z_getr C 102 (a9 := ad (b + 1)) (b) 0 dX2_add_102 (Nat.lt_of_succ_lt hO.1) hO.2.1 mX2_add_in2 rfl (by decide) mX2_add_f11 (fun _ => rfl) ?_
          refine z_iload C 105 6 0 dX2_add_105 rfl ?_
          refine z_iconst C 107 (v := 5) dX2_add_107 (by decide +kernel) ?_
          refine z_iadd C 108 dX2_add_108 ?_
          refine z_sipush C 109 (v := 1000) dX2_add_109 (by decide +kernel) ?_
          refine z_iload C 112 5 6 dX2_add_112 rfl ?_
          refine z_iadd C 114 dX2_add_114 ?_
          refine z_iastN C 115 (b + 1) (w * 6 + 5) dX2_add_115 hO.1 hO.2.2 (by rw [hx]; first | exact (nI_mul w 6) | exact (congrArg (· + nI 5) (nI_mul w 6)).trans (nI_add _ _)) (by omega) (by decide) ?_
          refine z_aload_n C 116 0 1 dX2_add_116 rfl rfl ?_
          refine z_aload_n C 117 0 1 dX2_add_117 rfl rfl ?_
          refine z_geti C 118 (b) 1 dX2_add_118 (Nat.lt_of_succ_lt hO.1) hO.2.1 mX2_add_in2 rfl (by decide) mX2_add_f21 (fun _ => rfl) ?_
          refine z_nv (t (b) 1) ((zset_idk _ _ _ _ (by omega)).trans ((zset_idk _ _ _ _ (by omega)).trans ((zset_idk _ _ _ _ (by omega)).trans ((zset_idk _ _ _ _ (by omega)).trans ((zset_idk _ _ _ _ (by omega)).trans ((zset_idk _ _ _ _ (by omega)).trans rfl)))))) ?_
          refine z_iconst C 121 (v := 1) dX2_add_121 (by decide +kernel) ?_
          refine z_iadd C 122 dX2_add_122 ?_
          refine z_bipush C 123 (v := 10) dX2_add_123 (by decide +kernel) ?_
          refine z_irem C 125 dX2_add_125 (by decide) ?_
          refine z_put C 126 (ty := .int) (b) 1 dX2_add_126 (Nat.lt_of_succ_lt hO.1) hO.2.1 mX2_add_in2 tyX2 tyX2_ok nmX2 rfl (by decide) mX2_add_f21 rfl (by decide +kernel) (vp_nar_int _) (zfit_i _) (fun _ => Nat.le_of_ble_eq_true rfl) (fun _ _ => rfl) ?_
          refine z_aload_n C 129 0 1 dX2_add_129 rfl rfl ?_
          refine z_geti C 130 (b) 2 dX2_add_130 (Nat.lt_of_succ_lt hO.1) hO.2.1 mX2_add_in2 rfl (by decide) mX2_add_f25 (fun _ => rfl) ?_
          refine z_nv (t (b) 2) ((zset_nk _ _ _ (by decide)).trans ((zset_idk _ _ _ _ (by omega)).trans ((zset_idk _ _ _ _ (by omega)).trans ((zset_idk _ _ _ _ (by omega)).trans ((zset_idk _ _ _ _ (by omega)).trans ((zset_idk _ _ _ _ (by omega)).trans ((zset_idk _ _ _ _ (by omega)).trans rfl))))))) ?_
          refine z_bipush C 133 (v := 10) dX2_add_133 (by decide +kernel) ?_
          refine z_icmp_ge C 135 148 dX2_add_135 (by decide) (fun c135_6 => ?_) (fun c135_6 => ?_)
          · exact z_vret C 148 hA hQ rfl dX2_add_148 ((if_neg c4_1).trans ((if_pos c13_2).trans ((if_pos c79_3).trans ((if_neg c92_4).trans ((if_pos c135_6).trans rfl))))).symm
          · refine z_aload_n C 138 0 1 dX2_add_138 rfl rfl ?_
            refine z_dup C 139 dX2_add_139 rfl ?_
            refine z_geti C 140 (b) 2 dX2_add_140 (Nat.lt_of_succ_lt hO.1) hO.2.1 mX2_add_in2 rfl (by decide) mX2_add_f25 (fun _ => rfl) ?_
            refine z_nv (t (b) 2) ((zset_nk _ _ _ (by decide)).trans ((zset_idk _ _ _ _ (by omega)).trans ((zset_idk _ _ _ _ (by omega)).trans ((zset_idk _ _ _ _ (by omega)).trans ((zset_idk _ _ _ _ (by omega)).trans ((zset_idk _ _ _ _ (by omega)).trans ((zset_idk _ _ _ _ (by omega)).trans rfl))))))) ?_
            refine z_iconst C 143 (v := 1) dX2_add_143 (by decide +kernel) ?_
            refine z_iadd C 144 dX2_add_144 ?_
            refine z_put C 145 (ty := .int) (b) 2 dX2_add_145 (Nat.lt_of_succ_lt hO.1) hO.2.1 mX2_add_in2 tyX2 tyX2_ok nmX2 rfl (by decide) mX2_add_f25 rfl (by decide +kernel) (vp_nar_int _) (zfit_i _) (fun _ => Nat.le_of_ble_eq_true rfl) (fun _ _ => rfl) ?_
            exact z_vret C 148 hA hQ rfl dX2_add_148 ((if_neg c4_1).trans ((if_pos c13_2).trans ((if_pos c79_3).trans ((if_neg c92_4).trans ((if_neg c135_6).trans rfl))))).symm
      · refine z_iconst C 82 (v := 0) dX2_add_82 (by decide +kernel) ?_
        refine z_goto C 83 100 dX2_add_83 (by decide) ?_
        refine z_iastN C 100 (b + 1) (w * 6 + 4) dX2_add_100 hO.1 hO.2.2 (by rw [hx]; first | exact (nI_mul w 6) | exact (congrArg (· + nI 4) (nI_mul w 6)).trans (nI_add _ _)) (by omega) (by decide) ?_
        refine z_aload_n C 101 0 1 dX2_add_101 rfl rfl ?_
        refine z_getr C 102 (a9 := ad (b + 1)) (b) 0 dX2_add_102 (Nat.lt_of_succ_lt hO.1) hO.2.1 mX2_add_in2 rfl (by decide) mX2_add_f11 (fun _ => rfl) ?_
        refine z_iload C 105 6 0 dX2_add_105 rfl ?_
        refine z_iconst C 107 (v := 5) dX2_add_107 (by decide +kernel) ?_
        refine z_iadd C 108 dX2_add_108 ?_
        refine z_sipush C 109 (v := 1000) dX2_add_109 (by decide +kernel) ?_
        refine z_iload C 112 5 6 dX2_add_112 rfl ?_
        refine z_iadd C 114 dX2_add_114 ?_
        refine z_iastN C 115 (b + 1) (w * 6 + 5) dX2_add_115 hO.1 hO.2.2 (by rw [hx]; first | exact (nI_mul w 6) | exact (congrArg (· + nI 5) (nI_mul w 6)).trans (nI_add _ _)) (by omega) (by decide) ?_
        refine z_aload_n C 116 0 1 dX2_add_116 rfl rfl ?_
        refine z_aload_n C 117 0 1 dX2_add_117 rfl rfl ?_
        refine z_geti C 118 (b) 1 dX2_add_118 (Nat.lt_of_succ_lt hO.1) hO.2.1 mX2_add_in2 rfl (by decide) mX2_add_f21 (fun _ => rfl) ?_
        refine z_nv (t (b) 1) ((zset_idk _ _ _ _ (by omega)).trans ((zset_idk _ _ _ _ (by omega)).trans ((zset_idk _ _ _ _ (by omega)).trans ((zset_idk _ _ _ _ (by omega)).trans ((zset_idk _ _ _ _ (by omega)).trans ((zset_idk _ _ _ _ (by omega)).trans rfl)))))) ?_
        refine z_iconst C 121 (v := 1) dX2_add_121 (by decide +kernel) ?_
        refine z_iadd C 122 dX2_add_122 ?_
        refine z_bipush C 123 (v := 10) dX2_add_123 (by decide +kernel) ?_
        refine z_irem C 125 dX2_add_125 (by decide) ?_
        refine z_put C 126 (ty := .int) (b) 1 dX2_add_126 (Nat.lt_of_succ_lt hO.1) hO.2.1 mX2_add_in2 tyX2 tyX2_ok nmX2 rfl (by decide) mX2_add_f21 rfl (by decide +kernel) (vp_nar_int _) (zfit_i _) (fun _ => Nat.le_of_ble_eq_true rfl) (fun _ _ => rfl) ?_
        refine z_aload_n C 129 0 1 dX2_add_129 rfl rfl ?_
        refine z_geti C 130 (b) 2 dX2_add_130 (Nat.lt_of_succ_lt hO.1) hO.2.1 mX2_add_in2 rfl (by decide) mX2_add_f25 (fun _ => rfl) ?_
        refine z_nv (t (b) 2) ((zset_nk _ _ _ (by decide)).trans ((zset_idk _ _ _ _ (by omega)).trans ((zset_idk _ _ _ _ (by omega)).trans ((zset_idk _ _ _ _ (by omega)).trans ((zset_idk _ _ _ _ (by omega)).trans ((zset_idk _ _ _ _ (by omega)).trans ((zset_idk _ _ _ _ (by omega)).trans rfl))))))) ?_
        refine z_bipush C 133 (v := 10) dX2_add_133 (by decide +kernel) ?_
        refine z_icmp_ge C 135 148 dX2_add_135 (by decide) (fun c135_7 => ?_) (fun c135_7 => ?_)
        · exact z_vret C 148 hA hQ rfl dX2_add_148 ((if_neg c4_1).trans ((if_pos c13_2).trans ((if_neg c79_3).trans ((if_pos c135_7).trans rfl)))).symm
        · refine z_aload_n C 138 0 1 dX2_add_138 rfl rfl ?_
          refine z_dup C 139 dX2_add_139 rfl ?_
          refine z_geti C 140 (b) 2 dX2_add_140 (Nat.lt_of_succ_lt hO.1) hO.2.1 mX2_add_in2 rfl (by decide) mX2_add_f25 (fun _ => rfl) ?_
          refine z_nv (t (b) 2) ((zset_nk _ _ _ (by decide)).trans ((zset_idk _ _ _ _ (by omega)).trans ((zset_idk _ _ _ _ (by omega)).trans ((zset_idk _ _ _ _ (by omega)).trans ((zset_idk _ _ _ _ (by omega)).trans ((zset_idk _ _ _ _ (by omega)).trans ((zset_idk _ _ _ _ (by omega)).trans rfl))))))) ?_
          refine z_iconst C 143 (v := 1) dX2_add_143 (by decide +kernel) ?_
          refine z_iadd C 144 dX2_add_144 ?_
          refine z_put C 145 (ty := .int) (b) 2 dX2_add_145 (Nat.lt_of_succ_lt hO.1) hO.2.1 mX2_add_in2 tyX2 tyX2_ok nmX2 rfl (by decide) mX2_add_f25 rfl (by decide +kernel) (vp_nar_int _) (zfit_i _) (fun _ => Nat.le_of_ble_eq_true rfl) (fun _ _ => rfl) ?_
          exact z_vret C 148 hA hQ rfl dX2_add_148 ((if_neg c4_1).trans ((if_pos c13_2).trans ((if_neg c79_3).trans ((if_neg c135_7).trans rfl)))).symm
    · exact z_vret C 16 hA hQ rfl dX2_add_16 ((if_neg c4_1).trans ((if_neg c13_2).trans rfl)).symm
theorem sX2_add_o (b : Nat) (t : zM) (w : Nat) (a1 a2 a3 a4 a5 : Int32) {j : Nat} (h : j ≠ b) (h1 : j ≠ b + 1) : sX2_add b t w a1 a2 a3 a4 a5 j = t j := by
  unfold sX2_add
  repeat' split
  all_goals simp only [zset_id _ _ _ h, zset_id _ _ _ h1]
def rX2_entry (b : Nat) (t : zM) (a1 : Int32) (a2 : Int32) : Int32 := (if a1 < 0 then (-1000001) else (if a2 < 0 then (-1000001) else (if a2 < 6 then (if a1 < (t (b) 2) then (if (((zrem ((((t (b) 1) + 10) - 1) - a1) 10) * 6) + a2) < 0 then (-1000004) else (if 60 ≤ (((zrem ((((t (b) 1) + 10) - 1) - a1) 10) * 6) + a2) then (-1000004) else (t (b + 1) (((zrem ((((t (b) 1) + 10) - 1) - a1) 10) * 6) + a2).toNatClampNeg))) else (-1000004)) else (-1000001))))
theorem mX2_entry_c28 : Cond.constant RX2 28 (-1000001) ∈ wsX2_entry := by decide +kernel
theorem mX2_entry_f25 : Cond.fieldLink RX2 25 "WrongedMeters$Ledger" "size" "I" ∈ wsX2_entry := by decide +kernel
set_option maxRecDepth 20000 in
theorem mX2_entry_in2 : ∀ w ∈ u_ws RX2 TX2 3, w ∈ wsX2_entry := by decide +kernel
theorem mX2_entry_f21 : Cond.fieldLink RX2 21 "WrongedMeters$Ledger" "nextRow" "I" ∈ wsX2_entry := by decide +kernel
theorem mX2_entry_c29 : Cond.constant RX2 29 (-1000004) ∈ wsX2_entry := by decide +kernel
theorem mX2_entry_f11 : Cond.fieldLink RX2 11 "WrongedMeters$Ledger" "facts" "[I" ∈ wsX2_entry := by decide +kernel
theorem hyX2_entry : yX2_entry.cls = RX2 ∧ yX2_entry.cls ≠ "java/lang/invoke/MethodHandle" ∧ yX2_entry.cls ≠ "java/lang/invoke/VarHandle" ∧ (parseMethodDescriptor yX2_entry.desc).map (fun d => d.parameters.length) = some 2 := by decide +kernel
set_option maxHeartbeats 3000000 in
set_option maxRecDepth 100000 in
theorem kX2_entry (l : Launch) (D : va_G) (cy : Nat → ClassId) (K : zK) (n : Nat) (ad : Nat → Nat) (hJ : zJ n ad) (b : Nat) (hO : zLedger cy K n ad b) (t : zM) (w z : Nat) (a1 a2 : Int32) (hw : w < 10) (hx : t b 1 = nI w) (hz : z ≤ 10) (hy : t b 2 = nI z) : zI l yX2_entry wsX2_entry 0 D cy K n ad t [.ref (ad (b)), .int a1, .int a2] (fun r t1 => r = rX2_entry b t a1 a2 ∧ t1 = t) := by
  refine z_startI (cc := cX2_entry) (mL := 4) (ret := (some .int)) (own := RX2) rfl (by decide +kernel) rfl hJ (Nat.le_of_ble_eq_true rfl) ?_
  intro p e s m args below meth c A hA Q hQ C
  refine z_iload_n C 0 1 1 dX2_entry_0 rfl rfl ?_
  refine z_if_lt C 1 14 dX2_entry_1 (by decide) (fun c1_1 => ?_) (fun c1_1 => ?_)
  · refine z_ldc C 14 (v := (-1000001)) dX2_entry_14 mX2_entry_c28 ?_
    exact z_iret C 16 hA hQ rfl dX2_entry_16 ⟨((if_pos c1_1).trans rfl).symm, rfl⟩
  · refine z_iload_n C 4 2 2 dX2_entry_4 rfl rfl ?_
    refine z_if_lt C 5 14 dX2_entry_5 (by decide) (fun c5_2 => ?_) (fun c5_2 => ?_)
    · refine z_ldc C 14 (v := (-1000001)) dX2_entry_14 mX2_entry_c28 ?_
      exact z_iret C 16 hA hQ rfl dX2_entry_16 ⟨((if_neg c1_1).trans ((if_pos c5_2).trans rfl)).symm, rfl⟩
    · refine z_iload_n C 8 2 2 dX2_entry_8 rfl rfl ?_
      refine z_bipush C 9 (v := 6) dX2_entry_9 (by decide +kernel) ?_
      refine z_icmp_lt C 11 17 dX2_entry_11 (by decide) (fun c11_3 => ?_) (fun c11_3 => ?_)
      · refine z_iload_n C 17 1 1 dX2_entry_17 rfl rfl ?_
        refine z_aload_n C 18 0 0 dX2_entry_18 rfl rfl ?_
        refine z_geti C 19 (b) 2 dX2_entry_19 (Nat.lt_of_succ_lt hO.1) hO.2.1 mX2_entry_in2 rfl (by decide) mX2_entry_f25 (fun _ => rfl) ?_
        refine z_icmp_lt C 22 28 dX2_entry_22 (by decide) (fun c22_4 => ?_) (fun c22_4 => ?_)
        · refine z_aload_n C 28 0 0 dX2_entry_28 rfl rfl ?_
          refine z_geti C 29 (b) 1 dX2_entry_29 (Nat.lt_of_succ_lt hO.1) hO.2.1 mX2_entry_in2 rfl (by decide) mX2_entry_f21 (fun _ => rfl) ?_
          refine z_bipush C 32 (v := 10) dX2_entry_32 (by decide +kernel) ?_
          refine z_iadd C 34 dX2_entry_34 ?_
          refine z_iconst C 35 (v := 1) dX2_entry_35 (by decide +kernel) ?_
          refine z_isub C 36 dX2_entry_36 ?_
          refine z_iload_n C 37 1 1 dX2_entry_37 rfl rfl ?_
          refine z_isub C 38 dX2_entry_38 ?_
          refine z_bipush C 39 (v := 10) dX2_entry_39 (by decide +kernel) ?_
          refine z_irem C 41 dX2_entry_41 (by decide) ?_
          refine z_bipush C 42 (v := 6) dX2_entry_42 (by decide +kernel) ?_
          refine z_imul C 44 dX2_entry_44 ?_
          refine z_iload_n C 45 2 2 dX2_entry_45 rfl rfl ?_
          refine z_iadd C 46 dX2_entry_46 ?_
          refine z_istore_n C 47 3 ([(3, .int (((zrem ((((t (b) 1) + 10) - 1) - a1) 10) * 6) + a2)), (0, .ref (ad (b))), (1, .int a1), (2, .int a2)]) dX2_entry_47 rfl (by decide) rfl ?_
          refine z_iload_n C 48 3 0 dX2_entry_48 rfl rfl ?_
          refine z_if_lt C 49 67 dX2_entry_49 (by decide) (fun c49_5 => ?_) (fun c49_5 => ?_)
          · refine z_ldc C 67 (v := (-1000004)) dX2_entry_67 mX2_entry_c29 ?_
            exact z_iret C 69 hA hQ rfl dX2_entry_69 ⟨((if_neg c1_1).trans ((if_neg c5_2).trans ((if_pos c11_3).trans ((if_pos c22_4).trans ((if_pos c49_5).trans rfl))))).symm, rfl⟩
          · refine z_iload_n C 52 3 0 dX2_entry_52 rfl rfl ?_
            refine z_bipush C 53 (v := 60) dX2_entry_53 (by decide +kernel) ?_
            refine z_icmp_ge C 55 67 dX2_entry_55 (by decide) (fun c55_6 => ?_) (fun c55_6 => ?_)
            · refine z_ldc C 67 (v := (-1000004)) dX2_entry_67 mX2_entry_c29 ?_
              exact z_iret C 69 hA hQ rfl dX2_entry_69 ⟨((if_neg c1_1).trans ((if_neg c5_2).trans ((if_pos c11_3).trans ((if_pos c22_4).trans ((if_neg c49_5).trans ((if_pos c55_6).trans rfl)))))).symm, rfl⟩
            · refine z_aload_n C 58 0 1 dX2_entry_58 rfl rfl ?_
              refine z_getr C 59 (a9 := ad (b + 1)) (b) 0 dX2_entry_59 (Nat.lt_of_succ_lt hO.1) hO.2.1 mX2_entry_in2 rfl (by decide) mX2_entry_f11 (fun _ => rfl) ?_
              refine z_iload_n C 62 3 0 dX2_entry_62 rfl rfl ?_
              refine z_iald C 63 (b + 1) dX2_entry_63 hO.1 hO.2.2 (zvp1 ‹¬ ((zrem ((((t b 1) + 10) - 1) - a1) 10) * 6) + a2 < 0› ‹¬ 60 ≤ ((zrem ((((t b 1) + 10) - 1) - a1) 10) * 6) + a2› (by decide)) ?_
              refine z_goto C 64 69 dX2_entry_64 (by decide) ?_
              exact z_iret C 69 hA hQ rfl dX2_entry_69 ⟨((if_neg c1_1).trans ((if_neg c5_2).trans ((if_pos c11_3).trans ((if_pos c22_4).trans ((if_neg c49_5).trans ((if_neg c55_6).trans rfl)))))).symm, rfl⟩
        · refine z_ldc C 25 (v := (-1000004)) dX2_entry_25 mX2_entry_c29 ?_
          exact z_iret C 27 hA hQ rfl dX2_entry_27 ⟨((if_neg c1_1).trans ((if_neg c5_2).trans ((if_pos c11_3).trans ((if_neg c22_4).trans rfl)))).symm, rfl⟩
      · refine z_ldc C 14 (v := (-1000001)) dX2_entry_14 mX2_entry_c28 ?_
        exact z_iret C 16 hA hQ rfl dX2_entry_16 ⟨((if_neg c1_1).trans ((if_neg c5_2).trans ((if_neg c11_3).trans rfl))).symm, rfl⟩
end
section
/-! a town by ids: b: the town; b + 1: its houses' array; b + 2 + k: house k; b + 26: its streets' array; b + 27 + 2 * j, b + 28 + 2 * j: street j and its places; b + 35, b + 36: the ledger; b + 37: the settings -/
def zTown (cy : Nat → ClassId) (K : zK) (n : Nat) (ad : Nat → Nat) (b : Nat) : Prop :=
  b + 37 < n ∧ (∀ f, K ad b f = .inr (5, [.ref (ad (b + 1)), .ref (ad (b + 26)), .ref (ad (b + 35)), .ref (ad (b + 37)), .int (f 4), .int (f 5), .int (f 6), .int (f 7), .int (f 8), .int (f 9), .int (f 10), .int (f 11), .int (f 12)])) ∧
  (∀ f, K ad (b + 1) f = .inl (cy 1, 24, .inr (.inr (.inr (.inr (fun k => some (ad (b + 2 + k)))))))) ∧ (∀ k, k < 24 → zHouse K n ad (b + 2 + k)) ∧
  (∀ f, K ad (b + 26) f = .inl (cy 2, 4, .inr (.inr (.inr (.inr (fun j => some (ad (b + 27 + 2 * j)))))))) ∧ (∀ j, j < 4 → zStreet cy K n ad (b + 27 + 2 * j)) ∧
  zLedger cy K n ad (b + 35) ∧ ∀ f, K ad (b + 37) f = .inl (cy 0, 4, .inl f)
section ZT
variable {cy : Nat → ClassId} {K : zK} {n : Nat} {ad : Nat → Nat} {b : Nat}
theorem zTown.h0 (h : zTown cy K n ad b) : b < n := Nat.lt_of_le_of_lt (Nat.le_add_right b 37) h.1
theorem zTown.h1 (h : zTown cy K n ad b) : b + 1 < n := Nat.lt_of_le_of_lt (Nat.add_le_add_left (by decide) b) h.1
theorem zTown.h26 (h : zTown cy K n ad b) : b + 26 < n := Nat.lt_of_le_of_lt (Nat.add_le_add_left (by decide) b) h.1
theorem zTown.h37 (h : zTown cy K n ad b) : b + 37 < n := h.1
theorem zTown.e0 (h : zTown cy K n ad b) : ∀ f, K ad b f = .inr (5, [.ref (ad (b + 1)), .ref (ad (b + 26)), .ref (ad (b + 35)), .ref (ad (b + 37)), .int (f 4), .int (f 5), .int (f 6), .int (f 7), .int (f 8), .int (f 9), .int (f 10), .int (f 11), .int (f 12)]) := h.2.1
theorem zTown.e1 (h : zTown cy K n ad b) : ∀ f, K ad (b + 1) f = .inl (cy 1, 24, .inr (.inr (.inr (.inr (fun k => some (ad (b + 2 + k))))))) := h.2.2.1
theorem zTown.hou (h : zTown cy K n ad b) {k : Nat} (hk : k < 24) : zHouse K n ad (b + 2 + k) := h.2.2.2.1 k hk
theorem zTown.e26 (h : zTown cy K n ad b) : ∀ f, K ad (b + 26) f = .inl (cy 2, 4, .inr (.inr (.inr (.inr (fun j => some (ad (b + 27 + 2 * j))))))) := h.2.2.2.2.1
theorem zTown.str (h : zTown cy K n ad b) {j : Nat} (hj : j < 4) : zStreet cy K n ad (b + 27 + 2 * j) := h.2.2.2.2.2.1 j hj
theorem zTown.led (h : zTown cy K n ad b) : zLedger cy K n ad (b + 35) := h.2.2.2.2.2.2.1
theorem zTown.e37 (h : zTown cy K n ad b) : ∀ f, K ad (b + 37) f = .inl (cy 0, 4, .inl f) := h.2.2.2.2.2.2.2
end ZT
/-- a row of the ledger -/
def zRow (x : Int32) : Prop := ∃ w, w < 10 ∧ x = nI w
theorem zRow.c {x : Int32} (h : zRow x) : x.toNatClampNeg < 10 ∧ x = nI x.toNatClampNeg := by
  obtain ⟨w, hw, rfl⟩ := h
  rw [nI_clamp (by omega)]
  exact ⟨hw, rfl⟩
/-- a number of a house that is there -/
abbrev zin (c x : Int32) : Prop := ¬ x < 0 ∧ x < c ∧ x < 24
abbrev zis (x : Int32) : Prop := ¬ x < 0 ∧ x < 4
theorem zidxc {x : Int32} {m : Nat} (h0 : ¬ x < 0) (h1 : x < nI m) (hm : m < 2 ^ 31) : x.toNatClampNeg < m := by
  obtain ⟨k, hk, rfl⟩ := zidx h0 h1 hm
  rw [nI_clamp (by omega)]
  exact hk
theorem znc {x : Int32} (h0 : ¬ x < 0) : x = nI x.toNatClampNeg := by
  obtain ⟨k, hk, rfl⟩ := nI_of h0
  rw [nI_clamp hk]
theorem zin_lt {c x : Int32} (h : zin c x) : x.toNatClampNeg < 24 := zidxc (m := 24) h.1 h.2.2 (by decide)
theorem zis_lt {x : Int32} (h : zis x) : x.toNatClampNeg < 4 := zidxc (m := 4) h.1 h.2 (by decide)
theorem mX5_houseNumbered_f55 : Cond.fieldLink RX5 55 "WrongedMeters$Town" "houseCount" "I" ∈ wsX5_houseNumbered := by decide +kernel
set_option maxRecDepth 20000 in
theorem mX5_houseNumbered_in5 : ∀ w ∈ u_ws RX5 TX5 13, w ∈ wsX5_houseNumbered := by decide +kernel
theorem mX5_houseNumbered_f11 : Cond.fieldLink RX5 11 "WrongedMeters$Town" "houses" "[LWrongedMeters$House;" ∈ wsX5_houseNumbered := by decide +kernel
theorem hyX5_houseNumbered : yX5_houseNumbered.cls = RX5 ∧ yX5_houseNumbered.cls ≠ "java/lang/invoke/MethodHandle" ∧ yX5_houseNumbered.cls ≠ "java/lang/invoke/VarHandle" ∧ (parseMethodDescriptor yX5_houseNumbered.desc).map (fun d => d.parameters.length) = some 1 := by decide +kernel
set_option maxHeartbeats 3000000 in
set_option maxRecDepth 100000 in
theorem kX5_houseNumbered (l : Launch) (D : va_G) (cy : Nat → ClassId) (K : zK) (n : Nat) (ad : Nat → Nat) (hJ : zJ n ad) (b : Nat) (hO : zTown cy K n ad b) (t : zM) (a1 : Int32)  : zQ l yX5_houseNumbered wsX5_houseNumbered 0 D cy K n ad t [.ref (ad (b)), .int a1] (fun o t1 => o = (if zin (t b 4) a1 then some (ad (b + 2 + a1.toNatClampNeg)) else none) ∧ t1 = t) := by
  refine z_startQ (cc := cX5_houseNumbered) (mL := 2) (ret := (some (.object "WrongedMeters$House"))) (own := RX5) rfl (by decide +kernel) rfl hJ (Nat.le_of_ble_eq_true rfl) ?_
  intro p e s m args below meth c A hA Q hQ C
  refine z_iload_n C 0 1 1 dX5_houseNumbered_0 rfl rfl ?_
  refine z_if_lt C 1 27 dX5_houseNumbered_1 (by decide) (fun c1_1 => ?_) (fun c1_1 => ?_)
  · refine z_null C 27 dX5_houseNumbered_27 ?_
    exact z_aret C 28 (o := none) hA hQ rfl dX5_houseNumbered_28 rfl ⟨(if_neg (fun q => q.1 c1_1)).symm, rfl⟩
  · refine z_iload_n C 4 1 1 dX5_houseNumbered_4 rfl rfl ?_
    refine z_aload_n C 5 0 0 dX5_houseNumbered_5 rfl rfl ?_
    refine z_geti C 6 (b) 4 dX5_houseNumbered_6 hO.h0 hO.e0 mX5_houseNumbered_in5 rfl (by decide) mX5_houseNumbered_f55 (fun _ => rfl) ?_
    refine z_icmp_ge C 9 27 dX5_houseNumbered_9 (by decide) (fun c9_2 => ?_) (fun c9_2 => ?_)
    · refine z_null C 27 dX5_houseNumbered_27 ?_
      exact z_aret C 28 (o := none) hA hQ rfl dX5_houseNumbered_28 rfl ⟨(if_neg (fun q => absurd q.2.1 (znlt.mpr c9_2))).symm, rfl⟩
    · refine z_iload_n C 12 1 1 dX5_houseNumbered_12 rfl rfl ?_
      refine z_bipush C 13 (v := 24) dX5_houseNumbered_13 (by decide +kernel) ?_
      refine z_icmp_ge C 15 27 dX5_houseNumbered_15 (by decide) (fun c15_3 => ?_) (fun c15_3 => ?_)
      · refine z_null C 27 dX5_houseNumbered_27 ?_
        exact z_aret C 28 (o := none) hA hQ rfl dX5_houseNumbered_28 rfl ⟨(if_neg (fun q => absurd q.2.2 (znlt.mpr c15_3))).symm, rfl⟩
      · refine z_aload_n C 18 0 0 dX5_houseNumbered_18 rfl rfl ?_
        refine z_getr C 19 (a9 := ad (b + 1)) (b) 0 dX5_houseNumbered_19 hO.h0 hO.e0 mX5_houseNumbered_in5 rfl (by decide) mX5_houseNumbered_f11 (fun _ => rfl) ?_
        refine z_iload_n C 22 1 1 dX5_houseNumbered_22 rfl rfl ?_
        refine z_aald C 23 (b + 1) 1 a1.toNatClampNeg (ad (b + 2 + a1.toNatClampNeg)) dX5_houseNumbered_23 hO.h1 hO.e1 rfl (znc ‹¬ a1 < 0›) (zidxc (m := 24) ‹¬ a1 < 0› (znl.mp ‹¬ (24 : Int32) ≤ a1›) (by decide)) (by decide) rfl ?_
        refine z_goto C 24 28 dX5_houseNumbered_24 (by decide) ?_
        exact z_aret C 28 (o := some (ad (b + 2 + a1.toNatClampNeg))) hA hQ rfl dX5_houseNumbered_28 rfl ⟨(if_pos (⟨‹¬ a1 < 0›, znl.mp ‹¬ t b 4 ≤ a1›, znl.mp ‹¬ (24 : Int32) ≤ a1›⟩ : zin (t b 4) a1)).symm, rfl⟩
theorem mX5_streetNumbered_f19 : Cond.fieldLink RX5 19 "WrongedMeters$Town" "streets" "[LWrongedMeters$Street;" ∈ wsX5_streetNumbered := by decide +kernel
set_option maxRecDepth 20000 in
theorem mX5_streetNumbered_in5 : ∀ w ∈ u_ws RX5 TX5 13, w ∈ wsX5_streetNumbered := by decide +kernel
theorem hyX5_streetNumbered : yX5_streetNumbered.cls = RX5 ∧ yX5_streetNumbered.cls ≠ "java/lang/invoke/MethodHandle" ∧ yX5_streetNumbered.cls ≠ "java/lang/invoke/VarHandle" ∧ (parseMethodDescriptor yX5_streetNumbered.desc).map (fun d => d.parameters.length) = some 1 := by decide +kernel
set_option maxHeartbeats 3000000 in
set_option maxRecDepth 100000 in
theorem kX5_streetNumbered (l : Launch) (D : va_G) (cy : Nat → ClassId) (K : zK) (n : Nat) (ad : Nat → Nat) (hJ : zJ n ad) (b : Nat) (hO : zTown cy K n ad b) (t : zM) (a1 : Int32)  : zQ l yX5_streetNumbered wsX5_streetNumbered 0 D cy K n ad t [.ref (ad (b)), .int a1] (fun o t1 => o = (if zis a1 then some (ad (b + 27 + 2 * a1.toNatClampNeg)) else none) ∧ t1 = t) := by
  refine z_startQ (cc := cX5_streetNumbered) (mL := 2) (ret := (some (.object "WrongedMeters$Street"))) (own := RX5) rfl (by decide +kernel) rfl hJ (Nat.le_of_ble_eq_true rfl) ?_
  intro p e s m args below meth c A hA Q hQ C
  refine z_iload_n C 0 1 1 dX5_streetNumbered_0 rfl rfl ?_
  refine z_if_lt C 1 18 dX5_streetNumbered_1 (by decide) (fun c1_1 => ?_) (fun c1_1 => ?_)
  · refine z_null C 18 dX5_streetNumbered_18 ?_
    exact z_aret C 19 (o := none) hA hQ rfl dX5_streetNumbered_19 rfl ⟨(if_neg (fun q => q.1 c1_1)).symm, rfl⟩
  · refine z_iload_n C 4 1 1 dX5_streetNumbered_4 rfl rfl ?_
    refine z_iconst C 5 (v := 4) dX5_streetNumbered_5 (by decide +kernel) ?_
    refine z_icmp_ge C 6 18 dX5_streetNumbered_6 (by decide) (fun c6_2 => ?_) (fun c6_2 => ?_)
    · refine z_null C 18 dX5_streetNumbered_18 ?_
      exact z_aret C 19 (o := none) hA hQ rfl dX5_streetNumbered_19 rfl ⟨(if_neg (fun q => absurd q.2 (znlt.mpr c6_2))).symm, rfl⟩
    · refine z_aload_n C 9 0 0 dX5_streetNumbered_9 rfl rfl ?_
      refine z_getr C 10 (a9 := ad (b + 26)) (b) 1 dX5_streetNumbered_10 hO.h0 hO.e0 mX5_streetNumbered_in5 rfl (by decide) mX5_streetNumbered_f19 (fun _ => rfl) ?_
      refine z_iload_n C 13 1 1 dX5_streetNumbered_13 rfl rfl ?_
      refine z_aald C 14 (b + 26) 2 a1.toNatClampNeg (ad (b + 27 + 2 * a1.toNatClampNeg)) dX5_streetNumbered_14 hO.h26 hO.e26 rfl (znc ‹¬ a1 < 0›) (zidxc (m := 4) ‹¬ a1 < 0› (znl.mp ‹¬ (4 : Int32) ≤ a1›) (by decide)) (by decide) rfl ?_
      refine z_goto C 15 19 dX5_streetNumbered_15 (by decide) ?_
      exact z_aret C 19 (o := some (ad (b + 27 + 2 * a1.toNatClampNeg))) hA hQ rfl dX5_streetNumbered_19 rfl ⟨(if_pos (⟨‹¬ a1 < 0›, znl.mp ‹¬ (4 : Int32) ≤ a1›⟩ : zis a1)).symm, rfl⟩
def rX5_addHouse (b : Nat) (t : zM) (H : Nat) (a1 : Int32) (a2 : Int32) : Int32 := (if zis a1 then (if (rX6_isPlace a2) = 0 then (-1000001) else (if (rX4_houseOn (b + 27 + 2 * a1.toNatClampNeg) t (rX6_stepOf a2)) = (-1) then (if (t (b) 4) < 24 then (((t (b) 4) + 1) - 1) else (-1000003)) else (-1000002))) else (-1000001))
def sX5_addHouse (b : Nat) (t : zM) (H : Nat) (a1 : Int32) (a2 : Int32) : zM := (if zis a1 then (if (rX6_isPlace a2) = 0 then t else (if (rX4_houseOn (b + 27 + 2 * a1.toNatClampNeg) t (rX6_stepOf a2)) = (-1) then (if (t (b) 4) < 24 then (zset (sX4_putHouse (b + 27 + 2 * a1.toNatClampNeg) (zset (zset t (b + 2 + H) 0 a1) (b + 2 + H) 1 a2) (rX6_stepOf a2) (t (b) 4)) (b) 4 ((t (b) 4) + 1)) else t) else t)) else t)
theorem mX5_addHouse_stX6_isPlace : Cond.static yX6_isPlace ∈ wsX5_addHouse := by decide +kernel
set_option maxRecDepth 20000 in
theorem mX5_addHouse_ini6 : Cond.initialized RX6 ∈ wsX5_addHouse := by decide +kernel
theorem mX5_addHouse_stX6_stepOf : Cond.static yX6_stepOf ∈ wsX5_addHouse := by decide +kernel
theorem mX5_addHouse_f55 : Cond.fieldLink RX5 55 "WrongedMeters$Town" "houseCount" "I" ∈ wsX5_addHouse := by decide +kernel
set_option maxRecDepth 20000 in
theorem mX5_addHouse_in5 : ∀ w ∈ u_ws RX5 TX5 13, w ∈ wsX5_addHouse := by decide +kernel
theorem mX5_addHouse_f11 : Cond.fieldLink RX5 11 "WrongedMeters$Town" "houses" "[LWrongedMeters$House;" ∈ wsX5_addHouse := by decide +kernel
set_option maxRecDepth 20000 in
theorem mX5_addHouse_in1 : ∀ w ∈ u_ws RX1 TX1 14, w ∈ wsX5_addHouse := by decide +kernel
theorem mX5_addHouse_c101 : Cond.constant RX5 101 (-1000003) ∈ wsX5_addHouse := by decide +kernel
theorem mX5_addHouse_c119 : Cond.constant RX5 119 (-1000002) ∈ wsX5_addHouse := by decide +kernel
theorem mX5_addHouse_c100 : Cond.constant RX5 100 (-1000001) ∈ wsX5_addHouse := by decide +kernel
theorem hyX5_addHouse : yX5_addHouse.cls = RX5 ∧ yX5_addHouse.cls ≠ "java/lang/invoke/MethodHandle" ∧ yX5_addHouse.cls ≠ "java/lang/invoke/VarHandle" ∧ (parseMethodDescriptor yX5_addHouse.desc).map (fun d => d.parameters.length) = some 2 := by decide +kernel
set_option maxHeartbeats 3000000 in
set_option maxRecDepth 100000 in
theorem kX5_addHouse (l : Launch) (D : va_G) (cy : Nat → ClassId) (K : zK) (n : Nat) (ad : Nat → Nat) (hJ : zJ n ad) (b : Nat) (hO : zTown cy K n ad b) (t : zM) (H : Nat) (a1 : Int32) (a2 : Int32) (hH : H ≤ 24) (hc : t b 4 = nI H) : zI l yX5_addHouse wsX5_addHouse 1 D cy K n ad t [.ref (ad (b)), .int a1, .int a2] (fun r t1 => r = rX5_addHouse b t H a1 a2 ∧ t1 = sX5_addHouse b t H a1 a2) := by
  refine z_startI (cc := cX5_addHouse) (mL := 5) (ret := (some .int)) (own := RX5) rfl (by decide +kernel) rfl hJ (Nat.le_of_ble_eq_true rfl) ?_
  intro p e s m args below meth c A hA Q hQ C
  refine z_aload_n C 0 0 0 dX5_addHouse_0 rfl rfl ?_
  refine z_iload_n C 1 1 1 dX5_addHouse_1 rfl rfl ?_
  refine z_virtQ C 2 (As := [.int a1]) (st := []) (id := b) (kX5_streetNumbered l D cy K n ad hJ (b) hO t a1 ) dX5_addHouse_2 rfl gX5_addHouse_X5_streetNumbered hyX5_streetNumbered rfl (by decide) (by decide) hO.h0 rfl hO.e0 rfl rfl rfl (Nat.le_of_ble_eq_true rfl) (fun r2_1 t2_1 h2_1 => ?_)
  obtain ⟨e9, e8⟩ := h2_1; replace e9 := e9.symm; replace e8 := e8.symm; subst e9; subst e8
  by_cases c2_2 : zis a1
  · have hkc2_2 := zis_lt c2_2
    refine z_cast (st2 := [.ref (ad (b + 27 + 2 * a1.toNatClampNeg))]) (by rw [if_pos c2_2]; rfl) ?_
    refine z_astore_n C 5 3 ([(3, .ref (ad (b + 27 + 2 * a1.toNatClampNeg))), (0, .ref (ad (b))), (1, .int a1), (2, .int a2)]) dX5_addHouse_5 rfl (by decide) rfl ?_
    refine z_aload_n C 6 3 0 dX5_addHouse_6 rfl rfl ?_
    refine z_ifnull C 7 dX5_addHouse_7 ?_
    refine z_iload_n C 10 2 3 dX5_addHouse_10 rfl rfl ?_
    refine z_statNIe C 11 (As := [.int a2]) (st := []) (kX6_isPlace l D cy K n ad hJ t a2 ) dX5_addHouse_11 rfl ggX5_addHouse_X6_isPlace nst_m5_109 mX5_addHouse_stX6_isPlace mX5_addHouse_ini6 hyX6_isPlace rfl (by decide) (by decide) rfl rfl (Nat.le_of_ble_eq_true rfl) ?_
    refine z_if_ne C 14 20 dX5_addHouse_14 (by decide) (fun c14_4 => ?_) (fun c14_4 => ?_)
    · refine z_aload_n C 20 3 0 dX5_addHouse_20 rfl rfl ?_
      refine z_iload_n C 21 2 3 dX5_addHouse_21 rfl rfl ?_
      refine z_statNIe C 22 (As := [.int a2]) (st := [.ref (ad (b + 27 + 2 * a1.toNatClampNeg))]) (kX6_stepOf l D cy K n ad hJ t a2 ) dX5_addHouse_22 rfl ggX5_addHouse_X6_stepOf nst_m5_113 mX5_addHouse_stX6_stepOf mX5_addHouse_ini6 hyX6_stepOf rfl (by decide) (by decide) rfl rfl (Nat.le_of_ble_eq_true rfl) ?_
      refine z_virtIe C 25 (As := [.int (rX6_stepOf a2)]) (st := []) (id := b + 27 + 2 * a1.toNatClampNeg) (kX4_houseOn l D cy K n ad hJ (b + 27 + 2 * a1.toNatClampNeg) (hO.str hkc2_2) t (rX6_stepOf a2) ) dX5_addHouse_25 rfl gX5_addHouse_X4_houseOn hyX4_houseOn rfl (by decide) (by decide) (Nat.lt_of_succ_lt (hO.str hkc2_2).1) rfl (hO.str hkc2_2).2.1 rfl rfl rfl (Nat.le_of_ble_eq_true rfl) ?_
      refine z_iconst C 28 (v := (-1)) dX5_addHouse_28 (by decide +kernel) ?_
      refine z_icmp_eq C 29 35 dX5_addHouse_29 (by decide) (fun c29_7 => ?_) (fun c29_7 => ?_)
      · refine z_aload_n C 35 0 1 dX5_addHouse_35 rfl rfl ?_
        refine z_geti C 36 (b) 4 dX5_addHouse_36 hO.h0 hO.e0 mX5_addHouse_in5 rfl (by decide) mX5_addHouse_f55 (fun _ => rfl) ?_
        refine z_bipush C 39 (v := 24) dX5_addHouse_39 (by decide +kernel) ?_
        refine z_icmp_lt C 41 47 dX5_addHouse_41 (by decide) (fun c41_8 => ?_) (fun c41_8 => ?_)
        · refine z_aload_n C 47 0 1 dX5_addHouse_47 rfl rfl ?_
          refine z_getr C 48 (a9 := ad (b + 1)) (b) 0 dX5_addHouse_48 hO.h0 hO.e0 mX5_addHouse_in5 rfl (by decide) mX5_addHouse_f11 (fun _ => rfl) ?_
          refine z_aload_n C 51 0 1 dX5_addHouse_51 rfl rfl ?_
          refine z_geti C 52 (b) 4 dX5_addHouse_52 hO.h0 hO.e0 mX5_addHouse_in5 rfl (by decide) mX5_addHouse_f55 (fun _ => rfl) ?_
          refine z_aald C 55 (b + 1) 1 H (ad (b + 2 + H)) dX5_addHouse_55 hO.h1 hO.e1 rfl hc (zlt (b := 24) (by omega) (by decide) (hc ▸ ‹t b 4 < 24›)) (by decide) rfl ?_
          refine z_astore C 56 4 ([(4, .ref (ad (b + 2 + H))), (3, .ref (ad (b + 27 + 2 * a1.toNatClampNeg))), (0, .ref (ad (b))), (1, .int a1), (2, .int a2)]) dX5_addHouse_56 (by decide) rfl ?_
          refine z_aload C 58 4 0 dX5_addHouse_58 rfl ?_
          refine z_iload_n C 60 1 3 dX5_addHouse_60 rfl rfl ?_
          refine z_putN C 61 (ty := .int) (b + 2 + H) 0 dX5_addHouse_61 (hO.hou (zlt (b := 24) (by omega) (by decide) (hc ▸ ‹t b 4 < 24›))).1 (hO.hou (zlt (b := 24) (by omega) (by decide) (hc ▸ ‹t b 4 < 24›))).2 mX5_addHouse_in1 tyX1 tyX1_ok nmX1 rfl (by decide) nst_f5_120 rfl (by decide +kernel) (vp_nar_int _) (zfit_i _) (fun _ => Nat.le_of_ble_eq_true rfl) (fun _ _ => rfl) ?_
          refine z_aload C 64 4 0 dX5_addHouse_64 rfl ?_
          refine z_iload_n C 66 2 4 dX5_addHouse_66 rfl rfl ?_
          refine z_putN C 67 (ty := .int) (b + 2 + H) 1 dX5_addHouse_67 (hO.hou (zlt (b := 24) (by omega) (by decide) (hc ▸ ‹t b 4 < 24›))).1 (hO.hou (zlt (b := 24) (by omega) (by decide) (hc ▸ ‹t b 4 < 24›))).2 mX5_addHouse_in1 tyX1 tyX1_ok nmX1 rfl (by decide) nst_f5_123 rfl (by decide +kernel) (vp_nar_int _) (zfit_i _) (fun _ => Nat.le_of_ble_eq_true rfl) (fun _ _ => rfl) ?_
          refine z_aload_n C 70 3 1 dX5_addHouse_70 rfl rfl ?_
          refine z_iload_n C 71 2 4 dX5_addHouse_71 rfl rfl ?_
          refine z_statNIe C 72 (As := [.int a2]) (st := [.ref (ad (b + 27 + 2 * a1.toNatClampNeg))]) (kX6_stepOf l D cy K n ad hJ (zset (zset t (b + 2 + H) 0 a1) (b + 2 + H) 1 a2) a2 ) dX5_addHouse_72 rfl ggX5_addHouse_X6_stepOf nst_m5_113 mX5_addHouse_stX6_stepOf mX5_addHouse_ini6 hyX6_stepOf rfl (by decide) (by decide) rfl rfl (Nat.le_of_ble_eq_true rfl) ?_
          refine z_aload_n C 75 0 2 dX5_addHouse_75 rfl rfl ?_
          refine z_geti C 76 (b) 4 dX5_addHouse_76 hO.h0 hO.e0 mX5_addHouse_in5 rfl (by decide) mX5_addHouse_f55 (fun _ => rfl) ?_
          refine z_nv (t (b) 4) ((zset_idk _ _ _ _ (by omega)).trans ((zset_idk _ _ _ _ (by omega)).trans rfl)) ?_
          refine z_virtVe C 79 (As := [.int (rX6_stepOf a2), .int (t (b) 4)]) (st := []) (id := b + 27 + 2 * a1.toNatClampNeg) (kX4_putHouse l D cy K n ad hJ (b + 27 + 2 * a1.toNatClampNeg) (hO.str hkc2_2) (zset (zset t (b + 2 + H) 0 a1) (b + 2 + H) 1 a2) (rX6_stepOf a2) (t (b) 4) ) dX5_addHouse_79 rfl gX5_addHouse_X4_putHouse hyX4_putHouse rfl (by decide) (by decide) (Nat.lt_of_succ_lt (hO.str hkc2_2).1) rfl (hO.str hkc2_2).2.1 rfl rfl rfl (Nat.le_of_ble_eq_true rfl) ?_
          refine z_aload_n C 82 0 2 dX5_addHouse_82 rfl rfl ?_
          refine z_dup C 83 dX5_addHouse_83 rfl ?_
          refine z_geti C 84 (b) 4 dX5_addHouse_84 hO.h0 hO.e0 mX5_addHouse_in5 rfl (by decide) mX5_addHouse_f55 (fun _ => rfl) ?_
          refine z_nv (t (b) 4) ((congrFun (sX4_putHouse_o _ _ _ _ (by omega)) 4).trans ((zset_idk _ _ _ _ (by omega)).trans ((zset_idk _ _ _ _ (by omega)).trans rfl))) ?_
          refine z_iconst C 87 (v := 1) dX5_addHouse_87 (by decide +kernel) ?_
          refine z_iadd C 88 dX5_addHouse_88 ?_
          refine z_put C 89 (ty := .int) (b) 4 dX5_addHouse_89 hO.h0 hO.e0 mX5_addHouse_in5 tyX5 tyX5_ok nmX5 rfl (by decide) mX5_addHouse_f55 rfl (by decide +kernel) (vp_nar_int _) (zfit_i _) (fun _ => Nat.le_of_ble_eq_true rfl) (fun _ _ => rfl) ?_
          refine z_aload_n C 92 0 2 dX5_addHouse_92 rfl rfl ?_
          refine z_geti C 93 (b) 4 dX5_addHouse_93 hO.h0 hO.e0 mX5_addHouse_in5 rfl (by decide) mX5_addHouse_f55 (fun _ => rfl) ?_
          refine z_nv ((t (b) 4) + 1) (zset_eq _ _ _ _) ?_
          refine z_iconst C 96 (v := 1) dX5_addHouse_96 (by decide +kernel) ?_
          refine z_isub C 97 dX5_addHouse_97 ?_
          exact z_iret C 98 hA hQ rfl dX5_addHouse_98 ⟨((if_pos c2_2).trans ((if_neg c14_4).trans ((if_pos c29_7).trans ((if_pos c41_8).trans rfl)))).symm, ((if_pos c2_2).trans ((if_neg c14_4).trans ((if_pos c29_7).trans ((if_pos c41_8).trans rfl)))).symm⟩
        · refine z_ldc C 44 (v := (-1000003)) dX5_addHouse_44 mX5_addHouse_c101 ?_
          exact z_iret C 46 hA hQ rfl dX5_addHouse_46 ⟨((if_pos c2_2).trans ((if_neg c14_4).trans ((if_pos c29_7).trans ((if_neg c41_8).trans rfl)))).symm, ((if_pos c2_2).trans ((if_neg c14_4).trans ((if_pos c29_7).trans ((if_neg c41_8).trans rfl)))).symm⟩
      · refine z_ldc C 32 (v := (-1000002)) dX5_addHouse_32 mX5_addHouse_c119 ?_
        exact z_iret C 34 hA hQ rfl dX5_addHouse_34 ⟨((if_pos c2_2).trans ((if_neg c14_4).trans ((if_neg c29_7).trans rfl))).symm, ((if_pos c2_2).trans ((if_neg c14_4).trans ((if_neg c29_7).trans rfl))).symm⟩
    · refine z_ldc C 17 (v := (-1000001)) dX5_addHouse_17 mX5_addHouse_c100 ?_
      exact z_iret C 19 hA hQ rfl dX5_addHouse_19 ⟨((if_pos c2_2).trans ((if_pos c14_4).trans rfl)).symm, ((if_pos c2_2).trans ((if_pos c14_4).trans rfl)).symm⟩
  · refine z_cast (st2 := [.null]) (by rw [if_neg c2_2]; rfl) ?_
    refine z_astore_nN C 5 3 ([(3, .null), (0, .ref (ad (b))), (1, .int a1), (2, .int a2)]) dX5_addHouse_5 rfl (by decide) rfl ?_
    refine z_aload_nN C 6 3 0 dX5_addHouse_6 rfl rfl ?_
    refine z_ifnullN C 7 17 dX5_addHouse_7 (by decide) ?_
    refine z_ldc C 17 (v := (-1000001)) dX5_addHouse_17 mX5_addHouse_c100 ?_
    exact z_iret C 19 hA hQ rfl dX5_addHouse_19 ⟨((if_neg c2_2).trans rfl).symm, ((if_neg c2_2).trans rfl).symm⟩
def rX5_putFlow (b : Nat) (t : zM) (a1 : Int32) (a2 : Int32) : Int32 := (if zin (t (b) 4) a1 then (if a2 < 0 then (-1000001) else (if a2 ≤ 999 then (t (b + 2 + a1.toNatClampNeg) 4) else (-1000001))) else (-1000001))
def sX5_putFlow (b : Nat) (t : zM) (a1 : Int32) (a2 : Int32) : zM := (if zin (t (b) 4) a1 then (if a2 < 0 then t else (if a2 ≤ 999 then (zset t (b + 2 + a1.toNatClampNeg) 4 a2) else t)) else t)
theorem mX5_putFlow_c100 : Cond.constant RX5 100 (-1000001) ∈ wsX5_putFlow := by decide +kernel
set_option maxRecDepth 20000 in
theorem mX5_putFlow_in1 : ∀ w ∈ u_ws RX1 TX1 14, w ∈ wsX5_putFlow := by decide +kernel
theorem hyX5_putFlow : yX5_putFlow.cls = RX5 ∧ yX5_putFlow.cls ≠ "java/lang/invoke/MethodHandle" ∧ yX5_putFlow.cls ≠ "java/lang/invoke/VarHandle" ∧ (parseMethodDescriptor yX5_putFlow.desc).map (fun d => d.parameters.length) = some 2 := by decide +kernel
set_option maxHeartbeats 3000000 in
set_option maxRecDepth 100000 in
theorem kX5_putFlow (l : Launch) (D : va_G) (cy : Nat → ClassId) (K : zK) (n : Nat) (ad : Nat → Nat) (hJ : zJ n ad) (b : Nat) (hO : zTown cy K n ad b) (t : zM) (a1 : Int32) (a2 : Int32)  : zI l yX5_putFlow wsX5_putFlow 1 D cy K n ad t [.ref (ad (b)), .int a1, .int a2] (fun r t1 => r = rX5_putFlow b t a1 a2 ∧ t1 = sX5_putFlow b t a1 a2) := by
  refine z_startI (cc := cX5_putFlow) (mL := 5) (ret := (some .int)) (own := RX5) rfl (by decide +kernel) rfl hJ (Nat.le_of_ble_eq_true rfl) ?_
  intro p e s m args below meth c A hA Q hQ C
  refine z_aload_n C 0 0 0 dX5_putFlow_0 rfl rfl ?_
  refine z_iload_n C 1 1 1 dX5_putFlow_1 rfl rfl ?_
  refine z_virtQ C 2 (As := [.int a1]) (st := []) (id := b) (kX5_houseNumbered l D cy K n ad hJ (b) hO t a1 ) dX5_putFlow_2 rfl gX5_putFlow_X5_houseNumbered hyX5_houseNumbered rfl (by decide) (by decide) hO.h0 rfl hO.e0 rfl rfl rfl (Nat.le_of_ble_eq_true rfl) (fun r2_1 t2_1 h2_1 => ?_)
  obtain ⟨e9, e8⟩ := h2_1; replace e9 := e9.symm; replace e8 := e8.symm; subst e9; subst e8
  by_cases c2_2 : zin (t (b) 4) a1
  · have hkc2_2 := zin_lt c2_2
    refine z_cast (st2 := [.ref (ad (b + 2 + a1.toNatClampNeg))]) (by rw [if_pos c2_2]; rfl) ?_
    refine z_astore_n C 5 3 ([(3, .ref (ad (b + 2 + a1.toNatClampNeg))), (0, .ref (ad (b))), (1, .int a1), (2, .int a2)]) dX5_putFlow_5 rfl (by decide) rfl ?_
    refine z_aload_n C 6 3 0 dX5_putFlow_6 rfl rfl ?_
    refine z_ifnull C 7 dX5_putFlow_7 ?_
    refine z_iload_n C 10 2 3 dX5_putFlow_10 rfl rfl ?_
    refine z_if_lt C 11 21 dX5_putFlow_11 (by decide) (fun c11_3 => ?_) (fun c11_3 => ?_)
    · refine z_ldc C 21 (v := (-1000001)) dX5_putFlow_21 mX5_putFlow_c100 ?_
      exact z_iret C 23 hA hQ rfl dX5_putFlow_23 ⟨((if_pos c2_2).trans ((if_pos c11_3).trans rfl)).symm, ((if_pos c2_2).trans ((if_pos c11_3).trans rfl)).symm⟩
    · refine z_iload_n C 14 2 3 dX5_putFlow_14 rfl rfl ?_
      refine z_sipush C 15 (v := 999) dX5_putFlow_15 (by decide +kernel) ?_
      refine z_icmp_le C 18 24 dX5_putFlow_18 (by decide) (fun c18_4 => ?_) (fun c18_4 => ?_)
      · refine z_aload_n C 24 3 0 dX5_putFlow_24 rfl rfl ?_
        refine z_getiN C 25 (b + 2 + a1.toNatClampNeg) 4 dX5_putFlow_25 (hO.hou hkc2_2).1 (hO.hou hkc2_2).2 mX5_putFlow_in1 rfl (by decide) nst_f5_134 (fun _ => rfl) ?_
        refine z_istore C 28 4 ([(4, .int (t (b + 2 + a1.toNatClampNeg) 4)), (3, .ref (ad (b + 2 + a1.toNatClampNeg))), (0, .ref (ad (b))), (1, .int a1), (2, .int a2)]) dX5_putFlow_28 (by decide) rfl ?_
        refine z_aload_n C 30 3 1 dX5_putFlow_30 rfl rfl ?_
        refine z_iload_n C 31 2 4 dX5_putFlow_31 rfl rfl ?_
        refine z_putN C 32 (ty := .int) (b + 2 + a1.toNatClampNeg) 4 dX5_putFlow_32 (hO.hou hkc2_2).1 (hO.hou hkc2_2).2 mX5_putFlow_in1 tyX1 tyX1_ok nmX1 rfl (by decide) nst_f5_134 rfl (by decide +kernel) (vp_nar_int _) (zfit_i _) (fun _ => Nat.le_of_ble_eq_true rfl) (fun _ _ => rfl) ?_
        refine z_iload C 35 4 0 dX5_putFlow_35 rfl ?_
        exact z_iret C 37 hA hQ rfl dX5_putFlow_37 ⟨((if_pos c2_2).trans ((if_neg c11_3).trans ((if_pos c18_4).trans rfl))).symm, ((if_pos c2_2).trans ((if_neg c11_3).trans ((if_pos c18_4).trans rfl))).symm⟩
      · refine z_ldc C 21 (v := (-1000001)) dX5_putFlow_21 mX5_putFlow_c100 ?_
        exact z_iret C 23 hA hQ rfl dX5_putFlow_23 ⟨((if_pos c2_2).trans ((if_neg c11_3).trans ((if_neg c18_4).trans rfl))).symm, ((if_pos c2_2).trans ((if_neg c11_3).trans ((if_neg c18_4).trans rfl))).symm⟩
  · refine z_cast (st2 := [.null]) (by rw [if_neg c2_2]; rfl) ?_
    refine z_astore_nN C 5 3 ([(3, .null), (0, .ref (ad (b))), (1, .int a1), (2, .int a2)]) dX5_putFlow_5 rfl (by decide) rfl ?_
    refine z_aload_nN C 6 3 0 dX5_putFlow_6 rfl rfl ?_
    refine z_ifnullN C 7 21 dX5_putFlow_7 (by decide) ?_
    refine z_ldc C 21 (v := (-1000001)) dX5_putFlow_21 mX5_putFlow_c100 ?_
    exact z_iret C 23 hA hQ rfl dX5_putFlow_23 ⟨((if_neg c2_2).trans rfl).symm, ((if_neg c2_2).trans rfl).symm⟩
def rX5_putLock (b : Nat) (t : zM) (a1 : Int32) (a2 : Int32) : Int32 := (if zin (t (b) 4) a1 then (if (t (b + 2 + a1.toNatClampNeg) 5) = 0 then 0 else 1) else (-1000001))
def sX5_putLock (b : Nat) (t : zM) (a1 : Int32) (a2 : Int32) : zM := (if zin (t (b) 4) a1 then (if (t (b + 2 + a1.toNatClampNeg) 5) = 0 then (zset t (b + 2 + a1.toNatClampNeg) 5 a2) else (zset t (b + 2 + a1.toNatClampNeg) 5 a2)) else t)
set_option maxRecDepth 20000 in
theorem mX5_putLock_in1 : ∀ w ∈ u_ws RX1 TX1 14, w ∈ wsX5_putLock := by decide +kernel
theorem mX5_putLock_c100 : Cond.constant RX5 100 (-1000001) ∈ wsX5_putLock := by decide +kernel
theorem hyX5_putLock : yX5_putLock.cls = RX5 ∧ yX5_putLock.cls ≠ "java/lang/invoke/MethodHandle" ∧ yX5_putLock.cls ≠ "java/lang/invoke/VarHandle" ∧ (parseMethodDescriptor yX5_putLock.desc).map (fun d => d.parameters.length) = some 2 := by decide +kernel
set_option maxHeartbeats 3000000 in
set_option maxRecDepth 100000 in
theorem kX5_putLock (l : Launch) (D : va_G) (cy : Nat → ClassId) (K : zK) (n : Nat) (ad : Nat → Nat) (hJ : zJ n ad) (b : Nat) (hO : zTown cy K n ad b) (t : zM) (a1 : Int32) (a2 : Int32) (hb2 : a2 = 0 ∨ a2 = 1) : zI l yX5_putLock wsX5_putLock 1 D cy K n ad t [.ref (ad (b)), .int a1, .int a2] (fun r t1 => r = rX5_putLock b t a1 a2 ∧ t1 = sX5_putLock b t a1 a2) := by
  refine z_startI (cc := cX5_putLock) (mL := 5) (ret := (some .int)) (own := RX5) rfl (by decide +kernel) rfl hJ (Nat.le_of_ble_eq_true rfl) ?_
  intro p e s m args below meth c A hA Q hQ C
  refine z_aload_n C 0 0 0 dX5_putLock_0 rfl rfl ?_
  refine z_iload_n C 1 1 1 dX5_putLock_1 rfl rfl ?_
  refine z_virtQ C 2 (As := [.int a1]) (st := []) (id := b) (kX5_houseNumbered l D cy K n ad hJ (b) hO t a1 ) dX5_putLock_2 rfl gX5_putLock_X5_houseNumbered hyX5_houseNumbered rfl (by decide) (by decide) hO.h0 rfl hO.e0 rfl rfl rfl (Nat.le_of_ble_eq_true rfl) (fun r2_1 t2_1 h2_1 => ?_)
  obtain ⟨e9, e8⟩ := h2_1; replace e9 := e9.symm; replace e8 := e8.symm; subst e9; subst e8
  by_cases c2_2 : zin (t (b) 4) a1
  · have hkc2_2 := zin_lt c2_2
    refine z_cast (st2 := [.ref (ad (b + 2 + a1.toNatClampNeg))]) (by rw [if_pos c2_2]; rfl) ?_
    refine z_astore_n C 5 3 ([(3, .ref (ad (b + 2 + a1.toNatClampNeg))), (0, .ref (ad (b))), (1, .int a1), (2, .int a2)]) dX5_putLock_5 rfl (by decide) rfl ?_
    refine z_aload_n C 6 3 0 dX5_putLock_6 rfl rfl ?_
    refine z_ifnonnull C 7 13 dX5_putLock_7 (by decide) ?_
    refine z_aload_n C 13 3 0 dX5_putLock_13 rfl rfl ?_
    refine z_getiN C 14 (b + 2 + a1.toNatClampNeg) 5 dX5_putLock_14 (hO.hou hkc2_2).1 (hO.hou hkc2_2).2 mX5_putLock_in1 rfl (by decide) nst_f5_137 (fun _ => rfl) ?_
    refine z_if_eq C 17 24 dX5_putLock_17 (by decide) (fun c17_3 => ?_) (fun c17_3 => ?_)
    · refine z_iconst C 24 (v := 0) dX5_putLock_24 (by decide +kernel) ?_
      refine z_istore C 25 4 ([(4, .int 0), (3, .ref (ad (b + 2 + a1.toNatClampNeg))), (0, .ref (ad (b))), (1, .int a1), (2, .int a2)]) dX5_putLock_25 (by decide) rfl ?_
      refine z_aload_n C 27 3 1 dX5_putLock_27 rfl rfl ?_
      refine z_iload_n C 28 2 4 dX5_putLock_28 rfl rfl ?_
      refine z_putN C 29 (ty := .boolean) (b + 2 + a1.toNatClampNeg) 5 dX5_putLock_29 (hO.hou hkc2_2).1 (hO.hou hkc2_2).2 mX5_putLock_in1 tyX1 tyX1_ok nmX1 rfl (by decide) nst_f5_137 rfl (by decide +kernel) (znar_b hb2) (zfit_b hb2) (fun _ => Nat.le_of_ble_eq_true rfl) (fun _ _ => rfl) ?_
      refine z_iload C 32 4 0 dX5_putLock_32 rfl ?_
      exact z_iret C 34 hA hQ rfl dX5_putLock_34 ⟨((if_pos c2_2).trans ((if_pos c17_3).trans rfl)).symm, ((if_pos c2_2).trans ((if_pos c17_3).trans rfl)).symm⟩
    · refine z_iconst C 20 (v := 1) dX5_putLock_20 (by decide +kernel) ?_
      refine z_goto C 21 25 dX5_putLock_21 (by decide) ?_
      refine z_istore C 25 4 ([(4, .int 1), (3, .ref (ad (b + 2 + a1.toNatClampNeg))), (0, .ref (ad (b))), (1, .int a1), (2, .int a2)]) dX5_putLock_25 (by decide) rfl ?_
      refine z_aload_n C 27 3 1 dX5_putLock_27 rfl rfl ?_
      refine z_iload_n C 28 2 4 dX5_putLock_28 rfl rfl ?_
      refine z_putN C 29 (ty := .boolean) (b + 2 + a1.toNatClampNeg) 5 dX5_putLock_29 (hO.hou hkc2_2).1 (hO.hou hkc2_2).2 mX5_putLock_in1 tyX1 tyX1_ok nmX1 rfl (by decide) nst_f5_137 rfl (by decide +kernel) (znar_b hb2) (zfit_b hb2) (fun _ => Nat.le_of_ble_eq_true rfl) (fun _ _ => rfl) ?_
      refine z_iload C 32 4 0 dX5_putLock_32 rfl ?_
      exact z_iret C 34 hA hQ rfl dX5_putLock_34 ⟨((if_pos c2_2).trans ((if_neg c17_3).trans rfl)).symm, ((if_pos c2_2).trans ((if_neg c17_3).trans rfl)).symm⟩
  · refine z_cast (st2 := [.null]) (by rw [if_neg c2_2]; rfl) ?_
    refine z_astore_nN C 5 3 ([(3, .null), (0, .ref (ad (b))), (1, .int a1), (2, .int a2)]) dX5_putLock_5 rfl (by decide) rfl ?_
    refine z_aload_nN C 6 3 0 dX5_putLock_6 rfl rfl ?_
    refine z_ifnonnullN C 7 dX5_putLock_7 ?_
    refine z_ldc C 10 (v := (-1000001)) dX5_putLock_10 mX5_putLock_c100 ?_
    exact z_iret C 12 hA hQ rfl dX5_putLock_12 ⟨((if_neg c2_2).trans rfl).symm, ((if_neg c2_2).trans rfl).symm⟩
def rX5_turnLock (b : Nat) (t : zM) (a1 : Int32) : Int32 := (if zin (t (b) 4) a1 then (if (t (b + 2 + a1.toNatClampNeg) 5) = 0 then (rX5_putLock (b) t a1 1) else (rX5_putLock (b) t a1 0)) else (-1000001))
def sX5_turnLock (b : Nat) (t : zM) (a1 : Int32) : zM := (if zin (t (b) 4) a1 then (if (t (b + 2 + a1.toNatClampNeg) 5) = 0 then (sX5_putLock (b) t a1 1) else (sX5_putLock (b) t a1 0)) else t)
set_option maxRecDepth 20000 in
theorem mX5_turnLock_in1 : ∀ w ∈ u_ws RX1 TX1 14, w ∈ wsX5_turnLock := by decide +kernel
theorem mX5_turnLock_c100 : Cond.constant RX5 100 (-1000001) ∈ wsX5_turnLock := by decide +kernel
theorem hyX5_turnLock : yX5_turnLock.cls = RX5 ∧ yX5_turnLock.cls ≠ "java/lang/invoke/MethodHandle" ∧ yX5_turnLock.cls ≠ "java/lang/invoke/VarHandle" ∧ (parseMethodDescriptor yX5_turnLock.desc).map (fun d => d.parameters.length) = some 1 := by decide +kernel
set_option maxHeartbeats 3000000 in
set_option maxRecDepth 100000 in
theorem kX5_turnLock (l : Launch) (D : va_G) (cy : Nat → ClassId) (K : zK) (n : Nat) (ad : Nat → Nat) (hJ : zJ n ad) (b : Nat) (hO : zTown cy K n ad b) (t : zM) (a1 : Int32)  : zI l yX5_turnLock wsX5_turnLock 2 D cy K n ad t [.ref (ad (b)), .int a1] (fun r t1 => r = rX5_turnLock b t a1 ∧ t1 = sX5_turnLock b t a1) := by
  refine z_startI (cc := cX5_turnLock) (mL := 3) (ret := (some .int)) (own := RX5) rfl (by decide +kernel) rfl hJ (Nat.le_of_ble_eq_true rfl) ?_
  intro p e s m args below meth c A hA Q hQ C
  refine z_aload_n C 0 0 0 dX5_turnLock_0 rfl rfl ?_
  refine z_iload_n C 1 1 1 dX5_turnLock_1 rfl rfl ?_
  refine z_virtQ C 2 (As := [.int a1]) (st := []) (id := b) (kX5_houseNumbered l D cy K n ad hJ (b) hO t a1 ) dX5_turnLock_2 rfl gX5_turnLock_X5_houseNumbered hyX5_houseNumbered rfl (by decide) (by decide) hO.h0 rfl hO.e0 rfl rfl rfl (Nat.le_of_ble_eq_true rfl) (fun r2_1 t2_1 h2_1 => ?_)
  obtain ⟨e9, e8⟩ := h2_1; replace e9 := e9.symm; replace e8 := e8.symm; subst e9; subst e8
  by_cases c2_2 : zin (t (b) 4) a1
  · have hkc2_2 := zin_lt c2_2
    refine z_cast (st2 := [.ref (ad (b + 2 + a1.toNatClampNeg))]) (by rw [if_pos c2_2]; rfl) ?_
    refine z_astore_n C 5 2 ([(2, .ref (ad (b + 2 + a1.toNatClampNeg))), (0, .ref (ad (b))), (1, .int a1)]) dX5_turnLock_5 rfl (by decide) rfl ?_
    refine z_aload_n C 6 2 0 dX5_turnLock_6 rfl rfl ?_
    refine z_ifnonnull C 7 15 dX5_turnLock_7 (by decide) ?_
    refine z_aload_n C 15 0 1 dX5_turnLock_15 rfl rfl ?_
    refine z_iload_n C 16 1 2 dX5_turnLock_16 rfl rfl ?_
    refine z_aload_n C 17 2 0 dX5_turnLock_17 rfl rfl ?_
    refine z_getiN C 18 (b + 2 + a1.toNatClampNeg) 5 dX5_turnLock_18 (hO.hou hkc2_2).1 (hO.hou hkc2_2).2 mX5_turnLock_in1 rfl (by decide) nst_f5_137 (fun _ => rfl) ?_
    refine z_if_ne C 21 28 dX5_turnLock_21 (by decide) (fun c21_3 => ?_) (fun c21_3 => ?_)
    · refine z_iconst C 28 (v := 0) dX5_turnLock_28 (by decide +kernel) ?_
      refine z_virtIe C 29 (As := [.int a1, .int 0]) (st := []) (id := b) (kX5_putLock l D cy K n ad hJ (b) hO t a1 0 (Or.inl rfl)) dX5_turnLock_29 rfl gX5_turnLock_X5_putLock hyX5_putLock rfl (by decide) (by decide) hO.h0 rfl hO.e0 rfl rfl rfl (Nat.le_of_ble_eq_true rfl) ?_
      exact z_iret C 32 hA hQ rfl dX5_turnLock_32 ⟨((if_pos c2_2).trans ((if_neg c21_3).trans rfl)).symm, ((if_pos c2_2).trans ((if_neg c21_3).trans rfl)).symm⟩
    · refine z_iconst C 24 (v := 1) dX5_turnLock_24 (by decide +kernel) ?_
      refine z_goto C 25 29 dX5_turnLock_25 (by decide) ?_
      refine z_virtIe C 29 (As := [.int a1, .int 1]) (st := []) (id := b) (kX5_putLock l D cy K n ad hJ (b) hO t a1 1 (Or.inr rfl)) dX5_turnLock_29 rfl gX5_turnLock_X5_putLock hyX5_putLock rfl (by decide) (by decide) hO.h0 rfl hO.e0 rfl rfl rfl (Nat.le_of_ble_eq_true rfl) ?_
      exact z_iret C 32 hA hQ rfl dX5_turnLock_32 ⟨((if_pos c2_2).trans ((if_pos c21_3).trans rfl)).symm, ((if_pos c2_2).trans ((if_pos c21_3).trans rfl)).symm⟩
  · refine z_cast (st2 := [.null]) (by rw [if_neg c2_2]; rfl) ?_
    refine z_astore_nN C 5 2 ([(2, .null), (0, .ref (ad (b))), (1, .int a1)]) dX5_turnLock_5 rfl (by decide) rfl ?_
    refine z_aload_nN C 6 2 0 dX5_turnLock_6 rfl rfl ?_
    refine z_ifnonnullN C 7 dX5_turnLock_7 ?_
    refine z_ldc C 10 (v := (-1000001)) dX5_turnLock_10 mX5_turnLock_c100 ?_
    refine z_goto C 12 32 dX5_turnLock_12 (by decide) ?_
    exact z_iret C 32 hA hQ rfl dX5_turnLock_32 ⟨((if_neg c2_2).trans rfl).symm, ((if_neg c2_2).trans rfl).symm⟩
def rX5_readMeter (b : Nat) (t : zM) (k : Nat) (a2 : Int32) : Int32 := (rX6_unitsFor (rX1_used (b + 2 + k) t) (t (b + 2 + k) 6))
def sX5_readMeter (b : Nat) (t : zM) (k : Nat) (a2 : Int32) : zM := (zset (zset (zset (zset (sX2_add (b + 35) (sX1_settle (b + 2 + k) t (t (b) 5) (rX1_used (b + 2 + k) t) (rX6_unitsFor (rX1_used (b + 2 + k) t) (t (b + 2 + k) 6))) ((t (b + 35) 1).toNatClampNeg) (t (b) 5) a2 (rX1_used (b + 2 + k) t) (rX6_unitsFor (rX1_used (b + 2 + k) t) (t (b + 2 + k) 6)) ((sX1_settle (b + 2 + k) t (t (b) 5) (rX1_used (b + 2 + k) t) (rX6_unitsFor (rX1_used (b + 2 + k) t) (t (b + 2 + k) 6))) (b + 2 + k) 6)) (b) 6 ((t (b) 6) + 1)) (b) 7 ((t (b) 7) + (rX6_unitsFor (rX1_used (b + 2 + k) t) (t (b + 2 + k) 6)))) (b) 8 ((t (b) 8) + ((rX6_unitsFor (rX1_used (b + 2 + k) t) (t (b + 2 + k) 6)) * (t (b + 37) 1)))) (b) 9 ((t (b) 9) + (rX1_used (b + 2 + k) t)))
set_option maxRecDepth 20000 in
theorem mX5_readMeter_in1 : ∀ w ∈ u_ws RX1 TX1 14, w ∈ wsX5_readMeter := by decide +kernel
theorem mX5_readMeter_stX6_unitsFor : Cond.static yX6_unitsFor ∈ wsX5_readMeter := by decide +kernel
set_option maxRecDepth 20000 in
theorem mX5_readMeter_ini6 : Cond.initialized RX6 ∈ wsX5_readMeter := by decide +kernel
theorem mX5_readMeter_f59 : Cond.fieldLink RX5 59 "WrongedMeters$Town" "now" "I" ∈ wsX5_readMeter := by decide +kernel
set_option maxRecDepth 20000 in
theorem mX5_readMeter_in5 : ∀ w ∈ u_ws RX5 TX5 13, w ∈ wsX5_readMeter := by decide +kernel
theorem mX5_readMeter_f26 : Cond.fieldLink RX5 26 "WrongedMeters$Town" "ledger" "LWrongedMeters$Ledger;" ∈ wsX5_readMeter := by decide +kernel
theorem mX5_readMeter_f62 : Cond.fieldLink RX5 62 "WrongedMeters$Town" "readings" "I" ∈ wsX5_readMeter := by decide +kernel
theorem mX5_readMeter_f65 : Cond.fieldLink RX5 65 "WrongedMeters$Town" "units" "I" ∈ wsX5_readMeter := by decide +kernel
theorem mX5_readMeter_f68 : Cond.fieldLink RX5 68 "WrongedMeters$Town" "coins" "I" ∈ wsX5_readMeter := by decide +kernel
theorem mX5_readMeter_f30 : Cond.fieldLink RX5 30 "WrongedMeters$Town" "settings" "[I" ∈ wsX5_readMeter := by decide +kernel
theorem mX5_readMeter_f71 : Cond.fieldLink RX5 71 "WrongedMeters$Town" "hundredths" "I" ∈ wsX5_readMeter := by decide +kernel
theorem hyX5_readMeter : yX5_readMeter.cls = RX5 ∧ yX5_readMeter.cls ≠ "java/lang/invoke/MethodHandle" ∧ yX5_readMeter.cls ≠ "java/lang/invoke/VarHandle" ∧ (parseMethodDescriptor yX5_readMeter.desc).map (fun d => d.parameters.length) = some 2 := by decide +kernel
set_option maxHeartbeats 3000000 in
set_option maxRecDepth 100000 in
theorem kX5_readMeter (l : Launch) (D : va_G) (cy : Nat → ClassId) (K : zK) (n : Nat) (ad : Nat → Nat) (hJ : zJ n ad) (b : Nat) (hO : zTown cy K n ad b) (t : zM) (k : Nat) (a2 : Int32) (hk : k < 24) (hr : zRow (t (b + 35) 1)) : zI l yX5_readMeter wsX5_readMeter 1 D cy K n ad t [.ref (ad (b)), .ref (ad (b + 2 + k)), .int a2] (fun r t1 => r = rX5_readMeter b t k a2 ∧ t1 = sX5_readMeter b t k a2) := by
  refine z_startI (cc := cX5_readMeter) (mL := 5) (ret := (some .int)) (own := RX5) rfl (by decide +kernel) rfl hJ (Nat.le_of_ble_eq_true rfl) ?_
  intro p e s m args below meth c A hA Q hQ C
  refine z_aload_n C 0 1 1 dX5_readMeter_0 rfl rfl ?_
  refine z_virtIe C 1 (As := []) (st := []) (id := b + 2 + k) (kX1_used l D cy K n ad hJ (b + 2 + k) (hO.hou hk) t  ) dX5_readMeter_1 rfl gX5_readMeter_X1_used hyX1_used rfl (by decide) (by decide) (hO.hou hk).1 rfl (hO.hou hk).2 rfl rfl rfl (Nat.le_of_ble_eq_true rfl) ?_
  refine z_istore_n C 4 3 ([(3, .int (rX1_used (b + 2 + k) t)), (0, .ref (ad (b))), (1, .ref (ad (b + 2 + k))), (2, .int a2)]) dX5_readMeter_4 rfl (by decide) rfl ?_
  refine z_iload_n C 5 3 0 dX5_readMeter_5 rfl rfl ?_
  refine z_aload_n C 6 1 2 dX5_readMeter_6 rfl rfl ?_
  refine z_getiN C 7 (b + 2 + k) 6 dX5_readMeter_7 (hO.hou hk).1 (hO.hou hk).2 mX5_readMeter_in1 rfl (by decide) nst_f5_165 (fun _ => rfl) ?_
  refine z_statNIe C 10 (As := [.int (rX1_used (b + 2 + k) t), .int (t (b + 2 + k) 6)]) (st := []) (kX6_unitsFor l D cy K n ad hJ t (rX1_used (b + 2 + k) t) (t (b + 2 + k) 6) ) dX5_readMeter_10 rfl ggX5_readMeter_X6_unitsFor nst_m5_168 mX5_readMeter_stX6_unitsFor mX5_readMeter_ini6 hyX6_unitsFor rfl (by decide) (by decide) rfl rfl (Nat.le_of_ble_eq_true rfl) ?_
  refine z_istore C 13 4 ([(4, .int (rX6_unitsFor (rX1_used (b + 2 + k) t) (t (b + 2 + k) 6))), (3, .int (rX1_used (b + 2 + k) t)), (0, .ref (ad (b))), (1, .ref (ad (b + 2 + k))), (2, .int a2)]) dX5_readMeter_13 (by decide) rfl ?_
  refine z_aload_n C 15 1 3 dX5_readMeter_15 rfl rfl ?_
  refine z_aload_n C 16 0 2 dX5_readMeter_16 rfl rfl ?_
  refine z_geti C 17 (b) 5 dX5_readMeter_17 hO.h0 hO.e0 mX5_readMeter_in5 rfl (by decide) mX5_readMeter_f59 (fun _ => rfl) ?_
  refine z_iload_n C 20 3 1 dX5_readMeter_20 rfl rfl ?_
  refine z_iload C 21 4 0 dX5_readMeter_21 rfl ?_
  refine z_virtVe C 23 (As := [.int (t (b) 5), .int (rX1_used (b + 2 + k) t), .int (rX6_unitsFor (rX1_used (b + 2 + k) t) (t (b + 2 + k) 6))]) (st := []) (id := b + 2 + k) (kX1_settle l D cy K n ad hJ (b + 2 + k) (hO.hou hk) t (t (b) 5) (rX1_used (b + 2 + k) t) (rX6_unitsFor (rX1_used (b + 2 + k) t) (t (b + 2 + k) 6)) ) dX5_readMeter_23 rfl gX5_readMeter_X1_settle hyX1_settle rfl (by decide) (by decide) (hO.hou hk).1 rfl (hO.hou hk).2 rfl rfl rfl (Nat.le_of_ble_eq_true rfl) ?_
  refine z_aload_n C 26 0 2 dX5_readMeter_26 rfl rfl ?_
  refine z_getr C 27 (a9 := ad (b + 35)) (b) 2 dX5_readMeter_27 hO.h0 hO.e0 mX5_readMeter_in5 rfl (by decide) mX5_readMeter_f26 (fun _ => rfl) ?_
  refine z_aload_n C 30 0 2 dX5_readMeter_30 rfl rfl ?_
  refine z_geti C 31 (b) 5 dX5_readMeter_31 hO.h0 hO.e0 mX5_readMeter_in5 rfl (by decide) mX5_readMeter_f59 (fun _ => rfl) ?_
  refine z_nv (t (b) 5) (congrFun (sX1_settle_o _ _ _ _ _ (by omega)) 5) ?_
  refine z_iload_n C 34 2 4 dX5_readMeter_34 rfl rfl ?_
  refine z_iload_n C 35 3 1 dX5_readMeter_35 rfl rfl ?_
  refine z_iload C 36 4 0 dX5_readMeter_36 rfl ?_
  refine z_aload_n C 38 1 3 dX5_readMeter_38 rfl rfl ?_
  refine z_getiN C 39 (b + 2 + k) 6 dX5_readMeter_39 (hO.hou hk).1 (hO.hou hk).2 mX5_readMeter_in1 rfl (by decide) nst_f5_165 (fun _ => rfl) ?_
  refine z_virtVe C 42 (As := [.int (t (b) 5), .int a2, .int (rX1_used (b + 2 + k) t), .int (rX6_unitsFor (rX1_used (b + 2 + k) t) (t (b + 2 + k) 6)), .int ((sX1_settle (b + 2 + k) t (t (b) 5) (rX1_used (b + 2 + k) t) (rX6_unitsFor (rX1_used (b + 2 + k) t) (t (b + 2 + k) 6))) (b + 2 + k) 6)]) (st := []) (id := b + 35) (kX2_add l D cy K n ad hJ (b + 35) hO.led (sX1_settle (b + 2 + k) t (t (b) 5) (rX1_used (b + 2 + k) t) (rX6_unitsFor (rX1_used (b + 2 + k) t) (t (b + 2 + k) 6))) ((t (b + 35) 1).toNatClampNeg) (t (b) 5) a2 (rX1_used (b + 2 + k) t) (rX6_unitsFor (rX1_used (b + 2 + k) t) (t (b + 2 + k) 6)) ((sX1_settle (b + 2 + k) t (t (b) 5) (rX1_used (b + 2 + k) t) (rX6_unitsFor (rX1_used (b + 2 + k) t) (t (b + 2 + k) 6))) (b + 2 + k) 6) hr.c.1 ((congrFun (sX1_settle_o _ _ _ _ _ (by omega)) 1).trans hr.c.2)) dX5_readMeter_42 rfl gX5_readMeter_X2_add hyX2_add rfl (by decide) (by decide) (Nat.lt_of_succ_lt hO.led.1) rfl hO.led.2.1 rfl rfl rfl (Nat.le_of_ble_eq_true rfl) ?_
  refine z_aload_n C 45 0 2 dX5_readMeter_45 rfl rfl ?_
  refine z_dup C 46 dX5_readMeter_46 rfl ?_
  refine z_geti C 47 (b) 6 dX5_readMeter_47 hO.h0 hO.e0 mX5_readMeter_in5 rfl (by decide) mX5_readMeter_f62 (fun _ => rfl) ?_
  refine z_nv (t (b) 6) ((congrFun (sX2_add_o _ _ _ _ _ _ _ _ (by omega) (by omega)) 6).trans (congrFun (sX1_settle_o _ _ _ _ _ (by omega)) 6)) ?_
  refine z_iconst C 50 (v := 1) dX5_readMeter_50 (by decide +kernel) ?_
  refine z_iadd C 51 dX5_readMeter_51 ?_
  refine z_put C 52 (ty := .int) (b) 6 dX5_readMeter_52 hO.h0 hO.e0 mX5_readMeter_in5 tyX5 tyX5_ok nmX5 rfl (by decide) mX5_readMeter_f62 rfl (by decide +kernel) (vp_nar_int _) (zfit_i _) (fun _ => Nat.le_of_ble_eq_true rfl) (fun _ _ => rfl) ?_
  refine z_aload_n C 55 0 2 dX5_readMeter_55 rfl rfl ?_
  refine z_dup C 56 dX5_readMeter_56 rfl ?_
  refine z_geti C 57 (b) 7 dX5_readMeter_57 hO.h0 hO.e0 mX5_readMeter_in5 rfl (by decide) mX5_readMeter_f65 (fun _ => rfl) ?_
  refine z_nv (t (b) 7) ((zset_nk _ _ _ (by decide)).trans ((congrFun (sX2_add_o _ _ _ _ _ _ _ _ (by omega) (by omega)) 7).trans (congrFun (sX1_settle_o _ _ _ _ _ (by omega)) 7))) ?_
  refine z_iload C 60 4 0 dX5_readMeter_60 rfl ?_
  refine z_iadd C 62 dX5_readMeter_62 ?_
  refine z_put C 63 (ty := .int) (b) 7 dX5_readMeter_63 hO.h0 hO.e0 mX5_readMeter_in5 tyX5 tyX5_ok nmX5 rfl (by decide) mX5_readMeter_f65 rfl (by decide +kernel) (vp_nar_int _) (zfit_i _) (fun _ => Nat.le_of_ble_eq_true rfl) (fun _ _ => rfl) ?_
  refine z_aload_n C 66 0 2 dX5_readMeter_66 rfl rfl ?_
  refine z_dup C 67 dX5_readMeter_67 rfl ?_
  refine z_geti C 68 (b) 8 dX5_readMeter_68 hO.h0 hO.e0 mX5_readMeter_in5 rfl (by decide) mX5_readMeter_f68 (fun _ => rfl) ?_
  refine z_nv (t (b) 8) ((zset_nk _ _ _ (by decide)).trans ((zset_nk _ _ _ (by decide)).trans ((congrFun (sX2_add_o _ _ _ _ _ _ _ _ (by omega) (by omega)) 8).trans (congrFun (sX1_settle_o _ _ _ _ _ (by omega)) 8)))) ?_
  refine z_iload C 71 4 0 dX5_readMeter_71 rfl ?_
  refine z_aload_n C 73 0 2 dX5_readMeter_73 rfl rfl ?_
  refine z_getr C 74 (a9 := ad (b + 37)) (b) 3 dX5_readMeter_74 hO.h0 hO.e0 mX5_readMeter_in5 rfl (by decide) mX5_readMeter_f30 (fun _ => rfl) ?_
  refine z_iconst C 77 (v := 1) dX5_readMeter_77 (by decide +kernel) ?_
  refine z_ialdN C 78 (b + 37) 1 dX5_readMeter_78 hO.h37 hO.e37 rfl (by decide) (by decide) ?_
  refine z_nv (t (b + 37) 1) ((zset_idk _ _ _ _ (by omega)).trans ((zset_idk _ _ _ _ (by omega)).trans ((congrFun (sX2_add_o _ _ _ _ _ _ _ _ (by omega) (by omega)) 1).trans (congrFun (sX1_settle_o _ _ _ _ _ (by omega)) 1)))) ?_
  refine z_imul C 79 dX5_readMeter_79 ?_
  refine z_iadd C 80 dX5_readMeter_80 ?_
  refine z_put C 81 (ty := .int) (b) 8 dX5_readMeter_81 hO.h0 hO.e0 mX5_readMeter_in5 tyX5 tyX5_ok nmX5 rfl (by decide) mX5_readMeter_f68 rfl (by decide +kernel) (vp_nar_int _) (zfit_i _) (fun _ => Nat.le_of_ble_eq_true rfl) (fun _ _ => rfl) ?_
  refine z_aload_n C 84 0 2 dX5_readMeter_84 rfl rfl ?_
  refine z_dup C 85 dX5_readMeter_85 rfl ?_
  refine z_geti C 86 (b) 9 dX5_readMeter_86 hO.h0 hO.e0 mX5_readMeter_in5 rfl (by decide) mX5_readMeter_f71 (fun _ => rfl) ?_
  refine z_nv (t (b) 9) ((zset_nk _ _ _ (by decide)).trans ((zset_nk _ _ _ (by decide)).trans ((zset_nk _ _ _ (by decide)).trans ((congrFun (sX2_add_o _ _ _ _ _ _ _ _ (by omega) (by omega)) 9).trans (congrFun (sX1_settle_o _ _ _ _ _ (by omega)) 9))))) ?_
  refine z_iload_n C 89 3 1 dX5_readMeter_89 rfl rfl ?_
  refine z_iadd C 90 dX5_readMeter_90 ?_
  refine z_put C 91 (ty := .int) (b) 9 dX5_readMeter_91 hO.h0 hO.e0 mX5_readMeter_in5 tyX5 tyX5_ok nmX5 rfl (by decide) mX5_readMeter_f71 rfl (by decide +kernel) (vp_nar_int _) (zfit_i _) (fun _ => Nat.le_of_ble_eq_true rfl) (fun _ _ => rfl) ?_
  refine z_iload C 94 4 0 dX5_readMeter_94 rfl ?_
  exact z_iret C 96 hA hQ rfl dX5_readMeter_96 ⟨rfl, rfl⟩
end
section
/-- what the walks of a town need of its numbers: the day, the ledger's next row, how many houses -/
def zCnt (x : Int32) : Prop := ∃ H, H ≤ 24 ∧ x = nI H
def zTs (N b : Nat) (t : zM) : Prop := t b 5 = nI N ∧ zRow (t (b + 35) 1) ∧ zCnt (t b 4)
theorem zCnt.c {x : Int32} (h : zCnt x) : x.toNatClampNeg ≤ 24 ∧ x = nI x.toNatClampNeg := by
  obtain ⟨w, hw, rfl⟩ := h
  rw [nI_clamp (by omega)]
  exact ⟨hw, rfl⟩
theorem zlt1 {x : Int32} (h1 : ¬ x < 1) : ¬ x < 0 := fun h => h1 (by
  rw [Int32.lt_iff_toInt_lt] at h ⊢
  have e : (Int32.toInt 1) = 1 := by decide
  have e0 : (Int32.toInt 0) = 0 := by decide
  omega)
theorem zne0 {x : Int32} (h : ¬ x ≤ 0) : ¬ x = 0 := fun e => h (by rw [e]; exact Int32.le_refl _)
theorem z99 {x : Int32} (h0 : ¬ x < 1) (h1 : ¬ 99 < x) : x.toNatClampNeg ≤ 99 := by
  have p0 : ¬ x < 0 := fun h => h0 (by rw [Int32.lt_iff_toInt_lt] at h ⊢; have e : (Int32.toInt 1) = 1 := by decide
                                       have e0 : (Int32.toInt 0) = 0 := by decide
                                       omega)
  obtain ⟨k, hk, rfl⟩ := nI_of p0
  rw [nI_clamp hk]
  rcases Nat.lt_or_ge 99 k with q | q
  · exact absurd ((nI_ltI (a := 99) (by decide) hk).mpr q) h1
  · exact q
theorem zTs_fr {N b : Nat} {t t1 : zM} (h : zTs N b t) (h0 : t1 b = t b) (h1 : t1 (b + 35) = t (b + 35)) : zTs N b t1 := by
  unfold zTs
  rw [h0, h1]
  exact h
theorem zTs_set {N b : Nat} {t : zM} {id k : Nat} {v : Int32} (h : zTs N b t) (h0 : id ≠ b ∨ (k ≠ 4 ∧ k ≠ 5)) (h1 : id ≠ b + 35) : zTs N b (zset t id k v) := by
  obtain ⟨a1, a2, a3⟩ := h
  unfold zTs
  rw [zset_idk _ _ _ _ (Ne.symm h1)]
  rcases h0 with h0 | h0
  · rw [zset_idk _ _ _ _ (Ne.symm h0), zset_idk _ _ _ _ (Ne.symm h0)]
    exact ⟨a1, a2, a3⟩
  · by_cases e : b = id
    · subst e
      rw [zset_nk _ _ _ (Ne.symm h0.2), zset_nk _ _ _ (Ne.symm h0.1)]
      exact ⟨a1, a2, a3⟩
    · rw [zset_idk _ _ _ _ e, zset_idk _ _ _ _ e]
      exact ⟨a1, a2, a3⟩
theorem zTs_now {N b : Nat} {t : zM} (h : zTs N b t) : zTs (N + 1) b (zset t b 5 (t b 5 + 1)) := by
  obtain ⟨a1, a2, a3⟩ := h
  unfold zTs
  rw [zset_eq, zset_idk _ _ _ _ (show b + 35 ≠ b by omega), zset_nk _ _ _ (show 4 ≠ 5 by decide), a1]
  exact ⟨nI_1 N, a2, a3⟩
theorem sX2_add_row {B : Nat} {t : zM} {a1 a2 a3 a4 a5 : Int32} (h : zRow (t B 1)) : zRow (sX2_add B t (t B 1).toNatClampNeg a1 a2 a3 a4 a5 B 1) := by
  have hm : zRow (zrem (t B 1 + 1) 10) := by
    obtain ⟨w, hw, e⟩ := h
    rw [e]
    exact ⟨(w + 1) % 10, by omega, by rw [nI_1]; exact zrem_n (b := 10) (by omega) (by decide) (by decide)⟩
  unfold sX2_add
  repeat' split
  all_goals first
    | exact h
    | (rw [zset_eq]; exact hm)
    | (rw [zset_nk _ _ _ (by decide), zset_eq]; exact hm)
theorem sX5_readMeter_S {N b : Nat} {t : zM} {k : Nat} {a2 : Int32} (hk : k < 24) (h : zTs N b t) : zTs N b (sX5_readMeter b t k a2) := by
  unfold sX5_readMeter
  refine zTs_set (zTs_set (zTs_set (zTs_set ?_ (Or.inr ⟨by decide, by decide⟩) (by omega)) (Or.inr ⟨by decide, by decide⟩) (by omega)) (Or.inr ⟨by decide, by decide⟩) (by omega)) (Or.inr ⟨by decide, by decide⟩) (by omega)
  have e1 : ∀ a3 a4 a5 : Int32, (sX1_settle (b + 2 + k) t a3 a4 a5) b = t b := fun a3 a4 a5 => sX1_settle_o _ _ _ _ _ (by omega)
  have e2 : ∀ a3 a4 a5 : Int32, (sX1_settle (b + 2 + k) t a3 a4 a5) (b + 35) = t (b + 35) := fun a3 a4 a5 => sX1_settle_o _ _ _ _ _ (by omega)
  obtain ⟨h1, h2, h3⟩ := h
  unfold zTs
  rw [sX2_add_o _ _ _ _ _ _ _ _ (show b ≠ b + 35 by omega) (show b ≠ b + 35 + 1 by omega), e1]
  refine ⟨h1, ?_, h3⟩
  rw [← congrFun (e2 (t b 5) (rX1_used (b + 2 + k) t) (rX6_unitsFor (rX1_used (b + 2 + k) t) (t (b + 2 + k) 6))) 1]
  exact sX2_add_row (by rw [e2]; exact h2)
def rX5_readIfOpen (b : Nat) (t : zM) (a1 : Int32) : Int32 := (if zin (t (b) 4) a1 then (if (rX1_reasonOn (b + 2 + a1.toNatClampNeg) t (t (b) 5)) = 0 then (rX5_readMeter (b) t (a1.toNatClampNeg) a1) else (-1000002)) else (-1000001))
def sX5_readIfOpen (b : Nat) (t : zM) (a1 : Int32) : zM := (if zin (t (b) 4) a1 then (if (rX1_reasonOn (b + 2 + a1.toNatClampNeg) t (t (b) 5)) = 0 then (sX5_readMeter (b) t (a1.toNatClampNeg) a1) else t) else t)
theorem mX5_readIfOpen_f59 : Cond.fieldLink RX5 59 "WrongedMeters$Town" "now" "I" ∈ wsX5_readIfOpen := by decide +kernel
set_option maxRecDepth 20000 in
theorem mX5_readIfOpen_in5 : ∀ w ∈ u_ws RX5 TX5 13, w ∈ wsX5_readIfOpen := by decide +kernel
theorem mX5_readIfOpen_c119 : Cond.constant RX5 119 (-1000002) ∈ wsX5_readIfOpen := by decide +kernel
theorem mX5_readIfOpen_c100 : Cond.constant RX5 100 (-1000001) ∈ wsX5_readIfOpen := by decide +kernel
theorem hyX5_readIfOpen : yX5_readIfOpen.cls = RX5 ∧ yX5_readIfOpen.cls ≠ "java/lang/invoke/MethodHandle" ∧ yX5_readIfOpen.cls ≠ "java/lang/invoke/VarHandle" ∧ (parseMethodDescriptor yX5_readIfOpen.desc).map (fun d => d.parameters.length) = some 1 := by decide +kernel
set_option maxHeartbeats 3000000 in
set_option maxRecDepth 100000 in
theorem kX5_readIfOpen (l : Launch) (D : va_G) (cy : Nat → ClassId) (K : zK) (n : Nat) (ad : Nat → Nat) (hJ : zJ n ad) (b : Nat) (hO : zTown cy K n ad b) (t : zM) (N : Nat) (a1 : Int32) (hs : zTs N b t) : zI l yX5_readIfOpen wsX5_readIfOpen 2 D cy K n ad t [.ref (ad (b)), .int a1] (fun r t1 => r = rX5_readIfOpen b t a1 ∧ t1 = sX5_readIfOpen b t a1) := by
  refine z_startI (cc := cX5_readIfOpen) (mL := 3) (ret := (some .int)) (own := RX5) rfl (by decide +kernel) rfl hJ (Nat.le_of_ble_eq_true rfl) ?_
  intro p e s m args below meth c A hA Q hQ C
  refine z_aload_n C 0 0 0 dX5_readIfOpen_0 rfl rfl ?_
  refine z_iload_n C 1 1 1 dX5_readIfOpen_1 rfl rfl ?_
  refine z_virtQ C 2 (As := [.int a1]) (st := []) (id := b) (kX5_houseNumbered l D cy K n ad hJ (b) hO t a1 ) dX5_readIfOpen_2 rfl gX5_readIfOpen_X5_houseNumbered hyX5_houseNumbered rfl (by decide) (by decide) hO.h0 rfl hO.e0 rfl rfl rfl (Nat.le_of_ble_eq_true rfl) (fun r2_1 t2_1 h2_1 => ?_)
  obtain ⟨e9, e8⟩ := h2_1; replace e9 := e9.symm; replace e8 := e8.symm; subst e9; subst e8
  by_cases c2_2 : zin (t (b) 4) a1
  · have hkc2_2 := zin_lt c2_2
    refine z_cast (st2 := [.ref (ad (b + 2 + a1.toNatClampNeg))]) (by rw [if_pos c2_2]; rfl) ?_
    refine z_astore_n C 5 2 ([(2, .ref (ad (b + 2 + a1.toNatClampNeg))), (0, .ref (ad (b))), (1, .int a1)]) dX5_readIfOpen_5 rfl (by decide) rfl ?_
    refine z_aload_n C 6 2 0 dX5_readIfOpen_6 rfl rfl ?_
    refine z_ifnonnull C 7 13 dX5_readIfOpen_7 (by decide) ?_
    refine z_aload_n C 13 2 0 dX5_readIfOpen_13 rfl rfl ?_
    refine z_aload_n C 14 0 1 dX5_readIfOpen_14 rfl rfl ?_
    refine z_geti C 15 (b) 5 dX5_readIfOpen_15 hO.h0 hO.e0 mX5_readIfOpen_in5 rfl (by decide) mX5_readIfOpen_f59 (fun _ => rfl) ?_
    refine z_virtIe C 18 (As := [.int (t (b) 5)]) (st := []) (id := b + 2 + a1.toNatClampNeg) (kX1_reasonOn l D cy K n ad hJ (b + 2 + a1.toNatClampNeg) (hO.hou hkc2_2) t (t (b) 5) ) dX5_readIfOpen_18 rfl gX5_readIfOpen_X1_reasonOn hyX1_reasonOn rfl (by decide) (by decide) (hO.hou hkc2_2).1 rfl (hO.hou hkc2_2).2 rfl rfl rfl (Nat.le_of_ble_eq_true rfl) ?_
    refine z_if_ne C 21 33 dX5_readIfOpen_21 (by decide) (fun c21_4 => ?_) (fun c21_4 => ?_)
    · refine z_ldc C 33 (v := (-1000002)) dX5_readIfOpen_33 mX5_readIfOpen_c119 ?_
      exact z_iret C 35 hA hQ rfl dX5_readIfOpen_35 ⟨((if_pos c2_2).trans ((if_neg c21_4).trans rfl)).symm, ((if_pos c2_2).trans ((if_neg c21_4).trans rfl)).symm⟩
    · refine z_aload_n C 24 0 1 dX5_readIfOpen_24 rfl rfl ?_
      refine z_aload_n C 25 2 0 dX5_readIfOpen_25 rfl rfl ?_
      refine z_iload_n C 26 1 2 dX5_readIfOpen_26 rfl rfl ?_
      refine z_virtIe C 27 (As := [.ref (ad (b + 2 + a1.toNatClampNeg)), .int a1]) (st := []) (id := b) (kX5_readMeter l D cy K n ad hJ (b) hO t (a1.toNatClampNeg) a1 hkc2_2 hs.2.1) dX5_readIfOpen_27 rfl gX5_readIfOpen_X5_readMeter hyX5_readMeter rfl (by decide) (by decide) hO.h0 rfl hO.e0 rfl rfl rfl (Nat.le_of_ble_eq_true rfl) ?_
      refine z_goto C 30 35 dX5_readIfOpen_30 (by decide) ?_
      exact z_iret C 35 hA hQ rfl dX5_readIfOpen_35 ⟨((if_pos c2_2).trans ((if_pos c21_4).trans rfl)).symm, ((if_pos c2_2).trans ((if_pos c21_4).trans rfl)).symm⟩
  · refine z_cast (st2 := [.null]) (by rw [if_neg c2_2]; rfl) ?_
    refine z_astore_nN C 5 2 ([(2, .null), (0, .ref (ad (b))), (1, .int a1)]) dX5_readIfOpen_5 rfl (by decide) rfl ?_
    refine z_aload_nN C 6 2 0 dX5_readIfOpen_6 rfl rfl ?_
    refine z_ifnonnullN C 7 dX5_readIfOpen_7 ?_
    refine z_ldc C 10 (v := (-1000001)) dX5_readIfOpen_10 mX5_readIfOpen_c100 ?_
    exact z_iret C 12 hA hQ rfl dX5_readIfOpen_12 ⟨((if_neg c2_2).trans rfl).symm, ((if_neg c2_2).trans rfl).symm⟩
def rX5_changeMeter (b : Nat) (t : zM) (a1 : Int32) : Int32 := (if zin (t (b) 4) a1 then (rX5_readMeter (b) t (a1.toNatClampNeg) a1) else (-1000001))
def sX5_changeMeter (b : Nat) (t : zM) (a1 : Int32) : zM := (if zin (t (b) 4) a1 then (sX1_renewMeter (b + 2 + a1.toNatClampNeg) (sX5_readMeter (b) t (a1.toNatClampNeg) a1)) else t)
theorem mX5_changeMeter_c100 : Cond.constant RX5 100 (-1000001) ∈ wsX5_changeMeter := by decide +kernel
theorem hyX5_changeMeter : yX5_changeMeter.cls = RX5 ∧ yX5_changeMeter.cls ≠ "java/lang/invoke/MethodHandle" ∧ yX5_changeMeter.cls ≠ "java/lang/invoke/VarHandle" ∧ (parseMethodDescriptor yX5_changeMeter.desc).map (fun d => d.parameters.length) = some 1 := by decide +kernel
set_option maxHeartbeats 3000000 in
set_option maxRecDepth 100000 in
theorem kX5_changeMeter (l : Launch) (D : va_G) (cy : Nat → ClassId) (K : zK) (n : Nat) (ad : Nat → Nat) (hJ : zJ n ad) (b : Nat) (hO : zTown cy K n ad b) (t : zM) (N : Nat) (a1 : Int32) (hs : zTs N b t) : zI l yX5_changeMeter wsX5_changeMeter 2 D cy K n ad t [.ref (ad (b)), .int a1] (fun r t1 => r = rX5_changeMeter b t a1 ∧ t1 = sX5_changeMeter b t a1) := by
  refine z_startI (cc := cX5_changeMeter) (mL := 4) (ret := (some .int)) (own := RX5) rfl (by decide +kernel) rfl hJ (Nat.le_of_ble_eq_true rfl) ?_
  intro p e s m args below meth c A hA Q hQ C
  refine z_aload_n C 0 0 0 dX5_changeMeter_0 rfl rfl ?_
  refine z_iload_n C 1 1 1 dX5_changeMeter_1 rfl rfl ?_
  refine z_virtQ C 2 (As := [.int a1]) (st := []) (id := b) (kX5_houseNumbered l D cy K n ad hJ (b) hO t a1 ) dX5_changeMeter_2 rfl gX5_changeMeter_X5_houseNumbered hyX5_houseNumbered rfl (by decide) (by decide) hO.h0 rfl hO.e0 rfl rfl rfl (Nat.le_of_ble_eq_true rfl) (fun r2_1 t2_1 h2_1 => ?_)
  obtain ⟨e9, e8⟩ := h2_1; replace e9 := e9.symm; replace e8 := e8.symm; subst e9; subst e8
  by_cases c2_2 : zin (t (b) 4) a1
  · have hkc2_2 := zin_lt c2_2
    refine z_cast (st2 := [.ref (ad (b + 2 + a1.toNatClampNeg))]) (by rw [if_pos c2_2]; rfl) ?_
    refine z_astore_n C 5 2 ([(2, .ref (ad (b + 2 + a1.toNatClampNeg))), (0, .ref (ad (b))), (1, .int a1)]) dX5_changeMeter_5 rfl (by decide) rfl ?_
    refine z_aload_n C 6 2 0 dX5_changeMeter_6 rfl rfl ?_
    refine z_ifnonnull C 7 13 dX5_changeMeter_7 (by decide) ?_
    refine z_aload_n C 13 0 1 dX5_changeMeter_13 rfl rfl ?_
    refine z_aload_n C 14 2 0 dX5_changeMeter_14 rfl rfl ?_
    refine z_iload_n C 15 1 2 dX5_changeMeter_15 rfl rfl ?_
    refine z_virtIe C 16 (As := [.ref (ad (b + 2 + a1.toNatClampNeg)), .int a1]) (st := []) (id := b) (kX5_readMeter l D cy K n ad hJ (b) hO t (a1.toNatClampNeg) a1 hkc2_2 hs.2.1) dX5_changeMeter_16 rfl gX5_changeMeter_X5_readMeter hyX5_readMeter rfl (by decide) (by decide) hO.h0 rfl hO.e0 rfl rfl rfl (Nat.le_of_ble_eq_true rfl) ?_
    refine z_istore_n C 19 3 ([(3, .int (rX5_readMeter (b) t (a1.toNatClampNeg) a1)), (2, .ref (ad (b + 2 + a1.toNatClampNeg))), (0, .ref (ad (b))), (1, .int a1)]) dX5_changeMeter_19 rfl (by decide) rfl ?_
    refine z_aload_n C 20 2 1 dX5_changeMeter_20 rfl rfl ?_
    refine z_virtVe C 21 (As := []) (st := []) (id := b + 2 + a1.toNatClampNeg) (kX1_renewMeter l D cy K n ad hJ (b + 2 + a1.toNatClampNeg) (hO.hou hkc2_2) (sX5_readMeter (b) t (a1.toNatClampNeg) a1)  ) dX5_changeMeter_21 rfl gX5_changeMeter_X1_renewMeter hyX1_renewMeter rfl (by decide) (by decide) (hO.hou hkc2_2).1 rfl (hO.hou hkc2_2).2 rfl rfl rfl (Nat.le_of_ble_eq_true rfl) ?_
    refine z_iload_n C 24 3 0 dX5_changeMeter_24 rfl rfl ?_
    exact z_iret C 25 hA hQ rfl dX5_changeMeter_25 ⟨((if_pos c2_2).trans rfl).symm, ((if_pos c2_2).trans rfl).symm⟩
  · refine z_cast (st2 := [.null]) (by rw [if_neg c2_2]; rfl) ?_
    refine z_astore_nN C 5 2 ([(2, .null), (0, .ref (ad (b))), (1, .int a1)]) dX5_changeMeter_5 rfl (by decide) rfl ?_
    refine z_aload_nN C 6 2 0 dX5_changeMeter_6 rfl rfl ?_
    refine z_ifnonnullN C 7 dX5_changeMeter_7 ?_
    refine z_ldc C 10 (v := (-1000001)) dX5_changeMeter_10 mX5_changeMeter_c100 ?_
    exact z_iret C 12 hA hQ rfl dX5_changeMeter_12 ⟨((if_neg c2_2).trans rfl).symm, ((if_neg c2_2).trans rfl).symm⟩
def lsX5_walk_16 (b : Nat) (t : zM) (q : Nat) : Nat → Nat → Int32 → zM → zM
  | 0, _, _, u => u
  | j + 1, k, v, u => (if 20 ≤ nI k then u else (if v ≤ 0 then u else (if zin (u (b) 4) (rX4_houseOn (b + 27 + 2 * q) u (zrem ((rX4_stepAhead (b + 27 + 2 * q) t 0) + nI k) 20)) then (if (rX1_reasonOn (b + 2 + (rX4_houseOn (b + 27 + 2 * q) u (zrem ((rX4_stepAhead (b + 27 + 2 * q) t 0) + nI k) 20)).toNatClampNeg) u (u (b) 5)) = 0 then (lsX5_walk_16 b t q j (k + 1) (v + (-1)) (zset (sX5_readMeter (b) u ((rX4_houseOn (b + 27 + 2 * q) u (zrem ((rX4_stepAhead (b + 27 + 2 * q) t 0) + nI k) 20)).toNatClampNeg) (rX4_houseOn (b + 27 + 2 * q) u (zrem ((rX4_stepAhead (b + 27 + 2 * q) t 0) + nI k) 20))) (b + 27 + 2 * q) 1 (zrem ((rX4_stepAhead (b + 27 + 2 * q) t 0) + nI k) 20))) else (lsX5_walk_16 b t q j (k + 1) v u)) else (lsX5_walk_16 b t q j (k + 1) v u))))
def sX5_walk (b : Nat) (t : zM) (q : Nat) : zM := (lsX5_walk_16 b t q 21 0 (t (b + 37) 0) t)
theorem mX5_walk_f30 : Cond.fieldLink RX5 30 "WrongedMeters$Town" "settings" "[I" ∈ wsX5_walk := by decide +kernel
set_option maxRecDepth 20000 in
theorem mX5_walk_in5 : ∀ w ∈ u_ws RX5 TX5 13, w ∈ wsX5_walk := by decide +kernel
theorem mX5_walk_f59 : Cond.fieldLink RX5 59 "WrongedMeters$Town" "now" "I" ∈ wsX5_walk := by decide +kernel
set_option maxRecDepth 20000 in
theorem mX5_walk_in4 : ∀ w ∈ u_ws RX4 TX4 2, w ∈ wsX5_walk := by decide +kernel
theorem hyX5_walk : yX5_walk.cls = RX5 ∧ yX5_walk.cls ≠ "java/lang/invoke/MethodHandle" ∧ yX5_walk.cls ≠ "java/lang/invoke/VarHandle" ∧ (parseMethodDescriptor yX5_walk.desc).map (fun d => d.parameters.length) = some 1 := by decide +kernel
set_option maxHeartbeats 3000000 in
set_option maxRecDepth 100000 in
theorem kX5_walk (l : Launch) (D : va_G) (cy : Nat → ClassId) (K : zK) (n : Nat) (ad : Nat → Nat) (hJ : zJ n ad) (b : Nat) (hO : zTown cy K n ad b) (t : zM) (q N : Nat) (hq : q < 4) (hs : zTs N b t) : zV l yX5_walk wsX5_walk 2 D cy K n ad t [.ref (ad (b)), .ref (ad (b + 27 + 2 * q))] (fun t1 => t1 = sX5_walk b t q) := by
  refine z_startV (cc := cX5_walk) (mL := 8) (ret := none) (own := RX5) rfl (by decide +kernel) rfl hJ (Nat.le_of_ble_eq_true rfl) ?_
  intro p e s m args below meth c A hA Q hQ C
  refine z_aload_n C 0 1 1 dX5_walk_0 rfl rfl ?_
  refine z_iconst C 1 (v := 0) dX5_walk_1 (by decide +kernel) ?_
  refine z_virtIe C 2 (As := [.int 0]) (st := []) (id := b + 27 + 2 * q) (kX4_stepAhead l D cy K n ad hJ (b + 27 + 2 * q) (hO.str hq) t 0 ) dX5_walk_2 rfl gX5_walk_X4_stepAhead hyX4_stepAhead rfl (by decide) (by decide) (Nat.lt_of_succ_lt (hO.str hq).1) rfl (hO.str hq).2.1 rfl rfl rfl (Nat.le_of_ble_eq_true rfl) ?_
  refine z_istore_n C 5 2 ([(2, .int (rX4_stepAhead (b + 27 + 2 * q) t 0)), (0, .ref (ad (b))), (1, .ref (ad (b + 27 + 2 * q)))]) dX5_walk_5 rfl (by decide) rfl ?_
  refine z_aload_n C 6 0 1 dX5_walk_6 rfl rfl ?_
  refine z_getr C 7 (a9 := ad (b + 37)) (b) 3 dX5_walk_7 hO.h0 hO.e0 mX5_walk_in5 rfl (by decide) mX5_walk_f30 (fun _ => rfl) ?_
  refine z_iconst C 10 (v := 0) dX5_walk_10 (by decide +kernel) ?_
  refine z_ialdN C 11 (b + 37) 0 dX5_walk_11 hO.h37 hO.e37 rfl (by decide) (by decide) ?_
  refine z_istore_n C 12 3 ([(3, .int (t (b + 37) 0)), (2, .int (rX4_stepAhead (b + 27 + 2 * q) t 0)), (0, .ref (ad (b))), (1, .ref (ad (b + 27 + 2 * q)))]) dX5_walk_12 rfl (by decide) rfl ?_
  refine z_iconst C 13 (v := 0) dX5_walk_13 (by decide +kernel) ?_
  refine z_istore C 14 4 ([(4, .int 0), (3, .int (t (b + 37) 0)), (2, .int (rX4_stepAhead (b + 27 + 2 * q) t 0)), (0, .ref (ad (b))), (1, .ref (ad (b + 27 + 2 * q)))]) dX5_walk_14 (by decide) rfl ?_
  have L16 : ∀ (j : Nat) (k : Nat) (v : Int32) (u : zM), (h0_16 : 21 ≤ k + j) → (hk : k ≤ 20) → (hs : zTs N b u) → (hS16 : sX5_walk b t q = (lsX5_walk_16 b t q j k v u)) → Zw p l e (zR 2) s m args below meth c D A K n ad 8 Q 16 ([(4, .int (nI k)), (3, .int v), (2, .int (rX4_stepAhead (b + 27 + 2 * q) t 0)), (0, .ref (ad (b))), (1, .ref (ad (b + 27 + 2 * q)))]) [] u := by
    intro j
    induction j with
    | zero =>
      intro k v u h0_16 hk hs hS16
      exact absurd h0_16 (by omega)
    | succ j ih16 =>
      intro k v u h0_16 hk hs hS16
      refine z_iload C 16 4 0 dX5_walk_16 rfl ?_
      refine z_bipush C 18 (v := 20) dX5_walk_18 (by decide +kernel) ?_
      refine z_icmp_ge C 20 93 dX5_walk_20 (by decide) (fun c20_2 => ?_) (fun c20_2 => ?_)
      · exact z_vret C 93 hA hQ rfl dX5_walk_93 ((hS16.trans ((if_pos c20_2).trans rfl))).symm
      · refine z_iload_n C 23 3 1 dX5_walk_23 rfl rfl ?_
        refine z_if_le C 24 93 dX5_walk_24 (by decide) (fun c24_3 => ?_) (fun c24_3 => ?_)
        · exact z_vret C 93 hA hQ rfl dX5_walk_93 ((hS16.trans ((if_neg c20_2).trans ((if_pos c24_3).trans rfl)))).symm
        · refine z_iload_n C 27 2 2 dX5_walk_27 rfl rfl ?_
          refine z_iload C 28 4 0 dX5_walk_28 rfl ?_
          refine z_iadd C 30 dX5_walk_30 ?_
          refine z_bipush C 31 (v := 20) dX5_walk_31 (by decide +kernel) ?_
          refine z_irem C 33 dX5_walk_33 (by decide) ?_
          refine z_istore C 34 5 ([(5, .int (zrem ((rX4_stepAhead (b + 27 + 2 * q) t 0) + nI k) 20)), (4, .int (nI k)), (3, .int v), (2, .int (rX4_stepAhead (b + 27 + 2 * q) t 0)), (0, .ref (ad (b))), (1, .ref (ad (b + 27 + 2 * q)))]) dX5_walk_34 (by decide) rfl ?_
          refine z_aload_n C 36 1 5 dX5_walk_36 rfl rfl ?_
          refine z_iload C 37 5 0 dX5_walk_37 rfl ?_
          refine z_virtIe C 39 (As := [.int (zrem ((rX4_stepAhead (b + 27 + 2 * q) t 0) + nI k) 20)]) (st := []) (id := b + 27 + 2 * q) (kX4_houseOn l D cy K n ad hJ (b + 27 + 2 * q) (hO.str hq) u (zrem ((rX4_stepAhead (b + 27 + 2 * q) t 0) + nI k) 20) ) dX5_walk_39 rfl gX5_walk_X4_houseOn hyX4_houseOn rfl (by decide) (by decide) (Nat.lt_of_succ_lt (hO.str hq).1) rfl (hO.str hq).2.1 rfl rfl rfl (Nat.le_of_ble_eq_true rfl) ?_
          refine z_istore C 42 6 ([(6, .int (rX4_houseOn (b + 27 + 2 * q) u (zrem ((rX4_stepAhead (b + 27 + 2 * q) t 0) + nI k) 20))), (5, .int (zrem ((rX4_stepAhead (b + 27 + 2 * q) t 0) + nI k) 20)), (4, .int (nI k)), (3, .int v), (2, .int (rX4_stepAhead (b + 27 + 2 * q) t 0)), (0, .ref (ad (b))), (1, .ref (ad (b + 27 + 2 * q)))]) dX5_walk_42 (by decide) rfl ?_
          refine z_aload_n C 44 0 5 dX5_walk_44 rfl rfl ?_
          refine z_iload C 45 6 0 dX5_walk_45 rfl ?_
          refine z_virtQ C 47 (As := [.int (rX4_houseOn (b + 27 + 2 * q) u (zrem ((rX4_stepAhead (b + 27 + 2 * q) t 0) + nI k) 20))]) (st := []) (id := b) (kX5_houseNumbered l D cy K n ad hJ (b) hO u (rX4_houseOn (b + 27 + 2 * q) u (zrem ((rX4_stepAhead (b + 27 + 2 * q) t 0) + nI k) 20)) ) dX5_walk_47 rfl gX5_walk_X5_houseNumbered hyX5_houseNumbered rfl (by decide) (by decide) hO.h0 rfl hO.e0 rfl rfl rfl (Nat.le_of_ble_eq_true rfl) (fun r47_5 t47_5 h47_5 => ?_)
          obtain ⟨e9, e8⟩ := h47_5; replace e9 := e9.symm; replace e8 := e8.symm; subst e9; subst e8
          by_cases c47_6 : zin (u (b) 4) (rX4_houseOn (b + 27 + 2 * q) u (zrem ((rX4_stepAhead (b + 27 + 2 * q) t 0) + nI k) 20))
          · have hkc47_6 := zin_lt c47_6
            refine z_cast (st2 := [.ref (ad (b + 2 + (rX4_houseOn (b + 27 + 2 * q) u (zrem ((rX4_stepAhead (b + 27 + 2 * q) t 0) + nI k) 20)).toNatClampNeg))]) (by rw [if_pos c47_6]; rfl) ?_
            refine z_astore C 50 7 ([(7, .ref (ad (b + 2 + (rX4_houseOn (b + 27 + 2 * q) u (zrem ((rX4_stepAhead (b + 27 + 2 * q) t 0) + nI k) 20)).toNatClampNeg))), (6, .int (rX4_houseOn (b + 27 + 2 * q) u (zrem ((rX4_stepAhead (b + 27 + 2 * q) t 0) + nI k) 20))), (5, .int (zrem ((rX4_stepAhead (b + 27 + 2 * q) t 0) + nI k) 20)), (4, .int (nI k)), (3, .int v), (2, .int (rX4_stepAhead (b + 27 + 2 * q) t 0)), (0, .ref (ad (b))), (1, .ref (ad (b + 27 + 2 * q)))]) dX5_walk_50 (by decide) rfl ?_
            refine z_aload C 52 7 0 dX5_walk_52 rfl ?_
            refine z_ifnull C 54 dX5_walk_54 ?_
            refine z_aload C 57 7 0 dX5_walk_57 rfl ?_
            refine z_aload_n C 59 0 6 dX5_walk_59 rfl rfl ?_
            refine z_geti C 60 (b) 5 dX5_walk_60 hO.h0 hO.e0 mX5_walk_in5 rfl (by decide) mX5_walk_f59 (fun _ => rfl) ?_
            refine z_virtIe C 63 (As := [.int (u (b) 5)]) (st := []) (id := b + 2 + (rX4_houseOn (b + 27 + 2 * q) u (zrem ((rX4_stepAhead (b + 27 + 2 * q) t 0) + nI k) 20)).toNatClampNeg) (kX1_reasonOn l D cy K n ad hJ (b + 2 + (rX4_houseOn (b + 27 + 2 * q) u (zrem ((rX4_stepAhead (b + 27 + 2 * q) t 0) + nI k) 20)).toNatClampNeg) (hO.hou hkc47_6) u (u (b) 5) ) dX5_walk_63 rfl gX5_walk_X1_reasonOn hyX1_reasonOn rfl (by decide) (by decide) (hO.hou hkc47_6).1 rfl (hO.hou hkc47_6).2 rfl rfl rfl (Nat.le_of_ble_eq_true rfl) ?_
            refine z_if_ne C 66 87 dX5_walk_66 (by decide) (fun c66_8 => ?_) (fun c66_8 => ?_)
            · refine z_iinc C 87 (v := nI (k + 1)) 4 3 ([(4, .int (nI (k + 1))), (7, .ref (ad (b + 2 + (rX4_houseOn (b + 27 + 2 * q) u (zrem ((rX4_stepAhead (b + 27 + 2 * q) t 0) + nI k) 20)).toNatClampNeg))), (6, .int (rX4_houseOn (b + 27 + 2 * q) u (zrem ((rX4_stepAhead (b + 27 + 2 * q) t 0) + nI k) 20))), (5, .int (zrem ((rX4_stepAhead (b + 27 + 2 * q) t 0) + nI k) 20)), (3, .int v), (2, .int (rX4_stepAhead (b + 27 + 2 * q) t 0)), (0, .ref (ad (b))), (1, .ref (ad (b + 27 + 2 * q)))]) dX5_walk_87 rfl (nI_1 _) (by decide) rfl ?_
              refine z_goto C 90 16 dX5_walk_90 (by decide) ?_
              refine z_ls [0, 4, 5, 6, 7] _ rfl ?_
              exact ih16 (k + 1) v u (by omega) (by have := zge (b := 20) (by omega) (by decide) ‹¬ (20 : Int32) ≤ nI k›; omega) hs (hS16.trans ((if_neg c20_2).trans ((if_neg c24_3).trans ((if_pos c47_6).trans ((if_neg c66_8).trans rfl)))))
            · refine z_aload_n C 69 0 6 dX5_walk_69 rfl rfl ?_
              refine z_aload C 70 7 0 dX5_walk_70 rfl ?_
              refine z_iload C 72 6 1 dX5_walk_72 rfl ?_
              refine z_virtIe C 74 (As := [.ref (ad (b + 2 + (rX4_houseOn (b + 27 + 2 * q) u (zrem ((rX4_stepAhead (b + 27 + 2 * q) t 0) + nI k) 20)).toNatClampNeg)), .int (rX4_houseOn (b + 27 + 2 * q) u (zrem ((rX4_stepAhead (b + 27 + 2 * q) t 0) + nI k) 20))]) (st := []) (id := b) (kX5_readMeter l D cy K n ad hJ (b) hO u ((rX4_houseOn (b + 27 + 2 * q) u (zrem ((rX4_stepAhead (b + 27 + 2 * q) t 0) + nI k) 20)).toNatClampNeg) (rX4_houseOn (b + 27 + 2 * q) u (zrem ((rX4_stepAhead (b + 27 + 2 * q) t 0) + nI k) 20)) hkc47_6 hs.2.1) dX5_walk_74 rfl gX5_walk_X5_readMeter hyX5_readMeter rfl (by decide) (by decide) hO.h0 rfl hO.e0 rfl rfl rfl (Nat.le_of_ble_eq_true rfl) ?_
              refine z_pop C 77 dX5_walk_77 rfl ?_
              refine z_aload_n C 78 1 7 dX5_walk_78 rfl rfl ?_
              refine z_iload C 79 5 2 dX5_walk_79 rfl ?_
              refine z_putN C 81 (ty := .int) (b + 27 + 2 * q) 1 dX5_walk_81 (Nat.lt_of_succ_lt (hO.str hq).1) (hO.str hq).2.1 mX5_walk_in4 tyX4 tyX4_ok nmX4 rfl (by decide) nst_f5_191 rfl (by decide +kernel) (vp_nar_int _) (zfit_i _) (fun _ => Nat.le_of_ble_eq_true rfl) (fun _ _ => rfl) ?_
              refine z_iinc C 84 (v := (v + (-1))) 3 4 ([(3, .int (v + (-1))), (7, .ref (ad (b + 2 + (rX4_houseOn (b + 27 + 2 * q) u (zrem ((rX4_stepAhead (b + 27 + 2 * q) t 0) + nI k) 20)).toNatClampNeg))), (6, .int (rX4_houseOn (b + 27 + 2 * q) u (zrem ((rX4_stepAhead (b + 27 + 2 * q) t 0) + nI k) 20))), (5, .int (zrem ((rX4_stepAhead (b + 27 + 2 * q) t 0) + nI k) 20)), (4, .int (nI k)), (2, .int (rX4_stepAhead (b + 27 + 2 * q) t 0)), (0, .ref (ad (b))), (1, .ref (ad (b + 27 + 2 * q)))]) dX5_walk_84 rfl (by first | rfl | (congr 1)) (by decide) rfl ?_
              refine z_iinc C 87 (v := nI (k + 1)) 4 4 ([(4, .int (nI (k + 1))), (3, .int (v + (-1))), (7, .ref (ad (b + 2 + (rX4_houseOn (b + 27 + 2 * q) u (zrem ((rX4_stepAhead (b + 27 + 2 * q) t 0) + nI k) 20)).toNatClampNeg))), (6, .int (rX4_houseOn (b + 27 + 2 * q) u (zrem ((rX4_stepAhead (b + 27 + 2 * q) t 0) + nI k) 20))), (5, .int (zrem ((rX4_stepAhead (b + 27 + 2 * q) t 0) + nI k) 20)), (2, .int (rX4_stepAhead (b + 27 + 2 * q) t 0)), (0, .ref (ad (b))), (1, .ref (ad (b + 27 + 2 * q)))]) dX5_walk_87 rfl (nI_1 _) (by decide) rfl ?_
              refine z_goto C 90 16 dX5_walk_90 (by decide) ?_
              refine z_ls [0, 1, 5, 6, 7] _ rfl ?_
              exact ih16 (k + 1) (v + (-1)) (zset (sX5_readMeter (b) u ((rX4_houseOn (b + 27 + 2 * q) u (zrem ((rX4_stepAhead (b + 27 + 2 * q) t 0) + nI k) 20)).toNatClampNeg) (rX4_houseOn (b + 27 + 2 * q) u (zrem ((rX4_stepAhead (b + 27 + 2 * q) t 0) + nI k) 20))) (b + 27 + 2 * q) 1 (zrem ((rX4_stepAhead (b + 27 + 2 * q) t 0) + nI k) 20)) (by omega) (by have := zge (b := 20) (by omega) (by decide) ‹¬ (20 : Int32) ≤ nI k›; omega) (zTs_set (sX5_readMeter_S (by assumption) hs) (Or.inl (by omega)) (by omega)) (hS16.trans ((if_neg c20_2).trans ((if_neg c24_3).trans ((if_pos c47_6).trans ((if_pos c66_8).trans rfl)))))
          · refine z_cast (st2 := [.null]) (by rw [if_neg c47_6]; rfl) ?_
            refine z_astoreN C 50 7 ([(7, .null), (6, .int (rX4_houseOn (b + 27 + 2 * q) u (zrem ((rX4_stepAhead (b + 27 + 2 * q) t 0) + nI k) 20))), (5, .int (zrem ((rX4_stepAhead (b + 27 + 2 * q) t 0) + nI k) 20)), (4, .int (nI k)), (3, .int v), (2, .int (rX4_stepAhead (b + 27 + 2 * q) t 0)), (0, .ref (ad (b))), (1, .ref (ad (b + 27 + 2 * q)))]) dX5_walk_50 (by decide) rfl ?_
            refine z_aloadN C 52 7 0 dX5_walk_52 rfl ?_
            refine z_ifnullN C 54 87 dX5_walk_54 (by decide) ?_
            refine z_iinc C 87 (v := nI (k + 1)) 4 3 ([(4, .int (nI (k + 1))), (7, .null), (6, .int (rX4_houseOn (b + 27 + 2 * q) u (zrem ((rX4_stepAhead (b + 27 + 2 * q) t 0) + nI k) 20))), (5, .int (zrem ((rX4_stepAhead (b + 27 + 2 * q) t 0) + nI k) 20)), (3, .int v), (2, .int (rX4_stepAhead (b + 27 + 2 * q) t 0)), (0, .ref (ad (b))), (1, .ref (ad (b + 27 + 2 * q)))]) dX5_walk_87 rfl (nI_1 _) (by decide) rfl ?_
            refine z_goto C 90 16 dX5_walk_90 (by decide) ?_
            refine z_ls [0, 4, 5, 6, 7] _ rfl ?_
            exact ih16 (k + 1) v u (by omega) (by have := zge (b := 20) (by omega) (by decide) ‹¬ (20 : Int32) ≤ nI k›; omega) hs (hS16.trans ((if_neg c20_2).trans ((if_neg c24_3).trans ((if_neg c47_6).trans rfl))))
  refine z_ls [0, 1, 2, 3, 4] _ rfl ?_
  exact L16 (21) 0 (t (b + 37) 0) t (by omega) (by decide) hs rfl
theorem lsX5_walk_16_S {N b q : Nat} (hq : q < 4) (t : zM) : ∀ (j k : Nat) (v : Int32) (u : zM), zTs N b u → zTs N b (lsX5_walk_16 b t q j k v u) := by
  intro j
  induction j with
  | zero => intro k v u h; exact h
  | succ j ih =>
    intro k v u h
    unfold lsX5_walk_16
    repeat' split
    all_goals first
      | exact h
      | exact ih _ _ _ h
      | exact ih _ _ _ (zTs_set (sX5_readMeter_S (zin_lt (by assumption)) h) (Or.inl (by omega)) (by omega))
theorem sX5_walk_S {N b q : Nat} (hq : q < 4) {t : zM} (h : zTs N b t) : zTs N b (sX5_walk b t q) := lsX5_walk_16_S hq t _ _ _ _ h
def lsX5_endYear_20 (b : Nat) (t : zM) : Nat → Nat → zM → zM
  | 0, _, u => u
  | j + 1, k, u => (if 24 ≤ nI k then u else (if (u (b + 2 + k) 6) < (u (b + 37) 2) then (lsX5_endYear_20 b t j (k + 1) u) else (lsX5_endYear_20 b t j (k + 1) (zset (zset (zset (zset u (b + 2 + k) 6 ((u (b + 2 + k) 6) - 100)) (b + 2 + k) 12 ((u (b + 2 + k) 12) + 1)) (b) 10 ((u (b) 10) + 1)) (b) 11 ((u (b) 11) + (u (b + 37) 1))))))
def sX5_endYear (b : Nat) (t : zM)  : zM := (lsX5_endYear_20 b t 25 0 (zset t (b) 12 ((t (b) 12) + 1)))
theorem mX5_endYear_f80 : Cond.fieldLink RX5 80 "WrongedMeters$Town" "years" "I" ∈ wsX5_endYear := by decide +kernel
set_option maxRecDepth 20000 in
theorem mX5_endYear_in5 : ∀ w ∈ u_ws RX5 TX5 13, w ∈ wsX5_endYear := by decide +kernel
theorem mX5_endYear_f11 : Cond.fieldLink RX5 11 "WrongedMeters$Town" "houses" "[LWrongedMeters$House;" ∈ wsX5_endYear := by decide +kernel
set_option maxRecDepth 20000 in
theorem mX5_endYear_in1 : ∀ w ∈ u_ws RX1 TX1 14, w ∈ wsX5_endYear := by decide +kernel
theorem mX5_endYear_f30 : Cond.fieldLink RX5 30 "WrongedMeters$Town" "settings" "[I" ∈ wsX5_endYear := by decide +kernel
theorem mX5_endYear_f74 : Cond.fieldLink RX5 74 "WrongedMeters$Town" "refunds" "I" ∈ wsX5_endYear := by decide +kernel
theorem mX5_endYear_f77 : Cond.fieldLink RX5 77 "WrongedMeters$Town" "coinsBack" "I" ∈ wsX5_endYear := by decide +kernel
theorem hyX5_endYear : yX5_endYear.cls = RX5 ∧ yX5_endYear.cls ≠ "java/lang/invoke/MethodHandle" ∧ yX5_endYear.cls ≠ "java/lang/invoke/VarHandle" ∧ (parseMethodDescriptor yX5_endYear.desc).map (fun d => d.parameters.length) = some 0 := by decide +kernel
set_option maxHeartbeats 3000000 in
set_option maxRecDepth 100000 in
theorem kX5_endYear (l : Launch) (D : va_G) (cy : Nat → ClassId) (K : zK) (n : Nat) (ad : Nat → Nat) (hJ : zJ n ad) (b : Nat) (hO : zTown cy K n ad b) (t : zM)   : zV l yX5_endYear wsX5_endYear 0 D cy K n ad t [.ref (ad (b))] (fun t1 => t1 = sX5_endYear b t) := by
  refine z_startV (cc := cX5_endYear) (mL := 5) (ret := none) (own := RX5) rfl (by decide +kernel) rfl hJ (Nat.le_of_ble_eq_true rfl) ?_
  intro p e s m args below meth c A hA Q hQ C
  refine z_aload_n C 0 0 0 dX5_endYear_0 rfl rfl ?_
  refine z_dup C 1 dX5_endYear_1 rfl ?_
  refine z_geti C 2 (b) 12 dX5_endYear_2 hO.h0 hO.e0 mX5_endYear_in5 rfl (by decide) mX5_endYear_f80 (fun _ => rfl) ?_
  refine z_iconst C 5 (v := 1) dX5_endYear_5 (by decide +kernel) ?_
  refine z_iadd C 6 dX5_endYear_6 ?_
  refine z_put C 7 (ty := .int) (b) 12 dX5_endYear_7 hO.h0 hO.e0 mX5_endYear_in5 tyX5 tyX5_ok nmX5 rfl (by decide) mX5_endYear_f80 rfl (by decide +kernel) (vp_nar_int _) (zfit_i _) (fun _ => Nat.le_of_ble_eq_true rfl) (fun _ _ => rfl) ?_
  refine z_aload_n C 10 0 0 dX5_endYear_10 rfl rfl ?_
  refine z_getr C 11 (a9 := ad (b + 1)) (b) 0 dX5_endYear_11 hO.h0 hO.e0 mX5_endYear_in5 rfl (by decide) mX5_endYear_f11 (fun _ => rfl) ?_
  refine z_astore_n C 14 1 ([(1, .ref (ad (b + 1))), (0, .ref (ad (b)))]) dX5_endYear_14 rfl (by decide) rfl ?_
  refine z_aload_n C 15 1 0 dX5_endYear_15 rfl rfl ?_
  refine z_alen C 16 (v := 24) (b + 1) 1 dX5_endYear_16 hO.h1 hO.e1 rfl (show Int32.ofNat 24 = 24 from rfl) ?_
  refine z_istore_n C 17 2 ([(2, .int 24), (1, .ref (ad (b + 1))), (0, .ref (ad (b)))]) dX5_endYear_17 rfl (by decide) rfl ?_
  refine z_iconst C 18 (v := 0) dX5_endYear_18 (by decide +kernel) ?_
  refine z_istore_n C 19 3 ([(3, .int 0), (2, .int 24), (1, .ref (ad (b + 1))), (0, .ref (ad (b)))]) dX5_endYear_19 rfl (by decide) rfl ?_
  have L20 : ∀ (j : Nat) (k : Nat) (u : zM), (h0_20 : 25 ≤ k + j) → (hk : k ≤ 24) → (hS20 : sX5_endYear b t = (lsX5_endYear_20 b t j k u)) → Zw p l e (zR 0) s m args below meth c D A K n ad 5 Q 20 ([(3, .int (nI k)), (2, .int 24), (1, .ref (ad (b + 1))), (0, .ref (ad (b)))]) [] u := by
    intro j
    induction j with
    | zero =>
      intro k u h0_20 hk hS20
      exact absurd h0_20 (by omega)
    | succ j ih20 =>
      intro k u h0_20 hk hS20
      refine z_iload_n C 20 3 0 dX5_endYear_20 rfl rfl ?_
      refine z_iload_n C 21 2 1 dX5_endYear_21 rfl rfl ?_
      refine z_icmp_ge C 22 98 dX5_endYear_22 (by decide) (fun c22_1 => ?_) (fun c22_1 => ?_)
      · exact z_vret C 98 hA hQ rfl dX5_endYear_98 ((hS20.trans ((if_pos c22_1).trans rfl))).symm
      · refine z_aload_n C 25 1 2 dX5_endYear_25 rfl rfl ?_
        refine z_iload_n C 26 3 0 dX5_endYear_26 rfl rfl ?_
        refine z_aald C 27 (b + 1) 1 k (ad (b + 2 + k)) dX5_endYear_27 hO.h1 hO.e1 rfl rfl (zge (b := 24) (by omega) (by decide) ‹¬ (24 : Int32) ≤ nI k›) (by decide) rfl ?_
        refine z_astore C 28 4 ([(4, .ref (ad (b + 2 + k))), (3, .int (nI k)), (2, .int 24), (1, .ref (ad (b + 1))), (0, .ref (ad (b)))]) dX5_endYear_28 (by decide) rfl ?_
        refine z_aload C 30 4 0 dX5_endYear_30 rfl ?_
        refine z_getiN C 32 (b + 2 + k) 6 dX5_endYear_32 (hO.hou (zge (b := 24) (by omega) (by decide) ‹¬ (24 : Int32) ≤ nI k›)).1 (hO.hou (zge (b := 24) (by omega) (by decide) ‹¬ (24 : Int32) ≤ nI k›)).2 mX5_endYear_in1 rfl (by decide) nst_f5_165 (fun _ => rfl) ?_
        refine z_aload_n C 35 0 4 dX5_endYear_35 rfl rfl ?_
        refine z_getr C 36 (a9 := ad (b + 37)) (b) 3 dX5_endYear_36 hO.h0 hO.e0 mX5_endYear_in5 rfl (by decide) mX5_endYear_f30 (fun _ => rfl) ?_
        refine z_iconst C 39 (v := 2) dX5_endYear_39 (by decide +kernel) ?_
        refine z_ialdN C 40 (b + 37) 2 dX5_endYear_40 hO.h37 hO.e37 rfl (by decide) (by decide) ?_
        refine z_icmp_lt C 41 92 dX5_endYear_41 (by decide) (fun c41_2 => ?_) (fun c41_2 => ?_)
        · refine z_iinc C 92 (v := nI (k + 1)) 3 1 ([(3, .int (nI (k + 1))), (4, .ref (ad (b + 2 + k))), (2, .int 24), (1, .ref (ad (b + 1))), (0, .ref (ad (b)))]) dX5_endYear_92 rfl (nI_1 _) (by decide) rfl ?_
          refine z_goto C 95 20 dX5_endYear_95 (by decide) ?_
          refine z_ls [0, 2, 3, 4] _ rfl ?_
          exact ih20 (k + 1) u (by omega) (by have := zge (b := 24) (by omega) (by decide) ‹¬ (24 : Int32) ≤ nI k›; omega) (hS20.trans ((if_neg c22_1).trans ((if_pos c41_2).trans rfl)))
        · refine z_aload C 44 4 0 dX5_endYear_44 rfl ?_
          refine z_dup C 46 dX5_endYear_46 rfl ?_
          refine z_getiN C 47 (b + 2 + k) 6 dX5_endYear_47 (hO.hou (zge (b := 24) (by omega) (by decide) ‹¬ (24 : Int32) ≤ nI k›)).1 (hO.hou (zge (b := 24) (by omega) (by decide) ‹¬ (24 : Int32) ≤ nI k›)).2 mX5_endYear_in1 rfl (by decide) nst_f5_165 (fun _ => rfl) ?_
          refine z_bipush C 50 (v := 100) dX5_endYear_50 (by decide +kernel) ?_
          refine z_isub C 52 dX5_endYear_52 ?_
          refine z_putN C 53 (ty := .int) (b + 2 + k) 6 dX5_endYear_53 (hO.hou (zge (b := 24) (by omega) (by decide) ‹¬ (24 : Int32) ≤ nI k›)).1 (hO.hou (zge (b := 24) (by omega) (by decide) ‹¬ (24 : Int32) ≤ nI k›)).2 mX5_endYear_in1 tyX1 tyX1_ok nmX1 rfl (by decide) nst_f5_165 rfl (by decide +kernel) (vp_nar_int _) (zfit_i _) (fun _ => Nat.le_of_ble_eq_true rfl) (fun _ _ => rfl) ?_
          refine z_aload C 56 4 0 dX5_endYear_56 rfl ?_
          refine z_dup C 58 dX5_endYear_58 rfl ?_
          refine z_getiN C 59 (b + 2 + k) 12 dX5_endYear_59 (hO.hou (zge (b := 24) (by omega) (by decide) ‹¬ (24 : Int32) ≤ nI k›)).1 (hO.hou (zge (b := 24) (by omega) (by decide) ‹¬ (24 : Int32) ≤ nI k›)).2 mX5_endYear_in1 rfl (by decide) nst_f5_194 (fun _ => rfl) ?_
          refine z_nv (u (b + 2 + k) 12) ((zset_nk _ _ _ (by decide)).trans rfl) ?_
          refine z_iconst C 62 (v := 1) dX5_endYear_62 (by decide +kernel) ?_
          refine z_iadd C 63 dX5_endYear_63 ?_
          refine z_putN C 64 (ty := .int) (b + 2 + k) 12 dX5_endYear_64 (hO.hou (zge (b := 24) (by omega) (by decide) ‹¬ (24 : Int32) ≤ nI k›)).1 (hO.hou (zge (b := 24) (by omega) (by decide) ‹¬ (24 : Int32) ≤ nI k›)).2 mX5_endYear_in1 tyX1 tyX1_ok nmX1 rfl (by decide) nst_f5_194 rfl (by decide +kernel) (vp_nar_int _) (zfit_i _) (fun _ => Nat.le_of_ble_eq_true rfl) (fun _ _ => rfl) ?_
          refine z_aload_n C 67 0 4 dX5_endYear_67 rfl rfl ?_
          refine z_dup C 68 dX5_endYear_68 rfl ?_
          refine z_geti C 69 (b) 10 dX5_endYear_69 hO.h0 hO.e0 mX5_endYear_in5 rfl (by decide) mX5_endYear_f74 (fun _ => rfl) ?_
          refine z_nv (u (b) 10) ((zset_idk _ _ _ _ (by omega)).trans ((zset_idk _ _ _ _ (by omega)).trans rfl)) ?_
          refine z_iconst C 72 (v := 1) dX5_endYear_72 (by decide +kernel) ?_
          refine z_iadd C 73 dX5_endYear_73 ?_
          refine z_put C 74 (ty := .int) (b) 10 dX5_endYear_74 hO.h0 hO.e0 mX5_endYear_in5 tyX5 tyX5_ok nmX5 rfl (by decide) mX5_endYear_f74 rfl (by decide +kernel) (vp_nar_int _) (zfit_i _) (fun _ => Nat.le_of_ble_eq_true rfl) (fun _ _ => rfl) ?_
          refine z_aload_n C 77 0 4 dX5_endYear_77 rfl rfl ?_
          refine z_dup C 78 dX5_endYear_78 rfl ?_
          refine z_geti C 79 (b) 11 dX5_endYear_79 hO.h0 hO.e0 mX5_endYear_in5 rfl (by decide) mX5_endYear_f77 (fun _ => rfl) ?_
          refine z_nv (u (b) 11) ((zset_nk _ _ _ (by decide)).trans ((zset_idk _ _ _ _ (by omega)).trans ((zset_idk _ _ _ _ (by omega)).trans rfl))) ?_
          refine z_aload_n C 82 0 4 dX5_endYear_82 rfl rfl ?_
          refine z_getr C 83 (a9 := ad (b + 37)) (b) 3 dX5_endYear_83 hO.h0 hO.e0 mX5_endYear_in5 rfl (by decide) mX5_endYear_f30 (fun _ => rfl) ?_
          refine z_iconst C 86 (v := 1) dX5_endYear_86 (by decide +kernel) ?_
          refine z_ialdN C 87 (b + 37) 1 dX5_endYear_87 hO.h37 hO.e37 rfl (by decide) (by decide) ?_
          refine z_nv (u (b + 37) 1) ((zset_idk _ _ _ _ (by omega)).trans ((zset_idk _ _ _ _ (by omega)).trans ((zset_idk _ _ _ _ (by omega)).trans rfl))) ?_
          refine z_iadd C 88 dX5_endYear_88 ?_
          refine z_put C 89 (ty := .int) (b) 11 dX5_endYear_89 hO.h0 hO.e0 mX5_endYear_in5 tyX5 tyX5_ok nmX5 rfl (by decide) mX5_endYear_f77 rfl (by decide +kernel) (vp_nar_int _) (zfit_i _) (fun _ => Nat.le_of_ble_eq_true rfl) (fun _ _ => rfl) ?_
          refine z_iinc C 92 (v := nI (k + 1)) 3 1 ([(3, .int (nI (k + 1))), (4, .ref (ad (b + 2 + k))), (2, .int 24), (1, .ref (ad (b + 1))), (0, .ref (ad (b)))]) dX5_endYear_92 rfl (nI_1 _) (by decide) rfl ?_
          refine z_goto C 95 20 dX5_endYear_95 (by decide) ?_
          refine z_ls [0, 2, 3, 4] _ rfl ?_
          exact ih20 (k + 1) (zset (zset (zset (zset u (b + 2 + k) 6 ((u (b + 2 + k) 6) - 100)) (b + 2 + k) 12 ((u (b + 2 + k) 12) + 1)) (b) 10 ((u (b) 10) + 1)) (b) 11 ((u (b) 11) + (u (b + 37) 1))) (by omega) (by have := zge (b := 24) (by omega) (by decide) ‹¬ (24 : Int32) ≤ nI k›; omega) (hS20.trans ((if_neg c22_1).trans ((if_neg c41_2).trans rfl)))
  refine z_ls [0, 1, 2, 3] _ rfl ?_
  exact L20 (25) 0 (zset t (b) 12 ((t (b) 12) + 1)) (by omega) (by decide) rfl
theorem lsX5_endYear_20_S {N b : Nat} (t : zM) : ∀ (j k : Nat) (u : zM), k ≤ 24 → zTs N b u → zTs N b (lsX5_endYear_20 b t j k u) := by
  intro j
  induction j with
  | zero => intro k u hk h; exact h
  | succ j ih =>
    intro k u hk h
    unfold lsX5_endYear_20
    split
    · exact h
    · have hk2 : k < 24 := (zge (b := 24) (by omega) (by decide) ‹¬ (24 : Int32) ≤ nI k›)
      split
      · exact ih _ _ (by omega) h
      · exact ih _ _ (by omega) (zTs_set (zTs_set (zTs_set (zTs_set h (Or.inl (by omega)) (by omega)) (Or.inl (by omega)) (by omega)) (Or.inr ⟨by decide, by decide⟩) (by omega)) (Or.inr ⟨by decide, by decide⟩) (by omega))
theorem sX5_endYear_S {N b : Nat} {t : zM} (h : zTs N b t) : zTs N b (sX5_endYear b t) := lsX5_endYear_20_S t _ _ _ (by decide) (zTs_set h (Or.inr ⟨by decide, by decide⟩) (by omega))
theorem kX5_streetNumbered_N (l : Launch) (D : va_G) (cy : Nat → ClassId) (K : zK) (n : Nat) (ad : Nat → Nat) (hJ : zJ n ad) (b : Nat) (hO : zTown cy K n ad b) (t : zM) (q : Nat) (hq : q < 4) : zQ l yX5_streetNumbered wsX5_streetNumbered 0 D cy K n ad t [.ref (ad (b)), .int (nI q)] (fun o t1 => o = some (ad (b + 27 + 2 * q)) ∧ t1 = t) := by
  have h := kX5_streetNumbered l D cy K n ad hJ b hO t (nI q)
  rw [if_pos (⟨nI_pos (by omega), (nI_ltI (b := 4) (by omega) (by decide)).mpr hq⟩ : zis (nI q)), nI_clamp (by omega)] at h
  exact h
def lsX5_passDays_26 (b : Nat) (t : zM) (M : Nat) (N : Nat) : Nat → Nat → zM → zM
  | 0, _, w => w
  | j2 + 1, i, w => (if 24 ≤ nI i then w else (lsX5_passDays_26 b t M N j2 (i + 1) (sX1_goOn (b + 2 + i) w)))
def lX5_passDays_7 (b : Nat) (t : zM) (M : Nat) (N : Nat) : Nat → Nat → zM → Int32
  | 0, _, _ => 0
  | j + 1, k, u => (if nI M ≤ nI k then ((u (b) 6) - (t (b) 6)) else (if ((sX5_walk (b) (zset (lsX5_passDays_26 b t M N 25 0 u) (b) 5 (((lsX5_passDays_26 b t M N 25 0 u) (b) 5) + 1)) (((N + k + 1) % 4))) (b + 37) 3) ≤ 0 then (lX5_passDays_7 b t M N j (k + 1) (sX5_walk (b) (zset (lsX5_passDays_26 b t M N 25 0 u) (b) 5 (((lsX5_passDays_26 b t M N 25 0 u) (b) 5) + 1)) (((N + k + 1) % 4)))) else (if (zrem ((sX5_walk (b) (zset (lsX5_passDays_26 b t M N 25 0 u) (b) 5 (((lsX5_passDays_26 b t M N 25 0 u) (b) 5) + 1)) (((N + k + 1) % 4))) (b) 5) ((sX5_walk (b) (zset (lsX5_passDays_26 b t M N 25 0 u) (b) 5 (((lsX5_passDays_26 b t M N 25 0 u) (b) 5) + 1)) (((N + k + 1) % 4))) (b + 37) 3)) = 0 then (lX5_passDays_7 b t M N j (k + 1) (sX5_endYear (b) (sX5_walk (b) (zset (lsX5_passDays_26 b t M N 25 0 u) (b) 5 (((lsX5_passDays_26 b t M N 25 0 u) (b) 5) + 1)) (((N + k + 1) % 4))))) else (lX5_passDays_7 b t M N j (k + 1) (sX5_walk (b) (zset (lsX5_passDays_26 b t M N 25 0 u) (b) 5 (((lsX5_passDays_26 b t M N 25 0 u) (b) 5) + 1)) (((N + k + 1) % 4)))))))
def lsX5_passDays_7 (b : Nat) (t : zM) (M : Nat) (N : Nat) : Nat → Nat → zM → zM
  | 0, _, u => u
  | j + 1, k, u => (if nI M ≤ nI k then u else (if ((sX5_walk (b) (zset (lsX5_passDays_26 b t M N 25 0 u) (b) 5 (((lsX5_passDays_26 b t M N 25 0 u) (b) 5) + 1)) (((N + k + 1) % 4))) (b + 37) 3) ≤ 0 then (lsX5_passDays_7 b t M N j (k + 1) (sX5_walk (b) (zset (lsX5_passDays_26 b t M N 25 0 u) (b) 5 (((lsX5_passDays_26 b t M N 25 0 u) (b) 5) + 1)) (((N + k + 1) % 4)))) else (if (zrem ((sX5_walk (b) (zset (lsX5_passDays_26 b t M N 25 0 u) (b) 5 (((lsX5_passDays_26 b t M N 25 0 u) (b) 5) + 1)) (((N + k + 1) % 4))) (b) 5) ((sX5_walk (b) (zset (lsX5_passDays_26 b t M N 25 0 u) (b) 5 (((lsX5_passDays_26 b t M N 25 0 u) (b) 5) + 1)) (((N + k + 1) % 4))) (b + 37) 3)) = 0 then (lsX5_passDays_7 b t M N j (k + 1) (sX5_endYear (b) (sX5_walk (b) (zset (lsX5_passDays_26 b t M N 25 0 u) (b) 5 (((lsX5_passDays_26 b t M N 25 0 u) (b) 5) + 1)) (((N + k + 1) % 4))))) else (lsX5_passDays_7 b t M N j (k + 1) (sX5_walk (b) (zset (lsX5_passDays_26 b t M N 25 0 u) (b) 5 (((lsX5_passDays_26 b t M N 25 0 u) (b) 5) + 1)) (((N + k + 1) % 4)))))))
def rX5_passDays (b : Nat) (t : zM) (M : Nat) (N : Nat) : Int32 := (lX5_passDays_7 b t M N (M + 1) 0 t)
def sX5_passDays (b : Nat) (t : zM) (M : Nat) (N : Nat) : zM := (lsX5_passDays_7 b t M N (M + 1) 0 t)
theorem lsX5_passDays_26_S {K b : Nat} (t : zM) (M N : Nat) : ∀ (j i : Nat) (u : zM), i ≤ 24 → zTs K b u → zTs K b (lsX5_passDays_26 b t M N j i u) := by
  intro j
  induction j with
  | zero => intro i u hi h; exact h
  | succ j ih =>
    intro i u hi h
    unfold lsX5_passDays_26
    split
    · exact h
    · have hk2 : i < 24 := zge (b := 24) (by omega) (by decide) ‹¬ (24 : Int32) ≤ nI i›
      exact ih _ _ (by omega) (zTs_fr h (sX1_goOn_o _ _ (by omega)) (sX1_goOn_o _ _ (by omega)))
theorem mX5_passDays_f62 : Cond.fieldLink RX5 62 "WrongedMeters$Town" "readings" "I" ∈ wsX5_passDays := by decide +kernel
set_option maxRecDepth 20000 in
theorem mX5_passDays_in5 : ∀ w ∈ u_ws RX5 TX5 13, w ∈ wsX5_passDays := by decide +kernel
theorem mX5_passDays_f11 : Cond.fieldLink RX5 11 "WrongedMeters$Town" "houses" "[LWrongedMeters$House;" ∈ wsX5_passDays := by decide +kernel
theorem mX5_passDays_f59 : Cond.fieldLink RX5 59 "WrongedMeters$Town" "now" "I" ∈ wsX5_passDays := by decide +kernel
theorem mX5_passDays_f30 : Cond.fieldLink RX5 30 "WrongedMeters$Town" "settings" "[I" ∈ wsX5_passDays := by decide +kernel
theorem hyX5_passDays : yX5_passDays.cls = RX5 ∧ yX5_passDays.cls ≠ "java/lang/invoke/MethodHandle" ∧ yX5_passDays.cls ≠ "java/lang/invoke/VarHandle" ∧ (parseMethodDescriptor yX5_passDays.desc).map (fun d => d.parameters.length) = some 1 := by decide +kernel
set_option maxHeartbeats 3000000 in
set_option maxRecDepth 100000 in
theorem kX5_passDays (l : Launch) (D : va_G) (cy : Nat → ClassId) (K : zK) (n : Nat) (ad : Nat → Nat) (hJ : zJ n ad) (b : Nat) (hO : zTown cy K n ad b) (t : zM) (M N : Nat) (hM : M ≤ 99) (hN : N ≤ 20000) (hs : zTs N b t) : zI l yX5_passDays wsX5_passDays 3 D cy K n ad t [.ref (ad (b)), .int (nI M)] (fun r t1 => r = rX5_passDays b t M N ∧ t1 = sX5_passDays b t M N) := by
  refine z_startI (cc := cX5_passDays) (mL := 8) (ret := (some .int)) (own := RX5) rfl (by decide +kernel) rfl hJ (Nat.le_of_ble_eq_true rfl) ?_
  intro p e s m args below meth c A hA Q hQ C
  refine z_aload_n C 0 0 0 dX5_passDays_0 rfl rfl ?_
  refine z_geti C 1 (b) 6 dX5_passDays_1 hO.h0 hO.e0 mX5_passDays_in5 rfl (by decide) mX5_passDays_f62 (fun _ => rfl) ?_
  refine z_istore_n C 4 2 ([(2, .int (t (b) 6)), (0, .ref (ad (b))), (1, .int (nI M))]) dX5_passDays_4 rfl (by decide) rfl ?_
  refine z_iconst C 5 (v := 0) dX5_passDays_5 (by decide +kernel) ?_
  refine z_istore_n C 6 3 ([(3, .int 0), (2, .int (t (b) 6)), (0, .ref (ad (b))), (1, .int (nI M))]) dX5_passDays_6 rfl (by decide) rfl ?_
  have L7 : ∀ (j : Nat) (k : Nat) (u : zM), (h0_7 : (M + 1) ≤ k + j) → (hk : k ≤ M) → (hs : zTs (N + k) b u) → (hI7 : rX5_passDays b t M N = (lX5_passDays_7 b t M N j k u)) → (hS7 : sX5_passDays b t M N = (lsX5_passDays_7 b t M N j k u)) → Zw p l e (zR 3) s m args below meth c D A K n ad 8 Q 7 ([(3, .int (nI k)), (2, .int (t (b) 6)), (0, .ref (ad (b))), (1, .int (nI M))]) [] u := by
    intro j
    induction j with
    | zero =>
      intro k u h0_7 hk hs hI7 hS7
      exact absurd h0_7 (by omega)
    | succ j ih7 =>
      intro k u h0_7 hk hs hI7 hS7
      refine z_iload_n C 7 3 0 dX5_passDays_7 rfl rfl ?_
      refine z_iload_n C 8 1 3 dX5_passDays_8 rfl rfl ?_
      refine z_icmp_ge C 9 117 dX5_passDays_9 (by decide) (fun c9_1 => ?_) (fun c9_1 => ?_)
      · refine z_aload_n C 117 0 2 dX5_passDays_117 rfl rfl ?_
        refine z_geti C 118 (b) 6 dX5_passDays_118 hO.h0 hO.e0 mX5_passDays_in5 rfl (by decide) mX5_passDays_f62 (fun _ => rfl) ?_
        refine z_iload_n C 121 2 1 dX5_passDays_121 rfl rfl ?_
        refine z_isub C 122 dX5_passDays_122 ?_
        exact z_iret C 123 hA hQ rfl dX5_passDays_123 ⟨((hI7.trans ((if_pos c9_1).trans rfl))).symm, ((hS7.trans ((if_pos c9_1).trans rfl))).symm⟩
      · refine z_aload_n C 12 0 2 dX5_passDays_12 rfl rfl ?_
        refine z_getr C 13 (a9 := ad (b + 1)) (b) 0 dX5_passDays_13 hO.h0 hO.e0 mX5_passDays_in5 rfl (by decide) mX5_passDays_f11 (fun _ => rfl) ?_
        refine z_astore C 16 4 ([(4, .ref (ad (b + 1))), (3, .int (nI k)), (2, .int (t (b) 6)), (0, .ref (ad (b))), (1, .int (nI M))]) dX5_passDays_16 (by decide) rfl ?_
        refine z_aload C 18 4 0 dX5_passDays_18 rfl ?_
        refine z_alen C 20 (v := 24) (b + 1) 1 dX5_passDays_20 hO.h1 hO.e1 rfl (show Int32.ofNat 24 = 24 from rfl) ?_
        refine z_istore C 21 5 ([(5, .int 24), (4, .ref (ad (b + 1))), (3, .int (nI k)), (2, .int (t (b) 6)), (0, .ref (ad (b))), (1, .int (nI M))]) dX5_passDays_21 (by decide) rfl ?_
        refine z_iconst C 23 (v := 0) dX5_passDays_23 (by decide +kernel) ?_
        refine z_istore C 24 6 ([(6, .int 0), (5, .int 24), (4, .ref (ad (b + 1))), (3, .int (nI k)), (2, .int (t (b) 6)), (0, .ref (ad (b))), (1, .int (nI M))]) dX5_passDays_24 (by decide) rfl ?_
        have K26 : Zw p l e (zR 3) s m args below meth c D A K n ad 8 Q 51 ([(3, .int (nI k)), (2, .int (t (b) 6)), (0, .ref (ad (b))), (1, .int (nI M))]) [] (lsX5_passDays_26 b t M N 25 0 u) := by
          refine z_aload_n C 51 0 2 dX5_passDays_51 rfl rfl ?_
          refine z_dup C 52 dX5_passDays_52 rfl ?_
          refine z_geti C 53 (b) 5 dX5_passDays_53 hO.h0 hO.e0 mX5_passDays_in5 rfl (by decide) mX5_passDays_f59 (fun _ => rfl) ?_
          refine z_iconst C 56 (v := 1) dX5_passDays_56 (by decide +kernel) ?_
          refine z_iadd C 57 dX5_passDays_57 ?_
          refine z_put C 58 (ty := .int) (b) 5 dX5_passDays_58 hO.h0 hO.e0 mX5_passDays_in5 tyX5 tyX5_ok nmX5 rfl (by decide) mX5_passDays_f59 rfl (by decide +kernel) (vp_nar_int _) (zfit_i _) (fun _ => Nat.le_of_ble_eq_true rfl) (fun _ _ => rfl) ?_
          refine z_aload_n C 61 0 2 dX5_passDays_61 rfl rfl ?_
          refine z_aload_n C 62 0 2 dX5_passDays_62 rfl rfl ?_
          refine z_geti C 63 (b) 5 dX5_passDays_63 hO.h0 hO.e0 mX5_passDays_in5 rfl (by decide) mX5_passDays_f59 (fun _ => rfl) ?_
          refine z_nv (((lsX5_passDays_26 b t M N 25 0 u) (b) 5) + 1) (zset_eq _ _ _ _) ?_
          refine z_iconst C 66 (v := 4) dX5_passDays_66 (by decide +kernel) ?_
          refine z_irem C 67 dX5_passDays_67 (by decide) ?_
          refine z_nv (nI ((N + k + 1) % 4)) (by rw [(lsX5_passDays_26_S t M N 25 0 u (by decide) hs).1]; show zrem (nI (N + k) + 1) (nI 4) = _; rw [nI_1, zrem_n (by omega) (by decide) (by decide)]) ?_
          refine z_virtQ C 68 (As := [.int (nI ((N + k + 1) % 4))]) (st := []) (id := b) (kX5_streetNumbered_N l D cy K n ad hJ (b) hO (zset (lsX5_passDays_26 b t M N 25 0 u) (b) 5 (((lsX5_passDays_26 b t M N 25 0 u) (b) 5) + 1)) ((N + k + 1) % 4) (by omega)) dX5_passDays_68 rfl gX5_passDays_X5_streetNumbered hyX5_streetNumbered rfl (by decide) (by decide) hO.h0 rfl hO.e0 rfl rfl rfl (Nat.le_of_ble_eq_true rfl) (fun r68_2 t68_2 h68_2 => ?_)
          obtain ⟨e9, e8⟩ := h68_2; subst e9; subst e8
          refine z_cast (st2 := [.ref (ad (b + 27 + 2 * ((N + k + 1) % 4)))]) rfl ?_
          refine z_astore C 71 4 ([(4, .ref (ad (b + 27 + 2 * ((N + k + 1) % 4)))), (3, .int (nI k)), (2, .int (t (b) 6)), (0, .ref (ad (b))), (1, .int (nI M))]) dX5_passDays_71 (by decide) rfl ?_
          refine z_aload C 73 4 0 dX5_passDays_73 rfl ?_
          refine z_ifnull C 75 dX5_passDays_75 ?_
          refine z_aload_n C 78 0 3 dX5_passDays_78 rfl rfl ?_
          refine z_aload C 79 4 0 dX5_passDays_79 rfl ?_
          refine z_virtVe C 81 (As := [.ref (ad (b + 27 + 2 * ((N + k + 1) % 4)))]) (st := []) (id := b) (kX5_walk l D cy K n ad hJ (b) hO (zset (lsX5_passDays_26 b t M N 25 0 u) (b) 5 (((lsX5_passDays_26 b t M N 25 0 u) (b) 5) + 1)) (((N + k + 1) % 4)) (N + k + 1) (by omega) (zTs_now (lsX5_passDays_26_S t M N 25 0 u (by decide) hs))) dX5_passDays_81 rfl gX5_passDays_X5_walk hyX5_walk rfl (by decide) (by decide) hO.h0 rfl hO.e0 rfl rfl rfl (Nat.le_of_ble_eq_true rfl) ?_
          refine z_aload_n C 84 0 3 dX5_passDays_84 rfl rfl ?_
          refine z_getr C 85 (a9 := ad (b + 37)) (b) 3 dX5_passDays_85 hO.h0 hO.e0 mX5_passDays_in5 rfl (by decide) mX5_passDays_f30 (fun _ => rfl) ?_
          refine z_iconst C 88 (v := 3) dX5_passDays_88 (by decide +kernel) ?_
          refine z_ialdN C 89 (b + 37) 3 dX5_passDays_89 hO.h37 hO.e37 rfl (by decide) (by decide) ?_
          refine z_istore C 90 5 ([(5, .int ((sX5_walk (b) (zset (lsX5_passDays_26 b t M N 25 0 u) (b) 5 (((lsX5_passDays_26 b t M N 25 0 u) (b) 5) + 1)) (((N + k + 1) % 4))) (b + 37) 3)), (4, .ref (ad (b + 27 + 2 * ((N + k + 1) % 4)))), (3, .int (nI k)), (2, .int (t (b) 6)), (0, .ref (ad (b))), (1, .int (nI M))]) dX5_passDays_90 (by decide) rfl ?_
          refine z_iload C 92 5 0 dX5_passDays_92 rfl ?_
          refine z_if_le C 94 111 dX5_passDays_94 (by decide) (fun c94_4 => ?_) (fun c94_4 => ?_)
          · refine z_iinc C 111 (v := nI (k + 1)) 3 2 ([(3, .int (nI (k + 1))), (5, .int ((sX5_walk (b) (zset (lsX5_passDays_26 b t M N 25 0 u) (b) 5 (((lsX5_passDays_26 b t M N 25 0 u) (b) 5) + 1)) (((N + k + 1) % 4))) (b + 37) 3)), (4, .ref (ad (b + 27 + 2 * ((N + k + 1) % 4)))), (2, .int (t (b) 6)), (0, .ref (ad (b))), (1, .int (nI M))]) dX5_passDays_111 rfl (nI_1 _) (by decide) rfl ?_
            refine z_goto C 114 7 dX5_passDays_114 (by decide) ?_
            refine z_ls [0, 3, 4, 5] _ rfl ?_
            exact ih7 (k + 1) (sX5_walk (b) (zset (lsX5_passDays_26 b t M N 25 0 u) (b) 5 (((lsX5_passDays_26 b t M N 25 0 u) (b) 5) + 1)) (((N + k + 1) % 4))) (by omega) (by have := zge (by omega) (by omega) ‹¬ nI M ≤ nI k›; omega) (sX5_walk_S (by omega) (zTs_now (lsX5_passDays_26_S t M N 25 0 u (by decide) hs))) (hI7.trans ((if_neg c9_1).trans ((if_pos c94_4).trans rfl))) (hS7.trans ((if_neg c9_1).trans ((if_pos c94_4).trans rfl)))
          · refine z_aload_n C 97 0 4 dX5_passDays_97 rfl rfl ?_
            refine z_geti C 98 (b) 5 dX5_passDays_98 hO.h0 hO.e0 mX5_passDays_in5 rfl (by decide) mX5_passDays_f59 (fun _ => rfl) ?_
            refine z_iload C 101 5 0 dX5_passDays_101 rfl ?_
            refine z_irem C 103 dX5_passDays_103 (zne0 (by assumption)) ?_
            refine z_if_ne C 104 111 dX5_passDays_104 (by decide) (fun c104_5 => ?_) (fun c104_5 => ?_)
            · refine z_iinc C 111 (v := nI (k + 1)) 3 2 ([(3, .int (nI (k + 1))), (5, .int ((sX5_walk (b) (zset (lsX5_passDays_26 b t M N 25 0 u) (b) 5 (((lsX5_passDays_26 b t M N 25 0 u) (b) 5) + 1)) (((N + k + 1) % 4))) (b + 37) 3)), (4, .ref (ad (b + 27 + 2 * ((N + k + 1) % 4)))), (2, .int (t (b) 6)), (0, .ref (ad (b))), (1, .int (nI M))]) dX5_passDays_111 rfl (nI_1 _) (by decide) rfl ?_
              refine z_goto C 114 7 dX5_passDays_114 (by decide) ?_
              refine z_ls [0, 3, 4, 5] _ rfl ?_
              exact ih7 (k + 1) (sX5_walk (b) (zset (lsX5_passDays_26 b t M N 25 0 u) (b) 5 (((lsX5_passDays_26 b t M N 25 0 u) (b) 5) + 1)) (((N + k + 1) % 4))) (by omega) (by have := zge (by omega) (by omega) ‹¬ nI M ≤ nI k›; omega) (sX5_walk_S (by omega) (zTs_now (lsX5_passDays_26_S t M N 25 0 u (by decide) hs))) (hI7.trans ((if_neg c9_1).trans ((if_neg c94_4).trans ((if_neg c104_5).trans rfl)))) (hS7.trans ((if_neg c9_1).trans ((if_neg c94_4).trans ((if_neg c104_5).trans rfl))))
            · refine z_aload_n C 107 0 4 dX5_passDays_107 rfl rfl ?_
              refine z_virtVe C 108 (As := []) (st := []) (id := b) (kX5_endYear l D cy K n ad hJ (b) hO (sX5_walk (b) (zset (lsX5_passDays_26 b t M N 25 0 u) (b) 5 (((lsX5_passDays_26 b t M N 25 0 u) (b) 5) + 1)) (((N + k + 1) % 4)))  ) dX5_passDays_108 rfl gX5_passDays_X5_endYear hyX5_endYear rfl (by decide) (by decide) hO.h0 rfl hO.e0 rfl rfl rfl (Nat.le_of_ble_eq_true rfl) ?_
              refine z_iinc C 111 (v := nI (k + 1)) 3 2 ([(3, .int (nI (k + 1))), (5, .int ((sX5_walk (b) (zset (lsX5_passDays_26 b t M N 25 0 u) (b) 5 (((lsX5_passDays_26 b t M N 25 0 u) (b) 5) + 1)) (((N + k + 1) % 4))) (b + 37) 3)), (4, .ref (ad (b + 27 + 2 * ((N + k + 1) % 4)))), (2, .int (t (b) 6)), (0, .ref (ad (b))), (1, .int (nI M))]) dX5_passDays_111 rfl (nI_1 _) (by decide) rfl ?_
              refine z_goto C 114 7 dX5_passDays_114 (by decide) ?_
              refine z_ls [0, 3, 4, 5] _ rfl ?_
              exact ih7 (k + 1) (sX5_endYear (b) (sX5_walk (b) (zset (lsX5_passDays_26 b t M N 25 0 u) (b) 5 (((lsX5_passDays_26 b t M N 25 0 u) (b) 5) + 1)) (((N + k + 1) % 4)))) (by omega) (by have := zge (by omega) (by omega) ‹¬ nI M ≤ nI k›; omega) (sX5_endYear_S (sX5_walk_S (by omega) (zTs_now (lsX5_passDays_26_S t M N 25 0 u (by decide) hs)))) (hI7.trans ((if_neg c9_1).trans ((if_neg c94_4).trans ((if_pos c104_5).trans rfl)))) (hS7.trans ((if_neg c9_1).trans ((if_neg c94_4).trans ((if_pos c104_5).trans rfl))))
        have L26 : ∀ (j2 : Nat) (i : Nat) (w : zM), (h0_26 : 25 ≤ i + j2) → (hi : i ≤ 24) → (hS26 : (lsX5_passDays_26 b t M N 25 0 u) = (lsX5_passDays_26 b t M N j2 i w)) → Zw p l e (zR 3) s m args below meth c D A K n ad 8 Q 26 ([(6, .int (nI i)), (5, .int 24), (4, .ref (ad (b + 1))), (3, .int (nI k)), (2, .int (t (b) 6)), (0, .ref (ad (b))), (1, .int (nI M))]) [] w := by
          intro j2
          induction j2 with
          | zero =>
            intro i w h0_26 hi hS26
            exact absurd h0_26 (by omega)
          | succ j2 ih26 =>
            intro i w h0_26 hi hS26
            refine z_iload C 26 6 0 dX5_passDays_26 rfl ?_
            refine z_iload C 28 5 1 dX5_passDays_28 rfl ?_
            refine z_icmp_ge C 30 51 dX5_passDays_30 (by decide) (fun c30_7 => ?_) (fun c30_7 => ?_)
            · refine z_ls [3, 4, 5, 6] _ rfl ?_
              exact z_nt _ (hS26.trans ((if_pos c30_7).trans rfl)).symm K26
            · refine z_aload C 33 4 2 dX5_passDays_33 rfl ?_
              refine z_iload C 35 6 0 dX5_passDays_35 rfl ?_
              refine z_aald C 37 (b + 1) 1 i (ad (b + 2 + i)) dX5_passDays_37 hO.h1 hO.e1 rfl rfl (zge (b := 24) (by omega) (by decide) ‹¬ (24 : Int32) ≤ nI i›) (by decide) rfl ?_
              refine z_astore C 38 7 ([(7, .ref (ad (b + 2 + i))), (6, .int (nI i)), (5, .int 24), (4, .ref (ad (b + 1))), (3, .int (nI k)), (2, .int (t (b) 6)), (0, .ref (ad (b))), (1, .int (nI M))]) dX5_passDays_38 (by decide) rfl ?_
              refine z_aload C 40 7 0 dX5_passDays_40 rfl ?_
              refine z_virtVe C 42 (As := []) (st := []) (id := b + 2 + i) (kX1_goOn l D cy K n ad hJ (b + 2 + i) (hO.hou (zge (b := 24) (by omega) (by decide) ‹¬ (24 : Int32) ≤ nI i›)) w  ) dX5_passDays_42 rfl gX5_passDays_X1_goOn hyX1_goOn rfl (by decide) (by decide) (hO.hou (zge (b := 24) (by omega) (by decide) ‹¬ (24 : Int32) ≤ nI i›)).1 rfl (hO.hou (zge (b := 24) (by omega) (by decide) ‹¬ (24 : Int32) ≤ nI i›)).2 rfl rfl rfl (Nat.le_of_ble_eq_true rfl) ?_
              refine z_iinc C 45 (v := nI (i + 1)) 6 1 ([(6, .int (nI (i + 1))), (7, .ref (ad (b + 2 + i))), (5, .int 24), (4, .ref (ad (b + 1))), (3, .int (nI k)), (2, .int (t (b) 6)), (0, .ref (ad (b))), (1, .int (nI M))]) dX5_passDays_45 rfl (nI_1 _) (by decide) rfl ?_
              refine z_goto C 48 26 dX5_passDays_48 (by decide) ?_
              refine z_ls [0, 2, 3, 4, 5, 6, 7] _ rfl ?_
              exact ih26 (i + 1) (sX1_goOn (b + 2 + i) w) (by omega) (by have := zge (b := 24) (by omega) (by decide) ‹¬ (24 : Int32) ≤ nI i›; omega) (hS26.trans ((if_neg c30_7).trans rfl))
        refine z_ls [0, 1, 2, 3, 4, 5, 6] _ rfl ?_
        exact L26 (25) 0 u (by omega) (by decide) rfl
  refine z_ls [0, 1, 2, 3] _ rfl ?_
  exact L7 ((M + 1)) 0 t (by omega) (Nat.zero_le _) hs rfl rfl
theorem lsX5_passDays_7_S {b : Nat} (t : zM) (M N : Nat) : ∀ (j k : Nat) (u : zM), M + 1 ≤ k + j → k ≤ M → M ≤ 99 → zTs (N + k) b u → zTs (N + M) b (lsX5_passDays_7 b t M N j k u) := by
  intro j
  induction j with
  | zero => intro k u h0 hk hM h; omega
  | succ j ih =>
    intro k u h0 hk hM h
    unfold lsX5_passDays_7
    split
    · have : k = M := by have := zle (by omega) (by omega) ‹nI M ≤ nI k›; omega
      rw [← this]; exact h
    · have hk2 : k < M := zge (by omega) (by omega) ‹¬ nI M ≤ nI k›
      have h3 := sX5_walk_S (q := (N + k + 1) % 4) (by omega) (zTs_now (lsX5_passDays_26_S t M N 25 0 u (by decide) h))
      split
      · exact ih _ _ (by omega) (by omega) hM h3
      · split
        · exact ih _ _ (by omega) (by omega) hM (sX5_endYear_S h3)
        · exact ih _ _ (by omega) (by omega) hM h3
theorem sX5_passDays_S {b : Nat} {t : zM} {M N : Nat} (hM : M ≤ 99) (h : zTs N b t) : zTs (N + M) b (sX5_passDays b t M N) := lsX5_passDays_7_S t M N _ _ _ (by omega) (Nat.zero_le _) hM h
def lX5_housesAhead_5 (b : Nat) (t : zM) (a1 : Int32) (a2 : Int32) : Nat → Nat → Int32 → Int32
  | 0, _, _ => 0
  | j + 1, k, v => (if (t (b) 4) ≤ nI k then v else (if 24 ≤ nI k then v else (if a2 < (t (b + 2 + k) 6) then (lX5_housesAhead_5 b t a1 a2 j (k + 1) (v + 1)) else (if (t (b + 2 + k) 6) = a2 then (if a1 ≤ nI k then (lX5_housesAhead_5 b t a1 a2 j (k + 1) v) else (lX5_housesAhead_5 b t a1 a2 j (k + 1) (v + 1))) else (lX5_housesAhead_5 b t a1 a2 j (k + 1) v)))))
def rX5_housesAhead (b : Nat) (t : zM) (a1 : Int32) (a2 : Int32) : Int32 := (lX5_housesAhead_5 b t a1 a2 25 0 0)
theorem mX5_housesAhead_f55 : Cond.fieldLink RX5 55 "WrongedMeters$Town" "houseCount" "I" ∈ wsX5_housesAhead := by decide +kernel
set_option maxRecDepth 20000 in
theorem mX5_housesAhead_in5 : ∀ w ∈ u_ws RX5 TX5 13, w ∈ wsX5_housesAhead := by decide +kernel
theorem mX5_housesAhead_f11 : Cond.fieldLink RX5 11 "WrongedMeters$Town" "houses" "[LWrongedMeters$House;" ∈ wsX5_housesAhead := by decide +kernel
set_option maxRecDepth 20000 in
theorem mX5_housesAhead_in1 : ∀ w ∈ u_ws RX1 TX1 14, w ∈ wsX5_housesAhead := by decide +kernel
theorem hyX5_housesAhead : yX5_housesAhead.cls = RX5 ∧ yX5_housesAhead.cls ≠ "java/lang/invoke/MethodHandle" ∧ yX5_housesAhead.cls ≠ "java/lang/invoke/VarHandle" ∧ (parseMethodDescriptor yX5_housesAhead.desc).map (fun d => d.parameters.length) = some 2 := by decide +kernel
set_option maxHeartbeats 3000000 in
set_option maxRecDepth 100000 in
theorem kX5_housesAhead (l : Launch) (D : va_G) (cy : Nat → ClassId) (K : zK) (n : Nat) (ad : Nat → Nat) (hJ : zJ n ad) (b : Nat) (hO : zTown cy K n ad b) (t : zM) (a1 : Int32) (a2 : Int32)  : zI l yX5_housesAhead wsX5_housesAhead 0 D cy K n ad t [.ref (ad (b)), .int a1, .int a2] (fun r t1 => r = rX5_housesAhead b t a1 a2 ∧ t1 = t) := by
  refine z_startI (cc := cX5_housesAhead) (mL := 6) (ret := (some .int)) (own := RX5) rfl (by decide +kernel) rfl hJ (Nat.le_of_ble_eq_true rfl) ?_
  intro p e s m args below meth c A hA Q hQ C
  refine z_iconst C 0 (v := 0) dX5_housesAhead_0 (by decide +kernel) ?_
  refine z_istore_n C 1 3 ([(3, .int 0), (0, .ref (ad (b))), (1, .int a1), (2, .int a2)]) dX5_housesAhead_1 rfl (by decide) rfl ?_
  refine z_iconst C 2 (v := 0) dX5_housesAhead_2 (by decide +kernel) ?_
  refine z_istore C 3 4 ([(4, .int 0), (3, .int 0), (0, .ref (ad (b))), (1, .int a1), (2, .int a2)]) dX5_housesAhead_3 (by decide) rfl ?_
  have L5 : ∀ (j : Nat) (k : Nat) (v : Int32), (h0_5 : 25 ≤ k + j) → (hk : k ≤ 24) → (hI5 : rX5_housesAhead b t a1 a2 = (lX5_housesAhead_5 b t a1 a2 j k v)) → Zw p l e (zR 0) s m args below meth c D A K n ad 6 Q 5 ([(4, .int (nI k)), (3, .int v), (0, .ref (ad (b))), (1, .int a1), (2, .int a2)]) [] t := by
    intro j
    induction j with
    | zero =>
      intro k v h0_5 hk hI5
      exact absurd h0_5 (by omega)
    | succ j ih5 =>
      intro k v h0_5 hk hI5
      refine z_iload C 5 4 0 dX5_housesAhead_5 rfl ?_
      refine z_aload_n C 7 0 2 dX5_housesAhead_7 rfl rfl ?_
      refine z_geti C 8 (b) 4 dX5_housesAhead_8 hO.h0 hO.e0 mX5_housesAhead_in5 rfl (by decide) mX5_housesAhead_f55 (fun _ => rfl) ?_
      refine z_icmp_ge C 11 60 dX5_housesAhead_11 (by decide) (fun c11_1 => ?_) (fun c11_1 => ?_)
      · refine z_iload_n C 60 3 1 dX5_housesAhead_60 rfl rfl ?_
        exact z_iret C 61 hA hQ rfl dX5_housesAhead_61 ⟨((hI5.trans ((if_pos c11_1).trans rfl))).symm, rfl⟩
      · refine z_iload C 14 4 0 dX5_housesAhead_14 rfl ?_
        refine z_bipush C 16 (v := 24) dX5_housesAhead_16 (by decide +kernel) ?_
        refine z_icmp_ge C 18 60 dX5_housesAhead_18 (by decide) (fun c18_2 => ?_) (fun c18_2 => ?_)
        · refine z_iload_n C 60 3 1 dX5_housesAhead_60 rfl rfl ?_
          exact z_iret C 61 hA hQ rfl dX5_housesAhead_61 ⟨((hI5.trans ((if_neg c11_1).trans ((if_pos c18_2).trans rfl)))).symm, rfl⟩
        · refine z_aload_n C 21 0 2 dX5_housesAhead_21 rfl rfl ?_
          refine z_getr C 22 (a9 := ad (b + 1)) (b) 0 dX5_housesAhead_22 hO.h0 hO.e0 mX5_housesAhead_in5 rfl (by decide) mX5_housesAhead_f11 (fun _ => rfl) ?_
          refine z_iload C 25 4 0 dX5_housesAhead_25 rfl ?_
          refine z_aald C 27 (b + 1) 1 k (ad (b + 2 + k)) dX5_housesAhead_27 hO.h1 hO.e1 rfl rfl (zge (b := 24) (by omega) (by decide) ‹¬ (24 : Int32) ≤ nI k›) (by decide) rfl ?_
          refine z_getiN C 28 (b + 2 + k) 6 dX5_housesAhead_28 (hO.hou (zge (b := 24) (by omega) (by decide) ‹¬ (24 : Int32) ≤ nI k›)).1 (hO.hou (zge (b := 24) (by omega) (by decide) ‹¬ (24 : Int32) ≤ nI k›)).2 mX5_housesAhead_in1 rfl (by decide) nst_f5_165 (fun _ => rfl) ?_
          refine z_istore C 31 5 ([(5, .int (t (b + 2 + k) 6)), (4, .int (nI k)), (3, .int v), (0, .ref (ad (b))), (1, .int a1), (2, .int a2)]) dX5_housesAhead_31 (by decide) rfl ?_
          refine z_iload C 33 5 0 dX5_housesAhead_33 rfl ?_
          refine z_iload_n C 35 2 5 dX5_housesAhead_35 rfl rfl ?_
          refine z_icmp_gt C 36 51 dX5_housesAhead_36 (by decide) (fun c36_3 => ?_) (fun c36_3 => ?_)
          · refine z_iinc C 51 (v := (v + 1)) 3 2 ([(3, .int (v + 1)), (5, .int (t (b + 2 + k) 6)), (4, .int (nI k)), (0, .ref (ad (b))), (1, .int a1), (2, .int a2)]) dX5_housesAhead_51 rfl (by first | rfl | (congr 1)) (by decide) rfl ?_
            refine z_iinc C 54 (v := nI (k + 1)) 4 2 ([(4, .int (nI (k + 1))), (3, .int (v + 1)), (5, .int (t (b + 2 + k) 6)), (0, .ref (ad (b))), (1, .int a1), (2, .int a2)]) dX5_housesAhead_54 rfl (nI_1 _) (by decide) rfl ?_
            refine z_goto C 57 5 dX5_housesAhead_57 (by decide) ?_
            refine z_ls [0, 1, 3, 4, 5] _ rfl ?_
            exact ih5 (k + 1) (v + 1) (by omega) (by have := zge (b := 24) (by omega) (by decide) ‹¬ (24 : Int32) ≤ nI k›; omega) (hI5.trans ((if_neg c11_1).trans ((if_neg c18_2).trans ((if_pos c36_3).trans rfl))))
          · refine z_iload C 39 5 0 dX5_housesAhead_39 rfl ?_
            refine z_iload_n C 41 2 5 dX5_housesAhead_41 rfl rfl ?_
            refine z_icmp_ne C 42 54 dX5_housesAhead_42 (by decide) (fun c42_4 => ?_) (fun c42_4 => ?_)
            · refine z_iinc C 54 (v := nI (k + 1)) 4 1 ([(4, .int (nI (k + 1))), (5, .int (t (b + 2 + k) 6)), (3, .int v), (0, .ref (ad (b))), (1, .int a1), (2, .int a2)]) dX5_housesAhead_54 rfl (nI_1 _) (by decide) rfl ?_
              refine z_goto C 57 5 dX5_housesAhead_57 (by decide) ?_
              refine z_ls [0, 2, 3, 4, 5] _ rfl ?_
              exact ih5 (k + 1) v (by omega) (by have := zge (b := 24) (by omega) (by decide) ‹¬ (24 : Int32) ≤ nI k›; omega) (hI5.trans ((if_neg c11_1).trans ((if_neg c18_2).trans ((if_neg c36_3).trans ((if_neg c42_4).trans rfl)))))
            · refine z_iload C 45 4 1 dX5_housesAhead_45 rfl ?_
              refine z_iload_n C 47 1 4 dX5_housesAhead_47 rfl rfl ?_
              refine z_icmp_ge C 48 54 dX5_housesAhead_48 (by decide) (fun c48_5 => ?_) (fun c48_5 => ?_)
              · refine z_iinc C 54 (v := nI (k + 1)) 4 1 ([(4, .int (nI (k + 1))), (5, .int (t (b + 2 + k) 6)), (3, .int v), (0, .ref (ad (b))), (1, .int a1), (2, .int a2)]) dX5_housesAhead_54 rfl (nI_1 _) (by decide) rfl ?_
                refine z_goto C 57 5 dX5_housesAhead_57 (by decide) ?_
                refine z_ls [0, 2, 3, 4, 5] _ rfl ?_
                exact ih5 (k + 1) v (by omega) (by have := zge (b := 24) (by omega) (by decide) ‹¬ (24 : Int32) ≤ nI k›; omega) (hI5.trans ((if_neg c11_1).trans ((if_neg c18_2).trans ((if_neg c36_3).trans ((if_pos c42_4).trans ((if_pos c48_5).trans rfl))))))
              · refine z_iinc C 51 (v := (v + 1)) 3 2 ([(3, .int (v + 1)), (5, .int (t (b + 2 + k) 6)), (4, .int (nI k)), (0, .ref (ad (b))), (1, .int a1), (2, .int a2)]) dX5_housesAhead_51 rfl (by first | rfl | (congr 1)) (by decide) rfl ?_
                refine z_iinc C 54 (v := nI (k + 1)) 4 2 ([(4, .int (nI (k + 1))), (3, .int (v + 1)), (5, .int (t (b + 2 + k) 6)), (0, .ref (ad (b))), (1, .int a1), (2, .int a2)]) dX5_housesAhead_54 rfl (nI_1 _) (by decide) rfl ?_
                refine z_goto C 57 5 dX5_housesAhead_57 (by decide) ?_
                refine z_ls [0, 1, 3, 4, 5] _ rfl ?_
                exact ih5 (k + 1) (v + 1) (by omega) (by have := zge (b := 24) (by omega) (by decide) ‹¬ (24 : Int32) ≤ nI k›; omega) (hI5.trans ((if_neg c11_1).trans ((if_neg c18_2).trans ((if_neg c36_3).trans ((if_pos c42_4).trans ((if_neg c48_5).trans rfl))))))
  refine z_ls [0, 1, 2, 3, 4] _ rfl ?_
  exact L5 (25) 0 0 (by omega) (by decide) rfl
def lX5_houseByBalance_2 (b : Nat) (t : zM) (a1 : Int32) : Nat → Nat → Int32
  | 0, _ => 0
  | j + 1, k => (if (t (b) 4) ≤ nI k then (-1000004) else (if 24 ≤ nI k then (-1000004) else (if (rX5_housesAhead (b) t (nI k) (t (b + 2 + k) 6)) = a1 then nI k else (lX5_houseByBalance_2 b t a1 j (k + 1)))))
def rX5_houseByBalance (b : Nat) (t : zM) (a1 : Int32) : Int32 := (lX5_houseByBalance_2 b t a1 25 0)
theorem mX5_houseByBalance_f55 : Cond.fieldLink RX5 55 "WrongedMeters$Town" "houseCount" "I" ∈ wsX5_houseByBalance := by decide +kernel
set_option maxRecDepth 20000 in
theorem mX5_houseByBalance_in5 : ∀ w ∈ u_ws RX5 TX5 13, w ∈ wsX5_houseByBalance := by decide +kernel
theorem mX5_houseByBalance_c195 : Cond.constant RX5 195 (-1000004) ∈ wsX5_houseByBalance := by decide +kernel
theorem mX5_houseByBalance_f11 : Cond.fieldLink RX5 11 "WrongedMeters$Town" "houses" "[LWrongedMeters$House;" ∈ wsX5_houseByBalance := by decide +kernel
set_option maxRecDepth 20000 in
theorem mX5_houseByBalance_in1 : ∀ w ∈ u_ws RX1 TX1 14, w ∈ wsX5_houseByBalance := by decide +kernel
theorem hyX5_houseByBalance : yX5_houseByBalance.cls = RX5 ∧ yX5_houseByBalance.cls ≠ "java/lang/invoke/MethodHandle" ∧ yX5_houseByBalance.cls ≠ "java/lang/invoke/VarHandle" ∧ (parseMethodDescriptor yX5_houseByBalance.desc).map (fun d => d.parameters.length) = some 1 := by decide +kernel
set_option maxHeartbeats 3000000 in
set_option maxRecDepth 100000 in
theorem kX5_houseByBalance (l : Launch) (D : va_G) (cy : Nat → ClassId) (K : zK) (n : Nat) (ad : Nat → Nat) (hJ : zJ n ad) (b : Nat) (hO : zTown cy K n ad b) (t : zM) (a1 : Int32)  : zI l yX5_houseByBalance wsX5_houseByBalance 1 D cy K n ad t [.ref (ad (b)), .int a1] (fun r t1 => r = rX5_houseByBalance b t a1 ∧ t1 = t) := by
  refine z_startI (cc := cX5_houseByBalance) (mL := 3) (ret := (some .int)) (own := RX5) rfl (by decide +kernel) rfl hJ (Nat.le_of_ble_eq_true rfl) ?_
  intro p e s m args below meth c A hA Q hQ C
  refine z_iconst C 0 (v := 0) dX5_houseByBalance_0 (by decide +kernel) ?_
  refine z_istore_n C 1 2 ([(2, .int 0), (0, .ref (ad (b))), (1, .int a1)]) dX5_houseByBalance_1 rfl (by decide) rfl ?_
  have L2 : ∀ (j : Nat) (k : Nat), (h0_2 : 25 ≤ k + j) → (hk : k ≤ 24) → (hI2 : rX5_houseByBalance b t a1 = (lX5_houseByBalance_2 b t a1 j k)) → Zw p l e (zR 1) s m args below meth c D A K n ad 3 Q 2 ([(2, .int (nI k)), (0, .ref (ad (b))), (1, .int a1)]) [] t := by
    intro j
    induction j with
    | zero =>
      intro k h0_2 hk hI2
      exact absurd h0_2 (by omega)
    | succ j ih2 =>
      intro k h0_2 hk hI2
      refine z_iload_n C 2 2 0 dX5_houseByBalance_2 rfl rfl ?_
      refine z_aload_n C 3 0 1 dX5_houseByBalance_3 rfl rfl ?_
      refine z_geti C 4 (b) 4 dX5_houseByBalance_4 hO.h0 hO.e0 mX5_houseByBalance_in5 rfl (by decide) mX5_houseByBalance_f55 (fun _ => rfl) ?_
      refine z_icmp_ge C 7 42 dX5_houseByBalance_7 (by decide) (fun c7_1 => ?_) (fun c7_1 => ?_)
      · refine z_ldc C 42 (v := (-1000004)) dX5_houseByBalance_42 mX5_houseByBalance_c195 ?_
        exact z_iret C 44 hA hQ rfl dX5_houseByBalance_44 ⟨((hI2.trans ((if_pos c7_1).trans rfl))).symm, rfl⟩
      · refine z_iload_n C 10 2 0 dX5_houseByBalance_10 rfl rfl ?_
        refine z_bipush C 11 (v := 24) dX5_houseByBalance_11 (by decide +kernel) ?_
        refine z_icmp_ge C 13 42 dX5_houseByBalance_13 (by decide) (fun c13_2 => ?_) (fun c13_2 => ?_)
        · refine z_ldc C 42 (v := (-1000004)) dX5_houseByBalance_42 mX5_houseByBalance_c195 ?_
          exact z_iret C 44 hA hQ rfl dX5_houseByBalance_44 ⟨((hI2.trans ((if_neg c7_1).trans ((if_pos c13_2).trans rfl)))).symm, rfl⟩
        · refine z_aload_n C 16 0 1 dX5_houseByBalance_16 rfl rfl ?_
          refine z_iload_n C 17 2 0 dX5_houseByBalance_17 rfl rfl ?_
          refine z_aload_n C 18 0 1 dX5_houseByBalance_18 rfl rfl ?_
          refine z_getr C 19 (a9 := ad (b + 1)) (b) 0 dX5_houseByBalance_19 hO.h0 hO.e0 mX5_houseByBalance_in5 rfl (by decide) mX5_houseByBalance_f11 (fun _ => rfl) ?_
          refine z_iload_n C 22 2 0 dX5_houseByBalance_22 rfl rfl ?_
          refine z_aald C 23 (b + 1) 1 k (ad (b + 2 + k)) dX5_houseByBalance_23 hO.h1 hO.e1 rfl rfl (zge (b := 24) (by omega) (by decide) ‹¬ (24 : Int32) ≤ nI k›) (by decide) rfl ?_
          refine z_getiN C 24 (b + 2 + k) 6 dX5_houseByBalance_24 (hO.hou (zge (b := 24) (by omega) (by decide) ‹¬ (24 : Int32) ≤ nI k›)).1 (hO.hou (zge (b := 24) (by omega) (by decide) ‹¬ (24 : Int32) ≤ nI k›)).2 mX5_houseByBalance_in1 rfl (by decide) nst_f5_165 (fun _ => rfl) ?_
          refine z_virtIe C 27 (As := [.int (nI k), .int (t (b + 2 + k) 6)]) (st := []) (id := b) (kX5_housesAhead l D cy K n ad hJ (b) hO t (nI k) (t (b + 2 + k) 6) ) dX5_houseByBalance_27 rfl gX5_houseByBalance_X5_housesAhead hyX5_housesAhead rfl (by decide) (by decide) hO.h0 rfl hO.e0 rfl rfl rfl (Nat.le_of_ble_eq_true rfl) ?_
          refine z_iload_n C 30 1 2 dX5_houseByBalance_30 rfl rfl ?_
          refine z_icmp_ne C 31 36 dX5_houseByBalance_31 (by decide) (fun c31_4 => ?_) (fun c31_4 => ?_)
          · refine z_iinc C 36 (v := nI (k + 1)) 2 0 ([(2, .int (nI (k + 1))), (0, .ref (ad (b))), (1, .int a1)]) dX5_houseByBalance_36 rfl (nI_1 _) (by decide) rfl ?_
            refine z_goto C 39 2 dX5_houseByBalance_39 (by decide) ?_
            refine z_ls [0, 1, 2] _ rfl ?_
            exact ih2 (k + 1) (by omega) (by have := zge (b := 24) (by omega) (by decide) ‹¬ (24 : Int32) ≤ nI k›; omega) (hI2.trans ((if_neg c7_1).trans ((if_neg c13_2).trans ((if_neg c31_4).trans rfl))))
          · refine z_iload_n C 34 2 0 dX5_houseByBalance_34 rfl rfl ?_
            exact z_iret C 35 hA hQ rfl dX5_houseByBalance_35 ⟨((hI2.trans ((if_neg c7_1).trans ((if_neg c13_2).trans ((if_pos c31_4).trans rfl))))).symm, rfl⟩
  refine z_ls [0, 1, 2] _ rfl ?_
  exact L2 (25) 0 (by omega) (by decide) rfl
def lX5_housesLocked_13 (b : Nat) (t : zM) : Nat → Nat → Int32 → Int32
  | 0, _, _ => 0
  | j + 1, k, v => (if 24 ≤ nI k then v else (if (t (b + 2 + k) 5) = 0 then (lX5_housesLocked_13 b t j (k + 1) v) else (lX5_housesLocked_13 b t j (k + 1) (v + 1))))
def rX5_housesLocked (b : Nat) (t : zM)  : Int32 := (lX5_housesLocked_13 b t 25 0 0)
theorem mX5_housesLocked_f11 : Cond.fieldLink RX5 11 "WrongedMeters$Town" "houses" "[LWrongedMeters$House;" ∈ wsX5_housesLocked := by decide +kernel
set_option maxRecDepth 20000 in
theorem mX5_housesLocked_in5 : ∀ w ∈ u_ws RX5 TX5 13, w ∈ wsX5_housesLocked := by decide +kernel
set_option maxRecDepth 20000 in
theorem mX5_housesLocked_in1 : ∀ w ∈ u_ws RX1 TX1 14, w ∈ wsX5_housesLocked := by decide +kernel
theorem hyX5_housesLocked : yX5_housesLocked.cls = RX5 ∧ yX5_housesLocked.cls ≠ "java/lang/invoke/MethodHandle" ∧ yX5_housesLocked.cls ≠ "java/lang/invoke/VarHandle" ∧ (parseMethodDescriptor yX5_housesLocked.desc).map (fun d => d.parameters.length) = some 0 := by decide +kernel
set_option maxHeartbeats 3000000 in
set_option maxRecDepth 100000 in
theorem kX5_housesLocked (l : Launch) (D : va_G) (cy : Nat → ClassId) (K : zK) (n : Nat) (ad : Nat → Nat) (hJ : zJ n ad) (b : Nat) (hO : zTown cy K n ad b) (t : zM)   : zI l yX5_housesLocked wsX5_housesLocked 0 D cy K n ad t [.ref (ad (b))] (fun r t1 => r = rX5_housesLocked b t ∧ t1 = t) := by
  refine z_startI (cc := cX5_housesLocked) (mL := 6) (ret := (some .int)) (own := RX5) rfl (by decide +kernel) rfl hJ (Nat.le_of_ble_eq_true rfl) ?_
  intro p e s m args below meth c A hA Q hQ C
  refine z_iconst C 0 (v := 0) dX5_housesLocked_0 (by decide +kernel) ?_
  refine z_istore_n C 1 1 ([(1, .int 0), (0, .ref (ad (b)))]) dX5_housesLocked_1 rfl (by decide) rfl ?_
  refine z_aload_n C 2 0 1 dX5_housesLocked_2 rfl rfl ?_
  refine z_getr C 3 (a9 := ad (b + 1)) (b) 0 dX5_housesLocked_3 hO.h0 hO.e0 mX5_housesLocked_in5 rfl (by decide) mX5_housesLocked_f11 (fun _ => rfl) ?_
  refine z_astore_n C 6 2 ([(2, .ref (ad (b + 1))), (1, .int 0), (0, .ref (ad (b)))]) dX5_housesLocked_6 rfl (by decide) rfl ?_
  refine z_aload_n C 7 2 0 dX5_housesLocked_7 rfl rfl ?_
  refine z_alen C 8 (v := 24) (b + 1) 1 dX5_housesLocked_8 hO.h1 hO.e1 rfl (show Int32.ofNat 24 = 24 from rfl) ?_
  refine z_istore_n C 9 3 ([(3, .int 24), (2, .ref (ad (b + 1))), (1, .int 0), (0, .ref (ad (b)))]) dX5_housesLocked_9 rfl (by decide) rfl ?_
  refine z_iconst C 10 (v := 0) dX5_housesLocked_10 (by decide +kernel) ?_
  refine z_istore C 11 4 ([(4, .int 0), (3, .int 24), (2, .ref (ad (b + 1))), (1, .int 0), (0, .ref (ad (b)))]) dX5_housesLocked_11 (by decide) rfl ?_
  have L13 : ∀ (j : Nat) (k : Nat) (v : Int32), (h0_13 : 25 ≤ k + j) → (hk : k ≤ 24) → (hI13 : rX5_housesLocked b t = (lX5_housesLocked_13 b t j k v)) → Zw p l e (zR 0) s m args below meth c D A K n ad 6 Q 13 ([(4, .int (nI k)), (1, .int v), (3, .int 24), (2, .ref (ad (b + 1))), (0, .ref (ad (b)))]) [] t := by
    intro j
    induction j with
    | zero =>
      intro k v h0_13 hk hI13
      exact absurd h0_13 (by omega)
    | succ j ih13 =>
      intro k v h0_13 hk hI13
      refine z_iload C 13 4 0 dX5_housesLocked_13 rfl ?_
      refine z_iload_n C 15 3 2 dX5_housesLocked_15 rfl rfl ?_
      refine z_icmp_ge C 16 42 dX5_housesLocked_16 (by decide) (fun c16_1 => ?_) (fun c16_1 => ?_)
      · refine z_iload_n C 42 1 1 dX5_housesLocked_42 rfl rfl ?_
        exact z_iret C 43 hA hQ rfl dX5_housesLocked_43 ⟨((hI13.trans ((if_pos c16_1).trans rfl))).symm, rfl⟩
      · refine z_aload_n C 19 2 3 dX5_housesLocked_19 rfl rfl ?_
        refine z_iload C 20 4 0 dX5_housesLocked_20 rfl ?_
        refine z_aald C 22 (b + 1) 1 k (ad (b + 2 + k)) dX5_housesLocked_22 hO.h1 hO.e1 rfl rfl (zge (b := 24) (by omega) (by decide) ‹¬ (24 : Int32) ≤ nI k›) (by decide) rfl ?_
        refine z_astore C 23 5 ([(5, .ref (ad (b + 2 + k))), (4, .int (nI k)), (1, .int v), (3, .int 24), (2, .ref (ad (b + 1))), (0, .ref (ad (b)))]) dX5_housesLocked_23 (by decide) rfl ?_
        refine z_aload C 25 5 0 dX5_housesLocked_25 rfl ?_
        refine z_getiN C 27 (b + 2 + k) 5 dX5_housesLocked_27 (hO.hou (zge (b := 24) (by omega) (by decide) ‹¬ (24 : Int32) ≤ nI k›)).1 (hO.hou (zge (b := 24) (by omega) (by decide) ‹¬ (24 : Int32) ≤ nI k›)).2 mX5_housesLocked_in1 rfl (by decide) nst_f5_137 (fun _ => rfl) ?_
        refine z_if_eq C 30 36 dX5_housesLocked_30 (by decide) (fun c30_2 => ?_) (fun c30_2 => ?_)
        · refine z_iinc C 36 (v := nI (k + 1)) 4 1 ([(4, .int (nI (k + 1))), (5, .ref (ad (b + 2 + k))), (1, .int v), (3, .int 24), (2, .ref (ad (b + 1))), (0, .ref (ad (b)))]) dX5_housesLocked_36 rfl (nI_1 _) (by decide) rfl ?_
          refine z_goto C 39 13 dX5_housesLocked_39 (by decide) ?_
          refine z_ls [0, 2, 3, 4, 5] _ rfl ?_
          exact ih13 (k + 1) v (by omega) (by have := zge (b := 24) (by omega) (by decide) ‹¬ (24 : Int32) ≤ nI k›; omega) (hI13.trans ((if_neg c16_1).trans ((if_pos c30_2).trans rfl)))
        · refine z_iinc C 33 (v := (v + 1)) 1 2 ([(1, .int (v + 1)), (5, .ref (ad (b + 2 + k))), (4, .int (nI k)), (3, .int 24), (2, .ref (ad (b + 1))), (0, .ref (ad (b)))]) dX5_housesLocked_33 rfl (by first | rfl | (congr 1)) (by decide) rfl ?_
          refine z_iinc C 36 (v := nI (k + 1)) 4 2 ([(4, .int (nI (k + 1))), (1, .int (v + 1)), (5, .ref (ad (b + 2 + k))), (3, .int 24), (2, .ref (ad (b + 1))), (0, .ref (ad (b)))]) dX5_housesLocked_36 rfl (nI_1 _) (by decide) rfl ?_
          refine z_goto C 39 13 dX5_housesLocked_39 (by decide) ?_
          refine z_ls [0, 1, 3, 4, 5] _ rfl ?_
          exact ih13 (k + 1) (v + 1) (by omega) (by have := zge (b := 24) (by omega) (by decide) ‹¬ (24 : Int32) ≤ nI k›; omega) (hI13.trans ((if_neg c16_1).trans ((if_neg c30_2).trans rfl)))
  refine z_ls [0, 3, 1, 2, 4] _ rfl ?_
  exact L13 (25) 0 0 (by omega) (by decide) rfl
def lX5_housesBetween_16 (b : Nat) (t : zM) (a1 : Int32) (a2 : Int32) : Nat → Nat → Int32 → Int32
  | 0, _, _ => 0
  | j + 1, k, v => (if 24 ≤ nI k then v else (if (t (b + 2 + k) 6) < a1 then (lX5_housesBetween_16 b t a1 a2 j (k + 1) v) else (if a2 < (t (b + 2 + k) 6) then (lX5_housesBetween_16 b t a1 a2 j (k + 1) v) else (lX5_housesBetween_16 b t a1 a2 j (k + 1) (v + 1)))))
def rX5_housesBetween (b : Nat) (t : zM) (a1 : Int32) (a2 : Int32) : Int32 := (lX5_housesBetween_16 b t a1 a2 25 0 0)
theorem mX5_housesBetween_f11 : Cond.fieldLink RX5 11 "WrongedMeters$Town" "houses" "[LWrongedMeters$House;" ∈ wsX5_housesBetween := by decide +kernel
set_option maxRecDepth 20000 in
theorem mX5_housesBetween_in5 : ∀ w ∈ u_ws RX5 TX5 13, w ∈ wsX5_housesBetween := by decide +kernel
set_option maxRecDepth 20000 in
theorem mX5_housesBetween_in1 : ∀ w ∈ u_ws RX1 TX1 14, w ∈ wsX5_housesBetween := by decide +kernel
theorem hyX5_housesBetween : yX5_housesBetween.cls = RX5 ∧ yX5_housesBetween.cls ≠ "java/lang/invoke/MethodHandle" ∧ yX5_housesBetween.cls ≠ "java/lang/invoke/VarHandle" ∧ (parseMethodDescriptor yX5_housesBetween.desc).map (fun d => d.parameters.length) = some 2 := by decide +kernel
set_option maxHeartbeats 3000000 in
set_option maxRecDepth 100000 in
theorem kX5_housesBetween (l : Launch) (D : va_G) (cy : Nat → ClassId) (K : zK) (n : Nat) (ad : Nat → Nat) (hJ : zJ n ad) (b : Nat) (hO : zTown cy K n ad b) (t : zM) (a1 : Int32) (a2 : Int32)  : zI l yX5_housesBetween wsX5_housesBetween 0 D cy K n ad t [.ref (ad (b)), .int a1, .int a2] (fun r t1 => r = rX5_housesBetween b t a1 a2 ∧ t1 = t) := by
  refine z_startI (cc := cX5_housesBetween) (mL := 8) (ret := (some .int)) (own := RX5) rfl (by decide +kernel) rfl hJ (Nat.le_of_ble_eq_true rfl) ?_
  intro p e s m args below meth c A hA Q hQ C
  refine z_iconst C 0 (v := 0) dX5_housesBetween_0 (by decide +kernel) ?_
  refine z_istore_n C 1 3 ([(3, .int 0), (0, .ref (ad (b))), (1, .int a1), (2, .int a2)]) dX5_housesBetween_1 rfl (by decide) rfl ?_
  refine z_aload_n C 2 0 1 dX5_housesBetween_2 rfl rfl ?_
  refine z_getr C 3 (a9 := ad (b + 1)) (b) 0 dX5_housesBetween_3 hO.h0 hO.e0 mX5_housesBetween_in5 rfl (by decide) mX5_housesBetween_f11 (fun _ => rfl) ?_
  refine z_astore C 6 4 ([(4, .ref (ad (b + 1))), (3, .int 0), (0, .ref (ad (b))), (1, .int a1), (2, .int a2)]) dX5_housesBetween_6 (by decide) rfl ?_
  refine z_aload C 8 4 0 dX5_housesBetween_8 rfl ?_
  refine z_alen C 10 (v := 24) (b + 1) 1 dX5_housesBetween_10 hO.h1 hO.e1 rfl (show Int32.ofNat 24 = 24 from rfl) ?_
  refine z_istore C 11 5 ([(5, .int 24), (4, .ref (ad (b + 1))), (3, .int 0), (0, .ref (ad (b))), (1, .int a1), (2, .int a2)]) dX5_housesBetween_11 (by decide) rfl ?_
  refine z_iconst C 13 (v := 0) dX5_housesBetween_13 (by decide +kernel) ?_
  refine z_istore C 14 6 ([(6, .int 0), (5, .int 24), (4, .ref (ad (b + 1))), (3, .int 0), (0, .ref (ad (b))), (1, .int a1), (2, .int a2)]) dX5_housesBetween_14 (by decide) rfl ?_
  have L16 : ∀ (j : Nat) (k : Nat) (v : Int32), (h0_16 : 25 ≤ k + j) → (hk : k ≤ 24) → (hI16 : rX5_housesBetween b t a1 a2 = (lX5_housesBetween_16 b t a1 a2 j k v)) → Zw p l e (zR 0) s m args below meth c D A K n ad 8 Q 16 ([(6, .int (nI k)), (3, .int v), (5, .int 24), (4, .ref (ad (b + 1))), (0, .ref (ad (b))), (1, .int a1), (2, .int a2)]) [] t := by
    intro j
    induction j with
    | zero =>
      intro k v h0_16 hk hI16
      exact absurd h0_16 (by omega)
    | succ j ih16 =>
      intro k v h0_16 hk hI16
      refine z_iload C 16 6 0 dX5_housesBetween_16 rfl ?_
      refine z_iload C 18 5 2 dX5_housesBetween_18 rfl ?_
      refine z_icmp_ge C 20 57 dX5_housesBetween_20 (by decide) (fun c20_1 => ?_) (fun c20_1 => ?_)
      · refine z_iload_n C 57 3 1 dX5_housesBetween_57 rfl rfl ?_
        exact z_iret C 58 hA hQ rfl dX5_housesBetween_58 ⟨((hI16.trans ((if_pos c20_1).trans rfl))).symm, rfl⟩
      · refine z_aload C 23 4 3 dX5_housesBetween_23 rfl ?_
        refine z_iload C 25 6 0 dX5_housesBetween_25 rfl ?_
        refine z_aald C 27 (b + 1) 1 k (ad (b + 2 + k)) dX5_housesBetween_27 hO.h1 hO.e1 rfl rfl (zge (b := 24) (by omega) (by decide) ‹¬ (24 : Int32) ≤ nI k›) (by decide) rfl ?_
        refine z_astore C 28 7 ([(7, .ref (ad (b + 2 + k))), (6, .int (nI k)), (3, .int v), (5, .int 24), (4, .ref (ad (b + 1))), (0, .ref (ad (b))), (1, .int a1), (2, .int a2)]) dX5_housesBetween_28 (by decide) rfl ?_
        refine z_aload C 30 7 0 dX5_housesBetween_30 rfl ?_
        refine z_getiN C 32 (b + 2 + k) 6 dX5_housesBetween_32 (hO.hou (zge (b := 24) (by omega) (by decide) ‹¬ (24 : Int32) ≤ nI k›)).1 (hO.hou (zge (b := 24) (by omega) (by decide) ‹¬ (24 : Int32) ≤ nI k›)).2 mX5_housesBetween_in1 rfl (by decide) nst_f5_165 (fun _ => rfl) ?_
        refine z_iload_n C 35 1 6 dX5_housesBetween_35 rfl rfl ?_
        refine z_icmp_lt C 36 51 dX5_housesBetween_36 (by decide) (fun c36_2 => ?_) (fun c36_2 => ?_)
        · refine z_iinc C 51 (v := nI (k + 1)) 6 1 ([(6, .int (nI (k + 1))), (7, .ref (ad (b + 2 + k))), (3, .int v), (5, .int 24), (4, .ref (ad (b + 1))), (0, .ref (ad (b))), (1, .int a1), (2, .int a2)]) dX5_housesBetween_51 rfl (nI_1 _) (by decide) rfl ?_
          refine z_goto C 54 16 dX5_housesBetween_54 (by decide) ?_
          refine z_ls [0, 2, 3, 4, 5, 6, 7] _ rfl ?_
          exact ih16 (k + 1) v (by omega) (by have := zge (b := 24) (by omega) (by decide) ‹¬ (24 : Int32) ≤ nI k›; omega) (hI16.trans ((if_neg c20_1).trans ((if_pos c36_2).trans rfl)))
        · refine z_aload C 39 7 0 dX5_housesBetween_39 rfl ?_
          refine z_getiN C 41 (b + 2 + k) 6 dX5_housesBetween_41 (hO.hou (zge (b := 24) (by omega) (by decide) ‹¬ (24 : Int32) ≤ nI k›)).1 (hO.hou (zge (b := 24) (by omega) (by decide) ‹¬ (24 : Int32) ≤ nI k›)).2 mX5_housesBetween_in1 rfl (by decide) nst_f5_165 (fun _ => rfl) ?_
          refine z_iload_n C 44 2 7 dX5_housesBetween_44 rfl rfl ?_
          refine z_icmp_gt C 45 51 dX5_housesBetween_45 (by decide) (fun c45_3 => ?_) (fun c45_3 => ?_)
          · refine z_iinc C 51 (v := nI (k + 1)) 6 1 ([(6, .int (nI (k + 1))), (7, .ref (ad (b + 2 + k))), (3, .int v), (5, .int 24), (4, .ref (ad (b + 1))), (0, .ref (ad (b))), (1, .int a1), (2, .int a2)]) dX5_housesBetween_51 rfl (nI_1 _) (by decide) rfl ?_
            refine z_goto C 54 16 dX5_housesBetween_54 (by decide) ?_
            refine z_ls [0, 2, 3, 4, 5, 6, 7] _ rfl ?_
            exact ih16 (k + 1) v (by omega) (by have := zge (b := 24) (by omega) (by decide) ‹¬ (24 : Int32) ≤ nI k›; omega) (hI16.trans ((if_neg c20_1).trans ((if_neg c36_2).trans ((if_pos c45_3).trans rfl))))
          · refine z_iinc C 48 (v := (v + 1)) 3 2 ([(3, .int (v + 1)), (7, .ref (ad (b + 2 + k))), (6, .int (nI k)), (5, .int 24), (4, .ref (ad (b + 1))), (0, .ref (ad (b))), (1, .int a1), (2, .int a2)]) dX5_housesBetween_48 rfl (by first | rfl | (congr 1)) (by decide) rfl ?_
            refine z_iinc C 51 (v := nI (k + 1)) 6 2 ([(6, .int (nI (k + 1))), (3, .int (v + 1)), (7, .ref (ad (b + 2 + k))), (5, .int 24), (4, .ref (ad (b + 1))), (0, .ref (ad (b))), (1, .int a1), (2, .int a2)]) dX5_housesBetween_51 rfl (nI_1 _) (by decide) rfl ?_
            refine z_goto C 54 16 dX5_housesBetween_54 (by decide) ?_
            refine z_ls [0, 1, 3, 4, 5, 6, 7] _ rfl ?_
            exact ih16 (k + 1) (v + 1) (by omega) (by have := zge (b := 24) (by omega) (by decide) ‹¬ (24 : Int32) ≤ nI k›; omega) (hI16.trans ((if_neg c20_1).trans ((if_neg c36_2).trans ((if_neg c45_3).trans rfl))))
  refine z_ls [0, 3, 1, 2, 4, 5, 6] _ rfl ?_
  exact L16 (25) 0 0 (by omega) (by decide) rfl
def lX5_balances_13 (b : Nat) (t : zM) : Nat → Nat → Int32 → Int32
  | 0, _, _ => 0
  | j + 1, k, v => (if 24 ≤ nI k then v else (lX5_balances_13 b t j (k + 1) (v + (t (b + 2 + k) 6))))
def rX5_balances (b : Nat) (t : zM)  : Int32 := (lX5_balances_13 b t 25 0 0)
theorem mX5_balances_f11 : Cond.fieldLink RX5 11 "WrongedMeters$Town" "houses" "[LWrongedMeters$House;" ∈ wsX5_balances := by decide +kernel
set_option maxRecDepth 20000 in
theorem mX5_balances_in5 : ∀ w ∈ u_ws RX5 TX5 13, w ∈ wsX5_balances := by decide +kernel
set_option maxRecDepth 20000 in
theorem mX5_balances_in1 : ∀ w ∈ u_ws RX1 TX1 14, w ∈ wsX5_balances := by decide +kernel
theorem hyX5_balances : yX5_balances.cls = RX5 ∧ yX5_balances.cls ≠ "java/lang/invoke/MethodHandle" ∧ yX5_balances.cls ≠ "java/lang/invoke/VarHandle" ∧ (parseMethodDescriptor yX5_balances.desc).map (fun d => d.parameters.length) = some 0 := by decide +kernel
set_option maxHeartbeats 3000000 in
set_option maxRecDepth 100000 in
theorem kX5_balances (l : Launch) (D : va_G) (cy : Nat → ClassId) (K : zK) (n : Nat) (ad : Nat → Nat) (hJ : zJ n ad) (b : Nat) (hO : zTown cy K n ad b) (t : zM)   : zI l yX5_balances wsX5_balances 0 D cy K n ad t [.ref (ad (b))] (fun r t1 => r = rX5_balances b t ∧ t1 = t) := by
  refine z_startI (cc := cX5_balances) (mL := 6) (ret := (some .int)) (own := RX5) rfl (by decide +kernel) rfl hJ (Nat.le_of_ble_eq_true rfl) ?_
  intro p e s m args below meth c A hA Q hQ C
  refine z_iconst C 0 (v := 0) dX5_balances_0 (by decide +kernel) ?_
  refine z_istore_n C 1 1 ([(1, .int 0), (0, .ref (ad (b)))]) dX5_balances_1 rfl (by decide) rfl ?_
  refine z_aload_n C 2 0 1 dX5_balances_2 rfl rfl ?_
  refine z_getr C 3 (a9 := ad (b + 1)) (b) 0 dX5_balances_3 hO.h0 hO.e0 mX5_balances_in5 rfl (by decide) mX5_balances_f11 (fun _ => rfl) ?_
  refine z_astore_n C 6 2 ([(2, .ref (ad (b + 1))), (1, .int 0), (0, .ref (ad (b)))]) dX5_balances_6 rfl (by decide) rfl ?_
  refine z_aload_n C 7 2 0 dX5_balances_7 rfl rfl ?_
  refine z_alen C 8 (v := 24) (b + 1) 1 dX5_balances_8 hO.h1 hO.e1 rfl (show Int32.ofNat 24 = 24 from rfl) ?_
  refine z_istore_n C 9 3 ([(3, .int 24), (2, .ref (ad (b + 1))), (1, .int 0), (0, .ref (ad (b)))]) dX5_balances_9 rfl (by decide) rfl ?_
  refine z_iconst C 10 (v := 0) dX5_balances_10 (by decide +kernel) ?_
  refine z_istore C 11 4 ([(4, .int 0), (3, .int 24), (2, .ref (ad (b + 1))), (1, .int 0), (0, .ref (ad (b)))]) dX5_balances_11 (by decide) rfl ?_
  have L13 : ∀ (j : Nat) (k : Nat) (v : Int32), (h0_13 : 25 ≤ k + j) → (hk : k ≤ 24) → (hI13 : rX5_balances b t = (lX5_balances_13 b t j k v)) → Zw p l e (zR 0) s m args below meth c D A K n ad 6 Q 13 ([(4, .int (nI k)), (1, .int v), (3, .int 24), (2, .ref (ad (b + 1))), (0, .ref (ad (b)))]) [] t := by
    intro j
    induction j with
    | zero =>
      intro k v h0_13 hk hI13
      exact absurd h0_13 (by omega)
    | succ j ih13 =>
      intro k v h0_13 hk hI13
      refine z_iload C 13 4 0 dX5_balances_13 rfl ?_
      refine z_iload_n C 15 3 2 dX5_balances_15 rfl rfl ?_
      refine z_icmp_ge C 16 39 dX5_balances_16 (by decide) (fun c16_1 => ?_) (fun c16_1 => ?_)
      · refine z_iload_n C 39 1 1 dX5_balances_39 rfl rfl ?_
        exact z_iret C 40 hA hQ rfl dX5_balances_40 ⟨((hI13.trans ((if_pos c16_1).trans rfl))).symm, rfl⟩
      · refine z_aload_n C 19 2 3 dX5_balances_19 rfl rfl ?_
        refine z_iload C 20 4 0 dX5_balances_20 rfl ?_
        refine z_aald C 22 (b + 1) 1 k (ad (b + 2 + k)) dX5_balances_22 hO.h1 hO.e1 rfl rfl (zge (b := 24) (by omega) (by decide) ‹¬ (24 : Int32) ≤ nI k›) (by decide) rfl ?_
        refine z_astore C 23 5 ([(5, .ref (ad (b + 2 + k))), (4, .int (nI k)), (1, .int v), (3, .int 24), (2, .ref (ad (b + 1))), (0, .ref (ad (b)))]) dX5_balances_23 (by decide) rfl ?_
        refine z_iload_n C 25 1 2 dX5_balances_25 rfl rfl ?_
        refine z_aload C 26 5 0 dX5_balances_26 rfl ?_
        refine z_getiN C 28 (b + 2 + k) 6 dX5_balances_28 (hO.hou (zge (b := 24) (by omega) (by decide) ‹¬ (24 : Int32) ≤ nI k›)).1 (hO.hou (zge (b := 24) (by omega) (by decide) ‹¬ (24 : Int32) ≤ nI k›)).2 mX5_balances_in1 rfl (by decide) nst_f5_165 (fun _ => rfl) ?_
        refine z_iadd C 31 dX5_balances_31 ?_
        refine z_istore_n C 32 1 ([(1, .int (v + (t (b + 2 + k) 6))), (5, .ref (ad (b + 2 + k))), (4, .int (nI k)), (3, .int 24), (2, .ref (ad (b + 1))), (0, .ref (ad (b)))]) dX5_balances_32 rfl (by decide) rfl ?_
        refine z_iinc C 33 (v := nI (k + 1)) 4 2 ([(4, .int (nI (k + 1))), (1, .int (v + (t (b + 2 + k) 6))), (5, .ref (ad (b + 2 + k))), (3, .int 24), (2, .ref (ad (b + 1))), (0, .ref (ad (b)))]) dX5_balances_33 rfl (nI_1 _) (by decide) rfl ?_
        refine z_goto C 36 13 dX5_balances_36 (by decide) ?_
        refine z_ls [0, 1, 3, 4, 5] _ rfl ?_
        exact ih13 (k + 1) (v + (t (b + 2 + k) 6)) (by omega) (by have := zge (b := 24) (by omega) (by decide) ‹¬ (24 : Int32) ≤ nI k›; omega) (hI13.trans ((if_neg c16_1).trans rfl))
  refine z_ls [0, 3, 1, 2, 4] _ rfl ?_
  exact L13 (25) 0 0 (by omega) (by decide) rfl
theorem zsub20 {x : Int32} (h0 : ¬ x < 20) (h1 : ¬ 24 ≤ x) : vp_in (x - 20) 4 := by
  have p0 : ¬ x < 0 := fun h => h0 (by rw [Int32.lt_iff_toInt_lt] at h ⊢; have e : (Int32.toInt 20) = 20 := by decide
                                       have e0 : (Int32.toInt 0) = 0 := by decide
                                       omega)
  obtain ⟨k, hk, rfl⟩ := zidx p0 (znl.mp h1 : x < nI 24) (by decide)
  have h2 : 20 ≤ k := by
    rcases Nat.lt_or_ge k 20 with q | q
    · exact absurd ((nI_ltI (b := 20) (by omega) (by decide)).mpr q) h0
    · exact q
  show vp_in (nI k - nI 20) 4
  rw [nI_sub h2]
  exact vp_in_nI (by omega) (by decide)
def rX5_number (b : Nat) (t : zM) (a1 : Int32) : Int32 := (if a1 = 0 then (t (b) 5) else (if a1 = 1 then (t (b) 4) else (if a1 = 2 then (rX5_housesLocked (b) t) else (if a1 = 3 then (t (b) 6) else (if a1 = 4 then (t (b) 7) else (if a1 = 5 then (t (b) 8) else (if a1 = 6 then (t (b) 9) else (if a1 = 7 then (t (b) 10) else (if a1 = 8 then (t (b) 11) else (if a1 = 9 then (rX5_housesBetween (b) t 1 100) else (if a1 = 10 then (rX5_housesBetween (b) t (-100) (-1)) else (if a1 = 11 then (10000 + (rX5_balances (b) t)) else (if a1 = 12 then (((10000 + (100 * (t (b) 7))) - (t (b) 9)) - (100 * (t (b) 10))) else (if a1 = 13 then (t (b) 12) else (if a1 = 14 then (t (b + 35) 2) else (if a1 < 20 then (-1000001) else (if 24 ≤ a1 then (-1000001) else (t (b + 37) (a1 - 20).toNatClampNeg))))))))))))))))))
theorem mX5_number_f59 : Cond.fieldLink RX5 59 "WrongedMeters$Town" "now" "I" ∈ wsX5_number := by decide +kernel
set_option maxRecDepth 20000 in
theorem mX5_number_in5 : ∀ w ∈ u_ws RX5 TX5 13, w ∈ wsX5_number := by decide +kernel
theorem mX5_number_f55 : Cond.fieldLink RX5 55 "WrongedMeters$Town" "houseCount" "I" ∈ wsX5_number := by decide +kernel
theorem mX5_number_f62 : Cond.fieldLink RX5 62 "WrongedMeters$Town" "readings" "I" ∈ wsX5_number := by decide +kernel
theorem mX5_number_f65 : Cond.fieldLink RX5 65 "WrongedMeters$Town" "units" "I" ∈ wsX5_number := by decide +kernel
theorem mX5_number_f68 : Cond.fieldLink RX5 68 "WrongedMeters$Town" "coins" "I" ∈ wsX5_number := by decide +kernel
theorem mX5_number_f71 : Cond.fieldLink RX5 71 "WrongedMeters$Town" "hundredths" "I" ∈ wsX5_number := by decide +kernel
theorem mX5_number_f74 : Cond.fieldLink RX5 74 "WrongedMeters$Town" "refunds" "I" ∈ wsX5_number := by decide +kernel
theorem mX5_number_f77 : Cond.fieldLink RX5 77 "WrongedMeters$Town" "coinsBack" "I" ∈ wsX5_number := by decide +kernel
theorem mX5_number_f80 : Cond.fieldLink RX5 80 "WrongedMeters$Town" "years" "I" ∈ wsX5_number := by decide +kernel
theorem mX5_number_f26 : Cond.fieldLink RX5 26 "WrongedMeters$Town" "ledger" "LWrongedMeters$Ledger;" ∈ wsX5_number := by decide +kernel
set_option maxRecDepth 20000 in
theorem mX5_number_in2 : ∀ w ∈ u_ws RX2 TX2 3, w ∈ wsX5_number := by decide +kernel
theorem mX5_number_c100 : Cond.constant RX5 100 (-1000001) ∈ wsX5_number := by decide +kernel
theorem mX5_number_f30 : Cond.fieldLink RX5 30 "WrongedMeters$Town" "settings" "[I" ∈ wsX5_number := by decide +kernel
theorem hyX5_number : yX5_number.cls = RX5 ∧ yX5_number.cls ≠ "java/lang/invoke/MethodHandle" ∧ yX5_number.cls ≠ "java/lang/invoke/VarHandle" ∧ (parseMethodDescriptor yX5_number.desc).map (fun d => d.parameters.length) = some 1 := by decide +kernel
set_option maxHeartbeats 3000000 in
set_option maxRecDepth 100000 in
theorem kX5_number (l : Launch) (D : va_G) (cy : Nat → ClassId) (K : zK) (n : Nat) (ad : Nat → Nat) (hJ : zJ n ad) (b : Nat) (hO : zTown cy K n ad b) (t : zM) (a1 : Int32)  : zI l yX5_number wsX5_number 1 D cy K n ad t [.ref (ad (b)), .int a1] (fun r t1 => r = rX5_number b t a1 ∧ t1 = t) := by
  refine z_startI (cc := cX5_number) (mL := 2) (ret := (some .int)) (own := RX5) rfl (by decide +kernel) rfl hJ (Nat.le_of_ble_eq_true rfl) ?_
  intro p e s m args below meth c A hA Q hQ C
  refine z_iload_n C 0 1 1 dX5_number_0 rfl rfl ?_
  by_cases c1_1 : a1 = 0
  · refine z_tableIn C 1 76 dX5_number_1 (by rw [c1_1]; decide +kernel) (by rw [c1_1]; decide +kernel) (off := 75) (by rw [c1_1]; decide +kernel) (by decide) ?_
    refine z_aload_n C 76 0 0 dX5_number_76 rfl rfl ?_
    refine z_geti C 77 (b) 5 dX5_number_77 hO.h0 hO.e0 mX5_number_in5 rfl (by decide) mX5_number_f59 (fun _ => rfl) ?_
    exact z_iret C 80 hA hQ rfl dX5_number_80 ⟨((if_pos c1_1).trans rfl).symm, rfl⟩
  · by_cases c1_2 : a1 = 1
    · refine z_tableIn C 1 81 dX5_number_1 (by rw [c1_2]; decide +kernel) (by rw [c1_2]; decide +kernel) (off := 80) (by rw [c1_2]; decide +kernel) (by decide) ?_
      refine z_aload_n C 81 0 0 dX5_number_81 rfl rfl ?_
      refine z_geti C 82 (b) 4 dX5_number_82 hO.h0 hO.e0 mX5_number_in5 rfl (by decide) mX5_number_f55 (fun _ => rfl) ?_
      exact z_iret C 85 hA hQ rfl dX5_number_85 ⟨((if_neg c1_1).trans ((if_pos c1_2).trans rfl)).symm, rfl⟩
    · by_cases c1_3 : a1 = 2
      · refine z_tableIn C 1 86 dX5_number_1 (by rw [c1_3]; decide +kernel) (by rw [c1_3]; decide +kernel) (off := 85) (by rw [c1_3]; decide +kernel) (by decide) ?_
        refine z_aload_n C 86 0 0 dX5_number_86 rfl rfl ?_
        refine z_virtIe C 87 (As := []) (st := []) (id := b) (kX5_housesLocked l D cy K n ad hJ (b) hO t  ) dX5_number_87 rfl gX5_number_X5_housesLocked hyX5_housesLocked rfl (by decide) (by decide) hO.h0 rfl hO.e0 rfl rfl rfl (Nat.le_of_ble_eq_true rfl) ?_
        exact z_iret C 90 hA hQ rfl dX5_number_90 ⟨((if_neg c1_1).trans ((if_neg c1_2).trans ((if_pos c1_3).trans rfl))).symm, rfl⟩
      · by_cases c1_5 : a1 = 3
        · refine z_tableIn C 1 91 dX5_number_1 (by rw [c1_5]; decide +kernel) (by rw [c1_5]; decide +kernel) (off := 90) (by rw [c1_5]; decide +kernel) (by decide) ?_
          refine z_aload_n C 91 0 0 dX5_number_91 rfl rfl ?_
          refine z_geti C 92 (b) 6 dX5_number_92 hO.h0 hO.e0 mX5_number_in5 rfl (by decide) mX5_number_f62 (fun _ => rfl) ?_
          exact z_iret C 95 hA hQ rfl dX5_number_95 ⟨((if_neg c1_1).trans ((if_neg c1_2).trans ((if_neg c1_3).trans ((if_pos c1_5).trans rfl)))).symm, rfl⟩
        · by_cases c1_6 : a1 = 4
          · refine z_tableIn C 1 96 dX5_number_1 (by rw [c1_6]; decide +kernel) (by rw [c1_6]; decide +kernel) (off := 95) (by rw [c1_6]; decide +kernel) (by decide) ?_
            refine z_aload_n C 96 0 0 dX5_number_96 rfl rfl ?_
            refine z_geti C 97 (b) 7 dX5_number_97 hO.h0 hO.e0 mX5_number_in5 rfl (by decide) mX5_number_f65 (fun _ => rfl) ?_
            exact z_iret C 100 hA hQ rfl dX5_number_100 ⟨((if_neg c1_1).trans ((if_neg c1_2).trans ((if_neg c1_3).trans ((if_neg c1_5).trans ((if_pos c1_6).trans rfl))))).symm, rfl⟩
          · by_cases c1_7 : a1 = 5
            · refine z_tableIn C 1 101 dX5_number_1 (by rw [c1_7]; decide +kernel) (by rw [c1_7]; decide +kernel) (off := 100) (by rw [c1_7]; decide +kernel) (by decide) ?_
              refine z_aload_n C 101 0 0 dX5_number_101 rfl rfl ?_
              refine z_geti C 102 (b) 8 dX5_number_102 hO.h0 hO.e0 mX5_number_in5 rfl (by decide) mX5_number_f68 (fun _ => rfl) ?_
              exact z_iret C 105 hA hQ rfl dX5_number_105 ⟨((if_neg c1_1).trans ((if_neg c1_2).trans ((if_neg c1_3).trans ((if_neg c1_5).trans ((if_neg c1_6).trans ((if_pos c1_7).trans rfl)))))).symm, rfl⟩
            · by_cases c1_8 : a1 = 6
              · refine z_tableIn C 1 106 dX5_number_1 (by rw [c1_8]; decide +kernel) (by rw [c1_8]; decide +kernel) (off := 105) (by rw [c1_8]; decide +kernel) (by decide) ?_
                refine z_aload_n C 106 0 0 dX5_number_106 rfl rfl ?_
                refine z_geti C 107 (b) 9 dX5_number_107 hO.h0 hO.e0 mX5_number_in5 rfl (by decide) mX5_number_f71 (fun _ => rfl) ?_
                exact z_iret C 110 hA hQ rfl dX5_number_110 ⟨((if_neg c1_1).trans ((if_neg c1_2).trans ((if_neg c1_3).trans ((if_neg c1_5).trans ((if_neg c1_6).trans ((if_neg c1_7).trans ((if_pos c1_8).trans rfl))))))).symm, rfl⟩
              · by_cases c1_9 : a1 = 7
                · refine z_tableIn C 1 111 dX5_number_1 (by rw [c1_9]; decide +kernel) (by rw [c1_9]; decide +kernel) (off := 110) (by rw [c1_9]; decide +kernel) (by decide) ?_
                  refine z_aload_n C 111 0 0 dX5_number_111 rfl rfl ?_
                  refine z_geti C 112 (b) 10 dX5_number_112 hO.h0 hO.e0 mX5_number_in5 rfl (by decide) mX5_number_f74 (fun _ => rfl) ?_
                  exact z_iret C 115 hA hQ rfl dX5_number_115 ⟨((if_neg c1_1).trans ((if_neg c1_2).trans ((if_neg c1_3).trans ((if_neg c1_5).trans ((if_neg c1_6).trans ((if_neg c1_7).trans ((if_neg c1_8).trans ((if_pos c1_9).trans rfl)))))))).symm, rfl⟩
                · by_cases c1_10 : a1 = 8
                  · refine z_tableIn C 1 116 dX5_number_1 (by rw [c1_10]; decide +kernel) (by rw [c1_10]; decide +kernel) (off := 115) (by rw [c1_10]; decide +kernel) (by decide) ?_
                    refine z_aload_n C 116 0 0 dX5_number_116 rfl rfl ?_
                    refine z_geti C 117 (b) 11 dX5_number_117 hO.h0 hO.e0 mX5_number_in5 rfl (by decide) mX5_number_f77 (fun _ => rfl) ?_
                    exact z_iret C 120 hA hQ rfl dX5_number_120 ⟨((if_neg c1_1).trans ((if_neg c1_2).trans ((if_neg c1_3).trans ((if_neg c1_5).trans ((if_neg c1_6).trans ((if_neg c1_7).trans ((if_neg c1_8).trans ((if_neg c1_9).trans ((if_pos c1_10).trans rfl))))))))).symm, rfl⟩
                  · by_cases c1_11 : a1 = 9
                    · refine z_tableIn C 1 121 dX5_number_1 (by rw [c1_11]; decide +kernel) (by rw [c1_11]; decide +kernel) (off := 120) (by rw [c1_11]; decide +kernel) (by decide) ?_
                      refine z_aload_n C 121 0 0 dX5_number_121 rfl rfl ?_
                      refine z_iconst C 122 (v := 1) dX5_number_122 (by decide +kernel) ?_
                      refine z_bipush C 123 (v := 100) dX5_number_123 (by decide +kernel) ?_
                      refine z_virtIe C 125 (As := [.int 1, .int 100]) (st := []) (id := b) (kX5_housesBetween l D cy K n ad hJ (b) hO t 1 100 ) dX5_number_125 rfl gX5_number_X5_housesBetween hyX5_housesBetween rfl (by decide) (by decide) hO.h0 rfl hO.e0 rfl rfl rfl (Nat.le_of_ble_eq_true rfl) ?_
                      exact z_iret C 128 hA hQ rfl dX5_number_128 ⟨((if_neg c1_1).trans ((if_neg c1_2).trans ((if_neg c1_3).trans ((if_neg c1_5).trans ((if_neg c1_6).trans ((if_neg c1_7).trans ((if_neg c1_8).trans ((if_neg c1_9).trans ((if_neg c1_10).trans ((if_pos c1_11).trans rfl)))))))))).symm, rfl⟩
                    · by_cases c1_13 : a1 = 10
                      · refine z_tableIn C 1 129 dX5_number_1 (by rw [c1_13]; decide +kernel) (by rw [c1_13]; decide +kernel) (off := 128) (by rw [c1_13]; decide +kernel) (by decide) ?_
                        refine z_aload_n C 129 0 0 dX5_number_129 rfl rfl ?_
                        refine z_bipush C 130 (v := (-100)) dX5_number_130 (by decide +kernel) ?_
                        refine z_iconst C 132 (v := (-1)) dX5_number_132 (by decide +kernel) ?_
                        refine z_virtIe C 133 (As := [.int (-100), .int (-1)]) (st := []) (id := b) (kX5_housesBetween l D cy K n ad hJ (b) hO t (-100) (-1) ) dX5_number_133 rfl gX5_number_X5_housesBetween hyX5_housesBetween rfl (by decide) (by decide) hO.h0 rfl hO.e0 rfl rfl rfl (Nat.le_of_ble_eq_true rfl) ?_
                        exact z_iret C 136 hA hQ rfl dX5_number_136 ⟨((if_neg c1_1).trans ((if_neg c1_2).trans ((if_neg c1_3).trans ((if_neg c1_5).trans ((if_neg c1_6).trans ((if_neg c1_7).trans ((if_neg c1_8).trans ((if_neg c1_9).trans ((if_neg c1_10).trans ((if_neg c1_11).trans ((if_pos c1_13).trans rfl))))))))))).symm, rfl⟩
                      · by_cases c1_15 : a1 = 11
                        · refine z_tableIn C 1 137 dX5_number_1 (by rw [c1_15]; decide +kernel) (by rw [c1_15]; decide +kernel) (off := 136) (by rw [c1_15]; decide +kernel) (by decide) ?_
                          refine z_sipush C 137 (v := 10000) dX5_number_137 (by decide +kernel) ?_
                          refine z_aload_n C 140 0 0 dX5_number_140 rfl rfl ?_
                          refine z_virtIe C 141 (As := []) (st := [.int 10000]) (id := b) (kX5_balances l D cy K n ad hJ (b) hO t  ) dX5_number_141 rfl gX5_number_X5_balances hyX5_balances rfl (by decide) (by decide) hO.h0 rfl hO.e0 rfl rfl rfl (Nat.le_of_ble_eq_true rfl) ?_
                          refine z_iadd C 144 dX5_number_144 ?_
                          exact z_iret C 145 hA hQ rfl dX5_number_145 ⟨((if_neg c1_1).trans ((if_neg c1_2).trans ((if_neg c1_3).trans ((if_neg c1_5).trans ((if_neg c1_6).trans ((if_neg c1_7).trans ((if_neg c1_8).trans ((if_neg c1_9).trans ((if_neg c1_10).trans ((if_neg c1_11).trans ((if_neg c1_13).trans ((if_pos c1_15).trans rfl)))))))))))).symm, rfl⟩
                        · by_cases c1_17 : a1 = 12
                          · refine z_tableIn C 1 146 dX5_number_1 (by rw [c1_17]; decide +kernel) (by rw [c1_17]; decide +kernel) (off := 145) (by rw [c1_17]; decide +kernel) (by decide) ?_
                            refine z_sipush C 146 (v := 10000) dX5_number_146 (by decide +kernel) ?_
                            refine z_bipush C 149 (v := 100) dX5_number_149 (by decide +kernel) ?_
                            refine z_aload_n C 151 0 0 dX5_number_151 rfl rfl ?_
                            refine z_geti C 152 (b) 7 dX5_number_152 hO.h0 hO.e0 mX5_number_in5 rfl (by decide) mX5_number_f65 (fun _ => rfl) ?_
                            refine z_imul C 155 dX5_number_155 ?_
                            refine z_iadd C 156 dX5_number_156 ?_
                            refine z_aload_n C 157 0 0 dX5_number_157 rfl rfl ?_
                            refine z_geti C 158 (b) 9 dX5_number_158 hO.h0 hO.e0 mX5_number_in5 rfl (by decide) mX5_number_f71 (fun _ => rfl) ?_
                            refine z_isub C 161 dX5_number_161 ?_
                            refine z_bipush C 162 (v := 100) dX5_number_162 (by decide +kernel) ?_
                            refine z_aload_n C 164 0 0 dX5_number_164 rfl rfl ?_
                            refine z_geti C 165 (b) 10 dX5_number_165 hO.h0 hO.e0 mX5_number_in5 rfl (by decide) mX5_number_f74 (fun _ => rfl) ?_
                            refine z_imul C 168 dX5_number_168 ?_
                            refine z_isub C 169 dX5_number_169 ?_
                            exact z_iret C 170 hA hQ rfl dX5_number_170 ⟨((if_neg c1_1).trans ((if_neg c1_2).trans ((if_neg c1_3).trans ((if_neg c1_5).trans ((if_neg c1_6).trans ((if_neg c1_7).trans ((if_neg c1_8).trans ((if_neg c1_9).trans ((if_neg c1_10).trans ((if_neg c1_11).trans ((if_neg c1_13).trans ((if_neg c1_15).trans ((if_pos c1_17).trans rfl))))))))))))).symm, rfl⟩
                          · by_cases c1_18 : a1 = 13
                            · refine z_tableIn C 1 171 dX5_number_1 (by rw [c1_18]; decide +kernel) (by rw [c1_18]; decide +kernel) (off := 170) (by rw [c1_18]; decide +kernel) (by decide) ?_
                              refine z_aload_n C 171 0 0 dX5_number_171 rfl rfl ?_
                              refine z_geti C 172 (b) 12 dX5_number_172 hO.h0 hO.e0 mX5_number_in5 rfl (by decide) mX5_number_f80 (fun _ => rfl) ?_
                              exact z_iret C 175 hA hQ rfl dX5_number_175 ⟨((if_neg c1_1).trans ((if_neg c1_2).trans ((if_neg c1_3).trans ((if_neg c1_5).trans ((if_neg c1_6).trans ((if_neg c1_7).trans ((if_neg c1_8).trans ((if_neg c1_9).trans ((if_neg c1_10).trans ((if_neg c1_11).trans ((if_neg c1_13).trans ((if_neg c1_15).trans ((if_neg c1_17).trans ((if_pos c1_18).trans rfl)))))))))))))).symm, rfl⟩
                            · by_cases c1_19 : a1 = 14
                              · refine z_tableIn C 1 176 dX5_number_1 (by rw [c1_19]; decide +kernel) (by rw [c1_19]; decide +kernel) (off := 175) (by rw [c1_19]; decide +kernel) (by decide) ?_
                                refine z_aload_n C 176 0 0 dX5_number_176 rfl rfl ?_
                                refine z_getr C 177 (a9 := ad (b + 35)) (b) 2 dX5_number_177 hO.h0 hO.e0 mX5_number_in5 rfl (by decide) mX5_number_f26 (fun _ => rfl) ?_
                                refine z_getiN C 180 (b + 35) 2 dX5_number_180 (Nat.lt_of_succ_lt hO.led.1) hO.led.2.1 mX5_number_in2 rfl (by decide) nst_f5_208 (fun _ => rfl) ?_
                                exact z_iret C 183 hA hQ rfl dX5_number_183 ⟨((if_neg c1_1).trans ((if_neg c1_2).trans ((if_neg c1_3).trans ((if_neg c1_5).trans ((if_neg c1_6).trans ((if_neg c1_7).trans ((if_neg c1_8).trans ((if_neg c1_9).trans ((if_neg c1_10).trans ((if_neg c1_11).trans ((if_neg c1_13).trans ((if_neg c1_15).trans ((if_neg c1_17).trans ((if_neg c1_18).trans ((if_pos c1_19).trans rfl))))))))))))))).symm, rfl⟩
                              · have qc1_1 := lv_neT (a := 0) c1_1 rfl
                                have qc1_2 := lv_neT (a := 1) c1_2 rfl
                                have qc1_3 := lv_neT (a := 2) c1_3 rfl
                                have qc1_5 := lv_neT (a := 3) c1_5 rfl
                                have qc1_6 := lv_neT (a := 4) c1_6 rfl
                                have qc1_7 := lv_neT (a := 5) c1_7 rfl
                                have qc1_8 := lv_neT (a := 6) c1_8 rfl
                                have qc1_9 := lv_neT (a := 7) c1_9 rfl
                                have qc1_10 := lv_neT (a := 8) c1_10 rfl
                                have qc1_11 := lv_neT (a := 9) c1_11 rfl
                                have qc1_13 := lv_neT (a := 10) c1_13 rfl
                                have qc1_15 := lv_neT (a := 11) c1_15 rfl
                                have qc1_17 := lv_neT (a := 12) c1_17 rfl
                                have qc1_18 := lv_neT (a := 13) c1_18 rfl
                                have qc1_19 := lv_neT (a := 14) c1_19 rfl
                                refine z_tableOut C 1 184 dX5_number_1 (by omega) (by decide) ?_
                                refine z_iload_n C 184 1 1 dX5_number_184 rfl rfl ?_
                                refine z_bipush C 185 (v := 20) dX5_number_185 (by decide +kernel) ?_
                                refine z_icmp_lt C 187 208 dX5_number_187 (by decide) (fun c187_20 => ?_) (fun c187_20 => ?_)
                                · refine z_ldc C 208 (v := (-1000001)) dX5_number_208 mX5_number_c100 ?_
                                  exact z_iret C 210 hA hQ rfl dX5_number_210 ⟨((if_neg c1_1).trans ((if_neg c1_2).trans ((if_neg c1_3).trans ((if_neg c1_5).trans ((if_neg c1_6).trans ((if_neg c1_7).trans ((if_neg c1_8).trans ((if_neg c1_9).trans ((if_neg c1_10).trans ((if_neg c1_11).trans ((if_neg c1_13).trans ((if_neg c1_15).trans ((if_neg c1_17).trans ((if_neg c1_18).trans ((if_neg c1_19).trans ((if_pos c187_20).trans rfl)))))))))))))))).symm, rfl⟩
                                · refine z_iload_n C 190 1 1 dX5_number_190 rfl rfl ?_
                                  refine z_bipush C 191 (v := 24) dX5_number_191 (by decide +kernel) ?_
                                  refine z_icmp_ge C 193 208 dX5_number_193 (by decide) (fun c193_21 => ?_) (fun c193_21 => ?_)
                                  · refine z_ldc C 208 (v := (-1000001)) dX5_number_208 mX5_number_c100 ?_
                                    exact z_iret C 210 hA hQ rfl dX5_number_210 ⟨((if_neg c1_1).trans ((if_neg c1_2).trans ((if_neg c1_3).trans ((if_neg c1_5).trans ((if_neg c1_6).trans ((if_neg c1_7).trans ((if_neg c1_8).trans ((if_neg c1_9).trans ((if_neg c1_10).trans ((if_neg c1_11).trans ((if_neg c1_13).trans ((if_neg c1_15).trans ((if_neg c1_17).trans ((if_neg c1_18).trans ((if_neg c1_19).trans ((if_neg c187_20).trans ((if_pos c193_21).trans rfl))))))))))))))))).symm, rfl⟩
                                  · refine z_aload_n C 196 0 0 dX5_number_196 rfl rfl ?_
                                    refine z_getr C 197 (a9 := ad (b + 37)) (b) 3 dX5_number_197 hO.h0 hO.e0 mX5_number_in5 rfl (by decide) mX5_number_f30 (fun _ => rfl) ?_
                                    refine z_iload_n C 200 1 1 dX5_number_200 rfl rfl ?_
                                    refine z_bipush C 201 (v := 20) dX5_number_201 (by decide +kernel) ?_
                                    refine z_isub C 203 dX5_number_203 ?_
                                    refine z_iald C 204 (b + 37) dX5_number_204 hO.h37 hO.e37 (zsub20 ‹¬ a1 < 20› ‹¬ 24 ≤ a1›) ?_
                                    refine z_goto C 205 210 dX5_number_205 (by decide) ?_
                                    exact z_iret C 210 hA hQ rfl dX5_number_210 ⟨((if_neg c1_1).trans ((if_neg c1_2).trans ((if_neg c1_3).trans ((if_neg c1_5).trans ((if_neg c1_6).trans ((if_neg c1_7).trans ((if_neg c1_8).trans ((if_neg c1_9).trans ((if_neg c1_10).trans ((if_neg c1_11).trans ((if_neg c1_13).trans ((if_neg c1_15).trans ((if_neg c1_17).trans ((if_neg c1_18).trans ((if_neg c1_19).trans ((if_neg c187_20).trans ((if_neg c193_21).trans rfl))))))))))))))))).symm, rfl⟩
def rX5_obey (b : Nat) (t : zM) (a1 : Int32) (a2 : Int32) (a3 : Int32) (N : Nat) : Int32 := (if a1 = 99 then (rX5_changeMeter (b) t a2) else (if a1 = 100 then (if a2 < 1 then (-1000001) else (if a2 ≤ 99 then (if ((t (b) 5) + a2) ≤ 9999 then (rX5_passDays (b) t a2.toNatClampNeg N) else (-1000003)) else (-1000001))) else (if a1 = 101 then (-1000001) else (if a1 = 102 then (rX5_putFlow (b) t a2 a3) else (if a1 = 103 then (-1000001) else (if a1 = 104 then (rX5_addHouse (b) t ((t (b) 4).toNatClampNeg) a2 a3) else (if a1 = 105 then (-1000001) else (if a1 = 106 then (-1000001) else (if a1 = 107 then (-1000001) else (if a1 = 108 then (rX5_turnLock (b) t a2) else (if a1 = 109 then (-1000001) else (if a1 = 110 then (-1000001) else (if a1 = 111 then (-1000001) else (if a1 = 112 then (-1000001) else (if a1 = 113 then (-1000001) else (if a1 = 114 then (rX5_readIfOpen (b) t a2) else (-1000001)))))))))))))))))
def sX5_obey (b : Nat) (t : zM) (a1 : Int32) (a2 : Int32) (a3 : Int32) (N : Nat) : zM := (if a1 = 99 then (sX5_changeMeter (b) t a2) else (if a1 = 100 then (if a2 < 1 then t else (if a2 ≤ 99 then (if ((t (b) 5) + a2) ≤ 9999 then (sX5_passDays (b) t a2.toNatClampNeg N) else t) else t)) else (if a1 = 101 then t else (if a1 = 102 then (sX5_putFlow (b) t a2 a3) else (if a1 = 103 then t else (if a1 = 104 then (sX5_addHouse (b) t ((t (b) 4).toNatClampNeg) a2 a3) else (if a1 = 105 then t else (if a1 = 106 then t else (if a1 = 107 then t else (if a1 = 108 then (sX5_turnLock (b) t a2) else (if a1 = 109 then t else (if a1 = 110 then t else (if a1 = 111 then t else (if a1 = 112 then t else (if a1 = 113 then t else (if a1 = 114 then (sX5_readIfOpen (b) t a2) else t))))))))))))))))
theorem mX5_obey_c100 : Cond.constant RX5 100 (-1000001) ∈ wsX5_obey := by decide +kernel
theorem mX5_obey_f59 : Cond.fieldLink RX5 59 "WrongedMeters$Town" "now" "I" ∈ wsX5_obey := by decide +kernel
set_option maxRecDepth 20000 in
theorem mX5_obey_in5 : ∀ w ∈ u_ws RX5 TX5 13, w ∈ wsX5_obey := by decide +kernel
theorem mX5_obey_c101 : Cond.constant RX5 101 (-1000003) ∈ wsX5_obey := by decide +kernel
theorem hyX5_obey : yX5_obey.cls = RX5 ∧ yX5_obey.cls ≠ "java/lang/invoke/MethodHandle" ∧ yX5_obey.cls ≠ "java/lang/invoke/VarHandle" ∧ (parseMethodDescriptor yX5_obey.desc).map (fun d => d.parameters.length) = some 3 := by decide +kernel
set_option maxHeartbeats 3000000 in
set_option maxRecDepth 100000 in
theorem kX5_obey (l : Launch) (D : va_G) (cy : Nat → ClassId) (K : zK) (n : Nat) (ad : Nat → Nat) (hJ : zJ n ad) (b : Nat) (hO : zTown cy K n ad b) (t : zM) (a1 : Int32) (a2 : Int32) (a3 : Int32) (N : Nat) (hN : N ≤ 20000) (hs : zTs N b t) : zI l yX5_obey wsX5_obey 4 D cy K n ad t [.ref (ad (b)), .int a1, .int a2, .int a3] (fun r t1 => r = rX5_obey b t a1 a2 a3 N ∧ t1 = sX5_obey b t a1 a2 a3 N) := by
  refine z_startI (cc := cX5_obey) (mL := 4) (ret := (some .int)) (own := RX5) rfl (by decide +kernel) rfl hJ (Nat.le_of_ble_eq_true rfl) ?_
  intro p e s m args below meth c A hA Q hQ C
  refine z_iload_n C 0 1 1 dX5_obey_0 rfl rfl ?_
  by_cases c1_1 : a1 = 99
  · refine z_tableIn C 1 106 dX5_obey_1 (by rw [c1_1]; decide +kernel) (by rw [c1_1]; decide +kernel) (off := 105) (by rw [c1_1]; decide +kernel) (by decide) ?_
    refine z_aload_n C 106 0 0 dX5_obey_106 rfl rfl ?_
    refine z_iload_n C 107 2 2 dX5_obey_107 rfl rfl ?_
    refine z_virtIe C 108 (As := [.int a2]) (st := []) (id := b) (kX5_changeMeter l D cy K n ad hJ (b) hO t N a2 hs) dX5_obey_108 rfl gX5_obey_X5_changeMeter hyX5_changeMeter rfl (by decide) (by decide) hO.h0 rfl hO.e0 rfl rfl rfl (Nat.le_of_ble_eq_true rfl) ?_
    exact z_iret C 111 hA hQ rfl dX5_obey_111 ⟨((if_pos c1_1).trans rfl).symm, ((if_pos c1_1).trans rfl).symm⟩
  · by_cases c1_3 : a1 = 100
    · refine z_tableIn C 1 112 dX5_obey_1 (by rw [c1_3]; decide +kernel) (by rw [c1_3]; decide +kernel) (off := 111) (by rw [c1_3]; decide +kernel) (by decide) ?_
      refine z_iload_n C 112 2 2 dX5_obey_112 rfl rfl ?_
      refine z_iconst C 113 (v := 1) dX5_obey_113 (by decide +kernel) ?_
      refine z_icmp_lt C 114 123 dX5_obey_114 (by decide) (fun c114_4 => ?_) (fun c114_4 => ?_)
      · refine z_ldc C 123 (v := (-1000001)) dX5_obey_123 mX5_obey_c100 ?_
        exact z_iret C 125 hA hQ rfl dX5_obey_125 ⟨((if_neg c1_1).trans ((if_pos c1_3).trans ((if_pos c114_4).trans rfl))).symm, ((if_neg c1_1).trans ((if_pos c1_3).trans ((if_pos c114_4).trans rfl))).symm⟩
      · refine z_iload_n C 117 2 2 dX5_obey_117 rfl rfl ?_
        refine z_bipush C 118 (v := 99) dX5_obey_118 (by decide +kernel) ?_
        refine z_icmp_le C 120 126 dX5_obey_120 (by decide) (fun c120_5 => ?_) (fun c120_5 => ?_)
        · refine z_aload_n C 126 0 0 dX5_obey_126 rfl rfl ?_
          refine z_geti C 127 (b) 5 dX5_obey_127 hO.h0 hO.e0 mX5_obey_in5 rfl (by decide) mX5_obey_f59 (fun _ => rfl) ?_
          refine z_iload_n C 130 2 2 dX5_obey_130 rfl rfl ?_
          refine z_iadd C 131 dX5_obey_131 ?_
          refine z_sipush C 132 (v := 9999) dX5_obey_132 (by decide +kernel) ?_
          refine z_icmp_le C 135 143 dX5_obey_135 (by decide) (fun c135_6 => ?_) (fun c135_6 => ?_)
          · refine z_aload_n C 143 0 0 dX5_obey_143 rfl rfl ?_
            refine z_iload_n C 144 2 2 dX5_obey_144 rfl rfl ?_
            refine z_nv (nI a2.toNatClampNeg) (znc (zlt1 ‹¬ a2 < 1›)) ?_
            refine z_virtIe C 145 (As := [.int (nI a2.toNatClampNeg)]) (st := []) (id := b) (kX5_passDays l D cy K n ad hJ (b) hO t a2.toNatClampNeg N (z99 ‹¬ a2 < 1› (znlt.mpr ‹a2 ≤ 99›)) hN hs) dX5_obey_145 rfl gX5_obey_X5_passDays hyX5_passDays rfl (by decide) (by decide) hO.h0 rfl hO.e0 rfl rfl rfl (Nat.le_of_ble_eq_true rfl) ?_
            exact z_iret C 148 hA hQ rfl dX5_obey_148 ⟨((if_neg c1_1).trans ((if_pos c1_3).trans ((if_neg c114_4).trans ((if_pos c120_5).trans ((if_pos c135_6).trans rfl))))).symm, ((if_neg c1_1).trans ((if_pos c1_3).trans ((if_neg c114_4).trans ((if_pos c120_5).trans ((if_pos c135_6).trans rfl))))).symm⟩
          · refine z_ldc C 138 (v := (-1000003)) dX5_obey_138 mX5_obey_c101 ?_
            refine z_goto C 140 148 dX5_obey_140 (by decide) ?_
            exact z_iret C 148 hA hQ rfl dX5_obey_148 ⟨((if_neg c1_1).trans ((if_pos c1_3).trans ((if_neg c114_4).trans ((if_pos c120_5).trans ((if_neg c135_6).trans rfl))))).symm, ((if_neg c1_1).trans ((if_pos c1_3).trans ((if_neg c114_4).trans ((if_pos c120_5).trans ((if_neg c135_6).trans rfl))))).symm⟩
        · refine z_ldc C 123 (v := (-1000001)) dX5_obey_123 mX5_obey_c100 ?_
          exact z_iret C 125 hA hQ rfl dX5_obey_125 ⟨((if_neg c1_1).trans ((if_pos c1_3).trans ((if_neg c114_4).trans ((if_neg c120_5).trans rfl)))).symm, ((if_neg c1_1).trans ((if_pos c1_3).trans ((if_neg c114_4).trans ((if_neg c120_5).trans rfl)))).symm⟩
    · by_cases c1_8 : a1 = 101
      · refine z_tableIn C 1 149 dX5_obey_1 (by rw [c1_8]; decide +kernel) (by rw [c1_8]; decide +kernel) (off := 148) (by rw [c1_8]; decide +kernel) (by decide) ?_
        refine z_ldc C 149 (v := (-1000001)) dX5_obey_149 mX5_obey_c100 ?_
        exact z_iret C 151 hA hQ rfl dX5_obey_151 ⟨((if_neg c1_1).trans ((if_neg c1_3).trans ((if_pos c1_8).trans rfl))).symm, ((if_neg c1_1).trans ((if_neg c1_3).trans ((if_pos c1_8).trans rfl))).symm⟩
      · by_cases c1_9 : a1 = 102
        · refine z_tableIn C 1 87 dX5_obey_1 (by rw [c1_9]; decide +kernel) (by rw [c1_9]; decide +kernel) (off := 86) (by rw [c1_9]; decide +kernel) (by decide) ?_
          refine z_aload_n C 87 0 0 dX5_obey_87 rfl rfl ?_
          refine z_iload_n C 88 2 2 dX5_obey_88 rfl rfl ?_
          refine z_iload_n C 89 3 3 dX5_obey_89 rfl rfl ?_
          refine z_virtIe C 90 (As := [.int a2, .int a3]) (st := []) (id := b) (kX5_putFlow l D cy K n ad hJ (b) hO t a2 a3 ) dX5_obey_90 rfl gX5_obey_X5_putFlow hyX5_putFlow rfl (by decide) (by decide) hO.h0 rfl hO.e0 rfl rfl rfl (Nat.le_of_ble_eq_true rfl) ?_
          exact z_iret C 93 hA hQ rfl dX5_obey_93 ⟨((if_neg c1_1).trans ((if_neg c1_3).trans ((if_neg c1_8).trans ((if_pos c1_9).trans rfl)))).symm, ((if_neg c1_1).trans ((if_neg c1_3).trans ((if_neg c1_8).trans ((if_pos c1_9).trans rfl)))).symm⟩
        · by_cases c1_11 : a1 = 103
          · refine z_tableIn C 1 149 dX5_obey_1 (by rw [c1_11]; decide +kernel) (by rw [c1_11]; decide +kernel) (off := 148) (by rw [c1_11]; decide +kernel) (by decide) ?_
            refine z_ldc C 149 (v := (-1000001)) dX5_obey_149 mX5_obey_c100 ?_
            exact z_iret C 151 hA hQ rfl dX5_obey_151 ⟨((if_neg c1_1).trans ((if_neg c1_3).trans ((if_neg c1_8).trans ((if_neg c1_9).trans ((if_pos c1_11).trans rfl))))).symm, ((if_neg c1_1).trans ((if_neg c1_3).trans ((if_neg c1_8).trans ((if_neg c1_9).trans ((if_pos c1_11).trans rfl))))).symm⟩
          · by_cases c1_12 : a1 = 104
            · refine z_tableIn C 1 80 dX5_obey_1 (by rw [c1_12]; decide +kernel) (by rw [c1_12]; decide +kernel) (off := 79) (by rw [c1_12]; decide +kernel) (by decide) ?_
              refine z_aload_n C 80 0 0 dX5_obey_80 rfl rfl ?_
              refine z_iload_n C 81 2 2 dX5_obey_81 rfl rfl ?_
              refine z_iload_n C 82 3 3 dX5_obey_82 rfl rfl ?_
              refine z_virtIe C 83 (As := [.int a2, .int a3]) (st := []) (id := b) (kX5_addHouse l D cy K n ad hJ (b) hO t ((t (b) 4).toNatClampNeg) a2 a3 hs.2.2.c.1 hs.2.2.c.2) dX5_obey_83 rfl gX5_obey_X5_addHouse hyX5_addHouse rfl (by decide) (by decide) hO.h0 rfl hO.e0 rfl rfl rfl (Nat.le_of_ble_eq_true rfl) ?_
              exact z_iret C 86 hA hQ rfl dX5_obey_86 ⟨((if_neg c1_1).trans ((if_neg c1_3).trans ((if_neg c1_8).trans ((if_neg c1_9).trans ((if_neg c1_11).trans ((if_pos c1_12).trans rfl)))))).symm, ((if_neg c1_1).trans ((if_neg c1_3).trans ((if_neg c1_8).trans ((if_neg c1_9).trans ((if_neg c1_11).trans ((if_pos c1_12).trans rfl)))))).symm⟩
            · by_cases c1_14 : a1 = 105
              · refine z_tableIn C 1 149 dX5_obey_1 (by rw [c1_14]; decide +kernel) (by rw [c1_14]; decide +kernel) (off := 148) (by rw [c1_14]; decide +kernel) (by decide) ?_
                refine z_ldc C 149 (v := (-1000001)) dX5_obey_149 mX5_obey_c100 ?_
                exact z_iret C 151 hA hQ rfl dX5_obey_151 ⟨((if_neg c1_1).trans ((if_neg c1_3).trans ((if_neg c1_8).trans ((if_neg c1_9).trans ((if_neg c1_11).trans ((if_neg c1_12).trans ((if_pos c1_14).trans rfl))))))).symm, ((if_neg c1_1).trans ((if_neg c1_3).trans ((if_neg c1_8).trans ((if_neg c1_9).trans ((if_neg c1_11).trans ((if_neg c1_12).trans ((if_pos c1_14).trans rfl))))))).symm⟩
              · by_cases c1_15 : a1 = 106
                · refine z_tableIn C 1 149 dX5_obey_1 (by rw [c1_15]; decide +kernel) (by rw [c1_15]; decide +kernel) (off := 148) (by rw [c1_15]; decide +kernel) (by decide) ?_
                  refine z_ldc C 149 (v := (-1000001)) dX5_obey_149 mX5_obey_c100 ?_
                  exact z_iret C 151 hA hQ rfl dX5_obey_151 ⟨((if_neg c1_1).trans ((if_neg c1_3).trans ((if_neg c1_8).trans ((if_neg c1_9).trans ((if_neg c1_11).trans ((if_neg c1_12).trans ((if_neg c1_14).trans ((if_pos c1_15).trans rfl)))))))).symm, ((if_neg c1_1).trans ((if_neg c1_3).trans ((if_neg c1_8).trans ((if_neg c1_9).trans ((if_neg c1_11).trans ((if_neg c1_12).trans ((if_neg c1_14).trans ((if_pos c1_15).trans rfl)))))))).symm⟩
                · by_cases c1_16 : a1 = 107
                  · refine z_tableIn C 1 149 dX5_obey_1 (by rw [c1_16]; decide +kernel) (by rw [c1_16]; decide +kernel) (off := 148) (by rw [c1_16]; decide +kernel) (by decide) ?_
                    refine z_ldc C 149 (v := (-1000001)) dX5_obey_149 mX5_obey_c100 ?_
                    exact z_iret C 151 hA hQ rfl dX5_obey_151 ⟨((if_neg c1_1).trans ((if_neg c1_3).trans ((if_neg c1_8).trans ((if_neg c1_9).trans ((if_neg c1_11).trans ((if_neg c1_12).trans ((if_neg c1_14).trans ((if_neg c1_15).trans ((if_pos c1_16).trans rfl))))))))).symm, ((if_neg c1_1).trans ((if_neg c1_3).trans ((if_neg c1_8).trans ((if_neg c1_9).trans ((if_neg c1_11).trans ((if_neg c1_12).trans ((if_neg c1_14).trans ((if_neg c1_15).trans ((if_pos c1_16).trans rfl))))))))).symm⟩
                  · by_cases c1_17 : a1 = 108
                    · refine z_tableIn C 1 94 dX5_obey_1 (by rw [c1_17]; decide +kernel) (by rw [c1_17]; decide +kernel) (off := 93) (by rw [c1_17]; decide +kernel) (by decide) ?_
                      refine z_aload_n C 94 0 0 dX5_obey_94 rfl rfl ?_
                      refine z_iload_n C 95 2 2 dX5_obey_95 rfl rfl ?_
                      refine z_virtIe C 96 (As := [.int a2]) (st := []) (id := b) (kX5_turnLock l D cy K n ad hJ (b) hO t a2 ) dX5_obey_96 rfl gX5_obey_X5_turnLock hyX5_turnLock rfl (by decide) (by decide) hO.h0 rfl hO.e0 rfl rfl rfl (Nat.le_of_ble_eq_true rfl) ?_
                      exact z_iret C 99 hA hQ rfl dX5_obey_99 ⟨((if_neg c1_1).trans ((if_neg c1_3).trans ((if_neg c1_8).trans ((if_neg c1_9).trans ((if_neg c1_11).trans ((if_neg c1_12).trans ((if_neg c1_14).trans ((if_neg c1_15).trans ((if_neg c1_16).trans ((if_pos c1_17).trans rfl)))))))))).symm, ((if_neg c1_1).trans ((if_neg c1_3).trans ((if_neg c1_8).trans ((if_neg c1_9).trans ((if_neg c1_11).trans ((if_neg c1_12).trans ((if_neg c1_14).trans ((if_neg c1_15).trans ((if_neg c1_16).trans ((if_pos c1_17).trans rfl)))))))))).symm⟩
                    · by_cases c1_19 : a1 = 109
                      · refine z_tableIn C 1 149 dX5_obey_1 (by rw [c1_19]; decide +kernel) (by rw [c1_19]; decide +kernel) (off := 148) (by rw [c1_19]; decide +kernel) (by decide) ?_
                        refine z_ldc C 149 (v := (-1000001)) dX5_obey_149 mX5_obey_c100 ?_
                        exact z_iret C 151 hA hQ rfl dX5_obey_151 ⟨((if_neg c1_1).trans ((if_neg c1_3).trans ((if_neg c1_8).trans ((if_neg c1_9).trans ((if_neg c1_11).trans ((if_neg c1_12).trans ((if_neg c1_14).trans ((if_neg c1_15).trans ((if_neg c1_16).trans ((if_neg c1_17).trans ((if_pos c1_19).trans rfl))))))))))).symm, ((if_neg c1_1).trans ((if_neg c1_3).trans ((if_neg c1_8).trans ((if_neg c1_9).trans ((if_neg c1_11).trans ((if_neg c1_12).trans ((if_neg c1_14).trans ((if_neg c1_15).trans ((if_neg c1_16).trans ((if_neg c1_17).trans ((if_pos c1_19).trans rfl))))))))))).symm⟩
                      · by_cases c1_20 : a1 = 110
                        · refine z_tableIn C 1 149 dX5_obey_1 (by rw [c1_20]; decide +kernel) (by rw [c1_20]; decide +kernel) (off := 148) (by rw [c1_20]; decide +kernel) (by decide) ?_
                          refine z_ldc C 149 (v := (-1000001)) dX5_obey_149 mX5_obey_c100 ?_
                          exact z_iret C 151 hA hQ rfl dX5_obey_151 ⟨((if_neg c1_1).trans ((if_neg c1_3).trans ((if_neg c1_8).trans ((if_neg c1_9).trans ((if_neg c1_11).trans ((if_neg c1_12).trans ((if_neg c1_14).trans ((if_neg c1_15).trans ((if_neg c1_16).trans ((if_neg c1_17).trans ((if_neg c1_19).trans ((if_pos c1_20).trans rfl)))))))))))).symm, ((if_neg c1_1).trans ((if_neg c1_3).trans ((if_neg c1_8).trans ((if_neg c1_9).trans ((if_neg c1_11).trans ((if_neg c1_12).trans ((if_neg c1_14).trans ((if_neg c1_15).trans ((if_neg c1_16).trans ((if_neg c1_17).trans ((if_neg c1_19).trans ((if_pos c1_20).trans rfl)))))))))))).symm⟩
                        · by_cases c1_21 : a1 = 111
                          · refine z_tableIn C 1 149 dX5_obey_1 (by rw [c1_21]; decide +kernel) (by rw [c1_21]; decide +kernel) (off := 148) (by rw [c1_21]; decide +kernel) (by decide) ?_
                            refine z_ldc C 149 (v := (-1000001)) dX5_obey_149 mX5_obey_c100 ?_
                            exact z_iret C 151 hA hQ rfl dX5_obey_151 ⟨((if_neg c1_1).trans ((if_neg c1_3).trans ((if_neg c1_8).trans ((if_neg c1_9).trans ((if_neg c1_11).trans ((if_neg c1_12).trans ((if_neg c1_14).trans ((if_neg c1_15).trans ((if_neg c1_16).trans ((if_neg c1_17).trans ((if_neg c1_19).trans ((if_neg c1_20).trans ((if_pos c1_21).trans rfl))))))))))))).symm, ((if_neg c1_1).trans ((if_neg c1_3).trans ((if_neg c1_8).trans ((if_neg c1_9).trans ((if_neg c1_11).trans ((if_neg c1_12).trans ((if_neg c1_14).trans ((if_neg c1_15).trans ((if_neg c1_16).trans ((if_neg c1_17).trans ((if_neg c1_19).trans ((if_neg c1_20).trans ((if_pos c1_21).trans rfl))))))))))))).symm⟩
                          · by_cases c1_22 : a1 = 112
                            · refine z_tableIn C 1 149 dX5_obey_1 (by rw [c1_22]; decide +kernel) (by rw [c1_22]; decide +kernel) (off := 148) (by rw [c1_22]; decide +kernel) (by decide) ?_
                              refine z_ldc C 149 (v := (-1000001)) dX5_obey_149 mX5_obey_c100 ?_
                              exact z_iret C 151 hA hQ rfl dX5_obey_151 ⟨((if_neg c1_1).trans ((if_neg c1_3).trans ((if_neg c1_8).trans ((if_neg c1_9).trans ((if_neg c1_11).trans ((if_neg c1_12).trans ((if_neg c1_14).trans ((if_neg c1_15).trans ((if_neg c1_16).trans ((if_neg c1_17).trans ((if_neg c1_19).trans ((if_neg c1_20).trans ((if_neg c1_21).trans ((if_pos c1_22).trans rfl)))))))))))))).symm, ((if_neg c1_1).trans ((if_neg c1_3).trans ((if_neg c1_8).trans ((if_neg c1_9).trans ((if_neg c1_11).trans ((if_neg c1_12).trans ((if_neg c1_14).trans ((if_neg c1_15).trans ((if_neg c1_16).trans ((if_neg c1_17).trans ((if_neg c1_19).trans ((if_neg c1_20).trans ((if_neg c1_21).trans ((if_pos c1_22).trans rfl)))))))))))))).symm⟩
                            · by_cases c1_23 : a1 = 113
                              · refine z_tableIn C 1 149 dX5_obey_1 (by rw [c1_23]; decide +kernel) (by rw [c1_23]; decide +kernel) (off := 148) (by rw [c1_23]; decide +kernel) (by decide) ?_
                                refine z_ldc C 149 (v := (-1000001)) dX5_obey_149 mX5_obey_c100 ?_
                                exact z_iret C 151 hA hQ rfl dX5_obey_151 ⟨((if_neg c1_1).trans ((if_neg c1_3).trans ((if_neg c1_8).trans ((if_neg c1_9).trans ((if_neg c1_11).trans ((if_neg c1_12).trans ((if_neg c1_14).trans ((if_neg c1_15).trans ((if_neg c1_16).trans ((if_neg c1_17).trans ((if_neg c1_19).trans ((if_neg c1_20).trans ((if_neg c1_21).trans ((if_neg c1_22).trans ((if_pos c1_23).trans rfl))))))))))))))).symm, ((if_neg c1_1).trans ((if_neg c1_3).trans ((if_neg c1_8).trans ((if_neg c1_9).trans ((if_neg c1_11).trans ((if_neg c1_12).trans ((if_neg c1_14).trans ((if_neg c1_15).trans ((if_neg c1_16).trans ((if_neg c1_17).trans ((if_neg c1_19).trans ((if_neg c1_20).trans ((if_neg c1_21).trans ((if_neg c1_22).trans ((if_pos c1_23).trans rfl))))))))))))))).symm⟩
                              · by_cases c1_24 : a1 = 114
                                · refine z_tableIn C 1 100 dX5_obey_1 (by rw [c1_24]; decide +kernel) (by rw [c1_24]; decide +kernel) (off := 99) (by rw [c1_24]; decide +kernel) (by decide) ?_
                                  refine z_aload_n C 100 0 0 dX5_obey_100 rfl rfl ?_
                                  refine z_iload_n C 101 2 2 dX5_obey_101 rfl rfl ?_
                                  refine z_virtIe C 102 (As := [.int a2]) (st := []) (id := b) (kX5_readIfOpen l D cy K n ad hJ (b) hO t N a2 hs) dX5_obey_102 rfl gX5_obey_X5_readIfOpen hyX5_readIfOpen rfl (by decide) (by decide) hO.h0 rfl hO.e0 rfl rfl rfl (Nat.le_of_ble_eq_true rfl) ?_
                                  exact z_iret C 105 hA hQ rfl dX5_obey_105 ⟨((if_neg c1_1).trans ((if_neg c1_3).trans ((if_neg c1_8).trans ((if_neg c1_9).trans ((if_neg c1_11).trans ((if_neg c1_12).trans ((if_neg c1_14).trans ((if_neg c1_15).trans ((if_neg c1_16).trans ((if_neg c1_17).trans ((if_neg c1_19).trans ((if_neg c1_20).trans ((if_neg c1_21).trans ((if_neg c1_22).trans ((if_neg c1_23).trans ((if_pos c1_24).trans rfl)))))))))))))))).symm, ((if_neg c1_1).trans ((if_neg c1_3).trans ((if_neg c1_8).trans ((if_neg c1_9).trans ((if_neg c1_11).trans ((if_neg c1_12).trans ((if_neg c1_14).trans ((if_neg c1_15).trans ((if_neg c1_16).trans ((if_neg c1_17).trans ((if_neg c1_19).trans ((if_neg c1_20).trans ((if_neg c1_21).trans ((if_neg c1_22).trans ((if_neg c1_23).trans ((if_pos c1_24).trans rfl)))))))))))))))).symm⟩
                                · have qc1_1 := lv_neT (a := 99) c1_1 rfl
                                  have qc1_3 := lv_neT (a := 100) c1_3 rfl
                                  have qc1_8 := lv_neT (a := 101) c1_8 rfl
                                  have qc1_9 := lv_neT (a := 102) c1_9 rfl
                                  have qc1_11 := lv_neT (a := 103) c1_11 rfl
                                  have qc1_12 := lv_neT (a := 104) c1_12 rfl
                                  have qc1_14 := lv_neT (a := 105) c1_14 rfl
                                  have qc1_15 := lv_neT (a := 106) c1_15 rfl
                                  have qc1_16 := lv_neT (a := 107) c1_16 rfl
                                  have qc1_17 := lv_neT (a := 108) c1_17 rfl
                                  have qc1_19 := lv_neT (a := 109) c1_19 rfl
                                  have qc1_20 := lv_neT (a := 110) c1_20 rfl
                                  have qc1_21 := lv_neT (a := 111) c1_21 rfl
                                  have qc1_22 := lv_neT (a := 112) c1_22 rfl
                                  have qc1_23 := lv_neT (a := 113) c1_23 rfl
                                  have qc1_24 := lv_neT (a := 114) c1_24 rfl
                                  refine z_tableOut C 1 149 dX5_obey_1 (by omega) (by decide) ?_
                                  refine z_ldc C 149 (v := (-1000001)) dX5_obey_149 mX5_obey_c100 ?_
                                  exact z_iret C 151 hA hQ rfl dX5_obey_151 ⟨((if_neg c1_1).trans ((if_neg c1_3).trans ((if_neg c1_8).trans ((if_neg c1_9).trans ((if_neg c1_11).trans ((if_neg c1_12).trans ((if_neg c1_14).trans ((if_neg c1_15).trans ((if_neg c1_16).trans ((if_neg c1_17).trans ((if_neg c1_19).trans ((if_neg c1_20).trans ((if_neg c1_21).trans ((if_neg c1_22).trans ((if_neg c1_23).trans ((if_neg c1_24).trans rfl)))))))))))))))).symm, ((if_neg c1_1).trans ((if_neg c1_3).trans ((if_neg c1_8).trans ((if_neg c1_9).trans ((if_neg c1_11).trans ((if_neg c1_12).trans ((if_neg c1_14).trans ((if_neg c1_15).trans ((if_neg c1_16).trans ((if_neg c1_17).trans ((if_neg c1_19).trans ((if_neg c1_20).trans ((if_neg c1_21).trans ((if_neg c1_22).trans ((if_neg c1_23).trans ((if_neg c1_24).trans rfl)))))))))))))))).symm⟩
end
section
def zBits (b : Nat) (t : zM) : Prop := ∀ k, k < 24 → t (b + 2 + k) 5 = 0 ∨ t (b + 2 + k) 5 = 1
theorem zBits_fr {b : Nat} {t t1 : zM} (h : zBits b t) (e : ∀ k, k < 24 → t1 (b + 2 + k) = t (b + 2 + k)) : zBits b t1 := fun k hk => by
  rw [e k hk]
  exact h k hk
def zFs (x : Int32) : Prop := ∃ w, w < 5 ∧ x = nI w
theorem zFs.c {x : Int32} (h : zFs x) : x.toNatClampNeg < 5 ∧ x = nI x.toNatClampNeg := by
  obtain ⟨w, hw, rfl⟩ := h
  rw [nI_clamp (by omega)]
  exact ⟨hw, rfl⟩
theorem zFs.back {x : Int32} (h : zFs x) : zFs (zrem (x + 5 - 1) 5) := by
  obtain ⟨w, hw, rfl⟩ := h
  refine ⟨(w + 4) % 5, by omega, ?_⟩
  rw [show nI w + 5 = nI (w + 5) from nI_add w 5, show nI (w + 5) - 1 = nI (w + 4) from nI_sub (a := w + 5) (b := 1) (by omega)]
  exact zrem_n (b := 5) (by omega) (by decide) (by decide)
def sX1_copyFrom (b : Nat) (t : zM) (b2 : Nat) : zM := (zset (zset (zset (zset (zset (zset (zset (zset (zset (zset (zset (zset (zset (zset t (b) 0 (t (b2) 0)) (b) 1 (t (b2) 1)) (b) 2 (t (b2) 2)) (b) 3 (t (b2) 3)) (b) 4 (t (b2) 4)) (b) 5 (t (b2) 5)) (b) 6 (t (b2) 6)) (b) 7 (t (b2) 7)) (b) 8 (t (b2) 8)) (b) 9 (t (b2) 9)) (b) 10 (t (b2) 10)) (b) 11 (t (b2) 11)) (b) 12 (t (b2) 12)) (b) 13 (t (b2) 13))
theorem mX1_copyFrom_f15 : Cond.fieldLink RX1 15 "WrongedMeters$House" "street" "I" ∈ wsX1_copyFrom := by decide +kernel
set_option maxRecDepth 20000 in
theorem mX1_copyFrom_in1 : ∀ w ∈ u_ws RX1 TX1 14, w ∈ wsX1_copyFrom := by decide +kernel
theorem mX1_copyFrom_f18 : Cond.fieldLink RX1 18 "WrongedMeters$House" "place" "I" ∈ wsX1_copyFrom := by decide +kernel
theorem mX1_copyFrom_f21 : Cond.fieldLink RX1 21 "WrongedMeters$House" "dial" "I" ∈ wsX1_copyFrom := by decide +kernel
theorem mX1_copyFrom_f24 : Cond.fieldLink RX1 24 "WrongedMeters$House" "dialBefore" "I" ∈ wsX1_copyFrom := by decide +kernel
theorem mX1_copyFrom_f27 : Cond.fieldLink RX1 27 "WrongedMeters$House" "flow" "I" ∈ wsX1_copyFrom := by decide +kernel
theorem mX1_copyFrom_f30 : Cond.fieldLink RX1 30 "WrongedMeters$House" "isLocked" "Z" ∈ wsX1_copyFrom := by decide +kernel
theorem mX1_copyFrom_f34 : Cond.fieldLink RX1 34 "WrongedMeters$House" "balance" "I" ∈ wsX1_copyFrom := by decide +kernel
theorem mX1_copyFrom_f9 : Cond.fieldLink RX1 9 "WrongedMeters$House" "latestDay" "I" ∈ wsX1_copyFrom := by decide +kernel
theorem mX1_copyFrom_f37 : Cond.fieldLink RX1 37 "WrongedMeters$House" "readings" "I" ∈ wsX1_copyFrom := by decide +kernel
theorem mX1_copyFrom_f40 : Cond.fieldLink RX1 40 "WrongedMeters$House" "units" "I" ∈ wsX1_copyFrom := by decide +kernel
theorem mX1_copyFrom_f43 : Cond.fieldLink RX1 43 "WrongedMeters$House" "timesHouseWronged" "I" ∈ wsX1_copyFrom := by decide +kernel
theorem mX1_copyFrom_f46 : Cond.fieldLink RX1 46 "WrongedMeters$House" "timesCompanyWronged" "I" ∈ wsX1_copyFrom := by decide +kernel
theorem mX1_copyFrom_f49 : Cond.fieldLink RX1 49 "WrongedMeters$House" "refunds" "I" ∈ wsX1_copyFrom := by decide +kernel
theorem mX1_copyFrom_f52 : Cond.fieldLink RX1 52 "WrongedMeters$House" "metersChanged" "I" ∈ wsX1_copyFrom := by decide +kernel
theorem hyX1_copyFrom : yX1_copyFrom.cls = RX1 ∧ yX1_copyFrom.cls ≠ "java/lang/invoke/MethodHandle" ∧ yX1_copyFrom.cls ≠ "java/lang/invoke/VarHandle" ∧ (parseMethodDescriptor yX1_copyFrom.desc).map (fun d => d.parameters.length) = some 1 := by decide +kernel
set_option maxHeartbeats 3000000 in
set_option maxRecDepth 100000 in
theorem kX1_copyFrom (l : Launch) (D : va_G) (cy : Nat → ClassId) (K : zK) (n : Nat) (ad : Nat → Nat) (hJ : zJ n ad) (b : Nat) (hO : zHouse K n ad b) (t : zM) (b2 : Nat) (hO2 : zHouse K n ad b2) (hne : b2 ≠ b) (hbit : t b2 5 = 0 ∨ t b2 5 = 1) : zV l yX1_copyFrom wsX1_copyFrom 0 D cy K n ad t [.ref (ad (b)), .ref (ad (b2))] (fun t1 => t1 = sX1_copyFrom b t b2) := by
  refine z_startV (cc := cX1_copyFrom) (mL := 2) (ret := none) (own := RX1) rfl (by decide +kernel) rfl hJ (Nat.le_of_ble_eq_true rfl) ?_
  intro p e s m args below meth c A hA Q hQ C
  refine z_aload_n C 0 0 0 dX1_copyFrom_0 rfl rfl ?_
  refine z_aload_n C 1 1 1 dX1_copyFrom_1 rfl rfl ?_
  refine z_geti C 2 (b2) 0 dX1_copyFrom_2 hO2.1 hO2.2 mX1_copyFrom_in1 rfl (by decide) mX1_copyFrom_f15 (fun _ => rfl) ?_
  refine z_put C 5 (ty := .int) (b) 0 dX1_copyFrom_5 hO.1 hO.2 mX1_copyFrom_in1 tyX1 tyX1_ok nmX1 rfl (by decide) mX1_copyFrom_f15 rfl (by decide +kernel) (vp_nar_int _) (zfit_i _) (fun _ => Nat.le_of_ble_eq_true rfl) (fun _ _ => rfl) ?_
  refine z_aload_n C 8 0 0 dX1_copyFrom_8 rfl rfl ?_
  refine z_aload_n C 9 1 1 dX1_copyFrom_9 rfl rfl ?_
  refine z_geti C 10 (b2) 1 dX1_copyFrom_10 hO2.1 hO2.2 mX1_copyFrom_in1 rfl (by decide) mX1_copyFrom_f18 (fun _ => rfl) ?_
  refine z_nv (t (b2) 1) ((zset_idk _ _ _ _ (by omega)).trans rfl) ?_
  refine z_put C 13 (ty := .int) (b) 1 dX1_copyFrom_13 hO.1 hO.2 mX1_copyFrom_in1 tyX1 tyX1_ok nmX1 rfl (by decide) mX1_copyFrom_f18 rfl (by decide +kernel) (vp_nar_int _) (zfit_i _) (fun _ => Nat.le_of_ble_eq_true rfl) (fun _ _ => rfl) ?_
  refine z_aload_n C 16 0 0 dX1_copyFrom_16 rfl rfl ?_
  refine z_aload_n C 17 1 1 dX1_copyFrom_17 rfl rfl ?_
  refine z_geti C 18 (b2) 2 dX1_copyFrom_18 hO2.1 hO2.2 mX1_copyFrom_in1 rfl (by decide) mX1_copyFrom_f21 (fun _ => rfl) ?_
  refine z_nv (t (b2) 2) ((zset_idk _ _ _ _ (by omega)).trans ((zset_idk _ _ _ _ (by omega)).trans rfl)) ?_
  refine z_put C 21 (ty := .int) (b) 2 dX1_copyFrom_21 hO.1 hO.2 mX1_copyFrom_in1 tyX1 tyX1_ok nmX1 rfl (by decide) mX1_copyFrom_f21 rfl (by decide +kernel) (vp_nar_int _) (zfit_i _) (fun _ => Nat.le_of_ble_eq_true rfl) (fun _ _ => rfl) ?_
  refine z_aload_n C 24 0 0 dX1_copyFrom_24 rfl rfl ?_
  refine z_aload_n C 25 1 1 dX1_copyFrom_25 rfl rfl ?_
  refine z_geti C 26 (b2) 3 dX1_copyFrom_26 hO2.1 hO2.2 mX1_copyFrom_in1 rfl (by decide) mX1_copyFrom_f24 (fun _ => rfl) ?_
  refine z_nv (t (b2) 3) ((zset_idk _ _ _ _ (by omega)).trans ((zset_idk _ _ _ _ (by omega)).trans ((zset_idk _ _ _ _ (by omega)).trans rfl))) ?_
  refine z_put C 29 (ty := .int) (b) 3 dX1_copyFrom_29 hO.1 hO.2 mX1_copyFrom_in1 tyX1 tyX1_ok nmX1 rfl (by decide) mX1_copyFrom_f24 rfl (by decide +kernel) (vp_nar_int _) (zfit_i _) (fun _ => Nat.le_of_ble_eq_true rfl) (fun _ _ => rfl) ?_
  refine z_aload_n C 32 0 0 dX1_copyFrom_32 rfl rfl ?_
  refine z_aload_n C 33 1 1 dX1_copyFrom_33 rfl rfl ?_
  refine z_geti C 34 (b2) 4 dX1_copyFrom_34 hO2.1 hO2.2 mX1_copyFrom_in1 rfl (by decide) mX1_copyFrom_f27 (fun _ => rfl) ?_
  refine z_nv (t (b2) 4) ((zset_idk _ _ _ _ (by omega)).trans ((zset_idk _ _ _ _ (by omega)).trans ((zset_idk _ _ _ _ (by omega)).trans ((zset_idk _ _ _ _ (by omega)).trans rfl)))) ?_
  refine z_put C 37 (ty := .int) (b) 4 dX1_copyFrom_37 hO.1 hO.2 mX1_copyFrom_in1 tyX1 tyX1_ok nmX1 rfl (by decide) mX1_copyFrom_f27 rfl (by decide +kernel) (vp_nar_int _) (zfit_i _) (fun _ => Nat.le_of_ble_eq_true rfl) (fun _ _ => rfl) ?_
  refine z_aload_n C 40 0 0 dX1_copyFrom_40 rfl rfl ?_
  refine z_aload_n C 41 1 1 dX1_copyFrom_41 rfl rfl ?_
  refine z_geti C 42 (b2) 5 dX1_copyFrom_42 hO2.1 hO2.2 mX1_copyFrom_in1 rfl (by decide) mX1_copyFrom_f30 (fun _ => rfl) ?_
  refine z_nv (t (b2) 5) ((zset_idk _ _ _ _ (by omega)).trans ((zset_idk _ _ _ _ (by omega)).trans ((zset_idk _ _ _ _ (by omega)).trans ((zset_idk _ _ _ _ (by omega)).trans ((zset_idk _ _ _ _ (by omega)).trans rfl))))) ?_
  refine z_put C 45 (ty := .boolean) (b) 5 dX1_copyFrom_45 hO.1 hO.2 mX1_copyFrom_in1 tyX1 tyX1_ok nmX1 rfl (by decide) mX1_copyFrom_f30 rfl (by decide +kernel) (znar_b hbit) (zfit_b hbit) (fun _ => Nat.le_of_ble_eq_true rfl) (fun _ _ => rfl) ?_
  refine z_aload_n C 48 0 0 dX1_copyFrom_48 rfl rfl ?_
  refine z_aload_n C 49 1 1 dX1_copyFrom_49 rfl rfl ?_
  refine z_geti C 50 (b2) 6 dX1_copyFrom_50 hO2.1 hO2.2 mX1_copyFrom_in1 rfl (by decide) mX1_copyFrom_f34 (fun _ => rfl) ?_
  refine z_nv (t (b2) 6) ((zset_idk _ _ _ _ (by omega)).trans ((zset_idk _ _ _ _ (by omega)).trans ((zset_idk _ _ _ _ (by omega)).trans ((zset_idk _ _ _ _ (by omega)).trans ((zset_idk _ _ _ _ (by omega)).trans ((zset_idk _ _ _ _ (by omega)).trans rfl)))))) ?_
  refine z_put C 53 (ty := .int) (b) 6 dX1_copyFrom_53 hO.1 hO.2 mX1_copyFrom_in1 tyX1 tyX1_ok nmX1 rfl (by decide) mX1_copyFrom_f34 rfl (by decide +kernel) (vp_nar_int _) (zfit_i _) (fun _ => Nat.le_of_ble_eq_true rfl) (fun _ _ => rfl) ?_
  refine z_aload_n C 56 0 0 dX1_copyFrom_56 rfl rfl ?_
  refine z_aload_n C 57 1 1 dX1_copyFrom_57 rfl rfl ?_
  refine z_geti C 58 (b2) 7 dX1_copyFrom_58 hO2.1 hO2.2 mX1_copyFrom_in1 rfl (by decide) mX1_copyFrom_f9 (fun _ => rfl) ?_
  refine z_nv (t (b2) 7) ((zset_idk _ _ _ _ (by omega)).trans ((zset_idk _ _ _ _ (by omega)).trans ((zset_idk _ _ _ _ (by omega)).trans ((zset_idk _ _ _ _ (by omega)).trans ((zset_idk _ _ _ _ (by omega)).trans ((zset_idk _ _ _ _ (by omega)).trans ((zset_idk _ _ _ _ (by omega)).trans rfl))))))) ?_
  refine z_put C 61 (ty := .int) (b) 7 dX1_copyFrom_61 hO.1 hO.2 mX1_copyFrom_in1 tyX1 tyX1_ok nmX1 rfl (by decide) mX1_copyFrom_f9 rfl (by decide +kernel) (vp_nar_int _) (zfit_i _) (fun _ => Nat.le_of_ble_eq_true rfl) (fun _ _ => rfl) ?_
  refine z_aload_n C 64 0 0 dX1_copyFrom_64 rfl rfl ?_
  refine z_aload_n C 65 1 1 dX1_copyFrom_65 rfl rfl ?_
  refine z_geti C 66 (b2) 8 dX1_copyFrom_66 hO2.1 hO2.2 mX1_copyFrom_in1 rfl (by decide) mX1_copyFrom_f37 (fun _ => rfl) ?_
  refine z_nv (t (b2) 8) ((zset_idk _ _ _ _ (by omega)).trans ((zset_idk _ _ _ _ (by omega)).trans ((zset_idk _ _ _ _ (by omega)).trans ((zset_idk _ _ _ _ (by omega)).trans ((zset_idk _ _ _ _ (by omega)).trans ((zset_idk _ _ _ _ (by omega)).trans ((zset_idk _ _ _ _ (by omega)).trans ((zset_idk _ _ _ _ (by omega)).trans rfl)))))))) ?_
  refine z_put C 69 (ty := .int) (b) 8 dX1_copyFrom_69 hO.1 hO.2 mX1_copyFrom_in1 tyX1 tyX1_ok nmX1 rfl (by decide) mX1_copyFrom_f37 rfl (by decide +kernel) (vp_nar_int _) (zfit_i _) (fun _ => Nat.le_of_ble_eq_true rfl) (fun _ _ => rfl) ?_
  refine z_aload_n C 72 0 0 dX1_copyFrom_72 rfl rfl ?_
  refine z_aload_n C 73 1 1 dX1_copyFrom_73 rfl rfl ?_
  refine z_geti C 74 (b2) 9 dX1_copyFrom_74 hO2.1 hO2.2 mX1_copyFrom_in1 rfl (by decide) mX1_copyFrom_f40 (fun _ => rfl) ?_
  refine z_nv (t (b2) 9) ((zset_idk _ _ _ _ (by omega)).trans ((zset_idk _ _ _ _ (by omega)).trans ((zset_idk _ _ _ _ (by omega)).trans ((zset_idk _ _ _ _ (by omega)).trans ((zset_idk _ _ _ _ (by omega)).trans ((zset_idk _ _ _ _ (by omega)).trans ((zset_idk _ _ _ _ (by omega)).trans ((zset_idk _ _ _ _ (by omega)).trans ((zset_idk _ _ _ _ (by omega)).trans rfl))))))))) ?_
  refine z_put C 77 (ty := .int) (b) 9 dX1_copyFrom_77 hO.1 hO.2 mX1_copyFrom_in1 tyX1 tyX1_ok nmX1 rfl (by decide) mX1_copyFrom_f40 rfl (by decide +kernel) (vp_nar_int _) (zfit_i _) (fun _ => Nat.le_of_ble_eq_true rfl) (fun _ _ => rfl) ?_
  refine z_aload_n C 80 0 0 dX1_copyFrom_80 rfl rfl ?_
  refine z_aload_n C 81 1 1 dX1_copyFrom_81 rfl rfl ?_
  refine z_geti C 82 (b2) 10 dX1_copyFrom_82 hO2.1 hO2.2 mX1_copyFrom_in1 rfl (by decide) mX1_copyFrom_f43 (fun _ => rfl) ?_
  refine z_nv (t (b2) 10) ((zset_idk _ _ _ _ (by omega)).trans ((zset_idk _ _ _ _ (by omega)).trans ((zset_idk _ _ _ _ (by omega)).trans ((zset_idk _ _ _ _ (by omega)).trans ((zset_idk _ _ _ _ (by omega)).trans ((zset_idk _ _ _ _ (by omega)).trans ((zset_idk _ _ _ _ (by omega)).trans ((zset_idk _ _ _ _ (by omega)).trans ((zset_idk _ _ _ _ (by omega)).trans ((zset_idk _ _ _ _ (by omega)).trans rfl)))))))))) ?_
  refine z_put C 85 (ty := .int) (b) 10 dX1_copyFrom_85 hO.1 hO.2 mX1_copyFrom_in1 tyX1 tyX1_ok nmX1 rfl (by decide) mX1_copyFrom_f43 rfl (by decide +kernel) (vp_nar_int _) (zfit_i _) (fun _ => Nat.le_of_ble_eq_true rfl) (fun _ _ => rfl) ?_
  refine z_aload_n C 88 0 0 dX1_copyFrom_88 rfl rfl ?_
  refine z_aload_n C 89 1 1 dX1_copyFrom_89 rfl rfl ?_
  refine z_geti C 90 (b2) 11 dX1_copyFrom_90 hO2.1 hO2.2 mX1_copyFrom_in1 rfl (by decide) mX1_copyFrom_f46 (fun _ => rfl) ?_
  refine z_nv (t (b2) 11) ((zset_idk _ _ _ _ (by omega)).trans ((zset_idk _ _ _ _ (by omega)).trans ((zset_idk _ _ _ _ (by omega)).trans ((zset_idk _ _ _ _ (by omega)).trans ((zset_idk _ _ _ _ (by omega)).trans ((zset_idk _ _ _ _ (by omega)).trans ((zset_idk _ _ _ _ (by omega)).trans ((zset_idk _ _ _ _ (by omega)).trans ((zset_idk _ _ _ _ (by omega)).trans ((zset_idk _ _ _ _ (by omega)).trans ((zset_idk _ _ _ _ (by omega)).trans rfl))))))))))) ?_
  refine z_put C 93 (ty := .int) (b) 11 dX1_copyFrom_93 hO.1 hO.2 mX1_copyFrom_in1 tyX1 tyX1_ok nmX1 rfl (by decide) mX1_copyFrom_f46 rfl (by decide +kernel) (vp_nar_int _) (zfit_i _) (fun _ => Nat.le_of_ble_eq_true rfl) (fun _ _ => rfl) ?_
  refine z_aload_n C 96 0 0 dX1_copyFrom_96 rfl rfl ?_
  refine z_aload_n C 97 1 1 dX1_copyFrom_97 rfl rfl ?_
  refine z_geti C 98 (b2) 12 dX1_copyFrom_98 hO2.1 hO2.2 mX1_copyFrom_in1 rfl (by decide) mX1_copyFrom_f49 (fun _ => rfl) ?_
  refine z_nv (t (b2) 12) ((zset_idk _ _ _ _ (by omega)).trans ((zset_idk _ _ _ _ (by omega)).trans ((zset_idk _ _ _ _ (by omega)).trans ((zset_idk _ _ _ _ (by omega)).trans ((zset_idk _ _ _ _ (by omega)).trans ((zset_idk _ _ _ _ (by omega)).trans ((zset_idk _ _ _ _ (by omega)).trans ((zset_idk _ _ _ _ (by omega)).trans ((zset_idk _ _ _ _ (by omega)).trans ((zset_idk _ _ _ _ (by omega)).trans ((zset_idk _ _ _ _ (by omega)).trans ((zset_idk _ _ _ _ (by omega)).trans rfl)))))))))))) ?_
  refine z_put C 101 (ty := .int) (b) 12 dX1_copyFrom_101 hO.1 hO.2 mX1_copyFrom_in1 tyX1 tyX1_ok nmX1 rfl (by decide) mX1_copyFrom_f49 rfl (by decide +kernel) (vp_nar_int _) (zfit_i _) (fun _ => Nat.le_of_ble_eq_true rfl) (fun _ _ => rfl) ?_
  refine z_aload_n C 104 0 0 dX1_copyFrom_104 rfl rfl ?_
  refine z_aload_n C 105 1 1 dX1_copyFrom_105 rfl rfl ?_
  refine z_geti C 106 (b2) 13 dX1_copyFrom_106 hO2.1 hO2.2 mX1_copyFrom_in1 rfl (by decide) mX1_copyFrom_f52 (fun _ => rfl) ?_
  refine z_nv (t (b2) 13) ((zset_idk _ _ _ _ (by omega)).trans ((zset_idk _ _ _ _ (by omega)).trans ((zset_idk _ _ _ _ (by omega)).trans ((zset_idk _ _ _ _ (by omega)).trans ((zset_idk _ _ _ _ (by omega)).trans ((zset_idk _ _ _ _ (by omega)).trans ((zset_idk _ _ _ _ (by omega)).trans ((zset_idk _ _ _ _ (by omega)).trans ((zset_idk _ _ _ _ (by omega)).trans ((zset_idk _ _ _ _ (by omega)).trans ((zset_idk _ _ _ _ (by omega)).trans ((zset_idk _ _ _ _ (by omega)).trans ((zset_idk _ _ _ _ (by omega)).trans rfl))))))))))))) ?_
  refine z_put C 109 (ty := .int) (b) 13 dX1_copyFrom_109 hO.1 hO.2 mX1_copyFrom_in1 tyX1 tyX1_ok nmX1 rfl (by decide) mX1_copyFrom_f52 rfl (by decide +kernel) (vp_nar_int _) (zfit_i _) (fun _ => Nat.le_of_ble_eq_true rfl) (fun _ _ => rfl) ?_
  exact z_vret C 112 hA hQ rfl dX1_copyFrom_112 rfl
theorem sX1_copyFrom_o (b : Nat) (t : zM) (b2 : Nat) {j : Nat} (h : j ≠ b) : sX1_copyFrom b t b2 j = t j := by
  unfold sX1_copyFrom
  simp only [zset_id _ _ _ h]
theorem sX1_copyFrom_e (b : Nat) (t : zM) (b2 : Nat) {w : Nat} (h : w < 14) : sX1_copyFrom b t b2 b w = t b2 w := by
  unfold sX1_copyFrom
  rcases (show w = 0 ∨ w = 1 ∨ w = 2 ∨ w = 3 ∨ w = 4 ∨ w = 5 ∨ w = 6 ∨ w = 7 ∨ w = 8 ∨ w = 9 ∨ w = 10 ∨ w = 11 ∨ w = 12 ∨ w = 13 by omega) with rfl | rfl | rfl | rfl | rfl | rfl | rfl | rfl | rfl | rfl | rfl | rfl | rfl | rfl <;> simp [zset, upd]
def sX4_copyFrom (b : Nat) (t : zM) (b2 : Nat) : zM := (zset (zcp t (b2 + 1) (b + 1) 20) (b) 1 (t (b2) 1))
theorem mX4_copyFrom_f9 : Cond.fieldLink RX4 9 "WrongedMeters$Street" "houses" "[I" ∈ wsX4_copyFrom := by decide +kernel
set_option maxRecDepth 20000 in
theorem mX4_copyFrom_in4 : ∀ w ∈ u_ws RX4 TX4 2, w ∈ wsX4_copyFrom := by decide +kernel
theorem mX4_copyFrom_m19 : Cond.methodLink RX4 19 arraycopyName ∈ wsX4_copyFrom := by decide +kernel
theorem mX4_copyFrom_acn : Cond.native arraycopyName ∈ wsX4_copyFrom := by decide +kernel
theorem mX4_copyFrom_acs : Cond.static arraycopyName ∈ wsX4_copyFrom := by decide +kernel
theorem mX4_copyFrom_aci : Cond.initialized "java/lang/System" ∈ wsX4_copyFrom := by decide +kernel
theorem mX4_copyFrom_f15 : Cond.fieldLink RX4 15 "WrongedMeters$Street" "latestStep" "I" ∈ wsX4_copyFrom := by decide +kernel
theorem hyX4_copyFrom : yX4_copyFrom.cls = RX4 ∧ yX4_copyFrom.cls ≠ "java/lang/invoke/MethodHandle" ∧ yX4_copyFrom.cls ≠ "java/lang/invoke/VarHandle" ∧ (parseMethodDescriptor yX4_copyFrom.desc).map (fun d => d.parameters.length) = some 1 := by decide +kernel
set_option maxHeartbeats 3000000 in
set_option maxRecDepth 100000 in
theorem kX4_copyFrom (l : Launch) (D : va_G) (cy : Nat → ClassId) (K : zK) (n : Nat) (ad : Nat → Nat) (hJ : zJ n ad) (b : Nat) (hO : zStreet cy K n ad b) (t : zM) (b2 : Nat) (hO2 : zStreet cy K n ad b2) (hne : b2 + 1 < b ∨ b + 1 < b2) : zV l yX4_copyFrom wsX4_copyFrom 1 D cy K n ad t [.ref (ad (b)), .ref (ad (b2))] (fun t1 => t1 = sX4_copyFrom b t b2) := by
  refine z_startV (cc := cX4_copyFrom) (mL := 2) (ret := none) (own := RX4) rfl (by decide +kernel) rfl hJ (Nat.le_of_ble_eq_true rfl) ?_
  intro p e s m args below meth c A hA Q hQ C
  refine z_aload_n C 0 1 1 dX4_copyFrom_0 rfl rfl ?_
  refine z_getr C 1 (a9 := ad (b2 + 1)) (b2) 0 dX4_copyFrom_1 (Nat.lt_of_succ_lt hO2.1) hO2.2.1 mX4_copyFrom_in4 rfl (by decide) mX4_copyFrom_f9 (fun _ => rfl) ?_
  refine z_iconst C 4 (v := 0) dX4_copyFrom_4 (by decide +kernel) ?_
  refine z_aload_n C 5 0 0 dX4_copyFrom_5 rfl rfl ?_
  refine z_getr C 6 (a9 := ad (b + 1)) (b) 0 dX4_copyFrom_6 (Nat.lt_of_succ_lt hO.1) hO.2.1 mX4_copyFrom_in4 rfl (by decide) mX4_copyFrom_f9 (fun _ => rfl) ?_
  refine z_iconst C 9 (v := 0) dX4_copyFrom_9 (by decide +kernel) ?_
  refine z_bipush C 10 (v := 20) dX4_copyFrom_10 (by decide +kernel) ?_
  refine z_copyi C 12 (b2 + 1) (b + 1) 20 dX4_copyFrom_12 mX4_copyFrom_m19 mX4_copyFrom_acn mX4_copyFrom_acs mX4_copyFrom_aci hO2.1 hO.1 hO2.2.2 hO.2.2 rfl (by decide) (by decide) (by decide) rfl (by decide) (Nat.le_of_ble_eq_true rfl) ?_
  refine z_aload_n C 15 0 0 dX4_copyFrom_15 rfl rfl ?_
  refine z_aload_n C 16 1 1 dX4_copyFrom_16 rfl rfl ?_
  refine z_geti C 17 (b2) 1 dX4_copyFrom_17 (Nat.lt_of_succ_lt hO2.1) hO2.2.1 mX4_copyFrom_in4 rfl (by decide) mX4_copyFrom_f15 (fun _ => rfl) ?_
  refine z_nv (t (b2) 1) (zcp_id _ _ _ _ (by omega) _) ?_
  refine z_put C 20 (ty := .int) (b) 1 dX4_copyFrom_20 (Nat.lt_of_succ_lt hO.1) hO.2.1 mX4_copyFrom_in4 tyX4 tyX4_ok nmX4 rfl (by decide) mX4_copyFrom_f15 rfl (by decide +kernel) (vp_nar_int _) (zfit_i _) (fun _ => Nat.le_of_ble_eq_true rfl) (fun _ _ => rfl) ?_
  exact z_vret C 23 hA hQ rfl dX4_copyFrom_23 rfl
theorem sX4_copyFrom_o (b : Nat) (t : zM) (b2 : Nat) {j : Nat} (h : j ≠ b) (h1 : j ≠ b + 1) : sX4_copyFrom b t b2 j = t j := by
  unfold sX4_copyFrom
  simp only [zset_id _ _ _ h, zcp, if_neg h1]
def sX2_copyFrom (b : Nat) (t : zM) (b2 : Nat) : zM := (zset (zset (zcp t (b2 + 1) (b + 1) 60) (b) 1 (t (b2) 1)) (b) 2 (t (b2) 2))
theorem mX2_copyFrom_f11 : Cond.fieldLink RX2 11 "WrongedMeters$Ledger" "facts" "[I" ∈ wsX2_copyFrom := by decide +kernel
set_option maxRecDepth 20000 in
theorem mX2_copyFrom_in2 : ∀ w ∈ u_ws RX2 TX2 3, w ∈ wsX2_copyFrom := by decide +kernel
theorem mX2_copyFrom_m15 : Cond.methodLink RX2 15 arraycopyName ∈ wsX2_copyFrom := by decide +kernel
theorem mX2_copyFrom_acn : Cond.native arraycopyName ∈ wsX2_copyFrom := by decide +kernel
theorem mX2_copyFrom_acs : Cond.static arraycopyName ∈ wsX2_copyFrom := by decide +kernel
theorem mX2_copyFrom_aci : Cond.initialized "java/lang/System" ∈ wsX2_copyFrom := by decide +kernel
theorem mX2_copyFrom_f21 : Cond.fieldLink RX2 21 "WrongedMeters$Ledger" "nextRow" "I" ∈ wsX2_copyFrom := by decide +kernel
theorem mX2_copyFrom_f25 : Cond.fieldLink RX2 25 "WrongedMeters$Ledger" "size" "I" ∈ wsX2_copyFrom := by decide +kernel
theorem hyX2_copyFrom : yX2_copyFrom.cls = RX2 ∧ yX2_copyFrom.cls ≠ "java/lang/invoke/MethodHandle" ∧ yX2_copyFrom.cls ≠ "java/lang/invoke/VarHandle" ∧ (parseMethodDescriptor yX2_copyFrom.desc).map (fun d => d.parameters.length) = some 1 := by decide +kernel
set_option maxHeartbeats 3000000 in
set_option maxRecDepth 100000 in
theorem kX2_copyFrom (l : Launch) (D : va_G) (cy : Nat → ClassId) (K : zK) (n : Nat) (ad : Nat → Nat) (hJ : zJ n ad) (b : Nat) (hO : zLedger cy K n ad b) (t : zM) (b2 : Nat) (hO2 : zLedger cy K n ad b2) (hne : b2 + 1 < b ∨ b + 1 < b2) : zV l yX2_copyFrom wsX2_copyFrom 1 D cy K n ad t [.ref (ad (b)), .ref (ad (b2))] (fun t1 => t1 = sX2_copyFrom b t b2) := by
  refine z_startV (cc := cX2_copyFrom) (mL := 2) (ret := none) (own := RX2) rfl (by decide +kernel) rfl hJ (Nat.le_of_ble_eq_true rfl) ?_
  intro p e s m args below meth c A hA Q hQ C
  refine z_aload_n C 0 1 1 dX2_copyFrom_0 rfl rfl ?_
  refine z_getr C 1 (a9 := ad (b2 + 1)) (b2) 0 dX2_copyFrom_1 (Nat.lt_of_succ_lt hO2.1) hO2.2.1 mX2_copyFrom_in2 rfl (by decide) mX2_copyFrom_f11 (fun _ => rfl) ?_
  refine z_iconst C 4 (v := 0) dX2_copyFrom_4 (by decide +kernel) ?_
  refine z_aload_n C 5 0 0 dX2_copyFrom_5 rfl rfl ?_
  refine z_getr C 6 (a9 := ad (b + 1)) (b) 0 dX2_copyFrom_6 (Nat.lt_of_succ_lt hO.1) hO.2.1 mX2_copyFrom_in2 rfl (by decide) mX2_copyFrom_f11 (fun _ => rfl) ?_
  refine z_iconst C 9 (v := 0) dX2_copyFrom_9 (by decide +kernel) ?_
  refine z_bipush C 10 (v := 60) dX2_copyFrom_10 (by decide +kernel) ?_
  refine z_copyi C 12 (b2 + 1) (b + 1) 60 dX2_copyFrom_12 mX2_copyFrom_m15 mX2_copyFrom_acn mX2_copyFrom_acs mX2_copyFrom_aci hO2.1 hO.1 hO2.2.2 hO.2.2 rfl (by decide) (by decide) (by decide) rfl (by decide) (Nat.le_of_ble_eq_true rfl) ?_
  refine z_aload_n C 15 0 0 dX2_copyFrom_15 rfl rfl ?_
  refine z_aload_n C 16 1 1 dX2_copyFrom_16 rfl rfl ?_
  refine z_geti C 17 (b2) 1 dX2_copyFrom_17 (Nat.lt_of_succ_lt hO2.1) hO2.2.1 mX2_copyFrom_in2 rfl (by decide) mX2_copyFrom_f21 (fun _ => rfl) ?_
  refine z_nv (t (b2) 1) (zcp_id _ _ _ _ (by omega) _) ?_
  refine z_put C 20 (ty := .int) (b) 1 dX2_copyFrom_20 (Nat.lt_of_succ_lt hO.1) hO.2.1 mX2_copyFrom_in2 tyX2 tyX2_ok nmX2 rfl (by decide) mX2_copyFrom_f21 rfl (by decide +kernel) (vp_nar_int _) (zfit_i _) (fun _ => Nat.le_of_ble_eq_true rfl) (fun _ _ => rfl) ?_
  refine z_aload_n C 23 0 0 dX2_copyFrom_23 rfl rfl ?_
  refine z_aload_n C 24 1 1 dX2_copyFrom_24 rfl rfl ?_
  refine z_geti C 25 (b2) 2 dX2_copyFrom_25 (Nat.lt_of_succ_lt hO2.1) hO2.2.1 mX2_copyFrom_in2 rfl (by decide) mX2_copyFrom_f25 (fun _ => rfl) ?_
  refine z_nv (t (b2) 2) ((zset_idk _ _ _ _ (by omega)).trans (zcp_id _ _ _ _ (by omega) _)) ?_
  refine z_put C 28 (ty := .int) (b) 2 dX2_copyFrom_28 (Nat.lt_of_succ_lt hO.1) hO.2.1 mX2_copyFrom_in2 tyX2 tyX2_ok nmX2 rfl (by decide) mX2_copyFrom_f25 rfl (by decide +kernel) (vp_nar_int _) (zfit_i _) (fun _ => Nat.le_of_ble_eq_true rfl) (fun _ _ => rfl) ?_
  exact z_vret C 31 hA hQ rfl dX2_copyFrom_31 rfl
theorem sX2_copyFrom_o (b : Nat) (t : zM) (b2 : Nat) {j : Nat} (h : j ≠ b) (h1 : j ≠ b + 1) : sX2_copyFrom b t b2 j = t j := by
  unfold sX2_copyFrom
  simp only [zset_id _ _ _ h, zcp, if_neg h1]
def lsX5_copyFrom_31 (b : Nat) (t : zM) (b2 : Nat) : Nat → Nat → zM → zM
  | 0, _, w => w
  | j2 + 1, i, w => (if 4 ≤ nI i then (zset (zset (zset (zset (zset (zset (zset (zset (zset (zcp (sX2_copyFrom (b + 35) w (b2 + 35)) (b2 + 37) (b + 37) 4) (b) 4 ((sX2_copyFrom (b + 35) w (b2 + 35)) (b2) 4)) (b) 5 ((sX2_copyFrom (b + 35) w (b2 + 35)) (b2) 5)) (b) 6 ((sX2_copyFrom (b + 35) w (b2 + 35)) (b2) 6)) (b) 7 ((sX2_copyFrom (b + 35) w (b2 + 35)) (b2) 7)) (b) 8 ((sX2_copyFrom (b + 35) w (b2 + 35)) (b2) 8)) (b) 9 ((sX2_copyFrom (b + 35) w (b2 + 35)) (b2) 9)) (b) 10 ((sX2_copyFrom (b + 35) w (b2 + 35)) (b2) 10)) (b) 11 ((sX2_copyFrom (b + 35) w (b2 + 35)) (b2) 11)) (b) 12 ((sX2_copyFrom (b + 35) w (b2 + 35)) (b2) 12)) else (lsX5_copyFrom_31 b t b2 j2 (i + 1) (sX4_copyFrom (b + 27 + 2 * i) w (b2 + 27 + 2 * i))))
def lsX5_copyFrom_2 (b : Nat) (t : zM) (b2 : Nat) : Nat → Nat → zM → zM
  | 0, _, u => u
  | j1 + 1, k, u => (if 24 ≤ nI k then (lsX5_copyFrom_31 b t b2 5 0 u) else (lsX5_copyFrom_2 b t b2 j1 (k + 1) (sX1_copyFrom (b + 2 + k) u (b2 + 2 + k))))
def sX5_copyFrom (b : Nat) (t : zM) (b2 : Nat) : zM := (lsX5_copyFrom_2 b t b2 25 0 t)
theorem mX5_copyFrom_f26 : Cond.fieldLink RX5 26 "WrongedMeters$Town" "ledger" "LWrongedMeters$Ledger;" ∈ wsX5_copyFrom := by decide +kernel
set_option maxRecDepth 20000 in
theorem mX5_copyFrom_in5 : ∀ w ∈ u_ws RX5 TX5 13, w ∈ wsX5_copyFrom := by decide +kernel
theorem mX5_copyFrom_f30 : Cond.fieldLink RX5 30 "WrongedMeters$Town" "settings" "[I" ∈ wsX5_copyFrom := by decide +kernel
theorem mX5_copyFrom_m49 : Cond.methodLink RX5 49 arraycopyName ∈ wsX5_copyFrom := by decide +kernel
theorem mX5_copyFrom_acn : Cond.native arraycopyName ∈ wsX5_copyFrom := by decide +kernel
theorem mX5_copyFrom_acs : Cond.static arraycopyName ∈ wsX5_copyFrom := by decide +kernel
theorem mX5_copyFrom_aci : Cond.initialized "java/lang/System" ∈ wsX5_copyFrom := by decide +kernel
theorem mX5_copyFrom_f55 : Cond.fieldLink RX5 55 "WrongedMeters$Town" "houseCount" "I" ∈ wsX5_copyFrom := by decide +kernel
theorem mX5_copyFrom_f59 : Cond.fieldLink RX5 59 "WrongedMeters$Town" "now" "I" ∈ wsX5_copyFrom := by decide +kernel
theorem mX5_copyFrom_f62 : Cond.fieldLink RX5 62 "WrongedMeters$Town" "readings" "I" ∈ wsX5_copyFrom := by decide +kernel
theorem mX5_copyFrom_f65 : Cond.fieldLink RX5 65 "WrongedMeters$Town" "units" "I" ∈ wsX5_copyFrom := by decide +kernel
theorem mX5_copyFrom_f68 : Cond.fieldLink RX5 68 "WrongedMeters$Town" "coins" "I" ∈ wsX5_copyFrom := by decide +kernel
theorem mX5_copyFrom_f71 : Cond.fieldLink RX5 71 "WrongedMeters$Town" "hundredths" "I" ∈ wsX5_copyFrom := by decide +kernel
theorem mX5_copyFrom_f74 : Cond.fieldLink RX5 74 "WrongedMeters$Town" "refunds" "I" ∈ wsX5_copyFrom := by decide +kernel
theorem mX5_copyFrom_f77 : Cond.fieldLink RX5 77 "WrongedMeters$Town" "coinsBack" "I" ∈ wsX5_copyFrom := by decide +kernel
theorem mX5_copyFrom_f80 : Cond.fieldLink RX5 80 "WrongedMeters$Town" "years" "I" ∈ wsX5_copyFrom := by decide +kernel
theorem mX5_copyFrom_f19 : Cond.fieldLink RX5 19 "WrongedMeters$Town" "streets" "[LWrongedMeters$Street;" ∈ wsX5_copyFrom := by decide +kernel
theorem mX5_copyFrom_f11 : Cond.fieldLink RX5 11 "WrongedMeters$Town" "houses" "[LWrongedMeters$House;" ∈ wsX5_copyFrom := by decide +kernel
theorem hyX5_copyFrom : yX5_copyFrom.cls = RX5 ∧ yX5_copyFrom.cls ≠ "java/lang/invoke/MethodHandle" ∧ yX5_copyFrom.cls ≠ "java/lang/invoke/VarHandle" ∧ (parseMethodDescriptor yX5_copyFrom.desc).map (fun d => d.parameters.length) = some 1 := by decide +kernel
set_option maxHeartbeats 3000000 in
set_option maxRecDepth 100000 in
theorem kX5_copyFrom (l : Launch) (D : va_G) (cy : Nat → ClassId) (K : zK) (n : Nat) (ad : Nat → Nat) (hJ : zJ n ad) (b : Nat) (hO : zTown cy K n ad b) (t : zM) (b2 : Nat) (hO2 : zTown cy K n ad b2) (hne : b2 + 38 ≤ b ∨ b + 38 ≤ b2) (hb : zBits b2 t) : zV l yX5_copyFrom wsX5_copyFrom 2 D cy K n ad t [.ref (ad (b)), .ref (ad (b2))] (fun t1 => t1 = sX5_copyFrom b t b2) := by
  refine z_startV (cc := cX5_copyFrom) (mL := 3) (ret := none) (own := RX5) rfl (by decide +kernel) rfl hJ (Nat.le_of_ble_eq_true rfl) ?_
  intro p e s m args below meth c A hA Q hQ C
  refine z_iconst C 0 (v := 0) dX5_copyFrom_0 (by decide +kernel) ?_
  refine z_istore_n C 1 2 ([(2, .int 0), (0, .ref (ad (b))), (1, .ref (ad (b2)))]) dX5_copyFrom_1 rfl (by decide) rfl ?_
  have L2 : ∀ (j1 : Nat) (k : Nat) (u : zM), (h0_2 : 25 ≤ k + j1) → (hk : k ≤ 24) → (hb : zBits b2 u) → (hS2 : sX5_copyFrom b t b2 = (lsX5_copyFrom_2 b t b2 j1 k u)) → Zw p l e (zR 2) s m args below meth c D A K n ad 3 Q 2 ([(2, .int (nI k)), (0, .ref (ad (b))), (1, .ref (ad (b2)))]) [] u := by
    intro j1
    induction j1 with
    | zero =>
      intro k u h0_2 hk hb hS2
      exact absurd h0_2 (by omega)
    | succ j1 ih2 =>
      intro k u h0_2 hk hb hS2
      refine z_iload_n C 2 2 0 dX5_copyFrom_2 rfl rfl ?_
      refine z_bipush C 3 (v := 24) dX5_copyFrom_3 (by decide +kernel) ?_
      refine z_icmp_ge C 5 29 dX5_copyFrom_5 (by decide) (fun c5_1 => ?_) (fun c5_1 => ?_)
      · refine z_iconst C 29 (v := 0) dX5_copyFrom_29 (by decide +kernel) ?_
        refine z_istore_n C 30 2 ([(2, .int 0), (0, .ref (ad (b))), (1, .ref (ad (b2)))]) dX5_copyFrom_30 rfl (by decide) rfl ?_
        have L31 : ∀ (j2 : Nat) (i : Nat) (w : zM), (h0_31 : 5 ≤ i + j2) → (hi : i ≤ 4) → (hS31 : sX5_copyFrom b t b2 = (lsX5_copyFrom_31 b t b2 j2 i w)) → Zw p l e (zR 2) s m args below meth c D A K n ad 3 Q 31 ([(2, .int (nI i)), (0, .ref (ad (b))), (1, .ref (ad (b2)))]) [] w := by
          intro j2
          induction j2 with
          | zero =>
            intro i w h0_31 hi hS31
            exact absurd h0_31 (by omega)
          | succ j2 ih31 =>
            intro i w h0_31 hi hS31
            refine z_iload_n C 31 2 0 dX5_copyFrom_31 rfl rfl ?_
            refine z_iconst C 32 (v := 4) dX5_copyFrom_32 (by decide +kernel) ?_
            refine z_icmp_ge C 33 57 dX5_copyFrom_33 (by decide) (fun c33_2 => ?_) (fun c33_2 => ?_)
            · refine z_aload_n C 57 0 1 dX5_copyFrom_57 rfl rfl ?_
              refine z_getr C 58 (a9 := ad (b + 35)) (b) 2 dX5_copyFrom_58 hO.h0 hO.e0 mX5_copyFrom_in5 rfl (by decide) mX5_copyFrom_f26 (fun _ => rfl) ?_
              refine z_aload_n C 61 1 2 dX5_copyFrom_61 rfl rfl ?_
              refine z_getr C 62 (a9 := ad (b2 + 35)) (b2) 2 dX5_copyFrom_62 hO2.h0 hO2.e0 mX5_copyFrom_in5 rfl (by decide) mX5_copyFrom_f26 (fun _ => rfl) ?_
              refine z_virtVe C 65 (As := [.ref (ad (b2 + 35))]) (st := []) (id := b + 35) (kX2_copyFrom l D cy K n ad hJ (b + 35) hO.led w (b2 + 35) hO2.led (by omega)) dX5_copyFrom_65 rfl gX5_copyFrom_X2_copyFrom hyX2_copyFrom rfl (by decide) (by decide) (Nat.lt_of_succ_lt hO.led.1) rfl hO.led.2.1 rfl rfl rfl (Nat.le_of_ble_eq_true rfl) ?_
              refine z_aload_n C 68 1 2 dX5_copyFrom_68 rfl rfl ?_
              refine z_getr C 69 (a9 := ad (b2 + 37)) (b2) 3 dX5_copyFrom_69 hO2.h0 hO2.e0 mX5_copyFrom_in5 rfl (by decide) mX5_copyFrom_f30 (fun _ => rfl) ?_
              refine z_iconst C 72 (v := 0) dX5_copyFrom_72 (by decide +kernel) ?_
              refine z_aload_n C 73 0 1 dX5_copyFrom_73 rfl rfl ?_
              refine z_getr C 74 (a9 := ad (b + 37)) (b) 3 dX5_copyFrom_74 hO.h0 hO.e0 mX5_copyFrom_in5 rfl (by decide) mX5_copyFrom_f30 (fun _ => rfl) ?_
              refine z_iconst C 77 (v := 0) dX5_copyFrom_77 (by decide +kernel) ?_
              refine z_iconst C 78 (v := 4) dX5_copyFrom_78 (by decide +kernel) ?_
              refine z_copyi C 79 (b2 + 37) (b + 37) 4 dX5_copyFrom_79 mX5_copyFrom_m49 mX5_copyFrom_acn mX5_copyFrom_acs mX5_copyFrom_aci hO2.h37 hO.h37 hO2.e37 hO.e37 rfl (by decide) (by decide) (by decide) rfl (by decide) (Nat.le_of_ble_eq_true rfl) ?_
              refine z_aload_n C 82 0 1 dX5_copyFrom_82 rfl rfl ?_
              refine z_aload_n C 83 1 2 dX5_copyFrom_83 rfl rfl ?_
              refine z_geti C 84 (b2) 4 dX5_copyFrom_84 hO2.h0 hO2.e0 mX5_copyFrom_in5 rfl (by decide) mX5_copyFrom_f55 (fun _ => rfl) ?_
              refine z_nv ((sX2_copyFrom (b + 35) w (b2 + 35)) (b2) 4) (zcp_id _ _ _ _ (by omega) _) ?_
              refine z_put C 87 (ty := .int) (b) 4 dX5_copyFrom_87 hO.h0 hO.e0 mX5_copyFrom_in5 tyX5 tyX5_ok nmX5 rfl (by decide) mX5_copyFrom_f55 rfl (by decide +kernel) (vp_nar_int _) (zfit_i _) (fun _ => Nat.le_of_ble_eq_true rfl) (fun _ _ => rfl) ?_
              refine z_aload_n C 90 0 1 dX5_copyFrom_90 rfl rfl ?_
              refine z_aload_n C 91 1 2 dX5_copyFrom_91 rfl rfl ?_
              refine z_geti C 92 (b2) 5 dX5_copyFrom_92 hO2.h0 hO2.e0 mX5_copyFrom_in5 rfl (by decide) mX5_copyFrom_f59 (fun _ => rfl) ?_
              refine z_nv ((sX2_copyFrom (b + 35) w (b2 + 35)) (b2) 5) ((zset_idk _ _ _ _ (by omega)).trans (zcp_id _ _ _ _ (by omega) _)) ?_
              refine z_put C 95 (ty := .int) (b) 5 dX5_copyFrom_95 hO.h0 hO.e0 mX5_copyFrom_in5 tyX5 tyX5_ok nmX5 rfl (by decide) mX5_copyFrom_f59 rfl (by decide +kernel) (vp_nar_int _) (zfit_i _) (fun _ => Nat.le_of_ble_eq_true rfl) (fun _ _ => rfl) ?_
              refine z_aload_n C 98 0 1 dX5_copyFrom_98 rfl rfl ?_
              refine z_aload_n C 99 1 2 dX5_copyFrom_99 rfl rfl ?_
              refine z_geti C 100 (b2) 6 dX5_copyFrom_100 hO2.h0 hO2.e0 mX5_copyFrom_in5 rfl (by decide) mX5_copyFrom_f62 (fun _ => rfl) ?_
              refine z_nv ((sX2_copyFrom (b + 35) w (b2 + 35)) (b2) 6) ((zset_idk _ _ _ _ (by omega)).trans ((zset_idk _ _ _ _ (by omega)).trans (zcp_id _ _ _ _ (by omega) _))) ?_
              refine z_put C 103 (ty := .int) (b) 6 dX5_copyFrom_103 hO.h0 hO.e0 mX5_copyFrom_in5 tyX5 tyX5_ok nmX5 rfl (by decide) mX5_copyFrom_f62 rfl (by decide +kernel) (vp_nar_int _) (zfit_i _) (fun _ => Nat.le_of_ble_eq_true rfl) (fun _ _ => rfl) ?_
              refine z_aload_n C 106 0 1 dX5_copyFrom_106 rfl rfl ?_
              refine z_aload_n C 107 1 2 dX5_copyFrom_107 rfl rfl ?_
              refine z_geti C 108 (b2) 7 dX5_copyFrom_108 hO2.h0 hO2.e0 mX5_copyFrom_in5 rfl (by decide) mX5_copyFrom_f65 (fun _ => rfl) ?_
              refine z_nv ((sX2_copyFrom (b + 35) w (b2 + 35)) (b2) 7) ((zset_idk _ _ _ _ (by omega)).trans ((zset_idk _ _ _ _ (by omega)).trans ((zset_idk _ _ _ _ (by omega)).trans (zcp_id _ _ _ _ (by omega) _)))) ?_
              refine z_put C 111 (ty := .int) (b) 7 dX5_copyFrom_111 hO.h0 hO.e0 mX5_copyFrom_in5 tyX5 tyX5_ok nmX5 rfl (by decide) mX5_copyFrom_f65 rfl (by decide +kernel) (vp_nar_int _) (zfit_i _) (fun _ => Nat.le_of_ble_eq_true rfl) (fun _ _ => rfl) ?_
              refine z_aload_n C 114 0 1 dX5_copyFrom_114 rfl rfl ?_
              refine z_aload_n C 115 1 2 dX5_copyFrom_115 rfl rfl ?_
              refine z_geti C 116 (b2) 8 dX5_copyFrom_116 hO2.h0 hO2.e0 mX5_copyFrom_in5 rfl (by decide) mX5_copyFrom_f68 (fun _ => rfl) ?_
              refine z_nv ((sX2_copyFrom (b + 35) w (b2 + 35)) (b2) 8) ((zset_idk _ _ _ _ (by omega)).trans ((zset_idk _ _ _ _ (by omega)).trans ((zset_idk _ _ _ _ (by omega)).trans ((zset_idk _ _ _ _ (by omega)).trans (zcp_id _ _ _ _ (by omega) _))))) ?_
              refine z_put C 119 (ty := .int) (b) 8 dX5_copyFrom_119 hO.h0 hO.e0 mX5_copyFrom_in5 tyX5 tyX5_ok nmX5 rfl (by decide) mX5_copyFrom_f68 rfl (by decide +kernel) (vp_nar_int _) (zfit_i _) (fun _ => Nat.le_of_ble_eq_true rfl) (fun _ _ => rfl) ?_
              refine z_aload_n C 122 0 1 dX5_copyFrom_122 rfl rfl ?_
              refine z_aload_n C 123 1 2 dX5_copyFrom_123 rfl rfl ?_
              refine z_geti C 124 (b2) 9 dX5_copyFrom_124 hO2.h0 hO2.e0 mX5_copyFrom_in5 rfl (by decide) mX5_copyFrom_f71 (fun _ => rfl) ?_
              refine z_nv ((sX2_copyFrom (b + 35) w (b2 + 35)) (b2) 9) ((zset_idk _ _ _ _ (by omega)).trans ((zset_idk _ _ _ _ (by omega)).trans ((zset_idk _ _ _ _ (by omega)).trans ((zset_idk _ _ _ _ (by omega)).trans ((zset_idk _ _ _ _ (by omega)).trans (zcp_id _ _ _ _ (by omega) _)))))) ?_
              refine z_put C 127 (ty := .int) (b) 9 dX5_copyFrom_127 hO.h0 hO.e0 mX5_copyFrom_in5 tyX5 tyX5_ok nmX5 rfl (by decide) mX5_copyFrom_f71 rfl (by decide +kernel) (vp_nar_int _) (zfit_i _) (fun _ => Nat.le_of_ble_eq_true rfl) (fun _ _ => rfl) ?_
              refine z_aload_n C 130 0 1 dX5_copyFrom_130 rfl rfl ?_
              refine z_aload_n C 131 1 2 dX5_copyFrom_131 rfl rfl ?_
              refine z_geti C 132 (b2) 10 dX5_copyFrom_132 hO2.h0 hO2.e0 mX5_copyFrom_in5 rfl (by decide) mX5_copyFrom_f74 (fun _ => rfl) ?_
              refine z_nv ((sX2_copyFrom (b + 35) w (b2 + 35)) (b2) 10) ((zset_idk _ _ _ _ (by omega)).trans ((zset_idk _ _ _ _ (by omega)).trans ((zset_idk _ _ _ _ (by omega)).trans ((zset_idk _ _ _ _ (by omega)).trans ((zset_idk _ _ _ _ (by omega)).trans ((zset_idk _ _ _ _ (by omega)).trans (zcp_id _ _ _ _ (by omega) _))))))) ?_
              refine z_put C 135 (ty := .int) (b) 10 dX5_copyFrom_135 hO.h0 hO.e0 mX5_copyFrom_in5 tyX5 tyX5_ok nmX5 rfl (by decide) mX5_copyFrom_f74 rfl (by decide +kernel) (vp_nar_int _) (zfit_i _) (fun _ => Nat.le_of_ble_eq_true rfl) (fun _ _ => rfl) ?_
              refine z_aload_n C 138 0 1 dX5_copyFrom_138 rfl rfl ?_
              refine z_aload_n C 139 1 2 dX5_copyFrom_139 rfl rfl ?_
              refine z_geti C 140 (b2) 11 dX5_copyFrom_140 hO2.h0 hO2.e0 mX5_copyFrom_in5 rfl (by decide) mX5_copyFrom_f77 (fun _ => rfl) ?_
              refine z_nv ((sX2_copyFrom (b + 35) w (b2 + 35)) (b2) 11) ((zset_idk _ _ _ _ (by omega)).trans ((zset_idk _ _ _ _ (by omega)).trans ((zset_idk _ _ _ _ (by omega)).trans ((zset_idk _ _ _ _ (by omega)).trans ((zset_idk _ _ _ _ (by omega)).trans ((zset_idk _ _ _ _ (by omega)).trans ((zset_idk _ _ _ _ (by omega)).trans (zcp_id _ _ _ _ (by omega) _)))))))) ?_
              refine z_put C 143 (ty := .int) (b) 11 dX5_copyFrom_143 hO.h0 hO.e0 mX5_copyFrom_in5 tyX5 tyX5_ok nmX5 rfl (by decide) mX5_copyFrom_f77 rfl (by decide +kernel) (vp_nar_int _) (zfit_i _) (fun _ => Nat.le_of_ble_eq_true rfl) (fun _ _ => rfl) ?_
              refine z_aload_n C 146 0 1 dX5_copyFrom_146 rfl rfl ?_
              refine z_aload_n C 147 1 2 dX5_copyFrom_147 rfl rfl ?_
              refine z_geti C 148 (b2) 12 dX5_copyFrom_148 hO2.h0 hO2.e0 mX5_copyFrom_in5 rfl (by decide) mX5_copyFrom_f80 (fun _ => rfl) ?_
              refine z_nv ((sX2_copyFrom (b + 35) w (b2 + 35)) (b2) 12) ((zset_idk _ _ _ _ (by omega)).trans ((zset_idk _ _ _ _ (by omega)).trans ((zset_idk _ _ _ _ (by omega)).trans ((zset_idk _ _ _ _ (by omega)).trans ((zset_idk _ _ _ _ (by omega)).trans ((zset_idk _ _ _ _ (by omega)).trans ((zset_idk _ _ _ _ (by omega)).trans ((zset_idk _ _ _ _ (by omega)).trans (zcp_id _ _ _ _ (by omega) _))))))))) ?_
              refine z_put C 151 (ty := .int) (b) 12 dX5_copyFrom_151 hO.h0 hO.e0 mX5_copyFrom_in5 tyX5 tyX5_ok nmX5 rfl (by decide) mX5_copyFrom_f80 rfl (by decide +kernel) (vp_nar_int _) (zfit_i _) (fun _ => Nat.le_of_ble_eq_true rfl) (fun _ _ => rfl) ?_
              exact z_vret C 154 hA hQ rfl dX5_copyFrom_154 ((hS31.trans ((if_pos c33_2).trans rfl))).symm
            · have hi9 := (zge (b := 4) (by omega) (by decide) ‹¬ (4 : Int32) ≤ nI i›)
              refine z_aload_n C 36 0 1 dX5_copyFrom_36 rfl rfl ?_
              refine z_getr C 37 (a9 := ad (b + 26)) (b) 1 dX5_copyFrom_37 hO.h0 hO.e0 mX5_copyFrom_in5 rfl (by decide) mX5_copyFrom_f19 (fun _ => rfl) ?_
              refine z_iload_n C 40 2 0 dX5_copyFrom_40 rfl rfl ?_
              refine z_aald C 41 (b + 26) 2 i (ad (b + 27 + 2 * i)) dX5_copyFrom_41 hO.h26 hO.e26 rfl rfl (zge (b := 4) (by omega) (by decide) ‹¬ (4 : Int32) ≤ nI i›) (by decide) rfl ?_
              refine z_aload_n C 42 1 2 dX5_copyFrom_42 rfl rfl ?_
              refine z_getr C 43 (a9 := ad (b2 + 26)) (b2) 1 dX5_copyFrom_43 hO2.h0 hO2.e0 mX5_copyFrom_in5 rfl (by decide) mX5_copyFrom_f19 (fun _ => rfl) ?_
              refine z_iload_n C 46 2 0 dX5_copyFrom_46 rfl rfl ?_
              refine z_aald C 47 (b2 + 26) 2 i (ad (b2 + 27 + 2 * i)) dX5_copyFrom_47 hO2.h26 hO2.e26 rfl rfl (zge (b := 4) (by omega) (by decide) ‹¬ (4 : Int32) ≤ nI i›) (by decide) rfl ?_
              refine z_virtVe C 48 (As := [.ref (ad (b2 + 27 + 2 * i))]) (st := []) (id := b + 27 + 2 * i) (kX4_copyFrom l D cy K n ad hJ (b + 27 + 2 * i) (hO.str (zge (b := 4) (by omega) (by decide) ‹¬ (4 : Int32) ≤ nI i›)) w (b2 + 27 + 2 * i) (hO2.str (zge (b := 4) (by omega) (by decide) ‹¬ (4 : Int32) ≤ nI i›)) (by omega)) dX5_copyFrom_48 rfl gX5_copyFrom_X4_copyFrom hyX4_copyFrom rfl (by decide) (by decide) (Nat.lt_of_succ_lt (hO.str (zge (b := 4) (by omega) (by decide) ‹¬ (4 : Int32) ≤ nI i›)).1) rfl (hO.str (zge (b := 4) (by omega) (by decide) ‹¬ (4 : Int32) ≤ nI i›)).2.1 rfl rfl rfl (Nat.le_of_ble_eq_true rfl) ?_
              refine z_iinc C 51 (v := nI (i + 1)) 2 0 ([(2, .int (nI (i + 1))), (0, .ref (ad (b))), (1, .ref (ad (b2)))]) dX5_copyFrom_51 rfl (nI_1 _) (by decide) rfl ?_
              refine z_goto C 54 31 dX5_copyFrom_54 (by decide) ?_
              refine z_ls [0, 1, 2] _ rfl ?_
              exact ih31 (i + 1) (sX4_copyFrom (b + 27 + 2 * i) w (b2 + 27 + 2 * i)) (by omega) (by omega) (hS31.trans ((if_neg c33_2).trans rfl))
        refine z_ls [0, 1, 2] _ rfl ?_
        exact L31 (5) 0 u (by omega) (by decide) (hS2.trans ((if_pos c5_1).trans rfl))
      · have hk9 := (zge (b := 24) (by omega) (by decide) ‹¬ (24 : Int32) ≤ nI k›)
        refine z_aload_n C 8 0 1 dX5_copyFrom_8 rfl rfl ?_
        refine z_getr C 9 (a9 := ad (b + 1)) (b) 0 dX5_copyFrom_9 hO.h0 hO.e0 mX5_copyFrom_in5 rfl (by decide) mX5_copyFrom_f11 (fun _ => rfl) ?_
        refine z_iload_n C 12 2 0 dX5_copyFrom_12 rfl rfl ?_
        refine z_aald C 13 (b + 1) 1 k (ad (b + 2 + k)) dX5_copyFrom_13 hO.h1 hO.e1 rfl rfl (zge (b := 24) (by omega) (by decide) ‹¬ (24 : Int32) ≤ nI k›) (by decide) rfl ?_
        refine z_aload_n C 14 1 2 dX5_copyFrom_14 rfl rfl ?_
        refine z_getr C 15 (a9 := ad (b2 + 1)) (b2) 0 dX5_copyFrom_15 hO2.h0 hO2.e0 mX5_copyFrom_in5 rfl (by decide) mX5_copyFrom_f11 (fun _ => rfl) ?_
        refine z_iload_n C 18 2 0 dX5_copyFrom_18 rfl rfl ?_
        refine z_aald C 19 (b2 + 1) 1 k (ad (b2 + 2 + k)) dX5_copyFrom_19 hO2.h1 hO2.e1 rfl rfl (zge (b := 24) (by omega) (by decide) ‹¬ (24 : Int32) ≤ nI k›) (by decide) rfl ?_
        refine z_virtVe C 20 (As := [.ref (ad (b2 + 2 + k))]) (st := []) (id := b + 2 + k) (kX1_copyFrom l D cy K n ad hJ (b + 2 + k) (hO.hou (zge (b := 24) (by omega) (by decide) ‹¬ (24 : Int32) ≤ nI k›)) u (b2 + 2 + k) (hO2.hou (zge (b := 24) (by omega) (by decide) ‹¬ (24 : Int32) ≤ nI k›)) (by omega) (hb k (zge (b := 24) (by omega) (by decide) ‹¬ (24 : Int32) ≤ nI k›))) dX5_copyFrom_20 rfl gX5_copyFrom_X1_copyFrom hyX1_copyFrom rfl (by decide) (by decide) (hO.hou (zge (b := 24) (by omega) (by decide) ‹¬ (24 : Int32) ≤ nI k›)).1 rfl (hO.hou (zge (b := 24) (by omega) (by decide) ‹¬ (24 : Int32) ≤ nI k›)).2 rfl rfl rfl (Nat.le_of_ble_eq_true rfl) ?_
        refine z_iinc C 23 (v := nI (k + 1)) 2 0 ([(2, .int (nI (k + 1))), (0, .ref (ad (b))), (1, .ref (ad (b2)))]) dX5_copyFrom_23 rfl (nI_1 _) (by decide) rfl ?_
        refine z_goto C 26 2 dX5_copyFrom_26 (by decide) ?_
        refine z_ls [0, 1, 2] _ rfl ?_
        exact ih2 (k + 1) (sX1_copyFrom (b + 2 + k) u (b2 + 2 + k)) (by omega) (by have := zge (b := 24) (by omega) (by decide) ‹¬ (24 : Int32) ≤ nI k›; omega) (zBits_fr hb (fun i9 hi9 => sX1_copyFrom_o _ _ _ (by omega))) (hS2.trans ((if_neg c5_1).trans rfl))
  refine z_ls [0, 1, 2] _ rfl ?_
  exact L2 (25) 0 t (by omega) (by decide) hb rfl
end
section
theorem lsX5_copyFrom_31_o (b : Nat) (t : zM) (b2 : Nat) {x : Nat} (h : x < b ∨ b + 38 ≤ x) : ∀ (j i : Nat) (w : zM), i ≤ 4 → lsX5_copyFrom_31 b t b2 j i w x = w x := by
  intro j
  induction j with
  | zero => intro i w hi; rfl
  | succ j ih =>
    intro i w hi
    unfold lsX5_copyFrom_31
    split
    · simp only [zset_id _ _ _ (show x ≠ b by omega), zcp, if_neg (show ¬ x = b + 37 by omega)]
      exact sX2_copyFrom_o _ _ _ (by omega) (by omega)
    · have hk2 : i < 4 := zge (b := 4) (by omega) (by decide) ‹¬ (4 : Int32) ≤ nI i›
      rw [ih _ _ (by omega)]
      exact sX4_copyFrom_o _ _ _ (by omega) (by omega)
theorem lsX5_copyFrom_2_o (b : Nat) (t : zM) (b2 : Nat) {x : Nat} (h : x < b ∨ b + 38 ≤ x) : ∀ (j k : Nat) (u : zM), k ≤ 24 → lsX5_copyFrom_2 b t b2 j k u x = u x := by
  intro j
  induction j with
  | zero => intro k u hk; rfl
  | succ j ih =>
    intro k u hk
    unfold lsX5_copyFrom_2
    split
    · exact lsX5_copyFrom_31_o b t b2 h _ _ _ (by decide)
    · have hk2 : k < 24 := zge (b := 24) (by omega) (by decide) ‹¬ (24 : Int32) ≤ nI k›
      rw [ih _ _ (by omega)]
      exact sX1_copyFrom_o _ _ _ (by omega)
/-- a copy leaves all else alone -/
theorem sX5_copyFrom_o (b : Nat) (t : zM) (b2 : Nat) {x : Nat} (h : x < b ∨ b + 38 ≤ x) : sX5_copyFrom b t b2 x = t x := lsX5_copyFrom_2_o b t b2 h _ _ _ (by decide)
def zHist (cy : Nat → ClassId) (K : zK) (n : Nat) (ad : Nat → Nat) : Prop := 267 < n ∧ (∀ f, K ad 266 f = .inr (0, [.ref (ad 267), .int (f 1), .int (f 2)])) ∧ (∀ f, K ad 267 f = .inl (cy 3, 5, .inr (.inr (.inr (.inr (fun i => some (ad (76 + 38 * i)))))))) ∧ ∀ i, i < 5 → zTown cy K n ad (76 + 38 * i)
def zTop (cy : Nat → ClassId) (K : zK) (n : Nat) (ad : Nat → Nat) : Prop := 270 < n ∧ (∀ f, K ad 270 f = .inr (6, [.ref (ad 0), .ref (ad 38), .ref (ad 266), .ref (ad 268)])) ∧ zTown cy K n ad 0 ∧ zTown cy K n ad 38 ∧ zHist cy K n ad ∧ zOrders cy K n ad 268
section ZTO
variable {cy : Nat → ClassId} {K : zK} {n : Nat} {ad : Nat → Nat}
theorem zHist.h0 (h : zHist cy K n ad) : 266 < n := Nat.lt_of_le_of_lt (by decide) h.1
theorem zHist.h1 (h : zHist cy K n ad) : 267 < n := h.1
theorem zHist.e0 (h : zHist cy K n ad) : ∀ f, K ad 266 f = .inr (0, [.ref (ad 267), .int (f 1), .int (f 2)]) := h.2.1
theorem zHist.e1 (h : zHist cy K n ad) : ∀ f, K ad 267 f = .inl (cy 3, 5, .inr (.inr (.inr (.inr (fun i => some (ad (76 + 38 * i))))))) := h.2.2.1
theorem zHist.twn (h : zHist cy K n ad) {i : Nat} (hi : i < 5) : zTown cy K n ad (76 + 38 * i) := h.2.2.2 i hi
theorem zTop.h0 (h : zTop cy K n ad) : 270 < n := h.1
theorem zTop.e0 (h : zTop cy K n ad) : ∀ f, K ad 270 f = .inr (6, [.ref (ad 0), .ref (ad 38), .ref (ad 266), .ref (ad 268)]) := h.2.1
theorem zTop.tn (h : zTop cy K n ad) : zTown cy K n ad 0 := h.2.2.1
theorem zTop.tr (h : zTop cy K n ad) : zTown cy K n ad 38 := h.2.2.2.1
theorem zTop.hi (h : zTop cy K n ad) : zHist cy K n ad := h.2.2.2.2.1
theorem zTop.od (h : zTop cy K n ad) : zOrders cy K n ad 268 := h.2.2.2.2.2
end ZTO
def sX0_record (t : zM) (b2 : Nat) : zM := (if (t (266) 1) < 0 then t else (if 5 ≤ (t (266) 1) then t else (sX5_copyFrom (76 + 38 * ((t (266) 1).toNatClampNeg)) t (b2))))
theorem mX0_record_f18 : Cond.fieldLink RX0 18 "WrongedMeters$History" "freeSlot" "I" ∈ wsX0_record := by decide +kernel
set_option maxRecDepth 20000 in
theorem mX0_record_in0 : ∀ w ∈ u_ws RX0 TX0 3, w ∈ wsX0_record := by decide +kernel
theorem mX0_record_f13 : Cond.fieldLink RX0 13 "WrongedMeters$History" "states" "[LWrongedMeters$Town;" ∈ wsX0_record := by decide +kernel
theorem hyX0_record : yX0_record.cls = RX0 ∧ yX0_record.cls ≠ "java/lang/invoke/MethodHandle" ∧ yX0_record.cls ≠ "java/lang/invoke/VarHandle" ∧ (parseMethodDescriptor yX0_record.desc).map (fun d => d.parameters.length) = some 1 := by decide +kernel
set_option maxHeartbeats 3000000 in
set_option maxRecDepth 100000 in
theorem kX0_record (l : Launch) (D : va_G) (cy : Nat → ClassId) (K : zK) (n : Nat) (ad : Nat → Nat) (hJ : zJ n ad) (hO : zHist cy K n ad) (t : zM) (b2 : Nat) (hO2 : zTown cy K n ad b2) (hb2 : b2 + 38 ≤ 76) (hfs : zFs (t 266 1)) (hb : zBits b2 t) : zV l yX0_record wsX0_record 3 D cy K n ad t [.ref (ad (266)), .ref (ad (b2))] (fun t1 => t1 = sX0_record t b2) := by
  refine z_startV (cc := cX0_record) (mL := 2) (ret := none) (own := RX0) rfl (by decide +kernel) rfl hJ (Nat.le_of_ble_eq_true rfl) ?_
  intro p e s m args below meth c A hA Q hQ C
  refine z_aload_n C 0 0 0 dX0_record_0 rfl rfl ?_
  refine z_geti C 1 (266) 1 dX0_record_1 hO.h0 hO.e0 mX0_record_in0 rfl (by decide) mX0_record_f18 (fun _ => rfl) ?_
  refine z_if_lt C 4 28 dX0_record_4 (by decide) (fun c4_1 => ?_) (fun c4_1 => ?_)
  · exact z_vret C 28 hA hQ rfl dX0_record_28 ((if_pos c4_1).trans rfl).symm
  · refine z_aload_n C 7 0 0 dX0_record_7 rfl rfl ?_
    refine z_geti C 8 (266) 1 dX0_record_8 hO.h0 hO.e0 mX0_record_in0 rfl (by decide) mX0_record_f18 (fun _ => rfl) ?_
    refine z_iconst C 11 (v := 5) dX0_record_11 (by decide +kernel) ?_
    refine z_icmp_ge C 12 28 dX0_record_12 (by decide) (fun c12_2 => ?_) (fun c12_2 => ?_)
    · exact z_vret C 28 hA hQ rfl dX0_record_28 ((if_neg c4_1).trans ((if_pos c12_2).trans rfl)).symm
    · refine z_aload_n C 15 0 0 dX0_record_15 rfl rfl ?_
      refine z_getr C 16 (a9 := ad (267)) (266) 0 dX0_record_16 hO.h0 hO.e0 mX0_record_in0 rfl (by decide) mX0_record_f13 (fun _ => rfl) ?_
      refine z_aload_n C 19 0 0 dX0_record_19 rfl rfl ?_
      refine z_geti C 20 (266) 1 dX0_record_20 hO.h0 hO.e0 mX0_record_in0 rfl (by decide) mX0_record_f18 (fun _ => rfl) ?_
      refine z_aald C 23 (267) 3 ((t (266) 1).toNatClampNeg) (ad (76 + 38 * ((t (266) 1).toNatClampNeg))) dX0_record_23 hO.h1 hO.e1 rfl hfs.c.2 hfs.c.1 (by decide) rfl ?_
      refine z_aload_n C 24 1 1 dX0_record_24 rfl rfl ?_
      refine z_virtVe C 25 (As := [.ref (ad (b2))]) (st := []) (id := 76 + 38 * ((t (266) 1).toNatClampNeg)) (kX5_copyFrom l D cy K n ad hJ (76 + 38 * ((t (266) 1).toNatClampNeg)) (hO.twn hfs.c.1) t (b2) hO2 (by omega) hb) dX0_record_25 rfl gX0_record_X5_copyFrom hyX5_copyFrom rfl (by decide) (by decide) (hO.twn hfs.c.1).h0 rfl (hO.twn hfs.c.1).e0 rfl rfl rfl (Nat.le_of_ble_eq_true rfl) ?_
      exact z_vret C 28 hA hQ rfl dX0_record_28 ((if_neg c4_1).trans ((if_neg c12_2).trans rfl)).symm
theorem sX0_record_o (t : zM) (b2 : Nat) (hfs : zFs (t 266 1)) {x : Nat} (h : x < 76 ∨ 266 ≤ x) : sX0_record t b2 x = t x := by
  have := hfs.c.1
  unfold sX0_record
  split
  · rfl
  · split
    · rfl
    · exact sX5_copyFrom_o _ _ _ (by omega)
def sX0_keep (t : zM)  : zM := (if 4 ≤ (t (266) 2) then (zset t (266) 1 (zrem ((t (266) 1) + 1) 5)) else (zset (zset t (266) 1 (zrem ((t (266) 1) + 1) 5)) (266) 2 ((t (266) 2) + 1)))
theorem mX0_keep_f18 : Cond.fieldLink RX0 18 "WrongedMeters$History" "freeSlot" "I" ∈ wsX0_keep := by decide +kernel
set_option maxRecDepth 20000 in
theorem mX0_keep_in0 : ∀ w ∈ u_ws RX0 TX0 3, w ∈ wsX0_keep := by decide +kernel
theorem mX0_keep_f26 : Cond.fieldLink RX0 26 "WrongedMeters$History" "size" "I" ∈ wsX0_keep := by decide +kernel
theorem hyX0_keep : yX0_keep.cls = RX0 ∧ yX0_keep.cls ≠ "java/lang/invoke/MethodHandle" ∧ yX0_keep.cls ≠ "java/lang/invoke/VarHandle" ∧ (parseMethodDescriptor yX0_keep.desc).map (fun d => d.parameters.length) = some 0 := by decide +kernel
set_option maxHeartbeats 3000000 in
set_option maxRecDepth 100000 in
theorem kX0_keep (l : Launch) (D : va_G) (cy : Nat → ClassId) (K : zK) (n : Nat) (ad : Nat → Nat) (hJ : zJ n ad) (hO : zHist cy K n ad) (t : zM)   : zV l yX0_keep wsX0_keep 0 D cy K n ad t [.ref (ad (266))] (fun t1 => t1 = sX0_keep t) := by
  refine z_startV (cc := cX0_keep) (mL := 1) (ret := none) (own := RX0) rfl (by decide +kernel) rfl hJ (Nat.le_of_ble_eq_true rfl) ?_
  intro p e s m args below meth c A hA Q hQ C
  refine z_aload_n C 0 0 0 dX0_keep_0 rfl rfl ?_
  refine z_aload_n C 1 0 0 dX0_keep_1 rfl rfl ?_
  refine z_geti C 2 (266) 1 dX0_keep_2 hO.h0 hO.e0 mX0_keep_in0 rfl (by decide) mX0_keep_f18 (fun _ => rfl) ?_
  refine z_iconst C 5 (v := 1) dX0_keep_5 (by decide +kernel) ?_
  refine z_iadd C 6 dX0_keep_6 ?_
  refine z_iconst C 7 (v := 5) dX0_keep_7 (by decide +kernel) ?_
  refine z_irem C 8 dX0_keep_8 (by decide) ?_
  refine z_put C 9 (ty := .int) (266) 1 dX0_keep_9 hO.h0 hO.e0 mX0_keep_in0 tyX0 tyX0_ok nmX0 rfl (by decide) mX0_keep_f18 rfl (by decide +kernel) (vp_nar_int _) (zfit_i _) (fun _ => Nat.le_of_ble_eq_true rfl) (fun _ _ => rfl) ?_
  refine z_aload_n C 12 0 0 dX0_keep_12 rfl rfl ?_
  refine z_geti C 13 (266) 2 dX0_keep_13 hO.h0 hO.e0 mX0_keep_in0 rfl (by decide) mX0_keep_f26 (fun _ => rfl) ?_
  refine z_nv (t (266) 2) ((zset_nk _ _ _ (by decide)).trans rfl) ?_
  refine z_iconst C 16 (v := 4) dX0_keep_16 (by decide +kernel) ?_
  refine z_icmp_ge C 17 30 dX0_keep_17 (by decide) (fun c17_1 => ?_) (fun c17_1 => ?_)
  · exact z_vret C 30 hA hQ rfl dX0_keep_30 ((if_pos c17_1).trans rfl).symm
  · refine z_aload_n C 20 0 0 dX0_keep_20 rfl rfl ?_
    refine z_dup C 21 dX0_keep_21 rfl ?_
    refine z_geti C 22 (266) 2 dX0_keep_22 hO.h0 hO.e0 mX0_keep_in0 rfl (by decide) mX0_keep_f26 (fun _ => rfl) ?_
    refine z_nv (t (266) 2) ((zset_nk _ _ _ (by decide)).trans rfl) ?_
    refine z_iconst C 25 (v := 1) dX0_keep_25 (by decide +kernel) ?_
    refine z_iadd C 26 dX0_keep_26 ?_
    refine z_put C 27 (ty := .int) (266) 2 dX0_keep_27 hO.h0 hO.e0 mX0_keep_in0 tyX0 tyX0_ok nmX0 rfl (by decide) mX0_keep_f26 rfl (by decide +kernel) (vp_nar_int _) (zfit_i _) (fun _ => Nat.le_of_ble_eq_true rfl) (fun _ _ => rfl) ?_
    exact z_vret C 30 hA hQ rfl dX0_keep_30 ((if_neg c17_1).trans rfl).symm
theorem sX0_keep_o (t : zM) {x : Nat} (h : x ≠ 266) : sX0_keep t x = t x := by
  unfold sX0_keep
  split
  · exact zset_id _ _ _ h
  · rw [zset_id _ _ _ h, zset_id _ _ _ h]
def rX6_kept (t : zM) (a1 : Int32) : Int32 := (if a1 < 0 then a1 else a1)
def sX6_kept (t : zM) (a1 : Int32) : zM := (if a1 < 0 then t else (sX0_keep t))
theorem mX6_kept_f22 : Cond.fieldLink RX6 22 "WrongedMeters" "history" "LWrongedMeters$History;" ∈ wsX6_kept := by decide +kernel
set_option maxRecDepth 20000 in
theorem mX6_kept_in6 : ∀ w ∈ u_ws RX6 TX6 4, w ∈ wsX6_kept := by decide +kernel
theorem hyX6_kept : yX6_kept.cls = RX6 ∧ yX6_kept.cls ≠ "java/lang/invoke/MethodHandle" ∧ yX6_kept.cls ≠ "java/lang/invoke/VarHandle" ∧ (parseMethodDescriptor yX6_kept.desc).map (fun d => d.parameters.length) = some 1 := by decide +kernel
set_option maxHeartbeats 3000000 in
set_option maxRecDepth 100000 in
theorem kX6_kept (l : Launch) (D : va_G) (cy : Nat → ClassId) (K : zK) (n : Nat) (ad : Nat → Nat) (hJ : zJ n ad) (hO : zTop cy K n ad) (t : zM) (a1 : Int32)  : zI l yX6_kept wsX6_kept 1 D cy K n ad t [.ref (ad (270)), .int a1] (fun r t1 => r = rX6_kept t a1 ∧ t1 = sX6_kept t a1) := by
  refine z_startI (cc := cX6_kept) (mL := 2) (ret := (some .int)) (own := RX6) rfl (by decide +kernel) rfl hJ (Nat.le_of_ble_eq_true rfl) ?_
  intro p e s m args below meth c A hA Q hQ C
  refine z_iload_n C 0 1 1 dX6_kept_0 rfl rfl ?_
  refine z_if_lt C 1 11 dX6_kept_1 (by decide) (fun c1_1 => ?_) (fun c1_1 => ?_)
  · refine z_iload_n C 11 1 1 dX6_kept_11 rfl rfl ?_
    exact z_iret C 12 hA hQ rfl dX6_kept_12 ⟨((if_pos c1_1).trans rfl).symm, ((if_pos c1_1).trans rfl).symm⟩
  · refine z_aload_n C 4 0 0 dX6_kept_4 rfl rfl ?_
    refine z_getr C 5 (a9 := ad (266)) (270) 2 dX6_kept_5 hO.h0 hO.e0 mX6_kept_in6 rfl (by decide) mX6_kept_f22 (fun _ => rfl) ?_
    refine z_virtVe C 8 (As := []) (st := []) (id := 266) (kX0_keep l D cy K n ad hJ hO.hi t  ) dX6_kept_8 rfl gX6_kept_X0_keep hyX0_keep rfl (by decide) (by decide) hO.hi.h0 rfl hO.hi.e0 rfl rfl rfl (Nat.le_of_ble_eq_true rfl) ?_
    refine z_iload_n C 11 1 1 dX6_kept_11 rfl rfl ?_
    exact z_iret C 12 hA hQ rfl dX6_kept_12 ⟨((if_neg c1_1).trans rfl).symm, ((if_neg c1_1).trans rfl).symm⟩
end
section
/-! what a town's calls keep: the bits of the locks, all outside the town, and its own safety -/
def zW (b : Nat) (t S : zM) : Prop := zBits b S ∧ ∀ x, x < b ∨ b + 38 ≤ x → S x = t x
theorem zW.rf {b : Nat} {t : zM} (h : zBits b t) : zW b t t := ⟨h, fun _ _ => rfl⟩
theorem zW.set {b : Nat} {t S : zM} (h : zW b t S) {id k : Nat} {v : Int32} (h1 : b ≤ id) (h2 : id < b + 38) (hk : k ≠ 5 ∨ id < b + 2 ∨ b + 26 ≤ id ∨ v = 0 ∨ v = 1) : zW b t (zset S id k v) := by
  refine ⟨fun i hi => ?_, fun x hx => (zset_id _ _ _ (by omega)).trans (h.2 x hx)⟩
  by_cases e : b + 2 + i = id
  · subst e
    by_cases e5 : k = 5
    · subst e5
      rw [zset_eq]
      rcases hk with q | q | q | q | q
      · exact absurd rfl q
      · omega
      · omega
      · exact Or.inl q
      · exact Or.inr q
    · rw [zset_nk _ _ _ (Ne.symm e5)]
      exact h.1 i hi
  · rw [zset_idk _ _ _ _ e]
    exact h.1 i hi
theorem zW.fr {b : Nat} {t S S2 : zM} (h : zW b t S) (h1 : ∀ i, i < 24 → S2 (b + 2 + i) = S (b + 2 + i)) (h2 : ∀ x, x < b ∨ b + 38 ≤ x → S2 x = S x) : zW b t S2 :=
  ⟨zBits_fr h.1 h1, fun x hx => (h2 x hx).trans (h.2 x hx)⟩
theorem zW.settle {b : Nat} {t S : zM} (h : zW b t S) {k : Nat} (hk : k < 24) (a1 a2 a3 : Int32) : zW b t (sX1_settle (b + 2 + k) S a1 a2 a3) := by
  unfold sX1_settle
  repeat' split
  all_goals
    repeat (refine zW.set ?_ (by omega) (by omega) (Or.inl (by decide)))
    exact h
theorem zW.goOn {b : Nat} {t S : zM} (h : zW b t S) {k : Nat} (hk : k < 24) : zW b t (sX1_goOn (b + 2 + k) S) := by
  unfold sX1_goOn
  repeat' split
  all_goals
    repeat (refine zW.set ?_ (by omega) (by omega) (Or.inl (by decide)))
    exact h
theorem zW.renew {b : Nat} {t S : zM} (h : zW b t S) {k : Nat} (hk : k < 24) : zW b t (sX1_renewMeter (b + 2 + k) S) := by
  unfold sX1_renewMeter
  repeat (refine zW.set ?_ (by omega) (by omega) (Or.inl (by decide)))
  exact h
theorem zW.add {b : Nat} {t S : zM} (h : zW b t S) (w : Nat) (a1 a2 a3 a4 a5 : Int32) : zW b t (sX2_add (b + 35) S w a1 a2 a3 a4 a5) :=
  h.fr (fun i hi => sX2_add_o _ _ _ _ _ _ _ _ (by omega) (by omega)) (fun x hx => sX2_add_o _ _ _ _ _ _ _ _ (by omega) (by omega))
theorem zW.rd {b : Nat} {t S : zM} (h : zW b t S) {k : Nat} (hk : k < 24) (a : Int32) : zW b t (sX5_readMeter b S k a) := by
  unfold sX5_readMeter
  refine zW.set (zW.set (zW.set (zW.set ?_ (by omega) (by omega) (Or.inl (by decide))) (by omega) (by omega) (Or.inl (by decide))) (by omega) (by omega) (Or.inl (by decide))) (by omega) (by omega) (Or.inl (by decide))
  exact (h.settle hk _ _ _).add _ _ _ _ _ _
theorem zW.walk16 {b q : Nat} {t : zM} (hq : q < 4) (t0 : zM) : ∀ (j k : Nat) (v : Int32) (u : zM), zW b t u → zW b t (lsX5_walk_16 b t0 q j k v u) := by
  intro j
  induction j with
  | zero => intro k v u h; exact h
  | succ j ih =>
    intro k v u h
    unfold lsX5_walk_16
    repeat' split
    all_goals first
      | exact h
      | exact ih _ _ _ h
      | exact ih _ _ _ ((h.rd (zin_lt (by assumption)) _).set (by omega) (by omega) (Or.inl (by decide)))
theorem zW.walk {b q : Nat} {t S : zM} (hq : q < 4) (h : zW b t S) : zW b t (sX5_walk b S q) := zW.walk16 hq S _ _ _ _ h
theorem zW.end20 {b : Nat} {t : zM} (t0 : zM) : ∀ (j k : Nat) (u : zM), k ≤ 24 → zW b t u → zW b t (lsX5_endYear_20 b t0 j k u) := by
  intro j
  induction j with
  | zero => intro k u hk h; exact h
  | succ j ih =>
    intro k u hk h
    unfold lsX5_endYear_20
    split
    · exact h
    · have hk2 : k < 24 := zge (b := 24) (by omega) (by decide) ‹¬ (24 : Int32) ≤ nI k›
      split
      · exact ih _ _ (by omega) h
      · exact ih _ _ (by omega) ((((h.set (by omega) (by omega) (Or.inl (by decide))).set (by omega) (by omega) (Or.inl (by decide))).set (by omega) (by omega) (Or.inl (by decide))).set (by omega) (by omega) (Or.inl (by decide)))
theorem zW.endYear {b : Nat} {t S : zM} (h : zW b t S) : zW b t (sX5_endYear b S) := zW.end20 S _ _ _ (by decide) (h.set (by omega) (by omega) (Or.inl (by decide)))
theorem zW.pd26 {b : Nat} {t : zM} (t0 : zM) (M N : Nat) : ∀ (j i : Nat) (u : zM), i ≤ 24 → zW b t u → zW b t (lsX5_passDays_26 b t0 M N j i u) := by
  intro j
  induction j with
  | zero => intro i u hi h; exact h
  | succ j ih =>
    intro i u hi h
    unfold lsX5_passDays_26
    split
    · exact h
    · have hk2 : i < 24 := zge (b := 24) (by omega) (by decide) ‹¬ (24 : Int32) ≤ nI i›
      exact ih _ _ (by omega) (h.goOn hk2)
theorem zW.pd7 {b : Nat} {t : zM} (t0 : zM) (M N : Nat) : ∀ (j k : Nat) (u : zM), zW b t u → zW b t (lsX5_passDays_7 b t0 M N j k u) := by
  intro j
  induction j with
  | zero => intro k u h; exact h
  | succ j ih =>
    intro k u h
    unfold lsX5_passDays_7
    split
    · exact h
    · have h3 := zW.walk (q := (N + k + 1) % 4) (by omega) ((zW.pd26 t0 M N 25 0 u (by decide) h).set (id := b) (k := 5) (v := (lsX5_passDays_26 b t0 M N 25 0 u) b 5 + 1) (by omega) (by omega) (Or.inr (Or.inl (by omega))))
      split
      · exact ih _ _ h3
      · split
        · exact ih _ _ h3.endYear
        · exact ih _ _ h3
theorem zW.passDays {b M N : Nat} {t S : zM} (h : zW b t S) : zW b t (sX5_passDays b S M N) := zW.pd7 S M N _ _ _ h
def zOK (b : Nat) (t : zM) : Prop := ∃ N, N ≤ 9999 ∧ zTs N b t
theorem zOK.c {b : Nat} {t : zM} (h : zOK b t) : (t b 5).toNatClampNeg ≤ 9999 ∧ zTs (t b 5).toNatClampNeg b t := by
  obtain ⟨N, hN, h⟩ := h
  rw [h.1, nI_clamp (by omega)]
  exact ⟨hN, h⟩
/-- a town's call keeps the town -/
def zKp (b : Nat) (t S : zM) : Prop := zOK b S ∧ zW b t S
theorem zKp.rf {b : Nat} {t : zM} (h : zOK b t) (hb : zBits b t) : zKp b t t := ⟨h, zW.rf hb⟩
theorem zTs_cnt {N b : Nat} {t : zM} {v : Int32} (h : zTs N b t) (hv : zCnt v) : zTs N b (zset t b 4 v) := by
  obtain ⟨a1, a2, a3⟩ := h
  unfold zTs
  rw [zset_eq, zset_idk _ _ _ _ (show b + 35 ≠ b by omega), zset_nk _ _ _ (show 5 ≠ 4 by decide)]
  exact ⟨a1, a2, hv⟩
theorem addHouse_K {b : Nat} {t : zM} (h : zOK b t) (hb : zBits b t) (a1 a2 : Int32) : zKp b t (sX5_addHouse b t (t b 4).toNatClampNeg a1 a2) := by
  have r := zKp.rf h hb
  obtain ⟨N, hN, hs⟩ := h
  have hc := hs.2.2.c
  unfold sX5_addHouse
  split
  · rename_i c1
    have hq := zis_lt c1
    split
    · exact r
    · split
      · split
        · rename_i c4
          have hH : (t b 4).toNatClampNeg < 24 := zidxc (m := 24) (by rw [hc.2]; exact nI_pos (by omega)) c4 (by decide)
          refine ⟨⟨N, hN, zTs_cnt ?_ ⟨(t b 4).toNatClampNeg + 1, by omega, (congrArg (· + 1) hc.2).trans (nI_1 _)⟩⟩, zW.set ?_ (by omega) (by omega) (Or.inl (by decide))⟩
          · exact zTs_fr (zTs_set (zTs_set hs (Or.inl (by omega)) (by omega)) (Or.inl (by omega)) (by omega)) (sX4_putHouse_o _ _ _ _ (by omega)) (sX4_putHouse_o _ _ _ _ (by omega))
          · exact zW.fr (((zW.rf hb).set (id := b + 2 + (t b 4).toNatClampNeg) (k := 0) (v := a1) (by omega) (by omega) (Or.inl (by decide))).set (id := b + 2 + (t b 4).toNatClampNeg) (k := 1) (v := a2) (by omega) (by omega) (Or.inl (by decide))) (fun i hi => sX4_putHouse_o _ _ _ _ (by omega)) (fun x hx => sX4_putHouse_o _ _ _ _ (by omega))
        · exact r
      · exact r
  · exact r
theorem putFlow_K {b : Nat} {t : zM} (h : zOK b t) (hb : zBits b t) (a1 a2 : Int32) : zKp b t (sX5_putFlow b t a1 a2) := by
  have r := zKp.rf h hb
  obtain ⟨N, hN, hs⟩ := h
  unfold sX5_putFlow
  split
  · rename_i c
    have hk := zin_lt c
    split
    · exact r
    · split
      · exact ⟨⟨N, hN, zTs_set hs (Or.inl (by omega)) (by omega)⟩, (zW.rf hb).set (by omega) (by omega) (Or.inl (by decide))⟩
      · exact r
  · exact r
theorem putLock_K {b : Nat} {t : zM} (h : zOK b t) (hb : zBits b t) (a1 : Int32) {a2 : Int32} (h2 : a2 = 0 ∨ a2 = 1) : zKp b t (sX5_putLock b t a1 a2) := by
  have r := zKp.rf h hb
  obtain ⟨N, hN, hs⟩ := h
  unfold sX5_putLock
  split
  · rename_i c
    have hk := zin_lt c
    split
    · exact ⟨⟨N, hN, zTs_set hs (Or.inl (by omega)) (by omega)⟩, (zW.rf hb).set (by omega) (by omega) (Or.inr (Or.inr (Or.inr h2)))⟩
    · exact ⟨⟨N, hN, zTs_set hs (Or.inl (by omega)) (by omega)⟩, (zW.rf hb).set (by omega) (by omega) (Or.inr (Or.inr (Or.inr h2)))⟩
  · exact r
theorem turnLock_K {b : Nat} {t : zM} (h : zOK b t) (hb : zBits b t) (a1 : Int32) : zKp b t (sX5_turnLock b t a1) := by
  unfold sX5_turnLock
  split
  · split
    · exact putLock_K h hb _ (Or.inr rfl)
    · exact putLock_K h hb _ (Or.inl rfl)
  · exact zKp.rf h hb
theorem readIfOpen_K {b : Nat} {t : zM} (h : zOK b t) (hb : zBits b t) (a1 : Int32) : zKp b t (sX5_readIfOpen b t a1) := by
  have r := zKp.rf h hb
  obtain ⟨N, hN, hs⟩ := h
  unfold sX5_readIfOpen
  split
  · rename_i c
    have hk := zin_lt c
    split
    · exact ⟨⟨N, hN, sX5_readMeter_S hk hs⟩, (zW.rf hb).rd hk _⟩
    · exact r
  · exact r
theorem changeMeter_K {b : Nat} {t : zM} (h : zOK b t) (hb : zBits b t) (a1 : Int32) : zKp b t (sX5_changeMeter b t a1) := by
  have r := zKp.rf h hb
  obtain ⟨N, hN, hs⟩ := h
  unfold sX5_changeMeter
  split
  · rename_i c
    have hk := zin_lt c
    exact ⟨⟨N, hN, zTs_fr (sX5_readMeter_S hk hs) (sX1_renewMeter_o _ _ (by omega)) (sX1_renewMeter_o _ _ (by omega))⟩, ((zW.rf hb).rd hk _).renew hk⟩
  · exact r
theorem days_K {b : Nat} {t : zM} (h : zOK b t) (hb : zBits b t) {a2 : Int32} (h1 : ¬ a2 < 1) (h2 : a2 ≤ 99) (h3 : t b 5 + a2 ≤ 9999) : zKp b t (sX5_passDays b t a2.toNatClampNeg (t b 5).toNatClampNeg) := by
  have hc := h.c
  have hM := z99 h1 (znlt.mpr h2)
  refine ⟨⟨(t b 5).toNatClampNeg + a2.toNatClampNeg, ?_, sX5_passDays_S hM hc.2⟩, zW.passDays (zW.rf hb)⟩
  rw [hc.2.1, znc (zlt1 h1), nI_add] at h3
  exact zle (b := 9999) (by omega) (by decide) h3
theorem zite1 {P : zM → Prop} {c : Prop} [Decidable c] {a b : zM} (h1 : c → P a) (h2 : ¬c → P b) : P (if c then a else b) := by
  split
  · exact h1 (by assumption)
  · exact h2 (by assumption)
theorem sX5_obey_K {b : Nat} {t : zM} (h : zOK b t) (hb : zBits b t) (a1 a2 a3 : Int32) : zKp b t (sX5_obey b t a1 a2 a3 (t b 5).toNatClampNeg) := by
  have r := zKp.rf h hb
  unfold sX5_obey
  refine zite1 (P := zKp b t) (fun _ => changeMeter_K h hb _) (fun _ => ?_)
  refine zite1 (P := zKp b t) (fun _ => zite1 (P := zKp b t) (fun _ => r) (fun c1 => zite1 (P := zKp b t) (fun c2 => zite1 (P := zKp b t) (fun c3 => days_K h hb c1 c2 c3) (fun _ => r)) (fun _ => r))) (fun _ => ?_)
  refine zite1 (P := zKp b t) (fun _ => r) (fun _ => ?_)
  refine zite1 (P := zKp b t) (fun _ => putFlow_K h hb _ _) (fun _ => ?_)
  refine zite1 (P := zKp b t) (fun _ => r) (fun _ => ?_)
  refine zite1 (P := zKp b t) (fun _ => addHouse_K h hb _ _) (fun _ => ?_)
  refine zite1 (P := zKp b t) (fun _ => r) (fun _ => ?_)
  refine zite1 (P := zKp b t) (fun _ => r) (fun _ => ?_)
  refine zite1 (P := zKp b t) (fun _ => r) (fun _ => ?_)
  refine zite1 (P := zKp b t) (fun _ => turnLock_K h hb _) (fun _ => ?_)
  refine zite1 (P := zKp b t) (fun _ => r) (fun _ => ?_)
  refine zite1 (P := zKp b t) (fun _ => r) (fun _ => ?_)
  refine zite1 (P := zKp b t) (fun _ => r) (fun _ => ?_)
  refine zite1 (P := zKp b t) (fun _ => r) (fun _ => ?_)
  refine zite1 (P := zKp b t) (fun _ => r) (fun _ => ?_)
  exact zite1 (P := zKp b t) (fun _ => readIfOpen_K h hb _) (fun _ => r)
end
section
theorem zOK.fr {b : Nat} {t t1 : zM} (h : zOK b t) (h0 : t1 b = t b) (h1 : t1 (b + 35) = t (b + 35)) : zOK b t1 := by
  obtain ⟨N, hN, h⟩ := h
  exact ⟨N, hN, zTs_fr h h0 h1⟩
theorem zOK.set {b2 b k : Nat} {t : zM} (h : zOK b2 t) (v : Int32) (h1 : b ≠ b2) (h2 : b ≠ b2 + 35) : zOK b2 (zset t b k v) := h.fr (zset_id _ _ _ (Ne.symm h1)) (zset_id _ _ _ (Ne.symm h2))
theorem zBits.set {b2 b k : Nat} {t : zM} (h : zBits b2 t) (v : Int32) (h1 : b < b2 + 2 ∨ b2 + 26 ≤ b) : zBits b2 (zset t b k v) := zBits_fr h (fun i hi => zset_id _ _ _ (by omega))
end
section
/-! what copies and orders' doing give -/
/-- the town at b holds the same ints in S as the town at b2 in t -/
def zTe (b b2 : Nat) (S t : zM) : Prop := (∀ k, k < 24 → ∀ w, w < 14 → S (b + 2 + k) w = t (b2 + 2 + k) w) ∧ (∀ j, j < 4 → S (b + 27 + 2 * j) 1 = t (b2 + 27 + 2 * j) 1 ∧ ∀ p, p < 20 → S (b + 28 + 2 * j) p = t (b2 + 28 + 2 * j) p) ∧ S (b + 35) 1 = t (b2 + 35) 1 ∧ S (b + 35) 2 = t (b2 + 35) 2 ∧ (∀ r, r < 60 → S (b + 36) r = t (b2 + 36) r) ∧ (∀ i, i < 4 → S (b + 37) i = t (b2 + 37) i) ∧ ∀ w, 4 ≤ w → w ≤ 12 → S b w = t b2 w
theorem zcp_eq {t : zM} {a c n k : Nat} (h : k < n) : zcp t a c n c k = t a k := by
  unfold zcp
  rw [if_pos rfl, if_pos h]
theorem sX4_copyFrom_e (b : Nat) (t : zM) (b2 : Nat) : sX4_copyFrom b t b2 b 1 = t b2 1 ∧ (∀ p, p < 20 → sX4_copyFrom b t b2 (b + 1) p = t (b2 + 1) p) := by
  unfold sX4_copyFrom
  refine ⟨zset_eq _ _ _ _, fun p hp => ?_⟩
  rw [zset_idk _ _ _ _ (by omega), zcp_eq hp]
theorem sX2_copyFrom_e (b : Nat) (t : zM) (b2 : Nat) : sX2_copyFrom b t b2 b 1 = t b2 1 ∧ sX2_copyFrom b t b2 b 2 = t b2 2 ∧ (∀ p, p < 60 → sX2_copyFrom b t b2 (b + 1) p = t (b2 + 1) p) := by
  unfold sX2_copyFrom
  refine ⟨?_, zset_eq _ _ _ _, fun p hp => ?_⟩
  · rw [zset_nk _ _ _ (by decide), zset_eq]
  · rw [zset_idk _ _ _ _ (by omega), zset_idk _ _ _ _ (by omega), zcp_eq hp]
theorem lsX5_copyFrom_31_e (b : Nat) (t0 t : zM) (b2 : Nat) (h : b2 + 38 ≤ b ∨ b + 38 ≤ b2) : ∀ (j i : Nat) (w : zM), i ≤ 4 → 5 ≤ i + j → (∀ k, k < 24 → ∀ y, y < 14 → w (b + 2 + k) y = t (b2 + 2 + k) y) → (∀ q, q < i → w (b + 27 + 2 * q) 1 = t (b2 + 27 + 2 * q) 1 ∧ ∀ p, p < 20 → w (b + 28 + 2 * q) p = t (b2 + 28 + 2 * q) p) → (∀ x, x < b ∨ b + 38 ≤ x → w x = t x) → zTe b b2 (lsX5_copyFrom_31 b t0 b2 j i w) t := by
  intro j
  induction j with
  | zero => intro i w hi hj; omega
  | succ j ih =>
    intro i w hi hj hH hS hO
    unfold lsX5_copyFrom_31
    split
    · have hi4 : i = 4 := by have := zle (a := 4) (by decide) (by omega) ‹(4 : Int32) ≤ nI i›; omega
      have e2 := sX2_copyFrom_e (b + 35) w (b2 + 35)
      have ho : ∀ x, x ≠ b + 35 → x ≠ b + 36 → sX2_copyFrom (b + 35) w (b2 + 35) x = w x := fun x h1 h2 => sX2_copyFrom_o _ _ _ h1 h2
      refine ⟨fun k hk y hy => ?_, fun q hq => ⟨?_, fun p hp => ?_⟩, ?_, ?_, fun r hr => ?_, fun i9 hi9 => ?_, fun y h1 h2 => ?_⟩
      · simp only [zset_id _ _ _ (show b + 2 + k ≠ b by omega)]
        rw [zcp_id _ _ _ _ (by omega), ho _ (by omega) (by omega)]
        exact hH k hk y hy
      · simp only [zset_id _ _ _ (show b + 27 + 2 * q ≠ b by omega)]
        rw [zcp_id _ _ _ _ (by omega), ho _ (by omega) (by omega)]
        exact (hS q (by omega)).1
      · simp only [zset_id _ _ _ (show b + 28 + 2 * q ≠ b by omega)]
        rw [zcp_id _ _ _ _ (by omega), ho _ (by omega) (by omega)]
        exact (hS q (by omega)).2 p hp
      · simp only [zset_id _ _ _ (show b + 35 ≠ b by omega)]
        rw [zcp_id _ _ _ _ (by omega), e2.1, hO _ (by omega)]
      · simp only [zset_id _ _ _ (show b + 35 ≠ b by omega)]
        rw [zcp_id _ _ _ _ (by omega), e2.2.1, hO _ (by omega)]
      · simp only [zset_id _ _ _ (show b + 36 ≠ b by omega)]
        rw [zcp_id _ _ _ _ (by omega), show b + 36 = b + 35 + 1 from rfl, e2.2.2 r hr, hO _ (by omega)]
      · simp only [zset_id _ _ _ (show b + 37 ≠ b by omega)]
        rw [zcp_eq hi9, ho _ (by omega) (by omega), hO _ (by omega)]
      · have e : sX2_copyFrom (b + 35) w (b2 + 35) b2 = t b2 := (ho b2 (by omega) (by omega)).trans (hO b2 (by omega))
        rw [e]
        rcases (show y = 4 ∨ y = 5 ∨ y = 6 ∨ y = 7 ∨ y = 8 ∨ y = 9 ∨ y = 10 ∨ y = 11 ∨ y = 12 by omega) with rfl | rfl | rfl | rfl | rfl | rfl | rfl | rfl | rfl <;> simp [zset, upd]
    · have hi4 : i < 4 := zge (b := 4) (by omega) (by decide) ‹¬ (4 : Int32) ≤ nI i›
      have e4 := sX4_copyFrom_e (b + 27 + 2 * i) w (b2 + 27 + 2 * i)
      have ho : ∀ x, x ≠ b + 27 + 2 * i → x ≠ b + 27 + 2 * i + 1 → sX4_copyFrom (b + 27 + 2 * i) w (b2 + 27 + 2 * i) x = w x := fun x h1 h2 => sX4_copyFrom_o _ _ _ h1 h2
      refine ih _ _ (by omega) (by omega) (fun k hk y hy => ?_) (fun q hq => ?_) (fun x hx => ?_)
      · rw [ho _ (by omega) (by omega)]
        exact hH k hk y hy
      · by_cases e : q = i
        · subst e
          refine ⟨by rw [e4.1, hO _ (by omega)], fun p hp => ?_⟩
          rw [show b + 28 + 2 * q = b + 27 + 2 * q + 1 by omega, e4.2 p hp, hO _ (by omega), show b2 + 28 + 2 * q = b2 + 27 + 2 * q + 1 by omega]
        · rw [ho _ (by omega) (by omega), ho _ (by omega) (by omega)]
          exact hS q (by omega)
      · rw [ho _ (by omega) (by omega)]
        exact hO x hx
theorem lsX5_copyFrom_2_e (b : Nat) (t0 t : zM) (b2 : Nat) (h : b2 + 38 ≤ b ∨ b + 38 ≤ b2) : ∀ (j k : Nat) (u : zM), k ≤ 24 → 25 ≤ k + j → (∀ q, q < k → ∀ y, y < 14 → u (b + 2 + q) y = t (b2 + 2 + q) y) → (∀ x, x < b ∨ b + 38 ≤ x → u x = t x) → zTe b b2 (lsX5_copyFrom_2 b t0 b2 j k u) t := by
  intro j
  induction j with
  | zero => intro k u hk hj; omega
  | succ j ih =>
    intro k u hk hj hH hO
    unfold lsX5_copyFrom_2
    split
    · have hk4 : k = 24 := by have := zle (a := 24) (by decide) (by omega) ‹(24 : Int32) ≤ nI k›; omega
      exact lsX5_copyFrom_31_e b t0 t b2 h _ _ _ (by decide) (by decide) (fun q hq => hH q (by omega)) (fun q hq => absurd hq (by omega)) hO
    · have hk4 : k < 24 := zge (b := 24) (by omega) (by decide) ‹¬ (24 : Int32) ≤ nI k›
      refine ih _ _ (by omega) (by omega) (fun q hq y hy => ?_) (fun x hx => ?_)
      · by_cases e : q = k
        · subst e
          rw [sX1_copyFrom_e _ _ _ hy, hO _ (by omega)]
        · rw [sX1_copyFrom_o _ _ _ (by omega)]
          exact hH q (by omega) y hy
      · rw [sX1_copyFrom_o _ _ _ (by omega)]
        exact hO x hx
/-- a copy holds the same -/
theorem sX5_copyFrom_e (b : Nat) (t : zM) (b2 : Nat) (h : b2 + 38 ≤ b ∨ b + 38 ≤ b2) : zTe b b2 (sX5_copyFrom b t b2) t := lsX5_copyFrom_2_e b t t b2 h _ _ _ (by decide) (by decide) (fun _ hq => absurd hq (by omega)) (fun _ _ => rfl)
theorem zTe.ok {b b2 : Nat} {S t : zM} (h : zTe b b2 S t) (hk : zOK b2 t) : zOK b S := by
  obtain ⟨N, hN, h1, h2, h3⟩ := hk
  obtain ⟨-, -, e1, -, -, -, e2⟩ := h
  exact ⟨N, hN, (e2 5 (by decide) (by decide)).trans h1, by rw [e1]; exact h2, by rw [e2 4 (by decide) (by decide)]; exact h3⟩
theorem zTe.bits {b b2 : Nat} {S t : zM} (h : zTe b b2 S t) (hb : zBits b2 t) : zBits b S := fun k hk => by
  rw [h.1 k hk 5 (by decide)]
  exact hb k hk
end
section
/-! the calls on the class's own object -/
def zSz (x : Int32) : Prop := ∃ w, w ≤ 10 ∧ x = nI w
theorem zSz.c {x : Int32} (h : zSz x) : x.toNatClampNeg ≤ 10 ∧ x = nI x.toNatClampNeg := by
  obtain ⟨w, hw, rfl⟩ := h
  rw [nI_clamp (by omega)]
  exact ⟨hw, rfl⟩
def zLn (x : Int32) : Prop := ∃ w, w ≤ 60 ∧ x = nI w
theorem zLn.c {x : Int32} (h : zLn x) : x.toNatClampNeg ≤ 60 ∧ x = nI x.toNatClampNeg := by
  obtain ⟨w, hw, rfl⟩ := h
  rw [nI_clamp (by omega)]
  exact ⟨hw, rfl⟩
/-- what the calls need of the numbers -/
def zGd (t : zM) : Prop := zOK 0 t ∧ zBits 0 t ∧ zFs (t 266 1) ∧ (∀ i, i < 5 → zBits (76 + 38 * i) t) ∧ zSz (t 35 2) ∧ zLn (t 268 1)
theorem zGd.ok {t : zM} (h : zGd t) : zOK 0 t := h.1
theorem zGd.bits {t : zM} (h : zGd t) : zBits 0 t := h.2.1
theorem zGd.fs {t : zM} (h : zGd t) : zFs (t 266 1) := h.2.2.1
theorem zGd.hb {t : zM} (h : zGd t) : ∀ i, i < 5 → zBits (76 + 38 * i) t := h.2.2.2.1
theorem zGd.sz {t : zM} (h : zGd t) : zSz (t 35 2) := h.2.2.2.2.1
theorem zGd.ln {t : zM} (h : zGd t) : zLn (t 268 1) := h.2.2.2.2.2
theorem zGd.row {t : zM} (h : zGd t) : zRow (t 35 1) := by
  obtain ⟨N, hN, h⟩ := h.1
  exact h.2.1
/-- a record leaves the town -/
theorem zGd.rok {t : zM} (h : zGd t) : zOK 0 (sX0_record t 0) := h.ok.fr (sX0_record_o _ _ h.fs (by decide)) (sX0_record_o _ _ h.fs (by decide))
theorem zGd.rbits {t : zM} (h : zGd t) : zBits 0 (sX0_record t 0) := zBits_fr h.bits (fun i hi => sX0_record_o _ _ h.fs (by omega))
def rX6_carryOut (t : zM) (a1 : Int32) (a2 : Int32) (a3 : Int32) : Int32 := (rX6_kept (sX5_obey (0) (sX0_record t (0)) a1 a2 a3 ((sX0_record t (0)) (0) 5).toNatClampNeg) (rX5_obey (0) (sX0_record t (0)) a1 a2 a3 ((sX0_record t (0)) (0) 5).toNatClampNeg))
def sX6_carryOut (t : zM) (a1 : Int32) (a2 : Int32) (a3 : Int32) : zM := (sX6_kept (sX5_obey (0) (sX0_record t (0)) a1 a2 a3 ((sX0_record t (0)) (0) 5).toNatClampNeg) (rX5_obey (0) (sX0_record t (0)) a1 a2 a3 ((sX0_record t (0)) (0) 5).toNatClampNeg))
theorem mX6_carryOut_f22 : Cond.fieldLink RX6 22 "WrongedMeters" "history" "LWrongedMeters$History;" ∈ wsX6_carryOut := by decide +kernel
set_option maxRecDepth 20000 in
theorem mX6_carryOut_in6 : ∀ w ∈ u_ws RX6 TX6 4, w ∈ wsX6_carryOut := by decide +kernel
theorem mX6_carryOut_f10 : Cond.fieldLink RX6 10 "WrongedMeters" "town" "LWrongedMeters$Town;" ∈ wsX6_carryOut := by decide +kernel
theorem hyX6_carryOut : yX6_carryOut.cls = RX6 ∧ yX6_carryOut.cls ≠ "java/lang/invoke/MethodHandle" ∧ yX6_carryOut.cls ≠ "java/lang/invoke/VarHandle" ∧ (parseMethodDescriptor yX6_carryOut.desc).map (fun d => d.parameters.length) = some 3 := by decide +kernel
set_option maxHeartbeats 3000000 in
set_option maxRecDepth 100000 in
theorem kX6_carryOut (l : Launch) (D : va_G) (cy : Nat → ClassId) (K : zK) (n : Nat) (ad : Nat → Nat) (hJ : zJ n ad) (hO : zTop cy K n ad) (t : zM) (a1 : Int32) (a2 : Int32) (a3 : Int32) (hG : zGd t) : zI l yX6_carryOut wsX6_carryOut 5 D cy K n ad t [.ref (ad (270)), .int a1, .int a2, .int a3] (fun r t1 => r = rX6_carryOut t a1 a2 a3 ∧ t1 = sX6_carryOut t a1 a2 a3) := by
  refine z_startI (cc := cX6_carryOut) (mL := 4) (ret := (some .int)) (own := RX6) rfl (by decide +kernel) rfl hJ (Nat.le_of_ble_eq_true rfl) ?_
  intro p e s m args below meth c A hA Q hQ C
  refine z_aload_n C 0 0 0 dX6_carryOut_0 rfl rfl ?_
  refine z_getr C 1 (a9 := ad (266)) (270) 2 dX6_carryOut_1 hO.h0 hO.e0 mX6_carryOut_in6 rfl (by decide) mX6_carryOut_f22 (fun _ => rfl) ?_
  refine z_aload_n C 4 0 0 dX6_carryOut_4 rfl rfl ?_
  refine z_getr C 5 (a9 := ad (0)) (270) 0 dX6_carryOut_5 hO.h0 hO.e0 mX6_carryOut_in6 rfl (by decide) mX6_carryOut_f10 (fun _ => rfl) ?_
  refine z_virtVe C 8 (As := [.ref (ad (0))]) (st := []) (id := 266) (kX0_record l D cy K n ad hJ hO.hi t (0) hO.tn (by decide) hG.fs hG.bits) dX6_carryOut_8 rfl gX6_carryOut_X0_record hyX0_record rfl (by decide) (by decide) hO.hi.h0 rfl hO.hi.e0 rfl rfl rfl (Nat.le_of_ble_eq_true rfl) ?_
  refine z_aload_n C 11 0 0 dX6_carryOut_11 rfl rfl ?_
  refine z_aload_n C 12 0 0 dX6_carryOut_12 rfl rfl ?_
  refine z_getr C 13 (a9 := ad (0)) (270) 0 dX6_carryOut_13 hO.h0 hO.e0 mX6_carryOut_in6 rfl (by decide) mX6_carryOut_f10 (fun _ => rfl) ?_
  refine z_iload_n C 16 1 1 dX6_carryOut_16 rfl rfl ?_
  refine z_iload_n C 17 2 2 dX6_carryOut_17 rfl rfl ?_
  refine z_iload_n C 18 3 3 dX6_carryOut_18 rfl rfl ?_
  refine z_virtIe C 19 (As := [.int a1, .int a2, .int a3]) (st := [.ref (ad (270))]) (id := 0) (kX5_obey l D cy K n ad hJ (0) hO.tn (sX0_record t (0)) a1 a2 a3 ((sX0_record t (0)) (0) 5).toNatClampNeg (Nat.le_trans hG.rok.c.1 (by decide)) hG.rok.c.2) dX6_carryOut_19 rfl gX6_carryOut_X5_obey hyX5_obey rfl (by decide) (by decide) hO.tn.h0 rfl hO.tn.e0 rfl rfl rfl (Nat.le_of_ble_eq_true rfl) ?_
  refine z_virtIe C 22 (As := [.int (rX5_obey (0) (sX0_record t (0)) a1 a2 a3 ((sX0_record t (0)) (0) 5).toNatClampNeg)]) (st := []) (id := 270) (kX6_kept l D cy K n ad hJ hO (sX5_obey (0) (sX0_record t (0)) a1 a2 a3 ((sX0_record t (0)) (0) 5).toNatClampNeg) (rX5_obey (0) (sX0_record t (0)) a1 a2 a3 ((sX0_record t (0)) (0) 5).toNatClampNeg) ) dX6_carryOut_22 rfl gX6_carryOut_X6_kept hyX6_kept rfl (by decide) (by decide) hO.h0 rfl hO.e0 rfl rfl rfl (Nat.le_of_ble_eq_true rfl) ?_
  exact z_iret C 25 hA hQ rfl dX6_carryOut_25 ⟨rfl, rfl⟩
def rX6_house (t : zM) (a1 : Int32) (a2 : Int32) : Int32 := (rX6_carryOut t 104 a1 a2)
def sX6_house (t : zM) (a1 : Int32) (a2 : Int32) : zM := (sX6_carryOut t 104 a1 a2)
theorem hyX6_house : yX6_house.cls = RX6 ∧ yX6_house.cls ≠ "java/lang/invoke/MethodHandle" ∧ yX6_house.cls ≠ "java/lang/invoke/VarHandle" ∧ (parseMethodDescriptor yX6_house.desc).map (fun d => d.parameters.length) = some 2 := by decide +kernel
set_option maxHeartbeats 3000000 in
set_option maxRecDepth 100000 in
theorem kX6_house (l : Launch) (D : va_G) (cy : Nat → ClassId) (K : zK) (n : Nat) (ad : Nat → Nat) (hJ : zJ n ad) (hO : zTop cy K n ad) (t : zM) (a1 : Int32) (a2 : Int32) (hG : zGd t) : zI l yX6_house wsX6_house 6 D cy K n ad t [.ref (ad (270)), .int a1, .int a2] (fun r t1 => r = rX6_house t a1 a2 ∧ t1 = sX6_house t a1 a2) := by
  refine z_startI (cc := cX6_house) (mL := 3) (ret := (some .int)) (own := RX6) rfl (by decide +kernel) rfl hJ (Nat.le_of_ble_eq_true rfl) ?_
  intro p e s m args below meth c A hA Q hQ C
  refine z_aload_n C 0 0 0 dX6_house_0 rfl rfl ?_
  refine z_bipush C 1 (v := 104) dX6_house_1 (by decide +kernel) ?_
  refine z_iload_n C 3 1 1 dX6_house_3 rfl rfl ?_
  refine z_iload_n C 4 2 2 dX6_house_4 rfl rfl ?_
  refine z_virtIe C 5 (As := [.int 104, .int a1, .int a2]) (st := []) (id := 270) (kX6_carryOut l D cy K n ad hJ hO t 104 a1 a2 hG) dX6_house_5 rfl gX6_house_X6_carryOut hyX6_carryOut rfl (by decide) (by decide) hO.h0 rfl hO.e0 rfl rfl rfl (Nat.le_of_ble_eq_true rfl) ?_
  exact z_iret C 8 hA hQ rfl dX6_house_8 ⟨rfl, rfl⟩
def rX6_flow (t : zM) (a1 : Int32) (a2 : Int32) : Int32 := (rX6_carryOut t 102 a1 a2)
def sX6_flow (t : zM) (a1 : Int32) (a2 : Int32) : zM := (sX6_carryOut t 102 a1 a2)
theorem hyX6_flow : yX6_flow.cls = RX6 ∧ yX6_flow.cls ≠ "java/lang/invoke/MethodHandle" ∧ yX6_flow.cls ≠ "java/lang/invoke/VarHandle" ∧ (parseMethodDescriptor yX6_flow.desc).map (fun d => d.parameters.length) = some 2 := by decide +kernel
set_option maxHeartbeats 3000000 in
set_option maxRecDepth 100000 in
theorem kX6_flow (l : Launch) (D : va_G) (cy : Nat → ClassId) (K : zK) (n : Nat) (ad : Nat → Nat) (hJ : zJ n ad) (hO : zTop cy K n ad) (t : zM) (a1 : Int32) (a2 : Int32) (hG : zGd t) : zI l yX6_flow wsX6_flow 6 D cy K n ad t [.ref (ad (270)), .int a1, .int a2] (fun r t1 => r = rX6_flow t a1 a2 ∧ t1 = sX6_flow t a1 a2) := by
  refine z_startI (cc := cX6_flow) (mL := 3) (ret := (some .int)) (own := RX6) rfl (by decide +kernel) rfl hJ (Nat.le_of_ble_eq_true rfl) ?_
  intro p e s m args below meth c A hA Q hQ C
  refine z_aload_n C 0 0 0 dX6_flow_0 rfl rfl ?_
  refine z_bipush C 1 (v := 102) dX6_flow_1 (by decide +kernel) ?_
  refine z_iload_n C 3 1 1 dX6_flow_3 rfl rfl ?_
  refine z_iload_n C 4 2 2 dX6_flow_4 rfl rfl ?_
  refine z_virtIe C 5 (As := [.int 102, .int a1, .int a2]) (st := []) (id := 270) (kX6_carryOut l D cy K n ad hJ hO t 102 a1 a2 hG) dX6_flow_5 rfl gX6_flow_X6_carryOut hyX6_carryOut rfl (by decide) (by decide) hO.h0 rfl hO.e0 rfl rfl rfl (Nat.le_of_ble_eq_true rfl) ?_
  exact z_iret C 8 hA hQ rfl dX6_flow_8 ⟨rfl, rfl⟩
def rX6_read (t : zM) (a1 : Int32) : Int32 := (rX6_carryOut t 114 a1 0)
def sX6_read (t : zM) (a1 : Int32) : zM := (sX6_carryOut t 114 a1 0)
theorem hyX6_read : yX6_read.cls = RX6 ∧ yX6_read.cls ≠ "java/lang/invoke/MethodHandle" ∧ yX6_read.cls ≠ "java/lang/invoke/VarHandle" ∧ (parseMethodDescriptor yX6_read.desc).map (fun d => d.parameters.length) = some 1 := by decide +kernel
set_option maxHeartbeats 3000000 in
set_option maxRecDepth 100000 in
theorem kX6_read (l : Launch) (D : va_G) (cy : Nat → ClassId) (K : zK) (n : Nat) (ad : Nat → Nat) (hJ : zJ n ad) (hO : zTop cy K n ad) (t : zM) (a1 : Int32) (hG : zGd t) : zI l yX6_read wsX6_read 6 D cy K n ad t [.ref (ad (270)), .int a1] (fun r t1 => r = rX6_read t a1 ∧ t1 = sX6_read t a1) := by
  refine z_startI (cc := cX6_read) (mL := 2) (ret := (some .int)) (own := RX6) rfl (by decide +kernel) rfl hJ (Nat.le_of_ble_eq_true rfl) ?_
  intro p e s m args below meth c A hA Q hQ C
  refine z_aload_n C 0 0 0 dX6_read_0 rfl rfl ?_
  refine z_bipush C 1 (v := 114) dX6_read_1 (by decide +kernel) ?_
  refine z_iload_n C 3 1 1 dX6_read_3 rfl rfl ?_
  refine z_iconst C 4 (v := 0) dX6_read_4 (by decide +kernel) ?_
  refine z_virtIe C 5 (As := [.int 114, .int a1, .int 0]) (st := []) (id := 270) (kX6_carryOut l D cy K n ad hJ hO t 114 a1 0 hG) dX6_read_5 rfl gX6_read_X6_carryOut hyX6_carryOut rfl (by decide) (by decide) hO.h0 rfl hO.e0 rfl rfl rfl (Nat.le_of_ble_eq_true rfl) ?_
  exact z_iret C 8 hA hQ rfl dX6_read_8 ⟨rfl, rfl⟩
def rX6_change (t : zM) (a1 : Int32) : Int32 := (rX6_carryOut t 99 a1 0)
def sX6_change (t : zM) (a1 : Int32) : zM := (sX6_carryOut t 99 a1 0)
theorem hyX6_change : yX6_change.cls = RX6 ∧ yX6_change.cls ≠ "java/lang/invoke/MethodHandle" ∧ yX6_change.cls ≠ "java/lang/invoke/VarHandle" ∧ (parseMethodDescriptor yX6_change.desc).map (fun d => d.parameters.length) = some 1 := by decide +kernel
set_option maxHeartbeats 3000000 in
set_option maxRecDepth 100000 in
theorem kX6_change (l : Launch) (D : va_G) (cy : Nat → ClassId) (K : zK) (n : Nat) (ad : Nat → Nat) (hJ : zJ n ad) (hO : zTop cy K n ad) (t : zM) (a1 : Int32) (hG : zGd t) : zI l yX6_change wsX6_change 6 D cy K n ad t [.ref (ad (270)), .int a1] (fun r t1 => r = rX6_change t a1 ∧ t1 = sX6_change t a1) := by
  refine z_startI (cc := cX6_change) (mL := 2) (ret := (some .int)) (own := RX6) rfl (by decide +kernel) rfl hJ (Nat.le_of_ble_eq_true rfl) ?_
  intro p e s m args below meth c A hA Q hQ C
  refine z_aload_n C 0 0 0 dX6_change_0 rfl rfl ?_
  refine z_bipush C 1 (v := 99) dX6_change_1 (by decide +kernel) ?_
  refine z_iload_n C 3 1 1 dX6_change_3 rfl rfl ?_
  refine z_iconst C 4 (v := 0) dX6_change_4 (by decide +kernel) ?_
  refine z_virtIe C 5 (As := [.int 99, .int a1, .int 0]) (st := []) (id := 270) (kX6_carryOut l D cy K n ad hJ hO t 99 a1 0 hG) dX6_change_5 rfl gX6_change_X6_carryOut hyX6_carryOut rfl (by decide) (by decide) hO.h0 rfl hO.e0 rfl rfl rfl (Nat.le_of_ble_eq_true rfl) ?_
  exact z_iret C 8 hA hQ rfl dX6_change_8 ⟨rfl, rfl⟩
def rX6_days (t : zM) (a1 : Int32) : Int32 := (rX6_carryOut t 100 a1 0)
def sX6_days (t : zM) (a1 : Int32) : zM := (sX6_carryOut t 100 a1 0)
theorem hyX6_days : yX6_days.cls = RX6 ∧ yX6_days.cls ≠ "java/lang/invoke/MethodHandle" ∧ yX6_days.cls ≠ "java/lang/invoke/VarHandle" ∧ (parseMethodDescriptor yX6_days.desc).map (fun d => d.parameters.length) = some 1 := by decide +kernel
set_option maxHeartbeats 3000000 in
set_option maxRecDepth 100000 in
theorem kX6_days (l : Launch) (D : va_G) (cy : Nat → ClassId) (K : zK) (n : Nat) (ad : Nat → Nat) (hJ : zJ n ad) (hO : zTop cy K n ad) (t : zM) (a1 : Int32) (hG : zGd t) : zI l yX6_days wsX6_days 6 D cy K n ad t [.ref (ad (270)), .int a1] (fun r t1 => r = rX6_days t a1 ∧ t1 = sX6_days t a1) := by
  refine z_startI (cc := cX6_days) (mL := 2) (ret := (some .int)) (own := RX6) rfl (by decide +kernel) rfl hJ (Nat.le_of_ble_eq_true rfl) ?_
  intro p e s m args below meth c A hA Q hQ C
  refine z_aload_n C 0 0 0 dX6_days_0 rfl rfl ?_
  refine z_bipush C 1 (v := 100) dX6_days_1 (by decide +kernel) ?_
  refine z_iload_n C 3 1 1 dX6_days_3 rfl rfl ?_
  refine z_iconst C 4 (v := 0) dX6_days_4 (by decide +kernel) ?_
  refine z_virtIe C 5 (As := [.int 100, .int a1, .int 0]) (st := []) (id := 270) (kX6_carryOut l D cy K n ad hJ hO t 100 a1 0 hG) dX6_days_5 rfl gX6_days_X6_carryOut hyX6_carryOut rfl (by decide) (by decide) hO.h0 rfl hO.e0 rfl rfl rfl (Nat.le_of_ble_eq_true rfl) ?_
  exact z_iret C 8 hA hQ rfl dX6_days_8 ⟨rfl, rfl⟩
def rX6_lock (t : zM) (a1 : Int32) (a2 : Int32) : Int32 := (rX6_kept (sX5_putLock (0) (sX0_record t (0)) a1 a2) (rX5_putLock (0) (sX0_record t (0)) a1 a2))
def sX6_lock (t : zM) (a1 : Int32) (a2 : Int32) : zM := (sX6_kept (sX5_putLock (0) (sX0_record t (0)) a1 a2) (rX5_putLock (0) (sX0_record t (0)) a1 a2))
theorem mX6_lock_f22 : Cond.fieldLink RX6 22 "WrongedMeters" "history" "LWrongedMeters$History;" ∈ wsX6_lock := by decide +kernel
set_option maxRecDepth 20000 in
theorem mX6_lock_in6 : ∀ w ∈ u_ws RX6 TX6 4, w ∈ wsX6_lock := by decide +kernel
theorem mX6_lock_f10 : Cond.fieldLink RX6 10 "WrongedMeters" "town" "LWrongedMeters$Town;" ∈ wsX6_lock := by decide +kernel
theorem hyX6_lock : yX6_lock.cls = RX6 ∧ yX6_lock.cls ≠ "java/lang/invoke/MethodHandle" ∧ yX6_lock.cls ≠ "java/lang/invoke/VarHandle" ∧ (parseMethodDescriptor yX6_lock.desc).map (fun d => d.parameters.length) = some 2 := by decide +kernel
set_option maxHeartbeats 3000000 in
set_option maxRecDepth 100000 in
theorem kX6_lock (l : Launch) (D : va_G) (cy : Nat → ClassId) (K : zK) (n : Nat) (ad : Nat → Nat) (hJ : zJ n ad) (hO : zTop cy K n ad) (t : zM) (a1 : Int32) (a2 : Int32) (hG : zGd t) (hb2 : a2 = 0 ∨ a2 = 1) : zI l yX6_lock wsX6_lock 4 D cy K n ad t [.ref (ad (270)), .int a1, .int a2] (fun r t1 => r = rX6_lock t a1 a2 ∧ t1 = sX6_lock t a1 a2) := by
  refine z_startI (cc := cX6_lock) (mL := 3) (ret := (some .int)) (own := RX6) rfl (by decide +kernel) rfl hJ (Nat.le_of_ble_eq_true rfl) ?_
  intro p e s m args below meth c A hA Q hQ C
  refine z_aload_n C 0 0 0 dX6_lock_0 rfl rfl ?_
  refine z_getr C 1 (a9 := ad (266)) (270) 2 dX6_lock_1 hO.h0 hO.e0 mX6_lock_in6 rfl (by decide) mX6_lock_f22 (fun _ => rfl) ?_
  refine z_aload_n C 4 0 0 dX6_lock_4 rfl rfl ?_
  refine z_getr C 5 (a9 := ad (0)) (270) 0 dX6_lock_5 hO.h0 hO.e0 mX6_lock_in6 rfl (by decide) mX6_lock_f10 (fun _ => rfl) ?_
  refine z_virtVe C 8 (As := [.ref (ad (0))]) (st := []) (id := 266) (kX0_record l D cy K n ad hJ hO.hi t (0) hO.tn (by decide) hG.fs hG.bits) dX6_lock_8 rfl gX6_lock_X0_record hyX0_record rfl (by decide) (by decide) hO.hi.h0 rfl hO.hi.e0 rfl rfl rfl (Nat.le_of_ble_eq_true rfl) ?_
  refine z_aload_n C 11 0 0 dX6_lock_11 rfl rfl ?_
  refine z_aload_n C 12 0 0 dX6_lock_12 rfl rfl ?_
  refine z_getr C 13 (a9 := ad (0)) (270) 0 dX6_lock_13 hO.h0 hO.e0 mX6_lock_in6 rfl (by decide) mX6_lock_f10 (fun _ => rfl) ?_
  refine z_iload_n C 16 1 1 dX6_lock_16 rfl rfl ?_
  refine z_iload_n C 17 2 2 dX6_lock_17 rfl rfl ?_
  refine z_virtIe C 18 (As := [.int a1, .int a2]) (st := [.ref (ad (270))]) (id := 0) (kX5_putLock l D cy K n ad hJ (0) hO.tn (sX0_record t (0)) a1 a2 hb2) dX6_lock_18 rfl gX6_lock_X5_putLock hyX5_putLock rfl (by decide) (by decide) hO.tn.h0 rfl hO.tn.e0 rfl rfl rfl (Nat.le_of_ble_eq_true rfl) ?_
  refine z_virtIe C 21 (As := [.int (rX5_putLock (0) (sX0_record t (0)) a1 a2)]) (st := []) (id := 270) (kX6_kept l D cy K n ad hJ hO (sX5_putLock (0) (sX0_record t (0)) a1 a2) (rX5_putLock (0) (sX0_record t (0)) a1 a2) ) dX6_lock_21 rfl gX6_lock_X6_kept hyX6_kept rfl (by decide) (by decide) hO.h0 rfl hO.e0 rfl rfl rfl (Nat.le_of_ble_eq_true rfl) ?_
  exact z_iret C 24 hA hQ rfl dX6_lock_24 ⟨rfl, rfl⟩
def rX6_houseOf (t : zM) (a1 : Int32) (a2 : Int32) : Int32 := (if zin (t (0) 4) a1 then (rX1_fact (0 + 2 + a1.toNatClampNeg) t a2) else (-1000001))
theorem mX6_houseOf_f10 : Cond.fieldLink RX6 10 "WrongedMeters" "town" "LWrongedMeters$Town;" ∈ wsX6_houseOf := by decide +kernel
set_option maxRecDepth 20000 in
theorem mX6_houseOf_in6 : ∀ w ∈ u_ws RX6 TX6 4, w ∈ wsX6_houseOf := by decide +kernel
theorem mX6_houseOf_c57 : Cond.constant RX6 57 (-1000001) ∈ wsX6_houseOf := by decide +kernel
theorem hyX6_houseOf : yX6_houseOf.cls = RX6 ∧ yX6_houseOf.cls ≠ "java/lang/invoke/MethodHandle" ∧ yX6_houseOf.cls ≠ "java/lang/invoke/VarHandle" ∧ (parseMethodDescriptor yX6_houseOf.desc).map (fun d => d.parameters.length) = some 2 := by decide +kernel
set_option maxHeartbeats 3000000 in
set_option maxRecDepth 100000 in
theorem kX6_houseOf (l : Launch) (D : va_G) (cy : Nat → ClassId) (K : zK) (n : Nat) (ad : Nat → Nat) (hJ : zJ n ad) (hO : zTop cy K n ad) (t : zM) (a1 : Int32) (a2 : Int32) (hG : zGd t) : zI l yX6_houseOf wsX6_houseOf 2 D cy K n ad t [.ref (ad (270)), .int a1, .int a2] (fun r t1 => r = rX6_houseOf t a1 a2 ∧ t1 = t) := by
  refine z_startI (cc := cX6_houseOf) (mL := 4) (ret := (some .int)) (own := RX6) rfl (by decide +kernel) rfl hJ (Nat.le_of_ble_eq_true rfl) ?_
  intro p e s m args below meth c A hA Q hQ C
  refine z_aload_n C 0 0 0 dX6_houseOf_0 rfl rfl ?_
  refine z_getr C 1 (a9 := ad (0)) (270) 0 dX6_houseOf_1 hO.h0 hO.e0 mX6_houseOf_in6 rfl (by decide) mX6_houseOf_f10 (fun _ => rfl) ?_
  refine z_iload_n C 4 1 1 dX6_houseOf_4 rfl rfl ?_
  refine z_virtQ C 5 (As := [.int a1]) (st := []) (id := 0) (kX5_houseNumbered l D cy K n ad hJ (0) hO.tn t a1 ) dX6_houseOf_5 rfl gX6_houseOf_X5_houseNumbered hyX5_houseNumbered rfl (by decide) (by decide) hO.tn.h0 rfl hO.tn.e0 rfl rfl rfl (Nat.le_of_ble_eq_true rfl) (fun r5_1 t5_1 h5_1 => ?_)
  obtain ⟨e9, e8⟩ := h5_1; replace e9 := e9.symm; replace e8 := e8.symm; subst e9; subst e8
  by_cases c5_2 : zin (t (0) 4) a1
  · have hkc5_2 := zin_lt c5_2
    refine z_cast (st2 := [.ref (ad (0 + 2 + a1.toNatClampNeg))]) (by rw [if_pos c5_2]; rfl) ?_
    refine z_astore_n C 8 3 ([(3, .ref (ad (0 + 2 + a1.toNatClampNeg))), (0, .ref (ad (270))), (1, .int a1), (2, .int a2)]) dX6_houseOf_8 rfl (by decide) rfl ?_
    refine z_aload_n C 9 3 0 dX6_houseOf_9 rfl rfl ?_
    refine z_ifnonnull C 10 18 dX6_houseOf_10 (by decide) ?_
    refine z_aload_n C 18 3 0 dX6_houseOf_18 rfl rfl ?_
    refine z_iload_n C 19 2 3 dX6_houseOf_19 rfl rfl ?_
    refine z_virtIe C 20 (As := [.int a2]) (st := []) (id := 0 + 2 + a1.toNatClampNeg) (kX1_fact l D cy K n ad hJ (0 + 2 + a1.toNatClampNeg) (hO.tn.hou hkc5_2) t a2 ) dX6_houseOf_20 rfl gX6_houseOf_X1_fact hyX1_fact rfl (by decide) (by decide) (hO.tn.hou hkc5_2).1 rfl (hO.tn.hou hkc5_2).2 rfl rfl rfl (Nat.le_of_ble_eq_true rfl) ?_
    exact z_iret C 23 hA hQ rfl dX6_houseOf_23 ⟨((if_pos c5_2).trans rfl).symm, rfl⟩
  · refine z_cast (st2 := [.null]) (by rw [if_neg c5_2]; rfl) ?_
    refine z_astore_nN C 8 3 ([(3, .null), (0, .ref (ad (270))), (1, .int a1), (2, .int a2)]) dX6_houseOf_8 rfl (by decide) rfl ?_
    refine z_aload_nN C 9 3 0 dX6_houseOf_9 rfl rfl ?_
    refine z_ifnonnullN C 10 dX6_houseOf_10 ?_
    refine z_ldc C 13 (v := (-1000001)) dX6_houseOf_13 mX6_houseOf_c57 ?_
    refine z_goto C 15 23 dX6_houseOf_15 (by decide) ?_
    exact z_iret C 23 hA hQ rfl dX6_houseOf_23 ⟨((if_neg c5_2).trans rfl).symm, rfl⟩
def rX6_at (t : zM) (a1 : Int32) (a2 : Int32) : Int32 := (if zis a1 then (if (rX6_isPlace a2) = 0 then (-1000001) else (if (rX4_houseOn (0 + 27 + 2 * a1.toNatClampNeg) t (rX6_stepOf a2)) = (-1) then (-1000004) else (rX4_houseOn (0 + 27 + 2 * a1.toNatClampNeg) t (rX6_stepOf a2)))) else (-1000001))
theorem mX6_at_f10 : Cond.fieldLink RX6 10 "WrongedMeters" "town" "LWrongedMeters$Town;" ∈ wsX6_at := by decide +kernel
set_option maxRecDepth 20000 in
theorem mX6_at_in6 : ∀ w ∈ u_ws RX6 TX6 4, w ∈ wsX6_at := by decide +kernel
theorem mX6_at_c79 : Cond.constant RX6 79 (-1000004) ∈ wsX6_at := by decide +kernel
theorem mX6_at_c57 : Cond.constant RX6 57 (-1000001) ∈ wsX6_at := by decide +kernel
theorem hyX6_at : yX6_at.cls = RX6 ∧ yX6_at.cls ≠ "java/lang/invoke/MethodHandle" ∧ yX6_at.cls ≠ "java/lang/invoke/VarHandle" ∧ (parseMethodDescriptor yX6_at.desc).map (fun d => d.parameters.length) = some 2 := by decide +kernel
set_option maxHeartbeats 3000000 in
set_option maxRecDepth 100000 in
theorem kX6_at (l : Launch) (D : va_G) (cy : Nat → ClassId) (K : zK) (n : Nat) (ad : Nat → Nat) (hJ : zJ n ad) (hO : zTop cy K n ad) (t : zM) (a1 : Int32) (a2 : Int32) (hG : zGd t) : zI l yX6_at wsX6_at 1 D cy K n ad t [.ref (ad (270)), .int a1, .int a2] (fun r t1 => r = rX6_at t a1 a2 ∧ t1 = t) := by
  refine z_startI (cc := cX6_at) (mL := 5) (ret := (some .int)) (own := RX6) rfl (by decide +kernel) rfl hJ (Nat.le_of_ble_eq_true rfl) ?_
  intro p e s m args below meth c A hA Q hQ C
  refine z_aload_n C 0 0 0 dX6_at_0 rfl rfl ?_
  refine z_getr C 1 (a9 := ad (0)) (270) 0 dX6_at_1 hO.h0 hO.e0 mX6_at_in6 rfl (by decide) mX6_at_f10 (fun _ => rfl) ?_
  refine z_iload_n C 4 1 1 dX6_at_4 rfl rfl ?_
  refine z_virtQ C 5 (As := [.int a1]) (st := []) (id := 0) (kX5_streetNumbered l D cy K n ad hJ (0) hO.tn t a1 ) dX6_at_5 rfl gX6_at_X5_streetNumbered hyX5_streetNumbered rfl (by decide) (by decide) hO.tn.h0 rfl hO.tn.e0 rfl rfl rfl (Nat.le_of_ble_eq_true rfl) (fun r5_1 t5_1 h5_1 => ?_)
  obtain ⟨e9, e8⟩ := h5_1; replace e9 := e9.symm; replace e8 := e8.symm; subst e9; subst e8
  by_cases c5_2 : zis a1
  · have hkc5_2 := zis_lt c5_2
    refine z_cast (st2 := [.ref (ad (0 + 27 + 2 * a1.toNatClampNeg))]) (by rw [if_pos c5_2]; rfl) ?_
    refine z_astore_n C 8 3 ([(3, .ref (ad (0 + 27 + 2 * a1.toNatClampNeg))), (0, .ref (ad (270))), (1, .int a1), (2, .int a2)]) dX6_at_8 rfl (by decide) rfl ?_
    refine z_aload_n C 9 3 0 dX6_at_9 rfl rfl ?_
    refine z_ifnull C 10 dX6_at_10 ?_
    refine z_iload_n C 13 2 3 dX6_at_13 rfl rfl ?_
    refine z_statIe C 14 (As := [.int a2]) (st := []) (kX6_isPlace l D cy K n ad hJ t a2 ) dX6_at_14 rfl gX6_at_X6_isPlace hyX6_isPlace rfl (by decide) (by decide) rfl rfl (Nat.le_of_ble_eq_true rfl) ?_
    refine z_if_ne C 17 23 dX6_at_17 (by decide) (fun c17_4 => ?_) (fun c17_4 => ?_)
    · refine z_aload_n C 23 3 0 dX6_at_23 rfl rfl ?_
      refine z_iload_n C 24 2 3 dX6_at_24 rfl rfl ?_
      refine z_statIe C 25 (As := [.int a2]) (st := [.ref (ad (0 + 27 + 2 * a1.toNatClampNeg))]) (kX6_stepOf l D cy K n ad hJ t a2 ) dX6_at_25 rfl gX6_at_X6_stepOf hyX6_stepOf rfl (by decide) (by decide) rfl rfl (Nat.le_of_ble_eq_true rfl) ?_
      refine z_virtIe C 28 (As := [.int (rX6_stepOf a2)]) (st := []) (id := 0 + 27 + 2 * a1.toNatClampNeg) (kX4_houseOn l D cy K n ad hJ (0 + 27 + 2 * a1.toNatClampNeg) (hO.tn.str hkc5_2) t (rX6_stepOf a2) ) dX6_at_28 rfl gX6_at_X4_houseOn hyX4_houseOn rfl (by decide) (by decide) (Nat.lt_of_succ_lt (hO.tn.str hkc5_2).1) rfl (hO.tn.str hkc5_2).2.1 rfl rfl rfl (Nat.le_of_ble_eq_true rfl) ?_
      refine z_istore C 31 4 ([(4, .int (rX4_houseOn (0 + 27 + 2 * a1.toNatClampNeg) t (rX6_stepOf a2))), (3, .ref (ad (0 + 27 + 2 * a1.toNatClampNeg))), (0, .ref (ad (270))), (1, .int a1), (2, .int a2)]) dX6_at_31 (by decide) rfl ?_
      refine z_iload C 33 4 0 dX6_at_33 rfl ?_
      refine z_iconst C 35 (v := (-1)) dX6_at_35 (by decide +kernel) ?_
      refine z_icmp_ne C 36 44 dX6_at_36 (by decide) (fun c36_7 => ?_) (fun c36_7 => ?_)
      · refine z_iload C 44 4 0 dX6_at_44 rfl ?_
        exact z_iret C 46 hA hQ rfl dX6_at_46 ⟨((if_pos c5_2).trans ((if_neg c17_4).trans ((if_neg c36_7).trans rfl))).symm, rfl⟩
      · refine z_ldc C 39 (v := (-1000004)) dX6_at_39 mX6_at_c79 ?_
        refine z_goto C 41 46 dX6_at_41 (by decide) ?_
        exact z_iret C 46 hA hQ rfl dX6_at_46 ⟨((if_pos c5_2).trans ((if_neg c17_4).trans ((if_pos c36_7).trans rfl))).symm, rfl⟩
    · refine z_ldc C 20 (v := (-1000001)) dX6_at_20 mX6_at_c57 ?_
      exact z_iret C 22 hA hQ rfl dX6_at_22 ⟨((if_pos c5_2).trans ((if_pos c17_4).trans rfl)).symm, rfl⟩
  · refine z_cast (st2 := [.null]) (by rw [if_neg c5_2]; rfl) ?_
    refine z_astore_nN C 8 3 ([(3, .null), (0, .ref (ad (270))), (1, .int a1), (2, .int a2)]) dX6_at_8 rfl (by decide) rfl ?_
    refine z_aload_nN C 9 3 0 dX6_at_9 rfl rfl ?_
    refine z_ifnullN C 10 20 dX6_at_10 (by decide) ?_
    refine z_ldc C 20 (v := (-1000001)) dX6_at_20 mX6_at_c57 ?_
    exact z_iret C 22 hA hQ rfl dX6_at_22 ⟨((if_neg c5_2).trans rfl).symm, rfl⟩
def rX6_next (t : zM) (a1 : Int32) (a2 : Int32) : Int32 := (if zis a1 then (if 0 ≤ a2 then (rX4_houseRanked (0 + 27 + 2 * a1.toNatClampNeg) t a2) else (-1000001)) else (-1000001))
theorem mX6_next_f10 : Cond.fieldLink RX6 10 "WrongedMeters" "town" "LWrongedMeters$Town;" ∈ wsX6_next := by decide +kernel
set_option maxRecDepth 20000 in
theorem mX6_next_in6 : ∀ w ∈ u_ws RX6 TX6 4, w ∈ wsX6_next := by decide +kernel
theorem mX6_next_c57 : Cond.constant RX6 57 (-1000001) ∈ wsX6_next := by decide +kernel
theorem hyX6_next : yX6_next.cls = RX6 ∧ yX6_next.cls ≠ "java/lang/invoke/MethodHandle" ∧ yX6_next.cls ≠ "java/lang/invoke/VarHandle" ∧ (parseMethodDescriptor yX6_next.desc).map (fun d => d.parameters.length) = some 2 := by decide +kernel
set_option maxHeartbeats 3000000 in
set_option maxRecDepth 100000 in
theorem kX6_next (l : Launch) (D : va_G) (cy : Nat → ClassId) (K : zK) (n : Nat) (ad : Nat → Nat) (hJ : zJ n ad) (hO : zTop cy K n ad) (t : zM) (a1 : Int32) (a2 : Int32) (hG : zGd t) : zI l yX6_next wsX6_next 2 D cy K n ad t [.ref (ad (270)), .int a1, .int a2] (fun r t1 => r = rX6_next t a1 a2 ∧ t1 = t) := by
  refine z_startI (cc := cX6_next) (mL := 4) (ret := (some .int)) (own := RX6) rfl (by decide +kernel) rfl hJ (Nat.le_of_ble_eq_true rfl) ?_
  intro p e s m args below meth c A hA Q hQ C
  refine z_aload_n C 0 0 0 dX6_next_0 rfl rfl ?_
  refine z_getr C 1 (a9 := ad (0)) (270) 0 dX6_next_1 hO.h0 hO.e0 mX6_next_in6 rfl (by decide) mX6_next_f10 (fun _ => rfl) ?_
  refine z_iload_n C 4 1 1 dX6_next_4 rfl rfl ?_
  refine z_virtQ C 5 (As := [.int a1]) (st := []) (id := 0) (kX5_streetNumbered l D cy K n ad hJ (0) hO.tn t a1 ) dX6_next_5 rfl gX6_next_X5_streetNumbered hyX5_streetNumbered rfl (by decide) (by decide) hO.tn.h0 rfl hO.tn.e0 rfl rfl rfl (Nat.le_of_ble_eq_true rfl) (fun r5_1 t5_1 h5_1 => ?_)
  obtain ⟨e9, e8⟩ := h5_1; replace e9 := e9.symm; replace e8 := e8.symm; subst e9; subst e8
  by_cases c5_2 : zis a1
  · have hkc5_2 := zis_lt c5_2
    refine z_cast (st2 := [.ref (ad (0 + 27 + 2 * a1.toNatClampNeg))]) (by rw [if_pos c5_2]; rfl) ?_
    refine z_astore_n C 8 3 ([(3, .ref (ad (0 + 27 + 2 * a1.toNatClampNeg))), (0, .ref (ad (270))), (1, .int a1), (2, .int a2)]) dX6_next_8 rfl (by decide) rfl ?_
    refine z_aload_n C 9 3 0 dX6_next_9 rfl rfl ?_
    refine z_ifnull C 10 dX6_next_10 ?_
    refine z_iload_n C 13 2 3 dX6_next_13 rfl rfl ?_
    refine z_if_ge C 14 20 dX6_next_14 (by decide) (fun c14_3 => ?_) (fun c14_3 => ?_)
    · refine z_aload_n C 20 3 0 dX6_next_20 rfl rfl ?_
      refine z_iload_n C 21 2 3 dX6_next_21 rfl rfl ?_
      refine z_virtIe C 22 (As := [.int a2]) (st := []) (id := 0 + 27 + 2 * a1.toNatClampNeg) (kX4_houseRanked l D cy K n ad hJ (0 + 27 + 2 * a1.toNatClampNeg) (hO.tn.str hkc5_2) t a2 ) dX6_next_22 rfl gX6_next_X4_houseRanked hyX4_houseRanked rfl (by decide) (by decide) (Nat.lt_of_succ_lt (hO.tn.str hkc5_2).1) rfl (hO.tn.str hkc5_2).2.1 rfl rfl rfl (Nat.le_of_ble_eq_true rfl) ?_
      exact z_iret C 25 hA hQ rfl dX6_next_25 ⟨((if_pos c5_2).trans ((if_pos c14_3).trans rfl)).symm, rfl⟩
    · refine z_ldc C 17 (v := (-1000001)) dX6_next_17 mX6_next_c57 ?_
      exact z_iret C 19 hA hQ rfl dX6_next_19 ⟨((if_pos c5_2).trans ((if_neg c14_3).trans rfl)).symm, rfl⟩
  · refine z_cast (st2 := [.null]) (by rw [if_neg c5_2]; rfl) ?_
    refine z_astore_nN C 8 3 ([(3, .null), (0, .ref (ad (270))), (1, .int a1), (2, .int a2)]) dX6_next_8 rfl (by decide) rfl ?_
    refine z_aload_nN C 9 3 0 dX6_next_9 rfl rfl ?_
    refine z_ifnullN C 10 17 dX6_next_10 (by decide) ?_
    refine z_ldc C 17 (v := (-1000001)) dX6_next_17 mX6_next_c57 ?_
    exact z_iret C 19 hA hQ rfl dX6_next_19 ⟨((if_neg c5_2).trans rfl).symm, rfl⟩
def rX6_ledger (t : zM) (a1 : Int32) (a2 : Int32) : Int32 := (rX2_entry (0 + 35) t a1 a2)
theorem mX6_ledger_f10 : Cond.fieldLink RX6 10 "WrongedMeters" "town" "LWrongedMeters$Town;" ∈ wsX6_ledger := by decide +kernel
set_option maxRecDepth 20000 in
theorem mX6_ledger_in6 : ∀ w ∈ u_ws RX6 TX6 4, w ∈ wsX6_ledger := by decide +kernel
set_option maxRecDepth 20000 in
theorem mX6_ledger_in5 : ∀ w ∈ u_ws RX5 TX5 13, w ∈ wsX6_ledger := by decide +kernel
theorem hyX6_ledger : yX6_ledger.cls = RX6 ∧ yX6_ledger.cls ≠ "java/lang/invoke/MethodHandle" ∧ yX6_ledger.cls ≠ "java/lang/invoke/VarHandle" ∧ (parseMethodDescriptor yX6_ledger.desc).map (fun d => d.parameters.length) = some 2 := by decide +kernel
set_option maxHeartbeats 3000000 in
set_option maxRecDepth 100000 in
theorem kX6_ledger (l : Launch) (D : va_G) (cy : Nat → ClassId) (K : zK) (n : Nat) (ad : Nat → Nat) (hJ : zJ n ad) (hO : zTop cy K n ad) (t : zM) (a1 : Int32) (a2 : Int32) (hG : zGd t) : zI l yX6_ledger wsX6_ledger 1 D cy K n ad t [.ref (ad (270)), .int a1, .int a2] (fun r t1 => r = rX6_ledger t a1 a2 ∧ t1 = t) := by
  refine z_startI (cc := cX6_ledger) (mL := 3) (ret := (some .int)) (own := RX6) rfl (by decide +kernel) rfl hJ (Nat.le_of_ble_eq_true rfl) ?_
  intro p e s m args below meth c A hA Q hQ C
  refine z_aload_n C 0 0 0 dX6_ledger_0 rfl rfl ?_
  refine z_getr C 1 (a9 := ad (0)) (270) 0 dX6_ledger_1 hO.h0 hO.e0 mX6_ledger_in6 rfl (by decide) mX6_ledger_f10 (fun _ => rfl) ?_
  refine z_getrN C 4 (a9 := ad (0 + 35)) (0) 2 dX6_ledger_4 hO.tn.h0 hO.tn.e0 mX6_ledger_in5 rfl (by decide) nst_f6_83 (fun _ => rfl) ?_
  refine z_iload_n C 7 1 1 dX6_ledger_7 rfl rfl ?_
  refine z_iload_n C 8 2 2 dX6_ledger_8 rfl rfl ?_
  refine z_virtIe C 9 (As := [.int a1, .int a2]) (st := []) (id := 0 + 35) (kX2_entry l D cy K n ad hJ (0 + 35) hO.tn.led t (t (0 + 35) 1).toNatClampNeg (t (0 + 35) 2).toNatClampNeg a1 a2 hG.row.c.1 hG.row.c.2 hG.sz.c.1 hG.sz.c.2) dX6_ledger_9 rfl gX6_ledger_X2_entry hyX2_entry rfl (by decide) (by decide) (Nat.lt_of_succ_lt hO.tn.led.1) rfl hO.tn.led.2.1 rfl rfl rfl (Nat.le_of_ble_eq_true rfl) ?_
  exact z_iret C 12 hA hQ rfl dX6_ledger_12 ⟨rfl, rfl⟩
def rX6_why (t : zM) (a1 : Int32) : Int32 := (if zin (t (0) 4) a1 then (rX1_reasonOn (0 + 2 + a1.toNatClampNeg) t (t (0) 5)) else (-1000001))
theorem mX6_why_f10 : Cond.fieldLink RX6 10 "WrongedMeters" "town" "LWrongedMeters$Town;" ∈ wsX6_why := by decide +kernel
set_option maxRecDepth 20000 in
theorem mX6_why_in6 : ∀ w ∈ u_ws RX6 TX6 4, w ∈ wsX6_why := by decide +kernel
set_option maxRecDepth 20000 in
theorem mX6_why_in5 : ∀ w ∈ u_ws RX5 TX5 13, w ∈ wsX6_why := by decide +kernel
theorem mX6_why_c57 : Cond.constant RX6 57 (-1000001) ∈ wsX6_why := by decide +kernel
theorem hyX6_why : yX6_why.cls = RX6 ∧ yX6_why.cls ≠ "java/lang/invoke/MethodHandle" ∧ yX6_why.cls ≠ "java/lang/invoke/VarHandle" ∧ (parseMethodDescriptor yX6_why.desc).map (fun d => d.parameters.length) = some 1 := by decide +kernel
set_option maxHeartbeats 3000000 in
set_option maxRecDepth 100000 in
theorem kX6_why (l : Launch) (D : va_G) (cy : Nat → ClassId) (K : zK) (n : Nat) (ad : Nat → Nat) (hJ : zJ n ad) (hO : zTop cy K n ad) (t : zM) (a1 : Int32) (hG : zGd t) : zI l yX6_why wsX6_why 1 D cy K n ad t [.ref (ad (270)), .int a1] (fun r t1 => r = rX6_why t a1 ∧ t1 = t) := by
  refine z_startI (cc := cX6_why) (mL := 3) (ret := (some .int)) (own := RX6) rfl (by decide +kernel) rfl hJ (Nat.le_of_ble_eq_true rfl) ?_
  intro p e s m args below meth c A hA Q hQ C
  refine z_aload_n C 0 0 0 dX6_why_0 rfl rfl ?_
  refine z_getr C 1 (a9 := ad (0)) (270) 0 dX6_why_1 hO.h0 hO.e0 mX6_why_in6 rfl (by decide) mX6_why_f10 (fun _ => rfl) ?_
  refine z_iload_n C 4 1 1 dX6_why_4 rfl rfl ?_
  refine z_virtQ C 5 (As := [.int a1]) (st := []) (id := 0) (kX5_houseNumbered l D cy K n ad hJ (0) hO.tn t a1 ) dX6_why_5 rfl gX6_why_X5_houseNumbered hyX5_houseNumbered rfl (by decide) (by decide) hO.tn.h0 rfl hO.tn.e0 rfl rfl rfl (Nat.le_of_ble_eq_true rfl) (fun r5_1 t5_1 h5_1 => ?_)
  obtain ⟨e9, e8⟩ := h5_1; replace e9 := e9.symm; replace e8 := e8.symm; subst e9; subst e8
  by_cases c5_2 : zin (t (0) 4) a1
  · have hkc5_2 := zin_lt c5_2
    refine z_cast (st2 := [.ref (ad (0 + 2 + a1.toNatClampNeg))]) (by rw [if_pos c5_2]; rfl) ?_
    refine z_astore_n C 8 2 ([(2, .ref (ad (0 + 2 + a1.toNatClampNeg))), (0, .ref (ad (270))), (1, .int a1)]) dX6_why_8 rfl (by decide) rfl ?_
    refine z_aload_n C 9 2 0 dX6_why_9 rfl rfl ?_
    refine z_ifnonnull C 10 18 dX6_why_10 (by decide) ?_
    refine z_aload_n C 18 2 0 dX6_why_18 rfl rfl ?_
    refine z_aload_n C 19 0 1 dX6_why_19 rfl rfl ?_
    refine z_getr C 20 (a9 := ad (0)) (270) 0 dX6_why_20 hO.h0 hO.e0 mX6_why_in6 rfl (by decide) mX6_why_f10 (fun _ => rfl) ?_
    refine z_getiN C 23 (0) 5 dX6_why_23 hO.tn.h0 hO.tn.e0 mX6_why_in5 rfl (by decide) nst_f6_92 (fun _ => rfl) ?_
    refine z_virtIe C 26 (As := [.int (t (0) 5)]) (st := []) (id := 0 + 2 + a1.toNatClampNeg) (kX1_reasonOn l D cy K n ad hJ (0 + 2 + a1.toNatClampNeg) (hO.tn.hou hkc5_2) t (t (0) 5) ) dX6_why_26 rfl gX6_why_X1_reasonOn hyX1_reasonOn rfl (by decide) (by decide) (hO.tn.hou hkc5_2).1 rfl (hO.tn.hou hkc5_2).2 rfl rfl rfl (Nat.le_of_ble_eq_true rfl) ?_
    exact z_iret C 29 hA hQ rfl dX6_why_29 ⟨((if_pos c5_2).trans rfl).symm, rfl⟩
  · refine z_cast (st2 := [.null]) (by rw [if_neg c5_2]; rfl) ?_
    refine z_astore_nN C 8 2 ([(2, .null), (0, .ref (ad (270))), (1, .int a1)]) dX6_why_8 rfl (by decide) rfl ?_
    refine z_aload_nN C 9 2 0 dX6_why_9 rfl rfl ?_
    refine z_ifnonnullN C 10 dX6_why_10 ?_
    refine z_ldc C 13 (v := (-1000001)) dX6_why_13 mX6_why_c57 ?_
    refine z_goto C 15 29 dX6_why_15 (by decide) ?_
    exact z_iret C 29 hA hQ rfl dX6_why_29 ⟨((if_neg c5_2).trans rfl).symm, rfl⟩
def rX6_ifRead (t : zM) (a1 : Int32) (a2 : Int32) : Int32 := (if zin (t (0) 4) a1 then (if a2 = 0 then (rX6_unitsFor (rX1_used (0 + 2 + a1.toNatClampNeg) t) (t (0 + 2 + a1.toNatClampNeg) 6)) else (if a2 = 1 then (1000 + (((t (0 + 2 + a1.toNatClampNeg) 6) + (100 * (rX6_unitsFor (rX1_used (0 + 2 + a1.toNatClampNeg) t) (t (0 + 2 + a1.toNatClampNeg) 6)))) - (rX1_used (0 + 2 + a1.toNatClampNeg) t))) else (if a2 = 2 then (if (((t (0 + 2 + a1.toNatClampNeg) 6) + (100 * (rX6_unitsFor (rX1_used (0 + 2 + a1.toNatClampNeg) t) (t (0 + 2 + a1.toNatClampNeg) 6)))) - (rX1_used (0 + 2 + a1.toNatClampNeg) t)) ≤ 0 then (if 0 ≤ (((t (0 + 2 + a1.toNatClampNeg) 6) + (100 * (rX6_unitsFor (rX1_used (0 + 2 + a1.toNatClampNeg) t) (t (0 + 2 + a1.toNatClampNeg) 6)))) - (rX1_used (0 + 2 + a1.toNatClampNeg) t)) then 0 else 2) else 1) else (if a2 = 3 then ((rX6_unitsFor (rX1_used (0 + 2 + a1.toNatClampNeg) t) (t (0 + 2 + a1.toNatClampNeg) 6)) * (t (0 + 37) 1)) else (-1000001))))) else (-1000001))
theorem mX6_ifRead_f10 : Cond.fieldLink RX6 10 "WrongedMeters" "town" "LWrongedMeters$Town;" ∈ wsX6_ifRead := by decide +kernel
set_option maxRecDepth 20000 in
theorem mX6_ifRead_in6 : ∀ w ∈ u_ws RX6 TX6 4, w ∈ wsX6_ifRead := by decide +kernel
set_option maxRecDepth 20000 in
theorem mX6_ifRead_in1 : ∀ w ∈ u_ws RX1 TX1 14, w ∈ wsX6_ifRead := by decide +kernel
set_option maxRecDepth 20000 in
theorem mX6_ifRead_in5 : ∀ w ∈ u_ws RX5 TX5 13, w ∈ wsX6_ifRead := by decide +kernel
theorem mX6_ifRead_c57 : Cond.constant RX6 57 (-1000001) ∈ wsX6_ifRead := by decide +kernel
theorem hyX6_ifRead : yX6_ifRead.cls = RX6 ∧ yX6_ifRead.cls ≠ "java/lang/invoke/MethodHandle" ∧ yX6_ifRead.cls ≠ "java/lang/invoke/VarHandle" ∧ (parseMethodDescriptor yX6_ifRead.desc).map (fun d => d.parameters.length) = some 2 := by decide +kernel
set_option maxHeartbeats 3000000 in
set_option maxRecDepth 100000 in
theorem kX6_ifRead (l : Launch) (D : va_G) (cy : Nat → ClassId) (K : zK) (n : Nat) (ad : Nat → Nat) (hJ : zJ n ad) (hO : zTop cy K n ad) (t : zM) (a1 : Int32) (a2 : Int32) (hG : zGd t) : zI l yX6_ifRead wsX6_ifRead 1 D cy K n ad t [.ref (ad (270)), .int a1, .int a2] (fun r t1 => r = rX6_ifRead t a1 a2 ∧ t1 = t) := by
  refine z_startI (cc := cX6_ifRead) (mL := 7) (ret := (some .int)) (own := RX6) rfl (by decide +kernel) rfl hJ (Nat.le_of_ble_eq_true rfl) ?_
  intro p e s m args below meth c A hA Q hQ C
  refine z_aload_n C 0 0 0 dX6_ifRead_0 rfl rfl ?_
  refine z_getr C 1 (a9 := ad (0)) (270) 0 dX6_ifRead_1 hO.h0 hO.e0 mX6_ifRead_in6 rfl (by decide) mX6_ifRead_f10 (fun _ => rfl) ?_
  refine z_iload_n C 4 1 1 dX6_ifRead_4 rfl rfl ?_
  refine z_virtQ C 5 (As := [.int a1]) (st := []) (id := 0) (kX5_houseNumbered l D cy K n ad hJ (0) hO.tn t a1 ) dX6_ifRead_5 rfl gX6_ifRead_X5_houseNumbered hyX5_houseNumbered rfl (by decide) (by decide) hO.tn.h0 rfl hO.tn.e0 rfl rfl rfl (Nat.le_of_ble_eq_true rfl) (fun r5_1 t5_1 h5_1 => ?_)
  obtain ⟨e9, e8⟩ := h5_1; replace e9 := e9.symm; replace e8 := e8.symm; subst e9; subst e8
  by_cases c5_2 : zin (t (0) 4) a1
  · have hkc5_2 := zin_lt c5_2
    refine z_cast (st2 := [.ref (ad (0 + 2 + a1.toNatClampNeg))]) (by rw [if_pos c5_2]; rfl) ?_
    refine z_astore_n C 8 3 ([(3, .ref (ad (0 + 2 + a1.toNatClampNeg))), (0, .ref (ad (270))), (1, .int a1), (2, .int a2)]) dX6_ifRead_8 rfl (by decide) rfl ?_
    refine z_aload_n C 9 3 0 dX6_ifRead_9 rfl rfl ?_
    refine z_ifnonnull C 10 16 dX6_ifRead_10 (by decide) ?_
    refine z_aload_n C 16 3 0 dX6_ifRead_16 rfl rfl ?_
    refine z_virtIe C 17 (As := []) (st := []) (id := 0 + 2 + a1.toNatClampNeg) (kX1_used l D cy K n ad hJ (0 + 2 + a1.toNatClampNeg) (hO.tn.hou hkc5_2) t  ) dX6_ifRead_17 rfl gX6_ifRead_X1_used hyX1_used rfl (by decide) (by decide) (hO.tn.hou hkc5_2).1 rfl (hO.tn.hou hkc5_2).2 rfl rfl rfl (Nat.le_of_ble_eq_true rfl) ?_
    refine z_istore C 20 4 ([(4, .int (rX1_used (0 + 2 + a1.toNatClampNeg) t)), (3, .ref (ad (0 + 2 + a1.toNatClampNeg))), (0, .ref (ad (270))), (1, .int a1), (2, .int a2)]) dX6_ifRead_20 (by decide) rfl ?_
    refine z_iload C 22 4 0 dX6_ifRead_22 rfl ?_
    refine z_aload_n C 24 3 1 dX6_ifRead_24 rfl rfl ?_
    refine z_getiN C 25 (0 + 2 + a1.toNatClampNeg) 6 dX6_ifRead_25 (hO.tn.hou hkc5_2).1 (hO.tn.hou hkc5_2).2 mX6_ifRead_in1 rfl (by decide) nst_f6_103 (fun _ => rfl) ?_
    refine z_statIe C 28 (As := [.int (rX1_used (0 + 2 + a1.toNatClampNeg) t), .int (t (0 + 2 + a1.toNatClampNeg) 6)]) (st := []) (kX6_unitsFor l D cy K n ad hJ t (rX1_used (0 + 2 + a1.toNatClampNeg) t) (t (0 + 2 + a1.toNatClampNeg) 6) ) dX6_ifRead_28 rfl gX6_ifRead_X6_unitsFor hyX6_unitsFor rfl (by decide) (by decide) rfl rfl (Nat.le_of_ble_eq_true rfl) ?_
    refine z_istore C 31 5 ([(5, .int (rX6_unitsFor (rX1_used (0 + 2 + a1.toNatClampNeg) t) (t (0 + 2 + a1.toNatClampNeg) 6))), (4, .int (rX1_used (0 + 2 + a1.toNatClampNeg) t)), (3, .ref (ad (0 + 2 + a1.toNatClampNeg))), (0, .ref (ad (270))), (1, .int a1), (2, .int a2)]) dX6_ifRead_31 (by decide) rfl ?_
    refine z_aload_n C 33 3 2 dX6_ifRead_33 rfl rfl ?_
    refine z_getiN C 34 (0 + 2 + a1.toNatClampNeg) 6 dX6_ifRead_34 (hO.tn.hou hkc5_2).1 (hO.tn.hou hkc5_2).2 mX6_ifRead_in1 rfl (by decide) nst_f6_103 (fun _ => rfl) ?_
    refine z_bipush C 37 (v := 100) dX6_ifRead_37 (by decide +kernel) ?_
    refine z_iload C 39 5 0 dX6_ifRead_39 rfl ?_
    refine z_imul C 41 dX6_ifRead_41 ?_
    refine z_iadd C 42 dX6_ifRead_42 ?_
    refine z_iload C 43 4 1 dX6_ifRead_43 rfl ?_
    refine z_isub C 45 dX6_ifRead_45 ?_
    refine z_istore C 46 6 ([(6, .int (((t (0 + 2 + a1.toNatClampNeg) 6) + (100 * (rX6_unitsFor (rX1_used (0 + 2 + a1.toNatClampNeg) t) (t (0 + 2 + a1.toNatClampNeg) 6)))) - (rX1_used (0 + 2 + a1.toNatClampNeg) t))), (5, .int (rX6_unitsFor (rX1_used (0 + 2 + a1.toNatClampNeg) t) (t (0 + 2 + a1.toNatClampNeg) 6))), (4, .int (rX1_used (0 + 2 + a1.toNatClampNeg) t)), (3, .ref (ad (0 + 2 + a1.toNatClampNeg))), (0, .ref (ad (270))), (1, .int a1), (2, .int a2)]) dX6_ifRead_46 (by decide) rfl ?_
    refine z_iload_n C 48 2 6 dX6_ifRead_48 rfl rfl ?_
    by_cases c49_5 : a2 = 0
    · refine z_tableIn C 49 80 dX6_ifRead_49 (by rw [c49_5]; decide +kernel) (by rw [c49_5]; decide +kernel) (off := 31) (by rw [c49_5]; decide +kernel) (by decide) ?_
      refine z_iload C 80 5 1 dX6_ifRead_80 rfl ?_
      exact z_iret C 82 hA hQ rfl dX6_ifRead_82 ⟨((if_pos c5_2).trans ((if_pos c49_5).trans rfl)).symm, rfl⟩
    · by_cases c49_6 : a2 = 1
      · refine z_tableIn C 49 83 dX6_ifRead_49 (by rw [c49_6]; decide +kernel) (by rw [c49_6]; decide +kernel) (off := 34) (by rw [c49_6]; decide +kernel) (by decide) ?_
        refine z_sipush C 83 (v := 1000) dX6_ifRead_83 (by decide +kernel) ?_
        refine z_iload C 86 6 0 dX6_ifRead_86 rfl ?_
        refine z_iadd C 88 dX6_ifRead_88 ?_
        exact z_iret C 89 hA hQ rfl dX6_ifRead_89 ⟨((if_pos c5_2).trans ((if_neg c49_5).trans ((if_pos c49_6).trans rfl))).symm, rfl⟩
      · by_cases c49_7 : a2 = 2
        · refine z_tableIn C 49 90 dX6_ifRead_49 (by rw [c49_7]; decide +kernel) (by rw [c49_7]; decide +kernel) (off := 41) (by rw [c49_7]; decide +kernel) (by decide) ?_
          refine z_iload C 90 6 0 dX6_ifRead_90 rfl ?_
          refine z_if_le C 92 99 dX6_ifRead_92 (by decide) (fun c92_8 => ?_) (fun c92_8 => ?_)
          · refine z_iload C 99 6 0 dX6_ifRead_99 rfl ?_
            refine z_if_ge C 101 108 dX6_ifRead_101 (by decide) (fun c101_9 => ?_) (fun c101_9 => ?_)
            · refine z_iconst C 108 (v := 0) dX6_ifRead_108 (by decide +kernel) ?_
              exact z_iret C 109 hA hQ rfl dX6_ifRead_109 ⟨((if_pos c5_2).trans ((if_neg c49_5).trans ((if_neg c49_6).trans ((if_pos c49_7).trans ((if_pos c92_8).trans ((if_pos c101_9).trans rfl)))))).symm, rfl⟩
            · refine z_iconst C 104 (v := 2) dX6_ifRead_104 (by decide +kernel) ?_
              refine z_goto C 105 109 dX6_ifRead_105 (by decide) ?_
              exact z_iret C 109 hA hQ rfl dX6_ifRead_109 ⟨((if_pos c5_2).trans ((if_neg c49_5).trans ((if_neg c49_6).trans ((if_pos c49_7).trans ((if_pos c92_8).trans ((if_neg c101_9).trans rfl)))))).symm, rfl⟩
          · refine z_iconst C 95 (v := 1) dX6_ifRead_95 (by decide +kernel) ?_
            refine z_goto C 96 109 dX6_ifRead_96 (by decide) ?_
            exact z_iret C 109 hA hQ rfl dX6_ifRead_109 ⟨((if_pos c5_2).trans ((if_neg c49_5).trans ((if_neg c49_6).trans ((if_pos c49_7).trans ((if_neg c92_8).trans rfl))))).symm, rfl⟩
        · by_cases c49_10 : a2 = 3
          · refine z_tableIn C 49 110 dX6_ifRead_49 (by rw [c49_10]; decide +kernel) (by rw [c49_10]; decide +kernel) (off := 61) (by rw [c49_10]; decide +kernel) (by decide) ?_
            refine z_iload C 110 5 1 dX6_ifRead_110 rfl ?_
            refine z_aload_n C 112 0 4 dX6_ifRead_112 rfl rfl ?_
            refine z_getr C 113 (a9 := ad (0)) (270) 0 dX6_ifRead_113 hO.h0 hO.e0 mX6_ifRead_in6 rfl (by decide) mX6_ifRead_f10 (fun _ => rfl) ?_
            refine z_getrN C 116 (a9 := ad (0 + 37)) (0) 3 dX6_ifRead_116 hO.tn.h0 hO.tn.e0 mX6_ifRead_in5 rfl (by decide) nst_f6_109 (fun _ => rfl) ?_
            refine z_iconst C 119 (v := 1) dX6_ifRead_119 (by decide +kernel) ?_
            refine z_ialdN C 120 (0 + 37) 1 dX6_ifRead_120 hO.tn.h37 hO.tn.e37 rfl (by decide) (by decide) ?_
            refine z_imul C 121 dX6_ifRead_121 ?_
            exact z_iret C 122 hA hQ rfl dX6_ifRead_122 ⟨((if_pos c5_2).trans ((if_neg c49_5).trans ((if_neg c49_6).trans ((if_neg c49_7).trans ((if_pos c49_10).trans rfl))))).symm, rfl⟩
          · have qc49_5 := lv_neT (a := 0) c49_5 rfl
            have qc49_6 := lv_neT (a := 1) c49_6 rfl
            have qc49_7 := lv_neT (a := 2) c49_7 rfl
            have qc49_10 := lv_neT (a := 3) c49_10 rfl
            refine z_tableOut C 49 123 dX6_ifRead_49 (by omega) (by decide) ?_
            refine z_ldc C 123 (v := (-1000001)) dX6_ifRead_123 mX6_ifRead_c57 ?_
            exact z_iret C 125 hA hQ rfl dX6_ifRead_125 ⟨((if_pos c5_2).trans ((if_neg c49_5).trans ((if_neg c49_6).trans ((if_neg c49_7).trans ((if_neg c49_10).trans rfl))))).symm, rfl⟩
  · refine z_cast (st2 := [.null]) (by rw [if_neg c5_2]; rfl) ?_
    refine z_astore_nN C 8 3 ([(3, .null), (0, .ref (ad (270))), (1, .int a1), (2, .int a2)]) dX6_ifRead_8 rfl (by decide) rfl ?_
    refine z_aload_nN C 9 3 0 dX6_ifRead_9 rfl rfl ?_
    refine z_ifnonnullN C 10 dX6_ifRead_10 ?_
    refine z_ldc C 13 (v := (-1000001)) dX6_ifRead_13 mX6_ifRead_c57 ?_
    exact z_iret C 15 hA hQ rfl dX6_ifRead_15 ⟨((if_neg c5_2).trans rfl).symm, rfl⟩
def rX6_wronged (t : zM) (a1 : Int32) : Int32 := (if 0 ≤ a1 then (rX5_houseByBalance (0) t a1) else (-1000001))
theorem mX6_wronged_f10 : Cond.fieldLink RX6 10 "WrongedMeters" "town" "LWrongedMeters$Town;" ∈ wsX6_wronged := by decide +kernel
set_option maxRecDepth 20000 in
theorem mX6_wronged_in6 : ∀ w ∈ u_ws RX6 TX6 4, w ∈ wsX6_wronged := by decide +kernel
theorem mX6_wronged_c57 : Cond.constant RX6 57 (-1000001) ∈ wsX6_wronged := by decide +kernel
theorem hyX6_wronged : yX6_wronged.cls = RX6 ∧ yX6_wronged.cls ≠ "java/lang/invoke/MethodHandle" ∧ yX6_wronged.cls ≠ "java/lang/invoke/VarHandle" ∧ (parseMethodDescriptor yX6_wronged.desc).map (fun d => d.parameters.length) = some 1 := by decide +kernel
set_option maxHeartbeats 3000000 in
set_option maxRecDepth 100000 in
theorem kX6_wronged (l : Launch) (D : va_G) (cy : Nat → ClassId) (K : zK) (n : Nat) (ad : Nat → Nat) (hJ : zJ n ad) (hO : zTop cy K n ad) (t : zM) (a1 : Int32) (hG : zGd t) : zI l yX6_wronged wsX6_wronged 2 D cy K n ad t [.ref (ad (270)), .int a1] (fun r t1 => r = rX6_wronged t a1 ∧ t1 = t) := by
  refine z_startI (cc := cX6_wronged) (mL := 2) (ret := (some .int)) (own := RX6) rfl (by decide +kernel) rfl hJ (Nat.le_of_ble_eq_true rfl) ?_
  intro p e s m args below meth c A hA Q hQ C
  refine z_iload_n C 0 1 1 dX6_wronged_0 rfl rfl ?_
  refine z_if_ge C 1 9 dX6_wronged_1 (by decide) (fun c1_1 => ?_) (fun c1_1 => ?_)
  · refine z_aload_n C 9 0 0 dX6_wronged_9 rfl rfl ?_
    refine z_getr C 10 (a9 := ad (0)) (270) 0 dX6_wronged_10 hO.h0 hO.e0 mX6_wronged_in6 rfl (by decide) mX6_wronged_f10 (fun _ => rfl) ?_
    refine z_iload_n C 13 1 1 dX6_wronged_13 rfl rfl ?_
    refine z_virtIe C 14 (As := [.int a1]) (st := []) (id := 0) (kX5_houseByBalance l D cy K n ad hJ (0) hO.tn t a1 ) dX6_wronged_14 rfl gX6_wronged_X5_houseByBalance hyX5_houseByBalance rfl (by decide) (by decide) hO.tn.h0 rfl hO.tn.e0 rfl rfl rfl (Nat.le_of_ble_eq_true rfl) ?_
    exact z_iret C 17 hA hQ rfl dX6_wronged_17 ⟨((if_pos c1_1).trans rfl).symm, rfl⟩
  · refine z_ldc C 4 (v := (-1000001)) dX6_wronged_4 mX6_wronged_c57 ?_
    refine z_goto C 6 17 dX6_wronged_6 (by decide) ?_
    exact z_iret C 17 hA hQ rfl dX6_wronged_17 ⟨((if_neg c1_1).trans rfl).symm, rfl⟩
def rX6_count (t : zM) (a1 : Int32) : Int32 := (if a1 = 15 then (t (266) 2) else (if a1 = 16 then (t (268) 1) else (rX5_number (0) t a1)))
theorem mX6_count_f22 : Cond.fieldLink RX6 22 "WrongedMeters" "history" "LWrongedMeters$History;" ∈ wsX6_count := by decide +kernel
set_option maxRecDepth 20000 in
theorem mX6_count_in6 : ∀ w ∈ u_ws RX6 TX6 4, w ∈ wsX6_count := by decide +kernel
set_option maxRecDepth 20000 in
theorem mX6_count_in0 : ∀ w ∈ u_ws RX0 TX0 3, w ∈ wsX6_count := by decide +kernel
theorem mX6_count_f29 : Cond.fieldLink RX6 29 "WrongedMeters" "orders" "LWrongedMeters$Orders;" ∈ wsX6_count := by decide +kernel
set_option maxRecDepth 20000 in
theorem mX6_count_in3 : ∀ w ∈ u_ws RX3 TX3 10, w ∈ wsX6_count := by decide +kernel
theorem mX6_count_f10 : Cond.fieldLink RX6 10 "WrongedMeters" "town" "LWrongedMeters$Town;" ∈ wsX6_count := by decide +kernel
theorem hyX6_count : yX6_count.cls = RX6 ∧ yX6_count.cls ≠ "java/lang/invoke/MethodHandle" ∧ yX6_count.cls ≠ "java/lang/invoke/VarHandle" ∧ (parseMethodDescriptor yX6_count.desc).map (fun d => d.parameters.length) = some 1 := by decide +kernel
set_option maxHeartbeats 3000000 in
set_option maxRecDepth 100000 in
theorem kX6_count (l : Launch) (D : va_G) (cy : Nat → ClassId) (K : zK) (n : Nat) (ad : Nat → Nat) (hJ : zJ n ad) (hO : zTop cy K n ad) (t : zM) (a1 : Int32) (hG : zGd t) : zI l yX6_count wsX6_count 2 D cy K n ad t [.ref (ad (270)), .int a1] (fun r t1 => r = rX6_count t a1 ∧ t1 = t) := by
  refine z_startI (cc := cX6_count) (mL := 2) (ret := (some .int)) (own := RX6) rfl (by decide +kernel) rfl hJ (Nat.le_of_ble_eq_true rfl) ?_
  intro p e s m args below meth c A hA Q hQ C
  refine z_iload_n C 0 1 1 dX6_count_0 rfl rfl ?_
  by_cases c1_1 : a1 = 15
  · refine z_lookup C 1 28 (off := 27) dX6_count_1 (by decide +kernel) (by rw [c1_1]; decide +kernel) (by decide) ?_
    refine z_aload_n C 28 0 0 dX6_count_28 rfl rfl ?_
    refine z_getr C 29 (a9 := ad (266)) (270) 2 dX6_count_29 hO.h0 hO.e0 mX6_count_in6 rfl (by decide) mX6_count_f22 (fun _ => rfl) ?_
    refine z_getiN C 32 (266) 2 dX6_count_32 hO.hi.h0 hO.hi.e0 mX6_count_in0 rfl (by decide) nst_f6_144 (fun _ => rfl) ?_
    exact z_iret C 35 hA hQ rfl dX6_count_35 ⟨((if_pos c1_1).trans rfl).symm, rfl⟩
  · by_cases c1_2 : a1 = 16
    · refine z_lookup C 1 36 (off := 35) dX6_count_1 (by decide +kernel) (by rw [c1_2]; decide +kernel) (by decide) ?_
      refine z_aload_n C 36 0 0 dX6_count_36 rfl rfl ?_
      refine z_getr C 37 (a9 := ad (268)) (270) 3 dX6_count_37 hO.h0 hO.e0 mX6_count_in6 rfl (by decide) mX6_count_f29 (fun _ => rfl) ?_
      refine z_getiN C 40 (268) 1 dX6_count_40 (Nat.lt_of_succ_lt hO.od.1) hO.od.2.1 mX6_count_in3 rfl (by decide) nst_f6_147 (fun _ => rfl) ?_
      exact z_iret C 43 hA hQ rfl dX6_count_43 ⟨((if_neg c1_1).trans ((if_pos c1_2).trans rfl)).symm, rfl⟩
    · refine z_lookup C 1 44 (off := 43) dX6_count_1 (by decide +kernel) ((lv_osw c1_1 rfl).trans ((lv_osw c1_2 rfl).trans rfl)) (by decide) ?_
      refine z_aload_n C 44 0 0 dX6_count_44 rfl rfl ?_
      refine z_getr C 45 (a9 := ad (0)) (270) 0 dX6_count_45 hO.h0 hO.e0 mX6_count_in6 rfl (by decide) mX6_count_f10 (fun _ => rfl) ?_
      refine z_iload_n C 48 1 1 dX6_count_48 rfl rfl ?_
      refine z_virtIe C 49 (As := [.int a1]) (st := []) (id := 0) (kX5_number l D cy K n ad hJ (0) hO.tn t a1 ) dX6_count_49 rfl gX6_count_X5_number hyX5_number rfl (by decide) (by decide) hO.tn.h0 rfl hO.tn.e0 rfl rfl rfl (Nat.le_of_ble_eq_true rfl) ?_
      exact z_iret C 52 hA hQ rfl dX6_count_52 ⟨((if_neg c1_1).trans ((if_neg c1_2).trans rfl)).symm, rfl⟩
end
section
/-! the class's three static tables, which nobody writes -/
def zStat (nm : String) (f : Nat → Int32) (A : Nat → Prop) (U : State) (H : Heap) : Prop := ∃ r : Nat, va_Z "WrongedMeters" nm "[I" (.ref r) A U H ∧ va_T .int r 4 (fun j => .int (f j)) A U H
theorem zStat.moved {nm : String} {f : Nat → Int32} {A : Nat → Prop} {u U : State} {H : Heap} (hvm : u.vm.Alike U.vm) (h : zStat nm f A u H) : zStat nm f A U H := by
  obtain ⟨r, h1, h2⟩ := h
  exact ⟨r, va_Z.moved hvm h1, va_T.moved hvm h2⟩
theorem zStat.kept {nm : String} {f : Nat → Int32} {A : Nat → Prop} {U : State} {H H1 : Heap} (h : zStat nm f A U H) (hq : ∀ a : Nat, a < H.size → ¬ A a → H1[a]? = H[a]?) : zStat nm f A U H1 := by
  obtain ⟨r, h1, h2⟩ := h
  exact ⟨r, h1.kept hq, h2.kept hq⟩
theorem zStat.narrow {nm : String} {f : Nat → Int32} {A B : Nat → Prop} {U : State} {H : Heap} (h : zStat nm f A U H) (hAB : ∀ q, B q → A q) : zStat nm f B U H := by
  obtain ⟨r, h1, h2⟩ := h
  exact ⟨r, h1.narrow hAB, h2.narrow hAB⟩
def zLeast (j : Nat) : Int32 := ([0, 1, 1, 5] : List Int32).getD j 0
def zMost (j : Nat) : Int32 := ([12, 50, 99, 400] : List Int32).getD j 0
def zFirst (j : Nat) : Int32 := ([3, 7, 50, 60] : List Int32).getD j 0
def zSts (A : Nat → Prop) (U : State) (H : Heap) : Prop := zStat "SETTING_LEAST" zLeast A U H ∧ zStat "SETTING_MOST" zMost A U H ∧ zStat "SETTING_FIRST" zFirst A U H
theorem zSts.moved {A : Nat → Prop} {u U : State} {H : Heap} (hvm : u.vm.Alike U.vm) (h : zSts A u H) : zSts A U H := ⟨h.1.moved hvm, h.2.1.moved hvm, h.2.2.moved hvm⟩
theorem zSts.kept {A : Nat → Prop} {U : State} {H H1 : Heap} (h : zSts A U H) (hq : ∀ a : Nat, a < H.size → ¬ A a → H1[a]? = H[a]?) : zSts A U H1 := ⟨h.1.kept hq, h.2.1.kept hq, h.2.2.kept hq⟩
theorem zSts.narrow {A B : Nat → Prop} {U : State} {H : Heap} (h : zSts A U H) (hAB : ∀ q, B q → A q) : zSts B U H := ⟨h.1.narrow hAB, h.2.1.narrow hAB, h.2.2.narrow hAB⟩
/-- a contract of a method that reads the tables -/
def zIS (l : Launch) (y : MethodName) (ws : List Cond) (d : Nat) (D : va_G) (cy : Nat → ClassId) (K : zK) (n : Nat) (ad : Nat → Nat) (t : zM) (av : List Value) (post : Int32 → zM → Prop) : Prop :=
  ∀ sz, Met l y ws (zR d) (va_Pc av (fun U => (U.heap.size = sz ∧ va_P D vwCl (zw K n ad t) U.heap ∧ va_K D vwCl (ztys cy) U ∧ zNst U) ∧ zSts (va_A (zw K n ad t) sz) U U.heap)) (zEi D K n ad t sz post) 0 0 (va_A (zw K n ad t) sz)
section ZSS
variable {l : Launch} {y : MethodName} {ws ws8 : List Cond} {d : Nat} {D : va_G} {cy : Nat → ClassId} {K : zK} {n : Nat} {ad : Nat → Nat} {t : zM} {av : List Value} {cc : ByteArray} {mL : Nat} {ret : Option FieldType} {own : String}
theorem z_startIS {post : Int32 → zM → Prop} (hws : ws = .code y cc mL ret :: ws8) (hy : plainName y.cls = true) (hown : y.cls = own) (hJ : zJ n ad) (hlen : (lg_sl av).length ≤ mL) (body : ∀ (p : Program) (e : Env) (s : State) (m : MethodId) (args : Array Value) (below : List Frame) (meth : Method) (c : Code) (A : Nat → Prop), A = va_A (zw K n ad t) s.heap.size → ∀ (Q : State → Prop), Q = MQ below (zEi D K n ad t s.heap.size post) args s 0 0 A → (zC p s m args meth c cc mL ret own ws D cy n ad A ∧ zSts A s s.heap) → Zw p l e (zR d) s m args below meth c D A K n ad mL Q 0 (lv_args 0 av) [] t) : zIS l y ws d D cy K n ad t av post := by
  intro sz
  refine Met.ofW (cc := cc) (maxL := mL) (ret := ret) hy hws ?_
  intro p e s m args below meth c s₁ B hml hv
  obtain ⟨rfl, ⟨hsz, hP, hK, hN⟩, hZ⟩ := hv
  subst hsz
  have hts := atoms_spec (ws := ws) B.pre
  have ho : s.vm.findClass own = some m.cls := hown ▸ findClass_of_methodNamed B.named
  have hl := lv_entry av (n := mL) hlen
  have := body p e s m av.toArray below meth c _ rfl _ rfl ⟨⟨⟨B.exec, B.bytes, hml, ho, hts⟩, hK, zG.self hJ, fun q h => zA_iff.mpr (Or.inr h), B.returns, B.notSynchronized, hN⟩, hZ⟩ s.heap [] _ hP va_S.rf hl
  rw [lg_entry_eq]
  exact this
end ZSS
section ZST
variable {p : Program} {l : Launch} {e : Env} {R : Room} {s : State} {m : MethodId} {args : Array Value} {below : List Frame} {meth : Method} {c : Code} {D : va_G} {A : Nat → Prop} {K : zK} {n : Nat} {ad : Nat → Nat} {nL : Nat} {Q : State → Prop} {ls ls' : List (Nat × Value)} {st : List Value} {t : zM} {cc : ByteArray} {ret : Option FieldType} {own : String} {ws : List Cond} {cy : Nat → ClassId}
theorem z_getsN (C : zC p s m args meth c cc nL ret own ws D cy n ad A) (pc : Nat) {idx r : Nat} {nm host : String} (hZ : va_Z "WrongedMeters" nm "[I" (.ref r) A s s.heap) (hd : decode cc pc = .ok (.getstatic idx, 3)) (hw : Cond.fieldLinkNest own idx "WrongedMeters" nm "[I" host ∈ zNests) (kk : Zw p l e R s m args below meth c D A K n ad nL Q (pc + 3) ls (.ref r :: st) t) : Zw p l e R s m args below meth c D A K n ad nL Q (pc) ls st t := fun H locs la hP hS hl =>
  va_getsN C.1.1 C.1.2.1 hZ hS C.1.2.2.2.1 (va_Nw.use rfl (C.2.2.2.2.2.2 _ hw)) (fun _ h9 => h9) hd (kk H locs la hP hS hl)
theorem z_tald (C : zC p s m args meth c cc nL ret own ws D cy n ad A) (pc : Nat) {r N : Nat} {f : Nat → Int32} {i : Int32} (hT : va_T .int r N (fun j => .int (f j)) A s s.heap) (hd : decode cc pc = .ok (.iaload, 1)) (hin : vp_in i N) (kk : Zw p l e R s m args below meth c D A K n ad nL Q (pc + 1) ls (.int (f i.toNatClampNeg) :: st) t) : Zw p l e R s m args below meth c D A K n ad nL Q (pc) ls (.int i :: .ref r :: st) t := fun H locs la hP hS hl =>
  va_ti C.1.1 C.1.2.1 hT hS hin rfl hd (kk H locs la hP hS hl)
theorem z_virtISe (C : zC p s m args meth c cc nL ret own ws D cy n ad A) (hZ : zSts A s s.heap) (pc : Nat) {idx mL k9 d d9 : Nat} {y : MethodName} {bytes : ByteArray} {ret9 : Option FieldType} {ws9 ws8 : List Cond} {As st0 : List Value} {b id ci N : Nat} {Cn : String} {T : u_T} {fs : (Nat → Int32) → List Value} {F : Int32} {S : zM} (hM : zIS l y ws9 d9 D cy K n ad t (.ref b :: As) (fun r t1 => r = F ∧ t1 = S)) (hd : decode cc pc = .ok (.invokevirtual idx, 3)) (hws : ws9 = .code y bytes mL ret9 :: ws8) (hG : GoodIn ws (wsV own idx Cn y ws9)) (hy : y.cls = Cn ∧ y.cls ≠ "java/lang/invoke/MethodHandle" ∧ y.cls ≠ "java/lang/invoke/VarHandle" ∧ (parseMethodDescriptor y.desc).map (fun d => d.parameters.length) = some k9) (hR : R = zR d) (hdd : d9 < d) (hmL : mL ≤ 20) (hid : id < n) (hb9 : b = ad id) (he : ∀ f, K ad id f = .inr (ci, fs f)) (hc : vwCl[ci]? = some (Cn, T, N)) (hn : As.length = k9) (hst : st0 = As.reverse ++ .ref b :: st) (hcat : (st.map fun v => v.category).sum ≤ 8) (kk : Zw p l e R s m args below meth c D A K n ad nL Q (pc + 3) ls (.int F :: st) S) : Zw p l e R s m args below meth c D A K n ad nL Q (pc) ls st0 t := fun H locs la hP hS hl => by
  subst hR; subst hb9
  exact va_calli (va_runV (As := As) (rest := st) C.1 (hM H.size) (cwV k9 C.1.2.2.2.2 hG hws rfl rfl hy ⟨by show d9 + 1 ≤ d; omega, by show 8 + (mL + 11) + 40 * d9 ≤ 40 * d; omega⟩) ⟨fun a U g mk q => ⟨q.1, ⟨q.2.1.1, q.2.1.2.1, va_K.moved (u := U) (U := U.calling g mk a) (Vm.Alike.refl U.vm) q.2.1.2.2.1, zNst.same (u := U) (U := U.calling g mk a) rfl q.2.1.2.2.2⟩, zSts.moved (u := U) (U := U.calling g mk a) (Vm.Alike.refl U.vm) q.2.2⟩, va_recv C.2.1 hP hc (zw_at hid (he _)), fun U hU hW => ⟨rfl, ⟨by rw [hU], by rw [hU]; exact hP, va_K.moved hW.alike C.2.1, zNst.warm hW C.2.2.2.2.2.2⟩, by rw [hU]; exact zSts.moved hW.alike ((hZ.kept hS.2.1).narrow (fun q h => C.2.2.1.free C.2.2.2.1 hS.1 q h))⟩⟩ rfl hn hl.1 hst (lv_room hcat) hd ⟨Nat.zero_le _, Nat.zero_le _⟩) hS (fun q _ h => C.2.2.1.free C.2.2.2.1 hS.1 q h) (fun q h => C.2.2.1.free C.2.2.2.1 hS.1 q h) (fun r u u9 H1 locs1 hu _ hp hB _ _ hS1 => by
    obtain ⟨e1, e2⟩ := hp
    subst e1; subst e2
    exact kk H1 locs1 la (by rw [← hu]; exact hB) hS1 hl)
end ZST
end
section
def rX5_putSetting (b : Nat) (t : zM) (a1 : Int32) (a2 : Int32) : Int32 := (if a1 < 0 then (-1000001) else (if 4 ≤ a1 then (-1000001) else (if a2 < (zLeast a1.toNatClampNeg) then (-1000001) else (if a2 ≤ (zMost a1.toNatClampNeg) then (t (b + 37) (a1).toNatClampNeg) else (-1000001)))))
def sX5_putSetting (b : Nat) (t : zM) (a1 : Int32) (a2 : Int32) : zM := (if a1 < 0 then t else (if 4 ≤ a1 then t else (if a2 < (zLeast a1.toNatClampNeg) then t else (if a2 ≤ (zMost a1.toNatClampNeg) then (zset t (b + 37) (a1.toNatClampNeg) a2) else t))))
theorem mX5_putSetting_c100 : Cond.constant RX5 100 (-1000001) ∈ wsX5_putSetting := by decide +kernel
theorem mX5_putSetting_f30 : Cond.fieldLink RX5 30 "WrongedMeters$Town" "settings" "[I" ∈ wsX5_putSetting := by decide +kernel
set_option maxRecDepth 20000 in
theorem mX5_putSetting_in5 : ∀ w ∈ u_ws RX5 TX5 13, w ∈ wsX5_putSetting := by decide +kernel
theorem hyX5_putSetting : yX5_putSetting.cls = RX5 ∧ yX5_putSetting.cls ≠ "java/lang/invoke/MethodHandle" ∧ yX5_putSetting.cls ≠ "java/lang/invoke/VarHandle" ∧ (parseMethodDescriptor yX5_putSetting.desc).map (fun d => d.parameters.length) = some 2 := by decide +kernel
set_option maxHeartbeats 3000000 in
set_option maxRecDepth 100000 in
theorem kX5_putSetting (l : Launch) (D : va_G) (cy : Nat → ClassId) (K : zK) (n : Nat) (ad : Nat → Nat) (hJ : zJ n ad) (b : Nat) (hO : zTown cy K n ad b) (t : zM) (a1 : Int32) (a2 : Int32)  : zIS l yX5_putSetting wsX5_putSetting 0 D cy K n ad t [.ref (ad (b)), .int a1, .int a2] (fun r t1 => r = rX5_putSetting b t a1 a2 ∧ t1 = sX5_putSetting b t a1 a2) := by
  refine z_startIS (cc := cX5_putSetting) (mL := 4) (ret := (some .int)) (own := RX5) rfl (by decide +kernel) rfl hJ (Nat.le_of_ble_eq_true rfl) ?_
  intro p e s m args below meth c A hA Q hQ C
  obtain ⟨C, ⟨r1, hz1, ht1⟩, ⟨r2, hz2, ht2⟩, -⟩ := C
  refine z_iload_n C 0 1 1 dX5_putSetting_0 rfl rfl ?_
  refine z_if_lt C 1 27 dX5_putSetting_1 (by decide) (fun c1_1 => ?_) (fun c1_1 => ?_)
  · refine z_ldc C 27 (v := (-1000001)) dX5_putSetting_27 mX5_putSetting_c100 ?_
    exact z_iret C 29 hA hQ rfl dX5_putSetting_29 ⟨((if_pos c1_1).trans rfl).symm, ((if_pos c1_1).trans rfl).symm⟩
  · refine z_iload_n C 4 1 1 dX5_putSetting_4 rfl rfl ?_
    refine z_iconst C 5 (v := 4) dX5_putSetting_5 (by decide +kernel) ?_
    refine z_icmp_ge C 6 27 dX5_putSetting_6 (by decide) (fun c6_2 => ?_) (fun c6_2 => ?_)
    · refine z_ldc C 27 (v := (-1000001)) dX5_putSetting_27 mX5_putSetting_c100 ?_
      exact z_iret C 29 hA hQ rfl dX5_putSetting_29 ⟨((if_neg c1_1).trans ((if_pos c6_2).trans rfl)).symm, ((if_neg c1_1).trans ((if_pos c6_2).trans rfl)).symm⟩
    · refine z_iload_n C 9 2 2 dX5_putSetting_9 rfl rfl ?_
      refine z_getsN C 10 (r := r1) hz1 dX5_putSetting_10 nst_f5_145 ?_
      refine z_iload_n C 13 1 1 dX5_putSetting_13 rfl rfl ?_
      refine z_tald C 14 ht1 dX5_putSetting_14 (zvp1 ‹¬ a1 < 0› ‹¬ 4 ≤ a1› (by decide)) ?_
      refine z_icmp_lt C 15 27 dX5_putSetting_15 (by decide) (fun c15_3 => ?_) (fun c15_3 => ?_)
      · refine z_ldc C 27 (v := (-1000001)) dX5_putSetting_27 mX5_putSetting_c100 ?_
        exact z_iret C 29 hA hQ rfl dX5_putSetting_29 ⟨((if_neg c1_1).trans ((if_neg c6_2).trans ((if_pos c15_3).trans rfl))).symm, ((if_neg c1_1).trans ((if_neg c6_2).trans ((if_pos c15_3).trans rfl))).symm⟩
      · refine z_iload_n C 18 2 2 dX5_putSetting_18 rfl rfl ?_
        refine z_getsN C 19 (r := r2) hz2 dX5_putSetting_19 nst_f5_148 ?_
        refine z_iload_n C 22 1 1 dX5_putSetting_22 rfl rfl ?_
        refine z_tald C 23 ht2 dX5_putSetting_23 (zvp1 ‹¬ a1 < 0› ‹¬ 4 ≤ a1› (by decide)) ?_
        refine z_icmp_le C 24 30 dX5_putSetting_24 (by decide) (fun c24_4 => ?_) (fun c24_4 => ?_)
        · refine z_aload_n C 30 0 0 dX5_putSetting_30 rfl rfl ?_
          refine z_getr C 31 (a9 := ad (b + 37)) (b) 3 dX5_putSetting_31 hO.h0 hO.e0 mX5_putSetting_in5 rfl (by decide) mX5_putSetting_f30 (fun _ => rfl) ?_
          refine z_iload_n C 34 1 1 dX5_putSetting_34 rfl rfl ?_
          refine z_iald C 35 (b + 37) dX5_putSetting_35 hO.h37 hO.e37 (zvp1 ‹¬ a1 < 0› ‹¬ 4 ≤ a1› (by decide)) ?_
          refine z_istore_n C 36 3 ([(3, .int (t (b + 37) (a1).toNatClampNeg)), (0, .ref (ad (b))), (1, .int a1), (2, .int a2)]) dX5_putSetting_36 rfl (by decide) rfl ?_
          refine z_aload_n C 37 0 1 dX5_putSetting_37 rfl rfl ?_
          refine z_getr C 38 (a9 := ad (b + 37)) (b) 3 dX5_putSetting_38 hO.h0 hO.e0 mX5_putSetting_in5 rfl (by decide) mX5_putSetting_f30 (fun _ => rfl) ?_
          refine z_iload_n C 41 1 2 dX5_putSetting_41 rfl rfl ?_
          refine z_iload_n C 42 2 3 dX5_putSetting_42 rfl rfl ?_
          refine z_iast C 43 (b + 37) dX5_putSetting_43 hO.h37 hO.e37 (zvp1 ‹¬ a1 < 0› ‹¬ 4 ≤ a1› (by decide)) ?_
          refine z_iload_n C 44 3 0 dX5_putSetting_44 rfl rfl ?_
          exact z_iret C 45 hA hQ rfl dX5_putSetting_45 ⟨((if_neg c1_1).trans ((if_neg c6_2).trans ((if_neg c15_3).trans ((if_pos c24_4).trans rfl)))).symm, ((if_neg c1_1).trans ((if_neg c6_2).trans ((if_neg c15_3).trans ((if_pos c24_4).trans rfl)))).symm⟩
        · refine z_ldc C 27 (v := (-1000001)) dX5_putSetting_27 mX5_putSetting_c100 ?_
          exact z_iret C 29 hA hQ rfl dX5_putSetting_29 ⟨((if_neg c1_1).trans ((if_neg c6_2).trans ((if_neg c15_3).trans ((if_neg c24_4).trans rfl)))).symm, ((if_neg c1_1).trans ((if_neg c6_2).trans ((if_neg c15_3).trans ((if_neg c24_4).trans rfl)))).symm⟩
def rX6_set (t : zM) (a1 : Int32) (a2 : Int32) : Int32 := (rX6_kept (sX5_putSetting (0) (sX0_record t (0)) a1 a2) (rX5_putSetting (0) (sX0_record t (0)) a1 a2))
def sX6_set (t : zM) (a1 : Int32) (a2 : Int32) : zM := (sX6_kept (sX5_putSetting (0) (sX0_record t (0)) a1 a2) (rX5_putSetting (0) (sX0_record t (0)) a1 a2))
theorem mX6_set_f22 : Cond.fieldLink RX6 22 "WrongedMeters" "history" "LWrongedMeters$History;" ∈ wsX6_set := by decide +kernel
set_option maxRecDepth 20000 in
theorem mX6_set_in6 : ∀ w ∈ u_ws RX6 TX6 4, w ∈ wsX6_set := by decide +kernel
theorem mX6_set_f10 : Cond.fieldLink RX6 10 "WrongedMeters" "town" "LWrongedMeters$Town;" ∈ wsX6_set := by decide +kernel
theorem hyX6_set : yX6_set.cls = RX6 ∧ yX6_set.cls ≠ "java/lang/invoke/MethodHandle" ∧ yX6_set.cls ≠ "java/lang/invoke/VarHandle" ∧ (parseMethodDescriptor yX6_set.desc).map (fun d => d.parameters.length) = some 2 := by decide +kernel
set_option maxHeartbeats 3000000 in
set_option maxRecDepth 100000 in
theorem kX6_set (l : Launch) (D : va_G) (cy : Nat → ClassId) (K : zK) (n : Nat) (ad : Nat → Nat) (hJ : zJ n ad) (hO : zTop cy K n ad) (t : zM) (a1 : Int32) (a2 : Int32) (hG : zGd t) : zIS l yX6_set wsX6_set 4 D cy K n ad t [.ref (ad (270)), .int a1, .int a2] (fun r t1 => r = rX6_set t a1 a2 ∧ t1 = sX6_set t a1 a2) := by
  refine z_startIS (cc := cX6_set) (mL := 3) (ret := (some .int)) (own := RX6) rfl (by decide +kernel) rfl hJ (Nat.le_of_ble_eq_true rfl) ?_
  intro p e s m args below meth c A hA Q hQ C
  obtain ⟨C, hZ⟩ := C
  refine z_aload_n C 0 0 0 dX6_set_0 rfl rfl ?_
  refine z_getr C 1 (a9 := ad (266)) (270) 2 dX6_set_1 hO.h0 hO.e0 mX6_set_in6 rfl (by decide) mX6_set_f22 (fun _ => rfl) ?_
  refine z_aload_n C 4 0 0 dX6_set_4 rfl rfl ?_
  refine z_getr C 5 (a9 := ad (0)) (270) 0 dX6_set_5 hO.h0 hO.e0 mX6_set_in6 rfl (by decide) mX6_set_f10 (fun _ => rfl) ?_
  refine z_virtVe C 8 (As := [.ref (ad (0))]) (st := []) (id := 266) (kX0_record l D cy K n ad hJ hO.hi t (0) hO.tn (by decide) hG.fs hG.bits) dX6_set_8 rfl gX6_set_X0_record hyX0_record rfl (by decide) (by decide) hO.hi.h0 rfl hO.hi.e0 rfl rfl rfl (Nat.le_of_ble_eq_true rfl) ?_
  refine z_aload_n C 11 0 0 dX6_set_11 rfl rfl ?_
  refine z_aload_n C 12 0 0 dX6_set_12 rfl rfl ?_
  refine z_getr C 13 (a9 := ad (0)) (270) 0 dX6_set_13 hO.h0 hO.e0 mX6_set_in6 rfl (by decide) mX6_set_f10 (fun _ => rfl) ?_
  refine z_iload_n C 16 1 1 dX6_set_16 rfl rfl ?_
  refine z_iload_n C 17 2 2 dX6_set_17 rfl rfl ?_
  refine z_virtISe C hZ 18 (As := [.int a1, .int a2]) (st := [.ref (ad (270))]) (id := 0) (kX5_putSetting l D cy K n ad hJ (0) hO.tn (sX0_record t (0)) a1 a2 ) dX6_set_18 rfl gX6_set_X5_putSetting hyX5_putSetting rfl (by decide) (by decide) hO.tn.h0 rfl hO.tn.e0 rfl rfl rfl (Nat.le_of_ble_eq_true rfl) ?_
  refine z_virtIe C 21 (As := [.int (rX5_putSetting (0) (sX0_record t (0)) a1 a2)]) (st := []) (id := 270) (kX6_kept l D cy K n ad hJ hO (sX5_putSetting (0) (sX0_record t (0)) a1 a2) (rX5_putSetting (0) (sX0_record t (0)) a1 a2) ) dX6_set_21 rfl gX6_set_X6_kept hyX6_kept rfl (by decide) (by decide) hO.h0 rfl hO.e0 rfl rfl rfl (Nat.le_of_ble_eq_true rfl) ?_
  exact z_iret C 24 hA hQ rfl dX6_set_24 ⟨rfl, rfl⟩
end
