section
-- ===== PART A: goes FIRST, ahead of the names: the tables' words, and 'selects' of the private methods out of them =====
/-- a private method of a class that the tables say can be made, by its rows of tables_1 -/
def lw_okq (q : MethodName × Nat) : Prop := (q.1.cls ≠ "java/lang/invoke/MethodHandle" ∧ q.1.cls ≠ "java/lang/invoke/VarHandle") ∧ Cond.instantiable q.1.cls q.2 ∈ tables_1 ∧ Cond.privateMethod q.1 ∈ tables_1 ∧ Cond.instanceMethod q.1 ∈ tables_1
theorem lw_p0 : lw_okq (⟨"WrongedMeters", "carryOut", "(III)I"⟩, 4) := ⟨⟨by decide +kernel, by decide +kernel⟩, List.mem_of_getElem? (i := 13) (by decide +kernel), List.mem_of_getElem? (i := 243) (by decide +kernel), List.mem_of_getElem? (i := 244) (by decide +kernel)⟩
theorem lw_p1 : lw_okq (⟨"WrongedMeters$Town", "addHouse", "(II)I"⟩, 13) := ⟨⟨by decide +kernel, by decide +kernel⟩, List.mem_of_getElem? (i := 21) (by decide +kernel), List.mem_of_getElem? (i := 276) (by decide +kernel), List.mem_of_getElem? (i := 277) (by decide +kernel)⟩
theorem lw_p2 : lw_okq (⟨"WrongedMeters$Town", "putFlow", "(II)I"⟩, 13) := ⟨⟨by decide +kernel, by decide +kernel⟩, List.mem_of_getElem? (i := 21) (by decide +kernel), List.mem_of_getElem? (i := 301) (by decide +kernel), List.mem_of_getElem? (i := 302) (by decide +kernel)⟩
theorem lw_p3 : lw_okq (⟨"WrongedMeters$Town", "turnLock", "(I)I"⟩, 13) := ⟨⟨by decide +kernel, by decide +kernel⟩, List.mem_of_getElem? (i := 21) (by decide +kernel), List.mem_of_getElem? (i := 309) (by decide +kernel), List.mem_of_getElem? (i := 310) (by decide +kernel)⟩
theorem lw_p4 : lw_okq (⟨"WrongedMeters$Town", "readIfOpen", "(I)I"⟩, 13) := ⟨⟨by decide +kernel, by decide +kernel⟩, List.mem_of_getElem? (i := 21) (by decide +kernel), List.mem_of_getElem? (i := 317) (by decide +kernel), List.mem_of_getElem? (i := 318) (by decide +kernel)⟩
theorem lw_p5 : lw_okq (⟨"WrongedMeters$Town", "readMeter", "(LWrongedMeters$House;I)I"⟩, 13) := ⟨⟨by decide +kernel, by decide +kernel⟩, List.mem_of_getElem? (i := 21) (by decide +kernel), List.mem_of_getElem? (i := 325) (by decide +kernel), List.mem_of_getElem? (i := 326) (by decide +kernel)⟩
theorem lw_p6 : lw_okq (⟨"WrongedMeters$Town", "changeMeter", "(I)I"⟩, 13) := ⟨⟨by decide +kernel, by decide +kernel⟩, List.mem_of_getElem? (i := 21) (by decide +kernel), List.mem_of_getElem? (i := 348) (by decide +kernel), List.mem_of_getElem? (i := 349) (by decide +kernel)⟩
theorem lw_p7 : lw_okq (⟨"WrongedMeters$Town", "walk", "(LWrongedMeters$Street;)V"⟩, 13) := ⟨⟨by decide +kernel, by decide +kernel⟩, List.mem_of_getElem? (i := 21) (by decide +kernel), List.mem_of_getElem? (i := 364) (by decide +kernel), List.mem_of_getElem? (i := 365) (by decide +kernel)⟩
theorem lw_p8 : lw_okq (⟨"WrongedMeters$Town", "endYear", "()V"⟩, 13) := ⟨⟨by decide +kernel, by decide +kernel⟩, List.mem_of_getElem? (i := 21) (by decide +kernel), List.mem_of_getElem? (i := 372) (by decide +kernel), List.mem_of_getElem? (i := 373) (by decide +kernel)⟩
theorem lw_p9 : lw_okq (⟨"WrongedMeters", "kept", "(I)I"⟩, 4) := ⟨⟨by decide +kernel, by decide +kernel⟩, List.mem_of_getElem? (i := 13) (by decide +kernel), List.mem_of_getElem? (i := 376) (by decide +kernel), List.mem_of_getElem? (i := 377) (by decide +kernel)⟩
theorem lw_p10 : lw_okq (⟨"WrongedMeters$Town", "housesAhead", "(II)I"⟩, 13) := ⟨⟨by decide +kernel, by decide +kernel⟩, List.mem_of_getElem? (i := 21) (by decide +kernel), List.mem_of_getElem? (i := 480) (by decide +kernel), List.mem_of_getElem? (i := 481) (by decide +kernel)⟩
theorem lw_p11 : lw_okq (⟨"WrongedMeters$Town", "housesLocked", "()I"⟩, 13) := ⟨⟨by decide +kernel, by decide +kernel⟩, List.mem_of_getElem? (i := 21) (by decide +kernel), List.mem_of_getElem? (i := 523) (by decide +kernel), List.mem_of_getElem? (i := 524) (by decide +kernel)⟩
theorem lw_p12 : lw_okq (⟨"WrongedMeters$Town", "housesBetween", "(II)I"⟩, 13) := ⟨⟨by decide +kernel, by decide +kernel⟩, List.mem_of_getElem? (i := 21) (by decide +kernel), List.mem_of_getElem? (i := 527) (by decide +kernel), List.mem_of_getElem? (i := 528) (by decide +kernel)⟩
theorem lw_p13 : lw_okq (⟨"WrongedMeters$Town", "balances", "()I"⟩, 13) := ⟨⟨by decide +kernel, by decide +kernel⟩, List.mem_of_getElem? (i := 21) (by decide +kernel), List.mem_of_getElem? (i := 531) (by decide +kernel), List.mem_of_getElem? (i := 532) (by decide +kernel)⟩
theorem lw_p14 : lw_okq (⟨"WrongedMeters$Orders", "takeOrder", "()Z"⟩, 10) := ⟨⟨by decide +kernel, by decide +kernel⟩, List.mem_of_getElem? (i := 186) (by decide +kernel), List.mem_of_getElem? (i := 570) (by decide +kernel), List.mem_of_getElem? (i := 571) (by decide +kernel)⟩
theorem lw_p15 : lw_okq (⟨"WrongedMeters$Orders", "sign", "()I"⟩, 10) := ⟨⟨by decide +kernel, by decide +kernel⟩, List.mem_of_getElem? (i := 186) (by decide +kernel), List.mem_of_getElem? (i := 574) (by decide +kernel), List.mem_of_getElem? (i := 575) (by decide +kernel)⟩
def lw_privs_1 : List (MethodName × Nat) := [(⟨"WrongedMeters", "carryOut", "(III)I"⟩, 4), (⟨"WrongedMeters$Town", "addHouse", "(II)I"⟩, 13), (⟨"WrongedMeters$Town", "putFlow", "(II)I"⟩, 13), (⟨"WrongedMeters$Town", "turnLock", "(I)I"⟩, 13), (⟨"WrongedMeters$Town", "readIfOpen", "(I)I"⟩, 13), (⟨"WrongedMeters$Town", "readMeter", "(LWrongedMeters$House;I)I"⟩, 13), (⟨"WrongedMeters$Town", "changeMeter", "(I)I"⟩, 13), (⟨"WrongedMeters$Town", "walk", "(LWrongedMeters$Street;)V"⟩, 13), (⟨"WrongedMeters$Town", "endYear", "()V"⟩, 13), (⟨"WrongedMeters", "kept", "(I)I"⟩, 4), (⟨"WrongedMeters$Town", "housesAhead", "(II)I"⟩, 13), (⟨"WrongedMeters$Town", "housesLocked", "()I"⟩, 13), (⟨"WrongedMeters$Town", "housesBetween", "(II)I"⟩, 13), (⟨"WrongedMeters$Town", "balances", "()I"⟩, 13), (⟨"WrongedMeters$Orders", "takeOrder", "()Z"⟩, 10), (⟨"WrongedMeters$Orders", "sign", "()I"⟩, 10)]
theorem lw_r1 : ∀ q ∈ lw_privs_1, lw_okq q := List.forall_mem_cons.mpr ⟨lw_p0, List.forall_mem_cons.mpr ⟨lw_p1, List.forall_mem_cons.mpr ⟨lw_p2, List.forall_mem_cons.mpr ⟨lw_p3, List.forall_mem_cons.mpr ⟨lw_p4, List.forall_mem_cons.mpr ⟨lw_p5, List.forall_mem_cons.mpr ⟨lw_p6, List.forall_mem_cons.mpr ⟨lw_p7, List.forall_mem_cons.mpr ⟨lw_p8, List.forall_mem_cons.mpr ⟨lw_p9, List.forall_mem_cons.mpr ⟨lw_p10, List.forall_mem_cons.mpr ⟨lw_p11, List.forall_mem_cons.mpr ⟨lw_p12, List.forall_mem_cons.mpr ⟨lw_p13, List.forall_mem_cons.mpr ⟨lw_p14, List.forall_mem_cons.mpr ⟨lw_p15, fun _ h => absurd h List.not_mem_nil⟩⟩⟩⟩⟩⟩⟩⟩⟩⟩⟩⟩⟩⟩⟩⟩
theorem lw_p16 : lw_okq (⟨"WrongedMeters$Orders", "takeNumber", "()I"⟩, 10) := ⟨⟨by decide +kernel, by decide +kernel⟩, List.mem_of_getElem? (i := 186) (by decide +kernel), List.mem_of_getElem? (i := 581) (by decide +kernel), List.mem_of_getElem? (i := 582) (by decide +kernel)⟩
theorem lw_p17 : lw_okq (⟨"WrongedMeters$Orders", "takeSign", "(I)Z"⟩, 10) := ⟨⟨by decide +kernel, by decide +kernel⟩, List.mem_of_getElem? (i := 186) (by decide +kernel), List.mem_of_getElem? (i := 591) (by decide +kernel), List.mem_of_getElem? (i := 592) (by decide +kernel)⟩
theorem lw_p18 : lw_okq (⟨"WrongedMetersModel", "atPlace", "(II)I"⟩, 16) := ⟨⟨by decide +kernel, by decide +kernel⟩, List.mem_of_getElem? (i := 606) (by decide +kernel), List.mem_of_getElem? (i := 672) (by decide +kernel), List.mem_of_getElem? (i := 673) (by decide +kernel)⟩
theorem lw_p19 : lw_okq (⟨"WrongedMetersModel", "of", "(II)I"⟩, 16) := ⟨⟨by decide +kernel, by decide +kernel⟩, List.mem_of_getElem? (i := 606) (by decide +kernel), List.mem_of_getElem? (i := 676) (by decide +kernel), List.mem_of_getElem? (i := 677) (by decide +kernel)⟩
theorem lw_p20 : lw_okq (⟨"WrongedMetersModel", "changes", "()V"⟩, 16) := ⟨⟨by decide +kernel, by decide +kernel⟩, List.mem_of_getElem? (i := 606) (by decide +kernel), List.mem_of_getElem? (i := 683) (by decide +kernel), List.mem_of_getElem? (i := 684) (by decide +kernel)⟩
theorem lw_p21 : lw_okq (⟨"WrongedMetersModel", "lay", "(III)V"⟩, 16) := ⟨⟨by decide +kernel, by decide +kernel⟩, List.mem_of_getElem? (i := 606) (by decide +kernel), List.mem_of_getElem? (i := 687) (by decide +kernel), List.mem_of_getElem? (i := 688) (by decide +kernel)⟩
theorem lw_p22 : lw_okq (⟨"WrongedMetersModel", "isHouse", "(I)Z"⟩, 16) := ⟨⟨by decide +kernel, by decide +kernel⟩, List.mem_of_getElem? (i := 606) (by decide +kernel), List.mem_of_getElem? (i := 695) (by decide +kernel), List.mem_of_getElem? (i := 696) (by decide +kernel)⟩
theorem lw_p23 : lw_okq (⟨"WrongedMetersModel", "barred", "(I)I"⟩, 16) := ⟨⟨by decide +kernel, by decide +kernel⟩, List.mem_of_getElem? (i := 606) (by decide +kernel), List.mem_of_getElem? (i := 707) (by decide +kernel), List.mem_of_getElem? (i := 708) (by decide +kernel)⟩
theorem lw_p24 : lw_okq (⟨"WrongedMetersModel", "reads", "(I)I"⟩, 16) := ⟨⟨by decide +kernel, by decide +kernel⟩, List.mem_of_getElem? (i := 606) (by decide +kernel), List.mem_of_getElem? (i := 711) (by decide +kernel), List.mem_of_getElem? (i := 712) (by decide +kernel)⟩
theorem lw_p25 : lw_okq (⟨"WrongedMetersModel", "used", "(I)I"⟩, 16) := ⟨⟨by decide +kernel, by decide +kernel⟩, List.mem_of_getElem? (i := 606) (by decide +kernel), List.mem_of_getElem? (i := 715) (by decide +kernel), List.mem_of_getElem? (i := 716) (by decide +kernel)⟩
theorem lw_p26 : lw_okq (⟨"WrongedMetersModel", "unitsOf", "(I)I"⟩, 16) := ⟨⟨by decide +kernel, by decide +kernel⟩, List.mem_of_getElem? (i := 606) (by decide +kernel), List.mem_of_getElem? (i := 720) (by decide +kernel), List.mem_of_getElem? (i := 721) (by decide +kernel)⟩
theorem lw_p27 : lw_okq (⟨"WrongedMetersModel", "balanceThen", "(I)I"⟩, 16) := ⟨⟨by decide +kernel, by decide +kernel⟩, List.mem_of_getElem? (i := 606) (by decide +kernel), List.mem_of_getElem? (i := 724) (by decide +kernel), List.mem_of_getElem? (i := 725) (by decide +kernel)⟩
theorem lw_p28 : lw_okq (⟨"WrongedMetersModel", "adds", "(III)V"⟩, 16) := ⟨⟨by decide +kernel, by decide +kernel⟩, List.mem_of_getElem? (i := 606) (by decide +kernel), List.mem_of_getElem? (i := 728) (by decide +kernel), List.mem_of_getElem? (i := 729) (by decide +kernel)⟩
theorem lw_p29 : lw_okq (⟨"WrongedMetersModel", "enters", "(IIII)V"⟩, 16) := ⟨⟨by decide +kernel, by decide +kernel⟩, List.mem_of_getElem? (i := 606) (by decide +kernel), List.mem_of_getElem? (i := 732) (by decide +kernel), List.mem_of_getElem? (i := 733) (by decide +kernel)⟩
theorem lw_p30 : lw_okq (⟨"WrongedMetersModel", "pass", "(I)I"⟩, 16) := ⟨⟨by decide +kernel, by decide +kernel⟩, List.mem_of_getElem? (i := 606) (by decide +kernel), List.mem_of_getElem? (i := 744) (by decide +kernel), List.mem_of_getElem? (i := 745) (by decide +kernel)⟩
theorem lw_p31 : lw_okq (⟨"WrongedMetersModel", "day", "()I"⟩, 16) := ⟨⟨by decide +kernel, by decide +kernel⟩, List.mem_of_getElem? (i := 606) (by decide +kernel), List.mem_of_getElem? (i := 748) (by decide +kernel), List.mem_of_getElem? (i := 749) (by decide +kernel)⟩
def lw_privs_2 : List (MethodName × Nat) := [(⟨"WrongedMeters$Orders", "takeNumber", "()I"⟩, 10), (⟨"WrongedMeters$Orders", "takeSign", "(I)Z"⟩, 10), (⟨"WrongedMetersModel", "atPlace", "(II)I"⟩, 16), (⟨"WrongedMetersModel", "of", "(II)I"⟩, 16), (⟨"WrongedMetersModel", "changes", "()V"⟩, 16), (⟨"WrongedMetersModel", "lay", "(III)V"⟩, 16), (⟨"WrongedMetersModel", "isHouse", "(I)Z"⟩, 16), (⟨"WrongedMetersModel", "barred", "(I)I"⟩, 16), (⟨"WrongedMetersModel", "reads", "(I)I"⟩, 16), (⟨"WrongedMetersModel", "used", "(I)I"⟩, 16), (⟨"WrongedMetersModel", "unitsOf", "(I)I"⟩, 16), (⟨"WrongedMetersModel", "balanceThen", "(I)I"⟩, 16), (⟨"WrongedMetersModel", "adds", "(III)V"⟩, 16), (⟨"WrongedMetersModel", "enters", "(IIII)V"⟩, 16), (⟨"WrongedMetersModel", "pass", "(I)I"⟩, 16), (⟨"WrongedMetersModel", "day", "()I"⟩, 16)]
theorem lw_r2 : ∀ q ∈ lw_privs_2, lw_okq q := List.forall_mem_cons.mpr ⟨lw_p16, List.forall_mem_cons.mpr ⟨lw_p17, List.forall_mem_cons.mpr ⟨lw_p18, List.forall_mem_cons.mpr ⟨lw_p19, List.forall_mem_cons.mpr ⟨lw_p20, List.forall_mem_cons.mpr ⟨lw_p21, List.forall_mem_cons.mpr ⟨lw_p22, List.forall_mem_cons.mpr ⟨lw_p23, List.forall_mem_cons.mpr ⟨lw_p24, List.forall_mem_cons.mpr ⟨lw_p25, List.forall_mem_cons.mpr ⟨lw_p26, List.forall_mem_cons.mpr ⟨lw_p27, List.forall_mem_cons.mpr ⟨lw_p28, List.forall_mem_cons.mpr ⟨lw_p29, List.forall_mem_cons.mpr ⟨lw_p30, List.forall_mem_cons.mpr ⟨lw_p31, fun _ h => absurd h List.not_mem_nil⟩⟩⟩⟩⟩⟩⟩⟩⟩⟩⟩⟩⟩⟩⟩⟩
theorem lw_p32 : lw_okq (⟨"WrongedMetersModel", "walks", "(I)I"⟩, 16) := ⟨⟨by decide +kernel, by decide +kernel⟩, List.mem_of_getElem? (i := 606) (by decide +kernel), List.mem_of_getElem? (i := 752) (by decide +kernel), List.mem_of_getElem? (i := 753) (by decide +kernel)⟩
theorem lw_p33 : lw_okq (⟨"WrongedMetersModel", "rounds", "(I)I"⟩, 16) := ⟨⟨by decide +kernel, by decide +kernel⟩, List.mem_of_getElem? (i := 606) (by decide +kernel), List.mem_of_getElem? (i := 756) (by decide +kernel), List.mem_of_getElem? (i := 757) (by decide +kernel)⟩
theorem lw_p34 : lw_okq (⟨"WrongedMetersModel", "turn", "(I)I"⟩, 16) := ⟨⟨by decide +kernel, by decide +kernel⟩, List.mem_of_getElem? (i := 606) (by decide +kernel), List.mem_of_getElem? (i := 760) (by decide +kernel), List.mem_of_getElem? (i := 761) (by decide +kernel)⟩
theorem lw_p35 : lw_okq (⟨"WrongedMetersModel", "rankOf", "(III)I"⟩, 16) := ⟨⟨by decide +kernel, by decide +kernel⟩, List.mem_of_getElem? (i := 606) (by decide +kernel), List.mem_of_getElem? (i := 764) (by decide +kernel), List.mem_of_getElem? (i := 765) (by decide +kernel)⟩
theorem lw_p36 : lw_okq (⟨"WrongedMetersModel", "refunds", "()V"⟩, 16) := ⟨⟨by decide +kernel, by decide +kernel⟩, List.mem_of_getElem? (i := 606) (by decide +kernel), List.mem_of_getElem? (i := 768) (by decide +kernel), List.mem_of_getElem? (i := 769) (by decide +kernel)⟩
theorem lw_p37 : lw_okq (⟨"WrongedMetersModel", "locked", "()I"⟩, 16) := ⟨⟨by decide +kernel, by decide +kernel⟩, List.mem_of_getElem? (i := 606) (by decide +kernel), List.mem_of_getElem? (i := 839) (by decide +kernel), List.mem_of_getElem? (i := 840) (by decide +kernel)⟩
theorem lw_p38 : lw_okq (⟨"WrongedMetersModel", "signed", "(I)I"⟩, 16) := ⟨⟨by decide +kernel, by decide +kernel⟩, List.mem_of_getElem? (i := 606) (by decide +kernel), List.mem_of_getElem? (i := 843) (by decide +kernel), List.mem_of_getElem? (i := 844) (by decide +kernel)⟩
theorem lw_p39 : lw_okq (⟨"WrongedMetersModel", "balances", "()I"⟩, 16) := ⟨⟨by decide +kernel, by decide +kernel⟩, List.mem_of_getElem? (i := 606) (by decide +kernel), List.mem_of_getElem? (i := 847) (by decide +kernel), List.mem_of_getElem? (i := 848) (by decide +kernel)⟩
theorem lw_p40 : lw_okq (⟨"WrongedMetersModel", "plays", "()Z"⟩, 16) := ⟨⟨by decide +kernel, by decide +kernel⟩, List.mem_of_getElem? (i := 606) (by decide +kernel), List.mem_of_getElem? (i := 867) (by decide +kernel), List.mem_of_getElem? (i := 868) (by decide +kernel)⟩
theorem lw_p41 : lw_okq (⟨"WrongedMetersModel", "parses", "()Z"⟩, 16) := ⟨⟨by decide +kernel, by decide +kernel⟩, List.mem_of_getElem? (i := 606) (by decide +kernel), List.mem_of_getElem? (i := 871) (by decide +kernel), List.mem_of_getElem? (i := 872) (by decide +kernel)⟩
theorem lw_p42 : lw_okq (⟨"WrongedMetersModel", "isAt", "(II)Z"⟩, 16) := ⟨⟨by decide +kernel, by decide +kernel⟩, List.mem_of_getElem? (i := 606) (by decide +kernel), List.mem_of_getElem? (i := 875) (by decide +kernel), List.mem_of_getElem? (i := 876) (by decide +kernel)⟩
theorem lw_p43 : lw_okq (⟨"WrongedMetersModel", "numbered", "(I)Z"⟩, 16) := ⟨⟨by decide +kernel, by decide +kernel⟩, List.mem_of_getElem? (i := 606) (by decide +kernel), List.mem_of_getElem? (i := 882) (by decide +kernel), List.mem_of_getElem? (i := 883) (by decide +kernel)⟩
theorem lw_p44 : lw_okq (⟨"WrongedMetersModel", "sign", "(I)Z"⟩, 16) := ⟨⟨by decide +kernel, by decide +kernel⟩, List.mem_of_getElem? (i := 606) (by decide +kernel), List.mem_of_getElem? (i := 886) (by decide +kernel), List.mem_of_getElem? (i := 887) (by decide +kernel)⟩
theorem lw_p45 : lw_okq (⟨"WrongedMetersModel", "does", "()I"⟩, 16) := ⟨⟨by decide +kernel, by decide +kernel⟩, List.mem_of_getElem? (i := 606) (by decide +kernel), List.mem_of_getElem? (i := 890) (by decide +kernel), List.mem_of_getElem? (i := 891) (by decide +kernel)⟩
def lw_privs_3 : List (MethodName × Nat) := [(⟨"WrongedMetersModel", "walks", "(I)I"⟩, 16), (⟨"WrongedMetersModel", "rounds", "(I)I"⟩, 16), (⟨"WrongedMetersModel", "turn", "(I)I"⟩, 16), (⟨"WrongedMetersModel", "rankOf", "(III)I"⟩, 16), (⟨"WrongedMetersModel", "refunds", "()V"⟩, 16), (⟨"WrongedMetersModel", "locked", "()I"⟩, 16), (⟨"WrongedMetersModel", "signed", "(I)I"⟩, 16), (⟨"WrongedMetersModel", "balances", "()I"⟩, 16), (⟨"WrongedMetersModel", "plays", "()Z"⟩, 16), (⟨"WrongedMetersModel", "parses", "()Z"⟩, 16), (⟨"WrongedMetersModel", "isAt", "(II)Z"⟩, 16), (⟨"WrongedMetersModel", "numbered", "(I)Z"⟩, 16), (⟨"WrongedMetersModel", "sign", "(I)Z"⟩, 16), (⟨"WrongedMetersModel", "does", "()I"⟩, 16)]
theorem lw_r3 : ∀ q ∈ lw_privs_3, lw_okq q := List.forall_mem_cons.mpr ⟨lw_p32, List.forall_mem_cons.mpr ⟨lw_p33, List.forall_mem_cons.mpr ⟨lw_p34, List.forall_mem_cons.mpr ⟨lw_p35, List.forall_mem_cons.mpr ⟨lw_p36, List.forall_mem_cons.mpr ⟨lw_p37, List.forall_mem_cons.mpr ⟨lw_p38, List.forall_mem_cons.mpr ⟨lw_p39, List.forall_mem_cons.mpr ⟨lw_p40, List.forall_mem_cons.mpr ⟨lw_p41, List.forall_mem_cons.mpr ⟨lw_p42, List.forall_mem_cons.mpr ⟨lw_p43, List.forall_mem_cons.mpr ⟨lw_p44, List.forall_mem_cons.mpr ⟨lw_p45, fun _ h => absurd h List.not_mem_nil⟩⟩⟩⟩⟩⟩⟩⟩⟩⟩⟩⟩⟩⟩
def lw_privs : List (MethodName × Nat) := lw_privs_1 ++ (lw_privs_2 ++ (lw_privs_3))
def lw_tbl : List Cond := k2_sels lw_privs ++ tables_1
theorem lw_privs_ok : ∀ q ∈ lw_privs, lw_okq q := by
  show ∀ q ∈ lw_privs_1 ++ (lw_privs_2 ++ (lw_privs_3)), lw_okq q
  exact List.forall_mem_append.mpr ⟨lw_r1, List.forall_mem_append.mpr ⟨lw_r2, lw_r3⟩⟩
/-- the streams that the claim lets the run draw from -/
abbrev lw_cs : List Choice := [Jvm.Choice.named "NaN.bits"]
theorem lw_bits : nanBits ∈ lw_cs := by first | decide | exact List.mem_cons_self | simp [lw_cs, nanBits]
-- ===== end of PART A; then your names; then what follows =====
end
section
/-! ===== BEGIN words of one list among another's, by their places ===== -/
theorem goodIn_r {big : List Cond} (ws : List Cond) (ps : List Nat) (hp : ws = ps.filterMap (fun i => big[i]?)) (h : ws.all goodWord = true) : GoodIn big ws := by
  intro w hw
  have h1 := List.all_eq_true.mp h w hw
  rw [hp] at hw
  obtain ⟨i, -, hi⟩ := List.mem_filterMap.mp hw
  have hm : w ∈ big := by first | exact List.mem_of_getElem? hi | exact List.getElem?_mem hi
  exact ⟨hm, good_of_word h1⟩
theorem goodIn_app {big a b : List Cond} (ha : GoodIn big a) (hb : GoodIn big b) : GoodIn big (a ++ b) := fun w h => (List.mem_append.mp h).elim (ha w) (hb w)
theorem goodIn_ca {big a b : List Cond} {c : Cond} (ha : GoodIn big (c :: a)) (hb : GoodIn big b) : GoodIn big (c :: (a ++ b)) := fun w h => (List.mem_cons.mp h).elim (fun e => ha w (List.mem_cons.mpr (Or.inl e))) (fun h => (List.mem_append.mp h).elim (fun h => ha w (List.mem_cons.mpr (Or.inr h))) (hb w))
theorem goodIn_sub {big ws : List Cond} (hm : ∀ w ∈ ws, w ∈ big) (h : ws.all goodWord = true) : GoodIn big ws := fun w hw => ⟨hm w hw, good_of_word (List.all_eq_true.mp h w hw)⟩
/-! ===== END ===== -/

/-! ===== BEGIN printed: names, fields, word lists, decode rows ===== -/
def RX0 : String := "WrongedMeters$History"
def TX0 : u_T := fun k => match k with
  | 0 => ("WrongedMeters$History", "states", "[LWrongedMeters$Town;", true)
  | 1 => ("WrongedMeters$History", "freeSlot", "I", false)
  | _ => ("WrongedMeters$History", "size", "I", false)
def tyX0 : Nat → FieldType := fun k => match k with
  | 0 => .array (.object "WrongedMeters$Town")
  | 1 => .int
  | _ => .int
abbrev wsX00 : List Cond := u_ws RX0 TX0 3
theorem nmX0 : ∀ a, a < 3 → ∀ b, b < 3 → a ≠ b → (TX0 a).2.1 ≠ (TX0 b).2.1 := by decide +kernel
theorem tyX0_ok : ∀ k, k < 3 → parseFieldDescriptor (TX0 k).2.2.1 = some (tyX0 k) := by decide +kernel
abbrev cX0_init : ByteArray := prog_2_method_1_code
def yX0_init : MethodName := ⟨RX0, "<init>", "()V"⟩
abbrev cX0_record : ByteArray := prog_2_method_2_code
def yX0_record : MethodName := ⟨RX0, "record", "(LWrongedMeters$Town;)V"⟩
abbrev cX0_keep : ByteArray := prog_2_method_3_code
def yX0_keep : MethodName := ⟨RX0, "keep", "()V"⟩
abbrev cX0_restore : ByteArray := prog_2_method_4_code
def yX0_restore : MethodName := ⟨RX0, "restore", "(LWrongedMeters$Town;)I"⟩
def RX1 : String := "WrongedMeters$House"
def TX1 : u_T := fun k => match k with
  | 0 => ("WrongedMeters$House", "street", "I", false)
  | 1 => ("WrongedMeters$House", "place", "I", false)
  | 2 => ("WrongedMeters$House", "dial", "I", false)
  | 3 => ("WrongedMeters$House", "dialBefore", "I", false)
  | 4 => ("WrongedMeters$House", "flow", "I", false)
  | 5 => ("WrongedMeters$House", "isLocked", "Z", false)
  | 6 => ("WrongedMeters$House", "balance", "I", false)
  | 7 => ("WrongedMeters$House", "latestDay", "I", false)
  | 8 => ("WrongedMeters$House", "readings", "I", false)
  | 9 => ("WrongedMeters$House", "units", "I", false)
  | 10 => ("WrongedMeters$House", "timesHouseWronged", "I", false)
  | 11 => ("WrongedMeters$House", "timesCompanyWronged", "I", false)
  | 12 => ("WrongedMeters$House", "refunds", "I", false)
  | _ => ("WrongedMeters$House", "metersChanged", "I", false)
def tyX1 : Nat → FieldType := fun k => match k with
  | 0 => .int
  | 1 => .int
  | 2 => .int
  | 3 => .int
  | 4 => .int
  | 5 => .boolean
  | 6 => .int
  | 7 => .int
  | 8 => .int
  | 9 => .int
  | 10 => .int
  | 11 => .int
  | 12 => .int
  | _ => .int
abbrev wsX10 : List Cond := u_ws RX1 TX1 14
theorem nmX1 : ∀ a, a < 14 → ∀ b, b < 14 → a ≠ b → (TX1 a).2.1 ≠ (TX1 b).2.1 := by decide +kernel
theorem tyX1_ok : ∀ k, k < 14 → parseFieldDescriptor (TX1 k).2.2.1 = some (tyX1 k) := by decide +kernel
abbrev cX1_init : ByteArray := prog_3_method_1_code
def yX1_init : MethodName := ⟨RX1, "<init>", "()V"⟩
abbrev cX1_copyFrom : ByteArray := prog_3_method_2_code
def yX1_copyFrom : MethodName := ⟨RX1, "copyFrom", "(LWrongedMeters$House;)V"⟩
abbrev cX1_used : ByteArray := prog_3_method_3_code
def yX1_used : MethodName := ⟨RX1, "used", "()I"⟩
abbrev cX1_reasonOn : ByteArray := prog_3_method_4_code
def yX1_reasonOn : MethodName := ⟨RX1, "reasonOn", "(I)I"⟩
abbrev cX1_goOn : ByteArray := prog_3_method_5_code
def yX1_goOn : MethodName := ⟨RX1, "goOn", "()V"⟩
abbrev cX1_settle : ByteArray := prog_3_method_6_code
def yX1_settle : MethodName := ⟨RX1, "settle", "(III)V"⟩
abbrev cX1_renewMeter : ByteArray := prog_3_method_7_code
def yX1_renewMeter : MethodName := ⟨RX1, "renewMeter", "()V"⟩
abbrev cX1_fact : ByteArray := prog_3_method_8_code
def yX1_fact : MethodName := ⟨RX1, "fact", "(I)I"⟩
def RX2 : String := "WrongedMeters$Ledger"
def TX2 : u_T := fun k => match k with
  | 0 => ("WrongedMeters$Ledger", "facts", "[I", true)
  | 1 => ("WrongedMeters$Ledger", "nextRow", "I", false)
  | _ => ("WrongedMeters$Ledger", "size", "I", false)
def tyX2 : Nat → FieldType := fun k => match k with
  | 0 => .array .int
  | 1 => .int
  | _ => .int
abbrev wsX20 : List Cond := u_ws RX2 TX2 3
theorem nmX2 : ∀ a, a < 3 → ∀ b, b < 3 → a ≠ b → (TX2 a).2.1 ≠ (TX2 b).2.1 := by decide +kernel
theorem tyX2_ok : ∀ k, k < 3 → parseFieldDescriptor (TX2 k).2.2.1 = some (tyX2 k) := by decide +kernel
abbrev cX2_init : ByteArray := prog_4_method_1_code
def yX2_init : MethodName := ⟨RX2, "<init>", "()V"⟩
abbrev cX2_copyFrom : ByteArray := prog_4_method_2_code
def yX2_copyFrom : MethodName := ⟨RX2, "copyFrom", "(LWrongedMeters$Ledger;)V"⟩
abbrev cX2_add : ByteArray := prog_4_method_3_code
def yX2_add : MethodName := ⟨RX2, "add", "(IIIII)V"⟩
abbrev cX2_entry : ByteArray := prog_4_method_4_code
def yX2_entry : MethodName := ⟨RX2, "entry", "(II)I"⟩
def RX3 : String := "WrongedMeters$Orders"
def TX3 : u_T := fun k => match k with
  | 0 => ("WrongedMeters$Orders", "text", "[I", true)
  | 1 => ("WrongedMeters$Orders", "length", "I", false)
  | 2 => ("WrongedMeters$Orders", "position", "I", false)
  | 3 => ("WrongedMeters$Orders", "letter", "I", false)
  | 4 => ("WrongedMeters$Orders", "first", "I", false)
  | 5 => ("WrongedMeters$Orders", "second", "I", false)
  | 6 => ("WrongedMeters$Orders", "start", "I", false)
  | 7 => ("WrongedMeters$Orders", "done", "I", false)
  | 8 => ("WrongedMeters$Orders", "reason", "I", false)
  | _ => ("WrongedMeters$Orders", "cause", "I", false)
def tyX3 : Nat → FieldType := fun k => match k with
  | 0 => .array .int
  | 1 => .int
  | 2 => .int
  | 3 => .int
  | 4 => .int
  | 5 => .int
  | 6 => .int
  | 7 => .int
  | 8 => .int
  | _ => .int
abbrev wsX30 : List Cond := u_ws RX3 TX3 10
theorem nmX3 : ∀ a, a < 10 → ∀ b, b < 10 → a ≠ b → (TX3 a).2.1 ≠ (TX3 b).2.1 := by decide +kernel
theorem tyX3_ok : ∀ k, k < 10 → parseFieldDescriptor (TX3 k).2.2.1 = some (tyX3 k) := by decide +kernel
abbrev cX3_init : ByteArray := prog_5_method_1_code
def yX3_init : MethodName := ⟨RX3, "<init>", "()V"⟩
abbrev cX3_append : ByteArray := prog_5_method_2_code
def yX3_append : MethodName := ⟨RX3, "append", "(I)I"⟩
abbrev cX3_empty : ByteArray := prog_5_method_3_code
def yX3_empty : MethodName := ⟨RX3, "empty", "()I"⟩
abbrev cX3_doAllIn : ByteArray := prog_5_method_4_code
def yX3_doAllIn : MethodName := ⟨RX3, "doAllIn", "(LWrongedMeters$Town;)V"⟩
abbrev cX3_faultFact : ByteArray := prog_5_method_5_code
def yX3_faultFact : MethodName := ⟨RX3, "faultFact", "(I)I"⟩
abbrev cX3_takeOrder : ByteArray := prog_5_method_6_code
def yX3_takeOrder : MethodName := ⟨RX3, "takeOrder", "()Z"⟩
abbrev cX3_takeNumber : ByteArray := prog_5_method_7_code
def yX3_takeNumber : MethodName := ⟨RX3, "takeNumber", "()I"⟩
abbrev cX3_takeSign : ByteArray := prog_5_method_8_code
def yX3_takeSign : MethodName := ⟨RX3, "takeSign", "(I)Z"⟩
abbrev cX3_sign : ByteArray := prog_5_method_9_code
def yX3_sign : MethodName := ⟨RX3, "sign", "()I"⟩
abbrev cX3_isLetterOfOrder : ByteArray := prog_5_method_10_code
def yX3_isLetterOfOrder : MethodName := ⟨RX3, "isLetterOfOrder", "(I)Z"⟩
abbrev cX3_isDigit : ByteArray := prog_5_method_11_code
def yX3_isDigit : MethodName := ⟨RX3, "isDigit", "(I)Z"⟩
def RX4 : String := "WrongedMeters$Street"
def TX4 : u_T := fun k => match k with
  | 0 => ("WrongedMeters$Street", "houses", "[I", true)
  | _ => ("WrongedMeters$Street", "latestStep", "I", false)
def tyX4 : Nat → FieldType := fun k => match k with
  | 0 => .array .int
  | _ => .int
abbrev wsX40 : List Cond := u_ws RX4 TX4 2
theorem nmX4 : ∀ a, a < 2 → ∀ b, b < 2 → a ≠ b → (TX4 a).2.1 ≠ (TX4 b).2.1 := by decide +kernel
theorem tyX4_ok : ∀ k, k < 2 → parseFieldDescriptor (TX4 k).2.2.1 = some (tyX4 k) := by decide +kernel
abbrev cX4_init : ByteArray := prog_6_method_1_code
def yX4_init : MethodName := ⟨RX4, "<init>", "()V"⟩
abbrev cX4_copyFrom : ByteArray := prog_6_method_2_code
def yX4_copyFrom : MethodName := ⟨RX4, "copyFrom", "(LWrongedMeters$Street;)V"⟩
abbrev cX4_stepAhead : ByteArray := prog_6_method_3_code
def yX4_stepAhead : MethodName := ⟨RX4, "stepAhead", "(I)I"⟩
abbrev cX4_houseOn : ByteArray := prog_6_method_4_code
def yX4_houseOn : MethodName := ⟨RX4, "houseOn", "(I)I"⟩
abbrev cX4_putHouse : ByteArray := prog_6_method_5_code
def yX4_putHouse : MethodName := ⟨RX4, "putHouse", "(II)V"⟩
abbrev cX4_houseRanked : ByteArray := prog_6_method_6_code
def yX4_houseRanked : MethodName := ⟨RX4, "houseRanked", "(I)I"⟩
def RX5 : String := "WrongedMeters$Town"
def TX5 : u_T := fun k => match k with
  | 0 => ("WrongedMeters$Town", "houses", "[LWrongedMeters$House;", true)
  | 1 => ("WrongedMeters$Town", "streets", "[LWrongedMeters$Street;", true)
  | 2 => ("WrongedMeters$Town", "ledger", "LWrongedMeters$Ledger;", true)
  | 3 => ("WrongedMeters$Town", "settings", "[I", true)
  | 4 => ("WrongedMeters$Town", "houseCount", "I", false)
  | 5 => ("WrongedMeters$Town", "now", "I", false)
  | 6 => ("WrongedMeters$Town", "readings", "I", false)
  | 7 => ("WrongedMeters$Town", "units", "I", false)
  | 8 => ("WrongedMeters$Town", "coins", "I", false)
  | 9 => ("WrongedMeters$Town", "hundredths", "I", false)
  | 10 => ("WrongedMeters$Town", "refunds", "I", false)
  | 11 => ("WrongedMeters$Town", "coinsBack", "I", false)
  | _ => ("WrongedMeters$Town", "years", "I", false)
def tyX5 : Nat → FieldType := fun k => match k with
  | 0 => .array (.object "WrongedMeters$House")
  | 1 => .array (.object "WrongedMeters$Street")
  | 2 => .object "WrongedMeters$Ledger"
  | 3 => .array .int
  | 4 => .int
  | 5 => .int
  | 6 => .int
  | 7 => .int
  | 8 => .int
  | 9 => .int
  | 10 => .int
  | 11 => .int
  | _ => .int
abbrev wsX50 : List Cond := u_ws RX5 TX5 13
theorem nmX5 : ∀ a, a < 13 → ∀ b, b < 13 → a ≠ b → (TX5 a).2.1 ≠ (TX5 b).2.1 := by decide +kernel
theorem tyX5_ok : ∀ k, k < 13 → parseFieldDescriptor (TX5 k).2.2.1 = some (tyX5 k) := by decide +kernel
abbrev cX5_init : ByteArray := prog_7_method_1_code
def yX5_init : MethodName := ⟨RX5, "<init>", "()V"⟩
abbrev cX5_copyFrom : ByteArray := prog_7_method_2_code
def yX5_copyFrom : MethodName := ⟨RX5, "copyFrom", "(LWrongedMeters$Town;)V"⟩
abbrev cX5_houseNumbered : ByteArray := prog_7_method_3_code
def yX5_houseNumbered : MethodName := ⟨RX5, "houseNumbered", "(I)LWrongedMeters$House;"⟩
abbrev cX5_streetNumbered : ByteArray := prog_7_method_4_code
def yX5_streetNumbered : MethodName := ⟨RX5, "streetNumbered", "(I)LWrongedMeters$Street;"⟩
abbrev cX5_obey : ByteArray := prog_7_method_5_code
def yX5_obey : MethodName := ⟨RX5, "obey", "(III)I"⟩
abbrev cX5_addHouse : ByteArray := prog_7_method_6_code
def yX5_addHouse : MethodName := ⟨RX5, "addHouse", "(II)I"⟩
abbrev cX5_putFlow : ByteArray := prog_7_method_7_code
def yX5_putFlow : MethodName := ⟨RX5, "putFlow", "(II)I"⟩
abbrev cX5_putLock : ByteArray := prog_7_method_8_code
def yX5_putLock : MethodName := ⟨RX5, "putLock", "(IZ)I"⟩
abbrev cX5_turnLock : ByteArray := prog_7_method_9_code
def yX5_turnLock : MethodName := ⟨RX5, "turnLock", "(I)I"⟩
abbrev cX5_putSetting : ByteArray := prog_7_method_10_code
def yX5_putSetting : MethodName := ⟨RX5, "putSetting", "(II)I"⟩
abbrev cX5_readIfOpen : ByteArray := prog_7_method_11_code
def yX5_readIfOpen : MethodName := ⟨RX5, "readIfOpen", "(I)I"⟩
abbrev cX5_changeMeter : ByteArray := prog_7_method_12_code
def yX5_changeMeter : MethodName := ⟨RX5, "changeMeter", "(I)I"⟩
abbrev cX5_readMeter : ByteArray := prog_7_method_13_code
def yX5_readMeter : MethodName := ⟨RX5, "readMeter", "(LWrongedMeters$House;I)I"⟩
abbrev cX5_passDays : ByteArray := prog_7_method_14_code
def yX5_passDays : MethodName := ⟨RX5, "passDays", "(I)I"⟩
abbrev cX5_walk : ByteArray := prog_7_method_15_code
def yX5_walk : MethodName := ⟨RX5, "walk", "(LWrongedMeters$Street;)V"⟩
abbrev cX5_endYear : ByteArray := prog_7_method_16_code
def yX5_endYear : MethodName := ⟨RX5, "endYear", "()V"⟩
abbrev cX5_passUntilRefund : ByteArray := prog_7_method_17_code
def yX5_passUntilRefund : MethodName := ⟨RX5, "passUntilRefund", "(I)I"⟩
abbrev cX5_houseByBalance : ByteArray := prog_7_method_18_code
def yX5_houseByBalance : MethodName := ⟨RX5, "houseByBalance", "(I)I"⟩
abbrev cX5_housesAhead : ByteArray := prog_7_method_19_code
def yX5_housesAhead : MethodName := ⟨RX5, "housesAhead", "(II)I"⟩
abbrev cX5_number : ByteArray := prog_7_method_20_code
def yX5_number : MethodName := ⟨RX5, "number", "(I)I"⟩
abbrev cX5_housesLocked : ByteArray := prog_7_method_21_code
def yX5_housesLocked : MethodName := ⟨RX5, "housesLocked", "()I"⟩
abbrev cX5_housesBetween : ByteArray := prog_7_method_22_code
def yX5_housesBetween : MethodName := ⟨RX5, "housesBetween", "(II)I"⟩
abbrev cX5_balances : ByteArray := prog_7_method_23_code
def yX5_balances : MethodName := ⟨RX5, "balances", "()I"⟩
abbrev cX5_balancesWithoutSigns : ByteArray := prog_7_method_24_code
def yX5_balancesWithoutSigns : MethodName := ⟨RX5, "balancesWithoutSigns", "()I"⟩
def RX6 : String := "WrongedMeters"
def TX6 : u_T := fun k => match k with
  | 0 => ("WrongedMeters", "town", "LWrongedMeters$Town;", true)
  | 1 => ("WrongedMeters", "trial", "LWrongedMeters$Town;", true)
  | 2 => ("WrongedMeters", "history", "LWrongedMeters$History;", true)
  | _ => ("WrongedMeters", "orders", "LWrongedMeters$Orders;", true)
def tyX6 : Nat → FieldType := fun k => match k with
  | 0 => .object "WrongedMeters$Town"
  | 1 => .object "WrongedMeters$Town"
  | 2 => .object "WrongedMeters$History"
  | _ => .object "WrongedMeters$Orders"
abbrev wsX60 : List Cond := u_ws RX6 TX6 4
theorem nmX6 : ∀ a, a < 4 → ∀ b, b < 4 → a ≠ b → (TX6 a).2.1 ≠ (TX6 b).2.1 := by decide +kernel
theorem tyX6_ok : ∀ k, k < 4 → parseFieldDescriptor (TX6 k).2.2.1 = some (tyX6 k) := by decide +kernel
abbrev cX6_init : ByteArray := prog_1_method_1_code
def yX6_init : MethodName := ⟨RX6, "<init>", "()V"⟩
abbrev cX6_house : ByteArray := prog_1_method_2_code
def yX6_house : MethodName := ⟨RX6, "house", "(II)I"⟩
abbrev cX6_flow : ByteArray := prog_1_method_3_code
def yX6_flow : MethodName := ⟨RX6, "flow", "(II)I"⟩
abbrev cX6_lock : ByteArray := prog_1_method_4_code
def yX6_lock : MethodName := ⟨RX6, "lock", "(IZ)I"⟩
abbrev cX6_read : ByteArray := prog_1_method_5_code
def yX6_read : MethodName := ⟨RX6, "read", "(I)I"⟩
abbrev cX6_change : ByteArray := prog_1_method_6_code
def yX6_change : MethodName := ⟨RX6, "change", "(I)I"⟩
abbrev cX6_days : ByteArray := prog_1_method_7_code
def yX6_days : MethodName := ⟨RX6, "days", "(I)I"⟩
abbrev cX6_set : ByteArray := prog_1_method_8_code
def yX6_set : MethodName := ⟨RX6, "set", "(II)I"⟩
abbrev cX6_houseOf : ByteArray := prog_1_method_9_code
def yX6_houseOf : MethodName := ⟨RX6, "houseOf", "(II)I"⟩
abbrev cX6_at : ByteArray := prog_1_method_10_code
def yX6_at : MethodName := ⟨RX6, "at", "(II)I"⟩
abbrev cX6_next : ByteArray := prog_1_method_11_code
def yX6_next : MethodName := ⟨RX6, "next", "(II)I"⟩
abbrev cX6_ledger : ByteArray := prog_1_method_12_code
def yX6_ledger : MethodName := ⟨RX6, "ledger", "(II)I"⟩
abbrev cX6_why : ByteArray := prog_1_method_13_code
def yX6_why : MethodName := ⟨RX6, "why", "(I)I"⟩
abbrev cX6_ifRead : ByteArray := prog_1_method_14_code
def yX6_ifRead : MethodName := ⟨RX6, "ifRead", "(II)I"⟩
abbrev cX6_wronged : ByteArray := prog_1_method_15_code
def yX6_wronged : MethodName := ⟨RX6, "wronged", "(I)I"⟩
abbrev cX6_refundIn : ByteArray := prog_1_method_16_code
def yX6_refundIn : MethodName := ⟨RX6, "refundIn", "(I)I"⟩
abbrev cX6_ifDays : ByteArray := prog_1_method_17_code
def yX6_ifDays : MethodName := ⟨RX6, "ifDays", "(II)I"⟩
abbrev cX6_mean : ByteArray := prog_1_method_18_code
def yX6_mean : MethodName := ⟨RX6, "mean", "()I"⟩
abbrev cX6_count : ByteArray := prog_1_method_19_code
def yX6_count : MethodName := ⟨RX6, "count", "(I)I"⟩
abbrev cX6_undo : ByteArray := prog_1_method_20_code
def yX6_undo : MethodName := ⟨RX6, "undo", "()I"⟩
abbrev cX6_type : ByteArray := prog_1_method_21_code
def yX6_type : MethodName := ⟨RX6, "type", "(I)I"⟩
abbrev cX6_clearText : ByteArray := prog_1_method_22_code
def yX6_clearText : MethodName := ⟨RX6, "clearText", "()I"⟩
abbrev cX6_fault : ByteArray := prog_1_method_23_code
def yX6_fault : MethodName := ⟨RX6, "fault", "(I)I"⟩
abbrev cX6_play : ByteArray := prog_1_method_24_code
def yX6_play : MethodName := ⟨RX6, "play", "()I"⟩
abbrev cX6_carryOut : ByteArray := prog_1_method_25_code
def yX6_carryOut : MethodName := ⟨RX6, "carryOut", "(III)I"⟩
abbrev cX6_kept : ByteArray := prog_1_method_26_code
def yX6_kept : MethodName := ⟨RX6, "kept", "(I)I"⟩
abbrev cX6_isPlace : ByteArray := prog_1_method_27_code
def yX6_isPlace : MethodName := ⟨RX6, "isPlace", "(I)Z"⟩
abbrev cX6_stepOf : ByteArray := prog_1_method_28_code
def yX6_stepOf : MethodName := ⟨RX6, "stepOf", "(I)I"⟩
abbrev cX6_unitsFor : ByteArray := prog_1_method_29_code
def yX6_unitsFor : MethodName := ⟨RX6, "unitsFor", "(II)I"⟩
abbrev cX6_bitsOf : ByteArray := prog_1_method_30_code
def yX6_bitsOf : MethodName := ⟨RX6, "bitsOf", "(F)I"⟩
def RX7 : String := "WrongedMetersModel"
def TX7 : u_T := fun k => match k with
  | 0 => ("WrongedMetersModel", "s", "[I", true)
  | 1 => ("WrongedMetersModel", "past", "[I", true)
  | 2 => ("WrongedMetersModel", "held", "[I", true)
  | 3 => ("WrongedMetersModel", "spare", "[I", true)
  | 4 => ("WrongedMetersModel", "pasts", "I", false)
  | 5 => ("WrongedMetersModel", "runs", "Z", false)
  | 6 => ("WrongedMetersModel", "text", "[I", true)
  | 7 => ("WrongedMetersModel", "typed", "I", false)
  | 8 => ("WrongedMetersModel", "round", "[I", true)
  | 9 => ("WrongedMetersModel", "spot", "I", false)
  | 10 => ("WrongedMetersModel", "from", "I", false)
  | 11 => ("WrongedMetersModel", "reason", "I", false)
  | 12 => ("WrongedMetersModel", "cause", "I", false)
  | 13 => ("WrongedMetersModel", "orders", "I", false)
  | 14 => ("WrongedMetersModel", "order", "I", false)
  | _ => ("WrongedMetersModel", "numbers", "[I", true)
def tyX7 : Nat → FieldType := fun k => match k with
  | 0 => .array .int
  | 1 => .array .int
  | 2 => .array .int
  | 3 => .array .int
  | 4 => .int
  | 5 => .boolean
  | 6 => .array .int
  | 7 => .int
  | 8 => .array .int
  | 9 => .int
  | 10 => .int
  | 11 => .int
  | 12 => .int
  | 13 => .int
  | 14 => .int
  | _ => .array .int
abbrev wsX70 : List Cond := u_ws RX7 TX7 16
theorem nmX7 : ∀ a, a < 16 → ∀ b, b < 16 → a ≠ b → (TX7 a).2.1 ≠ (TX7 b).2.1 := by decide +kernel
theorem tyX7_ok : ∀ k, k < 16 → parseFieldDescriptor (TX7 k).2.2.1 = some (tyX7 k) := by decide +kernel
abbrev cX7_init : ByteArray := prog_9_method_1_code
def yX7_init : MethodName := ⟨RX7, "<init>", "()V"⟩
abbrev cX7_in : ByteArray := prog_9_method_3_code
def yX7_in : MethodName := ⟨RX7, "in", "(III)Z"⟩
abbrev cX7_copies : ByteArray := prog_9_method_4_code
def yX7_copies : MethodName := ⟨RX7, "copies", "([I[I)V"⟩
abbrev cX7_changes : ByteArray := prog_9_method_5_code
def yX7_changes : MethodName := ⟨RX7, "changes", "()V"⟩
abbrev cX7_of : ByteArray := prog_9_method_6_code
def yX7_of : MethodName := ⟨RX7, "of", "(II)I"⟩
abbrev cX7_adds : ByteArray := prog_9_method_7_code
def yX7_adds : MethodName := ⟨RX7, "adds", "(III)V"⟩
abbrev cX7_lay : ByteArray := prog_9_method_8_code
def yX7_lay : MethodName := ⟨RX7, "lay", "(III)V"⟩
abbrev cX7_isHouse : ByteArray := prog_9_method_9_code
def yX7_isHouse : MethodName := ⟨RX7, "isHouse", "(I)Z"⟩
abbrev cX7_isPlace : ByteArray := prog_9_method_10_code
def yX7_isPlace : MethodName := ⟨RX7, "isPlace", "(II)Z"⟩
abbrev cX7_atPlace : ByteArray := prog_9_method_11_code
def yX7_atPlace : MethodName := ⟨RX7, "atPlace", "(II)I"⟩
abbrev cX7_used : ByteArray := prog_9_method_12_code
def yX7_used : MethodName := ⟨RX7, "used", "(I)I"⟩
abbrev cX7_unitsOf : ByteArray := prog_9_method_13_code
def yX7_unitsOf : MethodName := ⟨RX7, "unitsOf", "(I)I"⟩
abbrev cX7_balanceThen : ByteArray := prog_9_method_14_code
def yX7_balanceThen : MethodName := ⟨RX7, "balanceThen", "(I)I"⟩
abbrev cX7_barred : ByteArray := prog_9_method_15_code
def yX7_barred : MethodName := ⟨RX7, "barred", "(I)I"⟩
abbrev cX7_enters : ByteArray := prog_9_method_16_code
def yX7_enters : MethodName := ⟨RX7, "enters", "(IIII)V"⟩
abbrev cX7_reads : ByteArray := prog_9_method_17_code
def yX7_reads : MethodName := ⟨RX7, "reads", "(I)I"⟩
abbrev cX7_turn : ByteArray := prog_9_method_18_code
def yX7_turn : MethodName := ⟨RX7, "turn", "(I)I"⟩
abbrev cX7_rounds : ByteArray := prog_9_method_19_code
def yX7_rounds : MethodName := ⟨RX7, "rounds", "(I)I"⟩
abbrev cX7_rankOf : ByteArray := prog_9_method_20_code
def yX7_rankOf : MethodName := ⟨RX7, "rankOf", "(III)I"⟩
abbrev cX7_walks : ByteArray := prog_9_method_21_code
def yX7_walks : MethodName := ⟨RX7, "walks", "(I)I"⟩
abbrev cX7_refunds : ByteArray := prog_9_method_22_code
def yX7_refunds : MethodName := ⟨RX7, "refunds", "()V"⟩
abbrev cX7_day : ByteArray := prog_9_method_23_code
def yX7_day : MethodName := ⟨RX7, "day", "()I"⟩
abbrev cX7_house : ByteArray := prog_9_method_24_code
def yX7_house : MethodName := ⟨RX7, "house", "(II)I"⟩
abbrev cX7_flow : ByteArray := prog_9_method_25_code
def yX7_flow : MethodName := ⟨RX7, "flow", "(II)I"⟩
abbrev cX7_lock : ByteArray := prog_9_method_26_code
def yX7_lock : MethodName := ⟨RX7, "lock", "(IZ)I"⟩
abbrev cX7_read : ByteArray := prog_9_method_27_code
def yX7_read : MethodName := ⟨RX7, "read", "(I)I"⟩
abbrev cX7_change : ByteArray := prog_9_method_28_code
def yX7_change : MethodName := ⟨RX7, "change", "(I)I"⟩
abbrev cX7_pass : ByteArray := prog_9_method_29_code
def yX7_pass : MethodName := ⟨RX7, "pass", "(I)I"⟩
abbrev cX7_days : ByteArray := prog_9_method_30_code
def yX7_days : MethodName := ⟨RX7, "days", "(I)I"⟩
abbrev cX7_least : ByteArray := prog_9_method_31_code
def yX7_least : MethodName := ⟨RX7, "least", "(I)I"⟩
abbrev cX7_most : ByteArray := prog_9_method_32_code
def yX7_most : MethodName := ⟨RX7, "most", "(I)I"⟩
abbrev cX7_set : ByteArray := prog_9_method_33_code
def yX7_set : MethodName := ⟨RX7, "set", "(II)I"⟩
abbrev cX7_houseOf : ByteArray := prog_9_method_34_code
def yX7_houseOf : MethodName := ⟨RX7, "houseOf", "(II)I"⟩
abbrev cX7_at : ByteArray := prog_9_method_35_code
def yX7_at : MethodName := ⟨RX7, "at", "(II)I"⟩
abbrev cX7_next : ByteArray := prog_9_method_36_code
def yX7_next : MethodName := ⟨RX7, "next", "(II)I"⟩
abbrev cX7_ledger : ByteArray := prog_9_method_37_code
def yX7_ledger : MethodName := ⟨RX7, "ledger", "(II)I"⟩
abbrev cX7_why : ByteArray := prog_9_method_38_code
def yX7_why : MethodName := ⟨RX7, "why", "(I)I"⟩
abbrev cX7_ifRead : ByteArray := prog_9_method_39_code
def yX7_ifRead : MethodName := ⟨RX7, "ifRead", "(II)I"⟩
abbrev cX7_wronged : ByteArray := prog_9_method_40_code
def yX7_wronged : MethodName := ⟨RX7, "wronged", "(I)I"⟩
abbrev cX7_refundIn : ByteArray := prog_9_method_41_code
def yX7_refundIn : MethodName := ⟨RX7, "refundIn", "(I)I"⟩
abbrev cX7_ifDays : ByteArray := prog_9_method_42_code
def yX7_ifDays : MethodName := ⟨RX7, "ifDays", "(II)I"⟩
abbrev cX7_mean : ByteArray := prog_9_method_43_code
def yX7_mean : MethodName := ⟨RX7, "mean", "()I"⟩
abbrev cX7_locked : ByteArray := prog_9_method_44_code
def yX7_locked : MethodName := ⟨RX7, "locked", "()I"⟩
abbrev cX7_signed : ByteArray := prog_9_method_45_code
def yX7_signed : MethodName := ⟨RX7, "signed", "(I)I"⟩
abbrev cX7_balances : ByteArray := prog_9_method_46_code
def yX7_balances : MethodName := ⟨RX7, "balances", "()I"⟩
abbrev cX7_count : ByteArray := prog_9_method_47_code
def yX7_count : MethodName := ⟨RX7, "count", "(I)I"⟩
abbrev cX7_undo : ByteArray := prog_9_method_48_code
def yX7_undo : MethodName := ⟨RX7, "undo", "()I"⟩
abbrev cX7_type : ByteArray := prog_9_method_49_code
def yX7_type : MethodName := ⟨RX7, "type", "(I)I"⟩
abbrev cX7_clearText : ByteArray := prog_9_method_50_code
def yX7_clearText : MethodName := ⟨RX7, "clearText", "()I"⟩
abbrev cX7_isAt : ByteArray := prog_9_method_51_code
def yX7_isAt : MethodName := ⟨RX7, "isAt", "(II)Z"⟩
abbrev cX7_sign : ByteArray := prog_9_method_52_code
def yX7_sign : MethodName := ⟨RX7, "sign", "(I)Z"⟩
abbrev cX7_numbered : ByteArray := prog_9_method_53_code
def yX7_numbered : MethodName := ⟨RX7, "numbered", "(I)Z"⟩
abbrev cX7_numbersOf : ByteArray := prog_9_method_54_code
def yX7_numbersOf : MethodName := ⟨RX7, "numbersOf", "(I)I"⟩
abbrev cX7_parses : ByteArray := prog_9_method_55_code
def yX7_parses : MethodName := ⟨RX7, "parses", "()Z"⟩
abbrev cX7_does : ByteArray := prog_9_method_56_code
def yX7_does : MethodName := ⟨RX7, "does", "()I"⟩
abbrev cX7_plays : ByteArray := prog_9_method_57_code
def yX7_plays : MethodName := ⟨RX7, "plays", "()Z"⟩
abbrev cX7_fault : ByteArray := prog_9_method_58_code
def yX7_fault : MethodName := ⟨RX7, "fault", "(I)I"⟩
abbrev cX7_play : ByteArray := prog_9_method_59_code
def yX7_play : MethodName := ⟨RX7, "play", "()I"⟩
def RJxf58ca : String := "java/lang/Float"
def TJxf58ca : u_T := fun k => match k with
  | _ => ("", "", "", false)
def tyJxf58ca : Nat → FieldType := fun k => match k with
  | _ => .int
abbrev wsJxf58ca0 : List Cond := u_ws RJxf58ca TJxf58ca 0
theorem nmJxf58ca : ∀ a, a < 0 → ∀ b, b < 0 → a ≠ b → (TJxf58ca a).2.1 ≠ (TJxf58ca b).2.1 := by decide +kernel
theorem tyJxf58ca_ok : ∀ k, k < 0 → parseFieldDescriptor (TJxf58ca k).2.2.1 = some (tyJxf58ca k) := by decide +kernel
abbrev cJxf58ca_isNaN_12338 : ByteArray := prog_10_method_6_code
def yJxf58ca_isNaN_12338 : MethodName := ⟨RJxf58ca, "isNaN", "(F)Z"⟩
abbrev cJxf58ca_floatToIntBits_5c35a : ByteArray := prog_10_method_24_code
def yJxf58ca_floatToIntBits_5c35a : MethodName := ⟨RJxf58ca, "floatToIntBits", "(F)I"⟩
def RJ9 : String := "java/lang/Math"
def TJ9 : u_T := fun k => match k with
  | _ => ("", "", "", false)
def tyJ9 : Nat → FieldType := fun k => match k with
  | _ => .int
abbrev wsJ90 : List Cond := u_ws RJ9 TJ9 0
theorem nmJ9 : ∀ a, a < 0 → ∀ b, b < 0 → a ≠ b → (TJ9 a).2.1 ≠ (TJ9 b).2.1 := by decide +kernel
theorem tyJ9_ok : ∀ k, k < 0 → parseFieldDescriptor (TJ9 k).2.2.1 = some (tyJ9 k) := by decide +kernel
abbrev cJ9_abs_0f7a4 : ByteArray := prog_11_method_59_code
def yJ9_abs_0f7a4 : MethodName := ⟨RJ9, "abs", "(I)I"⟩
abbrev cJ9_max_7cf53 : ByteArray := prog_11_method_65_code
def yJ9_max_7cf53 : MethodName := ⟨RJ9, "max", "(II)I"⟩
abbrev cJ9_min_7cf53 : ByteArray := prog_11_method_69_code
def yJ9_min_7cf53 : MethodName := ⟨RJ9, "min", "(II)I"⟩
def RJ10 : String := "java/lang/System"
def TJ10 : u_T := fun k => match k with
  | _ => ("", "", "", false)
def tyJ10 : Nat → FieldType := fun k => match k with
  | _ => .int
abbrev wsJ100 : List Cond := u_ws RJ10 TJ10 0
theorem nmJ10 : ∀ a, a < 0 → ∀ b, b < 0 → a ≠ b → (TJ10 a).2.1 ≠ (TJ10 b).2.1 := by decide +kernel
theorem tyJ10_ok : ∀ k, k < 0 → parseFieldDescriptor (TJ10 k).2.2.1 = some (tyJ10 k) := by decide +kernel
def RL : String := "WrongedMetersLaw"
abbrev cL_law : ByteArray := code
def yL_law : MethodName := ⟨RL, "law", "([I)Z"⟩
def wsX2_init : List Cond := .code yX2_init cX2_init 1 none :: ([.methodLink RX2 3 objectInit, .instanceMethod objectInit, .code objectInit ⟨#[0xb1]⟩ 1 none, .arrayClass .int, .fieldLink RX2 11 "WrongedMeters$Ledger" "facts" "[I"] ++ wsX20)
def wsX1_init : List Cond := .code yX1_init cX1_init 1 none :: ([.methodLink RX1 3 objectInit, .instanceMethod objectInit, .code objectInit ⟨#[0xb1]⟩ 1 none, .fieldLink RX1 9 "WrongedMeters$House" "latestDay" "I"] ++ wsX10)
def wsX4_init : List Cond := .code yX4_init cX4_init 2 none :: ([.methodLink RX4 3 objectInit, .instanceMethod objectInit, .code objectInit ⟨#[0xb1]⟩ 1 none, .arrayClass .int, .fieldLink RX4 9 "WrongedMeters$Street" "houses" "[I", .fieldLink RX4 15 "WrongedMeters$Street" "latestStep" "I"] ++ wsX40)
def wsX5_init_r1 : List Cond := [Cond.methodLink RX5 3 objectInit, Cond.instanceMethod objectInit, Cond.code objectInit ⟨#[0xb1]⟩ 1 none, Cond.classLink RX5 9 RX1, Cond.fieldLink RX5 11 "WrongedMeters$Town" "houses" "[LWrongedMeters$House;", Cond.classLink RX5 17 RX4, Cond.fieldLink RX5 19 "WrongedMeters$Town" "streets" "[LWrongedMeters$Street;", Cond.classLink RX5 23 RX2, Cond.instantiable RX2 3, Cond.initialized RX2, Cond.fieldLink RX5 26 "WrongedMeters$Town" "ledger" "LWrongedMeters$Ledger;", Cond.arrayClass .int, Cond.fieldLink RX5 30 "WrongedMeters$Town" "settings" "[I", Cond.instantiable RX1 14, Cond.initialized RX1, Cond.instantiable RX4 2, Cond.initialized RX4, Cond.instanceMethod yX2_init, Cond.code yX2_init cX2_init 1 none, Cond.methodLink RX2 3 objectInit, Cond.fieldLink RX2 11 "WrongedMeters$Ledger" "facts" "[I", Cond.instanceMethod yX1_init, Cond.code yX1_init cX1_init 1 none, Cond.methodLink RX1 3 objectInit]
def wsX5_init_r2 : List Cond := [Cond.fieldLink RX1 9 "WrongedMeters$House" "latestDay" "I", Cond.methodLink RX5 35 yX4_init, Cond.instanceMethod yX4_init, Cond.code yX4_init cX4_init 2 none, Cond.methodLink RX4 3 objectInit, Cond.fieldLink RX4 9 "WrongedMeters$Street" "houses" "[I", Cond.fieldLink RX4 15 "WrongedMeters$Street" "latestStep" "I"]
def wsX5_init : List Cond := .code yX5_init cX5_init 2 none :: ((wsX5_init_r1 ++ wsX5_init_r2) ++ wsX50 ++ wsX20 ++ wsX10 ++ wsX40)
def wsX0_init_r1 : List Cond := [Cond.methodLink RX0 5 objectInit, Cond.instanceMethod objectInit, Cond.code objectInit ⟨#[0xb1]⟩ 1 none, Cond.classLink RX0 11 RX5, Cond.fieldLink RX0 13 "WrongedMeters$History" "states" "[LWrongedMeters$Town;", Cond.instantiable RX5 13, Cond.initialized RX5, Cond.methodLink RX0 17 yX5_init, Cond.instanceMethod yX5_init, Cond.code yX5_init cX5_init 2 none, Cond.methodLink RX5 3 objectInit, Cond.classLink RX5 9 RX1, Cond.fieldLink RX5 11 "WrongedMeters$Town" "houses" "[LWrongedMeters$House;", Cond.classLink RX5 17 RX4, Cond.fieldLink RX5 19 "WrongedMeters$Town" "streets" "[LWrongedMeters$Street;", Cond.classLink RX5 23 RX2, Cond.instantiable RX2 3, Cond.initialized RX2, Cond.fieldLink RX5 26 "WrongedMeters$Town" "ledger" "LWrongedMeters$Ledger;", Cond.arrayClass .int, Cond.fieldLink RX5 30 "WrongedMeters$Town" "settings" "[I", Cond.instantiable RX1 14, Cond.initialized RX1, Cond.instantiable RX4 2]
def wsX0_init_r2 : List Cond := [Cond.initialized RX4, Cond.instanceMethod yX2_init, Cond.code yX2_init cX2_init 1 none, Cond.methodLink RX2 3 objectInit, Cond.fieldLink RX2 11 "WrongedMeters$Ledger" "facts" "[I", Cond.instanceMethod yX1_init, Cond.code yX1_init cX1_init 1 none, Cond.methodLink RX1 3 objectInit, Cond.fieldLink RX1 9 "WrongedMeters$House" "latestDay" "I", Cond.methodLink RX5 35 yX4_init, Cond.instanceMethod yX4_init, Cond.code yX4_init cX4_init 2 none, Cond.methodLink RX4 3 objectInit, Cond.fieldLink RX4 9 "WrongedMeters$Street" "houses" "[I", Cond.fieldLink RX4 15 "WrongedMeters$Street" "latestStep" "I"]
def wsX0_init : List Cond := .code yX0_init cX0_init 2 none :: ((wsX0_init_r1 ++ wsX0_init_r2) ++ wsX00 ++ wsX50 ++ wsX20 ++ wsX10 ++ wsX40)
def wsX1_copyFrom : List Cond := .code yX1_copyFrom cX1_copyFrom 2 none :: ([.fieldLink RX1 15 "WrongedMeters$House" "street" "I", .fieldLink RX1 18 "WrongedMeters$House" "place" "I", .fieldLink RX1 21 "WrongedMeters$House" "dial" "I", .fieldLink RX1 24 "WrongedMeters$House" "dialBefore" "I", .fieldLink RX1 27 "WrongedMeters$House" "flow" "I", .fieldLink RX1 30 "WrongedMeters$House" "isLocked" "Z", .fieldLink RX1 34 "WrongedMeters$House" "balance" "I", .fieldLink RX1 9 "WrongedMeters$House" "latestDay" "I", .fieldLink RX1 37 "WrongedMeters$House" "readings" "I", .fieldLink RX1 40 "WrongedMeters$House" "units" "I", .fieldLink RX1 43 "WrongedMeters$House" "timesHouseWronged" "I", .fieldLink RX1 46 "WrongedMeters$House" "timesCompanyWronged" "I", .fieldLink RX1 49 "WrongedMeters$House" "refunds" "I", .fieldLink RX1 52 "WrongedMeters$House" "metersChanged" "I"] ++ wsX10)
def wsX4_copyFrom : List Cond := .code yX4_copyFrom cX4_copyFrom 2 none :: ([.fieldLink RX4 9 "WrongedMeters$Street" "houses" "[I", .methodLink RX4 19 arraycopyName, .native arraycopyName, .static arraycopyName, .initialized "java/lang/System", .fieldLink RX4 15 "WrongedMeters$Street" "latestStep" "I"] ++ wsX40)
def wsX2_copyFrom : List Cond := .code yX2_copyFrom cX2_copyFrom 2 none :: ([.fieldLink RX2 11 "WrongedMeters$Ledger" "facts" "[I", .methodLink RX2 15 arraycopyName, .native arraycopyName, .static arraycopyName, .initialized "java/lang/System", .fieldLink RX2 21 "WrongedMeters$Ledger" "nextRow" "I", .fieldLink RX2 25 "WrongedMeters$Ledger" "size" "I"] ++ wsX20)
def wsX5_copyFrom_r1 : List Cond := [Cond.fieldLink RX5 11 "WrongedMeters$Town" "houses" "[LWrongedMeters$House;", Cond.fieldLink RX5 19 "WrongedMeters$Town" "streets" "[LWrongedMeters$Street;", Cond.fieldLink RX5 26 "WrongedMeters$Town" "ledger" "LWrongedMeters$Ledger;", Cond.fieldLink RX5 30 "WrongedMeters$Town" "settings" "[I", Cond.methodLink RX5 49 arraycopyName, Cond.native arraycopyName, Cond.static arraycopyName, Cond.initialized "java/lang/System", Cond.fieldLink RX5 55 "WrongedMeters$Town" "houseCount" "I", Cond.fieldLink RX5 59 "WrongedMeters$Town" "now" "I", Cond.fieldLink RX5 62 "WrongedMeters$Town" "readings" "I", Cond.fieldLink RX5 65 "WrongedMeters$Town" "units" "I", Cond.fieldLink RX5 68 "WrongedMeters$Town" "coins" "I", Cond.fieldLink RX5 71 "WrongedMeters$Town" "hundredths" "I", Cond.fieldLink RX5 74 "WrongedMeters$Town" "refunds" "I", Cond.fieldLink RX5 77 "WrongedMeters$Town" "coinsBack" "I", Cond.fieldLink RX5 80 "WrongedMeters$Town" "years" "I", Cond.methodLink RX5 39 yX1_copyFrom, Cond.instanceMethod yX1_copyFrom, Cond.selects RX1 yX1_copyFrom yX1_copyFrom, Cond.initialized RX1, Cond.code yX1_copyFrom cX1_copyFrom 2 none, Cond.fieldLink RX1 15 "WrongedMeters$House" "street" "I", Cond.fieldLink RX1 18 "WrongedMeters$House" "place" "I"]
def wsX5_copyFrom_r2 : List Cond := [Cond.fieldLink RX1 21 "WrongedMeters$House" "dial" "I", Cond.fieldLink RX1 24 "WrongedMeters$House" "dialBefore" "I", Cond.fieldLink RX1 27 "WrongedMeters$House" "flow" "I", Cond.fieldLink RX1 30 "WrongedMeters$House" "isLocked" "Z", Cond.fieldLink RX1 34 "WrongedMeters$House" "balance" "I", Cond.fieldLink RX1 9 "WrongedMeters$House" "latestDay" "I", Cond.fieldLink RX1 37 "WrongedMeters$House" "readings" "I", Cond.fieldLink RX1 40 "WrongedMeters$House" "units" "I", Cond.fieldLink RX1 43 "WrongedMeters$House" "timesHouseWronged" "I", Cond.fieldLink RX1 46 "WrongedMeters$House" "timesCompanyWronged" "I", Cond.fieldLink RX1 49 "WrongedMeters$House" "refunds" "I", Cond.fieldLink RX1 52 "WrongedMeters$House" "metersChanged" "I", Cond.methodLink RX5 43 yX4_copyFrom, Cond.instanceMethod yX4_copyFrom, Cond.selects RX4 yX4_copyFrom yX4_copyFrom, Cond.initialized RX4, Cond.code yX4_copyFrom cX4_copyFrom 2 none, Cond.fieldLink RX4 9 "WrongedMeters$Street" "houses" "[I", Cond.methodLink RX4 19 arraycopyName, Cond.fieldLink RX4 15 "WrongedMeters$Street" "latestStep" "I", Cond.methodLink RX5 46 yX2_copyFrom, Cond.instanceMethod yX2_copyFrom, Cond.selects RX2 yX2_copyFrom yX2_copyFrom, Cond.initialized RX2]
def wsX5_copyFrom_r3 : List Cond := [Cond.code yX2_copyFrom cX2_copyFrom 2 none, Cond.fieldLink RX2 11 "WrongedMeters$Ledger" "facts" "[I", Cond.methodLink RX2 15 arraycopyName, Cond.fieldLink RX2 21 "WrongedMeters$Ledger" "nextRow" "I", Cond.fieldLink RX2 25 "WrongedMeters$Ledger" "size" "I"]
def wsX5_copyFrom : List Cond := .code yX5_copyFrom cX5_copyFrom 3 none :: ((wsX5_copyFrom_r1 ++ (wsX5_copyFrom_r2 ++ wsX5_copyFrom_r3)) ++ wsX50 ++ wsX10 ++ wsX40 ++ wsX20)
def wsX0_record_r1 : List Cond := [Cond.fieldLink RX0 13 "WrongedMeters$History" "states" "[LWrongedMeters$Town;", Cond.fieldLink RX0 18 "WrongedMeters$History" "freeSlot" "I", Cond.methodLink RX0 22 yX5_copyFrom, Cond.instanceMethod yX5_copyFrom, Cond.selects RX5 yX5_copyFrom yX5_copyFrom, Cond.initialized RX5, Cond.code yX5_copyFrom cX5_copyFrom 3 none, Cond.fieldLink RX5 11 "WrongedMeters$Town" "houses" "[LWrongedMeters$House;", Cond.fieldLink RX5 19 "WrongedMeters$Town" "streets" "[LWrongedMeters$Street;", Cond.fieldLink RX5 26 "WrongedMeters$Town" "ledger" "LWrongedMeters$Ledger;", Cond.fieldLink RX5 30 "WrongedMeters$Town" "settings" "[I", Cond.methodLink RX5 49 arraycopyName, Cond.native arraycopyName, Cond.static arraycopyName, Cond.initialized "java/lang/System", Cond.fieldLink RX5 55 "WrongedMeters$Town" "houseCount" "I", Cond.fieldLink RX5 59 "WrongedMeters$Town" "now" "I", Cond.fieldLink RX5 62 "WrongedMeters$Town" "readings" "I", Cond.fieldLink RX5 65 "WrongedMeters$Town" "units" "I", Cond.fieldLink RX5 68 "WrongedMeters$Town" "coins" "I", Cond.fieldLink RX5 71 "WrongedMeters$Town" "hundredths" "I", Cond.fieldLink RX5 74 "WrongedMeters$Town" "refunds" "I", Cond.fieldLink RX5 77 "WrongedMeters$Town" "coinsBack" "I", Cond.fieldLink RX5 80 "WrongedMeters$Town" "years" "I"]
def wsX0_record_r2 : List Cond := [Cond.methodLink RX5 39 yX1_copyFrom, Cond.instanceMethod yX1_copyFrom, Cond.selects RX1 yX1_copyFrom yX1_copyFrom, Cond.initialized RX1, Cond.code yX1_copyFrom cX1_copyFrom 2 none, Cond.fieldLink RX1 15 "WrongedMeters$House" "street" "I", Cond.fieldLink RX1 18 "WrongedMeters$House" "place" "I", Cond.fieldLink RX1 21 "WrongedMeters$House" "dial" "I", Cond.fieldLink RX1 24 "WrongedMeters$House" "dialBefore" "I", Cond.fieldLink RX1 27 "WrongedMeters$House" "flow" "I", Cond.fieldLink RX1 30 "WrongedMeters$House" "isLocked" "Z", Cond.fieldLink RX1 34 "WrongedMeters$House" "balance" "I", Cond.fieldLink RX1 9 "WrongedMeters$House" "latestDay" "I", Cond.fieldLink RX1 37 "WrongedMeters$House" "readings" "I", Cond.fieldLink RX1 40 "WrongedMeters$House" "units" "I", Cond.fieldLink RX1 43 "WrongedMeters$House" "timesHouseWronged" "I", Cond.fieldLink RX1 46 "WrongedMeters$House" "timesCompanyWronged" "I", Cond.fieldLink RX1 49 "WrongedMeters$House" "refunds" "I", Cond.fieldLink RX1 52 "WrongedMeters$House" "metersChanged" "I", Cond.methodLink RX5 43 yX4_copyFrom, Cond.instanceMethod yX4_copyFrom, Cond.selects RX4 yX4_copyFrom yX4_copyFrom, Cond.initialized RX4, Cond.code yX4_copyFrom cX4_copyFrom 2 none]
def wsX0_record_r3 : List Cond := [Cond.fieldLink RX4 9 "WrongedMeters$Street" "houses" "[I", Cond.methodLink RX4 19 arraycopyName, Cond.fieldLink RX4 15 "WrongedMeters$Street" "latestStep" "I", Cond.methodLink RX5 46 yX2_copyFrom, Cond.instanceMethod yX2_copyFrom, Cond.selects RX2 yX2_copyFrom yX2_copyFrom, Cond.initialized RX2, Cond.code yX2_copyFrom cX2_copyFrom 2 none, Cond.fieldLink RX2 11 "WrongedMeters$Ledger" "facts" "[I", Cond.methodLink RX2 15 arraycopyName, Cond.fieldLink RX2 21 "WrongedMeters$Ledger" "nextRow" "I", Cond.fieldLink RX2 25 "WrongedMeters$Ledger" "size" "I"]
def wsX0_record : List Cond := .code yX0_record cX0_record 2 none :: ((wsX0_record_r1 ++ (wsX0_record_r2 ++ wsX0_record_r3)) ++ wsX00 ++ wsX50 ++ wsX10 ++ wsX40 ++ wsX20)
def wsX0_keep : List Cond := .code yX0_keep cX0_keep 1 none :: ([.fieldLink RX0 18 "WrongedMeters$History" "freeSlot" "I", .fieldLink RX0 26 "WrongedMeters$History" "size" "I", .methodLink RX0 29 Lib.Math.min.name, .static Lib.Math.min.name, .initialized "java/lang/Math", .code Lib.Math.min.name Lib.Math.min.code 2 (some .int)] ++ wsX00)
def wsX0_restore_r1 : List Cond := [Cond.fieldLink RX0 26 "WrongedMeters$History" "size" "I", Cond.constant RX0 35 (-1000002), Cond.fieldLink RX0 18 "WrongedMeters$History" "freeSlot" "I", Cond.fieldLink RX0 13 "WrongedMeters$History" "states" "[LWrongedMeters$Town;", Cond.methodLink RX0 22 yX5_copyFrom, Cond.instanceMethod yX5_copyFrom, Cond.selects RX5 yX5_copyFrom yX5_copyFrom, Cond.initialized RX5, Cond.code yX5_copyFrom cX5_copyFrom 3 none, Cond.fieldLink RX5 11 "WrongedMeters$Town" "houses" "[LWrongedMeters$House;", Cond.fieldLink RX5 19 "WrongedMeters$Town" "streets" "[LWrongedMeters$Street;", Cond.fieldLink RX5 26 "WrongedMeters$Town" "ledger" "LWrongedMeters$Ledger;", Cond.fieldLink RX5 30 "WrongedMeters$Town" "settings" "[I", Cond.methodLink RX5 49 arraycopyName, Cond.native arraycopyName, Cond.static arraycopyName, Cond.initialized "java/lang/System", Cond.fieldLink RX5 55 "WrongedMeters$Town" "houseCount" "I", Cond.fieldLink RX5 59 "WrongedMeters$Town" "now" "I", Cond.fieldLink RX5 62 "WrongedMeters$Town" "readings" "I", Cond.fieldLink RX5 65 "WrongedMeters$Town" "units" "I", Cond.fieldLink RX5 68 "WrongedMeters$Town" "coins" "I", Cond.fieldLink RX5 71 "WrongedMeters$Town" "hundredths" "I", Cond.fieldLink RX5 74 "WrongedMeters$Town" "refunds" "I"]
def wsX0_restore_r2 : List Cond := [Cond.fieldLink RX5 77 "WrongedMeters$Town" "coinsBack" "I", Cond.fieldLink RX5 80 "WrongedMeters$Town" "years" "I", Cond.methodLink RX5 39 yX1_copyFrom, Cond.instanceMethod yX1_copyFrom, Cond.selects RX1 yX1_copyFrom yX1_copyFrom, Cond.initialized RX1, Cond.code yX1_copyFrom cX1_copyFrom 2 none, Cond.fieldLink RX1 15 "WrongedMeters$House" "street" "I", Cond.fieldLink RX1 18 "WrongedMeters$House" "place" "I", Cond.fieldLink RX1 21 "WrongedMeters$House" "dial" "I", Cond.fieldLink RX1 24 "WrongedMeters$House" "dialBefore" "I", Cond.fieldLink RX1 27 "WrongedMeters$House" "flow" "I", Cond.fieldLink RX1 30 "WrongedMeters$House" "isLocked" "Z", Cond.fieldLink RX1 34 "WrongedMeters$House" "balance" "I", Cond.fieldLink RX1 9 "WrongedMeters$House" "latestDay" "I", Cond.fieldLink RX1 37 "WrongedMeters$House" "readings" "I", Cond.fieldLink RX1 40 "WrongedMeters$House" "units" "I", Cond.fieldLink RX1 43 "WrongedMeters$House" "timesHouseWronged" "I", Cond.fieldLink RX1 46 "WrongedMeters$House" "timesCompanyWronged" "I", Cond.fieldLink RX1 49 "WrongedMeters$House" "refunds" "I", Cond.fieldLink RX1 52 "WrongedMeters$House" "metersChanged" "I", Cond.methodLink RX5 43 yX4_copyFrom, Cond.instanceMethod yX4_copyFrom, Cond.selects RX4 yX4_copyFrom yX4_copyFrom]
def wsX0_restore_r3 : List Cond := [Cond.initialized RX4, Cond.code yX4_copyFrom cX4_copyFrom 2 none, Cond.fieldLink RX4 9 "WrongedMeters$Street" "houses" "[I", Cond.methodLink RX4 19 arraycopyName, Cond.fieldLink RX4 15 "WrongedMeters$Street" "latestStep" "I", Cond.methodLink RX5 46 yX2_copyFrom, Cond.instanceMethod yX2_copyFrom, Cond.selects RX2 yX2_copyFrom yX2_copyFrom, Cond.initialized RX2, Cond.code yX2_copyFrom cX2_copyFrom 2 none, Cond.fieldLink RX2 11 "WrongedMeters$Ledger" "facts" "[I", Cond.methodLink RX2 15 arraycopyName, Cond.fieldLink RX2 21 "WrongedMeters$Ledger" "nextRow" "I", Cond.fieldLink RX2 25 "WrongedMeters$Ledger" "size" "I"]
def wsX0_restore : List Cond := .code yX0_restore cX0_restore 2 (some .int) :: ((wsX0_restore_r1 ++ (wsX0_restore_r2 ++ wsX0_restore_r3)) ++ wsX00 ++ wsX50 ++ wsX10 ++ wsX40 ++ wsX20)
def wsX1_used : List Cond := .code yX1_used cX1_used 1 (some .int) :: ([.fieldLink RX1 21 "WrongedMeters$House" "dial" "I", .fieldLink RX1 24 "WrongedMeters$House" "dialBefore" "I", .constant RX1 55 (100000)] ++ wsX10)
def wsX1_reasonOn : List Cond := .code yX1_reasonOn cX1_reasonOn 2 (some .int) :: ([.fieldLink RX1 30 "WrongedMeters$House" "isLocked" "Z", .fieldLink RX1 9 "WrongedMeters$House" "latestDay" "I"] ++ wsX10)
def wsX1_goOn : List Cond := .code yX1_goOn cX1_goOn 1 none :: ([.fieldLink RX1 21 "WrongedMeters$House" "dial" "I", .fieldLink RX1 27 "WrongedMeters$House" "flow" "I", .constant RX1 55 (100000)] ++ wsX10)
def wsX1_settle : List Cond := .code yX1_settle cX1_settle 4 none :: ([.fieldLink RX1 34 "WrongedMeters$House" "balance" "I", .fieldLink RX1 21 "WrongedMeters$House" "dial" "I", .fieldLink RX1 24 "WrongedMeters$House" "dialBefore" "I", .fieldLink RX1 9 "WrongedMeters$House" "latestDay" "I", .fieldLink RX1 37 "WrongedMeters$House" "readings" "I", .fieldLink RX1 40 "WrongedMeters$House" "units" "I", .fieldLink RX1 43 "WrongedMeters$House" "timesHouseWronged" "I", .fieldLink RX1 46 "WrongedMeters$House" "timesCompanyWronged" "I"] ++ wsX10)
def wsX1_renewMeter : List Cond := .code yX1_renewMeter cX1_renewMeter 1 none :: ([.fieldLink RX1 21 "WrongedMeters$House" "dial" "I", .fieldLink RX1 24 "WrongedMeters$House" "dialBefore" "I", .fieldLink RX1 52 "WrongedMeters$House" "metersChanged" "I"] ++ wsX10)
def wsX1_fact : List Cond := .code yX1_fact cX1_fact 2 (some .int) :: ([.fieldLink RX1 15 "WrongedMeters$House" "street" "I", .fieldLink RX1 18 "WrongedMeters$House" "place" "I", .fieldLink RX1 21 "WrongedMeters$House" "dial" "I", .fieldLink RX1 34 "WrongedMeters$House" "balance" "I", .fieldLink RX1 27 "WrongedMeters$House" "flow" "I", .fieldLink RX1 30 "WrongedMeters$House" "isLocked" "Z", .fieldLink RX1 9 "WrongedMeters$House" "latestDay" "I", .constant RX1 60 (-1000004), .fieldLink RX1 37 "WrongedMeters$House" "readings" "I", .fieldLink RX1 40 "WrongedMeters$House" "units" "I", .fieldLink RX1 43 "WrongedMeters$House" "timesHouseWronged" "I", .fieldLink RX1 46 "WrongedMeters$House" "timesCompanyWronged" "I", .fieldLink RX1 49 "WrongedMeters$House" "refunds" "I", .fieldLink RX1 52 "WrongedMeters$House" "metersChanged" "I", .constant RX1 61 (-1000001), .methodLink RX1 56 yX1_used, .instanceMethod yX1_used, .selects RX1 yX1_used yX1_used, .initialized RX1, .code yX1_used cX1_used 1 (some .int), .fieldLink RX1 24 "WrongedMeters$House" "dialBefore" "I", .constant RX1 55 (100000)] ++ wsX10)
def wsX2_add : List Cond := .code yX2_add cX2_add 7 none :: ([.fieldLink RX2 21 "WrongedMeters$Ledger" "nextRow" "I", .fieldLink RX2 11 "WrongedMeters$Ledger" "facts" "[I", .fieldLink RX2 25 "WrongedMeters$Ledger" "size" "I", .methodLink RX2 28 Lib.Math.min.name, .static Lib.Math.min.name, .initialized "java/lang/Math", .code Lib.Math.min.name Lib.Math.min.code 2 (some .int)] ++ wsX20)
def wsX2_entry : List Cond := .code yX2_entry cX2_entry 4 (some .int) :: ([.constant RX2 34 (-1000001), .fieldLink RX2 25 "WrongedMeters$Ledger" "size" "I", .constant RX2 35 (-1000004), .fieldLink RX2 21 "WrongedMeters$Ledger" "nextRow" "I", .fieldLink RX2 11 "WrongedMeters$Ledger" "facts" "[I"] ++ wsX20)
def wsX3_init : List Cond := .code yX3_init cX3_init 1 none :: ([.methodLink RX3 3 objectInit, .instanceMethod objectInit, .code objectInit ⟨#[0xb1]⟩ 1 none, .arrayClass .int, .fieldLink RX3 11 "WrongedMeters$Orders" "text" "[I"] ++ wsX30)
def wsX3_append : List Cond := .code yX3_append cX3_append 2 (some .int) :: ([.constant RX3 15 (-1000001), .fieldLink RX3 16 "WrongedMeters$Orders" "length" "I", .constant RX3 20 (-1000003), .fieldLink RX3 11 "WrongedMeters$Orders" "text" "[I"] ++ wsX30)
def wsX3_empty : List Cond := .code yX3_empty cX3_empty 2 (some .int) :: ([.fieldLink RX3 16 "WrongedMeters$Orders" "length" "I"] ++ wsX30)
def wsX3_sign : List Cond := .code yX3_sign cX3_sign 1 (some .int) :: ([.fieldLink RX3 21 "WrongedMeters$Orders" "position" "I", .fieldLink RX3 16 "WrongedMeters$Orders" "length" "I", .fieldLink RX3 11 "WrongedMeters$Orders" "text" "[I"] ++ wsX30)
def wsX3_isLetterOfOrder : List Cond := .code yX3_isLetterOfOrder cX3_isLetterOfOrder 1 (some .boolean) :: ([])
def wsX3_isDigit : List Cond := .code yX3_isDigit cX3_isDigit 1 (some .boolean) :: ([])
def wsX3_takeNumber : List Cond := .code yX3_takeNumber cX3_takeNumber 3 (some .int) :: ([.methodLink RX3 73 Lib.Math.max.name, .static Lib.Math.max.name, .initialized "java/lang/Math", .code Lib.Math.max.name Lib.Math.max.code 2 (some .int), .fieldLink RX3 21 "WrongedMeters$Orders" "position" "I", .methodLink RX3 56 yX3_sign, .instanceMethod yX3_sign, .selects RX3 yX3_sign yX3_sign, .initialized RX3, .code yX3_sign cX3_sign 1 (some .int), .fieldLink RX3 16 "WrongedMeters$Orders" "length" "I", .fieldLink RX3 11 "WrongedMeters$Orders" "text" "[I", .methodLink RX3 70 yX3_isDigit, .static yX3_isDigit, .code yX3_isDigit cX3_isDigit 1 (some .boolean)] ++ wsX30)
def wsX3_takeSign : List Cond := .code yX3_takeSign cX3_takeSign 2 (some .boolean) :: ([.fieldLink RX3 21 "WrongedMeters$Orders" "position" "I", .methodLink RX3 56 yX3_sign, .instanceMethod yX3_sign, .selects RX3 yX3_sign yX3_sign, .initialized RX3, .code yX3_sign cX3_sign 1 (some .int), .fieldLink RX3 16 "WrongedMeters$Orders" "length" "I", .fieldLink RX3 11 "WrongedMeters$Orders" "text" "[I"] ++ wsX30)
def wsX3_takeOrder_r1 : List Cond := [Cond.fieldLink RX3 40 "WrongedMeters$Orders" "letter" "I", Cond.fieldLink RX3 46 "WrongedMeters$Orders" "second" "I", Cond.fieldLink RX3 21 "WrongedMeters$Orders" "position" "I", Cond.fieldLink RX3 43 "WrongedMeters$Orders" "first" "I", Cond.methodLink RX3 56 yX3_sign, Cond.instanceMethod yX3_sign, Cond.selects RX3 yX3_sign yX3_sign, Cond.initialized RX3, Cond.code yX3_sign cX3_sign 1 (some .int), Cond.fieldLink RX3 16 "WrongedMeters$Orders" "length" "I", Cond.fieldLink RX3 11 "WrongedMeters$Orders" "text" "[I", Cond.methodLink RX3 60 yX3_isLetterOfOrder, Cond.static yX3_isLetterOfOrder, Cond.code yX3_isLetterOfOrder cX3_isLetterOfOrder 1 (some .boolean), Cond.methodLink RX3 64 yX3_takeNumber, Cond.instanceMethod yX3_takeNumber, Cond.selects RX3 yX3_takeNumber yX3_takeNumber, Cond.code yX3_takeNumber cX3_takeNumber 3 (some .int), Cond.methodLink RX3 73 Lib.Math.max.name, Cond.static Lib.Math.max.name, Cond.initialized "java/lang/Math", Cond.code Lib.Math.max.name Lib.Math.max.code 2 (some .int), Cond.methodLink RX3 70 yX3_isDigit, Cond.static yX3_isDigit]
def wsX3_takeOrder_r2 : List Cond := [Cond.code yX3_isDigit cX3_isDigit 1 (some .boolean), Cond.methodLink RX3 67 yX3_takeSign, Cond.instanceMethod yX3_takeSign, Cond.selects RX3 yX3_takeSign yX3_takeSign, Cond.code yX3_takeSign cX3_takeSign 2 (some .boolean)]
def wsX3_takeOrder : List Cond := .code yX3_takeOrder cX3_takeOrder 1 (some .boolean) :: ((wsX3_takeOrder_r1 ++ wsX3_takeOrder_r2) ++ wsX30)
def wsX5_streetNumbered : List Cond := .code yX5_streetNumbered cX5_streetNumbered 2 (some (.object "WrongedMeters$Street")) :: ([.fieldLink RX5 19 "WrongedMeters$Town" "streets" "[LWrongedMeters$Street;"] ++ wsX50)
def wsX6_isPlace : List Cond := .code yX6_isPlace cX6_isPlace 1 (some .boolean) :: ([])
def wsX6_stepOf : List Cond := .code yX6_stepOf cX6_stepOf 1 (some .int) :: ([])
def wsX4_houseOn : List Cond := .code yX4_houseOn cX4_houseOn 2 (some .int) :: ([.fieldLink RX4 9 "WrongedMeters$Street" "houses" "[I"] ++ wsX40)
def wsX4_putHouse : List Cond := .code yX4_putHouse cX4_putHouse 3 none :: ([.fieldLink RX4 9 "WrongedMeters$Street" "houses" "[I"] ++ wsX40)
def wsX5_addHouse_r1 : List Cond := [Cond.constant RX5 100 (-1000001), Cond.constant RX5 119 (-1000002), Cond.fieldLink RX5 55 "WrongedMeters$Town" "houseCount" "I", Cond.constant RX5 101 (-1000003), Cond.fieldLink RX5 11 "WrongedMeters$Town" "houses" "[LWrongedMeters$House;", Cond.methodLink RX5 105 yX5_streetNumbered, Cond.instanceMethod yX5_streetNumbered, Cond.selects RX5 yX5_streetNumbered yX5_streetNumbered, Cond.initialized RX5, Cond.code yX5_streetNumbered cX5_streetNumbered 2 (some (.object "WrongedMeters$Street")), Cond.fieldLink RX5 19 "WrongedMeters$Town" "streets" "[LWrongedMeters$Street;", Cond.static yX6_isPlace, Cond.initialized RX6, Cond.code yX6_isPlace cX6_isPlace 1 (some .boolean), Cond.static yX6_stepOf, Cond.code yX6_stepOf cX6_stepOf 1 (some .int), Cond.methodLink RX5 116 yX4_houseOn, Cond.instanceMethod yX4_houseOn, Cond.selects RX4 yX4_houseOn yX4_houseOn, Cond.initialized RX4, Cond.code yX4_houseOn cX4_houseOn 2 (some .int), Cond.fieldLink RX4 9 "WrongedMeters$Street" "houses" "[I", Cond.methodLink RX5 126 yX4_putHouse, Cond.instanceMethod yX4_putHouse]
def wsX5_addHouse_r2 : List Cond := [Cond.selects RX4 yX4_putHouse yX4_putHouse, Cond.code yX4_putHouse cX4_putHouse 3 none]
def wsX5_addHouse : List Cond := .code yX5_addHouse cX5_addHouse 5 (some .int) :: ((wsX5_addHouse_r1 ++ wsX5_addHouse_r2) ++ wsX50 ++ wsX10 ++ wsX40)
def wsX5_houseNumbered : List Cond := .code yX5_houseNumbered cX5_houseNumbered 2 (some (.object "WrongedMeters$House")) :: ([.fieldLink RX5 55 "WrongedMeters$Town" "houseCount" "I", .fieldLink RX5 11 "WrongedMeters$Town" "houses" "[LWrongedMeters$House;"] ++ wsX50)
def wsX5_putFlow : List Cond := .code yX5_putFlow cX5_putFlow 5 (some .int) :: ([.constant RX5 100 (-1000001), .methodLink RX5 130 yX5_houseNumbered, .instanceMethod yX5_houseNumbered, .selects RX5 yX5_houseNumbered yX5_houseNumbered, .initialized RX5, .code yX5_houseNumbered cX5_houseNumbered 2 (some (.object "WrongedMeters$House")), .fieldLink RX5 55 "WrongedMeters$Town" "houseCount" "I", .fieldLink RX5 11 "WrongedMeters$Town" "houses" "[LWrongedMeters$House;"] ++ wsX10 ++ wsX50)
def wsX5_putLock : List Cond := .code yX5_putLock cX5_putLock 5 (some .int) :: ([.constant RX5 100 (-1000001), .methodLink RX5 130 yX5_houseNumbered, .instanceMethod yX5_houseNumbered, .selects RX5 yX5_houseNumbered yX5_houseNumbered, .initialized RX5, .code yX5_houseNumbered cX5_houseNumbered 2 (some (.object "WrongedMeters$House")), .fieldLink RX5 55 "WrongedMeters$Town" "houseCount" "I", .fieldLink RX5 11 "WrongedMeters$Town" "houses" "[LWrongedMeters$House;"] ++ wsX10 ++ wsX50)
def wsX5_turnLock : List Cond := .code yX5_turnLock cX5_turnLock 3 (some .int) :: ([.constant RX5 100 (-1000001), .methodLink RX5 130 yX5_houseNumbered, .instanceMethod yX5_houseNumbered, .selects RX5 yX5_houseNumbered yX5_houseNumbered, .initialized RX5, .code yX5_houseNumbered cX5_houseNumbered 2 (some (.object "WrongedMeters$House")), .fieldLink RX5 55 "WrongedMeters$Town" "houseCount" "I", .fieldLink RX5 11 "WrongedMeters$Town" "houses" "[LWrongedMeters$House;", .methodLink RX5 141 yX5_putLock, .instanceMethod yX5_putLock, .selects RX5 yX5_putLock yX5_putLock, .code yX5_putLock cX5_putLock 5 (some .int)] ++ wsX10 ++ wsX50)
def wsX6_unitsFor : List Cond := .code yX6_unitsFor cX6_unitsFor 2 (some .int) :: ([])
def wsX5_readMeter_r1 : List Cond := [Cond.fieldLink RX5 59 "WrongedMeters$Town" "now" "I", Cond.fieldLink RX5 26 "WrongedMeters$Town" "ledger" "LWrongedMeters$Ledger;", Cond.fieldLink RX5 62 "WrongedMeters$Town" "readings" "I", Cond.fieldLink RX5 65 "WrongedMeters$Town" "units" "I", Cond.fieldLink RX5 68 "WrongedMeters$Town" "coins" "I", Cond.fieldLink RX5 30 "WrongedMeters$Town" "settings" "[I", Cond.fieldLink RX5 71 "WrongedMeters$Town" "hundredths" "I", Cond.methodLink RX5 161 yX1_used, Cond.instanceMethod yX1_used, Cond.selects RX1 yX1_used yX1_used, Cond.initialized RX1, Cond.code yX1_used cX1_used 1 (some .int), Cond.fieldLink RX1 21 "WrongedMeters$House" "dial" "I", Cond.fieldLink RX1 24 "WrongedMeters$House" "dialBefore" "I", Cond.constant RX1 55 (100000), Cond.static yX6_unitsFor, Cond.initialized RX6, Cond.code yX6_unitsFor cX6_unitsFor 2 (some .int), Cond.methodLink RX5 171 yX1_settle, Cond.instanceMethod yX1_settle, Cond.selects RX1 yX1_settle yX1_settle, Cond.code yX1_settle cX1_settle 4 none, Cond.fieldLink RX1 34 "WrongedMeters$House" "balance" "I", Cond.fieldLink RX1 9 "WrongedMeters$House" "latestDay" "I"]
def wsX5_readMeter_r2 : List Cond := [Cond.fieldLink RX1 37 "WrongedMeters$House" "readings" "I", Cond.fieldLink RX1 40 "WrongedMeters$House" "units" "I", Cond.fieldLink RX1 43 "WrongedMeters$House" "timesHouseWronged" "I", Cond.fieldLink RX1 46 "WrongedMeters$House" "timesCompanyWronged" "I", Cond.methodLink RX5 175 yX2_add, Cond.instanceMethod yX2_add, Cond.selects RX2 yX2_add yX2_add, Cond.initialized RX2, Cond.code yX2_add cX2_add 7 none, Cond.fieldLink RX2 21 "WrongedMeters$Ledger" "nextRow" "I", Cond.fieldLink RX2 11 "WrongedMeters$Ledger" "facts" "[I", Cond.fieldLink RX2 25 "WrongedMeters$Ledger" "size" "I", Cond.methodLink RX2 28 Lib.Math.min.name, Cond.static Lib.Math.min.name, Cond.initialized "java/lang/Math", Cond.code Lib.Math.min.name Lib.Math.min.code 2 (some .int)]
def wsX5_readMeter : List Cond := .code yX5_readMeter cX5_readMeter 5 (some .int) :: ((wsX5_readMeter_r1 ++ wsX5_readMeter_r2) ++ wsX10 ++ wsX50 ++ wsX20)
def wsX5_readIfOpen_r1 : List Cond := [Cond.constant RX5 100 (-1000001), Cond.fieldLink RX5 59 "WrongedMeters$Town" "now" "I", Cond.constant RX5 119 (-1000002), Cond.methodLink RX5 130 yX5_houseNumbered, Cond.instanceMethod yX5_houseNumbered, Cond.selects RX5 yX5_houseNumbered yX5_houseNumbered, Cond.initialized RX5, Cond.code yX5_houseNumbered cX5_houseNumbered 2 (some (.object "WrongedMeters$House")), Cond.fieldLink RX5 55 "WrongedMeters$Town" "houseCount" "I", Cond.fieldLink RX5 11 "WrongedMeters$Town" "houses" "[LWrongedMeters$House;", Cond.methodLink RX5 151 yX1_reasonOn, Cond.instanceMethod yX1_reasonOn, Cond.selects RX1 yX1_reasonOn yX1_reasonOn, Cond.initialized RX1, Cond.code yX1_reasonOn cX1_reasonOn 2 (some .int), Cond.fieldLink RX1 30 "WrongedMeters$House" "isLocked" "Z", Cond.fieldLink RX1 9 "WrongedMeters$House" "latestDay" "I", Cond.methodLink RX5 154 yX5_readMeter, Cond.instanceMethod yX5_readMeter, Cond.selects RX5 yX5_readMeter yX5_readMeter, Cond.code yX5_readMeter cX5_readMeter 5 (some .int), Cond.fieldLink RX5 26 "WrongedMeters$Town" "ledger" "LWrongedMeters$Ledger;", Cond.fieldLink RX5 62 "WrongedMeters$Town" "readings" "I", Cond.fieldLink RX5 65 "WrongedMeters$Town" "units" "I"]
def wsX5_readIfOpen_r2 : List Cond := [Cond.fieldLink RX5 68 "WrongedMeters$Town" "coins" "I", Cond.fieldLink RX5 30 "WrongedMeters$Town" "settings" "[I", Cond.fieldLink RX5 71 "WrongedMeters$Town" "hundredths" "I", Cond.methodLink RX5 161 yX1_used, Cond.instanceMethod yX1_used, Cond.selects RX1 yX1_used yX1_used, Cond.code yX1_used cX1_used 1 (some .int), Cond.fieldLink RX1 21 "WrongedMeters$House" "dial" "I", Cond.fieldLink RX1 24 "WrongedMeters$House" "dialBefore" "I", Cond.constant RX1 55 (100000), Cond.static yX6_unitsFor, Cond.initialized RX6, Cond.code yX6_unitsFor cX6_unitsFor 2 (some .int), Cond.methodLink RX5 171 yX1_settle, Cond.instanceMethod yX1_settle, Cond.selects RX1 yX1_settle yX1_settle, Cond.code yX1_settle cX1_settle 4 none, Cond.fieldLink RX1 34 "WrongedMeters$House" "balance" "I", Cond.fieldLink RX1 37 "WrongedMeters$House" "readings" "I", Cond.fieldLink RX1 40 "WrongedMeters$House" "units" "I", Cond.fieldLink RX1 43 "WrongedMeters$House" "timesHouseWronged" "I", Cond.fieldLink RX1 46 "WrongedMeters$House" "timesCompanyWronged" "I", Cond.methodLink RX5 175 yX2_add, Cond.instanceMethod yX2_add]
def wsX5_readIfOpen_r3 : List Cond := [Cond.selects RX2 yX2_add yX2_add, Cond.initialized RX2, Cond.code yX2_add cX2_add 7 none, Cond.fieldLink RX2 21 "WrongedMeters$Ledger" "nextRow" "I", Cond.fieldLink RX2 11 "WrongedMeters$Ledger" "facts" "[I", Cond.fieldLink RX2 25 "WrongedMeters$Ledger" "size" "I", Cond.methodLink RX2 28 Lib.Math.min.name, Cond.static Lib.Math.min.name, Cond.initialized "java/lang/Math", Cond.code Lib.Math.min.name Lib.Math.min.code 2 (some .int)]
def wsX5_readIfOpen : List Cond := .code yX5_readIfOpen cX5_readIfOpen 3 (some .int) :: ((wsX5_readIfOpen_r1 ++ (wsX5_readIfOpen_r2 ++ wsX5_readIfOpen_r3)) ++ wsX50 ++ wsX10 ++ wsX20)
def wsX5_changeMeter_r1 : List Cond := [Cond.constant RX5 100 (-1000001), Cond.methodLink RX5 130 yX5_houseNumbered, Cond.instanceMethod yX5_houseNumbered, Cond.selects RX5 yX5_houseNumbered yX5_houseNumbered, Cond.initialized RX5, Cond.code yX5_houseNumbered cX5_houseNumbered 2 (some (.object "WrongedMeters$House")), Cond.fieldLink RX5 55 "WrongedMeters$Town" "houseCount" "I", Cond.fieldLink RX5 11 "WrongedMeters$Town" "houses" "[LWrongedMeters$House;", Cond.methodLink RX5 154 yX5_readMeter, Cond.instanceMethod yX5_readMeter, Cond.selects RX5 yX5_readMeter yX5_readMeter, Cond.code yX5_readMeter cX5_readMeter 5 (some .int), Cond.fieldLink RX5 59 "WrongedMeters$Town" "now" "I", Cond.fieldLink RX5 26 "WrongedMeters$Town" "ledger" "LWrongedMeters$Ledger;", Cond.fieldLink RX5 62 "WrongedMeters$Town" "readings" "I", Cond.fieldLink RX5 65 "WrongedMeters$Town" "units" "I", Cond.fieldLink RX5 68 "WrongedMeters$Town" "coins" "I", Cond.fieldLink RX5 30 "WrongedMeters$Town" "settings" "[I", Cond.fieldLink RX5 71 "WrongedMeters$Town" "hundredths" "I", Cond.methodLink RX5 161 yX1_used, Cond.instanceMethod yX1_used, Cond.selects RX1 yX1_used yX1_used, Cond.initialized RX1, Cond.code yX1_used cX1_used 1 (some .int)]
def wsX5_changeMeter_r2 : List Cond := [Cond.fieldLink RX1 21 "WrongedMeters$House" "dial" "I", Cond.fieldLink RX1 24 "WrongedMeters$House" "dialBefore" "I", Cond.constant RX1 55 (100000), Cond.static yX6_unitsFor, Cond.initialized RX6, Cond.code yX6_unitsFor cX6_unitsFor 2 (some .int), Cond.methodLink RX5 171 yX1_settle, Cond.instanceMethod yX1_settle, Cond.selects RX1 yX1_settle yX1_settle, Cond.code yX1_settle cX1_settle 4 none, Cond.fieldLink RX1 34 "WrongedMeters$House" "balance" "I", Cond.fieldLink RX1 9 "WrongedMeters$House" "latestDay" "I", Cond.fieldLink RX1 37 "WrongedMeters$House" "readings" "I", Cond.fieldLink RX1 40 "WrongedMeters$House" "units" "I", Cond.fieldLink RX1 43 "WrongedMeters$House" "timesHouseWronged" "I", Cond.fieldLink RX1 46 "WrongedMeters$House" "timesCompanyWronged" "I", Cond.methodLink RX5 175 yX2_add, Cond.instanceMethod yX2_add, Cond.selects RX2 yX2_add yX2_add, Cond.initialized RX2, Cond.code yX2_add cX2_add 7 none, Cond.fieldLink RX2 21 "WrongedMeters$Ledger" "nextRow" "I", Cond.fieldLink RX2 11 "WrongedMeters$Ledger" "facts" "[I", Cond.fieldLink RX2 25 "WrongedMeters$Ledger" "size" "I"]
def wsX5_changeMeter_r3 : List Cond := [Cond.methodLink RX2 28 Lib.Math.min.name, Cond.static Lib.Math.min.name, Cond.initialized "java/lang/Math", Cond.code Lib.Math.min.name Lib.Math.min.code 2 (some .int), Cond.methodLink RX5 158 yX1_renewMeter, Cond.instanceMethod yX1_renewMeter, Cond.selects RX1 yX1_renewMeter yX1_renewMeter, Cond.code yX1_renewMeter cX1_renewMeter 1 none, Cond.fieldLink RX1 52 "WrongedMeters$House" "metersChanged" "I"]
def wsX5_changeMeter : List Cond := .code yX5_changeMeter cX5_changeMeter 4 (some .int) :: ((wsX5_changeMeter_r1 ++ (wsX5_changeMeter_r2 ++ wsX5_changeMeter_r3)) ++ wsX50 ++ wsX10 ++ wsX20)
def wsX4_stepAhead : List Cond := .code yX4_stepAhead cX4_stepAhead 2 (some .int) :: ([.fieldLink RX4 15 "WrongedMeters$Street" "latestStep" "I"] ++ wsX40)
def wsX5_walk_r1 : List Cond := [Cond.fieldLink RX5 30 "WrongedMeters$Town" "settings" "[I", Cond.fieldLink RX5 59 "WrongedMeters$Town" "now" "I", Cond.methodLink RX5 188 yX4_stepAhead, Cond.instanceMethod yX4_stepAhead, Cond.selects RX4 yX4_stepAhead yX4_stepAhead, Cond.initialized RX4, Cond.code yX4_stepAhead cX4_stepAhead 2 (some .int), Cond.fieldLink RX4 15 "WrongedMeters$Street" "latestStep" "I", Cond.methodLink RX5 116 yX4_houseOn, Cond.instanceMethod yX4_houseOn, Cond.selects RX4 yX4_houseOn yX4_houseOn, Cond.code yX4_houseOn cX4_houseOn 2 (some .int), Cond.fieldLink RX4 9 "WrongedMeters$Street" "houses" "[I", Cond.methodLink RX5 130 yX5_houseNumbered, Cond.instanceMethod yX5_houseNumbered, Cond.selects RX5 yX5_houseNumbered yX5_houseNumbered, Cond.initialized RX5, Cond.code yX5_houseNumbered cX5_houseNumbered 2 (some (.object "WrongedMeters$House")), Cond.fieldLink RX5 55 "WrongedMeters$Town" "houseCount" "I", Cond.fieldLink RX5 11 "WrongedMeters$Town" "houses" "[LWrongedMeters$House;", Cond.methodLink RX5 151 yX1_reasonOn, Cond.instanceMethod yX1_reasonOn, Cond.selects RX1 yX1_reasonOn yX1_reasonOn, Cond.initialized RX1]
def wsX5_walk_r2 : List Cond := [Cond.code yX1_reasonOn cX1_reasonOn 2 (some .int), Cond.fieldLink RX1 30 "WrongedMeters$House" "isLocked" "Z", Cond.fieldLink RX1 9 "WrongedMeters$House" "latestDay" "I", Cond.methodLink RX5 154 yX5_readMeter, Cond.instanceMethod yX5_readMeter, Cond.selects RX5 yX5_readMeter yX5_readMeter, Cond.code yX5_readMeter cX5_readMeter 5 (some .int), Cond.fieldLink RX5 26 "WrongedMeters$Town" "ledger" "LWrongedMeters$Ledger;", Cond.fieldLink RX5 62 "WrongedMeters$Town" "readings" "I", Cond.fieldLink RX5 65 "WrongedMeters$Town" "units" "I", Cond.fieldLink RX5 68 "WrongedMeters$Town" "coins" "I", Cond.fieldLink RX5 71 "WrongedMeters$Town" "hundredths" "I", Cond.methodLink RX5 161 yX1_used, Cond.instanceMethod yX1_used, Cond.selects RX1 yX1_used yX1_used, Cond.code yX1_used cX1_used 1 (some .int), Cond.fieldLink RX1 21 "WrongedMeters$House" "dial" "I", Cond.fieldLink RX1 24 "WrongedMeters$House" "dialBefore" "I", Cond.constant RX1 55 (100000), Cond.static yX6_unitsFor, Cond.initialized RX6, Cond.code yX6_unitsFor cX6_unitsFor 2 (some .int), Cond.methodLink RX5 171 yX1_settle, Cond.instanceMethod yX1_settle]
def wsX5_walk_r3 : List Cond := [Cond.selects RX1 yX1_settle yX1_settle, Cond.code yX1_settle cX1_settle 4 none, Cond.fieldLink RX1 34 "WrongedMeters$House" "balance" "I", Cond.fieldLink RX1 37 "WrongedMeters$House" "readings" "I", Cond.fieldLink RX1 40 "WrongedMeters$House" "units" "I", Cond.fieldLink RX1 43 "WrongedMeters$House" "timesHouseWronged" "I", Cond.fieldLink RX1 46 "WrongedMeters$House" "timesCompanyWronged" "I", Cond.methodLink RX5 175 yX2_add, Cond.instanceMethod yX2_add, Cond.selects RX2 yX2_add yX2_add, Cond.initialized RX2, Cond.code yX2_add cX2_add 7 none, Cond.fieldLink RX2 21 "WrongedMeters$Ledger" "nextRow" "I", Cond.fieldLink RX2 11 "WrongedMeters$Ledger" "facts" "[I", Cond.fieldLink RX2 25 "WrongedMeters$Ledger" "size" "I", Cond.methodLink RX2 28 Lib.Math.min.name, Cond.static Lib.Math.min.name, Cond.initialized "java/lang/Math", Cond.code Lib.Math.min.name Lib.Math.min.code 2 (some .int)]
def wsX5_walk : List Cond := .code yX5_walk cX5_walk 8 none :: ((wsX5_walk_r1 ++ (wsX5_walk_r2 ++ wsX5_walk_r3)) ++ wsX50 ++ wsX40 ++ wsX10 ++ wsX20)
def wsX5_endYear : List Cond := .code yX5_endYear cX5_endYear 5 none :: ([.fieldLink RX5 80 "WrongedMeters$Town" "years" "I", .fieldLink RX5 11 "WrongedMeters$Town" "houses" "[LWrongedMeters$House;", .fieldLink RX5 30 "WrongedMeters$Town" "settings" "[I", .fieldLink RX5 74 "WrongedMeters$Town" "refunds" "I", .fieldLink RX5 77 "WrongedMeters$Town" "coinsBack" "I"] ++ wsX50 ++ wsX10)
def wsX5_passDays_r1 : List Cond := [Cond.fieldLink RX5 62 "WrongedMeters$Town" "readings" "I", Cond.fieldLink RX5 11 "WrongedMeters$Town" "houses" "[LWrongedMeters$House;", Cond.fieldLink RX5 59 "WrongedMeters$Town" "now" "I", Cond.fieldLink RX5 19 "WrongedMeters$Town" "streets" "[LWrongedMeters$Street;", Cond.fieldLink RX5 30 "WrongedMeters$Town" "settings" "[I", Cond.methodLink RX5 179 yX1_goOn, Cond.instanceMethod yX1_goOn, Cond.selects RX1 yX1_goOn yX1_goOn, Cond.initialized RX1, Cond.code yX1_goOn cX1_goOn 1 none, Cond.fieldLink RX1 21 "WrongedMeters$House" "dial" "I", Cond.fieldLink RX1 27 "WrongedMeters$House" "flow" "I", Cond.constant RX1 55 (100000), Cond.methodLink RX5 182 yX5_walk, Cond.instanceMethod yX5_walk, Cond.selects RX5 yX5_walk yX5_walk, Cond.initialized RX5, Cond.code yX5_walk cX5_walk 8 none, Cond.methodLink RX5 188 yX4_stepAhead, Cond.instanceMethod yX4_stepAhead, Cond.selects RX4 yX4_stepAhead yX4_stepAhead, Cond.initialized RX4, Cond.code yX4_stepAhead cX4_stepAhead 2 (some .int), Cond.fieldLink RX4 15 "WrongedMeters$Street" "latestStep" "I"]
def wsX5_passDays_r2 : List Cond := [Cond.methodLink RX5 116 yX4_houseOn, Cond.instanceMethod yX4_houseOn, Cond.selects RX4 yX4_houseOn yX4_houseOn, Cond.code yX4_houseOn cX4_houseOn 2 (some .int), Cond.fieldLink RX4 9 "WrongedMeters$Street" "houses" "[I", Cond.methodLink RX5 130 yX5_houseNumbered, Cond.instanceMethod yX5_houseNumbered, Cond.selects RX5 yX5_houseNumbered yX5_houseNumbered, Cond.code yX5_houseNumbered cX5_houseNumbered 2 (some (.object "WrongedMeters$House")), Cond.fieldLink RX5 55 "WrongedMeters$Town" "houseCount" "I", Cond.methodLink RX5 151 yX1_reasonOn, Cond.instanceMethod yX1_reasonOn, Cond.selects RX1 yX1_reasonOn yX1_reasonOn, Cond.code yX1_reasonOn cX1_reasonOn 2 (some .int), Cond.fieldLink RX1 30 "WrongedMeters$House" "isLocked" "Z", Cond.fieldLink RX1 9 "WrongedMeters$House" "latestDay" "I", Cond.methodLink RX5 154 yX5_readMeter, Cond.instanceMethod yX5_readMeter, Cond.selects RX5 yX5_readMeter yX5_readMeter, Cond.code yX5_readMeter cX5_readMeter 5 (some .int), Cond.fieldLink RX5 26 "WrongedMeters$Town" "ledger" "LWrongedMeters$Ledger;", Cond.fieldLink RX5 65 "WrongedMeters$Town" "units" "I", Cond.fieldLink RX5 68 "WrongedMeters$Town" "coins" "I", Cond.fieldLink RX5 71 "WrongedMeters$Town" "hundredths" "I"]
def wsX5_passDays_r3 : List Cond := [Cond.methodLink RX5 161 yX1_used, Cond.instanceMethod yX1_used, Cond.selects RX1 yX1_used yX1_used, Cond.code yX1_used cX1_used 1 (some .int), Cond.fieldLink RX1 24 "WrongedMeters$House" "dialBefore" "I", Cond.static yX6_unitsFor, Cond.initialized RX6, Cond.code yX6_unitsFor cX6_unitsFor 2 (some .int), Cond.methodLink RX5 171 yX1_settle, Cond.instanceMethod yX1_settle, Cond.selects RX1 yX1_settle yX1_settle, Cond.code yX1_settle cX1_settle 4 none, Cond.fieldLink RX1 34 "WrongedMeters$House" "balance" "I", Cond.fieldLink RX1 37 "WrongedMeters$House" "readings" "I", Cond.fieldLink RX1 40 "WrongedMeters$House" "units" "I", Cond.fieldLink RX1 43 "WrongedMeters$House" "timesHouseWronged" "I", Cond.fieldLink RX1 46 "WrongedMeters$House" "timesCompanyWronged" "I", Cond.methodLink RX5 175 yX2_add, Cond.instanceMethod yX2_add, Cond.selects RX2 yX2_add yX2_add, Cond.initialized RX2, Cond.code yX2_add cX2_add 7 none, Cond.fieldLink RX2 21 "WrongedMeters$Ledger" "nextRow" "I", Cond.fieldLink RX2 11 "WrongedMeters$Ledger" "facts" "[I"]
def wsX5_passDays_r4 : List Cond := [Cond.fieldLink RX2 25 "WrongedMeters$Ledger" "size" "I", Cond.methodLink RX2 28 Lib.Math.min.name, Cond.static Lib.Math.min.name, Cond.initialized "java/lang/Math", Cond.code Lib.Math.min.name Lib.Math.min.code 2 (some .int), Cond.methodLink RX5 185 yX5_endYear, Cond.instanceMethod yX5_endYear, Cond.selects RX5 yX5_endYear yX5_endYear, Cond.code yX5_endYear cX5_endYear 5 none, Cond.fieldLink RX5 80 "WrongedMeters$Town" "years" "I", Cond.fieldLink RX5 74 "WrongedMeters$Town" "refunds" "I", Cond.fieldLink RX5 77 "WrongedMeters$Town" "coinsBack" "I"]
def wsX5_passDays : List Cond := .code yX5_passDays cX5_passDays 8 (some .int) :: ((wsX5_passDays_r1 ++ (wsX5_passDays_r2 ++ (wsX5_passDays_r3 ++ wsX5_passDays_r4))) ++ wsX50 ++ wsX10 ++ wsX40 ++ wsX20)
def wsX5_obey_r1 : List Cond := [Cond.constant RX5 100 (-1000001), Cond.fieldLink RX5 59 "WrongedMeters$Town" "now" "I", Cond.constant RX5 101 (-1000003), Cond.methodLink RX5 83 yX5_addHouse, Cond.instanceMethod yX5_addHouse, Cond.selects RX5 yX5_addHouse yX5_addHouse, Cond.initialized RX5, Cond.code yX5_addHouse cX5_addHouse 5 (some .int), Cond.constant RX5 119 (-1000002), Cond.fieldLink RX5 55 "WrongedMeters$Town" "houseCount" "I", Cond.fieldLink RX5 11 "WrongedMeters$Town" "houses" "[LWrongedMeters$House;", Cond.methodLink RX5 105 yX5_streetNumbered, Cond.instanceMethod yX5_streetNumbered, Cond.selects RX5 yX5_streetNumbered yX5_streetNumbered, Cond.code yX5_streetNumbered cX5_streetNumbered 2 (some (.object "WrongedMeters$Street")), Cond.fieldLink RX5 19 "WrongedMeters$Town" "streets" "[LWrongedMeters$Street;", Cond.static yX6_isPlace, Cond.initialized RX6, Cond.code yX6_isPlace cX6_isPlace 1 (some .boolean), Cond.static yX6_stepOf, Cond.code yX6_stepOf cX6_stepOf 1 (some .int), Cond.methodLink RX5 116 yX4_houseOn, Cond.instanceMethod yX4_houseOn, Cond.selects RX4 yX4_houseOn yX4_houseOn]
def wsX5_obey_r2 : List Cond := [Cond.initialized RX4, Cond.code yX4_houseOn cX4_houseOn 2 (some .int), Cond.fieldLink RX4 9 "WrongedMeters$Street" "houses" "[I", Cond.methodLink RX5 126 yX4_putHouse, Cond.instanceMethod yX4_putHouse, Cond.selects RX4 yX4_putHouse yX4_putHouse, Cond.code yX4_putHouse cX4_putHouse 3 none, Cond.methodLink RX5 87 yX5_putFlow, Cond.instanceMethod yX5_putFlow, Cond.selects RX5 yX5_putFlow yX5_putFlow, Cond.code yX5_putFlow cX5_putFlow 5 (some .int), Cond.methodLink RX5 130 yX5_houseNumbered, Cond.instanceMethod yX5_houseNumbered, Cond.selects RX5 yX5_houseNumbered yX5_houseNumbered, Cond.code yX5_houseNumbered cX5_houseNumbered 2 (some (.object "WrongedMeters$House")), Cond.methodLink RX5 90 yX5_turnLock, Cond.instanceMethod yX5_turnLock, Cond.selects RX5 yX5_turnLock yX5_turnLock, Cond.code yX5_turnLock cX5_turnLock 3 (some .int), Cond.methodLink RX5 141 yX5_putLock, Cond.instanceMethod yX5_putLock, Cond.selects RX5 yX5_putLock yX5_putLock, Cond.code yX5_putLock cX5_putLock 5 (some .int), Cond.methodLink RX5 94 yX5_readIfOpen]
def wsX5_obey_r3 : List Cond := [Cond.instanceMethod yX5_readIfOpen, Cond.selects RX5 yX5_readIfOpen yX5_readIfOpen, Cond.code yX5_readIfOpen cX5_readIfOpen 3 (some .int), Cond.methodLink RX5 151 yX1_reasonOn, Cond.instanceMethod yX1_reasonOn, Cond.selects RX1 yX1_reasonOn yX1_reasonOn, Cond.initialized RX1, Cond.code yX1_reasonOn cX1_reasonOn 2 (some .int), Cond.fieldLink RX1 30 "WrongedMeters$House" "isLocked" "Z", Cond.fieldLink RX1 9 "WrongedMeters$House" "latestDay" "I", Cond.methodLink RX5 154 yX5_readMeter, Cond.instanceMethod yX5_readMeter, Cond.selects RX5 yX5_readMeter yX5_readMeter, Cond.code yX5_readMeter cX5_readMeter 5 (some .int), Cond.fieldLink RX5 26 "WrongedMeters$Town" "ledger" "LWrongedMeters$Ledger;", Cond.fieldLink RX5 62 "WrongedMeters$Town" "readings" "I", Cond.fieldLink RX5 65 "WrongedMeters$Town" "units" "I", Cond.fieldLink RX5 68 "WrongedMeters$Town" "coins" "I", Cond.fieldLink RX5 30 "WrongedMeters$Town" "settings" "[I", Cond.fieldLink RX5 71 "WrongedMeters$Town" "hundredths" "I", Cond.methodLink RX5 161 yX1_used, Cond.instanceMethod yX1_used, Cond.selects RX1 yX1_used yX1_used, Cond.code yX1_used cX1_used 1 (some .int)]
def wsX5_obey_r4 : List Cond := [Cond.fieldLink RX1 21 "WrongedMeters$House" "dial" "I", Cond.fieldLink RX1 24 "WrongedMeters$House" "dialBefore" "I", Cond.constant RX1 55 (100000), Cond.static yX6_unitsFor, Cond.code yX6_unitsFor cX6_unitsFor 2 (some .int), Cond.methodLink RX5 171 yX1_settle, Cond.instanceMethod yX1_settle, Cond.selects RX1 yX1_settle yX1_settle, Cond.code yX1_settle cX1_settle 4 none, Cond.fieldLink RX1 34 "WrongedMeters$House" "balance" "I", Cond.fieldLink RX1 37 "WrongedMeters$House" "readings" "I", Cond.fieldLink RX1 40 "WrongedMeters$House" "units" "I", Cond.fieldLink RX1 43 "WrongedMeters$House" "timesHouseWronged" "I", Cond.fieldLink RX1 46 "WrongedMeters$House" "timesCompanyWronged" "I", Cond.methodLink RX5 175 yX2_add, Cond.instanceMethod yX2_add, Cond.selects RX2 yX2_add yX2_add, Cond.initialized RX2, Cond.code yX2_add cX2_add 7 none, Cond.fieldLink RX2 21 "WrongedMeters$Ledger" "nextRow" "I", Cond.fieldLink RX2 11 "WrongedMeters$Ledger" "facts" "[I", Cond.fieldLink RX2 25 "WrongedMeters$Ledger" "size" "I", Cond.methodLink RX2 28 Lib.Math.min.name, Cond.static Lib.Math.min.name]
def wsX5_obey_r5 : List Cond := [Cond.initialized "java/lang/Math", Cond.code Lib.Math.min.name Lib.Math.min.code 2 (some .int), Cond.methodLink RX5 97 yX5_changeMeter, Cond.instanceMethod yX5_changeMeter, Cond.selects RX5 yX5_changeMeter yX5_changeMeter, Cond.code yX5_changeMeter cX5_changeMeter 4 (some .int), Cond.methodLink RX5 158 yX1_renewMeter, Cond.instanceMethod yX1_renewMeter, Cond.selects RX1 yX1_renewMeter yX1_renewMeter, Cond.code yX1_renewMeter cX1_renewMeter 1 none, Cond.fieldLink RX1 52 "WrongedMeters$House" "metersChanged" "I", Cond.methodLink RX5 102 yX5_passDays, Cond.instanceMethod yX5_passDays, Cond.selects RX5 yX5_passDays yX5_passDays, Cond.code yX5_passDays cX5_passDays 8 (some .int), Cond.methodLink RX5 179 yX1_goOn, Cond.instanceMethod yX1_goOn, Cond.selects RX1 yX1_goOn yX1_goOn, Cond.code yX1_goOn cX1_goOn 1 none, Cond.fieldLink RX1 27 "WrongedMeters$House" "flow" "I", Cond.methodLink RX5 182 yX5_walk, Cond.instanceMethod yX5_walk, Cond.selects RX5 yX5_walk yX5_walk, Cond.code yX5_walk cX5_walk 8 none]
def wsX5_obey_r6 : List Cond := [Cond.methodLink RX5 188 yX4_stepAhead, Cond.instanceMethod yX4_stepAhead, Cond.selects RX4 yX4_stepAhead yX4_stepAhead, Cond.code yX4_stepAhead cX4_stepAhead 2 (some .int), Cond.fieldLink RX4 15 "WrongedMeters$Street" "latestStep" "I", Cond.methodLink RX5 185 yX5_endYear, Cond.instanceMethod yX5_endYear, Cond.selects RX5 yX5_endYear yX5_endYear, Cond.code yX5_endYear cX5_endYear 5 none, Cond.fieldLink RX5 80 "WrongedMeters$Town" "years" "I", Cond.fieldLink RX5 74 "WrongedMeters$Town" "refunds" "I", Cond.fieldLink RX5 77 "WrongedMeters$Town" "coinsBack" "I"]
def wsX5_obey : List Cond := .code yX5_obey cX5_obey 4 (some .int) :: ((wsX5_obey_r1 ++ (wsX5_obey_r2 ++ (wsX5_obey_r3 ++ (wsX5_obey_r4 ++ (wsX5_obey_r5 ++ wsX5_obey_r6))))) ++ wsX50 ++ wsX10 ++ wsX40 ++ wsX20)
def wsX3_doAllIn_r1 : List Cond := [Cond.fieldLink RX3 21 "WrongedMeters$Orders" "position" "I", Cond.fieldLink RX3 24 "WrongedMeters$Orders" "reason" "I", Cond.fieldLink RX3 27 "WrongedMeters$Orders" "cause" "I", Cond.fieldLink RX3 30 "WrongedMeters$Orders" "done" "I", Cond.fieldLink RX3 16 "WrongedMeters$Orders" "length" "I", Cond.fieldLink RX3 33 "WrongedMeters$Orders" "start" "I", Cond.fieldLink RX3 40 "WrongedMeters$Orders" "letter" "I", Cond.fieldLink RX3 43 "WrongedMeters$Orders" "first" "I", Cond.fieldLink RX3 46 "WrongedMeters$Orders" "second" "I", Cond.methodLink RX3 36 yX3_takeOrder, Cond.instanceMethod yX3_takeOrder, Cond.selects RX3 yX3_takeOrder yX3_takeOrder, Cond.initialized RX3, Cond.code yX3_takeOrder cX3_takeOrder 1 (some .boolean), Cond.methodLink RX3 56 yX3_sign, Cond.instanceMethod yX3_sign, Cond.selects RX3 yX3_sign yX3_sign, Cond.code yX3_sign cX3_sign 1 (some .int), Cond.fieldLink RX3 11 "WrongedMeters$Orders" "text" "[I", Cond.methodLink RX3 60 yX3_isLetterOfOrder, Cond.static yX3_isLetterOfOrder, Cond.code yX3_isLetterOfOrder cX3_isLetterOfOrder 1 (some .boolean), Cond.methodLink RX3 64 yX3_takeNumber, Cond.instanceMethod yX3_takeNumber]
def wsX3_doAllIn_r2 : List Cond := [Cond.selects RX3 yX3_takeNumber yX3_takeNumber, Cond.code yX3_takeNumber cX3_takeNumber 3 (some .int), Cond.methodLink RX3 73 Lib.Math.max.name, Cond.static Lib.Math.max.name, Cond.initialized "java/lang/Math", Cond.code Lib.Math.max.name Lib.Math.max.code 2 (some .int), Cond.methodLink RX3 70 yX3_isDigit, Cond.static yX3_isDigit, Cond.code yX3_isDigit cX3_isDigit 1 (some .boolean), Cond.methodLink RX3 67 yX3_takeSign, Cond.instanceMethod yX3_takeSign, Cond.selects RX3 yX3_takeSign yX3_takeSign, Cond.code yX3_takeSign cX3_takeSign 2 (some .boolean), Cond.methodLink RX3 49 yX5_obey, Cond.instanceMethod yX5_obey, Cond.selects RX5 yX5_obey yX5_obey, Cond.initialized RX5, Cond.code yX5_obey cX5_obey 4 (some .int), Cond.constant RX5 100 (-1000001), Cond.fieldLink RX5 59 "WrongedMeters$Town" "now" "I", Cond.constant RX5 101 (-1000003), Cond.methodLink RX5 83 yX5_addHouse, Cond.instanceMethod yX5_addHouse, Cond.selects RX5 yX5_addHouse yX5_addHouse]
def wsX3_doAllIn_r3 : List Cond := [Cond.code yX5_addHouse cX5_addHouse 5 (some .int), Cond.constant RX5 119 (-1000002), Cond.fieldLink RX5 55 "WrongedMeters$Town" "houseCount" "I", Cond.fieldLink RX5 11 "WrongedMeters$Town" "houses" "[LWrongedMeters$House;", Cond.methodLink RX5 105 yX5_streetNumbered, Cond.instanceMethod yX5_streetNumbered, Cond.selects RX5 yX5_streetNumbered yX5_streetNumbered, Cond.code yX5_streetNumbered cX5_streetNumbered 2 (some (.object "WrongedMeters$Street")), Cond.fieldLink RX5 19 "WrongedMeters$Town" "streets" "[LWrongedMeters$Street;", Cond.static yX6_isPlace, Cond.initialized RX6, Cond.code yX6_isPlace cX6_isPlace 1 (some .boolean), Cond.static yX6_stepOf, Cond.code yX6_stepOf cX6_stepOf 1 (some .int), Cond.methodLink RX5 116 yX4_houseOn, Cond.instanceMethod yX4_houseOn, Cond.selects RX4 yX4_houseOn yX4_houseOn, Cond.initialized RX4, Cond.code yX4_houseOn cX4_houseOn 2 (some .int), Cond.fieldLink RX4 9 "WrongedMeters$Street" "houses" "[I", Cond.methodLink RX5 126 yX4_putHouse, Cond.instanceMethod yX4_putHouse, Cond.selects RX4 yX4_putHouse yX4_putHouse, Cond.code yX4_putHouse cX4_putHouse 3 none]
def wsX3_doAllIn_r4 : List Cond := [Cond.methodLink RX5 87 yX5_putFlow, Cond.instanceMethod yX5_putFlow, Cond.selects RX5 yX5_putFlow yX5_putFlow, Cond.code yX5_putFlow cX5_putFlow 5 (some .int), Cond.methodLink RX5 130 yX5_houseNumbered, Cond.instanceMethod yX5_houseNumbered, Cond.selects RX5 yX5_houseNumbered yX5_houseNumbered, Cond.code yX5_houseNumbered cX5_houseNumbered 2 (some (.object "WrongedMeters$House")), Cond.methodLink RX5 90 yX5_turnLock, Cond.instanceMethod yX5_turnLock, Cond.selects RX5 yX5_turnLock yX5_turnLock, Cond.code yX5_turnLock cX5_turnLock 3 (some .int), Cond.methodLink RX5 141 yX5_putLock, Cond.instanceMethod yX5_putLock, Cond.selects RX5 yX5_putLock yX5_putLock, Cond.code yX5_putLock cX5_putLock 5 (some .int), Cond.methodLink RX5 94 yX5_readIfOpen, Cond.instanceMethod yX5_readIfOpen, Cond.selects RX5 yX5_readIfOpen yX5_readIfOpen, Cond.code yX5_readIfOpen cX5_readIfOpen 3 (some .int), Cond.methodLink RX5 151 yX1_reasonOn, Cond.instanceMethod yX1_reasonOn, Cond.selects RX1 yX1_reasonOn yX1_reasonOn, Cond.initialized RX1]
def wsX3_doAllIn_r5 : List Cond := [Cond.code yX1_reasonOn cX1_reasonOn 2 (some .int), Cond.fieldLink RX1 30 "WrongedMeters$House" "isLocked" "Z", Cond.fieldLink RX1 9 "WrongedMeters$House" "latestDay" "I", Cond.methodLink RX5 154 yX5_readMeter, Cond.instanceMethod yX5_readMeter, Cond.selects RX5 yX5_readMeter yX5_readMeter, Cond.code yX5_readMeter cX5_readMeter 5 (some .int), Cond.fieldLink RX5 26 "WrongedMeters$Town" "ledger" "LWrongedMeters$Ledger;", Cond.fieldLink RX5 62 "WrongedMeters$Town" "readings" "I", Cond.fieldLink RX5 65 "WrongedMeters$Town" "units" "I", Cond.fieldLink RX5 68 "WrongedMeters$Town" "coins" "I", Cond.fieldLink RX5 30 "WrongedMeters$Town" "settings" "[I", Cond.fieldLink RX5 71 "WrongedMeters$Town" "hundredths" "I", Cond.methodLink RX5 161 yX1_used, Cond.instanceMethod yX1_used, Cond.selects RX1 yX1_used yX1_used, Cond.code yX1_used cX1_used 1 (some .int), Cond.fieldLink RX1 21 "WrongedMeters$House" "dial" "I", Cond.fieldLink RX1 24 "WrongedMeters$House" "dialBefore" "I", Cond.constant RX1 55 (100000), Cond.static yX6_unitsFor, Cond.code yX6_unitsFor cX6_unitsFor 2 (some .int), Cond.methodLink RX5 171 yX1_settle, Cond.instanceMethod yX1_settle]
def wsX3_doAllIn_r6 : List Cond := [Cond.selects RX1 yX1_settle yX1_settle, Cond.code yX1_settle cX1_settle 4 none, Cond.fieldLink RX1 34 "WrongedMeters$House" "balance" "I", Cond.fieldLink RX1 37 "WrongedMeters$House" "readings" "I", Cond.fieldLink RX1 40 "WrongedMeters$House" "units" "I", Cond.fieldLink RX1 43 "WrongedMeters$House" "timesHouseWronged" "I", Cond.fieldLink RX1 46 "WrongedMeters$House" "timesCompanyWronged" "I", Cond.methodLink RX5 175 yX2_add, Cond.instanceMethod yX2_add, Cond.selects RX2 yX2_add yX2_add, Cond.initialized RX2, Cond.code yX2_add cX2_add 7 none, Cond.fieldLink RX2 21 "WrongedMeters$Ledger" "nextRow" "I", Cond.fieldLink RX2 11 "WrongedMeters$Ledger" "facts" "[I", Cond.fieldLink RX2 25 "WrongedMeters$Ledger" "size" "I", Cond.methodLink RX2 28 Lib.Math.min.name, Cond.static Lib.Math.min.name, Cond.code Lib.Math.min.name Lib.Math.min.code 2 (some .int), Cond.methodLink RX5 97 yX5_changeMeter, Cond.instanceMethod yX5_changeMeter, Cond.selects RX5 yX5_changeMeter yX5_changeMeter, Cond.code yX5_changeMeter cX5_changeMeter 4 (some .int), Cond.methodLink RX5 158 yX1_renewMeter, Cond.instanceMethod yX1_renewMeter]
def wsX3_doAllIn_r7 : List Cond := [Cond.selects RX1 yX1_renewMeter yX1_renewMeter, Cond.code yX1_renewMeter cX1_renewMeter 1 none, Cond.fieldLink RX1 52 "WrongedMeters$House" "metersChanged" "I", Cond.methodLink RX5 102 yX5_passDays, Cond.instanceMethod yX5_passDays, Cond.selects RX5 yX5_passDays yX5_passDays, Cond.code yX5_passDays cX5_passDays 8 (some .int), Cond.methodLink RX5 179 yX1_goOn, Cond.instanceMethod yX1_goOn, Cond.selects RX1 yX1_goOn yX1_goOn, Cond.code yX1_goOn cX1_goOn 1 none, Cond.fieldLink RX1 27 "WrongedMeters$House" "flow" "I", Cond.methodLink RX5 182 yX5_walk, Cond.instanceMethod yX5_walk, Cond.selects RX5 yX5_walk yX5_walk, Cond.code yX5_walk cX5_walk 8 none, Cond.methodLink RX5 188 yX4_stepAhead, Cond.instanceMethod yX4_stepAhead, Cond.selects RX4 yX4_stepAhead yX4_stepAhead, Cond.code yX4_stepAhead cX4_stepAhead 2 (some .int), Cond.fieldLink RX4 15 "WrongedMeters$Street" "latestStep" "I", Cond.methodLink RX5 185 yX5_endYear, Cond.instanceMethod yX5_endYear, Cond.selects RX5 yX5_endYear yX5_endYear]
def wsX3_doAllIn_r8 : List Cond := [Cond.code yX5_endYear cX5_endYear 5 none, Cond.fieldLink RX5 80 "WrongedMeters$Town" "years" "I", Cond.fieldLink RX5 74 "WrongedMeters$Town" "refunds" "I", Cond.fieldLink RX5 77 "WrongedMeters$Town" "coinsBack" "I"]
def wsX3_doAllIn : List Cond := .code yX3_doAllIn cX3_doAllIn 3 none :: ((wsX3_doAllIn_r1 ++ (wsX3_doAllIn_r2 ++ (wsX3_doAllIn_r3 ++ (wsX3_doAllIn_r4 ++ (wsX3_doAllIn_r5 ++ (wsX3_doAllIn_r6 ++ (wsX3_doAllIn_r7 ++ wsX3_doAllIn_r8))))))) ++ wsX30 ++ wsX50 ++ wsX10 ++ wsX40 ++ wsX20)
def wsX3_faultFact : List Cond := .code yX3_faultFact cX3_faultFact 2 (some .int) :: ([.fieldLink RX3 24 "WrongedMeters$Orders" "reason" "I", .constant RX3 55 (-1000004), .fieldLink RX3 33 "WrongedMeters$Orders" "start" "I", .fieldLink RX3 27 "WrongedMeters$Orders" "cause" "I"] ++ wsX30)
def wsX4_houseRanked : List Cond := .code yX4_houseRanked cX4_houseRanked 5 (some .int) :: ([.constant RX4 32 (-1000004), .methodLink RX4 25 yX4_stepAhead, .instanceMethod yX4_stepAhead, .selects RX4 yX4_stepAhead yX4_stepAhead, .initialized RX4, .code yX4_stepAhead cX4_stepAhead 2 (some .int), .fieldLink RX4 15 "WrongedMeters$Street" "latestStep" "I", .methodLink RX4 29 yX4_houseOn, .instanceMethod yX4_houseOn, .selects RX4 yX4_houseOn yX4_houseOn, .code yX4_houseOn cX4_houseOn 2 (some .int), .fieldLink RX4 9 "WrongedMeters$Street" "houses" "[I"] ++ wsX40)
def wsX5_putSetting : List Cond := .code yX5_putSetting cX5_putSetting 4 (some .int) :: ([.constant RX5 100 (-1000001), .fieldLink RX5 30 "WrongedMeters$Town" "settings" "[I"] ++ wsX50)
def wsX5_passUntilRefund_r1 : List Cond := [Cond.constant RX5 100 (-1000001), Cond.constant RX5 195 (-1000004), Cond.methodLink RX5 130 yX5_houseNumbered, Cond.instanceMethod yX5_houseNumbered, Cond.selects RX5 yX5_houseNumbered yX5_houseNumbered, Cond.initialized RX5, Cond.code yX5_houseNumbered cX5_houseNumbered 2 (some (.object "WrongedMeters$House")), Cond.fieldLink RX5 55 "WrongedMeters$Town" "houseCount" "I", Cond.fieldLink RX5 11 "WrongedMeters$Town" "houses" "[LWrongedMeters$House;", Cond.methodLink RX5 102 yX5_passDays, Cond.instanceMethod yX5_passDays, Cond.selects RX5 yX5_passDays yX5_passDays, Cond.code yX5_passDays cX5_passDays 8 (some .int), Cond.fieldLink RX5 62 "WrongedMeters$Town" "readings" "I", Cond.fieldLink RX5 59 "WrongedMeters$Town" "now" "I", Cond.fieldLink RX5 19 "WrongedMeters$Town" "streets" "[LWrongedMeters$Street;", Cond.fieldLink RX5 30 "WrongedMeters$Town" "settings" "[I", Cond.methodLink RX5 179 yX1_goOn, Cond.instanceMethod yX1_goOn, Cond.selects RX1 yX1_goOn yX1_goOn, Cond.initialized RX1, Cond.code yX1_goOn cX1_goOn 1 none, Cond.fieldLink RX1 21 "WrongedMeters$House" "dial" "I", Cond.fieldLink RX1 27 "WrongedMeters$House" "flow" "I"]
def wsX5_passUntilRefund_r2 : List Cond := [Cond.constant RX1 55 (100000), Cond.methodLink RX5 182 yX5_walk, Cond.instanceMethod yX5_walk, Cond.selects RX5 yX5_walk yX5_walk, Cond.code yX5_walk cX5_walk 8 none, Cond.methodLink RX5 188 yX4_stepAhead, Cond.instanceMethod yX4_stepAhead, Cond.selects RX4 yX4_stepAhead yX4_stepAhead, Cond.initialized RX4, Cond.code yX4_stepAhead cX4_stepAhead 2 (some .int), Cond.fieldLink RX4 15 "WrongedMeters$Street" "latestStep" "I", Cond.methodLink RX5 116 yX4_houseOn, Cond.instanceMethod yX4_houseOn, Cond.selects RX4 yX4_houseOn yX4_houseOn, Cond.code yX4_houseOn cX4_houseOn 2 (some .int), Cond.fieldLink RX4 9 "WrongedMeters$Street" "houses" "[I", Cond.methodLink RX5 151 yX1_reasonOn, Cond.instanceMethod yX1_reasonOn, Cond.selects RX1 yX1_reasonOn yX1_reasonOn, Cond.code yX1_reasonOn cX1_reasonOn 2 (some .int), Cond.fieldLink RX1 30 "WrongedMeters$House" "isLocked" "Z", Cond.fieldLink RX1 9 "WrongedMeters$House" "latestDay" "I", Cond.methodLink RX5 154 yX5_readMeter, Cond.instanceMethod yX5_readMeter]
def wsX5_passUntilRefund_r3 : List Cond := [Cond.selects RX5 yX5_readMeter yX5_readMeter, Cond.code yX5_readMeter cX5_readMeter 5 (some .int), Cond.fieldLink RX5 26 "WrongedMeters$Town" "ledger" "LWrongedMeters$Ledger;", Cond.fieldLink RX5 65 "WrongedMeters$Town" "units" "I", Cond.fieldLink RX5 68 "WrongedMeters$Town" "coins" "I", Cond.fieldLink RX5 71 "WrongedMeters$Town" "hundredths" "I", Cond.methodLink RX5 161 yX1_used, Cond.instanceMethod yX1_used, Cond.selects RX1 yX1_used yX1_used, Cond.code yX1_used cX1_used 1 (some .int), Cond.fieldLink RX1 24 "WrongedMeters$House" "dialBefore" "I", Cond.static yX6_unitsFor, Cond.initialized RX6, Cond.code yX6_unitsFor cX6_unitsFor 2 (some .int), Cond.methodLink RX5 171 yX1_settle, Cond.instanceMethod yX1_settle, Cond.selects RX1 yX1_settle yX1_settle, Cond.code yX1_settle cX1_settle 4 none, Cond.fieldLink RX1 34 "WrongedMeters$House" "balance" "I", Cond.fieldLink RX1 37 "WrongedMeters$House" "readings" "I", Cond.fieldLink RX1 40 "WrongedMeters$House" "units" "I", Cond.fieldLink RX1 43 "WrongedMeters$House" "timesHouseWronged" "I", Cond.fieldLink RX1 46 "WrongedMeters$House" "timesCompanyWronged" "I", Cond.methodLink RX5 175 yX2_add]
def wsX5_passUntilRefund_r4 : List Cond := [Cond.instanceMethod yX2_add, Cond.selects RX2 yX2_add yX2_add, Cond.initialized RX2, Cond.code yX2_add cX2_add 7 none, Cond.fieldLink RX2 21 "WrongedMeters$Ledger" "nextRow" "I", Cond.fieldLink RX2 11 "WrongedMeters$Ledger" "facts" "[I", Cond.fieldLink RX2 25 "WrongedMeters$Ledger" "size" "I", Cond.methodLink RX2 28 Lib.Math.min.name, Cond.static Lib.Math.min.name, Cond.initialized "java/lang/Math", Cond.code Lib.Math.min.name Lib.Math.min.code 2 (some .int), Cond.methodLink RX5 185 yX5_endYear, Cond.instanceMethod yX5_endYear, Cond.selects RX5 yX5_endYear yX5_endYear, Cond.code yX5_endYear cX5_endYear 5 none, Cond.fieldLink RX5 80 "WrongedMeters$Town" "years" "I", Cond.fieldLink RX5 74 "WrongedMeters$Town" "refunds" "I", Cond.fieldLink RX5 77 "WrongedMeters$Town" "coinsBack" "I"]
def wsX5_passUntilRefund : List Cond := .code yX5_passUntilRefund cX5_passUntilRefund 5 (some .int) :: ((wsX5_passUntilRefund_r1 ++ (wsX5_passUntilRefund_r2 ++ (wsX5_passUntilRefund_r3 ++ wsX5_passUntilRefund_r4))) ++ wsX10 ++ wsX50 ++ wsX40 ++ wsX20)
def wsX5_housesAhead : List Cond := .code yX5_housesAhead cX5_housesAhead 6 (some .int) :: ([.fieldLink RX5 55 "WrongedMeters$Town" "houseCount" "I", .fieldLink RX5 11 "WrongedMeters$Town" "houses" "[LWrongedMeters$House;"] ++ wsX50 ++ wsX10)
def wsX5_houseByBalance : List Cond := .code yX5_houseByBalance cX5_houseByBalance 3 (some .int) :: ([.fieldLink RX5 55 "WrongedMeters$Town" "houseCount" "I", .fieldLink RX5 11 "WrongedMeters$Town" "houses" "[LWrongedMeters$House;", .constant RX5 195 (-1000004), .methodLink RX5 196 yX5_housesAhead, .instanceMethod yX5_housesAhead, .selects RX5 yX5_housesAhead yX5_housesAhead, .initialized RX5, .code yX5_housesAhead cX5_housesAhead 6 (some .int)] ++ wsX50 ++ wsX10)
def wsX5_housesLocked : List Cond := .code yX5_housesLocked cX5_housesLocked 6 (some .int) :: ([.fieldLink RX5 11 "WrongedMeters$Town" "houses" "[LWrongedMeters$House;"] ++ wsX50 ++ wsX10)
def wsX5_housesBetween : List Cond := .code yX5_housesBetween cX5_housesBetween 8 (some .int) :: ([.fieldLink RX5 11 "WrongedMeters$Town" "houses" "[LWrongedMeters$House;"] ++ wsX50 ++ wsX10)
def wsX5_balances : List Cond := .code yX5_balances cX5_balances 6 (some .int) :: ([.fieldLink RX5 11 "WrongedMeters$Town" "houses" "[LWrongedMeters$House;"] ++ wsX50 ++ wsX10)
def wsX5_number_r1 : List Cond := [Cond.fieldLink RX5 59 "WrongedMeters$Town" "now" "I", Cond.fieldLink RX5 55 "WrongedMeters$Town" "houseCount" "I", Cond.fieldLink RX5 62 "WrongedMeters$Town" "readings" "I", Cond.fieldLink RX5 65 "WrongedMeters$Town" "units" "I", Cond.fieldLink RX5 68 "WrongedMeters$Town" "coins" "I", Cond.fieldLink RX5 71 "WrongedMeters$Town" "hundredths" "I", Cond.fieldLink RX5 74 "WrongedMeters$Town" "refunds" "I", Cond.fieldLink RX5 77 "WrongedMeters$Town" "coinsBack" "I", Cond.fieldLink RX5 80 "WrongedMeters$Town" "years" "I", Cond.fieldLink RX5 26 "WrongedMeters$Town" "ledger" "LWrongedMeters$Ledger;", Cond.fieldLink RX5 30 "WrongedMeters$Town" "settings" "[I", Cond.constant RX5 100 (-1000001), Cond.methodLink RX5 199 yX5_housesLocked, Cond.instanceMethod yX5_housesLocked, Cond.selects RX5 yX5_housesLocked yX5_housesLocked, Cond.initialized RX5, Cond.code yX5_housesLocked cX5_housesLocked 6 (some .int), Cond.fieldLink RX5 11 "WrongedMeters$Town" "houses" "[LWrongedMeters$House;", Cond.methodLink RX5 202 yX5_housesBetween, Cond.instanceMethod yX5_housesBetween, Cond.selects RX5 yX5_housesBetween yX5_housesBetween, Cond.code yX5_housesBetween cX5_housesBetween 8 (some .int), Cond.methodLink RX5 205 yX5_balances, Cond.instanceMethod yX5_balances]
def wsX5_number_r2 : List Cond := [Cond.selects RX5 yX5_balances yX5_balances, Cond.code yX5_balances cX5_balances 6 (some .int)]
def wsX5_number : List Cond := .code yX5_number cX5_number 2 (some .int) :: ((wsX5_number_r1 ++ wsX5_number_r2) ++ wsX50 ++ wsX20 ++ wsX10)
def wsX5_balancesWithoutSigns : List Cond := .code yX5_balancesWithoutSigns cX5_balancesWithoutSigns 6 (some .int) :: ([.fieldLink RX5 11 "WrongedMeters$Town" "houses" "[LWrongedMeters$House;", .methodLink RX5 211 Lib.Math.abs.name, .static Lib.Math.abs.name, .initialized "java/lang/Math", .code Lib.Math.abs.name Lib.Math.abs.code 1 (some .int)] ++ wsX50 ++ wsX10)
def wsX6_init_r1 : List Cond := [Cond.methodLink RX6 1 objectInit, Cond.instanceMethod objectInit, Cond.code objectInit ⟨#[0xb1]⟩ 1 none, Cond.classLink RX6 7 RX5, Cond.instantiable RX5 13, Cond.initialized RX5, Cond.fieldLink RX6 10 "WrongedMeters" "town" "LWrongedMeters$Town;", Cond.fieldLink RX6 16 "WrongedMeters" "trial" "LWrongedMeters$Town;", Cond.classLink RX6 19 RX0, Cond.instantiable RX0 3, Cond.initialized RX0, Cond.fieldLink RX6 22 "WrongedMeters" "history" "LWrongedMeters$History;", Cond.classLink RX6 26 RX3, Cond.instantiable RX3 10, Cond.initialized RX3, Cond.fieldLink RX6 29 "WrongedMeters" "orders" "LWrongedMeters$Orders;", Cond.methodLink RX6 9 yX5_init, Cond.instanceMethod yX5_init, Cond.code yX5_init cX5_init 2 none, Cond.methodLink RX5 3 objectInit, Cond.classLink RX5 9 RX1, Cond.fieldLink RX5 11 "WrongedMeters$Town" "houses" "[LWrongedMeters$House;", Cond.classLink RX5 17 RX4, Cond.fieldLink RX5 19 "WrongedMeters$Town" "streets" "[LWrongedMeters$Street;"]
def wsX6_init_r2 : List Cond := [Cond.classLink RX5 23 RX2, Cond.instantiable RX2 3, Cond.initialized RX2, Cond.fieldLink RX5 26 "WrongedMeters$Town" "ledger" "LWrongedMeters$Ledger;", Cond.arrayClass .int, Cond.fieldLink RX5 30 "WrongedMeters$Town" "settings" "[I", Cond.instantiable RX1 14, Cond.initialized RX1, Cond.instantiable RX4 2, Cond.initialized RX4, Cond.instanceMethod yX2_init, Cond.code yX2_init cX2_init 1 none, Cond.methodLink RX2 3 objectInit, Cond.fieldLink RX2 11 "WrongedMeters$Ledger" "facts" "[I", Cond.instanceMethod yX1_init, Cond.code yX1_init cX1_init 1 none, Cond.methodLink RX1 3 objectInit, Cond.fieldLink RX1 9 "WrongedMeters$House" "latestDay" "I", Cond.methodLink RX5 35 yX4_init, Cond.instanceMethod yX4_init, Cond.code yX4_init cX4_init 2 none, Cond.methodLink RX4 3 objectInit, Cond.fieldLink RX4 9 "WrongedMeters$Street" "houses" "[I", Cond.fieldLink RX4 15 "WrongedMeters$Street" "latestStep" "I"]
def wsX6_init_r3 : List Cond := [Cond.methodLink RX6 21 yX0_init, Cond.instanceMethod yX0_init, Cond.code yX0_init cX0_init 2 none, Cond.methodLink RX0 5 objectInit, Cond.classLink RX0 11 RX5, Cond.fieldLink RX0 13 "WrongedMeters$History" "states" "[LWrongedMeters$Town;", Cond.methodLink RX0 17 yX5_init, Cond.instanceMethod yX3_init, Cond.code yX3_init cX3_init 1 none, Cond.methodLink RX3 3 objectInit, Cond.fieldLink RX3 11 "WrongedMeters$Orders" "text" "[I"]
def wsX6_init : List Cond := .code yX6_init cX6_init 1 none :: ((wsX6_init_r1 ++ (wsX6_init_r2 ++ wsX6_init_r3)) ++ wsX50 ++ wsX60 ++ wsX00 ++ wsX30 ++ wsX20 ++ wsX10 ++ wsX40)
def wsX6_kept : List Cond := .code yX6_kept cX6_kept 2 (some .int) :: ([.fieldLink RX6 22 "WrongedMeters" "history" "LWrongedMeters$History;", .methodLink RX6 179 yX0_keep, .instanceMethod yX0_keep, .selects RX0 yX0_keep yX0_keep, .initialized RX0, .code yX0_keep cX0_keep 1 none, .fieldLink RX0 18 "WrongedMeters$History" "freeSlot" "I", .fieldLink RX0 26 "WrongedMeters$History" "size" "I", .methodLink RX0 29 Lib.Math.min.name, .static Lib.Math.min.name, .initialized "java/lang/Math", .code Lib.Math.min.name Lib.Math.min.code 2 (some .int)] ++ wsX60 ++ wsX00)
def wsX6_carryOut_r1 : List Cond := [Cond.fieldLink RX6 22 "WrongedMeters" "history" "LWrongedMeters$History;", Cond.fieldLink RX6 10 "WrongedMeters" "town" "LWrongedMeters$Town;", Cond.methodLink RX6 37 yX0_record, Cond.instanceMethod yX0_record, Cond.selects RX0 yX0_record yX0_record, Cond.initialized RX0, Cond.code yX0_record cX0_record 2 none, Cond.fieldLink RX0 13 "WrongedMeters$History" "states" "[LWrongedMeters$Town;", Cond.fieldLink RX0 18 "WrongedMeters$History" "freeSlot" "I", Cond.methodLink RX0 22 yX5_copyFrom, Cond.instanceMethod yX5_copyFrom, Cond.selects RX5 yX5_copyFrom yX5_copyFrom, Cond.initialized RX5, Cond.code yX5_copyFrom cX5_copyFrom 3 none, Cond.fieldLink RX5 11 "WrongedMeters$Town" "houses" "[LWrongedMeters$House;", Cond.fieldLink RX5 19 "WrongedMeters$Town" "streets" "[LWrongedMeters$Street;", Cond.fieldLink RX5 26 "WrongedMeters$Town" "ledger" "LWrongedMeters$Ledger;", Cond.fieldLink RX5 30 "WrongedMeters$Town" "settings" "[I", Cond.methodLink RX5 49 arraycopyName, Cond.native arraycopyName, Cond.static arraycopyName, Cond.initialized "java/lang/System", Cond.fieldLink RX5 55 "WrongedMeters$Town" "houseCount" "I", Cond.fieldLink RX5 59 "WrongedMeters$Town" "now" "I"]
def wsX6_carryOut_r2 : List Cond := [Cond.fieldLink RX5 62 "WrongedMeters$Town" "readings" "I", Cond.fieldLink RX5 65 "WrongedMeters$Town" "units" "I", Cond.fieldLink RX5 68 "WrongedMeters$Town" "coins" "I", Cond.fieldLink RX5 71 "WrongedMeters$Town" "hundredths" "I", Cond.fieldLink RX5 74 "WrongedMeters$Town" "refunds" "I", Cond.fieldLink RX5 77 "WrongedMeters$Town" "coinsBack" "I", Cond.fieldLink RX5 80 "WrongedMeters$Town" "years" "I", Cond.methodLink RX5 39 yX1_copyFrom, Cond.instanceMethod yX1_copyFrom, Cond.selects RX1 yX1_copyFrom yX1_copyFrom, Cond.initialized RX1, Cond.code yX1_copyFrom cX1_copyFrom 2 none, Cond.fieldLink RX1 15 "WrongedMeters$House" "street" "I", Cond.fieldLink RX1 18 "WrongedMeters$House" "place" "I", Cond.fieldLink RX1 21 "WrongedMeters$House" "dial" "I", Cond.fieldLink RX1 24 "WrongedMeters$House" "dialBefore" "I", Cond.fieldLink RX1 27 "WrongedMeters$House" "flow" "I", Cond.fieldLink RX1 30 "WrongedMeters$House" "isLocked" "Z", Cond.fieldLink RX1 34 "WrongedMeters$House" "balance" "I", Cond.fieldLink RX1 9 "WrongedMeters$House" "latestDay" "I", Cond.fieldLink RX1 37 "WrongedMeters$House" "readings" "I", Cond.fieldLink RX1 40 "WrongedMeters$House" "units" "I", Cond.fieldLink RX1 43 "WrongedMeters$House" "timesHouseWronged" "I", Cond.fieldLink RX1 46 "WrongedMeters$House" "timesCompanyWronged" "I"]
def wsX6_carryOut_r3 : List Cond := [Cond.fieldLink RX1 49 "WrongedMeters$House" "refunds" "I", Cond.fieldLink RX1 52 "WrongedMeters$House" "metersChanged" "I", Cond.methodLink RX5 43 yX4_copyFrom, Cond.instanceMethod yX4_copyFrom, Cond.selects RX4 yX4_copyFrom yX4_copyFrom, Cond.initialized RX4, Cond.code yX4_copyFrom cX4_copyFrom 2 none, Cond.fieldLink RX4 9 "WrongedMeters$Street" "houses" "[I", Cond.methodLink RX4 19 arraycopyName, Cond.fieldLink RX4 15 "WrongedMeters$Street" "latestStep" "I", Cond.methodLink RX5 46 yX2_copyFrom, Cond.instanceMethod yX2_copyFrom, Cond.selects RX2 yX2_copyFrom yX2_copyFrom, Cond.initialized RX2, Cond.code yX2_copyFrom cX2_copyFrom 2 none, Cond.fieldLink RX2 11 "WrongedMeters$Ledger" "facts" "[I", Cond.methodLink RX2 15 arraycopyName, Cond.fieldLink RX2 21 "WrongedMeters$Ledger" "nextRow" "I", Cond.fieldLink RX2 25 "WrongedMeters$Ledger" "size" "I", Cond.methodLink RX6 176 yX5_obey, Cond.instanceMethod yX5_obey, Cond.selects RX5 yX5_obey yX5_obey, Cond.code yX5_obey cX5_obey 4 (some .int), Cond.constant RX5 100 (-1000001)]
def wsX6_carryOut_r4 : List Cond := [Cond.constant RX5 101 (-1000003), Cond.methodLink RX5 83 yX5_addHouse, Cond.instanceMethod yX5_addHouse, Cond.selects RX5 yX5_addHouse yX5_addHouse, Cond.code yX5_addHouse cX5_addHouse 5 (some .int), Cond.constant RX5 119 (-1000002), Cond.methodLink RX5 105 yX5_streetNumbered, Cond.instanceMethod yX5_streetNumbered, Cond.selects RX5 yX5_streetNumbered yX5_streetNumbered, Cond.code yX5_streetNumbered cX5_streetNumbered 2 (some (.object "WrongedMeters$Street")), Cond.static yX6_isPlace, Cond.initialized RX6, Cond.code yX6_isPlace cX6_isPlace 1 (some .boolean), Cond.static yX6_stepOf, Cond.code yX6_stepOf cX6_stepOf 1 (some .int), Cond.methodLink RX5 116 yX4_houseOn, Cond.instanceMethod yX4_houseOn, Cond.selects RX4 yX4_houseOn yX4_houseOn, Cond.code yX4_houseOn cX4_houseOn 2 (some .int), Cond.methodLink RX5 126 yX4_putHouse, Cond.instanceMethod yX4_putHouse, Cond.selects RX4 yX4_putHouse yX4_putHouse, Cond.code yX4_putHouse cX4_putHouse 3 none, Cond.methodLink RX5 87 yX5_putFlow]
def wsX6_carryOut_r5 : List Cond := [Cond.instanceMethod yX5_putFlow, Cond.selects RX5 yX5_putFlow yX5_putFlow, Cond.code yX5_putFlow cX5_putFlow 5 (some .int), Cond.methodLink RX5 130 yX5_houseNumbered, Cond.instanceMethod yX5_houseNumbered, Cond.selects RX5 yX5_houseNumbered yX5_houseNumbered, Cond.code yX5_houseNumbered cX5_houseNumbered 2 (some (.object "WrongedMeters$House")), Cond.methodLink RX5 90 yX5_turnLock, Cond.instanceMethod yX5_turnLock, Cond.selects RX5 yX5_turnLock yX5_turnLock, Cond.code yX5_turnLock cX5_turnLock 3 (some .int), Cond.methodLink RX5 141 yX5_putLock, Cond.instanceMethod yX5_putLock, Cond.selects RX5 yX5_putLock yX5_putLock, Cond.code yX5_putLock cX5_putLock 5 (some .int), Cond.methodLink RX5 94 yX5_readIfOpen, Cond.instanceMethod yX5_readIfOpen, Cond.selects RX5 yX5_readIfOpen yX5_readIfOpen, Cond.code yX5_readIfOpen cX5_readIfOpen 3 (some .int), Cond.methodLink RX5 151 yX1_reasonOn, Cond.instanceMethod yX1_reasonOn, Cond.selects RX1 yX1_reasonOn yX1_reasonOn, Cond.code yX1_reasonOn cX1_reasonOn 2 (some .int), Cond.methodLink RX5 154 yX5_readMeter]
def wsX6_carryOut_r6 : List Cond := [Cond.instanceMethod yX5_readMeter, Cond.selects RX5 yX5_readMeter yX5_readMeter, Cond.code yX5_readMeter cX5_readMeter 5 (some .int), Cond.methodLink RX5 161 yX1_used, Cond.instanceMethod yX1_used, Cond.selects RX1 yX1_used yX1_used, Cond.code yX1_used cX1_used 1 (some .int), Cond.constant RX1 55 (100000), Cond.static yX6_unitsFor, Cond.code yX6_unitsFor cX6_unitsFor 2 (some .int), Cond.methodLink RX5 171 yX1_settle, Cond.instanceMethod yX1_settle, Cond.selects RX1 yX1_settle yX1_settle, Cond.code yX1_settle cX1_settle 4 none, Cond.methodLink RX5 175 yX2_add, Cond.instanceMethod yX2_add, Cond.selects RX2 yX2_add yX2_add, Cond.code yX2_add cX2_add 7 none, Cond.methodLink RX2 28 Lib.Math.min.name, Cond.static Lib.Math.min.name, Cond.initialized "java/lang/Math", Cond.code Lib.Math.min.name Lib.Math.min.code 2 (some .int), Cond.methodLink RX5 97 yX5_changeMeter, Cond.instanceMethod yX5_changeMeter]
def wsX6_carryOut_r7 : List Cond := [Cond.selects RX5 yX5_changeMeter yX5_changeMeter, Cond.code yX5_changeMeter cX5_changeMeter 4 (some .int), Cond.methodLink RX5 158 yX1_renewMeter, Cond.instanceMethod yX1_renewMeter, Cond.selects RX1 yX1_renewMeter yX1_renewMeter, Cond.code yX1_renewMeter cX1_renewMeter 1 none, Cond.methodLink RX5 102 yX5_passDays, Cond.instanceMethod yX5_passDays, Cond.selects RX5 yX5_passDays yX5_passDays, Cond.code yX5_passDays cX5_passDays 8 (some .int), Cond.methodLink RX5 179 yX1_goOn, Cond.instanceMethod yX1_goOn, Cond.selects RX1 yX1_goOn yX1_goOn, Cond.code yX1_goOn cX1_goOn 1 none, Cond.methodLink RX5 182 yX5_walk, Cond.instanceMethod yX5_walk, Cond.selects RX5 yX5_walk yX5_walk, Cond.code yX5_walk cX5_walk 8 none, Cond.methodLink RX5 188 yX4_stepAhead, Cond.instanceMethod yX4_stepAhead, Cond.selects RX4 yX4_stepAhead yX4_stepAhead, Cond.code yX4_stepAhead cX4_stepAhead 2 (some .int), Cond.methodLink RX5 185 yX5_endYear, Cond.instanceMethod yX5_endYear]
def wsX6_carryOut_r8 : List Cond := [Cond.selects RX5 yX5_endYear yX5_endYear, Cond.code yX5_endYear cX5_endYear 5 none, Cond.methodLink RX6 45 yX6_kept, Cond.instanceMethod yX6_kept, Cond.selects RX6 yX6_kept yX6_kept, Cond.code yX6_kept cX6_kept 2 (some .int), Cond.methodLink RX6 179 yX0_keep, Cond.instanceMethod yX0_keep, Cond.selects RX0 yX0_keep yX0_keep, Cond.code yX0_keep cX0_keep 1 none, Cond.fieldLink RX0 26 "WrongedMeters$History" "size" "I", Cond.methodLink RX0 29 Lib.Math.min.name]
def wsX6_carryOut : List Cond := .code yX6_carryOut cX6_carryOut 4 (some .int) :: ((wsX6_carryOut_r1 ++ (wsX6_carryOut_r2 ++ (wsX6_carryOut_r3 ++ (wsX6_carryOut_r4 ++ (wsX6_carryOut_r5 ++ (wsX6_carryOut_r6 ++ (wsX6_carryOut_r7 ++ wsX6_carryOut_r8))))))) ++ wsX60 ++ wsX00 ++ wsX50 ++ wsX10 ++ wsX40 ++ wsX20)
def wsX6_house_r1 : List Cond := [Cond.methodLink RX6 33 yX6_carryOut, Cond.instanceMethod yX6_carryOut, Cond.selects RX6 yX6_carryOut yX6_carryOut, Cond.initialized RX6, Cond.code yX6_carryOut cX6_carryOut 4 (some .int), Cond.fieldLink RX6 22 "WrongedMeters" "history" "LWrongedMeters$History;", Cond.fieldLink RX6 10 "WrongedMeters" "town" "LWrongedMeters$Town;", Cond.methodLink RX6 37 yX0_record, Cond.instanceMethod yX0_record, Cond.selects RX0 yX0_record yX0_record, Cond.initialized RX0, Cond.code yX0_record cX0_record 2 none, Cond.fieldLink RX0 13 "WrongedMeters$History" "states" "[LWrongedMeters$Town;", Cond.fieldLink RX0 18 "WrongedMeters$History" "freeSlot" "I", Cond.methodLink RX0 22 yX5_copyFrom, Cond.instanceMethod yX5_copyFrom, Cond.selects RX5 yX5_copyFrom yX5_copyFrom, Cond.initialized RX5, Cond.code yX5_copyFrom cX5_copyFrom 3 none, Cond.fieldLink RX5 11 "WrongedMeters$Town" "houses" "[LWrongedMeters$House;", Cond.fieldLink RX5 19 "WrongedMeters$Town" "streets" "[LWrongedMeters$Street;", Cond.fieldLink RX5 26 "WrongedMeters$Town" "ledger" "LWrongedMeters$Ledger;", Cond.fieldLink RX5 30 "WrongedMeters$Town" "settings" "[I", Cond.methodLink RX5 49 arraycopyName]
def wsX6_house_r2 : List Cond := [Cond.native arraycopyName, Cond.static arraycopyName, Cond.initialized "java/lang/System", Cond.fieldLink RX5 55 "WrongedMeters$Town" "houseCount" "I", Cond.fieldLink RX5 59 "WrongedMeters$Town" "now" "I", Cond.fieldLink RX5 62 "WrongedMeters$Town" "readings" "I", Cond.fieldLink RX5 65 "WrongedMeters$Town" "units" "I", Cond.fieldLink RX5 68 "WrongedMeters$Town" "coins" "I", Cond.fieldLink RX5 71 "WrongedMeters$Town" "hundredths" "I", Cond.fieldLink RX5 74 "WrongedMeters$Town" "refunds" "I", Cond.fieldLink RX5 77 "WrongedMeters$Town" "coinsBack" "I", Cond.fieldLink RX5 80 "WrongedMeters$Town" "years" "I", Cond.methodLink RX5 39 yX1_copyFrom, Cond.instanceMethod yX1_copyFrom, Cond.selects RX1 yX1_copyFrom yX1_copyFrom, Cond.initialized RX1, Cond.code yX1_copyFrom cX1_copyFrom 2 none, Cond.fieldLink RX1 15 "WrongedMeters$House" "street" "I", Cond.fieldLink RX1 18 "WrongedMeters$House" "place" "I", Cond.fieldLink RX1 21 "WrongedMeters$House" "dial" "I", Cond.fieldLink RX1 24 "WrongedMeters$House" "dialBefore" "I", Cond.fieldLink RX1 27 "WrongedMeters$House" "flow" "I", Cond.fieldLink RX1 30 "WrongedMeters$House" "isLocked" "Z", Cond.fieldLink RX1 34 "WrongedMeters$House" "balance" "I"]
def wsX6_house_r3 : List Cond := [Cond.fieldLink RX1 9 "WrongedMeters$House" "latestDay" "I", Cond.fieldLink RX1 37 "WrongedMeters$House" "readings" "I", Cond.fieldLink RX1 40 "WrongedMeters$House" "units" "I", Cond.fieldLink RX1 43 "WrongedMeters$House" "timesHouseWronged" "I", Cond.fieldLink RX1 46 "WrongedMeters$House" "timesCompanyWronged" "I", Cond.fieldLink RX1 49 "WrongedMeters$House" "refunds" "I", Cond.fieldLink RX1 52 "WrongedMeters$House" "metersChanged" "I", Cond.methodLink RX5 43 yX4_copyFrom, Cond.instanceMethod yX4_copyFrom, Cond.selects RX4 yX4_copyFrom yX4_copyFrom, Cond.initialized RX4, Cond.code yX4_copyFrom cX4_copyFrom 2 none, Cond.fieldLink RX4 9 "WrongedMeters$Street" "houses" "[I", Cond.methodLink RX4 19 arraycopyName, Cond.fieldLink RX4 15 "WrongedMeters$Street" "latestStep" "I", Cond.methodLink RX5 46 yX2_copyFrom, Cond.instanceMethod yX2_copyFrom, Cond.selects RX2 yX2_copyFrom yX2_copyFrom, Cond.initialized RX2, Cond.code yX2_copyFrom cX2_copyFrom 2 none, Cond.fieldLink RX2 11 "WrongedMeters$Ledger" "facts" "[I", Cond.methodLink RX2 15 arraycopyName, Cond.fieldLink RX2 21 "WrongedMeters$Ledger" "nextRow" "I", Cond.fieldLink RX2 25 "WrongedMeters$Ledger" "size" "I"]
def wsX6_house_r4 : List Cond := [Cond.methodLink RX6 176 yX5_obey, Cond.instanceMethod yX5_obey, Cond.selects RX5 yX5_obey yX5_obey, Cond.code yX5_obey cX5_obey 4 (some .int), Cond.constant RX5 100 (-1000001), Cond.constant RX5 101 (-1000003), Cond.methodLink RX5 83 yX5_addHouse, Cond.instanceMethod yX5_addHouse, Cond.selects RX5 yX5_addHouse yX5_addHouse, Cond.code yX5_addHouse cX5_addHouse 5 (some .int), Cond.constant RX5 119 (-1000002), Cond.methodLink RX5 105 yX5_streetNumbered, Cond.instanceMethod yX5_streetNumbered, Cond.selects RX5 yX5_streetNumbered yX5_streetNumbered, Cond.code yX5_streetNumbered cX5_streetNumbered 2 (some (.object "WrongedMeters$Street")), Cond.static yX6_isPlace, Cond.code yX6_isPlace cX6_isPlace 1 (some .boolean), Cond.static yX6_stepOf, Cond.code yX6_stepOf cX6_stepOf 1 (some .int), Cond.methodLink RX5 116 yX4_houseOn, Cond.instanceMethod yX4_houseOn, Cond.selects RX4 yX4_houseOn yX4_houseOn, Cond.code yX4_houseOn cX4_houseOn 2 (some .int), Cond.methodLink RX5 126 yX4_putHouse]
def wsX6_house_r5 : List Cond := [Cond.instanceMethod yX4_putHouse, Cond.selects RX4 yX4_putHouse yX4_putHouse, Cond.code yX4_putHouse cX4_putHouse 3 none, Cond.methodLink RX5 87 yX5_putFlow, Cond.instanceMethod yX5_putFlow, Cond.selects RX5 yX5_putFlow yX5_putFlow, Cond.code yX5_putFlow cX5_putFlow 5 (some .int), Cond.methodLink RX5 130 yX5_houseNumbered, Cond.instanceMethod yX5_houseNumbered, Cond.selects RX5 yX5_houseNumbered yX5_houseNumbered, Cond.code yX5_houseNumbered cX5_houseNumbered 2 (some (.object "WrongedMeters$House")), Cond.methodLink RX5 90 yX5_turnLock, Cond.instanceMethod yX5_turnLock, Cond.selects RX5 yX5_turnLock yX5_turnLock, Cond.code yX5_turnLock cX5_turnLock 3 (some .int), Cond.methodLink RX5 141 yX5_putLock, Cond.instanceMethod yX5_putLock, Cond.selects RX5 yX5_putLock yX5_putLock, Cond.code yX5_putLock cX5_putLock 5 (some .int), Cond.methodLink RX5 94 yX5_readIfOpen, Cond.instanceMethod yX5_readIfOpen, Cond.selects RX5 yX5_readIfOpen yX5_readIfOpen, Cond.code yX5_readIfOpen cX5_readIfOpen 3 (some .int), Cond.methodLink RX5 151 yX1_reasonOn]
def wsX6_house_r6 : List Cond := [Cond.instanceMethod yX1_reasonOn, Cond.selects RX1 yX1_reasonOn yX1_reasonOn, Cond.code yX1_reasonOn cX1_reasonOn 2 (some .int), Cond.methodLink RX5 154 yX5_readMeter, Cond.instanceMethod yX5_readMeter, Cond.selects RX5 yX5_readMeter yX5_readMeter, Cond.code yX5_readMeter cX5_readMeter 5 (some .int), Cond.methodLink RX5 161 yX1_used, Cond.instanceMethod yX1_used, Cond.selects RX1 yX1_used yX1_used, Cond.code yX1_used cX1_used 1 (some .int), Cond.constant RX1 55 (100000), Cond.static yX6_unitsFor, Cond.code yX6_unitsFor cX6_unitsFor 2 (some .int), Cond.methodLink RX5 171 yX1_settle, Cond.instanceMethod yX1_settle, Cond.selects RX1 yX1_settle yX1_settle, Cond.code yX1_settle cX1_settle 4 none, Cond.methodLink RX5 175 yX2_add, Cond.instanceMethod yX2_add, Cond.selects RX2 yX2_add yX2_add, Cond.code yX2_add cX2_add 7 none, Cond.methodLink RX2 28 Lib.Math.min.name, Cond.static Lib.Math.min.name]
def wsX6_house_r7 : List Cond := [Cond.initialized "java/lang/Math", Cond.code Lib.Math.min.name Lib.Math.min.code 2 (some .int), Cond.methodLink RX5 97 yX5_changeMeter, Cond.instanceMethod yX5_changeMeter, Cond.selects RX5 yX5_changeMeter yX5_changeMeter, Cond.code yX5_changeMeter cX5_changeMeter 4 (some .int), Cond.methodLink RX5 158 yX1_renewMeter, Cond.instanceMethod yX1_renewMeter, Cond.selects RX1 yX1_renewMeter yX1_renewMeter, Cond.code yX1_renewMeter cX1_renewMeter 1 none, Cond.methodLink RX5 102 yX5_passDays, Cond.instanceMethod yX5_passDays, Cond.selects RX5 yX5_passDays yX5_passDays, Cond.code yX5_passDays cX5_passDays 8 (some .int), Cond.methodLink RX5 179 yX1_goOn, Cond.instanceMethod yX1_goOn, Cond.selects RX1 yX1_goOn yX1_goOn, Cond.code yX1_goOn cX1_goOn 1 none, Cond.methodLink RX5 182 yX5_walk, Cond.instanceMethod yX5_walk, Cond.selects RX5 yX5_walk yX5_walk, Cond.code yX5_walk cX5_walk 8 none, Cond.methodLink RX5 188 yX4_stepAhead, Cond.instanceMethod yX4_stepAhead]
def wsX6_house_r8 : List Cond := [Cond.selects RX4 yX4_stepAhead yX4_stepAhead, Cond.code yX4_stepAhead cX4_stepAhead 2 (some .int), Cond.methodLink RX5 185 yX5_endYear, Cond.instanceMethod yX5_endYear, Cond.selects RX5 yX5_endYear yX5_endYear, Cond.code yX5_endYear cX5_endYear 5 none, Cond.methodLink RX6 45 yX6_kept, Cond.instanceMethod yX6_kept, Cond.selects RX6 yX6_kept yX6_kept, Cond.code yX6_kept cX6_kept 2 (some .int), Cond.methodLink RX6 179 yX0_keep, Cond.instanceMethod yX0_keep, Cond.selects RX0 yX0_keep yX0_keep, Cond.code yX0_keep cX0_keep 1 none, Cond.fieldLink RX0 26 "WrongedMeters$History" "size" "I", Cond.methodLink RX0 29 Lib.Math.min.name]
def wsX6_house : List Cond := .code yX6_house cX6_house 3 (some .int) :: ((wsX6_house_r1 ++ (wsX6_house_r2 ++ (wsX6_house_r3 ++ (wsX6_house_r4 ++ (wsX6_house_r5 ++ (wsX6_house_r6 ++ (wsX6_house_r7 ++ wsX6_house_r8))))))) ++ wsX60 ++ wsX00 ++ wsX50 ++ wsX10 ++ wsX40 ++ wsX20)
def wsX6_flow_r1 : List Cond := [Cond.methodLink RX6 33 yX6_carryOut, Cond.instanceMethod yX6_carryOut, Cond.selects RX6 yX6_carryOut yX6_carryOut, Cond.initialized RX6, Cond.code yX6_carryOut cX6_carryOut 4 (some .int), Cond.fieldLink RX6 22 "WrongedMeters" "history" "LWrongedMeters$History;", Cond.fieldLink RX6 10 "WrongedMeters" "town" "LWrongedMeters$Town;", Cond.methodLink RX6 37 yX0_record, Cond.instanceMethod yX0_record, Cond.selects RX0 yX0_record yX0_record, Cond.initialized RX0, Cond.code yX0_record cX0_record 2 none, Cond.fieldLink RX0 13 "WrongedMeters$History" "states" "[LWrongedMeters$Town;", Cond.fieldLink RX0 18 "WrongedMeters$History" "freeSlot" "I", Cond.methodLink RX0 22 yX5_copyFrom, Cond.instanceMethod yX5_copyFrom, Cond.selects RX5 yX5_copyFrom yX5_copyFrom, Cond.initialized RX5, Cond.code yX5_copyFrom cX5_copyFrom 3 none, Cond.fieldLink RX5 11 "WrongedMeters$Town" "houses" "[LWrongedMeters$House;", Cond.fieldLink RX5 19 "WrongedMeters$Town" "streets" "[LWrongedMeters$Street;", Cond.fieldLink RX5 26 "WrongedMeters$Town" "ledger" "LWrongedMeters$Ledger;", Cond.fieldLink RX5 30 "WrongedMeters$Town" "settings" "[I", Cond.methodLink RX5 49 arraycopyName]
def wsX6_flow_r2 : List Cond := [Cond.native arraycopyName, Cond.static arraycopyName, Cond.initialized "java/lang/System", Cond.fieldLink RX5 55 "WrongedMeters$Town" "houseCount" "I", Cond.fieldLink RX5 59 "WrongedMeters$Town" "now" "I", Cond.fieldLink RX5 62 "WrongedMeters$Town" "readings" "I", Cond.fieldLink RX5 65 "WrongedMeters$Town" "units" "I", Cond.fieldLink RX5 68 "WrongedMeters$Town" "coins" "I", Cond.fieldLink RX5 71 "WrongedMeters$Town" "hundredths" "I", Cond.fieldLink RX5 74 "WrongedMeters$Town" "refunds" "I", Cond.fieldLink RX5 77 "WrongedMeters$Town" "coinsBack" "I", Cond.fieldLink RX5 80 "WrongedMeters$Town" "years" "I", Cond.methodLink RX5 39 yX1_copyFrom, Cond.instanceMethod yX1_copyFrom, Cond.selects RX1 yX1_copyFrom yX1_copyFrom, Cond.initialized RX1, Cond.code yX1_copyFrom cX1_copyFrom 2 none, Cond.fieldLink RX1 15 "WrongedMeters$House" "street" "I", Cond.fieldLink RX1 18 "WrongedMeters$House" "place" "I", Cond.fieldLink RX1 21 "WrongedMeters$House" "dial" "I", Cond.fieldLink RX1 24 "WrongedMeters$House" "dialBefore" "I", Cond.fieldLink RX1 27 "WrongedMeters$House" "flow" "I", Cond.fieldLink RX1 30 "WrongedMeters$House" "isLocked" "Z", Cond.fieldLink RX1 34 "WrongedMeters$House" "balance" "I"]
def wsX6_flow_r3 : List Cond := [Cond.fieldLink RX1 9 "WrongedMeters$House" "latestDay" "I", Cond.fieldLink RX1 37 "WrongedMeters$House" "readings" "I", Cond.fieldLink RX1 40 "WrongedMeters$House" "units" "I", Cond.fieldLink RX1 43 "WrongedMeters$House" "timesHouseWronged" "I", Cond.fieldLink RX1 46 "WrongedMeters$House" "timesCompanyWronged" "I", Cond.fieldLink RX1 49 "WrongedMeters$House" "refunds" "I", Cond.fieldLink RX1 52 "WrongedMeters$House" "metersChanged" "I", Cond.methodLink RX5 43 yX4_copyFrom, Cond.instanceMethod yX4_copyFrom, Cond.selects RX4 yX4_copyFrom yX4_copyFrom, Cond.initialized RX4, Cond.code yX4_copyFrom cX4_copyFrom 2 none, Cond.fieldLink RX4 9 "WrongedMeters$Street" "houses" "[I", Cond.methodLink RX4 19 arraycopyName, Cond.fieldLink RX4 15 "WrongedMeters$Street" "latestStep" "I", Cond.methodLink RX5 46 yX2_copyFrom, Cond.instanceMethod yX2_copyFrom, Cond.selects RX2 yX2_copyFrom yX2_copyFrom, Cond.initialized RX2, Cond.code yX2_copyFrom cX2_copyFrom 2 none, Cond.fieldLink RX2 11 "WrongedMeters$Ledger" "facts" "[I", Cond.methodLink RX2 15 arraycopyName, Cond.fieldLink RX2 21 "WrongedMeters$Ledger" "nextRow" "I", Cond.fieldLink RX2 25 "WrongedMeters$Ledger" "size" "I"]
def wsX6_flow_r4 : List Cond := [Cond.methodLink RX6 176 yX5_obey, Cond.instanceMethod yX5_obey, Cond.selects RX5 yX5_obey yX5_obey, Cond.code yX5_obey cX5_obey 4 (some .int), Cond.constant RX5 100 (-1000001), Cond.constant RX5 101 (-1000003), Cond.methodLink RX5 83 yX5_addHouse, Cond.instanceMethod yX5_addHouse, Cond.selects RX5 yX5_addHouse yX5_addHouse, Cond.code yX5_addHouse cX5_addHouse 5 (some .int), Cond.constant RX5 119 (-1000002), Cond.methodLink RX5 105 yX5_streetNumbered, Cond.instanceMethod yX5_streetNumbered, Cond.selects RX5 yX5_streetNumbered yX5_streetNumbered, Cond.code yX5_streetNumbered cX5_streetNumbered 2 (some (.object "WrongedMeters$Street")), Cond.static yX6_isPlace, Cond.code yX6_isPlace cX6_isPlace 1 (some .boolean), Cond.static yX6_stepOf, Cond.code yX6_stepOf cX6_stepOf 1 (some .int), Cond.methodLink RX5 116 yX4_houseOn, Cond.instanceMethod yX4_houseOn, Cond.selects RX4 yX4_houseOn yX4_houseOn, Cond.code yX4_houseOn cX4_houseOn 2 (some .int), Cond.methodLink RX5 126 yX4_putHouse]
def wsX6_flow_r5 : List Cond := [Cond.instanceMethod yX4_putHouse, Cond.selects RX4 yX4_putHouse yX4_putHouse, Cond.code yX4_putHouse cX4_putHouse 3 none, Cond.methodLink RX5 87 yX5_putFlow, Cond.instanceMethod yX5_putFlow, Cond.selects RX5 yX5_putFlow yX5_putFlow, Cond.code yX5_putFlow cX5_putFlow 5 (some .int), Cond.methodLink RX5 130 yX5_houseNumbered, Cond.instanceMethod yX5_houseNumbered, Cond.selects RX5 yX5_houseNumbered yX5_houseNumbered, Cond.code yX5_houseNumbered cX5_houseNumbered 2 (some (.object "WrongedMeters$House")), Cond.methodLink RX5 90 yX5_turnLock, Cond.instanceMethod yX5_turnLock, Cond.selects RX5 yX5_turnLock yX5_turnLock, Cond.code yX5_turnLock cX5_turnLock 3 (some .int), Cond.methodLink RX5 141 yX5_putLock, Cond.instanceMethod yX5_putLock, Cond.selects RX5 yX5_putLock yX5_putLock, Cond.code yX5_putLock cX5_putLock 5 (some .int), Cond.methodLink RX5 94 yX5_readIfOpen, Cond.instanceMethod yX5_readIfOpen, Cond.selects RX5 yX5_readIfOpen yX5_readIfOpen, Cond.code yX5_readIfOpen cX5_readIfOpen 3 (some .int), Cond.methodLink RX5 151 yX1_reasonOn]
def wsX6_flow_r6 : List Cond := [Cond.instanceMethod yX1_reasonOn, Cond.selects RX1 yX1_reasonOn yX1_reasonOn, Cond.code yX1_reasonOn cX1_reasonOn 2 (some .int), Cond.methodLink RX5 154 yX5_readMeter, Cond.instanceMethod yX5_readMeter, Cond.selects RX5 yX5_readMeter yX5_readMeter, Cond.code yX5_readMeter cX5_readMeter 5 (some .int), Cond.methodLink RX5 161 yX1_used, Cond.instanceMethod yX1_used, Cond.selects RX1 yX1_used yX1_used, Cond.code yX1_used cX1_used 1 (some .int), Cond.constant RX1 55 (100000), Cond.static yX6_unitsFor, Cond.code yX6_unitsFor cX6_unitsFor 2 (some .int), Cond.methodLink RX5 171 yX1_settle, Cond.instanceMethod yX1_settle, Cond.selects RX1 yX1_settle yX1_settle, Cond.code yX1_settle cX1_settle 4 none, Cond.methodLink RX5 175 yX2_add, Cond.instanceMethod yX2_add, Cond.selects RX2 yX2_add yX2_add, Cond.code yX2_add cX2_add 7 none, Cond.methodLink RX2 28 Lib.Math.min.name, Cond.static Lib.Math.min.name]
def wsX6_flow_r7 : List Cond := [Cond.initialized "java/lang/Math", Cond.code Lib.Math.min.name Lib.Math.min.code 2 (some .int), Cond.methodLink RX5 97 yX5_changeMeter, Cond.instanceMethod yX5_changeMeter, Cond.selects RX5 yX5_changeMeter yX5_changeMeter, Cond.code yX5_changeMeter cX5_changeMeter 4 (some .int), Cond.methodLink RX5 158 yX1_renewMeter, Cond.instanceMethod yX1_renewMeter, Cond.selects RX1 yX1_renewMeter yX1_renewMeter, Cond.code yX1_renewMeter cX1_renewMeter 1 none, Cond.methodLink RX5 102 yX5_passDays, Cond.instanceMethod yX5_passDays, Cond.selects RX5 yX5_passDays yX5_passDays, Cond.code yX5_passDays cX5_passDays 8 (some .int), Cond.methodLink RX5 179 yX1_goOn, Cond.instanceMethod yX1_goOn, Cond.selects RX1 yX1_goOn yX1_goOn, Cond.code yX1_goOn cX1_goOn 1 none, Cond.methodLink RX5 182 yX5_walk, Cond.instanceMethod yX5_walk, Cond.selects RX5 yX5_walk yX5_walk, Cond.code yX5_walk cX5_walk 8 none, Cond.methodLink RX5 188 yX4_stepAhead, Cond.instanceMethod yX4_stepAhead]
def wsX6_flow_r8 : List Cond := [Cond.selects RX4 yX4_stepAhead yX4_stepAhead, Cond.code yX4_stepAhead cX4_stepAhead 2 (some .int), Cond.methodLink RX5 185 yX5_endYear, Cond.instanceMethod yX5_endYear, Cond.selects RX5 yX5_endYear yX5_endYear, Cond.code yX5_endYear cX5_endYear 5 none, Cond.methodLink RX6 45 yX6_kept, Cond.instanceMethod yX6_kept, Cond.selects RX6 yX6_kept yX6_kept, Cond.code yX6_kept cX6_kept 2 (some .int), Cond.methodLink RX6 179 yX0_keep, Cond.instanceMethod yX0_keep, Cond.selects RX0 yX0_keep yX0_keep, Cond.code yX0_keep cX0_keep 1 none, Cond.fieldLink RX0 26 "WrongedMeters$History" "size" "I", Cond.methodLink RX0 29 Lib.Math.min.name]
def wsX6_flow : List Cond := .code yX6_flow cX6_flow 3 (some .int) :: ((wsX6_flow_r1 ++ (wsX6_flow_r2 ++ (wsX6_flow_r3 ++ (wsX6_flow_r4 ++ (wsX6_flow_r5 ++ (wsX6_flow_r6 ++ (wsX6_flow_r7 ++ wsX6_flow_r8))))))) ++ wsX60 ++ wsX00 ++ wsX50 ++ wsX10 ++ wsX40 ++ wsX20)
def wsX6_lock_r1 : List Cond := [Cond.fieldLink RX6 22 "WrongedMeters" "history" "LWrongedMeters$History;", Cond.fieldLink RX6 10 "WrongedMeters" "town" "LWrongedMeters$Town;", Cond.methodLink RX6 37 yX0_record, Cond.instanceMethod yX0_record, Cond.selects RX0 yX0_record yX0_record, Cond.initialized RX0, Cond.code yX0_record cX0_record 2 none, Cond.fieldLink RX0 13 "WrongedMeters$History" "states" "[LWrongedMeters$Town;", Cond.fieldLink RX0 18 "WrongedMeters$History" "freeSlot" "I", Cond.methodLink RX0 22 yX5_copyFrom, Cond.instanceMethod yX5_copyFrom, Cond.selects RX5 yX5_copyFrom yX5_copyFrom, Cond.initialized RX5, Cond.code yX5_copyFrom cX5_copyFrom 3 none, Cond.fieldLink RX5 11 "WrongedMeters$Town" "houses" "[LWrongedMeters$House;", Cond.fieldLink RX5 19 "WrongedMeters$Town" "streets" "[LWrongedMeters$Street;", Cond.fieldLink RX5 26 "WrongedMeters$Town" "ledger" "LWrongedMeters$Ledger;", Cond.fieldLink RX5 30 "WrongedMeters$Town" "settings" "[I", Cond.methodLink RX5 49 arraycopyName, Cond.native arraycopyName, Cond.static arraycopyName, Cond.initialized "java/lang/System", Cond.fieldLink RX5 55 "WrongedMeters$Town" "houseCount" "I", Cond.fieldLink RX5 59 "WrongedMeters$Town" "now" "I"]
def wsX6_lock_r2 : List Cond := [Cond.fieldLink RX5 62 "WrongedMeters$Town" "readings" "I", Cond.fieldLink RX5 65 "WrongedMeters$Town" "units" "I", Cond.fieldLink RX5 68 "WrongedMeters$Town" "coins" "I", Cond.fieldLink RX5 71 "WrongedMeters$Town" "hundredths" "I", Cond.fieldLink RX5 74 "WrongedMeters$Town" "refunds" "I", Cond.fieldLink RX5 77 "WrongedMeters$Town" "coinsBack" "I", Cond.fieldLink RX5 80 "WrongedMeters$Town" "years" "I", Cond.methodLink RX5 39 yX1_copyFrom, Cond.instanceMethod yX1_copyFrom, Cond.selects RX1 yX1_copyFrom yX1_copyFrom, Cond.initialized RX1, Cond.code yX1_copyFrom cX1_copyFrom 2 none, Cond.fieldLink RX1 15 "WrongedMeters$House" "street" "I", Cond.fieldLink RX1 18 "WrongedMeters$House" "place" "I", Cond.fieldLink RX1 21 "WrongedMeters$House" "dial" "I", Cond.fieldLink RX1 24 "WrongedMeters$House" "dialBefore" "I", Cond.fieldLink RX1 27 "WrongedMeters$House" "flow" "I", Cond.fieldLink RX1 30 "WrongedMeters$House" "isLocked" "Z", Cond.fieldLink RX1 34 "WrongedMeters$House" "balance" "I", Cond.fieldLink RX1 9 "WrongedMeters$House" "latestDay" "I", Cond.fieldLink RX1 37 "WrongedMeters$House" "readings" "I", Cond.fieldLink RX1 40 "WrongedMeters$House" "units" "I", Cond.fieldLink RX1 43 "WrongedMeters$House" "timesHouseWronged" "I", Cond.fieldLink RX1 46 "WrongedMeters$House" "timesCompanyWronged" "I"]
def wsX6_lock_r3 : List Cond := [Cond.fieldLink RX1 49 "WrongedMeters$House" "refunds" "I", Cond.fieldLink RX1 52 "WrongedMeters$House" "metersChanged" "I", Cond.methodLink RX5 43 yX4_copyFrom, Cond.instanceMethod yX4_copyFrom, Cond.selects RX4 yX4_copyFrom yX4_copyFrom, Cond.initialized RX4, Cond.code yX4_copyFrom cX4_copyFrom 2 none, Cond.fieldLink RX4 9 "WrongedMeters$Street" "houses" "[I", Cond.methodLink RX4 19 arraycopyName, Cond.fieldLink RX4 15 "WrongedMeters$Street" "latestStep" "I", Cond.methodLink RX5 46 yX2_copyFrom, Cond.instanceMethod yX2_copyFrom, Cond.selects RX2 yX2_copyFrom yX2_copyFrom, Cond.initialized RX2, Cond.code yX2_copyFrom cX2_copyFrom 2 none, Cond.fieldLink RX2 11 "WrongedMeters$Ledger" "facts" "[I", Cond.methodLink RX2 15 arraycopyName, Cond.fieldLink RX2 21 "WrongedMeters$Ledger" "nextRow" "I", Cond.fieldLink RX2 25 "WrongedMeters$Ledger" "size" "I", Cond.methodLink RX6 41 yX5_putLock, Cond.instanceMethod yX5_putLock, Cond.selects RX5 yX5_putLock yX5_putLock, Cond.code yX5_putLock cX5_putLock 5 (some .int), Cond.constant RX5 100 (-1000001)]
def wsX6_lock_r4 : List Cond := [Cond.methodLink RX5 130 yX5_houseNumbered, Cond.instanceMethod yX5_houseNumbered, Cond.selects RX5 yX5_houseNumbered yX5_houseNumbered, Cond.code yX5_houseNumbered cX5_houseNumbered 2 (some (.object "WrongedMeters$House")), Cond.methodLink RX6 45 yX6_kept, Cond.instanceMethod yX6_kept, Cond.selects RX6 yX6_kept yX6_kept, Cond.initialized RX6, Cond.code yX6_kept cX6_kept 2 (some .int), Cond.methodLink RX6 179 yX0_keep, Cond.instanceMethod yX0_keep, Cond.selects RX0 yX0_keep yX0_keep, Cond.code yX0_keep cX0_keep 1 none, Cond.fieldLink RX0 26 "WrongedMeters$History" "size" "I", Cond.methodLink RX0 29 Lib.Math.min.name, Cond.static Lib.Math.min.name, Cond.initialized "java/lang/Math", Cond.code Lib.Math.min.name Lib.Math.min.code 2 (some .int)]
def wsX6_lock : List Cond := .code yX6_lock cX6_lock 3 (some .int) :: ((wsX6_lock_r1 ++ (wsX6_lock_r2 ++ (wsX6_lock_r3 ++ wsX6_lock_r4))) ++ wsX60 ++ wsX00 ++ wsX50 ++ wsX10 ++ wsX40 ++ wsX20)
def wsX6_read_r1 : List Cond := [Cond.methodLink RX6 33 yX6_carryOut, Cond.instanceMethod yX6_carryOut, Cond.selects RX6 yX6_carryOut yX6_carryOut, Cond.initialized RX6, Cond.code yX6_carryOut cX6_carryOut 4 (some .int), Cond.fieldLink RX6 22 "WrongedMeters" "history" "LWrongedMeters$History;", Cond.fieldLink RX6 10 "WrongedMeters" "town" "LWrongedMeters$Town;", Cond.methodLink RX6 37 yX0_record, Cond.instanceMethod yX0_record, Cond.selects RX0 yX0_record yX0_record, Cond.initialized RX0, Cond.code yX0_record cX0_record 2 none, Cond.fieldLink RX0 13 "WrongedMeters$History" "states" "[LWrongedMeters$Town;", Cond.fieldLink RX0 18 "WrongedMeters$History" "freeSlot" "I", Cond.methodLink RX0 22 yX5_copyFrom, Cond.instanceMethod yX5_copyFrom, Cond.selects RX5 yX5_copyFrom yX5_copyFrom, Cond.initialized RX5, Cond.code yX5_copyFrom cX5_copyFrom 3 none, Cond.fieldLink RX5 11 "WrongedMeters$Town" "houses" "[LWrongedMeters$House;", Cond.fieldLink RX5 19 "WrongedMeters$Town" "streets" "[LWrongedMeters$Street;", Cond.fieldLink RX5 26 "WrongedMeters$Town" "ledger" "LWrongedMeters$Ledger;", Cond.fieldLink RX5 30 "WrongedMeters$Town" "settings" "[I", Cond.methodLink RX5 49 arraycopyName]
def wsX6_read_r2 : List Cond := [Cond.native arraycopyName, Cond.static arraycopyName, Cond.initialized "java/lang/System", Cond.fieldLink RX5 55 "WrongedMeters$Town" "houseCount" "I", Cond.fieldLink RX5 59 "WrongedMeters$Town" "now" "I", Cond.fieldLink RX5 62 "WrongedMeters$Town" "readings" "I", Cond.fieldLink RX5 65 "WrongedMeters$Town" "units" "I", Cond.fieldLink RX5 68 "WrongedMeters$Town" "coins" "I", Cond.fieldLink RX5 71 "WrongedMeters$Town" "hundredths" "I", Cond.fieldLink RX5 74 "WrongedMeters$Town" "refunds" "I", Cond.fieldLink RX5 77 "WrongedMeters$Town" "coinsBack" "I", Cond.fieldLink RX5 80 "WrongedMeters$Town" "years" "I", Cond.methodLink RX5 39 yX1_copyFrom, Cond.instanceMethod yX1_copyFrom, Cond.selects RX1 yX1_copyFrom yX1_copyFrom, Cond.initialized RX1, Cond.code yX1_copyFrom cX1_copyFrom 2 none, Cond.fieldLink RX1 15 "WrongedMeters$House" "street" "I", Cond.fieldLink RX1 18 "WrongedMeters$House" "place" "I", Cond.fieldLink RX1 21 "WrongedMeters$House" "dial" "I", Cond.fieldLink RX1 24 "WrongedMeters$House" "dialBefore" "I", Cond.fieldLink RX1 27 "WrongedMeters$House" "flow" "I", Cond.fieldLink RX1 30 "WrongedMeters$House" "isLocked" "Z", Cond.fieldLink RX1 34 "WrongedMeters$House" "balance" "I"]
def wsX6_read_r3 : List Cond := [Cond.fieldLink RX1 9 "WrongedMeters$House" "latestDay" "I", Cond.fieldLink RX1 37 "WrongedMeters$House" "readings" "I", Cond.fieldLink RX1 40 "WrongedMeters$House" "units" "I", Cond.fieldLink RX1 43 "WrongedMeters$House" "timesHouseWronged" "I", Cond.fieldLink RX1 46 "WrongedMeters$House" "timesCompanyWronged" "I", Cond.fieldLink RX1 49 "WrongedMeters$House" "refunds" "I", Cond.fieldLink RX1 52 "WrongedMeters$House" "metersChanged" "I", Cond.methodLink RX5 43 yX4_copyFrom, Cond.instanceMethod yX4_copyFrom, Cond.selects RX4 yX4_copyFrom yX4_copyFrom, Cond.initialized RX4, Cond.code yX4_copyFrom cX4_copyFrom 2 none, Cond.fieldLink RX4 9 "WrongedMeters$Street" "houses" "[I", Cond.methodLink RX4 19 arraycopyName, Cond.fieldLink RX4 15 "WrongedMeters$Street" "latestStep" "I", Cond.methodLink RX5 46 yX2_copyFrom, Cond.instanceMethod yX2_copyFrom, Cond.selects RX2 yX2_copyFrom yX2_copyFrom, Cond.initialized RX2, Cond.code yX2_copyFrom cX2_copyFrom 2 none, Cond.fieldLink RX2 11 "WrongedMeters$Ledger" "facts" "[I", Cond.methodLink RX2 15 arraycopyName, Cond.fieldLink RX2 21 "WrongedMeters$Ledger" "nextRow" "I", Cond.fieldLink RX2 25 "WrongedMeters$Ledger" "size" "I"]
def wsX6_read_r4 : List Cond := [Cond.methodLink RX6 176 yX5_obey, Cond.instanceMethod yX5_obey, Cond.selects RX5 yX5_obey yX5_obey, Cond.code yX5_obey cX5_obey 4 (some .int), Cond.constant RX5 100 (-1000001), Cond.constant RX5 101 (-1000003), Cond.methodLink RX5 83 yX5_addHouse, Cond.instanceMethod yX5_addHouse, Cond.selects RX5 yX5_addHouse yX5_addHouse, Cond.code yX5_addHouse cX5_addHouse 5 (some .int), Cond.constant RX5 119 (-1000002), Cond.methodLink RX5 105 yX5_streetNumbered, Cond.instanceMethod yX5_streetNumbered, Cond.selects RX5 yX5_streetNumbered yX5_streetNumbered, Cond.code yX5_streetNumbered cX5_streetNumbered 2 (some (.object "WrongedMeters$Street")), Cond.static yX6_isPlace, Cond.code yX6_isPlace cX6_isPlace 1 (some .boolean), Cond.static yX6_stepOf, Cond.code yX6_stepOf cX6_stepOf 1 (some .int), Cond.methodLink RX5 116 yX4_houseOn, Cond.instanceMethod yX4_houseOn, Cond.selects RX4 yX4_houseOn yX4_houseOn, Cond.code yX4_houseOn cX4_houseOn 2 (some .int), Cond.methodLink RX5 126 yX4_putHouse]
def wsX6_read_r5 : List Cond := [Cond.instanceMethod yX4_putHouse, Cond.selects RX4 yX4_putHouse yX4_putHouse, Cond.code yX4_putHouse cX4_putHouse 3 none, Cond.methodLink RX5 87 yX5_putFlow, Cond.instanceMethod yX5_putFlow, Cond.selects RX5 yX5_putFlow yX5_putFlow, Cond.code yX5_putFlow cX5_putFlow 5 (some .int), Cond.methodLink RX5 130 yX5_houseNumbered, Cond.instanceMethod yX5_houseNumbered, Cond.selects RX5 yX5_houseNumbered yX5_houseNumbered, Cond.code yX5_houseNumbered cX5_houseNumbered 2 (some (.object "WrongedMeters$House")), Cond.methodLink RX5 90 yX5_turnLock, Cond.instanceMethod yX5_turnLock, Cond.selects RX5 yX5_turnLock yX5_turnLock, Cond.code yX5_turnLock cX5_turnLock 3 (some .int), Cond.methodLink RX5 141 yX5_putLock, Cond.instanceMethod yX5_putLock, Cond.selects RX5 yX5_putLock yX5_putLock, Cond.code yX5_putLock cX5_putLock 5 (some .int), Cond.methodLink RX5 94 yX5_readIfOpen, Cond.instanceMethod yX5_readIfOpen, Cond.selects RX5 yX5_readIfOpen yX5_readIfOpen, Cond.code yX5_readIfOpen cX5_readIfOpen 3 (some .int), Cond.methodLink RX5 151 yX1_reasonOn]
def wsX6_read_r6 : List Cond := [Cond.instanceMethod yX1_reasonOn, Cond.selects RX1 yX1_reasonOn yX1_reasonOn, Cond.code yX1_reasonOn cX1_reasonOn 2 (some .int), Cond.methodLink RX5 154 yX5_readMeter, Cond.instanceMethod yX5_readMeter, Cond.selects RX5 yX5_readMeter yX5_readMeter, Cond.code yX5_readMeter cX5_readMeter 5 (some .int), Cond.methodLink RX5 161 yX1_used, Cond.instanceMethod yX1_used, Cond.selects RX1 yX1_used yX1_used, Cond.code yX1_used cX1_used 1 (some .int), Cond.constant RX1 55 (100000), Cond.static yX6_unitsFor, Cond.code yX6_unitsFor cX6_unitsFor 2 (some .int), Cond.methodLink RX5 171 yX1_settle, Cond.instanceMethod yX1_settle, Cond.selects RX1 yX1_settle yX1_settle, Cond.code yX1_settle cX1_settle 4 none, Cond.methodLink RX5 175 yX2_add, Cond.instanceMethod yX2_add, Cond.selects RX2 yX2_add yX2_add, Cond.code yX2_add cX2_add 7 none, Cond.methodLink RX2 28 Lib.Math.min.name, Cond.static Lib.Math.min.name]
def wsX6_read_r7 : List Cond := [Cond.initialized "java/lang/Math", Cond.code Lib.Math.min.name Lib.Math.min.code 2 (some .int), Cond.methodLink RX5 97 yX5_changeMeter, Cond.instanceMethod yX5_changeMeter, Cond.selects RX5 yX5_changeMeter yX5_changeMeter, Cond.code yX5_changeMeter cX5_changeMeter 4 (some .int), Cond.methodLink RX5 158 yX1_renewMeter, Cond.instanceMethod yX1_renewMeter, Cond.selects RX1 yX1_renewMeter yX1_renewMeter, Cond.code yX1_renewMeter cX1_renewMeter 1 none, Cond.methodLink RX5 102 yX5_passDays, Cond.instanceMethod yX5_passDays, Cond.selects RX5 yX5_passDays yX5_passDays, Cond.code yX5_passDays cX5_passDays 8 (some .int), Cond.methodLink RX5 179 yX1_goOn, Cond.instanceMethod yX1_goOn, Cond.selects RX1 yX1_goOn yX1_goOn, Cond.code yX1_goOn cX1_goOn 1 none, Cond.methodLink RX5 182 yX5_walk, Cond.instanceMethod yX5_walk, Cond.selects RX5 yX5_walk yX5_walk, Cond.code yX5_walk cX5_walk 8 none, Cond.methodLink RX5 188 yX4_stepAhead, Cond.instanceMethod yX4_stepAhead]
def wsX6_read_r8 : List Cond := [Cond.selects RX4 yX4_stepAhead yX4_stepAhead, Cond.code yX4_stepAhead cX4_stepAhead 2 (some .int), Cond.methodLink RX5 185 yX5_endYear, Cond.instanceMethod yX5_endYear, Cond.selects RX5 yX5_endYear yX5_endYear, Cond.code yX5_endYear cX5_endYear 5 none, Cond.methodLink RX6 45 yX6_kept, Cond.instanceMethod yX6_kept, Cond.selects RX6 yX6_kept yX6_kept, Cond.code yX6_kept cX6_kept 2 (some .int), Cond.methodLink RX6 179 yX0_keep, Cond.instanceMethod yX0_keep, Cond.selects RX0 yX0_keep yX0_keep, Cond.code yX0_keep cX0_keep 1 none, Cond.fieldLink RX0 26 "WrongedMeters$History" "size" "I", Cond.methodLink RX0 29 Lib.Math.min.name]
def wsX6_read : List Cond := .code yX6_read cX6_read 2 (some .int) :: ((wsX6_read_r1 ++ (wsX6_read_r2 ++ (wsX6_read_r3 ++ (wsX6_read_r4 ++ (wsX6_read_r5 ++ (wsX6_read_r6 ++ (wsX6_read_r7 ++ wsX6_read_r8))))))) ++ wsX60 ++ wsX00 ++ wsX50 ++ wsX10 ++ wsX40 ++ wsX20)
def wsX6_change_r1 : List Cond := [Cond.methodLink RX6 33 yX6_carryOut, Cond.instanceMethod yX6_carryOut, Cond.selects RX6 yX6_carryOut yX6_carryOut, Cond.initialized RX6, Cond.code yX6_carryOut cX6_carryOut 4 (some .int), Cond.fieldLink RX6 22 "WrongedMeters" "history" "LWrongedMeters$History;", Cond.fieldLink RX6 10 "WrongedMeters" "town" "LWrongedMeters$Town;", Cond.methodLink RX6 37 yX0_record, Cond.instanceMethod yX0_record, Cond.selects RX0 yX0_record yX0_record, Cond.initialized RX0, Cond.code yX0_record cX0_record 2 none, Cond.fieldLink RX0 13 "WrongedMeters$History" "states" "[LWrongedMeters$Town;", Cond.fieldLink RX0 18 "WrongedMeters$History" "freeSlot" "I", Cond.methodLink RX0 22 yX5_copyFrom, Cond.instanceMethod yX5_copyFrom, Cond.selects RX5 yX5_copyFrom yX5_copyFrom, Cond.initialized RX5, Cond.code yX5_copyFrom cX5_copyFrom 3 none, Cond.fieldLink RX5 11 "WrongedMeters$Town" "houses" "[LWrongedMeters$House;", Cond.fieldLink RX5 19 "WrongedMeters$Town" "streets" "[LWrongedMeters$Street;", Cond.fieldLink RX5 26 "WrongedMeters$Town" "ledger" "LWrongedMeters$Ledger;", Cond.fieldLink RX5 30 "WrongedMeters$Town" "settings" "[I", Cond.methodLink RX5 49 arraycopyName]
def wsX6_change_r2 : List Cond := [Cond.native arraycopyName, Cond.static arraycopyName, Cond.initialized "java/lang/System", Cond.fieldLink RX5 55 "WrongedMeters$Town" "houseCount" "I", Cond.fieldLink RX5 59 "WrongedMeters$Town" "now" "I", Cond.fieldLink RX5 62 "WrongedMeters$Town" "readings" "I", Cond.fieldLink RX5 65 "WrongedMeters$Town" "units" "I", Cond.fieldLink RX5 68 "WrongedMeters$Town" "coins" "I", Cond.fieldLink RX5 71 "WrongedMeters$Town" "hundredths" "I", Cond.fieldLink RX5 74 "WrongedMeters$Town" "refunds" "I", Cond.fieldLink RX5 77 "WrongedMeters$Town" "coinsBack" "I", Cond.fieldLink RX5 80 "WrongedMeters$Town" "years" "I", Cond.methodLink RX5 39 yX1_copyFrom, Cond.instanceMethod yX1_copyFrom, Cond.selects RX1 yX1_copyFrom yX1_copyFrom, Cond.initialized RX1, Cond.code yX1_copyFrom cX1_copyFrom 2 none, Cond.fieldLink RX1 15 "WrongedMeters$House" "street" "I", Cond.fieldLink RX1 18 "WrongedMeters$House" "place" "I", Cond.fieldLink RX1 21 "WrongedMeters$House" "dial" "I", Cond.fieldLink RX1 24 "WrongedMeters$House" "dialBefore" "I", Cond.fieldLink RX1 27 "WrongedMeters$House" "flow" "I", Cond.fieldLink RX1 30 "WrongedMeters$House" "isLocked" "Z", Cond.fieldLink RX1 34 "WrongedMeters$House" "balance" "I"]
def wsX6_change_r3 : List Cond := [Cond.fieldLink RX1 9 "WrongedMeters$House" "latestDay" "I", Cond.fieldLink RX1 37 "WrongedMeters$House" "readings" "I", Cond.fieldLink RX1 40 "WrongedMeters$House" "units" "I", Cond.fieldLink RX1 43 "WrongedMeters$House" "timesHouseWronged" "I", Cond.fieldLink RX1 46 "WrongedMeters$House" "timesCompanyWronged" "I", Cond.fieldLink RX1 49 "WrongedMeters$House" "refunds" "I", Cond.fieldLink RX1 52 "WrongedMeters$House" "metersChanged" "I", Cond.methodLink RX5 43 yX4_copyFrom, Cond.instanceMethod yX4_copyFrom, Cond.selects RX4 yX4_copyFrom yX4_copyFrom, Cond.initialized RX4, Cond.code yX4_copyFrom cX4_copyFrom 2 none, Cond.fieldLink RX4 9 "WrongedMeters$Street" "houses" "[I", Cond.methodLink RX4 19 arraycopyName, Cond.fieldLink RX4 15 "WrongedMeters$Street" "latestStep" "I", Cond.methodLink RX5 46 yX2_copyFrom, Cond.instanceMethod yX2_copyFrom, Cond.selects RX2 yX2_copyFrom yX2_copyFrom, Cond.initialized RX2, Cond.code yX2_copyFrom cX2_copyFrom 2 none, Cond.fieldLink RX2 11 "WrongedMeters$Ledger" "facts" "[I", Cond.methodLink RX2 15 arraycopyName, Cond.fieldLink RX2 21 "WrongedMeters$Ledger" "nextRow" "I", Cond.fieldLink RX2 25 "WrongedMeters$Ledger" "size" "I"]
def wsX6_change_r4 : List Cond := [Cond.methodLink RX6 176 yX5_obey, Cond.instanceMethod yX5_obey, Cond.selects RX5 yX5_obey yX5_obey, Cond.code yX5_obey cX5_obey 4 (some .int), Cond.constant RX5 100 (-1000001), Cond.constant RX5 101 (-1000003), Cond.methodLink RX5 83 yX5_addHouse, Cond.instanceMethod yX5_addHouse, Cond.selects RX5 yX5_addHouse yX5_addHouse, Cond.code yX5_addHouse cX5_addHouse 5 (some .int), Cond.constant RX5 119 (-1000002), Cond.methodLink RX5 105 yX5_streetNumbered, Cond.instanceMethod yX5_streetNumbered, Cond.selects RX5 yX5_streetNumbered yX5_streetNumbered, Cond.code yX5_streetNumbered cX5_streetNumbered 2 (some (.object "WrongedMeters$Street")), Cond.static yX6_isPlace, Cond.code yX6_isPlace cX6_isPlace 1 (some .boolean), Cond.static yX6_stepOf, Cond.code yX6_stepOf cX6_stepOf 1 (some .int), Cond.methodLink RX5 116 yX4_houseOn, Cond.instanceMethod yX4_houseOn, Cond.selects RX4 yX4_houseOn yX4_houseOn, Cond.code yX4_houseOn cX4_houseOn 2 (some .int), Cond.methodLink RX5 126 yX4_putHouse]
def wsX6_change_r5 : List Cond := [Cond.instanceMethod yX4_putHouse, Cond.selects RX4 yX4_putHouse yX4_putHouse, Cond.code yX4_putHouse cX4_putHouse 3 none, Cond.methodLink RX5 87 yX5_putFlow, Cond.instanceMethod yX5_putFlow, Cond.selects RX5 yX5_putFlow yX5_putFlow, Cond.code yX5_putFlow cX5_putFlow 5 (some .int), Cond.methodLink RX5 130 yX5_houseNumbered, Cond.instanceMethod yX5_houseNumbered, Cond.selects RX5 yX5_houseNumbered yX5_houseNumbered, Cond.code yX5_houseNumbered cX5_houseNumbered 2 (some (.object "WrongedMeters$House")), Cond.methodLink RX5 90 yX5_turnLock, Cond.instanceMethod yX5_turnLock, Cond.selects RX5 yX5_turnLock yX5_turnLock, Cond.code yX5_turnLock cX5_turnLock 3 (some .int), Cond.methodLink RX5 141 yX5_putLock, Cond.instanceMethod yX5_putLock, Cond.selects RX5 yX5_putLock yX5_putLock, Cond.code yX5_putLock cX5_putLock 5 (some .int), Cond.methodLink RX5 94 yX5_readIfOpen, Cond.instanceMethod yX5_readIfOpen, Cond.selects RX5 yX5_readIfOpen yX5_readIfOpen, Cond.code yX5_readIfOpen cX5_readIfOpen 3 (some .int), Cond.methodLink RX5 151 yX1_reasonOn]
def wsX6_change_r6 : List Cond := [Cond.instanceMethod yX1_reasonOn, Cond.selects RX1 yX1_reasonOn yX1_reasonOn, Cond.code yX1_reasonOn cX1_reasonOn 2 (some .int), Cond.methodLink RX5 154 yX5_readMeter, Cond.instanceMethod yX5_readMeter, Cond.selects RX5 yX5_readMeter yX5_readMeter, Cond.code yX5_readMeter cX5_readMeter 5 (some .int), Cond.methodLink RX5 161 yX1_used, Cond.instanceMethod yX1_used, Cond.selects RX1 yX1_used yX1_used, Cond.code yX1_used cX1_used 1 (some .int), Cond.constant RX1 55 (100000), Cond.static yX6_unitsFor, Cond.code yX6_unitsFor cX6_unitsFor 2 (some .int), Cond.methodLink RX5 171 yX1_settle, Cond.instanceMethod yX1_settle, Cond.selects RX1 yX1_settle yX1_settle, Cond.code yX1_settle cX1_settle 4 none, Cond.methodLink RX5 175 yX2_add, Cond.instanceMethod yX2_add, Cond.selects RX2 yX2_add yX2_add, Cond.code yX2_add cX2_add 7 none, Cond.methodLink RX2 28 Lib.Math.min.name, Cond.static Lib.Math.min.name]
def wsX6_change_r7 : List Cond := [Cond.initialized "java/lang/Math", Cond.code Lib.Math.min.name Lib.Math.min.code 2 (some .int), Cond.methodLink RX5 97 yX5_changeMeter, Cond.instanceMethod yX5_changeMeter, Cond.selects RX5 yX5_changeMeter yX5_changeMeter, Cond.code yX5_changeMeter cX5_changeMeter 4 (some .int), Cond.methodLink RX5 158 yX1_renewMeter, Cond.instanceMethod yX1_renewMeter, Cond.selects RX1 yX1_renewMeter yX1_renewMeter, Cond.code yX1_renewMeter cX1_renewMeter 1 none, Cond.methodLink RX5 102 yX5_passDays, Cond.instanceMethod yX5_passDays, Cond.selects RX5 yX5_passDays yX5_passDays, Cond.code yX5_passDays cX5_passDays 8 (some .int), Cond.methodLink RX5 179 yX1_goOn, Cond.instanceMethod yX1_goOn, Cond.selects RX1 yX1_goOn yX1_goOn, Cond.code yX1_goOn cX1_goOn 1 none, Cond.methodLink RX5 182 yX5_walk, Cond.instanceMethod yX5_walk, Cond.selects RX5 yX5_walk yX5_walk, Cond.code yX5_walk cX5_walk 8 none, Cond.methodLink RX5 188 yX4_stepAhead, Cond.instanceMethod yX4_stepAhead]
def wsX6_change_r8 : List Cond := [Cond.selects RX4 yX4_stepAhead yX4_stepAhead, Cond.code yX4_stepAhead cX4_stepAhead 2 (some .int), Cond.methodLink RX5 185 yX5_endYear, Cond.instanceMethod yX5_endYear, Cond.selects RX5 yX5_endYear yX5_endYear, Cond.code yX5_endYear cX5_endYear 5 none, Cond.methodLink RX6 45 yX6_kept, Cond.instanceMethod yX6_kept, Cond.selects RX6 yX6_kept yX6_kept, Cond.code yX6_kept cX6_kept 2 (some .int), Cond.methodLink RX6 179 yX0_keep, Cond.instanceMethod yX0_keep, Cond.selects RX0 yX0_keep yX0_keep, Cond.code yX0_keep cX0_keep 1 none, Cond.fieldLink RX0 26 "WrongedMeters$History" "size" "I", Cond.methodLink RX0 29 Lib.Math.min.name]
def wsX6_change : List Cond := .code yX6_change cX6_change 2 (some .int) :: ((wsX6_change_r1 ++ (wsX6_change_r2 ++ (wsX6_change_r3 ++ (wsX6_change_r4 ++ (wsX6_change_r5 ++ (wsX6_change_r6 ++ (wsX6_change_r7 ++ wsX6_change_r8))))))) ++ wsX60 ++ wsX00 ++ wsX50 ++ wsX10 ++ wsX40 ++ wsX20)
def wsX6_days_r1 : List Cond := [Cond.methodLink RX6 33 yX6_carryOut, Cond.instanceMethod yX6_carryOut, Cond.selects RX6 yX6_carryOut yX6_carryOut, Cond.initialized RX6, Cond.code yX6_carryOut cX6_carryOut 4 (some .int), Cond.fieldLink RX6 22 "WrongedMeters" "history" "LWrongedMeters$History;", Cond.fieldLink RX6 10 "WrongedMeters" "town" "LWrongedMeters$Town;", Cond.methodLink RX6 37 yX0_record, Cond.instanceMethod yX0_record, Cond.selects RX0 yX0_record yX0_record, Cond.initialized RX0, Cond.code yX0_record cX0_record 2 none, Cond.fieldLink RX0 13 "WrongedMeters$History" "states" "[LWrongedMeters$Town;", Cond.fieldLink RX0 18 "WrongedMeters$History" "freeSlot" "I", Cond.methodLink RX0 22 yX5_copyFrom, Cond.instanceMethod yX5_copyFrom, Cond.selects RX5 yX5_copyFrom yX5_copyFrom, Cond.initialized RX5, Cond.code yX5_copyFrom cX5_copyFrom 3 none, Cond.fieldLink RX5 11 "WrongedMeters$Town" "houses" "[LWrongedMeters$House;", Cond.fieldLink RX5 19 "WrongedMeters$Town" "streets" "[LWrongedMeters$Street;", Cond.fieldLink RX5 26 "WrongedMeters$Town" "ledger" "LWrongedMeters$Ledger;", Cond.fieldLink RX5 30 "WrongedMeters$Town" "settings" "[I", Cond.methodLink RX5 49 arraycopyName]
def wsX6_days_r2 : List Cond := [Cond.native arraycopyName, Cond.static arraycopyName, Cond.initialized "java/lang/System", Cond.fieldLink RX5 55 "WrongedMeters$Town" "houseCount" "I", Cond.fieldLink RX5 59 "WrongedMeters$Town" "now" "I", Cond.fieldLink RX5 62 "WrongedMeters$Town" "readings" "I", Cond.fieldLink RX5 65 "WrongedMeters$Town" "units" "I", Cond.fieldLink RX5 68 "WrongedMeters$Town" "coins" "I", Cond.fieldLink RX5 71 "WrongedMeters$Town" "hundredths" "I", Cond.fieldLink RX5 74 "WrongedMeters$Town" "refunds" "I", Cond.fieldLink RX5 77 "WrongedMeters$Town" "coinsBack" "I", Cond.fieldLink RX5 80 "WrongedMeters$Town" "years" "I", Cond.methodLink RX5 39 yX1_copyFrom, Cond.instanceMethod yX1_copyFrom, Cond.selects RX1 yX1_copyFrom yX1_copyFrom, Cond.initialized RX1, Cond.code yX1_copyFrom cX1_copyFrom 2 none, Cond.fieldLink RX1 15 "WrongedMeters$House" "street" "I", Cond.fieldLink RX1 18 "WrongedMeters$House" "place" "I", Cond.fieldLink RX1 21 "WrongedMeters$House" "dial" "I", Cond.fieldLink RX1 24 "WrongedMeters$House" "dialBefore" "I", Cond.fieldLink RX1 27 "WrongedMeters$House" "flow" "I", Cond.fieldLink RX1 30 "WrongedMeters$House" "isLocked" "Z", Cond.fieldLink RX1 34 "WrongedMeters$House" "balance" "I"]
def wsX6_days_r3 : List Cond := [Cond.fieldLink RX1 9 "WrongedMeters$House" "latestDay" "I", Cond.fieldLink RX1 37 "WrongedMeters$House" "readings" "I", Cond.fieldLink RX1 40 "WrongedMeters$House" "units" "I", Cond.fieldLink RX1 43 "WrongedMeters$House" "timesHouseWronged" "I", Cond.fieldLink RX1 46 "WrongedMeters$House" "timesCompanyWronged" "I", Cond.fieldLink RX1 49 "WrongedMeters$House" "refunds" "I", Cond.fieldLink RX1 52 "WrongedMeters$House" "metersChanged" "I", Cond.methodLink RX5 43 yX4_copyFrom, Cond.instanceMethod yX4_copyFrom, Cond.selects RX4 yX4_copyFrom yX4_copyFrom, Cond.initialized RX4, Cond.code yX4_copyFrom cX4_copyFrom 2 none, Cond.fieldLink RX4 9 "WrongedMeters$Street" "houses" "[I", Cond.methodLink RX4 19 arraycopyName, Cond.fieldLink RX4 15 "WrongedMeters$Street" "latestStep" "I", Cond.methodLink RX5 46 yX2_copyFrom, Cond.instanceMethod yX2_copyFrom, Cond.selects RX2 yX2_copyFrom yX2_copyFrom, Cond.initialized RX2, Cond.code yX2_copyFrom cX2_copyFrom 2 none, Cond.fieldLink RX2 11 "WrongedMeters$Ledger" "facts" "[I", Cond.methodLink RX2 15 arraycopyName, Cond.fieldLink RX2 21 "WrongedMeters$Ledger" "nextRow" "I", Cond.fieldLink RX2 25 "WrongedMeters$Ledger" "size" "I"]
def wsX6_days_r4 : List Cond := [Cond.methodLink RX6 176 yX5_obey, Cond.instanceMethod yX5_obey, Cond.selects RX5 yX5_obey yX5_obey, Cond.code yX5_obey cX5_obey 4 (some .int), Cond.constant RX5 100 (-1000001), Cond.constant RX5 101 (-1000003), Cond.methodLink RX5 83 yX5_addHouse, Cond.instanceMethod yX5_addHouse, Cond.selects RX5 yX5_addHouse yX5_addHouse, Cond.code yX5_addHouse cX5_addHouse 5 (some .int), Cond.constant RX5 119 (-1000002), Cond.methodLink RX5 105 yX5_streetNumbered, Cond.instanceMethod yX5_streetNumbered, Cond.selects RX5 yX5_streetNumbered yX5_streetNumbered, Cond.code yX5_streetNumbered cX5_streetNumbered 2 (some (.object "WrongedMeters$Street")), Cond.static yX6_isPlace, Cond.code yX6_isPlace cX6_isPlace 1 (some .boolean), Cond.static yX6_stepOf, Cond.code yX6_stepOf cX6_stepOf 1 (some .int), Cond.methodLink RX5 116 yX4_houseOn, Cond.instanceMethod yX4_houseOn, Cond.selects RX4 yX4_houseOn yX4_houseOn, Cond.code yX4_houseOn cX4_houseOn 2 (some .int), Cond.methodLink RX5 126 yX4_putHouse]
def wsX6_days_r5 : List Cond := [Cond.instanceMethod yX4_putHouse, Cond.selects RX4 yX4_putHouse yX4_putHouse, Cond.code yX4_putHouse cX4_putHouse 3 none, Cond.methodLink RX5 87 yX5_putFlow, Cond.instanceMethod yX5_putFlow, Cond.selects RX5 yX5_putFlow yX5_putFlow, Cond.code yX5_putFlow cX5_putFlow 5 (some .int), Cond.methodLink RX5 130 yX5_houseNumbered, Cond.instanceMethod yX5_houseNumbered, Cond.selects RX5 yX5_houseNumbered yX5_houseNumbered, Cond.code yX5_houseNumbered cX5_houseNumbered 2 (some (.object "WrongedMeters$House")), Cond.methodLink RX5 90 yX5_turnLock, Cond.instanceMethod yX5_turnLock, Cond.selects RX5 yX5_turnLock yX5_turnLock, Cond.code yX5_turnLock cX5_turnLock 3 (some .int), Cond.methodLink RX5 141 yX5_putLock, Cond.instanceMethod yX5_putLock, Cond.selects RX5 yX5_putLock yX5_putLock, Cond.code yX5_putLock cX5_putLock 5 (some .int), Cond.methodLink RX5 94 yX5_readIfOpen, Cond.instanceMethod yX5_readIfOpen, Cond.selects RX5 yX5_readIfOpen yX5_readIfOpen, Cond.code yX5_readIfOpen cX5_readIfOpen 3 (some .int), Cond.methodLink RX5 151 yX1_reasonOn]
def wsX6_days_r6 : List Cond := [Cond.instanceMethod yX1_reasonOn, Cond.selects RX1 yX1_reasonOn yX1_reasonOn, Cond.code yX1_reasonOn cX1_reasonOn 2 (some .int), Cond.methodLink RX5 154 yX5_readMeter, Cond.instanceMethod yX5_readMeter, Cond.selects RX5 yX5_readMeter yX5_readMeter, Cond.code yX5_readMeter cX5_readMeter 5 (some .int), Cond.methodLink RX5 161 yX1_used, Cond.instanceMethod yX1_used, Cond.selects RX1 yX1_used yX1_used, Cond.code yX1_used cX1_used 1 (some .int), Cond.constant RX1 55 (100000), Cond.static yX6_unitsFor, Cond.code yX6_unitsFor cX6_unitsFor 2 (some .int), Cond.methodLink RX5 171 yX1_settle, Cond.instanceMethod yX1_settle, Cond.selects RX1 yX1_settle yX1_settle, Cond.code yX1_settle cX1_settle 4 none, Cond.methodLink RX5 175 yX2_add, Cond.instanceMethod yX2_add, Cond.selects RX2 yX2_add yX2_add, Cond.code yX2_add cX2_add 7 none, Cond.methodLink RX2 28 Lib.Math.min.name, Cond.static Lib.Math.min.name]
def wsX6_days_r7 : List Cond := [Cond.initialized "java/lang/Math", Cond.code Lib.Math.min.name Lib.Math.min.code 2 (some .int), Cond.methodLink RX5 97 yX5_changeMeter, Cond.instanceMethod yX5_changeMeter, Cond.selects RX5 yX5_changeMeter yX5_changeMeter, Cond.code yX5_changeMeter cX5_changeMeter 4 (some .int), Cond.methodLink RX5 158 yX1_renewMeter, Cond.instanceMethod yX1_renewMeter, Cond.selects RX1 yX1_renewMeter yX1_renewMeter, Cond.code yX1_renewMeter cX1_renewMeter 1 none, Cond.methodLink RX5 102 yX5_passDays, Cond.instanceMethod yX5_passDays, Cond.selects RX5 yX5_passDays yX5_passDays, Cond.code yX5_passDays cX5_passDays 8 (some .int), Cond.methodLink RX5 179 yX1_goOn, Cond.instanceMethod yX1_goOn, Cond.selects RX1 yX1_goOn yX1_goOn, Cond.code yX1_goOn cX1_goOn 1 none, Cond.methodLink RX5 182 yX5_walk, Cond.instanceMethod yX5_walk, Cond.selects RX5 yX5_walk yX5_walk, Cond.code yX5_walk cX5_walk 8 none, Cond.methodLink RX5 188 yX4_stepAhead, Cond.instanceMethod yX4_stepAhead]
def wsX6_days_r8 : List Cond := [Cond.selects RX4 yX4_stepAhead yX4_stepAhead, Cond.code yX4_stepAhead cX4_stepAhead 2 (some .int), Cond.methodLink RX5 185 yX5_endYear, Cond.instanceMethod yX5_endYear, Cond.selects RX5 yX5_endYear yX5_endYear, Cond.code yX5_endYear cX5_endYear 5 none, Cond.methodLink RX6 45 yX6_kept, Cond.instanceMethod yX6_kept, Cond.selects RX6 yX6_kept yX6_kept, Cond.code yX6_kept cX6_kept 2 (some .int), Cond.methodLink RX6 179 yX0_keep, Cond.instanceMethod yX0_keep, Cond.selects RX0 yX0_keep yX0_keep, Cond.code yX0_keep cX0_keep 1 none, Cond.fieldLink RX0 26 "WrongedMeters$History" "size" "I", Cond.methodLink RX0 29 Lib.Math.min.name]
def wsX6_days : List Cond := .code yX6_days cX6_days 2 (some .int) :: ((wsX6_days_r1 ++ (wsX6_days_r2 ++ (wsX6_days_r3 ++ (wsX6_days_r4 ++ (wsX6_days_r5 ++ (wsX6_days_r6 ++ (wsX6_days_r7 ++ wsX6_days_r8))))))) ++ wsX60 ++ wsX00 ++ wsX50 ++ wsX10 ++ wsX40 ++ wsX20)
def wsX6_set_r1 : List Cond := [Cond.fieldLink RX6 22 "WrongedMeters" "history" "LWrongedMeters$History;", Cond.fieldLink RX6 10 "WrongedMeters" "town" "LWrongedMeters$Town;", Cond.methodLink RX6 37 yX0_record, Cond.instanceMethod yX0_record, Cond.selects RX0 yX0_record yX0_record, Cond.initialized RX0, Cond.code yX0_record cX0_record 2 none, Cond.fieldLink RX0 13 "WrongedMeters$History" "states" "[LWrongedMeters$Town;", Cond.fieldLink RX0 18 "WrongedMeters$History" "freeSlot" "I", Cond.methodLink RX0 22 yX5_copyFrom, Cond.instanceMethod yX5_copyFrom, Cond.selects RX5 yX5_copyFrom yX5_copyFrom, Cond.initialized RX5, Cond.code yX5_copyFrom cX5_copyFrom 3 none, Cond.fieldLink RX5 11 "WrongedMeters$Town" "houses" "[LWrongedMeters$House;", Cond.fieldLink RX5 19 "WrongedMeters$Town" "streets" "[LWrongedMeters$Street;", Cond.fieldLink RX5 26 "WrongedMeters$Town" "ledger" "LWrongedMeters$Ledger;", Cond.fieldLink RX5 30 "WrongedMeters$Town" "settings" "[I", Cond.methodLink RX5 49 arraycopyName, Cond.native arraycopyName, Cond.static arraycopyName, Cond.initialized "java/lang/System", Cond.fieldLink RX5 55 "WrongedMeters$Town" "houseCount" "I", Cond.fieldLink RX5 59 "WrongedMeters$Town" "now" "I"]
def wsX6_set_r2 : List Cond := [Cond.fieldLink RX5 62 "WrongedMeters$Town" "readings" "I", Cond.fieldLink RX5 65 "WrongedMeters$Town" "units" "I", Cond.fieldLink RX5 68 "WrongedMeters$Town" "coins" "I", Cond.fieldLink RX5 71 "WrongedMeters$Town" "hundredths" "I", Cond.fieldLink RX5 74 "WrongedMeters$Town" "refunds" "I", Cond.fieldLink RX5 77 "WrongedMeters$Town" "coinsBack" "I", Cond.fieldLink RX5 80 "WrongedMeters$Town" "years" "I", Cond.methodLink RX5 39 yX1_copyFrom, Cond.instanceMethod yX1_copyFrom, Cond.selects RX1 yX1_copyFrom yX1_copyFrom, Cond.initialized RX1, Cond.code yX1_copyFrom cX1_copyFrom 2 none, Cond.fieldLink RX1 15 "WrongedMeters$House" "street" "I", Cond.fieldLink RX1 18 "WrongedMeters$House" "place" "I", Cond.fieldLink RX1 21 "WrongedMeters$House" "dial" "I", Cond.fieldLink RX1 24 "WrongedMeters$House" "dialBefore" "I", Cond.fieldLink RX1 27 "WrongedMeters$House" "flow" "I", Cond.fieldLink RX1 30 "WrongedMeters$House" "isLocked" "Z", Cond.fieldLink RX1 34 "WrongedMeters$House" "balance" "I", Cond.fieldLink RX1 9 "WrongedMeters$House" "latestDay" "I", Cond.fieldLink RX1 37 "WrongedMeters$House" "readings" "I", Cond.fieldLink RX1 40 "WrongedMeters$House" "units" "I", Cond.fieldLink RX1 43 "WrongedMeters$House" "timesHouseWronged" "I", Cond.fieldLink RX1 46 "WrongedMeters$House" "timesCompanyWronged" "I"]
def wsX6_set_r3 : List Cond := [Cond.fieldLink RX1 49 "WrongedMeters$House" "refunds" "I", Cond.fieldLink RX1 52 "WrongedMeters$House" "metersChanged" "I", Cond.methodLink RX5 43 yX4_copyFrom, Cond.instanceMethod yX4_copyFrom, Cond.selects RX4 yX4_copyFrom yX4_copyFrom, Cond.initialized RX4, Cond.code yX4_copyFrom cX4_copyFrom 2 none, Cond.fieldLink RX4 9 "WrongedMeters$Street" "houses" "[I", Cond.methodLink RX4 19 arraycopyName, Cond.fieldLink RX4 15 "WrongedMeters$Street" "latestStep" "I", Cond.methodLink RX5 46 yX2_copyFrom, Cond.instanceMethod yX2_copyFrom, Cond.selects RX2 yX2_copyFrom yX2_copyFrom, Cond.initialized RX2, Cond.code yX2_copyFrom cX2_copyFrom 2 none, Cond.fieldLink RX2 11 "WrongedMeters$Ledger" "facts" "[I", Cond.methodLink RX2 15 arraycopyName, Cond.fieldLink RX2 21 "WrongedMeters$Ledger" "nextRow" "I", Cond.fieldLink RX2 25 "WrongedMeters$Ledger" "size" "I", Cond.methodLink RX6 49 yX5_putSetting, Cond.instanceMethod yX5_putSetting, Cond.selects RX5 yX5_putSetting yX5_putSetting, Cond.code yX5_putSetting cX5_putSetting 4 (some .int), Cond.constant RX5 100 (-1000001)]
def wsX6_set_r4 : List Cond := [Cond.methodLink RX6 45 yX6_kept, Cond.instanceMethod yX6_kept, Cond.selects RX6 yX6_kept yX6_kept, Cond.initialized RX6, Cond.code yX6_kept cX6_kept 2 (some .int), Cond.methodLink RX6 179 yX0_keep, Cond.instanceMethod yX0_keep, Cond.selects RX0 yX0_keep yX0_keep, Cond.code yX0_keep cX0_keep 1 none, Cond.fieldLink RX0 26 "WrongedMeters$History" "size" "I", Cond.methodLink RX0 29 Lib.Math.min.name, Cond.static Lib.Math.min.name, Cond.initialized "java/lang/Math", Cond.code Lib.Math.min.name Lib.Math.min.code 2 (some .int)]
def wsX6_set : List Cond := .code yX6_set cX6_set 3 (some .int) :: ((wsX6_set_r1 ++ (wsX6_set_r2 ++ (wsX6_set_r3 ++ wsX6_set_r4))) ++ wsX60 ++ wsX00 ++ wsX50 ++ wsX10 ++ wsX40 ++ wsX20)
def wsX6_houseOf_r1 : List Cond := [Cond.fieldLink RX6 10 "WrongedMeters" "town" "LWrongedMeters$Town;", Cond.constant RX6 57 (-1000001), Cond.methodLink RX6 53 yX5_houseNumbered, Cond.instanceMethod yX5_houseNumbered, Cond.selects RX5 yX5_houseNumbered yX5_houseNumbered, Cond.initialized RX5, Cond.code yX5_houseNumbered cX5_houseNumbered 2 (some (.object "WrongedMeters$House")), Cond.fieldLink RX5 55 "WrongedMeters$Town" "houseCount" "I", Cond.fieldLink RX5 11 "WrongedMeters$Town" "houses" "[LWrongedMeters$House;", Cond.methodLink RX6 58 yX1_fact, Cond.instanceMethod yX1_fact, Cond.selects RX1 yX1_fact yX1_fact, Cond.initialized RX1, Cond.code yX1_fact cX1_fact 2 (some .int), Cond.fieldLink RX1 15 "WrongedMeters$House" "street" "I", Cond.fieldLink RX1 18 "WrongedMeters$House" "place" "I", Cond.fieldLink RX1 21 "WrongedMeters$House" "dial" "I", Cond.fieldLink RX1 34 "WrongedMeters$House" "balance" "I", Cond.fieldLink RX1 27 "WrongedMeters$House" "flow" "I", Cond.fieldLink RX1 30 "WrongedMeters$House" "isLocked" "Z", Cond.fieldLink RX1 9 "WrongedMeters$House" "latestDay" "I", Cond.constant RX1 60 (-1000004), Cond.fieldLink RX1 37 "WrongedMeters$House" "readings" "I", Cond.fieldLink RX1 40 "WrongedMeters$House" "units" "I"]
def wsX6_houseOf_r2 : List Cond := [Cond.fieldLink RX1 43 "WrongedMeters$House" "timesHouseWronged" "I", Cond.fieldLink RX1 46 "WrongedMeters$House" "timesCompanyWronged" "I", Cond.fieldLink RX1 49 "WrongedMeters$House" "refunds" "I", Cond.fieldLink RX1 52 "WrongedMeters$House" "metersChanged" "I", Cond.constant RX1 61 (-1000001), Cond.methodLink RX1 56 yX1_used, Cond.instanceMethod yX1_used, Cond.selects RX1 yX1_used yX1_used, Cond.code yX1_used cX1_used 1 (some .int), Cond.fieldLink RX1 24 "WrongedMeters$House" "dialBefore" "I", Cond.constant RX1 55 (100000)]
def wsX6_houseOf : List Cond := .code yX6_houseOf cX6_houseOf 4 (some .int) :: ((wsX6_houseOf_r1 ++ wsX6_houseOf_r2) ++ wsX60 ++ wsX50 ++ wsX10)
def wsX6_at : List Cond := .code yX6_at cX6_at 5 (some .int) :: ([.fieldLink RX6 10 "WrongedMeters" "town" "LWrongedMeters$Town;", .constant RX6 57 (-1000001), .constant RX6 79 (-1000004), .methodLink RX6 63 yX5_streetNumbered, .instanceMethod yX5_streetNumbered, .selects RX5 yX5_streetNumbered yX5_streetNumbered, .initialized RX5, .code yX5_streetNumbered cX5_streetNumbered 2 (some (.object "WrongedMeters$Street")), .fieldLink RX5 19 "WrongedMeters$Town" "streets" "[LWrongedMeters$Street;", .methodLink RX6 67 yX6_isPlace, .static yX6_isPlace, .initialized RX6, .code yX6_isPlace cX6_isPlace 1 (some .boolean), .methodLink RX6 71 yX6_stepOf, .static yX6_stepOf, .code yX6_stepOf cX6_stepOf 1 (some .int), .methodLink RX6 74 yX4_houseOn, .instanceMethod yX4_houseOn, .selects RX4 yX4_houseOn yX4_houseOn, .initialized RX4, .code yX4_houseOn cX4_houseOn 2 (some .int), .fieldLink RX4 9 "WrongedMeters$Street" "houses" "[I"] ++ wsX60 ++ wsX50 ++ wsX40)
def wsX6_next : List Cond := .code yX6_next cX6_next 4 (some .int) :: ([.fieldLink RX6 10 "WrongedMeters" "town" "LWrongedMeters$Town;", .constant RX6 57 (-1000001), .methodLink RX6 63 yX5_streetNumbered, .instanceMethod yX5_streetNumbered, .selects RX5 yX5_streetNumbered yX5_streetNumbered, .initialized RX5, .code yX5_streetNumbered cX5_streetNumbered 2 (some (.object "WrongedMeters$Street")), .fieldLink RX5 19 "WrongedMeters$Town" "streets" "[LWrongedMeters$Street;", .methodLink RX6 80 yX4_houseRanked, .instanceMethod yX4_houseRanked, .selects RX4 yX4_houseRanked yX4_houseRanked, .initialized RX4, .code yX4_houseRanked cX4_houseRanked 5 (some .int), .constant RX4 32 (-1000004), .methodLink RX4 25 yX4_stepAhead, .instanceMethod yX4_stepAhead, .selects RX4 yX4_stepAhead yX4_stepAhead, .code yX4_stepAhead cX4_stepAhead 2 (some .int), .fieldLink RX4 15 "WrongedMeters$Street" "latestStep" "I", .methodLink RX4 29 yX4_houseOn, .instanceMethod yX4_houseOn, .selects RX4 yX4_houseOn yX4_houseOn, .code yX4_houseOn cX4_houseOn 2 (some .int), .fieldLink RX4 9 "WrongedMeters$Street" "houses" "[I"] ++ wsX60 ++ wsX50 ++ wsX40)
def wsX6_ledger : List Cond := .code yX6_ledger cX6_ledger 3 (some .int) :: ([.fieldLink RX6 10 "WrongedMeters" "town" "LWrongedMeters$Town;", .methodLink RX6 87 yX2_entry, .instanceMethod yX2_entry, .selects RX2 yX2_entry yX2_entry, .initialized RX2, .code yX2_entry cX2_entry 4 (some .int), .constant RX2 34 (-1000001), .fieldLink RX2 25 "WrongedMeters$Ledger" "size" "I", .constant RX2 35 (-1000004), .fieldLink RX2 21 "WrongedMeters$Ledger" "nextRow" "I", .fieldLink RX2 11 "WrongedMeters$Ledger" "facts" "[I"] ++ wsX60 ++ wsX50 ++ wsX20)
def wsX6_why : List Cond := .code yX6_why cX6_why 3 (some .int) :: ([.fieldLink RX6 10 "WrongedMeters" "town" "LWrongedMeters$Town;", .constant RX6 57 (-1000001), .methodLink RX6 53 yX5_houseNumbered, .instanceMethod yX5_houseNumbered, .selects RX5 yX5_houseNumbered yX5_houseNumbered, .initialized RX5, .code yX5_houseNumbered cX5_houseNumbered 2 (some (.object "WrongedMeters$House")), .fieldLink RX5 55 "WrongedMeters$Town" "houseCount" "I", .fieldLink RX5 11 "WrongedMeters$Town" "houses" "[LWrongedMeters$House;", .methodLink RX6 96 yX1_reasonOn, .instanceMethod yX1_reasonOn, .selects RX1 yX1_reasonOn yX1_reasonOn, .initialized RX1, .code yX1_reasonOn cX1_reasonOn 2 (some .int), .fieldLink RX1 30 "WrongedMeters$House" "isLocked" "Z", .fieldLink RX1 9 "WrongedMeters$House" "latestDay" "I"] ++ wsX60 ++ wsX50 ++ wsX10)
def wsX6_ifRead : List Cond := .code yX6_ifRead cX6_ifRead 7 (some .int) :: ([.fieldLink RX6 10 "WrongedMeters" "town" "LWrongedMeters$Town;", .constant RX6 57 (-1000001), .methodLink RX6 53 yX5_houseNumbered, .instanceMethod yX5_houseNumbered, .selects RX5 yX5_houseNumbered yX5_houseNumbered, .initialized RX5, .code yX5_houseNumbered cX5_houseNumbered 2 (some (.object "WrongedMeters$House")), .fieldLink RX5 55 "WrongedMeters$Town" "houseCount" "I", .fieldLink RX5 11 "WrongedMeters$Town" "houses" "[LWrongedMeters$House;", .methodLink RX6 99 yX1_used, .instanceMethod yX1_used, .selects RX1 yX1_used yX1_used, .initialized RX1, .code yX1_used cX1_used 1 (some .int), .fieldLink RX1 21 "WrongedMeters$House" "dial" "I", .fieldLink RX1 24 "WrongedMeters$House" "dialBefore" "I", .constant RX1 55 (100000), .methodLink RX6 106 yX6_unitsFor, .static yX6_unitsFor, .initialized RX6, .code yX6_unitsFor cX6_unitsFor 2 (some .int)] ++ wsX60 ++ wsX10 ++ wsX50)
def wsX6_wronged : List Cond := .code yX6_wronged cX6_wronged 2 (some .int) :: ([.constant RX6 57 (-1000001), .fieldLink RX6 10 "WrongedMeters" "town" "LWrongedMeters$Town;", .methodLink RX6 113 yX5_houseByBalance, .instanceMethod yX5_houseByBalance, .selects RX5 yX5_houseByBalance yX5_houseByBalance, .initialized RX5, .code yX5_houseByBalance cX5_houseByBalance 3 (some .int), .fieldLink RX5 55 "WrongedMeters$Town" "houseCount" "I", .fieldLink RX5 11 "WrongedMeters$Town" "houses" "[LWrongedMeters$House;", .constant RX5 195 (-1000004), .methodLink RX5 196 yX5_housesAhead, .instanceMethod yX5_housesAhead, .selects RX5 yX5_housesAhead yX5_housesAhead, .code yX5_housesAhead cX5_housesAhead 6 (some .int)] ++ wsX60 ++ wsX50 ++ wsX10)
def wsX6_refundIn_r1 : List Cond := [Cond.fieldLink RX6 10 "WrongedMeters" "town" "LWrongedMeters$Town;", Cond.constant RX6 57 (-1000001), Cond.fieldLink RX6 16 "WrongedMeters" "trial" "LWrongedMeters$Town;", Cond.methodLink RX6 53 yX5_houseNumbered, Cond.instanceMethod yX5_houseNumbered, Cond.selects RX5 yX5_houseNumbered yX5_houseNumbered, Cond.initialized RX5, Cond.code yX5_houseNumbered cX5_houseNumbered 2 (some (.object "WrongedMeters$House")), Cond.fieldLink RX5 55 "WrongedMeters$Town" "houseCount" "I", Cond.fieldLink RX5 11 "WrongedMeters$Town" "houses" "[LWrongedMeters$House;", Cond.methodLink RX6 116 yX5_copyFrom, Cond.instanceMethod yX5_copyFrom, Cond.selects RX5 yX5_copyFrom yX5_copyFrom, Cond.code yX5_copyFrom cX5_copyFrom 3 none, Cond.fieldLink RX5 19 "WrongedMeters$Town" "streets" "[LWrongedMeters$Street;", Cond.fieldLink RX5 26 "WrongedMeters$Town" "ledger" "LWrongedMeters$Ledger;", Cond.fieldLink RX5 30 "WrongedMeters$Town" "settings" "[I", Cond.methodLink RX5 49 arraycopyName, Cond.native arraycopyName, Cond.static arraycopyName, Cond.initialized "java/lang/System", Cond.fieldLink RX5 59 "WrongedMeters$Town" "now" "I", Cond.fieldLink RX5 62 "WrongedMeters$Town" "readings" "I", Cond.fieldLink RX5 65 "WrongedMeters$Town" "units" "I"]
def wsX6_refundIn_r2 : List Cond := [Cond.fieldLink RX5 68 "WrongedMeters$Town" "coins" "I", Cond.fieldLink RX5 71 "WrongedMeters$Town" "hundredths" "I", Cond.fieldLink RX5 74 "WrongedMeters$Town" "refunds" "I", Cond.fieldLink RX5 77 "WrongedMeters$Town" "coinsBack" "I", Cond.fieldLink RX5 80 "WrongedMeters$Town" "years" "I", Cond.methodLink RX5 39 yX1_copyFrom, Cond.instanceMethod yX1_copyFrom, Cond.selects RX1 yX1_copyFrom yX1_copyFrom, Cond.initialized RX1, Cond.code yX1_copyFrom cX1_copyFrom 2 none, Cond.fieldLink RX1 15 "WrongedMeters$House" "street" "I", Cond.fieldLink RX1 18 "WrongedMeters$House" "place" "I", Cond.fieldLink RX1 21 "WrongedMeters$House" "dial" "I", Cond.fieldLink RX1 24 "WrongedMeters$House" "dialBefore" "I", Cond.fieldLink RX1 27 "WrongedMeters$House" "flow" "I", Cond.fieldLink RX1 30 "WrongedMeters$House" "isLocked" "Z", Cond.fieldLink RX1 34 "WrongedMeters$House" "balance" "I", Cond.fieldLink RX1 9 "WrongedMeters$House" "latestDay" "I", Cond.fieldLink RX1 37 "WrongedMeters$House" "readings" "I", Cond.fieldLink RX1 40 "WrongedMeters$House" "units" "I", Cond.fieldLink RX1 43 "WrongedMeters$House" "timesHouseWronged" "I", Cond.fieldLink RX1 46 "WrongedMeters$House" "timesCompanyWronged" "I", Cond.fieldLink RX1 49 "WrongedMeters$House" "refunds" "I", Cond.fieldLink RX1 52 "WrongedMeters$House" "metersChanged" "I"]
def wsX6_refundIn_r3 : List Cond := [Cond.methodLink RX5 43 yX4_copyFrom, Cond.instanceMethod yX4_copyFrom, Cond.selects RX4 yX4_copyFrom yX4_copyFrom, Cond.initialized RX4, Cond.code yX4_copyFrom cX4_copyFrom 2 none, Cond.fieldLink RX4 9 "WrongedMeters$Street" "houses" "[I", Cond.methodLink RX4 19 arraycopyName, Cond.fieldLink RX4 15 "WrongedMeters$Street" "latestStep" "I", Cond.methodLink RX5 46 yX2_copyFrom, Cond.instanceMethod yX2_copyFrom, Cond.selects RX2 yX2_copyFrom yX2_copyFrom, Cond.initialized RX2, Cond.code yX2_copyFrom cX2_copyFrom 2 none, Cond.fieldLink RX2 11 "WrongedMeters$Ledger" "facts" "[I", Cond.methodLink RX2 15 arraycopyName, Cond.fieldLink RX2 21 "WrongedMeters$Ledger" "nextRow" "I", Cond.fieldLink RX2 25 "WrongedMeters$Ledger" "size" "I", Cond.methodLink RX6 119 yX5_passUntilRefund, Cond.instanceMethod yX5_passUntilRefund, Cond.selects RX5 yX5_passUntilRefund yX5_passUntilRefund, Cond.code yX5_passUntilRefund cX5_passUntilRefund 5 (some .int), Cond.constant RX5 100 (-1000001), Cond.constant RX5 195 (-1000004), Cond.methodLink RX5 130 yX5_houseNumbered]
def wsX6_refundIn_r4 : List Cond := [Cond.methodLink RX5 102 yX5_passDays, Cond.instanceMethod yX5_passDays, Cond.selects RX5 yX5_passDays yX5_passDays, Cond.code yX5_passDays cX5_passDays 8 (some .int), Cond.methodLink RX5 179 yX1_goOn, Cond.instanceMethod yX1_goOn, Cond.selects RX1 yX1_goOn yX1_goOn, Cond.code yX1_goOn cX1_goOn 1 none, Cond.constant RX1 55 (100000), Cond.methodLink RX5 182 yX5_walk, Cond.instanceMethod yX5_walk, Cond.selects RX5 yX5_walk yX5_walk, Cond.code yX5_walk cX5_walk 8 none, Cond.methodLink RX5 188 yX4_stepAhead, Cond.instanceMethod yX4_stepAhead, Cond.selects RX4 yX4_stepAhead yX4_stepAhead, Cond.code yX4_stepAhead cX4_stepAhead 2 (some .int), Cond.methodLink RX5 116 yX4_houseOn, Cond.instanceMethod yX4_houseOn, Cond.selects RX4 yX4_houseOn yX4_houseOn, Cond.code yX4_houseOn cX4_houseOn 2 (some .int), Cond.methodLink RX5 151 yX1_reasonOn, Cond.instanceMethod yX1_reasonOn, Cond.selects RX1 yX1_reasonOn yX1_reasonOn]
def wsX6_refundIn_r5 : List Cond := [Cond.code yX1_reasonOn cX1_reasonOn 2 (some .int), Cond.methodLink RX5 154 yX5_readMeter, Cond.instanceMethod yX5_readMeter, Cond.selects RX5 yX5_readMeter yX5_readMeter, Cond.code yX5_readMeter cX5_readMeter 5 (some .int), Cond.methodLink RX5 161 yX1_used, Cond.instanceMethod yX1_used, Cond.selects RX1 yX1_used yX1_used, Cond.code yX1_used cX1_used 1 (some .int), Cond.static yX6_unitsFor, Cond.initialized RX6, Cond.code yX6_unitsFor cX6_unitsFor 2 (some .int), Cond.methodLink RX5 171 yX1_settle, Cond.instanceMethod yX1_settle, Cond.selects RX1 yX1_settle yX1_settle, Cond.code yX1_settle cX1_settle 4 none, Cond.methodLink RX5 175 yX2_add, Cond.instanceMethod yX2_add, Cond.selects RX2 yX2_add yX2_add, Cond.code yX2_add cX2_add 7 none, Cond.methodLink RX2 28 Lib.Math.min.name, Cond.static Lib.Math.min.name, Cond.initialized "java/lang/Math", Cond.code Lib.Math.min.name Lib.Math.min.code 2 (some .int)]
def wsX6_refundIn_r6 : List Cond := [Cond.methodLink RX5 185 yX5_endYear, Cond.instanceMethod yX5_endYear, Cond.selects RX5 yX5_endYear yX5_endYear, Cond.code yX5_endYear cX5_endYear 5 none]
def wsX6_refundIn : List Cond := .code yX6_refundIn cX6_refundIn 2 (some .int) :: ((wsX6_refundIn_r1 ++ (wsX6_refundIn_r2 ++ (wsX6_refundIn_r3 ++ (wsX6_refundIn_r4 ++ (wsX6_refundIn_r5 ++ wsX6_refundIn_r6))))) ++ wsX60 ++ wsX50 ++ wsX10 ++ wsX40 ++ wsX20)
def wsX6_ifDays_r1 : List Cond := [Cond.constant RX6 57 (-1000001), Cond.fieldLink RX6 16 "WrongedMeters" "trial" "LWrongedMeters$Town;", Cond.fieldLink RX6 10 "WrongedMeters" "town" "LWrongedMeters$Town;", Cond.methodLink RX6 116 yX5_copyFrom, Cond.instanceMethod yX5_copyFrom, Cond.selects RX5 yX5_copyFrom yX5_copyFrom, Cond.initialized RX5, Cond.code yX5_copyFrom cX5_copyFrom 3 none, Cond.fieldLink RX5 11 "WrongedMeters$Town" "houses" "[LWrongedMeters$House;", Cond.fieldLink RX5 19 "WrongedMeters$Town" "streets" "[LWrongedMeters$Street;", Cond.fieldLink RX5 26 "WrongedMeters$Town" "ledger" "LWrongedMeters$Ledger;", Cond.fieldLink RX5 30 "WrongedMeters$Town" "settings" "[I", Cond.methodLink RX5 49 arraycopyName, Cond.native arraycopyName, Cond.static arraycopyName, Cond.initialized "java/lang/System", Cond.fieldLink RX5 55 "WrongedMeters$Town" "houseCount" "I", Cond.fieldLink RX5 59 "WrongedMeters$Town" "now" "I", Cond.fieldLink RX5 62 "WrongedMeters$Town" "readings" "I", Cond.fieldLink RX5 65 "WrongedMeters$Town" "units" "I", Cond.fieldLink RX5 68 "WrongedMeters$Town" "coins" "I", Cond.fieldLink RX5 71 "WrongedMeters$Town" "hundredths" "I", Cond.fieldLink RX5 74 "WrongedMeters$Town" "refunds" "I", Cond.fieldLink RX5 77 "WrongedMeters$Town" "coinsBack" "I"]
def wsX6_ifDays_r2 : List Cond := [Cond.fieldLink RX5 80 "WrongedMeters$Town" "years" "I", Cond.methodLink RX5 39 yX1_copyFrom, Cond.instanceMethod yX1_copyFrom, Cond.selects RX1 yX1_copyFrom yX1_copyFrom, Cond.initialized RX1, Cond.code yX1_copyFrom cX1_copyFrom 2 none, Cond.fieldLink RX1 15 "WrongedMeters$House" "street" "I", Cond.fieldLink RX1 18 "WrongedMeters$House" "place" "I", Cond.fieldLink RX1 21 "WrongedMeters$House" "dial" "I", Cond.fieldLink RX1 24 "WrongedMeters$House" "dialBefore" "I", Cond.fieldLink RX1 27 "WrongedMeters$House" "flow" "I", Cond.fieldLink RX1 30 "WrongedMeters$House" "isLocked" "Z", Cond.fieldLink RX1 34 "WrongedMeters$House" "balance" "I", Cond.fieldLink RX1 9 "WrongedMeters$House" "latestDay" "I", Cond.fieldLink RX1 37 "WrongedMeters$House" "readings" "I", Cond.fieldLink RX1 40 "WrongedMeters$House" "units" "I", Cond.fieldLink RX1 43 "WrongedMeters$House" "timesHouseWronged" "I", Cond.fieldLink RX1 46 "WrongedMeters$House" "timesCompanyWronged" "I", Cond.fieldLink RX1 49 "WrongedMeters$House" "refunds" "I", Cond.fieldLink RX1 52 "WrongedMeters$House" "metersChanged" "I", Cond.methodLink RX5 43 yX4_copyFrom, Cond.instanceMethod yX4_copyFrom, Cond.selects RX4 yX4_copyFrom yX4_copyFrom, Cond.initialized RX4]
def wsX6_ifDays_r3 : List Cond := [Cond.code yX4_copyFrom cX4_copyFrom 2 none, Cond.fieldLink RX4 9 "WrongedMeters$Street" "houses" "[I", Cond.methodLink RX4 19 arraycopyName, Cond.fieldLink RX4 15 "WrongedMeters$Street" "latestStep" "I", Cond.methodLink RX5 46 yX2_copyFrom, Cond.instanceMethod yX2_copyFrom, Cond.selects RX2 yX2_copyFrom yX2_copyFrom, Cond.initialized RX2, Cond.code yX2_copyFrom cX2_copyFrom 2 none, Cond.fieldLink RX2 11 "WrongedMeters$Ledger" "facts" "[I", Cond.methodLink RX2 15 arraycopyName, Cond.fieldLink RX2 21 "WrongedMeters$Ledger" "nextRow" "I", Cond.fieldLink RX2 25 "WrongedMeters$Ledger" "size" "I", Cond.methodLink RX6 122 yX5_passDays, Cond.instanceMethod yX5_passDays, Cond.selects RX5 yX5_passDays yX5_passDays, Cond.code yX5_passDays cX5_passDays 8 (some .int), Cond.methodLink RX5 179 yX1_goOn, Cond.instanceMethod yX1_goOn, Cond.selects RX1 yX1_goOn yX1_goOn, Cond.code yX1_goOn cX1_goOn 1 none, Cond.constant RX1 55 (100000), Cond.methodLink RX5 182 yX5_walk, Cond.instanceMethod yX5_walk]
def wsX6_ifDays_r4 : List Cond := [Cond.selects RX5 yX5_walk yX5_walk, Cond.code yX5_walk cX5_walk 8 none, Cond.methodLink RX5 188 yX4_stepAhead, Cond.instanceMethod yX4_stepAhead, Cond.selects RX4 yX4_stepAhead yX4_stepAhead, Cond.code yX4_stepAhead cX4_stepAhead 2 (some .int), Cond.methodLink RX5 116 yX4_houseOn, Cond.instanceMethod yX4_houseOn, Cond.selects RX4 yX4_houseOn yX4_houseOn, Cond.code yX4_houseOn cX4_houseOn 2 (some .int), Cond.methodLink RX5 130 yX5_houseNumbered, Cond.instanceMethod yX5_houseNumbered, Cond.selects RX5 yX5_houseNumbered yX5_houseNumbered, Cond.code yX5_houseNumbered cX5_houseNumbered 2 (some (.object "WrongedMeters$House")), Cond.methodLink RX5 151 yX1_reasonOn, Cond.instanceMethod yX1_reasonOn, Cond.selects RX1 yX1_reasonOn yX1_reasonOn, Cond.code yX1_reasonOn cX1_reasonOn 2 (some .int), Cond.methodLink RX5 154 yX5_readMeter, Cond.instanceMethod yX5_readMeter, Cond.selects RX5 yX5_readMeter yX5_readMeter, Cond.code yX5_readMeter cX5_readMeter 5 (some .int), Cond.methodLink RX5 161 yX1_used, Cond.instanceMethod yX1_used]
def wsX6_ifDays_r5 : List Cond := [Cond.selects RX1 yX1_used yX1_used, Cond.code yX1_used cX1_used 1 (some .int), Cond.static yX6_unitsFor, Cond.initialized RX6, Cond.code yX6_unitsFor cX6_unitsFor 2 (some .int), Cond.methodLink RX5 171 yX1_settle, Cond.instanceMethod yX1_settle, Cond.selects RX1 yX1_settle yX1_settle, Cond.code yX1_settle cX1_settle 4 none, Cond.methodLink RX5 175 yX2_add, Cond.instanceMethod yX2_add, Cond.selects RX2 yX2_add yX2_add, Cond.code yX2_add cX2_add 7 none, Cond.methodLink RX2 28 Lib.Math.min.name, Cond.static Lib.Math.min.name, Cond.initialized "java/lang/Math", Cond.code Lib.Math.min.name Lib.Math.min.code 2 (some .int), Cond.methodLink RX5 185 yX5_endYear, Cond.instanceMethod yX5_endYear, Cond.selects RX5 yX5_endYear yX5_endYear, Cond.code yX5_endYear cX5_endYear 5 none]
def wsX6_ifDays : List Cond := .code yX6_ifDays cX6_ifDays 3 (some .int) :: ((wsX6_ifDays_r1 ++ (wsX6_ifDays_r2 ++ (wsX6_ifDays_r3 ++ (wsX6_ifDays_r4 ++ wsX6_ifDays_r5)))) ++ wsX60 ++ wsX50 ++ wsX10 ++ wsX40 ++ wsX20)
def wsX6_bitsOf : List Cond := .code yX6_bitsOf cX6_bitsOf 3 (some .int) :: ([.constantFloat RX6 182 (1258291200), .constant RX6 183 (8388608)])
def wsX6_mean : List Cond := .code yX6_mean cX6_mean 1 (some .int) :: ([.fieldLink RX6 10 "WrongedMeters" "town" "LWrongedMeters$Town;", .constant RX6 79 (-1000004), .methodLink RX6 137 yX5_balancesWithoutSigns, .instanceMethod yX5_balancesWithoutSigns, .selects RX5 yX5_balancesWithoutSigns yX5_balancesWithoutSigns, .initialized RX5, .code yX5_balancesWithoutSigns cX5_balancesWithoutSigns 6 (some .int), .fieldLink RX5 11 "WrongedMeters$Town" "houses" "[LWrongedMeters$House;", .methodLink RX5 211 Lib.Math.abs.name, .static Lib.Math.abs.name, .initialized "java/lang/Math", .code Lib.Math.abs.name Lib.Math.abs.code 1 (some .int), .methodLink RX6 140 yX6_bitsOf, .static yX6_bitsOf, .initialized RX6, .code yX6_bitsOf cX6_bitsOf 3 (some .int), .constantFloat RX6 182 (1258291200), .constant RX6 183 (8388608)] ++ wsX60 ++ wsX50 ++ wsX10)
def wsX6_count_r1 : List Cond := [Cond.fieldLink RX6 22 "WrongedMeters" "history" "LWrongedMeters$History;", Cond.fieldLink RX6 29 "WrongedMeters" "orders" "LWrongedMeters$Orders;", Cond.fieldLink RX6 10 "WrongedMeters" "town" "LWrongedMeters$Town;", Cond.methodLink RX6 150 yX5_number, Cond.instanceMethod yX5_number, Cond.selects RX5 yX5_number yX5_number, Cond.initialized RX5, Cond.code yX5_number cX5_number 2 (some .int), Cond.fieldLink RX5 59 "WrongedMeters$Town" "now" "I", Cond.fieldLink RX5 55 "WrongedMeters$Town" "houseCount" "I", Cond.fieldLink RX5 62 "WrongedMeters$Town" "readings" "I", Cond.fieldLink RX5 65 "WrongedMeters$Town" "units" "I", Cond.fieldLink RX5 68 "WrongedMeters$Town" "coins" "I", Cond.fieldLink RX5 71 "WrongedMeters$Town" "hundredths" "I", Cond.fieldLink RX5 74 "WrongedMeters$Town" "refunds" "I", Cond.fieldLink RX5 77 "WrongedMeters$Town" "coinsBack" "I", Cond.fieldLink RX5 80 "WrongedMeters$Town" "years" "I", Cond.fieldLink RX5 26 "WrongedMeters$Town" "ledger" "LWrongedMeters$Ledger;", Cond.fieldLink RX5 30 "WrongedMeters$Town" "settings" "[I", Cond.constant RX5 100 (-1000001), Cond.methodLink RX5 199 yX5_housesLocked, Cond.instanceMethod yX5_housesLocked, Cond.selects RX5 yX5_housesLocked yX5_housesLocked, Cond.code yX5_housesLocked cX5_housesLocked 6 (some .int)]
def wsX6_count_r2 : List Cond := [Cond.fieldLink RX5 11 "WrongedMeters$Town" "houses" "[LWrongedMeters$House;", Cond.methodLink RX5 202 yX5_housesBetween, Cond.instanceMethod yX5_housesBetween, Cond.selects RX5 yX5_housesBetween yX5_housesBetween, Cond.code yX5_housesBetween cX5_housesBetween 8 (some .int), Cond.methodLink RX5 205 yX5_balances, Cond.instanceMethod yX5_balances, Cond.selects RX5 yX5_balances yX5_balances, Cond.code yX5_balances cX5_balances 6 (some .int)]
def wsX6_count : List Cond := .code yX6_count cX6_count 2 (some .int) :: ((wsX6_count_r1 ++ wsX6_count_r2) ++ wsX60 ++ wsX00 ++ wsX30 ++ wsX50 ++ wsX20 ++ wsX10)
def wsX6_undo_r1 : List Cond := [Cond.fieldLink RX6 22 "WrongedMeters" "history" "LWrongedMeters$History;", Cond.fieldLink RX6 10 "WrongedMeters" "town" "LWrongedMeters$Town;", Cond.methodLink RX6 153 yX0_restore, Cond.instanceMethod yX0_restore, Cond.selects RX0 yX0_restore yX0_restore, Cond.initialized RX0, Cond.code yX0_restore cX0_restore 2 (some .int), Cond.fieldLink RX0 26 "WrongedMeters$History" "size" "I", Cond.constant RX0 35 (-1000002), Cond.fieldLink RX0 18 "WrongedMeters$History" "freeSlot" "I", Cond.fieldLink RX0 13 "WrongedMeters$History" "states" "[LWrongedMeters$Town;", Cond.methodLink RX0 22 yX5_copyFrom, Cond.instanceMethod yX5_copyFrom, Cond.selects RX5 yX5_copyFrom yX5_copyFrom, Cond.initialized RX5, Cond.code yX5_copyFrom cX5_copyFrom 3 none, Cond.fieldLink RX5 11 "WrongedMeters$Town" "houses" "[LWrongedMeters$House;", Cond.fieldLink RX5 19 "WrongedMeters$Town" "streets" "[LWrongedMeters$Street;", Cond.fieldLink RX5 26 "WrongedMeters$Town" "ledger" "LWrongedMeters$Ledger;", Cond.fieldLink RX5 30 "WrongedMeters$Town" "settings" "[I", Cond.methodLink RX5 49 arraycopyName, Cond.native arraycopyName, Cond.static arraycopyName, Cond.initialized "java/lang/System"]
def wsX6_undo_r2 : List Cond := [Cond.fieldLink RX5 55 "WrongedMeters$Town" "houseCount" "I", Cond.fieldLink RX5 59 "WrongedMeters$Town" "now" "I", Cond.fieldLink RX5 62 "WrongedMeters$Town" "readings" "I", Cond.fieldLink RX5 65 "WrongedMeters$Town" "units" "I", Cond.fieldLink RX5 68 "WrongedMeters$Town" "coins" "I", Cond.fieldLink RX5 71 "WrongedMeters$Town" "hundredths" "I", Cond.fieldLink RX5 74 "WrongedMeters$Town" "refunds" "I", Cond.fieldLink RX5 77 "WrongedMeters$Town" "coinsBack" "I", Cond.fieldLink RX5 80 "WrongedMeters$Town" "years" "I", Cond.methodLink RX5 39 yX1_copyFrom, Cond.instanceMethod yX1_copyFrom, Cond.selects RX1 yX1_copyFrom yX1_copyFrom, Cond.initialized RX1, Cond.code yX1_copyFrom cX1_copyFrom 2 none, Cond.fieldLink RX1 15 "WrongedMeters$House" "street" "I", Cond.fieldLink RX1 18 "WrongedMeters$House" "place" "I", Cond.fieldLink RX1 21 "WrongedMeters$House" "dial" "I", Cond.fieldLink RX1 24 "WrongedMeters$House" "dialBefore" "I", Cond.fieldLink RX1 27 "WrongedMeters$House" "flow" "I", Cond.fieldLink RX1 30 "WrongedMeters$House" "isLocked" "Z", Cond.fieldLink RX1 34 "WrongedMeters$House" "balance" "I", Cond.fieldLink RX1 9 "WrongedMeters$House" "latestDay" "I", Cond.fieldLink RX1 37 "WrongedMeters$House" "readings" "I", Cond.fieldLink RX1 40 "WrongedMeters$House" "units" "I"]
def wsX6_undo_r3 : List Cond := [Cond.fieldLink RX1 43 "WrongedMeters$House" "timesHouseWronged" "I", Cond.fieldLink RX1 46 "WrongedMeters$House" "timesCompanyWronged" "I", Cond.fieldLink RX1 49 "WrongedMeters$House" "refunds" "I", Cond.fieldLink RX1 52 "WrongedMeters$House" "metersChanged" "I", Cond.methodLink RX5 43 yX4_copyFrom, Cond.instanceMethod yX4_copyFrom, Cond.selects RX4 yX4_copyFrom yX4_copyFrom, Cond.initialized RX4, Cond.code yX4_copyFrom cX4_copyFrom 2 none, Cond.fieldLink RX4 9 "WrongedMeters$Street" "houses" "[I", Cond.methodLink RX4 19 arraycopyName, Cond.fieldLink RX4 15 "WrongedMeters$Street" "latestStep" "I", Cond.methodLink RX5 46 yX2_copyFrom, Cond.instanceMethod yX2_copyFrom, Cond.selects RX2 yX2_copyFrom yX2_copyFrom, Cond.initialized RX2, Cond.code yX2_copyFrom cX2_copyFrom 2 none, Cond.fieldLink RX2 11 "WrongedMeters$Ledger" "facts" "[I", Cond.methodLink RX2 15 arraycopyName, Cond.fieldLink RX2 21 "WrongedMeters$Ledger" "nextRow" "I", Cond.fieldLink RX2 25 "WrongedMeters$Ledger" "size" "I"]
def wsX6_undo : List Cond := .code yX6_undo cX6_undo 1 (some .int) :: ((wsX6_undo_r1 ++ (wsX6_undo_r2 ++ wsX6_undo_r3)) ++ wsX60 ++ wsX00 ++ wsX50 ++ wsX10 ++ wsX40 ++ wsX20)
def wsX6_type : List Cond := .code yX6_type cX6_type 2 (some .int) :: ([.fieldLink RX6 29 "WrongedMeters" "orders" "LWrongedMeters$Orders;", .methodLink RX6 157 yX3_append, .instanceMethod yX3_append, .selects RX3 yX3_append yX3_append, .initialized RX3, .code yX3_append cX3_append 2 (some .int), .constant RX3 15 (-1000001), .fieldLink RX3 16 "WrongedMeters$Orders" "length" "I", .constant RX3 20 (-1000003), .fieldLink RX3 11 "WrongedMeters$Orders" "text" "[I"] ++ wsX60 ++ wsX30)
def wsX6_clearText : List Cond := .code yX6_clearText cX6_clearText 1 (some .int) :: ([.fieldLink RX6 29 "WrongedMeters" "orders" "LWrongedMeters$Orders;", .methodLink RX6 160 yX3_empty, .instanceMethod yX3_empty, .selects RX3 yX3_empty yX3_empty, .initialized RX3, .code yX3_empty cX3_empty 2 (some .int), .fieldLink RX3 16 "WrongedMeters$Orders" "length" "I"] ++ wsX60 ++ wsX30)
def wsX6_fault_r1 : List Cond := [Cond.constant RX6 57 (-1000001), Cond.fieldLink RX6 16 "WrongedMeters" "trial" "LWrongedMeters$Town;", Cond.fieldLink RX6 10 "WrongedMeters" "town" "LWrongedMeters$Town;", Cond.fieldLink RX6 29 "WrongedMeters" "orders" "LWrongedMeters$Orders;", Cond.methodLink RX6 116 yX5_copyFrom, Cond.instanceMethod yX5_copyFrom, Cond.selects RX5 yX5_copyFrom yX5_copyFrom, Cond.initialized RX5, Cond.code yX5_copyFrom cX5_copyFrom 3 none, Cond.fieldLink RX5 11 "WrongedMeters$Town" "houses" "[LWrongedMeters$House;", Cond.fieldLink RX5 19 "WrongedMeters$Town" "streets" "[LWrongedMeters$Street;", Cond.fieldLink RX5 26 "WrongedMeters$Town" "ledger" "LWrongedMeters$Ledger;", Cond.fieldLink RX5 30 "WrongedMeters$Town" "settings" "[I", Cond.methodLink RX5 49 arraycopyName, Cond.native arraycopyName, Cond.static arraycopyName, Cond.initialized "java/lang/System", Cond.fieldLink RX5 55 "WrongedMeters$Town" "houseCount" "I", Cond.fieldLink RX5 59 "WrongedMeters$Town" "now" "I", Cond.fieldLink RX5 62 "WrongedMeters$Town" "readings" "I", Cond.fieldLink RX5 65 "WrongedMeters$Town" "units" "I", Cond.fieldLink RX5 68 "WrongedMeters$Town" "coins" "I", Cond.fieldLink RX5 71 "WrongedMeters$Town" "hundredths" "I", Cond.fieldLink RX5 74 "WrongedMeters$Town" "refunds" "I"]
def wsX6_fault_r2 : List Cond := [Cond.fieldLink RX5 77 "WrongedMeters$Town" "coinsBack" "I", Cond.fieldLink RX5 80 "WrongedMeters$Town" "years" "I", Cond.methodLink RX5 39 yX1_copyFrom, Cond.instanceMethod yX1_copyFrom, Cond.selects RX1 yX1_copyFrom yX1_copyFrom, Cond.initialized RX1, Cond.code yX1_copyFrom cX1_copyFrom 2 none, Cond.fieldLink RX1 15 "WrongedMeters$House" "street" "I", Cond.fieldLink RX1 18 "WrongedMeters$House" "place" "I", Cond.fieldLink RX1 21 "WrongedMeters$House" "dial" "I", Cond.fieldLink RX1 24 "WrongedMeters$House" "dialBefore" "I", Cond.fieldLink RX1 27 "WrongedMeters$House" "flow" "I", Cond.fieldLink RX1 30 "WrongedMeters$House" "isLocked" "Z", Cond.fieldLink RX1 34 "WrongedMeters$House" "balance" "I", Cond.fieldLink RX1 9 "WrongedMeters$House" "latestDay" "I", Cond.fieldLink RX1 37 "WrongedMeters$House" "readings" "I", Cond.fieldLink RX1 40 "WrongedMeters$House" "units" "I", Cond.fieldLink RX1 43 "WrongedMeters$House" "timesHouseWronged" "I", Cond.fieldLink RX1 46 "WrongedMeters$House" "timesCompanyWronged" "I", Cond.fieldLink RX1 49 "WrongedMeters$House" "refunds" "I", Cond.fieldLink RX1 52 "WrongedMeters$House" "metersChanged" "I", Cond.methodLink RX5 43 yX4_copyFrom, Cond.instanceMethod yX4_copyFrom, Cond.selects RX4 yX4_copyFrom yX4_copyFrom]
def wsX6_fault_r3 : List Cond := [Cond.initialized RX4, Cond.code yX4_copyFrom cX4_copyFrom 2 none, Cond.fieldLink RX4 9 "WrongedMeters$Street" "houses" "[I", Cond.methodLink RX4 19 arraycopyName, Cond.fieldLink RX4 15 "WrongedMeters$Street" "latestStep" "I", Cond.methodLink RX5 46 yX2_copyFrom, Cond.instanceMethod yX2_copyFrom, Cond.selects RX2 yX2_copyFrom yX2_copyFrom, Cond.initialized RX2, Cond.code yX2_copyFrom cX2_copyFrom 2 none, Cond.fieldLink RX2 11 "WrongedMeters$Ledger" "facts" "[I", Cond.methodLink RX2 15 arraycopyName, Cond.fieldLink RX2 21 "WrongedMeters$Ledger" "nextRow" "I", Cond.fieldLink RX2 25 "WrongedMeters$Ledger" "size" "I", Cond.methodLink RX6 163 yX3_doAllIn, Cond.instanceMethod yX3_doAllIn, Cond.selects RX3 yX3_doAllIn yX3_doAllIn, Cond.initialized RX3, Cond.code yX3_doAllIn cX3_doAllIn 3 none, Cond.fieldLink RX3 21 "WrongedMeters$Orders" "position" "I", Cond.fieldLink RX3 24 "WrongedMeters$Orders" "reason" "I", Cond.fieldLink RX3 27 "WrongedMeters$Orders" "cause" "I", Cond.fieldLink RX3 30 "WrongedMeters$Orders" "done" "I", Cond.fieldLink RX3 16 "WrongedMeters$Orders" "length" "I"]
def wsX6_fault_r4 : List Cond := [Cond.fieldLink RX3 33 "WrongedMeters$Orders" "start" "I", Cond.fieldLink RX3 40 "WrongedMeters$Orders" "letter" "I", Cond.fieldLink RX3 43 "WrongedMeters$Orders" "first" "I", Cond.fieldLink RX3 46 "WrongedMeters$Orders" "second" "I", Cond.methodLink RX3 36 yX3_takeOrder, Cond.instanceMethod yX3_takeOrder, Cond.selects RX3 yX3_takeOrder yX3_takeOrder, Cond.code yX3_takeOrder cX3_takeOrder 1 (some .boolean), Cond.methodLink RX3 56 yX3_sign, Cond.instanceMethod yX3_sign, Cond.selects RX3 yX3_sign yX3_sign, Cond.code yX3_sign cX3_sign 1 (some .int), Cond.fieldLink RX3 11 "WrongedMeters$Orders" "text" "[I", Cond.methodLink RX3 60 yX3_isLetterOfOrder, Cond.static yX3_isLetterOfOrder, Cond.code yX3_isLetterOfOrder cX3_isLetterOfOrder 1 (some .boolean), Cond.methodLink RX3 64 yX3_takeNumber, Cond.instanceMethod yX3_takeNumber, Cond.selects RX3 yX3_takeNumber yX3_takeNumber, Cond.code yX3_takeNumber cX3_takeNumber 3 (some .int), Cond.methodLink RX3 73 Lib.Math.max.name, Cond.static Lib.Math.max.name, Cond.initialized "java/lang/Math", Cond.code Lib.Math.max.name Lib.Math.max.code 2 (some .int)]
def wsX6_fault_r5 : List Cond := [Cond.methodLink RX3 70 yX3_isDigit, Cond.static yX3_isDigit, Cond.code yX3_isDigit cX3_isDigit 1 (some .boolean), Cond.methodLink RX3 67 yX3_takeSign, Cond.instanceMethod yX3_takeSign, Cond.selects RX3 yX3_takeSign yX3_takeSign, Cond.code yX3_takeSign cX3_takeSign 2 (some .boolean), Cond.methodLink RX3 49 yX5_obey, Cond.instanceMethod yX5_obey, Cond.selects RX5 yX5_obey yX5_obey, Cond.code yX5_obey cX5_obey 4 (some .int), Cond.constant RX5 100 (-1000001), Cond.constant RX5 101 (-1000003), Cond.methodLink RX5 83 yX5_addHouse, Cond.instanceMethod yX5_addHouse, Cond.selects RX5 yX5_addHouse yX5_addHouse, Cond.code yX5_addHouse cX5_addHouse 5 (some .int), Cond.constant RX5 119 (-1000002), Cond.methodLink RX5 105 yX5_streetNumbered, Cond.instanceMethod yX5_streetNumbered, Cond.selects RX5 yX5_streetNumbered yX5_streetNumbered, Cond.code yX5_streetNumbered cX5_streetNumbered 2 (some (.object "WrongedMeters$Street")), Cond.static yX6_isPlace, Cond.initialized RX6]
def wsX6_fault_r6 : List Cond := [Cond.code yX6_isPlace cX6_isPlace 1 (some .boolean), Cond.static yX6_stepOf, Cond.code yX6_stepOf cX6_stepOf 1 (some .int), Cond.methodLink RX5 116 yX4_houseOn, Cond.instanceMethod yX4_houseOn, Cond.selects RX4 yX4_houseOn yX4_houseOn, Cond.code yX4_houseOn cX4_houseOn 2 (some .int), Cond.methodLink RX5 126 yX4_putHouse, Cond.instanceMethod yX4_putHouse, Cond.selects RX4 yX4_putHouse yX4_putHouse, Cond.code yX4_putHouse cX4_putHouse 3 none, Cond.methodLink RX5 87 yX5_putFlow, Cond.instanceMethod yX5_putFlow, Cond.selects RX5 yX5_putFlow yX5_putFlow, Cond.code yX5_putFlow cX5_putFlow 5 (some .int), Cond.methodLink RX5 130 yX5_houseNumbered, Cond.instanceMethod yX5_houseNumbered, Cond.selects RX5 yX5_houseNumbered yX5_houseNumbered, Cond.code yX5_houseNumbered cX5_houseNumbered 2 (some (.object "WrongedMeters$House")), Cond.methodLink RX5 90 yX5_turnLock, Cond.instanceMethod yX5_turnLock, Cond.selects RX5 yX5_turnLock yX5_turnLock, Cond.code yX5_turnLock cX5_turnLock 3 (some .int), Cond.methodLink RX5 141 yX5_putLock]
def wsX6_fault_r7 : List Cond := [Cond.instanceMethod yX5_putLock, Cond.selects RX5 yX5_putLock yX5_putLock, Cond.code yX5_putLock cX5_putLock 5 (some .int), Cond.methodLink RX5 94 yX5_readIfOpen, Cond.instanceMethod yX5_readIfOpen, Cond.selects RX5 yX5_readIfOpen yX5_readIfOpen, Cond.code yX5_readIfOpen cX5_readIfOpen 3 (some .int), Cond.methodLink RX5 151 yX1_reasonOn, Cond.instanceMethod yX1_reasonOn, Cond.selects RX1 yX1_reasonOn yX1_reasonOn, Cond.code yX1_reasonOn cX1_reasonOn 2 (some .int), Cond.methodLink RX5 154 yX5_readMeter, Cond.instanceMethod yX5_readMeter, Cond.selects RX5 yX5_readMeter yX5_readMeter, Cond.code yX5_readMeter cX5_readMeter 5 (some .int), Cond.methodLink RX5 161 yX1_used, Cond.instanceMethod yX1_used, Cond.selects RX1 yX1_used yX1_used, Cond.code yX1_used cX1_used 1 (some .int), Cond.constant RX1 55 (100000), Cond.static yX6_unitsFor, Cond.code yX6_unitsFor cX6_unitsFor 2 (some .int), Cond.methodLink RX5 171 yX1_settle, Cond.instanceMethod yX1_settle]
def wsX6_fault_r8 : List Cond := [Cond.selects RX1 yX1_settle yX1_settle, Cond.code yX1_settle cX1_settle 4 none, Cond.methodLink RX5 175 yX2_add, Cond.instanceMethod yX2_add, Cond.selects RX2 yX2_add yX2_add, Cond.code yX2_add cX2_add 7 none, Cond.methodLink RX2 28 Lib.Math.min.name, Cond.static Lib.Math.min.name, Cond.code Lib.Math.min.name Lib.Math.min.code 2 (some .int), Cond.methodLink RX5 97 yX5_changeMeter, Cond.instanceMethod yX5_changeMeter, Cond.selects RX5 yX5_changeMeter yX5_changeMeter, Cond.code yX5_changeMeter cX5_changeMeter 4 (some .int), Cond.methodLink RX5 158 yX1_renewMeter, Cond.instanceMethod yX1_renewMeter, Cond.selects RX1 yX1_renewMeter yX1_renewMeter, Cond.code yX1_renewMeter cX1_renewMeter 1 none, Cond.methodLink RX5 102 yX5_passDays, Cond.instanceMethod yX5_passDays, Cond.selects RX5 yX5_passDays yX5_passDays, Cond.code yX5_passDays cX5_passDays 8 (some .int), Cond.methodLink RX5 179 yX1_goOn, Cond.instanceMethod yX1_goOn, Cond.selects RX1 yX1_goOn yX1_goOn]
def wsX6_fault_r9 : List Cond := [Cond.code yX1_goOn cX1_goOn 1 none, Cond.methodLink RX5 182 yX5_walk, Cond.instanceMethod yX5_walk, Cond.selects RX5 yX5_walk yX5_walk, Cond.code yX5_walk cX5_walk 8 none, Cond.methodLink RX5 188 yX4_stepAhead, Cond.instanceMethod yX4_stepAhead, Cond.selects RX4 yX4_stepAhead yX4_stepAhead, Cond.code yX4_stepAhead cX4_stepAhead 2 (some .int), Cond.methodLink RX5 185 yX5_endYear, Cond.instanceMethod yX5_endYear, Cond.selects RX5 yX5_endYear yX5_endYear, Cond.code yX5_endYear cX5_endYear 5 none, Cond.methodLink RX6 166 yX3_faultFact, Cond.instanceMethod yX3_faultFact, Cond.selects RX3 yX3_faultFact yX3_faultFact, Cond.code yX3_faultFact cX3_faultFact 2 (some .int), Cond.constant RX3 55 (-1000004)]
def wsX6_fault : List Cond := .code yX6_fault cX6_fault 2 (some .int) :: ((wsX6_fault_r1 ++ (wsX6_fault_r2 ++ (wsX6_fault_r3 ++ (wsX6_fault_r4 ++ (wsX6_fault_r5 ++ (wsX6_fault_r6 ++ (wsX6_fault_r7 ++ (wsX6_fault_r8 ++ wsX6_fault_r9)))))))) ++ wsX60 ++ wsX50 ++ wsX10 ++ wsX40 ++ wsX20 ++ wsX30)
def wsX6_play_r1 : List Cond := [Cond.fieldLink RX6 16 "WrongedMeters" "trial" "LWrongedMeters$Town;", Cond.fieldLink RX6 10 "WrongedMeters" "town" "LWrongedMeters$Town;", Cond.fieldLink RX6 29 "WrongedMeters" "orders" "LWrongedMeters$Orders;", Cond.constant RX6 172 (-1000002), Cond.fieldLink RX6 22 "WrongedMeters" "history" "LWrongedMeters$History;", Cond.methodLink RX6 116 yX5_copyFrom, Cond.instanceMethod yX5_copyFrom, Cond.selects RX5 yX5_copyFrom yX5_copyFrom, Cond.initialized RX5, Cond.code yX5_copyFrom cX5_copyFrom 3 none, Cond.fieldLink RX5 11 "WrongedMeters$Town" "houses" "[LWrongedMeters$House;", Cond.fieldLink RX5 19 "WrongedMeters$Town" "streets" "[LWrongedMeters$Street;", Cond.fieldLink RX5 26 "WrongedMeters$Town" "ledger" "LWrongedMeters$Ledger;", Cond.fieldLink RX5 30 "WrongedMeters$Town" "settings" "[I", Cond.methodLink RX5 49 arraycopyName, Cond.native arraycopyName, Cond.static arraycopyName, Cond.initialized "java/lang/System", Cond.fieldLink RX5 55 "WrongedMeters$Town" "houseCount" "I", Cond.fieldLink RX5 59 "WrongedMeters$Town" "now" "I", Cond.fieldLink RX5 62 "WrongedMeters$Town" "readings" "I", Cond.fieldLink RX5 65 "WrongedMeters$Town" "units" "I", Cond.fieldLink RX5 68 "WrongedMeters$Town" "coins" "I", Cond.fieldLink RX5 71 "WrongedMeters$Town" "hundredths" "I"]
def wsX6_play_r2 : List Cond := [Cond.fieldLink RX5 74 "WrongedMeters$Town" "refunds" "I", Cond.fieldLink RX5 77 "WrongedMeters$Town" "coinsBack" "I", Cond.fieldLink RX5 80 "WrongedMeters$Town" "years" "I", Cond.methodLink RX5 39 yX1_copyFrom, Cond.instanceMethod yX1_copyFrom, Cond.selects RX1 yX1_copyFrom yX1_copyFrom, Cond.initialized RX1, Cond.code yX1_copyFrom cX1_copyFrom 2 none, Cond.fieldLink RX1 15 "WrongedMeters$House" "street" "I", Cond.fieldLink RX1 18 "WrongedMeters$House" "place" "I", Cond.fieldLink RX1 21 "WrongedMeters$House" "dial" "I", Cond.fieldLink RX1 24 "WrongedMeters$House" "dialBefore" "I", Cond.fieldLink RX1 27 "WrongedMeters$House" "flow" "I", Cond.fieldLink RX1 30 "WrongedMeters$House" "isLocked" "Z", Cond.fieldLink RX1 34 "WrongedMeters$House" "balance" "I", Cond.fieldLink RX1 9 "WrongedMeters$House" "latestDay" "I", Cond.fieldLink RX1 37 "WrongedMeters$House" "readings" "I", Cond.fieldLink RX1 40 "WrongedMeters$House" "units" "I", Cond.fieldLink RX1 43 "WrongedMeters$House" "timesHouseWronged" "I", Cond.fieldLink RX1 46 "WrongedMeters$House" "timesCompanyWronged" "I", Cond.fieldLink RX1 49 "WrongedMeters$House" "refunds" "I", Cond.fieldLink RX1 52 "WrongedMeters$House" "metersChanged" "I", Cond.methodLink RX5 43 yX4_copyFrom, Cond.instanceMethod yX4_copyFrom]
def wsX6_play_r3 : List Cond := [Cond.selects RX4 yX4_copyFrom yX4_copyFrom, Cond.initialized RX4, Cond.code yX4_copyFrom cX4_copyFrom 2 none, Cond.fieldLink RX4 9 "WrongedMeters$Street" "houses" "[I", Cond.methodLink RX4 19 arraycopyName, Cond.fieldLink RX4 15 "WrongedMeters$Street" "latestStep" "I", Cond.methodLink RX5 46 yX2_copyFrom, Cond.instanceMethod yX2_copyFrom, Cond.selects RX2 yX2_copyFrom yX2_copyFrom, Cond.initialized RX2, Cond.code yX2_copyFrom cX2_copyFrom 2 none, Cond.fieldLink RX2 11 "WrongedMeters$Ledger" "facts" "[I", Cond.methodLink RX2 15 arraycopyName, Cond.fieldLink RX2 21 "WrongedMeters$Ledger" "nextRow" "I", Cond.fieldLink RX2 25 "WrongedMeters$Ledger" "size" "I", Cond.methodLink RX6 163 yX3_doAllIn, Cond.instanceMethod yX3_doAllIn, Cond.selects RX3 yX3_doAllIn yX3_doAllIn, Cond.initialized RX3, Cond.code yX3_doAllIn cX3_doAllIn 3 none, Cond.fieldLink RX3 21 "WrongedMeters$Orders" "position" "I", Cond.fieldLink RX3 24 "WrongedMeters$Orders" "reason" "I", Cond.fieldLink RX3 27 "WrongedMeters$Orders" "cause" "I", Cond.fieldLink RX3 30 "WrongedMeters$Orders" "done" "I"]
def wsX6_play_r4 : List Cond := [Cond.fieldLink RX3 16 "WrongedMeters$Orders" "length" "I", Cond.fieldLink RX3 33 "WrongedMeters$Orders" "start" "I", Cond.fieldLink RX3 40 "WrongedMeters$Orders" "letter" "I", Cond.fieldLink RX3 43 "WrongedMeters$Orders" "first" "I", Cond.fieldLink RX3 46 "WrongedMeters$Orders" "second" "I", Cond.methodLink RX3 36 yX3_takeOrder, Cond.instanceMethod yX3_takeOrder, Cond.selects RX3 yX3_takeOrder yX3_takeOrder, Cond.code yX3_takeOrder cX3_takeOrder 1 (some .boolean), Cond.methodLink RX3 56 yX3_sign, Cond.instanceMethod yX3_sign, Cond.selects RX3 yX3_sign yX3_sign, Cond.code yX3_sign cX3_sign 1 (some .int), Cond.fieldLink RX3 11 "WrongedMeters$Orders" "text" "[I", Cond.methodLink RX3 60 yX3_isLetterOfOrder, Cond.static yX3_isLetterOfOrder, Cond.code yX3_isLetterOfOrder cX3_isLetterOfOrder 1 (some .boolean), Cond.methodLink RX3 64 yX3_takeNumber, Cond.instanceMethod yX3_takeNumber, Cond.selects RX3 yX3_takeNumber yX3_takeNumber, Cond.code yX3_takeNumber cX3_takeNumber 3 (some .int), Cond.methodLink RX3 73 Lib.Math.max.name, Cond.static Lib.Math.max.name, Cond.initialized "java/lang/Math"]
def wsX6_play_r5 : List Cond := [Cond.code Lib.Math.max.name Lib.Math.max.code 2 (some .int), Cond.methodLink RX3 70 yX3_isDigit, Cond.static yX3_isDigit, Cond.code yX3_isDigit cX3_isDigit 1 (some .boolean), Cond.methodLink RX3 67 yX3_takeSign, Cond.instanceMethod yX3_takeSign, Cond.selects RX3 yX3_takeSign yX3_takeSign, Cond.code yX3_takeSign cX3_takeSign 2 (some .boolean), Cond.methodLink RX3 49 yX5_obey, Cond.instanceMethod yX5_obey, Cond.selects RX5 yX5_obey yX5_obey, Cond.code yX5_obey cX5_obey 4 (some .int), Cond.constant RX5 100 (-1000001), Cond.constant RX5 101 (-1000003), Cond.methodLink RX5 83 yX5_addHouse, Cond.instanceMethod yX5_addHouse, Cond.selects RX5 yX5_addHouse yX5_addHouse, Cond.code yX5_addHouse cX5_addHouse 5 (some .int), Cond.constant RX5 119 (-1000002), Cond.methodLink RX5 105 yX5_streetNumbered, Cond.instanceMethod yX5_streetNumbered, Cond.selects RX5 yX5_streetNumbered yX5_streetNumbered, Cond.code yX5_streetNumbered cX5_streetNumbered 2 (some (.object "WrongedMeters$Street")), Cond.static yX6_isPlace]
def wsX6_play_r6 : List Cond := [Cond.initialized RX6, Cond.code yX6_isPlace cX6_isPlace 1 (some .boolean), Cond.static yX6_stepOf, Cond.code yX6_stepOf cX6_stepOf 1 (some .int), Cond.methodLink RX5 116 yX4_houseOn, Cond.instanceMethod yX4_houseOn, Cond.selects RX4 yX4_houseOn yX4_houseOn, Cond.code yX4_houseOn cX4_houseOn 2 (some .int), Cond.methodLink RX5 126 yX4_putHouse, Cond.instanceMethod yX4_putHouse, Cond.selects RX4 yX4_putHouse yX4_putHouse, Cond.code yX4_putHouse cX4_putHouse 3 none, Cond.methodLink RX5 87 yX5_putFlow, Cond.instanceMethod yX5_putFlow, Cond.selects RX5 yX5_putFlow yX5_putFlow, Cond.code yX5_putFlow cX5_putFlow 5 (some .int), Cond.methodLink RX5 130 yX5_houseNumbered, Cond.instanceMethod yX5_houseNumbered, Cond.selects RX5 yX5_houseNumbered yX5_houseNumbered, Cond.code yX5_houseNumbered cX5_houseNumbered 2 (some (.object "WrongedMeters$House")), Cond.methodLink RX5 90 yX5_turnLock, Cond.instanceMethod yX5_turnLock, Cond.selects RX5 yX5_turnLock yX5_turnLock, Cond.code yX5_turnLock cX5_turnLock 3 (some .int)]
def wsX6_play_r7 : List Cond := [Cond.methodLink RX5 141 yX5_putLock, Cond.instanceMethod yX5_putLock, Cond.selects RX5 yX5_putLock yX5_putLock, Cond.code yX5_putLock cX5_putLock 5 (some .int), Cond.methodLink RX5 94 yX5_readIfOpen, Cond.instanceMethod yX5_readIfOpen, Cond.selects RX5 yX5_readIfOpen yX5_readIfOpen, Cond.code yX5_readIfOpen cX5_readIfOpen 3 (some .int), Cond.methodLink RX5 151 yX1_reasonOn, Cond.instanceMethod yX1_reasonOn, Cond.selects RX1 yX1_reasonOn yX1_reasonOn, Cond.code yX1_reasonOn cX1_reasonOn 2 (some .int), Cond.methodLink RX5 154 yX5_readMeter, Cond.instanceMethod yX5_readMeter, Cond.selects RX5 yX5_readMeter yX5_readMeter, Cond.code yX5_readMeter cX5_readMeter 5 (some .int), Cond.methodLink RX5 161 yX1_used, Cond.instanceMethod yX1_used, Cond.selects RX1 yX1_used yX1_used, Cond.code yX1_used cX1_used 1 (some .int), Cond.constant RX1 55 (100000), Cond.static yX6_unitsFor, Cond.code yX6_unitsFor cX6_unitsFor 2 (some .int), Cond.methodLink RX5 171 yX1_settle]
def wsX6_play_r8 : List Cond := [Cond.instanceMethod yX1_settle, Cond.selects RX1 yX1_settle yX1_settle, Cond.code yX1_settle cX1_settle 4 none, Cond.methodLink RX5 175 yX2_add, Cond.instanceMethod yX2_add, Cond.selects RX2 yX2_add yX2_add, Cond.code yX2_add cX2_add 7 none, Cond.methodLink RX2 28 Lib.Math.min.name, Cond.static Lib.Math.min.name, Cond.code Lib.Math.min.name Lib.Math.min.code 2 (some .int), Cond.methodLink RX5 97 yX5_changeMeter, Cond.instanceMethod yX5_changeMeter, Cond.selects RX5 yX5_changeMeter yX5_changeMeter, Cond.code yX5_changeMeter cX5_changeMeter 4 (some .int), Cond.methodLink RX5 158 yX1_renewMeter, Cond.instanceMethod yX1_renewMeter, Cond.selects RX1 yX1_renewMeter yX1_renewMeter, Cond.code yX1_renewMeter cX1_renewMeter 1 none, Cond.methodLink RX5 102 yX5_passDays, Cond.instanceMethod yX5_passDays, Cond.selects RX5 yX5_passDays yX5_passDays, Cond.code yX5_passDays cX5_passDays 8 (some .int), Cond.methodLink RX5 179 yX1_goOn, Cond.instanceMethod yX1_goOn]
def wsX6_play_r9 : List Cond := [Cond.selects RX1 yX1_goOn yX1_goOn, Cond.code yX1_goOn cX1_goOn 1 none, Cond.methodLink RX5 182 yX5_walk, Cond.instanceMethod yX5_walk, Cond.selects RX5 yX5_walk yX5_walk, Cond.code yX5_walk cX5_walk 8 none, Cond.methodLink RX5 188 yX4_stepAhead, Cond.instanceMethod yX4_stepAhead, Cond.selects RX4 yX4_stepAhead yX4_stepAhead, Cond.code yX4_stepAhead cX4_stepAhead 2 (some .int), Cond.methodLink RX5 185 yX5_endYear, Cond.instanceMethod yX5_endYear, Cond.selects RX5 yX5_endYear yX5_endYear, Cond.code yX5_endYear cX5_endYear 5 none, Cond.methodLink RX6 37 yX0_record, Cond.instanceMethod yX0_record, Cond.selects RX0 yX0_record yX0_record, Cond.initialized RX0, Cond.code yX0_record cX0_record 2 none, Cond.fieldLink RX0 13 "WrongedMeters$History" "states" "[LWrongedMeters$Town;", Cond.fieldLink RX0 18 "WrongedMeters$History" "freeSlot" "I", Cond.methodLink RX0 22 yX5_copyFrom, Cond.methodLink RX6 45 yX6_kept, Cond.instanceMethod yX6_kept]
def wsX6_play_r10 : List Cond := [Cond.selects RX6 yX6_kept yX6_kept, Cond.code yX6_kept cX6_kept 2 (some .int), Cond.methodLink RX6 179 yX0_keep, Cond.instanceMethod yX0_keep, Cond.selects RX0 yX0_keep yX0_keep, Cond.code yX0_keep cX0_keep 1 none, Cond.fieldLink RX0 26 "WrongedMeters$History" "size" "I", Cond.methodLink RX0 29 Lib.Math.min.name]
def wsX6_play : List Cond := .code yX6_play cX6_play 1 (some .int) :: ((wsX6_play_r1 ++ (wsX6_play_r2 ++ (wsX6_play_r3 ++ (wsX6_play_r4 ++ (wsX6_play_r5 ++ (wsX6_play_r6 ++ (wsX6_play_r7 ++ (wsX6_play_r8 ++ (wsX6_play_r9 ++ wsX6_play_r10))))))))) ++ wsX60 ++ wsX30 ++ wsX50 ++ wsX10 ++ wsX40 ++ wsX20 ++ wsX00)
def wsX7_init : List Cond := .code yX7_init cX7_init 1 none :: ([.methodLink RX7 1 objectInit, .instanceMethod objectInit, .code objectInit ⟨#[0xb1]⟩ 1 none, .arrayClass .int, .fieldLink RX7 7 "WrongedMetersModel" "s" "[I", .fieldLink RX7 13 "WrongedMetersModel" "past" "[I", .fieldLink RX7 16 "WrongedMetersModel" "held" "[I", .fieldLink RX7 19 "WrongedMetersModel" "spare" "[I", .fieldLink RX7 22 "WrongedMetersModel" "text" "[I", .fieldLink RX7 25 "WrongedMetersModel" "round" "[I", .fieldLink RX7 28 "WrongedMetersModel" "numbers" "[I"] ++ wsX70)
def wsX7_in : List Cond := .code yX7_in cX7_in 3 (some .boolean) :: ([])
def wsX7_copies : List Cond := .code yX7_copies cX7_copies 3 none :: ([])
def wsX7_changes : List Cond := .code yX7_changes cX7_changes 2 none :: ([.fieldLink RX7 31 "WrongedMetersModel" "runs" "Z", .fieldLink RX7 35 "WrongedMetersModel" "pasts" "I", .fieldLink RX7 13 "WrongedMetersModel" "past" "[I", .fieldLink RX7 7 "WrongedMetersModel" "s" "[I"] ++ wsX70)
def wsX7_of : List Cond := .code yX7_of cX7_of 3 (some .int) :: ([.fieldLink RX7 7 "WrongedMetersModel" "s" "[I"] ++ wsX70)
def wsX7_adds : List Cond := .code yX7_adds cX7_adds 4 none :: ([.fieldLink RX7 7 "WrongedMetersModel" "s" "[I"] ++ wsX70)
def wsX7_lay : List Cond := .code yX7_lay cX7_lay 4 none :: ([.fieldLink RX7 7 "WrongedMetersModel" "s" "[I"] ++ wsX70)
def wsX7_isHouse : List Cond := .code yX7_isHouse cX7_isHouse 2 (some .boolean) :: ([.fieldLink RX7 7 "WrongedMetersModel" "s" "[I", .methodLink RX7 39 yX7_in, .static yX7_in, .initialized RX7, .code yX7_in cX7_in 3 (some .boolean)] ++ wsX70)
def wsX7_isPlace : List Cond := .code yX7_isPlace cX7_isPlace 2 (some .boolean) :: ([.methodLink RX7 39 yX7_in, .static yX7_in, .initialized RX7, .code yX7_in cX7_in 3 (some .boolean)])
def wsX7_atPlace : List Cond := .code yX7_atPlace cX7_atPlace 4 (some .int) :: ([.fieldLink RX7 7 "WrongedMetersModel" "s" "[I", .constant RX7 47 (-1000004), .methodLink RX7 43 yX7_of, .instanceMethod yX7_of, .selects RX7 yX7_of yX7_of, .initialized RX7, .code yX7_of cX7_of 3 (some .int)] ++ wsX70)
def wsX7_used : List Cond := .code yX7_used cX7_used 2 (some .int) :: ([.constant RX7 48 (100000), .methodLink RX7 43 yX7_of, .instanceMethod yX7_of, .selects RX7 yX7_of yX7_of, .initialized RX7, .code yX7_of cX7_of 3 (some .int), .fieldLink RX7 7 "WrongedMetersModel" "s" "[I"] ++ wsX70)
def wsX7_unitsOf : List Cond := .code yX7_unitsOf cX7_unitsOf 5 (some .int) :: ([.methodLink RX7 49 yX7_used, .instanceMethod yX7_used, .selects RX7 yX7_used yX7_used, .initialized RX7, .code yX7_used cX7_used 2 (some .int), .constant RX7 48 (100000), .methodLink RX7 43 yX7_of, .instanceMethod yX7_of, .selects RX7 yX7_of yX7_of, .code yX7_of cX7_of 3 (some .int), .fieldLink RX7 7 "WrongedMetersModel" "s" "[I"] ++ wsX70)
def wsX7_balanceThen : List Cond := .code yX7_balanceThen cX7_balanceThen 2 (some .int) :: ([.methodLink RX7 43 yX7_of, .instanceMethod yX7_of, .selects RX7 yX7_of yX7_of, .initialized RX7, .code yX7_of cX7_of 3 (some .int), .fieldLink RX7 7 "WrongedMetersModel" "s" "[I", .methodLink RX7 53 yX7_unitsOf, .instanceMethod yX7_unitsOf, .selects RX7 yX7_unitsOf yX7_unitsOf, .code yX7_unitsOf cX7_unitsOf 5 (some .int), .methodLink RX7 49 yX7_used, .instanceMethod yX7_used, .selects RX7 yX7_used yX7_used, .code yX7_used cX7_used 2 (some .int), .constant RX7 48 (100000)] ++ wsX70)
def wsX7_barred : List Cond := .code yX7_barred cX7_barred 2 (some .int) :: ([.fieldLink RX7 7 "WrongedMetersModel" "s" "[I", .methodLink RX7 43 yX7_of, .instanceMethod yX7_of, .selects RX7 yX7_of yX7_of, .initialized RX7, .code yX7_of cX7_of 3 (some .int)] ++ wsX70)
def wsX7_enters : List Cond := .code yX7_enters cX7_enters 6 none :: ([.fieldLink RX7 7 "WrongedMetersModel" "s" "[I"] ++ wsX70)
def wsX7_reads_r1 : List Cond := [Cond.fieldLink RX7 7 "WrongedMetersModel" "s" "[I", Cond.methodLink RX7 49 yX7_used, Cond.instanceMethod yX7_used, Cond.selects RX7 yX7_used yX7_used, Cond.initialized RX7, Cond.code yX7_used cX7_used 2 (some .int), Cond.constant RX7 48 (100000), Cond.methodLink RX7 43 yX7_of, Cond.instanceMethod yX7_of, Cond.selects RX7 yX7_of yX7_of, Cond.code yX7_of cX7_of 3 (some .int), Cond.methodLink RX7 53 yX7_unitsOf, Cond.instanceMethod yX7_unitsOf, Cond.selects RX7 yX7_unitsOf yX7_unitsOf, Cond.code yX7_unitsOf cX7_unitsOf 5 (some .int), Cond.methodLink RX7 56 yX7_balanceThen, Cond.instanceMethod yX7_balanceThen, Cond.selects RX7 yX7_balanceThen yX7_balanceThen, Cond.code yX7_balanceThen cX7_balanceThen 2 (some .int), Cond.methodLink RX7 59 yX7_lay, Cond.instanceMethod yX7_lay, Cond.selects RX7 yX7_lay yX7_lay, Cond.code yX7_lay cX7_lay 4 none, Cond.methodLink RX7 63 yX7_adds]
def wsX7_reads_r2 : List Cond := [Cond.instanceMethod yX7_adds, Cond.selects RX7 yX7_adds yX7_adds, Cond.code yX7_adds cX7_adds 4 none, Cond.methodLink RX7 66 yX7_enters, Cond.instanceMethod yX7_enters, Cond.selects RX7 yX7_enters yX7_enters, Cond.code yX7_enters cX7_enters 6 none]
def wsX7_reads : List Cond := .code yX7_reads cX7_reads 5 (some .int) :: ((wsX7_reads_r1 ++ wsX7_reads_r2) ++ wsX70)
def wsX7_turn : List Cond := .code yX7_turn cX7_turn 3 (some .int) :: ([.methodLink RX7 43 yX7_of, .instanceMethod yX7_of, .selects RX7 yX7_of yX7_of, .initialized RX7, .code yX7_of cX7_of 3 (some .int), .fieldLink RX7 7 "WrongedMetersModel" "s" "[I"] ++ wsX70)
def wsX7_rankOf : List Cond := .code yX7_rankOf cX7_rankOf 7 (some .int) :: ([.fieldLink RX7 7 "WrongedMetersModel" "s" "[I", .methodLink RX7 70 yX7_turn, .instanceMethod yX7_turn, .selects RX7 yX7_turn yX7_turn, .initialized RX7, .code yX7_turn cX7_turn 3 (some .int), .methodLink RX7 43 yX7_of, .instanceMethod yX7_of, .selects RX7 yX7_of yX7_of, .code yX7_of cX7_of 3 (some .int)] ++ wsX70)
def wsX7_rounds : List Cond := .code yX7_rounds cX7_rounds 6 (some .int) :: ([.fieldLink RX7 7 "WrongedMetersModel" "s" "[I", .fieldLink RX7 25 "WrongedMetersModel" "round" "[I", .methodLink RX7 43 yX7_of, .instanceMethod yX7_of, .selects RX7 yX7_of yX7_of, .initialized RX7, .code yX7_of cX7_of 3 (some .int), .methodLink RX7 70 yX7_turn, .instanceMethod yX7_turn, .selects RX7 yX7_turn yX7_turn, .code yX7_turn cX7_turn 3 (some .int), .methodLink RX7 73 yX7_rankOf, .instanceMethod yX7_rankOf, .selects RX7 yX7_rankOf yX7_rankOf, .code yX7_rankOf cX7_rankOf 7 (some .int)] ++ wsX70)
def wsX7_walks_r1 : List Cond := [Cond.fieldLink RX7 7 "WrongedMetersModel" "s" "[I", Cond.fieldLink RX7 25 "WrongedMetersModel" "round" "[I", Cond.methodLink RX7 77 yX7_rounds, Cond.instanceMethod yX7_rounds, Cond.selects RX7 yX7_rounds yX7_rounds, Cond.initialized RX7, Cond.code yX7_rounds cX7_rounds 6 (some .int), Cond.methodLink RX7 43 yX7_of, Cond.instanceMethod yX7_of, Cond.selects RX7 yX7_of yX7_of, Cond.code yX7_of cX7_of 3 (some .int), Cond.methodLink RX7 70 yX7_turn, Cond.instanceMethod yX7_turn, Cond.selects RX7 yX7_turn yX7_turn, Cond.code yX7_turn cX7_turn 3 (some .int), Cond.methodLink RX7 73 yX7_rankOf, Cond.instanceMethod yX7_rankOf, Cond.selects RX7 yX7_rankOf yX7_rankOf, Cond.code yX7_rankOf cX7_rankOf 7 (some .int), Cond.methodLink RX7 80 yX7_barred, Cond.instanceMethod yX7_barred, Cond.selects RX7 yX7_barred yX7_barred, Cond.code yX7_barred cX7_barred 2 (some .int), Cond.methodLink RX7 83 yX7_reads]
def wsX7_walks_r2 : List Cond := [Cond.instanceMethod yX7_reads, Cond.selects RX7 yX7_reads yX7_reads, Cond.code yX7_reads cX7_reads 5 (some .int), Cond.methodLink RX7 49 yX7_used, Cond.instanceMethod yX7_used, Cond.selects RX7 yX7_used yX7_used, Cond.code yX7_used cX7_used 2 (some .int), Cond.constant RX7 48 (100000), Cond.methodLink RX7 53 yX7_unitsOf, Cond.instanceMethod yX7_unitsOf, Cond.selects RX7 yX7_unitsOf yX7_unitsOf, Cond.code yX7_unitsOf cX7_unitsOf 5 (some .int), Cond.methodLink RX7 56 yX7_balanceThen, Cond.instanceMethod yX7_balanceThen, Cond.selects RX7 yX7_balanceThen yX7_balanceThen, Cond.code yX7_balanceThen cX7_balanceThen 2 (some .int), Cond.methodLink RX7 59 yX7_lay, Cond.instanceMethod yX7_lay, Cond.selects RX7 yX7_lay yX7_lay, Cond.code yX7_lay cX7_lay 4 none, Cond.methodLink RX7 63 yX7_adds, Cond.instanceMethod yX7_adds, Cond.selects RX7 yX7_adds yX7_adds, Cond.code yX7_adds cX7_adds 4 none]
def wsX7_walks_r3 : List Cond := [Cond.methodLink RX7 66 yX7_enters, Cond.instanceMethod yX7_enters, Cond.selects RX7 yX7_enters yX7_enters, Cond.code yX7_enters cX7_enters 6 none]
def wsX7_walks : List Cond := .code yX7_walks cX7_walks 5 (some .int) :: ((wsX7_walks_r1 ++ (wsX7_walks_r2 ++ wsX7_walks_r3)) ++ wsX70)
def wsX7_refunds : List Cond := .code yX7_refunds cX7_refunds 2 none :: ([.fieldLink RX7 7 "WrongedMetersModel" "s" "[I", .methodLink RX7 43 yX7_of, .instanceMethod yX7_of, .selects RX7 yX7_of yX7_of, .initialized RX7, .code yX7_of cX7_of 3 (some .int), .methodLink RX7 63 yX7_adds, .instanceMethod yX7_adds, .selects RX7 yX7_adds yX7_adds, .code yX7_adds cX7_adds 4 none] ++ wsX70)
def wsX7_day_r1 : List Cond := [Cond.fieldLink RX7 7 "WrongedMetersModel" "s" "[I", Cond.constant RX7 48 (100000), Cond.methodLink RX7 43 yX7_of, Cond.instanceMethod yX7_of, Cond.selects RX7 yX7_of yX7_of, Cond.initialized RX7, Cond.code yX7_of cX7_of 3 (some .int), Cond.methodLink RX7 59 yX7_lay, Cond.instanceMethod yX7_lay, Cond.selects RX7 yX7_lay yX7_lay, Cond.code yX7_lay cX7_lay 4 none, Cond.methodLink RX7 86 yX7_walks, Cond.instanceMethod yX7_walks, Cond.selects RX7 yX7_walks yX7_walks, Cond.code yX7_walks cX7_walks 5 (some .int), Cond.fieldLink RX7 25 "WrongedMetersModel" "round" "[I", Cond.methodLink RX7 77 yX7_rounds, Cond.instanceMethod yX7_rounds, Cond.selects RX7 yX7_rounds yX7_rounds, Cond.code yX7_rounds cX7_rounds 6 (some .int), Cond.methodLink RX7 70 yX7_turn, Cond.instanceMethod yX7_turn, Cond.selects RX7 yX7_turn yX7_turn, Cond.code yX7_turn cX7_turn 3 (some .int)]
def wsX7_day_r2 : List Cond := [Cond.methodLink RX7 73 yX7_rankOf, Cond.instanceMethod yX7_rankOf, Cond.selects RX7 yX7_rankOf yX7_rankOf, Cond.code yX7_rankOf cX7_rankOf 7 (some .int), Cond.methodLink RX7 80 yX7_barred, Cond.instanceMethod yX7_barred, Cond.selects RX7 yX7_barred yX7_barred, Cond.code yX7_barred cX7_barred 2 (some .int), Cond.methodLink RX7 83 yX7_reads, Cond.instanceMethod yX7_reads, Cond.selects RX7 yX7_reads yX7_reads, Cond.code yX7_reads cX7_reads 5 (some .int), Cond.methodLink RX7 49 yX7_used, Cond.instanceMethod yX7_used, Cond.selects RX7 yX7_used yX7_used, Cond.code yX7_used cX7_used 2 (some .int), Cond.methodLink RX7 53 yX7_unitsOf, Cond.instanceMethod yX7_unitsOf, Cond.selects RX7 yX7_unitsOf yX7_unitsOf, Cond.code yX7_unitsOf cX7_unitsOf 5 (some .int), Cond.methodLink RX7 56 yX7_balanceThen, Cond.instanceMethod yX7_balanceThen, Cond.selects RX7 yX7_balanceThen yX7_balanceThen, Cond.code yX7_balanceThen cX7_balanceThen 2 (some .int)]
def wsX7_day_r3 : List Cond := [Cond.methodLink RX7 63 yX7_adds, Cond.instanceMethod yX7_adds, Cond.selects RX7 yX7_adds yX7_adds, Cond.code yX7_adds cX7_adds 4 none, Cond.methodLink RX7 66 yX7_enters, Cond.instanceMethod yX7_enters, Cond.selects RX7 yX7_enters yX7_enters, Cond.code yX7_enters cX7_enters 6 none, Cond.methodLink RX7 89 yX7_refunds, Cond.instanceMethod yX7_refunds, Cond.selects RX7 yX7_refunds yX7_refunds, Cond.code yX7_refunds cX7_refunds 2 none]
def wsX7_day : List Cond := .code yX7_day cX7_day 2 (some .int) :: ((wsX7_day_r1 ++ (wsX7_day_r2 ++ wsX7_day_r3)) ++ wsX70)
def wsX7_house_r1 : List Cond := [Cond.constant RX7 96 (-1000001), Cond.constant RX7 100 (-1000002), Cond.fieldLink RX7 7 "WrongedMetersModel" "s" "[I", Cond.constant RX7 101 (-1000003), Cond.methodLink RX7 92 yX7_isPlace, Cond.static yX7_isPlace, Cond.initialized RX7, Cond.code yX7_isPlace cX7_isPlace 2 (some .boolean), Cond.methodLink RX7 39 yX7_in, Cond.static yX7_in, Cond.code yX7_in cX7_in 3 (some .boolean), Cond.methodLink RX7 97 yX7_atPlace, Cond.instanceMethod yX7_atPlace, Cond.selects RX7 yX7_atPlace yX7_atPlace, Cond.code yX7_atPlace cX7_atPlace 4 (some .int), Cond.constant RX7 47 (-1000004), Cond.methodLink RX7 43 yX7_of, Cond.instanceMethod yX7_of, Cond.selects RX7 yX7_of yX7_of, Cond.code yX7_of cX7_of 3 (some .int), Cond.methodLink RX7 102 yX7_changes, Cond.instanceMethod yX7_changes, Cond.selects RX7 yX7_changes yX7_changes, Cond.code yX7_changes cX7_changes 2 none]
def wsX7_house_r2 : List Cond := [Cond.fieldLink RX7 31 "WrongedMetersModel" "runs" "Z", Cond.fieldLink RX7 35 "WrongedMetersModel" "pasts" "I", Cond.fieldLink RX7 13 "WrongedMetersModel" "past" "[I", Cond.methodLink RX7 59 yX7_lay, Cond.instanceMethod yX7_lay, Cond.selects RX7 yX7_lay yX7_lay, Cond.code yX7_lay cX7_lay 4 none]
def wsX7_house : List Cond := .code yX7_house cX7_house 3 (some .int) :: ((wsX7_house_r1 ++ wsX7_house_r2) ++ wsX70)
def wsX7_flow_r1 : List Cond := [Cond.constant RX7 96 (-1000001), Cond.methodLink RX7 105 yX7_isHouse, Cond.instanceMethod yX7_isHouse, Cond.selects RX7 yX7_isHouse yX7_isHouse, Cond.initialized RX7, Cond.code yX7_isHouse cX7_isHouse 2 (some .boolean), Cond.fieldLink RX7 7 "WrongedMetersModel" "s" "[I", Cond.methodLink RX7 39 yX7_in, Cond.static yX7_in, Cond.code yX7_in cX7_in 3 (some .boolean), Cond.methodLink RX7 102 yX7_changes, Cond.instanceMethod yX7_changes, Cond.selects RX7 yX7_changes yX7_changes, Cond.code yX7_changes cX7_changes 2 none, Cond.fieldLink RX7 31 "WrongedMetersModel" "runs" "Z", Cond.fieldLink RX7 35 "WrongedMetersModel" "pasts" "I", Cond.fieldLink RX7 13 "WrongedMetersModel" "past" "[I", Cond.methodLink RX7 43 yX7_of, Cond.instanceMethod yX7_of, Cond.selects RX7 yX7_of yX7_of, Cond.code yX7_of cX7_of 3 (some .int), Cond.methodLink RX7 59 yX7_lay, Cond.instanceMethod yX7_lay, Cond.selects RX7 yX7_lay yX7_lay]
def wsX7_flow_r2 : List Cond := [Cond.code yX7_lay cX7_lay 4 none]
def wsX7_flow : List Cond := .code yX7_flow cX7_flow 4 (some .int) :: ((wsX7_flow_r1 ++ wsX7_flow_r2) ++ wsX70)
def wsX7_lock_r1 : List Cond := [Cond.constant RX7 96 (-1000001), Cond.methodLink RX7 105 yX7_isHouse, Cond.instanceMethod yX7_isHouse, Cond.selects RX7 yX7_isHouse yX7_isHouse, Cond.initialized RX7, Cond.code yX7_isHouse cX7_isHouse 2 (some .boolean), Cond.fieldLink RX7 7 "WrongedMetersModel" "s" "[I", Cond.methodLink RX7 39 yX7_in, Cond.static yX7_in, Cond.code yX7_in cX7_in 3 (some .boolean), Cond.methodLink RX7 102 yX7_changes, Cond.instanceMethod yX7_changes, Cond.selects RX7 yX7_changes yX7_changes, Cond.code yX7_changes cX7_changes 2 none, Cond.fieldLink RX7 31 "WrongedMetersModel" "runs" "Z", Cond.fieldLink RX7 35 "WrongedMetersModel" "pasts" "I", Cond.fieldLink RX7 13 "WrongedMetersModel" "past" "[I", Cond.methodLink RX7 43 yX7_of, Cond.instanceMethod yX7_of, Cond.selects RX7 yX7_of yX7_of, Cond.code yX7_of cX7_of 3 (some .int), Cond.methodLink RX7 59 yX7_lay, Cond.instanceMethod yX7_lay, Cond.selects RX7 yX7_lay yX7_lay]
def wsX7_lock_r2 : List Cond := [Cond.code yX7_lay cX7_lay 4 none]
def wsX7_lock : List Cond := .code yX7_lock cX7_lock 4 (some .int) :: ((wsX7_lock_r1 ++ wsX7_lock_r2) ++ wsX70)
def wsX7_read_r1 : List Cond := [Cond.constant RX7 96 (-1000001), Cond.constant RX7 100 (-1000002), Cond.methodLink RX7 105 yX7_isHouse, Cond.instanceMethod yX7_isHouse, Cond.selects RX7 yX7_isHouse yX7_isHouse, Cond.initialized RX7, Cond.code yX7_isHouse cX7_isHouse 2 (some .boolean), Cond.fieldLink RX7 7 "WrongedMetersModel" "s" "[I", Cond.methodLink RX7 39 yX7_in, Cond.static yX7_in, Cond.code yX7_in cX7_in 3 (some .boolean), Cond.methodLink RX7 80 yX7_barred, Cond.instanceMethod yX7_barred, Cond.selects RX7 yX7_barred yX7_barred, Cond.code yX7_barred cX7_barred 2 (some .int), Cond.methodLink RX7 43 yX7_of, Cond.instanceMethod yX7_of, Cond.selects RX7 yX7_of yX7_of, Cond.code yX7_of cX7_of 3 (some .int), Cond.methodLink RX7 102 yX7_changes, Cond.instanceMethod yX7_changes, Cond.selects RX7 yX7_changes yX7_changes, Cond.code yX7_changes cX7_changes 2 none, Cond.fieldLink RX7 31 "WrongedMetersModel" "runs" "Z"]
def wsX7_read_r2 : List Cond := [Cond.fieldLink RX7 35 "WrongedMetersModel" "pasts" "I", Cond.fieldLink RX7 13 "WrongedMetersModel" "past" "[I", Cond.methodLink RX7 83 yX7_reads, Cond.instanceMethod yX7_reads, Cond.selects RX7 yX7_reads yX7_reads, Cond.code yX7_reads cX7_reads 5 (some .int), Cond.methodLink RX7 49 yX7_used, Cond.instanceMethod yX7_used, Cond.selects RX7 yX7_used yX7_used, Cond.code yX7_used cX7_used 2 (some .int), Cond.constant RX7 48 (100000), Cond.methodLink RX7 53 yX7_unitsOf, Cond.instanceMethod yX7_unitsOf, Cond.selects RX7 yX7_unitsOf yX7_unitsOf, Cond.code yX7_unitsOf cX7_unitsOf 5 (some .int), Cond.methodLink RX7 56 yX7_balanceThen, Cond.instanceMethod yX7_balanceThen, Cond.selects RX7 yX7_balanceThen yX7_balanceThen, Cond.code yX7_balanceThen cX7_balanceThen 2 (some .int), Cond.methodLink RX7 59 yX7_lay, Cond.instanceMethod yX7_lay, Cond.selects RX7 yX7_lay yX7_lay, Cond.code yX7_lay cX7_lay 4 none, Cond.methodLink RX7 63 yX7_adds]
def wsX7_read_r3 : List Cond := [Cond.instanceMethod yX7_adds, Cond.selects RX7 yX7_adds yX7_adds, Cond.code yX7_adds cX7_adds 4 none, Cond.methodLink RX7 66 yX7_enters, Cond.instanceMethod yX7_enters, Cond.selects RX7 yX7_enters yX7_enters, Cond.code yX7_enters cX7_enters 6 none]
def wsX7_read : List Cond := .code yX7_read cX7_read 2 (some .int) :: ((wsX7_read_r1 ++ (wsX7_read_r2 ++ wsX7_read_r3)) ++ wsX70)
def wsX7_change_r1 : List Cond := [Cond.constant RX7 96 (-1000001), Cond.methodLink RX7 105 yX7_isHouse, Cond.instanceMethod yX7_isHouse, Cond.selects RX7 yX7_isHouse yX7_isHouse, Cond.initialized RX7, Cond.code yX7_isHouse cX7_isHouse 2 (some .boolean), Cond.fieldLink RX7 7 "WrongedMetersModel" "s" "[I", Cond.methodLink RX7 39 yX7_in, Cond.static yX7_in, Cond.code yX7_in cX7_in 3 (some .boolean), Cond.methodLink RX7 102 yX7_changes, Cond.instanceMethod yX7_changes, Cond.selects RX7 yX7_changes yX7_changes, Cond.code yX7_changes cX7_changes 2 none, Cond.fieldLink RX7 31 "WrongedMetersModel" "runs" "Z", Cond.fieldLink RX7 35 "WrongedMetersModel" "pasts" "I", Cond.fieldLink RX7 13 "WrongedMetersModel" "past" "[I", Cond.methodLink RX7 83 yX7_reads, Cond.instanceMethod yX7_reads, Cond.selects RX7 yX7_reads yX7_reads, Cond.code yX7_reads cX7_reads 5 (some .int), Cond.methodLink RX7 49 yX7_used, Cond.instanceMethod yX7_used, Cond.selects RX7 yX7_used yX7_used]
def wsX7_change_r2 : List Cond := [Cond.code yX7_used cX7_used 2 (some .int), Cond.constant RX7 48 (100000), Cond.methodLink RX7 43 yX7_of, Cond.instanceMethod yX7_of, Cond.selects RX7 yX7_of yX7_of, Cond.code yX7_of cX7_of 3 (some .int), Cond.methodLink RX7 53 yX7_unitsOf, Cond.instanceMethod yX7_unitsOf, Cond.selects RX7 yX7_unitsOf yX7_unitsOf, Cond.code yX7_unitsOf cX7_unitsOf 5 (some .int), Cond.methodLink RX7 56 yX7_balanceThen, Cond.instanceMethod yX7_balanceThen, Cond.selects RX7 yX7_balanceThen yX7_balanceThen, Cond.code yX7_balanceThen cX7_balanceThen 2 (some .int), Cond.methodLink RX7 59 yX7_lay, Cond.instanceMethod yX7_lay, Cond.selects RX7 yX7_lay yX7_lay, Cond.code yX7_lay cX7_lay 4 none, Cond.methodLink RX7 63 yX7_adds, Cond.instanceMethod yX7_adds, Cond.selects RX7 yX7_adds yX7_adds, Cond.code yX7_adds cX7_adds 4 none, Cond.methodLink RX7 66 yX7_enters, Cond.instanceMethod yX7_enters]
def wsX7_change_r3 : List Cond := [Cond.selects RX7 yX7_enters yX7_enters, Cond.code yX7_enters cX7_enters 6 none]
def wsX7_change : List Cond := .code yX7_change cX7_change 3 (some .int) :: ((wsX7_change_r1 ++ (wsX7_change_r2 ++ wsX7_change_r3)) ++ wsX70)
def wsX7_pass_r1 : List Cond := [Cond.methodLink RX7 109 yX7_day, Cond.instanceMethod yX7_day, Cond.selects RX7 yX7_day yX7_day, Cond.initialized RX7, Cond.code yX7_day cX7_day 2 (some .int), Cond.fieldLink RX7 7 "WrongedMetersModel" "s" "[I", Cond.constant RX7 48 (100000), Cond.methodLink RX7 43 yX7_of, Cond.instanceMethod yX7_of, Cond.selects RX7 yX7_of yX7_of, Cond.code yX7_of cX7_of 3 (some .int), Cond.methodLink RX7 59 yX7_lay, Cond.instanceMethod yX7_lay, Cond.selects RX7 yX7_lay yX7_lay, Cond.code yX7_lay cX7_lay 4 none, Cond.methodLink RX7 86 yX7_walks, Cond.instanceMethod yX7_walks, Cond.selects RX7 yX7_walks yX7_walks, Cond.code yX7_walks cX7_walks 5 (some .int), Cond.fieldLink RX7 25 "WrongedMetersModel" "round" "[I", Cond.methodLink RX7 77 yX7_rounds, Cond.instanceMethod yX7_rounds, Cond.selects RX7 yX7_rounds yX7_rounds, Cond.code yX7_rounds cX7_rounds 6 (some .int)]
def wsX7_pass_r2 : List Cond := [Cond.methodLink RX7 70 yX7_turn, Cond.instanceMethod yX7_turn, Cond.selects RX7 yX7_turn yX7_turn, Cond.code yX7_turn cX7_turn 3 (some .int), Cond.methodLink RX7 73 yX7_rankOf, Cond.instanceMethod yX7_rankOf, Cond.selects RX7 yX7_rankOf yX7_rankOf, Cond.code yX7_rankOf cX7_rankOf 7 (some .int), Cond.methodLink RX7 80 yX7_barred, Cond.instanceMethod yX7_barred, Cond.selects RX7 yX7_barred yX7_barred, Cond.code yX7_barred cX7_barred 2 (some .int), Cond.methodLink RX7 83 yX7_reads, Cond.instanceMethod yX7_reads, Cond.selects RX7 yX7_reads yX7_reads, Cond.code yX7_reads cX7_reads 5 (some .int), Cond.methodLink RX7 49 yX7_used, Cond.instanceMethod yX7_used, Cond.selects RX7 yX7_used yX7_used, Cond.code yX7_used cX7_used 2 (some .int), Cond.methodLink RX7 53 yX7_unitsOf, Cond.instanceMethod yX7_unitsOf, Cond.selects RX7 yX7_unitsOf yX7_unitsOf, Cond.code yX7_unitsOf cX7_unitsOf 5 (some .int)]
def wsX7_pass_r3 : List Cond := [Cond.methodLink RX7 56 yX7_balanceThen, Cond.instanceMethod yX7_balanceThen, Cond.selects RX7 yX7_balanceThen yX7_balanceThen, Cond.code yX7_balanceThen cX7_balanceThen 2 (some .int), Cond.methodLink RX7 63 yX7_adds, Cond.instanceMethod yX7_adds, Cond.selects RX7 yX7_adds yX7_adds, Cond.code yX7_adds cX7_adds 4 none, Cond.methodLink RX7 66 yX7_enters, Cond.instanceMethod yX7_enters, Cond.selects RX7 yX7_enters yX7_enters, Cond.code yX7_enters cX7_enters 6 none, Cond.methodLink RX7 89 yX7_refunds, Cond.instanceMethod yX7_refunds, Cond.selects RX7 yX7_refunds yX7_refunds, Cond.code yX7_refunds cX7_refunds 2 none]
def wsX7_pass : List Cond := .code yX7_pass cX7_pass 4 (some .int) :: ((wsX7_pass_r1 ++ (wsX7_pass_r2 ++ wsX7_pass_r3)) ++ wsX70)
def wsX7_days_r1 : List Cond := [Cond.constant RX7 96 (-1000001), Cond.fieldLink RX7 7 "WrongedMetersModel" "s" "[I", Cond.constant RX7 101 (-1000003), Cond.methodLink RX7 39 yX7_in, Cond.static yX7_in, Cond.initialized RX7, Cond.code yX7_in cX7_in 3 (some .boolean), Cond.methodLink RX7 102 yX7_changes, Cond.instanceMethod yX7_changes, Cond.selects RX7 yX7_changes yX7_changes, Cond.code yX7_changes cX7_changes 2 none, Cond.fieldLink RX7 31 "WrongedMetersModel" "runs" "Z", Cond.fieldLink RX7 35 "WrongedMetersModel" "pasts" "I", Cond.fieldLink RX7 13 "WrongedMetersModel" "past" "[I", Cond.methodLink RX7 113 yX7_pass, Cond.instanceMethod yX7_pass, Cond.selects RX7 yX7_pass yX7_pass, Cond.code yX7_pass cX7_pass 4 (some .int), Cond.methodLink RX7 109 yX7_day, Cond.instanceMethod yX7_day, Cond.selects RX7 yX7_day yX7_day, Cond.code yX7_day cX7_day 2 (some .int), Cond.constant RX7 48 (100000), Cond.methodLink RX7 43 yX7_of]
def wsX7_days_r2 : List Cond := [Cond.instanceMethod yX7_of, Cond.selects RX7 yX7_of yX7_of, Cond.code yX7_of cX7_of 3 (some .int), Cond.methodLink RX7 59 yX7_lay, Cond.instanceMethod yX7_lay, Cond.selects RX7 yX7_lay yX7_lay, Cond.code yX7_lay cX7_lay 4 none, Cond.methodLink RX7 86 yX7_walks, Cond.instanceMethod yX7_walks, Cond.selects RX7 yX7_walks yX7_walks, Cond.code yX7_walks cX7_walks 5 (some .int), Cond.fieldLink RX7 25 "WrongedMetersModel" "round" "[I", Cond.methodLink RX7 77 yX7_rounds, Cond.instanceMethod yX7_rounds, Cond.selects RX7 yX7_rounds yX7_rounds, Cond.code yX7_rounds cX7_rounds 6 (some .int), Cond.methodLink RX7 70 yX7_turn, Cond.instanceMethod yX7_turn, Cond.selects RX7 yX7_turn yX7_turn, Cond.code yX7_turn cX7_turn 3 (some .int), Cond.methodLink RX7 73 yX7_rankOf, Cond.instanceMethod yX7_rankOf, Cond.selects RX7 yX7_rankOf yX7_rankOf, Cond.code yX7_rankOf cX7_rankOf 7 (some .int)]
def wsX7_days_r3 : List Cond := [Cond.methodLink RX7 80 yX7_barred, Cond.instanceMethod yX7_barred, Cond.selects RX7 yX7_barred yX7_barred, Cond.code yX7_barred cX7_barred 2 (some .int), Cond.methodLink RX7 83 yX7_reads, Cond.instanceMethod yX7_reads, Cond.selects RX7 yX7_reads yX7_reads, Cond.code yX7_reads cX7_reads 5 (some .int), Cond.methodLink RX7 49 yX7_used, Cond.instanceMethod yX7_used, Cond.selects RX7 yX7_used yX7_used, Cond.code yX7_used cX7_used 2 (some .int), Cond.methodLink RX7 53 yX7_unitsOf, Cond.instanceMethod yX7_unitsOf, Cond.selects RX7 yX7_unitsOf yX7_unitsOf, Cond.code yX7_unitsOf cX7_unitsOf 5 (some .int), Cond.methodLink RX7 56 yX7_balanceThen, Cond.instanceMethod yX7_balanceThen, Cond.selects RX7 yX7_balanceThen yX7_balanceThen, Cond.code yX7_balanceThen cX7_balanceThen 2 (some .int), Cond.methodLink RX7 63 yX7_adds, Cond.instanceMethod yX7_adds, Cond.selects RX7 yX7_adds yX7_adds, Cond.code yX7_adds cX7_adds 4 none]
def wsX7_days_r4 : List Cond := [Cond.methodLink RX7 66 yX7_enters, Cond.instanceMethod yX7_enters, Cond.selects RX7 yX7_enters yX7_enters, Cond.code yX7_enters cX7_enters 6 none, Cond.methodLink RX7 89 yX7_refunds, Cond.instanceMethod yX7_refunds, Cond.selects RX7 yX7_refunds yX7_refunds, Cond.code yX7_refunds cX7_refunds 2 none]
def wsX7_days : List Cond := .code yX7_days cX7_days 2 (some .int) :: ((wsX7_days_r1 ++ (wsX7_days_r2 ++ (wsX7_days_r3 ++ wsX7_days_r4))) ++ wsX70)
def wsX7_least : List Cond := .code yX7_least cX7_least 1 (some .int) :: ([])
def wsX7_most : List Cond := .code yX7_most cX7_most 1 (some .int) :: ([])
def wsX7_set : List Cond := .code yX7_set cX7_set 4 (some .int) :: ([.constant RX7 96 (-1000001), .fieldLink RX7 7 "WrongedMetersModel" "s" "[I", .methodLink RX7 39 yX7_in, .static yX7_in, .initialized RX7, .code yX7_in cX7_in 3 (some .boolean), .methodLink RX7 116 yX7_least, .static yX7_least, .code yX7_least cX7_least 1 (some .int), .methodLink RX7 119 yX7_most, .static yX7_most, .code yX7_most cX7_most 1 (some .int), .methodLink RX7 102 yX7_changes, .instanceMethod yX7_changes, .selects RX7 yX7_changes yX7_changes, .code yX7_changes cX7_changes 2 none, .fieldLink RX7 31 "WrongedMetersModel" "runs" "Z", .fieldLink RX7 35 "WrongedMetersModel" "pasts" "I", .fieldLink RX7 13 "WrongedMetersModel" "past" "[I"] ++ wsX70)
def wsX7_houseOf : List Cond := .code yX7_houseOf cX7_houseOf 3 (some .int) :: ([.constant RX7 96 (-1000001), .constant RX7 47 (-1000004), .methodLink RX7 105 yX7_isHouse, .instanceMethod yX7_isHouse, .selects RX7 yX7_isHouse yX7_isHouse, .initialized RX7, .code yX7_isHouse cX7_isHouse 2 (some .boolean), .fieldLink RX7 7 "WrongedMetersModel" "s" "[I", .methodLink RX7 39 yX7_in, .static yX7_in, .code yX7_in cX7_in 3 (some .boolean), .methodLink RX7 49 yX7_used, .instanceMethod yX7_used, .selects RX7 yX7_used yX7_used, .code yX7_used cX7_used 2 (some .int), .constant RX7 48 (100000), .methodLink RX7 43 yX7_of, .instanceMethod yX7_of, .selects RX7 yX7_of yX7_of, .code yX7_of cX7_of 3 (some .int)] ++ wsX70)
def wsX7_at : List Cond := .code yX7_at cX7_at 3 (some .int) :: ([.constant RX7 96 (-1000001), .methodLink RX7 92 yX7_isPlace, .static yX7_isPlace, .initialized RX7, .code yX7_isPlace cX7_isPlace 2 (some .boolean), .methodLink RX7 39 yX7_in, .static yX7_in, .code yX7_in cX7_in 3 (some .boolean), .methodLink RX7 97 yX7_atPlace, .instanceMethod yX7_atPlace, .selects RX7 yX7_atPlace yX7_atPlace, .code yX7_atPlace cX7_atPlace 4 (some .int), .fieldLink RX7 7 "WrongedMetersModel" "s" "[I", .constant RX7 47 (-1000004), .methodLink RX7 43 yX7_of, .instanceMethod yX7_of, .selects RX7 yX7_of yX7_of, .code yX7_of cX7_of 3 (some .int)] ++ wsX70)
def wsX7_next : List Cond := .code yX7_next cX7_next 3 (some .int) :: ([.constant RX7 96 (-1000001), .fieldLink RX7 25 "WrongedMetersModel" "round" "[I", .constant RX7 47 (-1000004), .methodLink RX7 39 yX7_in, .static yX7_in, .initialized RX7, .code yX7_in cX7_in 3 (some .boolean), .methodLink RX7 77 yX7_rounds, .instanceMethod yX7_rounds, .selects RX7 yX7_rounds yX7_rounds, .code yX7_rounds cX7_rounds 6 (some .int), .fieldLink RX7 7 "WrongedMetersModel" "s" "[I", .methodLink RX7 43 yX7_of, .instanceMethod yX7_of, .selects RX7 yX7_of yX7_of, .code yX7_of cX7_of 3 (some .int), .methodLink RX7 70 yX7_turn, .instanceMethod yX7_turn, .selects RX7 yX7_turn yX7_turn, .code yX7_turn cX7_turn 3 (some .int), .methodLink RX7 73 yX7_rankOf, .instanceMethod yX7_rankOf, .selects RX7 yX7_rankOf yX7_rankOf, .code yX7_rankOf cX7_rankOf 7 (some .int)] ++ wsX70)
def wsX7_ledger : List Cond := .code yX7_ledger cX7_ledger 3 (some .int) :: ([.constant RX7 96 (-1000001), .fieldLink RX7 7 "WrongedMetersModel" "s" "[I", .constant RX7 47 (-1000004), .methodLink RX7 39 yX7_in, .static yX7_in, .initialized RX7, .code yX7_in cX7_in 3 (some .boolean)] ++ wsX70)
def wsX7_why : List Cond := .code yX7_why cX7_why 2 (some .int) :: ([.constant RX7 96 (-1000001), .methodLink RX7 105 yX7_isHouse, .instanceMethod yX7_isHouse, .selects RX7 yX7_isHouse yX7_isHouse, .initialized RX7, .code yX7_isHouse cX7_isHouse 2 (some .boolean), .fieldLink RX7 7 "WrongedMetersModel" "s" "[I", .methodLink RX7 39 yX7_in, .static yX7_in, .code yX7_in cX7_in 3 (some .boolean), .methodLink RX7 80 yX7_barred, .instanceMethod yX7_barred, .selects RX7 yX7_barred yX7_barred, .code yX7_barred cX7_barred 2 (some .int), .methodLink RX7 43 yX7_of, .instanceMethod yX7_of, .selects RX7 yX7_of yX7_of, .code yX7_of cX7_of 3 (some .int)] ++ wsX70)
def wsX7_ifRead_r1 : List Cond := [Cond.constant RX7 96 (-1000001), Cond.fieldLink RX7 7 "WrongedMetersModel" "s" "[I", Cond.methodLink RX7 105 yX7_isHouse, Cond.instanceMethod yX7_isHouse, Cond.selects RX7 yX7_isHouse yX7_isHouse, Cond.initialized RX7, Cond.code yX7_isHouse cX7_isHouse 2 (some .boolean), Cond.methodLink RX7 39 yX7_in, Cond.static yX7_in, Cond.code yX7_in cX7_in 3 (some .boolean), Cond.methodLink RX7 56 yX7_balanceThen, Cond.instanceMethod yX7_balanceThen, Cond.selects RX7 yX7_balanceThen yX7_balanceThen, Cond.code yX7_balanceThen cX7_balanceThen 2 (some .int), Cond.methodLink RX7 43 yX7_of, Cond.instanceMethod yX7_of, Cond.selects RX7 yX7_of yX7_of, Cond.code yX7_of cX7_of 3 (some .int), Cond.methodLink RX7 53 yX7_unitsOf, Cond.instanceMethod yX7_unitsOf, Cond.selects RX7 yX7_unitsOf yX7_unitsOf, Cond.code yX7_unitsOf cX7_unitsOf 5 (some .int), Cond.methodLink RX7 49 yX7_used, Cond.instanceMethod yX7_used]
def wsX7_ifRead_r2 : List Cond := [Cond.selects RX7 yX7_used yX7_used, Cond.code yX7_used cX7_used 2 (some .int), Cond.constant RX7 48 (100000)]
def wsX7_ifRead : List Cond := .code yX7_ifRead cX7_ifRead 4 (some .int) :: ((wsX7_ifRead_r1 ++ wsX7_ifRead_r2) ++ wsX70)
def wsX7_wronged : List Cond := .code yX7_wronged cX7_wronged 6 (some .int) :: ([.constant RX7 96 (-1000001), .fieldLink RX7 7 "WrongedMetersModel" "s" "[I", .constant RX7 47 (-1000004), .methodLink RX7 43 yX7_of, .instanceMethod yX7_of, .selects RX7 yX7_of yX7_of, .initialized RX7, .code yX7_of cX7_of 3 (some .int)] ++ wsX70)
def wsX7_refundIn_r1 : List Cond := [Cond.constant RX7 96 (-1000001), Cond.fieldLink RX7 7 "WrongedMetersModel" "s" "[I", Cond.fieldLink RX7 19 "WrongedMetersModel" "spare" "[I", Cond.constant RX7 47 (-1000004), Cond.methodLink RX7 105 yX7_isHouse, Cond.instanceMethod yX7_isHouse, Cond.selects RX7 yX7_isHouse yX7_isHouse, Cond.initialized RX7, Cond.code yX7_isHouse cX7_isHouse 2 (some .boolean), Cond.methodLink RX7 39 yX7_in, Cond.static yX7_in, Cond.code yX7_in cX7_in 3 (some .boolean), Cond.methodLink RX7 122 yX7_copies, Cond.static yX7_copies, Cond.code yX7_copies cX7_copies 3 none, Cond.methodLink RX7 43 yX7_of, Cond.instanceMethod yX7_of, Cond.selects RX7 yX7_of yX7_of, Cond.code yX7_of cX7_of 3 (some .int), Cond.methodLink RX7 109 yX7_day, Cond.instanceMethod yX7_day, Cond.selects RX7 yX7_day yX7_day, Cond.code yX7_day cX7_day 2 (some .int), Cond.constant RX7 48 (100000)]
def wsX7_refundIn_r2 : List Cond := [Cond.methodLink RX7 59 yX7_lay, Cond.instanceMethod yX7_lay, Cond.selects RX7 yX7_lay yX7_lay, Cond.code yX7_lay cX7_lay 4 none, Cond.methodLink RX7 86 yX7_walks, Cond.instanceMethod yX7_walks, Cond.selects RX7 yX7_walks yX7_walks, Cond.code yX7_walks cX7_walks 5 (some .int), Cond.fieldLink RX7 25 "WrongedMetersModel" "round" "[I", Cond.methodLink RX7 77 yX7_rounds, Cond.instanceMethod yX7_rounds, Cond.selects RX7 yX7_rounds yX7_rounds, Cond.code yX7_rounds cX7_rounds 6 (some .int), Cond.methodLink RX7 70 yX7_turn, Cond.instanceMethod yX7_turn, Cond.selects RX7 yX7_turn yX7_turn, Cond.code yX7_turn cX7_turn 3 (some .int), Cond.methodLink RX7 73 yX7_rankOf, Cond.instanceMethod yX7_rankOf, Cond.selects RX7 yX7_rankOf yX7_rankOf, Cond.code yX7_rankOf cX7_rankOf 7 (some .int), Cond.methodLink RX7 80 yX7_barred, Cond.instanceMethod yX7_barred, Cond.selects RX7 yX7_barred yX7_barred]
def wsX7_refundIn_r3 : List Cond := [Cond.code yX7_barred cX7_barred 2 (some .int), Cond.methodLink RX7 83 yX7_reads, Cond.instanceMethod yX7_reads, Cond.selects RX7 yX7_reads yX7_reads, Cond.code yX7_reads cX7_reads 5 (some .int), Cond.methodLink RX7 49 yX7_used, Cond.instanceMethod yX7_used, Cond.selects RX7 yX7_used yX7_used, Cond.code yX7_used cX7_used 2 (some .int), Cond.methodLink RX7 53 yX7_unitsOf, Cond.instanceMethod yX7_unitsOf, Cond.selects RX7 yX7_unitsOf yX7_unitsOf, Cond.code yX7_unitsOf cX7_unitsOf 5 (some .int), Cond.methodLink RX7 56 yX7_balanceThen, Cond.instanceMethod yX7_balanceThen, Cond.selects RX7 yX7_balanceThen yX7_balanceThen, Cond.code yX7_balanceThen cX7_balanceThen 2 (some .int), Cond.methodLink RX7 63 yX7_adds, Cond.instanceMethod yX7_adds, Cond.selects RX7 yX7_adds yX7_adds, Cond.code yX7_adds cX7_adds 4 none, Cond.methodLink RX7 66 yX7_enters, Cond.instanceMethod yX7_enters, Cond.selects RX7 yX7_enters yX7_enters]
def wsX7_refundIn_r4 : List Cond := [Cond.code yX7_enters cX7_enters 6 none, Cond.methodLink RX7 89 yX7_refunds, Cond.instanceMethod yX7_refunds, Cond.selects RX7 yX7_refunds yX7_refunds, Cond.code yX7_refunds cX7_refunds 2 none]
def wsX7_refundIn : List Cond := .code yX7_refundIn cX7_refundIn 4 (some .int) :: ((wsX7_refundIn_r1 ++ (wsX7_refundIn_r2 ++ (wsX7_refundIn_r3 ++ wsX7_refundIn_r4))) ++ wsX70)
def wsX7_ifDays_r1 : List Cond := [Cond.constant RX7 96 (-1000001), Cond.fieldLink RX7 7 "WrongedMetersModel" "s" "[I", Cond.fieldLink RX7 19 "WrongedMetersModel" "spare" "[I", Cond.methodLink RX7 39 yX7_in, Cond.static yX7_in, Cond.initialized RX7, Cond.code yX7_in cX7_in 3 (some .boolean), Cond.methodLink RX7 122 yX7_copies, Cond.static yX7_copies, Cond.code yX7_copies cX7_copies 3 none, Cond.methodLink RX7 113 yX7_pass, Cond.instanceMethod yX7_pass, Cond.selects RX7 yX7_pass yX7_pass, Cond.code yX7_pass cX7_pass 4 (some .int), Cond.methodLink RX7 109 yX7_day, Cond.instanceMethod yX7_day, Cond.selects RX7 yX7_day yX7_day, Cond.code yX7_day cX7_day 2 (some .int), Cond.constant RX7 48 (100000), Cond.methodLink RX7 43 yX7_of, Cond.instanceMethod yX7_of, Cond.selects RX7 yX7_of yX7_of, Cond.code yX7_of cX7_of 3 (some .int), Cond.methodLink RX7 59 yX7_lay]
def wsX7_ifDays_r2 : List Cond := [Cond.instanceMethod yX7_lay, Cond.selects RX7 yX7_lay yX7_lay, Cond.code yX7_lay cX7_lay 4 none, Cond.methodLink RX7 86 yX7_walks, Cond.instanceMethod yX7_walks, Cond.selects RX7 yX7_walks yX7_walks, Cond.code yX7_walks cX7_walks 5 (some .int), Cond.fieldLink RX7 25 "WrongedMetersModel" "round" "[I", Cond.methodLink RX7 77 yX7_rounds, Cond.instanceMethod yX7_rounds, Cond.selects RX7 yX7_rounds yX7_rounds, Cond.code yX7_rounds cX7_rounds 6 (some .int), Cond.methodLink RX7 70 yX7_turn, Cond.instanceMethod yX7_turn, Cond.selects RX7 yX7_turn yX7_turn, Cond.code yX7_turn cX7_turn 3 (some .int), Cond.methodLink RX7 73 yX7_rankOf, Cond.instanceMethod yX7_rankOf, Cond.selects RX7 yX7_rankOf yX7_rankOf, Cond.code yX7_rankOf cX7_rankOf 7 (some .int), Cond.methodLink RX7 80 yX7_barred, Cond.instanceMethod yX7_barred, Cond.selects RX7 yX7_barred yX7_barred, Cond.code yX7_barred cX7_barred 2 (some .int)]
def wsX7_ifDays_r3 : List Cond := [Cond.methodLink RX7 83 yX7_reads, Cond.instanceMethod yX7_reads, Cond.selects RX7 yX7_reads yX7_reads, Cond.code yX7_reads cX7_reads 5 (some .int), Cond.methodLink RX7 49 yX7_used, Cond.instanceMethod yX7_used, Cond.selects RX7 yX7_used yX7_used, Cond.code yX7_used cX7_used 2 (some .int), Cond.methodLink RX7 53 yX7_unitsOf, Cond.instanceMethod yX7_unitsOf, Cond.selects RX7 yX7_unitsOf yX7_unitsOf, Cond.code yX7_unitsOf cX7_unitsOf 5 (some .int), Cond.methodLink RX7 56 yX7_balanceThen, Cond.instanceMethod yX7_balanceThen, Cond.selects RX7 yX7_balanceThen yX7_balanceThen, Cond.code yX7_balanceThen cX7_balanceThen 2 (some .int), Cond.methodLink RX7 63 yX7_adds, Cond.instanceMethod yX7_adds, Cond.selects RX7 yX7_adds yX7_adds, Cond.code yX7_adds cX7_adds 4 none, Cond.methodLink RX7 66 yX7_enters, Cond.instanceMethod yX7_enters, Cond.selects RX7 yX7_enters yX7_enters, Cond.code yX7_enters cX7_enters 6 none]
def wsX7_ifDays_r4 : List Cond := [Cond.methodLink RX7 89 yX7_refunds, Cond.instanceMethod yX7_refunds, Cond.selects RX7 yX7_refunds yX7_refunds, Cond.code yX7_refunds cX7_refunds 2 none]
def wsX7_ifDays : List Cond := .code yX7_ifDays cX7_ifDays 6 (some .int) :: ((wsX7_ifDays_r1 ++ (wsX7_ifDays_r2 ++ (wsX7_ifDays_r3 ++ wsX7_ifDays_r4))) ++ wsX70)
def wsJxf58ca_isNaN_12338 : List Cond := .code yJxf58ca_isNaN_12338 cJxf58ca_isNaN_12338 1 (some .boolean) :: ([])
def wsJxf58ca_floatToIntBits_5c35a : List Cond := .code yJxf58ca_floatToIntBits_5c35a cJxf58ca_floatToIntBits_5c35a 1 (some .int) :: ([.methodLink RJxf58ca 74 ⟨"java/lang/Float", "floatToRawIntBits", "(F)I"⟩, .native ⟨"java/lang/Float", "floatToRawIntBits", "(F)I"⟩, .static ⟨"java/lang/Float", "floatToRawIntBits", "(F)I"⟩, .initialized "java/lang/Float", .constant RJxf58ca 77 (2143289344), .methodLink RJxf58ca 59 yJxf58ca_isNaN_12338, .static yJxf58ca_isNaN_12338, .initialized RJxf58ca, .code yJxf58ca_isNaN_12338 cJxf58ca_isNaN_12338 1 (some .boolean)])
def wsX7_mean : List Cond := .code yX7_mean cX7_mean 4 (some .int) :: ([.fieldLink RX7 7 "WrongedMetersModel" "s" "[I", .constant RX7 47 (-1000004), .methodLink RX7 43 yX7_of, .instanceMethod yX7_of, .selects RX7 yX7_of yX7_of, .initialized RX7, .code yX7_of cX7_of 3 (some .int), .methodLink RX7 126 yJxf58ca_floatToIntBits_5c35a, .static yJxf58ca_floatToIntBits_5c35a, .initialized RJxf58ca, .code yJxf58ca_floatToIntBits_5c35a cJxf58ca_floatToIntBits_5c35a 1 (some .int), .methodLink RJxf58ca 74 ⟨"java/lang/Float", "floatToRawIntBits", "(F)I"⟩, .native ⟨"java/lang/Float", "floatToRawIntBits", "(F)I"⟩, .static ⟨"java/lang/Float", "floatToRawIntBits", "(F)I"⟩, .initialized "java/lang/Float", .constant RJxf58ca 77 (2143289344), .methodLink RJxf58ca 59 yJxf58ca_isNaN_12338, .static yJxf58ca_isNaN_12338, .code yJxf58ca_isNaN_12338 cJxf58ca_isNaN_12338 1 (some .boolean)] ++ wsX70)
def wsX7_locked : List Cond := .code yX7_locked cX7_locked 3 (some .int) :: ([.fieldLink RX7 7 "WrongedMetersModel" "s" "[I", .methodLink RX7 43 yX7_of, .instanceMethod yX7_of, .selects RX7 yX7_of yX7_of, .initialized RX7, .code yX7_of cX7_of 3 (some .int)] ++ wsX70)
def wsX7_signed : List Cond := .code yX7_signed cX7_signed 4 (some .int) :: ([.fieldLink RX7 7 "WrongedMetersModel" "s" "[I", .methodLink RX7 43 yX7_of, .instanceMethod yX7_of, .selects RX7 yX7_of yX7_of, .initialized RX7, .code yX7_of cX7_of 3 (some .int)] ++ wsX70)
def wsX7_balances : List Cond := .code yX7_balances cX7_balances 3 (some .int) :: ([.fieldLink RX7 7 "WrongedMetersModel" "s" "[I", .methodLink RX7 43 yX7_of, .instanceMethod yX7_of, .selects RX7 yX7_of yX7_of, .initialized RX7, .code yX7_of cX7_of 3 (some .int)] ++ wsX70)
def wsX7_count : List Cond := .code yX7_count cX7_count 2 (some .int) :: ([.fieldLink RX7 7 "WrongedMetersModel" "s" "[I", .fieldLink RX7 35 "WrongedMetersModel" "pasts" "I", .fieldLink RX7 141 "WrongedMetersModel" "typed" "I", .constant RX7 96 (-1000001), .methodLink RX7 132 yX7_locked, .instanceMethod yX7_locked, .selects RX7 yX7_locked yX7_locked, .initialized RX7, .code yX7_locked cX7_locked 3 (some .int), .methodLink RX7 43 yX7_of, .instanceMethod yX7_of, .selects RX7 yX7_of yX7_of, .code yX7_of cX7_of 3 (some .int), .methodLink RX7 135 yX7_signed, .instanceMethod yX7_signed, .selects RX7 yX7_signed yX7_signed, .code yX7_signed cX7_signed 4 (some .int), .methodLink RX7 138 yX7_balances, .instanceMethod yX7_balances, .selects RX7 yX7_balances yX7_balances, .code yX7_balances cX7_balances 3 (some .int)] ++ wsX70)
def wsX7_undo : List Cond := .code yX7_undo cX7_undo 2 (some .int) :: ([.fieldLink RX7 35 "WrongedMetersModel" "pasts" "I", .constant RX7 100 (-1000002), .fieldLink RX7 7 "WrongedMetersModel" "s" "[I", .fieldLink RX7 13 "WrongedMetersModel" "past" "[I"] ++ wsX70)
def wsX7_type : List Cond := .code yX7_type cX7_type 2 (some .int) :: ([.constant RX7 96 (-1000001), .fieldLink RX7 141 "WrongedMetersModel" "typed" "I", .constant RX7 101 (-1000003), .fieldLink RX7 22 "WrongedMetersModel" "text" "[I", .methodLink RX7 39 yX7_in, .static yX7_in, .initialized RX7, .code yX7_in cX7_in 3 (some .boolean)] ++ wsX70)
def wsX7_clearText : List Cond := .code yX7_clearText cX7_clearText 2 (some .int) :: ([.fieldLink RX7 141 "WrongedMetersModel" "typed" "I"] ++ wsX70)
def wsX7_isAt : List Cond := .code yX7_isAt cX7_isAt 3 (some .boolean) :: ([.fieldLink RX7 144 "WrongedMetersModel" "spot" "I", .fieldLink RX7 141 "WrongedMetersModel" "typed" "I", .fieldLink RX7 22 "WrongedMetersModel" "text" "[I", .methodLink RX7 39 yX7_in, .static yX7_in, .initialized RX7, .code yX7_in cX7_in 3 (some .boolean)] ++ wsX70)
def wsX7_sign : List Cond := .code yX7_sign cX7_sign 3 (some .boolean) :: ([.fieldLink RX7 144 "WrongedMetersModel" "spot" "I", .methodLink RX7 147 yX7_isAt, .instanceMethod yX7_isAt, .selects RX7 yX7_isAt yX7_isAt, .initialized RX7, .code yX7_isAt cX7_isAt 3 (some .boolean), .fieldLink RX7 141 "WrongedMetersModel" "typed" "I", .fieldLink RX7 22 "WrongedMetersModel" "text" "[I", .methodLink RX7 39 yX7_in, .static yX7_in, .code yX7_in cX7_in 3 (some .boolean)] ++ wsX70)
def wsX7_numbered : List Cond := .code yX7_numbered cX7_numbered 3 (some .boolean) :: ([.fieldLink RX7 144 "WrongedMetersModel" "spot" "I", .fieldLink RX7 28 "WrongedMetersModel" "numbers" "[I", .fieldLink RX7 22 "WrongedMetersModel" "text" "[I", .methodLink RX7 147 yX7_isAt, .instanceMethod yX7_isAt, .selects RX7 yX7_isAt yX7_isAt, .initialized RX7, .code yX7_isAt cX7_isAt 3 (some .boolean), .fieldLink RX7 141 "WrongedMetersModel" "typed" "I", .methodLink RX7 39 yX7_in, .static yX7_in, .code yX7_in cX7_in 3 (some .boolean)] ++ wsX70)
def wsX7_numbersOf : List Cond := .code yX7_numbersOf cX7_numbersOf 1 (some .int) :: ([])
def wsX7_parses : List Cond := .code yX7_parses cX7_parses 2 (some .boolean) :: ([.fieldLink RX7 22 "WrongedMetersModel" "text" "[I", .fieldLink RX7 144 "WrongedMetersModel" "spot" "I", .fieldLink RX7 150 "WrongedMetersModel" "order" "I", .methodLink RX7 147 yX7_isAt, .instanceMethod yX7_isAt, .selects RX7 yX7_isAt yX7_isAt, .initialized RX7, .code yX7_isAt cX7_isAt 3 (some .boolean), .fieldLink RX7 141 "WrongedMetersModel" "typed" "I", .methodLink RX7 39 yX7_in, .static yX7_in, .code yX7_in cX7_in 3 (some .boolean), .methodLink RX7 153 yX7_numbersOf, .static yX7_numbersOf, .code yX7_numbersOf cX7_numbersOf 1 (some .int), .methodLink RX7 156 yX7_numbered, .instanceMethod yX7_numbered, .selects RX7 yX7_numbered yX7_numbered, .code yX7_numbered cX7_numbered 3 (some .boolean), .fieldLink RX7 28 "WrongedMetersModel" "numbers" "[I", .methodLink RX7 159 yX7_sign, .instanceMethod yX7_sign, .selects RX7 yX7_sign yX7_sign, .code yX7_sign cX7_sign 3 (some .boolean)] ++ wsX70)
def wsX7_does_r1 : List Cond := [Cond.fieldLink RX7 150 "WrongedMetersModel" "order" "I", Cond.fieldLink RX7 28 "WrongedMetersModel" "numbers" "[I", Cond.methodLink RX7 162 yX7_house, Cond.instanceMethod yX7_house, Cond.selects RX7 yX7_house yX7_house, Cond.initialized RX7, Cond.code yX7_house cX7_house 3 (some .int), Cond.constant RX7 96 (-1000001), Cond.constant RX7 100 (-1000002), Cond.fieldLink RX7 7 "WrongedMetersModel" "s" "[I", Cond.constant RX7 101 (-1000003), Cond.methodLink RX7 92 yX7_isPlace, Cond.static yX7_isPlace, Cond.code yX7_isPlace cX7_isPlace 2 (some .boolean), Cond.methodLink RX7 39 yX7_in, Cond.static yX7_in, Cond.code yX7_in cX7_in 3 (some .boolean), Cond.methodLink RX7 97 yX7_atPlace, Cond.instanceMethod yX7_atPlace, Cond.selects RX7 yX7_atPlace yX7_atPlace, Cond.code yX7_atPlace cX7_atPlace 4 (some .int), Cond.constant RX7 47 (-1000004), Cond.methodLink RX7 43 yX7_of, Cond.instanceMethod yX7_of]
def wsX7_does_r2 : List Cond := [Cond.selects RX7 yX7_of yX7_of, Cond.code yX7_of cX7_of 3 (some .int), Cond.methodLink RX7 102 yX7_changes, Cond.instanceMethod yX7_changes, Cond.selects RX7 yX7_changes yX7_changes, Cond.code yX7_changes cX7_changes 2 none, Cond.fieldLink RX7 31 "WrongedMetersModel" "runs" "Z", Cond.fieldLink RX7 35 "WrongedMetersModel" "pasts" "I", Cond.fieldLink RX7 13 "WrongedMetersModel" "past" "[I", Cond.methodLink RX7 59 yX7_lay, Cond.instanceMethod yX7_lay, Cond.selects RX7 yX7_lay yX7_lay, Cond.code yX7_lay cX7_lay 4 none, Cond.methodLink RX7 165 yX7_flow, Cond.instanceMethod yX7_flow, Cond.selects RX7 yX7_flow yX7_flow, Cond.code yX7_flow cX7_flow 4 (some .int), Cond.methodLink RX7 105 yX7_isHouse, Cond.instanceMethod yX7_isHouse, Cond.selects RX7 yX7_isHouse yX7_isHouse, Cond.code yX7_isHouse cX7_isHouse 2 (some .boolean), Cond.methodLink RX7 168 yX7_lock, Cond.instanceMethod yX7_lock, Cond.selects RX7 yX7_lock yX7_lock]
def wsX7_does_r3 : List Cond := [Cond.code yX7_lock cX7_lock 4 (some .int), Cond.methodLink RX7 172 yX7_read, Cond.instanceMethod yX7_read, Cond.selects RX7 yX7_read yX7_read, Cond.code yX7_read cX7_read 2 (some .int), Cond.methodLink RX7 80 yX7_barred, Cond.instanceMethod yX7_barred, Cond.selects RX7 yX7_barred yX7_barred, Cond.code yX7_barred cX7_barred 2 (some .int), Cond.methodLink RX7 83 yX7_reads, Cond.instanceMethod yX7_reads, Cond.selects RX7 yX7_reads yX7_reads, Cond.code yX7_reads cX7_reads 5 (some .int), Cond.methodLink RX7 49 yX7_used, Cond.instanceMethod yX7_used, Cond.selects RX7 yX7_used yX7_used, Cond.code yX7_used cX7_used 2 (some .int), Cond.constant RX7 48 (100000), Cond.methodLink RX7 53 yX7_unitsOf, Cond.instanceMethod yX7_unitsOf, Cond.selects RX7 yX7_unitsOf yX7_unitsOf, Cond.code yX7_unitsOf cX7_unitsOf 5 (some .int), Cond.methodLink RX7 56 yX7_balanceThen, Cond.instanceMethod yX7_balanceThen]
def wsX7_does_r4 : List Cond := [Cond.selects RX7 yX7_balanceThen yX7_balanceThen, Cond.code yX7_balanceThen cX7_balanceThen 2 (some .int), Cond.methodLink RX7 63 yX7_adds, Cond.instanceMethod yX7_adds, Cond.selects RX7 yX7_adds yX7_adds, Cond.code yX7_adds cX7_adds 4 none, Cond.methodLink RX7 66 yX7_enters, Cond.instanceMethod yX7_enters, Cond.selects RX7 yX7_enters yX7_enters, Cond.code yX7_enters cX7_enters 6 none, Cond.methodLink RX7 175 yX7_change, Cond.instanceMethod yX7_change, Cond.selects RX7 yX7_change yX7_change, Cond.code yX7_change cX7_change 3 (some .int), Cond.methodLink RX7 178 yX7_days, Cond.instanceMethod yX7_days, Cond.selects RX7 yX7_days yX7_days, Cond.code yX7_days cX7_days 2 (some .int), Cond.methodLink RX7 113 yX7_pass, Cond.instanceMethod yX7_pass, Cond.selects RX7 yX7_pass yX7_pass, Cond.code yX7_pass cX7_pass 4 (some .int), Cond.methodLink RX7 109 yX7_day, Cond.instanceMethod yX7_day]
def wsX7_does_r5 : List Cond := [Cond.selects RX7 yX7_day yX7_day, Cond.code yX7_day cX7_day 2 (some .int), Cond.methodLink RX7 86 yX7_walks, Cond.instanceMethod yX7_walks, Cond.selects RX7 yX7_walks yX7_walks, Cond.code yX7_walks cX7_walks 5 (some .int), Cond.fieldLink RX7 25 "WrongedMetersModel" "round" "[I", Cond.methodLink RX7 77 yX7_rounds, Cond.instanceMethod yX7_rounds, Cond.selects RX7 yX7_rounds yX7_rounds, Cond.code yX7_rounds cX7_rounds 6 (some .int), Cond.methodLink RX7 70 yX7_turn, Cond.instanceMethod yX7_turn, Cond.selects RX7 yX7_turn yX7_turn, Cond.code yX7_turn cX7_turn 3 (some .int), Cond.methodLink RX7 73 yX7_rankOf, Cond.instanceMethod yX7_rankOf, Cond.selects RX7 yX7_rankOf yX7_rankOf, Cond.code yX7_rankOf cX7_rankOf 7 (some .int), Cond.methodLink RX7 89 yX7_refunds, Cond.instanceMethod yX7_refunds, Cond.selects RX7 yX7_refunds yX7_refunds, Cond.code yX7_refunds cX7_refunds 2 none]
def wsX7_does : List Cond := .code yX7_does cX7_does 1 (some .int) :: ((wsX7_does_r1 ++ (wsX7_does_r2 ++ (wsX7_does_r3 ++ (wsX7_does_r4 ++ wsX7_does_r5)))) ++ wsX70)
def wsX7_plays_r1 : List Cond := [Cond.fieldLink RX7 31 "WrongedMetersModel" "runs" "Z", Cond.fieldLink RX7 144 "WrongedMetersModel" "spot" "I", Cond.fieldLink RX7 181 "WrongedMetersModel" "from" "I", Cond.fieldLink RX7 184 "WrongedMetersModel" "orders" "I", Cond.fieldLink RX7 141 "WrongedMetersModel" "typed" "I", Cond.fieldLink RX7 194 "WrongedMetersModel" "reason" "I", Cond.fieldLink RX7 197 "WrongedMetersModel" "cause" "I", Cond.methodLink RX7 187 yX7_parses, Cond.instanceMethod yX7_parses, Cond.selects RX7 yX7_parses yX7_parses, Cond.initialized RX7, Cond.code yX7_parses cX7_parses 2 (some .boolean), Cond.fieldLink RX7 22 "WrongedMetersModel" "text" "[I", Cond.fieldLink RX7 150 "WrongedMetersModel" "order" "I", Cond.methodLink RX7 147 yX7_isAt, Cond.instanceMethod yX7_isAt, Cond.selects RX7 yX7_isAt yX7_isAt, Cond.code yX7_isAt cX7_isAt 3 (some .boolean), Cond.methodLink RX7 39 yX7_in, Cond.static yX7_in, Cond.code yX7_in cX7_in 3 (some .boolean), Cond.methodLink RX7 153 yX7_numbersOf, Cond.static yX7_numbersOf, Cond.code yX7_numbersOf cX7_numbersOf 1 (some .int)]
def wsX7_plays_r2 : List Cond := [Cond.methodLink RX7 156 yX7_numbered, Cond.instanceMethod yX7_numbered, Cond.selects RX7 yX7_numbered yX7_numbered, Cond.code yX7_numbered cX7_numbered 3 (some .boolean), Cond.fieldLink RX7 28 "WrongedMetersModel" "numbers" "[I", Cond.methodLink RX7 159 yX7_sign, Cond.instanceMethod yX7_sign, Cond.selects RX7 yX7_sign yX7_sign, Cond.code yX7_sign cX7_sign 3 (some .boolean), Cond.methodLink RX7 191 yX7_does, Cond.instanceMethod yX7_does, Cond.selects RX7 yX7_does yX7_does, Cond.code yX7_does cX7_does 1 (some .int), Cond.methodLink RX7 162 yX7_house, Cond.instanceMethod yX7_house, Cond.selects RX7 yX7_house yX7_house, Cond.code yX7_house cX7_house 3 (some .int), Cond.constant RX7 96 (-1000001), Cond.constant RX7 100 (-1000002), Cond.fieldLink RX7 7 "WrongedMetersModel" "s" "[I", Cond.constant RX7 101 (-1000003), Cond.methodLink RX7 92 yX7_isPlace, Cond.static yX7_isPlace, Cond.code yX7_isPlace cX7_isPlace 2 (some .boolean)]
def wsX7_plays_r3 : List Cond := [Cond.methodLink RX7 97 yX7_atPlace, Cond.instanceMethod yX7_atPlace, Cond.selects RX7 yX7_atPlace yX7_atPlace, Cond.code yX7_atPlace cX7_atPlace 4 (some .int), Cond.constant RX7 47 (-1000004), Cond.methodLink RX7 43 yX7_of, Cond.instanceMethod yX7_of, Cond.selects RX7 yX7_of yX7_of, Cond.code yX7_of cX7_of 3 (some .int), Cond.methodLink RX7 102 yX7_changes, Cond.instanceMethod yX7_changes, Cond.selects RX7 yX7_changes yX7_changes, Cond.code yX7_changes cX7_changes 2 none, Cond.fieldLink RX7 35 "WrongedMetersModel" "pasts" "I", Cond.fieldLink RX7 13 "WrongedMetersModel" "past" "[I", Cond.methodLink RX7 59 yX7_lay, Cond.instanceMethod yX7_lay, Cond.selects RX7 yX7_lay yX7_lay, Cond.code yX7_lay cX7_lay 4 none, Cond.methodLink RX7 165 yX7_flow, Cond.instanceMethod yX7_flow, Cond.selects RX7 yX7_flow yX7_flow, Cond.code yX7_flow cX7_flow 4 (some .int), Cond.methodLink RX7 105 yX7_isHouse]
def wsX7_plays_r4 : List Cond := [Cond.instanceMethod yX7_isHouse, Cond.selects RX7 yX7_isHouse yX7_isHouse, Cond.code yX7_isHouse cX7_isHouse 2 (some .boolean), Cond.methodLink RX7 168 yX7_lock, Cond.instanceMethod yX7_lock, Cond.selects RX7 yX7_lock yX7_lock, Cond.code yX7_lock cX7_lock 4 (some .int), Cond.methodLink RX7 172 yX7_read, Cond.instanceMethod yX7_read, Cond.selects RX7 yX7_read yX7_read, Cond.code yX7_read cX7_read 2 (some .int), Cond.methodLink RX7 80 yX7_barred, Cond.instanceMethod yX7_barred, Cond.selects RX7 yX7_barred yX7_barred, Cond.code yX7_barred cX7_barred 2 (some .int), Cond.methodLink RX7 83 yX7_reads, Cond.instanceMethod yX7_reads, Cond.selects RX7 yX7_reads yX7_reads, Cond.code yX7_reads cX7_reads 5 (some .int), Cond.methodLink RX7 49 yX7_used, Cond.instanceMethod yX7_used, Cond.selects RX7 yX7_used yX7_used, Cond.code yX7_used cX7_used 2 (some .int), Cond.constant RX7 48 (100000)]
def wsX7_plays_r5 : List Cond := [Cond.methodLink RX7 53 yX7_unitsOf, Cond.instanceMethod yX7_unitsOf, Cond.selects RX7 yX7_unitsOf yX7_unitsOf, Cond.code yX7_unitsOf cX7_unitsOf 5 (some .int), Cond.methodLink RX7 56 yX7_balanceThen, Cond.instanceMethod yX7_balanceThen, Cond.selects RX7 yX7_balanceThen yX7_balanceThen, Cond.code yX7_balanceThen cX7_balanceThen 2 (some .int), Cond.methodLink RX7 63 yX7_adds, Cond.instanceMethod yX7_adds, Cond.selects RX7 yX7_adds yX7_adds, Cond.code yX7_adds cX7_adds 4 none, Cond.methodLink RX7 66 yX7_enters, Cond.instanceMethod yX7_enters, Cond.selects RX7 yX7_enters yX7_enters, Cond.code yX7_enters cX7_enters 6 none, Cond.methodLink RX7 175 yX7_change, Cond.instanceMethod yX7_change, Cond.selects RX7 yX7_change yX7_change, Cond.code yX7_change cX7_change 3 (some .int), Cond.methodLink RX7 178 yX7_days, Cond.instanceMethod yX7_days, Cond.selects RX7 yX7_days yX7_days, Cond.code yX7_days cX7_days 2 (some .int)]
def wsX7_plays_r6 : List Cond := [Cond.methodLink RX7 113 yX7_pass, Cond.instanceMethod yX7_pass, Cond.selects RX7 yX7_pass yX7_pass, Cond.code yX7_pass cX7_pass 4 (some .int), Cond.methodLink RX7 109 yX7_day, Cond.instanceMethod yX7_day, Cond.selects RX7 yX7_day yX7_day, Cond.code yX7_day cX7_day 2 (some .int), Cond.methodLink RX7 86 yX7_walks, Cond.instanceMethod yX7_walks, Cond.selects RX7 yX7_walks yX7_walks, Cond.code yX7_walks cX7_walks 5 (some .int), Cond.fieldLink RX7 25 "WrongedMetersModel" "round" "[I", Cond.methodLink RX7 77 yX7_rounds, Cond.instanceMethod yX7_rounds, Cond.selects RX7 yX7_rounds yX7_rounds, Cond.code yX7_rounds cX7_rounds 6 (some .int), Cond.methodLink RX7 70 yX7_turn, Cond.instanceMethod yX7_turn, Cond.selects RX7 yX7_turn yX7_turn, Cond.code yX7_turn cX7_turn 3 (some .int), Cond.methodLink RX7 73 yX7_rankOf, Cond.instanceMethod yX7_rankOf, Cond.selects RX7 yX7_rankOf yX7_rankOf]
def wsX7_plays_r7 : List Cond := [Cond.code yX7_rankOf cX7_rankOf 7 (some .int), Cond.methodLink RX7 89 yX7_refunds, Cond.instanceMethod yX7_refunds, Cond.selects RX7 yX7_refunds yX7_refunds, Cond.code yX7_refunds cX7_refunds 2 none]
def wsX7_plays : List Cond := .code yX7_plays cX7_plays 4 (some .boolean) :: ((wsX7_plays_r1 ++ (wsX7_plays_r2 ++ (wsX7_plays_r3 ++ (wsX7_plays_r4 ++ (wsX7_plays_r5 ++ (wsX7_plays_r6 ++ wsX7_plays_r7)))))) ++ wsX70)
def wsX7_fault_r1 : List Cond := [Cond.constant RX7 96 (-1000001), Cond.fieldLink RX7 7 "WrongedMetersModel" "s" "[I", Cond.fieldLink RX7 16 "WrongedMetersModel" "held" "[I", Cond.constant RX7 47 (-1000004), Cond.fieldLink RX7 181 "WrongedMetersModel" "from" "I", Cond.fieldLink RX7 194 "WrongedMetersModel" "reason" "I", Cond.fieldLink RX7 197 "WrongedMetersModel" "cause" "I", Cond.methodLink RX7 39 yX7_in, Cond.static yX7_in, Cond.initialized RX7, Cond.code yX7_in cX7_in 3 (some .boolean), Cond.methodLink RX7 122 yX7_copies, Cond.static yX7_copies, Cond.code yX7_copies cX7_copies 3 none, Cond.methodLink RX7 200 yX7_plays, Cond.instanceMethod yX7_plays, Cond.selects RX7 yX7_plays yX7_plays, Cond.code yX7_plays cX7_plays 4 (some .boolean), Cond.fieldLink RX7 31 "WrongedMetersModel" "runs" "Z", Cond.fieldLink RX7 144 "WrongedMetersModel" "spot" "I", Cond.fieldLink RX7 184 "WrongedMetersModel" "orders" "I", Cond.fieldLink RX7 141 "WrongedMetersModel" "typed" "I", Cond.methodLink RX7 187 yX7_parses, Cond.instanceMethod yX7_parses]
def wsX7_fault_r2 : List Cond := [Cond.selects RX7 yX7_parses yX7_parses, Cond.code yX7_parses cX7_parses 2 (some .boolean), Cond.fieldLink RX7 22 "WrongedMetersModel" "text" "[I", Cond.fieldLink RX7 150 "WrongedMetersModel" "order" "I", Cond.methodLink RX7 147 yX7_isAt, Cond.instanceMethod yX7_isAt, Cond.selects RX7 yX7_isAt yX7_isAt, Cond.code yX7_isAt cX7_isAt 3 (some .boolean), Cond.methodLink RX7 153 yX7_numbersOf, Cond.static yX7_numbersOf, Cond.code yX7_numbersOf cX7_numbersOf 1 (some .int), Cond.methodLink RX7 156 yX7_numbered, Cond.instanceMethod yX7_numbered, Cond.selects RX7 yX7_numbered yX7_numbered, Cond.code yX7_numbered cX7_numbered 3 (some .boolean), Cond.fieldLink RX7 28 "WrongedMetersModel" "numbers" "[I", Cond.methodLink RX7 159 yX7_sign, Cond.instanceMethod yX7_sign, Cond.selects RX7 yX7_sign yX7_sign, Cond.code yX7_sign cX7_sign 3 (some .boolean), Cond.methodLink RX7 191 yX7_does, Cond.instanceMethod yX7_does, Cond.selects RX7 yX7_does yX7_does, Cond.code yX7_does cX7_does 1 (some .int)]
def wsX7_fault_r3 : List Cond := [Cond.methodLink RX7 162 yX7_house, Cond.instanceMethod yX7_house, Cond.selects RX7 yX7_house yX7_house, Cond.code yX7_house cX7_house 3 (some .int), Cond.constant RX7 100 (-1000002), Cond.constant RX7 101 (-1000003), Cond.methodLink RX7 92 yX7_isPlace, Cond.static yX7_isPlace, Cond.code yX7_isPlace cX7_isPlace 2 (some .boolean), Cond.methodLink RX7 97 yX7_atPlace, Cond.instanceMethod yX7_atPlace, Cond.selects RX7 yX7_atPlace yX7_atPlace, Cond.code yX7_atPlace cX7_atPlace 4 (some .int), Cond.methodLink RX7 43 yX7_of, Cond.instanceMethod yX7_of, Cond.selects RX7 yX7_of yX7_of, Cond.code yX7_of cX7_of 3 (some .int), Cond.methodLink RX7 102 yX7_changes, Cond.instanceMethod yX7_changes, Cond.selects RX7 yX7_changes yX7_changes, Cond.code yX7_changes cX7_changes 2 none, Cond.fieldLink RX7 35 "WrongedMetersModel" "pasts" "I", Cond.fieldLink RX7 13 "WrongedMetersModel" "past" "[I", Cond.methodLink RX7 59 yX7_lay]
def wsX7_fault_r4 : List Cond := [Cond.instanceMethod yX7_lay, Cond.selects RX7 yX7_lay yX7_lay, Cond.code yX7_lay cX7_lay 4 none, Cond.methodLink RX7 165 yX7_flow, Cond.instanceMethod yX7_flow, Cond.selects RX7 yX7_flow yX7_flow, Cond.code yX7_flow cX7_flow 4 (some .int), Cond.methodLink RX7 105 yX7_isHouse, Cond.instanceMethod yX7_isHouse, Cond.selects RX7 yX7_isHouse yX7_isHouse, Cond.code yX7_isHouse cX7_isHouse 2 (some .boolean), Cond.methodLink RX7 168 yX7_lock, Cond.instanceMethod yX7_lock, Cond.selects RX7 yX7_lock yX7_lock, Cond.code yX7_lock cX7_lock 4 (some .int), Cond.methodLink RX7 172 yX7_read, Cond.instanceMethod yX7_read, Cond.selects RX7 yX7_read yX7_read, Cond.code yX7_read cX7_read 2 (some .int), Cond.methodLink RX7 80 yX7_barred, Cond.instanceMethod yX7_barred, Cond.selects RX7 yX7_barred yX7_barred, Cond.code yX7_barred cX7_barred 2 (some .int), Cond.methodLink RX7 83 yX7_reads]
def wsX7_fault_r5 : List Cond := [Cond.instanceMethod yX7_reads, Cond.selects RX7 yX7_reads yX7_reads, Cond.code yX7_reads cX7_reads 5 (some .int), Cond.methodLink RX7 49 yX7_used, Cond.instanceMethod yX7_used, Cond.selects RX7 yX7_used yX7_used, Cond.code yX7_used cX7_used 2 (some .int), Cond.constant RX7 48 (100000), Cond.methodLink RX7 53 yX7_unitsOf, Cond.instanceMethod yX7_unitsOf, Cond.selects RX7 yX7_unitsOf yX7_unitsOf, Cond.code yX7_unitsOf cX7_unitsOf 5 (some .int), Cond.methodLink RX7 56 yX7_balanceThen, Cond.instanceMethod yX7_balanceThen, Cond.selects RX7 yX7_balanceThen yX7_balanceThen, Cond.code yX7_balanceThen cX7_balanceThen 2 (some .int), Cond.methodLink RX7 63 yX7_adds, Cond.instanceMethod yX7_adds, Cond.selects RX7 yX7_adds yX7_adds, Cond.code yX7_adds cX7_adds 4 none, Cond.methodLink RX7 66 yX7_enters, Cond.instanceMethod yX7_enters, Cond.selects RX7 yX7_enters yX7_enters, Cond.code yX7_enters cX7_enters 6 none]
def wsX7_fault_r6 : List Cond := [Cond.methodLink RX7 175 yX7_change, Cond.instanceMethod yX7_change, Cond.selects RX7 yX7_change yX7_change, Cond.code yX7_change cX7_change 3 (some .int), Cond.methodLink RX7 178 yX7_days, Cond.instanceMethod yX7_days, Cond.selects RX7 yX7_days yX7_days, Cond.code yX7_days cX7_days 2 (some .int), Cond.methodLink RX7 113 yX7_pass, Cond.instanceMethod yX7_pass, Cond.selects RX7 yX7_pass yX7_pass, Cond.code yX7_pass cX7_pass 4 (some .int), Cond.methodLink RX7 109 yX7_day, Cond.instanceMethod yX7_day, Cond.selects RX7 yX7_day yX7_day, Cond.code yX7_day cX7_day 2 (some .int), Cond.methodLink RX7 86 yX7_walks, Cond.instanceMethod yX7_walks, Cond.selects RX7 yX7_walks yX7_walks, Cond.code yX7_walks cX7_walks 5 (some .int), Cond.fieldLink RX7 25 "WrongedMetersModel" "round" "[I", Cond.methodLink RX7 77 yX7_rounds, Cond.instanceMethod yX7_rounds, Cond.selects RX7 yX7_rounds yX7_rounds]
def wsX7_fault_r7 : List Cond := [Cond.code yX7_rounds cX7_rounds 6 (some .int), Cond.methodLink RX7 70 yX7_turn, Cond.instanceMethod yX7_turn, Cond.selects RX7 yX7_turn yX7_turn, Cond.code yX7_turn cX7_turn 3 (some .int), Cond.methodLink RX7 73 yX7_rankOf, Cond.instanceMethod yX7_rankOf, Cond.selects RX7 yX7_rankOf yX7_rankOf, Cond.code yX7_rankOf cX7_rankOf 7 (some .int), Cond.methodLink RX7 89 yX7_refunds, Cond.instanceMethod yX7_refunds, Cond.selects RX7 yX7_refunds yX7_refunds, Cond.code yX7_refunds cX7_refunds 2 none]
def wsX7_fault : List Cond := .code yX7_fault cX7_fault 3 (some .int) :: ((wsX7_fault_r1 ++ (wsX7_fault_r2 ++ (wsX7_fault_r3 ++ (wsX7_fault_r4 ++ (wsX7_fault_r5 ++ (wsX7_fault_r6 ++ wsX7_fault_r7)))))) ++ wsX70)
def wsX7_play_r1 : List Cond := [Cond.fieldLink RX7 7 "WrongedMetersModel" "s" "[I", Cond.fieldLink RX7 16 "WrongedMetersModel" "held" "[I", Cond.constant RX7 100 (-1000002), Cond.fieldLink RX7 184 "WrongedMetersModel" "orders" "I", Cond.constant RX7 47 (-1000004), Cond.methodLink RX7 122 yX7_copies, Cond.static yX7_copies, Cond.initialized RX7, Cond.code yX7_copies cX7_copies 3 none, Cond.methodLink RX7 200 yX7_plays, Cond.instanceMethod yX7_plays, Cond.selects RX7 yX7_plays yX7_plays, Cond.code yX7_plays cX7_plays 4 (some .boolean), Cond.fieldLink RX7 31 "WrongedMetersModel" "runs" "Z", Cond.fieldLink RX7 144 "WrongedMetersModel" "spot" "I", Cond.fieldLink RX7 181 "WrongedMetersModel" "from" "I", Cond.fieldLink RX7 141 "WrongedMetersModel" "typed" "I", Cond.fieldLink RX7 194 "WrongedMetersModel" "reason" "I", Cond.fieldLink RX7 197 "WrongedMetersModel" "cause" "I", Cond.methodLink RX7 187 yX7_parses, Cond.instanceMethod yX7_parses, Cond.selects RX7 yX7_parses yX7_parses, Cond.code yX7_parses cX7_parses 2 (some .boolean), Cond.fieldLink RX7 22 "WrongedMetersModel" "text" "[I"]
def wsX7_play_r2 : List Cond := [Cond.fieldLink RX7 150 "WrongedMetersModel" "order" "I", Cond.methodLink RX7 147 yX7_isAt, Cond.instanceMethod yX7_isAt, Cond.selects RX7 yX7_isAt yX7_isAt, Cond.code yX7_isAt cX7_isAt 3 (some .boolean), Cond.methodLink RX7 39 yX7_in, Cond.static yX7_in, Cond.code yX7_in cX7_in 3 (some .boolean), Cond.methodLink RX7 153 yX7_numbersOf, Cond.static yX7_numbersOf, Cond.code yX7_numbersOf cX7_numbersOf 1 (some .int), Cond.methodLink RX7 156 yX7_numbered, Cond.instanceMethod yX7_numbered, Cond.selects RX7 yX7_numbered yX7_numbered, Cond.code yX7_numbered cX7_numbered 3 (some .boolean), Cond.fieldLink RX7 28 "WrongedMetersModel" "numbers" "[I", Cond.methodLink RX7 159 yX7_sign, Cond.instanceMethod yX7_sign, Cond.selects RX7 yX7_sign yX7_sign, Cond.code yX7_sign cX7_sign 3 (some .boolean), Cond.methodLink RX7 191 yX7_does, Cond.instanceMethod yX7_does, Cond.selects RX7 yX7_does yX7_does, Cond.code yX7_does cX7_does 1 (some .int)]
def wsX7_play_r3 : List Cond := [Cond.methodLink RX7 162 yX7_house, Cond.instanceMethod yX7_house, Cond.selects RX7 yX7_house yX7_house, Cond.code yX7_house cX7_house 3 (some .int), Cond.constant RX7 96 (-1000001), Cond.constant RX7 101 (-1000003), Cond.methodLink RX7 92 yX7_isPlace, Cond.static yX7_isPlace, Cond.code yX7_isPlace cX7_isPlace 2 (some .boolean), Cond.methodLink RX7 97 yX7_atPlace, Cond.instanceMethod yX7_atPlace, Cond.selects RX7 yX7_atPlace yX7_atPlace, Cond.code yX7_atPlace cX7_atPlace 4 (some .int), Cond.methodLink RX7 43 yX7_of, Cond.instanceMethod yX7_of, Cond.selects RX7 yX7_of yX7_of, Cond.code yX7_of cX7_of 3 (some .int), Cond.methodLink RX7 102 yX7_changes, Cond.instanceMethod yX7_changes, Cond.selects RX7 yX7_changes yX7_changes, Cond.code yX7_changes cX7_changes 2 none, Cond.fieldLink RX7 35 "WrongedMetersModel" "pasts" "I", Cond.fieldLink RX7 13 "WrongedMetersModel" "past" "[I", Cond.methodLink RX7 59 yX7_lay]
def wsX7_play_r4 : List Cond := [Cond.instanceMethod yX7_lay, Cond.selects RX7 yX7_lay yX7_lay, Cond.code yX7_lay cX7_lay 4 none, Cond.methodLink RX7 165 yX7_flow, Cond.instanceMethod yX7_flow, Cond.selects RX7 yX7_flow yX7_flow, Cond.code yX7_flow cX7_flow 4 (some .int), Cond.methodLink RX7 105 yX7_isHouse, Cond.instanceMethod yX7_isHouse, Cond.selects RX7 yX7_isHouse yX7_isHouse, Cond.code yX7_isHouse cX7_isHouse 2 (some .boolean), Cond.methodLink RX7 168 yX7_lock, Cond.instanceMethod yX7_lock, Cond.selects RX7 yX7_lock yX7_lock, Cond.code yX7_lock cX7_lock 4 (some .int), Cond.methodLink RX7 172 yX7_read, Cond.instanceMethod yX7_read, Cond.selects RX7 yX7_read yX7_read, Cond.code yX7_read cX7_read 2 (some .int), Cond.methodLink RX7 80 yX7_barred, Cond.instanceMethod yX7_barred, Cond.selects RX7 yX7_barred yX7_barred, Cond.code yX7_barred cX7_barred 2 (some .int), Cond.methodLink RX7 83 yX7_reads]
def wsX7_play_r5 : List Cond := [Cond.instanceMethod yX7_reads, Cond.selects RX7 yX7_reads yX7_reads, Cond.code yX7_reads cX7_reads 5 (some .int), Cond.methodLink RX7 49 yX7_used, Cond.instanceMethod yX7_used, Cond.selects RX7 yX7_used yX7_used, Cond.code yX7_used cX7_used 2 (some .int), Cond.constant RX7 48 (100000), Cond.methodLink RX7 53 yX7_unitsOf, Cond.instanceMethod yX7_unitsOf, Cond.selects RX7 yX7_unitsOf yX7_unitsOf, Cond.code yX7_unitsOf cX7_unitsOf 5 (some .int), Cond.methodLink RX7 56 yX7_balanceThen, Cond.instanceMethod yX7_balanceThen, Cond.selects RX7 yX7_balanceThen yX7_balanceThen, Cond.code yX7_balanceThen cX7_balanceThen 2 (some .int), Cond.methodLink RX7 63 yX7_adds, Cond.instanceMethod yX7_adds, Cond.selects RX7 yX7_adds yX7_adds, Cond.code yX7_adds cX7_adds 4 none, Cond.methodLink RX7 66 yX7_enters, Cond.instanceMethod yX7_enters, Cond.selects RX7 yX7_enters yX7_enters, Cond.code yX7_enters cX7_enters 6 none]
def wsX7_play_r6 : List Cond := [Cond.methodLink RX7 175 yX7_change, Cond.instanceMethod yX7_change, Cond.selects RX7 yX7_change yX7_change, Cond.code yX7_change cX7_change 3 (some .int), Cond.methodLink RX7 178 yX7_days, Cond.instanceMethod yX7_days, Cond.selects RX7 yX7_days yX7_days, Cond.code yX7_days cX7_days 2 (some .int), Cond.methodLink RX7 113 yX7_pass, Cond.instanceMethod yX7_pass, Cond.selects RX7 yX7_pass yX7_pass, Cond.code yX7_pass cX7_pass 4 (some .int), Cond.methodLink RX7 109 yX7_day, Cond.instanceMethod yX7_day, Cond.selects RX7 yX7_day yX7_day, Cond.code yX7_day cX7_day 2 (some .int), Cond.methodLink RX7 86 yX7_walks, Cond.instanceMethod yX7_walks, Cond.selects RX7 yX7_walks yX7_walks, Cond.code yX7_walks cX7_walks 5 (some .int), Cond.fieldLink RX7 25 "WrongedMetersModel" "round" "[I", Cond.methodLink RX7 77 yX7_rounds, Cond.instanceMethod yX7_rounds, Cond.selects RX7 yX7_rounds yX7_rounds]
def wsX7_play_r7 : List Cond := [Cond.code yX7_rounds cX7_rounds 6 (some .int), Cond.methodLink RX7 70 yX7_turn, Cond.instanceMethod yX7_turn, Cond.selects RX7 yX7_turn yX7_turn, Cond.code yX7_turn cX7_turn 3 (some .int), Cond.methodLink RX7 73 yX7_rankOf, Cond.instanceMethod yX7_rankOf, Cond.selects RX7 yX7_rankOf yX7_rankOf, Cond.code yX7_rankOf cX7_rankOf 7 (some .int), Cond.methodLink RX7 89 yX7_refunds, Cond.instanceMethod yX7_refunds, Cond.selects RX7 yX7_refunds yX7_refunds, Cond.code yX7_refunds cX7_refunds 2 none]
def wsX7_play : List Cond := .code yX7_play cX7_play 2 (some .int) :: ((wsX7_play_r1 ++ (wsX7_play_r2 ++ (wsX7_play_r3 ++ (wsX7_play_r4 ++ (wsX7_play_r5 ++ (wsX7_play_r6 ++ wsX7_play_r7)))))) ++ wsX70)
def wsJ9_abs_0f7a4 : List Cond := .code yJ9_abs_0f7a4 cJ9_abs_0f7a4 1 (some .int) :: ([])
def wsJ9_max_7cf53 : List Cond := .code yJ9_max_7cf53 cJ9_max_7cf53 2 (some .int) :: ([])
def wsJ9_min_7cf53 : List Cond := .code yJ9_min_7cf53 cJ9_min_7cf53 2 (some .int) :: ([])
def wsL_law_r1 : List Cond := [Cond.classLink RL 7 RX6, Cond.instantiable RX6 4, Cond.initialized RX6, Cond.classLink RL 10 RX7, Cond.instantiable RX7 16, Cond.initialized RX7, Cond.methodLink RL 9 yX6_init, Cond.instanceMethod yX6_init, Cond.code yX6_init cX6_init 1 none, Cond.methodLink RX6 1 objectInit, Cond.instanceMethod objectInit, Cond.code objectInit ⟨#[0xb1]⟩ 1 none, Cond.classLink RX6 7 RX5, Cond.instantiable RX5 13, Cond.initialized RX5, Cond.fieldLink RX6 10 "WrongedMeters" "town" "LWrongedMeters$Town;", Cond.fieldLink RX6 16 "WrongedMeters" "trial" "LWrongedMeters$Town;", Cond.classLink RX6 19 RX0, Cond.instantiable RX0 3, Cond.initialized RX0, Cond.fieldLink RX6 22 "WrongedMeters" "history" "LWrongedMeters$History;", Cond.classLink RX6 26 RX3, Cond.instantiable RX3 10, Cond.initialized RX3]
def wsL_law_r2 : List Cond := [Cond.fieldLink RX6 29 "WrongedMeters" "orders" "LWrongedMeters$Orders;", Cond.methodLink RX6 9 yX5_init, Cond.instanceMethod yX5_init, Cond.code yX5_init cX5_init 2 none, Cond.methodLink RX5 3 objectInit, Cond.classLink RX5 9 RX1, Cond.fieldLink RX5 11 "WrongedMeters$Town" "houses" "[LWrongedMeters$House;", Cond.classLink RX5 17 RX4, Cond.fieldLink RX5 19 "WrongedMeters$Town" "streets" "[LWrongedMeters$Street;", Cond.classLink RX5 23 RX2, Cond.instantiable RX2 3, Cond.initialized RX2, Cond.fieldLink RX5 26 "WrongedMeters$Town" "ledger" "LWrongedMeters$Ledger;", Cond.arrayClass .int, Cond.fieldLink RX5 30 "WrongedMeters$Town" "settings" "[I", Cond.instantiable RX1 14, Cond.initialized RX1, Cond.instantiable RX4 2, Cond.initialized RX4, Cond.instanceMethod yX2_init, Cond.code yX2_init cX2_init 1 none, Cond.methodLink RX2 3 objectInit, Cond.fieldLink RX2 11 "WrongedMeters$Ledger" "facts" "[I", Cond.instanceMethod yX1_init]
def wsL_law_r3 : List Cond := [Cond.code yX1_init cX1_init 1 none, Cond.methodLink RX1 3 objectInit, Cond.fieldLink RX1 9 "WrongedMeters$House" "latestDay" "I", Cond.methodLink RX5 35 yX4_init, Cond.instanceMethod yX4_init, Cond.code yX4_init cX4_init 2 none, Cond.methodLink RX4 3 objectInit, Cond.fieldLink RX4 9 "WrongedMeters$Street" "houses" "[I", Cond.fieldLink RX4 15 "WrongedMeters$Street" "latestStep" "I", Cond.methodLink RX6 21 yX0_init, Cond.instanceMethod yX0_init, Cond.code yX0_init cX0_init 2 none, Cond.methodLink RX0 5 objectInit, Cond.classLink RX0 11 RX5, Cond.fieldLink RX0 13 "WrongedMeters$History" "states" "[LWrongedMeters$Town;", Cond.methodLink RX0 17 yX5_init, Cond.instanceMethod yX3_init, Cond.code yX3_init cX3_init 1 none, Cond.methodLink RX3 3 objectInit, Cond.fieldLink RX3 11 "WrongedMeters$Orders" "text" "[I", Cond.methodLink RL 12 yX7_init, Cond.instanceMethod yX7_init, Cond.code yX7_init cX7_init 1 none, Cond.methodLink RX7 1 objectInit]
def wsL_law_r4 : List Cond := [Cond.fieldLink RX7 7 "WrongedMetersModel" "s" "[I", Cond.fieldLink RX7 13 "WrongedMetersModel" "past" "[I", Cond.fieldLink RX7 16 "WrongedMetersModel" "held" "[I", Cond.fieldLink RX7 19 "WrongedMetersModel" "spare" "[I", Cond.fieldLink RX7 22 "WrongedMetersModel" "text" "[I", Cond.fieldLink RX7 25 "WrongedMetersModel" "round" "[I", Cond.fieldLink RX7 28 "WrongedMetersModel" "numbers" "[I", Cond.methodLink RL 13 yX6_house, Cond.instanceMethod yX6_house, Cond.selects RX6 yX6_house yX6_house, Cond.code yX6_house cX6_house 3 (some .int), Cond.methodLink RX6 33 yX6_carryOut, Cond.instanceMethod yX6_carryOut, Cond.selects RX6 yX6_carryOut yX6_carryOut, Cond.code yX6_carryOut cX6_carryOut 4 (some .int), Cond.methodLink RX6 37 yX0_record, Cond.instanceMethod yX0_record, Cond.selects RX0 yX0_record yX0_record, Cond.code yX0_record cX0_record 2 none, Cond.fieldLink RX0 18 "WrongedMeters$History" "freeSlot" "I", Cond.methodLink RX0 22 yX5_copyFrom, Cond.instanceMethod yX5_copyFrom, Cond.selects RX5 yX5_copyFrom yX5_copyFrom, Cond.code yX5_copyFrom cX5_copyFrom 3 none]
def wsL_law_r5 : List Cond := [Cond.methodLink RX5 49 arraycopyName, Cond.native arraycopyName, Cond.static arraycopyName, Cond.initialized "java/lang/System", Cond.fieldLink RX5 55 "WrongedMeters$Town" "houseCount" "I", Cond.fieldLink RX5 59 "WrongedMeters$Town" "now" "I", Cond.fieldLink RX5 62 "WrongedMeters$Town" "readings" "I", Cond.fieldLink RX5 65 "WrongedMeters$Town" "units" "I", Cond.fieldLink RX5 68 "WrongedMeters$Town" "coins" "I", Cond.fieldLink RX5 71 "WrongedMeters$Town" "hundredths" "I", Cond.fieldLink RX5 74 "WrongedMeters$Town" "refunds" "I", Cond.fieldLink RX5 77 "WrongedMeters$Town" "coinsBack" "I", Cond.fieldLink RX5 80 "WrongedMeters$Town" "years" "I", Cond.methodLink RX5 39 yX1_copyFrom, Cond.instanceMethod yX1_copyFrom, Cond.selects RX1 yX1_copyFrom yX1_copyFrom, Cond.code yX1_copyFrom cX1_copyFrom 2 none, Cond.fieldLink RX1 15 "WrongedMeters$House" "street" "I", Cond.fieldLink RX1 18 "WrongedMeters$House" "place" "I", Cond.fieldLink RX1 21 "WrongedMeters$House" "dial" "I", Cond.fieldLink RX1 24 "WrongedMeters$House" "dialBefore" "I", Cond.fieldLink RX1 27 "WrongedMeters$House" "flow" "I", Cond.fieldLink RX1 30 "WrongedMeters$House" "isLocked" "Z", Cond.fieldLink RX1 34 "WrongedMeters$House" "balance" "I"]
def wsL_law_r6 : List Cond := [Cond.fieldLink RX1 37 "WrongedMeters$House" "readings" "I", Cond.fieldLink RX1 40 "WrongedMeters$House" "units" "I", Cond.fieldLink RX1 43 "WrongedMeters$House" "timesHouseWronged" "I", Cond.fieldLink RX1 46 "WrongedMeters$House" "timesCompanyWronged" "I", Cond.fieldLink RX1 49 "WrongedMeters$House" "refunds" "I", Cond.fieldLink RX1 52 "WrongedMeters$House" "metersChanged" "I", Cond.methodLink RX5 43 yX4_copyFrom, Cond.instanceMethod yX4_copyFrom, Cond.selects RX4 yX4_copyFrom yX4_copyFrom, Cond.code yX4_copyFrom cX4_copyFrom 2 none, Cond.methodLink RX4 19 arraycopyName, Cond.methodLink RX5 46 yX2_copyFrom, Cond.instanceMethod yX2_copyFrom, Cond.selects RX2 yX2_copyFrom yX2_copyFrom, Cond.code yX2_copyFrom cX2_copyFrom 2 none, Cond.methodLink RX2 15 arraycopyName, Cond.fieldLink RX2 21 "WrongedMeters$Ledger" "nextRow" "I", Cond.fieldLink RX2 25 "WrongedMeters$Ledger" "size" "I", Cond.methodLink RX6 176 yX5_obey, Cond.instanceMethod yX5_obey, Cond.selects RX5 yX5_obey yX5_obey, Cond.code yX5_obey cX5_obey 4 (some .int), Cond.constant RX5 100 (-1000001), Cond.constant RX5 101 (-1000003)]
def wsL_law_r7 : List Cond := [Cond.methodLink RX5 83 yX5_addHouse, Cond.instanceMethod yX5_addHouse, Cond.selects RX5 yX5_addHouse yX5_addHouse, Cond.code yX5_addHouse cX5_addHouse 5 (some .int), Cond.constant RX5 119 (-1000002), Cond.methodLink RX5 105 yX5_streetNumbered, Cond.instanceMethod yX5_streetNumbered, Cond.selects RX5 yX5_streetNumbered yX5_streetNumbered, Cond.code yX5_streetNumbered cX5_streetNumbered 2 (some (.object "WrongedMeters$Street")), Cond.static yX6_isPlace, Cond.code yX6_isPlace cX6_isPlace 1 (some .boolean), Cond.static yX6_stepOf, Cond.code yX6_stepOf cX6_stepOf 1 (some .int), Cond.methodLink RX5 116 yX4_houseOn, Cond.instanceMethod yX4_houseOn, Cond.selects RX4 yX4_houseOn yX4_houseOn, Cond.code yX4_houseOn cX4_houseOn 2 (some .int), Cond.methodLink RX5 126 yX4_putHouse, Cond.instanceMethod yX4_putHouse, Cond.selects RX4 yX4_putHouse yX4_putHouse, Cond.code yX4_putHouse cX4_putHouse 3 none, Cond.methodLink RX5 87 yX5_putFlow, Cond.instanceMethod yX5_putFlow, Cond.selects RX5 yX5_putFlow yX5_putFlow]
def wsL_law_r8 : List Cond := [Cond.code yX5_putFlow cX5_putFlow 5 (some .int), Cond.methodLink RX5 130 yX5_houseNumbered, Cond.instanceMethod yX5_houseNumbered, Cond.selects RX5 yX5_houseNumbered yX5_houseNumbered, Cond.code yX5_houseNumbered cX5_houseNumbered 2 (some (.object "WrongedMeters$House")), Cond.methodLink RX5 90 yX5_turnLock, Cond.instanceMethod yX5_turnLock, Cond.selects RX5 yX5_turnLock yX5_turnLock, Cond.code yX5_turnLock cX5_turnLock 3 (some .int), Cond.methodLink RX5 141 yX5_putLock, Cond.instanceMethod yX5_putLock, Cond.selects RX5 yX5_putLock yX5_putLock, Cond.code yX5_putLock cX5_putLock 5 (some .int), Cond.methodLink RX5 94 yX5_readIfOpen, Cond.instanceMethod yX5_readIfOpen, Cond.selects RX5 yX5_readIfOpen yX5_readIfOpen, Cond.code yX5_readIfOpen cX5_readIfOpen 3 (some .int), Cond.methodLink RX5 151 yX1_reasonOn, Cond.instanceMethod yX1_reasonOn, Cond.selects RX1 yX1_reasonOn yX1_reasonOn, Cond.code yX1_reasonOn cX1_reasonOn 2 (some .int), Cond.methodLink RX5 154 yX5_readMeter, Cond.instanceMethod yX5_readMeter, Cond.selects RX5 yX5_readMeter yX5_readMeter]
def wsL_law_r9 : List Cond := [Cond.code yX5_readMeter cX5_readMeter 5 (some .int), Cond.methodLink RX5 161 yX1_used, Cond.instanceMethod yX1_used, Cond.selects RX1 yX1_used yX1_used, Cond.code yX1_used cX1_used 1 (some .int), Cond.constant RX1 55 (100000), Cond.static yX6_unitsFor, Cond.code yX6_unitsFor cX6_unitsFor 2 (some .int), Cond.methodLink RX5 171 yX1_settle, Cond.instanceMethod yX1_settle, Cond.selects RX1 yX1_settle yX1_settle, Cond.code yX1_settle cX1_settle 4 none, Cond.methodLink RX5 175 yX2_add, Cond.instanceMethod yX2_add, Cond.selects RX2 yX2_add yX2_add, Cond.code yX2_add cX2_add 7 none, Cond.methodLink RX2 28 Lib.Math.min.name, Cond.static Lib.Math.min.name, Cond.initialized "java/lang/Math", Cond.code Lib.Math.min.name Lib.Math.min.code 2 (some .int), Cond.methodLink RX5 97 yX5_changeMeter, Cond.instanceMethod yX5_changeMeter, Cond.selects RX5 yX5_changeMeter yX5_changeMeter, Cond.code yX5_changeMeter cX5_changeMeter 4 (some .int)]
def wsL_law_r10 : List Cond := [Cond.methodLink RX5 158 yX1_renewMeter, Cond.instanceMethod yX1_renewMeter, Cond.selects RX1 yX1_renewMeter yX1_renewMeter, Cond.code yX1_renewMeter cX1_renewMeter 1 none, Cond.methodLink RX5 102 yX5_passDays, Cond.instanceMethod yX5_passDays, Cond.selects RX5 yX5_passDays yX5_passDays, Cond.code yX5_passDays cX5_passDays 8 (some .int), Cond.methodLink RX5 179 yX1_goOn, Cond.instanceMethod yX1_goOn, Cond.selects RX1 yX1_goOn yX1_goOn, Cond.code yX1_goOn cX1_goOn 1 none, Cond.methodLink RX5 182 yX5_walk, Cond.instanceMethod yX5_walk, Cond.selects RX5 yX5_walk yX5_walk, Cond.code yX5_walk cX5_walk 8 none, Cond.methodLink RX5 188 yX4_stepAhead, Cond.instanceMethod yX4_stepAhead, Cond.selects RX4 yX4_stepAhead yX4_stepAhead, Cond.code yX4_stepAhead cX4_stepAhead 2 (some .int), Cond.methodLink RX5 185 yX5_endYear, Cond.instanceMethod yX5_endYear, Cond.selects RX5 yX5_endYear yX5_endYear, Cond.code yX5_endYear cX5_endYear 5 none]
def wsL_law_r11 : List Cond := [Cond.methodLink RX6 45 yX6_kept, Cond.instanceMethod yX6_kept, Cond.selects RX6 yX6_kept yX6_kept, Cond.code yX6_kept cX6_kept 2 (some .int), Cond.methodLink RX6 179 yX0_keep, Cond.instanceMethod yX0_keep, Cond.selects RX0 yX0_keep yX0_keep, Cond.code yX0_keep cX0_keep 1 none, Cond.fieldLink RX0 26 "WrongedMeters$History" "size" "I", Cond.methodLink RX0 29 Lib.Math.min.name, Cond.methodLink RL 17 yX7_house, Cond.instanceMethod yX7_house, Cond.selects RX7 yX7_house yX7_house, Cond.code yX7_house cX7_house 3 (some .int), Cond.constant RX7 96 (-1000001), Cond.constant RX7 100 (-1000002), Cond.constant RX7 101 (-1000003), Cond.methodLink RX7 92 yX7_isPlace, Cond.static yX7_isPlace, Cond.code yX7_isPlace cX7_isPlace 2 (some .boolean), Cond.methodLink RX7 39 yX7_in, Cond.static yX7_in, Cond.code yX7_in cX7_in 3 (some .boolean), Cond.methodLink RX7 97 yX7_atPlace]
def wsL_law_r12 : List Cond := [Cond.instanceMethod yX7_atPlace, Cond.selects RX7 yX7_atPlace yX7_atPlace, Cond.code yX7_atPlace cX7_atPlace 4 (some .int), Cond.constant RX7 47 (-1000004), Cond.methodLink RX7 43 yX7_of, Cond.instanceMethod yX7_of, Cond.selects RX7 yX7_of yX7_of, Cond.code yX7_of cX7_of 3 (some .int), Cond.methodLink RX7 102 yX7_changes, Cond.instanceMethod yX7_changes, Cond.selects RX7 yX7_changes yX7_changes, Cond.code yX7_changes cX7_changes 2 none, Cond.fieldLink RX7 31 "WrongedMetersModel" "runs" "Z", Cond.fieldLink RX7 35 "WrongedMetersModel" "pasts" "I", Cond.methodLink RX7 59 yX7_lay, Cond.instanceMethod yX7_lay, Cond.selects RX7 yX7_lay yX7_lay, Cond.code yX7_lay cX7_lay 4 none, Cond.methodLink RL 18 yX6_flow, Cond.instanceMethod yX6_flow, Cond.selects RX6 yX6_flow yX6_flow, Cond.code yX6_flow cX6_flow 3 (some .int), Cond.methodLink RL 21 yX7_flow, Cond.instanceMethod yX7_flow]
def wsL_law_r13 : List Cond := [Cond.selects RX7 yX7_flow yX7_flow, Cond.code yX7_flow cX7_flow 4 (some .int), Cond.methodLink RX7 105 yX7_isHouse, Cond.instanceMethod yX7_isHouse, Cond.selects RX7 yX7_isHouse yX7_isHouse, Cond.code yX7_isHouse cX7_isHouse 2 (some .boolean), Cond.methodLink RL 22 yX6_lock, Cond.instanceMethod yX6_lock, Cond.selects RX6 yX6_lock yX6_lock, Cond.code yX6_lock cX6_lock 3 (some .int), Cond.methodLink RX6 41 yX5_putLock, Cond.methodLink RL 26 yX7_lock, Cond.instanceMethod yX7_lock, Cond.selects RX7 yX7_lock yX7_lock, Cond.code yX7_lock cX7_lock 4 (some .int), Cond.methodLink RL 27 yX6_read, Cond.instanceMethod yX6_read, Cond.selects RX6 yX6_read yX6_read, Cond.code yX6_read cX6_read 2 (some .int), Cond.methodLink RL 31 yX7_read, Cond.instanceMethod yX7_read, Cond.selects RX7 yX7_read yX7_read, Cond.code yX7_read cX7_read 2 (some .int), Cond.methodLink RX7 80 yX7_barred]
def wsL_law_r14 : List Cond := [Cond.instanceMethod yX7_barred, Cond.selects RX7 yX7_barred yX7_barred, Cond.code yX7_barred cX7_barred 2 (some .int), Cond.methodLink RX7 83 yX7_reads, Cond.instanceMethod yX7_reads, Cond.selects RX7 yX7_reads yX7_reads, Cond.code yX7_reads cX7_reads 5 (some .int), Cond.methodLink RX7 49 yX7_used, Cond.instanceMethod yX7_used, Cond.selects RX7 yX7_used yX7_used, Cond.code yX7_used cX7_used 2 (some .int), Cond.constant RX7 48 (100000), Cond.methodLink RX7 53 yX7_unitsOf, Cond.instanceMethod yX7_unitsOf, Cond.selects RX7 yX7_unitsOf yX7_unitsOf, Cond.code yX7_unitsOf cX7_unitsOf 5 (some .int), Cond.methodLink RX7 56 yX7_balanceThen, Cond.instanceMethod yX7_balanceThen, Cond.selects RX7 yX7_balanceThen yX7_balanceThen, Cond.code yX7_balanceThen cX7_balanceThen 2 (some .int), Cond.methodLink RX7 63 yX7_adds, Cond.instanceMethod yX7_adds, Cond.selects RX7 yX7_adds yX7_adds, Cond.code yX7_adds cX7_adds 4 none]
def wsL_law_r15 : List Cond := [Cond.methodLink RX7 66 yX7_enters, Cond.instanceMethod yX7_enters, Cond.selects RX7 yX7_enters yX7_enters, Cond.code yX7_enters cX7_enters 6 none, Cond.methodLink RL 32 yX6_change, Cond.instanceMethod yX6_change, Cond.selects RX6 yX6_change yX6_change, Cond.code yX6_change cX6_change 2 (some .int), Cond.methodLink RL 35 yX7_change, Cond.instanceMethod yX7_change, Cond.selects RX7 yX7_change yX7_change, Cond.code yX7_change cX7_change 3 (some .int), Cond.methodLink RL 36 yX6_days, Cond.instanceMethod yX6_days, Cond.selects RX6 yX6_days yX6_days, Cond.code yX6_days cX6_days 2 (some .int), Cond.methodLink RL 39 yX7_days, Cond.instanceMethod yX7_days, Cond.selects RX7 yX7_days yX7_days, Cond.code yX7_days cX7_days 2 (some .int), Cond.methodLink RX7 113 yX7_pass, Cond.instanceMethod yX7_pass, Cond.selects RX7 yX7_pass yX7_pass, Cond.code yX7_pass cX7_pass 4 (some .int)]
def wsL_law_r16 : List Cond := [Cond.methodLink RX7 109 yX7_day, Cond.instanceMethod yX7_day, Cond.selects RX7 yX7_day yX7_day, Cond.code yX7_day cX7_day 2 (some .int), Cond.methodLink RX7 86 yX7_walks, Cond.instanceMethod yX7_walks, Cond.selects RX7 yX7_walks yX7_walks, Cond.code yX7_walks cX7_walks 5 (some .int), Cond.methodLink RX7 77 yX7_rounds, Cond.instanceMethod yX7_rounds, Cond.selects RX7 yX7_rounds yX7_rounds, Cond.code yX7_rounds cX7_rounds 6 (some .int), Cond.methodLink RX7 70 yX7_turn, Cond.instanceMethod yX7_turn, Cond.selects RX7 yX7_turn yX7_turn, Cond.code yX7_turn cX7_turn 3 (some .int), Cond.methodLink RX7 73 yX7_rankOf, Cond.instanceMethod yX7_rankOf, Cond.selects RX7 yX7_rankOf yX7_rankOf, Cond.code yX7_rankOf cX7_rankOf 7 (some .int), Cond.methodLink RX7 89 yX7_refunds, Cond.instanceMethod yX7_refunds, Cond.selects RX7 yX7_refunds yX7_refunds, Cond.code yX7_refunds cX7_refunds 2 none]
def wsL_law_r17 : List Cond := [Cond.methodLink RL 40 yX6_set, Cond.instanceMethod yX6_set, Cond.selects RX6 yX6_set yX6_set, Cond.code yX6_set cX6_set 3 (some .int), Cond.methodLink RX6 49 yX5_putSetting, Cond.instanceMethod yX5_putSetting, Cond.selects RX5 yX5_putSetting yX5_putSetting, Cond.code yX5_putSetting cX5_putSetting 4 (some .int), Cond.methodLink RL 43 yX7_set, Cond.instanceMethod yX7_set, Cond.selects RX7 yX7_set yX7_set, Cond.code yX7_set cX7_set 4 (some .int), Cond.methodLink RX7 116 yX7_least, Cond.static yX7_least, Cond.code yX7_least cX7_least 1 (some .int), Cond.methodLink RX7 119 yX7_most, Cond.static yX7_most, Cond.code yX7_most cX7_most 1 (some .int), Cond.methodLink RL 44 yX6_houseOf, Cond.instanceMethod yX6_houseOf, Cond.selects RX6 yX6_houseOf yX6_houseOf, Cond.code yX6_houseOf cX6_houseOf 4 (some .int), Cond.constant RX6 57 (-1000001), Cond.methodLink RX6 53 yX5_houseNumbered]
def wsL_law_r18 : List Cond := [Cond.methodLink RX6 58 yX1_fact, Cond.instanceMethod yX1_fact, Cond.selects RX1 yX1_fact yX1_fact, Cond.code yX1_fact cX1_fact 2 (some .int), Cond.constant RX1 60 (-1000004), Cond.constant RX1 61 (-1000001), Cond.methodLink RX1 56 yX1_used, Cond.methodLink RL 47 yX7_houseOf, Cond.instanceMethod yX7_houseOf, Cond.selects RX7 yX7_houseOf yX7_houseOf, Cond.code yX7_houseOf cX7_houseOf 3 (some .int), Cond.methodLink RL 48 yX6_at, Cond.instanceMethod yX6_at, Cond.selects RX6 yX6_at yX6_at, Cond.code yX6_at cX6_at 5 (some .int), Cond.constant RX6 79 (-1000004), Cond.methodLink RX6 63 yX5_streetNumbered, Cond.methodLink RX6 67 yX6_isPlace, Cond.methodLink RX6 71 yX6_stepOf, Cond.methodLink RX6 74 yX4_houseOn, Cond.methodLink RL 51 yX7_at, Cond.instanceMethod yX7_at, Cond.selects RX7 yX7_at yX7_at, Cond.code yX7_at cX7_at 3 (some .int)]
def wsL_law_r19 : List Cond := [Cond.methodLink RL 52 yX6_next, Cond.instanceMethod yX6_next, Cond.selects RX6 yX6_next yX6_next, Cond.code yX6_next cX6_next 4 (some .int), Cond.methodLink RX6 80 yX4_houseRanked, Cond.instanceMethod yX4_houseRanked, Cond.selects RX4 yX4_houseRanked yX4_houseRanked, Cond.code yX4_houseRanked cX4_houseRanked 5 (some .int), Cond.constant RX4 32 (-1000004), Cond.methodLink RX4 25 yX4_stepAhead, Cond.methodLink RX4 29 yX4_houseOn, Cond.methodLink RL 55 yX7_next, Cond.instanceMethod yX7_next, Cond.selects RX7 yX7_next yX7_next, Cond.code yX7_next cX7_next 3 (some .int), Cond.methodLink RL 56 yX6_ledger, Cond.instanceMethod yX6_ledger, Cond.selects RX6 yX6_ledger yX6_ledger, Cond.code yX6_ledger cX6_ledger 3 (some .int), Cond.methodLink RX6 87 yX2_entry, Cond.instanceMethod yX2_entry, Cond.selects RX2 yX2_entry yX2_entry, Cond.code yX2_entry cX2_entry 4 (some .int), Cond.constant RX2 34 (-1000001)]
def wsL_law_r20 : List Cond := [Cond.constant RX2 35 (-1000004), Cond.methodLink RL 59 yX7_ledger, Cond.instanceMethod yX7_ledger, Cond.selects RX7 yX7_ledger yX7_ledger, Cond.code yX7_ledger cX7_ledger 3 (some .int), Cond.methodLink RL 60 yX6_why, Cond.instanceMethod yX6_why, Cond.selects RX6 yX6_why yX6_why, Cond.code yX6_why cX6_why 3 (some .int), Cond.methodLink RX6 96 yX1_reasonOn, Cond.methodLink RL 63 yX7_why, Cond.instanceMethod yX7_why, Cond.selects RX7 yX7_why yX7_why, Cond.code yX7_why cX7_why 2 (some .int), Cond.methodLink RL 64 yX6_ifRead, Cond.instanceMethod yX6_ifRead, Cond.selects RX6 yX6_ifRead yX6_ifRead, Cond.code yX6_ifRead cX6_ifRead 7 (some .int), Cond.methodLink RX6 99 yX1_used, Cond.methodLink RX6 106 yX6_unitsFor, Cond.methodLink RL 67 yX7_ifRead, Cond.instanceMethod yX7_ifRead, Cond.selects RX7 yX7_ifRead yX7_ifRead, Cond.code yX7_ifRead cX7_ifRead 4 (some .int)]
def wsL_law_r21 : List Cond := [Cond.methodLink RL 68 yX6_wronged, Cond.instanceMethod yX6_wronged, Cond.selects RX6 yX6_wronged yX6_wronged, Cond.code yX6_wronged cX6_wronged 2 (some .int), Cond.methodLink RX6 113 yX5_houseByBalance, Cond.instanceMethod yX5_houseByBalance, Cond.selects RX5 yX5_houseByBalance yX5_houseByBalance, Cond.code yX5_houseByBalance cX5_houseByBalance 3 (some .int), Cond.constant RX5 195 (-1000004), Cond.methodLink RX5 196 yX5_housesAhead, Cond.instanceMethod yX5_housesAhead, Cond.selects RX5 yX5_housesAhead yX5_housesAhead, Cond.code yX5_housesAhead cX5_housesAhead 6 (some .int), Cond.methodLink RL 71 yX7_wronged, Cond.instanceMethod yX7_wronged, Cond.selects RX7 yX7_wronged yX7_wronged, Cond.code yX7_wronged cX7_wronged 6 (some .int), Cond.methodLink RL 72 yX6_refundIn, Cond.instanceMethod yX6_refundIn, Cond.selects RX6 yX6_refundIn yX6_refundIn, Cond.code yX6_refundIn cX6_refundIn 2 (some .int), Cond.methodLink RX6 116 yX5_copyFrom, Cond.methodLink RX6 119 yX5_passUntilRefund, Cond.instanceMethod yX5_passUntilRefund]
def wsL_law_r22 : List Cond := [Cond.selects RX5 yX5_passUntilRefund yX5_passUntilRefund, Cond.code yX5_passUntilRefund cX5_passUntilRefund 5 (some .int), Cond.methodLink RL 75 yX7_refundIn, Cond.instanceMethod yX7_refundIn, Cond.selects RX7 yX7_refundIn yX7_refundIn, Cond.code yX7_refundIn cX7_refundIn 4 (some .int), Cond.methodLink RX7 122 yX7_copies, Cond.static yX7_copies, Cond.code yX7_copies cX7_copies 3 none, Cond.methodLink RL 76 yX6_ifDays, Cond.instanceMethod yX6_ifDays, Cond.selects RX6 yX6_ifDays yX6_ifDays, Cond.code yX6_ifDays cX6_ifDays 3 (some .int), Cond.methodLink RX6 122 yX5_passDays, Cond.methodLink RL 79 yX7_ifDays, Cond.instanceMethod yX7_ifDays, Cond.selects RX7 yX7_ifDays yX7_ifDays, Cond.code yX7_ifDays cX7_ifDays 6 (some .int), Cond.methodLink RL 80 yX6_mean, Cond.instanceMethod yX6_mean, Cond.selects RX6 yX6_mean yX6_mean, Cond.code yX6_mean cX6_mean 1 (some .int), Cond.methodLink RX6 137 yX5_balancesWithoutSigns, Cond.instanceMethod yX5_balancesWithoutSigns]
def wsL_law_r23 : List Cond := [Cond.selects RX5 yX5_balancesWithoutSigns yX5_balancesWithoutSigns, Cond.code yX5_balancesWithoutSigns cX5_balancesWithoutSigns 6 (some .int), Cond.methodLink RX5 211 Lib.Math.abs.name, Cond.static Lib.Math.abs.name, Cond.code Lib.Math.abs.name Lib.Math.abs.code 1 (some .int), Cond.methodLink RX6 140 yX6_bitsOf, Cond.static yX6_bitsOf, Cond.code yX6_bitsOf cX6_bitsOf 3 (some .int), Cond.constantFloat RX6 182 (1258291200), Cond.constant RX6 183 (8388608), Cond.methodLink RL 84 yX7_mean, Cond.instanceMethod yX7_mean, Cond.selects RX7 yX7_mean yX7_mean, Cond.code yX7_mean cX7_mean 4 (some .int), Cond.methodLink RX7 126 yJxf58ca_floatToIntBits_5c35a, Cond.static yJxf58ca_floatToIntBits_5c35a, Cond.initialized RJxf58ca, Cond.code yJxf58ca_floatToIntBits_5c35a cJxf58ca_floatToIntBits_5c35a 1 (some .int), Cond.methodLink RJxf58ca 74 ⟨"java/lang/Float", "floatToRawIntBits", "(F)I"⟩, Cond.native ⟨"java/lang/Float", "floatToRawIntBits", "(F)I"⟩, Cond.static ⟨"java/lang/Float", "floatToRawIntBits", "(F)I"⟩, Cond.initialized "java/lang/Float", Cond.constant RJxf58ca 77 (2143289344), Cond.methodLink RJxf58ca 59 yJxf58ca_isNaN_12338]
def wsL_law_r24 : List Cond := [Cond.static yJxf58ca_isNaN_12338, Cond.code yJxf58ca_isNaN_12338 cJxf58ca_isNaN_12338 1 (some .boolean), Cond.methodLink RL 85 yX6_count, Cond.instanceMethod yX6_count, Cond.selects RX6 yX6_count yX6_count, Cond.code yX6_count cX6_count 2 (some .int), Cond.methodLink RX6 150 yX5_number, Cond.instanceMethod yX5_number, Cond.selects RX5 yX5_number yX5_number, Cond.code yX5_number cX5_number 2 (some .int), Cond.methodLink RX5 199 yX5_housesLocked, Cond.instanceMethod yX5_housesLocked, Cond.selects RX5 yX5_housesLocked yX5_housesLocked, Cond.code yX5_housesLocked cX5_housesLocked 6 (some .int), Cond.methodLink RX5 202 yX5_housesBetween, Cond.instanceMethod yX5_housesBetween, Cond.selects RX5 yX5_housesBetween yX5_housesBetween, Cond.code yX5_housesBetween cX5_housesBetween 8 (some .int), Cond.methodLink RX5 205 yX5_balances, Cond.instanceMethod yX5_balances, Cond.selects RX5 yX5_balances yX5_balances, Cond.code yX5_balances cX5_balances 6 (some .int), Cond.methodLink RL 88 yX7_count, Cond.instanceMethod yX7_count]
def wsL_law_r25 : List Cond := [Cond.selects RX7 yX7_count yX7_count, Cond.code yX7_count cX7_count 2 (some .int), Cond.fieldLink RX7 141 "WrongedMetersModel" "typed" "I", Cond.methodLink RX7 132 yX7_locked, Cond.instanceMethod yX7_locked, Cond.selects RX7 yX7_locked yX7_locked, Cond.code yX7_locked cX7_locked 3 (some .int), Cond.methodLink RX7 135 yX7_signed, Cond.instanceMethod yX7_signed, Cond.selects RX7 yX7_signed yX7_signed, Cond.code yX7_signed cX7_signed 4 (some .int), Cond.methodLink RX7 138 yX7_balances, Cond.instanceMethod yX7_balances, Cond.selects RX7 yX7_balances yX7_balances, Cond.code yX7_balances cX7_balances 3 (some .int), Cond.methodLink RL 89 yX6_undo, Cond.instanceMethod yX6_undo, Cond.selects RX6 yX6_undo yX6_undo, Cond.code yX6_undo cX6_undo 1 (some .int), Cond.methodLink RX6 153 yX0_restore, Cond.instanceMethod yX0_restore, Cond.selects RX0 yX0_restore yX0_restore, Cond.code yX0_restore cX0_restore 2 (some .int), Cond.constant RX0 35 (-1000002)]
def wsL_law_r26 : List Cond := [Cond.methodLink RL 92 yX7_undo, Cond.instanceMethod yX7_undo, Cond.selects RX7 yX7_undo yX7_undo, Cond.code yX7_undo cX7_undo 2 (some .int), Cond.methodLink RL 93 yX6_type, Cond.instanceMethod yX6_type, Cond.selects RX6 yX6_type yX6_type, Cond.code yX6_type cX6_type 2 (some .int), Cond.methodLink RX6 157 yX3_append, Cond.instanceMethod yX3_append, Cond.selects RX3 yX3_append yX3_append, Cond.code yX3_append cX3_append 2 (some .int), Cond.constant RX3 15 (-1000001), Cond.fieldLink RX3 16 "WrongedMeters$Orders" "length" "I", Cond.constant RX3 20 (-1000003), Cond.methodLink RL 96 yX7_type, Cond.instanceMethod yX7_type, Cond.selects RX7 yX7_type yX7_type, Cond.code yX7_type cX7_type 2 (some .int), Cond.methodLink RL 97 yX6_clearText, Cond.instanceMethod yX6_clearText, Cond.selects RX6 yX6_clearText yX6_clearText, Cond.code yX6_clearText cX6_clearText 1 (some .int), Cond.methodLink RX6 160 yX3_empty]
def wsL_law_r27 : List Cond := [Cond.instanceMethod yX3_empty, Cond.selects RX3 yX3_empty yX3_empty, Cond.code yX3_empty cX3_empty 2 (some .int), Cond.methodLink RL 100 yX7_clearText, Cond.instanceMethod yX7_clearText, Cond.selects RX7 yX7_clearText yX7_clearText, Cond.code yX7_clearText cX7_clearText 2 (some .int), Cond.methodLink RL 101 yX6_fault, Cond.instanceMethod yX6_fault, Cond.selects RX6 yX6_fault yX6_fault, Cond.code yX6_fault cX6_fault 2 (some .int), Cond.methodLink RX6 163 yX3_doAllIn, Cond.instanceMethod yX3_doAllIn, Cond.selects RX3 yX3_doAllIn yX3_doAllIn, Cond.code yX3_doAllIn cX3_doAllIn 3 none, Cond.fieldLink RX3 21 "WrongedMeters$Orders" "position" "I", Cond.fieldLink RX3 24 "WrongedMeters$Orders" "reason" "I", Cond.fieldLink RX3 27 "WrongedMeters$Orders" "cause" "I", Cond.fieldLink RX3 30 "WrongedMeters$Orders" "done" "I", Cond.fieldLink RX3 33 "WrongedMeters$Orders" "start" "I", Cond.fieldLink RX3 40 "WrongedMeters$Orders" "letter" "I", Cond.fieldLink RX3 43 "WrongedMeters$Orders" "first" "I", Cond.fieldLink RX3 46 "WrongedMeters$Orders" "second" "I", Cond.methodLink RX3 36 yX3_takeOrder]
def wsL_law_r28 : List Cond := [Cond.instanceMethod yX3_takeOrder, Cond.selects RX3 yX3_takeOrder yX3_takeOrder, Cond.code yX3_takeOrder cX3_takeOrder 1 (some .boolean), Cond.methodLink RX3 56 yX3_sign, Cond.instanceMethod yX3_sign, Cond.selects RX3 yX3_sign yX3_sign, Cond.code yX3_sign cX3_sign 1 (some .int), Cond.methodLink RX3 60 yX3_isLetterOfOrder, Cond.static yX3_isLetterOfOrder, Cond.code yX3_isLetterOfOrder cX3_isLetterOfOrder 1 (some .boolean), Cond.methodLink RX3 64 yX3_takeNumber, Cond.instanceMethod yX3_takeNumber, Cond.selects RX3 yX3_takeNumber yX3_takeNumber, Cond.code yX3_takeNumber cX3_takeNumber 3 (some .int), Cond.methodLink RX3 73 Lib.Math.max.name, Cond.static Lib.Math.max.name, Cond.code Lib.Math.max.name Lib.Math.max.code 2 (some .int), Cond.methodLink RX3 70 yX3_isDigit, Cond.static yX3_isDigit, Cond.code yX3_isDigit cX3_isDigit 1 (some .boolean), Cond.methodLink RX3 67 yX3_takeSign, Cond.instanceMethod yX3_takeSign, Cond.selects RX3 yX3_takeSign yX3_takeSign, Cond.code yX3_takeSign cX3_takeSign 2 (some .boolean)]
def wsL_law_r29 : List Cond := [Cond.methodLink RX3 49 yX5_obey, Cond.methodLink RX6 166 yX3_faultFact, Cond.instanceMethod yX3_faultFact, Cond.selects RX3 yX3_faultFact yX3_faultFact, Cond.code yX3_faultFact cX3_faultFact 2 (some .int), Cond.constant RX3 55 (-1000004), Cond.methodLink RL 104 yX7_fault, Cond.instanceMethod yX7_fault, Cond.selects RX7 yX7_fault yX7_fault, Cond.code yX7_fault cX7_fault 3 (some .int), Cond.fieldLink RX7 181 "WrongedMetersModel" "from" "I", Cond.fieldLink RX7 194 "WrongedMetersModel" "reason" "I", Cond.fieldLink RX7 197 "WrongedMetersModel" "cause" "I", Cond.methodLink RX7 200 yX7_plays, Cond.instanceMethod yX7_plays, Cond.selects RX7 yX7_plays yX7_plays, Cond.code yX7_plays cX7_plays 4 (some .boolean), Cond.fieldLink RX7 144 "WrongedMetersModel" "spot" "I", Cond.fieldLink RX7 184 "WrongedMetersModel" "orders" "I", Cond.methodLink RX7 187 yX7_parses, Cond.instanceMethod yX7_parses, Cond.selects RX7 yX7_parses yX7_parses, Cond.code yX7_parses cX7_parses 2 (some .boolean), Cond.fieldLink RX7 150 "WrongedMetersModel" "order" "I"]
def wsL_law_r30 : List Cond := [Cond.methodLink RX7 147 yX7_isAt, Cond.instanceMethod yX7_isAt, Cond.selects RX7 yX7_isAt yX7_isAt, Cond.code yX7_isAt cX7_isAt 3 (some .boolean), Cond.methodLink RX7 153 yX7_numbersOf, Cond.static yX7_numbersOf, Cond.code yX7_numbersOf cX7_numbersOf 1 (some .int), Cond.methodLink RX7 156 yX7_numbered, Cond.instanceMethod yX7_numbered, Cond.selects RX7 yX7_numbered yX7_numbered, Cond.code yX7_numbered cX7_numbered 3 (some .boolean), Cond.methodLink RX7 159 yX7_sign, Cond.instanceMethod yX7_sign, Cond.selects RX7 yX7_sign yX7_sign, Cond.code yX7_sign cX7_sign 3 (some .boolean), Cond.methodLink RX7 191 yX7_does, Cond.instanceMethod yX7_does, Cond.selects RX7 yX7_does yX7_does, Cond.code yX7_does cX7_does 1 (some .int), Cond.methodLink RX7 162 yX7_house, Cond.methodLink RX7 165 yX7_flow, Cond.methodLink RX7 168 yX7_lock, Cond.methodLink RX7 172 yX7_read, Cond.methodLink RX7 175 yX7_change]
def wsL_law_r31 : List Cond := [Cond.methodLink RX7 178 yX7_days, Cond.methodLink RL 105 yX6_play, Cond.instanceMethod yX6_play, Cond.selects RX6 yX6_play yX6_play, Cond.code yX6_play cX6_play 1 (some .int), Cond.constant RX6 172 (-1000002), Cond.methodLink RL 108 yX7_play, Cond.instanceMethod yX7_play, Cond.selects RX7 yX7_play yX7_play, Cond.code yX7_play cX7_play 2 (some .int)]
def wsL_law : List Cond := (wsL_law_r1 ++ (wsL_law_r2 ++ (wsL_law_r3 ++ (wsL_law_r4 ++ (wsL_law_r5 ++ (wsL_law_r6 ++ (wsL_law_r7 ++ (wsL_law_r8 ++ (wsL_law_r9 ++ (wsL_law_r10 ++ (wsL_law_r11 ++ (wsL_law_r12 ++ (wsL_law_r13 ++ (wsL_law_r14 ++ (wsL_law_r15 ++ (wsL_law_r16 ++ (wsL_law_r17 ++ (wsL_law_r18 ++ (wsL_law_r19 ++ (wsL_law_r20 ++ (wsL_law_r21 ++ (wsL_law_r22 ++ (wsL_law_r23 ++ (wsL_law_r24 ++ (wsL_law_r25 ++ (wsL_law_r26 ++ (wsL_law_r27 ++ (wsL_law_r28 ++ (wsL_law_r29 ++ (wsL_law_r30 ++ wsL_law_r31)))))))))))))))))))))))))))))) ++ wsX60 ++ wsX70 ++ wsX50 ++ wsX00 ++ wsX30 ++ wsX20 ++ wsX10 ++ wsX40 ++ ([] : List Cond)
end
section
set_option maxRecDepth 20000 in
theorem wsL_in_1 : GoodIn lw_tbl wsL_law_r1 := goodIn_p _ [62, 65] (by decide +kernel) (by decide +kernel)
set_option maxRecDepth 20000 in
theorem wsL_in_2 : GoodIn lw_tbl wsL_law_r2 := goodIn_p _ [70, 80] (by decide +kernel) (by decide +kernel)
set_option maxRecDepth 20000 in
theorem wsL_in_3 : GoodIn lw_tbl wsL_law_r3 := goodIn_p _ [97, 152, 215, 235, 655] (by decide +kernel) (by decide +kernel)
set_option maxRecDepth 20000 in
theorem wsL_in_4 : GoodIn lw_tbl wsL_law_r4 := goodIn_p _ [287, 291, 295, 299] (by decide +kernel) (by decide +kernel)
set_option maxRecDepth 20000 in
theorem wsL_in_5 : GoodIn lw_tbl wsL_law_r5 := goodIn_p _ [303] (by decide +kernel) (by decide +kernel)
set_option maxRecDepth 20000 in
theorem wsL_in_6 : GoodIn lw_tbl wsL_law_r6 := goodIn_p _ [307, 314, 320] (by decide +kernel) (by decide +kernel)
set_option maxRecDepth 20000 in
theorem wsL_in_7 : GoodIn lw_tbl wsL_law_r7 := goodIn_p _ [324, 328, 331, 335, 339, 345] (by decide +kernel) (by decide +kernel)
set_option maxRecDepth 20000 in
theorem wsL_in_8 : GoodIn lw_tbl wsL_law_r8 := goodIn_p _ [349, 353, 357, 361, 365, 369] (by decide +kernel) (by decide +kernel)
set_option maxRecDepth 20000 in
theorem wsL_in_9 : GoodIn lw_tbl wsL_law_r9 := goodIn_p _ [373, 377, 381, 385, 389, 392, 396] (by decide +kernel) (by decide +kernel)
set_option maxRecDepth 20000 in
theorem wsL_in_10 : GoodIn lw_tbl wsL_law_r10 := goodIn_p _ [400, 404, 408, 412, 416, 420] (by decide +kernel) (by decide +kernel)
set_option maxRecDepth 20000 in
theorem wsL_in_11 : GoodIn lw_tbl wsL_law_r11 := goodIn_p _ [424, 428, 709, 712, 715] (by decide +kernel) (by decide +kernel)
set_option maxRecDepth 20000 in
theorem wsL_in_12 : GoodIn lw_tbl wsL_law_r12 := goodIn_p _ [720, 724, 731, 735, 433] (by decide +kernel) (by decide +kernel)
set_option maxRecDepth 20000 in
theorem wsL_in_13 : GoodIn lw_tbl wsL_law_r13 := goodIn_p _ [739, 743, 437, 747, 442, 751] (by decide +kernel) (by decide +kernel)
set_option maxRecDepth 20000 in
theorem wsL_in_14 : GoodIn lw_tbl wsL_law_r14 := goodIn_p _ [755, 759, 763, 768, 772, 776] (by decide +kernel) (by decide +kernel)
set_option maxRecDepth 20000 in
theorem wsL_in_15 : GoodIn lw_tbl wsL_law_r15 := goodIn_p _ [780, 446, 784, 450, 788, 792] (by decide +kernel) (by decide +kernel)
set_option maxRecDepth 20000 in
theorem wsL_in_16 : GoodIn lw_tbl wsL_law_r16 := goodIn_p _ [796, 800, 804, 808, 812, 816] (by decide +kernel) (by decide +kernel)
set_option maxRecDepth 20000 in
theorem wsL_in_17 : GoodIn lw_tbl wsL_law_r17 := goodIn_p _ [454, 458, 820, 823, 826, 466] (by decide +kernel) (by decide +kernel)
set_option maxRecDepth 20000 in
theorem wsL_in_18 : GoodIn lw_tbl wsL_law_r18 := goodIn_p _ [472, 830, 479, 834] (by decide +kernel) (by decide +kernel)
set_option maxRecDepth 20000 in
theorem wsL_in_19 : GoodIn lw_tbl wsL_law_r19 := goodIn_p _ [488, 492, 838, 499, 503] (by decide +kernel) (by decide +kernel)
set_option maxRecDepth 20000 in
theorem wsL_in_20 : GoodIn lw_tbl wsL_law_r20 := goodIn_p _ [842, 509, 846, 514, 850] (by decide +kernel) (by decide +kernel)
set_option maxRecDepth 20000 in
theorem wsL_in_21 : GoodIn lw_tbl wsL_law_r21 := goodIn_p _ [520, 524, 528, 854, 533] (by decide +kernel) (by decide +kernel)
set_option maxRecDepth 20000 in
theorem wsL_in_22 : GoodIn lw_tbl wsL_law_r22 := goodIn_p _ [538, 858, 861, 542, 865, 547] (by decide +kernel) (by decide +kernel)
set_option maxRecDepth 20000 in
theorem wsL_in_23 : GoodIn lw_tbl wsL_law_r23 := goodIn_p _ [551, 554, 557, 869, 872] (by decide +kernel) (by decide +kernel)
set_option maxRecDepth 20000 in
theorem wsL_in_24 : GoodIn lw_tbl wsL_law_r24 := goodIn_p _ [875, 563, 567, 571, 575, 579] (by decide +kernel) (by decide +kernel)
set_option maxRecDepth 20000 in
theorem wsL_in_25 : GoodIn lw_tbl wsL_law_r25 := goodIn_p _ [883, 887, 891, 895, 583, 587] (by decide +kernel) (by decide +kernel)
set_option maxRecDepth 20000 in
theorem wsL_in_26 : GoodIn lw_tbl wsL_law_r26 := goodIn_p _ [899, 592, 596, 903, 602] (by decide +kernel) (by decide +kernel)
set_option maxRecDepth 20000 in
theorem wsL_in_27 : GoodIn lw_tbl wsL_law_r27 := goodIn_p _ [606, 907, 610, 614] (by decide +kernel) (by decide +kernel)
set_option maxRecDepth 20000 in
theorem wsL_in_28 : GoodIn lw_tbl wsL_law_r28 := goodIn_p _ [618, 622, 625, 629, 635, 632, 639] (by decide +kernel) (by decide +kernel)
set_option maxRecDepth 20000 in
theorem wsL_in_29 : GoodIn lw_tbl wsL_law_r29 := goodIn_p _ [644, 911, 915, 919] (by decide +kernel) (by decide +kernel)
set_option maxRecDepth 20000 in
theorem wsL_in_30 : GoodIn lw_tbl wsL_law_r30 := goodIn_p _ [923, 926, 930, 934, 938] (by decide +kernel) (by decide +kernel)
set_option maxRecDepth 20000 in
theorem wsL_in_31 : GoodIn lw_tbl wsL_law_r31 := goodIn_p _ [649, 948] (by decide +kernel) (by decide +kernel)
set_option maxRecDepth 20000 in
theorem wsX_in_60 : GoodIn lw_tbl wsX60 := goodIn_p _ [] (by decide +kernel) (by decide +kernel)
set_option maxRecDepth 20000 in
theorem wsX_in_70 : GoodIn lw_tbl wsX70 := goodIn_p _ [] (by decide +kernel) (by decide +kernel)
set_option maxRecDepth 20000 in
theorem wsX_in_50 : GoodIn lw_tbl wsX50 := goodIn_p _ [] (by decide +kernel) (by decide +kernel)
set_option maxRecDepth 20000 in
theorem wsX_in_00 : GoodIn lw_tbl wsX00 := goodIn_p _ [] (by decide +kernel) (by decide +kernel)
set_option maxRecDepth 20000 in
theorem wsX_in_30 : GoodIn lw_tbl wsX30 := goodIn_p _ [] (by decide +kernel) (by decide +kernel)
set_option maxRecDepth 20000 in
theorem wsX_in_20 : GoodIn lw_tbl wsX20 := goodIn_p _ [] (by decide +kernel) (by decide +kernel)
set_option maxRecDepth 20000 in
theorem wsX_in_10 : GoodIn lw_tbl wsX10 := goodIn_p _ [] (by decide +kernel) (by decide +kernel)
set_option maxRecDepth 20000 in
theorem wsX_in_40 : GoodIn lw_tbl wsX40 := goodIn_p _ [] (by decide +kernel) (by decide +kernel)
theorem wsL_law_good : GoodIn lw_tbl wsL_law := (goodIn_app (goodIn_app (goodIn_app (goodIn_app (goodIn_app (goodIn_app (goodIn_app (goodIn_app (goodIn_app (goodIn_app wsL_in_1 (goodIn_app wsL_in_2 (goodIn_app wsL_in_3 (goodIn_app wsL_in_4 (goodIn_app wsL_in_5 (goodIn_app wsL_in_6 (goodIn_app wsL_in_7 (goodIn_app wsL_in_8 (goodIn_app wsL_in_9 (goodIn_app wsL_in_10 (goodIn_app wsL_in_11 (goodIn_app wsL_in_12 (goodIn_app wsL_in_13 (goodIn_app wsL_in_14 (goodIn_app wsL_in_15 (goodIn_app wsL_in_16 (goodIn_app wsL_in_17 (goodIn_app wsL_in_18 (goodIn_app wsL_in_19 (goodIn_app wsL_in_20 (goodIn_app wsL_in_21 (goodIn_app wsL_in_22 (goodIn_app wsL_in_23 (goodIn_app wsL_in_24 (goodIn_app wsL_in_25 (goodIn_app wsL_in_26 (goodIn_app wsL_in_27 (goodIn_app wsL_in_28 (goodIn_app wsL_in_29 (goodIn_app wsL_in_30 (wsL_in_31))))))))))))))))))))))))))))))) wsX_in_60) wsX_in_70) wsX_in_50) wsX_in_00) wsX_in_30) wsX_in_20) wsX_in_10) wsX_in_40) (fun _ h => absurd h List.not_mem_nil))
theorem wsL_law_in : ∀ w ∈ wsL_law, w ∈ lw_tbl := fun w h => (wsL_law_good w h).1
theorem inlX0 : ∀ w ∈ wsX00, w ∈ wsL_law := fun _ h => List.mem_append_left _ (List.mem_append_left _ (List.mem_append_left _ (List.mem_append_left _ (List.mem_append_left _ (List.mem_append_right _ h)))))
theorem inX0 : ∀ w ∈ wsX00, w ∈ lw_tbl := fun w h => wsL_law_in w (inlX0 w h)
theorem inlX1 : ∀ w ∈ wsX10, w ∈ wsL_law := fun _ h => List.mem_append_left _ (List.mem_append_left _ (List.mem_append_right _ h))
theorem inX1 : ∀ w ∈ wsX10, w ∈ lw_tbl := fun w h => wsL_law_in w (inlX1 w h)
theorem inlX2 : ∀ w ∈ wsX20, w ∈ wsL_law := fun _ h => List.mem_append_left _ (List.mem_append_left _ (List.mem_append_left _ (List.mem_append_right _ h)))
theorem inX2 : ∀ w ∈ wsX20, w ∈ lw_tbl := fun w h => wsL_law_in w (inlX2 w h)
theorem inlX3 : ∀ w ∈ wsX30, w ∈ wsL_law := fun _ h => List.mem_append_left _ (List.mem_append_left _ (List.mem_append_left _ (List.mem_append_left _ (List.mem_append_right _ h))))
theorem inX3 : ∀ w ∈ wsX30, w ∈ lw_tbl := fun w h => wsL_law_in w (inlX3 w h)
theorem inlX4 : ∀ w ∈ wsX40, w ∈ wsL_law := fun _ h => List.mem_append_left _ (List.mem_append_right _ h)
theorem inX4 : ∀ w ∈ wsX40, w ∈ lw_tbl := fun w h => wsL_law_in w (inlX4 w h)
theorem inlX5 : ∀ w ∈ wsX50, w ∈ wsL_law := fun _ h => List.mem_append_left _ (List.mem_append_left _ (List.mem_append_left _ (List.mem_append_left _ (List.mem_append_left _ (List.mem_append_left _ (List.mem_append_right _ h))))))
theorem inX5 : ∀ w ∈ wsX50, w ∈ lw_tbl := fun w h => wsL_law_in w (inlX5 w h)
theorem inlX6 : ∀ w ∈ wsX60, w ∈ wsL_law := fun _ h => List.mem_append_left _ (List.mem_append_left _ (List.mem_append_left _ (List.mem_append_left _ (List.mem_append_left _ (List.mem_append_left _ (List.mem_append_left _ (List.mem_append_left _ (List.mem_append_right _ h))))))))
theorem inX6 : ∀ w ∈ wsX60, w ∈ lw_tbl := fun w h => wsL_law_in w (inlX6 w h)
theorem inlX7 : ∀ w ∈ wsX70, w ∈ wsL_law := fun _ h => List.mem_append_left _ (List.mem_append_left _ (List.mem_append_left _ (List.mem_append_left _ (List.mem_append_left _ (List.mem_append_left _ (List.mem_append_left _ (List.mem_append_right _ h)))))))
theorem inX7 : ∀ w ∈ wsX70, w ∈ lw_tbl := fun w h => wsL_law_in w (inlX7 w h)
theorem inJxf58ca : ∀ w ∈ wsJxf58ca0, w ∈ lw_tbl := by decide +kernel
theorem inJ9 : ∀ w ∈ wsJ90, w ∈ lw_tbl := by decide +kernel
theorem inJ10 : ∀ w ∈ wsJ100, w ∈ lw_tbl := by decide +kernel
set_option maxRecDepth 20000 in
theorem ggX0_init_X5_init : GoodIn wsX0_init wsX5_init := goodIn_r _ [10, 11, 2, 3, 12, 13, 14, 15, 16, 17, 18, 19, 20, 21, 22, 23, 24, 25, 26, 27, 28, 29, 30, 31, 32, 33, 34, 35, 36, 37, 38, 39, 43, 44, 45, 46, 47, 48, 49, 50, 51, 52, 53, 54, 55, 56, 57, 58, 59, 60, 61, 62, 63, 64, 65, 66, 67, 68, 69, 70, 71, 72, 73, 74] (by decide +kernel) (by decide +kernel)
abbrev vwCl : List vw_C := [(RX0, TX0, 3), (RX1, TX1, 14), (RX2, TX2, 3), (RX3, TX3, 10), (RX4, TX4, 2), (RX5, TX5, 13), (RX6, TX6, 4), (RX7, TX7, 16)]
/-! ===== END printed: names ===== -/
end
section
set_option maxRecDepth 20000 in
theorem gX0_init_X5_init : GoodIn wsX0_init (wsX5_init) := ggX0_init_X5_init
theorem dX0_init_0 : decode cX0_init 0 = .ok (.aload_n 0, 1) := by decide +kernel
theorem dX0_init_1 : decode cX0_init 1 = .ok (.invokespecial 5, 3) := by decide +kernel
theorem dX0_init_4 : decode cX0_init 4 = .ok (.aload_n 0, 1) := by decide +kernel
theorem dX0_init_5 : decode cX0_init 5 = .ok (.iconst 5, 1) := by decide +kernel
theorem dX0_init_6 : decode cX0_init 6 = .ok (.anewarray 11, 3) := by decide +kernel
theorem dX0_init_9 : decode cX0_init 9 = .ok (.putfield 13, 3) := by decide +kernel
theorem dX0_init_12 : decode cX0_init 12 = .ok (.iconst 0, 1) := by decide +kernel
theorem dX0_init_13 : decode cX0_init 13 = .ok (.istore_n 1, 1) := by decide +kernel
theorem dX0_init_14 : decode cX0_init 14 = .ok (.iload_n 1, 1) := by decide +kernel
theorem dX0_init_15 : decode cX0_init 15 = .ok (.iconst 5, 1) := by decide +kernel
theorem dX0_init_16 : decode cX0_init 16 = .ok (.if_icmp .ge 22, 3) := by decide +kernel
theorem dX0_init_19 : decode cX0_init 19 = .ok (.aload_n 0, 1) := by decide +kernel
theorem dX0_init_20 : decode cX0_init 20 = .ok (.getfield 13, 3) := by decide +kernel
theorem dX0_init_23 : decode cX0_init 23 = .ok (.iload_n 1, 1) := by decide +kernel
theorem dX0_init_24 : decode cX0_init 24 = .ok (.new 11, 3) := by decide +kernel
theorem dX0_init_27 : decode cX0_init 27 = .ok (.dup, 1) := by decide +kernel
theorem dX0_init_28 : decode cX0_init 28 = .ok (.invokespecial 17, 3) := by decide +kernel
theorem dX0_init_31 : decode cX0_init 31 = .ok (.aastore, 1) := by decide +kernel
theorem dX0_init_32 : decode cX0_init 32 = .ok (.iinc 1 1, 3) := by decide +kernel
theorem dX0_init_35 : decode cX0_init 35 = .ok (.goto (-21), 3) := by decide +kernel
theorem dX0_init_38 : decode cX0_init 38 = .ok (.return_, 1) := by decide +kernel
set_option maxRecDepth 20000 in
theorem ggX0_record_X5_copyFrom : GoodIn wsX0_record wsX5_copyFrom := goodIn_r _ [7, 8, 9, 10, 11, 12, 13, 14, 15, 16, 17, 18, 19, 20, 21, 22, 23, 24, 25, 26, 27, 28, 29, 30, 31, 32, 33, 34, 35, 36, 37, 38, 39, 40, 41, 42, 43, 44, 45, 46, 47, 48, 49, 50, 51, 52, 53, 54, 55, 56, 57, 58, 59, 60, 64, 65, 66, 67, 68, 69, 70, 71, 72, 73, 74, 75, 76, 77, 78, 79, 80, 81, 82, 83, 84, 85, 86, 87, 88, 89, 90, 91, 92, 93, 94, 95] (by decide +kernel) (by decide +kernel)
set_option maxRecDepth 20000 in
theorem gX0_record_X5_copyFrom : GoodIn wsX0_record (wsV RX0 22 RX5 yX5_copyFrom wsX5_copyFrom) := goodIn_app (goodIn_of _ (by decide +kernel)) ggX0_record_X5_copyFrom
theorem dX0_record_0 : decode cX0_record 0 = .ok (.aload_n 0, 1) := by decide +kernel
theorem dX0_record_1 : decode cX0_record 1 = .ok (.getfield 13, 3) := by decide +kernel
theorem dX0_record_4 : decode cX0_record 4 = .ok (.aload_n 0, 1) := by decide +kernel
theorem dX0_record_5 : decode cX0_record 5 = .ok (.getfield 18, 3) := by decide +kernel
theorem dX0_record_8 : decode cX0_record 8 = .ok (.aaload, 1) := by decide +kernel
theorem dX0_record_9 : decode cX0_record 9 = .ok (.aload_n 1, 1) := by decide +kernel
theorem dX0_record_10 : decode cX0_record 10 = .ok (.invokevirtual 22, 3) := by decide +kernel
theorem dX0_record_13 : decode cX0_record 13 = .ok (.return_, 1) := by decide +kernel
theorem dX0_keep_0 : decode cX0_keep 0 = .ok (.aload_n 0, 1) := by decide +kernel
theorem dX0_keep_1 : decode cX0_keep 1 = .ok (.aload_n 0, 1) := by decide +kernel
theorem dX0_keep_2 : decode cX0_keep 2 = .ok (.getfield 18, 3) := by decide +kernel
theorem dX0_keep_5 : decode cX0_keep 5 = .ok (.iconst 1, 1) := by decide +kernel
theorem dX0_keep_6 : decode cX0_keep 6 = .ok (.iadd, 1) := by decide +kernel
theorem dX0_keep_7 : decode cX0_keep 7 = .ok (.iconst 5, 1) := by decide +kernel
theorem dX0_keep_8 : decode cX0_keep 8 = .ok (.irem, 1) := by decide +kernel
theorem dX0_keep_9 : decode cX0_keep 9 = .ok (.putfield 18, 3) := by decide +kernel
theorem dX0_keep_12 : decode cX0_keep 12 = .ok (.aload_n 0, 1) := by decide +kernel
theorem dX0_keep_13 : decode cX0_keep 13 = .ok (.aload_n 0, 1) := by decide +kernel
theorem dX0_keep_14 : decode cX0_keep 14 = .ok (.getfield 26, 3) := by decide +kernel
theorem dX0_keep_17 : decode cX0_keep 17 = .ok (.iconst 1, 1) := by decide +kernel
theorem dX0_keep_18 : decode cX0_keep 18 = .ok (.iadd, 1) := by decide +kernel
theorem dX0_keep_19 : decode cX0_keep 19 = .ok (.iconst 4, 1) := by decide +kernel
theorem dX0_keep_20 : decode cX0_keep 20 = .ok (.invokestatic 29, 3) := by decide +kernel
theorem dX0_keep_23 : decode cX0_keep 23 = .ok (.putfield 26, 3) := by decide +kernel
theorem dX0_keep_26 : decode cX0_keep 26 = .ok (.return_, 1) := by decide +kernel
set_option maxRecDepth 20000 in
theorem ggX0_restore_X5_copyFrom : GoodIn wsX0_restore wsX5_copyFrom := goodIn_r _ [9, 10, 11, 12, 13, 14, 15, 16, 17, 18, 19, 20, 21, 22, 23, 24, 25, 26, 27, 28, 29, 30, 31, 32, 33, 34, 35, 36, 37, 38, 39, 40, 41, 42, 43, 44, 45, 46, 47, 48, 49, 50, 51, 52, 53, 54, 55, 56, 57, 58, 59, 60, 61, 62, 66, 67, 68, 69, 70, 71, 72, 73, 74, 75, 76, 77, 78, 79, 80, 81, 82, 83, 84, 85, 86, 87, 88, 89, 90, 91, 92, 93, 94, 95, 96, 97] (by decide +kernel) (by decide +kernel)
set_option maxRecDepth 20000 in
theorem gX0_restore_X5_copyFrom : GoodIn wsX0_restore (wsV RX0 22 RX5 yX5_copyFrom wsX5_copyFrom) := goodIn_app (goodIn_of _ (by decide +kernel)) ggX0_restore_X5_copyFrom
theorem dX0_restore_0 : decode cX0_restore 0 = .ok (.aload_n 0, 1) := by decide +kernel
theorem dX0_restore_1 : decode cX0_restore 1 = .ok (.getfield 26, 3) := by decide +kernel
theorem dX0_restore_4 : decode cX0_restore 4 = .ok (.ifCond .gt 6, 3) := by decide +kernel
theorem dX0_restore_7 : decode cX0_restore 7 = .ok (.ldc 35, 2) := by decide +kernel
theorem dX0_restore_9 : decode cX0_restore 9 = .ok (.ireturn, 1) := by decide +kernel
theorem dX0_restore_10 : decode cX0_restore 10 = .ok (.aload_n 0, 1) := by decide +kernel
theorem dX0_restore_11 : decode cX0_restore 11 = .ok (.dup, 1) := by decide +kernel
theorem dX0_restore_12 : decode cX0_restore 12 = .ok (.getfield 26, 3) := by decide +kernel
theorem dX0_restore_15 : decode cX0_restore 15 = .ok (.iconst 1, 1) := by decide +kernel
theorem dX0_restore_16 : decode cX0_restore 16 = .ok (.isub, 1) := by decide +kernel
theorem dX0_restore_17 : decode cX0_restore 17 = .ok (.putfield 26, 3) := by decide +kernel
theorem dX0_restore_20 : decode cX0_restore 20 = .ok (.aload_n 0, 1) := by decide +kernel
theorem dX0_restore_21 : decode cX0_restore 21 = .ok (.aload_n 0, 1) := by decide +kernel
theorem dX0_restore_22 : decode cX0_restore 22 = .ok (.getfield 18, 3) := by decide +kernel
theorem dX0_restore_25 : decode cX0_restore 25 = .ok (.iconst 5, 1) := by decide +kernel
theorem dX0_restore_26 : decode cX0_restore 26 = .ok (.iadd, 1) := by decide +kernel
theorem dX0_restore_27 : decode cX0_restore 27 = .ok (.iconst 1, 1) := by decide +kernel
theorem dX0_restore_28 : decode cX0_restore 28 = .ok (.isub, 1) := by decide +kernel
theorem dX0_restore_29 : decode cX0_restore 29 = .ok (.iconst 5, 1) := by decide +kernel
theorem dX0_restore_30 : decode cX0_restore 30 = .ok (.irem, 1) := by decide +kernel
theorem dX0_restore_31 : decode cX0_restore 31 = .ok (.putfield 18, 3) := by decide +kernel
theorem dX0_restore_34 : decode cX0_restore 34 = .ok (.aload_n 1, 1) := by decide +kernel
theorem dX0_restore_35 : decode cX0_restore 35 = .ok (.aload_n 0, 1) := by decide +kernel
theorem dX0_restore_36 : decode cX0_restore 36 = .ok (.getfield 13, 3) := by decide +kernel
theorem dX0_restore_39 : decode cX0_restore 39 = .ok (.aload_n 0, 1) := by decide +kernel
theorem dX0_restore_40 : decode cX0_restore 40 = .ok (.getfield 18, 3) := by decide +kernel
theorem dX0_restore_43 : decode cX0_restore 43 = .ok (.aaload, 1) := by decide +kernel
theorem dX0_restore_44 : decode cX0_restore 44 = .ok (.invokevirtual 22, 3) := by decide +kernel
theorem dX0_restore_47 : decode cX0_restore 47 = .ok (.aload_n 0, 1) := by decide +kernel
theorem dX0_restore_48 : decode cX0_restore 48 = .ok (.getfield 26, 3) := by decide +kernel
theorem dX0_restore_51 : decode cX0_restore 51 = .ok (.ireturn, 1) := by decide +kernel
theorem dX1_init_0 : decode cX1_init 0 = .ok (.aload_n 0, 1) := by decide +kernel
theorem dX1_init_1 : decode cX1_init 1 = .ok (.invokespecial 3, 3) := by decide +kernel
theorem dX1_init_4 : decode cX1_init 4 = .ok (.aload_n 0, 1) := by decide +kernel
theorem dX1_init_5 : decode cX1_init 5 = .ok (.iconst (-1), 1) := by decide +kernel
theorem dX1_init_6 : decode cX1_init 6 = .ok (.putfield 9, 3) := by decide +kernel
theorem dX1_init_9 : decode cX1_init 9 = .ok (.return_, 1) := by decide +kernel
theorem dX1_copyFrom_0 : decode cX1_copyFrom 0 = .ok (.aload_n 0, 1) := by decide +kernel
theorem dX1_copyFrom_1 : decode cX1_copyFrom 1 = .ok (.aload_n 1, 1) := by decide +kernel
theorem dX1_copyFrom_2 : decode cX1_copyFrom 2 = .ok (.getfield 15, 3) := by decide +kernel
theorem dX1_copyFrom_5 : decode cX1_copyFrom 5 = .ok (.putfield 15, 3) := by decide +kernel
theorem dX1_copyFrom_8 : decode cX1_copyFrom 8 = .ok (.aload_n 0, 1) := by decide +kernel
theorem dX1_copyFrom_9 : decode cX1_copyFrom 9 = .ok (.aload_n 1, 1) := by decide +kernel
theorem dX1_copyFrom_10 : decode cX1_copyFrom 10 = .ok (.getfield 18, 3) := by decide +kernel
theorem dX1_copyFrom_13 : decode cX1_copyFrom 13 = .ok (.putfield 18, 3) := by decide +kernel
theorem dX1_copyFrom_16 : decode cX1_copyFrom 16 = .ok (.aload_n 0, 1) := by decide +kernel
theorem dX1_copyFrom_17 : decode cX1_copyFrom 17 = .ok (.aload_n 1, 1) := by decide +kernel
theorem dX1_copyFrom_18 : decode cX1_copyFrom 18 = .ok (.getfield 21, 3) := by decide +kernel
theorem dX1_copyFrom_21 : decode cX1_copyFrom 21 = .ok (.putfield 21, 3) := by decide +kernel
theorem dX1_copyFrom_24 : decode cX1_copyFrom 24 = .ok (.aload_n 0, 1) := by decide +kernel
theorem dX1_copyFrom_25 : decode cX1_copyFrom 25 = .ok (.aload_n 1, 1) := by decide +kernel
theorem dX1_copyFrom_26 : decode cX1_copyFrom 26 = .ok (.getfield 24, 3) := by decide +kernel
theorem dX1_copyFrom_29 : decode cX1_copyFrom 29 = .ok (.putfield 24, 3) := by decide +kernel
theorem dX1_copyFrom_32 : decode cX1_copyFrom 32 = .ok (.aload_n 0, 1) := by decide +kernel
theorem dX1_copyFrom_33 : decode cX1_copyFrom 33 = .ok (.aload_n 1, 1) := by decide +kernel
theorem dX1_copyFrom_34 : decode cX1_copyFrom 34 = .ok (.getfield 27, 3) := by decide +kernel
theorem dX1_copyFrom_37 : decode cX1_copyFrom 37 = .ok (.putfield 27, 3) := by decide +kernel
theorem dX1_copyFrom_40 : decode cX1_copyFrom 40 = .ok (.aload_n 0, 1) := by decide +kernel
theorem dX1_copyFrom_41 : decode cX1_copyFrom 41 = .ok (.aload_n 1, 1) := by decide +kernel
theorem dX1_copyFrom_42 : decode cX1_copyFrom 42 = .ok (.getfield 30, 3) := by decide +kernel
theorem dX1_copyFrom_45 : decode cX1_copyFrom 45 = .ok (.putfield 30, 3) := by decide +kernel
theorem dX1_copyFrom_48 : decode cX1_copyFrom 48 = .ok (.aload_n 0, 1) := by decide +kernel
theorem dX1_copyFrom_49 : decode cX1_copyFrom 49 = .ok (.aload_n 1, 1) := by decide +kernel
theorem dX1_copyFrom_50 : decode cX1_copyFrom 50 = .ok (.getfield 34, 3) := by decide +kernel
theorem dX1_copyFrom_53 : decode cX1_copyFrom 53 = .ok (.putfield 34, 3) := by decide +kernel
theorem dX1_copyFrom_56 : decode cX1_copyFrom 56 = .ok (.aload_n 0, 1) := by decide +kernel
theorem dX1_copyFrom_57 : decode cX1_copyFrom 57 = .ok (.aload_n 1, 1) := by decide +kernel
theorem dX1_copyFrom_58 : decode cX1_copyFrom 58 = .ok (.getfield 9, 3) := by decide +kernel
theorem dX1_copyFrom_61 : decode cX1_copyFrom 61 = .ok (.putfield 9, 3) := by decide +kernel
theorem dX1_copyFrom_64 : decode cX1_copyFrom 64 = .ok (.aload_n 0, 1) := by decide +kernel
theorem dX1_copyFrom_65 : decode cX1_copyFrom 65 = .ok (.aload_n 1, 1) := by decide +kernel
theorem dX1_copyFrom_66 : decode cX1_copyFrom 66 = .ok (.getfield 37, 3) := by decide +kernel
theorem dX1_copyFrom_69 : decode cX1_copyFrom 69 = .ok (.putfield 37, 3) := by decide +kernel
theorem dX1_copyFrom_72 : decode cX1_copyFrom 72 = .ok (.aload_n 0, 1) := by decide +kernel
theorem dX1_copyFrom_73 : decode cX1_copyFrom 73 = .ok (.aload_n 1, 1) := by decide +kernel
theorem dX1_copyFrom_74 : decode cX1_copyFrom 74 = .ok (.getfield 40, 3) := by decide +kernel
theorem dX1_copyFrom_77 : decode cX1_copyFrom 77 = .ok (.putfield 40, 3) := by decide +kernel
theorem dX1_copyFrom_80 : decode cX1_copyFrom 80 = .ok (.aload_n 0, 1) := by decide +kernel
theorem dX1_copyFrom_81 : decode cX1_copyFrom 81 = .ok (.aload_n 1, 1) := by decide +kernel
theorem dX1_copyFrom_82 : decode cX1_copyFrom 82 = .ok (.getfield 43, 3) := by decide +kernel
theorem dX1_copyFrom_85 : decode cX1_copyFrom 85 = .ok (.putfield 43, 3) := by decide +kernel
theorem dX1_copyFrom_88 : decode cX1_copyFrom 88 = .ok (.aload_n 0, 1) := by decide +kernel
theorem dX1_copyFrom_89 : decode cX1_copyFrom 89 = .ok (.aload_n 1, 1) := by decide +kernel
theorem dX1_copyFrom_90 : decode cX1_copyFrom 90 = .ok (.getfield 46, 3) := by decide +kernel
theorem dX1_copyFrom_93 : decode cX1_copyFrom 93 = .ok (.putfield 46, 3) := by decide +kernel
theorem dX1_copyFrom_96 : decode cX1_copyFrom 96 = .ok (.aload_n 0, 1) := by decide +kernel
theorem dX1_copyFrom_97 : decode cX1_copyFrom 97 = .ok (.aload_n 1, 1) := by decide +kernel
theorem dX1_copyFrom_98 : decode cX1_copyFrom 98 = .ok (.getfield 49, 3) := by decide +kernel
theorem dX1_copyFrom_101 : decode cX1_copyFrom 101 = .ok (.putfield 49, 3) := by decide +kernel
theorem dX1_copyFrom_104 : decode cX1_copyFrom 104 = .ok (.aload_n 0, 1) := by decide +kernel
theorem dX1_copyFrom_105 : decode cX1_copyFrom 105 = .ok (.aload_n 1, 1) := by decide +kernel
theorem dX1_copyFrom_106 : decode cX1_copyFrom 106 = .ok (.getfield 52, 3) := by decide +kernel
theorem dX1_copyFrom_109 : decode cX1_copyFrom 109 = .ok (.putfield 52, 3) := by decide +kernel
theorem dX1_copyFrom_112 : decode cX1_copyFrom 112 = .ok (.return_, 1) := by decide +kernel
theorem dX1_used_0 : decode cX1_used 0 = .ok (.aload_n 0, 1) := by decide +kernel
theorem dX1_used_1 : decode cX1_used 1 = .ok (.getfield 21, 3) := by decide +kernel
theorem dX1_used_4 : decode cX1_used 4 = .ok (.aload_n 0, 1) := by decide +kernel
theorem dX1_used_5 : decode cX1_used 5 = .ok (.getfield 24, 3) := by decide +kernel
theorem dX1_used_8 : decode cX1_used 8 = .ok (.if_icmp .lt 15, 3) := by decide +kernel
theorem dX1_used_11 : decode cX1_used 11 = .ok (.aload_n 0, 1) := by decide +kernel
theorem dX1_used_12 : decode cX1_used 12 = .ok (.getfield 21, 3) := by decide +kernel
theorem dX1_used_15 : decode cX1_used 15 = .ok (.aload_n 0, 1) := by decide +kernel
theorem dX1_used_16 : decode cX1_used 16 = .ok (.getfield 24, 3) := by decide +kernel
theorem dX1_used_19 : decode cX1_used 19 = .ok (.isub, 1) := by decide +kernel
theorem dX1_used_20 : decode cX1_used 20 = .ok (.goto 15, 3) := by decide +kernel
theorem dX1_used_23 : decode cX1_used 23 = .ok (.aload_n 0, 1) := by decide +kernel
theorem dX1_used_24 : decode cX1_used 24 = .ok (.getfield 21, 3) := by decide +kernel
theorem dX1_used_27 : decode cX1_used 27 = .ok (.aload_n 0, 1) := by decide +kernel
theorem dX1_used_28 : decode cX1_used 28 = .ok (.getfield 24, 3) := by decide +kernel
theorem dX1_used_31 : decode cX1_used 31 = .ok (.isub, 1) := by decide +kernel
theorem dX1_used_32 : decode cX1_used 32 = .ok (.ldc 55, 2) := by decide +kernel
theorem dX1_used_34 : decode cX1_used 34 = .ok (.iadd, 1) := by decide +kernel
theorem dX1_used_35 : decode cX1_used 35 = .ok (.ireturn, 1) := by decide +kernel
theorem dX1_reasonOn_0 : decode cX1_reasonOn 0 = .ok (.aload_n 0, 1) := by decide +kernel
theorem dX1_reasonOn_1 : decode cX1_reasonOn 1 = .ok (.getfield 30, 3) := by decide +kernel
theorem dX1_reasonOn_4 : decode cX1_reasonOn 4 = .ok (.ifCond .eq 7, 3) := by decide +kernel
theorem dX1_reasonOn_7 : decode cX1_reasonOn 7 = .ok (.iconst 1, 1) := by decide +kernel
theorem dX1_reasonOn_8 : decode cX1_reasonOn 8 = .ok (.goto 16, 3) := by decide +kernel
theorem dX1_reasonOn_11 : decode cX1_reasonOn 11 = .ok (.aload_n 0, 1) := by decide +kernel
theorem dX1_reasonOn_12 : decode cX1_reasonOn 12 = .ok (.getfield 9, 3) := by decide +kernel
theorem dX1_reasonOn_15 : decode cX1_reasonOn 15 = .ok (.iload_n 1, 1) := by decide +kernel
theorem dX1_reasonOn_16 : decode cX1_reasonOn 16 = .ok (.if_icmp .ne 7, 3) := by decide +kernel
theorem dX1_reasonOn_19 : decode cX1_reasonOn 19 = .ok (.iconst 2, 1) := by decide +kernel
theorem dX1_reasonOn_20 : decode cX1_reasonOn 20 = .ok (.goto 4, 3) := by decide +kernel
theorem dX1_reasonOn_23 : decode cX1_reasonOn 23 = .ok (.iconst 0, 1) := by decide +kernel
theorem dX1_reasonOn_24 : decode cX1_reasonOn 24 = .ok (.ireturn, 1) := by decide +kernel
theorem dX1_goOn_0 : decode cX1_goOn 0 = .ok (.aload_n 0, 1) := by decide +kernel
theorem dX1_goOn_1 : decode cX1_goOn 1 = .ok (.dup, 1) := by decide +kernel
theorem dX1_goOn_2 : decode cX1_goOn 2 = .ok (.getfield 21, 3) := by decide +kernel
theorem dX1_goOn_5 : decode cX1_goOn 5 = .ok (.aload_n 0, 1) := by decide +kernel
theorem dX1_goOn_6 : decode cX1_goOn 6 = .ok (.getfield 27, 3) := by decide +kernel
theorem dX1_goOn_9 : decode cX1_goOn 9 = .ok (.iadd, 1) := by decide +kernel
theorem dX1_goOn_10 : decode cX1_goOn 10 = .ok (.putfield 21, 3) := by decide +kernel
theorem dX1_goOn_13 : decode cX1_goOn 13 = .ok (.aload_n 0, 1) := by decide +kernel
theorem dX1_goOn_14 : decode cX1_goOn 14 = .ok (.getfield 21, 3) := by decide +kernel
theorem dX1_goOn_17 : decode cX1_goOn 17 = .ok (.ldc 55, 2) := by decide +kernel
theorem dX1_goOn_19 : decode cX1_goOn 19 = .ok (.if_icmp .lt 14, 3) := by decide +kernel
theorem dX1_goOn_22 : decode cX1_goOn 22 = .ok (.aload_n 0, 1) := by decide +kernel
theorem dX1_goOn_23 : decode cX1_goOn 23 = .ok (.dup, 1) := by decide +kernel
theorem dX1_goOn_24 : decode cX1_goOn 24 = .ok (.getfield 21, 3) := by decide +kernel
theorem dX1_goOn_27 : decode cX1_goOn 27 = .ok (.ldc 55, 2) := by decide +kernel
theorem dX1_goOn_29 : decode cX1_goOn 29 = .ok (.isub, 1) := by decide +kernel
theorem dX1_goOn_30 : decode cX1_goOn 30 = .ok (.putfield 21, 3) := by decide +kernel
theorem dX1_goOn_33 : decode cX1_goOn 33 = .ok (.return_, 1) := by decide +kernel
theorem dX1_settle_0 : decode cX1_settle 0 = .ok (.aload_n 0, 1) := by decide +kernel
theorem dX1_settle_1 : decode cX1_settle 1 = .ok (.dup, 1) := by decide +kernel
theorem dX1_settle_2 : decode cX1_settle 2 = .ok (.getfield 34, 3) := by decide +kernel
theorem dX1_settle_5 : decode cX1_settle 5 = .ok (.bipush 100, 2) := by decide +kernel
theorem dX1_settle_7 : decode cX1_settle 7 = .ok (.iload_n 3, 1) := by decide +kernel
theorem dX1_settle_8 : decode cX1_settle 8 = .ok (.imul, 1) := by decide +kernel
theorem dX1_settle_9 : decode cX1_settle 9 = .ok (.iload_n 2, 1) := by decide +kernel
theorem dX1_settle_10 : decode cX1_settle 10 = .ok (.isub, 1) := by decide +kernel
theorem dX1_settle_11 : decode cX1_settle 11 = .ok (.iadd, 1) := by decide +kernel
theorem dX1_settle_12 : decode cX1_settle 12 = .ok (.putfield 34, 3) := by decide +kernel
theorem dX1_settle_15 : decode cX1_settle 15 = .ok (.aload_n 0, 1) := by decide +kernel
theorem dX1_settle_16 : decode cX1_settle 16 = .ok (.aload_n 0, 1) := by decide +kernel
theorem dX1_settle_17 : decode cX1_settle 17 = .ok (.getfield 21, 3) := by decide +kernel
theorem dX1_settle_20 : decode cX1_settle 20 = .ok (.putfield 24, 3) := by decide +kernel
theorem dX1_settle_23 : decode cX1_settle 23 = .ok (.aload_n 0, 1) := by decide +kernel
theorem dX1_settle_24 : decode cX1_settle 24 = .ok (.iload_n 1, 1) := by decide +kernel
theorem dX1_settle_25 : decode cX1_settle 25 = .ok (.putfield 9, 3) := by decide +kernel
theorem dX1_settle_28 : decode cX1_settle 28 = .ok (.aload_n 0, 1) := by decide +kernel
theorem dX1_settle_29 : decode cX1_settle 29 = .ok (.dup, 1) := by decide +kernel
theorem dX1_settle_30 : decode cX1_settle 30 = .ok (.getfield 37, 3) := by decide +kernel
theorem dX1_settle_33 : decode cX1_settle 33 = .ok (.iconst 1, 1) := by decide +kernel
theorem dX1_settle_34 : decode cX1_settle 34 = .ok (.iadd, 1) := by decide +kernel
theorem dX1_settle_35 : decode cX1_settle 35 = .ok (.putfield 37, 3) := by decide +kernel
theorem dX1_settle_38 : decode cX1_settle 38 = .ok (.aload_n 0, 1) := by decide +kernel
theorem dX1_settle_39 : decode cX1_settle 39 = .ok (.dup, 1) := by decide +kernel
theorem dX1_settle_40 : decode cX1_settle 40 = .ok (.getfield 40, 3) := by decide +kernel
theorem dX1_settle_43 : decode cX1_settle 43 = .ok (.iload_n 3, 1) := by decide +kernel
theorem dX1_settle_44 : decode cX1_settle 44 = .ok (.iadd, 1) := by decide +kernel
theorem dX1_settle_45 : decode cX1_settle 45 = .ok (.putfield 40, 3) := by decide +kernel
theorem dX1_settle_48 : decode cX1_settle 48 = .ok (.aload_n 0, 1) := by decide +kernel
theorem dX1_settle_49 : decode cX1_settle 49 = .ok (.getfield 34, 3) := by decide +kernel
theorem dX1_settle_52 : decode cX1_settle 52 = .ok (.ifCond .le 16, 3) := by decide +kernel
theorem dX1_settle_55 : decode cX1_settle 55 = .ok (.aload_n 0, 1) := by decide +kernel
theorem dX1_settle_56 : decode cX1_settle 56 = .ok (.dup, 1) := by decide +kernel
theorem dX1_settle_57 : decode cX1_settle 57 = .ok (.getfield 43, 3) := by decide +kernel
theorem dX1_settle_60 : decode cX1_settle 60 = .ok (.iconst 1, 1) := by decide +kernel
theorem dX1_settle_61 : decode cX1_settle 61 = .ok (.iadd, 1) := by decide +kernel
theorem dX1_settle_62 : decode cX1_settle 62 = .ok (.putfield 43, 3) := by decide +kernel
theorem dX1_settle_65 : decode cX1_settle 65 = .ok (.goto 20, 3) := by decide +kernel
theorem dX1_settle_68 : decode cX1_settle 68 = .ok (.aload_n 0, 1) := by decide +kernel
theorem dX1_settle_69 : decode cX1_settle 69 = .ok (.getfield 34, 3) := by decide +kernel
theorem dX1_settle_72 : decode cX1_settle 72 = .ok (.ifCond .ge 13, 3) := by decide +kernel
theorem dX1_settle_75 : decode cX1_settle 75 = .ok (.aload_n 0, 1) := by decide +kernel
theorem dX1_settle_76 : decode cX1_settle 76 = .ok (.dup, 1) := by decide +kernel
theorem dX1_settle_77 : decode cX1_settle 77 = .ok (.getfield 46, 3) := by decide +kernel
theorem dX1_settle_80 : decode cX1_settle 80 = .ok (.iconst 1, 1) := by decide +kernel
theorem dX1_settle_81 : decode cX1_settle 81 = .ok (.iadd, 1) := by decide +kernel
theorem dX1_settle_82 : decode cX1_settle 82 = .ok (.putfield 46, 3) := by decide +kernel
theorem dX1_settle_85 : decode cX1_settle 85 = .ok (.return_, 1) := by decide +kernel
theorem dX1_renewMeter_0 : decode cX1_renewMeter 0 = .ok (.aload_n 0, 1) := by decide +kernel
theorem dX1_renewMeter_1 : decode cX1_renewMeter 1 = .ok (.iconst 0, 1) := by decide +kernel
theorem dX1_renewMeter_2 : decode cX1_renewMeter 2 = .ok (.putfield 21, 3) := by decide +kernel
theorem dX1_renewMeter_5 : decode cX1_renewMeter 5 = .ok (.aload_n 0, 1) := by decide +kernel
theorem dX1_renewMeter_6 : decode cX1_renewMeter 6 = .ok (.iconst 0, 1) := by decide +kernel
theorem dX1_renewMeter_7 : decode cX1_renewMeter 7 = .ok (.putfield 24, 3) := by decide +kernel
theorem dX1_renewMeter_10 : decode cX1_renewMeter 10 = .ok (.aload_n 0, 1) := by decide +kernel
theorem dX1_renewMeter_11 : decode cX1_renewMeter 11 = .ok (.dup, 1) := by decide +kernel
theorem dX1_renewMeter_12 : decode cX1_renewMeter 12 = .ok (.getfield 52, 3) := by decide +kernel
theorem dX1_renewMeter_15 : decode cX1_renewMeter 15 = .ok (.iconst 1, 1) := by decide +kernel
theorem dX1_renewMeter_16 : decode cX1_renewMeter 16 = .ok (.iadd, 1) := by decide +kernel
theorem dX1_renewMeter_17 : decode cX1_renewMeter 17 = .ok (.putfield 52, 3) := by decide +kernel
theorem dX1_renewMeter_20 : decode cX1_renewMeter 20 = .ok (.return_, 1) := by decide +kernel
set_option maxRecDepth 20000 in
theorem ggX1_fact_X1_used : GoodIn wsX1_fact wsX1_used := goodIn_r _ [20, 3, 21, 22, 23, 24, 25, 26, 27, 28, 29, 30, 31, 32, 33, 34, 35, 36] (by decide +kernel) (by decide +kernel)
set_option maxRecDepth 20000 in
theorem gX1_fact_X1_used : GoodIn wsX1_fact (wsV RX1 56 RX1 yX1_used wsX1_used) := goodIn_app (goodIn_of _ (by decide +kernel)) ggX1_fact_X1_used
theorem dX1_fact_0 : decode cX1_fact 0 = .ok (.iload_n 1, 1) := by decide +kernel
theorem dX1_fact_1 : decode cX1_fact 1 = .ok (.tableswitch 166 0 13 #[71, 76, 81, 86, 91, 100, 105, 118, 136, 141, 146, 151, 156, 161], 71) := by decide +kernel
theorem dX1_fact_72 : decode cX1_fact 72 = .ok (.aload_n 0, 1) := by decide +kernel
theorem dX1_fact_73 : decode cX1_fact 73 = .ok (.getfield 15, 3) := by decide +kernel
theorem dX1_fact_76 : decode cX1_fact 76 = .ok (.ireturn, 1) := by decide +kernel
theorem dX1_fact_77 : decode cX1_fact 77 = .ok (.aload_n 0, 1) := by decide +kernel
theorem dX1_fact_78 : decode cX1_fact 78 = .ok (.getfield 18, 3) := by decide +kernel
theorem dX1_fact_81 : decode cX1_fact 81 = .ok (.ireturn, 1) := by decide +kernel
theorem dX1_fact_82 : decode cX1_fact 82 = .ok (.aload_n 0, 1) := by decide +kernel
theorem dX1_fact_83 : decode cX1_fact 83 = .ok (.getfield 21, 3) := by decide +kernel
theorem dX1_fact_86 : decode cX1_fact 86 = .ok (.ireturn, 1) := by decide +kernel
theorem dX1_fact_87 : decode cX1_fact 87 = .ok (.aload_n 0, 1) := by decide +kernel
theorem dX1_fact_88 : decode cX1_fact 88 = .ok (.invokevirtual 56, 3) := by decide +kernel
theorem dX1_fact_91 : decode cX1_fact 91 = .ok (.ireturn, 1) := by decide +kernel
theorem dX1_fact_92 : decode cX1_fact 92 = .ok (.sipush 1000, 3) := by decide +kernel
theorem dX1_fact_95 : decode cX1_fact 95 = .ok (.aload_n 0, 1) := by decide +kernel
theorem dX1_fact_96 : decode cX1_fact 96 = .ok (.getfield 34, 3) := by decide +kernel
theorem dX1_fact_99 : decode cX1_fact 99 = .ok (.iadd, 1) := by decide +kernel
theorem dX1_fact_100 : decode cX1_fact 100 = .ok (.ireturn, 1) := by decide +kernel
theorem dX1_fact_101 : decode cX1_fact 101 = .ok (.aload_n 0, 1) := by decide +kernel
theorem dX1_fact_102 : decode cX1_fact 102 = .ok (.getfield 27, 3) := by decide +kernel
theorem dX1_fact_105 : decode cX1_fact 105 = .ok (.ireturn, 1) := by decide +kernel
theorem dX1_fact_106 : decode cX1_fact 106 = .ok (.aload_n 0, 1) := by decide +kernel
theorem dX1_fact_107 : decode cX1_fact 107 = .ok (.getfield 30, 3) := by decide +kernel
theorem dX1_fact_110 : decode cX1_fact 110 = .ok (.ifCond .eq 7, 3) := by decide +kernel
theorem dX1_fact_113 : decode cX1_fact 113 = .ok (.iconst 1, 1) := by decide +kernel
theorem dX1_fact_114 : decode cX1_fact 114 = .ok (.goto 4, 3) := by decide +kernel
theorem dX1_fact_117 : decode cX1_fact 117 = .ok (.iconst 0, 1) := by decide +kernel
theorem dX1_fact_118 : decode cX1_fact 118 = .ok (.ireturn, 1) := by decide +kernel
theorem dX1_fact_119 : decode cX1_fact 119 = .ok (.aload_n 0, 1) := by decide +kernel
theorem dX1_fact_120 : decode cX1_fact 120 = .ok (.getfield 9, 3) := by decide +kernel
theorem dX1_fact_123 : decode cX1_fact 123 = .ok (.iconst (-1), 1) := by decide +kernel
theorem dX1_fact_124 : decode cX1_fact 124 = .ok (.if_icmp .ne 8, 3) := by decide +kernel
theorem dX1_fact_127 : decode cX1_fact 127 = .ok (.ldc 60, 2) := by decide +kernel
theorem dX1_fact_129 : decode cX1_fact 129 = .ok (.goto 7, 3) := by decide +kernel
theorem dX1_fact_132 : decode cX1_fact 132 = .ok (.aload_n 0, 1) := by decide +kernel
theorem dX1_fact_133 : decode cX1_fact 133 = .ok (.getfield 9, 3) := by decide +kernel
theorem dX1_fact_136 : decode cX1_fact 136 = .ok (.ireturn, 1) := by decide +kernel
theorem dX1_fact_137 : decode cX1_fact 137 = .ok (.aload_n 0, 1) := by decide +kernel
theorem dX1_fact_138 : decode cX1_fact 138 = .ok (.getfield 37, 3) := by decide +kernel
theorem dX1_fact_141 : decode cX1_fact 141 = .ok (.ireturn, 1) := by decide +kernel
theorem dX1_fact_142 : decode cX1_fact 142 = .ok (.aload_n 0, 1) := by decide +kernel
theorem dX1_fact_143 : decode cX1_fact 143 = .ok (.getfield 40, 3) := by decide +kernel
theorem dX1_fact_146 : decode cX1_fact 146 = .ok (.ireturn, 1) := by decide +kernel
theorem dX1_fact_147 : decode cX1_fact 147 = .ok (.aload_n 0, 1) := by decide +kernel
theorem dX1_fact_148 : decode cX1_fact 148 = .ok (.getfield 43, 3) := by decide +kernel
theorem dX1_fact_151 : decode cX1_fact 151 = .ok (.ireturn, 1) := by decide +kernel
theorem dX1_fact_152 : decode cX1_fact 152 = .ok (.aload_n 0, 1) := by decide +kernel
theorem dX1_fact_153 : decode cX1_fact 153 = .ok (.getfield 46, 3) := by decide +kernel
theorem dX1_fact_156 : decode cX1_fact 156 = .ok (.ireturn, 1) := by decide +kernel
theorem dX1_fact_157 : decode cX1_fact 157 = .ok (.aload_n 0, 1) := by decide +kernel
theorem dX1_fact_158 : decode cX1_fact 158 = .ok (.getfield 49, 3) := by decide +kernel
theorem dX1_fact_161 : decode cX1_fact 161 = .ok (.ireturn, 1) := by decide +kernel
theorem dX1_fact_162 : decode cX1_fact 162 = .ok (.aload_n 0, 1) := by decide +kernel
theorem dX1_fact_163 : decode cX1_fact 163 = .ok (.getfield 52, 3) := by decide +kernel
theorem dX1_fact_166 : decode cX1_fact 166 = .ok (.ireturn, 1) := by decide +kernel
theorem dX1_fact_167 : decode cX1_fact 167 = .ok (.ldc 61, 2) := by decide +kernel
theorem dX1_fact_169 : decode cX1_fact 169 = .ok (.ireturn, 1) := by decide +kernel
theorem dX2_init_0 : decode cX2_init 0 = .ok (.aload_n 0, 1) := by decide +kernel
theorem dX2_init_1 : decode cX2_init 1 = .ok (.invokespecial 3, 3) := by decide +kernel
theorem dX2_init_4 : decode cX2_init 4 = .ok (.aload_n 0, 1) := by decide +kernel
theorem dX2_init_5 : decode cX2_init 5 = .ok (.bipush 60, 2) := by decide +kernel
theorem dX2_init_7 : decode cX2_init 7 = .ok (.newarray .int, 2) := by decide +kernel
theorem dX2_init_9 : decode cX2_init 9 = .ok (.putfield 11, 3) := by decide +kernel
theorem dX2_init_12 : decode cX2_init 12 = .ok (.return_, 1) := by decide +kernel
theorem dX2_copyFrom_0 : decode cX2_copyFrom 0 = .ok (.aload_n 1, 1) := by decide +kernel
theorem dX2_copyFrom_1 : decode cX2_copyFrom 1 = .ok (.getfield 11, 3) := by decide +kernel
theorem dX2_copyFrom_4 : decode cX2_copyFrom 4 = .ok (.iconst 0, 1) := by decide +kernel
theorem dX2_copyFrom_5 : decode cX2_copyFrom 5 = .ok (.aload_n 0, 1) := by decide +kernel
theorem dX2_copyFrom_6 : decode cX2_copyFrom 6 = .ok (.getfield 11, 3) := by decide +kernel
theorem dX2_copyFrom_9 : decode cX2_copyFrom 9 = .ok (.iconst 0, 1) := by decide +kernel
theorem dX2_copyFrom_10 : decode cX2_copyFrom 10 = .ok (.bipush 60, 2) := by decide +kernel
theorem dX2_copyFrom_12 : decode cX2_copyFrom 12 = .ok (.invokestatic 15, 3) := by decide +kernel
theorem dX2_copyFrom_15 : decode cX2_copyFrom 15 = .ok (.aload_n 0, 1) := by decide +kernel
theorem dX2_copyFrom_16 : decode cX2_copyFrom 16 = .ok (.aload_n 1, 1) := by decide +kernel
theorem dX2_copyFrom_17 : decode cX2_copyFrom 17 = .ok (.getfield 21, 3) := by decide +kernel
theorem dX2_copyFrom_20 : decode cX2_copyFrom 20 = .ok (.putfield 21, 3) := by decide +kernel
theorem dX2_copyFrom_23 : decode cX2_copyFrom 23 = .ok (.aload_n 0, 1) := by decide +kernel
theorem dX2_copyFrom_24 : decode cX2_copyFrom 24 = .ok (.aload_n 1, 1) := by decide +kernel
theorem dX2_copyFrom_25 : decode cX2_copyFrom 25 = .ok (.getfield 25, 3) := by decide +kernel
theorem dX2_copyFrom_28 : decode cX2_copyFrom 28 = .ok (.putfield 25, 3) := by decide +kernel
theorem dX2_copyFrom_31 : decode cX2_copyFrom 31 = .ok (.return_, 1) := by decide +kernel
theorem dX2_add_0 : decode cX2_add 0 = .ok (.aload_n 0, 1) := by decide +kernel
theorem dX2_add_1 : decode cX2_add 1 = .ok (.getfield 21, 3) := by decide +kernel
theorem dX2_add_4 : decode cX2_add 4 = .ok (.ifCond .lt 12, 3) := by decide +kernel
theorem dX2_add_7 : decode cX2_add 7 = .ok (.aload_n 0, 1) := by decide +kernel
theorem dX2_add_8 : decode cX2_add 8 = .ok (.getfield 21, 3) := by decide +kernel
theorem dX2_add_11 : decode cX2_add 11 = .ok (.bipush 10, 2) := by decide +kernel
theorem dX2_add_13 : decode cX2_add 13 = .ok (.if_icmp .lt 4, 3) := by decide +kernel
theorem dX2_add_16 : decode cX2_add 16 = .ok (.return_, 1) := by decide +kernel
theorem dX2_add_17 : decode cX2_add 17 = .ok (.aload_n 0, 1) := by decide +kernel
theorem dX2_add_18 : decode cX2_add 18 = .ok (.getfield 21, 3) := by decide +kernel
theorem dX2_add_21 : decode cX2_add 21 = .ok (.bipush 6, 2) := by decide +kernel
theorem dX2_add_23 : decode cX2_add 23 = .ok (.imul, 1) := by decide +kernel
theorem dX2_add_24 : decode cX2_add 24 = .ok (.istore 6, 2) := by decide +kernel
theorem dX2_add_26 : decode cX2_add 26 = .ok (.aload_n 0, 1) := by decide +kernel
theorem dX2_add_27 : decode cX2_add 27 = .ok (.getfield 11, 3) := by decide +kernel
theorem dX2_add_30 : decode cX2_add 30 = .ok (.iload 6, 2) := by decide +kernel
theorem dX2_add_32 : decode cX2_add 32 = .ok (.iload_n 1, 1) := by decide +kernel
theorem dX2_add_33 : decode cX2_add 33 = .ok (.iastore, 1) := by decide +kernel
theorem dX2_add_34 : decode cX2_add 34 = .ok (.aload_n 0, 1) := by decide +kernel
theorem dX2_add_35 : decode cX2_add 35 = .ok (.getfield 11, 3) := by decide +kernel
theorem dX2_add_38 : decode cX2_add 38 = .ok (.iload 6, 2) := by decide +kernel
theorem dX2_add_40 : decode cX2_add 40 = .ok (.iconst 1, 1) := by decide +kernel
theorem dX2_add_41 : decode cX2_add 41 = .ok (.iadd, 1) := by decide +kernel
theorem dX2_add_42 : decode cX2_add 42 = .ok (.iload_n 2, 1) := by decide +kernel
theorem dX2_add_43 : decode cX2_add 43 = .ok (.iastore, 1) := by decide +kernel
theorem dX2_add_44 : decode cX2_add 44 = .ok (.aload_n 0, 1) := by decide +kernel
theorem dX2_add_45 : decode cX2_add 45 = .ok (.getfield 11, 3) := by decide +kernel
theorem dX2_add_48 : decode cX2_add 48 = .ok (.iload 6, 2) := by decide +kernel
theorem dX2_add_50 : decode cX2_add 50 = .ok (.iconst 2, 1) := by decide +kernel
theorem dX2_add_51 : decode cX2_add 51 = .ok (.iadd, 1) := by decide +kernel
theorem dX2_add_52 : decode cX2_add 52 = .ok (.iload_n 3, 1) := by decide +kernel
theorem dX2_add_53 : decode cX2_add 53 = .ok (.iastore, 1) := by decide +kernel
theorem dX2_add_54 : decode cX2_add 54 = .ok (.aload_n 0, 1) := by decide +kernel
theorem dX2_add_55 : decode cX2_add 55 = .ok (.getfield 11, 3) := by decide +kernel
theorem dX2_add_58 : decode cX2_add 58 = .ok (.iload 6, 2) := by decide +kernel
theorem dX2_add_60 : decode cX2_add 60 = .ok (.iconst 3, 1) := by decide +kernel
theorem dX2_add_61 : decode cX2_add 61 = .ok (.iadd, 1) := by decide +kernel
theorem dX2_add_62 : decode cX2_add 62 = .ok (.iload 4, 2) := by decide +kernel
theorem dX2_add_64 : decode cX2_add 64 = .ok (.iastore, 1) := by decide +kernel
theorem dX2_add_65 : decode cX2_add 65 = .ok (.aload_n 0, 1) := by decide +kernel
theorem dX2_add_66 : decode cX2_add 66 = .ok (.getfield 11, 3) := by decide +kernel
theorem dX2_add_69 : decode cX2_add 69 = .ok (.iload 6, 2) := by decide +kernel
theorem dX2_add_71 : decode cX2_add 71 = .ok (.iconst 4, 1) := by decide +kernel
theorem dX2_add_72 : decode cX2_add 72 = .ok (.iadd, 1) := by decide +kernel
theorem dX2_add_73 : decode cX2_add 73 = .ok (.bipush 100, 2) := by decide +kernel
theorem dX2_add_75 : decode cX2_add 75 = .ok (.iload 4, 2) := by decide +kernel
theorem dX2_add_77 : decode cX2_add 77 = .ok (.imul, 1) := by decide +kernel
theorem dX2_add_78 : decode cX2_add 78 = .ok (.iload_n 3, 1) := by decide +kernel
theorem dX2_add_79 : decode cX2_add 79 = .ok (.if_icmp .ge 7, 3) := by decide +kernel
theorem dX2_add_82 : decode cX2_add 82 = .ok (.iconst 0, 1) := by decide +kernel
theorem dX2_add_83 : decode cX2_add 83 = .ok (.goto 17, 3) := by decide +kernel
theorem dX2_add_86 : decode cX2_add 86 = .ok (.bipush 100, 2) := by decide +kernel
theorem dX2_add_88 : decode cX2_add 88 = .ok (.iload 4, 2) := by decide +kernel
theorem dX2_add_90 : decode cX2_add 90 = .ok (.imul, 1) := by decide +kernel
theorem dX2_add_91 : decode cX2_add 91 = .ok (.iload_n 3, 1) := by decide +kernel
theorem dX2_add_92 : decode cX2_add 92 = .ok (.if_icmp .le 7, 3) := by decide +kernel
theorem dX2_add_95 : decode cX2_add 95 = .ok (.iconst 1, 1) := by decide +kernel
theorem dX2_add_96 : decode cX2_add 96 = .ok (.goto 4, 3) := by decide +kernel
theorem dX2_add_99 : decode cX2_add 99 = .ok (.iconst 2, 1) := by decide +kernel
theorem dX2_add_100 : decode cX2_add 100 = .ok (.iastore, 1) := by decide +kernel
theorem dX2_add_101 : decode cX2_add 101 = .ok (.aload_n 0, 1) := by decide +kernel
theorem dX2_add_102 : decode cX2_add 102 = .ok (.getfield 11, 3) := by decide +kernel
theorem dX2_add_105 : decode cX2_add 105 = .ok (.iload 6, 2) := by decide +kernel
theorem dX2_add_107 : decode cX2_add 107 = .ok (.iconst 5, 1) := by decide +kernel
theorem dX2_add_108 : decode cX2_add 108 = .ok (.iadd, 1) := by decide +kernel
theorem dX2_add_109 : decode cX2_add 109 = .ok (.sipush 1000, 3) := by decide +kernel
theorem dX2_add_112 : decode cX2_add 112 = .ok (.iload 5, 2) := by decide +kernel
theorem dX2_add_114 : decode cX2_add 114 = .ok (.iadd, 1) := by decide +kernel
theorem dX2_add_115 : decode cX2_add 115 = .ok (.iastore, 1) := by decide +kernel
theorem dX2_add_116 : decode cX2_add 116 = .ok (.aload_n 0, 1) := by decide +kernel
theorem dX2_add_117 : decode cX2_add 117 = .ok (.aload_n 0, 1) := by decide +kernel
theorem dX2_add_118 : decode cX2_add 118 = .ok (.getfield 21, 3) := by decide +kernel
theorem dX2_add_121 : decode cX2_add 121 = .ok (.iconst 1, 1) := by decide +kernel
theorem dX2_add_122 : decode cX2_add 122 = .ok (.iadd, 1) := by decide +kernel
theorem dX2_add_123 : decode cX2_add 123 = .ok (.bipush 10, 2) := by decide +kernel
theorem dX2_add_125 : decode cX2_add 125 = .ok (.irem, 1) := by decide +kernel
theorem dX2_add_126 : decode cX2_add 126 = .ok (.putfield 21, 3) := by decide +kernel
theorem dX2_add_129 : decode cX2_add 129 = .ok (.aload_n 0, 1) := by decide +kernel
theorem dX2_add_130 : decode cX2_add 130 = .ok (.aload_n 0, 1) := by decide +kernel
theorem dX2_add_131 : decode cX2_add 131 = .ok (.getfield 25, 3) := by decide +kernel
theorem dX2_add_134 : decode cX2_add 134 = .ok (.iconst 1, 1) := by decide +kernel
theorem dX2_add_135 : decode cX2_add 135 = .ok (.iadd, 1) := by decide +kernel
theorem dX2_add_136 : decode cX2_add 136 = .ok (.bipush 10, 2) := by decide +kernel
theorem dX2_add_138 : decode cX2_add 138 = .ok (.invokestatic 28, 3) := by decide +kernel
theorem dX2_add_141 : decode cX2_add 141 = .ok (.putfield 25, 3) := by decide +kernel
theorem dX2_add_144 : decode cX2_add 144 = .ok (.return_, 1) := by decide +kernel
theorem dX2_entry_0 : decode cX2_entry 0 = .ok (.iload_n 1, 1) := by decide +kernel
theorem dX2_entry_1 : decode cX2_entry 1 = .ok (.ifCond .lt 13, 3) := by decide +kernel
theorem dX2_entry_4 : decode cX2_entry 4 = .ok (.iload_n 2, 1) := by decide +kernel
theorem dX2_entry_5 : decode cX2_entry 5 = .ok (.ifCond .lt 9, 3) := by decide +kernel
theorem dX2_entry_8 : decode cX2_entry 8 = .ok (.iload_n 2, 1) := by decide +kernel
theorem dX2_entry_9 : decode cX2_entry 9 = .ok (.bipush 6, 2) := by decide +kernel
theorem dX2_entry_11 : decode cX2_entry 11 = .ok (.if_icmp .lt 6, 3) := by decide +kernel
theorem dX2_entry_14 : decode cX2_entry 14 = .ok (.ldc 34, 2) := by decide +kernel
theorem dX2_entry_16 : decode cX2_entry 16 = .ok (.ireturn, 1) := by decide +kernel
theorem dX2_entry_17 : decode cX2_entry 17 = .ok (.iload_n 1, 1) := by decide +kernel
theorem dX2_entry_18 : decode cX2_entry 18 = .ok (.aload_n 0, 1) := by decide +kernel
theorem dX2_entry_19 : decode cX2_entry 19 = .ok (.getfield 25, 3) := by decide +kernel
theorem dX2_entry_22 : decode cX2_entry 22 = .ok (.if_icmp .lt 6, 3) := by decide +kernel
theorem dX2_entry_25 : decode cX2_entry 25 = .ok (.ldc 35, 2) := by decide +kernel
theorem dX2_entry_27 : decode cX2_entry 27 = .ok (.ireturn, 1) := by decide +kernel
theorem dX2_entry_28 : decode cX2_entry 28 = .ok (.aload_n 0, 1) := by decide +kernel
theorem dX2_entry_29 : decode cX2_entry 29 = .ok (.getfield 21, 3) := by decide +kernel
theorem dX2_entry_32 : decode cX2_entry 32 = .ok (.bipush 10, 2) := by decide +kernel
theorem dX2_entry_34 : decode cX2_entry 34 = .ok (.iadd, 1) := by decide +kernel
theorem dX2_entry_35 : decode cX2_entry 35 = .ok (.iconst 1, 1) := by decide +kernel
theorem dX2_entry_36 : decode cX2_entry 36 = .ok (.isub, 1) := by decide +kernel
theorem dX2_entry_37 : decode cX2_entry 37 = .ok (.iload_n 1, 1) := by decide +kernel
theorem dX2_entry_38 : decode cX2_entry 38 = .ok (.isub, 1) := by decide +kernel
theorem dX2_entry_39 : decode cX2_entry 39 = .ok (.bipush 10, 2) := by decide +kernel
theorem dX2_entry_41 : decode cX2_entry 41 = .ok (.irem, 1) := by decide +kernel
theorem dX2_entry_42 : decode cX2_entry 42 = .ok (.istore_n 3, 1) := by decide +kernel
theorem dX2_entry_43 : decode cX2_entry 43 = .ok (.aload_n 0, 1) := by decide +kernel
theorem dX2_entry_44 : decode cX2_entry 44 = .ok (.getfield 11, 3) := by decide +kernel
theorem dX2_entry_47 : decode cX2_entry 47 = .ok (.iload_n 3, 1) := by decide +kernel
theorem dX2_entry_48 : decode cX2_entry 48 = .ok (.bipush 6, 2) := by decide +kernel
theorem dX2_entry_50 : decode cX2_entry 50 = .ok (.imul, 1) := by decide +kernel
theorem dX2_entry_51 : decode cX2_entry 51 = .ok (.iload_n 2, 1) := by decide +kernel
theorem dX2_entry_52 : decode cX2_entry 52 = .ok (.iadd, 1) := by decide +kernel
theorem dX2_entry_53 : decode cX2_entry 53 = .ok (.iaload, 1) := by decide +kernel
theorem dX2_entry_54 : decode cX2_entry 54 = .ok (.ireturn, 1) := by decide +kernel
theorem dX3_init_0 : decode cX3_init 0 = .ok (.aload_n 0, 1) := by decide +kernel
theorem dX3_init_1 : decode cX3_init 1 = .ok (.invokespecial 3, 3) := by decide +kernel
theorem dX3_init_4 : decode cX3_init 4 = .ok (.aload_n 0, 1) := by decide +kernel
theorem dX3_init_5 : decode cX3_init 5 = .ok (.bipush 60, 2) := by decide +kernel
theorem dX3_init_7 : decode cX3_init 7 = .ok (.newarray .int, 2) := by decide +kernel
theorem dX3_init_9 : decode cX3_init 9 = .ok (.putfield 11, 3) := by decide +kernel
theorem dX3_init_12 : decode cX3_init 12 = .ok (.return_, 1) := by decide +kernel
theorem dX3_append_0 : decode cX3_append 0 = .ok (.iload_n 1, 1) := by decide +kernel
theorem dX3_append_1 : decode cX3_append 1 = .ok (.bipush 32, 2) := by decide +kernel
theorem dX3_append_3 : decode cX3_append 3 = .ok (.if_icmp .lt 9, 3) := by decide +kernel
theorem dX3_append_6 : decode cX3_append 6 = .ok (.iload_n 1, 1) := by decide +kernel
theorem dX3_append_7 : decode cX3_append 7 = .ok (.bipush 126, 2) := by decide +kernel
theorem dX3_append_9 : decode cX3_append 9 = .ok (.if_icmp .le 6, 3) := by decide +kernel
theorem dX3_append_12 : decode cX3_append 12 = .ok (.ldc 15, 2) := by decide +kernel
theorem dX3_append_14 : decode cX3_append 14 = .ok (.ireturn, 1) := by decide +kernel
theorem dX3_append_15 : decode cX3_append 15 = .ok (.aload_n 0, 1) := by decide +kernel
theorem dX3_append_16 : decode cX3_append 16 = .ok (.getfield 16, 3) := by decide +kernel
theorem dX3_append_19 : decode cX3_append 19 = .ok (.bipush 60, 2) := by decide +kernel
theorem dX3_append_21 : decode cX3_append 21 = .ok (.if_icmp .lt 6, 3) := by decide +kernel
theorem dX3_append_24 : decode cX3_append 24 = .ok (.ldc 20, 2) := by decide +kernel
theorem dX3_append_26 : decode cX3_append 26 = .ok (.ireturn, 1) := by decide +kernel
theorem dX3_append_27 : decode cX3_append 27 = .ok (.aload_n 0, 1) := by decide +kernel
theorem dX3_append_28 : decode cX3_append 28 = .ok (.getfield 11, 3) := by decide +kernel
theorem dX3_append_31 : decode cX3_append 31 = .ok (.aload_n 0, 1) := by decide +kernel
theorem dX3_append_32 : decode cX3_append 32 = .ok (.getfield 16, 3) := by decide +kernel
theorem dX3_append_35 : decode cX3_append 35 = .ok (.iload_n 1, 1) := by decide +kernel
theorem dX3_append_36 : decode cX3_append 36 = .ok (.iastore, 1) := by decide +kernel
theorem dX3_append_37 : decode cX3_append 37 = .ok (.aload_n 0, 1) := by decide +kernel
theorem dX3_append_38 : decode cX3_append 38 = .ok (.dup, 1) := by decide +kernel
theorem dX3_append_39 : decode cX3_append 39 = .ok (.getfield 16, 3) := by decide +kernel
theorem dX3_append_42 : decode cX3_append 42 = .ok (.iconst 1, 1) := by decide +kernel
theorem dX3_append_43 : decode cX3_append 43 = .ok (.iadd, 1) := by decide +kernel
theorem dX3_append_44 : decode cX3_append 44 = .ok (.putfield 16, 3) := by decide +kernel
theorem dX3_append_47 : decode cX3_append 47 = .ok (.aload_n 0, 1) := by decide +kernel
theorem dX3_append_48 : decode cX3_append 48 = .ok (.getfield 16, 3) := by decide +kernel
theorem dX3_append_51 : decode cX3_append 51 = .ok (.ireturn, 1) := by decide +kernel
theorem dX3_empty_0 : decode cX3_empty 0 = .ok (.aload_n 0, 1) := by decide +kernel
theorem dX3_empty_1 : decode cX3_empty 1 = .ok (.getfield 16, 3) := by decide +kernel
theorem dX3_empty_4 : decode cX3_empty 4 = .ok (.istore_n 1, 1) := by decide +kernel
theorem dX3_empty_5 : decode cX3_empty 5 = .ok (.aload_n 0, 1) := by decide +kernel
theorem dX3_empty_6 : decode cX3_empty 6 = .ok (.iconst 0, 1) := by decide +kernel
theorem dX3_empty_7 : decode cX3_empty 7 = .ok (.putfield 16, 3) := by decide +kernel
theorem dX3_empty_10 : decode cX3_empty 10 = .ok (.iload_n 1, 1) := by decide +kernel
theorem dX3_empty_11 : decode cX3_empty 11 = .ok (.ireturn, 1) := by decide +kernel
set_option maxRecDepth 20000 in
theorem ggX3_doAllIn_X3_takeOrder : GoodIn wsX3_doAllIn wsX3_takeOrder := goodIn_r _ [14, 7, 9, 1, 8, 15, 16, 17, 13, 18, 5, 19, 20, 21, 22, 23, 24, 25, 26, 27, 28, 29, 30, 31, 32, 33, 34, 35, 36, 37, 173, 174, 175, 176, 177, 178, 179, 180, 181, 182] (by decide +kernel) (by decide +kernel)
set_option maxRecDepth 20000 in
theorem gX3_doAllIn_X3_takeOrder : GoodIn wsX3_doAllIn (wsV RX3 36 RX3 yX3_takeOrder wsX3_takeOrder) := goodIn_app (goodIn_of _ (by decide +kernel)) ggX3_doAllIn_X3_takeOrder
set_option maxRecDepth 20000 in
theorem ggX3_doAllIn_X5_obey : GoodIn wsX3_doAllIn wsX5_obey := goodIn_r _ [42, 43, 44, 45, 46, 47, 48, 41, 49, 50, 51, 52, 53, 54, 55, 56, 57, 58, 59, 60, 61, 62, 63, 64, 65, 66, 67, 68, 69, 70, 71, 72, 73, 74, 75, 76, 77, 78, 79, 80, 81, 82, 83, 84, 85, 86, 87, 88, 89, 90, 91, 92, 93, 94, 95, 96, 97, 98, 99, 100, 101, 102, 103, 104, 105, 106, 107, 108, 109, 110, 111, 112, 113, 114, 115, 116, 117, 118, 119, 120, 121, 122, 123, 124, 125, 126, 127, 128, 129, 130, 131, 132, 133, 134, 135, 136, 137, 29, 138, 139, 140, 141, 142, 143, 144, 145, 146, 147, 148, 149, 150, 151, 152, 153, 154, 155, 156, 157, 158, 159, 160, 161, 162, 163, 164, 165, 166, 167, 168, 169, 170, 171, 172, 183, 184, 185, 186, 187, 188, 189, 190, 191, 192, 193, 194, 195, 196, 197, 198, 199, 200, 201, 202, 203, 204, 205, 206, 207, 208, 209, 210, 211, 212, 213, 214] (by decide +kernel) (by decide +kernel)
set_option maxRecDepth 20000 in
theorem gX3_doAllIn_X5_obey : GoodIn wsX3_doAllIn (wsV RX3 49 RX5 yX5_obey wsX5_obey) := goodIn_app (goodIn_of _ (by decide +kernel)) ggX3_doAllIn_X5_obey
theorem dX3_doAllIn_0 : decode cX3_doAllIn 0 = .ok (.aload_n 0, 1) := by decide +kernel
theorem dX3_doAllIn_1 : decode cX3_doAllIn 1 = .ok (.iconst 0, 1) := by decide +kernel
theorem dX3_doAllIn_2 : decode cX3_doAllIn 2 = .ok (.putfield 21, 3) := by decide +kernel
theorem dX3_doAllIn_5 : decode cX3_doAllIn 5 = .ok (.aload_n 0, 1) := by decide +kernel
theorem dX3_doAllIn_6 : decode cX3_doAllIn 6 = .ok (.iconst 0, 1) := by decide +kernel
theorem dX3_doAllIn_7 : decode cX3_doAllIn 7 = .ok (.putfield 24, 3) := by decide +kernel
theorem dX3_doAllIn_10 : decode cX3_doAllIn 10 = .ok (.aload_n 0, 1) := by decide +kernel
theorem dX3_doAllIn_11 : decode cX3_doAllIn 11 = .ok (.iconst 0, 1) := by decide +kernel
theorem dX3_doAllIn_12 : decode cX3_doAllIn 12 = .ok (.putfield 27, 3) := by decide +kernel
theorem dX3_doAllIn_15 : decode cX3_doAllIn 15 = .ok (.aload_n 0, 1) := by decide +kernel
theorem dX3_doAllIn_16 : decode cX3_doAllIn 16 = .ok (.iconst 0, 1) := by decide +kernel
theorem dX3_doAllIn_17 : decode cX3_doAllIn 17 = .ok (.putfield 30, 3) := by decide +kernel
theorem dX3_doAllIn_20 : decode cX3_doAllIn 20 = .ok (.aload_n 0, 1) := by decide +kernel
theorem dX3_doAllIn_21 : decode cX3_doAllIn 21 = .ok (.getfield 30, 3) := by decide +kernel
theorem dX3_doAllIn_24 : decode cX3_doAllIn 24 = .ok (.bipush 60, 2) := by decide +kernel
theorem dX3_doAllIn_26 : decode cX3_doAllIn 26 = .ok (.if_icmp .ge 93, 3) := by decide +kernel
theorem dX3_doAllIn_29 : decode cX3_doAllIn 29 = .ok (.aload_n 0, 1) := by decide +kernel
theorem dX3_doAllIn_30 : decode cX3_doAllIn 30 = .ok (.getfield 21, 3) := by decide +kernel
theorem dX3_doAllIn_33 : decode cX3_doAllIn 33 = .ok (.aload_n 0, 1) := by decide +kernel
theorem dX3_doAllIn_34 : decode cX3_doAllIn 34 = .ok (.getfield 16, 3) := by decide +kernel
theorem dX3_doAllIn_37 : decode cX3_doAllIn 37 = .ok (.if_icmp .ge 82, 3) := by decide +kernel
theorem dX3_doAllIn_40 : decode cX3_doAllIn 40 = .ok (.aload_n 0, 1) := by decide +kernel
theorem dX3_doAllIn_41 : decode cX3_doAllIn 41 = .ok (.aload_n 0, 1) := by decide +kernel
theorem dX3_doAllIn_42 : decode cX3_doAllIn 42 = .ok (.getfield 21, 3) := by decide +kernel
theorem dX3_doAllIn_45 : decode cX3_doAllIn 45 = .ok (.putfield 33, 3) := by decide +kernel
theorem dX3_doAllIn_48 : decode cX3_doAllIn 48 = .ok (.aload_n 0, 1) := by decide +kernel
theorem dX3_doAllIn_49 : decode cX3_doAllIn 49 = .ok (.invokevirtual 36, 3) := by decide +kernel
theorem dX3_doAllIn_52 : decode cX3_doAllIn 52 = .ok (.ifCond .ne 22, 3) := by decide +kernel
theorem dX3_doAllIn_55 : decode cX3_doAllIn 55 = .ok (.aload_n 0, 1) := by decide +kernel
theorem dX3_doAllIn_56 : decode cX3_doAllIn 56 = .ok (.iconst 1, 1) := by decide +kernel
theorem dX3_doAllIn_57 : decode cX3_doAllIn 57 = .ok (.putfield 24, 3) := by decide +kernel
theorem dX3_doAllIn_60 : decode cX3_doAllIn 60 = .ok (.aload_n 0, 1) := by decide +kernel
theorem dX3_doAllIn_61 : decode cX3_doAllIn 61 = .ok (.aload_n 0, 1) := by decide +kernel
theorem dX3_doAllIn_62 : decode cX3_doAllIn 62 = .ok (.getfield 21, 3) := by decide +kernel
theorem dX3_doAllIn_65 : decode cX3_doAllIn 65 = .ok (.aload_n 0, 1) := by decide +kernel
theorem dX3_doAllIn_66 : decode cX3_doAllIn 66 = .ok (.getfield 33, 3) := by decide +kernel
theorem dX3_doAllIn_69 : decode cX3_doAllIn 69 = .ok (.isub, 1) := by decide +kernel
theorem dX3_doAllIn_70 : decode cX3_doAllIn 70 = .ok (.putfield 27, 3) := by decide +kernel
theorem dX3_doAllIn_73 : decode cX3_doAllIn 73 = .ok (.return_, 1) := by decide +kernel
theorem dX3_doAllIn_74 : decode cX3_doAllIn 74 = .ok (.aload_n 1, 1) := by decide +kernel
theorem dX3_doAllIn_75 : decode cX3_doAllIn 75 = .ok (.aload_n 0, 1) := by decide +kernel
theorem dX3_doAllIn_76 : decode cX3_doAllIn 76 = .ok (.getfield 40, 3) := by decide +kernel
theorem dX3_doAllIn_79 : decode cX3_doAllIn 79 = .ok (.aload_n 0, 1) := by decide +kernel
theorem dX3_doAllIn_80 : decode cX3_doAllIn 80 = .ok (.getfield 43, 3) := by decide +kernel
theorem dX3_doAllIn_83 : decode cX3_doAllIn 83 = .ok (.aload_n 0, 1) := by decide +kernel
theorem dX3_doAllIn_84 : decode cX3_doAllIn 84 = .ok (.getfield 46, 3) := by decide +kernel
theorem dX3_doAllIn_87 : decode cX3_doAllIn 87 = .ok (.invokevirtual 49, 3) := by decide +kernel
theorem dX3_doAllIn_90 : decode cX3_doAllIn 90 = .ok (.istore_n 2, 1) := by decide +kernel
theorem dX3_doAllIn_91 : decode cX3_doAllIn 91 = .ok (.iload_n 2, 1) := by decide +kernel
theorem dX3_doAllIn_92 : decode cX3_doAllIn 92 = .ok (.ifCond .ge 14, 3) := by decide +kernel
theorem dX3_doAllIn_95 : decode cX3_doAllIn 95 = .ok (.aload_n 0, 1) := by decide +kernel
theorem dX3_doAllIn_96 : decode cX3_doAllIn 96 = .ok (.iconst 2, 1) := by decide +kernel
theorem dX3_doAllIn_97 : decode cX3_doAllIn 97 = .ok (.putfield 24, 3) := by decide +kernel
theorem dX3_doAllIn_100 : decode cX3_doAllIn 100 = .ok (.aload_n 0, 1) := by decide +kernel
theorem dX3_doAllIn_101 : decode cX3_doAllIn 101 = .ok (.iload_n 2, 1) := by decide +kernel
theorem dX3_doAllIn_102 : decode cX3_doAllIn 102 = .ok (.putfield 27, 3) := by decide +kernel
theorem dX3_doAllIn_105 : decode cX3_doAllIn 105 = .ok (.return_, 1) := by decide +kernel
theorem dX3_doAllIn_106 : decode cX3_doAllIn 106 = .ok (.aload_n 0, 1) := by decide +kernel
theorem dX3_doAllIn_107 : decode cX3_doAllIn 107 = .ok (.dup, 1) := by decide +kernel
theorem dX3_doAllIn_108 : decode cX3_doAllIn 108 = .ok (.getfield 30, 3) := by decide +kernel
theorem dX3_doAllIn_111 : decode cX3_doAllIn 111 = .ok (.iconst 1, 1) := by decide +kernel
theorem dX3_doAllIn_112 : decode cX3_doAllIn 112 = .ok (.iadd, 1) := by decide +kernel
theorem dX3_doAllIn_113 : decode cX3_doAllIn 113 = .ok (.putfield 30, 3) := by decide +kernel
theorem dX3_doAllIn_116 : decode cX3_doAllIn 116 = .ok (.goto (-96), 3) := by decide +kernel
theorem dX3_doAllIn_119 : decode cX3_doAllIn 119 = .ok (.return_, 1) := by decide +kernel
theorem dX3_faultFact_0 : decode cX3_faultFact 0 = .ok (.aload_n 0, 1) := by decide +kernel
theorem dX3_faultFact_1 : decode cX3_faultFact 1 = .ok (.getfield 24, 3) := by decide +kernel
theorem dX3_faultFact_4 : decode cX3_faultFact 4 = .ok (.ifCond .ne 6, 3) := by decide +kernel
theorem dX3_faultFact_7 : decode cX3_faultFact 7 = .ok (.ldc 55, 2) := by decide +kernel
theorem dX3_faultFact_9 : decode cX3_faultFact 9 = .ok (.ireturn, 1) := by decide +kernel
theorem dX3_faultFact_10 : decode cX3_faultFact 10 = .ok (.iload_n 1, 1) := by decide +kernel
theorem dX3_faultFact_11 : decode cX3_faultFact 11 = .ok (.ifCond .ne 10, 3) := by decide +kernel
theorem dX3_faultFact_14 : decode cX3_faultFact 14 = .ok (.aload_n 0, 1) := by decide +kernel
theorem dX3_faultFact_15 : decode cX3_faultFact 15 = .ok (.getfield 33, 3) := by decide +kernel
theorem dX3_faultFact_18 : decode cX3_faultFact 18 = .ok (.goto 19, 3) := by decide +kernel
theorem dX3_faultFact_21 : decode cX3_faultFact 21 = .ok (.iload_n 1, 1) := by decide +kernel
theorem dX3_faultFact_22 : decode cX3_faultFact 22 = .ok (.iconst 1, 1) := by decide +kernel
theorem dX3_faultFact_23 : decode cX3_faultFact 23 = .ok (.if_icmp .ne 10, 3) := by decide +kernel
theorem dX3_faultFact_26 : decode cX3_faultFact 26 = .ok (.aload_n 0, 1) := by decide +kernel
theorem dX3_faultFact_27 : decode cX3_faultFact 27 = .ok (.getfield 24, 3) := by decide +kernel
theorem dX3_faultFact_30 : decode cX3_faultFact 30 = .ok (.goto 7, 3) := by decide +kernel
theorem dX3_faultFact_33 : decode cX3_faultFact 33 = .ok (.aload_n 0, 1) := by decide +kernel
theorem dX3_faultFact_34 : decode cX3_faultFact 34 = .ok (.getfield 27, 3) := by decide +kernel
theorem dX3_faultFact_37 : decode cX3_faultFact 37 = .ok (.ireturn, 1) := by decide +kernel
set_option maxRecDepth 20000 in
theorem ggX3_takeOrder_X3_sign : GoodIn wsX3_takeOrder wsX3_sign := goodIn_r _ [9, 3, 10, 11, 30, 31, 32, 33, 34, 35, 36, 37, 38, 39] (by decide +kernel) (by decide +kernel)
set_option maxRecDepth 20000 in
theorem gX3_takeOrder_X3_sign : GoodIn wsX3_takeOrder (wsV RX3 56 RX3 yX3_sign wsX3_sign) := goodIn_app (goodIn_of _ (by decide +kernel)) ggX3_takeOrder_X3_sign
set_option maxRecDepth 20000 in
theorem ggX3_takeOrder_X3_isLetterOfOrder : GoodIn wsX3_takeOrder wsX3_isLetterOfOrder := goodIn_r _ [14] (by decide +kernel) (by decide +kernel)
set_option maxRecDepth 20000 in
theorem gX3_takeOrder_X3_isLetterOfOrder : GoodIn wsX3_takeOrder (va_wsS RX3 60 yX3_isLetterOfOrder wsX3_isLetterOfOrder) := goodIn_app (goodIn_of _ (by decide +kernel)) ggX3_takeOrder_X3_isLetterOfOrder
set_option maxRecDepth 20000 in
theorem ggX3_takeOrder_X3_takeNumber : GoodIn wsX3_takeOrder wsX3_takeNumber := goodIn_r _ [18, 19, 20, 21, 22, 3, 5, 6, 7, 8, 9, 10, 11, 23, 24, 25, 30, 31, 32, 33, 34, 35, 36, 37, 38, 39] (by decide +kernel) (by decide +kernel)
set_option maxRecDepth 20000 in
theorem gX3_takeOrder_X3_takeNumber : GoodIn wsX3_takeOrder (wsV RX3 64 RX3 yX3_takeNumber wsX3_takeNumber) := goodIn_app (goodIn_of _ (by decide +kernel)) ggX3_takeOrder_X3_takeNumber
set_option maxRecDepth 20000 in
theorem ggX3_takeOrder_X3_takeSign : GoodIn wsX3_takeOrder wsX3_takeSign := goodIn_r _ [29, 3, 5, 6, 7, 8, 9, 10, 11, 30, 31, 32, 33, 34, 35, 36, 37, 38, 39] (by decide +kernel) (by decide +kernel)
set_option maxRecDepth 20000 in
theorem gX3_takeOrder_X3_takeSign : GoodIn wsX3_takeOrder (wsV RX3 67 RX3 yX3_takeSign wsX3_takeSign) := goodIn_app (goodIn_of _ (by decide +kernel)) ggX3_takeOrder_X3_takeSign
theorem dX3_takeOrder_0 : decode cX3_takeOrder 0 = .ok (.aload_n 0, 1) := by decide +kernel
theorem dX3_takeOrder_1 : decode cX3_takeOrder 1 = .ok (.aload_n 0, 1) := by decide +kernel
theorem dX3_takeOrder_2 : decode cX3_takeOrder 2 = .ok (.invokevirtual 56, 3) := by decide +kernel
theorem dX3_takeOrder_5 : decode cX3_takeOrder 5 = .ok (.putfield 40, 3) := by decide +kernel
theorem dX3_takeOrder_8 : decode cX3_takeOrder 8 = .ok (.aload_n 0, 1) := by decide +kernel
theorem dX3_takeOrder_9 : decode cX3_takeOrder 9 = .ok (.iconst 0, 1) := by decide +kernel
theorem dX3_takeOrder_10 : decode cX3_takeOrder 10 = .ok (.putfield 46, 3) := by decide +kernel
theorem dX3_takeOrder_13 : decode cX3_takeOrder 13 = .ok (.aload_n 0, 1) := by decide +kernel
theorem dX3_takeOrder_14 : decode cX3_takeOrder 14 = .ok (.getfield 40, 3) := by decide +kernel
theorem dX3_takeOrder_17 : decode cX3_takeOrder 17 = .ok (.invokestatic 60, 3) := by decide +kernel
theorem dX3_takeOrder_20 : decode cX3_takeOrder 20 = .ok (.ifCond .ne 5, 3) := by decide +kernel
theorem dX3_takeOrder_23 : decode cX3_takeOrder 23 = .ok (.iconst 0, 1) := by decide +kernel
theorem dX3_takeOrder_24 : decode cX3_takeOrder 24 = .ok (.ireturn, 1) := by decide +kernel
theorem dX3_takeOrder_25 : decode cX3_takeOrder 25 = .ok (.aload_n 0, 1) := by decide +kernel
theorem dX3_takeOrder_26 : decode cX3_takeOrder 26 = .ok (.dup, 1) := by decide +kernel
theorem dX3_takeOrder_27 : decode cX3_takeOrder 27 = .ok (.getfield 21, 3) := by decide +kernel
theorem dX3_takeOrder_30 : decode cX3_takeOrder 30 = .ok (.iconst 1, 1) := by decide +kernel
theorem dX3_takeOrder_31 : decode cX3_takeOrder 31 = .ok (.iadd, 1) := by decide +kernel
theorem dX3_takeOrder_32 : decode cX3_takeOrder 32 = .ok (.putfield 21, 3) := by decide +kernel
theorem dX3_takeOrder_35 : decode cX3_takeOrder 35 = .ok (.aload_n 0, 1) := by decide +kernel
theorem dX3_takeOrder_36 : decode cX3_takeOrder 36 = .ok (.aload_n 0, 1) := by decide +kernel
theorem dX3_takeOrder_37 : decode cX3_takeOrder 37 = .ok (.invokevirtual 64, 3) := by decide +kernel
theorem dX3_takeOrder_40 : decode cX3_takeOrder 40 = .ok (.putfield 43, 3) := by decide +kernel
theorem dX3_takeOrder_43 : decode cX3_takeOrder 43 = .ok (.aload_n 0, 1) := by decide +kernel
theorem dX3_takeOrder_44 : decode cX3_takeOrder 44 = .ok (.getfield 43, 3) := by decide +kernel
theorem dX3_takeOrder_47 : decode cX3_takeOrder 47 = .ok (.iconst (-1), 1) := by decide +kernel
theorem dX3_takeOrder_48 : decode cX3_takeOrder 48 = .ok (.if_icmp .ne 5, 3) := by decide +kernel
theorem dX3_takeOrder_51 : decode cX3_takeOrder 51 = .ok (.iconst 0, 1) := by decide +kernel
theorem dX3_takeOrder_52 : decode cX3_takeOrder 52 = .ok (.ireturn, 1) := by decide +kernel
theorem dX3_takeOrder_53 : decode cX3_takeOrder 53 = .ok (.aload_n 0, 1) := by decide +kernel
theorem dX3_takeOrder_54 : decode cX3_takeOrder 54 = .ok (.getfield 40, 3) := by decide +kernel
theorem dX3_takeOrder_57 : decode cX3_takeOrder 57 = .ok (.bipush 104, 2) := by decide +kernel
theorem dX3_takeOrder_59 : decode cX3_takeOrder 59 = .ok (.if_icmp .eq 12, 3) := by decide +kernel
theorem dX3_takeOrder_62 : decode cX3_takeOrder 62 = .ok (.aload_n 0, 1) := by decide +kernel
theorem dX3_takeOrder_63 : decode cX3_takeOrder 63 = .ok (.getfield 40, 3) := by decide +kernel
theorem dX3_takeOrder_66 : decode cX3_takeOrder 66 = .ok (.bipush 102, 2) := by decide +kernel
theorem dX3_takeOrder_68 : decode cX3_takeOrder 68 = .ok (.if_icmp .ne 32, 3) := by decide +kernel
theorem dX3_takeOrder_71 : decode cX3_takeOrder 71 = .ok (.aload_n 0, 1) := by decide +kernel
theorem dX3_takeOrder_72 : decode cX3_takeOrder 72 = .ok (.bipush 44, 2) := by decide +kernel
theorem dX3_takeOrder_74 : decode cX3_takeOrder 74 = .ok (.invokevirtual 67, 3) := by decide +kernel
theorem dX3_takeOrder_77 : decode cX3_takeOrder 77 = .ok (.ifCond .ne 5, 3) := by decide +kernel
theorem dX3_takeOrder_80 : decode cX3_takeOrder 80 = .ok (.iconst 0, 1) := by decide +kernel
theorem dX3_takeOrder_81 : decode cX3_takeOrder 81 = .ok (.ireturn, 1) := by decide +kernel
theorem dX3_takeOrder_82 : decode cX3_takeOrder 82 = .ok (.aload_n 0, 1) := by decide +kernel
theorem dX3_takeOrder_83 : decode cX3_takeOrder 83 = .ok (.aload_n 0, 1) := by decide +kernel
theorem dX3_takeOrder_84 : decode cX3_takeOrder 84 = .ok (.invokevirtual 64, 3) := by decide +kernel
theorem dX3_takeOrder_87 : decode cX3_takeOrder 87 = .ok (.putfield 46, 3) := by decide +kernel
theorem dX3_takeOrder_90 : decode cX3_takeOrder 90 = .ok (.aload_n 0, 1) := by decide +kernel
theorem dX3_takeOrder_91 : decode cX3_takeOrder 91 = .ok (.getfield 46, 3) := by decide +kernel
theorem dX3_takeOrder_94 : decode cX3_takeOrder 94 = .ok (.iconst (-1), 1) := by decide +kernel
theorem dX3_takeOrder_95 : decode cX3_takeOrder 95 = .ok (.if_icmp .ne 5, 3) := by decide +kernel
theorem dX3_takeOrder_98 : decode cX3_takeOrder 98 = .ok (.iconst 0, 1) := by decide +kernel
theorem dX3_takeOrder_99 : decode cX3_takeOrder 99 = .ok (.ireturn, 1) := by decide +kernel
theorem dX3_takeOrder_100 : decode cX3_takeOrder 100 = .ok (.aload_n 0, 1) := by decide +kernel
theorem dX3_takeOrder_101 : decode cX3_takeOrder 101 = .ok (.bipush 59, 2) := by decide +kernel
theorem dX3_takeOrder_103 : decode cX3_takeOrder 103 = .ok (.invokevirtual 67, 3) := by decide +kernel
theorem dX3_takeOrder_106 : decode cX3_takeOrder 106 = .ok (.ireturn, 1) := by decide +kernel
set_option maxRecDepth 20000 in
theorem ggX3_takeNumber_X3_sign : GoodIn wsX3_takeNumber wsX3_sign := goodIn_r _ [10, 5, 11, 12, 16, 17, 18, 19, 20, 21, 22, 23, 24, 25] (by decide +kernel) (by decide +kernel)
set_option maxRecDepth 20000 in
theorem gX3_takeNumber_X3_sign : GoodIn wsX3_takeNumber (wsV RX3 56 RX3 yX3_sign wsX3_sign) := goodIn_app (goodIn_of _ (by decide +kernel)) ggX3_takeNumber_X3_sign
set_option maxRecDepth 20000 in
theorem ggX3_takeNumber_X3_isDigit : GoodIn wsX3_takeNumber wsX3_isDigit := goodIn_r _ [15] (by decide +kernel) (by decide +kernel)
set_option maxRecDepth 20000 in
theorem gX3_takeNumber_X3_isDigit : GoodIn wsX3_takeNumber (va_wsS RX3 70 yX3_isDigit wsX3_isDigit) := goodIn_app (goodIn_of _ (by decide +kernel)) ggX3_takeNumber_X3_isDigit
theorem dX3_takeNumber_0 : decode cX3_takeNumber 0 = .ok (.iconst (-1), 1) := by decide +kernel
theorem dX3_takeNumber_1 : decode cX3_takeNumber 1 = .ok (.istore_n 1, 1) := by decide +kernel
theorem dX3_takeNumber_2 : decode cX3_takeNumber 2 = .ok (.iconst 0, 1) := by decide +kernel
theorem dX3_takeNumber_3 : decode cX3_takeNumber 3 = .ok (.istore_n 2, 1) := by decide +kernel
theorem dX3_takeNumber_4 : decode cX3_takeNumber 4 = .ok (.iload_n 2, 1) := by decide +kernel
theorem dX3_takeNumber_5 : decode cX3_takeNumber 5 = .ok (.iconst 3, 1) := by decide +kernel
theorem dX3_takeNumber_6 : decode cX3_takeNumber 6 = .ok (.if_icmp .ge 46, 3) := by decide +kernel
theorem dX3_takeNumber_9 : decode cX3_takeNumber 9 = .ok (.aload_n 0, 1) := by decide +kernel
theorem dX3_takeNumber_10 : decode cX3_takeNumber 10 = .ok (.invokevirtual 56, 3) := by decide +kernel
theorem dX3_takeNumber_13 : decode cX3_takeNumber 13 = .ok (.invokestatic 70, 3) := by decide +kernel
theorem dX3_takeNumber_16 : decode cX3_takeNumber 16 = .ok (.ifCond .eq 36, 3) := by decide +kernel
theorem dX3_takeNumber_19 : decode cX3_takeNumber 19 = .ok (.bipush 10, 2) := by decide +kernel
theorem dX3_takeNumber_21 : decode cX3_takeNumber 21 = .ok (.iload_n 1, 1) := by decide +kernel
theorem dX3_takeNumber_22 : decode cX3_takeNumber 22 = .ok (.iconst 0, 1) := by decide +kernel
theorem dX3_takeNumber_23 : decode cX3_takeNumber 23 = .ok (.invokestatic 73, 3) := by decide +kernel
theorem dX3_takeNumber_26 : decode cX3_takeNumber 26 = .ok (.imul, 1) := by decide +kernel
theorem dX3_takeNumber_27 : decode cX3_takeNumber 27 = .ok (.aload_n 0, 1) := by decide +kernel
theorem dX3_takeNumber_28 : decode cX3_takeNumber 28 = .ok (.invokevirtual 56, 3) := by decide +kernel
theorem dX3_takeNumber_31 : decode cX3_takeNumber 31 = .ok (.iadd, 1) := by decide +kernel
theorem dX3_takeNumber_32 : decode cX3_takeNumber 32 = .ok (.bipush 48, 2) := by decide +kernel
theorem dX3_takeNumber_34 : decode cX3_takeNumber 34 = .ok (.isub, 1) := by decide +kernel
theorem dX3_takeNumber_35 : decode cX3_takeNumber 35 = .ok (.istore_n 1, 1) := by decide +kernel
theorem dX3_takeNumber_36 : decode cX3_takeNumber 36 = .ok (.aload_n 0, 1) := by decide +kernel
theorem dX3_takeNumber_37 : decode cX3_takeNumber 37 = .ok (.dup, 1) := by decide +kernel
theorem dX3_takeNumber_38 : decode cX3_takeNumber 38 = .ok (.getfield 21, 3) := by decide +kernel
theorem dX3_takeNumber_41 : decode cX3_takeNumber 41 = .ok (.iconst 1, 1) := by decide +kernel
theorem dX3_takeNumber_42 : decode cX3_takeNumber 42 = .ok (.iadd, 1) := by decide +kernel
theorem dX3_takeNumber_43 : decode cX3_takeNumber 43 = .ok (.putfield 21, 3) := by decide +kernel
theorem dX3_takeNumber_46 : decode cX3_takeNumber 46 = .ok (.iinc 2 1, 3) := by decide +kernel
theorem dX3_takeNumber_49 : decode cX3_takeNumber 49 = .ok (.goto (-45), 3) := by decide +kernel
theorem dX3_takeNumber_52 : decode cX3_takeNumber 52 = .ok (.iload_n 1, 1) := by decide +kernel
theorem dX3_takeNumber_53 : decode cX3_takeNumber 53 = .ok (.ireturn, 1) := by decide +kernel
set_option maxRecDepth 20000 in
theorem ggX3_takeSign_X3_sign : GoodIn wsX3_takeSign wsX3_sign := goodIn_r _ [6, 1, 7, 8, 9, 10, 11, 12, 13, 14, 15, 16, 17, 18] (by decide +kernel) (by decide +kernel)
set_option maxRecDepth 20000 in
theorem gX3_takeSign_X3_sign : GoodIn wsX3_takeSign (wsV RX3 56 RX3 yX3_sign wsX3_sign) := goodIn_app (goodIn_of _ (by decide +kernel)) ggX3_takeSign_X3_sign
theorem dX3_takeSign_0 : decode cX3_takeSign 0 = .ok (.aload_n 0, 1) := by decide +kernel
theorem dX3_takeSign_1 : decode cX3_takeSign 1 = .ok (.invokevirtual 56, 3) := by decide +kernel
theorem dX3_takeSign_4 : decode cX3_takeSign 4 = .ok (.iload_n 1, 1) := by decide +kernel
theorem dX3_takeSign_5 : decode cX3_takeSign 5 = .ok (.if_icmp .eq 5, 3) := by decide +kernel
theorem dX3_takeSign_8 : decode cX3_takeSign 8 = .ok (.iconst 0, 1) := by decide +kernel
theorem dX3_takeSign_9 : decode cX3_takeSign 9 = .ok (.ireturn, 1) := by decide +kernel
theorem dX3_takeSign_10 : decode cX3_takeSign 10 = .ok (.aload_n 0, 1) := by decide +kernel
theorem dX3_takeSign_11 : decode cX3_takeSign 11 = .ok (.dup, 1) := by decide +kernel
theorem dX3_takeSign_12 : decode cX3_takeSign 12 = .ok (.getfield 21, 3) := by decide +kernel
theorem dX3_takeSign_15 : decode cX3_takeSign 15 = .ok (.iconst 1, 1) := by decide +kernel
theorem dX3_takeSign_16 : decode cX3_takeSign 16 = .ok (.iadd, 1) := by decide +kernel
theorem dX3_takeSign_17 : decode cX3_takeSign 17 = .ok (.putfield 21, 3) := by decide +kernel
theorem dX3_takeSign_20 : decode cX3_takeSign 20 = .ok (.iconst 1, 1) := by decide +kernel
theorem dX3_takeSign_21 : decode cX3_takeSign 21 = .ok (.ireturn, 1) := by decide +kernel
theorem dX3_sign_0 : decode cX3_sign 0 = .ok (.aload_n 0, 1) := by decide +kernel
theorem dX3_sign_1 : decode cX3_sign 1 = .ok (.getfield 21, 3) := by decide +kernel
theorem dX3_sign_4 : decode cX3_sign 4 = .ok (.ifCond .lt 35, 3) := by decide +kernel
theorem dX3_sign_7 : decode cX3_sign 7 = .ok (.aload_n 0, 1) := by decide +kernel
theorem dX3_sign_8 : decode cX3_sign 8 = .ok (.getfield 21, 3) := by decide +kernel
theorem dX3_sign_11 : decode cX3_sign 11 = .ok (.aload_n 0, 1) := by decide +kernel
theorem dX3_sign_12 : decode cX3_sign 12 = .ok (.getfield 16, 3) := by decide +kernel
theorem dX3_sign_15 : decode cX3_sign 15 = .ok (.if_icmp .ge 24, 3) := by decide +kernel
theorem dX3_sign_18 : decode cX3_sign 18 = .ok (.aload_n 0, 1) := by decide +kernel
theorem dX3_sign_19 : decode cX3_sign 19 = .ok (.getfield 21, 3) := by decide +kernel
theorem dX3_sign_22 : decode cX3_sign 22 = .ok (.bipush 60, 2) := by decide +kernel
theorem dX3_sign_24 : decode cX3_sign 24 = .ok (.if_icmp .ge 15, 3) := by decide +kernel
theorem dX3_sign_27 : decode cX3_sign 27 = .ok (.aload_n 0, 1) := by decide +kernel
theorem dX3_sign_28 : decode cX3_sign 28 = .ok (.getfield 11, 3) := by decide +kernel
theorem dX3_sign_31 : decode cX3_sign 31 = .ok (.aload_n 0, 1) := by decide +kernel
theorem dX3_sign_32 : decode cX3_sign 32 = .ok (.getfield 21, 3) := by decide +kernel
theorem dX3_sign_35 : decode cX3_sign 35 = .ok (.iaload, 1) := by decide +kernel
theorem dX3_sign_36 : decode cX3_sign 36 = .ok (.goto 4, 3) := by decide +kernel
theorem dX3_sign_39 : decode cX3_sign 39 = .ok (.iconst (-1), 1) := by decide +kernel
theorem dX3_sign_40 : decode cX3_sign 40 = .ok (.ireturn, 1) := by decide +kernel
theorem dX3_isLetterOfOrder_0 : decode cX3_isLetterOfOrder 0 = .ok (.iload_n 0, 1) := by decide +kernel
theorem dX3_isLetterOfOrder_1 : decode cX3_isLetterOfOrder 1 = .ok (.bipush 104, 2) := by decide +kernel
theorem dX3_isLetterOfOrder_3 : decode cX3_isLetterOfOrder 3 = .ok (.if_icmp .eq 33, 3) := by decide +kernel
theorem dX3_isLetterOfOrder_6 : decode cX3_isLetterOfOrder 6 = .ok (.iload_n 0, 1) := by decide +kernel
theorem dX3_isLetterOfOrder_7 : decode cX3_isLetterOfOrder 7 = .ok (.bipush 102, 2) := by decide +kernel
theorem dX3_isLetterOfOrder_9 : decode cX3_isLetterOfOrder 9 = .ok (.if_icmp .eq 27, 3) := by decide +kernel
theorem dX3_isLetterOfOrder_12 : decode cX3_isLetterOfOrder 12 = .ok (.iload_n 0, 1) := by decide +kernel
theorem dX3_isLetterOfOrder_13 : decode cX3_isLetterOfOrder 13 = .ok (.bipush 108, 2) := by decide +kernel
theorem dX3_isLetterOfOrder_15 : decode cX3_isLetterOfOrder 15 = .ok (.if_icmp .eq 21, 3) := by decide +kernel
theorem dX3_isLetterOfOrder_18 : decode cX3_isLetterOfOrder 18 = .ok (.iload_n 0, 1) := by decide +kernel
theorem dX3_isLetterOfOrder_19 : decode cX3_isLetterOfOrder 19 = .ok (.bipush 114, 2) := by decide +kernel
theorem dX3_isLetterOfOrder_21 : decode cX3_isLetterOfOrder 21 = .ok (.if_icmp .eq 15, 3) := by decide +kernel
theorem dX3_isLetterOfOrder_24 : decode cX3_isLetterOfOrder 24 = .ok (.iload_n 0, 1) := by decide +kernel
theorem dX3_isLetterOfOrder_25 : decode cX3_isLetterOfOrder 25 = .ok (.bipush 99, 2) := by decide +kernel
theorem dX3_isLetterOfOrder_27 : decode cX3_isLetterOfOrder 27 = .ok (.if_icmp .eq 9, 3) := by decide +kernel
theorem dX3_isLetterOfOrder_30 : decode cX3_isLetterOfOrder 30 = .ok (.iload_n 0, 1) := by decide +kernel
theorem dX3_isLetterOfOrder_31 : decode cX3_isLetterOfOrder 31 = .ok (.bipush 100, 2) := by decide +kernel
theorem dX3_isLetterOfOrder_33 : decode cX3_isLetterOfOrder 33 = .ok (.if_icmp .ne 7, 3) := by decide +kernel
theorem dX3_isLetterOfOrder_36 : decode cX3_isLetterOfOrder 36 = .ok (.iconst 1, 1) := by decide +kernel
theorem dX3_isLetterOfOrder_37 : decode cX3_isLetterOfOrder 37 = .ok (.goto 4, 3) := by decide +kernel
theorem dX3_isLetterOfOrder_40 : decode cX3_isLetterOfOrder 40 = .ok (.iconst 0, 1) := by decide +kernel
theorem dX3_isLetterOfOrder_41 : decode cX3_isLetterOfOrder 41 = .ok (.ireturn, 1) := by decide +kernel
theorem dX3_isDigit_0 : decode cX3_isDigit 0 = .ok (.iload_n 0, 1) := by decide +kernel
theorem dX3_isDigit_1 : decode cX3_isDigit 1 = .ok (.bipush 48, 2) := by decide +kernel
theorem dX3_isDigit_3 : decode cX3_isDigit 3 = .ok (.if_icmp .lt 13, 3) := by decide +kernel
theorem dX3_isDigit_6 : decode cX3_isDigit 6 = .ok (.iload_n 0, 1) := by decide +kernel
theorem dX3_isDigit_7 : decode cX3_isDigit 7 = .ok (.bipush 57, 2) := by decide +kernel
theorem dX3_isDigit_9 : decode cX3_isDigit 9 = .ok (.if_icmp .gt 7, 3) := by decide +kernel
theorem dX3_isDigit_12 : decode cX3_isDigit 12 = .ok (.iconst 1, 1) := by decide +kernel
theorem dX3_isDigit_13 : decode cX3_isDigit 13 = .ok (.goto 4, 3) := by decide +kernel
theorem dX3_isDigit_16 : decode cX3_isDigit 16 = .ok (.iconst 0, 1) := by decide +kernel
theorem dX3_isDigit_17 : decode cX3_isDigit 17 = .ok (.ireturn, 1) := by decide +kernel
theorem dX4_init_0 : decode cX4_init 0 = .ok (.aload_n 0, 1) := by decide +kernel
theorem dX4_init_1 : decode cX4_init 1 = .ok (.invokespecial 3, 3) := by decide +kernel
theorem dX4_init_4 : decode cX4_init 4 = .ok (.aload_n 0, 1) := by decide +kernel
theorem dX4_init_5 : decode cX4_init 5 = .ok (.bipush 20, 2) := by decide +kernel
theorem dX4_init_7 : decode cX4_init 7 = .ok (.newarray .int, 2) := by decide +kernel
theorem dX4_init_9 : decode cX4_init 9 = .ok (.putfield 9, 3) := by decide +kernel
theorem dX4_init_12 : decode cX4_init 12 = .ok (.aload_n 0, 1) := by decide +kernel
theorem dX4_init_13 : decode cX4_init 13 = .ok (.iconst (-1), 1) := by decide +kernel
theorem dX4_init_14 : decode cX4_init 14 = .ok (.putfield 15, 3) := by decide +kernel
theorem dX4_init_17 : decode cX4_init 17 = .ok (.iconst 0, 1) := by decide +kernel
theorem dX4_init_18 : decode cX4_init 18 = .ok (.istore_n 1, 1) := by decide +kernel
theorem dX4_init_19 : decode cX4_init 19 = .ok (.iload_n 1, 1) := by decide +kernel
theorem dX4_init_20 : decode cX4_init 20 = .ok (.bipush 20, 2) := by decide +kernel
theorem dX4_init_22 : decode cX4_init 22 = .ok (.if_icmp .ge 16, 3) := by decide +kernel
theorem dX4_init_25 : decode cX4_init 25 = .ok (.aload_n 0, 1) := by decide +kernel
theorem dX4_init_26 : decode cX4_init 26 = .ok (.getfield 9, 3) := by decide +kernel
theorem dX4_init_29 : decode cX4_init 29 = .ok (.iload_n 1, 1) := by decide +kernel
theorem dX4_init_30 : decode cX4_init 30 = .ok (.iconst (-1), 1) := by decide +kernel
theorem dX4_init_31 : decode cX4_init 31 = .ok (.iastore, 1) := by decide +kernel
theorem dX4_init_32 : decode cX4_init 32 = .ok (.iinc 1 1, 3) := by decide +kernel
theorem dX4_init_35 : decode cX4_init 35 = .ok (.goto (-16), 3) := by decide +kernel
theorem dX4_init_38 : decode cX4_init 38 = .ok (.return_, 1) := by decide +kernel
theorem dX4_copyFrom_0 : decode cX4_copyFrom 0 = .ok (.aload_n 1, 1) := by decide +kernel
theorem dX4_copyFrom_1 : decode cX4_copyFrom 1 = .ok (.getfield 9, 3) := by decide +kernel
theorem dX4_copyFrom_4 : decode cX4_copyFrom 4 = .ok (.iconst 0, 1) := by decide +kernel
theorem dX4_copyFrom_5 : decode cX4_copyFrom 5 = .ok (.aload_n 0, 1) := by decide +kernel
theorem dX4_copyFrom_6 : decode cX4_copyFrom 6 = .ok (.getfield 9, 3) := by decide +kernel
theorem dX4_copyFrom_9 : decode cX4_copyFrom 9 = .ok (.iconst 0, 1) := by decide +kernel
theorem dX4_copyFrom_10 : decode cX4_copyFrom 10 = .ok (.bipush 20, 2) := by decide +kernel
theorem dX4_copyFrom_12 : decode cX4_copyFrom 12 = .ok (.invokestatic 19, 3) := by decide +kernel
theorem dX4_copyFrom_15 : decode cX4_copyFrom 15 = .ok (.aload_n 0, 1) := by decide +kernel
theorem dX4_copyFrom_16 : decode cX4_copyFrom 16 = .ok (.aload_n 1, 1) := by decide +kernel
theorem dX4_copyFrom_17 : decode cX4_copyFrom 17 = .ok (.getfield 15, 3) := by decide +kernel
theorem dX4_copyFrom_20 : decode cX4_copyFrom 20 = .ok (.putfield 15, 3) := by decide +kernel
theorem dX4_copyFrom_23 : decode cX4_copyFrom 23 = .ok (.return_, 1) := by decide +kernel
theorem dX4_stepAhead_0 : decode cX4_stepAhead 0 = .ok (.aload_n 0, 1) := by decide +kernel
theorem dX4_stepAhead_1 : decode cX4_stepAhead 1 = .ok (.getfield 15, 3) := by decide +kernel
theorem dX4_stepAhead_4 : decode cX4_stepAhead 4 = .ok (.iconst 1, 1) := by decide +kernel
theorem dX4_stepAhead_5 : decode cX4_stepAhead 5 = .ok (.iadd, 1) := by decide +kernel
theorem dX4_stepAhead_6 : decode cX4_stepAhead 6 = .ok (.iload_n 1, 1) := by decide +kernel
theorem dX4_stepAhead_7 : decode cX4_stepAhead 7 = .ok (.iadd, 1) := by decide +kernel
theorem dX4_stepAhead_8 : decode cX4_stepAhead 8 = .ok (.bipush 20, 2) := by decide +kernel
theorem dX4_stepAhead_10 : decode cX4_stepAhead 10 = .ok (.irem, 1) := by decide +kernel
theorem dX4_stepAhead_11 : decode cX4_stepAhead 11 = .ok (.ireturn, 1) := by decide +kernel
theorem dX4_houseOn_0 : decode cX4_houseOn 0 = .ok (.iload_n 1, 1) := by decide +kernel
theorem dX4_houseOn_1 : decode cX4_houseOn 1 = .ok (.ifCond .lt 18, 3) := by decide +kernel
theorem dX4_houseOn_4 : decode cX4_houseOn 4 = .ok (.iload_n 1, 1) := by decide +kernel
theorem dX4_houseOn_5 : decode cX4_houseOn 5 = .ok (.bipush 20, 2) := by decide +kernel
theorem dX4_houseOn_7 : decode cX4_houseOn 7 = .ok (.if_icmp .ge 12, 3) := by decide +kernel
theorem dX4_houseOn_10 : decode cX4_houseOn 10 = .ok (.aload_n 0, 1) := by decide +kernel
theorem dX4_houseOn_11 : decode cX4_houseOn 11 = .ok (.getfield 9, 3) := by decide +kernel
theorem dX4_houseOn_14 : decode cX4_houseOn 14 = .ok (.iload_n 1, 1) := by decide +kernel
theorem dX4_houseOn_15 : decode cX4_houseOn 15 = .ok (.iaload, 1) := by decide +kernel
theorem dX4_houseOn_16 : decode cX4_houseOn 16 = .ok (.goto 4, 3) := by decide +kernel
theorem dX4_houseOn_19 : decode cX4_houseOn 19 = .ok (.iconst (-1), 1) := by decide +kernel
theorem dX4_houseOn_20 : decode cX4_houseOn 20 = .ok (.ireturn, 1) := by decide +kernel
theorem dX4_putHouse_0 : decode cX4_putHouse 0 = .ok (.iload_n 1, 1) := by decide +kernel
theorem dX4_putHouse_1 : decode cX4_putHouse 1 = .ok (.ifCond .lt 16, 3) := by decide +kernel
theorem dX4_putHouse_4 : decode cX4_putHouse 4 = .ok (.iload_n 1, 1) := by decide +kernel
theorem dX4_putHouse_5 : decode cX4_putHouse 5 = .ok (.bipush 20, 2) := by decide +kernel
theorem dX4_putHouse_7 : decode cX4_putHouse 7 = .ok (.if_icmp .ge 10, 3) := by decide +kernel
theorem dX4_putHouse_10 : decode cX4_putHouse 10 = .ok (.aload_n 0, 1) := by decide +kernel
theorem dX4_putHouse_11 : decode cX4_putHouse 11 = .ok (.getfield 9, 3) := by decide +kernel
theorem dX4_putHouse_14 : decode cX4_putHouse 14 = .ok (.iload_n 1, 1) := by decide +kernel
theorem dX4_putHouse_15 : decode cX4_putHouse 15 = .ok (.iload_n 2, 1) := by decide +kernel
theorem dX4_putHouse_16 : decode cX4_putHouse 16 = .ok (.iastore, 1) := by decide +kernel
theorem dX4_putHouse_17 : decode cX4_putHouse 17 = .ok (.return_, 1) := by decide +kernel
set_option maxRecDepth 20000 in
theorem ggX4_houseRanked_X4_stepAhead : GoodIn wsX4_houseRanked wsX4_stepAhead := goodIn_r _ [6, 7, 13, 14] (by decide +kernel) (by decide +kernel)
set_option maxRecDepth 20000 in
theorem gX4_houseRanked_X4_stepAhead : GoodIn wsX4_houseRanked (wsV RX4 25 RX4 yX4_stepAhead wsX4_stepAhead) := goodIn_app (goodIn_of _ (by decide +kernel)) ggX4_houseRanked_X4_stepAhead
set_option maxRecDepth 20000 in
theorem ggX4_houseRanked_X4_houseOn : GoodIn wsX4_houseRanked wsX4_houseOn := goodIn_r _ [11, 12, 13, 14] (by decide +kernel) (by decide +kernel)
set_option maxRecDepth 20000 in
theorem gX4_houseRanked_X4_houseOn : GoodIn wsX4_houseRanked (wsV RX4 29 RX4 yX4_houseOn wsX4_houseOn) := goodIn_app (goodIn_of _ (by decide +kernel)) ggX4_houseRanked_X4_houseOn
theorem dX4_houseRanked_0 : decode cX4_houseRanked 0 = .ok (.iconst 0, 1) := by decide +kernel
theorem dX4_houseRanked_1 : decode cX4_houseRanked 1 = .ok (.istore_n 2, 1) := by decide +kernel
theorem dX4_houseRanked_2 : decode cX4_houseRanked 2 = .ok (.iconst 0, 1) := by decide +kernel
theorem dX4_houseRanked_3 : decode cX4_houseRanked 3 = .ok (.istore_n 3, 1) := by decide +kernel
theorem dX4_houseRanked_4 : decode cX4_houseRanked 4 = .ok (.iload_n 3, 1) := by decide +kernel
theorem dX4_houseRanked_5 : decode cX4_houseRanked 5 = .ok (.bipush 20, 2) := by decide +kernel
theorem dX4_houseRanked_7 : decode cX4_houseRanked 7 = .ok (.if_icmp .ge 37, 3) := by decide +kernel
theorem dX4_houseRanked_10 : decode cX4_houseRanked 10 = .ok (.aload_n 0, 1) := by decide +kernel
theorem dX4_houseRanked_11 : decode cX4_houseRanked 11 = .ok (.aload_n 0, 1) := by decide +kernel
theorem dX4_houseRanked_12 : decode cX4_houseRanked 12 = .ok (.iload_n 3, 1) := by decide +kernel
theorem dX4_houseRanked_13 : decode cX4_houseRanked 13 = .ok (.invokevirtual 25, 3) := by decide +kernel
theorem dX4_houseRanked_16 : decode cX4_houseRanked 16 = .ok (.invokevirtual 29, 3) := by decide +kernel
theorem dX4_houseRanked_19 : decode cX4_houseRanked 19 = .ok (.istore 4, 2) := by decide +kernel
theorem dX4_houseRanked_21 : decode cX4_houseRanked 21 = .ok (.iload 4, 2) := by decide +kernel
theorem dX4_houseRanked_23 : decode cX4_houseRanked 23 = .ok (.iconst (-1), 1) := by decide +kernel
theorem dX4_houseRanked_24 : decode cX4_houseRanked 24 = .ok (.if_icmp .eq 14, 3) := by decide +kernel
theorem dX4_houseRanked_27 : decode cX4_houseRanked 27 = .ok (.iload_n 2, 1) := by decide +kernel
theorem dX4_houseRanked_28 : decode cX4_houseRanked 28 = .ok (.iload_n 1, 1) := by decide +kernel
theorem dX4_houseRanked_29 : decode cX4_houseRanked 29 = .ok (.if_icmp .ne 6, 3) := by decide +kernel
theorem dX4_houseRanked_32 : decode cX4_houseRanked 32 = .ok (.iload 4, 2) := by decide +kernel
theorem dX4_houseRanked_34 : decode cX4_houseRanked 34 = .ok (.ireturn, 1) := by decide +kernel
theorem dX4_houseRanked_35 : decode cX4_houseRanked 35 = .ok (.iinc 2 1, 3) := by decide +kernel
theorem dX4_houseRanked_38 : decode cX4_houseRanked 38 = .ok (.iinc 3 1, 3) := by decide +kernel
theorem dX4_houseRanked_41 : decode cX4_houseRanked 41 = .ok (.goto (-37), 3) := by decide +kernel
theorem dX4_houseRanked_44 : decode cX4_houseRanked 44 = .ok (.ldc 32, 2) := by decide +kernel
theorem dX4_houseRanked_46 : decode cX4_houseRanked 46 = .ok (.ireturn, 1) := by decide +kernel
set_option maxRecDepth 20000 in
theorem ggX5_init_X2_init : GoodIn wsX5_init wsX2_init := goodIn_r _ [19, 20, 2, 3, 12, 21, 45, 46, 47] (by decide +kernel) (by decide +kernel)
set_option maxRecDepth 20000 in
theorem gX5_init_X2_init_n25 : GoodIn wsX5_init (wsX2_init) := ggX5_init_X2_init
set_option maxRecDepth 20000 in
theorem ggX5_init_X1_init : GoodIn wsX5_init wsX1_init := goodIn_r _ [23, 24, 2, 3, 25, 48, 49, 50, 51, 52, 53, 54, 55, 56, 57, 58, 59, 60, 61] (by decide +kernel) (by decide +kernel)
set_option maxRecDepth 20000 in
theorem gX5_init_X1_init_n34 : GoodIn wsX5_init (wsX1_init) := ggX5_init_X1_init
set_option maxRecDepth 20000 in
theorem ggX5_init_X4_init : GoodIn wsX5_init wsX4_init := goodIn_r _ [28, 29, 2, 3, 12, 30, 31, 62, 63] (by decide +kernel) (by decide +kernel)
set_option maxRecDepth 20000 in
theorem gX5_init_X4_init : GoodIn wsX5_init (wsX4_init) := ggX5_init_X4_init
theorem dX5_init_0 : decode cX5_init 0 = .ok (.aload_n 0, 1) := by decide +kernel
theorem dX5_init_1 : decode cX5_init 1 = .ok (.invokespecial 3, 3) := by decide +kernel
theorem dX5_init_4 : decode cX5_init 4 = .ok (.aload_n 0, 1) := by decide +kernel
theorem dX5_init_5 : decode cX5_init 5 = .ok (.bipush 24, 2) := by decide +kernel
theorem dX5_init_7 : decode cX5_init 7 = .ok (.anewarray 9, 3) := by decide +kernel
theorem dX5_init_10 : decode cX5_init 10 = .ok (.putfield 11, 3) := by decide +kernel
theorem dX5_init_13 : decode cX5_init 13 = .ok (.aload_n 0, 1) := by decide +kernel
theorem dX5_init_14 : decode cX5_init 14 = .ok (.iconst 4, 1) := by decide +kernel
theorem dX5_init_15 : decode cX5_init 15 = .ok (.anewarray 17, 3) := by decide +kernel
theorem dX5_init_18 : decode cX5_init 18 = .ok (.putfield 19, 3) := by decide +kernel
theorem dX5_init_21 : decode cX5_init 21 = .ok (.aload_n 0, 1) := by decide +kernel
theorem dX5_init_22 : decode cX5_init 22 = .ok (.new 23, 3) := by decide +kernel
theorem dX5_init_25 : decode cX5_init 25 = .ok (.dup, 1) := by decide +kernel
theorem dX5_init_26 : decode cX5_init 26 = .ok (.invokespecial 25, 3) := by decide +kernel
theorem dX5_init_29 : decode cX5_init 29 = .ok (.putfield 26, 3) := by decide +kernel
theorem dX5_init_32 : decode cX5_init 32 = .ok (.aload_n 0, 1) := by decide +kernel
theorem dX5_init_33 : decode cX5_init 33 = .ok (.iconst 4, 1) := by decide +kernel
theorem dX5_init_34 : decode cX5_init 34 = .ok (.newarray .int, 2) := by decide +kernel
theorem dX5_init_36 : decode cX5_init 36 = .ok (.putfield 30, 3) := by decide +kernel
theorem dX5_init_39 : decode cX5_init 39 = .ok (.iconst 0, 1) := by decide +kernel
theorem dX5_init_40 : decode cX5_init 40 = .ok (.istore_n 1, 1) := by decide +kernel
theorem dX5_init_41 : decode cX5_init 41 = .ok (.iload_n 1, 1) := by decide +kernel
theorem dX5_init_42 : decode cX5_init 42 = .ok (.bipush 24, 2) := by decide +kernel
theorem dX5_init_44 : decode cX5_init 44 = .ok (.if_icmp .ge 22, 3) := by decide +kernel
theorem dX5_init_47 : decode cX5_init 47 = .ok (.aload_n 0, 1) := by decide +kernel
theorem dX5_init_48 : decode cX5_init 48 = .ok (.getfield 11, 3) := by decide +kernel
theorem dX5_init_51 : decode cX5_init 51 = .ok (.iload_n 1, 1) := by decide +kernel
theorem dX5_init_52 : decode cX5_init 52 = .ok (.new 9, 3) := by decide +kernel
theorem dX5_init_55 : decode cX5_init 55 = .ok (.dup, 1) := by decide +kernel
theorem dX5_init_56 : decode cX5_init 56 = .ok (.invokespecial 34, 3) := by decide +kernel
theorem dX5_init_59 : decode cX5_init 59 = .ok (.aastore, 1) := by decide +kernel
theorem dX5_init_60 : decode cX5_init 60 = .ok (.iinc 1 1, 3) := by decide +kernel
theorem dX5_init_63 : decode cX5_init 63 = .ok (.goto (-22), 3) := by decide +kernel
theorem dX5_init_66 : decode cX5_init 66 = .ok (.iconst 0, 1) := by decide +kernel
theorem dX5_init_67 : decode cX5_init 67 = .ok (.istore_n 1, 1) := by decide +kernel
theorem dX5_init_68 : decode cX5_init 68 = .ok (.iload_n 1, 1) := by decide +kernel
theorem dX5_init_69 : decode cX5_init 69 = .ok (.iconst 4, 1) := by decide +kernel
theorem dX5_init_70 : decode cX5_init 70 = .ok (.if_icmp .ge 22, 3) := by decide +kernel
theorem dX5_init_73 : decode cX5_init 73 = .ok (.aload_n 0, 1) := by decide +kernel
theorem dX5_init_74 : decode cX5_init 74 = .ok (.getfield 19, 3) := by decide +kernel
theorem dX5_init_77 : decode cX5_init 77 = .ok (.iload_n 1, 1) := by decide +kernel
theorem dX5_init_78 : decode cX5_init 78 = .ok (.new 17, 3) := by decide +kernel
theorem dX5_init_81 : decode cX5_init 81 = .ok (.dup, 1) := by decide +kernel
theorem dX5_init_82 : decode cX5_init 82 = .ok (.invokespecial 35, 3) := by decide +kernel
theorem dX5_init_85 : decode cX5_init 85 = .ok (.aastore, 1) := by decide +kernel
theorem dX5_init_86 : decode cX5_init 86 = .ok (.iinc 1 1, 3) := by decide +kernel
theorem dX5_init_89 : decode cX5_init 89 = .ok (.goto (-21), 3) := by decide +kernel
theorem dX5_init_92 : decode cX5_init 92 = .ok (.iconst 0, 1) := by decide +kernel
theorem dX5_init_93 : decode cX5_init 93 = .ok (.istore_n 1, 1) := by decide +kernel
theorem dX5_init_94 : decode cX5_init 94 = .ok (.iload_n 1, 1) := by decide +kernel
theorem dX5_init_95 : decode cX5_init 95 = .ok (.iconst 4, 1) := by decide +kernel
theorem dX5_init_96 : decode cX5_init 96 = .ok (.if_icmp .ge 20, 3) := by decide +kernel
theorem dX5_init_99 : decode cX5_init 99 = .ok (.aload_n 0, 1) := by decide +kernel
theorem dX5_init_100 : decode cX5_init 100 = .ok (.getfield 30, 3) := by decide +kernel
theorem dX5_init_103 : decode cX5_init 103 = .ok (.iload_n 1, 1) := by decide +kernel
theorem dX5_init_104 : decode cX5_init 104 = .ok (.getstatic 36, 3) := by decide +kernel
theorem dX5_init_107 : decode cX5_init 107 = .ok (.iload_n 1, 1) := by decide +kernel
theorem dX5_init_108 : decode cX5_init 108 = .ok (.iaload, 1) := by decide +kernel
theorem dX5_init_109 : decode cX5_init 109 = .ok (.iastore, 1) := by decide +kernel
theorem dX5_init_110 : decode cX5_init 110 = .ok (.iinc 1 1, 3) := by decide +kernel
theorem dX5_init_113 : decode cX5_init 113 = .ok (.goto (-19), 3) := by decide +kernel
theorem dX5_init_116 : decode cX5_init 116 = .ok (.return_, 1) := by decide +kernel
set_option maxRecDepth 20000 in
theorem ggX5_copyFrom_X1_copyFrom : GoodIn wsX5_copyFrom wsX1_copyFrom := goodIn_r _ [22, 23, 24, 25, 26, 27, 28, 29, 30, 31, 32, 33, 34, 35, 36, 67, 68, 69, 70, 71, 72, 73, 74, 75, 76, 77, 78, 79, 80] (by decide +kernel) (by decide +kernel)
set_option maxRecDepth 20000 in
theorem gX5_copyFrom_X1_copyFrom : GoodIn wsX5_copyFrom (wsV RX5 39 RX1 yX1_copyFrom wsX1_copyFrom) := goodIn_app (goodIn_of _ (by decide +kernel)) ggX5_copyFrom_X1_copyFrom
set_option maxRecDepth 20000 in
theorem ggX5_copyFrom_X4_copyFrom : GoodIn wsX5_copyFrom wsX4_copyFrom := goodIn_r _ [41, 42, 43, 6, 7, 8, 44, 81, 82] (by decide +kernel) (by decide +kernel)
set_option maxRecDepth 20000 in
theorem gX5_copyFrom_X4_copyFrom : GoodIn wsX5_copyFrom (wsV RX5 43 RX4 yX4_copyFrom wsX4_copyFrom) := goodIn_app (goodIn_of _ (by decide +kernel)) ggX5_copyFrom_X4_copyFrom
set_option maxRecDepth 20000 in
theorem ggX5_copyFrom_X2_copyFrom : GoodIn wsX5_copyFrom wsX2_copyFrom := goodIn_r _ [49, 50, 51, 6, 7, 8, 52, 53, 83, 84, 85] (by decide +kernel) (by decide +kernel)
set_option maxRecDepth 20000 in
theorem gX5_copyFrom_X2_copyFrom : GoodIn wsX5_copyFrom (wsV RX5 46 RX2 yX2_copyFrom wsX2_copyFrom) := goodIn_app (goodIn_of _ (by decide +kernel)) ggX5_copyFrom_X2_copyFrom
theorem dX5_copyFrom_0 : decode cX5_copyFrom 0 = .ok (.iconst 0, 1) := by decide +kernel
theorem dX5_copyFrom_1 : decode cX5_copyFrom 1 = .ok (.istore_n 2, 1) := by decide +kernel
theorem dX5_copyFrom_2 : decode cX5_copyFrom 2 = .ok (.iload_n 2, 1) := by decide +kernel
theorem dX5_copyFrom_3 : decode cX5_copyFrom 3 = .ok (.bipush 24, 2) := by decide +kernel
theorem dX5_copyFrom_5 : decode cX5_copyFrom 5 = .ok (.if_icmp .ge 24, 3) := by decide +kernel
theorem dX5_copyFrom_8 : decode cX5_copyFrom 8 = .ok (.aload_n 0, 1) := by decide +kernel
theorem dX5_copyFrom_9 : decode cX5_copyFrom 9 = .ok (.getfield 11, 3) := by decide +kernel
theorem dX5_copyFrom_12 : decode cX5_copyFrom 12 = .ok (.iload_n 2, 1) := by decide +kernel
theorem dX5_copyFrom_13 : decode cX5_copyFrom 13 = .ok (.aaload, 1) := by decide +kernel
theorem dX5_copyFrom_14 : decode cX5_copyFrom 14 = .ok (.aload_n 1, 1) := by decide +kernel
theorem dX5_copyFrom_15 : decode cX5_copyFrom 15 = .ok (.getfield 11, 3) := by decide +kernel
theorem dX5_copyFrom_18 : decode cX5_copyFrom 18 = .ok (.iload_n 2, 1) := by decide +kernel
theorem dX5_copyFrom_19 : decode cX5_copyFrom 19 = .ok (.aaload, 1) := by decide +kernel
theorem dX5_copyFrom_20 : decode cX5_copyFrom 20 = .ok (.invokevirtual 39, 3) := by decide +kernel
theorem dX5_copyFrom_23 : decode cX5_copyFrom 23 = .ok (.iinc 2 1, 3) := by decide +kernel
theorem dX5_copyFrom_26 : decode cX5_copyFrom 26 = .ok (.goto (-24), 3) := by decide +kernel
theorem dX5_copyFrom_29 : decode cX5_copyFrom 29 = .ok (.iconst 0, 1) := by decide +kernel
theorem dX5_copyFrom_30 : decode cX5_copyFrom 30 = .ok (.istore_n 2, 1) := by decide +kernel
theorem dX5_copyFrom_31 : decode cX5_copyFrom 31 = .ok (.iload_n 2, 1) := by decide +kernel
theorem dX5_copyFrom_32 : decode cX5_copyFrom 32 = .ok (.iconst 4, 1) := by decide +kernel
theorem dX5_copyFrom_33 : decode cX5_copyFrom 33 = .ok (.if_icmp .ge 24, 3) := by decide +kernel
theorem dX5_copyFrom_36 : decode cX5_copyFrom 36 = .ok (.aload_n 0, 1) := by decide +kernel
theorem dX5_copyFrom_37 : decode cX5_copyFrom 37 = .ok (.getfield 19, 3) := by decide +kernel
theorem dX5_copyFrom_40 : decode cX5_copyFrom 40 = .ok (.iload_n 2, 1) := by decide +kernel
theorem dX5_copyFrom_41 : decode cX5_copyFrom 41 = .ok (.aaload, 1) := by decide +kernel
theorem dX5_copyFrom_42 : decode cX5_copyFrom 42 = .ok (.aload_n 1, 1) := by decide +kernel
theorem dX5_copyFrom_43 : decode cX5_copyFrom 43 = .ok (.getfield 19, 3) := by decide +kernel
theorem dX5_copyFrom_46 : decode cX5_copyFrom 46 = .ok (.iload_n 2, 1) := by decide +kernel
theorem dX5_copyFrom_47 : decode cX5_copyFrom 47 = .ok (.aaload, 1) := by decide +kernel
theorem dX5_copyFrom_48 : decode cX5_copyFrom 48 = .ok (.invokevirtual 43, 3) := by decide +kernel
theorem dX5_copyFrom_51 : decode cX5_copyFrom 51 = .ok (.iinc 2 1, 3) := by decide +kernel
theorem dX5_copyFrom_54 : decode cX5_copyFrom 54 = .ok (.goto (-23), 3) := by decide +kernel
theorem dX5_copyFrom_57 : decode cX5_copyFrom 57 = .ok (.aload_n 0, 1) := by decide +kernel
theorem dX5_copyFrom_58 : decode cX5_copyFrom 58 = .ok (.getfield 26, 3) := by decide +kernel
theorem dX5_copyFrom_61 : decode cX5_copyFrom 61 = .ok (.aload_n 1, 1) := by decide +kernel
theorem dX5_copyFrom_62 : decode cX5_copyFrom 62 = .ok (.getfield 26, 3) := by decide +kernel
theorem dX5_copyFrom_65 : decode cX5_copyFrom 65 = .ok (.invokevirtual 46, 3) := by decide +kernel
theorem dX5_copyFrom_68 : decode cX5_copyFrom 68 = .ok (.aload_n 1, 1) := by decide +kernel
theorem dX5_copyFrom_69 : decode cX5_copyFrom 69 = .ok (.getfield 30, 3) := by decide +kernel
theorem dX5_copyFrom_72 : decode cX5_copyFrom 72 = .ok (.iconst 0, 1) := by decide +kernel
theorem dX5_copyFrom_73 : decode cX5_copyFrom 73 = .ok (.aload_n 0, 1) := by decide +kernel
theorem dX5_copyFrom_74 : decode cX5_copyFrom 74 = .ok (.getfield 30, 3) := by decide +kernel
theorem dX5_copyFrom_77 : decode cX5_copyFrom 77 = .ok (.iconst 0, 1) := by decide +kernel
theorem dX5_copyFrom_78 : decode cX5_copyFrom 78 = .ok (.iconst 4, 1) := by decide +kernel
theorem dX5_copyFrom_79 : decode cX5_copyFrom 79 = .ok (.invokestatic 49, 3) := by decide +kernel
theorem dX5_copyFrom_82 : decode cX5_copyFrom 82 = .ok (.aload_n 0, 1) := by decide +kernel
theorem dX5_copyFrom_83 : decode cX5_copyFrom 83 = .ok (.aload_n 1, 1) := by decide +kernel
theorem dX5_copyFrom_84 : decode cX5_copyFrom 84 = .ok (.getfield 55, 3) := by decide +kernel
theorem dX5_copyFrom_87 : decode cX5_copyFrom 87 = .ok (.putfield 55, 3) := by decide +kernel
theorem dX5_copyFrom_90 : decode cX5_copyFrom 90 = .ok (.aload_n 0, 1) := by decide +kernel
theorem dX5_copyFrom_91 : decode cX5_copyFrom 91 = .ok (.aload_n 1, 1) := by decide +kernel
theorem dX5_copyFrom_92 : decode cX5_copyFrom 92 = .ok (.getfield 59, 3) := by decide +kernel
theorem dX5_copyFrom_95 : decode cX5_copyFrom 95 = .ok (.putfield 59, 3) := by decide +kernel
theorem dX5_copyFrom_98 : decode cX5_copyFrom 98 = .ok (.aload_n 0, 1) := by decide +kernel
theorem dX5_copyFrom_99 : decode cX5_copyFrom 99 = .ok (.aload_n 1, 1) := by decide +kernel
theorem dX5_copyFrom_100 : decode cX5_copyFrom 100 = .ok (.getfield 62, 3) := by decide +kernel
theorem dX5_copyFrom_103 : decode cX5_copyFrom 103 = .ok (.putfield 62, 3) := by decide +kernel
theorem dX5_copyFrom_106 : decode cX5_copyFrom 106 = .ok (.aload_n 0, 1) := by decide +kernel
theorem dX5_copyFrom_107 : decode cX5_copyFrom 107 = .ok (.aload_n 1, 1) := by decide +kernel
theorem dX5_copyFrom_108 : decode cX5_copyFrom 108 = .ok (.getfield 65, 3) := by decide +kernel
theorem dX5_copyFrom_111 : decode cX5_copyFrom 111 = .ok (.putfield 65, 3) := by decide +kernel
theorem dX5_copyFrom_114 : decode cX5_copyFrom 114 = .ok (.aload_n 0, 1) := by decide +kernel
theorem dX5_copyFrom_115 : decode cX5_copyFrom 115 = .ok (.aload_n 1, 1) := by decide +kernel
theorem dX5_copyFrom_116 : decode cX5_copyFrom 116 = .ok (.getfield 68, 3) := by decide +kernel
theorem dX5_copyFrom_119 : decode cX5_copyFrom 119 = .ok (.putfield 68, 3) := by decide +kernel
theorem dX5_copyFrom_122 : decode cX5_copyFrom 122 = .ok (.aload_n 0, 1) := by decide +kernel
theorem dX5_copyFrom_123 : decode cX5_copyFrom 123 = .ok (.aload_n 1, 1) := by decide +kernel
theorem dX5_copyFrom_124 : decode cX5_copyFrom 124 = .ok (.getfield 71, 3) := by decide +kernel
theorem dX5_copyFrom_127 : decode cX5_copyFrom 127 = .ok (.putfield 71, 3) := by decide +kernel
theorem dX5_copyFrom_130 : decode cX5_copyFrom 130 = .ok (.aload_n 0, 1) := by decide +kernel
theorem dX5_copyFrom_131 : decode cX5_copyFrom 131 = .ok (.aload_n 1, 1) := by decide +kernel
theorem dX5_copyFrom_132 : decode cX5_copyFrom 132 = .ok (.getfield 74, 3) := by decide +kernel
theorem dX5_copyFrom_135 : decode cX5_copyFrom 135 = .ok (.putfield 74, 3) := by decide +kernel
theorem dX5_copyFrom_138 : decode cX5_copyFrom 138 = .ok (.aload_n 0, 1) := by decide +kernel
theorem dX5_copyFrom_139 : decode cX5_copyFrom 139 = .ok (.aload_n 1, 1) := by decide +kernel
theorem dX5_copyFrom_140 : decode cX5_copyFrom 140 = .ok (.getfield 77, 3) := by decide +kernel
theorem dX5_copyFrom_143 : decode cX5_copyFrom 143 = .ok (.putfield 77, 3) := by decide +kernel
theorem dX5_copyFrom_146 : decode cX5_copyFrom 146 = .ok (.aload_n 0, 1) := by decide +kernel
theorem dX5_copyFrom_147 : decode cX5_copyFrom 147 = .ok (.aload_n 1, 1) := by decide +kernel
theorem dX5_copyFrom_148 : decode cX5_copyFrom 148 = .ok (.getfield 80, 3) := by decide +kernel
theorem dX5_copyFrom_151 : decode cX5_copyFrom 151 = .ok (.putfield 80, 3) := by decide +kernel
theorem dX5_copyFrom_154 : decode cX5_copyFrom 154 = .ok (.return_, 1) := by decide +kernel
theorem dX5_houseNumbered_0 : decode cX5_houseNumbered 0 = .ok (.iload_n 1, 1) := by decide +kernel
theorem dX5_houseNumbered_1 : decode cX5_houseNumbered 1 = .ok (.ifCond .lt 26, 3) := by decide +kernel
theorem dX5_houseNumbered_4 : decode cX5_houseNumbered 4 = .ok (.iload_n 1, 1) := by decide +kernel
theorem dX5_houseNumbered_5 : decode cX5_houseNumbered 5 = .ok (.aload_n 0, 1) := by decide +kernel
theorem dX5_houseNumbered_6 : decode cX5_houseNumbered 6 = .ok (.getfield 55, 3) := by decide +kernel
theorem dX5_houseNumbered_9 : decode cX5_houseNumbered 9 = .ok (.if_icmp .ge 18, 3) := by decide +kernel
theorem dX5_houseNumbered_12 : decode cX5_houseNumbered 12 = .ok (.iload_n 1, 1) := by decide +kernel
theorem dX5_houseNumbered_13 : decode cX5_houseNumbered 13 = .ok (.bipush 24, 2) := by decide +kernel
theorem dX5_houseNumbered_15 : decode cX5_houseNumbered 15 = .ok (.if_icmp .ge 12, 3) := by decide +kernel
theorem dX5_houseNumbered_18 : decode cX5_houseNumbered 18 = .ok (.aload_n 0, 1) := by decide +kernel
theorem dX5_houseNumbered_19 : decode cX5_houseNumbered 19 = .ok (.getfield 11, 3) := by decide +kernel
theorem dX5_houseNumbered_22 : decode cX5_houseNumbered 22 = .ok (.iload_n 1, 1) := by decide +kernel
theorem dX5_houseNumbered_23 : decode cX5_houseNumbered 23 = .ok (.aaload, 1) := by decide +kernel
theorem dX5_houseNumbered_24 : decode cX5_houseNumbered 24 = .ok (.goto 4, 3) := by decide +kernel
theorem dX5_houseNumbered_27 : decode cX5_houseNumbered 27 = .ok (.aconst_null, 1) := by decide +kernel
theorem dX5_houseNumbered_28 : decode cX5_houseNumbered 28 = .ok (.areturn, 1) := by decide +kernel
theorem dX5_streetNumbered_0 : decode cX5_streetNumbered 0 = .ok (.iload_n 1, 1) := by decide +kernel
theorem dX5_streetNumbered_1 : decode cX5_streetNumbered 1 = .ok (.ifCond .lt 17, 3) := by decide +kernel
theorem dX5_streetNumbered_4 : decode cX5_streetNumbered 4 = .ok (.iload_n 1, 1) := by decide +kernel
theorem dX5_streetNumbered_5 : decode cX5_streetNumbered 5 = .ok (.iconst 4, 1) := by decide +kernel
theorem dX5_streetNumbered_6 : decode cX5_streetNumbered 6 = .ok (.if_icmp .ge 12, 3) := by decide +kernel
theorem dX5_streetNumbered_9 : decode cX5_streetNumbered 9 = .ok (.aload_n 0, 1) := by decide +kernel
theorem dX5_streetNumbered_10 : decode cX5_streetNumbered 10 = .ok (.getfield 19, 3) := by decide +kernel
theorem dX5_streetNumbered_13 : decode cX5_streetNumbered 13 = .ok (.iload_n 1, 1) := by decide +kernel
theorem dX5_streetNumbered_14 : decode cX5_streetNumbered 14 = .ok (.aaload, 1) := by decide +kernel
theorem dX5_streetNumbered_15 : decode cX5_streetNumbered 15 = .ok (.goto 4, 3) := by decide +kernel
theorem dX5_streetNumbered_18 : decode cX5_streetNumbered 18 = .ok (.aconst_null, 1) := by decide +kernel
theorem dX5_streetNumbered_19 : decode cX5_streetNumbered 19 = .ok (.areturn, 1) := by decide +kernel
set_option maxRecDepth 20000 in
theorem ggX5_obey_X5_addHouse : GoodIn wsX5_obey wsX5_addHouse := goodIn_r _ [8, 1, 9, 10, 3, 11, 12, 13, 14, 7, 15, 16, 17, 18, 19, 20, 21, 22, 23, 24, 25, 26, 27, 28, 29, 30, 31, 133, 134, 135, 136, 137, 138, 139, 140, 141, 142, 143, 144, 145, 146, 147, 148, 149, 150, 151, 152, 153, 154, 155, 156, 157, 158, 159, 160, 161] (by decide +kernel) (by decide +kernel)
set_option maxRecDepth 20000 in
theorem gX5_obey_X5_addHouse : GoodIn wsX5_obey (wsV RX5 83 RX5 yX5_addHouse wsX5_addHouse) := goodIn_app (goodIn_of _ (by decide +kernel)) ggX5_obey_X5_addHouse
set_option maxRecDepth 20000 in
theorem ggX5_obey_X5_putFlow : GoodIn wsX5_obey wsX5_putFlow := goodIn_r _ [35, 1, 36, 37, 38, 7, 39, 10, 11, 146, 147, 148, 149, 150, 151, 152, 153, 154, 155, 156, 157, 158, 159, 133, 134, 135, 136, 137, 138, 139, 140, 141, 142, 143, 144, 145] (by decide +kernel) (by decide +kernel)
set_option maxRecDepth 20000 in
theorem gX5_obey_X5_putFlow : GoodIn wsX5_obey (wsV RX5 87 RX5 yX5_putFlow wsX5_putFlow) := goodIn_app (goodIn_of _ (by decide +kernel)) ggX5_obey_X5_putFlow
set_option maxRecDepth 20000 in
theorem ggX5_obey_X5_turnLock : GoodIn wsX5_obey wsX5_turnLock := goodIn_r _ [43, 1, 36, 37, 38, 7, 39, 10, 11, 44, 45, 46, 47, 146, 147, 148, 149, 150, 151, 152, 153, 154, 155, 156, 157, 158, 159, 133, 134, 135, 136, 137, 138, 139, 140, 141, 142, 143, 144, 145] (by decide +kernel) (by decide +kernel)
set_option maxRecDepth 20000 in
theorem gX5_obey_X5_turnLock : GoodIn wsX5_obey (wsV RX5 90 RX5 yX5_turnLock wsX5_turnLock) := goodIn_app (goodIn_of _ (by decide +kernel)) ggX5_obey_X5_turnLock
set_option maxRecDepth 20000 in
theorem ggX5_obey_X5_readIfOpen : GoodIn wsX5_obey wsX5_readIfOpen := goodIn_r _ [51, 1, 2, 9, 36, 37, 38, 7, 39, 10, 11, 52, 53, 54, 55, 56, 57, 58, 59, 60, 61, 62, 63, 64, 65, 66, 67, 68, 69, 70, 71, 72, 73, 74, 75, 76, 18, 77, 78, 79, 80, 81, 82, 83, 84, 85, 86, 87, 88, 89, 90, 91, 92, 93, 94, 95, 96, 97, 98, 133, 134, 135, 136, 137, 138, 139, 140, 141, 142, 143, 144, 145, 146, 147, 148, 149, 150, 151, 152, 153, 154, 155, 156, 157, 158, 159, 162, 163, 164] (by decide +kernel) (by decide +kernel)
set_option maxRecDepth 20000 in
theorem gX5_obey_X5_readIfOpen : GoodIn wsX5_obey (wsV RX5 94 RX5 yX5_readIfOpen wsX5_readIfOpen) := goodIn_app (goodIn_of _ (by decide +kernel)) ggX5_obey_X5_readIfOpen
set_option maxRecDepth 20000 in
theorem ggX5_obey_X5_changeMeter : GoodIn wsX5_obey wsX5_changeMeter := goodIn_r _ [102, 1, 36, 37, 38, 7, 39, 10, 11, 59, 60, 61, 62, 2, 63, 64, 65, 66, 67, 68, 69, 70, 71, 55, 72, 73, 74, 75, 76, 18, 77, 78, 79, 80, 81, 82, 58, 83, 84, 85, 86, 87, 88, 89, 90, 91, 92, 93, 94, 95, 96, 97, 98, 103, 104, 105, 106, 107, 133, 134, 135, 136, 137, 138, 139, 140, 141, 142, 143, 144, 145, 146, 147, 148, 149, 150, 151, 152, 153, 154, 155, 156, 157, 158, 159, 162, 163, 164] (by decide +kernel) (by decide +kernel)
set_option maxRecDepth 20000 in
theorem gX5_obey_X5_changeMeter : GoodIn wsX5_obey (wsV RX5 97 RX5 yX5_changeMeter wsX5_changeMeter) := goodIn_app (goodIn_of _ (by decide +kernel)) ggX5_obey_X5_changeMeter
set_option maxRecDepth 20000 in
theorem ggX5_obey_X5_passDays : GoodIn wsX5_obey wsX5_passDays := goodIn_r _ [111, 64, 11, 2, 16, 67, 112, 113, 114, 55, 115, 73, 116, 75, 117, 118, 119, 7, 120, 121, 122, 123, 25, 124, 125, 22, 23, 24, 26, 27, 36, 37, 38, 39, 10, 52, 53, 54, 56, 57, 58, 59, 60, 61, 62, 63, 65, 66, 68, 69, 70, 71, 72, 74, 76, 18, 77, 78, 79, 80, 81, 82, 83, 84, 85, 86, 87, 88, 89, 90, 91, 92, 93, 94, 95, 96, 97, 98, 126, 127, 128, 129, 130, 131, 132, 133, 134, 135, 136, 137, 138, 139, 140, 141, 142, 143, 144, 145, 146, 147, 148, 149, 150, 151, 152, 153, 154, 155, 156, 157, 158, 159, 160, 161, 162, 163, 164] (by decide +kernel) (by decide +kernel)
set_option maxRecDepth 20000 in
theorem gX5_obey_X5_passDays : GoodIn wsX5_obey (wsV RX5 102 RX5 yX5_passDays wsX5_passDays) := goodIn_app (goodIn_of _ (by decide +kernel)) ggX5_obey_X5_passDays
theorem dX5_obey_0 : decode cX5_obey 0 = .ok (.iload_n 1, 1) := by decide +kernel
theorem dX5_obey_1 : decode cX5_obey 1 = .ok (.tableswitch 148 99 114 #[105, 111, 148, 86, 148, 79, 148, 148, 148, 93, 148, 148, 148, 148, 148, 99], 79) := by decide +kernel
theorem dX5_obey_80 : decode cX5_obey 80 = .ok (.aload_n 0, 1) := by decide +kernel
theorem dX5_obey_81 : decode cX5_obey 81 = .ok (.iload_n 2, 1) := by decide +kernel
theorem dX5_obey_82 : decode cX5_obey 82 = .ok (.iload_n 3, 1) := by decide +kernel
theorem dX5_obey_83 : decode cX5_obey 83 = .ok (.invokevirtual 83, 3) := by decide +kernel
theorem dX5_obey_86 : decode cX5_obey 86 = .ok (.ireturn, 1) := by decide +kernel
theorem dX5_obey_87 : decode cX5_obey 87 = .ok (.aload_n 0, 1) := by decide +kernel
theorem dX5_obey_88 : decode cX5_obey 88 = .ok (.iload_n 2, 1) := by decide +kernel
theorem dX5_obey_89 : decode cX5_obey 89 = .ok (.iload_n 3, 1) := by decide +kernel
theorem dX5_obey_90 : decode cX5_obey 90 = .ok (.invokevirtual 87, 3) := by decide +kernel
theorem dX5_obey_93 : decode cX5_obey 93 = .ok (.ireturn, 1) := by decide +kernel
theorem dX5_obey_94 : decode cX5_obey 94 = .ok (.aload_n 0, 1) := by decide +kernel
theorem dX5_obey_95 : decode cX5_obey 95 = .ok (.iload_n 2, 1) := by decide +kernel
theorem dX5_obey_96 : decode cX5_obey 96 = .ok (.invokevirtual 90, 3) := by decide +kernel
theorem dX5_obey_99 : decode cX5_obey 99 = .ok (.ireturn, 1) := by decide +kernel
theorem dX5_obey_100 : decode cX5_obey 100 = .ok (.aload_n 0, 1) := by decide +kernel
theorem dX5_obey_101 : decode cX5_obey 101 = .ok (.iload_n 2, 1) := by decide +kernel
theorem dX5_obey_102 : decode cX5_obey 102 = .ok (.invokevirtual 94, 3) := by decide +kernel
theorem dX5_obey_105 : decode cX5_obey 105 = .ok (.ireturn, 1) := by decide +kernel
theorem dX5_obey_106 : decode cX5_obey 106 = .ok (.aload_n 0, 1) := by decide +kernel
theorem dX5_obey_107 : decode cX5_obey 107 = .ok (.iload_n 2, 1) := by decide +kernel
theorem dX5_obey_108 : decode cX5_obey 108 = .ok (.invokevirtual 97, 3) := by decide +kernel
theorem dX5_obey_111 : decode cX5_obey 111 = .ok (.ireturn, 1) := by decide +kernel
theorem dX5_obey_112 : decode cX5_obey 112 = .ok (.iload_n 2, 1) := by decide +kernel
theorem dX5_obey_113 : decode cX5_obey 113 = .ok (.iconst 1, 1) := by decide +kernel
theorem dX5_obey_114 : decode cX5_obey 114 = .ok (.if_icmp .lt 9, 3) := by decide +kernel
theorem dX5_obey_117 : decode cX5_obey 117 = .ok (.iload_n 2, 1) := by decide +kernel
theorem dX5_obey_118 : decode cX5_obey 118 = .ok (.bipush 99, 2) := by decide +kernel
theorem dX5_obey_120 : decode cX5_obey 120 = .ok (.if_icmp .le 6, 3) := by decide +kernel
theorem dX5_obey_123 : decode cX5_obey 123 = .ok (.ldc 100, 2) := by decide +kernel
theorem dX5_obey_125 : decode cX5_obey 125 = .ok (.ireturn, 1) := by decide +kernel
theorem dX5_obey_126 : decode cX5_obey 126 = .ok (.aload_n 0, 1) := by decide +kernel
theorem dX5_obey_127 : decode cX5_obey 127 = .ok (.getfield 59, 3) := by decide +kernel
theorem dX5_obey_130 : decode cX5_obey 130 = .ok (.iload_n 2, 1) := by decide +kernel
theorem dX5_obey_131 : decode cX5_obey 131 = .ok (.iadd, 1) := by decide +kernel
theorem dX5_obey_132 : decode cX5_obey 132 = .ok (.sipush 9999, 3) := by decide +kernel
theorem dX5_obey_135 : decode cX5_obey 135 = .ok (.if_icmp .le 8, 3) := by decide +kernel
theorem dX5_obey_138 : decode cX5_obey 138 = .ok (.ldc 101, 2) := by decide +kernel
theorem dX5_obey_140 : decode cX5_obey 140 = .ok (.goto 8, 3) := by decide +kernel
theorem dX5_obey_143 : decode cX5_obey 143 = .ok (.aload_n 0, 1) := by decide +kernel
theorem dX5_obey_144 : decode cX5_obey 144 = .ok (.iload_n 2, 1) := by decide +kernel
theorem dX5_obey_145 : decode cX5_obey 145 = .ok (.invokevirtual 102, 3) := by decide +kernel
theorem dX5_obey_148 : decode cX5_obey 148 = .ok (.ireturn, 1) := by decide +kernel
theorem dX5_obey_149 : decode cX5_obey 149 = .ok (.ldc 100, 2) := by decide +kernel
theorem dX5_obey_151 : decode cX5_obey 151 = .ok (.ireturn, 1) := by decide +kernel
set_option maxRecDepth 20000 in
theorem ggX5_addHouse_X5_streetNumbered : GoodIn wsX5_addHouse wsX5_streetNumbered := goodIn_r _ [10, 11, 27, 28, 29, 30, 31, 32, 33, 34, 35, 36, 37, 38, 39] (by decide +kernel) (by decide +kernel)
set_option maxRecDepth 20000 in
theorem gX5_addHouse_X5_streetNumbered : GoodIn wsX5_addHouse (wsV RX5 105 RX5 yX5_streetNumbered wsX5_streetNumbered) := goodIn_app (goodIn_of _ (by decide +kernel)) ggX5_addHouse_X5_streetNumbered
set_option maxRecDepth 20000 in
theorem ggX5_addHouse_X6_isPlace : GoodIn wsX5_addHouse wsX6_isPlace := goodIn_r _ [14] (by decide +kernel) (by decide +kernel)
set_option maxRecDepth 20000 in
theorem gX5_addHouse_X6_isPlace_n109 : GoodIn wsX5_addHouse (wsX6_isPlace) := ggX5_addHouse_X6_isPlace
set_option maxRecDepth 20000 in
theorem ggX5_addHouse_X6_stepOf : GoodIn wsX5_addHouse wsX6_stepOf := goodIn_r _ [16] (by decide +kernel) (by decide +kernel)
set_option maxRecDepth 20000 in
theorem gX5_addHouse_X6_stepOf_n113 : GoodIn wsX5_addHouse (wsX6_stepOf) := ggX5_addHouse_X6_stepOf
set_option maxRecDepth 20000 in
theorem ggX5_addHouse_X4_houseOn : GoodIn wsX5_addHouse wsX4_houseOn := goodIn_r _ [21, 22, 54, 55] (by decide +kernel) (by decide +kernel)
set_option maxRecDepth 20000 in
theorem gX5_addHouse_X4_houseOn : GoodIn wsX5_addHouse (wsV RX5 116 RX4 yX4_houseOn wsX4_houseOn) := goodIn_app (goodIn_of _ (by decide +kernel)) ggX5_addHouse_X4_houseOn
set_option maxRecDepth 20000 in
theorem ggX5_addHouse_X4_putHouse : GoodIn wsX5_addHouse wsX4_putHouse := goodIn_r _ [26, 22, 54, 55] (by decide +kernel) (by decide +kernel)
set_option maxRecDepth 20000 in
theorem gX5_addHouse_X4_putHouse : GoodIn wsX5_addHouse (wsV RX5 126 RX4 yX4_putHouse wsX4_putHouse) := goodIn_app (goodIn_of _ (by decide +kernel)) ggX5_addHouse_X4_putHouse
theorem dX5_addHouse_0 : decode cX5_addHouse 0 = .ok (.aload_n 0, 1) := by decide +kernel
theorem dX5_addHouse_1 : decode cX5_addHouse 1 = .ok (.iload_n 1, 1) := by decide +kernel
theorem dX5_addHouse_2 : decode cX5_addHouse 2 = .ok (.invokevirtual 105, 3) := by decide +kernel
theorem dX5_addHouse_5 : decode cX5_addHouse 5 = .ok (.astore_n 3, 1) := by decide +kernel
theorem dX5_addHouse_6 : decode cX5_addHouse 6 = .ok (.aload_n 3, 1) := by decide +kernel
theorem dX5_addHouse_7 : decode cX5_addHouse 7 = .ok (.ifnull 10, 3) := by decide +kernel
theorem dX5_addHouse_10 : decode cX5_addHouse 10 = .ok (.iload_n 2, 1) := by decide +kernel
theorem dX5_addHouse_11 : decode cX5_addHouse 11 = .ok (.invokestatic 109, 3) := by decide +kernel
theorem dX5_addHouse_14 : decode cX5_addHouse 14 = .ok (.ifCond .ne 6, 3) := by decide +kernel
theorem dX5_addHouse_17 : decode cX5_addHouse 17 = .ok (.ldc 100, 2) := by decide +kernel
theorem dX5_addHouse_19 : decode cX5_addHouse 19 = .ok (.ireturn, 1) := by decide +kernel
theorem dX5_addHouse_20 : decode cX5_addHouse 20 = .ok (.aload_n 3, 1) := by decide +kernel
theorem dX5_addHouse_21 : decode cX5_addHouse 21 = .ok (.iload_n 2, 1) := by decide +kernel
theorem dX5_addHouse_22 : decode cX5_addHouse 22 = .ok (.invokestatic 113, 3) := by decide +kernel
theorem dX5_addHouse_25 : decode cX5_addHouse 25 = .ok (.invokevirtual 116, 3) := by decide +kernel
theorem dX5_addHouse_28 : decode cX5_addHouse 28 = .ok (.iconst (-1), 1) := by decide +kernel
theorem dX5_addHouse_29 : decode cX5_addHouse 29 = .ok (.if_icmp .eq 6, 3) := by decide +kernel
theorem dX5_addHouse_32 : decode cX5_addHouse 32 = .ok (.ldc 119, 2) := by decide +kernel
theorem dX5_addHouse_34 : decode cX5_addHouse 34 = .ok (.ireturn, 1) := by decide +kernel
theorem dX5_addHouse_35 : decode cX5_addHouse 35 = .ok (.aload_n 0, 1) := by decide +kernel
theorem dX5_addHouse_36 : decode cX5_addHouse 36 = .ok (.getfield 55, 3) := by decide +kernel
theorem dX5_addHouse_39 : decode cX5_addHouse 39 = .ok (.bipush 24, 2) := by decide +kernel
theorem dX5_addHouse_41 : decode cX5_addHouse 41 = .ok (.if_icmp .lt 6, 3) := by decide +kernel
theorem dX5_addHouse_44 : decode cX5_addHouse 44 = .ok (.ldc 101, 2) := by decide +kernel
theorem dX5_addHouse_46 : decode cX5_addHouse 46 = .ok (.ireturn, 1) := by decide +kernel
theorem dX5_addHouse_47 : decode cX5_addHouse 47 = .ok (.aload_n 0, 1) := by decide +kernel
theorem dX5_addHouse_48 : decode cX5_addHouse 48 = .ok (.getfield 11, 3) := by decide +kernel
theorem dX5_addHouse_51 : decode cX5_addHouse 51 = .ok (.aload_n 0, 1) := by decide +kernel
theorem dX5_addHouse_52 : decode cX5_addHouse 52 = .ok (.getfield 55, 3) := by decide +kernel
theorem dX5_addHouse_55 : decode cX5_addHouse 55 = .ok (.aaload, 1) := by decide +kernel
theorem dX5_addHouse_56 : decode cX5_addHouse 56 = .ok (.astore 4, 2) := by decide +kernel
theorem dX5_addHouse_58 : decode cX5_addHouse 58 = .ok (.aload 4, 2) := by decide +kernel
theorem dX5_addHouse_60 : decode cX5_addHouse 60 = .ok (.iload_n 1, 1) := by decide +kernel
theorem dX5_addHouse_61 : decode cX5_addHouse 61 = .ok (.putfield 120, 3) := by decide +kernel
theorem dX5_addHouse_64 : decode cX5_addHouse 64 = .ok (.aload 4, 2) := by decide +kernel
theorem dX5_addHouse_66 : decode cX5_addHouse 66 = .ok (.iload_n 2, 1) := by decide +kernel
theorem dX5_addHouse_67 : decode cX5_addHouse 67 = .ok (.putfield 123, 3) := by decide +kernel
theorem dX5_addHouse_70 : decode cX5_addHouse 70 = .ok (.aload_n 3, 1) := by decide +kernel
theorem dX5_addHouse_71 : decode cX5_addHouse 71 = .ok (.iload_n 2, 1) := by decide +kernel
theorem dX5_addHouse_72 : decode cX5_addHouse 72 = .ok (.invokestatic 113, 3) := by decide +kernel
theorem dX5_addHouse_75 : decode cX5_addHouse 75 = .ok (.aload_n 0, 1) := by decide +kernel
theorem dX5_addHouse_76 : decode cX5_addHouse 76 = .ok (.getfield 55, 3) := by decide +kernel
theorem dX5_addHouse_79 : decode cX5_addHouse 79 = .ok (.invokevirtual 126, 3) := by decide +kernel
theorem dX5_addHouse_82 : decode cX5_addHouse 82 = .ok (.aload_n 0, 1) := by decide +kernel
theorem dX5_addHouse_83 : decode cX5_addHouse 83 = .ok (.dup, 1) := by decide +kernel
theorem dX5_addHouse_84 : decode cX5_addHouse 84 = .ok (.getfield 55, 3) := by decide +kernel
theorem dX5_addHouse_87 : decode cX5_addHouse 87 = .ok (.iconst 1, 1) := by decide +kernel
theorem dX5_addHouse_88 : decode cX5_addHouse 88 = .ok (.iadd, 1) := by decide +kernel
theorem dX5_addHouse_89 : decode cX5_addHouse 89 = .ok (.putfield 55, 3) := by decide +kernel
theorem dX5_addHouse_92 : decode cX5_addHouse 92 = .ok (.aload_n 0, 1) := by decide +kernel
theorem dX5_addHouse_93 : decode cX5_addHouse 93 = .ok (.getfield 55, 3) := by decide +kernel
theorem dX5_addHouse_96 : decode cX5_addHouse 96 = .ok (.iconst 1, 1) := by decide +kernel
theorem dX5_addHouse_97 : decode cX5_addHouse 97 = .ok (.isub, 1) := by decide +kernel
theorem dX5_addHouse_98 : decode cX5_addHouse 98 = .ok (.ireturn, 1) := by decide +kernel
set_option maxRecDepth 20000 in
theorem ggX5_putFlow_X5_houseNumbered : GoodIn wsX5_putFlow wsX5_houseNumbered := goodIn_r _ [6, 7, 8, 23, 24, 25, 26, 27, 28, 29, 30, 31, 32, 33, 34, 35] (by decide +kernel) (by decide +kernel)
set_option maxRecDepth 20000 in
theorem gX5_putFlow_X5_houseNumbered : GoodIn wsX5_putFlow (wsV RX5 130 RX5 yX5_houseNumbered wsX5_houseNumbered) := goodIn_app (goodIn_of _ (by decide +kernel)) ggX5_putFlow_X5_houseNumbered
theorem dX5_putFlow_0 : decode cX5_putFlow 0 = .ok (.aload_n 0, 1) := by decide +kernel
theorem dX5_putFlow_1 : decode cX5_putFlow 1 = .ok (.iload_n 1, 1) := by decide +kernel
theorem dX5_putFlow_2 : decode cX5_putFlow 2 = .ok (.invokevirtual 130, 3) := by decide +kernel
theorem dX5_putFlow_5 : decode cX5_putFlow 5 = .ok (.astore_n 3, 1) := by decide +kernel
theorem dX5_putFlow_6 : decode cX5_putFlow 6 = .ok (.aload_n 3, 1) := by decide +kernel
theorem dX5_putFlow_7 : decode cX5_putFlow 7 = .ok (.ifnull 14, 3) := by decide +kernel
theorem dX5_putFlow_10 : decode cX5_putFlow 10 = .ok (.iload_n 2, 1) := by decide +kernel
theorem dX5_putFlow_11 : decode cX5_putFlow 11 = .ok (.ifCond .lt 10, 3) := by decide +kernel
theorem dX5_putFlow_14 : decode cX5_putFlow 14 = .ok (.iload_n 2, 1) := by decide +kernel
theorem dX5_putFlow_15 : decode cX5_putFlow 15 = .ok (.sipush 999, 3) := by decide +kernel
theorem dX5_putFlow_18 : decode cX5_putFlow 18 = .ok (.if_icmp .le 6, 3) := by decide +kernel
theorem dX5_putFlow_21 : decode cX5_putFlow 21 = .ok (.ldc 100, 2) := by decide +kernel
theorem dX5_putFlow_23 : decode cX5_putFlow 23 = .ok (.ireturn, 1) := by decide +kernel
theorem dX5_putFlow_24 : decode cX5_putFlow 24 = .ok (.aload_n 3, 1) := by decide +kernel
theorem dX5_putFlow_25 : decode cX5_putFlow 25 = .ok (.getfield 134, 3) := by decide +kernel
theorem dX5_putFlow_28 : decode cX5_putFlow 28 = .ok (.istore 4, 2) := by decide +kernel
theorem dX5_putFlow_30 : decode cX5_putFlow 30 = .ok (.aload_n 3, 1) := by decide +kernel
theorem dX5_putFlow_31 : decode cX5_putFlow 31 = .ok (.iload_n 2, 1) := by decide +kernel
theorem dX5_putFlow_32 : decode cX5_putFlow 32 = .ok (.putfield 134, 3) := by decide +kernel
theorem dX5_putFlow_35 : decode cX5_putFlow 35 = .ok (.iload 4, 2) := by decide +kernel
theorem dX5_putFlow_37 : decode cX5_putFlow 37 = .ok (.ireturn, 1) := by decide +kernel
set_option maxRecDepth 20000 in
theorem ggX5_putLock_X5_houseNumbered : GoodIn wsX5_putLock wsX5_houseNumbered := goodIn_r _ [6, 7, 8, 23, 24, 25, 26, 27, 28, 29, 30, 31, 32, 33, 34, 35] (by decide +kernel) (by decide +kernel)
set_option maxRecDepth 20000 in
theorem gX5_putLock_X5_houseNumbered : GoodIn wsX5_putLock (wsV RX5 130 RX5 yX5_houseNumbered wsX5_houseNumbered) := goodIn_app (goodIn_of _ (by decide +kernel)) ggX5_putLock_X5_houseNumbered
theorem dX5_putLock_0 : decode cX5_putLock 0 = .ok (.aload_n 0, 1) := by decide +kernel
theorem dX5_putLock_1 : decode cX5_putLock 1 = .ok (.iload_n 1, 1) := by decide +kernel
theorem dX5_putLock_2 : decode cX5_putLock 2 = .ok (.invokevirtual 130, 3) := by decide +kernel
theorem dX5_putLock_5 : decode cX5_putLock 5 = .ok (.astore_n 3, 1) := by decide +kernel
theorem dX5_putLock_6 : decode cX5_putLock 6 = .ok (.aload_n 3, 1) := by decide +kernel
theorem dX5_putLock_7 : decode cX5_putLock 7 = .ok (.ifnonnull 6, 3) := by decide +kernel
theorem dX5_putLock_10 : decode cX5_putLock 10 = .ok (.ldc 100, 2) := by decide +kernel
theorem dX5_putLock_12 : decode cX5_putLock 12 = .ok (.ireturn, 1) := by decide +kernel
theorem dX5_putLock_13 : decode cX5_putLock 13 = .ok (.aload_n 3, 1) := by decide +kernel
theorem dX5_putLock_14 : decode cX5_putLock 14 = .ok (.getfield 137, 3) := by decide +kernel
theorem dX5_putLock_17 : decode cX5_putLock 17 = .ok (.ifCond .eq 7, 3) := by decide +kernel
theorem dX5_putLock_20 : decode cX5_putLock 20 = .ok (.iconst 1, 1) := by decide +kernel
theorem dX5_putLock_21 : decode cX5_putLock 21 = .ok (.goto 4, 3) := by decide +kernel
theorem dX5_putLock_24 : decode cX5_putLock 24 = .ok (.iconst 0, 1) := by decide +kernel
theorem dX5_putLock_25 : decode cX5_putLock 25 = .ok (.istore 4, 2) := by decide +kernel
theorem dX5_putLock_27 : decode cX5_putLock 27 = .ok (.aload_n 3, 1) := by decide +kernel
theorem dX5_putLock_28 : decode cX5_putLock 28 = .ok (.iload_n 2, 1) := by decide +kernel
theorem dX5_putLock_29 : decode cX5_putLock 29 = .ok (.putfield 137, 3) := by decide +kernel
theorem dX5_putLock_32 : decode cX5_putLock 32 = .ok (.iload 4, 2) := by decide +kernel
theorem dX5_putLock_34 : decode cX5_putLock 34 = .ok (.ireturn, 1) := by decide +kernel
set_option maxRecDepth 20000 in
theorem ggX5_turnLock_X5_houseNumbered : GoodIn wsX5_turnLock wsX5_houseNumbered := goodIn_r _ [6, 7, 8, 27, 28, 29, 30, 31, 32, 33, 34, 35, 36, 37, 38, 39] (by decide +kernel) (by decide +kernel)
set_option maxRecDepth 20000 in
theorem gX5_turnLock_X5_houseNumbered : GoodIn wsX5_turnLock (wsV RX5 130 RX5 yX5_houseNumbered wsX5_houseNumbered) := goodIn_app (goodIn_of _ (by decide +kernel)) ggX5_turnLock_X5_houseNumbered
set_option maxRecDepth 20000 in
theorem ggX5_turnLock_X5_putLock : GoodIn wsX5_turnLock wsX5_putLock := goodIn_r _ [12, 1, 2, 3, 4, 5, 6, 7, 8, 13, 14, 15, 16, 17, 18, 19, 20, 21, 22, 23, 24, 25, 26, 27, 28, 29, 30, 31, 32, 33, 34, 35, 36, 37, 38, 39] (by decide +kernel) (by decide +kernel)
set_option maxRecDepth 20000 in
theorem gX5_turnLock_X5_putLock : GoodIn wsX5_turnLock (wsV RX5 141 RX5 yX5_putLock wsX5_putLock) := goodIn_app (goodIn_of _ (by decide +kernel)) ggX5_turnLock_X5_putLock
theorem dX5_turnLock_0 : decode cX5_turnLock 0 = .ok (.aload_n 0, 1) := by decide +kernel
theorem dX5_turnLock_1 : decode cX5_turnLock 1 = .ok (.iload_n 1, 1) := by decide +kernel
theorem dX5_turnLock_2 : decode cX5_turnLock 2 = .ok (.invokevirtual 130, 3) := by decide +kernel
theorem dX5_turnLock_5 : decode cX5_turnLock 5 = .ok (.astore_n 2, 1) := by decide +kernel
theorem dX5_turnLock_6 : decode cX5_turnLock 6 = .ok (.aload_n 2, 1) := by decide +kernel
theorem dX5_turnLock_7 : decode cX5_turnLock 7 = .ok (.ifnonnull 8, 3) := by decide +kernel
theorem dX5_turnLock_10 : decode cX5_turnLock 10 = .ok (.ldc 100, 2) := by decide +kernel
theorem dX5_turnLock_12 : decode cX5_turnLock 12 = .ok (.goto 20, 3) := by decide +kernel
theorem dX5_turnLock_15 : decode cX5_turnLock 15 = .ok (.aload_n 0, 1) := by decide +kernel
theorem dX5_turnLock_16 : decode cX5_turnLock 16 = .ok (.iload_n 1, 1) := by decide +kernel
theorem dX5_turnLock_17 : decode cX5_turnLock 17 = .ok (.aload_n 2, 1) := by decide +kernel
theorem dX5_turnLock_18 : decode cX5_turnLock 18 = .ok (.getfield 137, 3) := by decide +kernel
theorem dX5_turnLock_21 : decode cX5_turnLock 21 = .ok (.ifCond .ne 7, 3) := by decide +kernel
theorem dX5_turnLock_24 : decode cX5_turnLock 24 = .ok (.iconst 1, 1) := by decide +kernel
theorem dX5_turnLock_25 : decode cX5_turnLock 25 = .ok (.goto 4, 3) := by decide +kernel
theorem dX5_turnLock_28 : decode cX5_turnLock 28 = .ok (.iconst 0, 1) := by decide +kernel
theorem dX5_turnLock_29 : decode cX5_turnLock 29 = .ok (.invokevirtual 141, 3) := by decide +kernel
theorem dX5_turnLock_32 : decode cX5_turnLock 32 = .ok (.ireturn, 1) := by decide +kernel
theorem dX5_putSetting_0 : decode cX5_putSetting 0 = .ok (.iload_n 1, 1) := by decide +kernel
theorem dX5_putSetting_1 : decode cX5_putSetting 1 = .ok (.ifCond .lt 26, 3) := by decide +kernel
theorem dX5_putSetting_4 : decode cX5_putSetting 4 = .ok (.iload_n 1, 1) := by decide +kernel
theorem dX5_putSetting_5 : decode cX5_putSetting 5 = .ok (.iconst 4, 1) := by decide +kernel
theorem dX5_putSetting_6 : decode cX5_putSetting 6 = .ok (.if_icmp .ge 21, 3) := by decide +kernel
theorem dX5_putSetting_9 : decode cX5_putSetting 9 = .ok (.iload_n 2, 1) := by decide +kernel
theorem dX5_putSetting_10 : decode cX5_putSetting 10 = .ok (.getstatic 145, 3) := by decide +kernel
theorem dX5_putSetting_13 : decode cX5_putSetting 13 = .ok (.iload_n 1, 1) := by decide +kernel
theorem dX5_putSetting_14 : decode cX5_putSetting 14 = .ok (.iaload, 1) := by decide +kernel
theorem dX5_putSetting_15 : decode cX5_putSetting 15 = .ok (.if_icmp .lt 12, 3) := by decide +kernel
theorem dX5_putSetting_18 : decode cX5_putSetting 18 = .ok (.iload_n 2, 1) := by decide +kernel
theorem dX5_putSetting_19 : decode cX5_putSetting 19 = .ok (.getstatic 148, 3) := by decide +kernel
theorem dX5_putSetting_22 : decode cX5_putSetting 22 = .ok (.iload_n 1, 1) := by decide +kernel
theorem dX5_putSetting_23 : decode cX5_putSetting 23 = .ok (.iaload, 1) := by decide +kernel
theorem dX5_putSetting_24 : decode cX5_putSetting 24 = .ok (.if_icmp .le 6, 3) := by decide +kernel
theorem dX5_putSetting_27 : decode cX5_putSetting 27 = .ok (.ldc 100, 2) := by decide +kernel
theorem dX5_putSetting_29 : decode cX5_putSetting 29 = .ok (.ireturn, 1) := by decide +kernel
theorem dX5_putSetting_30 : decode cX5_putSetting 30 = .ok (.aload_n 0, 1) := by decide +kernel
theorem dX5_putSetting_31 : decode cX5_putSetting 31 = .ok (.getfield 30, 3) := by decide +kernel
theorem dX5_putSetting_34 : decode cX5_putSetting 34 = .ok (.iload_n 1, 1) := by decide +kernel
theorem dX5_putSetting_35 : decode cX5_putSetting 35 = .ok (.iaload, 1) := by decide +kernel
theorem dX5_putSetting_36 : decode cX5_putSetting 36 = .ok (.istore_n 3, 1) := by decide +kernel
theorem dX5_putSetting_37 : decode cX5_putSetting 37 = .ok (.aload_n 0, 1) := by decide +kernel
theorem dX5_putSetting_38 : decode cX5_putSetting 38 = .ok (.getfield 30, 3) := by decide +kernel
theorem dX5_putSetting_41 : decode cX5_putSetting 41 = .ok (.iload_n 1, 1) := by decide +kernel
theorem dX5_putSetting_42 : decode cX5_putSetting 42 = .ok (.iload_n 2, 1) := by decide +kernel
theorem dX5_putSetting_43 : decode cX5_putSetting 43 = .ok (.iastore, 1) := by decide +kernel
theorem dX5_putSetting_44 : decode cX5_putSetting 44 = .ok (.iload_n 3, 1) := by decide +kernel
theorem dX5_putSetting_45 : decode cX5_putSetting 45 = .ok (.ireturn, 1) := by decide +kernel
set_option maxRecDepth 20000 in
theorem ggX5_readIfOpen_X5_houseNumbered : GoodIn wsX5_readIfOpen wsX5_houseNumbered := goodIn_r _ [8, 9, 10, 59, 60, 61, 62, 63, 64, 65, 66, 67, 68, 69, 70, 71] (by decide +kernel) (by decide +kernel)
set_option maxRecDepth 20000 in
theorem gX5_readIfOpen_X5_houseNumbered : GoodIn wsX5_readIfOpen (wsV RX5 130 RX5 yX5_houseNumbered wsX5_houseNumbered) := goodIn_app (goodIn_of _ (by decide +kernel)) ggX5_readIfOpen_X5_houseNumbered
set_option maxRecDepth 20000 in
theorem ggX5_readIfOpen_X1_reasonOn : GoodIn wsX5_readIfOpen wsX1_reasonOn := goodIn_r _ [15, 16, 17, 72, 73, 74, 75, 76, 77, 78, 79, 80, 81, 82, 83, 84, 85] (by decide +kernel) (by decide +kernel)
set_option maxRecDepth 20000 in
theorem gX5_readIfOpen_X1_reasonOn : GoodIn wsX5_readIfOpen (wsV RX5 151 RX1 yX1_reasonOn wsX1_reasonOn) := goodIn_app (goodIn_of _ (by decide +kernel)) ggX5_readIfOpen_X1_reasonOn
set_option maxRecDepth 20000 in
theorem ggX5_readIfOpen_X5_readMeter : GoodIn wsX5_readIfOpen wsX5_readMeter := goodIn_r _ [21, 2, 22, 23, 24, 25, 26, 27, 28, 29, 30, 14, 31, 32, 33, 34, 35, 36, 37, 38, 39, 40, 41, 42, 17, 43, 44, 45, 46, 47, 48, 49, 50, 51, 52, 53, 54, 55, 56, 57, 58, 72, 73, 74, 75, 76, 77, 78, 79, 80, 81, 82, 83, 84, 85, 59, 60, 61, 62, 63, 64, 65, 66, 67, 68, 69, 70, 71, 86, 87, 88] (by decide +kernel) (by decide +kernel)
set_option maxRecDepth 20000 in
theorem gX5_readIfOpen_X5_readMeter : GoodIn wsX5_readIfOpen (wsV RX5 154 RX5 yX5_readMeter wsX5_readMeter) := goodIn_app (goodIn_of _ (by decide +kernel)) ggX5_readIfOpen_X5_readMeter
theorem dX5_readIfOpen_0 : decode cX5_readIfOpen 0 = .ok (.aload_n 0, 1) := by decide +kernel
theorem dX5_readIfOpen_1 : decode cX5_readIfOpen 1 = .ok (.iload_n 1, 1) := by decide +kernel
theorem dX5_readIfOpen_2 : decode cX5_readIfOpen 2 = .ok (.invokevirtual 130, 3) := by decide +kernel
theorem dX5_readIfOpen_5 : decode cX5_readIfOpen 5 = .ok (.astore_n 2, 1) := by decide +kernel
theorem dX5_readIfOpen_6 : decode cX5_readIfOpen 6 = .ok (.aload_n 2, 1) := by decide +kernel
theorem dX5_readIfOpen_7 : decode cX5_readIfOpen 7 = .ok (.ifnonnull 6, 3) := by decide +kernel
theorem dX5_readIfOpen_10 : decode cX5_readIfOpen 10 = .ok (.ldc 100, 2) := by decide +kernel
theorem dX5_readIfOpen_12 : decode cX5_readIfOpen 12 = .ok (.ireturn, 1) := by decide +kernel
theorem dX5_readIfOpen_13 : decode cX5_readIfOpen 13 = .ok (.aload_n 2, 1) := by decide +kernel
theorem dX5_readIfOpen_14 : decode cX5_readIfOpen 14 = .ok (.aload_n 0, 1) := by decide +kernel
theorem dX5_readIfOpen_15 : decode cX5_readIfOpen 15 = .ok (.getfield 59, 3) := by decide +kernel
theorem dX5_readIfOpen_18 : decode cX5_readIfOpen 18 = .ok (.invokevirtual 151, 3) := by decide +kernel
theorem dX5_readIfOpen_21 : decode cX5_readIfOpen 21 = .ok (.ifCond .ne 12, 3) := by decide +kernel
theorem dX5_readIfOpen_24 : decode cX5_readIfOpen 24 = .ok (.aload_n 0, 1) := by decide +kernel
theorem dX5_readIfOpen_25 : decode cX5_readIfOpen 25 = .ok (.aload_n 2, 1) := by decide +kernel
theorem dX5_readIfOpen_26 : decode cX5_readIfOpen 26 = .ok (.iload_n 1, 1) := by decide +kernel
theorem dX5_readIfOpen_27 : decode cX5_readIfOpen 27 = .ok (.invokevirtual 154, 3) := by decide +kernel
theorem dX5_readIfOpen_30 : decode cX5_readIfOpen 30 = .ok (.goto 5, 3) := by decide +kernel
theorem dX5_readIfOpen_33 : decode cX5_readIfOpen 33 = .ok (.ldc 119, 2) := by decide +kernel
theorem dX5_readIfOpen_35 : decode cX5_readIfOpen 35 = .ok (.ireturn, 1) := by decide +kernel
set_option maxRecDepth 20000 in
theorem ggX5_changeMeter_X5_houseNumbered : GoodIn wsX5_changeMeter wsX5_houseNumbered := goodIn_r _ [6, 7, 8, 58, 59, 60, 61, 62, 63, 64, 65, 66, 67, 68, 69, 70] (by decide +kernel) (by decide +kernel)
set_option maxRecDepth 20000 in
theorem gX5_changeMeter_X5_houseNumbered : GoodIn wsX5_changeMeter (wsV RX5 130 RX5 yX5_houseNumbered wsX5_houseNumbered) := goodIn_app (goodIn_of _ (by decide +kernel)) ggX5_changeMeter_X5_houseNumbered
set_option maxRecDepth 20000 in
theorem ggX5_changeMeter_X5_readMeter : GoodIn wsX5_changeMeter wsX5_readMeter := goodIn_r _ [12, 13, 14, 15, 16, 17, 18, 19, 20, 21, 22, 23, 24, 25, 26, 27, 28, 29, 30, 31, 32, 33, 34, 35, 36, 37, 38, 39, 40, 41, 42, 43, 44, 45, 46, 47, 48, 49, 50, 51, 52, 71, 72, 73, 74, 75, 76, 77, 78, 79, 80, 81, 82, 83, 84, 58, 59, 60, 61, 62, 63, 64, 65, 66, 67, 68, 69, 70, 85, 86, 87] (by decide +kernel) (by decide +kernel)
set_option maxRecDepth 20000 in
theorem gX5_changeMeter_X5_readMeter : GoodIn wsX5_changeMeter (wsV RX5 154 RX5 yX5_readMeter wsX5_readMeter) := goodIn_app (goodIn_of _ (by decide +kernel)) ggX5_changeMeter_X5_readMeter
set_option maxRecDepth 20000 in
theorem ggX5_changeMeter_X1_renewMeter : GoodIn wsX5_changeMeter wsX1_renewMeter := goodIn_r _ [56, 25, 26, 57, 71, 72, 73, 74, 75, 76, 77, 78, 79, 80, 81, 82, 83, 84] (by decide +kernel) (by decide +kernel)
set_option maxRecDepth 20000 in
theorem gX5_changeMeter_X1_renewMeter : GoodIn wsX5_changeMeter (wsV RX5 158 RX1 yX1_renewMeter wsX1_renewMeter) := goodIn_app (goodIn_of _ (by decide +kernel)) ggX5_changeMeter_X1_renewMeter
theorem dX5_changeMeter_0 : decode cX5_changeMeter 0 = .ok (.aload_n 0, 1) := by decide +kernel
theorem dX5_changeMeter_1 : decode cX5_changeMeter 1 = .ok (.iload_n 1, 1) := by decide +kernel
theorem dX5_changeMeter_2 : decode cX5_changeMeter 2 = .ok (.invokevirtual 130, 3) := by decide +kernel
theorem dX5_changeMeter_5 : decode cX5_changeMeter 5 = .ok (.astore_n 2, 1) := by decide +kernel
theorem dX5_changeMeter_6 : decode cX5_changeMeter 6 = .ok (.aload_n 2, 1) := by decide +kernel
theorem dX5_changeMeter_7 : decode cX5_changeMeter 7 = .ok (.ifnonnull 6, 3) := by decide +kernel
theorem dX5_changeMeter_10 : decode cX5_changeMeter 10 = .ok (.ldc 100, 2) := by decide +kernel
theorem dX5_changeMeter_12 : decode cX5_changeMeter 12 = .ok (.ireturn, 1) := by decide +kernel
theorem dX5_changeMeter_13 : decode cX5_changeMeter 13 = .ok (.aload_n 0, 1) := by decide +kernel
theorem dX5_changeMeter_14 : decode cX5_changeMeter 14 = .ok (.aload_n 2, 1) := by decide +kernel
theorem dX5_changeMeter_15 : decode cX5_changeMeter 15 = .ok (.iload_n 1, 1) := by decide +kernel
theorem dX5_changeMeter_16 : decode cX5_changeMeter 16 = .ok (.invokevirtual 154, 3) := by decide +kernel
theorem dX5_changeMeter_19 : decode cX5_changeMeter 19 = .ok (.istore_n 3, 1) := by decide +kernel
theorem dX5_changeMeter_20 : decode cX5_changeMeter 20 = .ok (.aload_n 2, 1) := by decide +kernel
theorem dX5_changeMeter_21 : decode cX5_changeMeter 21 = .ok (.invokevirtual 158, 3) := by decide +kernel
theorem dX5_changeMeter_24 : decode cX5_changeMeter 24 = .ok (.iload_n 3, 1) := by decide +kernel
theorem dX5_changeMeter_25 : decode cX5_changeMeter 25 = .ok (.ireturn, 1) := by decide +kernel
set_option maxRecDepth 20000 in
theorem ggX5_readMeter_X1_used : GoodIn wsX5_readMeter wsX1_used := goodIn_r _ [12, 13, 14, 15, 41, 42, 43, 44, 45, 46, 47, 48, 49, 50, 51, 52, 53, 54] (by decide +kernel) (by decide +kernel)
set_option maxRecDepth 20000 in
theorem gX5_readMeter_X1_used : GoodIn wsX5_readMeter (wsV RX5 161 RX1 yX1_used wsX1_used) := goodIn_app (goodIn_of _ (by decide +kernel)) ggX5_readMeter_X1_used
set_option maxRecDepth 20000 in
theorem ggX5_readMeter_X6_unitsFor : GoodIn wsX5_readMeter wsX6_unitsFor := goodIn_r _ [18] (by decide +kernel) (by decide +kernel)
set_option maxRecDepth 20000 in
theorem gX5_readMeter_X6_unitsFor_n168 : GoodIn wsX5_readMeter (wsX6_unitsFor) := ggX5_readMeter_X6_unitsFor
end
section
set_option maxRecDepth 20000 in
theorem ggX5_readMeter_X1_settle : GoodIn wsX5_readMeter wsX1_settle := goodIn_r _ [22, 23, 13, 14, 24, 25, 26, 27, 28, 41, 42, 43, 44, 45, 46, 47, 48, 49, 50, 51, 52, 53, 54] (by decide +kernel) (by decide +kernel)
set_option maxRecDepth 20000 in
theorem gX5_readMeter_X1_settle : GoodIn wsX5_readMeter (wsV RX5 171 RX1 yX1_settle wsX1_settle) := goodIn_app (goodIn_of _ (by decide +kernel)) ggX5_readMeter_X1_settle
set_option maxRecDepth 20000 in
theorem ggX5_readMeter_X2_add : GoodIn wsX5_readMeter wsX2_add := goodIn_r _ [33, 34, 35, 36, 37, 38, 39, 40, 68, 69, 70] (by decide +kernel) (by decide +kernel)
set_option maxRecDepth 20000 in
theorem gX5_readMeter_X2_add : GoodIn wsX5_readMeter (wsV RX5 175 RX2 yX2_add wsX2_add) := goodIn_app (goodIn_of _ (by decide +kernel)) ggX5_readMeter_X2_add
theorem dX5_readMeter_0 : decode cX5_readMeter 0 = .ok (.aload_n 1, 1) := by decide +kernel
theorem dX5_readMeter_1 : decode cX5_readMeter 1 = .ok (.invokevirtual 161, 3) := by decide +kernel
theorem dX5_readMeter_4 : decode cX5_readMeter 4 = .ok (.istore_n 3, 1) := by decide +kernel
theorem dX5_readMeter_5 : decode cX5_readMeter 5 = .ok (.iload_n 3, 1) := by decide +kernel
theorem dX5_readMeter_6 : decode cX5_readMeter 6 = .ok (.aload_n 1, 1) := by decide +kernel
theorem dX5_readMeter_7 : decode cX5_readMeter 7 = .ok (.getfield 165, 3) := by decide +kernel
theorem dX5_readMeter_10 : decode cX5_readMeter 10 = .ok (.invokestatic 168, 3) := by decide +kernel
theorem dX5_readMeter_13 : decode cX5_readMeter 13 = .ok (.istore 4, 2) := by decide +kernel
theorem dX5_readMeter_15 : decode cX5_readMeter 15 = .ok (.aload_n 1, 1) := by decide +kernel
theorem dX5_readMeter_16 : decode cX5_readMeter 16 = .ok (.aload_n 0, 1) := by decide +kernel
theorem dX5_readMeter_17 : decode cX5_readMeter 17 = .ok (.getfield 59, 3) := by decide +kernel
theorem dX5_readMeter_20 : decode cX5_readMeter 20 = .ok (.iload_n 3, 1) := by decide +kernel
theorem dX5_readMeter_21 : decode cX5_readMeter 21 = .ok (.iload 4, 2) := by decide +kernel
theorem dX5_readMeter_23 : decode cX5_readMeter 23 = .ok (.invokevirtual 171, 3) := by decide +kernel
theorem dX5_readMeter_26 : decode cX5_readMeter 26 = .ok (.aload_n 0, 1) := by decide +kernel
theorem dX5_readMeter_27 : decode cX5_readMeter 27 = .ok (.getfield 26, 3) := by decide +kernel
theorem dX5_readMeter_30 : decode cX5_readMeter 30 = .ok (.aload_n 0, 1) := by decide +kernel
theorem dX5_readMeter_31 : decode cX5_readMeter 31 = .ok (.getfield 59, 3) := by decide +kernel
theorem dX5_readMeter_34 : decode cX5_readMeter 34 = .ok (.iload_n 2, 1) := by decide +kernel
theorem dX5_readMeter_35 : decode cX5_readMeter 35 = .ok (.iload_n 3, 1) := by decide +kernel
theorem dX5_readMeter_36 : decode cX5_readMeter 36 = .ok (.iload 4, 2) := by decide +kernel
theorem dX5_readMeter_38 : decode cX5_readMeter 38 = .ok (.aload_n 1, 1) := by decide +kernel
theorem dX5_readMeter_39 : decode cX5_readMeter 39 = .ok (.getfield 165, 3) := by decide +kernel
theorem dX5_readMeter_42 : decode cX5_readMeter 42 = .ok (.invokevirtual 175, 3) := by decide +kernel
theorem dX5_readMeter_45 : decode cX5_readMeter 45 = .ok (.aload_n 0, 1) := by decide +kernel
theorem dX5_readMeter_46 : decode cX5_readMeter 46 = .ok (.dup, 1) := by decide +kernel
theorem dX5_readMeter_47 : decode cX5_readMeter 47 = .ok (.getfield 62, 3) := by decide +kernel
theorem dX5_readMeter_50 : decode cX5_readMeter 50 = .ok (.iconst 1, 1) := by decide +kernel
theorem dX5_readMeter_51 : decode cX5_readMeter 51 = .ok (.iadd, 1) := by decide +kernel
theorem dX5_readMeter_52 : decode cX5_readMeter 52 = .ok (.putfield 62, 3) := by decide +kernel
theorem dX5_readMeter_55 : decode cX5_readMeter 55 = .ok (.aload_n 0, 1) := by decide +kernel
theorem dX5_readMeter_56 : decode cX5_readMeter 56 = .ok (.dup, 1) := by decide +kernel
theorem dX5_readMeter_57 : decode cX5_readMeter 57 = .ok (.getfield 65, 3) := by decide +kernel
theorem dX5_readMeter_60 : decode cX5_readMeter 60 = .ok (.iload 4, 2) := by decide +kernel
theorem dX5_readMeter_62 : decode cX5_readMeter 62 = .ok (.iadd, 1) := by decide +kernel
theorem dX5_readMeter_63 : decode cX5_readMeter 63 = .ok (.putfield 65, 3) := by decide +kernel
theorem dX5_readMeter_66 : decode cX5_readMeter 66 = .ok (.aload_n 0, 1) := by decide +kernel
theorem dX5_readMeter_67 : decode cX5_readMeter 67 = .ok (.dup, 1) := by decide +kernel
theorem dX5_readMeter_68 : decode cX5_readMeter 68 = .ok (.getfield 68, 3) := by decide +kernel
theorem dX5_readMeter_71 : decode cX5_readMeter 71 = .ok (.iload 4, 2) := by decide +kernel
theorem dX5_readMeter_73 : decode cX5_readMeter 73 = .ok (.aload_n 0, 1) := by decide +kernel
theorem dX5_readMeter_74 : decode cX5_readMeter 74 = .ok (.getfield 30, 3) := by decide +kernel
theorem dX5_readMeter_77 : decode cX5_readMeter 77 = .ok (.iconst 1, 1) := by decide +kernel
theorem dX5_readMeter_78 : decode cX5_readMeter 78 = .ok (.iaload, 1) := by decide +kernel
theorem dX5_readMeter_79 : decode cX5_readMeter 79 = .ok (.imul, 1) := by decide +kernel
theorem dX5_readMeter_80 : decode cX5_readMeter 80 = .ok (.iadd, 1) := by decide +kernel
theorem dX5_readMeter_81 : decode cX5_readMeter 81 = .ok (.putfield 68, 3) := by decide +kernel
theorem dX5_readMeter_84 : decode cX5_readMeter 84 = .ok (.aload_n 0, 1) := by decide +kernel
theorem dX5_readMeter_85 : decode cX5_readMeter 85 = .ok (.dup, 1) := by decide +kernel
theorem dX5_readMeter_86 : decode cX5_readMeter 86 = .ok (.getfield 71, 3) := by decide +kernel
theorem dX5_readMeter_89 : decode cX5_readMeter 89 = .ok (.iload_n 3, 1) := by decide +kernel
theorem dX5_readMeter_90 : decode cX5_readMeter 90 = .ok (.iadd, 1) := by decide +kernel
theorem dX5_readMeter_91 : decode cX5_readMeter 91 = .ok (.putfield 71, 3) := by decide +kernel
theorem dX5_readMeter_94 : decode cX5_readMeter 94 = .ok (.iload 4, 2) := by decide +kernel
theorem dX5_readMeter_96 : decode cX5_readMeter 96 = .ok (.ireturn, 1) := by decide +kernel
set_option maxRecDepth 20000 in
theorem ggX5_passDays_X1_goOn : GoodIn wsX5_passDays wsX1_goOn := goodIn_r _ [10, 11, 12, 13, 98, 99, 100, 101, 102, 103, 104, 105, 106, 107, 108, 109, 110, 111] (by decide +kernel) (by decide +kernel)
set_option maxRecDepth 20000 in
theorem gX5_passDays_X1_goOn : GoodIn wsX5_passDays (wsV RX5 179 RX1 yX1_goOn wsX1_goOn) := goodIn_app (goodIn_of _ (by decide +kernel)) ggX5_passDays_X1_goOn
set_option maxRecDepth 20000 in
theorem ggX5_passDays_X5_walk : GoodIn wsX5_passDays wsX5_walk := goodIn_r _ [18, 5, 3, 19, 20, 21, 22, 23, 24, 25, 26, 27, 28, 29, 30, 31, 32, 17, 33, 34, 2, 35, 36, 37, 9, 38, 39, 40, 41, 42, 43, 44, 45, 1, 46, 47, 48, 49, 50, 51, 52, 11, 53, 13, 54, 55, 56, 57, 58, 59, 60, 61, 62, 63, 64, 65, 66, 67, 68, 69, 70, 71, 72, 73, 74, 75, 76, 77, 85, 86, 87, 88, 89, 90, 91, 92, 93, 94, 95, 96, 97, 112, 113, 98, 99, 100, 101, 102, 103, 104, 105, 106, 107, 108, 109, 110, 111, 114, 115, 116] (by decide +kernel) (by decide +kernel)
set_option maxRecDepth 20000 in
theorem gX5_passDays_X5_walk : GoodIn wsX5_passDays (wsV RX5 182 RX5 yX5_walk wsX5_walk) := goodIn_app (goodIn_of _ (by decide +kernel)) ggX5_passDays_X5_walk
set_option maxRecDepth 20000 in
theorem ggX5_passDays_X5_endYear : GoodIn wsX5_passDays wsX5_endYear := goodIn_r _ [81, 82, 2, 5, 83, 84, 85, 86, 87, 88, 89, 90, 91, 92, 93, 94, 95, 96, 97, 98, 99, 100, 101, 102, 103, 104, 105, 106, 107, 108, 109, 110, 111] (by decide +kernel) (by decide +kernel)
set_option maxRecDepth 20000 in
theorem gX5_passDays_X5_endYear : GoodIn wsX5_passDays (wsV RX5 185 RX5 yX5_endYear wsX5_endYear) := goodIn_app (goodIn_of _ (by decide +kernel)) ggX5_passDays_X5_endYear
theorem dX5_passDays_0 : decode cX5_passDays 0 = .ok (.aload_n 0, 1) := by decide +kernel
theorem dX5_passDays_1 : decode cX5_passDays 1 = .ok (.getfield 62, 3) := by decide +kernel
theorem dX5_passDays_4 : decode cX5_passDays 4 = .ok (.istore_n 2, 1) := by decide +kernel
theorem dX5_passDays_5 : decode cX5_passDays 5 = .ok (.iconst 0, 1) := by decide +kernel
theorem dX5_passDays_6 : decode cX5_passDays 6 = .ok (.istore_n 3, 1) := by decide +kernel
theorem dX5_passDays_7 : decode cX5_passDays 7 = .ok (.iload_n 3, 1) := by decide +kernel
theorem dX5_passDays_8 : decode cX5_passDays 8 = .ok (.iload_n 1, 1) := by decide +kernel
theorem dX5_passDays_9 : decode cX5_passDays 9 = .ok (.if_icmp .ge 100, 3) := by decide +kernel
theorem dX5_passDays_12 : decode cX5_passDays 12 = .ok (.aload_n 0, 1) := by decide +kernel
theorem dX5_passDays_13 : decode cX5_passDays 13 = .ok (.getfield 11, 3) := by decide +kernel
theorem dX5_passDays_16 : decode cX5_passDays 16 = .ok (.astore 4, 2) := by decide +kernel
theorem dX5_passDays_18 : decode cX5_passDays 18 = .ok (.aload 4, 2) := by decide +kernel
theorem dX5_passDays_20 : decode cX5_passDays 20 = .ok (.arraylength, 1) := by decide +kernel
theorem dX5_passDays_21 : decode cX5_passDays 21 = .ok (.istore 5, 2) := by decide +kernel
theorem dX5_passDays_23 : decode cX5_passDays 23 = .ok (.iconst 0, 1) := by decide +kernel
theorem dX5_passDays_24 : decode cX5_passDays 24 = .ok (.istore 6, 2) := by decide +kernel
theorem dX5_passDays_26 : decode cX5_passDays 26 = .ok (.iload 6, 2) := by decide +kernel
theorem dX5_passDays_28 : decode cX5_passDays 28 = .ok (.iload 5, 2) := by decide +kernel
theorem dX5_passDays_30 : decode cX5_passDays 30 = .ok (.if_icmp .ge 21, 3) := by decide +kernel
theorem dX5_passDays_33 : decode cX5_passDays 33 = .ok (.aload 4, 2) := by decide +kernel
theorem dX5_passDays_35 : decode cX5_passDays 35 = .ok (.iload 6, 2) := by decide +kernel
theorem dX5_passDays_37 : decode cX5_passDays 37 = .ok (.aaload, 1) := by decide +kernel
theorem dX5_passDays_38 : decode cX5_passDays 38 = .ok (.astore 7, 2) := by decide +kernel
theorem dX5_passDays_40 : decode cX5_passDays 40 = .ok (.aload 7, 2) := by decide +kernel
theorem dX5_passDays_42 : decode cX5_passDays 42 = .ok (.invokevirtual 179, 3) := by decide +kernel
theorem dX5_passDays_45 : decode cX5_passDays 45 = .ok (.iinc 6 1, 3) := by decide +kernel
theorem dX5_passDays_48 : decode cX5_passDays 48 = .ok (.goto (-22), 3) := by decide +kernel
theorem dX5_passDays_51 : decode cX5_passDays 51 = .ok (.aload_n 0, 1) := by decide +kernel
theorem dX5_passDays_52 : decode cX5_passDays 52 = .ok (.dup, 1) := by decide +kernel
theorem dX5_passDays_53 : decode cX5_passDays 53 = .ok (.getfield 59, 3) := by decide +kernel
theorem dX5_passDays_56 : decode cX5_passDays 56 = .ok (.iconst 1, 1) := by decide +kernel
theorem dX5_passDays_57 : decode cX5_passDays 57 = .ok (.iadd, 1) := by decide +kernel
theorem dX5_passDays_58 : decode cX5_passDays 58 = .ok (.putfield 59, 3) := by decide +kernel
theorem dX5_passDays_61 : decode cX5_passDays 61 = .ok (.aload_n 0, 1) := by decide +kernel
theorem dX5_passDays_62 : decode cX5_passDays 62 = .ok (.aload_n 0, 1) := by decide +kernel
theorem dX5_passDays_63 : decode cX5_passDays 63 = .ok (.getfield 19, 3) := by decide +kernel
theorem dX5_passDays_66 : decode cX5_passDays 66 = .ok (.aload_n 0, 1) := by decide +kernel
theorem dX5_passDays_67 : decode cX5_passDays 67 = .ok (.getfield 59, 3) := by decide +kernel
theorem dX5_passDays_70 : decode cX5_passDays 70 = .ok (.iconst 4, 1) := by decide +kernel
theorem dX5_passDays_71 : decode cX5_passDays 71 = .ok (.irem, 1) := by decide +kernel
theorem dX5_passDays_72 : decode cX5_passDays 72 = .ok (.aaload, 1) := by decide +kernel
theorem dX5_passDays_73 : decode cX5_passDays 73 = .ok (.invokevirtual 182, 3) := by decide +kernel
theorem dX5_passDays_76 : decode cX5_passDays 76 = .ok (.aload_n 0, 1) := by decide +kernel
theorem dX5_passDays_77 : decode cX5_passDays 77 = .ok (.getfield 30, 3) := by decide +kernel
theorem dX5_passDays_80 : decode cX5_passDays 80 = .ok (.iconst 3, 1) := by decide +kernel
theorem dX5_passDays_81 : decode cX5_passDays 81 = .ok (.iaload, 1) := by decide +kernel
theorem dX5_passDays_82 : decode cX5_passDays 82 = .ok (.istore 4, 2) := by decide +kernel
theorem dX5_passDays_84 : decode cX5_passDays 84 = .ok (.iload 4, 2) := by decide +kernel
theorem dX5_passDays_86 : decode cX5_passDays 86 = .ok (.ifCond .le 17, 3) := by decide +kernel
theorem dX5_passDays_89 : decode cX5_passDays 89 = .ok (.aload_n 0, 1) := by decide +kernel
theorem dX5_passDays_90 : decode cX5_passDays 90 = .ok (.getfield 59, 3) := by decide +kernel
theorem dX5_passDays_93 : decode cX5_passDays 93 = .ok (.iload 4, 2) := by decide +kernel
theorem dX5_passDays_95 : decode cX5_passDays 95 = .ok (.irem, 1) := by decide +kernel
theorem dX5_passDays_96 : decode cX5_passDays 96 = .ok (.ifCond .ne 7, 3) := by decide +kernel
theorem dX5_passDays_99 : decode cX5_passDays 99 = .ok (.aload_n 0, 1) := by decide +kernel
theorem dX5_passDays_100 : decode cX5_passDays 100 = .ok (.invokevirtual 185, 3) := by decide +kernel
theorem dX5_passDays_103 : decode cX5_passDays 103 = .ok (.iinc 3 1, 3) := by decide +kernel
theorem dX5_passDays_106 : decode cX5_passDays 106 = .ok (.goto (-99), 3) := by decide +kernel
theorem dX5_passDays_109 : decode cX5_passDays 109 = .ok (.aload_n 0, 1) := by decide +kernel
theorem dX5_passDays_110 : decode cX5_passDays 110 = .ok (.getfield 62, 3) := by decide +kernel
theorem dX5_passDays_113 : decode cX5_passDays 113 = .ok (.iload_n 2, 1) := by decide +kernel
theorem dX5_passDays_114 : decode cX5_passDays 114 = .ok (.isub, 1) := by decide +kernel
theorem dX5_passDays_115 : decode cX5_passDays 115 = .ok (.ireturn, 1) := by decide +kernel
set_option maxRecDepth 20000 in
theorem ggX5_walk_X4_stepAhead : GoodIn wsX5_walk wsX4_stepAhead := goodIn_r _ [7, 8, 81, 82] (by decide +kernel) (by decide +kernel)
set_option maxRecDepth 20000 in
theorem gX5_walk_X4_stepAhead : GoodIn wsX5_walk (wsV RX5 188 RX4 yX4_stepAhead wsX4_stepAhead) := goodIn_app (goodIn_of _ (by decide +kernel)) ggX5_walk_X4_stepAhead
set_option maxRecDepth 20000 in
theorem ggX5_walk_X4_houseOn : GoodIn wsX5_walk wsX4_houseOn := goodIn_r _ [12, 13, 81, 82] (by decide +kernel) (by decide +kernel)
set_option maxRecDepth 20000 in
theorem gX5_walk_X4_houseOn : GoodIn wsX5_walk (wsV RX5 116 RX4 yX4_houseOn wsX4_houseOn) := goodIn_app (goodIn_of _ (by decide +kernel)) ggX5_walk_X4_houseOn
set_option maxRecDepth 20000 in
theorem ggX5_walk_X5_houseNumbered : GoodIn wsX5_walk wsX5_houseNumbered := goodIn_r _ [18, 19, 20, 68, 69, 70, 71, 72, 73, 74, 75, 76, 77, 78, 79, 80] (by decide +kernel) (by decide +kernel)
set_option maxRecDepth 20000 in
theorem gX5_walk_X5_houseNumbered : GoodIn wsX5_walk (wsV RX5 130 RX5 yX5_houseNumbered wsX5_houseNumbered) := goodIn_app (goodIn_of _ (by decide +kernel)) ggX5_walk_X5_houseNumbered
set_option maxRecDepth 20000 in
theorem ggX5_walk_X1_reasonOn : GoodIn wsX5_walk wsX1_reasonOn := goodIn_r _ [25, 26, 27, 83, 84, 85, 86, 87, 88, 89, 90, 91, 92, 93, 94, 95, 96] (by decide +kernel) (by decide +kernel)
set_option maxRecDepth 20000 in
theorem gX5_walk_X1_reasonOn : GoodIn wsX5_walk (wsV RX5 151 RX1 yX1_reasonOn wsX1_reasonOn) := goodIn_app (goodIn_of _ (by decide +kernel)) ggX5_walk_X1_reasonOn
set_option maxRecDepth 20000 in
theorem ggX5_walk_X5_readMeter : GoodIn wsX5_walk wsX5_readMeter := goodIn_r _ [31, 2, 32, 33, 34, 35, 1, 36, 37, 38, 39, 24, 40, 41, 42, 43, 44, 45, 46, 47, 48, 49, 50, 51, 27, 52, 53, 54, 55, 56, 57, 58, 59, 60, 61, 62, 63, 64, 65, 66, 67, 83, 84, 85, 86, 87, 88, 89, 90, 91, 92, 93, 94, 95, 96, 68, 69, 70, 71, 72, 73, 74, 75, 76, 77, 78, 79, 80, 97, 98, 99] (by decide +kernel) (by decide +kernel)
set_option maxRecDepth 20000 in
theorem gX5_walk_X5_readMeter : GoodIn wsX5_walk (wsV RX5 154 RX5 yX5_readMeter wsX5_readMeter) := goodIn_app (goodIn_of _ (by decide +kernel)) ggX5_walk_X5_readMeter
theorem dX5_walk_0 : decode cX5_walk 0 = .ok (.aload_n 1, 1) := by decide +kernel
theorem dX5_walk_1 : decode cX5_walk 1 = .ok (.iconst 0, 1) := by decide +kernel
theorem dX5_walk_2 : decode cX5_walk 2 = .ok (.invokevirtual 188, 3) := by decide +kernel
theorem dX5_walk_5 : decode cX5_walk 5 = .ok (.istore_n 2, 1) := by decide +kernel
theorem dX5_walk_6 : decode cX5_walk 6 = .ok (.aload_n 0, 1) := by decide +kernel
theorem dX5_walk_7 : decode cX5_walk 7 = .ok (.getfield 30, 3) := by decide +kernel
theorem dX5_walk_10 : decode cX5_walk 10 = .ok (.iconst 0, 1) := by decide +kernel
theorem dX5_walk_11 : decode cX5_walk 11 = .ok (.iaload, 1) := by decide +kernel
theorem dX5_walk_12 : decode cX5_walk 12 = .ok (.istore_n 3, 1) := by decide +kernel
theorem dX5_walk_13 : decode cX5_walk 13 = .ok (.iconst 0, 1) := by decide +kernel
theorem dX5_walk_14 : decode cX5_walk 14 = .ok (.istore 4, 2) := by decide +kernel
theorem dX5_walk_16 : decode cX5_walk 16 = .ok (.iload 4, 2) := by decide +kernel
theorem dX5_walk_18 : decode cX5_walk 18 = .ok (.bipush 20, 2) := by decide +kernel
theorem dX5_walk_20 : decode cX5_walk 20 = .ok (.if_icmp .ge 73, 3) := by decide +kernel
theorem dX5_walk_23 : decode cX5_walk 23 = .ok (.iload_n 3, 1) := by decide +kernel
theorem dX5_walk_24 : decode cX5_walk 24 = .ok (.ifCond .le 69, 3) := by decide +kernel
theorem dX5_walk_27 : decode cX5_walk 27 = .ok (.iload_n 2, 1) := by decide +kernel
theorem dX5_walk_28 : decode cX5_walk 28 = .ok (.iload 4, 2) := by decide +kernel
theorem dX5_walk_30 : decode cX5_walk 30 = .ok (.iadd, 1) := by decide +kernel
theorem dX5_walk_31 : decode cX5_walk 31 = .ok (.bipush 20, 2) := by decide +kernel
theorem dX5_walk_33 : decode cX5_walk 33 = .ok (.irem, 1) := by decide +kernel
theorem dX5_walk_34 : decode cX5_walk 34 = .ok (.istore 5, 2) := by decide +kernel
theorem dX5_walk_36 : decode cX5_walk 36 = .ok (.aload_n 1, 1) := by decide +kernel
theorem dX5_walk_37 : decode cX5_walk 37 = .ok (.iload 5, 2) := by decide +kernel
theorem dX5_walk_39 : decode cX5_walk 39 = .ok (.invokevirtual 116, 3) := by decide +kernel
theorem dX5_walk_42 : decode cX5_walk 42 = .ok (.istore 6, 2) := by decide +kernel
theorem dX5_walk_44 : decode cX5_walk 44 = .ok (.aload_n 0, 1) := by decide +kernel
theorem dX5_walk_45 : decode cX5_walk 45 = .ok (.iload 6, 2) := by decide +kernel
theorem dX5_walk_47 : decode cX5_walk 47 = .ok (.invokevirtual 130, 3) := by decide +kernel
theorem dX5_walk_50 : decode cX5_walk 50 = .ok (.astore 7, 2) := by decide +kernel
theorem dX5_walk_52 : decode cX5_walk 52 = .ok (.aload 7, 2) := by decide +kernel
theorem dX5_walk_54 : decode cX5_walk 54 = .ok (.ifnull 33, 3) := by decide +kernel
theorem dX5_walk_57 : decode cX5_walk 57 = .ok (.aload 7, 2) := by decide +kernel
theorem dX5_walk_59 : decode cX5_walk 59 = .ok (.aload_n 0, 1) := by decide +kernel
theorem dX5_walk_60 : decode cX5_walk 60 = .ok (.getfield 59, 3) := by decide +kernel
theorem dX5_walk_63 : decode cX5_walk 63 = .ok (.invokevirtual 151, 3) := by decide +kernel
theorem dX5_walk_66 : decode cX5_walk 66 = .ok (.ifCond .ne 21, 3) := by decide +kernel
theorem dX5_walk_69 : decode cX5_walk 69 = .ok (.aload_n 0, 1) := by decide +kernel
theorem dX5_walk_70 : decode cX5_walk 70 = .ok (.aload 7, 2) := by decide +kernel
theorem dX5_walk_72 : decode cX5_walk 72 = .ok (.iload 6, 2) := by decide +kernel
theorem dX5_walk_74 : decode cX5_walk 74 = .ok (.invokevirtual 154, 3) := by decide +kernel
theorem dX5_walk_77 : decode cX5_walk 77 = .ok (.pop, 1) := by decide +kernel
theorem dX5_walk_78 : decode cX5_walk 78 = .ok (.aload_n 1, 1) := by decide +kernel
theorem dX5_walk_79 : decode cX5_walk 79 = .ok (.iload 5, 2) := by decide +kernel
theorem dX5_walk_81 : decode cX5_walk 81 = .ok (.putfield 191, 3) := by decide +kernel
theorem dX5_walk_84 : decode cX5_walk 84 = .ok (.iinc 3 (-1), 3) := by decide +kernel
theorem dX5_walk_87 : decode cX5_walk 87 = .ok (.iinc 4 1, 3) := by decide +kernel
theorem dX5_walk_90 : decode cX5_walk 90 = .ok (.goto (-74), 3) := by decide +kernel
theorem dX5_walk_93 : decode cX5_walk 93 = .ok (.return_, 1) := by decide +kernel
theorem dX5_endYear_0 : decode cX5_endYear 0 = .ok (.aload_n 0, 1) := by decide +kernel
theorem dX5_endYear_1 : decode cX5_endYear 1 = .ok (.dup, 1) := by decide +kernel
theorem dX5_endYear_2 : decode cX5_endYear 2 = .ok (.getfield 80, 3) := by decide +kernel
theorem dX5_endYear_5 : decode cX5_endYear 5 = .ok (.iconst 1, 1) := by decide +kernel
theorem dX5_endYear_6 : decode cX5_endYear 6 = .ok (.iadd, 1) := by decide +kernel
theorem dX5_endYear_7 : decode cX5_endYear 7 = .ok (.putfield 80, 3) := by decide +kernel
theorem dX5_endYear_10 : decode cX5_endYear 10 = .ok (.aload_n 0, 1) := by decide +kernel
theorem dX5_endYear_11 : decode cX5_endYear 11 = .ok (.getfield 11, 3) := by decide +kernel
theorem dX5_endYear_14 : decode cX5_endYear 14 = .ok (.astore_n 1, 1) := by decide +kernel
theorem dX5_endYear_15 : decode cX5_endYear 15 = .ok (.aload_n 1, 1) := by decide +kernel
theorem dX5_endYear_16 : decode cX5_endYear 16 = .ok (.arraylength, 1) := by decide +kernel
theorem dX5_endYear_17 : decode cX5_endYear 17 = .ok (.istore_n 2, 1) := by decide +kernel
theorem dX5_endYear_18 : decode cX5_endYear 18 = .ok (.iconst 0, 1) := by decide +kernel
theorem dX5_endYear_19 : decode cX5_endYear 19 = .ok (.istore_n 3, 1) := by decide +kernel
theorem dX5_endYear_20 : decode cX5_endYear 20 = .ok (.iload_n 3, 1) := by decide +kernel
theorem dX5_endYear_21 : decode cX5_endYear 21 = .ok (.iload_n 2, 1) := by decide +kernel
theorem dX5_endYear_22 : decode cX5_endYear 22 = .ok (.if_icmp .ge 76, 3) := by decide +kernel
theorem dX5_endYear_25 : decode cX5_endYear 25 = .ok (.aload_n 1, 1) := by decide +kernel
theorem dX5_endYear_26 : decode cX5_endYear 26 = .ok (.iload_n 3, 1) := by decide +kernel
theorem dX5_endYear_27 : decode cX5_endYear 27 = .ok (.aaload, 1) := by decide +kernel
theorem dX5_endYear_28 : decode cX5_endYear 28 = .ok (.astore 4, 2) := by decide +kernel
theorem dX5_endYear_30 : decode cX5_endYear 30 = .ok (.aload 4, 2) := by decide +kernel
theorem dX5_endYear_32 : decode cX5_endYear 32 = .ok (.getfield 165, 3) := by decide +kernel
theorem dX5_endYear_35 : decode cX5_endYear 35 = .ok (.aload_n 0, 1) := by decide +kernel
theorem dX5_endYear_36 : decode cX5_endYear 36 = .ok (.getfield 30, 3) := by decide +kernel
theorem dX5_endYear_39 : decode cX5_endYear 39 = .ok (.iconst 2, 1) := by decide +kernel
theorem dX5_endYear_40 : decode cX5_endYear 40 = .ok (.iaload, 1) := by decide +kernel
theorem dX5_endYear_41 : decode cX5_endYear 41 = .ok (.if_icmp .lt 51, 3) := by decide +kernel
theorem dX5_endYear_44 : decode cX5_endYear 44 = .ok (.aload 4, 2) := by decide +kernel
theorem dX5_endYear_46 : decode cX5_endYear 46 = .ok (.dup, 1) := by decide +kernel
theorem dX5_endYear_47 : decode cX5_endYear 47 = .ok (.getfield 165, 3) := by decide +kernel
theorem dX5_endYear_50 : decode cX5_endYear 50 = .ok (.bipush 100, 2) := by decide +kernel
theorem dX5_endYear_52 : decode cX5_endYear 52 = .ok (.isub, 1) := by decide +kernel
theorem dX5_endYear_53 : decode cX5_endYear 53 = .ok (.putfield 165, 3) := by decide +kernel
theorem dX5_endYear_56 : decode cX5_endYear 56 = .ok (.aload 4, 2) := by decide +kernel
theorem dX5_endYear_58 : decode cX5_endYear 58 = .ok (.dup, 1) := by decide +kernel
theorem dX5_endYear_59 : decode cX5_endYear 59 = .ok (.getfield 194, 3) := by decide +kernel
theorem dX5_endYear_62 : decode cX5_endYear 62 = .ok (.iconst 1, 1) := by decide +kernel
theorem dX5_endYear_63 : decode cX5_endYear 63 = .ok (.iadd, 1) := by decide +kernel
theorem dX5_endYear_64 : decode cX5_endYear 64 = .ok (.putfield 194, 3) := by decide +kernel
theorem dX5_endYear_67 : decode cX5_endYear 67 = .ok (.aload_n 0, 1) := by decide +kernel
theorem dX5_endYear_68 : decode cX5_endYear 68 = .ok (.dup, 1) := by decide +kernel
theorem dX5_endYear_69 : decode cX5_endYear 69 = .ok (.getfield 74, 3) := by decide +kernel
theorem dX5_endYear_72 : decode cX5_endYear 72 = .ok (.iconst 1, 1) := by decide +kernel
theorem dX5_endYear_73 : decode cX5_endYear 73 = .ok (.iadd, 1) := by decide +kernel
theorem dX5_endYear_74 : decode cX5_endYear 74 = .ok (.putfield 74, 3) := by decide +kernel
theorem dX5_endYear_77 : decode cX5_endYear 77 = .ok (.aload_n 0, 1) := by decide +kernel
theorem dX5_endYear_78 : decode cX5_endYear 78 = .ok (.dup, 1) := by decide +kernel
theorem dX5_endYear_79 : decode cX5_endYear 79 = .ok (.getfield 77, 3) := by decide +kernel
theorem dX5_endYear_82 : decode cX5_endYear 82 = .ok (.aload_n 0, 1) := by decide +kernel
theorem dX5_endYear_83 : decode cX5_endYear 83 = .ok (.getfield 30, 3) := by decide +kernel
theorem dX5_endYear_86 : decode cX5_endYear 86 = .ok (.iconst 1, 1) := by decide +kernel
theorem dX5_endYear_87 : decode cX5_endYear 87 = .ok (.iaload, 1) := by decide +kernel
theorem dX5_endYear_88 : decode cX5_endYear 88 = .ok (.iadd, 1) := by decide +kernel
theorem dX5_endYear_89 : decode cX5_endYear 89 = .ok (.putfield 77, 3) := by decide +kernel
theorem dX5_endYear_92 : decode cX5_endYear 92 = .ok (.iinc 3 1, 3) := by decide +kernel
theorem dX5_endYear_95 : decode cX5_endYear 95 = .ok (.goto (-75), 3) := by decide +kernel
theorem dX5_endYear_98 : decode cX5_endYear 98 = .ok (.return_, 1) := by decide +kernel
set_option maxRecDepth 20000 in
theorem ggX5_passUntilRefund_X5_houseNumbered : GoodIn wsX5_passUntilRefund wsX5_houseNumbered := goodIn_r _ [7, 8, 9, 105, 106, 107, 108, 109, 110, 111, 112, 113, 114, 115, 116, 117] (by decide +kernel) (by decide +kernel)
set_option maxRecDepth 20000 in
theorem gX5_passUntilRefund_X5_houseNumbered : GoodIn wsX5_passUntilRefund (wsV RX5 130 RX5 yX5_houseNumbered wsX5_houseNumbered) := goodIn_app (goodIn_of _ (by decide +kernel)) ggX5_passUntilRefund_X5_houseNumbered
set_option maxRecDepth 20000 in
theorem ggX5_passUntilRefund_X5_passDays : GoodIn wsX5_passUntilRefund wsX5_passDays := goodIn_r _ [13, 14, 9, 15, 16, 17, 18, 19, 20, 21, 22, 23, 24, 25, 26, 27, 28, 6, 29, 30, 31, 32, 33, 34, 35, 36, 37, 38, 39, 40, 3, 4, 5, 7, 8, 41, 42, 43, 44, 45, 46, 47, 48, 49, 50, 51, 52, 53, 54, 55, 56, 57, 58, 59, 60, 61, 62, 63, 64, 65, 66, 67, 68, 69, 70, 71, 72, 73, 74, 75, 76, 77, 78, 79, 80, 81, 82, 83, 84, 85, 86, 87, 88, 89, 90, 105, 106, 107, 108, 109, 110, 111, 112, 113, 114, 115, 116, 117, 91, 92, 93, 94, 95, 96, 97, 98, 99, 100, 101, 102, 103, 104, 118, 119, 120, 121, 122] (by decide +kernel) (by decide +kernel)
set_option maxRecDepth 20000 in
theorem gX5_passUntilRefund_X5_passDays : GoodIn wsX5_passUntilRefund (wsV RX5 102 RX5 yX5_passDays wsX5_passDays) := goodIn_app (goodIn_of _ (by decide +kernel)) ggX5_passUntilRefund_X5_passDays
theorem dX5_passUntilRefund_0 : decode cX5_passUntilRefund 0 = .ok (.aload_n 0, 1) := by decide +kernel
theorem dX5_passUntilRefund_1 : decode cX5_passUntilRefund 1 = .ok (.iload_n 1, 1) := by decide +kernel
theorem dX5_passUntilRefund_2 : decode cX5_passUntilRefund 2 = .ok (.invokevirtual 130, 3) := by decide +kernel
theorem dX5_passUntilRefund_5 : decode cX5_passUntilRefund 5 = .ok (.astore_n 2, 1) := by decide +kernel
theorem dX5_passUntilRefund_6 : decode cX5_passUntilRefund 6 = .ok (.aload_n 2, 1) := by decide +kernel
theorem dX5_passUntilRefund_7 : decode cX5_passUntilRefund 7 = .ok (.ifnonnull 6, 3) := by decide +kernel
theorem dX5_passUntilRefund_10 : decode cX5_passUntilRefund 10 = .ok (.ldc 100, 2) := by decide +kernel
theorem dX5_passUntilRefund_12 : decode cX5_passUntilRefund 12 = .ok (.ireturn, 1) := by decide +kernel
theorem dX5_passUntilRefund_13 : decode cX5_passUntilRefund 13 = .ok (.aload_n 2, 1) := by decide +kernel
theorem dX5_passUntilRefund_14 : decode cX5_passUntilRefund 14 = .ok (.getfield 194, 3) := by decide +kernel
theorem dX5_passUntilRefund_17 : decode cX5_passUntilRefund 17 = .ok (.istore_n 3, 1) := by decide +kernel
theorem dX5_passUntilRefund_18 : decode cX5_passUntilRefund 18 = .ok (.iconst 1, 1) := by decide +kernel
theorem dX5_passUntilRefund_19 : decode cX5_passUntilRefund 19 = .ok (.istore 4, 2) := by decide +kernel
theorem dX5_passUntilRefund_21 : decode cX5_passUntilRefund 21 = .ok (.iload 4, 2) := by decide +kernel
theorem dX5_passUntilRefund_23 : decode cX5_passUntilRefund 23 = .ok (.sipush 400, 3) := by decide +kernel
theorem dX5_passUntilRefund_26 : decode cX5_passUntilRefund 26 = .ok (.if_icmp .gt 26, 3) := by decide +kernel
theorem dX5_passUntilRefund_29 : decode cX5_passUntilRefund 29 = .ok (.aload_n 0, 1) := by decide +kernel
theorem dX5_passUntilRefund_30 : decode cX5_passUntilRefund 30 = .ok (.iconst 1, 1) := by decide +kernel
theorem dX5_passUntilRefund_31 : decode cX5_passUntilRefund 31 = .ok (.invokevirtual 102, 3) := by decide +kernel
theorem dX5_passUntilRefund_34 : decode cX5_passUntilRefund 34 = .ok (.pop, 1) := by decide +kernel
theorem dX5_passUntilRefund_35 : decode cX5_passUntilRefund 35 = .ok (.aload_n 2, 1) := by decide +kernel
theorem dX5_passUntilRefund_36 : decode cX5_passUntilRefund 36 = .ok (.getfield 194, 3) := by decide +kernel
theorem dX5_passUntilRefund_39 : decode cX5_passUntilRefund 39 = .ok (.iload_n 3, 1) := by decide +kernel
theorem dX5_passUntilRefund_40 : decode cX5_passUntilRefund 40 = .ok (.if_icmp .le 6, 3) := by decide +kernel
theorem dX5_passUntilRefund_43 : decode cX5_passUntilRefund 43 = .ok (.iload 4, 2) := by decide +kernel
theorem dX5_passUntilRefund_45 : decode cX5_passUntilRefund 45 = .ok (.ireturn, 1) := by decide +kernel
theorem dX5_passUntilRefund_46 : decode cX5_passUntilRefund 46 = .ok (.iinc 4 1, 3) := by decide +kernel
theorem dX5_passUntilRefund_49 : decode cX5_passUntilRefund 49 = .ok (.goto (-28), 3) := by decide +kernel
theorem dX5_passUntilRefund_52 : decode cX5_passUntilRefund 52 = .ok (.ldc 195, 2) := by decide +kernel
theorem dX5_passUntilRefund_54 : decode cX5_passUntilRefund 54 = .ok (.ireturn, 1) := by decide +kernel
set_option maxRecDepth 20000 in
theorem ggX5_houseByBalance_X5_housesAhead : GoodIn wsX5_houseByBalance wsX5_housesAhead := goodIn_r _ [8, 1, 2, 9, 10, 11, 12, 13, 14, 15, 16, 17, 18, 19, 20, 21, 22, 23, 24, 25, 26, 27, 28, 29, 30, 31, 32, 33, 34, 35] (by decide +kernel) (by decide +kernel)
set_option maxRecDepth 20000 in
theorem gX5_houseByBalance_X5_housesAhead : GoodIn wsX5_houseByBalance (wsV RX5 196 RX5 yX5_housesAhead wsX5_housesAhead) := goodIn_app (goodIn_of _ (by decide +kernel)) ggX5_houseByBalance_X5_housesAhead
theorem dX5_houseByBalance_0 : decode cX5_houseByBalance 0 = .ok (.iconst 0, 1) := by decide +kernel
theorem dX5_houseByBalance_1 : decode cX5_houseByBalance 1 = .ok (.istore_n 2, 1) := by decide +kernel
theorem dX5_houseByBalance_2 : decode cX5_houseByBalance 2 = .ok (.iload_n 2, 1) := by decide +kernel
theorem dX5_houseByBalance_3 : decode cX5_houseByBalance 3 = .ok (.aload_n 0, 1) := by decide +kernel
theorem dX5_houseByBalance_4 : decode cX5_houseByBalance 4 = .ok (.getfield 55, 3) := by decide +kernel
theorem dX5_houseByBalance_7 : decode cX5_houseByBalance 7 = .ok (.if_icmp .ge 35, 3) := by decide +kernel
theorem dX5_houseByBalance_10 : decode cX5_houseByBalance 10 = .ok (.iload_n 2, 1) := by decide +kernel
theorem dX5_houseByBalance_11 : decode cX5_houseByBalance 11 = .ok (.bipush 24, 2) := by decide +kernel
theorem dX5_houseByBalance_13 : decode cX5_houseByBalance 13 = .ok (.if_icmp .ge 29, 3) := by decide +kernel
theorem dX5_houseByBalance_16 : decode cX5_houseByBalance 16 = .ok (.aload_n 0, 1) := by decide +kernel
theorem dX5_houseByBalance_17 : decode cX5_houseByBalance 17 = .ok (.iload_n 2, 1) := by decide +kernel
theorem dX5_houseByBalance_18 : decode cX5_houseByBalance 18 = .ok (.aload_n 0, 1) := by decide +kernel
theorem dX5_houseByBalance_19 : decode cX5_houseByBalance 19 = .ok (.getfield 11, 3) := by decide +kernel
theorem dX5_houseByBalance_22 : decode cX5_houseByBalance 22 = .ok (.iload_n 2, 1) := by decide +kernel
theorem dX5_houseByBalance_23 : decode cX5_houseByBalance 23 = .ok (.aaload, 1) := by decide +kernel
theorem dX5_houseByBalance_24 : decode cX5_houseByBalance 24 = .ok (.getfield 165, 3) := by decide +kernel
theorem dX5_houseByBalance_27 : decode cX5_houseByBalance 27 = .ok (.invokevirtual 196, 3) := by decide +kernel
theorem dX5_houseByBalance_30 : decode cX5_houseByBalance 30 = .ok (.iload_n 1, 1) := by decide +kernel
theorem dX5_houseByBalance_31 : decode cX5_houseByBalance 31 = .ok (.if_icmp .ne 5, 3) := by decide +kernel
theorem dX5_houseByBalance_34 : decode cX5_houseByBalance 34 = .ok (.iload_n 2, 1) := by decide +kernel
theorem dX5_houseByBalance_35 : decode cX5_houseByBalance 35 = .ok (.ireturn, 1) := by decide +kernel
theorem dX5_houseByBalance_36 : decode cX5_houseByBalance 36 = .ok (.iinc 2 1, 3) := by decide +kernel
theorem dX5_houseByBalance_39 : decode cX5_houseByBalance 39 = .ok (.goto (-37), 3) := by decide +kernel
theorem dX5_houseByBalance_42 : decode cX5_houseByBalance 42 = .ok (.ldc 195, 2) := by decide +kernel
theorem dX5_houseByBalance_44 : decode cX5_houseByBalance 44 = .ok (.ireturn, 1) := by decide +kernel
theorem dX5_housesAhead_0 : decode cX5_housesAhead 0 = .ok (.iconst 0, 1) := by decide +kernel
theorem dX5_housesAhead_1 : decode cX5_housesAhead 1 = .ok (.istore_n 3, 1) := by decide +kernel
theorem dX5_housesAhead_2 : decode cX5_housesAhead 2 = .ok (.iconst 0, 1) := by decide +kernel
theorem dX5_housesAhead_3 : decode cX5_housesAhead 3 = .ok (.istore 4, 2) := by decide +kernel
theorem dX5_housesAhead_5 : decode cX5_housesAhead 5 = .ok (.iload 4, 2) := by decide +kernel
theorem dX5_housesAhead_7 : decode cX5_housesAhead 7 = .ok (.aload_n 0, 1) := by decide +kernel
theorem dX5_housesAhead_8 : decode cX5_housesAhead 8 = .ok (.getfield 55, 3) := by decide +kernel
theorem dX5_housesAhead_11 : decode cX5_housesAhead 11 = .ok (.if_icmp .ge 49, 3) := by decide +kernel
theorem dX5_housesAhead_14 : decode cX5_housesAhead 14 = .ok (.iload 4, 2) := by decide +kernel
theorem dX5_housesAhead_16 : decode cX5_housesAhead 16 = .ok (.bipush 24, 2) := by decide +kernel
theorem dX5_housesAhead_18 : decode cX5_housesAhead 18 = .ok (.if_icmp .ge 42, 3) := by decide +kernel
theorem dX5_housesAhead_21 : decode cX5_housesAhead 21 = .ok (.aload_n 0, 1) := by decide +kernel
theorem dX5_housesAhead_22 : decode cX5_housesAhead 22 = .ok (.getfield 11, 3) := by decide +kernel
theorem dX5_housesAhead_25 : decode cX5_housesAhead 25 = .ok (.iload 4, 2) := by decide +kernel
theorem dX5_housesAhead_27 : decode cX5_housesAhead 27 = .ok (.aaload, 1) := by decide +kernel
theorem dX5_housesAhead_28 : decode cX5_housesAhead 28 = .ok (.getfield 165, 3) := by decide +kernel
theorem dX5_housesAhead_31 : decode cX5_housesAhead 31 = .ok (.istore 5, 2) := by decide +kernel
theorem dX5_housesAhead_33 : decode cX5_housesAhead 33 = .ok (.iload 5, 2) := by decide +kernel
theorem dX5_housesAhead_35 : decode cX5_housesAhead 35 = .ok (.iload_n 2, 1) := by decide +kernel
theorem dX5_housesAhead_36 : decode cX5_housesAhead 36 = .ok (.if_icmp .gt 15, 3) := by decide +kernel
theorem dX5_housesAhead_39 : decode cX5_housesAhead 39 = .ok (.iload 5, 2) := by decide +kernel
theorem dX5_housesAhead_41 : decode cX5_housesAhead 41 = .ok (.iload_n 2, 1) := by decide +kernel
theorem dX5_housesAhead_42 : decode cX5_housesAhead 42 = .ok (.if_icmp .ne 12, 3) := by decide +kernel
theorem dX5_housesAhead_45 : decode cX5_housesAhead 45 = .ok (.iload 4, 2) := by decide +kernel
theorem dX5_housesAhead_47 : decode cX5_housesAhead 47 = .ok (.iload_n 1, 1) := by decide +kernel
theorem dX5_housesAhead_48 : decode cX5_housesAhead 48 = .ok (.if_icmp .ge 6, 3) := by decide +kernel
theorem dX5_housesAhead_51 : decode cX5_housesAhead 51 = .ok (.iinc 3 1, 3) := by decide +kernel
theorem dX5_housesAhead_54 : decode cX5_housesAhead 54 = .ok (.iinc 4 1, 3) := by decide +kernel
theorem dX5_housesAhead_57 : decode cX5_housesAhead 57 = .ok (.goto (-52), 3) := by decide +kernel
theorem dX5_housesAhead_60 : decode cX5_housesAhead 60 = .ok (.iload_n 3, 1) := by decide +kernel
theorem dX5_housesAhead_61 : decode cX5_housesAhead 61 = .ok (.ireturn, 1) := by decide +kernel
set_option maxRecDepth 20000 in
theorem ggX5_number_X5_housesLocked : GoodIn wsX5_number wsX5_housesLocked := goodIn_r _ [17, 18, 27, 28, 29, 30, 31, 32, 33, 34, 35, 36, 37, 38, 39, 43, 44, 45, 46, 47, 48, 49, 50, 51, 52, 53, 54, 55, 56] (by decide +kernel) (by decide +kernel)
set_option maxRecDepth 20000 in
theorem gX5_number_X5_housesLocked : GoodIn wsX5_number (wsV RX5 199 RX5 yX5_housesLocked wsX5_housesLocked) := goodIn_app (goodIn_of _ (by decide +kernel)) ggX5_number_X5_housesLocked
set_option maxRecDepth 20000 in
theorem ggX5_number_X5_housesBetween : GoodIn wsX5_number wsX5_housesBetween := goodIn_r _ [22, 18, 27, 28, 29, 30, 31, 32, 33, 34, 35, 36, 37, 38, 39, 43, 44, 45, 46, 47, 48, 49, 50, 51, 52, 53, 54, 55, 56] (by decide +kernel) (by decide +kernel)
set_option maxRecDepth 20000 in
theorem gX5_number_X5_housesBetween : GoodIn wsX5_number (wsV RX5 202 RX5 yX5_housesBetween wsX5_housesBetween) := goodIn_app (goodIn_of _ (by decide +kernel)) ggX5_number_X5_housesBetween
set_option maxRecDepth 20000 in
theorem ggX5_number_X5_balances : GoodIn wsX5_number wsX5_balances := goodIn_r _ [26, 18, 27, 28, 29, 30, 31, 32, 33, 34, 35, 36, 37, 38, 39, 43, 44, 45, 46, 47, 48, 49, 50, 51, 52, 53, 54, 55, 56] (by decide +kernel) (by decide +kernel)
set_option maxRecDepth 20000 in
theorem gX5_number_X5_balances : GoodIn wsX5_number (wsV RX5 205 RX5 yX5_balances wsX5_balances) := goodIn_app (goodIn_of _ (by decide +kernel)) ggX5_number_X5_balances
theorem dX5_number_0 : decode cX5_number 0 = .ok (.iload_n 1, 1) := by decide +kernel
theorem dX5_number_1 : decode cX5_number 1 = .ok (.tableswitch 183 0 14 #[75, 80, 85, 90, 95, 100, 105, 110, 115, 120, 128, 136, 145, 170, 175], 75) := by decide +kernel
theorem dX5_number_76 : decode cX5_number 76 = .ok (.aload_n 0, 1) := by decide +kernel
theorem dX5_number_77 : decode cX5_number 77 = .ok (.getfield 59, 3) := by decide +kernel
theorem dX5_number_80 : decode cX5_number 80 = .ok (.ireturn, 1) := by decide +kernel
theorem dX5_number_81 : decode cX5_number 81 = .ok (.aload_n 0, 1) := by decide +kernel
theorem dX5_number_82 : decode cX5_number 82 = .ok (.getfield 55, 3) := by decide +kernel
theorem dX5_number_85 : decode cX5_number 85 = .ok (.ireturn, 1) := by decide +kernel
theorem dX5_number_86 : decode cX5_number 86 = .ok (.aload_n 0, 1) := by decide +kernel
theorem dX5_number_87 : decode cX5_number 87 = .ok (.invokevirtual 199, 3) := by decide +kernel
theorem dX5_number_90 : decode cX5_number 90 = .ok (.ireturn, 1) := by decide +kernel
theorem dX5_number_91 : decode cX5_number 91 = .ok (.aload_n 0, 1) := by decide +kernel
theorem dX5_number_92 : decode cX5_number 92 = .ok (.getfield 62, 3) := by decide +kernel
theorem dX5_number_95 : decode cX5_number 95 = .ok (.ireturn, 1) := by decide +kernel
theorem dX5_number_96 : decode cX5_number 96 = .ok (.aload_n 0, 1) := by decide +kernel
theorem dX5_number_97 : decode cX5_number 97 = .ok (.getfield 65, 3) := by decide +kernel
theorem dX5_number_100 : decode cX5_number 100 = .ok (.ireturn, 1) := by decide +kernel
theorem dX5_number_101 : decode cX5_number 101 = .ok (.aload_n 0, 1) := by decide +kernel
theorem dX5_number_102 : decode cX5_number 102 = .ok (.getfield 68, 3) := by decide +kernel
theorem dX5_number_105 : decode cX5_number 105 = .ok (.ireturn, 1) := by decide +kernel
theorem dX5_number_106 : decode cX5_number 106 = .ok (.aload_n 0, 1) := by decide +kernel
theorem dX5_number_107 : decode cX5_number 107 = .ok (.getfield 71, 3) := by decide +kernel
theorem dX5_number_110 : decode cX5_number 110 = .ok (.ireturn, 1) := by decide +kernel
theorem dX5_number_111 : decode cX5_number 111 = .ok (.aload_n 0, 1) := by decide +kernel
theorem dX5_number_112 : decode cX5_number 112 = .ok (.getfield 74, 3) := by decide +kernel
theorem dX5_number_115 : decode cX5_number 115 = .ok (.ireturn, 1) := by decide +kernel
theorem dX5_number_116 : decode cX5_number 116 = .ok (.aload_n 0, 1) := by decide +kernel
theorem dX5_number_117 : decode cX5_number 117 = .ok (.getfield 77, 3) := by decide +kernel
theorem dX5_number_120 : decode cX5_number 120 = .ok (.ireturn, 1) := by decide +kernel
theorem dX5_number_121 : decode cX5_number 121 = .ok (.aload_n 0, 1) := by decide +kernel
theorem dX5_number_122 : decode cX5_number 122 = .ok (.iconst 1, 1) := by decide +kernel
theorem dX5_number_123 : decode cX5_number 123 = .ok (.bipush 100, 2) := by decide +kernel
theorem dX5_number_125 : decode cX5_number 125 = .ok (.invokevirtual 202, 3) := by decide +kernel
theorem dX5_number_128 : decode cX5_number 128 = .ok (.ireturn, 1) := by decide +kernel
theorem dX5_number_129 : decode cX5_number 129 = .ok (.aload_n 0, 1) := by decide +kernel
theorem dX5_number_130 : decode cX5_number 130 = .ok (.bipush (-100), 2) := by decide +kernel
theorem dX5_number_132 : decode cX5_number 132 = .ok (.iconst (-1), 1) := by decide +kernel
theorem dX5_number_133 : decode cX5_number 133 = .ok (.invokevirtual 202, 3) := by decide +kernel
theorem dX5_number_136 : decode cX5_number 136 = .ok (.ireturn, 1) := by decide +kernel
theorem dX5_number_137 : decode cX5_number 137 = .ok (.sipush 10000, 3) := by decide +kernel
theorem dX5_number_140 : decode cX5_number 140 = .ok (.aload_n 0, 1) := by decide +kernel
theorem dX5_number_141 : decode cX5_number 141 = .ok (.invokevirtual 205, 3) := by decide +kernel
theorem dX5_number_144 : decode cX5_number 144 = .ok (.iadd, 1) := by decide +kernel
theorem dX5_number_145 : decode cX5_number 145 = .ok (.ireturn, 1) := by decide +kernel
theorem dX5_number_146 : decode cX5_number 146 = .ok (.sipush 10000, 3) := by decide +kernel
theorem dX5_number_149 : decode cX5_number 149 = .ok (.bipush 100, 2) := by decide +kernel
theorem dX5_number_151 : decode cX5_number 151 = .ok (.aload_n 0, 1) := by decide +kernel
theorem dX5_number_152 : decode cX5_number 152 = .ok (.getfield 65, 3) := by decide +kernel
theorem dX5_number_155 : decode cX5_number 155 = .ok (.imul, 1) := by decide +kernel
theorem dX5_number_156 : decode cX5_number 156 = .ok (.iadd, 1) := by decide +kernel
theorem dX5_number_157 : decode cX5_number 157 = .ok (.aload_n 0, 1) := by decide +kernel
theorem dX5_number_158 : decode cX5_number 158 = .ok (.getfield 71, 3) := by decide +kernel
theorem dX5_number_161 : decode cX5_number 161 = .ok (.isub, 1) := by decide +kernel
theorem dX5_number_162 : decode cX5_number 162 = .ok (.bipush 100, 2) := by decide +kernel
theorem dX5_number_164 : decode cX5_number 164 = .ok (.aload_n 0, 1) := by decide +kernel
theorem dX5_number_165 : decode cX5_number 165 = .ok (.getfield 74, 3) := by decide +kernel
theorem dX5_number_168 : decode cX5_number 168 = .ok (.imul, 1) := by decide +kernel
theorem dX5_number_169 : decode cX5_number 169 = .ok (.isub, 1) := by decide +kernel
theorem dX5_number_170 : decode cX5_number 170 = .ok (.ireturn, 1) := by decide +kernel
theorem dX5_number_171 : decode cX5_number 171 = .ok (.aload_n 0, 1) := by decide +kernel
theorem dX5_number_172 : decode cX5_number 172 = .ok (.getfield 80, 3) := by decide +kernel
theorem dX5_number_175 : decode cX5_number 175 = .ok (.ireturn, 1) := by decide +kernel
theorem dX5_number_176 : decode cX5_number 176 = .ok (.aload_n 0, 1) := by decide +kernel
theorem dX5_number_177 : decode cX5_number 177 = .ok (.getfield 26, 3) := by decide +kernel
theorem dX5_number_180 : decode cX5_number 180 = .ok (.getfield 208, 3) := by decide +kernel
theorem dX5_number_183 : decode cX5_number 183 = .ok (.ireturn, 1) := by decide +kernel
theorem dX5_number_184 : decode cX5_number 184 = .ok (.iload_n 1, 1) := by decide +kernel
theorem dX5_number_185 : decode cX5_number 185 = .ok (.bipush 20, 2) := by decide +kernel
theorem dX5_number_187 : decode cX5_number 187 = .ok (.if_icmp .lt 21, 3) := by decide +kernel
theorem dX5_number_190 : decode cX5_number 190 = .ok (.iload_n 1, 1) := by decide +kernel
theorem dX5_number_191 : decode cX5_number 191 = .ok (.bipush 24, 2) := by decide +kernel
theorem dX5_number_193 : decode cX5_number 193 = .ok (.if_icmp .ge 15, 3) := by decide +kernel
theorem dX5_number_196 : decode cX5_number 196 = .ok (.aload_n 0, 1) := by decide +kernel
theorem dX5_number_197 : decode cX5_number 197 = .ok (.getfield 30, 3) := by decide +kernel
theorem dX5_number_200 : decode cX5_number 200 = .ok (.iload_n 1, 1) := by decide +kernel
theorem dX5_number_201 : decode cX5_number 201 = .ok (.bipush 20, 2) := by decide +kernel
theorem dX5_number_203 : decode cX5_number 203 = .ok (.isub, 1) := by decide +kernel
theorem dX5_number_204 : decode cX5_number 204 = .ok (.iaload, 1) := by decide +kernel
theorem dX5_number_205 : decode cX5_number 205 = .ok (.goto 5, 3) := by decide +kernel
theorem dX5_number_208 : decode cX5_number 208 = .ok (.ldc 100, 2) := by decide +kernel
theorem dX5_number_210 : decode cX5_number 210 = .ok (.ireturn, 1) := by decide +kernel
theorem dX5_housesLocked_0 : decode cX5_housesLocked 0 = .ok (.iconst 0, 1) := by decide +kernel
theorem dX5_housesLocked_1 : decode cX5_housesLocked 1 = .ok (.istore_n 1, 1) := by decide +kernel
theorem dX5_housesLocked_2 : decode cX5_housesLocked 2 = .ok (.aload_n 0, 1) := by decide +kernel
theorem dX5_housesLocked_3 : decode cX5_housesLocked 3 = .ok (.getfield 11, 3) := by decide +kernel
theorem dX5_housesLocked_6 : decode cX5_housesLocked 6 = .ok (.astore_n 2, 1) := by decide +kernel
theorem dX5_housesLocked_7 : decode cX5_housesLocked 7 = .ok (.aload_n 2, 1) := by decide +kernel
theorem dX5_housesLocked_8 : decode cX5_housesLocked 8 = .ok (.arraylength, 1) := by decide +kernel
theorem dX5_housesLocked_9 : decode cX5_housesLocked 9 = .ok (.istore_n 3, 1) := by decide +kernel
theorem dX5_housesLocked_10 : decode cX5_housesLocked 10 = .ok (.iconst 0, 1) := by decide +kernel
theorem dX5_housesLocked_11 : decode cX5_housesLocked 11 = .ok (.istore 4, 2) := by decide +kernel
theorem dX5_housesLocked_13 : decode cX5_housesLocked 13 = .ok (.iload 4, 2) := by decide +kernel
theorem dX5_housesLocked_15 : decode cX5_housesLocked 15 = .ok (.iload_n 3, 1) := by decide +kernel
theorem dX5_housesLocked_16 : decode cX5_housesLocked 16 = .ok (.if_icmp .ge 26, 3) := by decide +kernel
theorem dX5_housesLocked_19 : decode cX5_housesLocked 19 = .ok (.aload_n 2, 1) := by decide +kernel
theorem dX5_housesLocked_20 : decode cX5_housesLocked 20 = .ok (.iload 4, 2) := by decide +kernel
theorem dX5_housesLocked_22 : decode cX5_housesLocked 22 = .ok (.aaload, 1) := by decide +kernel
theorem dX5_housesLocked_23 : decode cX5_housesLocked 23 = .ok (.astore 5, 2) := by decide +kernel
theorem dX5_housesLocked_25 : decode cX5_housesLocked 25 = .ok (.aload 5, 2) := by decide +kernel
theorem dX5_housesLocked_27 : decode cX5_housesLocked 27 = .ok (.getfield 137, 3) := by decide +kernel
theorem dX5_housesLocked_30 : decode cX5_housesLocked 30 = .ok (.ifCond .eq 6, 3) := by decide +kernel
theorem dX5_housesLocked_33 : decode cX5_housesLocked 33 = .ok (.iinc 1 1, 3) := by decide +kernel
theorem dX5_housesLocked_36 : decode cX5_housesLocked 36 = .ok (.iinc 4 1, 3) := by decide +kernel
theorem dX5_housesLocked_39 : decode cX5_housesLocked 39 = .ok (.goto (-26), 3) := by decide +kernel
theorem dX5_housesLocked_42 : decode cX5_housesLocked 42 = .ok (.iload_n 1, 1) := by decide +kernel
theorem dX5_housesLocked_43 : decode cX5_housesLocked 43 = .ok (.ireturn, 1) := by decide +kernel
theorem dX5_housesBetween_0 : decode cX5_housesBetween 0 = .ok (.iconst 0, 1) := by decide +kernel
theorem dX5_housesBetween_1 : decode cX5_housesBetween 1 = .ok (.istore_n 3, 1) := by decide +kernel
theorem dX5_housesBetween_2 : decode cX5_housesBetween 2 = .ok (.aload_n 0, 1) := by decide +kernel
theorem dX5_housesBetween_3 : decode cX5_housesBetween 3 = .ok (.getfield 11, 3) := by decide +kernel
theorem dX5_housesBetween_6 : decode cX5_housesBetween 6 = .ok (.astore 4, 2) := by decide +kernel
theorem dX5_housesBetween_8 : decode cX5_housesBetween 8 = .ok (.aload 4, 2) := by decide +kernel
theorem dX5_housesBetween_10 : decode cX5_housesBetween 10 = .ok (.arraylength, 1) := by decide +kernel
theorem dX5_housesBetween_11 : decode cX5_housesBetween 11 = .ok (.istore 5, 2) := by decide +kernel
theorem dX5_housesBetween_13 : decode cX5_housesBetween 13 = .ok (.iconst 0, 1) := by decide +kernel
theorem dX5_housesBetween_14 : decode cX5_housesBetween 14 = .ok (.istore 6, 2) := by decide +kernel
theorem dX5_housesBetween_16 : decode cX5_housesBetween 16 = .ok (.iload 6, 2) := by decide +kernel
theorem dX5_housesBetween_18 : decode cX5_housesBetween 18 = .ok (.iload 5, 2) := by decide +kernel
theorem dX5_housesBetween_20 : decode cX5_housesBetween 20 = .ok (.if_icmp .ge 37, 3) := by decide +kernel
theorem dX5_housesBetween_23 : decode cX5_housesBetween 23 = .ok (.aload 4, 2) := by decide +kernel
theorem dX5_housesBetween_25 : decode cX5_housesBetween 25 = .ok (.iload 6, 2) := by decide +kernel
theorem dX5_housesBetween_27 : decode cX5_housesBetween 27 = .ok (.aaload, 1) := by decide +kernel
theorem dX5_housesBetween_28 : decode cX5_housesBetween 28 = .ok (.astore 7, 2) := by decide +kernel
theorem dX5_housesBetween_30 : decode cX5_housesBetween 30 = .ok (.aload 7, 2) := by decide +kernel
theorem dX5_housesBetween_32 : decode cX5_housesBetween 32 = .ok (.getfield 165, 3) := by decide +kernel
theorem dX5_housesBetween_35 : decode cX5_housesBetween 35 = .ok (.iload_n 1, 1) := by decide +kernel
theorem dX5_housesBetween_36 : decode cX5_housesBetween 36 = .ok (.if_icmp .lt 15, 3) := by decide +kernel
theorem dX5_housesBetween_39 : decode cX5_housesBetween 39 = .ok (.aload 7, 2) := by decide +kernel
theorem dX5_housesBetween_41 : decode cX5_housesBetween 41 = .ok (.getfield 165, 3) := by decide +kernel
theorem dX5_housesBetween_44 : decode cX5_housesBetween 44 = .ok (.iload_n 2, 1) := by decide +kernel
theorem dX5_housesBetween_45 : decode cX5_housesBetween 45 = .ok (.if_icmp .gt 6, 3) := by decide +kernel
theorem dX5_housesBetween_48 : decode cX5_housesBetween 48 = .ok (.iinc 3 1, 3) := by decide +kernel
theorem dX5_housesBetween_51 : decode cX5_housesBetween 51 = .ok (.iinc 6 1, 3) := by decide +kernel
theorem dX5_housesBetween_54 : decode cX5_housesBetween 54 = .ok (.goto (-38), 3) := by decide +kernel
theorem dX5_housesBetween_57 : decode cX5_housesBetween 57 = .ok (.iload_n 3, 1) := by decide +kernel
theorem dX5_housesBetween_58 : decode cX5_housesBetween 58 = .ok (.ireturn, 1) := by decide +kernel
theorem dX5_balances_0 : decode cX5_balances 0 = .ok (.iconst 0, 1) := by decide +kernel
theorem dX5_balances_1 : decode cX5_balances 1 = .ok (.istore_n 1, 1) := by decide +kernel
theorem dX5_balances_2 : decode cX5_balances 2 = .ok (.aload_n 0, 1) := by decide +kernel
theorem dX5_balances_3 : decode cX5_balances 3 = .ok (.getfield 11, 3) := by decide +kernel
theorem dX5_balances_6 : decode cX5_balances 6 = .ok (.astore_n 2, 1) := by decide +kernel
theorem dX5_balances_7 : decode cX5_balances 7 = .ok (.aload_n 2, 1) := by decide +kernel
theorem dX5_balances_8 : decode cX5_balances 8 = .ok (.arraylength, 1) := by decide +kernel
theorem dX5_balances_9 : decode cX5_balances 9 = .ok (.istore_n 3, 1) := by decide +kernel
theorem dX5_balances_10 : decode cX5_balances 10 = .ok (.iconst 0, 1) := by decide +kernel
theorem dX5_balances_11 : decode cX5_balances 11 = .ok (.istore 4, 2) := by decide +kernel
theorem dX5_balances_13 : decode cX5_balances 13 = .ok (.iload 4, 2) := by decide +kernel
theorem dX5_balances_15 : decode cX5_balances 15 = .ok (.iload_n 3, 1) := by decide +kernel
theorem dX5_balances_16 : decode cX5_balances 16 = .ok (.if_icmp .ge 23, 3) := by decide +kernel
theorem dX5_balances_19 : decode cX5_balances 19 = .ok (.aload_n 2, 1) := by decide +kernel
theorem dX5_balances_20 : decode cX5_balances 20 = .ok (.iload 4, 2) := by decide +kernel
theorem dX5_balances_22 : decode cX5_balances 22 = .ok (.aaload, 1) := by decide +kernel
theorem dX5_balances_23 : decode cX5_balances 23 = .ok (.astore 5, 2) := by decide +kernel
theorem dX5_balances_25 : decode cX5_balances 25 = .ok (.iload_n 1, 1) := by decide +kernel
theorem dX5_balances_26 : decode cX5_balances 26 = .ok (.aload 5, 2) := by decide +kernel
theorem dX5_balances_28 : decode cX5_balances 28 = .ok (.getfield 165, 3) := by decide +kernel
theorem dX5_balances_31 : decode cX5_balances 31 = .ok (.iadd, 1) := by decide +kernel
theorem dX5_balances_32 : decode cX5_balances 32 = .ok (.istore_n 1, 1) := by decide +kernel
theorem dX5_balances_33 : decode cX5_balances 33 = .ok (.iinc 4 1, 3) := by decide +kernel
theorem dX5_balances_36 : decode cX5_balances 36 = .ok (.goto (-23), 3) := by decide +kernel
theorem dX5_balances_39 : decode cX5_balances 39 = .ok (.iload_n 1, 1) := by decide +kernel
theorem dX5_balances_40 : decode cX5_balances 40 = .ok (.ireturn, 1) := by decide +kernel
theorem dX5_balancesWithoutSigns_0 : decode cX5_balancesWithoutSigns 0 = .ok (.iconst 0, 1) := by decide +kernel
theorem dX5_balancesWithoutSigns_1 : decode cX5_balancesWithoutSigns 1 = .ok (.istore_n 1, 1) := by decide +kernel
theorem dX5_balancesWithoutSigns_2 : decode cX5_balancesWithoutSigns 2 = .ok (.aload_n 0, 1) := by decide +kernel
theorem dX5_balancesWithoutSigns_3 : decode cX5_balancesWithoutSigns 3 = .ok (.getfield 11, 3) := by decide +kernel
theorem dX5_balancesWithoutSigns_6 : decode cX5_balancesWithoutSigns 6 = .ok (.astore_n 2, 1) := by decide +kernel
theorem dX5_balancesWithoutSigns_7 : decode cX5_balancesWithoutSigns 7 = .ok (.aload_n 2, 1) := by decide +kernel
theorem dX5_balancesWithoutSigns_8 : decode cX5_balancesWithoutSigns 8 = .ok (.arraylength, 1) := by decide +kernel
theorem dX5_balancesWithoutSigns_9 : decode cX5_balancesWithoutSigns 9 = .ok (.istore_n 3, 1) := by decide +kernel
theorem dX5_balancesWithoutSigns_10 : decode cX5_balancesWithoutSigns 10 = .ok (.iconst 0, 1) := by decide +kernel
theorem dX5_balancesWithoutSigns_11 : decode cX5_balancesWithoutSigns 11 = .ok (.istore 4, 2) := by decide +kernel
theorem dX5_balancesWithoutSigns_13 : decode cX5_balancesWithoutSigns 13 = .ok (.iload 4, 2) := by decide +kernel
theorem dX5_balancesWithoutSigns_15 : decode cX5_balancesWithoutSigns 15 = .ok (.iload_n 3, 1) := by decide +kernel
theorem dX5_balancesWithoutSigns_16 : decode cX5_balancesWithoutSigns 16 = .ok (.if_icmp .ge 26, 3) := by decide +kernel
theorem dX5_balancesWithoutSigns_19 : decode cX5_balancesWithoutSigns 19 = .ok (.aload_n 2, 1) := by decide +kernel
theorem dX5_balancesWithoutSigns_20 : decode cX5_balancesWithoutSigns 20 = .ok (.iload 4, 2) := by decide +kernel
theorem dX5_balancesWithoutSigns_22 : decode cX5_balancesWithoutSigns 22 = .ok (.aaload, 1) := by decide +kernel
theorem dX5_balancesWithoutSigns_23 : decode cX5_balancesWithoutSigns 23 = .ok (.astore 5, 2) := by decide +kernel
theorem dX5_balancesWithoutSigns_25 : decode cX5_balancesWithoutSigns 25 = .ok (.iload_n 1, 1) := by decide +kernel
theorem dX5_balancesWithoutSigns_26 : decode cX5_balancesWithoutSigns 26 = .ok (.aload 5, 2) := by decide +kernel
theorem dX5_balancesWithoutSigns_28 : decode cX5_balancesWithoutSigns 28 = .ok (.getfield 165, 3) := by decide +kernel
theorem dX5_balancesWithoutSigns_31 : decode cX5_balancesWithoutSigns 31 = .ok (.invokestatic 211, 3) := by decide +kernel
theorem dX5_balancesWithoutSigns_34 : decode cX5_balancesWithoutSigns 34 = .ok (.iadd, 1) := by decide +kernel
theorem dX5_balancesWithoutSigns_35 : decode cX5_balancesWithoutSigns 35 = .ok (.istore_n 1, 1) := by decide +kernel
theorem dX5_balancesWithoutSigns_36 : decode cX5_balancesWithoutSigns 36 = .ok (.iinc 4 1, 3) := by decide +kernel
theorem dX5_balancesWithoutSigns_39 : decode cX5_balancesWithoutSigns 39 = .ok (.goto (-26), 3) := by decide +kernel
theorem dX5_balancesWithoutSigns_42 : decode cX5_balancesWithoutSigns 42 = .ok (.iload_n 1, 1) := by decide +kernel
theorem dX5_balancesWithoutSigns_43 : decode cX5_balancesWithoutSigns 43 = .ok (.ireturn, 1) := by decide +kernel
set_option maxRecDepth 20000 in
theorem ggX6_init_X5_init : GoodIn wsX6_init wsX5_init := goodIn_r _ [19, 20, 2, 3, 21, 22, 23, 24, 25, 26, 27, 28, 29, 30, 31, 32, 33, 34, 35, 36, 37, 38, 39, 40, 41, 42, 43, 44, 45, 46, 47, 48, 60, 61, 62, 63, 64, 65, 66, 67, 68, 69, 70, 71, 72, 90, 91, 92, 93, 94, 95, 96, 97, 98, 99, 100, 101, 102, 103, 104, 105, 106, 107, 108] (by decide +kernel) (by decide +kernel)
set_option maxRecDepth 20000 in
theorem gX6_init_X5_init : GoodIn wsX6_init (wsX5_init) := ggX6_init_X5_init
set_option maxRecDepth 20000 in
theorem ggX6_init_X0_init : GoodIn wsX6_init wsX0_init := goodIn_r _ [51, 52, 2, 3, 53, 54, 5, 6, 55, 18, 19, 20, 21, 22, 23, 24, 25, 26, 27, 28, 29, 30, 31, 32, 33, 34, 35, 36, 37, 38, 39, 40, 41, 42, 43, 44, 45, 46, 47, 48, 77, 78, 79, 60, 61, 62, 63, 64, 65, 66, 67, 68, 69, 70, 71, 72, 90, 91, 92, 93, 94, 95, 96, 97, 98, 99, 100, 101, 102, 103, 104, 105, 106, 107, 108] (by decide +kernel) (by decide +kernel)
set_option maxRecDepth 20000 in
theorem gX6_init_X0_init : GoodIn wsX6_init (wsX0_init) := ggX6_init_X0_init
set_option maxRecDepth 20000 in
theorem ggX6_init_X3_init : GoodIn wsX6_init wsX3_init := goodIn_r _ [57, 58, 2, 3, 29, 59, 80, 81, 82, 83, 84, 85, 86, 87, 88, 89] (by decide +kernel) (by decide +kernel)
set_option maxRecDepth 20000 in
theorem gX6_init_X3_init_n28 : GoodIn wsX6_init (wsX3_init) := ggX6_init_X3_init
theorem dX6_init_0 : decode cX6_init 0 = .ok (.aload_n 0, 1) := by decide +kernel
theorem dX6_init_1 : decode cX6_init 1 = .ok (.invokespecial 1, 3) := by decide +kernel
theorem dX6_init_4 : decode cX6_init 4 = .ok (.aload_n 0, 1) := by decide +kernel
theorem dX6_init_5 : decode cX6_init 5 = .ok (.new 7, 3) := by decide +kernel
theorem dX6_init_8 : decode cX6_init 8 = .ok (.dup, 1) := by decide +kernel
theorem dX6_init_9 : decode cX6_init 9 = .ok (.invokespecial 9, 3) := by decide +kernel
theorem dX6_init_12 : decode cX6_init 12 = .ok (.putfield 10, 3) := by decide +kernel
theorem dX6_init_15 : decode cX6_init 15 = .ok (.aload_n 0, 1) := by decide +kernel
theorem dX6_init_16 : decode cX6_init 16 = .ok (.new 7, 3) := by decide +kernel
theorem dX6_init_19 : decode cX6_init 19 = .ok (.dup, 1) := by decide +kernel
theorem dX6_init_20 : decode cX6_init 20 = .ok (.invokespecial 9, 3) := by decide +kernel
theorem dX6_init_23 : decode cX6_init 23 = .ok (.putfield 16, 3) := by decide +kernel
theorem dX6_init_26 : decode cX6_init 26 = .ok (.aload_n 0, 1) := by decide +kernel
theorem dX6_init_27 : decode cX6_init 27 = .ok (.new 19, 3) := by decide +kernel
theorem dX6_init_30 : decode cX6_init 30 = .ok (.dup, 1) := by decide +kernel
theorem dX6_init_31 : decode cX6_init 31 = .ok (.invokespecial 21, 3) := by decide +kernel
theorem dX6_init_34 : decode cX6_init 34 = .ok (.putfield 22, 3) := by decide +kernel
theorem dX6_init_37 : decode cX6_init 37 = .ok (.aload_n 0, 1) := by decide +kernel
theorem dX6_init_38 : decode cX6_init 38 = .ok (.new 26, 3) := by decide +kernel
theorem dX6_init_41 : decode cX6_init 41 = .ok (.dup, 1) := by decide +kernel
theorem dX6_init_42 : decode cX6_init 42 = .ok (.invokespecial 28, 3) := by decide +kernel
theorem dX6_init_45 : decode cX6_init 45 = .ok (.putfield 29, 3) := by decide +kernel
theorem dX6_init_48 : decode cX6_init 48 = .ok (.return_, 1) := by decide +kernel
set_option maxRecDepth 20000 in
theorem ggX6_house_X6_carryOut : GoodIn wsX6_house wsX6_carryOut := goodIn_r _ [5, 6, 7, 8, 9, 10, 11, 12, 13, 14, 15, 16, 17, 18, 19, 20, 21, 22, 23, 24, 25, 26, 27, 28, 29, 30, 31, 32, 33, 34, 35, 36, 37, 38, 39, 40, 41, 42, 43, 44, 45, 46, 47, 48, 49, 50, 51, 52, 53, 54, 55, 56, 57, 58, 59, 60, 61, 62, 63, 64, 65, 66, 67, 68, 69, 70, 71, 72, 73, 74, 75, 76, 77, 78, 79, 80, 81, 82, 83, 84, 85, 86, 87, 88, 4, 89, 90, 91, 92, 93, 94, 95, 96, 97, 98, 99, 100, 101, 102, 103, 104, 105, 106, 107, 108, 109, 110, 111, 112, 113, 114, 115, 116, 117, 118, 119, 120, 121, 122, 123, 124, 125, 126, 127, 128, 129, 130, 131, 132, 133, 134, 135, 136, 137, 138, 139, 140, 141, 142, 143, 144, 145, 146, 147, 148, 149, 150, 151, 152, 153, 154, 155, 156, 157, 158, 159, 160, 161, 162, 163, 164, 165, 166, 167, 168, 169, 170, 171, 172, 173, 174, 175, 176, 177, 178, 179, 180, 181, 182, 183, 184, 185, 186, 187, 188, 189, 190, 191, 192, 193, 194, 195, 196, 197, 198, 199, 200, 201, 202, 203, 204, 205, 206, 207, 208, 209, 210, 211, 212, 213, 214, 215, 216, 217, 218, 219, 220, 221, 222, 223] (by decide +kernel) (by decide +kernel)
set_option maxRecDepth 20000 in
theorem gX6_house_X6_carryOut : GoodIn wsX6_house (wsV RX6 33 RX6 yX6_carryOut wsX6_carryOut) := goodIn_app (goodIn_of _ (by decide +kernel)) ggX6_house_X6_carryOut
theorem dX6_house_0 : decode cX6_house 0 = .ok (.aload_n 0, 1) := by decide +kernel
theorem dX6_house_1 : decode cX6_house 1 = .ok (.bipush 104, 2) := by decide +kernel
theorem dX6_house_3 : decode cX6_house 3 = .ok (.iload_n 1, 1) := by decide +kernel
theorem dX6_house_4 : decode cX6_house 4 = .ok (.iload_n 2, 1) := by decide +kernel
theorem dX6_house_5 : decode cX6_house 5 = .ok (.invokevirtual 33, 3) := by decide +kernel
theorem dX6_house_8 : decode cX6_house 8 = .ok (.ireturn, 1) := by decide +kernel
set_option maxRecDepth 20000 in
theorem ggX6_flow_X6_carryOut : GoodIn wsX6_flow wsX6_carryOut := goodIn_r _ [5, 6, 7, 8, 9, 10, 11, 12, 13, 14, 15, 16, 17, 18, 19, 20, 21, 22, 23, 24, 25, 26, 27, 28, 29, 30, 31, 32, 33, 34, 35, 36, 37, 38, 39, 40, 41, 42, 43, 44, 45, 46, 47, 48, 49, 50, 51, 52, 53, 54, 55, 56, 57, 58, 59, 60, 61, 62, 63, 64, 65, 66, 67, 68, 69, 70, 71, 72, 73, 74, 75, 76, 77, 78, 79, 80, 81, 82, 83, 84, 85, 86, 87, 88, 4, 89, 90, 91, 92, 93, 94, 95, 96, 97, 98, 99, 100, 101, 102, 103, 104, 105, 106, 107, 108, 109, 110, 111, 112, 113, 114, 115, 116, 117, 118, 119, 120, 121, 122, 123, 124, 125, 126, 127, 128, 129, 130, 131, 132, 133, 134, 135, 136, 137, 138, 139, 140, 141, 142, 143, 144, 145, 146, 147, 148, 149, 150, 151, 152, 153, 154, 155, 156, 157, 158, 159, 160, 161, 162, 163, 164, 165, 166, 167, 168, 169, 170, 171, 172, 173, 174, 175, 176, 177, 178, 179, 180, 181, 182, 183, 184, 185, 186, 187, 188, 189, 190, 191, 192, 193, 194, 195, 196, 197, 198, 199, 200, 201, 202, 203, 204, 205, 206, 207, 208, 209, 210, 211, 212, 213, 214, 215, 216, 217, 218, 219, 220, 221, 222, 223] (by decide +kernel) (by decide +kernel)
set_option maxRecDepth 20000 in
theorem gX6_flow_X6_carryOut : GoodIn wsX6_flow (wsV RX6 33 RX6 yX6_carryOut wsX6_carryOut) := goodIn_app (goodIn_of _ (by decide +kernel)) ggX6_flow_X6_carryOut
theorem dX6_flow_0 : decode cX6_flow 0 = .ok (.aload_n 0, 1) := by decide +kernel
theorem dX6_flow_1 : decode cX6_flow 1 = .ok (.bipush 102, 2) := by decide +kernel
theorem dX6_flow_3 : decode cX6_flow 3 = .ok (.iload_n 1, 1) := by decide +kernel
theorem dX6_flow_4 : decode cX6_flow 4 = .ok (.iload_n 2, 1) := by decide +kernel
theorem dX6_flow_5 : decode cX6_flow 5 = .ok (.invokevirtual 33, 3) := by decide +kernel
theorem dX6_flow_8 : decode cX6_flow 8 = .ok (.ireturn, 1) := by decide +kernel
set_option maxRecDepth 20000 in
theorem ggX6_lock_X0_record : GoodIn wsX6_lock wsX0_record := goodIn_r _ [7, 8, 9, 10, 11, 12, 13, 14, 15, 16, 17, 18, 19, 20, 21, 22, 23, 24, 25, 26, 27, 28, 29, 30, 31, 32, 33, 34, 35, 36, 37, 38, 39, 40, 41, 42, 43, 44, 45, 46, 47, 48, 49, 50, 51, 52, 53, 54, 55, 56, 57, 58, 59, 60, 61, 62, 63, 64, 65, 66, 67, 95, 96, 97, 98, 99, 100, 101, 102, 103, 104, 105, 106, 107, 108, 109, 110, 111, 112, 113, 114, 115, 116, 117, 118, 119, 120, 121, 122, 123, 124, 125, 126, 127, 128, 129] (by decide +kernel) (by decide +kernel)
set_option maxRecDepth 20000 in
theorem gX6_lock_X0_record : GoodIn wsX6_lock (wsV RX6 37 RX0 yX0_record wsX0_record) := goodIn_app (goodIn_of _ (by decide +kernel)) ggX6_lock_X0_record
set_option maxRecDepth 20000 in
theorem ggX6_lock_X5_putLock : GoodIn wsX6_lock wsX5_putLock := goodIn_r _ [71, 72, 73, 74, 75, 13, 76, 23, 15, 111, 112, 113, 114, 115, 116, 117, 118, 119, 120, 121, 122, 123, 124, 98, 99, 100, 101, 102, 103, 104, 105, 106, 107, 108, 109, 110] (by decide +kernel) (by decide +kernel)
set_option maxRecDepth 20000 in
theorem gX6_lock_X5_putLock : GoodIn wsX6_lock (wsV RX6 41 RX5 yX5_putLock wsX5_putLock) := goodIn_app (goodIn_of _ (by decide +kernel)) ggX6_lock_X5_putLock
set_option maxRecDepth 20000 in
theorem ggX6_lock_X6_kept : GoodIn wsX6_lock wsX6_kept := goodIn_r _ [81, 1, 82, 83, 84, 6, 85, 9, 86, 87, 88, 89, 90, 91, 92, 93, 94, 95, 96, 97] (by decide +kernel) (by decide +kernel)
set_option maxRecDepth 20000 in
theorem gX6_lock_X6_kept : GoodIn wsX6_lock (wsV RX6 45 RX6 yX6_kept wsX6_kept) := goodIn_app (goodIn_of _ (by decide +kernel)) ggX6_lock_X6_kept
theorem dX6_lock_0 : decode cX6_lock 0 = .ok (.aload_n 0, 1) := by decide +kernel
theorem dX6_lock_1 : decode cX6_lock 1 = .ok (.getfield 22, 3) := by decide +kernel
theorem dX6_lock_4 : decode cX6_lock 4 = .ok (.aload_n 0, 1) := by decide +kernel
theorem dX6_lock_5 : decode cX6_lock 5 = .ok (.getfield 10, 3) := by decide +kernel
theorem dX6_lock_8 : decode cX6_lock 8 = .ok (.invokevirtual 37, 3) := by decide +kernel
theorem dX6_lock_11 : decode cX6_lock 11 = .ok (.aload_n 0, 1) := by decide +kernel
theorem dX6_lock_12 : decode cX6_lock 12 = .ok (.aload_n 0, 1) := by decide +kernel
theorem dX6_lock_13 : decode cX6_lock 13 = .ok (.getfield 10, 3) := by decide +kernel
theorem dX6_lock_16 : decode cX6_lock 16 = .ok (.iload_n 1, 1) := by decide +kernel
theorem dX6_lock_17 : decode cX6_lock 17 = .ok (.iload_n 2, 1) := by decide +kernel
theorem dX6_lock_18 : decode cX6_lock 18 = .ok (.invokevirtual 41, 3) := by decide +kernel
theorem dX6_lock_21 : decode cX6_lock 21 = .ok (.invokevirtual 45, 3) := by decide +kernel
theorem dX6_lock_24 : decode cX6_lock 24 = .ok (.ireturn, 1) := by decide +kernel
set_option maxRecDepth 20000 in
theorem ggX6_read_X6_carryOut : GoodIn wsX6_read wsX6_carryOut := goodIn_r _ [5, 6, 7, 8, 9, 10, 11, 12, 13, 14, 15, 16, 17, 18, 19, 20, 21, 22, 23, 24, 25, 26, 27, 28, 29, 30, 31, 32, 33, 34, 35, 36, 37, 38, 39, 40, 41, 42, 43, 44, 45, 46, 47, 48, 49, 50, 51, 52, 53, 54, 55, 56, 57, 58, 59, 60, 61, 62, 63, 64, 65, 66, 67, 68, 69, 70, 71, 72, 73, 74, 75, 76, 77, 78, 79, 80, 81, 82, 83, 84, 85, 86, 87, 88, 4, 89, 90, 91, 92, 93, 94, 95, 96, 97, 98, 99, 100, 101, 102, 103, 104, 105, 106, 107, 108, 109, 110, 111, 112, 113, 114, 115, 116, 117, 118, 119, 120, 121, 122, 123, 124, 125, 126, 127, 128, 129, 130, 131, 132, 133, 134, 135, 136, 137, 138, 139, 140, 141, 142, 143, 144, 145, 146, 147, 148, 149, 150, 151, 152, 153, 154, 155, 156, 157, 158, 159, 160, 161, 162, 163, 164, 165, 166, 167, 168, 169, 170, 171, 172, 173, 174, 175, 176, 177, 178, 179, 180, 181, 182, 183, 184, 185, 186, 187, 188, 189, 190, 191, 192, 193, 194, 195, 196, 197, 198, 199, 200, 201, 202, 203, 204, 205, 206, 207, 208, 209, 210, 211, 212, 213, 214, 215, 216, 217, 218, 219, 220, 221, 222, 223] (by decide +kernel) (by decide +kernel)
set_option maxRecDepth 20000 in
theorem gX6_read_X6_carryOut : GoodIn wsX6_read (wsV RX6 33 RX6 yX6_carryOut wsX6_carryOut) := goodIn_app (goodIn_of _ (by decide +kernel)) ggX6_read_X6_carryOut
theorem dX6_read_0 : decode cX6_read 0 = .ok (.aload_n 0, 1) := by decide +kernel
theorem dX6_read_1 : decode cX6_read 1 = .ok (.bipush 114, 2) := by decide +kernel
theorem dX6_read_3 : decode cX6_read 3 = .ok (.iload_n 1, 1) := by decide +kernel
theorem dX6_read_4 : decode cX6_read 4 = .ok (.iconst 0, 1) := by decide +kernel
theorem dX6_read_5 : decode cX6_read 5 = .ok (.invokevirtual 33, 3) := by decide +kernel
theorem dX6_read_8 : decode cX6_read 8 = .ok (.ireturn, 1) := by decide +kernel
set_option maxRecDepth 20000 in
theorem ggX6_change_X6_carryOut : GoodIn wsX6_change wsX6_carryOut := goodIn_r _ [5, 6, 7, 8, 9, 10, 11, 12, 13, 14, 15, 16, 17, 18, 19, 20, 21, 22, 23, 24, 25, 26, 27, 28, 29, 30, 31, 32, 33, 34, 35, 36, 37, 38, 39, 40, 41, 42, 43, 44, 45, 46, 47, 48, 49, 50, 51, 52, 53, 54, 55, 56, 57, 58, 59, 60, 61, 62, 63, 64, 65, 66, 67, 68, 69, 70, 71, 72, 73, 74, 75, 76, 77, 78, 79, 80, 81, 82, 83, 84, 85, 86, 87, 88, 4, 89, 90, 91, 92, 93, 94, 95, 96, 97, 98, 99, 100, 101, 102, 103, 104, 105, 106, 107, 108, 109, 110, 111, 112, 113, 114, 115, 116, 117, 118, 119, 120, 121, 122, 123, 124, 125, 126, 127, 128, 129, 130, 131, 132, 133, 134, 135, 136, 137, 138, 139, 140, 141, 142, 143, 144, 145, 146, 147, 148, 149, 150, 151, 152, 153, 154, 155, 156, 157, 158, 159, 160, 161, 162, 163, 164, 165, 166, 167, 168, 169, 170, 171, 172, 173, 174, 175, 176, 177, 178, 179, 180, 181, 182, 183, 184, 185, 186, 187, 188, 189, 190, 191, 192, 193, 194, 195, 196, 197, 198, 199, 200, 201, 202, 203, 204, 205, 206, 207, 208, 209, 210, 211, 212, 213, 214, 215, 216, 217, 218, 219, 220, 221, 222, 223] (by decide +kernel) (by decide +kernel)
set_option maxRecDepth 20000 in
theorem gX6_change_X6_carryOut : GoodIn wsX6_change (wsV RX6 33 RX6 yX6_carryOut wsX6_carryOut) := goodIn_app (goodIn_of _ (by decide +kernel)) ggX6_change_X6_carryOut
theorem dX6_change_0 : decode cX6_change 0 = .ok (.aload_n 0, 1) := by decide +kernel
theorem dX6_change_1 : decode cX6_change 1 = .ok (.bipush 99, 2) := by decide +kernel
theorem dX6_change_3 : decode cX6_change 3 = .ok (.iload_n 1, 1) := by decide +kernel
theorem dX6_change_4 : decode cX6_change 4 = .ok (.iconst 0, 1) := by decide +kernel
theorem dX6_change_5 : decode cX6_change 5 = .ok (.invokevirtual 33, 3) := by decide +kernel
theorem dX6_change_8 : decode cX6_change 8 = .ok (.ireturn, 1) := by decide +kernel
set_option maxRecDepth 20000 in
theorem ggX6_days_X6_carryOut : GoodIn wsX6_days wsX6_carryOut := goodIn_r _ [5, 6, 7, 8, 9, 10, 11, 12, 13, 14, 15, 16, 17, 18, 19, 20, 21, 22, 23, 24, 25, 26, 27, 28, 29, 30, 31, 32, 33, 34, 35, 36, 37, 38, 39, 40, 41, 42, 43, 44, 45, 46, 47, 48, 49, 50, 51, 52, 53, 54, 55, 56, 57, 58, 59, 60, 61, 62, 63, 64, 65, 66, 67, 68, 69, 70, 71, 72, 73, 74, 75, 76, 77, 78, 79, 80, 81, 82, 83, 84, 85, 86, 87, 88, 4, 89, 90, 91, 92, 93, 94, 95, 96, 97, 98, 99, 100, 101, 102, 103, 104, 105, 106, 107, 108, 109, 110, 111, 112, 113, 114, 115, 116, 117, 118, 119, 120, 121, 122, 123, 124, 125, 126, 127, 128, 129, 130, 131, 132, 133, 134, 135, 136, 137, 138, 139, 140, 141, 142, 143, 144, 145, 146, 147, 148, 149, 150, 151, 152, 153, 154, 155, 156, 157, 158, 159, 160, 161, 162, 163, 164, 165, 166, 167, 168, 169, 170, 171, 172, 173, 174, 175, 176, 177, 178, 179, 180, 181, 182, 183, 184, 185, 186, 187, 188, 189, 190, 191, 192, 193, 194, 195, 196, 197, 198, 199, 200, 201, 202, 203, 204, 205, 206, 207, 208, 209, 210, 211, 212, 213, 214, 215, 216, 217, 218, 219, 220, 221, 222, 223] (by decide +kernel) (by decide +kernel)
set_option maxRecDepth 20000 in
theorem gX6_days_X6_carryOut : GoodIn wsX6_days (wsV RX6 33 RX6 yX6_carryOut wsX6_carryOut) := goodIn_app (goodIn_of _ (by decide +kernel)) ggX6_days_X6_carryOut
theorem dX6_days_0 : decode cX6_days 0 = .ok (.aload_n 0, 1) := by decide +kernel
theorem dX6_days_1 : decode cX6_days 1 = .ok (.bipush 100, 2) := by decide +kernel
theorem dX6_days_3 : decode cX6_days 3 = .ok (.iload_n 1, 1) := by decide +kernel
theorem dX6_days_4 : decode cX6_days 4 = .ok (.iconst 0, 1) := by decide +kernel
theorem dX6_days_5 : decode cX6_days 5 = .ok (.invokevirtual 33, 3) := by decide +kernel
theorem dX6_days_8 : decode cX6_days 8 = .ok (.ireturn, 1) := by decide +kernel
set_option maxRecDepth 20000 in
theorem ggX6_set_X0_record : GoodIn wsX6_set wsX0_record := goodIn_r _ [7, 8, 9, 10, 11, 12, 13, 14, 15, 16, 17, 18, 19, 20, 21, 22, 23, 24, 25, 26, 27, 28, 29, 30, 31, 32, 33, 34, 35, 36, 37, 38, 39, 40, 41, 42, 43, 44, 45, 46, 47, 48, 49, 50, 51, 52, 53, 54, 55, 56, 57, 58, 59, 60, 61, 62, 63, 64, 65, 66, 67, 91, 92, 93, 94, 95, 96, 97, 98, 99, 100, 101, 102, 103, 104, 105, 106, 107, 108, 109, 110, 111, 112, 113, 114, 115, 116, 117, 118, 119, 120, 121, 122, 123, 124, 125] (by decide +kernel) (by decide +kernel)
set_option maxRecDepth 20000 in
theorem gX6_set_X0_record : GoodIn wsX6_set (wsV RX6 37 RX0 yX0_record wsX0_record) := goodIn_app (goodIn_of _ (by decide +kernel)) ggX6_set_X0_record
set_option maxRecDepth 20000 in
theorem ggX6_set_X5_putSetting : GoodIn wsX6_set wsX5_putSetting := goodIn_r _ [71, 72, 18, 94, 95, 96, 97, 98, 99, 100, 101, 102, 103, 104, 105, 106] (by decide +kernel) (by decide +kernel)
set_option maxRecDepth 20000 in
theorem gX6_set_X5_putSetting : GoodIn wsX6_set (wsV RX6 49 RX5 yX5_putSetting wsX5_putSetting) := goodIn_app (goodIn_of _ (by decide +kernel)) ggX6_set_X5_putSetting
set_option maxRecDepth 20000 in
theorem ggX6_set_X6_kept : GoodIn wsX6_set wsX6_kept := goodIn_r _ [77, 1, 78, 79, 80, 6, 81, 9, 82, 83, 84, 85, 86, 87, 88, 89, 90, 91, 92, 93] (by decide +kernel) (by decide +kernel)
set_option maxRecDepth 20000 in
theorem gX6_set_X6_kept : GoodIn wsX6_set (wsV RX6 45 RX6 yX6_kept wsX6_kept) := goodIn_app (goodIn_of _ (by decide +kernel)) ggX6_set_X6_kept
theorem dX6_set_0 : decode cX6_set 0 = .ok (.aload_n 0, 1) := by decide +kernel
theorem dX6_set_1 : decode cX6_set 1 = .ok (.getfield 22, 3) := by decide +kernel
theorem dX6_set_4 : decode cX6_set 4 = .ok (.aload_n 0, 1) := by decide +kernel
theorem dX6_set_5 : decode cX6_set 5 = .ok (.getfield 10, 3) := by decide +kernel
theorem dX6_set_8 : decode cX6_set 8 = .ok (.invokevirtual 37, 3) := by decide +kernel
theorem dX6_set_11 : decode cX6_set 11 = .ok (.aload_n 0, 1) := by decide +kernel
theorem dX6_set_12 : decode cX6_set 12 = .ok (.aload_n 0, 1) := by decide +kernel
theorem dX6_set_13 : decode cX6_set 13 = .ok (.getfield 10, 3) := by decide +kernel
theorem dX6_set_16 : decode cX6_set 16 = .ok (.iload_n 1, 1) := by decide +kernel
theorem dX6_set_17 : decode cX6_set 17 = .ok (.iload_n 2, 1) := by decide +kernel
theorem dX6_set_18 : decode cX6_set 18 = .ok (.invokevirtual 49, 3) := by decide +kernel
theorem dX6_set_21 : decode cX6_set 21 = .ok (.invokevirtual 45, 3) := by decide +kernel
theorem dX6_set_24 : decode cX6_set 24 = .ok (.ireturn, 1) := by decide +kernel
set_option maxRecDepth 20000 in
theorem ggX6_houseOf_X5_houseNumbered : GoodIn wsX6_houseOf wsX5_houseNumbered := goodIn_r _ [7, 8, 9, 40, 41, 42, 43, 44, 45, 46, 47, 48, 49, 50, 51, 52] (by decide +kernel) (by decide +kernel)
set_option maxRecDepth 20000 in
theorem gX6_houseOf_X5_houseNumbered : GoodIn wsX6_houseOf (wsV RX6 53 RX5 yX5_houseNumbered wsX5_houseNumbered) := goodIn_app (goodIn_of _ (by decide +kernel)) ggX6_houseOf_X5_houseNumbered
set_option maxRecDepth 20000 in
theorem ggX6_houseOf_X1_fact : GoodIn wsX6_houseOf wsX1_fact := goodIn_r _ [14, 15, 16, 17, 18, 19, 20, 21, 22, 23, 24, 25, 26, 27, 28, 29, 30, 31, 32, 13, 33, 34, 35, 53, 54, 55, 56, 57, 58, 59, 60, 61, 62, 63, 64, 65, 66] (by decide +kernel) (by decide +kernel)
set_option maxRecDepth 20000 in
theorem gX6_houseOf_X1_fact : GoodIn wsX6_houseOf (wsV RX6 58 RX1 yX1_fact wsX1_fact) := goodIn_app (goodIn_of _ (by decide +kernel)) ggX6_houseOf_X1_fact
theorem dX6_houseOf_0 : decode cX6_houseOf 0 = .ok (.aload_n 0, 1) := by decide +kernel
theorem dX6_houseOf_1 : decode cX6_houseOf 1 = .ok (.getfield 10, 3) := by decide +kernel
theorem dX6_houseOf_4 : decode cX6_houseOf 4 = .ok (.iload_n 1, 1) := by decide +kernel
theorem dX6_houseOf_5 : decode cX6_houseOf 5 = .ok (.invokevirtual 53, 3) := by decide +kernel
theorem dX6_houseOf_8 : decode cX6_houseOf 8 = .ok (.astore_n 3, 1) := by decide +kernel
theorem dX6_houseOf_9 : decode cX6_houseOf 9 = .ok (.aload_n 3, 1) := by decide +kernel
theorem dX6_houseOf_10 : decode cX6_houseOf 10 = .ok (.ifnonnull 8, 3) := by decide +kernel
theorem dX6_houseOf_13 : decode cX6_houseOf 13 = .ok (.ldc 57, 2) := by decide +kernel
theorem dX6_houseOf_15 : decode cX6_houseOf 15 = .ok (.goto 8, 3) := by decide +kernel
theorem dX6_houseOf_18 : decode cX6_houseOf 18 = .ok (.aload_n 3, 1) := by decide +kernel
theorem dX6_houseOf_19 : decode cX6_houseOf 19 = .ok (.iload_n 2, 1) := by decide +kernel
theorem dX6_houseOf_20 : decode cX6_houseOf 20 = .ok (.invokevirtual 58, 3) := by decide +kernel
theorem dX6_houseOf_23 : decode cX6_houseOf 23 = .ok (.ireturn, 1) := by decide +kernel
set_option maxRecDepth 20000 in
theorem ggX6_at_X5_streetNumbered : GoodIn wsX6_at wsX5_streetNumbered := goodIn_r _ [8, 9, 27, 28, 29, 30, 31, 32, 33, 34, 35, 36, 37, 38, 39] (by decide +kernel) (by decide +kernel)
set_option maxRecDepth 20000 in
theorem gX6_at_X5_streetNumbered : GoodIn wsX6_at (wsV RX6 63 RX5 yX5_streetNumbered wsX5_streetNumbered) := goodIn_app (goodIn_of _ (by decide +kernel)) ggX6_at_X5_streetNumbered
set_option maxRecDepth 20000 in
theorem ggX6_at_X6_isPlace : GoodIn wsX6_at wsX6_isPlace := goodIn_r _ [13] (by decide +kernel) (by decide +kernel)
set_option maxRecDepth 20000 in
theorem gX6_at_X6_isPlace : GoodIn wsX6_at (va_wsS RX6 67 yX6_isPlace wsX6_isPlace) := goodIn_app (goodIn_of _ (by decide +kernel)) ggX6_at_X6_isPlace
set_option maxRecDepth 20000 in
theorem ggX6_at_X6_stepOf : GoodIn wsX6_at wsX6_stepOf := goodIn_r _ [16] (by decide +kernel) (by decide +kernel)
set_option maxRecDepth 20000 in
theorem gX6_at_X6_stepOf : GoodIn wsX6_at (va_wsS RX6 71 yX6_stepOf wsX6_stepOf) := goodIn_app (goodIn_of _ (by decide +kernel)) ggX6_at_X6_stepOf
set_option maxRecDepth 20000 in
theorem ggX6_at_X4_houseOn : GoodIn wsX6_at wsX4_houseOn := goodIn_r _ [21, 22, 40, 41] (by decide +kernel) (by decide +kernel)
set_option maxRecDepth 20000 in
theorem gX6_at_X4_houseOn : GoodIn wsX6_at (wsV RX6 74 RX4 yX4_houseOn wsX4_houseOn) := goodIn_app (goodIn_of _ (by decide +kernel)) ggX6_at_X4_houseOn
theorem dX6_at_0 : decode cX6_at 0 = .ok (.aload_n 0, 1) := by decide +kernel
theorem dX6_at_1 : decode cX6_at 1 = .ok (.getfield 10, 3) := by decide +kernel
theorem dX6_at_4 : decode cX6_at 4 = .ok (.iload_n 1, 1) := by decide +kernel
theorem dX6_at_5 : decode cX6_at 5 = .ok (.invokevirtual 63, 3) := by decide +kernel
theorem dX6_at_8 : decode cX6_at 8 = .ok (.astore_n 3, 1) := by decide +kernel
theorem dX6_at_9 : decode cX6_at 9 = .ok (.aload_n 3, 1) := by decide +kernel
theorem dX6_at_10 : decode cX6_at 10 = .ok (.ifnull 10, 3) := by decide +kernel
theorem dX6_at_13 : decode cX6_at 13 = .ok (.iload_n 2, 1) := by decide +kernel
theorem dX6_at_14 : decode cX6_at 14 = .ok (.invokestatic 67, 3) := by decide +kernel
theorem dX6_at_17 : decode cX6_at 17 = .ok (.ifCond .ne 6, 3) := by decide +kernel
theorem dX6_at_20 : decode cX6_at 20 = .ok (.ldc 57, 2) := by decide +kernel
theorem dX6_at_22 : decode cX6_at 22 = .ok (.ireturn, 1) := by decide +kernel
theorem dX6_at_23 : decode cX6_at 23 = .ok (.aload_n 3, 1) := by decide +kernel
theorem dX6_at_24 : decode cX6_at 24 = .ok (.iload_n 2, 1) := by decide +kernel
theorem dX6_at_25 : decode cX6_at 25 = .ok (.invokestatic 71, 3) := by decide +kernel
theorem dX6_at_28 : decode cX6_at 28 = .ok (.invokevirtual 74, 3) := by decide +kernel
theorem dX6_at_31 : decode cX6_at 31 = .ok (.istore 4, 2) := by decide +kernel
theorem dX6_at_33 : decode cX6_at 33 = .ok (.iload 4, 2) := by decide +kernel
theorem dX6_at_35 : decode cX6_at 35 = .ok (.iconst (-1), 1) := by decide +kernel
theorem dX6_at_36 : decode cX6_at 36 = .ok (.if_icmp .ne 8, 3) := by decide +kernel
theorem dX6_at_39 : decode cX6_at 39 = .ok (.ldc 79, 2) := by decide +kernel
theorem dX6_at_41 : decode cX6_at 41 = .ok (.goto 5, 3) := by decide +kernel
theorem dX6_at_44 : decode cX6_at 44 = .ok (.iload 4, 2) := by decide +kernel
theorem dX6_at_46 : decode cX6_at 46 = .ok (.ireturn, 1) := by decide +kernel
set_option maxRecDepth 20000 in
theorem ggX6_next_X5_streetNumbered : GoodIn wsX6_next wsX5_streetNumbered := goodIn_r _ [7, 8, 29, 30, 31, 32, 33, 34, 35, 36, 37, 38, 39, 40, 41] (by decide +kernel) (by decide +kernel)
set_option maxRecDepth 20000 in
theorem gX6_next_X5_streetNumbered : GoodIn wsX6_next (wsV RX6 63 RX5 yX5_streetNumbered wsX5_streetNumbered) := goodIn_app (goodIn_of _ (by decide +kernel)) ggX6_next_X5_streetNumbered
set_option maxRecDepth 20000 in
theorem ggX6_next_X4_houseRanked : GoodIn wsX6_next wsX4_houseRanked := goodIn_r _ [13, 14, 15, 16, 17, 12, 18, 19, 20, 21, 22, 23, 24, 42, 43] (by decide +kernel) (by decide +kernel)
set_option maxRecDepth 20000 in
theorem gX6_next_X4_houseRanked : GoodIn wsX6_next (wsV RX6 80 RX4 yX4_houseRanked wsX4_houseRanked) := goodIn_app (goodIn_of _ (by decide +kernel)) ggX6_next_X4_houseRanked
theorem dX6_next_0 : decode cX6_next 0 = .ok (.aload_n 0, 1) := by decide +kernel
theorem dX6_next_1 : decode cX6_next 1 = .ok (.getfield 10, 3) := by decide +kernel
theorem dX6_next_4 : decode cX6_next 4 = .ok (.iload_n 1, 1) := by decide +kernel
theorem dX6_next_5 : decode cX6_next 5 = .ok (.invokevirtual 63, 3) := by decide +kernel
theorem dX6_next_8 : decode cX6_next 8 = .ok (.astore_n 3, 1) := by decide +kernel
theorem dX6_next_9 : decode cX6_next 9 = .ok (.aload_n 3, 1) := by decide +kernel
theorem dX6_next_10 : decode cX6_next 10 = .ok (.ifnull 7, 3) := by decide +kernel
theorem dX6_next_13 : decode cX6_next 13 = .ok (.iload_n 2, 1) := by decide +kernel
theorem dX6_next_14 : decode cX6_next 14 = .ok (.ifCond .ge 6, 3) := by decide +kernel
theorem dX6_next_17 : decode cX6_next 17 = .ok (.ldc 57, 2) := by decide +kernel
theorem dX6_next_19 : decode cX6_next 19 = .ok (.ireturn, 1) := by decide +kernel
theorem dX6_next_20 : decode cX6_next 20 = .ok (.aload_n 3, 1) := by decide +kernel
theorem dX6_next_21 : decode cX6_next 21 = .ok (.iload_n 2, 1) := by decide +kernel
theorem dX6_next_22 : decode cX6_next 22 = .ok (.invokevirtual 80, 3) := by decide +kernel
theorem dX6_next_25 : decode cX6_next 25 = .ok (.ireturn, 1) := by decide +kernel
set_option maxRecDepth 20000 in
theorem ggX6_ledger_X2_entry : GoodIn wsX6_ledger wsX2_entry := goodIn_r _ [6, 7, 8, 9, 10, 11, 29, 30, 31] (by decide +kernel) (by decide +kernel)
set_option maxRecDepth 20000 in
theorem gX6_ledger_X2_entry : GoodIn wsX6_ledger (wsV RX6 87 RX2 yX2_entry wsX2_entry) := goodIn_app (goodIn_of _ (by decide +kernel)) ggX6_ledger_X2_entry
theorem dX6_ledger_0 : decode cX6_ledger 0 = .ok (.aload_n 0, 1) := by decide +kernel
theorem dX6_ledger_1 : decode cX6_ledger 1 = .ok (.getfield 10, 3) := by decide +kernel
theorem dX6_ledger_4 : decode cX6_ledger 4 = .ok (.getfield 83, 3) := by decide +kernel
theorem dX6_ledger_7 : decode cX6_ledger 7 = .ok (.iload_n 1, 1) := by decide +kernel
theorem dX6_ledger_8 : decode cX6_ledger 8 = .ok (.iload_n 2, 1) := by decide +kernel
theorem dX6_ledger_9 : decode cX6_ledger 9 = .ok (.invokevirtual 87, 3) := by decide +kernel
theorem dX6_ledger_12 : decode cX6_ledger 12 = .ok (.ireturn, 1) := by decide +kernel
set_option maxRecDepth 20000 in
theorem ggX6_why_X5_houseNumbered : GoodIn wsX6_why wsX5_houseNumbered := goodIn_r _ [7, 8, 9, 21, 22, 23, 24, 25, 26, 27, 28, 29, 30, 31, 32, 33] (by decide +kernel) (by decide +kernel)
set_option maxRecDepth 20000 in
theorem gX6_why_X5_houseNumbered : GoodIn wsX6_why (wsV RX6 53 RX5 yX5_houseNumbered wsX5_houseNumbered) := goodIn_app (goodIn_of _ (by decide +kernel)) ggX6_why_X5_houseNumbered
set_option maxRecDepth 20000 in
theorem ggX6_why_X1_reasonOn : GoodIn wsX6_why wsX1_reasonOn := goodIn_r _ [14, 15, 16, 34, 35, 36, 37, 38, 39, 40, 41, 42, 43, 44, 45, 46, 47] (by decide +kernel) (by decide +kernel)
set_option maxRecDepth 20000 in
theorem gX6_why_X1_reasonOn : GoodIn wsX6_why (wsV RX6 96 RX1 yX1_reasonOn wsX1_reasonOn) := goodIn_app (goodIn_of _ (by decide +kernel)) ggX6_why_X1_reasonOn
theorem dX6_why_0 : decode cX6_why 0 = .ok (.aload_n 0, 1) := by decide +kernel
theorem dX6_why_1 : decode cX6_why 1 = .ok (.getfield 10, 3) := by decide +kernel
theorem dX6_why_4 : decode cX6_why 4 = .ok (.iload_n 1, 1) := by decide +kernel
theorem dX6_why_5 : decode cX6_why 5 = .ok (.invokevirtual 53, 3) := by decide +kernel
theorem dX6_why_8 : decode cX6_why 8 = .ok (.astore_n 2, 1) := by decide +kernel
theorem dX6_why_9 : decode cX6_why 9 = .ok (.aload_n 2, 1) := by decide +kernel
theorem dX6_why_10 : decode cX6_why 10 = .ok (.ifnonnull 8, 3) := by decide +kernel
theorem dX6_why_13 : decode cX6_why 13 = .ok (.ldc 57, 2) := by decide +kernel
theorem dX6_why_15 : decode cX6_why 15 = .ok (.goto 14, 3) := by decide +kernel
theorem dX6_why_18 : decode cX6_why 18 = .ok (.aload_n 2, 1) := by decide +kernel
theorem dX6_why_19 : decode cX6_why 19 = .ok (.aload_n 0, 1) := by decide +kernel
theorem dX6_why_20 : decode cX6_why 20 = .ok (.getfield 10, 3) := by decide +kernel
theorem dX6_why_23 : decode cX6_why 23 = .ok (.getfield 92, 3) := by decide +kernel
theorem dX6_why_26 : decode cX6_why 26 = .ok (.invokevirtual 96, 3) := by decide +kernel
theorem dX6_why_29 : decode cX6_why 29 = .ok (.ireturn, 1) := by decide +kernel
set_option maxRecDepth 20000 in
theorem ggX6_ifRead_X5_houseNumbered : GoodIn wsX6_ifRead wsX5_houseNumbered := goodIn_r _ [7, 8, 9, 40, 41, 42, 43, 44, 45, 46, 47, 48, 49, 50, 51, 52] (by decide +kernel) (by decide +kernel)
set_option maxRecDepth 20000 in
theorem gX6_ifRead_X5_houseNumbered : GoodIn wsX6_ifRead (wsV RX6 53 RX5 yX5_houseNumbered wsX5_houseNumbered) := goodIn_app (goodIn_of _ (by decide +kernel)) ggX6_ifRead_X5_houseNumbered
set_option maxRecDepth 20000 in
theorem ggX6_ifRead_X1_used : GoodIn wsX6_ifRead wsX1_used := goodIn_r _ [14, 15, 16, 17, 26, 27, 28, 29, 30, 31, 32, 33, 34, 35, 36, 37, 38, 39] (by decide +kernel) (by decide +kernel)
set_option maxRecDepth 20000 in
theorem gX6_ifRead_X1_used : GoodIn wsX6_ifRead (wsV RX6 99 RX1 yX1_used wsX1_used) := goodIn_app (goodIn_of _ (by decide +kernel)) ggX6_ifRead_X1_used
set_option maxRecDepth 20000 in
theorem ggX6_ifRead_X6_unitsFor : GoodIn wsX6_ifRead wsX6_unitsFor := goodIn_r _ [21] (by decide +kernel) (by decide +kernel)
set_option maxRecDepth 20000 in
theorem gX6_ifRead_X6_unitsFor : GoodIn wsX6_ifRead (va_wsS RX6 106 yX6_unitsFor wsX6_unitsFor) := goodIn_app (goodIn_of _ (by decide +kernel)) ggX6_ifRead_X6_unitsFor
theorem dX6_ifRead_0 : decode cX6_ifRead 0 = .ok (.aload_n 0, 1) := by decide +kernel
theorem dX6_ifRead_1 : decode cX6_ifRead 1 = .ok (.getfield 10, 3) := by decide +kernel
theorem dX6_ifRead_4 : decode cX6_ifRead 4 = .ok (.iload_n 1, 1) := by decide +kernel
theorem dX6_ifRead_5 : decode cX6_ifRead 5 = .ok (.invokevirtual 53, 3) := by decide +kernel
theorem dX6_ifRead_8 : decode cX6_ifRead 8 = .ok (.astore_n 3, 1) := by decide +kernel
theorem dX6_ifRead_9 : decode cX6_ifRead 9 = .ok (.aload_n 3, 1) := by decide +kernel
theorem dX6_ifRead_10 : decode cX6_ifRead 10 = .ok (.ifnonnull 6, 3) := by decide +kernel
theorem dX6_ifRead_13 : decode cX6_ifRead 13 = .ok (.ldc 57, 2) := by decide +kernel
theorem dX6_ifRead_15 : decode cX6_ifRead 15 = .ok (.ireturn, 1) := by decide +kernel
theorem dX6_ifRead_16 : decode cX6_ifRead 16 = .ok (.aload_n 3, 1) := by decide +kernel
theorem dX6_ifRead_17 : decode cX6_ifRead 17 = .ok (.invokevirtual 99, 3) := by decide +kernel
theorem dX6_ifRead_20 : decode cX6_ifRead 20 = .ok (.istore 4, 2) := by decide +kernel
theorem dX6_ifRead_22 : decode cX6_ifRead 22 = .ok (.iload 4, 2) := by decide +kernel
theorem dX6_ifRead_24 : decode cX6_ifRead 24 = .ok (.aload_n 3, 1) := by decide +kernel
theorem dX6_ifRead_25 : decode cX6_ifRead 25 = .ok (.getfield 103, 3) := by decide +kernel
theorem dX6_ifRead_28 : decode cX6_ifRead 28 = .ok (.invokestatic 106, 3) := by decide +kernel
theorem dX6_ifRead_31 : decode cX6_ifRead 31 = .ok (.istore 5, 2) := by decide +kernel
theorem dX6_ifRead_33 : decode cX6_ifRead 33 = .ok (.aload_n 3, 1) := by decide +kernel
theorem dX6_ifRead_34 : decode cX6_ifRead 34 = .ok (.getfield 103, 3) := by decide +kernel
theorem dX6_ifRead_37 : decode cX6_ifRead 37 = .ok (.bipush 100, 2) := by decide +kernel
theorem dX6_ifRead_39 : decode cX6_ifRead 39 = .ok (.iload 5, 2) := by decide +kernel
theorem dX6_ifRead_41 : decode cX6_ifRead 41 = .ok (.imul, 1) := by decide +kernel
theorem dX6_ifRead_42 : decode cX6_ifRead 42 = .ok (.iadd, 1) := by decide +kernel
theorem dX6_ifRead_43 : decode cX6_ifRead 43 = .ok (.iload 4, 2) := by decide +kernel
theorem dX6_ifRead_45 : decode cX6_ifRead 45 = .ok (.isub, 1) := by decide +kernel
theorem dX6_ifRead_46 : decode cX6_ifRead 46 = .ok (.istore 6, 2) := by decide +kernel
theorem dX6_ifRead_48 : decode cX6_ifRead 48 = .ok (.iload_n 2, 1) := by decide +kernel
theorem dX6_ifRead_49 : decode cX6_ifRead 49 = .ok (.tableswitch 74 0 3 #[31, 34, 41, 61], 31) := by decide +kernel
theorem dX6_ifRead_80 : decode cX6_ifRead 80 = .ok (.iload 5, 2) := by decide +kernel
theorem dX6_ifRead_82 : decode cX6_ifRead 82 = .ok (.ireturn, 1) := by decide +kernel
theorem dX6_ifRead_83 : decode cX6_ifRead 83 = .ok (.sipush 1000, 3) := by decide +kernel
theorem dX6_ifRead_86 : decode cX6_ifRead 86 = .ok (.iload 6, 2) := by decide +kernel
theorem dX6_ifRead_88 : decode cX6_ifRead 88 = .ok (.iadd, 1) := by decide +kernel
theorem dX6_ifRead_89 : decode cX6_ifRead 89 = .ok (.ireturn, 1) := by decide +kernel
theorem dX6_ifRead_90 : decode cX6_ifRead 90 = .ok (.iload 6, 2) := by decide +kernel
theorem dX6_ifRead_92 : decode cX6_ifRead 92 = .ok (.ifCond .le 7, 3) := by decide +kernel
theorem dX6_ifRead_95 : decode cX6_ifRead 95 = .ok (.iconst 1, 1) := by decide +kernel
theorem dX6_ifRead_96 : decode cX6_ifRead 96 = .ok (.goto 13, 3) := by decide +kernel
theorem dX6_ifRead_99 : decode cX6_ifRead 99 = .ok (.iload 6, 2) := by decide +kernel
theorem dX6_ifRead_101 : decode cX6_ifRead 101 = .ok (.ifCond .ge 7, 3) := by decide +kernel
theorem dX6_ifRead_104 : decode cX6_ifRead 104 = .ok (.iconst 2, 1) := by decide +kernel
theorem dX6_ifRead_105 : decode cX6_ifRead 105 = .ok (.goto 4, 3) := by decide +kernel
theorem dX6_ifRead_108 : decode cX6_ifRead 108 = .ok (.iconst 0, 1) := by decide +kernel
theorem dX6_ifRead_109 : decode cX6_ifRead 109 = .ok (.ireturn, 1) := by decide +kernel
theorem dX6_ifRead_110 : decode cX6_ifRead 110 = .ok (.iload 5, 2) := by decide +kernel
theorem dX6_ifRead_112 : decode cX6_ifRead 112 = .ok (.aload_n 0, 1) := by decide +kernel
theorem dX6_ifRead_113 : decode cX6_ifRead 113 = .ok (.getfield 10, 3) := by decide +kernel
theorem dX6_ifRead_116 : decode cX6_ifRead 116 = .ok (.getfield 109, 3) := by decide +kernel
theorem dX6_ifRead_119 : decode cX6_ifRead 119 = .ok (.iconst 1, 1) := by decide +kernel
theorem dX6_ifRead_120 : decode cX6_ifRead 120 = .ok (.iaload, 1) := by decide +kernel
theorem dX6_ifRead_121 : decode cX6_ifRead 121 = .ok (.imul, 1) := by decide +kernel
theorem dX6_ifRead_122 : decode cX6_ifRead 122 = .ok (.ireturn, 1) := by decide +kernel
theorem dX6_ifRead_123 : decode cX6_ifRead 123 = .ok (.ldc 57, 2) := by decide +kernel
theorem dX6_ifRead_125 : decode cX6_ifRead 125 = .ok (.ireturn, 1) := by decide +kernel
set_option maxRecDepth 20000 in
theorem ggX6_wronged_X5_houseByBalance : GoodIn wsX6_wronged wsX5_houseByBalance := goodIn_r _ [7, 8, 9, 10, 11, 12, 13, 6, 14, 19, 20, 21, 22, 23, 24, 25, 26, 27, 28, 29, 30, 31, 32, 33, 34, 35, 36, 37, 38, 39, 40, 41, 42, 43, 44, 45] (by decide +kernel) (by decide +kernel)
set_option maxRecDepth 20000 in
theorem gX6_wronged_X5_houseByBalance : GoodIn wsX6_wronged (wsV RX6 113 RX5 yX5_houseByBalance wsX5_houseByBalance) := goodIn_app (goodIn_of _ (by decide +kernel)) ggX6_wronged_X5_houseByBalance
theorem dX6_wronged_0 : decode cX6_wronged 0 = .ok (.iload_n 1, 1) := by decide +kernel
theorem dX6_wronged_1 : decode cX6_wronged 1 = .ok (.ifCond .ge 8, 3) := by decide +kernel
theorem dX6_wronged_4 : decode cX6_wronged 4 = .ok (.ldc 57, 2) := by decide +kernel
theorem dX6_wronged_6 : decode cX6_wronged 6 = .ok (.goto 11, 3) := by decide +kernel
theorem dX6_wronged_9 : decode cX6_wronged 9 = .ok (.aload_n 0, 1) := by decide +kernel
theorem dX6_wronged_10 : decode cX6_wronged 10 = .ok (.getfield 10, 3) := by decide +kernel
theorem dX6_wronged_13 : decode cX6_wronged 13 = .ok (.iload_n 1, 1) := by decide +kernel
theorem dX6_wronged_14 : decode cX6_wronged 14 = .ok (.invokevirtual 113, 3) := by decide +kernel
theorem dX6_wronged_17 : decode cX6_wronged 17 = .ok (.ireturn, 1) := by decide +kernel
set_option maxRecDepth 20000 in
theorem ggX6_refundIn_X5_houseNumbered : GoodIn wsX6_refundIn wsX5_houseNumbered := goodIn_r _ [8, 9, 10, 129, 130, 131, 132, 133, 134, 135, 136, 137, 138, 139, 140, 141] (by decide +kernel) (by decide +kernel)
set_option maxRecDepth 20000 in
theorem gX6_refundIn_X5_houseNumbered : GoodIn wsX6_refundIn (wsV RX6 53 RX5 yX5_houseNumbered wsX5_houseNumbered) := goodIn_app (goodIn_of _ (by decide +kernel)) ggX6_refundIn_X5_houseNumbered
set_option maxRecDepth 20000 in
theorem ggX6_refundIn_X5_copyFrom : GoodIn wsX6_refundIn wsX5_copyFrom := goodIn_r _ [14, 10, 15, 16, 17, 18, 19, 20, 21, 9, 22, 23, 24, 25, 26, 27, 28, 29, 30, 31, 32, 33, 34, 35, 36, 37, 38, 39, 40, 41, 42, 43, 44, 45, 46, 47, 48, 49, 50, 51, 52, 53, 54, 55, 56, 57, 58, 59, 60, 61, 62, 63, 64, 65, 129, 130, 131, 132, 133, 134, 135, 136, 137, 138, 139, 140, 141, 142, 143, 144, 145, 146, 147, 148, 149, 150, 151, 152, 153, 154, 155, 156, 157, 158, 159, 160] (by decide +kernel) (by decide +kernel)
set_option maxRecDepth 20000 in
theorem gX6_refundIn_X5_copyFrom : GoodIn wsX6_refundIn (wsV RX6 116 RX5 yX5_copyFrom wsX5_copyFrom) := goodIn_app (goodIn_of _ (by decide +kernel)) ggX6_refundIn_X5_copyFrom
set_option maxRecDepth 20000 in
theorem ggX6_refundIn_X5_passUntilRefund : GoodIn wsX6_refundIn wsX5_passUntilRefund := goodIn_r _ [69, 70, 71, 72, 5, 6, 7, 8, 9, 10, 73, 74, 75, 76, 23, 22, 15, 17, 77, 78, 79, 33, 80, 37, 39, 81, 82, 83, 84, 85, 86, 87, 88, 52, 89, 56, 90, 91, 92, 93, 54, 94, 95, 96, 97, 40, 42, 98, 99, 100, 101, 16, 24, 25, 26, 102, 103, 104, 105, 38, 106, 107, 108, 109, 110, 111, 112, 41, 43, 44, 45, 46, 113, 114, 115, 60, 116, 64, 62, 65, 117, 118, 119, 120, 121, 122, 123, 124, 29, 27, 28, 142, 143, 144, 145, 146, 147, 148, 149, 150, 151, 152, 153, 154, 155, 129, 130, 131, 132, 133, 134, 135, 136, 137, 138, 139, 140, 141, 156, 157, 158, 159, 160] (by decide +kernel) (by decide +kernel)
set_option maxRecDepth 20000 in
theorem gX6_refundIn_X5_passUntilRefund : GoodIn wsX6_refundIn (wsV RX6 119 RX5 yX5_passUntilRefund wsX5_passUntilRefund) := goodIn_app (goodIn_of _ (by decide +kernel)) ggX6_refundIn_X5_passUntilRefund
theorem dX6_refundIn_0 : decode cX6_refundIn 0 = .ok (.aload_n 0, 1) := by decide +kernel
theorem dX6_refundIn_1 : decode cX6_refundIn 1 = .ok (.getfield 10, 3) := by decide +kernel
theorem dX6_refundIn_4 : decode cX6_refundIn 4 = .ok (.iload_n 1, 1) := by decide +kernel
theorem dX6_refundIn_5 : decode cX6_refundIn 5 = .ok (.invokevirtual 53, 3) := by decide +kernel
theorem dX6_refundIn_8 : decode cX6_refundIn 8 = .ok (.ifnonnull 6, 3) := by decide +kernel
theorem dX6_refundIn_11 : decode cX6_refundIn 11 = .ok (.ldc 57, 2) := by decide +kernel
theorem dX6_refundIn_13 : decode cX6_refundIn 13 = .ok (.ireturn, 1) := by decide +kernel
theorem dX6_refundIn_14 : decode cX6_refundIn 14 = .ok (.aload_n 0, 1) := by decide +kernel
theorem dX6_refundIn_15 : decode cX6_refundIn 15 = .ok (.getfield 16, 3) := by decide +kernel
theorem dX6_refundIn_18 : decode cX6_refundIn 18 = .ok (.aload_n 0, 1) := by decide +kernel
theorem dX6_refundIn_19 : decode cX6_refundIn 19 = .ok (.getfield 10, 3) := by decide +kernel
theorem dX6_refundIn_22 : decode cX6_refundIn 22 = .ok (.invokevirtual 116, 3) := by decide +kernel
theorem dX6_refundIn_25 : decode cX6_refundIn 25 = .ok (.aload_n 0, 1) := by decide +kernel
theorem dX6_refundIn_26 : decode cX6_refundIn 26 = .ok (.getfield 16, 3) := by decide +kernel
theorem dX6_refundIn_29 : decode cX6_refundIn 29 = .ok (.iload_n 1, 1) := by decide +kernel
theorem dX6_refundIn_30 : decode cX6_refundIn 30 = .ok (.invokevirtual 119, 3) := by decide +kernel
theorem dX6_refundIn_33 : decode cX6_refundIn 33 = .ok (.ireturn, 1) := by decide +kernel
set_option maxRecDepth 20000 in
theorem ggX6_ifDays_X5_copyFrom : GoodIn wsX6_ifDays wsX5_copyFrom := goodIn_r _ [8, 9, 10, 11, 12, 13, 14, 15, 16, 17, 18, 19, 20, 21, 22, 23, 24, 25, 26, 27, 28, 29, 30, 31, 32, 33, 34, 35, 36, 37, 38, 39, 40, 41, 42, 43, 44, 45, 46, 47, 48, 49, 50, 51, 52, 53, 54, 55, 56, 57, 58, 59, 60, 61, 122, 123, 124, 125, 126, 127, 128, 129, 130, 131, 132, 133, 134, 135, 136, 137, 138, 139, 140, 141, 142, 143, 144, 145, 146, 147, 148, 149, 150, 151, 152, 153] (by decide +kernel) (by decide +kernel)
set_option maxRecDepth 20000 in
theorem gX6_ifDays_X5_copyFrom : GoodIn wsX6_ifDays (wsV RX6 116 RX5 yX5_copyFrom wsX5_copyFrom) := goodIn_app (goodIn_of _ (by decide +kernel)) ggX6_ifDays_X5_copyFrom
set_option maxRecDepth 20000 in
theorem ggX6_ifDays_X5_passDays : GoodIn wsX6_ifDays wsX5_passDays := goodIn_r _ [65, 19, 9, 18, 10, 12, 66, 67, 68, 29, 69, 33, 35, 70, 71, 72, 73, 7, 74, 75, 76, 77, 48, 78, 52, 79, 80, 81, 82, 50, 83, 84, 85, 86, 17, 87, 88, 89, 90, 36, 38, 91, 92, 93, 94, 11, 20, 21, 22, 95, 96, 97, 98, 34, 99, 100, 101, 102, 103, 104, 105, 37, 39, 40, 41, 42, 106, 107, 108, 56, 109, 60, 58, 61, 110, 111, 112, 113, 114, 115, 116, 117, 25, 23, 24, 122, 123, 124, 125, 126, 127, 128, 129, 130, 131, 132, 133, 134, 135, 136, 137, 138, 139, 140, 141, 142, 143, 144, 145, 146, 147, 148, 149, 150, 151, 152, 153] (by decide +kernel) (by decide +kernel)
set_option maxRecDepth 20000 in
theorem gX6_ifDays_X5_passDays : GoodIn wsX6_ifDays (wsV RX6 122 RX5 yX5_passDays wsX5_passDays) := goodIn_app (goodIn_of _ (by decide +kernel)) ggX6_ifDays_X5_passDays
theorem dX6_ifDays_0 : decode cX6_ifDays 0 = .ok (.iload_n 1, 1) := by decide +kernel
theorem dX6_ifDays_1 : decode cX6_ifDays 1 = .ok (.iconst 1, 1) := by decide +kernel
theorem dX6_ifDays_2 : decode cX6_ifDays 2 = .ok (.if_icmp .lt 9, 3) := by decide +kernel
theorem dX6_ifDays_5 : decode cX6_ifDays 5 = .ok (.iload_n 1, 1) := by decide +kernel
theorem dX6_ifDays_6 : decode cX6_ifDays 6 = .ok (.bipush 99, 2) := by decide +kernel
theorem dX6_ifDays_8 : decode cX6_ifDays 8 = .ok (.if_icmp .le 6, 3) := by decide +kernel
theorem dX6_ifDays_11 : decode cX6_ifDays 11 = .ok (.ldc 57, 2) := by decide +kernel
theorem dX6_ifDays_13 : decode cX6_ifDays 13 = .ok (.ireturn, 1) := by decide +kernel
theorem dX6_ifDays_14 : decode cX6_ifDays 14 = .ok (.aload_n 0, 1) := by decide +kernel
theorem dX6_ifDays_15 : decode cX6_ifDays 15 = .ok (.getfield 16, 3) := by decide +kernel
theorem dX6_ifDays_18 : decode cX6_ifDays 18 = .ok (.aload_n 0, 1) := by decide +kernel
theorem dX6_ifDays_19 : decode cX6_ifDays 19 = .ok (.getfield 10, 3) := by decide +kernel
theorem dX6_ifDays_22 : decode cX6_ifDays 22 = .ok (.invokevirtual 116, 3) := by decide +kernel
theorem dX6_ifDays_25 : decode cX6_ifDays 25 = .ok (.aload_n 0, 1) := by decide +kernel
theorem dX6_ifDays_26 : decode cX6_ifDays 26 = .ok (.getfield 16, 3) := by decide +kernel
theorem dX6_ifDays_29 : decode cX6_ifDays 29 = .ok (.iload_n 1, 1) := by decide +kernel
theorem dX6_ifDays_30 : decode cX6_ifDays 30 = .ok (.invokevirtual 122, 3) := by decide +kernel
theorem dX6_ifDays_33 : decode cX6_ifDays 33 = .ok (.pop, 1) := by decide +kernel
theorem dX6_ifDays_34 : decode cX6_ifDays 34 = .ok (.iload_n 2, 1) := by decide +kernel
theorem dX6_ifDays_35 : decode cX6_ifDays 35 = .ok (.tableswitch 73 0 2 #[25, 41, 57], 25) := by decide +kernel
theorem dX6_ifDays_60 : decode cX6_ifDays 60 = .ok (.aload_n 0, 1) := by decide +kernel
theorem dX6_ifDays_61 : decode cX6_ifDays 61 = .ok (.getfield 16, 3) := by decide +kernel
theorem dX6_ifDays_64 : decode cX6_ifDays 64 = .ok (.getfield 125, 3) := by decide +kernel
theorem dX6_ifDays_67 : decode cX6_ifDays 67 = .ok (.aload_n 0, 1) := by decide +kernel
theorem dX6_ifDays_68 : decode cX6_ifDays 68 = .ok (.getfield 10, 3) := by decide +kernel
theorem dX6_ifDays_71 : decode cX6_ifDays 71 = .ok (.getfield 125, 3) := by decide +kernel
theorem dX6_ifDays_74 : decode cX6_ifDays 74 = .ok (.isub, 1) := by decide +kernel
theorem dX6_ifDays_75 : decode cX6_ifDays 75 = .ok (.ireturn, 1) := by decide +kernel
theorem dX6_ifDays_76 : decode cX6_ifDays 76 = .ok (.aload_n 0, 1) := by decide +kernel
theorem dX6_ifDays_77 : decode cX6_ifDays 77 = .ok (.getfield 16, 3) := by decide +kernel
theorem dX6_ifDays_80 : decode cX6_ifDays 80 = .ok (.getfield 128, 3) := by decide +kernel
theorem dX6_ifDays_83 : decode cX6_ifDays 83 = .ok (.aload_n 0, 1) := by decide +kernel
theorem dX6_ifDays_84 : decode cX6_ifDays 84 = .ok (.getfield 10, 3) := by decide +kernel
theorem dX6_ifDays_87 : decode cX6_ifDays 87 = .ok (.getfield 128, 3) := by decide +kernel
theorem dX6_ifDays_90 : decode cX6_ifDays 90 = .ok (.isub, 1) := by decide +kernel
theorem dX6_ifDays_91 : decode cX6_ifDays 91 = .ok (.ireturn, 1) := by decide +kernel
theorem dX6_ifDays_92 : decode cX6_ifDays 92 = .ok (.aload_n 0, 1) := by decide +kernel
theorem dX6_ifDays_93 : decode cX6_ifDays 93 = .ok (.getfield 16, 3) := by decide +kernel
theorem dX6_ifDays_96 : decode cX6_ifDays 96 = .ok (.getfield 131, 3) := by decide +kernel
theorem dX6_ifDays_99 : decode cX6_ifDays 99 = .ok (.aload_n 0, 1) := by decide +kernel
theorem dX6_ifDays_100 : decode cX6_ifDays 100 = .ok (.getfield 10, 3) := by decide +kernel
theorem dX6_ifDays_103 : decode cX6_ifDays 103 = .ok (.getfield 131, 3) := by decide +kernel
theorem dX6_ifDays_106 : decode cX6_ifDays 106 = .ok (.isub, 1) := by decide +kernel
theorem dX6_ifDays_107 : decode cX6_ifDays 107 = .ok (.ireturn, 1) := by decide +kernel
theorem dX6_ifDays_108 : decode cX6_ifDays 108 = .ok (.ldc 57, 2) := by decide +kernel
theorem dX6_ifDays_110 : decode cX6_ifDays 110 = .ok (.ireturn, 1) := by decide +kernel
set_option maxRecDepth 20000 in
theorem ggX6_mean_X5_balancesWithoutSigns : GoodIn wsX6_mean wsX5_balancesWithoutSigns := goodIn_r _ [7, 8, 9, 10, 11, 12, 23, 24, 25, 26, 27, 28, 29, 30, 31, 32, 33, 34, 35, 36, 37, 38, 39, 40, 41, 42, 43, 44, 45, 46, 47, 48, 49] (by decide +kernel) (by decide +kernel)
set_option maxRecDepth 20000 in
theorem gX6_mean_X5_balancesWithoutSigns : GoodIn wsX6_mean (wsV RX6 137 RX5 yX5_balancesWithoutSigns wsX5_balancesWithoutSigns) := goodIn_app (goodIn_of _ (by decide +kernel)) ggX6_mean_X5_balancesWithoutSigns
set_option maxRecDepth 20000 in
theorem ggX6_mean_X6_bitsOf : GoodIn wsX6_mean wsX6_bitsOf := goodIn_r _ [16, 17, 18] (by decide +kernel) (by decide +kernel)
set_option maxRecDepth 20000 in
theorem gX6_mean_X6_bitsOf : GoodIn wsX6_mean (va_wsS RX6 140 yX6_bitsOf wsX6_bitsOf) := goodIn_app (goodIn_of _ (by decide +kernel)) ggX6_mean_X6_bitsOf
theorem dX6_mean_0 : decode cX6_mean 0 = .ok (.aload_n 0, 1) := by decide +kernel
theorem dX6_mean_1 : decode cX6_mean 1 = .ok (.getfield 10, 3) := by decide +kernel
theorem dX6_mean_4 : decode cX6_mean 4 = .ok (.getfield 134, 3) := by decide +kernel
theorem dX6_mean_7 : decode cX6_mean 7 = .ok (.ifCond .gt 6, 3) := by decide +kernel
theorem dX6_mean_10 : decode cX6_mean 10 = .ok (.ldc 79, 2) := by decide +kernel
theorem dX6_mean_12 : decode cX6_mean 12 = .ok (.ireturn, 1) := by decide +kernel
theorem dX6_mean_13 : decode cX6_mean 13 = .ok (.aload_n 0, 1) := by decide +kernel
theorem dX6_mean_14 : decode cX6_mean 14 = .ok (.getfield 10, 3) := by decide +kernel
theorem dX6_mean_17 : decode cX6_mean 17 = .ok (.invokevirtual 137, 3) := by decide +kernel
theorem dX6_mean_20 : decode cX6_mean 20 = .ok (.i2f, 1) := by decide +kernel
theorem dX6_mean_21 : decode cX6_mean 21 = .ok (.aload_n 0, 1) := by decide +kernel
theorem dX6_mean_22 : decode cX6_mean 22 = .ok (.getfield 10, 3) := by decide +kernel
theorem dX6_mean_25 : decode cX6_mean 25 = .ok (.getfield 134, 3) := by decide +kernel
theorem dX6_mean_28 : decode cX6_mean 28 = .ok (.i2f, 1) := by decide +kernel
theorem dX6_mean_29 : decode cX6_mean 29 = .ok (.fdiv, 1) := by decide +kernel
theorem dX6_mean_30 : decode cX6_mean 30 = .ok (.invokestatic 140, 3) := by decide +kernel
theorem dX6_mean_33 : decode cX6_mean 33 = .ok (.ireturn, 1) := by decide +kernel
set_option maxRecDepth 20000 in
theorem ggX6_count_X5_number : GoodIn wsX6_count wsX5_number := goodIn_r _ [8, 9, 10, 11, 12, 13, 14, 15, 16, 17, 18, 19, 20, 21, 22, 23, 7, 24, 25, 26, 27, 28, 29, 30, 31, 32, 33, 51, 52, 53, 54, 55, 56, 57, 58, 59, 60, 61, 62, 63, 64, 65, 66, 67, 68, 69, 70, 71, 72, 73, 74, 75, 76, 77, 78, 79, 80] (by decide +kernel) (by decide +kernel)
set_option maxRecDepth 20000 in
theorem gX6_count_X5_number : GoodIn wsX6_count (wsV RX6 150 RX5 yX5_number wsX5_number) := goodIn_app (goodIn_of _ (by decide +kernel)) ggX6_count_X5_number
theorem dX6_count_0 : decode cX6_count 0 = .ok (.iload_n 1, 1) := by decide +kernel
theorem dX6_count_1 : decode cX6_count 1 = .ok (.lookupswitch 43 #[(15, 27), (16, 35)], 27) := by decide +kernel
theorem dX6_count_28 : decode cX6_count 28 = .ok (.aload_n 0, 1) := by decide +kernel
theorem dX6_count_29 : decode cX6_count 29 = .ok (.getfield 22, 3) := by decide +kernel
theorem dX6_count_32 : decode cX6_count 32 = .ok (.getfield 144, 3) := by decide +kernel
theorem dX6_count_35 : decode cX6_count 35 = .ok (.ireturn, 1) := by decide +kernel
theorem dX6_count_36 : decode cX6_count 36 = .ok (.aload_n 0, 1) := by decide +kernel
theorem dX6_count_37 : decode cX6_count 37 = .ok (.getfield 29, 3) := by decide +kernel
theorem dX6_count_40 : decode cX6_count 40 = .ok (.getfield 147, 3) := by decide +kernel
theorem dX6_count_43 : decode cX6_count 43 = .ok (.ireturn, 1) := by decide +kernel
theorem dX6_count_44 : decode cX6_count 44 = .ok (.aload_n 0, 1) := by decide +kernel
theorem dX6_count_45 : decode cX6_count 45 = .ok (.getfield 10, 3) := by decide +kernel
theorem dX6_count_48 : decode cX6_count 48 = .ok (.iload_n 1, 1) := by decide +kernel
theorem dX6_count_49 : decode cX6_count 49 = .ok (.invokevirtual 150, 3) := by decide +kernel
theorem dX6_count_52 : decode cX6_count 52 = .ok (.ireturn, 1) := by decide +kernel
set_option maxRecDepth 20000 in
theorem ggX6_undo_X0_restore : GoodIn wsX6_undo wsX0_restore := goodIn_r _ [7, 8, 9, 10, 11, 12, 13, 14, 15, 16, 17, 18, 19, 20, 21, 22, 23, 24, 25, 26, 27, 28, 29, 30, 31, 32, 33, 34, 35, 36, 37, 38, 39, 40, 41, 42, 43, 44, 45, 46, 47, 48, 49, 50, 51, 52, 53, 54, 55, 56, 57, 58, 59, 60, 61, 62, 63, 64, 65, 66, 67, 68, 69, 74, 75, 76, 77, 78, 79, 80, 81, 82, 83, 84, 85, 86, 87, 88, 89, 90, 91, 92, 93, 94, 95, 96, 97, 98, 99, 100, 101, 102, 103, 104, 105, 106, 107, 108] (by decide +kernel) (by decide +kernel)
set_option maxRecDepth 20000 in
theorem gX6_undo_X0_restore : GoodIn wsX6_undo (wsV RX6 153 RX0 yX0_restore wsX0_restore) := goodIn_app (goodIn_of _ (by decide +kernel)) ggX6_undo_X0_restore
theorem dX6_undo_0 : decode cX6_undo 0 = .ok (.aload_n 0, 1) := by decide +kernel
theorem dX6_undo_1 : decode cX6_undo 1 = .ok (.getfield 22, 3) := by decide +kernel
theorem dX6_undo_4 : decode cX6_undo 4 = .ok (.aload_n 0, 1) := by decide +kernel
theorem dX6_undo_5 : decode cX6_undo 5 = .ok (.getfield 10, 3) := by decide +kernel
theorem dX6_undo_8 : decode cX6_undo 8 = .ok (.invokevirtual 153, 3) := by decide +kernel
theorem dX6_undo_11 : decode cX6_undo 11 = .ok (.ireturn, 1) := by decide +kernel
set_option maxRecDepth 20000 in
theorem ggX6_type_X3_append : GoodIn wsX6_type wsX3_append := goodIn_r _ [6, 7, 8, 9, 10, 15, 16, 17, 18, 19, 20, 21, 22, 23, 24] (by decide +kernel) (by decide +kernel)
set_option maxRecDepth 20000 in
theorem gX6_type_X3_append : GoodIn wsX6_type (wsV RX6 157 RX3 yX3_append wsX3_append) := goodIn_app (goodIn_of _ (by decide +kernel)) ggX6_type_X3_append
theorem dX6_type_0 : decode cX6_type 0 = .ok (.aload_n 0, 1) := by decide +kernel
theorem dX6_type_1 : decode cX6_type 1 = .ok (.getfield 29, 3) := by decide +kernel
theorem dX6_type_4 : decode cX6_type 4 = .ok (.iload_n 1, 1) := by decide +kernel
theorem dX6_type_5 : decode cX6_type 5 = .ok (.invokevirtual 157, 3) := by decide +kernel
theorem dX6_type_8 : decode cX6_type 8 = .ok (.ireturn, 1) := by decide +kernel
set_option maxRecDepth 20000 in
theorem ggX6_clearText_X3_empty : GoodIn wsX6_clearText wsX3_empty := goodIn_r _ [6, 7, 12, 13, 14, 15, 16, 17, 18, 19, 20, 21] (by decide +kernel) (by decide +kernel)
set_option maxRecDepth 20000 in
theorem gX6_clearText_X3_empty : GoodIn wsX6_clearText (wsV RX6 160 RX3 yX3_empty wsX3_empty) := goodIn_app (goodIn_of _ (by decide +kernel)) ggX6_clearText_X3_empty
theorem dX6_clearText_0 : decode cX6_clearText 0 = .ok (.aload_n 0, 1) := by decide +kernel
theorem dX6_clearText_1 : decode cX6_clearText 1 = .ok (.getfield 29, 3) := by decide +kernel
theorem dX6_clearText_4 : decode cX6_clearText 4 = .ok (.invokevirtual 160, 3) := by decide +kernel
theorem dX6_clearText_7 : decode cX6_clearText 7 = .ok (.ireturn, 1) := by decide +kernel
set_option maxRecDepth 20000 in
theorem ggX6_fault_X5_copyFrom : GoodIn wsX6_fault wsX5_copyFrom := goodIn_r _ [9, 10, 11, 12, 13, 14, 15, 16, 17, 18, 19, 20, 21, 22, 23, 24, 25, 26, 27, 28, 29, 30, 31, 32, 33, 34, 35, 36, 37, 38, 39, 40, 41, 42, 43, 44, 45, 46, 47, 48, 49, 50, 51, 52, 53, 54, 55, 56, 57, 58, 59, 60, 61, 62, 215, 216, 217, 218, 219, 220, 221, 222, 223, 224, 225, 226, 227, 228, 229, 230, 231, 232, 233, 234, 235, 236, 237, 238, 239, 240, 241, 242, 243, 244, 245, 246] (by decide +kernel) (by decide +kernel)
set_option maxRecDepth 20000 in
theorem gX6_fault_X5_copyFrom : GoodIn wsX6_fault (wsV RX6 116 RX5 yX5_copyFrom wsX5_copyFrom) := goodIn_app (goodIn_of _ (by decide +kernel)) ggX6_fault_X5_copyFrom
set_option maxRecDepth 20000 in
theorem ggX6_fault_X3_doAllIn : GoodIn wsX6_fault wsX3_doAllIn := goodIn_r _ [67, 68, 69, 70, 71, 72, 73, 74, 75, 76, 77, 78, 79, 66, 80, 81, 82, 83, 84, 85, 86, 87, 88, 89, 90, 91, 92, 93, 94, 95, 96, 97, 98, 99, 100, 101, 102, 103, 104, 105, 106, 8, 107, 108, 19, 109, 110, 111, 112, 113, 114, 18, 10, 115, 116, 117, 118, 11, 119, 120, 121, 122, 123, 124, 125, 126, 49, 127, 51, 128, 129, 130, 131, 132, 133, 134, 135, 136, 137, 138, 139, 140, 141, 142, 143, 144, 145, 146, 147, 148, 149, 150, 151, 152, 153, 154, 30, 155, 37, 39, 156, 157, 158, 159, 12, 20, 21, 22, 13, 23, 160, 161, 162, 163, 34, 35, 164, 165, 166, 167, 168, 169, 170, 38, 40, 41, 42, 43, 171, 172, 173, 57, 174, 61, 59, 62, 175, 176, 177, 178, 179, 180, 181, 182, 183, 184, 185, 45, 186, 187, 188, 189, 190, 191, 192, 193, 36, 194, 195, 196, 197, 198, 199, 200, 201, 53, 202, 203, 204, 205, 26, 24, 25, 247, 248, 249, 250, 251, 252, 253, 254, 255, 256, 215, 216, 217, 218, 219, 220, 221, 222, 223, 224, 225, 226, 227, 228, 229, 230, 231, 232, 233, 234, 235, 236, 237, 238, 239, 240, 241, 242, 243, 244, 245, 246] (by decide +kernel) (by decide +kernel)
set_option maxRecDepth 20000 in
theorem gX6_fault_X3_doAllIn : GoodIn wsX6_fault (wsV RX6 163 RX3 yX3_doAllIn wsX3_doAllIn) := goodIn_app (goodIn_of _ (by decide +kernel)) ggX6_fault_X3_doAllIn
set_option maxRecDepth 20000 in
theorem ggX6_fault_X3_faultFact : GoodIn wsX6_fault wsX3_faultFact := goodIn_r _ [209, 69, 210, 73, 70, 247, 248, 249, 250, 251, 252, 253, 254, 255, 256] (by decide +kernel) (by decide +kernel)
set_option maxRecDepth 20000 in
theorem gX6_fault_X3_faultFact : GoodIn wsX6_fault (wsV RX6 166 RX3 yX3_faultFact wsX3_faultFact) := goodIn_app (goodIn_of _ (by decide +kernel)) ggX6_fault_X3_faultFact
theorem dX6_fault_0 : decode cX6_fault 0 = .ok (.iload_n 1, 1) := by decide +kernel
theorem dX6_fault_1 : decode cX6_fault 1 = .ok (.ifCond .lt 8, 3) := by decide +kernel
theorem dX6_fault_4 : decode cX6_fault 4 = .ok (.iload_n 1, 1) := by decide +kernel
theorem dX6_fault_5 : decode cX6_fault 5 = .ok (.iconst 2, 1) := by decide +kernel
theorem dX6_fault_6 : decode cX6_fault 6 = .ok (.if_icmp .le 6, 3) := by decide +kernel
theorem dX6_fault_9 : decode cX6_fault 9 = .ok (.ldc 57, 2) := by decide +kernel
theorem dX6_fault_11 : decode cX6_fault 11 = .ok (.ireturn, 1) := by decide +kernel
theorem dX6_fault_12 : decode cX6_fault 12 = .ok (.aload_n 0, 1) := by decide +kernel
theorem dX6_fault_13 : decode cX6_fault 13 = .ok (.getfield 16, 3) := by decide +kernel
theorem dX6_fault_16 : decode cX6_fault 16 = .ok (.aload_n 0, 1) := by decide +kernel
theorem dX6_fault_17 : decode cX6_fault 17 = .ok (.getfield 10, 3) := by decide +kernel
theorem dX6_fault_20 : decode cX6_fault 20 = .ok (.invokevirtual 116, 3) := by decide +kernel
theorem dX6_fault_23 : decode cX6_fault 23 = .ok (.aload_n 0, 1) := by decide +kernel
theorem dX6_fault_24 : decode cX6_fault 24 = .ok (.getfield 29, 3) := by decide +kernel
theorem dX6_fault_27 : decode cX6_fault 27 = .ok (.aload_n 0, 1) := by decide +kernel
theorem dX6_fault_28 : decode cX6_fault 28 = .ok (.getfield 16, 3) := by decide +kernel
theorem dX6_fault_31 : decode cX6_fault 31 = .ok (.invokevirtual 163, 3) := by decide +kernel
theorem dX6_fault_34 : decode cX6_fault 34 = .ok (.aload_n 0, 1) := by decide +kernel
theorem dX6_fault_35 : decode cX6_fault 35 = .ok (.getfield 29, 3) := by decide +kernel
theorem dX6_fault_38 : decode cX6_fault 38 = .ok (.iload_n 1, 1) := by decide +kernel
theorem dX6_fault_39 : decode cX6_fault 39 = .ok (.invokevirtual 166, 3) := by decide +kernel
theorem dX6_fault_42 : decode cX6_fault 42 = .ok (.ireturn, 1) := by decide +kernel
set_option maxRecDepth 20000 in
theorem ggX6_play_X5_copyFrom : GoodIn wsX6_play wsX5_copyFrom := goodIn_r _ [10, 11, 12, 13, 14, 15, 16, 17, 18, 19, 20, 21, 22, 23, 24, 25, 26, 27, 28, 29, 30, 31, 32, 33, 34, 35, 36, 37, 38, 39, 40, 41, 42, 43, 44, 45, 46, 47, 48, 49, 50, 51, 52, 53, 54, 55, 56, 57, 58, 59, 60, 61, 62, 63, 239, 240, 241, 242, 243, 244, 245, 246, 247, 248, 249, 250, 251, 252, 253, 254, 255, 256, 257, 258, 259, 260, 261, 262, 263, 264, 265, 266, 267, 268, 269, 270] (by decide +kernel) (by decide +kernel)
set_option maxRecDepth 20000 in
theorem gX6_play_X5_copyFrom : GoodIn wsX6_play (wsV RX6 116 RX5 yX5_copyFrom wsX5_copyFrom) := goodIn_app (goodIn_of _ (by decide +kernel)) ggX6_play_X5_copyFrom
set_option maxRecDepth 20000 in
theorem ggX6_play_X3_doAllIn : GoodIn wsX6_play wsX3_doAllIn := goodIn_r _ [68, 69, 70, 71, 72, 73, 74, 75, 76, 77, 78, 79, 80, 67, 81, 82, 83, 84, 85, 86, 87, 88, 89, 90, 91, 92, 93, 94, 95, 96, 97, 98, 99, 100, 101, 102, 103, 104, 105, 106, 107, 9, 108, 109, 20, 110, 111, 112, 113, 114, 115, 19, 11, 116, 117, 118, 119, 12, 120, 121, 122, 123, 124, 125, 126, 127, 50, 128, 52, 129, 130, 131, 132, 133, 134, 135, 136, 137, 138, 139, 140, 141, 142, 143, 144, 145, 146, 147, 148, 149, 150, 151, 152, 153, 154, 155, 31, 156, 38, 40, 157, 158, 159, 160, 13, 21, 22, 23, 14, 24, 161, 162, 163, 164, 35, 36, 165, 166, 167, 168, 169, 170, 171, 39, 41, 42, 43, 44, 172, 173, 174, 58, 175, 62, 60, 63, 176, 177, 178, 179, 180, 181, 182, 183, 184, 185, 186, 46, 187, 188, 189, 190, 191, 192, 193, 194, 37, 195, 196, 197, 198, 199, 200, 201, 202, 54, 203, 204, 205, 206, 27, 25, 26, 229, 230, 231, 232, 233, 234, 235, 236, 237, 238, 239, 240, 241, 242, 243, 244, 245, 246, 247, 248, 249, 250, 251, 252, 253, 254, 255, 256, 257, 258, 259, 260, 261, 262, 263, 264, 265, 266, 267, 268, 269, 270] (by decide +kernel) (by decide +kernel)
set_option maxRecDepth 20000 in
theorem gX6_play_X3_doAllIn : GoodIn wsX6_play (wsV RX6 163 RX3 yX3_doAllIn wsX3_doAllIn) := goodIn_app (goodIn_of _ (by decide +kernel)) ggX6_play_X3_doAllIn
set_option maxRecDepth 20000 in
theorem ggX6_play_X0_record : GoodIn wsX6_play wsX0_record := goodIn_r _ [211, 212, 213, 214, 7, 8, 9, 10, 11, 12, 13, 14, 15, 16, 17, 18, 19, 20, 21, 22, 23, 24, 25, 26, 27, 28, 29, 30, 31, 32, 33, 34, 35, 36, 37, 38, 39, 40, 41, 42, 43, 44, 45, 46, 47, 48, 49, 50, 51, 52, 53, 54, 55, 56, 57, 58, 59, 60, 61, 62, 63, 271, 272, 273, 239, 240, 241, 242, 243, 244, 245, 246, 247, 248, 249, 250, 251, 252, 253, 254, 255, 256, 257, 258, 259, 260, 261, 262, 263, 264, 265, 266, 267, 268, 269, 270] (by decide +kernel) (by decide +kernel)
set_option maxRecDepth 20000 in
theorem gX6_play_X0_record : GoodIn wsX6_play (wsV RX6 37 RX0 yX0_record wsX0_record) := goodIn_app (goodIn_of _ (by decide +kernel)) ggX6_play_X0_record
set_option maxRecDepth 20000 in
theorem ggX6_play_X6_kept : GoodIn wsX6_play wsX6_kept := goodIn_r _ [218, 5, 219, 220, 221, 210, 222, 213, 223, 224, 177, 96, 178, 225, 226, 227, 228, 271, 272, 273] (by decide +kernel) (by decide +kernel)
set_option maxRecDepth 20000 in
theorem gX6_play_X6_kept : GoodIn wsX6_play (wsV RX6 45 RX6 yX6_kept wsX6_kept) := goodIn_app (goodIn_of _ (by decide +kernel)) ggX6_play_X6_kept
theorem dX6_play_0 : decode cX6_play 0 = .ok (.aload_n 0, 1) := by decide +kernel
theorem dX6_play_1 : decode cX6_play 1 = .ok (.getfield 16, 3) := by decide +kernel
theorem dX6_play_4 : decode cX6_play 4 = .ok (.aload_n 0, 1) := by decide +kernel
theorem dX6_play_5 : decode cX6_play 5 = .ok (.getfield 10, 3) := by decide +kernel
theorem dX6_play_8 : decode cX6_play 8 = .ok (.invokevirtual 116, 3) := by decide +kernel
theorem dX6_play_11 : decode cX6_play 11 = .ok (.aload_n 0, 1) := by decide +kernel
theorem dX6_play_12 : decode cX6_play 12 = .ok (.getfield 29, 3) := by decide +kernel
theorem dX6_play_15 : decode cX6_play 15 = .ok (.aload_n 0, 1) := by decide +kernel
theorem dX6_play_16 : decode cX6_play 16 = .ok (.getfield 16, 3) := by decide +kernel
theorem dX6_play_19 : decode cX6_play 19 = .ok (.invokevirtual 163, 3) := by decide +kernel
theorem dX6_play_22 : decode cX6_play 22 = .ok (.aload_n 0, 1) := by decide +kernel
theorem dX6_play_23 : decode cX6_play 23 = .ok (.getfield 29, 3) := by decide +kernel
theorem dX6_play_26 : decode cX6_play 26 = .ok (.getfield 169, 3) := by decide +kernel
theorem dX6_play_29 : decode cX6_play 29 = .ok (.ifCond .eq 6, 3) := by decide +kernel
theorem dX6_play_32 : decode cX6_play 32 = .ok (.ldc 172, 2) := by decide +kernel
theorem dX6_play_34 : decode cX6_play 34 = .ok (.ireturn, 1) := by decide +kernel
theorem dX6_play_35 : decode cX6_play 35 = .ok (.aload_n 0, 1) := by decide +kernel
theorem dX6_play_36 : decode cX6_play 36 = .ok (.getfield 22, 3) := by decide +kernel
theorem dX6_play_39 : decode cX6_play 39 = .ok (.aload_n 0, 1) := by decide +kernel
theorem dX6_play_40 : decode cX6_play 40 = .ok (.getfield 10, 3) := by decide +kernel
theorem dX6_play_43 : decode cX6_play 43 = .ok (.invokevirtual 37, 3) := by decide +kernel
theorem dX6_play_46 : decode cX6_play 46 = .ok (.aload_n 0, 1) := by decide +kernel
theorem dX6_play_47 : decode cX6_play 47 = .ok (.getfield 10, 3) := by decide +kernel
theorem dX6_play_50 : decode cX6_play 50 = .ok (.aload_n 0, 1) := by decide +kernel
theorem dX6_play_51 : decode cX6_play 51 = .ok (.getfield 16, 3) := by decide +kernel
theorem dX6_play_54 : decode cX6_play 54 = .ok (.invokevirtual 116, 3) := by decide +kernel
theorem dX6_play_57 : decode cX6_play 57 = .ok (.aload_n 0, 1) := by decide +kernel
theorem dX6_play_58 : decode cX6_play 58 = .ok (.aload_n 0, 1) := by decide +kernel
theorem dX6_play_59 : decode cX6_play 59 = .ok (.getfield 29, 3) := by decide +kernel
theorem dX6_play_62 : decode cX6_play 62 = .ok (.getfield 173, 3) := by decide +kernel
theorem dX6_play_65 : decode cX6_play 65 = .ok (.invokevirtual 45, 3) := by decide +kernel
theorem dX6_play_68 : decode cX6_play 68 = .ok (.ireturn, 1) := by decide +kernel
set_option maxRecDepth 20000 in
theorem ggX6_carryOut_X0_record : GoodIn wsX6_carryOut wsX0_record := goodIn_r _ [7, 8, 9, 10, 11, 12, 13, 14, 15, 16, 17, 18, 19, 20, 21, 22, 23, 24, 25, 26, 27, 28, 29, 30, 31, 32, 33, 34, 35, 36, 37, 38, 39, 40, 41, 42, 43, 44, 45, 46, 47, 48, 49, 50, 51, 52, 53, 54, 55, 56, 57, 58, 59, 60, 61, 62, 63, 64, 65, 66, 67, 185, 186, 187, 188, 189, 190, 191, 192, 193, 194, 195, 196, 197, 198, 199, 200, 201, 202, 203, 204, 205, 206, 207, 208, 209, 210, 211, 212, 213, 214, 215, 216, 217, 218, 219] (by decide +kernel) (by decide +kernel)
set_option maxRecDepth 20000 in
theorem gX6_carryOut_X0_record : GoodIn wsX6_carryOut (wsV RX6 37 RX0 yX0_record wsX0_record) := goodIn_app (goodIn_of _ (by decide +kernel)) ggX6_carryOut_X0_record
set_option maxRecDepth 20000 in
theorem ggX6_carryOut_X5_obey : GoodIn wsX6_carryOut wsX5_obey := goodIn_r _ [71, 72, 24, 73, 74, 75, 76, 13, 77, 78, 23, 15, 79, 80, 81, 82, 16, 83, 84, 85, 86, 87, 88, 89, 90, 54, 91, 56, 92, 93, 94, 95, 96, 97, 98, 99, 100, 101, 102, 103, 104, 105, 106, 107, 108, 109, 110, 111, 112, 113, 114, 115, 116, 117, 118, 35, 119, 42, 44, 120, 121, 122, 123, 17, 25, 26, 27, 18, 28, 124, 125, 126, 127, 39, 40, 128, 129, 130, 131, 132, 133, 134, 43, 45, 46, 47, 48, 135, 136, 137, 62, 138, 66, 64, 67, 139, 140, 141, 142, 143, 144, 145, 146, 147, 148, 149, 150, 50, 151, 152, 153, 154, 155, 156, 157, 158, 41, 159, 160, 161, 162, 163, 164, 165, 166, 58, 167, 168, 169, 170, 31, 29, 30, 188, 189, 190, 191, 192, 193, 194, 195, 196, 197, 198, 199, 200, 201, 202, 203, 204, 205, 206, 207, 208, 209, 210, 211, 212, 213, 214, 215, 216, 217, 218, 219] (by decide +kernel) (by decide +kernel)
set_option maxRecDepth 20000 in
theorem gX6_carryOut_X5_obey : GoodIn wsX6_carryOut (wsV RX6 176 RX5 yX5_obey wsX5_obey) := goodIn_app (goodIn_of _ (by decide +kernel)) ggX6_carryOut_X5_obey
set_option maxRecDepth 20000 in
theorem ggX6_carryOut_X6_kept : GoodIn wsX6_carryOut wsX6_kept := goodIn_r _ [174, 1, 175, 176, 177, 6, 178, 9, 179, 180, 140, 141, 142, 181, 182, 183, 184, 185, 186, 187] (by decide +kernel) (by decide +kernel)
set_option maxRecDepth 20000 in
theorem gX6_carryOut_X6_kept : GoodIn wsX6_carryOut (wsV RX6 45 RX6 yX6_kept wsX6_kept) := goodIn_app (goodIn_of _ (by decide +kernel)) ggX6_carryOut_X6_kept
theorem dX6_carryOut_0 : decode cX6_carryOut 0 = .ok (.aload_n 0, 1) := by decide +kernel
theorem dX6_carryOut_1 : decode cX6_carryOut 1 = .ok (.getfield 22, 3) := by decide +kernel
theorem dX6_carryOut_4 : decode cX6_carryOut 4 = .ok (.aload_n 0, 1) := by decide +kernel
theorem dX6_carryOut_5 : decode cX6_carryOut 5 = .ok (.getfield 10, 3) := by decide +kernel
theorem dX6_carryOut_8 : decode cX6_carryOut 8 = .ok (.invokevirtual 37, 3) := by decide +kernel
theorem dX6_carryOut_11 : decode cX6_carryOut 11 = .ok (.aload_n 0, 1) := by decide +kernel
theorem dX6_carryOut_12 : decode cX6_carryOut 12 = .ok (.aload_n 0, 1) := by decide +kernel
theorem dX6_carryOut_13 : decode cX6_carryOut 13 = .ok (.getfield 10, 3) := by decide +kernel
theorem dX6_carryOut_16 : decode cX6_carryOut 16 = .ok (.iload_n 1, 1) := by decide +kernel
theorem dX6_carryOut_17 : decode cX6_carryOut 17 = .ok (.iload_n 2, 1) := by decide +kernel
theorem dX6_carryOut_18 : decode cX6_carryOut 18 = .ok (.iload_n 3, 1) := by decide +kernel
theorem dX6_carryOut_19 : decode cX6_carryOut 19 = .ok (.invokevirtual 176, 3) := by decide +kernel
theorem dX6_carryOut_22 : decode cX6_carryOut 22 = .ok (.invokevirtual 45, 3) := by decide +kernel
theorem dX6_carryOut_25 : decode cX6_carryOut 25 = .ok (.ireturn, 1) := by decide +kernel
set_option maxRecDepth 20000 in
theorem ggX6_kept_X0_keep : GoodIn wsX6_kept wsX0_keep := goodIn_r _ [6, 7, 8, 9, 10, 11, 12, 17, 18, 19] (by decide +kernel) (by decide +kernel)
set_option maxRecDepth 20000 in
theorem gX6_kept_X0_keep : GoodIn wsX6_kept (wsV RX6 179 RX0 yX0_keep wsX0_keep) := goodIn_app (goodIn_of _ (by decide +kernel)) ggX6_kept_X0_keep
theorem dX6_kept_0 : decode cX6_kept 0 = .ok (.iload_n 1, 1) := by decide +kernel
theorem dX6_kept_1 : decode cX6_kept 1 = .ok (.ifCond .lt 10, 3) := by decide +kernel
theorem dX6_kept_4 : decode cX6_kept 4 = .ok (.aload_n 0, 1) := by decide +kernel
theorem dX6_kept_5 : decode cX6_kept 5 = .ok (.getfield 22, 3) := by decide +kernel
theorem dX6_kept_8 : decode cX6_kept 8 = .ok (.invokevirtual 179, 3) := by decide +kernel
theorem dX6_kept_11 : decode cX6_kept 11 = .ok (.iload_n 1, 1) := by decide +kernel
theorem dX6_kept_12 : decode cX6_kept 12 = .ok (.ireturn, 1) := by decide +kernel
theorem dX6_isPlace_0 : decode cX6_isPlace 0 = .ok (.iload_n 0, 1) := by decide +kernel
theorem dX6_isPlace_1 : decode cX6_isPlace 1 = .ok (.iconst 1, 1) := by decide +kernel
theorem dX6_isPlace_2 : decode cX6_isPlace 2 = .ok (.if_icmp .lt 13, 3) := by decide +kernel
theorem dX6_isPlace_5 : decode cX6_isPlace 5 = .ok (.iload_n 0, 1) := by decide +kernel
theorem dX6_isPlace_6 : decode cX6_isPlace 6 = .ok (.bipush 20, 2) := by decide +kernel
theorem dX6_isPlace_8 : decode cX6_isPlace 8 = .ok (.if_icmp .gt 7, 3) := by decide +kernel
theorem dX6_isPlace_11 : decode cX6_isPlace 11 = .ok (.iconst 1, 1) := by decide +kernel
theorem dX6_isPlace_12 : decode cX6_isPlace 12 = .ok (.goto 4, 3) := by decide +kernel
theorem dX6_isPlace_15 : decode cX6_isPlace 15 = .ok (.iconst 0, 1) := by decide +kernel
theorem dX6_isPlace_16 : decode cX6_isPlace 16 = .ok (.ireturn, 1) := by decide +kernel
theorem dX6_stepOf_0 : decode cX6_stepOf 0 = .ok (.iload_n 0, 1) := by decide +kernel
theorem dX6_stepOf_1 : decode cX6_stepOf 1 = .ok (.iconst 2, 1) := by decide +kernel
theorem dX6_stepOf_2 : decode cX6_stepOf 2 = .ok (.irem, 1) := by decide +kernel
theorem dX6_stepOf_3 : decode cX6_stepOf 3 = .ok (.iconst 1, 1) := by decide +kernel
theorem dX6_stepOf_4 : decode cX6_stepOf 4 = .ok (.if_icmp .ne 9, 3) := by decide +kernel
theorem dX6_stepOf_7 : decode cX6_stepOf 7 = .ok (.iload_n 0, 1) := by decide +kernel
theorem dX6_stepOf_8 : decode cX6_stepOf 8 = .ok (.iconst 2, 1) := by decide +kernel
theorem dX6_stepOf_9 : decode cX6_stepOf 9 = .ok (.idiv, 1) := by decide +kernel
theorem dX6_stepOf_10 : decode cX6_stepOf 10 = .ok (.goto 9, 3) := by decide +kernel
theorem dX6_stepOf_13 : decode cX6_stepOf 13 = .ok (.bipush 20, 2) := by decide +kernel
theorem dX6_stepOf_15 : decode cX6_stepOf 15 = .ok (.iload_n 0, 1) := by decide +kernel
theorem dX6_stepOf_16 : decode cX6_stepOf 16 = .ok (.iconst 2, 1) := by decide +kernel
theorem dX6_stepOf_17 : decode cX6_stepOf 17 = .ok (.idiv, 1) := by decide +kernel
theorem dX6_stepOf_18 : decode cX6_stepOf 18 = .ok (.isub, 1) := by decide +kernel
theorem dX6_stepOf_19 : decode cX6_stepOf 19 = .ok (.ireturn, 1) := by decide +kernel
theorem dX6_unitsFor_0 : decode cX6_unitsFor 0 = .ok (.iload_n 1, 1) := by decide +kernel
theorem dX6_unitsFor_1 : decode cX6_unitsFor 1 = .ok (.ifCond .le 8, 3) := by decide +kernel
theorem dX6_unitsFor_4 : decode cX6_unitsFor 4 = .ok (.iload_n 0, 1) := by decide +kernel
theorem dX6_unitsFor_5 : decode cX6_unitsFor 5 = .ok (.bipush 100, 2) := by decide +kernel
theorem dX6_unitsFor_7 : decode cX6_unitsFor 7 = .ok (.idiv, 1) := by decide +kernel
theorem dX6_unitsFor_8 : decode cX6_unitsFor 8 = .ok (.ireturn, 1) := by decide +kernel
theorem dX6_unitsFor_9 : decode cX6_unitsFor 9 = .ok (.iload_n 1, 1) := by decide +kernel
theorem dX6_unitsFor_10 : decode cX6_unitsFor 10 = .ok (.ifCond .ge 13, 3) := by decide +kernel
theorem dX6_unitsFor_13 : decode cX6_unitsFor 13 = .ok (.iload_n 0, 1) := by decide +kernel
theorem dX6_unitsFor_14 : decode cX6_unitsFor 14 = .ok (.bipush 100, 2) := by decide +kernel
theorem dX6_unitsFor_16 : decode cX6_unitsFor 16 = .ok (.iadd, 1) := by decide +kernel
theorem dX6_unitsFor_17 : decode cX6_unitsFor 17 = .ok (.iconst 1, 1) := by decide +kernel
theorem dX6_unitsFor_18 : decode cX6_unitsFor 18 = .ok (.isub, 1) := by decide +kernel
theorem dX6_unitsFor_19 : decode cX6_unitsFor 19 = .ok (.bipush 100, 2) := by decide +kernel
theorem dX6_unitsFor_21 : decode cX6_unitsFor 21 = .ok (.idiv, 1) := by decide +kernel
theorem dX6_unitsFor_22 : decode cX6_unitsFor 22 = .ok (.ireturn, 1) := by decide +kernel
theorem dX6_unitsFor_23 : decode cX6_unitsFor 23 = .ok (.iload_n 0, 1) := by decide +kernel
theorem dX6_unitsFor_24 : decode cX6_unitsFor 24 = .ok (.bipush 50, 2) := by decide +kernel
theorem dX6_unitsFor_26 : decode cX6_unitsFor 26 = .ok (.iadd, 1) := by decide +kernel
theorem dX6_unitsFor_27 : decode cX6_unitsFor 27 = .ok (.bipush 100, 2) := by decide +kernel
theorem dX6_unitsFor_29 : decode cX6_unitsFor 29 = .ok (.idiv, 1) := by decide +kernel
theorem dX6_unitsFor_30 : decode cX6_unitsFor 30 = .ok (.ireturn, 1) := by decide +kernel
theorem dX6_bitsOf_0 : decode cX6_bitsOf 0 = .ok (.fload_n 0, 1) := by decide +kernel
theorem dX6_bitsOf_1 : decode cX6_bitsOf 1 = .ok (.fconst 0, 1) := by decide +kernel
theorem dX6_bitsOf_2 : decode cX6_bitsOf 2 = .ok (.fcmp .l, 1) := by decide +kernel
theorem dX6_bitsOf_3 : decode cX6_bitsOf 3 = .ok (.ifCond .gt 5, 3) := by decide +kernel
theorem dX6_bitsOf_6 : decode cX6_bitsOf 6 = .ok (.iconst 0, 1) := by decide +kernel
theorem dX6_bitsOf_7 : decode cX6_bitsOf 7 = .ok (.ireturn, 1) := by decide +kernel
theorem dX6_bitsOf_8 : decode cX6_bitsOf 8 = .ok (.fload_n 0, 1) := by decide +kernel
theorem dX6_bitsOf_9 : decode cX6_bitsOf 9 = .ok (.fstore_n 1, 1) := by decide +kernel
theorem dX6_bitsOf_10 : decode cX6_bitsOf 10 = .ok (.sipush 150, 3) := by decide +kernel
theorem dX6_bitsOf_13 : decode cX6_bitsOf 13 = .ok (.istore_n 2, 1) := by decide +kernel
theorem dX6_bitsOf_14 : decode cX6_bitsOf 14 = .ok (.iload_n 2, 1) := by decide +kernel
theorem dX6_bitsOf_15 : decode cX6_bitsOf 15 = .ok (.iconst 1, 1) := by decide +kernel
theorem dX6_bitsOf_16 : decode cX6_bitsOf 16 = .ok (.if_icmp .le 20, 3) := by decide +kernel
theorem dX6_bitsOf_19 : decode cX6_bitsOf 19 = .ok (.fload_n 1, 1) := by decide +kernel
theorem dX6_bitsOf_20 : decode cX6_bitsOf 20 = .ok (.ldc 182, 2) := by decide +kernel
theorem dX6_bitsOf_22 : decode cX6_bitsOf 22 = .ok (.fcmp .g, 1) := by decide +kernel
theorem dX6_bitsOf_23 : decode cX6_bitsOf 23 = .ok (.ifCond .ge 13, 3) := by decide +kernel
theorem dX6_bitsOf_26 : decode cX6_bitsOf 26 = .ok (.fload_n 1, 1) := by decide +kernel
theorem dX6_bitsOf_27 : decode cX6_bitsOf 27 = .ok (.fconst 2, 1) := by decide +kernel
theorem dX6_bitsOf_28 : decode cX6_bitsOf 28 = .ok (.fmul, 1) := by decide +kernel
theorem dX6_bitsOf_29 : decode cX6_bitsOf 29 = .ok (.fstore_n 1, 1) := by decide +kernel
theorem dX6_bitsOf_30 : decode cX6_bitsOf 30 = .ok (.iinc 2 (-1), 3) := by decide +kernel
theorem dX6_bitsOf_33 : decode cX6_bitsOf 33 = .ok (.goto (-19), 3) := by decide +kernel
theorem dX6_bitsOf_36 : decode cX6_bitsOf 36 = .ok (.iload_n 2, 1) := by decide +kernel
theorem dX6_bitsOf_37 : decode cX6_bitsOf 37 = .ok (.bipush 23, 2) := by decide +kernel
theorem dX6_bitsOf_39 : decode cX6_bitsOf 39 = .ok (.ishl, 1) := by decide +kernel
theorem dX6_bitsOf_40 : decode cX6_bitsOf 40 = .ok (.fload_n 1, 1) := by decide +kernel
theorem dX6_bitsOf_41 : decode cX6_bitsOf 41 = .ok (.f2i, 1) := by decide +kernel
theorem dX6_bitsOf_42 : decode cX6_bitsOf 42 = .ok (.iadd, 1) := by decide +kernel
theorem dX6_bitsOf_43 : decode cX6_bitsOf 43 = .ok (.ldc 183, 2) := by decide +kernel
theorem dX6_bitsOf_45 : decode cX6_bitsOf 45 = .ok (.isub, 1) := by decide +kernel
theorem dX6_bitsOf_46 : decode cX6_bitsOf 46 = .ok (.ireturn, 1) := by decide +kernel
theorem dX7_init_0 : decode cX7_init 0 = .ok (.aload_n 0, 1) := by decide +kernel
theorem dX7_init_1 : decode cX7_init 1 = .ok (.invokespecial 1, 3) := by decide +kernel
theorem dX7_init_4 : decode cX7_init 4 = .ok (.aload_n 0, 1) := by decide +kernel
theorem dX7_init_5 : decode cX7_init 5 = .ok (.sipush 414, 3) := by decide +kernel
theorem dX7_init_8 : decode cX7_init 8 = .ok (.newarray .int, 2) := by decide +kernel
theorem dX7_init_10 : decode cX7_init 10 = .ok (.putfield 7, 3) := by decide +kernel
theorem dX7_init_13 : decode cX7_init 13 = .ok (.aload_n 0, 1) := by decide +kernel
theorem dX7_init_14 : decode cX7_init 14 = .ok (.sipush 1656, 3) := by decide +kernel
theorem dX7_init_17 : decode cX7_init 17 = .ok (.newarray .int, 2) := by decide +kernel
theorem dX7_init_19 : decode cX7_init 19 = .ok (.putfield 13, 3) := by decide +kernel
theorem dX7_init_22 : decode cX7_init 22 = .ok (.aload_n 0, 1) := by decide +kernel
theorem dX7_init_23 : decode cX7_init 23 = .ok (.sipush 414, 3) := by decide +kernel
theorem dX7_init_26 : decode cX7_init 26 = .ok (.newarray .int, 2) := by decide +kernel
theorem dX7_init_28 : decode cX7_init 28 = .ok (.putfield 16, 3) := by decide +kernel
theorem dX7_init_31 : decode cX7_init 31 = .ok (.aload_n 0, 1) := by decide +kernel
theorem dX7_init_32 : decode cX7_init 32 = .ok (.sipush 414, 3) := by decide +kernel
theorem dX7_init_35 : decode cX7_init 35 = .ok (.newarray .int, 2) := by decide +kernel
theorem dX7_init_37 : decode cX7_init 37 = .ok (.putfield 19, 3) := by decide +kernel
theorem dX7_init_40 : decode cX7_init 40 = .ok (.aload_n 0, 1) := by decide +kernel
theorem dX7_init_41 : decode cX7_init 41 = .ok (.bipush 60, 2) := by decide +kernel
theorem dX7_init_43 : decode cX7_init 43 = .ok (.newarray .int, 2) := by decide +kernel
theorem dX7_init_45 : decode cX7_init 45 = .ok (.putfield 22, 3) := by decide +kernel
theorem dX7_init_48 : decode cX7_init 48 = .ok (.aload_n 0, 1) := by decide +kernel
theorem dX7_init_49 : decode cX7_init 49 = .ok (.bipush 24, 2) := by decide +kernel
theorem dX7_init_51 : decode cX7_init 51 = .ok (.newarray .int, 2) := by decide +kernel
theorem dX7_init_53 : decode cX7_init 53 = .ok (.putfield 25, 3) := by decide +kernel
theorem dX7_init_56 : decode cX7_init 56 = .ok (.aload_n 0, 1) := by decide +kernel
theorem dX7_init_57 : decode cX7_init 57 = .ok (.iconst 2, 1) := by decide +kernel
theorem dX7_init_58 : decode cX7_init 58 = .ok (.newarray .int, 2) := by decide +kernel
theorem dX7_init_60 : decode cX7_init 60 = .ok (.putfield 28, 3) := by decide +kernel
theorem dX7_init_63 : decode cX7_init 63 = .ok (.aload_n 0, 1) := by decide +kernel
theorem dX7_init_64 : decode cX7_init 64 = .ok (.getfield 7, 3) := by decide +kernel
theorem dX7_init_67 : decode cX7_init 67 = .ok (.sipush 410, 3) := by decide +kernel
theorem dX7_init_70 : decode cX7_init 70 = .ok (.iconst 3, 1) := by decide +kernel
theorem dX7_init_71 : decode cX7_init 71 = .ok (.iastore, 1) := by decide +kernel
theorem dX7_init_72 : decode cX7_init 72 = .ok (.aload_n 0, 1) := by decide +kernel
theorem dX7_init_73 : decode cX7_init 73 = .ok (.getfield 7, 3) := by decide +kernel
theorem dX7_init_76 : decode cX7_init 76 = .ok (.sipush 411, 3) := by decide +kernel
theorem dX7_init_79 : decode cX7_init 79 = .ok (.bipush 7, 2) := by decide +kernel
theorem dX7_init_81 : decode cX7_init 81 = .ok (.iastore, 1) := by decide +kernel
theorem dX7_init_82 : decode cX7_init 82 = .ok (.aload_n 0, 1) := by decide +kernel
theorem dX7_init_83 : decode cX7_init 83 = .ok (.getfield 7, 3) := by decide +kernel
theorem dX7_init_86 : decode cX7_init 86 = .ok (.sipush 412, 3) := by decide +kernel
theorem dX7_init_89 : decode cX7_init 89 = .ok (.bipush 50, 2) := by decide +kernel
theorem dX7_init_91 : decode cX7_init 91 = .ok (.iastore, 1) := by decide +kernel
theorem dX7_init_92 : decode cX7_init 92 = .ok (.aload_n 0, 1) := by decide +kernel
theorem dX7_init_93 : decode cX7_init 93 = .ok (.getfield 7, 3) := by decide +kernel
theorem dX7_init_96 : decode cX7_init 96 = .ok (.sipush 413, 3) := by decide +kernel
theorem dX7_init_99 : decode cX7_init 99 = .ok (.bipush 60, 2) := by decide +kernel
theorem dX7_init_101 : decode cX7_init 101 = .ok (.iastore, 1) := by decide +kernel
theorem dX7_init_102 : decode cX7_init 102 = .ok (.return_, 1) := by decide +kernel
theorem dX7_in_0 : decode cX7_in 0 = .ok (.iload_n 0, 1) := by decide +kernel
theorem dX7_in_1 : decode cX7_in 1 = .ok (.iload_n 1, 1) := by decide +kernel
theorem dX7_in_2 : decode cX7_in 2 = .ok (.if_icmp .lt 12, 3) := by decide +kernel
theorem dX7_in_5 : decode cX7_in 5 = .ok (.iload_n 0, 1) := by decide +kernel
theorem dX7_in_6 : decode cX7_in 6 = .ok (.iload_n 2, 1) := by decide +kernel
theorem dX7_in_7 : decode cX7_in 7 = .ok (.if_icmp .gt 7, 3) := by decide +kernel
theorem dX7_in_10 : decode cX7_in 10 = .ok (.iconst 1, 1) := by decide +kernel
theorem dX7_in_11 : decode cX7_in 11 = .ok (.goto 4, 3) := by decide +kernel
theorem dX7_in_14 : decode cX7_in 14 = .ok (.iconst 0, 1) := by decide +kernel
theorem dX7_in_15 : decode cX7_in 15 = .ok (.ireturn, 1) := by decide +kernel
theorem dX7_copies_0 : decode cX7_copies 0 = .ok (.iconst 0, 1) := by decide +kernel
theorem dX7_copies_1 : decode cX7_copies 1 = .ok (.istore_n 2, 1) := by decide +kernel
theorem dX7_copies_2 : decode cX7_copies 2 = .ok (.iload_n 2, 1) := by decide +kernel
theorem dX7_copies_3 : decode cX7_copies 3 = .ok (.sipush 414, 3) := by decide +kernel
theorem dX7_copies_6 : decode cX7_copies 6 = .ok (.if_icmp .ge 15, 3) := by decide +kernel
theorem dX7_copies_9 : decode cX7_copies 9 = .ok (.aload_n 1, 1) := by decide +kernel
theorem dX7_copies_10 : decode cX7_copies 10 = .ok (.iload_n 2, 1) := by decide +kernel
theorem dX7_copies_11 : decode cX7_copies 11 = .ok (.aload_n 0, 1) := by decide +kernel
theorem dX7_copies_12 : decode cX7_copies 12 = .ok (.iload_n 2, 1) := by decide +kernel
theorem dX7_copies_13 : decode cX7_copies 13 = .ok (.iaload, 1) := by decide +kernel
theorem dX7_copies_14 : decode cX7_copies 14 = .ok (.iastore, 1) := by decide +kernel
theorem dX7_copies_15 : decode cX7_copies 15 = .ok (.iinc 2 1, 3) := by decide +kernel
theorem dX7_copies_18 : decode cX7_copies 18 = .ok (.goto (-16), 3) := by decide +kernel
theorem dX7_copies_21 : decode cX7_copies 21 = .ok (.return_, 1) := by decide +kernel
theorem dX7_changes_0 : decode cX7_changes 0 = .ok (.aload_n 0, 1) := by decide +kernel
theorem dX7_changes_1 : decode cX7_changes 1 = .ok (.getfield 31, 3) := by decide +kernel
theorem dX7_changes_4 : decode cX7_changes 4 = .ok (.ifCond .eq 4, 3) := by decide +kernel
theorem dX7_changes_7 : decode cX7_changes 7 = .ok (.return_, 1) := by decide +kernel
theorem dX7_changes_8 : decode cX7_changes 8 = .ok (.aload_n 0, 1) := by decide +kernel
theorem dX7_changes_9 : decode cX7_changes 9 = .ok (.getfield 35, 3) := by decide +kernel
theorem dX7_changes_12 : decode cX7_changes 12 = .ok (.iconst 4, 1) := by decide +kernel
theorem dX7_changes_13 : decode cX7_changes 13 = .ok (.if_icmp .ne 44, 3) := by decide +kernel
theorem dX7_changes_16 : decode cX7_changes 16 = .ok (.iconst 0, 1) := by decide +kernel
theorem dX7_changes_17 : decode cX7_changes 17 = .ok (.istore_n 1, 1) := by decide +kernel
theorem dX7_changes_18 : decode cX7_changes 18 = .ok (.iload_n 1, 1) := by decide +kernel
theorem dX7_changes_19 : decode cX7_changes 19 = .ok (.sipush 1242, 3) := by decide +kernel
theorem dX7_changes_22 : decode cX7_changes 22 = .ok (.if_icmp .ge 25, 3) := by decide +kernel
theorem dX7_changes_25 : decode cX7_changes 25 = .ok (.aload_n 0, 1) := by decide +kernel
theorem dX7_changes_26 : decode cX7_changes 26 = .ok (.getfield 13, 3) := by decide +kernel
theorem dX7_changes_29 : decode cX7_changes 29 = .ok (.iload_n 1, 1) := by decide +kernel
theorem dX7_changes_30 : decode cX7_changes 30 = .ok (.aload_n 0, 1) := by decide +kernel
theorem dX7_changes_31 : decode cX7_changes 31 = .ok (.getfield 13, 3) := by decide +kernel
theorem dX7_changes_34 : decode cX7_changes 34 = .ok (.iload_n 1, 1) := by decide +kernel
theorem dX7_changes_35 : decode cX7_changes 35 = .ok (.sipush 414, 3) := by decide +kernel
theorem dX7_changes_38 : decode cX7_changes 38 = .ok (.iadd, 1) := by decide +kernel
theorem dX7_changes_39 : decode cX7_changes 39 = .ok (.iaload, 1) := by decide +kernel
theorem dX7_changes_40 : decode cX7_changes 40 = .ok (.iastore, 1) := by decide +kernel
theorem dX7_changes_41 : decode cX7_changes 41 = .ok (.iinc 1 1, 3) := by decide +kernel
theorem dX7_changes_44 : decode cX7_changes 44 = .ok (.goto (-26), 3) := by decide +kernel
theorem dX7_changes_47 : decode cX7_changes 47 = .ok (.aload_n 0, 1) := by decide +kernel
theorem dX7_changes_48 : decode cX7_changes 48 = .ok (.dup, 1) := by decide +kernel
theorem dX7_changes_49 : decode cX7_changes 49 = .ok (.getfield 35, 3) := by decide +kernel
theorem dX7_changes_52 : decode cX7_changes 52 = .ok (.iconst 1, 1) := by decide +kernel
theorem dX7_changes_53 : decode cX7_changes 53 = .ok (.isub, 1) := by decide +kernel
theorem dX7_changes_54 : decode cX7_changes 54 = .ok (.putfield 35, 3) := by decide +kernel
theorem dX7_changes_57 : decode cX7_changes 57 = .ok (.iconst 0, 1) := by decide +kernel
theorem dX7_changes_58 : decode cX7_changes 58 = .ok (.istore_n 1, 1) := by decide +kernel
theorem dX7_changes_59 : decode cX7_changes 59 = .ok (.iload_n 1, 1) := by decide +kernel
theorem dX7_changes_60 : decode cX7_changes 60 = .ok (.sipush 414, 3) := by decide +kernel
theorem dX7_changes_63 : decode cX7_changes 63 = .ok (.if_icmp .ge 30, 3) := by decide +kernel
theorem dX7_changes_66 : decode cX7_changes 66 = .ok (.aload_n 0, 1) := by decide +kernel
theorem dX7_changes_67 : decode cX7_changes 67 = .ok (.getfield 13, 3) := by decide +kernel
theorem dX7_changes_70 : decode cX7_changes 70 = .ok (.sipush 414, 3) := by decide +kernel
theorem dX7_changes_73 : decode cX7_changes 73 = .ok (.aload_n 0, 1) := by decide +kernel
theorem dX7_changes_74 : decode cX7_changes 74 = .ok (.getfield 35, 3) := by decide +kernel
theorem dX7_changes_77 : decode cX7_changes 77 = .ok (.imul, 1) := by decide +kernel
theorem dX7_changes_78 : decode cX7_changes 78 = .ok (.iload_n 1, 1) := by decide +kernel
theorem dX7_changes_79 : decode cX7_changes 79 = .ok (.iadd, 1) := by decide +kernel
theorem dX7_changes_80 : decode cX7_changes 80 = .ok (.aload_n 0, 1) := by decide +kernel
theorem dX7_changes_81 : decode cX7_changes 81 = .ok (.getfield 7, 3) := by decide +kernel
theorem dX7_changes_84 : decode cX7_changes 84 = .ok (.iload_n 1, 1) := by decide +kernel
theorem dX7_changes_85 : decode cX7_changes 85 = .ok (.iaload, 1) := by decide +kernel
theorem dX7_changes_86 : decode cX7_changes 86 = .ok (.iastore, 1) := by decide +kernel
theorem dX7_changes_87 : decode cX7_changes 87 = .ok (.iinc 1 1, 3) := by decide +kernel
theorem dX7_changes_90 : decode cX7_changes 90 = .ok (.goto (-31), 3) := by decide +kernel
theorem dX7_changes_93 : decode cX7_changes 93 = .ok (.aload_n 0, 1) := by decide +kernel
theorem dX7_changes_94 : decode cX7_changes 94 = .ok (.dup, 1) := by decide +kernel
theorem dX7_changes_95 : decode cX7_changes 95 = .ok (.getfield 35, 3) := by decide +kernel
theorem dX7_changes_98 : decode cX7_changes 98 = .ok (.iconst 1, 1) := by decide +kernel
theorem dX7_changes_99 : decode cX7_changes 99 = .ok (.iadd, 1) := by decide +kernel
theorem dX7_changes_100 : decode cX7_changes 100 = .ok (.putfield 35, 3) := by decide +kernel
theorem dX7_changes_103 : decode cX7_changes 103 = .ok (.return_, 1) := by decide +kernel
theorem dX7_of_0 : decode cX7_of 0 = .ok (.aload_n 0, 1) := by decide +kernel
theorem dX7_of_1 : decode cX7_of 1 = .ok (.getfield 7, 3) := by decide +kernel
theorem dX7_of_4 : decode cX7_of 4 = .ok (.bipush 14, 2) := by decide +kernel
theorem dX7_of_6 : decode cX7_of 6 = .ok (.iload_n 1, 1) := by decide +kernel
theorem dX7_of_7 : decode cX7_of 7 = .ok (.imul, 1) := by decide +kernel
theorem dX7_of_8 : decode cX7_of 8 = .ok (.iload_n 2, 1) := by decide +kernel
theorem dX7_of_9 : decode cX7_of 9 = .ok (.iadd, 1) := by decide +kernel
theorem dX7_of_10 : decode cX7_of 10 = .ok (.iaload, 1) := by decide +kernel
theorem dX7_of_11 : decode cX7_of 11 = .ok (.ireturn, 1) := by decide +kernel
theorem dX7_adds_0 : decode cX7_adds 0 = .ok (.aload_n 0, 1) := by decide +kernel
theorem dX7_adds_1 : decode cX7_adds 1 = .ok (.getfield 7, 3) := by decide +kernel
theorem dX7_adds_4 : decode cX7_adds 4 = .ok (.bipush 14, 2) := by decide +kernel
theorem dX7_adds_6 : decode cX7_adds 6 = .ok (.iload_n 1, 1) := by decide +kernel
theorem dX7_adds_7 : decode cX7_adds 7 = .ok (.imul, 1) := by decide +kernel
theorem dX7_adds_8 : decode cX7_adds 8 = .ok (.iload_n 2, 1) := by decide +kernel
theorem dX7_adds_9 : decode cX7_adds 9 = .ok (.iadd, 1) := by decide +kernel
theorem dX7_adds_10 : decode cX7_adds 10 = .ok (.dup2, 1) := by decide +kernel
theorem dX7_adds_11 : decode cX7_adds 11 = .ok (.iaload, 1) := by decide +kernel
theorem dX7_adds_12 : decode cX7_adds 12 = .ok (.iload_n 3, 1) := by decide +kernel
theorem dX7_adds_13 : decode cX7_adds 13 = .ok (.iadd, 1) := by decide +kernel
theorem dX7_adds_14 : decode cX7_adds 14 = .ok (.iastore, 1) := by decide +kernel
theorem dX7_adds_15 : decode cX7_adds 15 = .ok (.return_, 1) := by decide +kernel
theorem dX7_lay_0 : decode cX7_lay 0 = .ok (.aload_n 0, 1) := by decide +kernel
theorem dX7_lay_1 : decode cX7_lay 1 = .ok (.getfield 7, 3) := by decide +kernel
theorem dX7_lay_4 : decode cX7_lay 4 = .ok (.bipush 14, 2) := by decide +kernel
theorem dX7_lay_6 : decode cX7_lay 6 = .ok (.iload_n 1, 1) := by decide +kernel
theorem dX7_lay_7 : decode cX7_lay 7 = .ok (.imul, 1) := by decide +kernel
theorem dX7_lay_8 : decode cX7_lay 8 = .ok (.iload_n 2, 1) := by decide +kernel
theorem dX7_lay_9 : decode cX7_lay 9 = .ok (.iadd, 1) := by decide +kernel
theorem dX7_lay_10 : decode cX7_lay 10 = .ok (.iload_n 3, 1) := by decide +kernel
theorem dX7_lay_11 : decode cX7_lay 11 = .ok (.iastore, 1) := by decide +kernel
theorem dX7_lay_12 : decode cX7_lay 12 = .ok (.return_, 1) := by decide +kernel
set_option maxRecDepth 20000 in
theorem ggX7_isHouse_X7_in : GoodIn wsX7_isHouse wsX7_in := goodIn_r _ [5] (by decide +kernel) (by decide +kernel)
set_option maxRecDepth 20000 in
theorem gX7_isHouse_X7_in : GoodIn wsX7_isHouse (va_wsS RX7 39 yX7_in wsX7_in) := goodIn_app (goodIn_of _ (by decide +kernel)) ggX7_isHouse_X7_in
theorem dX7_isHouse_0 : decode cX7_isHouse 0 = .ok (.iload_n 1, 1) := by decide +kernel
theorem dX7_isHouse_1 : decode cX7_isHouse 1 = .ok (.iconst 0, 1) := by decide +kernel
theorem dX7_isHouse_2 : decode cX7_isHouse 2 = .ok (.aload_n 0, 1) := by decide +kernel
theorem dX7_isHouse_3 : decode cX7_isHouse 3 = .ok (.getfield 7, 3) := by decide +kernel
theorem dX7_isHouse_6 : decode cX7_isHouse 6 = .ok (.sipush 401, 3) := by decide +kernel
theorem dX7_isHouse_9 : decode cX7_isHouse 9 = .ok (.iaload, 1) := by decide +kernel
theorem dX7_isHouse_10 : decode cX7_isHouse 10 = .ok (.iconst 1, 1) := by decide +kernel
theorem dX7_isHouse_11 : decode cX7_isHouse 11 = .ok (.isub, 1) := by decide +kernel
theorem dX7_isHouse_12 : decode cX7_isHouse 12 = .ok (.invokestatic 39, 3) := by decide +kernel
theorem dX7_isHouse_15 : decode cX7_isHouse 15 = .ok (.ireturn, 1) := by decide +kernel
set_option maxRecDepth 20000 in
theorem ggX7_isPlace_X7_in : GoodIn wsX7_isPlace wsX7_in := goodIn_r _ [4] (by decide +kernel) (by decide +kernel)
set_option maxRecDepth 20000 in
theorem gX7_isPlace_X7_in : GoodIn wsX7_isPlace (va_wsS RX7 39 yX7_in wsX7_in) := goodIn_app (goodIn_of _ (by decide +kernel)) ggX7_isPlace_X7_in
theorem dX7_isPlace_0 : decode cX7_isPlace 0 = .ok (.iload_n 0, 1) := by decide +kernel
theorem dX7_isPlace_1 : decode cX7_isPlace 1 = .ok (.iconst 0, 1) := by decide +kernel
theorem dX7_isPlace_2 : decode cX7_isPlace 2 = .ok (.iconst 3, 1) := by decide +kernel
theorem dX7_isPlace_3 : decode cX7_isPlace 3 = .ok (.invokestatic 39, 3) := by decide +kernel
theorem dX7_isPlace_6 : decode cX7_isPlace 6 = .ok (.ifCond .eq 17, 3) := by decide +kernel
theorem dX7_isPlace_9 : decode cX7_isPlace 9 = .ok (.iload_n 1, 1) := by decide +kernel
theorem dX7_isPlace_10 : decode cX7_isPlace 10 = .ok (.iconst 1, 1) := by decide +kernel
theorem dX7_isPlace_11 : decode cX7_isPlace 11 = .ok (.bipush 20, 2) := by decide +kernel
theorem dX7_isPlace_13 : decode cX7_isPlace 13 = .ok (.invokestatic 39, 3) := by decide +kernel
theorem dX7_isPlace_16 : decode cX7_isPlace 16 = .ok (.ifCond .eq 7, 3) := by decide +kernel
theorem dX7_isPlace_19 : decode cX7_isPlace 19 = .ok (.iconst 1, 1) := by decide +kernel
theorem dX7_isPlace_20 : decode cX7_isPlace 20 = .ok (.goto 4, 3) := by decide +kernel
theorem dX7_isPlace_23 : decode cX7_isPlace 23 = .ok (.iconst 0, 1) := by decide +kernel
theorem dX7_isPlace_24 : decode cX7_isPlace 24 = .ok (.ireturn, 1) := by decide +kernel
set_option maxRecDepth 20000 in
theorem ggX7_atPlace_X7_of : GoodIn wsX7_atPlace wsX7_of := goodIn_r _ [7, 1, 8, 9, 10, 11, 12, 13, 14, 15, 16, 17, 18, 19, 20, 21, 22, 23] (by decide +kernel) (by decide +kernel)
set_option maxRecDepth 20000 in
theorem gX7_atPlace_X7_of : GoodIn wsX7_atPlace (wsV RX7 43 RX7 yX7_of wsX7_of) := goodIn_app (goodIn_of _ (by decide +kernel)) ggX7_atPlace_X7_of
theorem dX7_atPlace_0 : decode cX7_atPlace 0 = .ok (.iconst 0, 1) := by decide +kernel
theorem dX7_atPlace_1 : decode cX7_atPlace 1 = .ok (.istore_n 3, 1) := by decide +kernel
theorem dX7_atPlace_2 : decode cX7_atPlace 2 = .ok (.iload_n 3, 1) := by decide +kernel
theorem dX7_atPlace_3 : decode cX7_atPlace 3 = .ok (.aload_n 0, 1) := by decide +kernel
theorem dX7_atPlace_4 : decode cX7_atPlace 4 = .ok (.getfield 7, 3) := by decide +kernel
theorem dX7_atPlace_7 : decode cX7_atPlace 7 = .ok (.sipush 401, 3) := by decide +kernel
end
section
theorem dX7_atPlace_10 : decode cX7_atPlace 10 = .ok (.iaload, 1) := by decide +kernel
theorem dX7_atPlace_11 : decode cX7_atPlace 11 = .ok (.if_icmp .ge 31, 3) := by decide +kernel
theorem dX7_atPlace_14 : decode cX7_atPlace 14 = .ok (.aload_n 0, 1) := by decide +kernel
theorem dX7_atPlace_15 : decode cX7_atPlace 15 = .ok (.iload_n 3, 1) := by decide +kernel
theorem dX7_atPlace_16 : decode cX7_atPlace 16 = .ok (.iconst 0, 1) := by decide +kernel
theorem dX7_atPlace_17 : decode cX7_atPlace 17 = .ok (.invokevirtual 43, 3) := by decide +kernel
theorem dX7_atPlace_20 : decode cX7_atPlace 20 = .ok (.iload_n 1, 1) := by decide +kernel
theorem dX7_atPlace_21 : decode cX7_atPlace 21 = .ok (.if_icmp .ne 15, 3) := by decide +kernel
theorem dX7_atPlace_24 : decode cX7_atPlace 24 = .ok (.aload_n 0, 1) := by decide +kernel
theorem dX7_atPlace_25 : decode cX7_atPlace 25 = .ok (.iload_n 3, 1) := by decide +kernel
theorem dX7_atPlace_26 : decode cX7_atPlace 26 = .ok (.iconst 1, 1) := by decide +kernel
theorem dX7_atPlace_27 : decode cX7_atPlace 27 = .ok (.invokevirtual 43, 3) := by decide +kernel
theorem dX7_atPlace_30 : decode cX7_atPlace 30 = .ok (.iload_n 2, 1) := by decide +kernel
theorem dX7_atPlace_31 : decode cX7_atPlace 31 = .ok (.if_icmp .ne 5, 3) := by decide +kernel
theorem dX7_atPlace_34 : decode cX7_atPlace 34 = .ok (.iload_n 3, 1) := by decide +kernel
theorem dX7_atPlace_35 : decode cX7_atPlace 35 = .ok (.ireturn, 1) := by decide +kernel
theorem dX7_atPlace_36 : decode cX7_atPlace 36 = .ok (.iinc 3 1, 3) := by decide +kernel
theorem dX7_atPlace_39 : decode cX7_atPlace 39 = .ok (.goto (-37), 3) := by decide +kernel
theorem dX7_atPlace_42 : decode cX7_atPlace 42 = .ok (.ldc 47, 2) := by decide +kernel
theorem dX7_atPlace_44 : decode cX7_atPlace 44 = .ok (.ireturn, 1) := by decide +kernel
set_option maxRecDepth 20000 in
theorem ggX7_used_X7_of : GoodIn wsX7_used wsX7_of := goodIn_r _ [6, 7, 8, 9, 10, 11, 12, 13, 14, 15, 16, 17, 18, 19, 20, 21, 22, 23] (by decide +kernel) (by decide +kernel)
set_option maxRecDepth 20000 in
theorem gX7_used_X7_of : GoodIn wsX7_used (wsV RX7 43 RX7 yX7_of wsX7_of) := goodIn_app (goodIn_of _ (by decide +kernel)) ggX7_used_X7_of
theorem dX7_used_0 : decode cX7_used 0 = .ok (.aload_n 0, 1) := by decide +kernel
theorem dX7_used_1 : decode cX7_used 1 = .ok (.iload_n 1, 1) := by decide +kernel
theorem dX7_used_2 : decode cX7_used 2 = .ok (.iconst 2, 1) := by decide +kernel
theorem dX7_used_3 : decode cX7_used 3 = .ok (.invokevirtual 43, 3) := by decide +kernel
theorem dX7_used_6 : decode cX7_used 6 = .ok (.aload_n 0, 1) := by decide +kernel
theorem dX7_used_7 : decode cX7_used 7 = .ok (.iload_n 1, 1) := by decide +kernel
theorem dX7_used_8 : decode cX7_used 8 = .ok (.iconst 3, 1) := by decide +kernel
theorem dX7_used_9 : decode cX7_used 9 = .ok (.invokevirtual 43, 3) := by decide +kernel
theorem dX7_used_12 : decode cX7_used 12 = .ok (.isub, 1) := by decide +kernel
theorem dX7_used_13 : decode cX7_used 13 = .ok (.ldc 48, 2) := by decide +kernel
theorem dX7_used_15 : decode cX7_used 15 = .ok (.iadd, 1) := by decide +kernel
theorem dX7_used_16 : decode cX7_used 16 = .ok (.ldc 48, 2) := by decide +kernel
theorem dX7_used_18 : decode cX7_used 18 = .ok (.irem, 1) := by decide +kernel
theorem dX7_used_19 : decode cX7_used 19 = .ok (.ireturn, 1) := by decide +kernel
set_option maxRecDepth 20000 in
theorem ggX7_unitsOf_X7_used : GoodIn wsX7_unitsOf wsX7_used := goodIn_r _ [5, 6, 7, 8, 9, 4, 10, 11, 12, 13, 14, 15, 16, 17, 18, 19, 20, 21, 22, 23, 24, 25, 26, 27] (by decide +kernel) (by decide +kernel)
set_option maxRecDepth 20000 in
theorem gX7_unitsOf_X7_used : GoodIn wsX7_unitsOf (wsV RX7 49 RX7 yX7_used wsX7_used) := goodIn_app (goodIn_of _ (by decide +kernel)) ggX7_unitsOf_X7_used
set_option maxRecDepth 20000 in
theorem ggX7_unitsOf_X7_of : GoodIn wsX7_unitsOf wsX7_of := goodIn_r _ [10, 11, 12, 13, 14, 15, 16, 17, 18, 19, 20, 21, 22, 23, 24, 25, 26, 27] (by decide +kernel) (by decide +kernel)
set_option maxRecDepth 20000 in
theorem gX7_unitsOf_X7_of : GoodIn wsX7_unitsOf (wsV RX7 43 RX7 yX7_of wsX7_of) := goodIn_app (goodIn_of _ (by decide +kernel)) ggX7_unitsOf_X7_of
theorem dX7_unitsOf_0 : decode cX7_unitsOf 0 = .ok (.aload_n 0, 1) := by decide +kernel
theorem dX7_unitsOf_1 : decode cX7_unitsOf 1 = .ok (.iload_n 1, 1) := by decide +kernel
theorem dX7_unitsOf_2 : decode cX7_unitsOf 2 = .ok (.invokevirtual 49, 3) := by decide +kernel
theorem dX7_unitsOf_5 : decode cX7_unitsOf 5 = .ok (.istore_n 2, 1) := by decide +kernel
theorem dX7_unitsOf_6 : decode cX7_unitsOf 6 = .ok (.aload_n 0, 1) := by decide +kernel
theorem dX7_unitsOf_7 : decode cX7_unitsOf 7 = .ok (.iload_n 1, 1) := by decide +kernel
theorem dX7_unitsOf_8 : decode cX7_unitsOf 8 = .ok (.iconst 4, 1) := by decide +kernel
theorem dX7_unitsOf_9 : decode cX7_unitsOf 9 = .ok (.invokevirtual 43, 3) := by decide +kernel
theorem dX7_unitsOf_12 : decode cX7_unitsOf 12 = .ok (.istore_n 3, 1) := by decide +kernel
theorem dX7_unitsOf_13 : decode cX7_unitsOf 13 = .ok (.iload_n 3, 1) := by decide +kernel
theorem dX7_unitsOf_14 : decode cX7_unitsOf 14 = .ok (.ifCond .le 7, 3) := by decide +kernel
theorem dX7_unitsOf_17 : decode cX7_unitsOf 17 = .ok (.iconst 0, 1) := by decide +kernel
theorem dX7_unitsOf_18 : decode cX7_unitsOf 18 = .ok (.goto 14, 3) := by decide +kernel
theorem dX7_unitsOf_21 : decode cX7_unitsOf 21 = .ok (.iload_n 3, 1) := by decide +kernel
theorem dX7_unitsOf_22 : decode cX7_unitsOf 22 = .ok (.ifCond .ge 8, 3) := by decide +kernel
theorem dX7_unitsOf_25 : decode cX7_unitsOf 25 = .ok (.bipush 99, 2) := by decide +kernel
theorem dX7_unitsOf_27 : decode cX7_unitsOf 27 = .ok (.goto 5, 3) := by decide +kernel
theorem dX7_unitsOf_30 : decode cX7_unitsOf 30 = .ok (.bipush 50, 2) := by decide +kernel
theorem dX7_unitsOf_32 : decode cX7_unitsOf 32 = .ok (.istore 4, 2) := by decide +kernel
theorem dX7_unitsOf_34 : decode cX7_unitsOf 34 = .ok (.iload_n 2, 1) := by decide +kernel
theorem dX7_unitsOf_35 : decode cX7_unitsOf 35 = .ok (.iload 4, 2) := by decide +kernel
theorem dX7_unitsOf_37 : decode cX7_unitsOf 37 = .ok (.iadd, 1) := by decide +kernel
theorem dX7_unitsOf_38 : decode cX7_unitsOf 38 = .ok (.bipush 100, 2) := by decide +kernel
theorem dX7_unitsOf_40 : decode cX7_unitsOf 40 = .ok (.idiv, 1) := by decide +kernel
theorem dX7_unitsOf_41 : decode cX7_unitsOf 41 = .ok (.ireturn, 1) := by decide +kernel
set_option maxRecDepth 20000 in
theorem ggX7_balanceThen_X7_of : GoodIn wsX7_balanceThen wsX7_of := goodIn_r _ [5, 6, 16, 17, 18, 19, 20, 21, 22, 23, 24, 25, 26, 27, 28, 29, 30, 31] (by decide +kernel) (by decide +kernel)
set_option maxRecDepth 20000 in
theorem gX7_balanceThen_X7_of : GoodIn wsX7_balanceThen (wsV RX7 43 RX7 yX7_of wsX7_of) := goodIn_app (goodIn_of _ (by decide +kernel)) ggX7_balanceThen_X7_of
set_option maxRecDepth 20000 in
theorem ggX7_balanceThen_X7_unitsOf : GoodIn wsX7_balanceThen wsX7_unitsOf := goodIn_r _ [10, 11, 12, 13, 4, 14, 15, 1, 2, 3, 5, 6, 16, 17, 18, 19, 20, 21, 22, 23, 24, 25, 26, 27, 28, 29, 30, 31] (by decide +kernel) (by decide +kernel)
set_option maxRecDepth 20000 in
theorem gX7_balanceThen_X7_unitsOf : GoodIn wsX7_balanceThen (wsV RX7 53 RX7 yX7_unitsOf wsX7_unitsOf) := goodIn_app (goodIn_of _ (by decide +kernel)) ggX7_balanceThen_X7_unitsOf
set_option maxRecDepth 20000 in
theorem ggX7_balanceThen_X7_used : GoodIn wsX7_balanceThen wsX7_used := goodIn_r _ [14, 15, 1, 2, 3, 4, 5, 6, 16, 17, 18, 19, 20, 21, 22, 23, 24, 25, 26, 27, 28, 29, 30, 31] (by decide +kernel) (by decide +kernel)
set_option maxRecDepth 20000 in
theorem gX7_balanceThen_X7_used : GoodIn wsX7_balanceThen (wsV RX7 49 RX7 yX7_used wsX7_used) := goodIn_app (goodIn_of _ (by decide +kernel)) ggX7_balanceThen_X7_used
theorem dX7_balanceThen_0 : decode cX7_balanceThen 0 = .ok (.aload_n 0, 1) := by decide +kernel
theorem dX7_balanceThen_1 : decode cX7_balanceThen 1 = .ok (.iload_n 1, 1) := by decide +kernel
theorem dX7_balanceThen_2 : decode cX7_balanceThen 2 = .ok (.iconst 4, 1) := by decide +kernel
theorem dX7_balanceThen_3 : decode cX7_balanceThen 3 = .ok (.invokevirtual 43, 3) := by decide +kernel
theorem dX7_balanceThen_6 : decode cX7_balanceThen 6 = .ok (.bipush 100, 2) := by decide +kernel
theorem dX7_balanceThen_8 : decode cX7_balanceThen 8 = .ok (.aload_n 0, 1) := by decide +kernel
theorem dX7_balanceThen_9 : decode cX7_balanceThen 9 = .ok (.iload_n 1, 1) := by decide +kernel
theorem dX7_balanceThen_10 : decode cX7_balanceThen 10 = .ok (.invokevirtual 53, 3) := by decide +kernel
theorem dX7_balanceThen_13 : decode cX7_balanceThen 13 = .ok (.imul, 1) := by decide +kernel
theorem dX7_balanceThen_14 : decode cX7_balanceThen 14 = .ok (.iadd, 1) := by decide +kernel
theorem dX7_balanceThen_15 : decode cX7_balanceThen 15 = .ok (.aload_n 0, 1) := by decide +kernel
theorem dX7_balanceThen_16 : decode cX7_balanceThen 16 = .ok (.iload_n 1, 1) := by decide +kernel
theorem dX7_balanceThen_17 : decode cX7_balanceThen 17 = .ok (.invokevirtual 49, 3) := by decide +kernel
theorem dX7_balanceThen_20 : decode cX7_balanceThen 20 = .ok (.isub, 1) := by decide +kernel
theorem dX7_balanceThen_21 : decode cX7_balanceThen 21 = .ok (.ireturn, 1) := by decide +kernel
set_option maxRecDepth 20000 in
theorem ggX7_barred_X7_of : GoodIn wsX7_barred wsX7_of := goodIn_r _ [6, 1, 7, 8, 9, 10, 11, 12, 13, 14, 15, 16, 17, 18, 19, 20, 21, 22] (by decide +kernel) (by decide +kernel)
set_option maxRecDepth 20000 in
theorem gX7_barred_X7_of : GoodIn wsX7_barred (wsV RX7 43 RX7 yX7_of wsX7_of) := goodIn_app (goodIn_of _ (by decide +kernel)) ggX7_barred_X7_of
theorem dX7_barred_0 : decode cX7_barred 0 = .ok (.aload_n 0, 1) := by decide +kernel
theorem dX7_barred_1 : decode cX7_barred 1 = .ok (.iload_n 1, 1) := by decide +kernel
theorem dX7_barred_2 : decode cX7_barred 2 = .ok (.bipush 6, 2) := by decide +kernel
theorem dX7_barred_4 : decode cX7_barred 4 = .ok (.invokevirtual 43, 3) := by decide +kernel
theorem dX7_barred_7 : decode cX7_barred 7 = .ok (.iconst 1, 1) := by decide +kernel
theorem dX7_barred_8 : decode cX7_barred 8 = .ok (.if_icmp .ne 7, 3) := by decide +kernel
theorem dX7_barred_11 : decode cX7_barred 11 = .ok (.iconst 1, 1) := by decide +kernel
theorem dX7_barred_12 : decode cX7_barred 12 = .ok (.goto 28, 3) := by decide +kernel
theorem dX7_barred_15 : decode cX7_barred 15 = .ok (.aload_n 0, 1) := by decide +kernel
theorem dX7_barred_16 : decode cX7_barred 16 = .ok (.iload_n 1, 1) := by decide +kernel
theorem dX7_barred_17 : decode cX7_barred 17 = .ok (.bipush 7, 2) := by decide +kernel
theorem dX7_barred_19 : decode cX7_barred 19 = .ok (.invokevirtual 43, 3) := by decide +kernel
theorem dX7_barred_22 : decode cX7_barred 22 = .ok (.aload_n 0, 1) := by decide +kernel
theorem dX7_barred_23 : decode cX7_barred 23 = .ok (.getfield 7, 3) := by decide +kernel
theorem dX7_barred_26 : decode cX7_barred 26 = .ok (.sipush 400, 3) := by decide +kernel
theorem dX7_barred_29 : decode cX7_barred 29 = .ok (.iaload, 1) := by decide +kernel
theorem dX7_barred_30 : decode cX7_barred 30 = .ok (.iconst 1, 1) := by decide +kernel
theorem dX7_barred_31 : decode cX7_barred 31 = .ok (.iadd, 1) := by decide +kernel
theorem dX7_barred_32 : decode cX7_barred 32 = .ok (.if_icmp .ne 7, 3) := by decide +kernel
theorem dX7_barred_35 : decode cX7_barred 35 = .ok (.iconst 2, 1) := by decide +kernel
theorem dX7_barred_36 : decode cX7_barred 36 = .ok (.goto 4, 3) := by decide +kernel
theorem dX7_barred_39 : decode cX7_barred 39 = .ok (.iconst 0, 1) := by decide +kernel
theorem dX7_barred_40 : decode cX7_barred 40 = .ok (.ireturn, 1) := by decide +kernel
theorem dX7_enters_0 : decode cX7_enters 0 = .ok (.bipush 59, 2) := by decide +kernel
theorem dX7_enters_2 : decode cX7_enters 2 = .ok (.istore 5, 2) := by decide +kernel
theorem dX7_enters_4 : decode cX7_enters 4 = .ok (.iload 5, 2) := by decide +kernel
theorem dX7_enters_6 : decode cX7_enters 6 = .ok (.bipush 6, 2) := by decide +kernel
theorem dX7_enters_8 : decode cX7_enters 8 = .ok (.if_icmp .lt 34, 3) := by decide +kernel
theorem dX7_enters_11 : decode cX7_enters 11 = .ok (.aload_n 0, 1) := by decide +kernel
theorem dX7_enters_12 : decode cX7_enters 12 = .ok (.getfield 7, 3) := by decide +kernel
theorem dX7_enters_15 : decode cX7_enters 15 = .ok (.sipush 340, 3) := by decide +kernel
theorem dX7_enters_18 : decode cX7_enters 18 = .ok (.iload 5, 2) := by decide +kernel
theorem dX7_enters_20 : decode cX7_enters 20 = .ok (.iadd, 1) := by decide +kernel
theorem dX7_enters_21 : decode cX7_enters 21 = .ok (.aload_n 0, 1) := by decide +kernel
theorem dX7_enters_22 : decode cX7_enters 22 = .ok (.getfield 7, 3) := by decide +kernel
theorem dX7_enters_25 : decode cX7_enters 25 = .ok (.sipush 340, 3) := by decide +kernel
theorem dX7_enters_28 : decode cX7_enters 28 = .ok (.iload 5, 2) := by decide +kernel
theorem dX7_enters_30 : decode cX7_enters 30 = .ok (.iadd, 1) := by decide +kernel
theorem dX7_enters_31 : decode cX7_enters 31 = .ok (.bipush 6, 2) := by decide +kernel
theorem dX7_enters_33 : decode cX7_enters 33 = .ok (.isub, 1) := by decide +kernel
theorem dX7_enters_34 : decode cX7_enters 34 = .ok (.iaload, 1) := by decide +kernel
theorem dX7_enters_35 : decode cX7_enters 35 = .ok (.iastore, 1) := by decide +kernel
theorem dX7_enters_36 : decode cX7_enters 36 = .ok (.iinc 5 (-1), 3) := by decide +kernel
theorem dX7_enters_39 : decode cX7_enters 39 = .ok (.goto (-35), 3) := by decide +kernel
theorem dX7_enters_42 : decode cX7_enters 42 = .ok (.aload_n 0, 1) := by decide +kernel
theorem dX7_enters_43 : decode cX7_enters 43 = .ok (.getfield 7, 3) := by decide +kernel
theorem dX7_enters_46 : decode cX7_enters 46 = .ok (.sipush 340, 3) := by decide +kernel
theorem dX7_enters_49 : decode cX7_enters 49 = .ok (.aload_n 0, 1) := by decide +kernel
theorem dX7_enters_50 : decode cX7_enters 50 = .ok (.getfield 7, 3) := by decide +kernel
theorem dX7_enters_53 : decode cX7_enters 53 = .ok (.sipush 400, 3) := by decide +kernel
theorem dX7_enters_56 : decode cX7_enters 56 = .ok (.iaload, 1) := by decide +kernel
theorem dX7_enters_57 : decode cX7_enters 57 = .ok (.iastore, 1) := by decide +kernel
theorem dX7_enters_58 : decode cX7_enters 58 = .ok (.aload_n 0, 1) := by decide +kernel
theorem dX7_enters_59 : decode cX7_enters 59 = .ok (.getfield 7, 3) := by decide +kernel
theorem dX7_enters_62 : decode cX7_enters 62 = .ok (.sipush 341, 3) := by decide +kernel
theorem dX7_enters_65 : decode cX7_enters 65 = .ok (.iload_n 1, 1) := by decide +kernel
theorem dX7_enters_66 : decode cX7_enters 66 = .ok (.iastore, 1) := by decide +kernel
theorem dX7_enters_67 : decode cX7_enters 67 = .ok (.aload_n 0, 1) := by decide +kernel
theorem dX7_enters_68 : decode cX7_enters 68 = .ok (.getfield 7, 3) := by decide +kernel
theorem dX7_enters_71 : decode cX7_enters 71 = .ok (.sipush 342, 3) := by decide +kernel
theorem dX7_enters_74 : decode cX7_enters 74 = .ok (.iload_n 2, 1) := by decide +kernel
theorem dX7_enters_75 : decode cX7_enters 75 = .ok (.iastore, 1) := by decide +kernel
theorem dX7_enters_76 : decode cX7_enters 76 = .ok (.aload_n 0, 1) := by decide +kernel
theorem dX7_enters_77 : decode cX7_enters 77 = .ok (.getfield 7, 3) := by decide +kernel
theorem dX7_enters_80 : decode cX7_enters 80 = .ok (.sipush 343, 3) := by decide +kernel
theorem dX7_enters_83 : decode cX7_enters 83 = .ok (.iload_n 3, 1) := by decide +kernel
theorem dX7_enters_84 : decode cX7_enters 84 = .ok (.iastore, 1) := by decide +kernel
theorem dX7_enters_85 : decode cX7_enters 85 = .ok (.aload_n 0, 1) := by decide +kernel
theorem dX7_enters_86 : decode cX7_enters 86 = .ok (.getfield 7, 3) := by decide +kernel
theorem dX7_enters_89 : decode cX7_enters 89 = .ok (.sipush 344, 3) := by decide +kernel
theorem dX7_enters_92 : decode cX7_enters 92 = .ok (.iload_n 2, 1) := by decide +kernel
theorem dX7_enters_93 : decode cX7_enters 93 = .ok (.bipush 100, 2) := by decide +kernel
theorem dX7_enters_95 : decode cX7_enters 95 = .ok (.irem, 1) := by decide +kernel
theorem dX7_enters_96 : decode cX7_enters 96 = .ok (.ifCond .ne 7, 3) := by decide +kernel
theorem dX7_enters_99 : decode cX7_enters 99 = .ok (.iconst 2, 1) := by decide +kernel
theorem dX7_enters_100 : decode cX7_enters 100 = .ok (.goto 16, 3) := by decide +kernel
theorem dX7_enters_103 : decode cX7_enters 103 = .ok (.bipush 100, 2) := by decide +kernel
theorem dX7_enters_105 : decode cX7_enters 105 = .ok (.iload_n 3, 1) := by decide +kernel
theorem dX7_enters_106 : decode cX7_enters 106 = .ok (.imul, 1) := by decide +kernel
theorem dX7_enters_107 : decode cX7_enters 107 = .ok (.iload_n 2, 1) := by decide +kernel
theorem dX7_enters_108 : decode cX7_enters 108 = .ok (.if_icmp .le 7, 3) := by decide +kernel
theorem dX7_enters_111 : decode cX7_enters 111 = .ok (.iconst 1, 1) := by decide +kernel
theorem dX7_enters_112 : decode cX7_enters 112 = .ok (.goto 4, 3) := by decide +kernel
theorem dX7_enters_115 : decode cX7_enters 115 = .ok (.iconst 0, 1) := by decide +kernel
theorem dX7_enters_116 : decode cX7_enters 116 = .ok (.iastore, 1) := by decide +kernel
theorem dX7_enters_117 : decode cX7_enters 117 = .ok (.aload_n 0, 1) := by decide +kernel
theorem dX7_enters_118 : decode cX7_enters 118 = .ok (.getfield 7, 3) := by decide +kernel
theorem dX7_enters_121 : decode cX7_enters 121 = .ok (.sipush 345, 3) := by decide +kernel
theorem dX7_enters_124 : decode cX7_enters 124 = .ok (.sipush 1000, 3) := by decide +kernel
theorem dX7_enters_127 : decode cX7_enters 127 = .ok (.iload 4, 2) := by decide +kernel
theorem dX7_enters_129 : decode cX7_enters 129 = .ok (.iadd, 1) := by decide +kernel
theorem dX7_enters_130 : decode cX7_enters 130 = .ok (.iastore, 1) := by decide +kernel
theorem dX7_enters_131 : decode cX7_enters 131 = .ok (.aload_n 0, 1) := by decide +kernel
theorem dX7_enters_132 : decode cX7_enters 132 = .ok (.getfield 7, 3) := by decide +kernel
theorem dX7_enters_135 : decode cX7_enters 135 = .ok (.sipush 409, 3) := by decide +kernel
theorem dX7_enters_138 : decode cX7_enters 138 = .ok (.dup2, 1) := by decide +kernel
theorem dX7_enters_139 : decode cX7_enters 139 = .ok (.iaload, 1) := by decide +kernel
theorem dX7_enters_140 : decode cX7_enters 140 = .ok (.aload_n 0, 1) := by decide +kernel
theorem dX7_enters_141 : decode cX7_enters 141 = .ok (.getfield 7, 3) := by decide +kernel
theorem dX7_enters_144 : decode cX7_enters 144 = .ok (.sipush 409, 3) := by decide +kernel
theorem dX7_enters_147 : decode cX7_enters 147 = .ok (.iaload, 1) := by decide +kernel
theorem dX7_enters_148 : decode cX7_enters 148 = .ok (.bipush 10, 2) := by decide +kernel
theorem dX7_enters_150 : decode cX7_enters 150 = .ok (.if_icmp .ge 7, 3) := by decide +kernel
theorem dX7_enters_153 : decode cX7_enters 153 = .ok (.iconst 1, 1) := by decide +kernel
theorem dX7_enters_154 : decode cX7_enters 154 = .ok (.goto 4, 3) := by decide +kernel
theorem dX7_enters_157 : decode cX7_enters 157 = .ok (.iconst 0, 1) := by decide +kernel
theorem dX7_enters_158 : decode cX7_enters 158 = .ok (.iadd, 1) := by decide +kernel
theorem dX7_enters_159 : decode cX7_enters 159 = .ok (.iastore, 1) := by decide +kernel
theorem dX7_enters_160 : decode cX7_enters 160 = .ok (.return_, 1) := by decide +kernel
set_option maxRecDepth 20000 in
theorem ggX7_reads_X7_used : GoodIn wsX7_reads wsX7_used := goodIn_r _ [6, 7, 8, 9, 10, 5, 11, 1, 32, 33, 34, 35, 36, 37, 38, 39, 40, 41, 42, 43, 44, 45, 46, 47] (by decide +kernel) (by decide +kernel)
set_option maxRecDepth 20000 in
theorem gX7_reads_X7_used : GoodIn wsX7_reads (wsV RX7 49 RX7 yX7_used wsX7_used) := goodIn_app (goodIn_of _ (by decide +kernel)) ggX7_reads_X7_used
set_option maxRecDepth 20000 in
theorem ggX7_reads_X7_unitsOf : GoodIn wsX7_reads wsX7_unitsOf := goodIn_r _ [15, 2, 3, 4, 5, 6, 7, 8, 9, 10, 11, 1, 32, 33, 34, 35, 36, 37, 38, 39, 40, 41, 42, 43, 44, 45, 46, 47] (by decide +kernel) (by decide +kernel)
set_option maxRecDepth 20000 in
theorem gX7_reads_X7_unitsOf : GoodIn wsX7_reads (wsV RX7 53 RX7 yX7_unitsOf wsX7_unitsOf) := goodIn_app (goodIn_of _ (by decide +kernel)) ggX7_reads_X7_unitsOf
set_option maxRecDepth 20000 in
theorem ggX7_reads_X7_balanceThen : GoodIn wsX7_reads wsX7_balanceThen := goodIn_r _ [19, 8, 9, 10, 5, 11, 1, 12, 13, 14, 15, 2, 3, 4, 6, 7, 32, 33, 34, 35, 36, 37, 38, 39, 40, 41, 42, 43, 44, 45, 46, 47] (by decide +kernel) (by decide +kernel)
set_option maxRecDepth 20000 in
theorem gX7_reads_X7_balanceThen : GoodIn wsX7_reads (wsV RX7 56 RX7 yX7_balanceThen wsX7_balanceThen) := goodIn_app (goodIn_of _ (by decide +kernel)) ggX7_reads_X7_balanceThen
set_option maxRecDepth 20000 in
theorem ggX7_reads_X7_lay : GoodIn wsX7_reads wsX7_lay := goodIn_r _ [23, 1, 32, 33, 34, 35, 36, 37, 38, 39, 40, 41, 42, 43, 44, 45, 46, 47] (by decide +kernel) (by decide +kernel)
set_option maxRecDepth 20000 in
theorem gX7_reads_X7_lay : GoodIn wsX7_reads (wsV RX7 59 RX7 yX7_lay wsX7_lay) := goodIn_app (goodIn_of _ (by decide +kernel)) ggX7_reads_X7_lay
set_option maxRecDepth 20000 in
theorem ggX7_reads_X7_of : GoodIn wsX7_reads wsX7_of := goodIn_r _ [11, 1, 32, 33, 34, 35, 36, 37, 38, 39, 40, 41, 42, 43, 44, 45, 46, 47] (by decide +kernel) (by decide +kernel)
set_option maxRecDepth 20000 in
theorem gX7_reads_X7_of : GoodIn wsX7_reads (wsV RX7 43 RX7 yX7_of wsX7_of) := goodIn_app (goodIn_of _ (by decide +kernel)) ggX7_reads_X7_of
set_option maxRecDepth 20000 in
theorem ggX7_reads_X7_adds : GoodIn wsX7_reads wsX7_adds := goodIn_r _ [27, 1, 32, 33, 34, 35, 36, 37, 38, 39, 40, 41, 42, 43, 44, 45, 46, 47] (by decide +kernel) (by decide +kernel)
set_option maxRecDepth 20000 in
theorem gX7_reads_X7_adds : GoodIn wsX7_reads (wsV RX7 63 RX7 yX7_adds wsX7_adds) := goodIn_app (goodIn_of _ (by decide +kernel)) ggX7_reads_X7_adds
set_option maxRecDepth 20000 in
theorem ggX7_reads_X7_enters : GoodIn wsX7_reads wsX7_enters := goodIn_r _ [31, 1, 32, 33, 34, 35, 36, 37, 38, 39, 40, 41, 42, 43, 44, 45, 46, 47] (by decide +kernel) (by decide +kernel)
set_option maxRecDepth 20000 in
theorem gX7_reads_X7_enters : GoodIn wsX7_reads (wsV RX7 66 RX7 yX7_enters wsX7_enters) := goodIn_app (goodIn_of _ (by decide +kernel)) ggX7_reads_X7_enters
theorem dX7_reads_0 : decode cX7_reads 0 = .ok (.aload_n 0, 1) := by decide +kernel
theorem dX7_reads_1 : decode cX7_reads 1 = .ok (.iload_n 1, 1) := by decide +kernel
theorem dX7_reads_2 : decode cX7_reads 2 = .ok (.invokevirtual 49, 3) := by decide +kernel
theorem dX7_reads_5 : decode cX7_reads 5 = .ok (.istore_n 2, 1) := by decide +kernel
theorem dX7_reads_6 : decode cX7_reads 6 = .ok (.aload_n 0, 1) := by decide +kernel
theorem dX7_reads_7 : decode cX7_reads 7 = .ok (.iload_n 1, 1) := by decide +kernel
theorem dX7_reads_8 : decode cX7_reads 8 = .ok (.invokevirtual 53, 3) := by decide +kernel
theorem dX7_reads_11 : decode cX7_reads 11 = .ok (.istore_n 3, 1) := by decide +kernel
theorem dX7_reads_12 : decode cX7_reads 12 = .ok (.aload_n 0, 1) := by decide +kernel
theorem dX7_reads_13 : decode cX7_reads 13 = .ok (.iload_n 1, 1) := by decide +kernel
theorem dX7_reads_14 : decode cX7_reads 14 = .ok (.invokevirtual 56, 3) := by decide +kernel
theorem dX7_reads_17 : decode cX7_reads 17 = .ok (.istore 4, 2) := by decide +kernel
theorem dX7_reads_19 : decode cX7_reads 19 = .ok (.aload_n 0, 1) := by decide +kernel
theorem dX7_reads_20 : decode cX7_reads 20 = .ok (.iload_n 1, 1) := by decide +kernel
theorem dX7_reads_21 : decode cX7_reads 21 = .ok (.iconst 4, 1) := by decide +kernel
theorem dX7_reads_22 : decode cX7_reads 22 = .ok (.iload 4, 2) := by decide +kernel
theorem dX7_reads_24 : decode cX7_reads 24 = .ok (.invokevirtual 59, 3) := by decide +kernel
theorem dX7_reads_27 : decode cX7_reads 27 = .ok (.aload_n 0, 1) := by decide +kernel
theorem dX7_reads_28 : decode cX7_reads 28 = .ok (.iload_n 1, 1) := by decide +kernel
theorem dX7_reads_29 : decode cX7_reads 29 = .ok (.iconst 3, 1) := by decide +kernel
theorem dX7_reads_30 : decode cX7_reads 30 = .ok (.aload_n 0, 1) := by decide +kernel
theorem dX7_reads_31 : decode cX7_reads 31 = .ok (.iload_n 1, 1) := by decide +kernel
theorem dX7_reads_32 : decode cX7_reads 32 = .ok (.iconst 2, 1) := by decide +kernel
theorem dX7_reads_33 : decode cX7_reads 33 = .ok (.invokevirtual 43, 3) := by decide +kernel
theorem dX7_reads_36 : decode cX7_reads 36 = .ok (.invokevirtual 59, 3) := by decide +kernel
theorem dX7_reads_39 : decode cX7_reads 39 = .ok (.aload_n 0, 1) := by decide +kernel
theorem dX7_reads_40 : decode cX7_reads 40 = .ok (.iload_n 1, 1) := by decide +kernel
theorem dX7_reads_41 : decode cX7_reads 41 = .ok (.bipush 7, 2) := by decide +kernel
theorem dX7_reads_43 : decode cX7_reads 43 = .ok (.aload_n 0, 1) := by decide +kernel
theorem dX7_reads_44 : decode cX7_reads 44 = .ok (.getfield 7, 3) := by decide +kernel
theorem dX7_reads_47 : decode cX7_reads 47 = .ok (.sipush 400, 3) := by decide +kernel
theorem dX7_reads_50 : decode cX7_reads 50 = .ok (.iaload, 1) := by decide +kernel
theorem dX7_reads_51 : decode cX7_reads 51 = .ok (.iconst 1, 1) := by decide +kernel
theorem dX7_reads_52 : decode cX7_reads 52 = .ok (.iadd, 1) := by decide +kernel
theorem dX7_reads_53 : decode cX7_reads 53 = .ok (.invokevirtual 59, 3) := by decide +kernel
theorem dX7_reads_56 : decode cX7_reads 56 = .ok (.aload_n 0, 1) := by decide +kernel
theorem dX7_reads_57 : decode cX7_reads 57 = .ok (.iload_n 1, 1) := by decide +kernel
theorem dX7_reads_58 : decode cX7_reads 58 = .ok (.bipush 8, 2) := by decide +kernel
theorem dX7_reads_60 : decode cX7_reads 60 = .ok (.iconst 1, 1) := by decide +kernel
theorem dX7_reads_61 : decode cX7_reads 61 = .ok (.invokevirtual 63, 3) := by decide +kernel
theorem dX7_reads_64 : decode cX7_reads 64 = .ok (.aload_n 0, 1) := by decide +kernel
theorem dX7_reads_65 : decode cX7_reads 65 = .ok (.iload_n 1, 1) := by decide +kernel
theorem dX7_reads_66 : decode cX7_reads 66 = .ok (.bipush 9, 2) := by decide +kernel
theorem dX7_reads_68 : decode cX7_reads 68 = .ok (.iload_n 3, 1) := by decide +kernel
theorem dX7_reads_69 : decode cX7_reads 69 = .ok (.invokevirtual 63, 3) := by decide +kernel
theorem dX7_reads_72 : decode cX7_reads 72 = .ok (.aload_n 0, 1) := by decide +kernel
theorem dX7_reads_73 : decode cX7_reads 73 = .ok (.iload_n 1, 1) := by decide +kernel
theorem dX7_reads_74 : decode cX7_reads 74 = .ok (.bipush 10, 2) := by decide +kernel
theorem dX7_reads_76 : decode cX7_reads 76 = .ok (.iload 4, 2) := by decide +kernel
theorem dX7_reads_78 : decode cX7_reads 78 = .ok (.ifCond .le 7, 3) := by decide +kernel
theorem dX7_reads_81 : decode cX7_reads 81 = .ok (.iconst 1, 1) := by decide +kernel
theorem dX7_reads_82 : decode cX7_reads 82 = .ok (.goto 4, 3) := by decide +kernel
theorem dX7_reads_85 : decode cX7_reads 85 = .ok (.iconst 0, 1) := by decide +kernel
theorem dX7_reads_86 : decode cX7_reads 86 = .ok (.invokevirtual 63, 3) := by decide +kernel
theorem dX7_reads_89 : decode cX7_reads 89 = .ok (.aload_n 0, 1) := by decide +kernel
theorem dX7_reads_90 : decode cX7_reads 90 = .ok (.iload_n 1, 1) := by decide +kernel
theorem dX7_reads_91 : decode cX7_reads 91 = .ok (.bipush 11, 2) := by decide +kernel
theorem dX7_reads_93 : decode cX7_reads 93 = .ok (.iload 4, 2) := by decide +kernel
theorem dX7_reads_95 : decode cX7_reads 95 = .ok (.ifCond .ge 7, 3) := by decide +kernel
theorem dX7_reads_98 : decode cX7_reads 98 = .ok (.iconst 1, 1) := by decide +kernel
theorem dX7_reads_99 : decode cX7_reads 99 = .ok (.goto 4, 3) := by decide +kernel
theorem dX7_reads_102 : decode cX7_reads 102 = .ok (.iconst 0, 1) := by decide +kernel
theorem dX7_reads_103 : decode cX7_reads 103 = .ok (.invokevirtual 63, 3) := by decide +kernel
theorem dX7_reads_106 : decode cX7_reads 106 = .ok (.aload_n 0, 1) := by decide +kernel
theorem dX7_reads_107 : decode cX7_reads 107 = .ok (.getfield 7, 3) := by decide +kernel
theorem dX7_reads_110 : decode cX7_reads 110 = .ok (.sipush 402, 3) := by decide +kernel
theorem dX7_reads_113 : decode cX7_reads 113 = .ok (.dup2, 1) := by decide +kernel
theorem dX7_reads_114 : decode cX7_reads 114 = .ok (.iaload, 1) := by decide +kernel
theorem dX7_reads_115 : decode cX7_reads 115 = .ok (.iconst 1, 1) := by decide +kernel
theorem dX7_reads_116 : decode cX7_reads 116 = .ok (.iadd, 1) := by decide +kernel
theorem dX7_reads_117 : decode cX7_reads 117 = .ok (.iastore, 1) := by decide +kernel
theorem dX7_reads_118 : decode cX7_reads 118 = .ok (.aload_n 0, 1) := by decide +kernel
theorem dX7_reads_119 : decode cX7_reads 119 = .ok (.getfield 7, 3) := by decide +kernel
theorem dX7_reads_122 : decode cX7_reads 122 = .ok (.sipush 403, 3) := by decide +kernel
theorem dX7_reads_125 : decode cX7_reads 125 = .ok (.dup2, 1) := by decide +kernel
theorem dX7_reads_126 : decode cX7_reads 126 = .ok (.iaload, 1) := by decide +kernel
theorem dX7_reads_127 : decode cX7_reads 127 = .ok (.iload_n 3, 1) := by decide +kernel
theorem dX7_reads_128 : decode cX7_reads 128 = .ok (.iadd, 1) := by decide +kernel
theorem dX7_reads_129 : decode cX7_reads 129 = .ok (.iastore, 1) := by decide +kernel
theorem dX7_reads_130 : decode cX7_reads 130 = .ok (.aload_n 0, 1) := by decide +kernel
theorem dX7_reads_131 : decode cX7_reads 131 = .ok (.getfield 7, 3) := by decide +kernel
theorem dX7_reads_134 : decode cX7_reads 134 = .ok (.sipush 404, 3) := by decide +kernel
theorem dX7_reads_137 : decode cX7_reads 137 = .ok (.dup2, 1) := by decide +kernel
theorem dX7_reads_138 : decode cX7_reads 138 = .ok (.iaload, 1) := by decide +kernel
theorem dX7_reads_139 : decode cX7_reads 139 = .ok (.iload_n 3, 1) := by decide +kernel
theorem dX7_reads_140 : decode cX7_reads 140 = .ok (.aload_n 0, 1) := by decide +kernel
theorem dX7_reads_141 : decode cX7_reads 141 = .ok (.getfield 7, 3) := by decide +kernel
theorem dX7_reads_144 : decode cX7_reads 144 = .ok (.sipush 411, 3) := by decide +kernel
theorem dX7_reads_147 : decode cX7_reads 147 = .ok (.iaload, 1) := by decide +kernel
theorem dX7_reads_148 : decode cX7_reads 148 = .ok (.imul, 1) := by decide +kernel
theorem dX7_reads_149 : decode cX7_reads 149 = .ok (.iadd, 1) := by decide +kernel
theorem dX7_reads_150 : decode cX7_reads 150 = .ok (.iastore, 1) := by decide +kernel
theorem dX7_reads_151 : decode cX7_reads 151 = .ok (.aload_n 0, 1) := by decide +kernel
theorem dX7_reads_152 : decode cX7_reads 152 = .ok (.getfield 7, 3) := by decide +kernel
theorem dX7_reads_155 : decode cX7_reads 155 = .ok (.sipush 405, 3) := by decide +kernel
theorem dX7_reads_158 : decode cX7_reads 158 = .ok (.dup2, 1) := by decide +kernel
theorem dX7_reads_159 : decode cX7_reads 159 = .ok (.iaload, 1) := by decide +kernel
theorem dX7_reads_160 : decode cX7_reads 160 = .ok (.iload_n 2, 1) := by decide +kernel
theorem dX7_reads_161 : decode cX7_reads 161 = .ok (.iadd, 1) := by decide +kernel
theorem dX7_reads_162 : decode cX7_reads 162 = .ok (.iastore, 1) := by decide +kernel
theorem dX7_reads_163 : decode cX7_reads 163 = .ok (.aload_n 0, 1) := by decide +kernel
theorem dX7_reads_164 : decode cX7_reads 164 = .ok (.iload_n 1, 1) := by decide +kernel
theorem dX7_reads_165 : decode cX7_reads 165 = .ok (.iload_n 2, 1) := by decide +kernel
theorem dX7_reads_166 : decode cX7_reads 166 = .ok (.iload_n 3, 1) := by decide +kernel
theorem dX7_reads_167 : decode cX7_reads 167 = .ok (.iload 4, 2) := by decide +kernel
theorem dX7_reads_169 : decode cX7_reads 169 = .ok (.invokevirtual 66, 3) := by decide +kernel
theorem dX7_reads_172 : decode cX7_reads 172 = .ok (.iload_n 3, 1) := by decide +kernel
theorem dX7_reads_173 : decode cX7_reads 173 = .ok (.ireturn, 1) := by decide +kernel
set_option maxRecDepth 20000 in
theorem ggX7_turn_X7_of : GoodIn wsX7_turn wsX7_of := goodIn_r _ [5, 6, 7, 8, 9, 10, 11, 12, 13, 14, 15, 16, 17, 18, 19, 20, 21, 22] (by decide +kernel) (by decide +kernel)
set_option maxRecDepth 20000 in
theorem gX7_turn_X7_of : GoodIn wsX7_turn (wsV RX7 43 RX7 yX7_of wsX7_of) := goodIn_app (goodIn_of _ (by decide +kernel)) ggX7_turn_X7_of
theorem dX7_turn_0 : decode cX7_turn 0 = .ok (.aload_n 0, 1) := by decide +kernel
theorem dX7_turn_1 : decode cX7_turn 1 = .ok (.iload_n 1, 1) := by decide +kernel
theorem dX7_turn_2 : decode cX7_turn 2 = .ok (.iconst 1, 1) := by decide +kernel
theorem dX7_turn_3 : decode cX7_turn 3 = .ok (.invokevirtual 43, 3) := by decide +kernel
theorem dX7_turn_6 : decode cX7_turn 6 = .ok (.istore_n 2, 1) := by decide +kernel
theorem dX7_turn_7 : decode cX7_turn 7 = .ok (.iload_n 2, 1) := by decide +kernel
theorem dX7_turn_8 : decode cX7_turn 8 = .ok (.iconst 2, 1) := by decide +kernel
theorem dX7_turn_9 : decode cX7_turn 9 = .ok (.irem, 1) := by decide +kernel
theorem dX7_turn_10 : decode cX7_turn 10 = .ok (.iconst 1, 1) := by decide +kernel
theorem dX7_turn_11 : decode cX7_turn 11 = .ok (.if_icmp .ne 7, 3) := by decide +kernel
theorem dX7_turn_14 : decode cX7_turn 14 = .ok (.iload_n 2, 1) := by decide +kernel
theorem dX7_turn_15 : decode cX7_turn 15 = .ok (.goto 7, 3) := by decide +kernel
theorem dX7_turn_18 : decode cX7_turn 18 = .ok (.bipush 100, 2) := by decide +kernel
theorem dX7_turn_20 : decode cX7_turn 20 = .ok (.iload_n 2, 1) := by decide +kernel
theorem dX7_turn_21 : decode cX7_turn 21 = .ok (.isub, 1) := by decide +kernel
theorem dX7_turn_22 : decode cX7_turn 22 = .ok (.ireturn, 1) := by decide +kernel
set_option maxRecDepth 20000 in
theorem ggX7_rounds_X7_of : GoodIn wsX7_rounds wsX7_of := goodIn_r _ [7, 1, 16, 17, 18, 19, 20, 21, 22, 23, 24, 25, 26, 27, 28, 29, 30, 31] (by decide +kernel) (by decide +kernel)
set_option maxRecDepth 20000 in
theorem gX7_rounds_X7_of : GoodIn wsX7_rounds (wsV RX7 43 RX7 yX7_of wsX7_of) := goodIn_app (goodIn_of _ (by decide +kernel)) ggX7_rounds_X7_of
set_option maxRecDepth 20000 in
theorem ggX7_rounds_X7_turn : GoodIn wsX7_rounds wsX7_turn := goodIn_r _ [11, 3, 4, 5, 6, 7, 1, 16, 17, 18, 19, 20, 21, 22, 23, 24, 25, 26, 27, 28, 29, 30, 31] (by decide +kernel) (by decide +kernel)
set_option maxRecDepth 20000 in
theorem gX7_rounds_X7_turn : GoodIn wsX7_rounds (wsV RX7 70 RX7 yX7_turn wsX7_turn) := goodIn_app (goodIn_of _ (by decide +kernel)) ggX7_rounds_X7_turn
set_option maxRecDepth 20000 in
theorem ggX7_rounds_X7_rankOf : GoodIn wsX7_rounds wsX7_rankOf := goodIn_r _ [15, 1, 8, 9, 10, 6, 11, 3, 4, 5, 7, 16, 17, 18, 19, 20, 21, 22, 23, 24, 25, 26, 27, 28, 29, 30, 31] (by decide +kernel) (by decide +kernel)
set_option maxRecDepth 20000 in
theorem gX7_rounds_X7_rankOf : GoodIn wsX7_rounds (wsV RX7 73 RX7 yX7_rankOf wsX7_rankOf) := goodIn_app (goodIn_of _ (by decide +kernel)) ggX7_rounds_X7_rankOf
theorem dX7_rounds_0 : decode cX7_rounds 0 = .ok (.iconst 0, 1) := by decide +kernel
theorem dX7_rounds_1 : decode cX7_rounds 1 = .ok (.istore_n 2, 1) := by decide +kernel
theorem dX7_rounds_2 : decode cX7_rounds 2 = .ok (.iconst 0, 1) := by decide +kernel
theorem dX7_rounds_3 : decode cX7_rounds 3 = .ok (.istore_n 3, 1) := by decide +kernel
theorem dX7_rounds_4 : decode cX7_rounds 4 = .ok (.iload_n 3, 1) := by decide +kernel
theorem dX7_rounds_5 : decode cX7_rounds 5 = .ok (.aload_n 0, 1) := by decide +kernel
theorem dX7_rounds_6 : decode cX7_rounds 6 = .ok (.getfield 7, 3) := by decide +kernel
theorem dX7_rounds_9 : decode cX7_rounds 9 = .ok (.sipush 401, 3) := by decide +kernel
theorem dX7_rounds_12 : decode cX7_rounds 12 = .ok (.iaload, 1) := by decide +kernel
theorem dX7_rounds_13 : decode cX7_rounds 13 = .ok (.if_icmp .ge 27, 3) := by decide +kernel
theorem dX7_rounds_16 : decode cX7_rounds 16 = .ok (.iload_n 2, 1) := by decide +kernel
theorem dX7_rounds_17 : decode cX7_rounds 17 = .ok (.aload_n 0, 1) := by decide +kernel
theorem dX7_rounds_18 : decode cX7_rounds 18 = .ok (.iload_n 3, 1) := by decide +kernel
theorem dX7_rounds_19 : decode cX7_rounds 19 = .ok (.iconst 0, 1) := by decide +kernel
theorem dX7_rounds_20 : decode cX7_rounds 20 = .ok (.invokevirtual 43, 3) := by decide +kernel
theorem dX7_rounds_23 : decode cX7_rounds 23 = .ok (.iload_n 1, 1) := by decide +kernel
theorem dX7_rounds_24 : decode cX7_rounds 24 = .ok (.if_icmp .ne 7, 3) := by decide +kernel
theorem dX7_rounds_27 : decode cX7_rounds 27 = .ok (.iconst 1, 1) := by decide +kernel
theorem dX7_rounds_28 : decode cX7_rounds 28 = .ok (.goto 4, 3) := by decide +kernel
theorem dX7_rounds_31 : decode cX7_rounds 31 = .ok (.iconst 0, 1) := by decide +kernel
theorem dX7_rounds_32 : decode cX7_rounds 32 = .ok (.iadd, 1) := by decide +kernel
theorem dX7_rounds_33 : decode cX7_rounds 33 = .ok (.istore_n 2, 1) := by decide +kernel
theorem dX7_rounds_34 : decode cX7_rounds 34 = .ok (.iinc 3 1, 3) := by decide +kernel
theorem dX7_rounds_37 : decode cX7_rounds 37 = .ok (.goto (-33), 3) := by decide +kernel
theorem dX7_rounds_40 : decode cX7_rounds 40 = .ok (.aload_n 0, 1) := by decide +kernel
theorem dX7_rounds_41 : decode cX7_rounds 41 = .ok (.getfield 7, 3) := by decide +kernel
theorem dX7_rounds_44 : decode cX7_rounds 44 = .ok (.sipush 336, 3) := by decide +kernel
theorem dX7_rounds_47 : decode cX7_rounds 47 = .ok (.iload_n 1, 1) := by decide +kernel
theorem dX7_rounds_48 : decode cX7_rounds 48 = .ok (.iadd, 1) := by decide +kernel
theorem dX7_rounds_49 : decode cX7_rounds 49 = .ok (.iaload, 1) := by decide +kernel
theorem dX7_rounds_50 : decode cX7_rounds 50 = .ok (.iconst 1, 1) := by decide +kernel
theorem dX7_rounds_51 : decode cX7_rounds 51 = .ok (.isub, 1) := by decide +kernel
theorem dX7_rounds_52 : decode cX7_rounds 52 = .ok (.istore_n 3, 1) := by decide +kernel
theorem dX7_rounds_53 : decode cX7_rounds 53 = .ok (.iload_n 3, 1) := by decide +kernel
theorem dX7_rounds_54 : decode cX7_rounds 54 = .ok (.ifCond .ge 7, 3) := by decide +kernel
theorem dX7_rounds_57 : decode cX7_rounds 57 = .ok (.iconst 0, 1) := by decide +kernel
theorem dX7_rounds_58 : decode cX7_rounds 58 = .ok (.goto 8, 3) := by decide +kernel
theorem dX7_rounds_61 : decode cX7_rounds 61 = .ok (.aload_n 0, 1) := by decide +kernel
theorem dX7_rounds_62 : decode cX7_rounds 62 = .ok (.iload_n 3, 1) := by decide +kernel
theorem dX7_rounds_63 : decode cX7_rounds 63 = .ok (.invokevirtual 70, 3) := by decide +kernel
theorem dX7_rounds_66 : decode cX7_rounds 66 = .ok (.istore 4, 2) := by decide +kernel
theorem dX7_rounds_68 : decode cX7_rounds 68 = .ok (.iconst 0, 1) := by decide +kernel
theorem dX7_rounds_69 : decode cX7_rounds 69 = .ok (.istore 5, 2) := by decide +kernel
theorem dX7_rounds_71 : decode cX7_rounds 71 = .ok (.iload 5, 2) := by decide +kernel
theorem dX7_rounds_73 : decode cX7_rounds 73 = .ok (.aload_n 0, 1) := by decide +kernel
theorem dX7_rounds_74 : decode cX7_rounds 74 = .ok (.getfield 7, 3) := by decide +kernel
theorem dX7_rounds_77 : decode cX7_rounds 77 = .ok (.sipush 401, 3) := by decide +kernel
theorem dX7_rounds_80 : decode cX7_rounds 80 = .ok (.iaload, 1) := by decide +kernel
theorem dX7_rounds_81 : decode cX7_rounds 81 = .ok (.if_icmp .ge 36, 3) := by decide +kernel
theorem dX7_rounds_84 : decode cX7_rounds 84 = .ok (.aload_n 0, 1) := by decide +kernel
theorem dX7_rounds_85 : decode cX7_rounds 85 = .ok (.iload 5, 2) := by decide +kernel
theorem dX7_rounds_87 : decode cX7_rounds 87 = .ok (.iconst 0, 1) := by decide +kernel
theorem dX7_rounds_88 : decode cX7_rounds 88 = .ok (.invokevirtual 43, 3) := by decide +kernel
theorem dX7_rounds_91 : decode cX7_rounds 91 = .ok (.iload_n 1, 1) := by decide +kernel
theorem dX7_rounds_92 : decode cX7_rounds 92 = .ok (.if_icmp .ne 19, 3) := by decide +kernel
theorem dX7_rounds_95 : decode cX7_rounds 95 = .ok (.aload_n 0, 1) := by decide +kernel
theorem dX7_rounds_96 : decode cX7_rounds 96 = .ok (.getfield 25, 3) := by decide +kernel
theorem dX7_rounds_99 : decode cX7_rounds 99 = .ok (.aload_n 0, 1) := by decide +kernel
theorem dX7_rounds_100 : decode cX7_rounds 100 = .ok (.iload 5, 2) := by decide +kernel
theorem dX7_rounds_102 : decode cX7_rounds 102 = .ok (.iload_n 1, 1) := by decide +kernel
theorem dX7_rounds_103 : decode cX7_rounds 103 = .ok (.iload 4, 2) := by decide +kernel
theorem dX7_rounds_105 : decode cX7_rounds 105 = .ok (.invokevirtual 73, 3) := by decide +kernel
theorem dX7_rounds_108 : decode cX7_rounds 108 = .ok (.iload 5, 2) := by decide +kernel
theorem dX7_rounds_110 : decode cX7_rounds 110 = .ok (.iastore, 1) := by decide +kernel
theorem dX7_rounds_111 : decode cX7_rounds 111 = .ok (.iinc 5 1, 3) := by decide +kernel
theorem dX7_rounds_114 : decode cX7_rounds 114 = .ok (.goto (-43), 3) := by decide +kernel
theorem dX7_rounds_117 : decode cX7_rounds 117 = .ok (.iload_n 2, 1) := by decide +kernel
theorem dX7_rounds_118 : decode cX7_rounds 118 = .ok (.ireturn, 1) := by decide +kernel
set_option maxRecDepth 20000 in
theorem ggX7_rankOf_X7_turn : GoodIn wsX7_rankOf wsX7_turn := goodIn_r _ [6, 7, 8, 9, 5, 10, 1, 11, 12, 13, 14, 15, 16, 17, 18, 19, 20, 21, 22, 23, 24, 25, 26] (by decide +kernel) (by decide +kernel)
set_option maxRecDepth 20000 in
theorem gX7_rankOf_X7_turn : GoodIn wsX7_rankOf (wsV RX7 70 RX7 yX7_turn wsX7_turn) := goodIn_app (goodIn_of _ (by decide +kernel)) ggX7_rankOf_X7_turn
set_option maxRecDepth 20000 in
theorem ggX7_rankOf_X7_of : GoodIn wsX7_rankOf wsX7_of := goodIn_r _ [10, 1, 11, 12, 13, 14, 15, 16, 17, 18, 19, 20, 21, 22, 23, 24, 25, 26] (by decide +kernel) (by decide +kernel)
set_option maxRecDepth 20000 in
theorem gX7_rankOf_X7_of : GoodIn wsX7_rankOf (wsV RX7 43 RX7 yX7_of wsX7_of) := goodIn_app (goodIn_of _ (by decide +kernel)) ggX7_rankOf_X7_of
theorem dX7_rankOf_0 : decode cX7_rankOf 0 = .ok (.iconst 0, 1) := by decide +kernel
theorem dX7_rankOf_1 : decode cX7_rankOf 1 = .ok (.istore 4, 2) := by decide +kernel
theorem dX7_rankOf_3 : decode cX7_rankOf 3 = .ok (.aload_n 0, 1) := by decide +kernel
theorem dX7_rankOf_4 : decode cX7_rankOf 4 = .ok (.iload_n 1, 1) := by decide +kernel
theorem dX7_rankOf_5 : decode cX7_rankOf 5 = .ok (.invokevirtual 70, 3) := by decide +kernel
theorem dX7_rankOf_8 : decode cX7_rankOf 8 = .ok (.iload_n 3, 1) := by decide +kernel
theorem dX7_rankOf_9 : decode cX7_rankOf 9 = .ok (.isub, 1) := by decide +kernel
theorem dX7_rankOf_10 : decode cX7_rankOf 10 = .ok (.sipush 199, 3) := by decide +kernel
theorem dX7_rankOf_13 : decode cX7_rankOf 13 = .ok (.iadd, 1) := by decide +kernel
theorem dX7_rankOf_14 : decode cX7_rankOf 14 = .ok (.sipush 200, 3) := by decide +kernel
theorem dX7_rankOf_17 : decode cX7_rankOf 17 = .ok (.irem, 1) := by decide +kernel
theorem dX7_rankOf_18 : decode cX7_rankOf 18 = .ok (.istore 5, 2) := by decide +kernel
theorem dX7_rankOf_20 : decode cX7_rankOf 20 = .ok (.iconst 0, 1) := by decide +kernel
theorem dX7_rankOf_21 : decode cX7_rankOf 21 = .ok (.istore 6, 2) := by decide +kernel
theorem dX7_rankOf_23 : decode cX7_rankOf 23 = .ok (.iload 6, 2) := by decide +kernel
theorem dX7_rankOf_25 : decode cX7_rankOf 25 = .ok (.aload_n 0, 1) := by decide +kernel
theorem dX7_rankOf_26 : decode cX7_rankOf 26 = .ok (.getfield 7, 3) := by decide +kernel
theorem dX7_rankOf_29 : decode cX7_rankOf 29 = .ok (.sipush 401, 3) := by decide +kernel
theorem dX7_rankOf_32 : decode cX7_rankOf 32 = .ok (.iaload, 1) := by decide +kernel
theorem dX7_rankOf_33 : decode cX7_rankOf 33 = .ok (.if_icmp .ge 51, 3) := by decide +kernel
theorem dX7_rankOf_36 : decode cX7_rankOf 36 = .ok (.iload 4, 2) := by decide +kernel
theorem dX7_rankOf_38 : decode cX7_rankOf 38 = .ok (.aload_n 0, 1) := by decide +kernel
theorem dX7_rankOf_39 : decode cX7_rankOf 39 = .ok (.iload 6, 2) := by decide +kernel
theorem dX7_rankOf_41 : decode cX7_rankOf 41 = .ok (.iconst 0, 1) := by decide +kernel
theorem dX7_rankOf_42 : decode cX7_rankOf 42 = .ok (.invokevirtual 43, 3) := by decide +kernel
theorem dX7_rankOf_45 : decode cX7_rankOf 45 = .ok (.iload_n 2, 1) := by decide +kernel
theorem dX7_rankOf_46 : decode cX7_rankOf 46 = .ok (.if_icmp .ne 28, 3) := by decide +kernel
theorem dX7_rankOf_49 : decode cX7_rankOf 49 = .ok (.aload_n 0, 1) := by decide +kernel
theorem dX7_rankOf_50 : decode cX7_rankOf 50 = .ok (.iload 6, 2) := by decide +kernel
theorem dX7_rankOf_52 : decode cX7_rankOf 52 = .ok (.invokevirtual 70, 3) := by decide +kernel
theorem dX7_rankOf_55 : decode cX7_rankOf 55 = .ok (.iload_n 3, 1) := by decide +kernel
theorem dX7_rankOf_56 : decode cX7_rankOf 56 = .ok (.isub, 1) := by decide +kernel
theorem dX7_rankOf_57 : decode cX7_rankOf 57 = .ok (.sipush 199, 3) := by decide +kernel
theorem dX7_rankOf_60 : decode cX7_rankOf 60 = .ok (.iadd, 1) := by decide +kernel
theorem dX7_rankOf_61 : decode cX7_rankOf 61 = .ok (.sipush 200, 3) := by decide +kernel
theorem dX7_rankOf_64 : decode cX7_rankOf 64 = .ok (.irem, 1) := by decide +kernel
theorem dX7_rankOf_65 : decode cX7_rankOf 65 = .ok (.iload 5, 2) := by decide +kernel
theorem dX7_rankOf_67 : decode cX7_rankOf 67 = .ok (.if_icmp .ge 7, 3) := by decide +kernel
theorem dX7_rankOf_70 : decode cX7_rankOf 70 = .ok (.iconst 1, 1) := by decide +kernel
theorem dX7_rankOf_71 : decode cX7_rankOf 71 = .ok (.goto 4, 3) := by decide +kernel
theorem dX7_rankOf_74 : decode cX7_rankOf 74 = .ok (.iconst 0, 1) := by decide +kernel
theorem dX7_rankOf_75 : decode cX7_rankOf 75 = .ok (.iadd, 1) := by decide +kernel
theorem dX7_rankOf_76 : decode cX7_rankOf 76 = .ok (.istore 4, 2) := by decide +kernel
theorem dX7_rankOf_78 : decode cX7_rankOf 78 = .ok (.iinc 6 1, 3) := by decide +kernel
theorem dX7_rankOf_81 : decode cX7_rankOf 81 = .ok (.goto (-58), 3) := by decide +kernel
theorem dX7_rankOf_84 : decode cX7_rankOf 84 = .ok (.iload 4, 2) := by decide +kernel
theorem dX7_rankOf_86 : decode cX7_rankOf 86 = .ok (.ireturn, 1) := by decide +kernel
set_option maxRecDepth 20000 in
theorem ggX7_walks_X7_rounds : GoodIn wsX7_walks wsX7_rounds := goodIn_r _ [7, 1, 2, 8, 9, 10, 6, 11, 12, 13, 14, 15, 16, 17, 18, 19, 53, 54, 55, 56, 57, 58, 59, 60, 61, 62, 63, 64, 65, 66, 67, 68] (by decide +kernel) (by decide +kernel)
set_option maxRecDepth 20000 in
theorem gX7_walks_X7_rounds : GoodIn wsX7_walks (wsV RX7 77 RX7 yX7_rounds wsX7_rounds) := goodIn_app (goodIn_of _ (by decide +kernel)) ggX7_walks_X7_rounds
set_option maxRecDepth 20000 in
theorem ggX7_walks_X7_barred : GoodIn wsX7_walks wsX7_barred := goodIn_r _ [23, 1, 8, 9, 10, 6, 11, 53, 54, 55, 56, 57, 58, 59, 60, 61, 62, 63, 64, 65, 66, 67, 68] (by decide +kernel) (by decide +kernel)
set_option maxRecDepth 20000 in
theorem gX7_walks_X7_barred : GoodIn wsX7_walks (wsV RX7 80 RX7 yX7_barred wsX7_barred) := goodIn_app (goodIn_of _ (by decide +kernel)) ggX7_walks_X7_barred
set_option maxRecDepth 20000 in
theorem ggX7_walks_X7_reads : GoodIn wsX7_walks wsX7_reads := goodIn_r _ [27, 1, 28, 29, 30, 6, 31, 32, 8, 9, 10, 11, 33, 34, 35, 36, 37, 38, 39, 40, 41, 42, 43, 44, 45, 46, 47, 48, 49, 50, 51, 52, 53, 54, 55, 56, 57, 58, 59, 60, 61, 62, 63, 64, 65, 66, 67, 68] (by decide +kernel) (by decide +kernel)
set_option maxRecDepth 20000 in
theorem gX7_walks_X7_reads : GoodIn wsX7_walks (wsV RX7 83 RX7 yX7_reads wsX7_reads) := goodIn_app (goodIn_of _ (by decide +kernel)) ggX7_walks_X7_reads
theorem dX7_walks_0 : decode cX7_walks 0 = .ok (.aload_n 0, 1) := by decide +kernel
theorem dX7_walks_1 : decode cX7_walks 1 = .ok (.iload_n 1, 1) := by decide +kernel
theorem dX7_walks_2 : decode cX7_walks 2 = .ok (.invokevirtual 77, 3) := by decide +kernel
theorem dX7_walks_5 : decode cX7_walks 5 = .ok (.istore_n 2, 1) := by decide +kernel
theorem dX7_walks_6 : decode cX7_walks 6 = .ok (.iconst 0, 1) := by decide +kernel
theorem dX7_walks_7 : decode cX7_walks 7 = .ok (.istore_n 3, 1) := by decide +kernel
theorem dX7_walks_8 : decode cX7_walks 8 = .ok (.iconst 0, 1) := by decide +kernel
theorem dX7_walks_9 : decode cX7_walks 9 = .ok (.istore 4, 2) := by decide +kernel
theorem dX7_walks_11 : decode cX7_walks 11 = .ok (.iload 4, 2) := by decide +kernel
theorem dX7_walks_13 : decode cX7_walks 13 = .ok (.iload_n 2, 1) := by decide +kernel
theorem dX7_walks_14 : decode cX7_walks 14 = .ok (.if_icmp .ge 76, 3) := by decide +kernel
theorem dX7_walks_17 : decode cX7_walks 17 = .ok (.iload_n 3, 1) := by decide +kernel
theorem dX7_walks_18 : decode cX7_walks 18 = .ok (.aload_n 0, 1) := by decide +kernel
theorem dX7_walks_19 : decode cX7_walks 19 = .ok (.getfield 7, 3) := by decide +kernel
theorem dX7_walks_22 : decode cX7_walks 22 = .ok (.sipush 410, 3) := by decide +kernel
theorem dX7_walks_25 : decode cX7_walks 25 = .ok (.iaload, 1) := by decide +kernel
theorem dX7_walks_26 : decode cX7_walks 26 = .ok (.if_icmp .ge 64, 3) := by decide +kernel
theorem dX7_walks_29 : decode cX7_walks 29 = .ok (.aload_n 0, 1) := by decide +kernel
theorem dX7_walks_30 : decode cX7_walks 30 = .ok (.aload_n 0, 1) := by decide +kernel
theorem dX7_walks_31 : decode cX7_walks 31 = .ok (.getfield 25, 3) := by decide +kernel
theorem dX7_walks_34 : decode cX7_walks 34 = .ok (.iload 4, 2) := by decide +kernel
theorem dX7_walks_36 : decode cX7_walks 36 = .ok (.iaload, 1) := by decide +kernel
theorem dX7_walks_37 : decode cX7_walks 37 = .ok (.invokevirtual 80, 3) := by decide +kernel
theorem dX7_walks_40 : decode cX7_walks 40 = .ok (.ifCond .ne 44, 3) := by decide +kernel
theorem dX7_walks_43 : decode cX7_walks 43 = .ok (.iload_n 3, 1) := by decide +kernel
theorem dX7_walks_44 : decode cX7_walks 44 = .ok (.aload_n 0, 1) := by decide +kernel
theorem dX7_walks_45 : decode cX7_walks 45 = .ok (.aload_n 0, 1) := by decide +kernel
theorem dX7_walks_46 : decode cX7_walks 46 = .ok (.getfield 25, 3) := by decide +kernel
theorem dX7_walks_49 : decode cX7_walks 49 = .ok (.iload 4, 2) := by decide +kernel
theorem dX7_walks_51 : decode cX7_walks 51 = .ok (.iaload, 1) := by decide +kernel
theorem dX7_walks_52 : decode cX7_walks 52 = .ok (.invokevirtual 83, 3) := by decide +kernel
theorem dX7_walks_55 : decode cX7_walks 55 = .ok (.ifCond .ge 7, 3) := by decide +kernel
theorem dX7_walks_58 : decode cX7_walks 58 = .ok (.iconst 0, 1) := by decide +kernel
theorem dX7_walks_59 : decode cX7_walks 59 = .ok (.goto 4, 3) := by decide +kernel
theorem dX7_walks_62 : decode cX7_walks 62 = .ok (.iconst 1, 1) := by decide +kernel
theorem dX7_walks_63 : decode cX7_walks 63 = .ok (.iadd, 1) := by decide +kernel
theorem dX7_walks_64 : decode cX7_walks 64 = .ok (.istore_n 3, 1) := by decide +kernel
theorem dX7_walks_65 : decode cX7_walks 65 = .ok (.aload_n 0, 1) := by decide +kernel
theorem dX7_walks_66 : decode cX7_walks 66 = .ok (.getfield 7, 3) := by decide +kernel
theorem dX7_walks_69 : decode cX7_walks 69 = .ok (.sipush 336, 3) := by decide +kernel
theorem dX7_walks_72 : decode cX7_walks 72 = .ok (.iload_n 1, 1) := by decide +kernel
theorem dX7_walks_73 : decode cX7_walks 73 = .ok (.iadd, 1) := by decide +kernel
theorem dX7_walks_74 : decode cX7_walks 74 = .ok (.aload_n 0, 1) := by decide +kernel
theorem dX7_walks_75 : decode cX7_walks 75 = .ok (.getfield 25, 3) := by decide +kernel
theorem dX7_walks_78 : decode cX7_walks 78 = .ok (.iload 4, 2) := by decide +kernel
theorem dX7_walks_80 : decode cX7_walks 80 = .ok (.iaload, 1) := by decide +kernel
theorem dX7_walks_81 : decode cX7_walks 81 = .ok (.iconst 1, 1) := by decide +kernel
theorem dX7_walks_82 : decode cX7_walks 82 = .ok (.iadd, 1) := by decide +kernel
theorem dX7_walks_83 : decode cX7_walks 83 = .ok (.iastore, 1) := by decide +kernel
theorem dX7_walks_84 : decode cX7_walks 84 = .ok (.iinc 4 1, 3) := by decide +kernel
theorem dX7_walks_87 : decode cX7_walks 87 = .ok (.goto (-76), 3) := by decide +kernel
theorem dX7_walks_90 : decode cX7_walks 90 = .ok (.iload_n 3, 1) := by decide +kernel
theorem dX7_walks_91 : decode cX7_walks 91 = .ok (.ireturn, 1) := by decide +kernel
set_option maxRecDepth 20000 in
theorem ggX7_refunds_X7_of : GoodIn wsX7_refunds wsX7_of := goodIn_r _ [6, 1, 11, 12, 13, 14, 15, 16, 17, 18, 19, 20, 21, 22, 23, 24, 25, 26] (by decide +kernel) (by decide +kernel)
set_option maxRecDepth 20000 in
theorem gX7_refunds_X7_of : GoodIn wsX7_refunds (wsV RX7 43 RX7 yX7_of wsX7_of) := goodIn_app (goodIn_of _ (by decide +kernel)) ggX7_refunds_X7_of
set_option maxRecDepth 20000 in
theorem ggX7_refunds_X7_adds : GoodIn wsX7_refunds wsX7_adds := goodIn_r _ [10, 1, 11, 12, 13, 14, 15, 16, 17, 18, 19, 20, 21, 22, 23, 24, 25, 26] (by decide +kernel) (by decide +kernel)
set_option maxRecDepth 20000 in
theorem gX7_refunds_X7_adds : GoodIn wsX7_refunds (wsV RX7 63 RX7 yX7_adds wsX7_adds) := goodIn_app (goodIn_of _ (by decide +kernel)) ggX7_refunds_X7_adds
theorem dX7_refunds_0 : decode cX7_refunds 0 = .ok (.aload_n 0, 1) := by decide +kernel
theorem dX7_refunds_1 : decode cX7_refunds 1 = .ok (.getfield 7, 3) := by decide +kernel
theorem dX7_refunds_4 : decode cX7_refunds 4 = .ok (.sipush 408, 3) := by decide +kernel
theorem dX7_refunds_7 : decode cX7_refunds 7 = .ok (.dup2, 1) := by decide +kernel
theorem dX7_refunds_8 : decode cX7_refunds 8 = .ok (.iaload, 1) := by decide +kernel
theorem dX7_refunds_9 : decode cX7_refunds 9 = .ok (.iconst 1, 1) := by decide +kernel
theorem dX7_refunds_10 : decode cX7_refunds 10 = .ok (.iadd, 1) := by decide +kernel
theorem dX7_refunds_11 : decode cX7_refunds 11 = .ok (.iastore, 1) := by decide +kernel
theorem dX7_refunds_12 : decode cX7_refunds 12 = .ok (.iconst 0, 1) := by decide +kernel
theorem dX7_refunds_13 : decode cX7_refunds 13 = .ok (.istore_n 1, 1) := by decide +kernel
theorem dX7_refunds_14 : decode cX7_refunds 14 = .ok (.iload_n 1, 1) := by decide +kernel
theorem dX7_refunds_15 : decode cX7_refunds 15 = .ok (.aload_n 0, 1) := by decide +kernel
theorem dX7_refunds_16 : decode cX7_refunds 16 = .ok (.getfield 7, 3) := by decide +kernel
theorem dX7_refunds_19 : decode cX7_refunds 19 = .ok (.sipush 401, 3) := by decide +kernel
theorem dX7_refunds_22 : decode cX7_refunds 22 = .ok (.iaload, 1) := by decide +kernel
theorem dX7_refunds_23 : decode cX7_refunds 23 = .ok (.if_icmp .ge 73, 3) := by decide +kernel
theorem dX7_refunds_26 : decode cX7_refunds 26 = .ok (.aload_n 0, 1) := by decide +kernel
theorem dX7_refunds_27 : decode cX7_refunds 27 = .ok (.iload_n 1, 1) := by decide +kernel
theorem dX7_refunds_28 : decode cX7_refunds 28 = .ok (.iconst 4, 1) := by decide +kernel
theorem dX7_refunds_29 : decode cX7_refunds 29 = .ok (.invokevirtual 43, 3) := by decide +kernel
theorem dX7_refunds_32 : decode cX7_refunds 32 = .ok (.aload_n 0, 1) := by decide +kernel
theorem dX7_refunds_33 : decode cX7_refunds 33 = .ok (.getfield 7, 3) := by decide +kernel
theorem dX7_refunds_36 : decode cX7_refunds 36 = .ok (.sipush 412, 3) := by decide +kernel
theorem dX7_refunds_39 : decode cX7_refunds 39 = .ok (.iaload, 1) := by decide +kernel
theorem dX7_refunds_40 : decode cX7_refunds 40 = .ok (.if_icmp .lt 50, 3) := by decide +kernel
theorem dX7_refunds_43 : decode cX7_refunds 43 = .ok (.aload_n 0, 1) := by decide +kernel
theorem dX7_refunds_44 : decode cX7_refunds 44 = .ok (.iload_n 1, 1) := by decide +kernel
theorem dX7_refunds_45 : decode cX7_refunds 45 = .ok (.iconst 4, 1) := by decide +kernel
theorem dX7_refunds_46 : decode cX7_refunds 46 = .ok (.bipush (-100), 2) := by decide +kernel
theorem dX7_refunds_48 : decode cX7_refunds 48 = .ok (.invokevirtual 63, 3) := by decide +kernel
theorem dX7_refunds_51 : decode cX7_refunds 51 = .ok (.aload_n 0, 1) := by decide +kernel
theorem dX7_refunds_52 : decode cX7_refunds 52 = .ok (.iload_n 1, 1) := by decide +kernel
theorem dX7_refunds_53 : decode cX7_refunds 53 = .ok (.bipush 12, 2) := by decide +kernel
theorem dX7_refunds_55 : decode cX7_refunds 55 = .ok (.iconst 1, 1) := by decide +kernel
theorem dX7_refunds_56 : decode cX7_refunds 56 = .ok (.invokevirtual 63, 3) := by decide +kernel
theorem dX7_refunds_59 : decode cX7_refunds 59 = .ok (.aload_n 0, 1) := by decide +kernel
theorem dX7_refunds_60 : decode cX7_refunds 60 = .ok (.getfield 7, 3) := by decide +kernel
theorem dX7_refunds_63 : decode cX7_refunds 63 = .ok (.sipush 406, 3) := by decide +kernel
theorem dX7_refunds_66 : decode cX7_refunds 66 = .ok (.dup2, 1) := by decide +kernel
theorem dX7_refunds_67 : decode cX7_refunds 67 = .ok (.iaload, 1) := by decide +kernel
theorem dX7_refunds_68 : decode cX7_refunds 68 = .ok (.iconst 1, 1) := by decide +kernel
theorem dX7_refunds_69 : decode cX7_refunds 69 = .ok (.iadd, 1) := by decide +kernel
theorem dX7_refunds_70 : decode cX7_refunds 70 = .ok (.iastore, 1) := by decide +kernel
theorem dX7_refunds_71 : decode cX7_refunds 71 = .ok (.aload_n 0, 1) := by decide +kernel
theorem dX7_refunds_72 : decode cX7_refunds 72 = .ok (.getfield 7, 3) := by decide +kernel
theorem dX7_refunds_75 : decode cX7_refunds 75 = .ok (.sipush 407, 3) := by decide +kernel
theorem dX7_refunds_78 : decode cX7_refunds 78 = .ok (.dup2, 1) := by decide +kernel
theorem dX7_refunds_79 : decode cX7_refunds 79 = .ok (.iaload, 1) := by decide +kernel
theorem dX7_refunds_80 : decode cX7_refunds 80 = .ok (.aload_n 0, 1) := by decide +kernel
theorem dX7_refunds_81 : decode cX7_refunds 81 = .ok (.getfield 7, 3) := by decide +kernel
theorem dX7_refunds_84 : decode cX7_refunds 84 = .ok (.sipush 411, 3) := by decide +kernel
theorem dX7_refunds_87 : decode cX7_refunds 87 = .ok (.iaload, 1) := by decide +kernel
theorem dX7_refunds_88 : decode cX7_refunds 88 = .ok (.iadd, 1) := by decide +kernel
theorem dX7_refunds_89 : decode cX7_refunds 89 = .ok (.iastore, 1) := by decide +kernel
theorem dX7_refunds_90 : decode cX7_refunds 90 = .ok (.iinc 1 1, 3) := by decide +kernel
theorem dX7_refunds_93 : decode cX7_refunds 93 = .ok (.goto (-79), 3) := by decide +kernel
theorem dX7_refunds_96 : decode cX7_refunds 96 = .ok (.return_, 1) := by decide +kernel
set_option maxRecDepth 20000 in
theorem ggX7_day_X7_of : GoodIn wsX7_day wsX7_of := goodIn_r _ [7, 1, 61, 62, 63, 64, 65, 66, 67, 68, 69, 70, 71, 72, 73, 74, 75, 76] (by decide +kernel) (by decide +kernel)
set_option maxRecDepth 20000 in
theorem gX7_day_X7_of : GoodIn wsX7_day (wsV RX7 43 RX7 yX7_of wsX7_of) := goodIn_app (goodIn_of _ (by decide +kernel)) ggX7_day_X7_of
set_option maxRecDepth 20000 in
theorem ggX7_day_X7_lay : GoodIn wsX7_day wsX7_lay := goodIn_r _ [11, 1, 61, 62, 63, 64, 65, 66, 67, 68, 69, 70, 71, 72, 73, 74, 75, 76] (by decide +kernel) (by decide +kernel)
set_option maxRecDepth 20000 in
theorem gX7_day_X7_lay : GoodIn wsX7_day (wsV RX7 59 RX7 yX7_lay wsX7_lay) := goodIn_app (goodIn_of _ (by decide +kernel)) ggX7_day_X7_lay
set_option maxRecDepth 20000 in
theorem ggX7_day_X7_walks : GoodIn wsX7_day wsX7_walks := goodIn_r _ [15, 1, 16, 17, 18, 19, 6, 20, 3, 4, 5, 7, 21, 22, 23, 24, 25, 26, 27, 28, 29, 30, 31, 32, 33, 34, 35, 36, 37, 38, 39, 40, 2, 41, 42, 43, 44, 45, 46, 47, 48, 8, 9, 10, 11, 49, 50, 51, 52, 53, 54, 55, 56, 61, 62, 63, 64, 65, 66, 67, 68, 69, 70, 71, 72, 73, 74, 75, 76] (by decide +kernel) (by decide +kernel)
set_option maxRecDepth 20000 in
theorem gX7_day_X7_walks : GoodIn wsX7_day (wsV RX7 86 RX7 yX7_walks wsX7_walks) := goodIn_app (goodIn_of _ (by decide +kernel)) ggX7_day_X7_walks
set_option maxRecDepth 20000 in
theorem ggX7_day_X7_refunds : GoodIn wsX7_day wsX7_refunds := goodIn_r _ [60, 1, 3, 4, 5, 6, 7, 49, 50, 51, 52, 61, 62, 63, 64, 65, 66, 67, 68, 69, 70, 71, 72, 73, 74, 75, 76] (by decide +kernel) (by decide +kernel)
set_option maxRecDepth 20000 in
theorem gX7_day_X7_refunds : GoodIn wsX7_day (wsV RX7 89 RX7 yX7_refunds wsX7_refunds) := goodIn_app (goodIn_of _ (by decide +kernel)) ggX7_day_X7_refunds
theorem dX7_day_0 : decode cX7_day 0 = .ok (.iconst 0, 1) := by decide +kernel
theorem dX7_day_1 : decode cX7_day 1 = .ok (.istore_n 1, 1) := by decide +kernel
theorem dX7_day_2 : decode cX7_day 2 = .ok (.iload_n 1, 1) := by decide +kernel
theorem dX7_day_3 : decode cX7_day 3 = .ok (.aload_n 0, 1) := by decide +kernel
theorem dX7_day_4 : decode cX7_day 4 = .ok (.getfield 7, 3) := by decide +kernel
theorem dX7_day_7 : decode cX7_day 7 = .ok (.sipush 401, 3) := by decide +kernel
theorem dX7_day_10 : decode cX7_day 10 = .ok (.iaload, 1) := by decide +kernel
theorem dX7_day_11 : decode cX7_day 11 = .ok (.if_icmp .ge 31, 3) := by decide +kernel
theorem dX7_day_14 : decode cX7_day 14 = .ok (.aload_n 0, 1) := by decide +kernel
theorem dX7_day_15 : decode cX7_day 15 = .ok (.iload_n 1, 1) := by decide +kernel
theorem dX7_day_16 : decode cX7_day 16 = .ok (.iconst 2, 1) := by decide +kernel
theorem dX7_day_17 : decode cX7_day 17 = .ok (.aload_n 0, 1) := by decide +kernel
theorem dX7_day_18 : decode cX7_day 18 = .ok (.iload_n 1, 1) := by decide +kernel
theorem dX7_day_19 : decode cX7_day 19 = .ok (.iconst 2, 1) := by decide +kernel
theorem dX7_day_20 : decode cX7_day 20 = .ok (.invokevirtual 43, 3) := by decide +kernel
theorem dX7_day_23 : decode cX7_day 23 = .ok (.aload_n 0, 1) := by decide +kernel
theorem dX7_day_24 : decode cX7_day 24 = .ok (.iload_n 1, 1) := by decide +kernel
theorem dX7_day_25 : decode cX7_day 25 = .ok (.iconst 5, 1) := by decide +kernel
theorem dX7_day_26 : decode cX7_day 26 = .ok (.invokevirtual 43, 3) := by decide +kernel
theorem dX7_day_29 : decode cX7_day 29 = .ok (.iadd, 1) := by decide +kernel
theorem dX7_day_30 : decode cX7_day 30 = .ok (.ldc 48, 2) := by decide +kernel
theorem dX7_day_32 : decode cX7_day 32 = .ok (.irem, 1) := by decide +kernel
theorem dX7_day_33 : decode cX7_day 33 = .ok (.invokevirtual 59, 3) := by decide +kernel
theorem dX7_day_36 : decode cX7_day 36 = .ok (.iinc 1 1, 3) := by decide +kernel
theorem dX7_day_39 : decode cX7_day 39 = .ok (.goto (-37), 3) := by decide +kernel
theorem dX7_day_42 : decode cX7_day 42 = .ok (.aload_n 0, 1) := by decide +kernel
theorem dX7_day_43 : decode cX7_day 43 = .ok (.getfield 7, 3) := by decide +kernel
theorem dX7_day_46 : decode cX7_day 46 = .ok (.sipush 400, 3) := by decide +kernel
theorem dX7_day_49 : decode cX7_day 49 = .ok (.dup2, 1) := by decide +kernel
theorem dX7_day_50 : decode cX7_day 50 = .ok (.iaload, 1) := by decide +kernel
theorem dX7_day_51 : decode cX7_day 51 = .ok (.iconst 1, 1) := by decide +kernel
theorem dX7_day_52 : decode cX7_day 52 = .ok (.iadd, 1) := by decide +kernel
theorem dX7_day_53 : decode cX7_day 53 = .ok (.iastore, 1) := by decide +kernel
theorem dX7_day_54 : decode cX7_day 54 = .ok (.aload_n 0, 1) := by decide +kernel
theorem dX7_day_55 : decode cX7_day 55 = .ok (.aload_n 0, 1) := by decide +kernel
theorem dX7_day_56 : decode cX7_day 56 = .ok (.getfield 7, 3) := by decide +kernel
theorem dX7_day_59 : decode cX7_day 59 = .ok (.sipush 400, 3) := by decide +kernel
theorem dX7_day_62 : decode cX7_day 62 = .ok (.iaload, 1) := by decide +kernel
theorem dX7_day_63 : decode cX7_day 63 = .ok (.iconst 4, 1) := by decide +kernel
theorem dX7_day_64 : decode cX7_day 64 = .ok (.irem, 1) := by decide +kernel
theorem dX7_day_65 : decode cX7_day 65 = .ok (.invokevirtual 86, 3) := by decide +kernel
theorem dX7_day_68 : decode cX7_day 68 = .ok (.istore_n 1, 1) := by decide +kernel
theorem dX7_day_69 : decode cX7_day 69 = .ok (.aload_n 0, 1) := by decide +kernel
theorem dX7_day_70 : decode cX7_day 70 = .ok (.getfield 7, 3) := by decide +kernel
theorem dX7_day_73 : decode cX7_day 73 = .ok (.sipush 400, 3) := by decide +kernel
theorem dX7_day_76 : decode cX7_day 76 = .ok (.iaload, 1) := by decide +kernel
theorem dX7_day_77 : decode cX7_day 77 = .ok (.aload_n 0, 1) := by decide +kernel
theorem dX7_day_78 : decode cX7_day 78 = .ok (.getfield 7, 3) := by decide +kernel
theorem dX7_day_81 : decode cX7_day 81 = .ok (.sipush 413, 3) := by decide +kernel
theorem dX7_day_84 : decode cX7_day 84 = .ok (.iaload, 1) := by decide +kernel
theorem dX7_day_85 : decode cX7_day 85 = .ok (.irem, 1) := by decide +kernel
theorem dX7_day_86 : decode cX7_day 86 = .ok (.ifCond .ne 7, 3) := by decide +kernel
theorem dX7_day_89 : decode cX7_day 89 = .ok (.aload_n 0, 1) := by decide +kernel
theorem dX7_day_90 : decode cX7_day 90 = .ok (.invokevirtual 89, 3) := by decide +kernel
theorem dX7_day_93 : decode cX7_day 93 = .ok (.iload_n 1, 1) := by decide +kernel
theorem dX7_day_94 : decode cX7_day 94 = .ok (.ireturn, 1) := by decide +kernel
set_option maxRecDepth 20000 in
theorem ggX7_house_X7_isPlace : GoodIn wsX7_house wsX7_isPlace := goodIn_r _ [8, 9, 10, 7, 11] (by decide +kernel) (by decide +kernel)
set_option maxRecDepth 20000 in
theorem gX7_house_X7_isPlace : GoodIn wsX7_house (va_wsS RX7 92 yX7_isPlace wsX7_isPlace) := goodIn_app (goodIn_of _ (by decide +kernel)) ggX7_house_X7_isPlace
set_option maxRecDepth 20000 in
theorem ggX7_house_X7_atPlace : GoodIn wsX7_house wsX7_atPlace := goodIn_r _ [15, 3, 16, 17, 18, 19, 7, 20, 32, 33, 34, 35, 36, 37, 38, 39, 40, 41, 42, 43, 44, 45, 46, 47] (by decide +kernel) (by decide +kernel)
set_option maxRecDepth 20000 in
theorem gX7_house_X7_atPlace : GoodIn wsX7_house (wsV RX7 97 RX7 yX7_atPlace wsX7_atPlace) := goodIn_app (goodIn_of _ (by decide +kernel)) ggX7_house_X7_atPlace
set_option maxRecDepth 20000 in
theorem ggX7_house_X7_changes : GoodIn wsX7_house wsX7_changes := goodIn_r _ [24, 25, 26, 27, 3, 32, 33, 34, 35, 36, 37, 38, 39, 40, 41, 42, 43, 44, 45, 46, 47] (by decide +kernel) (by decide +kernel)
set_option maxRecDepth 20000 in
theorem gX7_house_X7_changes : GoodIn wsX7_house (wsV RX7 102 RX7 yX7_changes wsX7_changes) := goodIn_app (goodIn_of _ (by decide +kernel)) ggX7_house_X7_changes
set_option maxRecDepth 20000 in
theorem ggX7_house_X7_lay : GoodIn wsX7_house wsX7_lay := goodIn_r _ [31, 3, 32, 33, 34, 35, 36, 37, 38, 39, 40, 41, 42, 43, 44, 45, 46, 47] (by decide +kernel) (by decide +kernel)
set_option maxRecDepth 20000 in
theorem gX7_house_X7_lay : GoodIn wsX7_house (wsV RX7 59 RX7 yX7_lay wsX7_lay) := goodIn_app (goodIn_of _ (by decide +kernel)) ggX7_house_X7_lay
theorem dX7_house_0 : decode cX7_house 0 = .ok (.iload_n 1, 1) := by decide +kernel
theorem dX7_house_1 : decode cX7_house 1 = .ok (.iload_n 2, 1) := by decide +kernel
theorem dX7_house_2 : decode cX7_house 2 = .ok (.invokestatic 92, 3) := by decide +kernel
theorem dX7_house_5 : decode cX7_house 5 = .ok (.ifCond .ne 6, 3) := by decide +kernel
theorem dX7_house_8 : decode cX7_house 8 = .ok (.ldc 96, 2) := by decide +kernel
theorem dX7_house_10 : decode cX7_house 10 = .ok (.ireturn, 1) := by decide +kernel
theorem dX7_house_11 : decode cX7_house 11 = .ok (.aload_n 0, 1) := by decide +kernel
theorem dX7_house_12 : decode cX7_house 12 = .ok (.iload_n 1, 1) := by decide +kernel
theorem dX7_house_13 : decode cX7_house 13 = .ok (.iload_n 2, 1) := by decide +kernel
theorem dX7_house_14 : decode cX7_house 14 = .ok (.invokevirtual 97, 3) := by decide +kernel
theorem dX7_house_17 : decode cX7_house 17 = .ok (.ifCond .lt 6, 3) := by decide +kernel
theorem dX7_house_20 : decode cX7_house 20 = .ok (.ldc 100, 2) := by decide +kernel
theorem dX7_house_22 : decode cX7_house 22 = .ok (.ireturn, 1) := by decide +kernel
theorem dX7_house_23 : decode cX7_house 23 = .ok (.aload_n 0, 1) := by decide +kernel
theorem dX7_house_24 : decode cX7_house 24 = .ok (.getfield 7, 3) := by decide +kernel
theorem dX7_house_27 : decode cX7_house 27 = .ok (.sipush 401, 3) := by decide +kernel
theorem dX7_house_30 : decode cX7_house 30 = .ok (.iaload, 1) := by decide +kernel
theorem dX7_house_31 : decode cX7_house 31 = .ok (.bipush 24, 2) := by decide +kernel
theorem dX7_house_33 : decode cX7_house 33 = .ok (.if_icmp .ne 6, 3) := by decide +kernel
theorem dX7_house_36 : decode cX7_house 36 = .ok (.ldc 101, 2) := by decide +kernel
theorem dX7_house_38 : decode cX7_house 38 = .ok (.ireturn, 1) := by decide +kernel
theorem dX7_house_39 : decode cX7_house 39 = .ok (.aload_n 0, 1) := by decide +kernel
theorem dX7_house_40 : decode cX7_house 40 = .ok (.invokevirtual 102, 3) := by decide +kernel
theorem dX7_house_43 : decode cX7_house 43 = .ok (.aload_n 0, 1) := by decide +kernel
theorem dX7_house_44 : decode cX7_house 44 = .ok (.aload_n 0, 1) := by decide +kernel
theorem dX7_house_45 : decode cX7_house 45 = .ok (.getfield 7, 3) := by decide +kernel
theorem dX7_house_48 : decode cX7_house 48 = .ok (.sipush 401, 3) := by decide +kernel
theorem dX7_house_51 : decode cX7_house 51 = .ok (.iaload, 1) := by decide +kernel
theorem dX7_house_52 : decode cX7_house 52 = .ok (.iconst 0, 1) := by decide +kernel
theorem dX7_house_53 : decode cX7_house 53 = .ok (.iload_n 1, 1) := by decide +kernel
theorem dX7_house_54 : decode cX7_house 54 = .ok (.invokevirtual 59, 3) := by decide +kernel
theorem dX7_house_57 : decode cX7_house 57 = .ok (.aload_n 0, 1) := by decide +kernel
theorem dX7_house_58 : decode cX7_house 58 = .ok (.aload_n 0, 1) := by decide +kernel
theorem dX7_house_59 : decode cX7_house 59 = .ok (.getfield 7, 3) := by decide +kernel
theorem dX7_house_62 : decode cX7_house 62 = .ok (.sipush 401, 3) := by decide +kernel
theorem dX7_house_65 : decode cX7_house 65 = .ok (.iaload, 1) := by decide +kernel
theorem dX7_house_66 : decode cX7_house 66 = .ok (.iconst 1, 1) := by decide +kernel
theorem dX7_house_67 : decode cX7_house 67 = .ok (.iload_n 2, 1) := by decide +kernel
theorem dX7_house_68 : decode cX7_house 68 = .ok (.invokevirtual 59, 3) := by decide +kernel
theorem dX7_house_71 : decode cX7_house 71 = .ok (.aload_n 0, 1) := by decide +kernel
theorem dX7_house_72 : decode cX7_house 72 = .ok (.getfield 7, 3) := by decide +kernel
theorem dX7_house_75 : decode cX7_house 75 = .ok (.sipush 401, 3) := by decide +kernel
theorem dX7_house_78 : decode cX7_house 78 = .ok (.dup2, 1) := by decide +kernel
theorem dX7_house_79 : decode cX7_house 79 = .ok (.iaload, 1) := by decide +kernel
theorem dX7_house_80 : decode cX7_house 80 = .ok (.iconst 1, 1) := by decide +kernel
theorem dX7_house_81 : decode cX7_house 81 = .ok (.iadd, 1) := by decide +kernel
theorem dX7_house_82 : decode cX7_house 82 = .ok (.iastore, 1) := by decide +kernel
theorem dX7_house_83 : decode cX7_house 83 = .ok (.aload_n 0, 1) := by decide +kernel
theorem dX7_house_84 : decode cX7_house 84 = .ok (.getfield 7, 3) := by decide +kernel
theorem dX7_house_87 : decode cX7_house 87 = .ok (.sipush 401, 3) := by decide +kernel
theorem dX7_house_90 : decode cX7_house 90 = .ok (.iaload, 1) := by decide +kernel
theorem dX7_house_91 : decode cX7_house 91 = .ok (.iconst 1, 1) := by decide +kernel
theorem dX7_house_92 : decode cX7_house 92 = .ok (.isub, 1) := by decide +kernel
theorem dX7_house_93 : decode cX7_house 93 = .ok (.ireturn, 1) := by decide +kernel
set_option maxRecDepth 20000 in
theorem ggX7_flow_X7_isHouse : GoodIn wsX7_flow wsX7_isHouse := goodIn_r _ [6, 7, 8, 9, 5, 10, 26, 27, 28, 29, 30, 31, 32, 33, 34, 35, 36, 37, 38, 39, 40, 41] (by decide +kernel) (by decide +kernel)
set_option maxRecDepth 20000 in
theorem gX7_flow_X7_isHouse : GoodIn wsX7_flow (wsV RX7 105 RX7 yX7_isHouse wsX7_isHouse) := goodIn_app (goodIn_of _ (by decide +kernel)) ggX7_flow_X7_isHouse
set_option maxRecDepth 20000 in
theorem ggX7_flow_X7_in : GoodIn wsX7_flow wsX7_in := goodIn_r _ [10] (by decide +kernel) (by decide +kernel)
set_option maxRecDepth 20000 in
theorem gX7_flow_X7_in : GoodIn wsX7_flow (va_wsS RX7 39 yX7_in wsX7_in) := goodIn_app (goodIn_of _ (by decide +kernel)) ggX7_flow_X7_in
set_option maxRecDepth 20000 in
theorem ggX7_flow_X7_changes : GoodIn wsX7_flow wsX7_changes := goodIn_r _ [14, 15, 16, 17, 7, 26, 27, 28, 29, 30, 31, 32, 33, 34, 35, 36, 37, 38, 39, 40, 41] (by decide +kernel) (by decide +kernel)
set_option maxRecDepth 20000 in
theorem gX7_flow_X7_changes : GoodIn wsX7_flow (wsV RX7 102 RX7 yX7_changes wsX7_changes) := goodIn_app (goodIn_of _ (by decide +kernel)) ggX7_flow_X7_changes
set_option maxRecDepth 20000 in
theorem ggX7_flow_X7_of : GoodIn wsX7_flow wsX7_of := goodIn_r _ [21, 7, 26, 27, 28, 29, 30, 31, 32, 33, 34, 35, 36, 37, 38, 39, 40, 41] (by decide +kernel) (by decide +kernel)
set_option maxRecDepth 20000 in
theorem gX7_flow_X7_of : GoodIn wsX7_flow (wsV RX7 43 RX7 yX7_of wsX7_of) := goodIn_app (goodIn_of _ (by decide +kernel)) ggX7_flow_X7_of
set_option maxRecDepth 20000 in
theorem ggX7_flow_X7_lay : GoodIn wsX7_flow wsX7_lay := goodIn_r _ [25, 7, 26, 27, 28, 29, 30, 31, 32, 33, 34, 35, 36, 37, 38, 39, 40, 41] (by decide +kernel) (by decide +kernel)
set_option maxRecDepth 20000 in
theorem gX7_flow_X7_lay : GoodIn wsX7_flow (wsV RX7 59 RX7 yX7_lay wsX7_lay) := goodIn_app (goodIn_of _ (by decide +kernel)) ggX7_flow_X7_lay
theorem dX7_flow_0 : decode cX7_flow 0 = .ok (.aload_n 0, 1) := by decide +kernel
theorem dX7_flow_1 : decode cX7_flow 1 = .ok (.iload_n 1, 1) := by decide +kernel
theorem dX7_flow_2 : decode cX7_flow 2 = .ok (.invokevirtual 105, 3) := by decide +kernel
theorem dX7_flow_5 : decode cX7_flow 5 = .ok (.ifCond .eq 14, 3) := by decide +kernel
theorem dX7_flow_8 : decode cX7_flow 8 = .ok (.iload_n 2, 1) := by decide +kernel
theorem dX7_flow_9 : decode cX7_flow 9 = .ok (.iconst 0, 1) := by decide +kernel
theorem dX7_flow_10 : decode cX7_flow 10 = .ok (.sipush 999, 3) := by decide +kernel
theorem dX7_flow_13 : decode cX7_flow 13 = .ok (.invokestatic 39, 3) := by decide +kernel
theorem dX7_flow_16 : decode cX7_flow 16 = .ok (.ifCond .ne 6, 3) := by decide +kernel
theorem dX7_flow_19 : decode cX7_flow 19 = .ok (.ldc 96, 2) := by decide +kernel
theorem dX7_flow_21 : decode cX7_flow 21 = .ok (.ireturn, 1) := by decide +kernel
theorem dX7_flow_22 : decode cX7_flow 22 = .ok (.aload_n 0, 1) := by decide +kernel
theorem dX7_flow_23 : decode cX7_flow 23 = .ok (.invokevirtual 102, 3) := by decide +kernel
theorem dX7_flow_26 : decode cX7_flow 26 = .ok (.aload_n 0, 1) := by decide +kernel
theorem dX7_flow_27 : decode cX7_flow 27 = .ok (.iload_n 1, 1) := by decide +kernel
theorem dX7_flow_28 : decode cX7_flow 28 = .ok (.iconst 5, 1) := by decide +kernel
theorem dX7_flow_29 : decode cX7_flow 29 = .ok (.invokevirtual 43, 3) := by decide +kernel
theorem dX7_flow_32 : decode cX7_flow 32 = .ok (.istore_n 3, 1) := by decide +kernel
theorem dX7_flow_33 : decode cX7_flow 33 = .ok (.aload_n 0, 1) := by decide +kernel
theorem dX7_flow_34 : decode cX7_flow 34 = .ok (.iload_n 1, 1) := by decide +kernel
theorem dX7_flow_35 : decode cX7_flow 35 = .ok (.iconst 5, 1) := by decide +kernel
theorem dX7_flow_36 : decode cX7_flow 36 = .ok (.iload_n 2, 1) := by decide +kernel
theorem dX7_flow_37 : decode cX7_flow 37 = .ok (.invokevirtual 59, 3) := by decide +kernel
theorem dX7_flow_40 : decode cX7_flow 40 = .ok (.iload_n 3, 1) := by decide +kernel
theorem dX7_flow_41 : decode cX7_flow 41 = .ok (.ireturn, 1) := by decide +kernel
set_option maxRecDepth 20000 in
theorem ggX7_lock_X7_isHouse : GoodIn wsX7_lock wsX7_isHouse := goodIn_r _ [6, 7, 8, 9, 5, 10, 26, 27, 28, 29, 30, 31, 32, 33, 34, 35, 36, 37, 38, 39, 40, 41] (by decide +kernel) (by decide +kernel)
set_option maxRecDepth 20000 in
theorem gX7_lock_X7_isHouse : GoodIn wsX7_lock (wsV RX7 105 RX7 yX7_isHouse wsX7_isHouse) := goodIn_app (goodIn_of _ (by decide +kernel)) ggX7_lock_X7_isHouse
set_option maxRecDepth 20000 in
theorem ggX7_lock_X7_changes : GoodIn wsX7_lock wsX7_changes := goodIn_r _ [14, 15, 16, 17, 7, 26, 27, 28, 29, 30, 31, 32, 33, 34, 35, 36, 37, 38, 39, 40, 41] (by decide +kernel) (by decide +kernel)
set_option maxRecDepth 20000 in
theorem gX7_lock_X7_changes : GoodIn wsX7_lock (wsV RX7 102 RX7 yX7_changes wsX7_changes) := goodIn_app (goodIn_of _ (by decide +kernel)) ggX7_lock_X7_changes
set_option maxRecDepth 20000 in
theorem ggX7_lock_X7_of : GoodIn wsX7_lock wsX7_of := goodIn_r _ [21, 7, 26, 27, 28, 29, 30, 31, 32, 33, 34, 35, 36, 37, 38, 39, 40, 41] (by decide +kernel) (by decide +kernel)
set_option maxRecDepth 20000 in
theorem gX7_lock_X7_of : GoodIn wsX7_lock (wsV RX7 43 RX7 yX7_of wsX7_of) := goodIn_app (goodIn_of _ (by decide +kernel)) ggX7_lock_X7_of
set_option maxRecDepth 20000 in
theorem ggX7_lock_X7_lay : GoodIn wsX7_lock wsX7_lay := goodIn_r _ [25, 7, 26, 27, 28, 29, 30, 31, 32, 33, 34, 35, 36, 37, 38, 39, 40, 41] (by decide +kernel) (by decide +kernel)
set_option maxRecDepth 20000 in
theorem gX7_lock_X7_lay : GoodIn wsX7_lock (wsV RX7 59 RX7 yX7_lay wsX7_lay) := goodIn_app (goodIn_of _ (by decide +kernel)) ggX7_lock_X7_lay
theorem dX7_lock_0 : decode cX7_lock 0 = .ok (.aload_n 0, 1) := by decide +kernel
theorem dX7_lock_1 : decode cX7_lock 1 = .ok (.iload_n 1, 1) := by decide +kernel
theorem dX7_lock_2 : decode cX7_lock 2 = .ok (.invokevirtual 105, 3) := by decide +kernel
theorem dX7_lock_5 : decode cX7_lock 5 = .ok (.ifCond .ne 6, 3) := by decide +kernel
theorem dX7_lock_8 : decode cX7_lock 8 = .ok (.ldc 96, 2) := by decide +kernel
theorem dX7_lock_10 : decode cX7_lock 10 = .ok (.ireturn, 1) := by decide +kernel
theorem dX7_lock_11 : decode cX7_lock 11 = .ok (.aload_n 0, 1) := by decide +kernel
theorem dX7_lock_12 : decode cX7_lock 12 = .ok (.invokevirtual 102, 3) := by decide +kernel
theorem dX7_lock_15 : decode cX7_lock 15 = .ok (.aload_n 0, 1) := by decide +kernel
theorem dX7_lock_16 : decode cX7_lock 16 = .ok (.iload_n 1, 1) := by decide +kernel
theorem dX7_lock_17 : decode cX7_lock 17 = .ok (.bipush 6, 2) := by decide +kernel
theorem dX7_lock_19 : decode cX7_lock 19 = .ok (.invokevirtual 43, 3) := by decide +kernel
theorem dX7_lock_22 : decode cX7_lock 22 = .ok (.istore_n 3, 1) := by decide +kernel
theorem dX7_lock_23 : decode cX7_lock 23 = .ok (.aload_n 0, 1) := by decide +kernel
theorem dX7_lock_24 : decode cX7_lock 24 = .ok (.iload_n 1, 1) := by decide +kernel
theorem dX7_lock_25 : decode cX7_lock 25 = .ok (.bipush 6, 2) := by decide +kernel
theorem dX7_lock_27 : decode cX7_lock 27 = .ok (.iload_n 2, 1) := by decide +kernel
theorem dX7_lock_28 : decode cX7_lock 28 = .ok (.ifCond .eq 7, 3) := by decide +kernel
theorem dX7_lock_31 : decode cX7_lock 31 = .ok (.iconst 1, 1) := by decide +kernel
theorem dX7_lock_32 : decode cX7_lock 32 = .ok (.goto 4, 3) := by decide +kernel
theorem dX7_lock_35 : decode cX7_lock 35 = .ok (.iconst 0, 1) := by decide +kernel
theorem dX7_lock_36 : decode cX7_lock 36 = .ok (.invokevirtual 59, 3) := by decide +kernel
theorem dX7_lock_39 : decode cX7_lock 39 = .ok (.iload_n 3, 1) := by decide +kernel
theorem dX7_lock_40 : decode cX7_lock 40 = .ok (.ireturn, 1) := by decide +kernel
set_option maxRecDepth 20000 in
theorem ggX7_read_X7_isHouse : GoodIn wsX7_read wsX7_isHouse := goodIn_r _ [7, 8, 9, 10, 6, 11, 56, 57, 58, 59, 60, 61, 62, 63, 64, 65, 66, 67, 68, 69, 70, 71] (by decide +kernel) (by decide +kernel)
set_option maxRecDepth 20000 in
theorem gX7_read_X7_isHouse : GoodIn wsX7_read (wsV RX7 105 RX7 yX7_isHouse wsX7_isHouse) := goodIn_app (goodIn_of _ (by decide +kernel)) ggX7_read_X7_isHouse
set_option maxRecDepth 20000 in
theorem ggX7_read_X7_barred : GoodIn wsX7_read wsX7_barred := goodIn_r _ [15, 8, 16, 17, 18, 6, 19, 56, 57, 58, 59, 60, 61, 62, 63, 64, 65, 66, 67, 68, 69, 70, 71] (by decide +kernel) (by decide +kernel)
set_option maxRecDepth 20000 in
theorem gX7_read_X7_barred : GoodIn wsX7_read (wsV RX7 80 RX7 yX7_barred wsX7_barred) := goodIn_app (goodIn_of _ (by decide +kernel)) ggX7_read_X7_barred
set_option maxRecDepth 20000 in
theorem ggX7_read_X7_changes : GoodIn wsX7_read wsX7_changes := goodIn_r _ [23, 24, 25, 26, 8, 56, 57, 58, 59, 60, 61, 62, 63, 64, 65, 66, 67, 68, 69, 70, 71] (by decide +kernel) (by decide +kernel)
set_option maxRecDepth 20000 in
theorem gX7_read_X7_changes : GoodIn wsX7_read (wsV RX7 102 RX7 yX7_changes wsX7_changes) := goodIn_app (goodIn_of _ (by decide +kernel)) ggX7_read_X7_changes
set_option maxRecDepth 20000 in
theorem ggX7_read_X7_reads : GoodIn wsX7_read wsX7_reads := goodIn_r _ [30, 8, 31, 32, 33, 6, 34, 35, 16, 17, 18, 19, 36, 37, 38, 39, 40, 41, 42, 43, 44, 45, 46, 47, 48, 49, 50, 51, 52, 53, 54, 55, 56, 57, 58, 59, 60, 61, 62, 63, 64, 65, 66, 67, 68, 69, 70, 71] (by decide +kernel) (by decide +kernel)
set_option maxRecDepth 20000 in
theorem gX7_read_X7_reads : GoodIn wsX7_read (wsV RX7 83 RX7 yX7_reads wsX7_reads) := goodIn_app (goodIn_of _ (by decide +kernel)) ggX7_read_X7_reads
theorem dX7_read_0 : decode cX7_read 0 = .ok (.aload_n 0, 1) := by decide +kernel
theorem dX7_read_1 : decode cX7_read 1 = .ok (.iload_n 1, 1) := by decide +kernel
theorem dX7_read_2 : decode cX7_read 2 = .ok (.invokevirtual 105, 3) := by decide +kernel
theorem dX7_read_5 : decode cX7_read 5 = .ok (.ifCond .ne 6, 3) := by decide +kernel
theorem dX7_read_8 : decode cX7_read 8 = .ok (.ldc 96, 2) := by decide +kernel
theorem dX7_read_10 : decode cX7_read 10 = .ok (.ireturn, 1) := by decide +kernel
theorem dX7_read_11 : decode cX7_read 11 = .ok (.aload_n 0, 1) := by decide +kernel
theorem dX7_read_12 : decode cX7_read 12 = .ok (.iload_n 1, 1) := by decide +kernel
theorem dX7_read_13 : decode cX7_read 13 = .ok (.invokevirtual 80, 3) := by decide +kernel
theorem dX7_read_16 : decode cX7_read 16 = .ok (.ifCond .le 6, 3) := by decide +kernel
theorem dX7_read_19 : decode cX7_read 19 = .ok (.ldc 100, 2) := by decide +kernel
theorem dX7_read_21 : decode cX7_read 21 = .ok (.ireturn, 1) := by decide +kernel
theorem dX7_read_22 : decode cX7_read 22 = .ok (.aload_n 0, 1) := by decide +kernel
theorem dX7_read_23 : decode cX7_read 23 = .ok (.invokevirtual 102, 3) := by decide +kernel
theorem dX7_read_26 : decode cX7_read 26 = .ok (.aload_n 0, 1) := by decide +kernel
theorem dX7_read_27 : decode cX7_read 27 = .ok (.iload_n 1, 1) := by decide +kernel
theorem dX7_read_28 : decode cX7_read 28 = .ok (.invokevirtual 83, 3) := by decide +kernel
theorem dX7_read_31 : decode cX7_read 31 = .ok (.ireturn, 1) := by decide +kernel
set_option maxRecDepth 20000 in
theorem ggX7_change_X7_isHouse : GoodIn wsX7_change wsX7_isHouse := goodIn_r _ [6, 7, 8, 9, 5, 10, 51, 52, 53, 54, 55, 56, 57, 58, 59, 60, 61, 62, 63, 64, 65, 66] (by decide +kernel) (by decide +kernel)
set_option maxRecDepth 20000 in
theorem gX7_change_X7_isHouse : GoodIn wsX7_change (wsV RX7 105 RX7 yX7_isHouse wsX7_isHouse) := goodIn_app (goodIn_of _ (by decide +kernel)) ggX7_change_X7_isHouse
set_option maxRecDepth 20000 in
theorem ggX7_change_X7_changes : GoodIn wsX7_change wsX7_changes := goodIn_r _ [14, 15, 16, 17, 7, 51, 52, 53, 54, 55, 56, 57, 58, 59, 60, 61, 62, 63, 64, 65, 66] (by decide +kernel) (by decide +kernel)
set_option maxRecDepth 20000 in
theorem gX7_change_X7_changes : GoodIn wsX7_change (wsV RX7 102 RX7 yX7_changes wsX7_changes) := goodIn_app (goodIn_of _ (by decide +kernel)) ggX7_change_X7_changes
set_option maxRecDepth 20000 in
theorem ggX7_change_X7_reads : GoodIn wsX7_change wsX7_reads := goodIn_r _ [21, 7, 22, 23, 24, 5, 25, 26, 27, 28, 29, 30, 31, 32, 33, 34, 35, 36, 37, 38, 39, 40, 41, 42, 43, 44, 45, 46, 47, 48, 49, 50, 51, 52, 53, 54, 55, 56, 57, 58, 59, 60, 61, 62, 63, 64, 65, 66] (by decide +kernel) (by decide +kernel)
set_option maxRecDepth 20000 in
theorem gX7_change_X7_reads : GoodIn wsX7_change (wsV RX7 83 RX7 yX7_reads wsX7_reads) := goodIn_app (goodIn_of _ (by decide +kernel)) ggX7_change_X7_reads
set_option maxRecDepth 20000 in
theorem ggX7_change_X7_lay : GoodIn wsX7_change wsX7_lay := goodIn_r _ [42, 7, 51, 52, 53, 54, 55, 56, 57, 58, 59, 60, 61, 62, 63, 64, 65, 66] (by decide +kernel) (by decide +kernel)
set_option maxRecDepth 20000 in
theorem gX7_change_X7_lay : GoodIn wsX7_change (wsV RX7 59 RX7 yX7_lay wsX7_lay) := goodIn_app (goodIn_of _ (by decide +kernel)) ggX7_change_X7_lay
set_option maxRecDepth 20000 in
theorem ggX7_change_X7_adds : GoodIn wsX7_change wsX7_adds := goodIn_r _ [46, 7, 51, 52, 53, 54, 55, 56, 57, 58, 59, 60, 61, 62, 63, 64, 65, 66] (by decide +kernel) (by decide +kernel)
set_option maxRecDepth 20000 in
theorem gX7_change_X7_adds : GoodIn wsX7_change (wsV RX7 63 RX7 yX7_adds wsX7_adds) := goodIn_app (goodIn_of _ (by decide +kernel)) ggX7_change_X7_adds
theorem dX7_change_0 : decode cX7_change 0 = .ok (.aload_n 0, 1) := by decide +kernel
theorem dX7_change_1 : decode cX7_change 1 = .ok (.iload_n 1, 1) := by decide +kernel
theorem dX7_change_2 : decode cX7_change 2 = .ok (.invokevirtual 105, 3) := by decide +kernel
theorem dX7_change_5 : decode cX7_change 5 = .ok (.ifCond .ne 6, 3) := by decide +kernel
theorem dX7_change_8 : decode cX7_change 8 = .ok (.ldc 96, 2) := by decide +kernel
theorem dX7_change_10 : decode cX7_change 10 = .ok (.ireturn, 1) := by decide +kernel
theorem dX7_change_11 : decode cX7_change 11 = .ok (.aload_n 0, 1) := by decide +kernel
theorem dX7_change_12 : decode cX7_change 12 = .ok (.invokevirtual 102, 3) := by decide +kernel
theorem dX7_change_15 : decode cX7_change 15 = .ok (.aload_n 0, 1) := by decide +kernel
theorem dX7_change_16 : decode cX7_change 16 = .ok (.iload_n 1, 1) := by decide +kernel
theorem dX7_change_17 : decode cX7_change 17 = .ok (.invokevirtual 83, 3) := by decide +kernel
theorem dX7_change_20 : decode cX7_change 20 = .ok (.istore_n 2, 1) := by decide +kernel
theorem dX7_change_21 : decode cX7_change 21 = .ok (.aload_n 0, 1) := by decide +kernel
theorem dX7_change_22 : decode cX7_change 22 = .ok (.iload_n 1, 1) := by decide +kernel
theorem dX7_change_23 : decode cX7_change 23 = .ok (.iconst 2, 1) := by decide +kernel
theorem dX7_change_24 : decode cX7_change 24 = .ok (.iconst 0, 1) := by decide +kernel
theorem dX7_change_25 : decode cX7_change 25 = .ok (.invokevirtual 59, 3) := by decide +kernel
theorem dX7_change_28 : decode cX7_change 28 = .ok (.aload_n 0, 1) := by decide +kernel
theorem dX7_change_29 : decode cX7_change 29 = .ok (.iload_n 1, 1) := by decide +kernel
theorem dX7_change_30 : decode cX7_change 30 = .ok (.iconst 3, 1) := by decide +kernel
theorem dX7_change_31 : decode cX7_change 31 = .ok (.iconst 0, 1) := by decide +kernel
theorem dX7_change_32 : decode cX7_change 32 = .ok (.invokevirtual 59, 3) := by decide +kernel
theorem dX7_change_35 : decode cX7_change 35 = .ok (.aload_n 0, 1) := by decide +kernel
theorem dX7_change_36 : decode cX7_change 36 = .ok (.iload_n 1, 1) := by decide +kernel
theorem dX7_change_37 : decode cX7_change 37 = .ok (.bipush 13, 2) := by decide +kernel
theorem dX7_change_39 : decode cX7_change 39 = .ok (.iconst 1, 1) := by decide +kernel
theorem dX7_change_40 : decode cX7_change 40 = .ok (.invokevirtual 63, 3) := by decide +kernel
theorem dX7_change_43 : decode cX7_change 43 = .ok (.iload_n 2, 1) := by decide +kernel
theorem dX7_change_44 : decode cX7_change 44 = .ok (.ireturn, 1) := by decide +kernel
set_option maxRecDepth 20000 in
theorem ggX7_pass_X7_day : GoodIn wsX7_pass wsX7_day := goodIn_r _ [5, 6, 7, 8, 9, 10, 4, 11, 12, 13, 14, 15, 16, 17, 18, 19, 20, 21, 22, 23, 24, 25, 26, 27, 28, 29, 30, 31, 32, 33, 34, 35, 36, 37, 38, 39, 40, 41, 42, 43, 44, 45, 46, 47, 48, 49, 50, 51, 52, 53, 54, 55, 56, 57, 58, 59, 60, 61, 62, 63, 64, 65, 66, 67, 68, 69, 70, 71, 72, 73, 74, 75, 76, 77, 78, 79, 80] (by decide +kernel) (by decide +kernel)
set_option maxRecDepth 20000 in
theorem gX7_pass_X7_day : GoodIn wsX7_pass (wsV RX7 109 RX7 yX7_day wsX7_day) := goodIn_app (goodIn_of _ (by decide +kernel)) ggX7_pass_X7_day
theorem dX7_pass_0 : decode cX7_pass 0 = .ok (.iconst 0, 1) := by decide +kernel
theorem dX7_pass_1 : decode cX7_pass 1 = .ok (.istore_n 2, 1) := by decide +kernel
theorem dX7_pass_2 : decode cX7_pass 2 = .ok (.iconst 0, 1) := by decide +kernel
theorem dX7_pass_3 : decode cX7_pass 3 = .ok (.istore_n 3, 1) := by decide +kernel
theorem dX7_pass_4 : decode cX7_pass 4 = .ok (.iload_n 3, 1) := by decide +kernel
theorem dX7_pass_5 : decode cX7_pass 5 = .ok (.iload_n 1, 1) := by decide +kernel
theorem dX7_pass_6 : decode cX7_pass 6 = .ok (.if_icmp .ge 16, 3) := by decide +kernel
theorem dX7_pass_9 : decode cX7_pass 9 = .ok (.iload_n 2, 1) := by decide +kernel
theorem dX7_pass_10 : decode cX7_pass 10 = .ok (.aload_n 0, 1) := by decide +kernel
theorem dX7_pass_11 : decode cX7_pass 11 = .ok (.invokevirtual 109, 3) := by decide +kernel
theorem dX7_pass_14 : decode cX7_pass 14 = .ok (.iadd, 1) := by decide +kernel
theorem dX7_pass_15 : decode cX7_pass 15 = .ok (.istore_n 2, 1) := by decide +kernel
theorem dX7_pass_16 : decode cX7_pass 16 = .ok (.iinc 3 1, 3) := by decide +kernel
theorem dX7_pass_19 : decode cX7_pass 19 = .ok (.goto (-15), 3) := by decide +kernel
theorem dX7_pass_22 : decode cX7_pass 22 = .ok (.iload_n 2, 1) := by decide +kernel
theorem dX7_pass_23 : decode cX7_pass 23 = .ok (.ireturn, 1) := by decide +kernel
set_option maxRecDepth 20000 in
theorem ggX7_days_X7_in : GoodIn wsX7_days wsX7_in := goodIn_r _ [7] (by decide +kernel) (by decide +kernel)
set_option maxRecDepth 20000 in
theorem gX7_days_X7_in : GoodIn wsX7_days (va_wsS RX7 39 yX7_in wsX7_in) := goodIn_app (goodIn_of _ (by decide +kernel)) ggX7_days_X7_in
set_option maxRecDepth 20000 in
theorem ggX7_days_X7_changes : GoodIn wsX7_days wsX7_changes := goodIn_r _ [11, 12, 13, 14, 2, 81, 82, 83, 84, 85, 86, 87, 88, 89, 90, 91, 92, 93, 94, 95, 96] (by decide +kernel) (by decide +kernel)
set_option maxRecDepth 20000 in
theorem gX7_days_X7_changes : GoodIn wsX7_days (wsV RX7 102 RX7 yX7_changes wsX7_changes) := goodIn_app (goodIn_of _ (by decide +kernel)) ggX7_days_X7_changes
set_option maxRecDepth 20000 in
theorem ggX7_days_X7_pass : GoodIn wsX7_days wsX7_pass := goodIn_r _ [18, 19, 20, 21, 6, 22, 2, 23, 24, 25, 26, 27, 28, 29, 30, 31, 32, 33, 34, 35, 36, 37, 38, 39, 40, 41, 42, 43, 44, 45, 46, 47, 48, 49, 50, 51, 52, 53, 54, 55, 56, 57, 58, 59, 60, 61, 62, 63, 64, 65, 66, 67, 68, 69, 70, 71, 72, 73, 74, 75, 76, 77, 78, 79, 80, 81, 82, 83, 84, 85, 86, 87, 88, 89, 90, 91, 92, 93, 94, 95, 96] (by decide +kernel) (by decide +kernel)
set_option maxRecDepth 20000 in
theorem gX7_days_X7_pass : GoodIn wsX7_days (wsV RX7 113 RX7 yX7_pass wsX7_pass) := goodIn_app (goodIn_of _ (by decide +kernel)) ggX7_days_X7_pass
theorem dX7_days_0 : decode cX7_days 0 = .ok (.iload_n 1, 1) := by decide +kernel
theorem dX7_days_1 : decode cX7_days 1 = .ok (.iconst 1, 1) := by decide +kernel
theorem dX7_days_2 : decode cX7_days 2 = .ok (.bipush 99, 2) := by decide +kernel
theorem dX7_days_4 : decode cX7_days 4 = .ok (.invokestatic 39, 3) := by decide +kernel
theorem dX7_days_7 : decode cX7_days 7 = .ok (.ifCond .ne 6, 3) := by decide +kernel
theorem dX7_days_10 : decode cX7_days 10 = .ok (.ldc 96, 2) := by decide +kernel
theorem dX7_days_12 : decode cX7_days 12 = .ok (.ireturn, 1) := by decide +kernel
theorem dX7_days_13 : decode cX7_days 13 = .ok (.aload_n 0, 1) := by decide +kernel
theorem dX7_days_14 : decode cX7_days 14 = .ok (.getfield 7, 3) := by decide +kernel
theorem dX7_days_17 : decode cX7_days 17 = .ok (.sipush 400, 3) := by decide +kernel
theorem dX7_days_20 : decode cX7_days 20 = .ok (.iaload, 1) := by decide +kernel
theorem dX7_days_21 : decode cX7_days 21 = .ok (.iload_n 1, 1) := by decide +kernel
theorem dX7_days_22 : decode cX7_days 22 = .ok (.iadd, 1) := by decide +kernel
theorem dX7_days_23 : decode cX7_days 23 = .ok (.sipush 9999, 3) := by decide +kernel
theorem dX7_days_26 : decode cX7_days 26 = .ok (.if_icmp .le 6, 3) := by decide +kernel
theorem dX7_days_29 : decode cX7_days 29 = .ok (.ldc 101, 2) := by decide +kernel
theorem dX7_days_31 : decode cX7_days 31 = .ok (.ireturn, 1) := by decide +kernel
theorem dX7_days_32 : decode cX7_days 32 = .ok (.aload_n 0, 1) := by decide +kernel
theorem dX7_days_33 : decode cX7_days 33 = .ok (.invokevirtual 102, 3) := by decide +kernel
theorem dX7_days_36 : decode cX7_days 36 = .ok (.aload_n 0, 1) := by decide +kernel
theorem dX7_days_37 : decode cX7_days 37 = .ok (.iload_n 1, 1) := by decide +kernel
theorem dX7_days_38 : decode cX7_days 38 = .ok (.invokevirtual 113, 3) := by decide +kernel
theorem dX7_days_41 : decode cX7_days 41 = .ok (.ireturn, 1) := by decide +kernel
theorem dX7_least_0 : decode cX7_least 0 = .ok (.iload_n 0, 1) := by decide +kernel
theorem dX7_least_1 : decode cX7_least 1 = .ok (.ifCond .ne 7, 3) := by decide +kernel
theorem dX7_least_4 : decode cX7_least 4 = .ok (.iconst 0, 1) := by decide +kernel
theorem dX7_least_5 : decode cX7_least 5 = .ok (.goto 13, 3) := by decide +kernel
theorem dX7_least_8 : decode cX7_least 8 = .ok (.iload_n 0, 1) := by decide +kernel
theorem dX7_least_9 : decode cX7_least 9 = .ok (.iconst 3, 1) := by decide +kernel
theorem dX7_least_10 : decode cX7_least 10 = .ok (.if_icmp .ne 7, 3) := by decide +kernel
theorem dX7_least_13 : decode cX7_least 13 = .ok (.iconst 5, 1) := by decide +kernel
theorem dX7_least_14 : decode cX7_least 14 = .ok (.goto 4, 3) := by decide +kernel
theorem dX7_least_17 : decode cX7_least 17 = .ok (.iconst 1, 1) := by decide +kernel
theorem dX7_least_18 : decode cX7_least 18 = .ok (.ireturn, 1) := by decide +kernel
theorem dX7_most_0 : decode cX7_most 0 = .ok (.iload_n 0, 1) := by decide +kernel
theorem dX7_most_1 : decode cX7_most 1 = .ok (.ifCond .ne 8, 3) := by decide +kernel
theorem dX7_most_4 : decode cX7_most 4 = .ok (.bipush 12, 2) := by decide +kernel
theorem dX7_most_6 : decode cX7_most 6 = .ok (.goto 26, 3) := by decide +kernel
theorem dX7_most_9 : decode cX7_most 9 = .ok (.iload_n 0, 1) := by decide +kernel
theorem dX7_most_10 : decode cX7_most 10 = .ok (.iconst 1, 1) := by decide +kernel
theorem dX7_most_11 : decode cX7_most 11 = .ok (.if_icmp .ne 8, 3) := by decide +kernel
theorem dX7_most_14 : decode cX7_most 14 = .ok (.bipush 50, 2) := by decide +kernel
theorem dX7_most_16 : decode cX7_most 16 = .ok (.goto 16, 3) := by decide +kernel
theorem dX7_most_19 : decode cX7_most 19 = .ok (.iload_n 0, 1) := by decide +kernel
theorem dX7_most_20 : decode cX7_most 20 = .ok (.iconst 2, 1) := by decide +kernel
theorem dX7_most_21 : decode cX7_most 21 = .ok (.if_icmp .ne 8, 3) := by decide +kernel
theorem dX7_most_24 : decode cX7_most 24 = .ok (.bipush 99, 2) := by decide +kernel
theorem dX7_most_26 : decode cX7_most 26 = .ok (.goto 6, 3) := by decide +kernel
theorem dX7_most_29 : decode cX7_most 29 = .ok (.sipush 400, 3) := by decide +kernel
theorem dX7_most_32 : decode cX7_most 32 = .ok (.ireturn, 1) := by decide +kernel
set_option maxRecDepth 20000 in
theorem ggX7_set_X7_in : GoodIn wsX7_set wsX7_in := goodIn_r _ [6] (by decide +kernel) (by decide +kernel)
set_option maxRecDepth 20000 in
theorem gX7_set_X7_in : GoodIn wsX7_set (va_wsS RX7 39 yX7_in wsX7_in) := goodIn_app (goodIn_of _ (by decide +kernel)) ggX7_set_X7_in
set_option maxRecDepth 20000 in
theorem ggX7_set_X7_least : GoodIn wsX7_set wsX7_least := goodIn_r _ [9] (by decide +kernel) (by decide +kernel)
set_option maxRecDepth 20000 in
theorem gX7_set_X7_least : GoodIn wsX7_set (va_wsS RX7 116 yX7_least wsX7_least) := goodIn_app (goodIn_of _ (by decide +kernel)) ggX7_set_X7_least
set_option maxRecDepth 20000 in
theorem ggX7_set_X7_most : GoodIn wsX7_set wsX7_most := goodIn_r _ [12] (by decide +kernel) (by decide +kernel)
set_option maxRecDepth 20000 in
theorem gX7_set_X7_most : GoodIn wsX7_set (va_wsS RX7 119 yX7_most wsX7_most) := goodIn_app (goodIn_of _ (by decide +kernel)) ggX7_set_X7_most
set_option maxRecDepth 20000 in
theorem ggX7_set_X7_changes : GoodIn wsX7_set wsX7_changes := goodIn_r _ [16, 17, 18, 19, 2, 20, 21, 22, 23, 24, 25, 26, 27, 28, 29, 30, 31, 32, 33, 34, 35] (by decide +kernel) (by decide +kernel)
set_option maxRecDepth 20000 in
theorem gX7_set_X7_changes : GoodIn wsX7_set (wsV RX7 102 RX7 yX7_changes wsX7_changes) := goodIn_app (goodIn_of _ (by decide +kernel)) ggX7_set_X7_changes
theorem dX7_set_0 : decode cX7_set 0 = .ok (.iload_n 1, 1) := by decide +kernel
theorem dX7_set_1 : decode cX7_set 1 = .ok (.iconst 0, 1) := by decide +kernel
theorem dX7_set_2 : decode cX7_set 2 = .ok (.iconst 3, 1) := by decide +kernel
theorem dX7_set_3 : decode cX7_set 3 = .ok (.invokestatic 39, 3) := by decide +kernel
theorem dX7_set_6 : decode cX7_set 6 = .ok (.ifCond .eq 18, 3) := by decide +kernel
theorem dX7_set_9 : decode cX7_set 9 = .ok (.iload_n 2, 1) := by decide +kernel
theorem dX7_set_10 : decode cX7_set 10 = .ok (.iload_n 1, 1) := by decide +kernel
theorem dX7_set_11 : decode cX7_set 11 = .ok (.invokestatic 116, 3) := by decide +kernel
theorem dX7_set_14 : decode cX7_set 14 = .ok (.iload_n 1, 1) := by decide +kernel
theorem dX7_set_15 : decode cX7_set 15 = .ok (.invokestatic 119, 3) := by decide +kernel
theorem dX7_set_18 : decode cX7_set 18 = .ok (.invokestatic 39, 3) := by decide +kernel
theorem dX7_set_21 : decode cX7_set 21 = .ok (.ifCond .ne 6, 3) := by decide +kernel
theorem dX7_set_24 : decode cX7_set 24 = .ok (.ldc 96, 2) := by decide +kernel
theorem dX7_set_26 : decode cX7_set 26 = .ok (.ireturn, 1) := by decide +kernel
theorem dX7_set_27 : decode cX7_set 27 = .ok (.aload_n 0, 1) := by decide +kernel
theorem dX7_set_28 : decode cX7_set 28 = .ok (.invokevirtual 102, 3) := by decide +kernel
theorem dX7_set_31 : decode cX7_set 31 = .ok (.aload_n 0, 1) := by decide +kernel
theorem dX7_set_32 : decode cX7_set 32 = .ok (.getfield 7, 3) := by decide +kernel
theorem dX7_set_35 : decode cX7_set 35 = .ok (.sipush 410, 3) := by decide +kernel
theorem dX7_set_38 : decode cX7_set 38 = .ok (.iload_n 1, 1) := by decide +kernel
theorem dX7_set_39 : decode cX7_set 39 = .ok (.iadd, 1) := by decide +kernel
theorem dX7_set_40 : decode cX7_set 40 = .ok (.iaload, 1) := by decide +kernel
theorem dX7_set_41 : decode cX7_set 41 = .ok (.istore_n 3, 1) := by decide +kernel
theorem dX7_set_42 : decode cX7_set 42 = .ok (.aload_n 0, 1) := by decide +kernel
theorem dX7_set_43 : decode cX7_set 43 = .ok (.getfield 7, 3) := by decide +kernel
theorem dX7_set_46 : decode cX7_set 46 = .ok (.sipush 410, 3) := by decide +kernel
theorem dX7_set_49 : decode cX7_set 49 = .ok (.iload_n 1, 1) := by decide +kernel
theorem dX7_set_50 : decode cX7_set 50 = .ok (.iadd, 1) := by decide +kernel
theorem dX7_set_51 : decode cX7_set 51 = .ok (.iload_n 2, 1) := by decide +kernel
theorem dX7_set_52 : decode cX7_set 52 = .ok (.iastore, 1) := by decide +kernel
theorem dX7_set_53 : decode cX7_set 53 = .ok (.iload_n 3, 1) := by decide +kernel
theorem dX7_set_54 : decode cX7_set 54 = .ok (.ireturn, 1) := by decide +kernel
set_option maxRecDepth 20000 in
theorem ggX7_houseOf_X7_isHouse : GoodIn wsX7_houseOf wsX7_isHouse := goodIn_r _ [7, 8, 9, 10, 6, 11, 21, 22, 23, 24, 25, 26, 27, 28, 29, 30, 31, 32, 33, 34, 35, 36] (by decide +kernel) (by decide +kernel)
set_option maxRecDepth 20000 in
theorem gX7_houseOf_X7_isHouse : GoodIn wsX7_houseOf (wsV RX7 105 RX7 yX7_isHouse wsX7_isHouse) := goodIn_app (goodIn_of _ (by decide +kernel)) ggX7_houseOf_X7_isHouse
set_option maxRecDepth 20000 in
theorem ggX7_houseOf_X7_in : GoodIn wsX7_houseOf wsX7_in := goodIn_r _ [11] (by decide +kernel) (by decide +kernel)
set_option maxRecDepth 20000 in
theorem gX7_houseOf_X7_in : GoodIn wsX7_houseOf (va_wsS RX7 39 yX7_in wsX7_in) := goodIn_app (goodIn_of _ (by decide +kernel)) ggX7_houseOf_X7_in
set_option maxRecDepth 20000 in
theorem ggX7_houseOf_X7_used : GoodIn wsX7_houseOf wsX7_used := goodIn_r _ [15, 16, 17, 18, 19, 6, 20, 8, 21, 22, 23, 24, 25, 26, 27, 28, 29, 30, 31, 32, 33, 34, 35, 36] (by decide +kernel) (by decide +kernel)
set_option maxRecDepth 20000 in
theorem gX7_houseOf_X7_used : GoodIn wsX7_houseOf (wsV RX7 49 RX7 yX7_used wsX7_used) := goodIn_app (goodIn_of _ (by decide +kernel)) ggX7_houseOf_X7_used
set_option maxRecDepth 20000 in
theorem ggX7_houseOf_X7_of : GoodIn wsX7_houseOf wsX7_of := goodIn_r _ [20, 8, 21, 22, 23, 24, 25, 26, 27, 28, 29, 30, 31, 32, 33, 34, 35, 36] (by decide +kernel) (by decide +kernel)
set_option maxRecDepth 20000 in
theorem gX7_houseOf_X7_of : GoodIn wsX7_houseOf (wsV RX7 43 RX7 yX7_of wsX7_of) := goodIn_app (goodIn_of _ (by decide +kernel)) ggX7_houseOf_X7_of
theorem dX7_houseOf_0 : decode cX7_houseOf 0 = .ok (.aload_n 0, 1) := by decide +kernel
theorem dX7_houseOf_1 : decode cX7_houseOf 1 = .ok (.iload_n 1, 1) := by decide +kernel
theorem dX7_houseOf_2 : decode cX7_houseOf 2 = .ok (.invokevirtual 105, 3) := by decide +kernel
theorem dX7_houseOf_5 : decode cX7_houseOf 5 = .ok (.ifCond .eq 13, 3) := by decide +kernel
theorem dX7_houseOf_8 : decode cX7_houseOf 8 = .ok (.iload_n 2, 1) := by decide +kernel
theorem dX7_houseOf_9 : decode cX7_houseOf 9 = .ok (.iconst 0, 1) := by decide +kernel
theorem dX7_houseOf_10 : decode cX7_houseOf 10 = .ok (.bipush 13, 2) := by decide +kernel
theorem dX7_houseOf_12 : decode cX7_houseOf 12 = .ok (.invokestatic 39, 3) := by decide +kernel
theorem dX7_houseOf_15 : decode cX7_houseOf 15 = .ok (.ifCond .ne 6, 3) := by decide +kernel
theorem dX7_houseOf_18 : decode cX7_houseOf 18 = .ok (.ldc 96, 2) := by decide +kernel
theorem dX7_houseOf_20 : decode cX7_houseOf 20 = .ok (.ireturn, 1) := by decide +kernel
theorem dX7_houseOf_21 : decode cX7_houseOf 21 = .ok (.iload_n 2, 1) := by decide +kernel
theorem dX7_houseOf_22 : decode cX7_houseOf 22 = .ok (.tableswitch 76 3 7 #[34, 40, 76, 76, 51], 34) := by decide +kernel
theorem dX7_houseOf_56 : decode cX7_houseOf 56 = .ok (.aload_n 0, 1) := by decide +kernel
theorem dX7_houseOf_57 : decode cX7_houseOf 57 = .ok (.iload_n 1, 1) := by decide +kernel
theorem dX7_houseOf_58 : decode cX7_houseOf 58 = .ok (.invokevirtual 49, 3) := by decide +kernel
theorem dX7_houseOf_61 : decode cX7_houseOf 61 = .ok (.ireturn, 1) := by decide +kernel
theorem dX7_houseOf_62 : decode cX7_houseOf 62 = .ok (.sipush 1000, 3) := by decide +kernel
theorem dX7_houseOf_65 : decode cX7_houseOf 65 = .ok (.aload_n 0, 1) := by decide +kernel
theorem dX7_houseOf_66 : decode cX7_houseOf 66 = .ok (.iload_n 1, 1) := by decide +kernel
theorem dX7_houseOf_67 : decode cX7_houseOf 67 = .ok (.iconst 4, 1) := by decide +kernel
theorem dX7_houseOf_68 : decode cX7_houseOf 68 = .ok (.invokevirtual 43, 3) := by decide +kernel
theorem dX7_houseOf_71 : decode cX7_houseOf 71 = .ok (.iadd, 1) := by decide +kernel
theorem dX7_houseOf_72 : decode cX7_houseOf 72 = .ok (.ireturn, 1) := by decide +kernel
theorem dX7_houseOf_73 : decode cX7_houseOf 73 = .ok (.aload_n 0, 1) := by decide +kernel
theorem dX7_houseOf_74 : decode cX7_houseOf 74 = .ok (.iload_n 1, 1) := by decide +kernel
theorem dX7_houseOf_75 : decode cX7_houseOf 75 = .ok (.bipush 7, 2) := by decide +kernel
theorem dX7_houseOf_77 : decode cX7_houseOf 77 = .ok (.invokevirtual 43, 3) := by decide +kernel
theorem dX7_houseOf_80 : decode cX7_houseOf 80 = .ok (.ifCond .le 15, 3) := by decide +kernel
theorem dX7_houseOf_83 : decode cX7_houseOf 83 = .ok (.aload_n 0, 1) := by decide +kernel
theorem dX7_houseOf_84 : decode cX7_houseOf 84 = .ok (.iload_n 1, 1) := by decide +kernel
theorem dX7_houseOf_85 : decode cX7_houseOf 85 = .ok (.bipush 7, 2) := by decide +kernel
theorem dX7_houseOf_87 : decode cX7_houseOf 87 = .ok (.invokevirtual 43, 3) := by decide +kernel
theorem dX7_houseOf_90 : decode cX7_houseOf 90 = .ok (.iconst 1, 1) := by decide +kernel
theorem dX7_houseOf_91 : decode cX7_houseOf 91 = .ok (.isub, 1) := by decide +kernel
theorem dX7_houseOf_92 : decode cX7_houseOf 92 = .ok (.goto 5, 3) := by decide +kernel
theorem dX7_houseOf_95 : decode cX7_houseOf 95 = .ok (.ldc 47, 2) := by decide +kernel
theorem dX7_houseOf_97 : decode cX7_houseOf 97 = .ok (.ireturn, 1) := by decide +kernel
theorem dX7_houseOf_98 : decode cX7_houseOf 98 = .ok (.aload_n 0, 1) := by decide +kernel
theorem dX7_houseOf_99 : decode cX7_houseOf 99 = .ok (.iload_n 1, 1) := by decide +kernel
theorem dX7_houseOf_100 : decode cX7_houseOf 100 = .ok (.iload_n 2, 1) := by decide +kernel
theorem dX7_houseOf_101 : decode cX7_houseOf 101 = .ok (.invokevirtual 43, 3) := by decide +kernel
theorem dX7_houseOf_104 : decode cX7_houseOf 104 = .ok (.ireturn, 1) := by decide +kernel
set_option maxRecDepth 20000 in
theorem ggX7_at_X7_isPlace : GoodIn wsX7_at wsX7_isPlace := goodIn_r _ [5, 6, 7, 4, 8] (by decide +kernel) (by decide +kernel)
set_option maxRecDepth 20000 in
theorem gX7_at_X7_isPlace : GoodIn wsX7_at (va_wsS RX7 92 yX7_isPlace wsX7_isPlace) := goodIn_app (goodIn_of _ (by decide +kernel)) ggX7_at_X7_isPlace
set_option maxRecDepth 20000 in
theorem ggX7_at_X7_atPlace : GoodIn wsX7_at wsX7_atPlace := goodIn_r _ [12, 13, 14, 15, 16, 17, 4, 18, 19, 20, 21, 22, 23, 24, 25, 26, 27, 28, 29, 30, 31, 32, 33, 34] (by decide +kernel) (by decide +kernel)
set_option maxRecDepth 20000 in
theorem gX7_at_X7_atPlace : GoodIn wsX7_at (wsV RX7 97 RX7 yX7_atPlace wsX7_atPlace) := goodIn_app (goodIn_of _ (by decide +kernel)) ggX7_at_X7_atPlace
theorem dX7_at_0 : decode cX7_at 0 = .ok (.iload_n 1, 1) := by decide +kernel
theorem dX7_at_1 : decode cX7_at 1 = .ok (.iload_n 2, 1) := by decide +kernel
theorem dX7_at_2 : decode cX7_at 2 = .ok (.invokestatic 92, 3) := by decide +kernel
theorem dX7_at_5 : decode cX7_at 5 = .ok (.ifCond .eq 12, 3) := by decide +kernel
theorem dX7_at_8 : decode cX7_at 8 = .ok (.aload_n 0, 1) := by decide +kernel
theorem dX7_at_9 : decode cX7_at 9 = .ok (.iload_n 1, 1) := by decide +kernel
theorem dX7_at_10 : decode cX7_at 10 = .ok (.iload_n 2, 1) := by decide +kernel
theorem dX7_at_11 : decode cX7_at 11 = .ok (.invokevirtual 97, 3) := by decide +kernel
theorem dX7_at_14 : decode cX7_at 14 = .ok (.goto 5, 3) := by decide +kernel
theorem dX7_at_17 : decode cX7_at 17 = .ok (.ldc 96, 2) := by decide +kernel
theorem dX7_at_19 : decode cX7_at 19 = .ok (.ireturn, 1) := by decide +kernel
set_option maxRecDepth 20000 in
theorem ggX7_next_X7_in : GoodIn wsX7_next wsX7_in := goodIn_r _ [7] (by decide +kernel) (by decide +kernel)
set_option maxRecDepth 20000 in
theorem gX7_next_X7_in : GoodIn wsX7_next (va_wsS RX7 39 yX7_in wsX7_in) := goodIn_app (goodIn_of _ (by decide +kernel)) ggX7_next_X7_in
set_option maxRecDepth 20000 in
theorem ggX7_next_X7_rounds : GoodIn wsX7_next wsX7_rounds := goodIn_r _ [11, 12, 2, 13, 14, 15, 6, 16, 17, 18, 19, 20, 21, 22, 23, 24, 25, 26, 27, 28, 29, 30, 31, 32, 33, 34, 35, 36, 37, 38, 39, 40] (by decide +kernel) (by decide +kernel)
set_option maxRecDepth 20000 in
theorem gX7_next_X7_rounds : GoodIn wsX7_next (wsV RX7 77 RX7 yX7_rounds wsX7_rounds) := goodIn_app (goodIn_of _ (by decide +kernel)) ggX7_next_X7_rounds
theorem dX7_next_0 : decode cX7_next 0 = .ok (.iload_n 1, 1) := by decide +kernel
theorem dX7_next_1 : decode cX7_next 1 = .ok (.iconst 0, 1) := by decide +kernel
theorem dX7_next_2 : decode cX7_next 2 = .ok (.iconst 3, 1) := by decide +kernel
theorem dX7_next_3 : decode cX7_next 3 = .ok (.invokestatic 39, 3) := by decide +kernel
theorem dX7_next_6 : decode cX7_next 6 = .ok (.ifCond .eq 7, 3) := by decide +kernel
theorem dX7_next_9 : decode cX7_next 9 = .ok (.iload_n 2, 1) := by decide +kernel
theorem dX7_next_10 : decode cX7_next 10 = .ok (.ifCond .ge 6, 3) := by decide +kernel
theorem dX7_next_13 : decode cX7_next 13 = .ok (.ldc 96, 2) := by decide +kernel
theorem dX7_next_15 : decode cX7_next 15 = .ok (.ireturn, 1) := by decide +kernel
theorem dX7_next_16 : decode cX7_next 16 = .ok (.iload_n 2, 1) := by decide +kernel
theorem dX7_next_17 : decode cX7_next 17 = .ok (.aload_n 0, 1) := by decide +kernel
theorem dX7_next_18 : decode cX7_next 18 = .ok (.iload_n 1, 1) := by decide +kernel
theorem dX7_next_19 : decode cX7_next 19 = .ok (.invokevirtual 77, 3) := by decide +kernel
theorem dX7_next_22 : decode cX7_next 22 = .ok (.if_icmp .ge 12, 3) := by decide +kernel
theorem dX7_next_25 : decode cX7_next 25 = .ok (.aload_n 0, 1) := by decide +kernel
theorem dX7_next_26 : decode cX7_next 26 = .ok (.getfield 25, 3) := by decide +kernel
theorem dX7_next_29 : decode cX7_next 29 = .ok (.iload_n 2, 1) := by decide +kernel
theorem dX7_next_30 : decode cX7_next 30 = .ok (.iaload, 1) := by decide +kernel
theorem dX7_next_31 : decode cX7_next 31 = .ok (.goto 5, 3) := by decide +kernel
theorem dX7_next_34 : decode cX7_next 34 = .ok (.ldc 47, 2) := by decide +kernel
theorem dX7_next_36 : decode cX7_next 36 = .ok (.ireturn, 1) := by decide +kernel
set_option maxRecDepth 20000 in
theorem ggX7_ledger_X7_in : GoodIn wsX7_ledger wsX7_in := goodIn_r _ [7] (by decide +kernel) (by decide +kernel)
set_option maxRecDepth 20000 in
theorem gX7_ledger_X7_in : GoodIn wsX7_ledger (va_wsS RX7 39 yX7_in wsX7_in) := goodIn_app (goodIn_of _ (by decide +kernel)) ggX7_ledger_X7_in
theorem dX7_ledger_0 : decode cX7_ledger 0 = .ok (.iload_n 1, 1) := by decide +kernel
theorem dX7_ledger_1 : decode cX7_ledger 1 = .ok (.ifCond .lt 12, 3) := by decide +kernel
theorem dX7_ledger_4 : decode cX7_ledger 4 = .ok (.iload_n 2, 1) := by decide +kernel
theorem dX7_ledger_5 : decode cX7_ledger 5 = .ok (.iconst 0, 1) := by decide +kernel
theorem dX7_ledger_6 : decode cX7_ledger 6 = .ok (.iconst 5, 1) := by decide +kernel
theorem dX7_ledger_7 : decode cX7_ledger 7 = .ok (.invokestatic 39, 3) := by decide +kernel
theorem dX7_ledger_10 : decode cX7_ledger 10 = .ok (.ifCond .ne 6, 3) := by decide +kernel
theorem dX7_ledger_13 : decode cX7_ledger 13 = .ok (.ldc 96, 2) := by decide +kernel
theorem dX7_ledger_15 : decode cX7_ledger 15 = .ok (.ireturn, 1) := by decide +kernel
theorem dX7_ledger_16 : decode cX7_ledger 16 = .ok (.iload_n 1, 1) := by decide +kernel
theorem dX7_ledger_17 : decode cX7_ledger 17 = .ok (.aload_n 0, 1) := by decide +kernel
theorem dX7_ledger_18 : decode cX7_ledger 18 = .ok (.getfield 7, 3) := by decide +kernel
theorem dX7_ledger_21 : decode cX7_ledger 21 = .ok (.sipush 409, 3) := by decide +kernel
theorem dX7_ledger_24 : decode cX7_ledger 24 = .ok (.iaload, 1) := by decide +kernel
theorem dX7_ledger_25 : decode cX7_ledger 25 = .ok (.if_icmp .ge 21, 3) := by decide +kernel
theorem dX7_ledger_28 : decode cX7_ledger 28 = .ok (.aload_n 0, 1) := by decide +kernel
theorem dX7_ledger_29 : decode cX7_ledger 29 = .ok (.getfield 7, 3) := by decide +kernel
theorem dX7_ledger_32 : decode cX7_ledger 32 = .ok (.sipush 340, 3) := by decide +kernel
theorem dX7_ledger_35 : decode cX7_ledger 35 = .ok (.bipush 6, 2) := by decide +kernel
theorem dX7_ledger_37 : decode cX7_ledger 37 = .ok (.iload_n 1, 1) := by decide +kernel
theorem dX7_ledger_38 : decode cX7_ledger 38 = .ok (.imul, 1) := by decide +kernel
theorem dX7_ledger_39 : decode cX7_ledger 39 = .ok (.iadd, 1) := by decide +kernel
theorem dX7_ledger_40 : decode cX7_ledger 40 = .ok (.iload_n 2, 1) := by decide +kernel
theorem dX7_ledger_41 : decode cX7_ledger 41 = .ok (.iadd, 1) := by decide +kernel
theorem dX7_ledger_42 : decode cX7_ledger 42 = .ok (.iaload, 1) := by decide +kernel
theorem dX7_ledger_43 : decode cX7_ledger 43 = .ok (.goto 5, 3) := by decide +kernel
theorem dX7_ledger_46 : decode cX7_ledger 46 = .ok (.ldc 47, 2) := by decide +kernel
theorem dX7_ledger_48 : decode cX7_ledger 48 = .ok (.ireturn, 1) := by decide +kernel
set_option maxRecDepth 20000 in
theorem ggX7_why_X7_isHouse : GoodIn wsX7_why wsX7_isHouse := goodIn_r _ [6, 7, 8, 9, 5, 10, 19, 20, 21, 22, 23, 24, 25, 26, 27, 28, 29, 30, 31, 32, 33, 34] (by decide +kernel) (by decide +kernel)
set_option maxRecDepth 20000 in
theorem gX7_why_X7_isHouse : GoodIn wsX7_why (wsV RX7 105 RX7 yX7_isHouse wsX7_isHouse) := goodIn_app (goodIn_of _ (by decide +kernel)) ggX7_why_X7_isHouse
set_option maxRecDepth 20000 in
theorem ggX7_why_X7_barred : GoodIn wsX7_why wsX7_barred := goodIn_r _ [14, 7, 15, 16, 17, 5, 18, 19, 20, 21, 22, 23, 24, 25, 26, 27, 28, 29, 30, 31, 32, 33, 34] (by decide +kernel) (by decide +kernel)
set_option maxRecDepth 20000 in
theorem gX7_why_X7_barred : GoodIn wsX7_why (wsV RX7 80 RX7 yX7_barred wsX7_barred) := goodIn_app (goodIn_of _ (by decide +kernel)) ggX7_why_X7_barred
theorem dX7_why_0 : decode cX7_why 0 = .ok (.aload_n 0, 1) := by decide +kernel
theorem dX7_why_1 : decode cX7_why 1 = .ok (.iload_n 1, 1) := by decide +kernel
theorem dX7_why_2 : decode cX7_why 2 = .ok (.invokevirtual 105, 3) := by decide +kernel
theorem dX7_why_5 : decode cX7_why 5 = .ok (.ifCond .eq 11, 3) := by decide +kernel
theorem dX7_why_8 : decode cX7_why 8 = .ok (.aload_n 0, 1) := by decide +kernel
theorem dX7_why_9 : decode cX7_why 9 = .ok (.iload_n 1, 1) := by decide +kernel
theorem dX7_why_10 : decode cX7_why 10 = .ok (.invokevirtual 80, 3) := by decide +kernel
theorem dX7_why_13 : decode cX7_why 13 = .ok (.goto 5, 3) := by decide +kernel
theorem dX7_why_16 : decode cX7_why 16 = .ok (.ldc 96, 2) := by decide +kernel
theorem dX7_why_18 : decode cX7_why 18 = .ok (.ireturn, 1) := by decide +kernel
set_option maxRecDepth 20000 in
theorem ggX7_ifRead_X7_isHouse : GoodIn wsX7_ifRead wsX7_isHouse := goodIn_r _ [7, 2, 8, 9, 6, 10, 28, 29, 30, 31, 32, 33, 34, 35, 36, 37, 38, 39, 40, 41, 42, 43] (by decide +kernel) (by decide +kernel)
set_option maxRecDepth 20000 in
theorem gX7_ifRead_X7_isHouse : GoodIn wsX7_ifRead (wsV RX7 105 RX7 yX7_isHouse wsX7_isHouse) := goodIn_app (goodIn_of _ (by decide +kernel)) ggX7_ifRead_X7_isHouse
set_option maxRecDepth 20000 in
theorem ggX7_ifRead_X7_in : GoodIn wsX7_ifRead wsX7_in := goodIn_r _ [10] (by decide +kernel) (by decide +kernel)
set_option maxRecDepth 20000 in
theorem gX7_ifRead_X7_in : GoodIn wsX7_ifRead (va_wsS RX7 39 yX7_in wsX7_in) := goodIn_app (goodIn_of _ (by decide +kernel)) ggX7_ifRead_X7_in
set_option maxRecDepth 20000 in
theorem ggX7_ifRead_X7_balanceThen : GoodIn wsX7_ifRead wsX7_balanceThen := goodIn_r _ [14, 15, 16, 17, 6, 18, 2, 19, 20, 21, 22, 23, 24, 25, 26, 27, 28, 29, 30, 31, 32, 33, 34, 35, 36, 37, 38, 39, 40, 41, 42, 43] (by decide +kernel) (by decide +kernel)
set_option maxRecDepth 20000 in
theorem gX7_ifRead_X7_balanceThen : GoodIn wsX7_ifRead (wsV RX7 56 RX7 yX7_balanceThen wsX7_balanceThen) := goodIn_app (goodIn_of _ (by decide +kernel)) ggX7_ifRead_X7_balanceThen
set_option maxRecDepth 20000 in
theorem ggX7_ifRead_X7_unitsOf : GoodIn wsX7_ifRead wsX7_unitsOf := goodIn_r _ [22, 23, 24, 25, 6, 26, 27, 15, 16, 17, 18, 2, 28, 29, 30, 31, 32, 33, 34, 35, 36, 37, 38, 39, 40, 41, 42, 43] (by decide +kernel) (by decide +kernel)
set_option maxRecDepth 20000 in
theorem gX7_ifRead_X7_unitsOf : GoodIn wsX7_ifRead (wsV RX7 53 RX7 yX7_unitsOf wsX7_unitsOf) := goodIn_app (goodIn_of _ (by decide +kernel)) ggX7_ifRead_X7_unitsOf
theorem dX7_ifRead_0 : decode cX7_ifRead 0 = .ok (.aload_n 0, 1) := by decide +kernel
theorem dX7_ifRead_1 : decode cX7_ifRead 1 = .ok (.iload_n 1, 1) := by decide +kernel
theorem dX7_ifRead_2 : decode cX7_ifRead 2 = .ok (.invokevirtual 105, 3) := by decide +kernel
theorem dX7_ifRead_5 : decode cX7_ifRead 5 = .ok (.ifCond .eq 12, 3) := by decide +kernel
theorem dX7_ifRead_8 : decode cX7_ifRead 8 = .ok (.iload_n 2, 1) := by decide +kernel
theorem dX7_ifRead_9 : decode cX7_ifRead 9 = .ok (.iconst 0, 1) := by decide +kernel
theorem dX7_ifRead_10 : decode cX7_ifRead 10 = .ok (.iconst 3, 1) := by decide +kernel
theorem dX7_ifRead_11 : decode cX7_ifRead 11 = .ok (.invokestatic 39, 3) := by decide +kernel
theorem dX7_ifRead_14 : decode cX7_ifRead 14 = .ok (.ifCond .ne 6, 3) := by decide +kernel
theorem dX7_ifRead_17 : decode cX7_ifRead 17 = .ok (.ldc 96, 2) := by decide +kernel
theorem dX7_ifRead_19 : decode cX7_ifRead 19 = .ok (.ireturn, 1) := by decide +kernel
theorem dX7_ifRead_20 : decode cX7_ifRead 20 = .ok (.aload_n 0, 1) := by decide +kernel
theorem dX7_ifRead_21 : decode cX7_ifRead 21 = .ok (.iload_n 1, 1) := by decide +kernel
theorem dX7_ifRead_22 : decode cX7_ifRead 22 = .ok (.invokevirtual 56, 3) := by decide +kernel
theorem dX7_ifRead_25 : decode cX7_ifRead 25 = .ok (.istore_n 3, 1) := by decide +kernel
theorem dX7_ifRead_26 : decode cX7_ifRead 26 = .ok (.iload_n 2, 1) := by decide +kernel
theorem dX7_ifRead_27 : decode cX7_ifRead 27 = .ok (.tableswitch 55 0 2 #[25, 31, 37], 25) := by decide +kernel
theorem dX7_ifRead_52 : decode cX7_ifRead 52 = .ok (.aload_n 0, 1) := by decide +kernel
theorem dX7_ifRead_53 : decode cX7_ifRead 53 = .ok (.iload_n 1, 1) := by decide +kernel
theorem dX7_ifRead_54 : decode cX7_ifRead 54 = .ok (.invokevirtual 53, 3) := by decide +kernel
theorem dX7_ifRead_57 : decode cX7_ifRead 57 = .ok (.ireturn, 1) := by decide +kernel
theorem dX7_ifRead_58 : decode cX7_ifRead 58 = .ok (.sipush 1000, 3) := by decide +kernel
theorem dX7_ifRead_61 : decode cX7_ifRead 61 = .ok (.iload_n 3, 1) := by decide +kernel
theorem dX7_ifRead_62 : decode cX7_ifRead 62 = .ok (.iadd, 1) := by decide +kernel
theorem dX7_ifRead_63 : decode cX7_ifRead 63 = .ok (.ireturn, 1) := by decide +kernel
theorem dX7_ifRead_64 : decode cX7_ifRead 64 = .ok (.iload_n 3, 1) := by decide +kernel
theorem dX7_ifRead_65 : decode cX7_ifRead 65 = .ok (.ifCond .le 7, 3) := by decide +kernel
theorem dX7_ifRead_68 : decode cX7_ifRead 68 = .ok (.iconst 1, 1) := by decide +kernel
theorem dX7_ifRead_69 : decode cX7_ifRead 69 = .ok (.goto 12, 3) := by decide +kernel
theorem dX7_ifRead_72 : decode cX7_ifRead 72 = .ok (.iload_n 3, 1) := by decide +kernel
theorem dX7_ifRead_73 : decode cX7_ifRead 73 = .ok (.ifCond .ge 7, 3) := by decide +kernel
theorem dX7_ifRead_76 : decode cX7_ifRead 76 = .ok (.iconst 2, 1) := by decide +kernel
theorem dX7_ifRead_77 : decode cX7_ifRead 77 = .ok (.goto 4, 3) := by decide +kernel
theorem dX7_ifRead_80 : decode cX7_ifRead 80 = .ok (.iconst 0, 1) := by decide +kernel
theorem dX7_ifRead_81 : decode cX7_ifRead 81 = .ok (.ireturn, 1) := by decide +kernel
theorem dX7_ifRead_82 : decode cX7_ifRead 82 = .ok (.aload_n 0, 1) := by decide +kernel
theorem dX7_ifRead_83 : decode cX7_ifRead 83 = .ok (.iload_n 1, 1) := by decide +kernel
theorem dX7_ifRead_84 : decode cX7_ifRead 84 = .ok (.invokevirtual 53, 3) := by decide +kernel
theorem dX7_ifRead_87 : decode cX7_ifRead 87 = .ok (.aload_n 0, 1) := by decide +kernel
theorem dX7_ifRead_88 : decode cX7_ifRead 88 = .ok (.getfield 7, 3) := by decide +kernel
theorem dX7_ifRead_91 : decode cX7_ifRead 91 = .ok (.sipush 411, 3) := by decide +kernel
theorem dX7_ifRead_94 : decode cX7_ifRead 94 = .ok (.iaload, 1) := by decide +kernel
theorem dX7_ifRead_95 : decode cX7_ifRead 95 = .ok (.imul, 1) := by decide +kernel
theorem dX7_ifRead_96 : decode cX7_ifRead 96 = .ok (.ireturn, 1) := by decide +kernel
set_option maxRecDepth 20000 in
theorem ggX7_wronged_X7_of : GoodIn wsX7_wronged wsX7_of := goodIn_r _ [8, 2, 9, 10, 11, 12, 13, 14, 15, 16, 17, 18, 19, 20, 21, 22, 23, 24] (by decide +kernel) (by decide +kernel)
set_option maxRecDepth 20000 in
theorem gX7_wronged_X7_of : GoodIn wsX7_wronged (wsV RX7 43 RX7 yX7_of wsX7_of) := goodIn_app (goodIn_of _ (by decide +kernel)) ggX7_wronged_X7_of
theorem dX7_wronged_0 : decode cX7_wronged 0 = .ok (.iload_n 1, 1) := by decide +kernel
theorem dX7_wronged_1 : decode cX7_wronged 1 = .ok (.ifCond .ge 6, 3) := by decide +kernel
theorem dX7_wronged_4 : decode cX7_wronged 4 = .ok (.ldc 96, 2) := by decide +kernel
theorem dX7_wronged_6 : decode cX7_wronged 6 = .ok (.ireturn, 1) := by decide +kernel
theorem dX7_wronged_7 : decode cX7_wronged 7 = .ok (.iconst 0, 1) := by decide +kernel
theorem dX7_wronged_8 : decode cX7_wronged 8 = .ok (.istore_n 2, 1) := by decide +kernel
theorem dX7_wronged_9 : decode cX7_wronged 9 = .ok (.iload_n 2, 1) := by decide +kernel
theorem dX7_wronged_10 : decode cX7_wronged 10 = .ok (.aload_n 0, 1) := by decide +kernel
theorem dX7_wronged_11 : decode cX7_wronged 11 = .ok (.getfield 7, 3) := by decide +kernel
theorem dX7_wronged_14 : decode cX7_wronged 14 = .ok (.sipush 401, 3) := by decide +kernel
theorem dX7_wronged_17 : decode cX7_wronged 17 = .ok (.iaload, 1) := by decide +kernel
theorem dX7_wronged_18 : decode cX7_wronged 18 = .ok (.if_icmp .ge 80, 3) := by decide +kernel
theorem dX7_wronged_21 : decode cX7_wronged 21 = .ok (.iconst 0, 1) := by decide +kernel
theorem dX7_wronged_22 : decode cX7_wronged 22 = .ok (.istore_n 3, 1) := by decide +kernel
theorem dX7_wronged_23 : decode cX7_wronged 23 = .ok (.iconst 0, 1) := by decide +kernel
theorem dX7_wronged_24 : decode cX7_wronged 24 = .ok (.istore 4, 2) := by decide +kernel
theorem dX7_wronged_26 : decode cX7_wronged 26 = .ok (.iload 4, 2) := by decide +kernel
theorem dX7_wronged_28 : decode cX7_wronged 28 = .ok (.aload_n 0, 1) := by decide +kernel
theorem dX7_wronged_29 : decode cX7_wronged 29 = .ok (.getfield 7, 3) := by decide +kernel
theorem dX7_wronged_32 : decode cX7_wronged 32 = .ok (.sipush 401, 3) := by decide +kernel
theorem dX7_wronged_35 : decode cX7_wronged 35 = .ok (.iaload, 1) := by decide +kernel
theorem dX7_wronged_36 : decode cX7_wronged 36 = .ok (.if_icmp .ge 49, 3) := by decide +kernel
theorem dX7_wronged_39 : decode cX7_wronged 39 = .ok (.aload_n 0, 1) := by decide +kernel
theorem dX7_wronged_40 : decode cX7_wronged 40 = .ok (.iload 4, 2) := by decide +kernel
theorem dX7_wronged_42 : decode cX7_wronged 42 = .ok (.iconst 4, 1) := by decide +kernel
theorem dX7_wronged_43 : decode cX7_wronged 43 = .ok (.invokevirtual 43, 3) := by decide +kernel
theorem dX7_wronged_46 : decode cX7_wronged 46 = .ok (.aload_n 0, 1) := by decide +kernel
theorem dX7_wronged_47 : decode cX7_wronged 47 = .ok (.iload_n 2, 1) := by decide +kernel
theorem dX7_wronged_48 : decode cX7_wronged 48 = .ok (.iconst 4, 1) := by decide +kernel
theorem dX7_wronged_49 : decode cX7_wronged 49 = .ok (.invokevirtual 43, 3) := by decide +kernel
theorem dX7_wronged_52 : decode cX7_wronged 52 = .ok (.isub, 1) := by decide +kernel
theorem dX7_wronged_53 : decode cX7_wronged 53 = .ok (.istore 5, 2) := by decide +kernel
theorem dX7_wronged_55 : decode cX7_wronged 55 = .ok (.iload_n 3, 1) := by decide +kernel
theorem dX7_wronged_56 : decode cX7_wronged 56 = .ok (.iload 5, 2) := by decide +kernel
theorem dX7_wronged_58 : decode cX7_wronged 58 = .ok (.ifCond .gt 14, 3) := by decide +kernel
theorem dX7_wronged_61 : decode cX7_wronged 61 = .ok (.iload 5, 2) := by decide +kernel
theorem dX7_wronged_63 : decode cX7_wronged 63 = .ok (.ifCond .ne 13, 3) := by decide +kernel
theorem dX7_wronged_66 : decode cX7_wronged 66 = .ok (.iload 4, 2) := by decide +kernel
theorem dX7_wronged_68 : decode cX7_wronged 68 = .ok (.iload_n 2, 1) := by decide +kernel
theorem dX7_wronged_69 : decode cX7_wronged 69 = .ok (.if_icmp .ge 7, 3) := by decide +kernel
theorem dX7_wronged_72 : decode cX7_wronged 72 = .ok (.iconst 1, 1) := by decide +kernel
theorem dX7_wronged_73 : decode cX7_wronged 73 = .ok (.goto 4, 3) := by decide +kernel
theorem dX7_wronged_76 : decode cX7_wronged 76 = .ok (.iconst 0, 1) := by decide +kernel
theorem dX7_wronged_77 : decode cX7_wronged 77 = .ok (.iadd, 1) := by decide +kernel
theorem dX7_wronged_78 : decode cX7_wronged 78 = .ok (.istore_n 3, 1) := by decide +kernel
theorem dX7_wronged_79 : decode cX7_wronged 79 = .ok (.iinc 4 1, 3) := by decide +kernel
theorem dX7_wronged_82 : decode cX7_wronged 82 = .ok (.goto (-56), 3) := by decide +kernel
theorem dX7_wronged_85 : decode cX7_wronged 85 = .ok (.iload_n 3, 1) := by decide +kernel
theorem dX7_wronged_86 : decode cX7_wronged 86 = .ok (.iload_n 1, 1) := by decide +kernel
theorem dX7_wronged_87 : decode cX7_wronged 87 = .ok (.if_icmp .ne 5, 3) := by decide +kernel
theorem dX7_wronged_90 : decode cX7_wronged 90 = .ok (.iload_n 2, 1) := by decide +kernel
theorem dX7_wronged_91 : decode cX7_wronged 91 = .ok (.ireturn, 1) := by decide +kernel
theorem dX7_wronged_92 : decode cX7_wronged 92 = .ok (.iinc 2 1, 3) := by decide +kernel
theorem dX7_wronged_95 : decode cX7_wronged 95 = .ok (.goto (-86), 3) := by decide +kernel
theorem dX7_wronged_98 : decode cX7_wronged 98 = .ok (.ldc 47, 2) := by decide +kernel
theorem dX7_wronged_100 : decode cX7_wronged 100 = .ok (.ireturn, 1) := by decide +kernel
set_option maxRecDepth 20000 in
theorem ggX7_refundIn_X7_isHouse : GoodIn wsX7_refundIn wsX7_isHouse := goodIn_r _ [9, 2, 10, 11, 8, 12, 78, 79, 80, 81, 82, 83, 84, 85, 86, 87, 88, 89, 90, 91, 92, 93] (by decide +kernel) (by decide +kernel)
set_option maxRecDepth 20000 in
theorem gX7_refundIn_X7_isHouse : GoodIn wsX7_refundIn (wsV RX7 105 RX7 yX7_isHouse wsX7_isHouse) := goodIn_app (goodIn_of _ (by decide +kernel)) ggX7_refundIn_X7_isHouse
set_option maxRecDepth 20000 in
theorem ggX7_refundIn_X7_copies : GoodIn wsX7_refundIn wsX7_copies := goodIn_r _ [15] (by decide +kernel) (by decide +kernel)
set_option maxRecDepth 20000 in
theorem gX7_refundIn_X7_copies : GoodIn wsX7_refundIn (va_wsS RX7 122 yX7_copies wsX7_copies) := goodIn_app (goodIn_of _ (by decide +kernel)) ggX7_refundIn_X7_copies
set_option maxRecDepth 20000 in
theorem ggX7_refundIn_X7_of : GoodIn wsX7_refundIn wsX7_of := goodIn_r _ [19, 2, 78, 79, 80, 81, 82, 83, 84, 85, 86, 87, 88, 89, 90, 91, 92, 93] (by decide +kernel) (by decide +kernel)
set_option maxRecDepth 20000 in
theorem gX7_refundIn_X7_of : GoodIn wsX7_refundIn (wsV RX7 43 RX7 yX7_of wsX7_of) := goodIn_app (goodIn_of _ (by decide +kernel)) ggX7_refundIn_X7_of
set_option maxRecDepth 20000 in
theorem ggX7_refundIn_X7_day : GoodIn wsX7_refundIn wsX7_day := goodIn_r _ [23, 2, 24, 16, 17, 18, 8, 19, 25, 26, 27, 28, 29, 30, 31, 32, 33, 34, 35, 36, 37, 38, 39, 40, 41, 42, 43, 44, 45, 46, 47, 48, 49, 50, 51, 52, 53, 54, 55, 56, 57, 58, 59, 60, 61, 62, 63, 64, 65, 66, 67, 68, 69, 70, 71, 72, 73, 74, 75, 76, 77, 78, 79, 80, 81, 82, 83, 84, 85, 86, 87, 88, 89, 90, 91, 92, 93] (by decide +kernel) (by decide +kernel)
set_option maxRecDepth 20000 in
theorem gX7_refundIn_X7_day : GoodIn wsX7_refundIn (wsV RX7 109 RX7 yX7_day wsX7_day) := goodIn_app (goodIn_of _ (by decide +kernel)) ggX7_refundIn_X7_day
theorem dX7_refundIn_0 : decode cX7_refundIn 0 = .ok (.aload_n 0, 1) := by decide +kernel
theorem dX7_refundIn_1 : decode cX7_refundIn 1 = .ok (.iload_n 1, 1) := by decide +kernel
theorem dX7_refundIn_2 : decode cX7_refundIn 2 = .ok (.invokevirtual 105, 3) := by decide +kernel
theorem dX7_refundIn_5 : decode cX7_refundIn 5 = .ok (.ifCond .ne 6, 3) := by decide +kernel
theorem dX7_refundIn_8 : decode cX7_refundIn 8 = .ok (.ldc 96, 2) := by decide +kernel
theorem dX7_refundIn_10 : decode cX7_refundIn 10 = .ok (.ireturn, 1) := by decide +kernel
theorem dX7_refundIn_11 : decode cX7_refundIn 11 = .ok (.aload_n 0, 1) := by decide +kernel
theorem dX7_refundIn_12 : decode cX7_refundIn 12 = .ok (.getfield 7, 3) := by decide +kernel
theorem dX7_refundIn_15 : decode cX7_refundIn 15 = .ok (.aload_n 0, 1) := by decide +kernel
theorem dX7_refundIn_16 : decode cX7_refundIn 16 = .ok (.getfield 19, 3) := by decide +kernel
theorem dX7_refundIn_19 : decode cX7_refundIn 19 = .ok (.invokestatic 122, 3) := by decide +kernel
theorem dX7_refundIn_22 : decode cX7_refundIn 22 = .ok (.aload_n 0, 1) := by decide +kernel
theorem dX7_refundIn_23 : decode cX7_refundIn 23 = .ok (.iload_n 1, 1) := by decide +kernel
theorem dX7_refundIn_24 : decode cX7_refundIn 24 = .ok (.bipush 12, 2) := by decide +kernel
theorem dX7_refundIn_26 : decode cX7_refundIn 26 = .ok (.invokevirtual 43, 3) := by decide +kernel
theorem dX7_refundIn_29 : decode cX7_refundIn 29 = .ok (.istore_n 2, 1) := by decide +kernel
theorem dX7_refundIn_30 : decode cX7_refundIn 30 = .ok (.iconst 0, 1) := by decide +kernel
theorem dX7_refundIn_31 : decode cX7_refundIn 31 = .ok (.istore_n 3, 1) := by decide +kernel
theorem dX7_refundIn_32 : decode cX7_refundIn 32 = .ok (.iload_n 3, 1) := by decide +kernel
theorem dX7_refundIn_33 : decode cX7_refundIn 33 = .ok (.sipush 400, 3) := by decide +kernel
theorem dX7_refundIn_36 : decode cX7_refundIn 36 = .ok (.if_icmp .ge 32, 3) := by decide +kernel
theorem dX7_refundIn_39 : decode cX7_refundIn 39 = .ok (.aload_n 0, 1) := by decide +kernel
theorem dX7_refundIn_40 : decode cX7_refundIn 40 = .ok (.iload_n 1, 1) := by decide +kernel
theorem dX7_refundIn_41 : decode cX7_refundIn 41 = .ok (.bipush 12, 2) := by decide +kernel
theorem dX7_refundIn_43 : decode cX7_refundIn 43 = .ok (.invokevirtual 43, 3) := by decide +kernel
theorem dX7_refundIn_46 : decode cX7_refundIn 46 = .ok (.iload_n 2, 1) := by decide +kernel
theorem dX7_refundIn_47 : decode cX7_refundIn 47 = .ok (.if_icmp .ne 21, 3) := by decide +kernel
theorem dX7_refundIn_50 : decode cX7_refundIn 50 = .ok (.iload_n 3, 1) := by decide +kernel
theorem dX7_refundIn_51 : decode cX7_refundIn 51 = .ok (.aload_n 0, 1) := by decide +kernel
theorem dX7_refundIn_52 : decode cX7_refundIn 52 = .ok (.invokevirtual 109, 3) := by decide +kernel
theorem dX7_refundIn_55 : decode cX7_refundIn 55 = .ok (.ifCond .ge 7, 3) := by decide +kernel
theorem dX7_refundIn_58 : decode cX7_refundIn 58 = .ok (.iconst 0, 1) := by decide +kernel
theorem dX7_refundIn_59 : decode cX7_refundIn 59 = .ok (.goto 4, 3) := by decide +kernel
theorem dX7_refundIn_62 : decode cX7_refundIn 62 = .ok (.iconst 1, 1) := by decide +kernel
theorem dX7_refundIn_63 : decode cX7_refundIn 63 = .ok (.iadd, 1) := by decide +kernel
theorem dX7_refundIn_64 : decode cX7_refundIn 64 = .ok (.istore_n 3, 1) := by decide +kernel
theorem dX7_refundIn_65 : decode cX7_refundIn 65 = .ok (.goto (-33), 3) := by decide +kernel
theorem dX7_refundIn_68 : decode cX7_refundIn 68 = .ok (.aload_n 0, 1) := by decide +kernel
theorem dX7_refundIn_69 : decode cX7_refundIn 69 = .ok (.iload_n 1, 1) := by decide +kernel
theorem dX7_refundIn_70 : decode cX7_refundIn 70 = .ok (.bipush 12, 2) := by decide +kernel
theorem dX7_refundIn_72 : decode cX7_refundIn 72 = .ok (.invokevirtual 43, 3) := by decide +kernel
theorem dX7_refundIn_75 : decode cX7_refundIn 75 = .ok (.iload_n 2, 1) := by decide +kernel
theorem dX7_refundIn_76 : decode cX7_refundIn 76 = .ok (.if_icmp .ne 8, 3) := by decide +kernel
theorem dX7_refundIn_79 : decode cX7_refundIn 79 = .ok (.ldc 47, 2) := by decide +kernel
theorem dX7_refundIn_81 : decode cX7_refundIn 81 = .ok (.goto 4, 3) := by decide +kernel
theorem dX7_refundIn_84 : decode cX7_refundIn 84 = .ok (.iload_n 3, 1) := by decide +kernel
theorem dX7_refundIn_85 : decode cX7_refundIn 85 = .ok (.istore_n 3, 1) := by decide +kernel
theorem dX7_refundIn_86 : decode cX7_refundIn 86 = .ok (.aload_n 0, 1) := by decide +kernel
theorem dX7_refundIn_87 : decode cX7_refundIn 87 = .ok (.getfield 19, 3) := by decide +kernel
theorem dX7_refundIn_90 : decode cX7_refundIn 90 = .ok (.aload_n 0, 1) := by decide +kernel
theorem dX7_refundIn_91 : decode cX7_refundIn 91 = .ok (.getfield 7, 3) := by decide +kernel
theorem dX7_refundIn_94 : decode cX7_refundIn 94 = .ok (.invokestatic 122, 3) := by decide +kernel
theorem dX7_refundIn_97 : decode cX7_refundIn 97 = .ok (.iload_n 3, 1) := by decide +kernel
theorem dX7_refundIn_98 : decode cX7_refundIn 98 = .ok (.ireturn, 1) := by decide +kernel
set_option maxRecDepth 20000 in
theorem ggX7_ifDays_X7_in : GoodIn wsX7_ifDays wsX7_in := goodIn_r _ [7] (by decide +kernel) (by decide +kernel)
set_option maxRecDepth 20000 in
theorem gX7_ifDays_X7_in : GoodIn wsX7_ifDays (va_wsS RX7 39 yX7_in wsX7_in) := goodIn_app (goodIn_of _ (by decide +kernel)) ggX7_ifDays_X7_in
set_option maxRecDepth 20000 in
theorem ggX7_ifDays_X7_copies : GoodIn wsX7_ifDays wsX7_copies := goodIn_r _ [10] (by decide +kernel) (by decide +kernel)
set_option maxRecDepth 20000 in
theorem gX7_ifDays_X7_copies : GoodIn wsX7_ifDays (va_wsS RX7 122 yX7_copies wsX7_copies) := goodIn_app (goodIn_of _ (by decide +kernel)) ggX7_ifDays_X7_copies
set_option maxRecDepth 20000 in
theorem ggX7_ifDays_X7_pass : GoodIn wsX7_ifDays wsX7_pass := goodIn_r _ [14, 15, 16, 17, 6, 18, 2, 19, 20, 21, 22, 23, 24, 25, 26, 27, 28, 29, 30, 31, 32, 33, 34, 35, 36, 37, 38, 39, 40, 41, 42, 43, 44, 45, 46, 47, 48, 49, 50, 51, 52, 53, 54, 55, 56, 57, 58, 59, 60, 61, 62, 63, 64, 65, 66, 67, 68, 69, 70, 71, 72, 73, 74, 75, 76, 77, 78, 79, 80, 81, 82, 83, 84, 85, 86, 87, 88, 89, 90, 91, 92] (by decide +kernel) (by decide +kernel)
set_option maxRecDepth 20000 in
theorem gX7_ifDays_X7_pass : GoodIn wsX7_ifDays (wsV RX7 113 RX7 yX7_pass wsX7_pass) := goodIn_app (goodIn_of _ (by decide +kernel)) ggX7_ifDays_X7_pass
theorem dX7_ifDays_0 : decode cX7_ifDays 0 = .ok (.iload_n 1, 1) := by decide +kernel
theorem dX7_ifDays_1 : decode cX7_ifDays 1 = .ok (.iconst 1, 1) := by decide +kernel
theorem dX7_ifDays_2 : decode cX7_ifDays 2 = .ok (.bipush 99, 2) := by decide +kernel
theorem dX7_ifDays_4 : decode cX7_ifDays 4 = .ok (.invokestatic 39, 3) := by decide +kernel
theorem dX7_ifDays_7 : decode cX7_ifDays 7 = .ok (.ifCond .eq 12, 3) := by decide +kernel
theorem dX7_ifDays_10 : decode cX7_ifDays 10 = .ok (.iload_n 2, 1) := by decide +kernel
theorem dX7_ifDays_11 : decode cX7_ifDays 11 = .ok (.iconst 0, 1) := by decide +kernel
theorem dX7_ifDays_12 : decode cX7_ifDays 12 = .ok (.iconst 2, 1) := by decide +kernel
theorem dX7_ifDays_13 : decode cX7_ifDays 13 = .ok (.invokestatic 39, 3) := by decide +kernel
theorem dX7_ifDays_16 : decode cX7_ifDays 16 = .ok (.ifCond .ne 6, 3) := by decide +kernel
theorem dX7_ifDays_19 : decode cX7_ifDays 19 = .ok (.ldc 96, 2) := by decide +kernel
theorem dX7_ifDays_21 : decode cX7_ifDays 21 = .ok (.ireturn, 1) := by decide +kernel
theorem dX7_ifDays_22 : decode cX7_ifDays 22 = .ok (.aload_n 0, 1) := by decide +kernel
theorem dX7_ifDays_23 : decode cX7_ifDays 23 = .ok (.getfield 7, 3) := by decide +kernel
theorem dX7_ifDays_26 : decode cX7_ifDays 26 = .ok (.aload_n 0, 1) := by decide +kernel
theorem dX7_ifDays_27 : decode cX7_ifDays 27 = .ok (.getfield 19, 3) := by decide +kernel
theorem dX7_ifDays_30 : decode cX7_ifDays 30 = .ok (.invokestatic 122, 3) := by decide +kernel
theorem dX7_ifDays_33 : decode cX7_ifDays 33 = .ok (.aload_n 0, 1) := by decide +kernel
theorem dX7_ifDays_34 : decode cX7_ifDays 34 = .ok (.iload_n 1, 1) := by decide +kernel
theorem dX7_ifDays_35 : decode cX7_ifDays 35 = .ok (.invokevirtual 113, 3) := by decide +kernel
theorem dX7_ifDays_38 : decode cX7_ifDays 38 = .ok (.istore_n 3, 1) := by decide +kernel
theorem dX7_ifDays_39 : decode cX7_ifDays 39 = .ok (.aload_n 0, 1) := by decide +kernel
theorem dX7_ifDays_40 : decode cX7_ifDays 40 = .ok (.getfield 7, 3) := by decide +kernel
theorem dX7_ifDays_43 : decode cX7_ifDays 43 = .ok (.sipush 403, 3) := by decide +kernel
theorem dX7_ifDays_46 : decode cX7_ifDays 46 = .ok (.iaload, 1) := by decide +kernel
theorem dX7_ifDays_47 : decode cX7_ifDays 47 = .ok (.aload_n 0, 1) := by decide +kernel
theorem dX7_ifDays_48 : decode cX7_ifDays 48 = .ok (.getfield 19, 3) := by decide +kernel
theorem dX7_ifDays_51 : decode cX7_ifDays 51 = .ok (.sipush 403, 3) := by decide +kernel
theorem dX7_ifDays_54 : decode cX7_ifDays 54 = .ok (.iaload, 1) := by decide +kernel
theorem dX7_ifDays_55 : decode cX7_ifDays 55 = .ok (.isub, 1) := by decide +kernel
theorem dX7_ifDays_56 : decode cX7_ifDays 56 = .ok (.istore 4, 2) := by decide +kernel
theorem dX7_ifDays_58 : decode cX7_ifDays 58 = .ok (.aload_n 0, 1) := by decide +kernel
theorem dX7_ifDays_59 : decode cX7_ifDays 59 = .ok (.getfield 7, 3) := by decide +kernel
theorem dX7_ifDays_62 : decode cX7_ifDays 62 = .ok (.sipush 406, 3) := by decide +kernel
theorem dX7_ifDays_65 : decode cX7_ifDays 65 = .ok (.iaload, 1) := by decide +kernel
theorem dX7_ifDays_66 : decode cX7_ifDays 66 = .ok (.aload_n 0, 1) := by decide +kernel
theorem dX7_ifDays_67 : decode cX7_ifDays 67 = .ok (.getfield 19, 3) := by decide +kernel
theorem dX7_ifDays_70 : decode cX7_ifDays 70 = .ok (.sipush 406, 3) := by decide +kernel
theorem dX7_ifDays_73 : decode cX7_ifDays 73 = .ok (.iaload, 1) := by decide +kernel
theorem dX7_ifDays_74 : decode cX7_ifDays 74 = .ok (.isub, 1) := by decide +kernel
theorem dX7_ifDays_75 : decode cX7_ifDays 75 = .ok (.istore 5, 2) := by decide +kernel
theorem dX7_ifDays_77 : decode cX7_ifDays 77 = .ok (.aload_n 0, 1) := by decide +kernel
theorem dX7_ifDays_78 : decode cX7_ifDays 78 = .ok (.getfield 19, 3) := by decide +kernel
theorem dX7_ifDays_81 : decode cX7_ifDays 81 = .ok (.aload_n 0, 1) := by decide +kernel
theorem dX7_ifDays_82 : decode cX7_ifDays 82 = .ok (.getfield 7, 3) := by decide +kernel
theorem dX7_ifDays_85 : decode cX7_ifDays 85 = .ok (.invokestatic 122, 3) := by decide +kernel
theorem dX7_ifDays_88 : decode cX7_ifDays 88 = .ok (.iload_n 2, 1) := by decide +kernel
theorem dX7_ifDays_89 : decode cX7_ifDays 89 = .ok (.ifCond .ne 7, 3) := by decide +kernel
end
section
/-! numbers -/
theorem nI_mul (a b : Nat) : nI a * nI b = nI (a * b) := by
  apply Int32.toBitVec_inj.mp
  show BitVec.ofNat 32 a * BitVec.ofNat 32 b = BitVec.ofNat 32 (a * b)
  exact (BitVec.ofNat_mul ..).symm
theorem nI_sub {a b : Nat} (h : b ≤ a) : nI a - nI b = nI (a - b) := by
  have h1 : nI (a - b) + nI b = nI a := by rw [nI_add, Nat.sub_add_cancel h]
  rw [← h1]
  exact Int32.add_sub_cancel _ _
theorem zlt {a b : Nat} (ha : a < 2 ^ 31) (hb : b < 2 ^ 31) (h : nI a < nI b) : a < b := (nI_ltI ha hb).mp h
theorem zle {a b : Nat} (ha : a < 2 ^ 31) (hb : b < 2 ^ 31) (h : nI a ≤ nI b) : a ≤ b := (nI_leI ha hb).mp h
theorem zge {a b : Nat} (ha : a < 2 ^ 31) (hb : b < 2 ^ 31) (h : ¬ nI b ≤ nI a) : a < b := by
  rcases Nat.lt_or_ge a b with q | q
  · exact q
  · exact absurd ((nI_leI hb ha).mpr q) h
theorem znl {x y : Int32} : ¬ y ≤ x ↔ x < y := by rw [Int32.lt_iff_toInt_lt, Int32.le_iff_toInt_le]; omega
theorem znlt {x y : Int32} : ¬ x < y ↔ y ≤ x := by rw [Int32.lt_iff_toInt_lt, Int32.le_iff_toInt_le]; omega
/-- a number that is not below 0 and below n -/
theorem zidx {x : Int32} {n : Nat} (h0 : ¬ x < 0) (h1 : x < nI n) (hn : n < 2 ^ 31) : ∃ k, k < n ∧ x = nI k := by
  obtain ⟨j, hj, rfl⟩ := nI_of h0
  exact ⟨j, zlt hj hn h1, rfl⟩
theorem zvp1 {x : Int32} {n : Nat} (h0 : ¬ x < 0) (h1 : ¬ nI n ≤ x) (hn : n < 2 ^ 31) : vp_in x n := by
  obtain ⟨k, hk, rfl⟩ := zidx h0 (znl.mp h1) hn
  exact vp_in_nI hk hn
theorem nI_dec {k : Nat} (h : 1 ≤ k) : nI k + (-1) = nI (k - 1) := by
  rw [← nI_sub h]
  exact (Int32.sub_eq_add_neg ..).symm
theorem nI_mod {a b : Nat} (ha : a < 2 ^ 31) (hb : b < 2 ^ 31) : nI a % nI b = nI (a % b) := by
  have h2 : a % b ≤ a := Nat.mod_le ..
  apply Int32.toInt_inj.mp
  rw [Int32.toInt_mod, nI_toInt ha, nI_toInt hb, nI_toInt (by omega)]
  exact (Int.ofNat_tmod a b).symm
theorem nI_div {a b : Nat} (ha : a < 2 ^ 31) (hb : b < 2 ^ 31) : nI a / nI b = nI (a / b) := by
  have h2 : a / b ≤ a := Nat.div_le_self ..
  apply Int32.toInt_inj.mp
  rw [Int32.toInt_div_of_ne_right _ _ (fun h => by
    have := congrArg Int32.toInt h
    rw [nI_toInt hb] at this
    have e : (Int32.toInt (-1)) = -1 := by decide
    rw [e] at this
    omega), nI_toInt ha, nI_toInt hb, nI_toInt (by omega)]
  exact (Int.ofNat_tdiv a b).symm
end
section
/-- the links to private members of nest mates -/
def zNests : List Cond := [Cond.fieldLinkNest RX5 208 "WrongedMeters$Ledger" "size" "I" "WrongedMeters", Cond.fieldLinkNest RX5 120 "WrongedMeters$House" "street" "I" "WrongedMeters", Cond.fieldLinkNest RX5 123 "WrongedMeters$House" "place" "I" "WrongedMeters", Cond.fieldLinkNest RX5 134 "WrongedMeters$House" "flow" "I" "WrongedMeters", Cond.fieldLinkNest RX5 137 "WrongedMeters$House" "isLocked" "Z" "WrongedMeters", Cond.fieldLinkNest RX5 165 "WrongedMeters$House" "balance" "I" "WrongedMeters", Cond.fieldLinkNest RX6 103 "WrongedMeters$House" "balance" "I" "WrongedMeters", Cond.fieldLinkNest RX5 194 "WrongedMeters$House" "refunds" "I" "WrongedMeters", Cond.fieldLinkNest RX5 191 "WrongedMeters$Street" "latestStep" "I" "WrongedMeters", Cond.fieldLinkNest RX5 36 "WrongedMeters" "SETTING_FIRST" "[I" "WrongedMeters", Cond.fieldLinkNest RX6 83 "WrongedMeters$Town" "ledger" "LWrongedMeters$Ledger;" "WrongedMeters", Cond.fieldLinkNest RX6 109 "WrongedMeters$Town" "settings" "[I" "WrongedMeters", Cond.fieldLinkNest RX6 134 "WrongedMeters$Town" "houseCount" "I" "WrongedMeters", Cond.fieldLinkNest RX6 92 "WrongedMeters$Town" "now" "I" "WrongedMeters", Cond.fieldLinkNest RX6 125 "WrongedMeters$Town" "readings" "I" "WrongedMeters", Cond.fieldLinkNest RX6 128 "WrongedMeters$Town" "units" "I" "WrongedMeters", Cond.fieldLinkNest RX6 131 "WrongedMeters$Town" "refunds" "I" "WrongedMeters", Cond.fieldLinkNest RX6 144 "WrongedMeters$History" "size" "I" "WrongedMeters", Cond.fieldLinkNest RX6 147 "WrongedMeters$Orders" "length" "I" "WrongedMeters", Cond.fieldLinkNest RX6 173 "WrongedMeters$Orders" "done" "I" "WrongedMeters", Cond.fieldLinkNest RX6 169 "WrongedMeters$Orders" "reason" "I" "WrongedMeters", Cond.fieldLinkNest RX5 145 "WrongedMeters" "SETTING_LEAST" "[I" "WrongedMeters", Cond.fieldLinkNest RX5 148 "WrongedMeters" "SETTING_MOST" "[I" "WrongedMeters", Cond.methodLinkNest RX5 25 yX2_init "WrongedMeters", Cond.methodLinkNest RX5 34 yX1_init "WrongedMeters", Cond.methodLinkNest RX6 28 yX3_init "WrongedMeters", Cond.methodLinkNest RX5 109 yX6_isPlace "WrongedMeters", Cond.methodLinkNest RX5 113 yX6_stepOf "WrongedMeters", Cond.methodLinkNest RX5 168 yX6_unitsFor "WrongedMeters"]
theorem nst_f5_208 : Cond.fieldLinkNest RX5 208 "WrongedMeters$Ledger" "size" "I" "WrongedMeters" ∈ zNests := List.mem_of_getElem? (i := 0) rfl
theorem nst_f5_120 : Cond.fieldLinkNest RX5 120 "WrongedMeters$House" "street" "I" "WrongedMeters" ∈ zNests := List.mem_of_getElem? (i := 1) rfl
theorem nst_f5_123 : Cond.fieldLinkNest RX5 123 "WrongedMeters$House" "place" "I" "WrongedMeters" ∈ zNests := List.mem_of_getElem? (i := 2) rfl
theorem nst_f5_134 : Cond.fieldLinkNest RX5 134 "WrongedMeters$House" "flow" "I" "WrongedMeters" ∈ zNests := List.mem_of_getElem? (i := 3) rfl
theorem nst_f5_137 : Cond.fieldLinkNest RX5 137 "WrongedMeters$House" "isLocked" "Z" "WrongedMeters" ∈ zNests := List.mem_of_getElem? (i := 4) rfl
theorem nst_f5_165 : Cond.fieldLinkNest RX5 165 "WrongedMeters$House" "balance" "I" "WrongedMeters" ∈ zNests := List.mem_of_getElem? (i := 5) rfl
theorem nst_f6_103 : Cond.fieldLinkNest RX6 103 "WrongedMeters$House" "balance" "I" "WrongedMeters" ∈ zNests := List.mem_of_getElem? (i := 6) rfl
theorem nst_f5_194 : Cond.fieldLinkNest RX5 194 "WrongedMeters$House" "refunds" "I" "WrongedMeters" ∈ zNests := List.mem_of_getElem? (i := 7) rfl
theorem nst_f5_191 : Cond.fieldLinkNest RX5 191 "WrongedMeters$Street" "latestStep" "I" "WrongedMeters" ∈ zNests := List.mem_of_getElem? (i := 8) rfl
theorem nst_f5_36 : Cond.fieldLinkNest RX5 36 "WrongedMeters" "SETTING_FIRST" "[I" "WrongedMeters" ∈ zNests := List.mem_of_getElem? (i := 9) rfl
theorem nst_f6_83 : Cond.fieldLinkNest RX6 83 "WrongedMeters$Town" "ledger" "LWrongedMeters$Ledger;" "WrongedMeters" ∈ zNests := List.mem_of_getElem? (i := 10) rfl
theorem nst_f6_109 : Cond.fieldLinkNest RX6 109 "WrongedMeters$Town" "settings" "[I" "WrongedMeters" ∈ zNests := List.mem_of_getElem? (i := 11) rfl
theorem nst_f6_134 : Cond.fieldLinkNest RX6 134 "WrongedMeters$Town" "houseCount" "I" "WrongedMeters" ∈ zNests := List.mem_of_getElem? (i := 12) rfl
theorem nst_f6_92 : Cond.fieldLinkNest RX6 92 "WrongedMeters$Town" "now" "I" "WrongedMeters" ∈ zNests := List.mem_of_getElem? (i := 13) rfl
theorem nst_f6_125 : Cond.fieldLinkNest RX6 125 "WrongedMeters$Town" "readings" "I" "WrongedMeters" ∈ zNests := List.mem_of_getElem? (i := 14) rfl
theorem nst_f6_128 : Cond.fieldLinkNest RX6 128 "WrongedMeters$Town" "units" "I" "WrongedMeters" ∈ zNests := List.mem_of_getElem? (i := 15) rfl
theorem nst_f6_131 : Cond.fieldLinkNest RX6 131 "WrongedMeters$Town" "refunds" "I" "WrongedMeters" ∈ zNests := List.mem_of_getElem? (i := 16) rfl
theorem nst_f6_144 : Cond.fieldLinkNest RX6 144 "WrongedMeters$History" "size" "I" "WrongedMeters" ∈ zNests := List.mem_of_getElem? (i := 17) rfl
theorem nst_f6_147 : Cond.fieldLinkNest RX6 147 "WrongedMeters$Orders" "length" "I" "WrongedMeters" ∈ zNests := List.mem_of_getElem? (i := 18) rfl
theorem nst_f6_173 : Cond.fieldLinkNest RX6 173 "WrongedMeters$Orders" "done" "I" "WrongedMeters" ∈ zNests := List.mem_of_getElem? (i := 19) rfl
theorem nst_f6_169 : Cond.fieldLinkNest RX6 169 "WrongedMeters$Orders" "reason" "I" "WrongedMeters" ∈ zNests := List.mem_of_getElem? (i := 20) rfl
theorem nst_f5_145 : Cond.fieldLinkNest RX5 145 "WrongedMeters" "SETTING_LEAST" "[I" "WrongedMeters" ∈ zNests := List.mem_of_getElem? (i := 21) rfl
theorem nst_f5_148 : Cond.fieldLinkNest RX5 148 "WrongedMeters" "SETTING_MOST" "[I" "WrongedMeters" ∈ zNests := List.mem_of_getElem? (i := 22) rfl
theorem nst_m5_25 : Cond.methodLinkNest RX5 25 yX2_init "WrongedMeters" ∈ zNests := List.mem_of_getElem? (i := 23) rfl
theorem nst_m5_34 : Cond.methodLinkNest RX5 34 yX1_init "WrongedMeters" ∈ zNests := List.mem_of_getElem? (i := 24) rfl
theorem nst_m6_28 : Cond.methodLinkNest RX6 28 yX3_init "WrongedMeters" ∈ zNests := List.mem_of_getElem? (i := 25) rfl
theorem nst_m5_109 : Cond.methodLinkNest RX5 109 yX6_isPlace "WrongedMeters" ∈ zNests := List.mem_of_getElem? (i := 26) rfl
theorem nst_m5_113 : Cond.methodLinkNest RX5 113 yX6_stepOf "WrongedMeters" ∈ zNests := List.mem_of_getElem? (i := 27) rfl
theorem nst_m5_168 : Cond.methodLinkNest RX5 168 yX6_unitsFor "WrongedMeters" ∈ zNests := List.mem_of_getElem? (i := 28) rfl
def zIsN : Cond → Bool
  | .fieldLinkNest _ _ _ _ _ _ => true
  | .methodLinkNest _ _ _ _ => true
  | _ => false
theorem zNests_all : zNests.all zIsN = true := by decide +kernel
def zNst (U : State) : Prop := ∀ w ∈ zNests, va_Nw w U
theorem zNst.same {u U : State} (h : u.vm = U.vm) (hZ : zNst u) : zNst U := fun w hw => by
  have h1 := List.all_eq_true.mp zNests_all w hw
  have h2 := hZ w hw
  cases w <;> first | (cases h1; done) | exact va_Nw.same rfl h h2
theorem zNst.warm {s U : State} (hW : s.WarmedH U.vm) (hZ : zNst s) : zNst U := fun w hw => by
  have h1 := List.all_eq_true.mp zNests_all w hw
  have h2 := hZ w hw
  cases w <;> first | (cases h1; done) | exact va_Nw.warmF hW h2 | exact va_Nw.warmM hW h2
/-! A world of n cells by ids: cell c lies at the address ad c and holds K ad c (t c), where t tells all ints of the world -/
abbrev zM : Type := Nat → Nat → Int32
abbrev zK : Type := (Nat → Nat) → Nat → (Nat → Int32) → va_E
def zw (K : zK) (n : Nat) (ad : Nat → Nat) (t : zM) : va_W := (List.range n).map fun c => (ad c, K ad c (t c))
theorem zw_at {K : zK} {n : Nat} {ad : Nat → Nat} {t : zM} {c : Nat} {e : va_E} (hc : c < n) (he : K ad c (t c) = e) : (zw K n ad t)[c]? = some (ad c, e) := by
  subst he
  simp [zw, hc]
theorem zw_in {K : zK} {n : Nat} {ad : Nat → Nat} {t : zM} {k : Nat} {q : Nat × va_E} (h : (zw K n ad t)[k]? = some q) : k < n ∧ q = (ad k, K ad k (t k)) := by
  have hk : k < n := by
    have := (List.getElem?_eq_some_iff.mp h).1
    simpa [zw] using this
  refine ⟨hk, ?_⟩
  rw [zw_at hk rfl] at h
  exact (Option.some.inj h).symm
def zup (t : zM) (c : Nat) (f : Nat → Int32) : zM := fun j => if j = c then f else t j
theorem zup_eq (t : zM) (c : Nat) (f : Nat → Int32) : zup t c f c = f := if_pos rfl
theorem zup_ne (t : zM) {c j : Nat} (f : Nat → Int32) (h : j ≠ c) : zup t c f j = t j := if_neg h
theorem zw_set {K : zK} {n : Nat} {ad : Nat → Nat} {t : zM} {c : Nat} {f : Nat → Int32} {e : va_E} (hc : c < n) (he : K ad c f = e) : (zw K n ad t).set c (ad c, e) = zw K n ad (zup t c f) := by
  subst he
  apply List.ext_getElem?
  intro j
  rw [List.getElem?_set]
  by_cases h : c = j
  · subst h
    simp [zw, zup, hc]
  · rw [if_neg h]
    by_cases hj : j < n
    · rw [zw_at hj rfl, zw_at hj rfl, zup_ne _ _ (fun q => h q.symm)]
    · have h1 : ∀ t', (zw K n ad t')[j]? = none := fun t' => by simp [zw, hj]
      rw [h1, h1]
def zset (t : zM) (c k : Nat) (v : Int32) : zM := fun j => if j = c then upd (t j) k v else t j
theorem zset_up (t : zM) (c k : Nat) (v : Int32) : zup t c (upd (t c) k v) = zset t c k v := by
  funext j
  by_cases h : j = c
  · subst h; simp [zup, zset]
  · simp [zup, zset, h]
theorem zset_eq (t : zM) (c k : Nat) (v : Int32) : zset t c k v c k = v := by simp [zset, upd]
theorem zset_nk (t : zM) (c : Nat) {k k' : Nat} (v : Int32) (h : k' ≠ k) : zset t c k v c k' = t c k' := by simp [zset, upd, h]
theorem zset_id (t : zM) {c c' : Nat} (k : Nat) (v : Int32) (h : c' ≠ c) : zset t c k v c' = t c' := if_neg h
theorem zset_idk (t : zM) {c c' : Nat} (k k' : Nat) (v : Int32) (h : c' ≠ c) : zset t c k v c' k' = t c' k' := congrFun (if_neg h) k'
/-- the ids' addresses are apart, and of a kind -/
def zJ (n : Nat) (ad : Nat → Nat) : Prop := ∀ i j, i < n → j < n → ad i = ad j → i = j
def zG (n : Nat) (ad : Nat → Nat) (A : Nat → Prop) : Prop := zJ n ad ∧ ∀ i, i < n → A (ad i)
theorem zG.D {n : Nat} {ad : Nat → Nat} {A : Nat → Prop} (h : zG n ad A) {K : zK} {t : zM} : va_D A (zw K n ad t) := by
  refine ⟨fun i j x y hx hy hxy => ?_, fun k q hq => ?_⟩
  · obtain ⟨hi, rfl⟩ := zw_in hx
    obtain ⟨hj, rfl⟩ := zw_in hy
    exact h.1 i j hi hj hxy
  · obtain ⟨hk, rfl⟩ := zw_in hq
    exact h.2 k hk
theorem zA_iff {K : zK} {n : Nat} {ad : Nat → Nat} {t : zM} {sz q : Nat} : va_A (zw K n ad t) sz q ↔ (∃ k, k < n ∧ q = ad k) ∨ sz ≤ q := by
  constructor
  · rintro (⟨k, e, h⟩ | h)
    · obtain ⟨hk, h2⟩ := zw_in h
      exact Or.inl ⟨k, hk, congrArg Prod.fst h2⟩
    · exact Or.inr h
  · rintro (⟨k, hk, rfl⟩ | h)
    · exact Or.inl ⟨k, _, zw_at hk rfl⟩
    · exact Or.inr h
theorem zG.self {n : Nat} {ad : Nat → Nat} (h : zJ n ad) {K : zK} {t : zM} {sz : Nat} : zG n ad (va_A (zw K n ad t) sz) := ⟨h, fun i hi => zA_iff.mpr (Or.inl ⟨i, hi, rfl⟩)⟩
theorem zG.free {n : Nat} {ad : Nat → Nat} {A : Nat → Prop} (h : zG n ad A) {sz sz' : Nat} (hA : ∀ q, sz ≤ q → A q) (hz : sz ≤ sz') {K : zK} {t : zM} : ∀ q, va_A (zw K n ad t) sz' q → A q := by
  intro q hq
  rcases zA_iff.mp hq with ⟨k, hk, rfl⟩ | h2
  · exact h.2 k hk
  · exact hA q (Nat.le_trans hz h2)
/-- the array types of the world: ints, houses, streets, towns -/
def ztys (cy : Nat → ClassId) : List (ClassId × FieldType) := [(cy 0, .int), (cy 1, .object "WrongedMeters$House"), (cy 2, .object "WrongedMeters$Street"), (cy 3, .object "WrongedMeters$Town")]
/-- what holds all along a method's walk -/
def zC (p : Program) (s : State) (m : MethodId) (args : Array Value) (meth : Method) (c : Code) (cc : ByteArray) (nL : Nat) (ret : Option FieldType) (own : String) (ws : List Cond) (D : va_G) (cy : Nat → ClassId) (n : Nat) (ad : Nat → Nat) (A : Nat → Prop) : Prop :=
  CallFix p m c cc nL s args ws own ∧ va_K D vwCl (ztys cy) s ∧ zG n ad A ∧ (∀ q, s.heap.size ≤ q → A q) ∧ meth.sig.returnType = ret ∧ meth.locks = false ∧ zNst s
/-- the machine at pc, with the locals ls, the stack st and the world t, comes to Q -/
def Zw (p : Program) (l : Launch) (e : Env) (R : Room) (s : State) (m : MethodId) (args : Array Value) (below : List Frame) (meth : Method) (c : Code) (D : va_G) (A : Nat → Prop) (K : zK) (n : Nat) (ad : Nat → Nat) (nL : Nat) (Q : State → Prop) (pc : Nat) (ls : List (Nat × Value)) (st : List Value) (t : zM) : Prop :=
  ∀ (H : Heap) (locs : List Loc) (la : Array Slot), va_P D vwCl (zw K n ad t) H → va_S A s.heap H locs → lv_has la nL ls → W p l e R s m args below meth c H locs 0 0 Q (F0 m pc la st)
def zR (d : Nat) : Room := { frames := d, cells := 0, slots := 0, locals := 40 * d }
abbrev zPre (D : va_G) (cy : Nat → ClassId) (K : zK) (n : Nat) (ad : Nat → Nat) (t : zM) (av : List Value) (sz : Nat) : Array Value → State → Prop := va_Pc av (fun U => U.heap.size = sz ∧ va_P D vwCl (zw K n ad t) U.heap ∧ va_K D vwCl (ztys cy) U ∧ zNst U)
abbrev zB (D : va_G) (K : zK) (n : Nat) (ad : Nat → Nat) (u : zM) (U : State) : Prop := va_P D vwCl (zw K n ad u) U.heap
abbrev zEi (D : va_G) (K : zK) (n : Nat) (ad : Nat → Nat) (t : zM) (sz : Nat) (post : Int32 → zM → Prop) : Array Value → State → Outcome → State → Prop := va_Qi post (zB D K n ad) (va_A (zw K n ad t) sz)
abbrev zEv (D : va_G) (K : zK) (n : Nat) (ad : Nat → Nat) (t : zM) (sz : Nat) (post : zM → Prop) : Array Value → State → Outcome → State → Prop := va_Qv post (zB D K n ad) (va_A (zw K n ad t) sz)
abbrev zEq (D : va_G) (K : zK) (n : Nat) (ad : Nat → Nat) (t : zM) (sz : Nat) (post : Option Nat → zM → Prop) : Array Value → State → Outcome → State → Prop := va_Qq post (zB D K n ad) (va_A (zw K n ad t) sz)
/-- contracts: a method of an int (boolean) answer, of none, of a reference -/
def zI (l : Launch) (y : MethodName) (ws : List Cond) (d : Nat) (D : va_G) (cy : Nat → ClassId) (K : zK) (n : Nat) (ad : Nat → Nat) (t : zM) (av : List Value) (post : Int32 → zM → Prop) : Prop :=
  ∀ sz, Met l y ws (zR d) (zPre D cy K n ad t av sz) (zEi D K n ad t sz post) 0 0 (va_A (zw K n ad t) sz)
def zV (l : Launch) (y : MethodName) (ws : List Cond) (d : Nat) (D : va_G) (cy : Nat → ClassId) (K : zK) (n : Nat) (ad : Nat → Nat) (t : zM) (av : List Value) (post : zM → Prop) : Prop :=
  ∀ sz, Met l y ws (zR d) (zPre D cy K n ad t av sz) (zEv D K n ad t sz post) 0 0 (va_A (zw K n ad t) sz)
def zQ (l : Launch) (y : MethodName) (ws : List Cond) (d : Nat) (D : va_G) (cy : Nat → ClassId) (K : zK) (n : Nat) (ad : Nat → Nat) (t : zM) (av : List Value) (post : Option Nat → zM → Prop) : Prop :=
  ∀ sz, Met l y ws (zR d) (zPre D cy K n ad t av sz) (zEq D K n ad t sz post) 0 0 (va_A (zw K n ad t) sz)
section ZZ
variable {p : Program} {l : Launch} {e : Env} {R : Room} {s : State} {m : MethodId} {args : Array Value} {below : List Frame} {meth : Method} {c : Code} {D : va_G} {A : Nat → Prop} {K : zK} {n : Nat} {ad : Nat → Nat} {nL : Nat} {Q : State → Prop} {ls ls' : List (Nat × Value)} {st : List Value} {t : zM} {cc : ByteArray} {ret : Option FieldType} {own : String} {ws : List Cond} {cy : Nat → ClassId}
theorem z_iconst (C : zC p s m args meth c cc nL ret own ws D cy n ad A) (pc : Nat) {x : Int} {v : Int32} (hd : decode cc pc = .ok (.iconst x, 1)) (hv : Int32.ofInt x = v) (kk : Zw p l e R s m args below meth c D A K n ad nL Q (pc + 1) ls (.int v :: st) t) : Zw p l e R s m args below meth c D A K n ad nL Q (pc) ls st t := fun H locs la hP hS hl => lv_iconst C.1.1 C.1.2.1 hd hv (kk H locs la hP hS hl)
theorem z_bipush (C : zC p s m args meth c cc nL ret own ws D cy n ad A) (pc : Nat) {x : Int} {v : Int32} (hd : decode cc pc = .ok (.bipush x, 2)) (hv : (Int8.ofInt x).toInt32 = v) (kk : Zw p l e R s m args below meth c D A K n ad nL Q (pc + 2) ls (.int v :: st) t) : Zw p l e R s m args below meth c D A K n ad nL Q (pc) ls st t := fun H locs la hP hS hl => lv_bipush C.1.1 C.1.2.1 hd hv (kk H locs la hP hS hl)
theorem z_sipush (C : zC p s m args meth c cc nL ret own ws D cy n ad A) (pc : Nat) {x : Int} {v : Int32} (hd : decode cc pc = .ok (.sipush x, 3)) (hv : (Int16.ofInt x).toInt32 = v) (kk : Zw p l e R s m args below meth c D A K n ad nL Q (pc + 3) ls (.int v :: st) t) : Zw p l e R s m args below meth c D A K n ad nL Q (pc) ls st t := fun H locs la hP hS hl => lv_sipush C.1.1 C.1.2.1 hd hv (kk H locs la hP hS hl)
theorem z_ldc (C : zC p s m args meth c cc nL ret own ws D cy n ad A) (pc : Nat) {idx : Nat} {v : Int32} (hd : decode cc pc = .ok (.ldc idx, 2)) (hw : Cond.constant own idx v ∈ ws) (kk : Zw p l e R s m args below meth c D A K n ad nL Q (pc + 2) ls (.int v :: st) t) : Zw p l e R s m args below meth c D A K n ad nL Q (pc) ls st t := fun H locs la hP hS hl => lv_ldc C.1.1 C.1.2.1 C.1.2.2.2.1 (C.1.2.2.2.2 _ hw) hd (kk H locs la hP hS hl)
theorem z_ldcf (C : zC p s m args meth c cc nL ret own ws D cy n ad A) (pc : Nat) {idx : Nat} {v : UInt32} (hd : decode cc pc = .ok (.ldc idx, 2)) (hw : Cond.constantFloat own idx v ∈ ws) (kk : Zw p l e R s m args below meth c D A K n ad nL Q (pc + 2) ls (.float v :: st) t) : Zw p l e R s m args below meth c D A K n ad nL Q (pc) ls st t := fun H locs la hP hS hl => lv_ldcf C.1.1 C.1.2.1 C.1.2.2.2.1 (C.1.2.2.2.2 _ hw) hd (kk H locs la hP hS hl)
theorem z_iload_n (C : zC p s m args meth c cc nL ret own ws D cy n ad A) (pc : Nat) {k : Fin 4} {x : Int32} (i pl : Nat) (hd : decode cc pc = .ok (.iload_n k, 1)) (hi : (k : Nat) = i) (hx : ls[pl]? = some (i, .int x)) (kk : Zw p l e R s m args below meth c D A K n ad nL Q (pc + 1) ls (.int x :: st) t) : Zw p l e R s m args below meth c D A K n ad nL Q (pc) ls st t := fun H locs la hP hS hl => lv_iload_n C.1.1 C.1.2.1 hd hi (lv_at hl pl hx) (kk H locs la hP hS hl)
theorem z_iload (C : zC p s m args meth c cc nL ret own ws D cy n ad A) (pc : Nat) {x : Int32} (i pl : Nat) (hd : decode cc pc = .ok (.iload i, 2)) (hx : ls[pl]? = some (i, .int x)) (kk : Zw p l e R s m args below meth c D A K n ad nL Q (pc + 2) ls (.int x :: st) t) : Zw p l e R s m args below meth c D A K n ad nL Q (pc) ls st t := fun H locs la hP hS hl => lv_iload C.1.1 C.1.2.1 hd (lv_at hl pl hx) (kk H locs la hP hS hl)
theorem z_istore_n (C : zC p s m args meth c cc nL ret own ws D cy n ad A) (pc : Nat) {k : Fin 4} {x : Int32} (i : Nat) (ls' : List (Nat × Value)) (hd : decode cc pc = .ok (.istore_n k, 1)) (hi : (k : Nat) = i) (hn : i < nL) (hf : (i, Value.int x) :: ls.filter (fun q => !(q.1 == i) && !(q.1 + 1 == i && q.2.category == 2)) = ls') (kk : Zw p l e R s m args below meth c D A K n ad nL Q (pc + 1) ls' st t) : Zw p l e R s m args below meth c D A K n ad nL Q (pc) ls (.int x :: st) t := fun H locs la hP hS hl => lv_istore_n C.1.1 C.1.2.1 hd hi hl hn hf (fun la hl => (kk H locs la hP hS hl))
theorem z_istore (C : zC p s m args meth c cc nL ret own ws D cy n ad A) (pc : Nat) {x : Int32} (i : Nat) (ls' : List (Nat × Value)) (hd : decode cc pc = .ok (.istore i, 2)) (hn : i < nL) (hf : (i, Value.int x) :: ls.filter (fun q => !(q.1 == i) && !(q.1 + 1 == i && q.2.category == 2)) = ls') (kk : Zw p l e R s m args below meth c D A K n ad nL Q (pc + 2) ls' st t) : Zw p l e R s m args below meth c D A K n ad nL Q (pc) ls (.int x :: st) t := fun H locs la hP hS hl => lv_istore C.1.1 C.1.2.1 hd hl hn hf (fun la hl => (kk H locs la hP hS hl))
theorem z_aload_n (C : zC p s m args meth c cc nL ret own ws D cy n ad A) (pc : Nat) {k : Fin 4} {x : Nat} (i pl : Nat) (hd : decode cc pc = .ok (.aload_n k, 1)) (hi : (k : Nat) = i) (hx : ls[pl]? = some (i, .ref x)) (kk : Zw p l e R s m args below meth c D A K n ad nL Q (pc + 1) ls (.ref x :: st) t) : Zw p l e R s m args below meth c D A K n ad nL Q (pc) ls st t := fun H locs la hP hS hl => lv_aload_n C.1.1 C.1.2.1 hd hi (lv_at hl pl hx) (kk H locs la hP hS hl)
theorem z_aload (C : zC p s m args meth c cc nL ret own ws D cy n ad A) (pc : Nat) {x : Nat} (i pl : Nat) (hd : decode cc pc = .ok (.aload i, 2)) (hx : ls[pl]? = some (i, .ref x)) (kk : Zw p l e R s m args below meth c D A K n ad nL Q (pc + 2) ls (.ref x :: st) t) : Zw p l e R s m args below meth c D A K n ad nL Q (pc) ls st t := fun H locs la hP hS hl => lv_aload C.1.1 C.1.2.1 hd (lv_at hl pl hx) (kk H locs la hP hS hl)
theorem z_astore_n (C : zC p s m args meth c cc nL ret own ws D cy n ad A) (pc : Nat) {k : Fin 4} {x : Nat} (i : Nat) (ls' : List (Nat × Value)) (hd : decode cc pc = .ok (.astore_n k, 1)) (hi : (k : Nat) = i) (hn : i < nL) (hf : (i, Value.ref x) :: ls.filter (fun q => !(q.1 == i) && !(q.1 + 1 == i && q.2.category == 2)) = ls') (kk : Zw p l e R s m args below meth c D A K n ad nL Q (pc + 1) ls' st t) : Zw p l e R s m args below meth c D A K n ad nL Q (pc) ls (.ref x :: st) t := fun H locs la hP hS hl => lv_astore_n C.1.1 C.1.2.1 hd hi hl hn hf (fun la hl => (kk H locs la hP hS hl))
theorem z_astore (C : zC p s m args meth c cc nL ret own ws D cy n ad A) (pc : Nat) {x : Nat} (i : Nat) (ls' : List (Nat × Value)) (hd : decode cc pc = .ok (.astore i, 2)) (hn : i < nL) (hf : (i, Value.ref x) :: ls.filter (fun q => !(q.1 == i) && !(q.1 + 1 == i && q.2.category == 2)) = ls') (kk : Zw p l e R s m args below meth c D A K n ad nL Q (pc + 2) ls' st t) : Zw p l e R s m args below meth c D A K n ad nL Q (pc) ls (.ref x :: st) t := fun H locs la hP hS hl => lv_astore C.1.1 C.1.2.1 hd hl hn hf (fun la hl => (kk H locs la hP hS hl))
theorem z_fload_n (C : zC p s m args meth c cc nL ret own ws D cy n ad A) (pc : Nat) {k : Fin 4} {x : UInt32} (i pl : Nat) (hd : decode cc pc = .ok (.fload_n k, 1)) (hi : (k : Nat) = i) (hx : ls[pl]? = some (i, .float x)) (kk : Zw p l e R s m args below meth c D A K n ad nL Q (pc + 1) ls (.float x :: st) t) : Zw p l e R s m args below meth c D A K n ad nL Q (pc) ls st t := fun H locs la hP hS hl => lv_fload_n C.1.1 C.1.2.1 hd hi (lv_at hl pl hx) (kk H locs la hP hS hl)
theorem z_fload (C : zC p s m args meth c cc nL ret own ws D cy n ad A) (pc : Nat) {x : UInt32} (i pl : Nat) (hd : decode cc pc = .ok (.fload i, 2)) (hx : ls[pl]? = some (i, .float x)) (kk : Zw p l e R s m args below meth c D A K n ad nL Q (pc + 2) ls (.float x :: st) t) : Zw p l e R s m args below meth c D A K n ad nL Q (pc) ls st t := fun H locs la hP hS hl => lv_fload C.1.1 C.1.2.1 hd (lv_at hl pl hx) (kk H locs la hP hS hl)
theorem z_fstore_n (C : zC p s m args meth c cc nL ret own ws D cy n ad A) (pc : Nat) {k : Fin 4} {x : UInt32} (i : Nat) (ls' : List (Nat × Value)) (hd : decode cc pc = .ok (.fstore_n k, 1)) (hi : (k : Nat) = i) (hn : i < nL) (hf : (i, Value.float x) :: ls.filter (fun q => !(q.1 == i) && !(q.1 + 1 == i && q.2.category == 2)) = ls') (kk : Zw p l e R s m args below meth c D A K n ad nL Q (pc + 1) ls' st t) : Zw p l e R s m args below meth c D A K n ad nL Q (pc) ls (.float x :: st) t := fun H locs la hP hS hl => lv_fstore_n C.1.1 C.1.2.1 hd hi hl hn hf (fun la hl => (kk H locs la hP hS hl))
theorem z_fstore (C : zC p s m args meth c cc nL ret own ws D cy n ad A) (pc : Nat) {x : UInt32} (i : Nat) (ls' : List (Nat × Value)) (hd : decode cc pc = .ok (.fstore i, 2)) (hn : i < nL) (hf : (i, Value.float x) :: ls.filter (fun q => !(q.1 == i) && !(q.1 + 1 == i && q.2.category == 2)) = ls') (kk : Zw p l e R s m args below meth c D A K n ad nL Q (pc + 2) ls' st t) : Zw p l e R s m args below meth c D A K n ad nL Q (pc) ls (.float x :: st) t := fun H locs la hP hS hl => lv_fstore C.1.1 C.1.2.1 hd hl hn hf (fun la hl => (kk H locs la hP hS hl))
theorem z_aload_nN (C : zC p s m args meth c cc nL ret own ws D cy n ad A) (pc : Nat) {k : Fin 4} (i pl : Nat) (hd : decode cc pc = .ok (.aload_n k, 1)) (hi : (k : Nat) = i) (hx : ls[pl]? = some (i, .null)) (kk : Zw p l e R s m args below meth c D A K n ad nL Q (pc + 1) ls (.null :: st) t) : Zw p l e R s m args below meth c D A K n ad nL Q (pc) ls st t := fun H locs la hP hS hl => lv_aload_nN C.1.1 C.1.2.1 hd hi (lv_at hl pl hx) (kk H locs la hP hS hl)
theorem z_aloadN (C : zC p s m args meth c cc nL ret own ws D cy n ad A) (pc : Nat) (i pl : Nat) (hd : decode cc pc = .ok (.aload i, 2)) (hx : ls[pl]? = some (i, .null)) (kk : Zw p l e R s m args below meth c D A K n ad nL Q (pc + 2) ls (.null :: st) t) : Zw p l e R s m args below meth c D A K n ad nL Q (pc) ls st t := fun H locs la hP hS hl => lv_aloadN C.1.1 C.1.2.1 hd (lv_at hl pl hx) (kk H locs la hP hS hl)
theorem z_astore_nN (C : zC p s m args meth c cc nL ret own ws D cy n ad A) (pc : Nat) {k : Fin 4} (i : Nat) (ls' : List (Nat × Value)) (hd : decode cc pc = .ok (.astore_n k, 1)) (hi : (k : Nat) = i) (hn : i < nL) (hf : (i, Value.null) :: ls.filter (fun q => !(q.1 == i) && !(q.1 + 1 == i && q.2.category == 2)) = ls') (kk : Zw p l e R s m args below meth c D A K n ad nL Q (pc + 1) ls' st t) : Zw p l e R s m args below meth c D A K n ad nL Q (pc) ls (.null :: st) t := fun H locs la hP hS hl => lv_astore_nN C.1.1 C.1.2.1 hd hi hl hn hf (fun la hl => (kk H locs la hP hS hl))
theorem z_astoreN (C : zC p s m args meth c cc nL ret own ws D cy n ad A) (pc : Nat) (i : Nat) (ls' : List (Nat × Value)) (hd : decode cc pc = .ok (.astore i, 2)) (hn : i < nL) (hf : (i, Value.null) :: ls.filter (fun q => !(q.1 == i) && !(q.1 + 1 == i && q.2.category == 2)) = ls') (kk : Zw p l e R s m args below meth c D A K n ad nL Q (pc + 2) ls' st t) : Zw p l e R s m args below meth c D A K n ad nL Q (pc) ls (.null :: st) t := fun H locs la hP hS hl => lv_astoreN C.1.1 C.1.2.1 hd hl hn hf (fun la hl => (kk H locs la hP hS hl))
theorem z_iinc (C : zC p s m args meth c cc nL ret own ws D cy n ad A) (pc : Nat) {x : Int} {v w : Int32} (i pl : Nat) (ls' : List (Nat × Value)) (hd : decode cc pc = .ok (.iinc i x, 3)) (hk : ls[pl]? = some (i, .int w)) (hv : w + Int32.ofInt x = v) (hn : i < nL) (hf : (i, Value.int v) :: ls.filter (fun q => !(q.1 == i) && !(q.1 + 1 == i && q.2.category == 2)) = ls') (kk : Zw p l e R s m args below meth c D A K n ad nL Q (pc + 3) ls' st t) : Zw p l e R s m args below meth c D A K n ad nL Q (pc) ls st t := fun H locs la hP hS hl => lv_iinc C.1.1 C.1.2.1 hd hl hk hv hn hf (fun la hl => (kk H locs la hP hS hl))
theorem z_iadd (C : zC p s m args meth c cc nL ret own ws D cy n ad A) (pc : Nat) {x y : Int32} (hd : decode cc pc = .ok (.iadd, 1)) (kk : Zw p l e R s m args below meth c D A K n ad nL Q (pc + 1) ls (.int (x + y) :: st) t) : Zw p l e R s m args below meth c D A K n ad nL Q (pc) ls (.int y :: .int x :: st) t := fun H locs la hP hS hl => lv_iadd C.1.1 C.1.2.1 hd (kk H locs la hP hS hl)
theorem z_isub (C : zC p s m args meth c cc nL ret own ws D cy n ad A) (pc : Nat) {x y : Int32} (hd : decode cc pc = .ok (.isub, 1)) (kk : Zw p l e R s m args below meth c D A K n ad nL Q (pc + 1) ls (.int (x - y) :: st) t) : Zw p l e R s m args below meth c D A K n ad nL Q (pc) ls (.int y :: .int x :: st) t := fun H locs la hP hS hl => lv_isub C.1.1 C.1.2.1 hd (kk H locs la hP hS hl)
theorem z_imul (C : zC p s m args meth c cc nL ret own ws D cy n ad A) (pc : Nat) {x y : Int32} (hd : decode cc pc = .ok (.imul, 1)) (kk : Zw p l e R s m args below meth c D A K n ad nL Q (pc + 1) ls (.int (x * y) :: st) t) : Zw p l e R s m args below meth c D A K n ad nL Q (pc) ls (.int y :: .int x :: st) t := fun H locs la hP hS hl => lv_imul C.1.1 C.1.2.1 hd (kk H locs la hP hS hl)
theorem z_iand (C : zC p s m args meth c cc nL ret own ws D cy n ad A) (pc : Nat) {x y : Int32} (hd : decode cc pc = .ok (.iand, 1)) (kk : Zw p l e R s m args below meth c D A K n ad nL Q (pc + 1) ls (.int (x &&& y) :: st) t) : Zw p l e R s m args below meth c D A K n ad nL Q (pc) ls (.int y :: .int x :: st) t := fun H locs la hP hS hl => lv_iand C.1.1 C.1.2.1 hd (kk H locs la hP hS hl)
theorem z_ior (C : zC p s m args meth c cc nL ret own ws D cy n ad A) (pc : Nat) {x y : Int32} (hd : decode cc pc = .ok (.ior, 1)) (kk : Zw p l e R s m args below meth c D A K n ad nL Q (pc + 1) ls (.int (x ||| y) :: st) t) : Zw p l e R s m args below meth c D A K n ad nL Q (pc) ls (.int y :: .int x :: st) t := fun H locs la hP hS hl => lv_ior C.1.1 C.1.2.1 hd (kk H locs la hP hS hl)
def zrem (x y : Int32) : Int32 := x - x / y * y
theorem zrem_n {a b : Nat} (ha : a < 2 ^ 31) (h0 : 0 < b) (hb : b < 2 ^ 31) : zrem (nI a) (nI b) = nI (a % b) := pk_rem ha h0 hb
theorem z_idiv (C : zC p s m args meth c cc nL ret own ws D cy n ad A) (pc : Nat) {x y : Int32} (hd : decode cc pc = .ok (.idiv, 1)) (hne : ¬ y = 0) (kk : Zw p l e R s m args below meth c D A K n ad nL Q (pc + 1) ls (.int (x / y) :: st) t) : Zw p l e R s m args below meth c D A K n ad nL Q (pc) ls (.int y :: .int x :: st) t := fun H locs la hP hS hl => lv_idiv C.1.1 C.1.2.1 hd hne (kk H locs la hP hS hl)
theorem z_irem (C : zC p s m args meth c cc nL ret own ws D cy n ad A) (pc : Nat) {x y : Int32} (hd : decode cc pc = .ok (.irem, 1)) (hne : ¬ y = 0) (kk : Zw p l e R s m args below meth c D A K n ad nL Q (pc + 1) ls (.int (zrem x y) :: st) t) : Zw p l e R s m args below meth c D A K n ad nL Q (pc) ls (.int y :: .int x :: st) t := fun H locs la hP hS hl => lv_irem C.1.1 C.1.2.1 hd hne (kk H locs la hP hS hl)
theorem z_ineg (C : zC p s m args meth c cc nL ret own ws D cy n ad A) (pc : Nat) {x : Int32} (hd : decode cc pc = .ok (.ineg, 1)) (kk : Zw p l e R s m args below meth c D A K n ad nL Q (pc + 1) ls (.int (-x) :: st) t) : Zw p l e R s m args below meth c D A K n ad nL Q (pc) ls (.int x :: st) t := fun H locs la hP hS hl => lv_ineg C.1.1 C.1.2.1 hd (kk H locs la hP hS hl)
theorem z_dup (C : zC p s m args meth c cc nL ret own ws D cy n ad A) (pc : Nat) {va : Value} (hd : decode cc pc = .ok (.dup, 1)) (hv : va.category = 1) (kk : Zw p l e R s m args below meth c D A K n ad nL Q (pc + 1) ls (va :: va :: st) t) : Zw p l e R s m args below meth c D A K n ad nL Q (pc) ls (va :: st) t := fun H locs la hP hS hl => lv_dup C.1.1 C.1.2.1 hd hv (kk H locs la hP hS hl)
theorem z_pop (C : zC p s m args meth c cc nL ret own ws D cy n ad A) (pc : Nat) {va : Value} (hd : decode cc pc = .ok (.pop, 1)) (hv : va.category = 1) (kk : Zw p l e R s m args below meth c D A K n ad nL Q (pc + 1) ls st t) : Zw p l e R s m args below meth c D A K n ad nL Q (pc) ls (va :: st) t := fun H locs la hP hS hl => lv_pop C.1.1 C.1.2.1 hd hv (kk H locs la hP hS hl)
theorem z_dup2 (C : zC p s m args meth c cc nL ret own ws D cy n ad A) (pc : Nat) {va vb : Value} (hd : decode cc pc = .ok (.dup2, 1)) (hv : va.category = 1) (hw : vb.category = 1) (kk : Zw p l e R s m args below meth c D A K n ad nL Q (pc + 1) ls (va :: vb :: va :: vb :: st) t) : Zw p l e R s m args below meth c D A K n ad nL Q (pc) ls (va :: vb :: st) t := fun H locs la hP hS hl => lv_dup2_11 C.1.1 C.1.2.1 hd hv hw (kk H locs la hP hS hl)
-- branches: the conditions as the kit has them
theorem z_icmp_eq (C : zC p s m args meth c cc nL ret own ws D cy n ad A) (pc : Nat) {x y : Int32} {off : Int} (tgt : Nat) (hd : decode cc pc = .ok (.if_icmp .eq off, 3)) (ht : (pc : Int) + off = (tgt : Int)) (kt : x = y → Zw p l e R s m args below meth c D A K n ad nL Q (tgt) ls st t) (kf : ¬ (x = y) → Zw p l e R s m args below meth c D A K n ad nL Q (pc + 3) ls st t) : Zw p l e R s m args below meth c D A K n ad nL Q (pc) ls (.int y :: .int x :: st) t := fun H locs la hP hS hl => lv_icmp_eq C.1.1 C.1.2.1 hd ht (fun q => kt q H locs la hP hS hl) (fun q => kf q H locs la hP hS hl)
theorem z_if_eq (C : zC p s m args meth c cc nL ret own ws D cy n ad A) (pc : Nat) {x : Int32} {off : Int} (tgt : Nat) (hd : decode cc pc = .ok (.ifCond .eq off, 3)) (ht : (pc : Int) + off = (tgt : Int)) (kt : x = 0 → Zw p l e R s m args below meth c D A K n ad nL Q (tgt) ls st t) (kf : ¬ (x = 0) → Zw p l e R s m args below meth c D A K n ad nL Q (pc + 3) ls st t) : Zw p l e R s m args below meth c D A K n ad nL Q (pc) ls (.int x :: st) t := fun H locs la hP hS hl => lv_if_eq C.1.1 C.1.2.1 hd ht (fun q => kt q H locs la hP hS hl) (fun q => kf q H locs la hP hS hl)
theorem z_icmp_ne (C : zC p s m args meth c cc nL ret own ws D cy n ad A) (pc : Nat) {x y : Int32} {off : Int} (tgt : Nat) (hd : decode cc pc = .ok (.if_icmp .ne off, 3)) (ht : (pc : Int) + off = (tgt : Int)) (kt : ¬ x = y → Zw p l e R s m args below meth c D A K n ad nL Q (tgt) ls st t) (kf : x = y → Zw p l e R s m args below meth c D A K n ad nL Q (pc + 3) ls st t) : Zw p l e R s m args below meth c D A K n ad nL Q (pc) ls (.int y :: .int x :: st) t := fun H locs la hP hS hl => lv_icmp_ne C.1.1 C.1.2.1 hd ht (fun q => kt q H locs la hP hS hl) (fun q => kf q H locs la hP hS hl)
theorem z_if_ne (C : zC p s m args meth c cc nL ret own ws D cy n ad A) (pc : Nat) {x : Int32} {off : Int} (tgt : Nat) (hd : decode cc pc = .ok (.ifCond .ne off, 3)) (ht : (pc : Int) + off = (tgt : Int)) (kt : ¬ x = 0 → Zw p l e R s m args below meth c D A K n ad nL Q (tgt) ls st t) (kf : x = 0 → Zw p l e R s m args below meth c D A K n ad nL Q (pc + 3) ls st t) : Zw p l e R s m args below meth c D A K n ad nL Q (pc) ls (.int x :: st) t := fun H locs la hP hS hl => lv_if_ne C.1.1 C.1.2.1 hd ht (fun q => kt q H locs la hP hS hl) (fun q => kf q H locs la hP hS hl)
theorem z_icmp_lt (C : zC p s m args meth c cc nL ret own ws D cy n ad A) (pc : Nat) {x y : Int32} {off : Int} (tgt : Nat) (hd : decode cc pc = .ok (.if_icmp .lt off, 3)) (ht : (pc : Int) + off = (tgt : Int)) (kt : x < y → Zw p l e R s m args below meth c D A K n ad nL Q (tgt) ls st t) (kf : ¬ (x < y) → Zw p l e R s m args below meth c D A K n ad nL Q (pc + 3) ls st t) : Zw p l e R s m args below meth c D A K n ad nL Q (pc) ls (.int y :: .int x :: st) t := fun H locs la hP hS hl => lv_icmp_lt C.1.1 C.1.2.1 hd ht (fun q => kt q H locs la hP hS hl) (fun q => kf q H locs la hP hS hl)
theorem z_if_lt (C : zC p s m args meth c cc nL ret own ws D cy n ad A) (pc : Nat) {x : Int32} {off : Int} (tgt : Nat) (hd : decode cc pc = .ok (.ifCond .lt off, 3)) (ht : (pc : Int) + off = (tgt : Int)) (kt : x < 0 → Zw p l e R s m args below meth c D A K n ad nL Q (tgt) ls st t) (kf : ¬ (x < 0) → Zw p l e R s m args below meth c D A K n ad nL Q (pc + 3) ls st t) : Zw p l e R s m args below meth c D A K n ad nL Q (pc) ls (.int x :: st) t := fun H locs la hP hS hl => lv_if_lt C.1.1 C.1.2.1 hd ht (fun q => kt q H locs la hP hS hl) (fun q => kf q H locs la hP hS hl)
theorem z_icmp_ge (C : zC p s m args meth c cc nL ret own ws D cy n ad A) (pc : Nat) {x y : Int32} {off : Int} (tgt : Nat) (hd : decode cc pc = .ok (.if_icmp .ge off, 3)) (ht : (pc : Int) + off = (tgt : Int)) (kt : y ≤ x → Zw p l e R s m args below meth c D A K n ad nL Q (tgt) ls st t) (kf : ¬ (y ≤ x) → Zw p l e R s m args below meth c D A K n ad nL Q (pc + 3) ls st t) : Zw p l e R s m args below meth c D A K n ad nL Q (pc) ls (.int y :: .int x :: st) t := fun H locs la hP hS hl => lv_icmp_ge C.1.1 C.1.2.1 hd ht (fun q => kt q H locs la hP hS hl) (fun q => kf q H locs la hP hS hl)
theorem z_if_ge (C : zC p s m args meth c cc nL ret own ws D cy n ad A) (pc : Nat) {x : Int32} {off : Int} (tgt : Nat) (hd : decode cc pc = .ok (.ifCond .ge off, 3)) (ht : (pc : Int) + off = (tgt : Int)) (kt : 0 ≤ x → Zw p l e R s m args below meth c D A K n ad nL Q (tgt) ls st t) (kf : ¬ (0 ≤ x) → Zw p l e R s m args below meth c D A K n ad nL Q (pc + 3) ls st t) : Zw p l e R s m args below meth c D A K n ad nL Q (pc) ls (.int x :: st) t := fun H locs la hP hS hl => lv_if_ge C.1.1 C.1.2.1 hd ht (fun q => kt q H locs la hP hS hl) (fun q => kf q H locs la hP hS hl)
theorem z_icmp_gt (C : zC p s m args meth c cc nL ret own ws D cy n ad A) (pc : Nat) {x y : Int32} {off : Int} (tgt : Nat) (hd : decode cc pc = .ok (.if_icmp .gt off, 3)) (ht : (pc : Int) + off = (tgt : Int)) (kt : y < x → Zw p l e R s m args below meth c D A K n ad nL Q (tgt) ls st t) (kf : ¬ (y < x) → Zw p l e R s m args below meth c D A K n ad nL Q (pc + 3) ls st t) : Zw p l e R s m args below meth c D A K n ad nL Q (pc) ls (.int y :: .int x :: st) t := fun H locs la hP hS hl => lv_icmp_gt C.1.1 C.1.2.1 hd ht (fun q => kt q H locs la hP hS hl) (fun q => kf q H locs la hP hS hl)
theorem z_if_gt (C : zC p s m args meth c cc nL ret own ws D cy n ad A) (pc : Nat) {x : Int32} {off : Int} (tgt : Nat) (hd : decode cc pc = .ok (.ifCond .gt off, 3)) (ht : (pc : Int) + off = (tgt : Int)) (kt : 0 < x → Zw p l e R s m args below meth c D A K n ad nL Q (tgt) ls st t) (kf : ¬ (0 < x) → Zw p l e R s m args below meth c D A K n ad nL Q (pc + 3) ls st t) : Zw p l e R s m args below meth c D A K n ad nL Q (pc) ls (.int x :: st) t := fun H locs la hP hS hl => lv_if_gt C.1.1 C.1.2.1 hd ht (fun q => kt q H locs la hP hS hl) (fun q => kf q H locs la hP hS hl)
theorem z_icmp_le (C : zC p s m args meth c cc nL ret own ws D cy n ad A) (pc : Nat) {x y : Int32} {off : Int} (tgt : Nat) (hd : decode cc pc = .ok (.if_icmp .le off, 3)) (ht : (pc : Int) + off = (tgt : Int)) (kt : x ≤ y → Zw p l e R s m args below meth c D A K n ad nL Q (tgt) ls st t) (kf : ¬ (x ≤ y) → Zw p l e R s m args below meth c D A K n ad nL Q (pc + 3) ls st t) : Zw p l e R s m args below meth c D A K n ad nL Q (pc) ls (.int y :: .int x :: st) t := fun H locs la hP hS hl => lv_icmp_le C.1.1 C.1.2.1 hd ht (fun q => kt q H locs la hP hS hl) (fun q => kf q H locs la hP hS hl)
theorem z_if_le (C : zC p s m args meth c cc nL ret own ws D cy n ad A) (pc : Nat) {x : Int32} {off : Int} (tgt : Nat) (hd : decode cc pc = .ok (.ifCond .le off, 3)) (ht : (pc : Int) + off = (tgt : Int)) (kt : x ≤ 0 → Zw p l e R s m args below meth c D A K n ad nL Q (tgt) ls st t) (kf : ¬ (x ≤ 0) → Zw p l e R s m args below meth c D A K n ad nL Q (pc + 3) ls st t) : Zw p l e R s m args below meth c D A K n ad nL Q (pc) ls (.int x :: st) t := fun H locs la hP hS hl => lv_if_le C.1.1 C.1.2.1 hd ht (fun q => kt q H locs la hP hS hl) (fun q => kf q H locs la hP hS hl)
theorem z_goto (C : zC p s m args meth c cc nL ret own ws D cy n ad A) (pc : Nat) {off : Int} (tgt : Nat) (hd : decode cc pc = .ok (.goto off, 3)) (ht : (pc : Int) + off = (tgt : Int)) (kk : Zw p l e R s m args below meth c D A K n ad nL Q (tgt) ls st t) : Zw p l e R s m args below meth c D A K n ad nL Q (pc) ls st t := fun H locs la hP hS hl => lv_goto C.1.1 C.1.2.1 hd ht (kk H locs la hP hS hl)
theorem z_ifnull (C : zC p s m args meth c cc nL ret own ws D cy n ad A) (pc : Nat) {x : Nat} {off : Int} (hd : decode cc pc = .ok (.ifnull off, 3)) (kk : Zw p l e R s m args below meth c D A K n ad nL Q (pc + 3) ls st t) : Zw p l e R s m args below meth c D A K n ad nL Q (pc) ls (.ref x :: st) t := fun H locs la hP hS hl => lv_ifnull C.1.1 C.1.2.1 hd (kk H locs la hP hS hl)
theorem z_ifnullN (C : zC p s m args meth c cc nL ret own ws D cy n ad A) (pc : Nat) {off : Int} (tgt : Nat) (hd : decode cc pc = .ok (.ifnull off, 3)) (ht : (pc : Int) + off = (tgt : Int)) (kk : Zw p l e R s m args below meth c D A K n ad nL Q (tgt) ls st t) : Zw p l e R s m args below meth c D A K n ad nL Q (pc) ls (.null :: st) t := fun H locs la hP hS hl => lv_ifnullN C.1.1 C.1.2.1 hd ht (kk H locs la hP hS hl)
theorem z_ifnonnull (C : zC p s m args meth c cc nL ret own ws D cy n ad A) (pc : Nat) {x : Nat} {off : Int} (tgt : Nat) (hd : decode cc pc = .ok (.ifnonnull off, 3)) (ht : (pc : Int) + off = (tgt : Int)) (kk : Zw p l e R s m args below meth c D A K n ad nL Q (tgt) ls st t) : Zw p l e R s m args below meth c D A K n ad nL Q (pc) ls (.ref x :: st) t := fun H locs la hP hS hl => lv_ifnonnull C.1.1 C.1.2.1 hd ht (kk H locs la hP hS hl)
theorem z_ifnonnullN (C : zC p s m args meth c cc nL ret own ws D cy n ad A) (pc : Nat) {off : Int} (hd : decode cc pc = .ok (.ifnonnull off, 3)) (kk : Zw p l e R s m args below meth c D A K n ad nL Q (pc + 3) ls st t) : Zw p l e R s m args below meth c D A K n ad nL Q (pc) ls (.null :: st) t := fun H locs la hP hS hl => lv_ifnonnullN C.1.1 C.1.2.1 hd (kk H locs la hP hS hl)
theorem z_null (C : zC p s m args meth c cc nL ret own ws D cy n ad A) (pc : Nat) (hd : decode cc pc = .ok (.aconst_null, 1)) (kk : Zw p l e R s m args below meth c D A K n ad nL Q (pc + 1) ls (.null :: st) t) : Zw p l e R s m args below meth c D A K n ad nL Q (pc) ls st t := fun H locs la hP hS hl => lv_null C.1.1 C.1.2.1 hd (kk H locs la hP hS hl)
theorem z_tableOut (C : zC p s m args meth c cc nL ret own ws D cy n ad A) (pc : Nat) {dflt lo hi : Int} {offs : Array Int} {len : Nat} {x : Int32} (tgt : Nat) (hd : decode cc pc = .ok (.tableswitch dflt lo hi offs, len)) (h : x.toInt < lo ∨ hi < x.toInt) (ht : (pc : Int) + dflt = (tgt : Int)) (kk : Zw p l e R s m args below meth c D A K n ad nL Q (tgt) ls st t) : Zw p l e R s m args below meth c D A K n ad nL Q (pc) ls (.int x :: st) t := fun H locs la hP hS hl => lv_tableOut C.1.1 C.1.2.1 hd h ht (kk H locs la hP hS hl)
theorem z_tableIn (C : zC p s m args meth c cc nL ret own ws D cy n ad A) (pc : Nat) {dflt lo hi : Int} {offs : Array Int} {len : Nat} {x : Int32} {off : Int} (tgt : Nat) (hd : decode cc pc = .ok (.tableswitch dflt lo hi offs, len)) (h1 : ¬ x.toInt < lo) (h2 : ¬ hi < x.toInt) (ho : offs[(x.toInt - lo).toNat]? = some off) (ht : (pc : Int) + off = (tgt : Int)) (kk : Zw p l e R s m args below meth c D A K n ad nL Q (tgt) ls st t) : Zw p l e R s m args below meth c D A K n ad nL Q (pc) ls (.int x :: st) t := fun H locs la hP hS hl => lv_tableIn C.1.1 C.1.2.1 hd h1 h2 ho ht (kk H locs la hP hS hl)
theorem z_lookup (C : zC p s m args meth c cc nL ret own ws D cy n ad A) (pc : Nat) {dflt : Int} {ps : Array (Int × Int)} {len : Nat} {x : Int32} {off : Int} (tgt : Nat) (hd : decode cc pc = .ok (.lookupswitch dflt ps, len)) (hp : (ps.toList.zip (ps.toList.drop 1)).all (fun (a, next) => a.1 < next.1) = true) (ho : Op.lookupswitch.offset ps.toList dflt x.toInt = off) (ht : (pc : Int) + off = (tgt : Int)) (kk : Zw p l e R s m args below meth c D A K n ad nL Q (tgt) ls st t) : Zw p l e R s m args below meth c D A K n ad nL Q (pc) ls (.int x :: st) t := fun H locs la hP hS hl => lv_lookup C.1.1 C.1.2.1 hd hp ho ht (kk H locs la hP hS hl)
theorem z_ls {pc : Nat} (ks : List Nat) (ls' : List (Nat × Value)) (h : lv_pick ls ks = ls') (kk : Zw p l e R s m args below meth c D A K n ad nL Q pc ls' st t) : Zw p l e R s m args below meth c D A K n ad nL Q pc ls st t := fun H locs la hP hS hl => kk H locs la hP hS (lv_sub hl ks h)
theorem z_topi {pc : Nat} {x : Int32} (kk : ∀ y : Int32, y = x → Zw p l e R s m args below meth c D A K n ad nL Q pc ls (.int y :: st) t) : Zw p l e R s m args below meth c D A K n ad nL Q pc ls (.int x :: st) t := kk x rfl
theorem z_nv {pc : Nat} {x : Int32} (y : Int32) (h : x = y) (kk : Zw p l e R s m args below meth c D A K n ad nL Q pc ls (.int y :: st) t) : Zw p l e R s m args below meth c D A K n ad nL Q pc ls (.int x :: st) t := h ▸ kk
theorem z_nt {pc : Nat} (t1 : zM) (h : t = t1) (kk : Zw p l e R s m args below meth c D A K n ad nL Q pc ls st t1) : Zw p l e R s m args below meth c D A K n ad nL Q pc ls st t := h ▸ kk
theorem z_cast {pc : Nat} {st2 : List Value} (h : st = st2) (kk : Zw p l e R s m args below meth c D A K n ad nL Q pc ls st2 t) : Zw p l e R s m args below meth c D A K n ad nL Q pc ls st t := h ▸ kk
theorem z_get (C : zC p s m args meth c cc nL ret own ws D cy n ad A) (pc : Nat) {ci idx N : Nat} {Cn : String} {T : u_T} {fs : (Nat → Int32) → List Value} {v : Value} (id : Nat) (k : Nat) (hd : decode cc pc = .ok (.getfield idx, 3)) (hid : id < n) (he : ∀ f, K ad id f = .inr (ci, fs f)) (hin : ∀ w ∈ u_ws Cn T N, w ∈ ws) (hc : vwCl[ci]? = some (Cn, T, N)) (hk : k < N) (hw : Cond.fieldLink own idx (T k).1 (T k).2.1 (T k).2.2.1 ∈ ws) (hv : (fs (t id))[k]? = some v) (kk : Zw p l e R s m args below meth c D A K n ad nL Q (pc + 3) ls (v :: st) t) : Zw p l e R s m args below meth c D A K n ad nL Q (pc) ls (.ref (ad id) :: st) t := fun H locs la hP hS hl =>
  va_get C.1.1 C.1.2.1 C.1.2.2.2.2 hin C.1.2.2.2.1 C.2.1 hP id (zw_at hid (he _)) hc k hk (C.1.2.2.2.2 _ hw) (fun _ h9 => h9) hv hd (kk H locs la hP hS hl)
theorem z_put (C : zC p s m args meth c cc nL ret own ws D cy n ad A) (pc : Nat) {ci idx N : Nat} {Cn : String} {T : u_T} {fs : (Nat → Int32) → List Value} {v : Int32} {ty : FieldType} (id : Nat) (k : Nat) (hd : decode cc pc = .ok (.putfield idx, 3)) (hid : id < n) (he : ∀ f, K ad id f = .inr (ci, fs f)) (hin : ∀ w ∈ u_ws Cn T N, w ∈ ws) (ty0 : Nat → FieldType) (hty : ∀ k, k < N → parseFieldDescriptor (T k).2.2.1 = some (ty0 k)) (hnm : ∀ a, a < N → ∀ b, b < N → a ≠ b → (T a).2.1 ≠ (T b).2.1) (hc : vwCl[ci]? = some (Cn, T, N)) (hk : k < N) (hw : Cond.fieldLink own idx (T k).1 (T k).2.1 (T k).2.2.1 ∈ ws) (hfin : (T k).2.2.2 = false) (hdd : parseFieldDescriptor (T k).2.2.1 = some ty) (hnn : narrow ty (.int v) = .int v) (hfit : fits ty (.int v) = true) (hl9 : k < (fs (t id)).length) (he2 : fs (upd (t id) k v) = (fs (t id)).set k (.int v)) (kk : Zw p l e R s m args below meth c D A K n ad nL Q (pc + 3) ls st (zset t id k v)) : Zw p l e R s m args below meth c D A K n ad nL Q (pc) ls (.int v :: .ref (ad id) :: st) t := fun H locs la hP hS hl =>
  va_put C.1.1 C.1.2.1 C.1.2.2.2.2 hin ty0 hty hnm C.1.2.2.2.1 C.2.1 hP C.2.2.1.D hS id (zw_at hid (he _)) hc k hk (C.1.2.2.2.2 _ hw) (fun _ h9 => h9) hfin hdd hnn hfit hl9 hd (fun H1 locs1 hP1 hD1 hS1 => kk H1 locs1 la (by rw [← zset_up, ← zw_set hid ((he _).trans (by rw [he2]))]; exact hP1) hS1 hl)
theorem z_getN (C : zC p s m args meth c cc nL ret own ws D cy n ad A) (pc : Nat) {ci idx N : Nat} {Cn host : String} {T : u_T} {fs : (Nat → Int32) → List Value} {v : Value} (id : Nat) (k : Nat) (hd : decode cc pc = .ok (.getfield idx, 3)) (hid : id < n) (he : ∀ f, K ad id f = .inr (ci, fs f)) (hin : ∀ w ∈ u_ws Cn T N, w ∈ ws) (hc : vwCl[ci]? = some (Cn, T, N)) (hk : k < N) (hw : Cond.fieldLinkNest own idx (T k).1 (T k).2.1 (T k).2.2.1 host ∈ zNests) (hv : (fs (t id))[k]? = some v) (kk : Zw p l e R s m args below meth c D A K n ad nL Q (pc + 3) ls (v :: st) t) : Zw p l e R s m args below meth c D A K n ad nL Q (pc) ls (.ref (ad id) :: st) t := fun H locs la hP hS hl =>
  va_getN C.1.1 C.1.2.1 C.1.2.2.2.2 hin C.1.2.2.2.1 C.2.1 hP id (zw_at hid (he _)) hc k hk (va_Nw.use rfl (C.2.2.2.2.2.2 _ hw)) (fun _ h9 => h9) hv hd (kk H locs la hP hS hl)
theorem z_putN (C : zC p s m args meth c cc nL ret own ws D cy n ad A) (pc : Nat) {ci idx N : Nat} {Cn host : String} {T : u_T} {fs : (Nat → Int32) → List Value} {v : Int32} {ty : FieldType} (id : Nat) (k : Nat) (hd : decode cc pc = .ok (.putfield idx, 3)) (hid : id < n) (he : ∀ f, K ad id f = .inr (ci, fs f)) (hin : ∀ w ∈ u_ws Cn T N, w ∈ ws) (ty0 : Nat → FieldType) (hty : ∀ k, k < N → parseFieldDescriptor (T k).2.2.1 = some (ty0 k)) (hnm : ∀ a, a < N → ∀ b, b < N → a ≠ b → (T a).2.1 ≠ (T b).2.1) (hc : vwCl[ci]? = some (Cn, T, N)) (hk : k < N) (hw : Cond.fieldLinkNest own idx (T k).1 (T k).2.1 (T k).2.2.1 host ∈ zNests) (hfin : (T k).2.2.2 = false) (hdd : parseFieldDescriptor (T k).2.2.1 = some ty) (hnn : narrow ty (.int v) = .int v) (hfit : fits ty (.int v) = true) (hl9 : k < (fs (t id)).length) (he2 : fs (upd (t id) k v) = (fs (t id)).set k (.int v)) (kk : Zw p l e R s m args below meth c D A K n ad nL Q (pc + 3) ls st (zset t id k v)) : Zw p l e R s m args below meth c D A K n ad nL Q (pc) ls (.int v :: .ref (ad id) :: st) t := fun H locs la hP hS hl =>
  va_putN C.1.1 C.1.2.1 C.1.2.2.2.2 hin ty0 hty hnm C.1.2.2.2.1 C.2.1 hP C.2.2.1.D hS id (zw_at hid (he _)) hc k hk (va_Nw.use rfl (C.2.2.2.2.2.2 _ hw)) (fun _ h9 => h9) hfin hdd hnn hfit hl9 hd (fun H1 locs1 hP1 hD1 hS1 => kk H1 locs1 la (by rw [← zset_up, ← zw_set hid ((he _).trans (by rw [he2]))]; exact hP1) hS1 hl)
theorem z_iald (C : zC p s m args meth c cc nL ret own ws D cy n ad A) (pc : Nat) {nn : Nat} {i : Int32} (id : Nat) (hd : decode cc pc = .ok (.iaload, 1)) (hid : id < n) (he : ∀ f, K ad id f = .inl (cy 0, nn, .inl f)) (hin : vp_in i nn) (kk : Zw p l e R s m args below meth c D A K n ad nL Q (pc + 1) ls (.int (t id i.toNatClampNeg) :: st) t) : Zw p l e R s m args below meth c D A K n ad nL Q (pc) ls (.int i :: .ref (ad id) :: st) t := fun H locs la hP hS hl =>
  va_iald C.1.1 C.1.2.1 C.2.1 hP id 0 (zw_at hid (he _)) rfl hin hd (kk H locs la hP hS hl)
theorem z_ialdN (C : zC p s m args meth c cc nL ret own ws D cy n ad A) (pc : Nat) {nn : Nat} {i : Int32} (id k : Nat) (hd : decode cc pc = .ok (.iaload, 1)) (hid : id < n) (he : ∀ f, K ad id f = .inl (cy 0, nn, .inl f)) (hi : i = nI k) (hk : k < nn) (hnn : nn < 2 ^ 31) (kk : Zw p l e R s m args below meth c D A K n ad nL Q (pc + 1) ls (.int (t id k) :: st) t) : Zw p l e R s m args below meth c D A K n ad nL Q (pc) ls (.int i :: .ref (ad id) :: st) t := fun H locs la hP hS hl => by
  subst hi
  refine va_iald C.1.1 C.1.2.1 C.2.1 hP id 0 (zw_at hid (he _)) rfl (vp_in_nI hk hnn) hd ?_
  rw [nI_clamp (by omega)]
  exact (kk H locs la hP hS hl)
theorem z_iast (C : zC p s m args meth c cc nL ret own ws D cy n ad A) (pc : Nat) {nn : Nat} {i x : Int32} (id : Nat) (hd : decode cc pc = .ok (.iastore, 1)) (hid : id < n) (he : ∀ f, K ad id f = .inl (cy 0, nn, .inl f)) (hin : vp_in i nn) (kk : Zw p l e R s m args below meth c D A K n ad nL Q (pc + 1) ls st (zset t id i.toNatClampNeg x)) : Zw p l e R s m args below meth c D A K n ad nL Q (pc) ls (.int x :: .int i :: .ref (ad id) :: st) t := fun H locs la hP hS hl =>
  va_iast C.1.1 C.1.2.1 C.2.1 hP C.2.2.1.D hS id 0 (zw_at hid (he _)) rfl hin hd (fun H1 locs1 hP1 hD1 hS1 => kk H1 locs1 la (by rw [← zset_up, ← zw_set hid (he _)]; exact hP1) hS1 hl)
theorem z_iastN (C : zC p s m args meth c cc nL ret own ws D cy n ad A) (pc : Nat) {nn : Nat} {i x : Int32} (id k : Nat) (hd : decode cc pc = .ok (.iastore, 1)) (hid : id < n) (he : ∀ f, K ad id f = .inl (cy 0, nn, .inl f)) (hi : i = nI k) (hk : k < nn) (hnn : nn < 2 ^ 31) (kk : Zw p l e R s m args below meth c D A K n ad nL Q (pc + 1) ls st (zset t id k x)) : Zw p l e R s m args below meth c D A K n ad nL Q (pc) ls (.int x :: .int i :: .ref (ad id) :: st) t := by
  subst hi
  exact z_iast C pc id hd hid he (vp_in_nI hk hnn) (by rw [nI_clamp (by omega)]; exact kk)
theorem z_aald (C : zC p s m args meth c cc nL ret own ws D cy n ad A) (pc : Nat) {nn : Nat} {f9 : Nat → Option Nat} {i : Int32} {Cn : String} (id t0 k a : Nat) (hd : decode cc pc = .ok (.aaload, 1)) (hid : id < n) (he : ∀ f, K ad id f = .inl (cy t0, nn, .inr (.inr (.inr (.inr f9))))) (ht : (ztys cy)[t0]? = some (cy t0, .object Cn)) (hi : i = nI k) (hk : k < nn) (hnn : nn < 2 ^ 31) (hv : f9 k = some a) (kk : Zw p l e R s m args below meth c D A K n ad nL Q (pc + 1) ls (.ref a :: st) t) : Zw p l e R s m args below meth c D A K n ad nL Q (pc) ls (.int i :: .ref (ad id) :: st) t := fun H locs la hP hS hl => by
  subst hi
  refine va_aldq C.1.1 C.1.2.1 C.2.1 hP id t0 (zw_at hid (he _)) ht (vp_in_nI hk hnn) hd ?_
  rw [nI_clamp (by omega), hv]
  exact (kk H locs la hP hS hl)
theorem z_alen (C : zC p s m args meth c cc nL ret own ws D cy n ad A) (pc : Nat) {x : (Nat → Int32) → vp_A} {v : Int32} {ty : FieldType} (id t0 : Nat) (hd : decode cc pc = .ok (.arraylength, 1)) (hid : id < n) (he : ∀ f, K ad id f = .inl (cy t0, x f)) (ht : (ztys cy)[t0]? = some (cy t0, ty)) (hv : Int32.ofNat (x (t id)).1 = v) (kk : Zw p l e R s m args below meth c D A K n ad nL Q (pc + 1) ls (.int v :: st) t) : Zw p l e R s m args below meth c D A K n ad nL Q (pc) ls (.ref (ad id) :: st) t := fun H locs la hP hS hl =>
  va_alen C.1.1 C.1.2.1 C.2.1 hP id t0 (zw_at hid (he _)) ht hv hd (kk H locs la hP hS hl)
theorem z_iret (C : zC p s m args meth c cc nL ret own ws D cy n ad A) (pc : Nat) {post : Int32 → zM → Prop} {x : Int32} {t0 : zM} (hA : A = va_A (zw K n ad t0) s.heap.size) (hQ : Q = MQ below (zEi D K n ad t0 s.heap.size post) args s 0 0 A) (hr : ret = some .int) (hd : decode cc pc = .ok (.ireturn, 1)) (hp : post x t) : Zw p l e R s m args below meth c D A K n ad nL Q pc ls [.int x] t := fun H locs la hP hS hl => by
  subst hA; subst hQ
  exact W.iret C.1.1 C.1.2.1 (C.2.2.2.2.1.trans hr) (fun u hu hW => ⟨⟨x, t, rfl, hp, by rw [← hu] at hP; exact hP⟩, hS.F hu⟩) hS.2.2 hd C.2.2.2.2.2.1
theorem z_zret (C : zC p s m args meth c cc nL ret own ws D cy n ad A) (pc : Nat) {post : Int32 → zM → Prop} {x : Int32} {t0 : zM} (hA : A = va_A (zw K n ad t0) s.heap.size) (hQ : Q = MQ below (zEi D K n ad t0 s.heap.size post) args s 0 0 A) (hr : ret = some .boolean) (hx : x = 0 ∨ x = 1) (hd : decode cc pc = .ok (.ireturn, 1)) (hp : post x t) : Zw p l e R s m args below meth c D A K n ad nL Q pc ls [.int x] t := fun H locs la hP hS hl => by
  subst hA; subst hQ
  exact W.zret C.1.1 C.1.2.1 (C.2.2.2.2.1.trans hr) (by rcases hx with rfl | rfl <;> decide +kernel) (fun u hu hW => ⟨⟨x, t, rfl, hp, by rw [← hu] at hP; exact hP⟩, hS.F hu⟩) hS.2.2 hd C.2.2.2.2.2.1
theorem z_vret (C : zC p s m args meth c cc nL ret own ws D cy n ad A) (pc : Nat) {post : zM → Prop} {t0 : zM} (hA : A = va_A (zw K n ad t0) s.heap.size) (hQ : Q = MQ below (zEv D K n ad t0 s.heap.size post) args s 0 0 A) (hr : ret = none) (hd : decode cc pc = .ok (.return_, 1)) (hp : post t) : Zw p l e R s m args below meth c D A K n ad nL Q pc ls [] t := fun H locs la hP hS hl => by
  subst hA; subst hQ
  exact W.vret C.1.1 C.1.2.1 (C.2.2.2.2.1.trans hr) (fun u hu hW => ⟨⟨t, rfl, hp, by rw [← hu] at hP; exact hP⟩, hS.F hu⟩) hS.2.2 hd C.2.2.2.2.2.1
theorem z_aret (C : zC p s m args meth c cc nL ret own ws D cy n ad A) (pc : Nat) {post : Option Nat → zM → Prop} {o : Option Nat} {Cn : String} {t0 : zM} {v : Value} (hA : A = va_A (zw K n ad t0) s.heap.size) (hQ : Q = MQ below (zEq D K n ad t0 s.heap.size post) args s 0 0 A) (hr : ret = some (.object Cn)) (hd : decode cc pc = .ok (.areturn, 1)) (hv : v = va_rf o) (hp : post o t) : Zw p l e R s m args below meth c D A K n ad nL Q pc ls [v] t := fun H locs la hP hS hl => by
  subst hA; subst hQ; subst hv
  exact W.aret C.1.1 C.1.2.1 (C.2.2.2.2.1.trans hr) (Or.inl ⟨_, rfl⟩) (by cases o <;> first | exact Or.inl rfl | exact Or.inr ⟨_, rfl⟩) (fun u hu hW => ⟨⟨o, t, rfl, hp, by rw [← hu] at hP; exact hP⟩, hS.F hu⟩) hS.2.2 hd C.2.2.2.2.2.1
theorem z_virtI (C : zC p s m args meth c cc nL ret own ws D cy n ad A) (pc : Nat) {idx mL k9 d d9 : Nat} {y : MethodName} {bytes : ByteArray} {ret9 : Option FieldType} {ws9 ws8 : List Cond} {As st0 : List Value} {b id ci N : Nat} {Cn : String} {T : u_T} {fs : (Nat → Int32) → List Value} {post : Int32 → zM → Prop} (hM : zI l y ws9 d9 D cy K n ad t (.ref b :: As) post) (hd : decode cc pc = .ok (.invokevirtual idx, 3)) (hws : ws9 = .code y bytes mL ret9 :: ws8) (hG : GoodIn ws (wsV own idx Cn y ws9)) (hy : y.cls = Cn ∧ y.cls ≠ "java/lang/invoke/MethodHandle" ∧ y.cls ≠ "java/lang/invoke/VarHandle" ∧ (parseMethodDescriptor y.desc).map (fun d => d.parameters.length) = some k9) (hR : R = zR d) (hdd : d9 < d) (hmL : mL ≤ 20) (hid : id < n) (hb9 : b = ad id) (he : ∀ f, K ad id f = .inr (ci, fs f)) (hc : vwCl[ci]? = some (Cn, T, N)) (hn : As.length = k9) (hst : st0 = As.reverse ++ .ref b :: st) (hcat : (st.map fun v => v.category).sum ≤ 8) (kk : ∀ (r : Int32) (t1 : zM), post r t1 → Zw p l e R s m args below meth c D A K n ad nL Q (pc + 3) ls (.int r :: st) t1) : Zw p l e R s m args below meth c D A K n ad nL Q (pc) ls st0 t := fun H locs la hP hS hl => by
  subst hR; subst hb9
  exact va_calli (va_runV (As := As) (rest := st) C.1 (hM H.size) (cwV k9 C.1.2.2.2.2 hG hws rfl rfl hy ⟨by show d9 + 1 ≤ d; omega, by show 8 + (mL + 11) + 40 * d9 ≤ 40 * d; omega⟩) ⟨fun a U g mk q => ⟨q.1, q.2.1, q.2.2.1, va_K.moved (u := U) (U := U.calling g mk a) (Vm.Alike.refl U.vm) q.2.2.2.1, zNst.same (u := U) (U := U.calling g mk a) rfl q.2.2.2.2⟩, va_recv C.2.1 hP hc (zw_at hid (he _)), fun U hU hW => ⟨rfl, by rw [hU], by rw [hU]; exact hP, va_K.moved hW.alike C.2.1, zNst.warm hW C.2.2.2.2.2.2⟩⟩ rfl hn hl.1 hst (lv_room hcat) hd ⟨Nat.zero_le _, Nat.zero_le _⟩) hS (fun q _ h => C.2.2.1.free C.2.2.2.1 hS.1 q h) (fun q h => C.2.2.1.free C.2.2.2.1 hS.1 q h) (fun r u u9 H1 locs1 hu _ hp hB _ _ hS1 => kk r u hp H1 locs1 la (by rw [← hu]; exact hB) hS1 hl)
theorem z_statI (C : zC p s m args meth c cc nL ret own ws D cy n ad A) (pc : Nat) {idx mL k9 d d9 : Nat} {y : MethodName} {bytes : ByteArray} {ret9 : Option FieldType} {ws9 ws8 : List Cond} {As st0 : List Value} {post : Int32 → zM → Prop} (hM : zI l y ws9 d9 D cy K n ad t As post) (hd : decode cc pc = .ok (.invokestatic idx, 3)) (hws : ws9 = .code y bytes mL ret9 :: ws8) (hG : GoodIn ws (va_wsS own idx y ws9)) (hy : y.cls ≠ "java/lang/invoke/MethodHandle" ∧ y.cls ≠ "java/lang/invoke/VarHandle" ∧ (parseMethodDescriptor y.desc).map (fun d => d.parameters.length) = some k9) (hR : R = zR d) (hdd : d9 < d) (hmL : mL ≤ 20) (hn : As.length = k9) (hst : st0 = As.reverse ++ st) (hcat : (st.map fun v => v.category).sum ≤ 8) (kk : ∀ (r : Int32) (t1 : zM), post r t1 → Zw p l e R s m args below meth c D A K n ad nL Q (pc + 3) ls (.int r :: st) t1) : Zw p l e R s m args below meth c D A K n ad nL Q (pc) ls st0 t := fun H locs la hP hS hl => by
  subst hR
  exact va_calli (va_runS (As := As) (rest := st) C.1 (hM H.size) (va_cwS k9 C.1.2.2.2.2 hG hws rfl rfl hy ⟨by show d9 + 1 ≤ d; omega, by show 8 + (mL + 11) + 40 * d9 ≤ 40 * d; omega⟩) ⟨fun a U g mk q => ⟨q.1, q.2.1, q.2.2.1, va_K.moved (u := U) (U := U.calling g mk a) (Vm.Alike.refl U.vm) q.2.2.2.1, zNst.same (u := U) (U := U.calling g mk a) rfl q.2.2.2.2⟩, fun U hU hW => ⟨rfl, by rw [hU], by rw [hU]; exact hP, va_K.moved hW.alike C.2.1, zNst.warm hW C.2.2.2.2.2.2⟩⟩ rfl hn hl.1 hst (lv_room hcat) hd ⟨Nat.zero_le _, Nat.zero_le _⟩) hS (fun q _ h => C.2.2.1.free C.2.2.2.1 hS.1 q h) (fun q h => C.2.2.1.free C.2.2.2.1 hS.1 q h) (fun r u u9 H1 locs1 hu _ hp hB _ _ hS1 => kk r u hp H1 locs1 la (by rw [← hu]; exact hB) hS1 hl)
theorem z_virtV (C : zC p s m args meth c cc nL ret own ws D cy n ad A) (pc : Nat) {idx mL k9 d d9 : Nat} {y : MethodName} {bytes : ByteArray} {ret9 : Option FieldType} {ws9 ws8 : List Cond} {As st0 : List Value} {b id ci N : Nat} {Cn : String} {T : u_T} {fs : (Nat → Int32) → List Value} {post : zM → Prop} (hM : zV l y ws9 d9 D cy K n ad t (.ref b :: As) post) (hd : decode cc pc = .ok (.invokevirtual idx, 3)) (hws : ws9 = .code y bytes mL ret9 :: ws8) (hG : GoodIn ws (wsV own idx Cn y ws9)) (hy : y.cls = Cn ∧ y.cls ≠ "java/lang/invoke/MethodHandle" ∧ y.cls ≠ "java/lang/invoke/VarHandle" ∧ (parseMethodDescriptor y.desc).map (fun d => d.parameters.length) = some k9) (hR : R = zR d) (hdd : d9 < d) (hmL : mL ≤ 20) (hid : id < n) (hb9 : b = ad id) (he : ∀ f, K ad id f = .inr (ci, fs f)) (hc : vwCl[ci]? = some (Cn, T, N)) (hn : As.length = k9) (hst : st0 = As.reverse ++ .ref b :: st) (hcat : (st.map fun v => v.category).sum ≤ 8) (kk : ∀ (t1 : zM), post t1 → Zw p l e R s m args below meth c D A K n ad nL Q (pc + 3) ls st t1) : Zw p l e R s m args below meth c D A K n ad nL Q (pc) ls st0 t := fun H locs la hP hS hl => by
  subst hR; subst hb9
  exact va_callv (va_runV (As := As) (rest := st) C.1 (hM H.size) (cwV k9 C.1.2.2.2.2 hG hws rfl rfl hy ⟨by show d9 + 1 ≤ d; omega, by show 8 + (mL + 11) + 40 * d9 ≤ 40 * d; omega⟩) ⟨fun a U g mk q => ⟨q.1, q.2.1, q.2.2.1, va_K.moved (u := U) (U := U.calling g mk a) (Vm.Alike.refl U.vm) q.2.2.2.1, zNst.same (u := U) (U := U.calling g mk a) rfl q.2.2.2.2⟩, va_recv C.2.1 hP hc (zw_at hid (he _)), fun U hU hW => ⟨rfl, by rw [hU], by rw [hU]; exact hP, va_K.moved hW.alike C.2.1, zNst.warm hW C.2.2.2.2.2.2⟩⟩ rfl hn hl.1 hst (lv_room hcat) hd ⟨Nat.zero_le _, Nat.zero_le _⟩) hS (fun q _ h => C.2.2.1.free C.2.2.2.1 hS.1 q h) (fun q h => C.2.2.1.free C.2.2.2.1 hS.1 q h) (fun u u9 H1 locs1 hu _ hp hB _ _ hS1 => kk u hp H1 locs1 la (by rw [← hu]; exact hB) hS1 hl)
theorem z_statV (C : zC p s m args meth c cc nL ret own ws D cy n ad A) (pc : Nat) {idx mL k9 d d9 : Nat} {y : MethodName} {bytes : ByteArray} {ret9 : Option FieldType} {ws9 ws8 : List Cond} {As st0 : List Value} {post : zM → Prop} (hM : zV l y ws9 d9 D cy K n ad t As post) (hd : decode cc pc = .ok (.invokestatic idx, 3)) (hws : ws9 = .code y bytes mL ret9 :: ws8) (hG : GoodIn ws (va_wsS own idx y ws9)) (hy : y.cls ≠ "java/lang/invoke/MethodHandle" ∧ y.cls ≠ "java/lang/invoke/VarHandle" ∧ (parseMethodDescriptor y.desc).map (fun d => d.parameters.length) = some k9) (hR : R = zR d) (hdd : d9 < d) (hmL : mL ≤ 20) (hn : As.length = k9) (hst : st0 = As.reverse ++ st) (hcat : (st.map fun v => v.category).sum ≤ 8) (kk : ∀ (t1 : zM), post t1 → Zw p l e R s m args below meth c D A K n ad nL Q (pc + 3) ls st t1) : Zw p l e R s m args below meth c D A K n ad nL Q (pc) ls st0 t := fun H locs la hP hS hl => by
  subst hR
  exact va_callv (va_runS (As := As) (rest := st) C.1 (hM H.size) (va_cwS k9 C.1.2.2.2.2 hG hws rfl rfl hy ⟨by show d9 + 1 ≤ d; omega, by show 8 + (mL + 11) + 40 * d9 ≤ 40 * d; omega⟩) ⟨fun a U g mk q => ⟨q.1, q.2.1, q.2.2.1, va_K.moved (u := U) (U := U.calling g mk a) (Vm.Alike.refl U.vm) q.2.2.2.1, zNst.same (u := U) (U := U.calling g mk a) rfl q.2.2.2.2⟩, fun U hU hW => ⟨rfl, by rw [hU], by rw [hU]; exact hP, va_K.moved hW.alike C.2.1, zNst.warm hW C.2.2.2.2.2.2⟩⟩ rfl hn hl.1 hst (lv_room hcat) hd ⟨Nat.zero_le _, Nat.zero_le _⟩) hS (fun q _ h => C.2.2.1.free C.2.2.2.1 hS.1 q h) (fun q h => C.2.2.1.free C.2.2.2.1 hS.1 q h) (fun u u9 H1 locs1 hu _ hp hB _ _ hS1 => kk u hp H1 locs1 la (by rw [← hu]; exact hB) hS1 hl)
theorem z_virtQ (C : zC p s m args meth c cc nL ret own ws D cy n ad A) (pc : Nat) {idx mL k9 d d9 : Nat} {y : MethodName} {bytes : ByteArray} {ret9 : Option FieldType} {ws9 ws8 : List Cond} {As st0 : List Value} {b id ci N : Nat} {Cn : String} {T : u_T} {fs : (Nat → Int32) → List Value} {post : Option Nat → zM → Prop} (hM : zQ l y ws9 d9 D cy K n ad t (.ref b :: As) post) (hd : decode cc pc = .ok (.invokevirtual idx, 3)) (hws : ws9 = .code y bytes mL ret9 :: ws8) (hG : GoodIn ws (wsV own idx Cn y ws9)) (hy : y.cls = Cn ∧ y.cls ≠ "java/lang/invoke/MethodHandle" ∧ y.cls ≠ "java/lang/invoke/VarHandle" ∧ (parseMethodDescriptor y.desc).map (fun d => d.parameters.length) = some k9) (hR : R = zR d) (hdd : d9 < d) (hmL : mL ≤ 20) (hid : id < n) (hb9 : b = ad id) (he : ∀ f, K ad id f = .inr (ci, fs f)) (hc : vwCl[ci]? = some (Cn, T, N)) (hn : As.length = k9) (hst : st0 = As.reverse ++ .ref b :: st) (hcat : (st.map fun v => v.category).sum ≤ 8) (kk : ∀ (r : Option Nat) (t1 : zM), post r t1 → Zw p l e R s m args below meth c D A K n ad nL Q (pc + 3) ls (va_rf r :: st) t1) : Zw p l e R s m args below meth c D A K n ad nL Q (pc) ls st0 t := fun H locs la hP hS hl => by
  subst hR; subst hb9
  exact va_callq (va_runV (As := As) (rest := st) C.1 (hM H.size) (cwV k9 C.1.2.2.2.2 hG hws rfl rfl hy ⟨by show d9 + 1 ≤ d; omega, by show 8 + (mL + 11) + 40 * d9 ≤ 40 * d; omega⟩) ⟨fun a U g mk q => ⟨q.1, q.2.1, q.2.2.1, va_K.moved (u := U) (U := U.calling g mk a) (Vm.Alike.refl U.vm) q.2.2.2.1, zNst.same (u := U) (U := U.calling g mk a) rfl q.2.2.2.2⟩, va_recv C.2.1 hP hc (zw_at hid (he _)), fun U hU hW => ⟨rfl, by rw [hU], by rw [hU]; exact hP, va_K.moved hW.alike C.2.1, zNst.warm hW C.2.2.2.2.2.2⟩⟩ rfl hn hl.1 hst (lv_room hcat) hd ⟨Nat.zero_le _, Nat.zero_le _⟩) hS (fun q _ h => C.2.2.1.free C.2.2.2.1 hS.1 q h) (fun q h => C.2.2.1.free C.2.2.2.1 hS.1 q h) (fun r u u9 H1 locs1 hu _ hp hB _ _ hS1 => kk r u hp H1 locs1 la (by rw [← hu]; exact hB) hS1 hl)
theorem z_statQ (C : zC p s m args meth c cc nL ret own ws D cy n ad A) (pc : Nat) {idx mL k9 d d9 : Nat} {y : MethodName} {bytes : ByteArray} {ret9 : Option FieldType} {ws9 ws8 : List Cond} {As st0 : List Value} {post : Option Nat → zM → Prop} (hM : zQ l y ws9 d9 D cy K n ad t As post) (hd : decode cc pc = .ok (.invokestatic idx, 3)) (hws : ws9 = .code y bytes mL ret9 :: ws8) (hG : GoodIn ws (va_wsS own idx y ws9)) (hy : y.cls ≠ "java/lang/invoke/MethodHandle" ∧ y.cls ≠ "java/lang/invoke/VarHandle" ∧ (parseMethodDescriptor y.desc).map (fun d => d.parameters.length) = some k9) (hR : R = zR d) (hdd : d9 < d) (hmL : mL ≤ 20) (hn : As.length = k9) (hst : st0 = As.reverse ++ st) (hcat : (st.map fun v => v.category).sum ≤ 8) (kk : ∀ (r : Option Nat) (t1 : zM), post r t1 → Zw p l e R s m args below meth c D A K n ad nL Q (pc + 3) ls (va_rf r :: st) t1) : Zw p l e R s m args below meth c D A K n ad nL Q (pc) ls st0 t := fun H locs la hP hS hl => by
  subst hR
  exact va_callq (va_runS (As := As) (rest := st) C.1 (hM H.size) (va_cwS k9 C.1.2.2.2.2 hG hws rfl rfl hy ⟨by show d9 + 1 ≤ d; omega, by show 8 + (mL + 11) + 40 * d9 ≤ 40 * d; omega⟩) ⟨fun a U g mk q => ⟨q.1, q.2.1, q.2.2.1, va_K.moved (u := U) (U := U.calling g mk a) (Vm.Alike.refl U.vm) q.2.2.2.1, zNst.same (u := U) (U := U.calling g mk a) rfl q.2.2.2.2⟩, fun U hU hW => ⟨rfl, by rw [hU], by rw [hU]; exact hP, va_K.moved hW.alike C.2.1, zNst.warm hW C.2.2.2.2.2.2⟩⟩ rfl hn hl.1 hst (lv_room hcat) hd ⟨Nat.zero_le _, Nat.zero_le _⟩) hS (fun q _ h => C.2.2.1.free C.2.2.2.1 hS.1 q h) (fun q h => C.2.2.1.free C.2.2.2.1 hS.1 q h) (fun r u u9 H1 locs1 hu _ hp hB _ _ hS1 => kk r u hp H1 locs1 la (by rw [← hu]; exact hB) hS1 hl)
theorem z_statNI (C : zC p s m args meth c cc nL ret own ws D cy n ad A) (pc : Nat) {idx mL k9 d d9 : Nat} {y : MethodName} {bytes : ByteArray} {ret9 : Option FieldType} {ws9 ws8 : List Cond} {As st0 : List Value} {host : String} {post : Int32 → zM → Prop} (hM : zI l y ws9 d9 D cy K n ad t As post) (hd : decode cc pc = .ok (.invokestatic idx, 3)) (hws : ws9 = .code y bytes mL ret9 :: ws8) (hG : GoodIn ws ws9) (hw : Cond.methodLinkNest own idx y host ∈ zNests) (hstat : Cond.static y ∈ ws) (hini : Cond.initialized y.cls ∈ ws) (hy : y.cls ≠ "java/lang/invoke/MethodHandle" ∧ y.cls ≠ "java/lang/invoke/VarHandle" ∧ (parseMethodDescriptor y.desc).map (fun d => d.parameters.length) = some k9) (hR : R = zR d) (hdd : d9 < d) (hmL : mL ≤ 20) (hn : As.length = k9) (hst : st0 = As.reverse ++ st) (hcat : (st.map fun v => v.category).sum ≤ 8) (kk : ∀ (r : Int32) (t1 : zM), post r t1 → Zw p l e R s m args below meth c D A K n ad nL Q (pc + 3) ls (.int r :: st) t1) : Zw p l e R s m args below meth c D A K n ad nL Q (pc) ls st0 t := fun H locs la hP hS hl => by
  subst hR
  exact va_calli (va_runSN (As := As) (rest := st) C.1 (hM H.size) ⟨va_cnB k9 C.1.2.2.2.2 hG hws rfl rfl (C.2.2.2.2.2.2 _ hw) (C.1.2.2.2.2 _ hini) hy ⟨by show d9 + 1 ≤ d; omega, by show 8 + (mL + 11) + 40 * d9 ≤ 40 * d; omega⟩, C.1.2.2.2.2 _ hstat, trivial⟩ ⟨fun a U g mk q => ⟨q.1, q.2.1, q.2.2.1, va_K.moved (u := U) (U := U.calling g mk a) (Vm.Alike.refl U.vm) q.2.2.2.1, zNst.same (u := U) (U := U.calling g mk a) rfl q.2.2.2.2⟩, fun U hU hW => ⟨rfl, by rw [hU], by rw [hU]; exact hP, va_K.moved hW.alike C.2.1, zNst.warm hW C.2.2.2.2.2.2⟩⟩ rfl hn hl.1 hst (lv_room hcat) hd ⟨Nat.zero_le _, Nat.zero_le _⟩) hS (fun q _ h => C.2.2.1.free C.2.2.2.1 hS.1 q h) (fun q h => C.2.2.1.free C.2.2.2.1 hS.1 q h) (fun r u u9 H1 locs1 hu _ hp hB _ _ hS1 => kk r u hp H1 locs1 la (by rw [← hu]; exact hB) hS1 hl)
theorem z_statNV (C : zC p s m args meth c cc nL ret own ws D cy n ad A) (pc : Nat) {idx mL k9 d d9 : Nat} {y : MethodName} {bytes : ByteArray} {ret9 : Option FieldType} {ws9 ws8 : List Cond} {As st0 : List Value} {host : String} {post : zM → Prop} (hM : zV l y ws9 d9 D cy K n ad t As post) (hd : decode cc pc = .ok (.invokestatic idx, 3)) (hws : ws9 = .code y bytes mL ret9 :: ws8) (hG : GoodIn ws ws9) (hw : Cond.methodLinkNest own idx y host ∈ zNests) (hstat : Cond.static y ∈ ws) (hini : Cond.initialized y.cls ∈ ws) (hy : y.cls ≠ "java/lang/invoke/MethodHandle" ∧ y.cls ≠ "java/lang/invoke/VarHandle" ∧ (parseMethodDescriptor y.desc).map (fun d => d.parameters.length) = some k9) (hR : R = zR d) (hdd : d9 < d) (hmL : mL ≤ 20) (hn : As.length = k9) (hst : st0 = As.reverse ++ st) (hcat : (st.map fun v => v.category).sum ≤ 8) (kk : ∀ (t1 : zM), post t1 → Zw p l e R s m args below meth c D A K n ad nL Q (pc + 3) ls st t1) : Zw p l e R s m args below meth c D A K n ad nL Q (pc) ls st0 t := fun H locs la hP hS hl => by
  subst hR
  exact va_callv (va_runSN (As := As) (rest := st) C.1 (hM H.size) ⟨va_cnB k9 C.1.2.2.2.2 hG hws rfl rfl (C.2.2.2.2.2.2 _ hw) (C.1.2.2.2.2 _ hini) hy ⟨by show d9 + 1 ≤ d; omega, by show 8 + (mL + 11) + 40 * d9 ≤ 40 * d; omega⟩, C.1.2.2.2.2 _ hstat, trivial⟩ ⟨fun a U g mk q => ⟨q.1, q.2.1, q.2.2.1, va_K.moved (u := U) (U := U.calling g mk a) (Vm.Alike.refl U.vm) q.2.2.2.1, zNst.same (u := U) (U := U.calling g mk a) rfl q.2.2.2.2⟩, fun U hU hW => ⟨rfl, by rw [hU], by rw [hU]; exact hP, va_K.moved hW.alike C.2.1, zNst.warm hW C.2.2.2.2.2.2⟩⟩ rfl hn hl.1 hst (lv_room hcat) hd ⟨Nat.zero_le _, Nat.zero_le _⟩) hS (fun q _ h => C.2.2.1.free C.2.2.2.1 hS.1 q h) (fun q h => C.2.2.1.free C.2.2.2.1 hS.1 q h) (fun u u9 H1 locs1 hu _ hp hB _ _ hS1 => kk u hp H1 locs1 la (by rw [← hu]; exact hB) hS1 hl)
theorem z_statNQ (C : zC p s m args meth c cc nL ret own ws D cy n ad A) (pc : Nat) {idx mL k9 d d9 : Nat} {y : MethodName} {bytes : ByteArray} {ret9 : Option FieldType} {ws9 ws8 : List Cond} {As st0 : List Value} {host : String} {post : Option Nat → zM → Prop} (hM : zQ l y ws9 d9 D cy K n ad t As post) (hd : decode cc pc = .ok (.invokestatic idx, 3)) (hws : ws9 = .code y bytes mL ret9 :: ws8) (hG : GoodIn ws ws9) (hw : Cond.methodLinkNest own idx y host ∈ zNests) (hstat : Cond.static y ∈ ws) (hini : Cond.initialized y.cls ∈ ws) (hy : y.cls ≠ "java/lang/invoke/MethodHandle" ∧ y.cls ≠ "java/lang/invoke/VarHandle" ∧ (parseMethodDescriptor y.desc).map (fun d => d.parameters.length) = some k9) (hR : R = zR d) (hdd : d9 < d) (hmL : mL ≤ 20) (hn : As.length = k9) (hst : st0 = As.reverse ++ st) (hcat : (st.map fun v => v.category).sum ≤ 8) (kk : ∀ (r : Option Nat) (t1 : zM), post r t1 → Zw p l e R s m args below meth c D A K n ad nL Q (pc + 3) ls (va_rf r :: st) t1) : Zw p l e R s m args below meth c D A K n ad nL Q (pc) ls st0 t := fun H locs la hP hS hl => by
  subst hR
  exact va_callq (va_runSN (As := As) (rest := st) C.1 (hM H.size) ⟨va_cnB k9 C.1.2.2.2.2 hG hws rfl rfl (C.2.2.2.2.2.2 _ hw) (C.1.2.2.2.2 _ hini) hy ⟨by show d9 + 1 ≤ d; omega, by show 8 + (mL + 11) + 40 * d9 ≤ 40 * d; omega⟩, C.1.2.2.2.2 _ hstat, trivial⟩ ⟨fun a U g mk q => ⟨q.1, q.2.1, q.2.2.1, va_K.moved (u := U) (U := U.calling g mk a) (Vm.Alike.refl U.vm) q.2.2.2.1, zNst.same (u := U) (U := U.calling g mk a) rfl q.2.2.2.2⟩, fun U hU hW => ⟨rfl, by rw [hU], by rw [hU]; exact hP, va_K.moved hW.alike C.2.1, zNst.warm hW C.2.2.2.2.2.2⟩⟩ rfl hn hl.1 hst (lv_room hcat) hd ⟨Nat.zero_le _, Nat.zero_le _⟩) hS (fun q _ h => C.2.2.1.free C.2.2.2.1 hS.1 q h) (fun q h => C.2.2.1.free C.2.2.2.1 hS.1 q h) (fun r u u9 H1 locs1 hu _ hp hB _ _ hS1 => kk r u hp H1 locs1 la (by rw [← hu]; exact hB) hS1 hl)
def zcp (t : zM) (a c : Nat) (n : Nat) : zM := fun j => if j = c then (fun k => if k < n then t a k else t c k) else t j
theorem zcp_id (t : zM) (a c n : Nat) {j : Nat} (h : j ≠ c) (k : Nat) : zcp t a c n j k = t j k := congrFun (if_neg h) k
theorem z_acp {st : List Value} {d : Nat} (h : (st.map fun v => v.category).sum ≤ 8) (hd : 0 < d) : (st.map fun v => v.category).sum + (nativeFrameWords "java/lang/System" "arraycopy" 5 + 11) ≤ (zR d).locals := by
  have hw : nativeFrameWords "java/lang/System" "arraycopy" 5 + 11 ≤ 32 := by decide +kernel
  show _ ≤ 40 * d
  omega
theorem z_copyi (C : zC p s m args meth c cc nL ret own ws D cy n ad A) (pc : Nat) {idx d na nc : Nat} {x : Int32} (a b nn : Nat) (hd : decode cc pc = .ok (.invokestatic idx, 3)) (h1 : Cond.methodLink own idx arraycopyName ∈ ws) (h2 : Cond.native arraycopyName ∈ ws) (h3 : Cond.static arraycopyName ∈ ws) (h4 : Cond.initialized "java/lang/System" ∈ ws) (ha : a < n) (hb9 : b < n) (hea : ∀ f, K ad a f = .inl (cy 0, na, .inl f)) (heb : ∀ f, K ad b f = .inl (cy 0, nc, .inl f)) (hx : x = nI nn) (hna : nn ≤ na) (hnc : nn ≤ nc) (hnn : nn < 2 ^ 31) (hR : R = zR d) (hd0 : 0 < d) (hcat : (st.map fun v => v.category).sum ≤ 8) (kk : Zw p l e R s m args below meth c D A K n ad nL Q (pc + 3) ls st (zcp t a b nn)) : Zw p l e R s m args below meth c D A K n ad nL Q (pc) ls (.int x :: .int 0 :: .ref (ad b) :: .int 0 :: .ref (ad a) :: st) t := fun H locs la hP hS hl => by
  subst hR; subst hx
  have e0 : (0 : Int32).toNatClampNeg = 0 := by decide +kernel
  have e1 : (nI nn).toNatClampNeg = nn := nI_clamp hnn
  refine va_copyi C.1.1 C.1.2.1 (C.1.2.2.1.trans hl.1.symm) C.1.2.2.2.1 (C.1.2.2.2.2 _ h1) (C.1.2.2.2.2 _ h2) (C.1.2.2.2.2 _ h3) (C.1.2.2.2.2 _ h4) C.2.1 hP C.2.2.1.D hS a b 0 0 (zw_at ha (hea _)) (zw_at hb9 (heb _)) rfl rfl rfl (show ¬ (0 : Int32) < 0 by decide +kernel) (show ¬ (0 : Int32) < 0 by decide +kernel) (nI_pos hnn) (by rw [e0, e1]; omega) (by rw [e0, e1]; omega) (fun i _ => rfl) (show 1 ≤ d from hd0) (z_acp hcat hd0) hd (fun H1 locs1 hP1 hD1 hS1 => kk H1 locs1 la ?_ hS1 hl)
  rw [e0, e1, zw_set hb9 (heb _)] at hP1
  have e2 : zup t b (va_cpy (t a) (t b) 0 0 nn) = zcp t a b nn := by
    funext j k
    by_cases hj : j = b
    · subst hj
      simp [zup, zcp, va_cpy]
    · simp [zup, zcp, hj]
  rw [← e2]
  exact hP1
theorem z_min (C : zC p s m args meth c cc nL ret own ws D cy n ad A) (pc : Nat) {idx d : Nat} {x y : Int32} (hd : decode cc pc = .ok (.invokestatic idx, 3)) (h1 : Cond.methodLink own idx Lib.Math.min.name ∈ ws) (h2 : Cond.static Lib.Math.min.name ∈ ws) (h3 : Cond.initialized "java/lang/Math" ∈ ws) (h4 : Cond.code Lib.Math.min.name Lib.Math.min.code 2 (some .int) ∈ ws) (hR : R = zR d) (hd0 : 0 < d) (hcat : (st.map fun v => v.category).sum ≤ 8) (kk : Zw p l e R s m args below meth c D A K n ad nL Q (pc + 3) ls (.int (if y < x then y else x) :: st) t) : Zw p l e R s m args below meth c D A K n ad nL Q (pc) ls (.int y :: .int x :: st) t := fun H locs la hP hS hl => by
  subst hR
  exact va_mmin C.1.1 C.1.2.1 (C.1.2.2.1.trans hl.1.symm) C.1.2.2.2.1 (C.1.2.2.2.2 _ h1) (C.1.2.2.2.2 _ h2) (C.1.2.2.2.2 _ h3) (C.1.2.2.2.2 _ h4) (show 1 ≤ d from hd0) (by show _ ≤ 40 * d; omega) (Nat.zero_le _) (Nat.zero_le _) hd (kk H locs la hP hS hl)
theorem z_max (C : zC p s m args meth c cc nL ret own ws D cy n ad A) (pc : Nat) {idx d : Nat} {x y : Int32} (hd : decode cc pc = .ok (.invokestatic idx, 3)) (h1 : Cond.methodLink own idx Lib.Math.max.name ∈ ws) (h2 : Cond.static Lib.Math.max.name ∈ ws) (h3 : Cond.initialized "java/lang/Math" ∈ ws) (h4 : Cond.code Lib.Math.max.name Lib.Math.max.code 2 (some .int) ∈ ws) (hR : R = zR d) (hd0 : 0 < d) (hcat : (st.map fun v => v.category).sum ≤ 8) (kk : Zw p l e R s m args below meth c D A K n ad nL Q (pc + 3) ls (.int (if x < y then y else x) :: st) t) : Zw p l e R s m args below meth c D A K n ad nL Q (pc) ls (.int y :: .int x :: st) t := fun H locs la hP hS hl => by
  subst hR
  exact va_mmax C.1.1 C.1.2.1 (C.1.2.2.1.trans hl.1.symm) C.1.2.2.2.1 (C.1.2.2.2.2 _ h1) (C.1.2.2.2.2 _ h2) (C.1.2.2.2.2 _ h3) (C.1.2.2.2.2 _ h4) (show 1 ≤ d from hd0) (by show _ ≤ 40 * d; omega) (Nat.zero_le _) (Nat.zero_le _) hd (kk H locs la hP hS hl)
theorem z_abs (C : zC p s m args meth c cc nL ret own ws D cy n ad A) (pc : Nat) {idx d : Nat} {x : Int32} (hd : decode cc pc = .ok (.invokestatic idx, 3)) (h1 : Cond.methodLink own idx Lib.Math.abs.name ∈ ws) (h2 : Cond.static Lib.Math.abs.name ∈ ws) (h3 : Cond.initialized "java/lang/Math" ∈ ws) (h4 : Cond.code Lib.Math.abs.name Lib.Math.abs.code 1 (some .int) ∈ ws) (hR : R = zR d) (hd0 : 0 < d) (hcat : (st.map fun v => v.category).sum ≤ 8) (kk : Zw p l e R s m args below meth c D A K n ad nL Q (pc + 3) ls (.int (if 0 ≤ x then x else 0 - x) :: st) t) : Zw p l e R s m args below meth c D A K n ad nL Q (pc) ls (.int x :: st) t := fun H locs la hP hS hl => by
  subst hR
  exact va_mabs C.1.1 C.1.2.1 (C.1.2.2.1.trans hl.1.symm) C.1.2.2.2.1 (C.1.2.2.2.2 _ h1) (C.1.2.2.2.2 _ h2) (C.1.2.2.2.2 _ h3) (C.1.2.2.2.2 _ h4) (show 1 ≤ d from hd0) (by show _ ≤ 40 * d; omega) (Nat.zero_le _) (Nat.zero_le _) hd (kk H locs la hP hS hl)
end ZZ
section ZS
variable {l : Launch} {y : MethodName} {ws ws8 : List Cond} {d : Nat} {D : va_G} {cy : Nat → ClassId} {K : zK} {n : Nat} {ad : Nat → Nat} {t : zM} {av : List Value} {cc : ByteArray} {mL : Nat} {ret : Option FieldType} {own : String}
theorem z_startI {post : Int32 → zM → Prop} (hws : ws = .code y cc mL ret :: ws8) (hy : plainName y.cls = true) (hown : y.cls = own) (hJ : zJ n ad) (hlen : (lg_sl av).length ≤ mL) (body : ∀ (p : Program) (e : Env) (s : State) (m : MethodId) (args : Array Value) (below : List Frame) (meth : Method) (c : Code) (A : Nat → Prop), A = va_A (zw K n ad t) s.heap.size → ∀ (Q : State → Prop), Q = MQ below (zEi D K n ad t s.heap.size post) args s 0 0 A → zC p s m args meth c cc mL ret own ws D cy n ad A → Zw p l e (zR d) s m args below meth c D A K n ad mL Q 0 (lv_args 0 av) [] t) : zI l y ws d D cy K n ad t av post := by
  intro sz
  refine Met.ofW (cc := cc) (maxL := mL) (ret := ret) hy hws ?_
  intro p e s m args below meth c s₁ B hml hv
  obtain ⟨rfl, hsz, hP, hK, hN⟩ := hv
  subst hsz
  have hts := atoms_spec (ws := ws) B.pre
  have ho : s.vm.findClass own = some m.cls := hown ▸ findClass_of_methodNamed B.named
  have hl := lv_entry av (n := mL) hlen
  have := body p e s m av.toArray below meth c _ rfl _ rfl ⟨⟨B.exec, B.bytes, hml, ho, hts⟩, hK, zG.self hJ, fun q h => zA_iff.mpr (Or.inr h), B.returns, B.notSynchronized, hN⟩ s.heap [] _ hP va_S.rf hl
  rw [lg_entry_eq]
  exact this
theorem z_startV {post : zM → Prop} (hws : ws = .code y cc mL ret :: ws8) (hy : plainName y.cls = true) (hown : y.cls = own) (hJ : zJ n ad) (hlen : (lg_sl av).length ≤ mL) (body : ∀ (p : Program) (e : Env) (s : State) (m : MethodId) (args : Array Value) (below : List Frame) (meth : Method) (c : Code) (A : Nat → Prop), A = va_A (zw K n ad t) s.heap.size → ∀ (Q : State → Prop), Q = MQ below (zEv D K n ad t s.heap.size post) args s 0 0 A → zC p s m args meth c cc mL ret own ws D cy n ad A → Zw p l e (zR d) s m args below meth c D A K n ad mL Q 0 (lv_args 0 av) [] t) : zV l y ws d D cy K n ad t av post := by
  intro sz
  refine Met.ofW (cc := cc) (maxL := mL) (ret := ret) hy hws ?_
  intro p e s m args below meth c s₁ B hml hv
  obtain ⟨rfl, hsz, hP, hK, hN⟩ := hv
  subst hsz
  have hts := atoms_spec (ws := ws) B.pre
  have ho : s.vm.findClass own = some m.cls := hown ▸ findClass_of_methodNamed B.named
  have hl := lv_entry av (n := mL) hlen
  have := body p e s m av.toArray below meth c _ rfl _ rfl ⟨⟨B.exec, B.bytes, hml, ho, hts⟩, hK, zG.self hJ, fun q h => zA_iff.mpr (Or.inr h), B.returns, B.notSynchronized, hN⟩ s.heap [] _ hP va_S.rf hl
  rw [lg_entry_eq]
  exact this
theorem z_startQ {post : Option Nat → zM → Prop} (hws : ws = .code y cc mL ret :: ws8) (hy : plainName y.cls = true) (hown : y.cls = own) (hJ : zJ n ad) (hlen : (lg_sl av).length ≤ mL) (body : ∀ (p : Program) (e : Env) (s : State) (m : MethodId) (args : Array Value) (below : List Frame) (meth : Method) (c : Code) (A : Nat → Prop), A = va_A (zw K n ad t) s.heap.size → ∀ (Q : State → Prop), Q = MQ below (zEq D K n ad t s.heap.size post) args s 0 0 A → zC p s m args meth c cc mL ret own ws D cy n ad A → Zw p l e (zR d) s m args below meth c D A K n ad mL Q 0 (lv_args 0 av) [] t) : zQ l y ws d D cy K n ad t av post := by
  intro sz
  refine Met.ofW (cc := cc) (maxL := mL) (ret := ret) hy hws ?_
  intro p e s m args below meth c s₁ B hml hv
  obtain ⟨rfl, hsz, hP, hK, hN⟩ := hv
  subst hsz
  have hts := atoms_spec (ws := ws) B.pre
  have ho : s.vm.findClass own = some m.cls := hown ▸ findClass_of_methodNamed B.named
  have hl := lv_entry av (n := mL) hlen
  have := body p e s m av.toArray below meth c _ rfl _ rfl ⟨⟨B.exec, B.bytes, hml, ho, hts⟩, hK, zG.self hJ, fun q h => zA_iff.mpr (Or.inr h), B.returns, B.notSynchronized, hN⟩ s.heap [] _ hP va_S.rf hl
  rw [lg_entry_eq]
  exact this
end ZS
end
section
/-! The objects by ids -/
def zHouse (K : zK) (n : Nat) (ad : Nat → Nat) (b : Nat) : Prop := b < n ∧ ∀ f, K ad b f = .inr (1, [.int (f 0), .int (f 1), .int (f 2), .int (f 3), .int (f 4), .int (f 5), .int (f 6), .int (f 7), .int (f 8), .int (f 9), .int (f 10), .int (f 11), .int (f 12), .int (f 13)])
def zStreet (cy : Nat → ClassId) (K : zK) (n : Nat) (ad : Nat → Nat) (b : Nat) : Prop := b + 1 < n ∧ (∀ f, K ad b f = .inr (4, [.ref (ad (b + 1)), .int (f 1)])) ∧ ∀ f, K ad (b + 1) f = .inl (cy 0, 20, .inl f)
def zLedger (cy : Nat → ClassId) (K : zK) (n : Nat) (ad : Nat → Nat) (b : Nat) : Prop := b + 1 < n ∧ (∀ f, K ad b f = .inr (2, [.ref (ad (b + 1)), .int (f 1), .int (f 2)])) ∧ ∀ f, K ad (b + 1) f = .inl (cy 0, 60, .inl f)
def zOrders (cy : Nat → ClassId) (K : zK) (n : Nat) (ad : Nat → Nat) (b : Nat) : Prop := b + 1 < n ∧ (∀ f, K ad b f = .inr (3, [.ref (ad (b + 1)), .int (f 1), .int (f 2), .int (f 3), .int (f 4), .int (f 5), .int (f 6), .int (f 7), .int (f 8), .int (f 9)])) ∧ ∀ f, K ad (b + 1) f = .inl (cy 0, 60, .inl f)
def rX1_used (b : Nat) (t : zM)  : Int32 := (if (t (b) 2) < (t (b) 3) then (((t (b) 2) - (t (b) 3)) + 100000) else ((t (b) 2) - (t (b) 3)))
theorem mX1_used_f21 : Cond.fieldLink RX1 21 "WrongedMeters$House" "dial" "I" ∈ wsX1_used := by decide +kernel
set_option maxRecDepth 20000 in
theorem mX1_used_in1 : ∀ w ∈ u_ws RX1 TX1 14, w ∈ wsX1_used := by decide +kernel
theorem mX1_used_f24 : Cond.fieldLink RX1 24 "WrongedMeters$House" "dialBefore" "I" ∈ wsX1_used := by decide +kernel
theorem mX1_used_c55 : Cond.constant RX1 55 (100000) ∈ wsX1_used := by decide +kernel
theorem hyX1_used : yX1_used.cls = RX1 ∧ yX1_used.cls ≠ "java/lang/invoke/MethodHandle" ∧ yX1_used.cls ≠ "java/lang/invoke/VarHandle" ∧ (parseMethodDescriptor yX1_used.desc).map (fun d => d.parameters.length) = some 0 := by decide +kernel
set_option maxHeartbeats 4000000 in
set_option maxRecDepth 100000 in
theorem kX1_used (l : Launch) (D : va_G) (cy : Nat → ClassId) (K : zK) (n : Nat) (ad : Nat → Nat) (hJ : zJ n ad) (b : Nat) (hO : zHouse K n ad b) (t : zM)   : zI l yX1_used wsX1_used 0 D cy K n ad t [.ref (ad (b))] (fun r t1 => r = rX1_used b t ∧ t1 = t) := by
  refine z_startI (cc := cX1_used) (mL := 1) (ret := (some .int)) (own := RX1) rfl (by decide +kernel) rfl hJ (Nat.le_of_ble_eq_true rfl) ?_
  intro p e s m args below meth c A hA Q hQ C
  refine z_aload_n C 0 0 0 dX1_used_0 rfl rfl ?_
  refine z_get C 1 (b) 2 dX1_used_1 hO.1 hO.2 mX1_used_in1 rfl (by decide) mX1_used_f21 rfl ?_
  refine z_aload_n C 4 0 0 dX1_used_4 rfl rfl ?_
  refine z_get C 5 (b) 3 dX1_used_5 hO.1 hO.2 mX1_used_in1 rfl (by decide) mX1_used_f24 rfl ?_
  refine z_icmp_lt C 8 23 dX1_used_8 (by decide) (fun c8_1 => ?_) (fun c8_1 => ?_)
  · refine z_aload_n C 23 0 0 dX1_used_23 rfl rfl ?_
    refine z_get C 24 (b) 2 dX1_used_24 hO.1 hO.2 mX1_used_in1 rfl (by decide) mX1_used_f21 rfl ?_
    refine z_aload_n C 27 0 0 dX1_used_27 rfl rfl ?_
    refine z_get C 28 (b) 3 dX1_used_28 hO.1 hO.2 mX1_used_in1 rfl (by decide) mX1_used_f24 rfl ?_
    refine z_isub C 31 dX1_used_31 ?_
    refine z_ldc C 32 (v := 100000) dX1_used_32 mX1_used_c55 ?_
    refine z_iadd C 34 dX1_used_34 ?_
    exact z_iret C 35 hA hQ rfl dX1_used_35 ⟨((if_pos c8_1).trans rfl).symm, rfl⟩
  · refine z_aload_n C 11 0 0 dX1_used_11 rfl rfl ?_
    refine z_get C 12 (b) 2 dX1_used_12 hO.1 hO.2 mX1_used_in1 rfl (by decide) mX1_used_f21 rfl ?_
    refine z_aload_n C 15 0 0 dX1_used_15 rfl rfl ?_
    refine z_get C 16 (b) 3 dX1_used_16 hO.1 hO.2 mX1_used_in1 rfl (by decide) mX1_used_f24 rfl ?_
    refine z_isub C 19 dX1_used_19 ?_
    refine z_goto C 20 35 dX1_used_20 (by decide) ?_
    exact z_iret C 35 hA hQ rfl dX1_used_35 ⟨((if_neg c8_1).trans rfl).symm, rfl⟩
def rX1_reasonOn (b : Nat) (t : zM) (a1 : Int32) : Int32 := (if (t (b) 5) = 0 then (if (t (b) 7) = a1 then 2 else 0) else 1)
theorem mX1_reasonOn_f30 : Cond.fieldLink RX1 30 "WrongedMeters$House" "isLocked" "Z" ∈ wsX1_reasonOn := by decide +kernel
set_option maxRecDepth 20000 in
theorem mX1_reasonOn_in1 : ∀ w ∈ u_ws RX1 TX1 14, w ∈ wsX1_reasonOn := by decide +kernel
theorem mX1_reasonOn_f9 : Cond.fieldLink RX1 9 "WrongedMeters$House" "latestDay" "I" ∈ wsX1_reasonOn := by decide +kernel
theorem hyX1_reasonOn : yX1_reasonOn.cls = RX1 ∧ yX1_reasonOn.cls ≠ "java/lang/invoke/MethodHandle" ∧ yX1_reasonOn.cls ≠ "java/lang/invoke/VarHandle" ∧ (parseMethodDescriptor yX1_reasonOn.desc).map (fun d => d.parameters.length) = some 1 := by decide +kernel
set_option maxHeartbeats 4000000 in
set_option maxRecDepth 100000 in
theorem kX1_reasonOn (l : Launch) (D : va_G) (cy : Nat → ClassId) (K : zK) (n : Nat) (ad : Nat → Nat) (hJ : zJ n ad) (b : Nat) (hO : zHouse K n ad b) (t : zM) (a1 : Int32)  : zI l yX1_reasonOn wsX1_reasonOn 0 D cy K n ad t [.ref (ad (b)), .int a1] (fun r t1 => r = rX1_reasonOn b t a1 ∧ t1 = t) := by
  refine z_startI (cc := cX1_reasonOn) (mL := 2) (ret := (some .int)) (own := RX1) rfl (by decide +kernel) rfl hJ (Nat.le_of_ble_eq_true rfl) ?_
  intro p e s m args below meth c A hA Q hQ C
  refine z_aload_n C 0 0 0 dX1_reasonOn_0 rfl rfl ?_
  refine z_get C 1 (b) 5 dX1_reasonOn_1 hO.1 hO.2 mX1_reasonOn_in1 rfl (by decide) mX1_reasonOn_f30 rfl ?_
  refine z_if_eq C 4 11 dX1_reasonOn_4 (by decide) (fun c4_1 => ?_) (fun c4_1 => ?_)
  · refine z_aload_n C 11 0 0 dX1_reasonOn_11 rfl rfl ?_
    refine z_get C 12 (b) 7 dX1_reasonOn_12 hO.1 hO.2 mX1_reasonOn_in1 rfl (by decide) mX1_reasonOn_f9 rfl ?_
    refine z_iload_n C 15 1 1 dX1_reasonOn_15 rfl rfl ?_
    refine z_icmp_ne C 16 23 dX1_reasonOn_16 (by decide) (fun c16_2 => ?_) (fun c16_2 => ?_)
    · refine z_iconst C 23 (v := 0) dX1_reasonOn_23 (by decide +kernel) ?_
      exact z_iret C 24 hA hQ rfl dX1_reasonOn_24 ⟨((if_pos c4_1).trans ((if_neg c16_2).trans rfl)).symm, rfl⟩
    · refine z_iconst C 19 (v := 2) dX1_reasonOn_19 (by decide +kernel) ?_
      refine z_goto C 20 24 dX1_reasonOn_20 (by decide) ?_
      exact z_iret C 24 hA hQ rfl dX1_reasonOn_24 ⟨((if_pos c4_1).trans ((if_pos c16_2).trans rfl)).symm, rfl⟩
  · refine z_iconst C 7 (v := 1) dX1_reasonOn_7 (by decide +kernel) ?_
    refine z_goto C 8 24 dX1_reasonOn_8 (by decide) ?_
    exact z_iret C 24 hA hQ rfl dX1_reasonOn_24 ⟨((if_neg c4_1).trans rfl).symm, rfl⟩
def sX1_goOn (b : Nat) (t : zM)  : zM := (if ((t (b) 2) + (t (b) 4)) < 100000 then (zset t (b) 2 ((t (b) 2) + (t (b) 4))) else (zset (zset t (b) 2 ((t (b) 2) + (t (b) 4))) (b) 2 (((t (b) 2) + (t (b) 4)) - 100000)))
theorem mX1_goOn_f21 : Cond.fieldLink RX1 21 "WrongedMeters$House" "dial" "I" ∈ wsX1_goOn := by decide +kernel
set_option maxRecDepth 20000 in
theorem mX1_goOn_in1 : ∀ w ∈ u_ws RX1 TX1 14, w ∈ wsX1_goOn := by decide +kernel
theorem mX1_goOn_f27 : Cond.fieldLink RX1 27 "WrongedMeters$House" "flow" "I" ∈ wsX1_goOn := by decide +kernel
theorem mX1_goOn_c55 : Cond.constant RX1 55 (100000) ∈ wsX1_goOn := by decide +kernel
theorem hyX1_goOn : yX1_goOn.cls = RX1 ∧ yX1_goOn.cls ≠ "java/lang/invoke/MethodHandle" ∧ yX1_goOn.cls ≠ "java/lang/invoke/VarHandle" ∧ (parseMethodDescriptor yX1_goOn.desc).map (fun d => d.parameters.length) = some 0 := by decide +kernel
set_option maxHeartbeats 4000000 in
set_option maxRecDepth 100000 in
theorem kX1_goOn (l : Launch) (D : va_G) (cy : Nat → ClassId) (K : zK) (n : Nat) (ad : Nat → Nat) (hJ : zJ n ad) (b : Nat) (hO : zHouse K n ad b) (t : zM)   : zV l yX1_goOn wsX1_goOn 0 D cy K n ad t [.ref (ad (b))] (fun t1 => t1 = sX1_goOn b t) := by
  refine z_startV (cc := cX1_goOn) (mL := 1) (ret := none) (own := RX1) rfl (by decide +kernel) rfl hJ (Nat.le_of_ble_eq_true rfl) ?_
  intro p e s m args below meth c A hA Q hQ C
  refine z_aload_n C 0 0 0 dX1_goOn_0 rfl rfl ?_
  refine z_dup C 1 dX1_goOn_1 rfl ?_
  refine z_get C 2 (b) 2 dX1_goOn_2 hO.1 hO.2 mX1_goOn_in1 rfl (by decide) mX1_goOn_f21 rfl ?_
  refine z_aload_n C 5 0 0 dX1_goOn_5 rfl rfl ?_
  refine z_get C 6 (b) 4 dX1_goOn_6 hO.1 hO.2 mX1_goOn_in1 rfl (by decide) mX1_goOn_f27 rfl ?_
  refine z_iadd C 9 dX1_goOn_9 ?_
  refine z_put C 10 (ty := .int) (b) 2 dX1_goOn_10 hO.1 hO.2 mX1_goOn_in1 tyX1 tyX1_ok nmX1 rfl (by decide) mX1_goOn_f21 rfl (by decide +kernel) rfl rfl (Nat.le_of_ble_eq_true rfl) rfl ?_
  refine z_aload_n C 13 0 0 dX1_goOn_13 rfl rfl ?_
  refine z_get C 14 (b) 2 dX1_goOn_14 hO.1 hO.2 mX1_goOn_in1 rfl (by decide) mX1_goOn_f21 rfl ?_
  refine z_nv ((t (b) 2) + (t (b) 4)) (zset_eq _ _ _ _) ?_
  refine z_ldc C 17 (v := 100000) dX1_goOn_17 mX1_goOn_c55 ?_
  refine z_icmp_lt C 19 33 dX1_goOn_19 (by decide) (fun c19_1 => ?_) (fun c19_1 => ?_)
    · exact z_vret C 33 hA hQ rfl dX1_goOn_33 ((if_pos c19_1).trans rfl).symm
  · refine z_aload_n C 22 0 0 dX1_goOn_22 rfl rfl ?_
    refine z_dup C 23 dX1_goOn_23 rfl ?_
    refine z_get C 24 (b) 2 dX1_goOn_24 hO.1 hO.2 mX1_goOn_in1 rfl (by decide) mX1_goOn_f21 rfl ?_
    refine z_nv ((t (b) 2) + (t (b) 4)) (zset_eq _ _ _ _) ?_
    refine z_ldc C 27 (v := 100000) dX1_goOn_27 mX1_goOn_c55 ?_
    refine z_isub C 29 dX1_goOn_29 ?_
    refine z_put C 30 (ty := .int) (b) 2 dX1_goOn_30 hO.1 hO.2 mX1_goOn_in1 tyX1 tyX1_ok nmX1 rfl (by decide) mX1_goOn_f21 rfl (by decide +kernel) rfl rfl (Nat.le_of_ble_eq_true rfl) rfl ?_
    exact z_vret C 33 hA hQ rfl dX1_goOn_33 ((if_neg c19_1).trans rfl).symm
theorem sX1_goOn_o (b : Nat) (t : zM)  {j : Nat} (h : j ≠ b) : sX1_goOn b t  j = t j := by
  unfold sX1_goOn
  repeat' split
  all_goals simp only [zset_id _ _ _ h]
def sX1_settle (b : Nat) (t : zM) (a1 : Int32) (a2 : Int32) (a3 : Int32) : zM := (if ((t (b) 6) + ((100 * a3) - a2)) ≤ 0 then (if 0 ≤ ((t (b) 6) + ((100 * a3) - a2)) then (zset (zset (zset (zset (zset t (b) 6 ((t (b) 6) + ((100 * a3) - a2))) (b) 3 (t (b) 2)) (b) 7 a1) (b) 8 ((t (b) 8) + 1)) (b) 9 ((t (b) 9) + a3)) else (zset (zset (zset (zset (zset (zset t (b) 6 ((t (b) 6) + ((100 * a3) - a2))) (b) 3 (t (b) 2)) (b) 7 a1) (b) 8 ((t (b) 8) + 1)) (b) 9 ((t (b) 9) + a3)) (b) 11 ((t (b) 11) + 1))) else (zset (zset (zset (zset (zset (zset t (b) 6 ((t (b) 6) + ((100 * a3) - a2))) (b) 3 (t (b) 2)) (b) 7 a1) (b) 8 ((t (b) 8) + 1)) (b) 9 ((t (b) 9) + a3)) (b) 10 ((t (b) 10) + 1)))
theorem mX1_settle_f34 : Cond.fieldLink RX1 34 "WrongedMeters$House" "balance" "I" ∈ wsX1_settle := by decide +kernel
set_option maxRecDepth 20000 in
theorem mX1_settle_in1 : ∀ w ∈ u_ws RX1 TX1 14, w ∈ wsX1_settle := by decide +kernel
theorem mX1_settle_f21 : Cond.fieldLink RX1 21 "WrongedMeters$House" "dial" "I" ∈ wsX1_settle := by decide +kernel
theorem mX1_settle_f24 : Cond.fieldLink RX1 24 "WrongedMeters$House" "dialBefore" "I" ∈ wsX1_settle := by decide +kernel
theorem mX1_settle_f9 : Cond.fieldLink RX1 9 "WrongedMeters$House" "latestDay" "I" ∈ wsX1_settle := by decide +kernel
theorem mX1_settle_f37 : Cond.fieldLink RX1 37 "WrongedMeters$House" "readings" "I" ∈ wsX1_settle := by decide +kernel
theorem mX1_settle_f40 : Cond.fieldLink RX1 40 "WrongedMeters$House" "units" "I" ∈ wsX1_settle := by decide +kernel
theorem mX1_settle_f46 : Cond.fieldLink RX1 46 "WrongedMeters$House" "timesCompanyWronged" "I" ∈ wsX1_settle := by decide +kernel
theorem mX1_settle_f43 : Cond.fieldLink RX1 43 "WrongedMeters$House" "timesHouseWronged" "I" ∈ wsX1_settle := by decide +kernel
theorem hyX1_settle : yX1_settle.cls = RX1 ∧ yX1_settle.cls ≠ "java/lang/invoke/MethodHandle" ∧ yX1_settle.cls ≠ "java/lang/invoke/VarHandle" ∧ (parseMethodDescriptor yX1_settle.desc).map (fun d => d.parameters.length) = some 3 := by decide +kernel
set_option maxHeartbeats 4000000 in
set_option maxRecDepth 100000 in
theorem kX1_settle (l : Launch) (D : va_G) (cy : Nat → ClassId) (K : zK) (n : Nat) (ad : Nat → Nat) (hJ : zJ n ad) (b : Nat) (hO : zHouse K n ad b) (t : zM) (a1 : Int32) (a2 : Int32) (a3 : Int32)  : zV l yX1_settle wsX1_settle 0 D cy K n ad t [.ref (ad (b)), .int a1, .int a2, .int a3] (fun t1 => t1 = sX1_settle b t a1 a2 a3) := by
  refine z_startV (cc := cX1_settle) (mL := 4) (ret := none) (own := RX1) rfl (by decide +kernel) rfl hJ (Nat.le_of_ble_eq_true rfl) ?_
  intro p e s m args below meth c A hA Q hQ C
  refine z_aload_n C 0 0 0 dX1_settle_0 rfl rfl ?_
  refine z_dup C 1 dX1_settle_1 rfl ?_
  refine z_get C 2 (b) 6 dX1_settle_2 hO.1 hO.2 mX1_settle_in1 rfl (by decide) mX1_settle_f34 rfl ?_
  refine z_bipush C 5 (v := 100) dX1_settle_5 (by decide +kernel) ?_
  refine z_iload_n C 7 3 3 dX1_settle_7 rfl rfl ?_
  refine z_imul C 8 dX1_settle_8 ?_
  refine z_iload_n C 9 2 2 dX1_settle_9 rfl rfl ?_
  refine z_isub C 10 dX1_settle_10 ?_
  refine z_iadd C 11 dX1_settle_11 ?_
  refine z_put C 12 (ty := .int) (b) 6 dX1_settle_12 hO.1 hO.2 mX1_settle_in1 tyX1 tyX1_ok nmX1 rfl (by decide) mX1_settle_f34 rfl (by decide +kernel) rfl rfl (Nat.le_of_ble_eq_true rfl) rfl ?_
  refine z_aload_n C 15 0 0 dX1_settle_15 rfl rfl ?_
  refine z_aload_n C 16 0 0 dX1_settle_16 rfl rfl ?_
  refine z_get C 17 (b) 2 dX1_settle_17 hO.1 hO.2 mX1_settle_in1 rfl (by decide) mX1_settle_f21 rfl ?_
  refine z_nv (t (b) 2) ((zset_nk _ _ _ (by decide)).trans rfl) ?_
  refine z_put C 20 (ty := .int) (b) 3 dX1_settle_20 hO.1 hO.2 mX1_settle_in1 tyX1 tyX1_ok nmX1 rfl (by decide) mX1_settle_f24 rfl (by decide +kernel) rfl rfl (Nat.le_of_ble_eq_true rfl) rfl ?_
  refine z_aload_n C 23 0 0 dX1_settle_23 rfl rfl ?_
  refine z_iload_n C 24 1 1 dX1_settle_24 rfl rfl ?_
  refine z_put C 25 (ty := .int) (b) 7 dX1_settle_25 hO.1 hO.2 mX1_settle_in1 tyX1 tyX1_ok nmX1 rfl (by decide) mX1_settle_f9 rfl (by decide +kernel) rfl rfl (Nat.le_of_ble_eq_true rfl) rfl ?_
  refine z_aload_n C 28 0 0 dX1_settle_28 rfl rfl ?_
  refine z_dup C 29 dX1_settle_29 rfl ?_
  refine z_get C 30 (b) 8 dX1_settle_30 hO.1 hO.2 mX1_settle_in1 rfl (by decide) mX1_settle_f37 rfl ?_
  refine z_nv (t (b) 8) ((zset_nk _ _ _ (by decide)).trans ((zset_nk _ _ _ (by decide)).trans ((zset_nk _ _ _ (by decide)).trans rfl))) ?_
  refine z_iconst C 33 (v := 1) dX1_settle_33 (by decide +kernel) ?_
  refine z_iadd C 34 dX1_settle_34 ?_
  refine z_put C 35 (ty := .int) (b) 8 dX1_settle_35 hO.1 hO.2 mX1_settle_in1 tyX1 tyX1_ok nmX1 rfl (by decide) mX1_settle_f37 rfl (by decide +kernel) rfl rfl (Nat.le_of_ble_eq_true rfl) rfl ?_
  refine z_aload_n C 38 0 0 dX1_settle_38 rfl rfl ?_
  refine z_dup C 39 dX1_settle_39 rfl ?_
  refine z_get C 40 (b) 9 dX1_settle_40 hO.1 hO.2 mX1_settle_in1 rfl (by decide) mX1_settle_f40 rfl ?_
  refine z_nv (t (b) 9) ((zset_nk _ _ _ (by decide)).trans ((zset_nk _ _ _ (by decide)).trans ((zset_nk _ _ _ (by decide)).trans ((zset_nk _ _ _ (by decide)).trans rfl)))) ?_
  refine z_iload_n C 43 3 3 dX1_settle_43 rfl rfl ?_
  refine z_iadd C 44 dX1_settle_44 ?_
  refine z_put C 45 (ty := .int) (b) 9 dX1_settle_45 hO.1 hO.2 mX1_settle_in1 tyX1 tyX1_ok nmX1 rfl (by decide) mX1_settle_f40 rfl (by decide +kernel) rfl rfl (Nat.le_of_ble_eq_true rfl) rfl ?_
  refine z_aload_n C 48 0 0 dX1_settle_48 rfl rfl ?_
  refine z_get C 49 (b) 6 dX1_settle_49 hO.1 hO.2 mX1_settle_in1 rfl (by decide) mX1_settle_f34 rfl ?_
  refine z_nv ((t (b) 6) + ((100 * a3) - a2)) ((zset_nk _ _ _ (by decide)).trans ((zset_nk _ _ _ (by decide)).trans ((zset_nk _ _ _ (by decide)).trans ((zset_nk _ _ _ (by decide)).trans (zset_eq _ _ _ _))))) ?_
  refine z_if_le C 52 68 dX1_settle_52 (by decide) (fun c52_1 => ?_) (fun c52_1 => ?_)
  · refine z_aload_n C 68 0 0 dX1_settle_68 rfl rfl ?_
    refine z_get C 69 (b) 6 dX1_settle_69 hO.1 hO.2 mX1_settle_in1 rfl (by decide) mX1_settle_f34 rfl ?_
    refine z_nv ((t (b) 6) + ((100 * a3) - a2)) ((zset_nk _ _ _ (by decide)).trans ((zset_nk _ _ _ (by decide)).trans ((zset_nk _ _ _ (by decide)).trans ((zset_nk _ _ _ (by decide)).trans (zset_eq _ _ _ _))))) ?_
    refine z_if_ge C 72 85 dX1_settle_72 (by decide) (fun c72_2 => ?_) (fun c72_2 => ?_)
      · exact z_vret C 85 hA hQ rfl dX1_settle_85 ((if_pos c52_1).trans ((if_pos c72_2).trans rfl)).symm
    · refine z_aload_n C 75 0 0 dX1_settle_75 rfl rfl ?_
      refine z_dup C 76 dX1_settle_76 rfl ?_
      refine z_get C 77 (b) 11 dX1_settle_77 hO.1 hO.2 mX1_settle_in1 rfl (by decide) mX1_settle_f46 rfl ?_
      refine z_nv (t (b) 11) ((zset_nk _ _ _ (by decide)).trans ((zset_nk _ _ _ (by decide)).trans ((zset_nk _ _ _ (by decide)).trans ((zset_nk _ _ _ (by decide)).trans ((zset_nk _ _ _ (by decide)).trans rfl))))) ?_
      refine z_iconst C 80 (v := 1) dX1_settle_80 (by decide +kernel) ?_
      refine z_iadd C 81 dX1_settle_81 ?_
      refine z_put C 82 (ty := .int) (b) 11 dX1_settle_82 hO.1 hO.2 mX1_settle_in1 tyX1 tyX1_ok nmX1 rfl (by decide) mX1_settle_f46 rfl (by decide +kernel) rfl rfl (Nat.le_of_ble_eq_true rfl) rfl ?_
      exact z_vret C 85 hA hQ rfl dX1_settle_85 ((if_pos c52_1).trans ((if_neg c72_2).trans rfl)).symm
  · refine z_aload_n C 55 0 0 dX1_settle_55 rfl rfl ?_
    refine z_dup C 56 dX1_settle_56 rfl ?_
    refine z_get C 57 (b) 10 dX1_settle_57 hO.1 hO.2 mX1_settle_in1 rfl (by decide) mX1_settle_f43 rfl ?_
    refine z_nv (t (b) 10) ((zset_nk _ _ _ (by decide)).trans ((zset_nk _ _ _ (by decide)).trans ((zset_nk _ _ _ (by decide)).trans ((zset_nk _ _ _ (by decide)).trans ((zset_nk _ _ _ (by decide)).trans rfl))))) ?_
    refine z_iconst C 60 (v := 1) dX1_settle_60 (by decide +kernel) ?_
    refine z_iadd C 61 dX1_settle_61 ?_
    refine z_put C 62 (ty := .int) (b) 10 dX1_settle_62 hO.1 hO.2 mX1_settle_in1 tyX1 tyX1_ok nmX1 rfl (by decide) mX1_settle_f43 rfl (by decide +kernel) rfl rfl (Nat.le_of_ble_eq_true rfl) rfl ?_
    refine z_goto C 65 85 dX1_settle_65 (by decide) ?_
    exact z_vret C 85 hA hQ rfl dX1_settle_85 ((if_neg c52_1).trans rfl).symm
theorem sX1_settle_o (b : Nat) (t : zM) (a1 : Int32) (a2 : Int32) (a3 : Int32) {j : Nat} (h : j ≠ b) : sX1_settle b t a1 a2 a3 j = t j := by
  unfold sX1_settle
  repeat' split
  all_goals simp only [zset_id _ _ _ h]
def sX1_renewMeter (b : Nat) (t : zM)  : zM := (zset (zset (zset t (b) 2 0) (b) 3 0) (b) 13 ((t (b) 13) + 1))
theorem mX1_renewMeter_f21 : Cond.fieldLink RX1 21 "WrongedMeters$House" "dial" "I" ∈ wsX1_renewMeter := by decide +kernel
set_option maxRecDepth 20000 in
theorem mX1_renewMeter_in1 : ∀ w ∈ u_ws RX1 TX1 14, w ∈ wsX1_renewMeter := by decide +kernel
theorem mX1_renewMeter_f24 : Cond.fieldLink RX1 24 "WrongedMeters$House" "dialBefore" "I" ∈ wsX1_renewMeter := by decide +kernel
theorem mX1_renewMeter_f52 : Cond.fieldLink RX1 52 "WrongedMeters$House" "metersChanged" "I" ∈ wsX1_renewMeter := by decide +kernel
theorem hyX1_renewMeter : yX1_renewMeter.cls = RX1 ∧ yX1_renewMeter.cls ≠ "java/lang/invoke/MethodHandle" ∧ yX1_renewMeter.cls ≠ "java/lang/invoke/VarHandle" ∧ (parseMethodDescriptor yX1_renewMeter.desc).map (fun d => d.parameters.length) = some 0 := by decide +kernel
set_option maxHeartbeats 4000000 in
set_option maxRecDepth 100000 in
theorem kX1_renewMeter (l : Launch) (D : va_G) (cy : Nat → ClassId) (K : zK) (n : Nat) (ad : Nat → Nat) (hJ : zJ n ad) (b : Nat) (hO : zHouse K n ad b) (t : zM)   : zV l yX1_renewMeter wsX1_renewMeter 0 D cy K n ad t [.ref (ad (b))] (fun t1 => t1 = sX1_renewMeter b t) := by
  refine z_startV (cc := cX1_renewMeter) (mL := 1) (ret := none) (own := RX1) rfl (by decide +kernel) rfl hJ (Nat.le_of_ble_eq_true rfl) ?_
  intro p e s m args below meth c A hA Q hQ C
  refine z_aload_n C 0 0 0 dX1_renewMeter_0 rfl rfl ?_
  refine z_iconst C 1 (v := 0) dX1_renewMeter_1 (by decide +kernel) ?_
  refine z_put C 2 (ty := .int) (b) 2 dX1_renewMeter_2 hO.1 hO.2 mX1_renewMeter_in1 tyX1 tyX1_ok nmX1 rfl (by decide) mX1_renewMeter_f21 rfl (by decide +kernel) rfl rfl (Nat.le_of_ble_eq_true rfl) rfl ?_
  refine z_aload_n C 5 0 0 dX1_renewMeter_5 rfl rfl ?_
  refine z_iconst C 6 (v := 0) dX1_renewMeter_6 (by decide +kernel) ?_
  refine z_put C 7 (ty := .int) (b) 3 dX1_renewMeter_7 hO.1 hO.2 mX1_renewMeter_in1 tyX1 tyX1_ok nmX1 rfl (by decide) mX1_renewMeter_f24 rfl (by decide +kernel) rfl rfl (Nat.le_of_ble_eq_true rfl) rfl ?_
  refine z_aload_n C 10 0 0 dX1_renewMeter_10 rfl rfl ?_
  refine z_dup C 11 dX1_renewMeter_11 rfl ?_
  refine z_get C 12 (b) 13 dX1_renewMeter_12 hO.1 hO.2 mX1_renewMeter_in1 rfl (by decide) mX1_renewMeter_f52 rfl ?_
  refine z_nv (t (b) 13) ((zset_nk _ _ _ (by decide)).trans ((zset_nk _ _ _ (by decide)).trans rfl)) ?_
  refine z_iconst C 15 (v := 1) dX1_renewMeter_15 (by decide +kernel) ?_
  refine z_iadd C 16 dX1_renewMeter_16 ?_
  refine z_put C 17 (ty := .int) (b) 13 dX1_renewMeter_17 hO.1 hO.2 mX1_renewMeter_in1 tyX1 tyX1_ok nmX1 rfl (by decide) mX1_renewMeter_f52 rfl (by decide +kernel) rfl rfl (Nat.le_of_ble_eq_true rfl) rfl ?_
  exact z_vret C 20 hA hQ rfl dX1_renewMeter_20 rfl
theorem sX1_renewMeter_o (b : Nat) (t : zM)  {j : Nat} (h : j ≠ b) : sX1_renewMeter b t  j = t j := by
  unfold sX1_renewMeter
  repeat' split
  all_goals simp only [zset_id _ _ _ h]
def rX1_fact (b : Nat) (t : zM) (a1 : Int32) : Int32 := (if a1 = 0 then (t (b) 0) else (if a1 = 1 then (t (b) 1) else (if a1 = 2 then (t (b) 2) else (if a1 = 3 then (rX1_used (b) t) else (if a1 = 4 then (1000 + (t (b) 6)) else (if a1 = 5 then (t (b) 4) else (if a1 = 6 then (if (t (b) 5) = 0 then 0 else 1) else (if a1 = 7 then (if (t (b) 7) = (-1) then (-1000004) else (t (b) 7)) else (if a1 = 8 then (t (b) 8) else (if a1 = 9 then (t (b) 9) else (if a1 = 10 then (t (b) 10) else (if a1 = 11 then (t (b) 11) else (if a1 = 12 then (t (b) 12) else (if a1 = 13 then (t (b) 13) else (-1000001)))))))))))))))
theorem mX1_fact_f15 : Cond.fieldLink RX1 15 "WrongedMeters$House" "street" "I" ∈ wsX1_fact := by decide +kernel
set_option maxRecDepth 20000 in
theorem mX1_fact_in1 : ∀ w ∈ u_ws RX1 TX1 14, w ∈ wsX1_fact := by decide +kernel
theorem mX1_fact_f18 : Cond.fieldLink RX1 18 "WrongedMeters$House" "place" "I" ∈ wsX1_fact := by decide +kernel
theorem mX1_fact_f21 : Cond.fieldLink RX1 21 "WrongedMeters$House" "dial" "I" ∈ wsX1_fact := by decide +kernel
theorem mX1_fact_f34 : Cond.fieldLink RX1 34 "WrongedMeters$House" "balance" "I" ∈ wsX1_fact := by decide +kernel
theorem mX1_fact_f27 : Cond.fieldLink RX1 27 "WrongedMeters$House" "flow" "I" ∈ wsX1_fact := by decide +kernel
theorem mX1_fact_f30 : Cond.fieldLink RX1 30 "WrongedMeters$House" "isLocked" "Z" ∈ wsX1_fact := by decide +kernel
theorem mX1_fact_f9 : Cond.fieldLink RX1 9 "WrongedMeters$House" "latestDay" "I" ∈ wsX1_fact := by decide +kernel
theorem mX1_fact_c60 : Cond.constant RX1 60 (-1000004) ∈ wsX1_fact := by decide +kernel
theorem mX1_fact_f37 : Cond.fieldLink RX1 37 "WrongedMeters$House" "readings" "I" ∈ wsX1_fact := by decide +kernel
theorem mX1_fact_f40 : Cond.fieldLink RX1 40 "WrongedMeters$House" "units" "I" ∈ wsX1_fact := by decide +kernel
theorem mX1_fact_f43 : Cond.fieldLink RX1 43 "WrongedMeters$House" "timesHouseWronged" "I" ∈ wsX1_fact := by decide +kernel
theorem mX1_fact_f46 : Cond.fieldLink RX1 46 "WrongedMeters$House" "timesCompanyWronged" "I" ∈ wsX1_fact := by decide +kernel
theorem mX1_fact_f49 : Cond.fieldLink RX1 49 "WrongedMeters$House" "refunds" "I" ∈ wsX1_fact := by decide +kernel
theorem mX1_fact_f52 : Cond.fieldLink RX1 52 "WrongedMeters$House" "metersChanged" "I" ∈ wsX1_fact := by decide +kernel
theorem mX1_fact_c61 : Cond.constant RX1 61 (-1000001) ∈ wsX1_fact := by decide +kernel
theorem hyX1_fact : yX1_fact.cls = RX1 ∧ yX1_fact.cls ≠ "java/lang/invoke/MethodHandle" ∧ yX1_fact.cls ≠ "java/lang/invoke/VarHandle" ∧ (parseMethodDescriptor yX1_fact.desc).map (fun d => d.parameters.length) = some 1 := by decide +kernel
set_option maxHeartbeats 4000000 in
set_option maxRecDepth 100000 in
theorem kX1_fact (l : Launch) (D : va_G) (cy : Nat → ClassId) (K : zK) (n : Nat) (ad : Nat → Nat) (hJ : zJ n ad) (b : Nat) (hO : zHouse K n ad b) (t : zM) (a1 : Int32)  : zI l yX1_fact wsX1_fact 1 D cy K n ad t [.ref (ad (b)), .int a1] (fun r t1 => r = rX1_fact b t a1 ∧ t1 = t) := by
  refine z_startI (cc := cX1_fact) (mL := 2) (ret := (some .int)) (own := RX1) rfl (by decide +kernel) rfl hJ (Nat.le_of_ble_eq_true rfl) ?_
  intro p e s m args below meth c A hA Q hQ C
  refine z_iload_n C 0 1 1 dX1_fact_0 rfl rfl ?_
  by_cases c1_1 : a1 = 0
  · refine z_tableIn C 1 72 dX1_fact_1 (by rw [c1_1]; decide +kernel) (by rw [c1_1]; decide +kernel) (off := 71) (by rw [c1_1]; decide +kernel) (by decide) ?_
    refine z_aload_n C 72 0 0 dX1_fact_72 rfl rfl ?_
    refine z_get C 73 (b) 0 dX1_fact_73 hO.1 hO.2 mX1_fact_in1 rfl (by decide) mX1_fact_f15 rfl ?_
    exact z_iret C 76 hA hQ rfl dX1_fact_76 ⟨((if_pos c1_1).trans rfl).symm, rfl⟩
  · by_cases c1_2 : a1 = 1
    · refine z_tableIn C 1 77 dX1_fact_1 (by rw [c1_2]; decide +kernel) (by rw [c1_2]; decide +kernel) (off := 76) (by rw [c1_2]; decide +kernel) (by decide) ?_
      refine z_aload_n C 77 0 0 dX1_fact_77 rfl rfl ?_
      refine z_get C 78 (b) 1 dX1_fact_78 hO.1 hO.2 mX1_fact_in1 rfl (by decide) mX1_fact_f18 rfl ?_
      exact z_iret C 81 hA hQ rfl dX1_fact_81 ⟨((if_neg c1_1).trans ((if_pos c1_2).trans rfl)).symm, rfl⟩
    · by_cases c1_3 : a1 = 2
      · refine z_tableIn C 1 82 dX1_fact_1 (by rw [c1_3]; decide +kernel) (by rw [c1_3]; decide +kernel) (off := 81) (by rw [c1_3]; decide +kernel) (by decide) ?_
        refine z_aload_n C 82 0 0 dX1_fact_82 rfl rfl ?_
        refine z_get C 83 (b) 2 dX1_fact_83 hO.1 hO.2 mX1_fact_in1 rfl (by decide) mX1_fact_f21 rfl ?_
        exact z_iret C 86 hA hQ rfl dX1_fact_86 ⟨((if_neg c1_1).trans ((if_neg c1_2).trans ((if_pos c1_3).trans rfl))).symm, rfl⟩
      · by_cases c1_4 : a1 = 3
        · refine z_tableIn C 1 87 dX1_fact_1 (by rw [c1_4]; decide +kernel) (by rw [c1_4]; decide +kernel) (off := 86) (by rw [c1_4]; decide +kernel) (by decide) ?_
          refine z_aload_n C 87 0 0 dX1_fact_87 rfl rfl ?_
          refine z_virtI C 88 (As := []) (st := []) (id := b) (kX1_used l D cy K n ad hJ (b) hO t  ) dX1_fact_88 rfl gX1_fact_X1_used hyX1_used rfl (by decide) (by decide) hO.1 rfl hO.2 rfl rfl rfl (Nat.le_of_ble_eq_true rfl) (fun r88_5 t88_5 h88_5 => ?_)
          obtain ⟨rfl, rfl⟩ := h88_5
          exact z_iret C 91 hA hQ rfl dX1_fact_91 ⟨((if_neg c1_1).trans ((if_neg c1_2).trans ((if_neg c1_3).trans ((if_pos c1_4).trans rfl)))).symm, rfl⟩
        · by_cases c1_6 : a1 = 4
          · refine z_tableIn C 1 92 dX1_fact_1 (by rw [c1_6]; decide +kernel) (by rw [c1_6]; decide +kernel) (off := 91) (by rw [c1_6]; decide +kernel) (by decide) ?_
            refine z_sipush C 92 (v := 1000) dX1_fact_92 (by decide +kernel) ?_
            refine z_aload_n C 95 0 0 dX1_fact_95 rfl rfl ?_
            refine z_get C 96 (b) 6 dX1_fact_96 hO.1 hO.2 mX1_fact_in1 rfl (by decide) mX1_fact_f34 rfl ?_
            refine z_iadd C 99 dX1_fact_99 ?_
            exact z_iret C 100 hA hQ rfl dX1_fact_100 ⟨((if_neg c1_1).trans ((if_neg c1_2).trans ((if_neg c1_3).trans ((if_neg c1_4).trans ((if_pos c1_6).trans rfl))))).symm, rfl⟩
          · by_cases c1_7 : a1 = 5
            · refine z_tableIn C 1 101 dX1_fact_1 (by rw [c1_7]; decide +kernel) (by rw [c1_7]; decide +kernel) (off := 100) (by rw [c1_7]; decide +kernel) (by decide) ?_
              refine z_aload_n C 101 0 0 dX1_fact_101 rfl rfl ?_
              refine z_get C 102 (b) 4 dX1_fact_102 hO.1 hO.2 mX1_fact_in1 rfl (by decide) mX1_fact_f27 rfl ?_
              exact z_iret C 105 hA hQ rfl dX1_fact_105 ⟨((if_neg c1_1).trans ((if_neg c1_2).trans ((if_neg c1_3).trans ((if_neg c1_4).trans ((if_neg c1_6).trans ((if_pos c1_7).trans rfl)))))).symm, rfl⟩
            · by_cases c1_8 : a1 = 6
              · refine z_tableIn C 1 106 dX1_fact_1 (by rw [c1_8]; decide +kernel) (by rw [c1_8]; decide +kernel) (off := 105) (by rw [c1_8]; decide +kernel) (by decide) ?_
                refine z_aload_n C 106 0 0 dX1_fact_106 rfl rfl ?_
                refine z_get C 107 (b) 5 dX1_fact_107 hO.1 hO.2 mX1_fact_in1 rfl (by decide) mX1_fact_f30 rfl ?_
                refine z_if_eq C 110 117 dX1_fact_110 (by decide) (fun c110_9 => ?_) (fun c110_9 => ?_)
                · refine z_iconst C 117 (v := 0) dX1_fact_117 (by decide +kernel) ?_
                  exact z_iret C 118 hA hQ rfl dX1_fact_118 ⟨((if_neg c1_1).trans ((if_neg c1_2).trans ((if_neg c1_3).trans ((if_neg c1_4).trans ((if_neg c1_6).trans ((if_neg c1_7).trans ((if_pos c1_8).trans ((if_pos c110_9).trans rfl)))))))).symm, rfl⟩
                · refine z_iconst C 113 (v := 1) dX1_fact_113 (by decide +kernel) ?_
                  refine z_goto C 114 118 dX1_fact_114 (by decide) ?_
                  exact z_iret C 118 hA hQ rfl dX1_fact_118 ⟨((if_neg c1_1).trans ((if_neg c1_2).trans ((if_neg c1_3).trans ((if_neg c1_4).trans ((if_neg c1_6).trans ((if_neg c1_7).trans ((if_pos c1_8).trans ((if_neg c110_9).trans rfl)))))))).symm, rfl⟩
              · by_cases c1_10 : a1 = 7
                · refine z_tableIn C 1 119 dX1_fact_1 (by rw [c1_10]; decide +kernel) (by rw [c1_10]; decide +kernel) (off := 118) (by rw [c1_10]; decide +kernel) (by decide) ?_
                  refine z_aload_n C 119 0 0 dX1_fact_119 rfl rfl ?_
                  refine z_get C 120 (b) 7 dX1_fact_120 hO.1 hO.2 mX1_fact_in1 rfl (by decide) mX1_fact_f9 rfl ?_
                  refine z_iconst C 123 (v := (-1)) dX1_fact_123 (by decide +kernel) ?_
                  refine z_icmp_ne C 124 132 dX1_fact_124 (by decide) (fun c124_11 => ?_) (fun c124_11 => ?_)
                  · refine z_aload_n C 132 0 0 dX1_fact_132 rfl rfl ?_
                    refine z_get C 133 (b) 7 dX1_fact_133 hO.1 hO.2 mX1_fact_in1 rfl (by decide) mX1_fact_f9 rfl ?_
                    exact z_iret C 136 hA hQ rfl dX1_fact_136 ⟨((if_neg c1_1).trans ((if_neg c1_2).trans ((if_neg c1_3).trans ((if_neg c1_4).trans ((if_neg c1_6).trans ((if_neg c1_7).trans ((if_neg c1_8).trans ((if_pos c1_10).trans ((if_neg c124_11).trans rfl))))))))).symm, rfl⟩
                  · refine z_ldc C 127 (v := (-1000004)) dX1_fact_127 mX1_fact_c60 ?_
                    refine z_goto C 129 136 dX1_fact_129 (by decide) ?_
                    exact z_iret C 136 hA hQ rfl dX1_fact_136 ⟨((if_neg c1_1).trans ((if_neg c1_2).trans ((if_neg c1_3).trans ((if_neg c1_4).trans ((if_neg c1_6).trans ((if_neg c1_7).trans ((if_neg c1_8).trans ((if_pos c1_10).trans ((if_pos c124_11).trans rfl))))))))).symm, rfl⟩
                · by_cases c1_12 : a1 = 8
                  · refine z_tableIn C 1 137 dX1_fact_1 (by rw [c1_12]; decide +kernel) (by rw [c1_12]; decide +kernel) (off := 136) (by rw [c1_12]; decide +kernel) (by decide) ?_
                    refine z_aload_n C 137 0 0 dX1_fact_137 rfl rfl ?_
                    refine z_get C 138 (b) 8 dX1_fact_138 hO.1 hO.2 mX1_fact_in1 rfl (by decide) mX1_fact_f37 rfl ?_
                    exact z_iret C 141 hA hQ rfl dX1_fact_141 ⟨((if_neg c1_1).trans ((if_neg c1_2).trans ((if_neg c1_3).trans ((if_neg c1_4).trans ((if_neg c1_6).trans ((if_neg c1_7).trans ((if_neg c1_8).trans ((if_neg c1_10).trans ((if_pos c1_12).trans rfl))))))))).symm, rfl⟩
                  · by_cases c1_13 : a1 = 9
                    · refine z_tableIn C 1 142 dX1_fact_1 (by rw [c1_13]; decide +kernel) (by rw [c1_13]; decide +kernel) (off := 141) (by rw [c1_13]; decide +kernel) (by decide) ?_
                      refine z_aload_n C 142 0 0 dX1_fact_142 rfl rfl ?_
                      refine z_get C 143 (b) 9 dX1_fact_143 hO.1 hO.2 mX1_fact_in1 rfl (by decide) mX1_fact_f40 rfl ?_
                      exact z_iret C 146 hA hQ rfl dX1_fact_146 ⟨((if_neg c1_1).trans ((if_neg c1_2).trans ((if_neg c1_3).trans ((if_neg c1_4).trans ((if_neg c1_6).trans ((if_neg c1_7).trans ((if_neg c1_8).trans ((if_neg c1_10).trans ((if_neg c1_12).trans ((if_pos c1_13).trans rfl)))))))))).symm, rfl⟩
                    · by_cases c1_14 : a1 = 10
                      · refine z_tableIn C 1 147 dX1_fact_1 (by rw [c1_14]; decide +kernel) (by rw [c1_14]; decide +kernel) (off := 146) (by rw [c1_14]; decide +kernel) (by decide) ?_
                        refine z_aload_n C 147 0 0 dX1_fact_147 rfl rfl ?_
                        refine z_get C 148 (b) 10 dX1_fact_148 hO.1 hO.2 mX1_fact_in1 rfl (by decide) mX1_fact_f43 rfl ?_
                        exact z_iret C 151 hA hQ rfl dX1_fact_151 ⟨((if_neg c1_1).trans ((if_neg c1_2).trans ((if_neg c1_3).trans ((if_neg c1_4).trans ((if_neg c1_6).trans ((if_neg c1_7).trans ((if_neg c1_8).trans ((if_neg c1_10).trans ((if_neg c1_12).trans ((if_neg c1_13).trans ((if_pos c1_14).trans rfl))))))))))).symm, rfl⟩
                      · by_cases c1_15 : a1 = 11
                        · refine z_tableIn C 1 152 dX1_fact_1 (by rw [c1_15]; decide +kernel) (by rw [c1_15]; decide +kernel) (off := 151) (by rw [c1_15]; decide +kernel) (by decide) ?_
                          refine z_aload_n C 152 0 0 dX1_fact_152 rfl rfl ?_
                          refine z_get C 153 (b) 11 dX1_fact_153 hO.1 hO.2 mX1_fact_in1 rfl (by decide) mX1_fact_f46 rfl ?_
                          exact z_iret C 156 hA hQ rfl dX1_fact_156 ⟨((if_neg c1_1).trans ((if_neg c1_2).trans ((if_neg c1_3).trans ((if_neg c1_4).trans ((if_neg c1_6).trans ((if_neg c1_7).trans ((if_neg c1_8).trans ((if_neg c1_10).trans ((if_neg c1_12).trans ((if_neg c1_13).trans ((if_neg c1_14).trans ((if_pos c1_15).trans rfl)))))))))))).symm, rfl⟩
                        · by_cases c1_16 : a1 = 12
                          · refine z_tableIn C 1 157 dX1_fact_1 (by rw [c1_16]; decide +kernel) (by rw [c1_16]; decide +kernel) (off := 156) (by rw [c1_16]; decide +kernel) (by decide) ?_
                            refine z_aload_n C 157 0 0 dX1_fact_157 rfl rfl ?_
                            refine z_get C 158 (b) 12 dX1_fact_158 hO.1 hO.2 mX1_fact_in1 rfl (by decide) mX1_fact_f49 rfl ?_
                            exact z_iret C 161 hA hQ rfl dX1_fact_161 ⟨((if_neg c1_1).trans ((if_neg c1_2).trans ((if_neg c1_3).trans ((if_neg c1_4).trans ((if_neg c1_6).trans ((if_neg c1_7).trans ((if_neg c1_8).trans ((if_neg c1_10).trans ((if_neg c1_12).trans ((if_neg c1_13).trans ((if_neg c1_14).trans ((if_neg c1_15).trans ((if_pos c1_16).trans rfl))))))))))))).symm, rfl⟩
                          · by_cases c1_17 : a1 = 13
                            · refine z_tableIn C 1 162 dX1_fact_1 (by rw [c1_17]; decide +kernel) (by rw [c1_17]; decide +kernel) (off := 161) (by rw [c1_17]; decide +kernel) (by decide) ?_
                              refine z_aload_n C 162 0 0 dX1_fact_162 rfl rfl ?_
                              refine z_get C 163 (b) 13 dX1_fact_163 hO.1 hO.2 mX1_fact_in1 rfl (by decide) mX1_fact_f52 rfl ?_
                              exact z_iret C 166 hA hQ rfl dX1_fact_166 ⟨((if_neg c1_1).trans ((if_neg c1_2).trans ((if_neg c1_3).trans ((if_neg c1_4).trans ((if_neg c1_6).trans ((if_neg c1_7).trans ((if_neg c1_8).trans ((if_neg c1_10).trans ((if_neg c1_12).trans ((if_neg c1_13).trans ((if_neg c1_14).trans ((if_neg c1_15).trans ((if_neg c1_16).trans ((if_pos c1_17).trans rfl)))))))))))))).symm, rfl⟩
                            · have qc1_1 := lv_neT (a := 0) c1_1 rfl
                              have qc1_2 := lv_neT (a := 1) c1_2 rfl
                              have qc1_3 := lv_neT (a := 2) c1_3 rfl
                              have qc1_4 := lv_neT (a := 3) c1_4 rfl
                              have qc1_6 := lv_neT (a := 4) c1_6 rfl
                              have qc1_7 := lv_neT (a := 5) c1_7 rfl
                              have qc1_8 := lv_neT (a := 6) c1_8 rfl
                              have qc1_10 := lv_neT (a := 7) c1_10 rfl
                              have qc1_12 := lv_neT (a := 8) c1_12 rfl
                              have qc1_13 := lv_neT (a := 9) c1_13 rfl
                              have qc1_14 := lv_neT (a := 10) c1_14 rfl
                              have qc1_15 := lv_neT (a := 11) c1_15 rfl
                              have qc1_16 := lv_neT (a := 12) c1_16 rfl
                              have qc1_17 := lv_neT (a := 13) c1_17 rfl
                              refine z_tableOut C 1 167 dX1_fact_1 (by omega) (by decide) ?_
                              refine z_ldc C 167 (v := (-1000001)) dX1_fact_167 mX1_fact_c61 ?_
                              exact z_iret C 169 hA hQ rfl dX1_fact_169 ⟨((if_neg c1_1).trans ((if_neg c1_2).trans ((if_neg c1_3).trans ((if_neg c1_4).trans ((if_neg c1_6).trans ((if_neg c1_7).trans ((if_neg c1_8).trans ((if_neg c1_10).trans ((if_neg c1_12).trans ((if_neg c1_13).trans ((if_neg c1_14).trans ((if_neg c1_15).trans ((if_neg c1_16).trans ((if_neg c1_17).trans rfl)))))))))))))).symm, rfl⟩
end
