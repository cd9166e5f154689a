set_option maxRecDepth 20000 in
theorem gX5_readIfOpen_X5_houseNumbered : GoodIn wsX5_readIfOpen (wsV RX5 130 RX5 yX5_houseNumbered wsX5_houseNumbered) := goodIn_app (goodIn_of _ (by decide +kernel)) ggX5_readIfOpen_X5_houseNumbered
set_option maxRecDepth 20000 in
theorem ggX5_readIfOpen_X1_reasonOn : GoodIn wsX5_readIfOpen wsX1_reasonOn := goodIn_rB _ [15, 16, 17, 68, 69, 70, 71, 72, 73, 74, 75, 76, 77, 78, 79, 80, 81] (by decide +kernel) (by decide +kernel)
set_option maxRecDepth 20000 in
theorem gX5_readIfOpen_X1_reasonOn : GoodIn wsX5_readIfOpen (wsV RX5 151 RX1 yX1_reasonOn wsX1_reasonOn) := goodIn_app (goodIn_of _ (by decide +kernel)) ggX5_readIfOpen_X1_reasonOn
set_option maxRecDepth 20000 in
theorem ggX5_readIfOpen_X5_readMeter : GoodIn wsX5_readIfOpen wsX5_readMeter := goodIn_rB _ [21, 2, 22, 23, 24, 25, 26, 27, 28, 29, 30, 14, 31, 32, 33, 34, 35, 36, 37, 38, 39, 40, 41, 42, 17, 43, 44, 45, 46, 47, 48, 49, 50, 51, 52, 53, 54, 68, 69, 70, 71, 72, 73, 74, 75, 76, 77, 78, 79, 80, 81, 55, 56, 57, 58, 59, 60, 61, 62, 63, 64, 65, 66, 67, 82, 83, 84] (by decide +kernel) (by decide +kernel)
set_option maxRecDepth 20000 in
theorem gX5_readIfOpen_X5_readMeter : GoodIn wsX5_readIfOpen (wsV RX5 154 RX5 yX5_readMeter wsX5_readMeter) := goodIn_app (goodIn_of _ (by decide +kernel)) ggX5_readIfOpen_X5_readMeter
theorem dX5_readIfOpen_0 : decode cX5_readIfOpen 0 = .ok (.aload_n 0, 1) := by decide +kernel
theorem dX5_readIfOpen_1 : decode cX5_readIfOpen 1 = .ok (.iload_n 1, 1) := by decide +kernel
theorem dX5_readIfOpen_2 : decode cX5_readIfOpen 2 = .ok (.invokevirtual 130, 3) := by decide +kernel
theorem dX5_readIfOpen_5 : decode cX5_readIfOpen 5 = .ok (.astore_n 2, 1) := by decide +kernel
theorem dX5_readIfOpen_6 : decode cX5_readIfOpen 6 = .ok (.aload_n 2, 1) := by decide +kernel
theorem dX5_readIfOpen_7 : decode cX5_readIfOpen 7 = .ok (.ifnonnull 6, 3) := by decide +kernel
theorem dX5_readIfOpen_10 : decode cX5_readIfOpen 10 = .ok (.ldc 100, 2) := by decide +kernel
theorem dX5_readIfOpen_12 : decode cX5_readIfOpen 12 = .ok (.ireturn, 1) := by decide +kernel
theorem dX5_readIfOpen_13 : decode cX5_readIfOpen 13 = .ok (.aload_n 2, 1) := by decide +kernel
theorem dX5_readIfOpen_14 : decode cX5_readIfOpen 14 = .ok (.aload_n 0, 1) := by decide +kernel
theorem dX5_readIfOpen_15 : decode cX5_readIfOpen 15 = .ok (.getfield 59, 3) := by decide +kernel
theorem dX5_readIfOpen_18 : decode cX5_readIfOpen 18 = .ok (.invokevirtual 151, 3) := by decide +kernel
theorem dX5_readIfOpen_21 : decode cX5_readIfOpen 21 = .ok (.ifCond .ne 12, 3) := by decide +kernel
theorem dX5_readIfOpen_24 : decode cX5_readIfOpen 24 = .ok (.aload_n 0, 1) := by decide +kernel
theorem dX5_readIfOpen_25 : decode cX5_readIfOpen 25 = .ok (.aload_n 2, 1) := by decide +kernel
theorem dX5_readIfOpen_26 : decode cX5_readIfOpen 26 = .ok (.iload_n 1, 1) := by decide +kernel
theorem dX5_readIfOpen_27 : decode cX5_readIfOpen 27 = .ok (.invokevirtual 154, 3) := by decide +kernel
theorem dX5_readIfOpen_30 : decode cX5_readIfOpen 30 = .ok (.goto 5, 3) := by decide +kernel
theorem dX5_readIfOpen_33 : decode cX5_readIfOpen 33 = .ok (.ldc 119, 2) := by decide +kernel
theorem dX5_readIfOpen_35 : decode cX5_readIfOpen 35 = .ok (.ireturn, 1) := by decide +kernel
set_option maxRecDepth 20000 in
theorem ggX5_changeMeter_X5_houseNumbered : GoodIn wsX5_changeMeter wsX5_houseNumbered := goodIn_rB _ [6, 7, 8, 54, 55, 56, 57, 58, 59, 60, 61, 62, 63, 64, 65, 66] (by decide +kernel) (by decide +kernel)
set_option maxRecDepth 20000 in
theorem gX5_changeMeter_X5_houseNumbered : GoodIn wsX5_changeMeter (wsV RX5 130 RX5 yX5_houseNumbered wsX5_houseNumbered) := goodIn_app (goodIn_of _ (by decide +kernel)) ggX5_changeMeter_X5_houseNumbered
set_option maxRecDepth 20000 in
theorem ggX5_changeMeter_X5_readMeter : GoodIn wsX5_changeMeter wsX5_readMeter := goodIn_rB _ [12, 13, 14, 15, 16, 17, 18, 19, 20, 21, 22, 23, 24, 25, 26, 27, 28, 29, 30, 31, 32, 33, 34, 35, 36, 37, 38, 39, 40, 41, 42, 43, 44, 45, 46, 47, 48, 67, 68, 69, 70, 71, 72, 73, 74, 75, 76, 77, 78, 79, 80, 54, 55, 56, 57, 58, 59, 60, 61, 62, 63, 64, 65, 66, 81, 82, 83] (by decide +kernel) (by decide +kernel)
set_option maxRecDepth 20000 in
theorem gX5_changeMeter_X5_readMeter : GoodIn wsX5_changeMeter (wsV RX5 154 RX5 yX5_readMeter wsX5_readMeter) := goodIn_app (goodIn_of _ (by decide +kernel)) ggX5_changeMeter_X5_readMeter
set_option maxRecDepth 20000 in
theorem ggX5_changeMeter_X1_renewMeter : GoodIn wsX5_changeMeter wsX1_renewMeter := goodIn_rB _ [52, 25, 26, 53, 67, 68, 69, 70, 71, 72, 73, 74, 75, 76, 77, 78, 79, 80] (by decide +kernel) (by decide +kernel)
set_option maxRecDepth 20000 in
theorem gX5_changeMeter_X1_renewMeter : GoodIn wsX5_changeMeter (wsV RX5 158 RX1 yX1_renewMeter wsX1_renewMeter) := goodIn_app (goodIn_of _ (by decide +kernel)) ggX5_changeMeter_X1_renewMeter
theorem dX5_changeMeter_0 : decode cX5_changeMeter 0 = .ok (.aload_n 0, 1) := by decide +kernel
theorem dX5_changeMeter_1 : decode cX5_changeMeter 1 = .ok (.iload_n 1, 1) := by decide +kernel
theorem dX5_changeMeter_2 : decode cX5_changeMeter 2 = .ok (.invokevirtual 130, 3) := by decide +kernel
theorem dX5_changeMeter_5 : decode cX5_changeMeter 5 = .ok (.astore_n 2, 1) := by decide +kernel
theorem dX5_changeMeter_6 : decode cX5_changeMeter 6 = .ok (.aload_n 2, 1) := by decide +kernel
theorem dX5_changeMeter_7 : decode cX5_changeMeter 7 = .ok (.ifnonnull 6, 3) := by decide +kernel
theorem dX5_changeMeter_10 : decode cX5_changeMeter 10 = .ok (.ldc 100, 2) := by decide +kernel
theorem dX5_changeMeter_12 : decode cX5_changeMeter 12 = .ok (.ireturn, 1) := by decide +kernel
theorem dX5_changeMeter_13 : decode cX5_changeMeter 13 = .ok (.aload_n 0, 1) := by decide +kernel
theorem dX5_changeMeter_14 : decode cX5_changeMeter 14 = .ok (.aload_n 2, 1) := by decide +kernel
theorem dX5_changeMeter_15 : decode cX5_changeMeter 15 = .ok (.iload_n 1, 1) := by decide +kernel
theorem dX5_changeMeter_16 : decode cX5_changeMeter 16 = .ok (.invokevirtual 154, 3) := by decide +kernel
theorem dX5_changeMeter_19 : decode cX5_changeMeter 19 = .ok (.istore_n 3, 1) := by decide +kernel
theorem dX5_changeMeter_20 : decode cX5_changeMeter 20 = .ok (.aload_n 2, 1) := by decide +kernel
theorem dX5_changeMeter_21 : decode cX5_changeMeter 21 = .ok (.invokevirtual 158, 3) := by decide +kernel
theorem dX5_changeMeter_24 : decode cX5_changeMeter 24 = .ok (.iload_n 3, 1) := by decide +kernel
theorem dX5_changeMeter_25 : decode cX5_changeMeter 25 = .ok (.ireturn, 1) := by decide +kernel
set_option maxRecDepth 20000 in
theorem ggX5_readMeter_X1_used : GoodIn wsX5_readMeter wsX1_used := goodIn_rB _ [12, 13, 14, 15, 37, 38, 39, 40, 41, 42, 43, 44, 45, 46, 47, 48, 49, 50] (by decide +kernel) (by decide +kernel)
set_option maxRecDepth 20000 in
theorem gX5_readMeter_X1_used : GoodIn wsX5_readMeter (wsV RX5 161 RX1 yX1_used wsX1_used) := goodIn_app (goodIn_of _ (by decide +kernel)) ggX5_readMeter_X1_used
set_option maxRecDepth 20000 in
theorem ggX5_readMeter_X6_unitsFor : GoodIn wsX5_readMeter wsX6_unitsFor := goodIn_rB _ [18] (by decide +kernel) (by decide +kernel)
set_option maxRecDepth 20000 in
theorem gX5_readMeter_X6_unitsFor_n168 : GoodIn wsX5_readMeter (wsX6_unitsFor) := ggX5_readMeter_X6_unitsFor
set_option maxRecDepth 20000 in
theorem ggX5_readMeter_X1_settle : GoodIn wsX5_readMeter wsX1_settle := goodIn_rB _ [22, 23, 13, 14, 24, 25, 26, 27, 28, 37, 38, 39, 40, 41, 42, 43, 44, 45, 46, 47, 48, 49, 50] (by decide +kernel) (by decide +kernel)
set_option maxRecDepth 20000 in
theorem gX5_readMeter_X1_settle : GoodIn wsX5_readMeter (wsV RX5 171 RX1 yX1_settle wsX1_settle) := goodIn_app (goodIn_of _ (by decide +kernel)) ggX5_readMeter_X1_settle
set_option maxRecDepth 20000 in
theorem ggX5_readMeter_X2_add : GoodIn wsX5_readMeter wsX2_add := goodIn_rB _ [33, 34, 35, 36, 64, 65, 66] (by decide +kernel) (by decide +kernel)
set_option maxRecDepth 20000 in
theorem gX5_readMeter_X2_add : GoodIn wsX5_readMeter (wsV RX5 175 RX2 yX2_add wsX2_add) := goodIn_app (goodIn_of _ (by decide +kernel)) ggX5_readMeter_X2_add
theorem dX5_readMeter_0 : decode cX5_readMeter 0 = .ok (.aload_n 1, 1) := by decide +kernel
theorem dX5_readMeter_1 : decode cX5_readMeter 1 = .ok (.invokevirtual 161, 3) := by decide +kernel
theorem dX5_readMeter_4 : decode cX5_readMeter 4 = .ok (.istore_n 3, 1) := by decide +kernel
theorem dX5_readMeter_5 : decode cX5_readMeter 5 = .ok (.iload_n 3, 1) := by decide +kernel
theorem dX5_readMeter_6 : decode cX5_readMeter 6 = .ok (.aload_n 1, 1) := by decide +kernel
theorem dX5_readMeter_7 : decode cX5_readMeter 7 = .ok (.getfield 165, 3) := by decide +kernel
theorem dX5_readMeter_10 : decode cX5_readMeter 10 = .ok (.invokestatic 168, 3) := by decide +kernel
theorem dX5_readMeter_13 : decode cX5_readMeter 13 = .ok (.istore 4, 2) := by decide +kernel
theorem dX5_readMeter_15 : decode cX5_readMeter 15 = .ok (.aload_n 1, 1) := by decide +kernel
theorem dX5_readMeter_16 : decode cX5_readMeter 16 = .ok (.aload_n 0, 1) := by decide +kernel
theorem dX5_readMeter_17 : decode cX5_readMeter 17 = .ok (.getfield 59, 3) := by decide +kernel
theorem dX5_readMeter_20 : decode cX5_readMeter 20 = .ok (.iload_n 3, 1) := by decide +kernel
theorem dX5_readMeter_21 : decode cX5_readMeter 21 = .ok (.iload 4, 2) := by decide +kernel
theorem dX5_readMeter_23 : decode cX5_readMeter 23 = .ok (.invokevirtual 171, 3) := by decide +kernel
theorem dX5_readMeter_26 : decode cX5_readMeter 26 = .ok (.aload_n 0, 1) := by decide +kernel
theorem dX5_readMeter_27 : decode cX5_readMeter 27 = .ok (.getfield 26, 3) := by decide +kernel
theorem dX5_readMeter_30 : decode cX5_readMeter 30 = .ok (.aload_n 0, 1) := by decide +kernel
theorem dX5_readMeter_31 : decode cX5_readMeter 31 = .ok (.getfield 59, 3) := by decide +kernel
theorem dX5_readMeter_34 : decode cX5_readMeter 34 = .ok (.iload_n 2, 1) := by decide +kernel
theorem dX5_readMeter_35 : decode cX5_readMeter 35 = .ok (.iload_n 3, 1) := by decide +kernel
theorem dX5_readMeter_36 : decode cX5_readMeter 36 = .ok (.iload 4, 2) := by decide +kernel
theorem dX5_readMeter_38 : decode cX5_readMeter 38 = .ok (.aload_n 1, 1) := by decide +kernel
theorem dX5_readMeter_39 : decode cX5_readMeter 39 = .ok (.getfield 165, 3) := by decide +kernel
theorem dX5_readMeter_42 : decode cX5_readMeter 42 = .ok (.invokevirtual 175, 3) := by decide +kernel
theorem dX5_readMeter_45 : decode cX5_readMeter 45 = .ok (.aload_n 0, 1) := by decide +kernel
theorem dX5_readMeter_46 : decode cX5_readMeter 46 = .ok (.dup, 1) := by decide +kernel
theorem dX5_readMeter_47 : decode cX5_readMeter 47 = .ok (.getfield 62, 3) := by decide +kernel
theorem dX5_readMeter_50 : decode cX5_readMeter 50 = .ok (.iconst 1, 1) := by decide +kernel
theorem dX5_readMeter_51 : decode cX5_readMeter 51 = .ok (.iadd, 1) := by decide +kernel
theorem dX5_readMeter_52 : decode cX5_readMeter 52 = .ok (.putfield 62, 3) := by decide +kernel
theorem dX5_readMeter_55 : decode cX5_readMeter 55 = .ok (.aload_n 0, 1) := by decide +kernel
theorem dX5_readMeter_56 : decode cX5_readMeter 56 = .ok (.dup, 1) := by decide +kernel
theorem dX5_readMeter_57 : decode cX5_readMeter 57 = .ok (.getfield 65, 3) := by decide +kernel
theorem dX5_readMeter_60 : decode cX5_readMeter 60 = .ok (.iload 4, 2) := by decide +kernel
theorem dX5_readMeter_62 : decode cX5_readMeter 62 = .ok (.iadd, 1) := by decide +kernel
theorem dX5_readMeter_63 : decode cX5_readMeter 63 = .ok (.putfield 65, 3) := by decide +kernel
theorem dX5_readMeter_66 : decode cX5_readMeter 66 = .ok (.aload_n 0, 1) := by decide +kernel
theorem dX5_readMeter_67 : decode cX5_readMeter 67 = .ok (.dup, 1) := by decide +kernel
theorem dX5_readMeter_68 : decode cX5_readMeter 68 = .ok (.getfield 68, 3) := by decide +kernel
theorem dX5_readMeter_71 : decode cX5_readMeter 71 = .ok (.iload 4, 2) := by decide +kernel
theorem dX5_readMeter_73 : decode cX5_readMeter 73 = .ok (.aload_n 0, 1) := by decide +kernel
theorem dX5_readMeter_74 : decode cX5_readMeter 74 = .ok (.getfield 30, 3) := by decide +kernel
theorem dX5_readMeter_77 : decode cX5_readMeter 77 = .ok (.iconst 1, 1) := by decide +kernel
theorem dX5_readMeter_78 : decode cX5_readMeter 78 = .ok (.iaload, 1) := by decide +kernel
theorem dX5_readMeter_79 : decode cX5_readMeter 79 = .ok (.imul, 1) := by decide +kernel
theorem dX5_readMeter_80 : decode cX5_readMeter 80 = .ok (.iadd, 1) := by decide +kernel
theorem dX5_readMeter_81 : decode cX5_readMeter 81 = .ok (.putfield 68, 3) := by decide +kernel
theorem dX5_readMeter_84 : decode cX5_readMeter 84 = .ok (.aload_n 0, 1) := by decide +kernel
theorem dX5_readMeter_85 : decode cX5_readMeter 85 = .ok (.dup, 1) := by decide +kernel
theorem dX5_readMeter_86 : decode cX5_readMeter 86 = .ok (.getfield 71, 3) := by decide +kernel
theorem dX5_readMeter_89 : decode cX5_readMeter 89 = .ok (.iload_n 3, 1) := by decide +kernel
theorem dX5_readMeter_90 : decode cX5_readMeter 90 = .ok (.iadd, 1) := by decide +kernel
theorem dX5_readMeter_91 : decode cX5_readMeter 91 = .ok (.putfield 71, 3) := by decide +kernel
theorem dX5_readMeter_94 : decode cX5_readMeter 94 = .ok (.iload 4, 2) := by decide +kernel
theorem dX5_readMeter_96 : decode cX5_readMeter 96 = .ok (.ireturn, 1) := by decide +kernel
set_option maxRecDepth 20000 in
theorem ggX5_passDays_X1_goOn : GoodIn wsX5_passDays wsX1_goOn := goodIn_rB _ [9, 10, 11, 12, 98, 99, 100, 101, 102, 103, 104, 105, 106, 107, 108, 109, 110, 111] (by decide +kernel) (by decide +kernel)
set_option maxRecDepth 20000 in
theorem gX5_passDays_X1_goOn : GoodIn wsX5_passDays (wsV RX5 179 RX1 yX1_goOn wsX1_goOn) := goodIn_app (goodIn_of _ (by decide +kernel)) ggX5_passDays_X1_goOn
set_option maxRecDepth 20000 in
theorem ggX5_passDays_X5_streetNumbered : GoodIn wsX5_passDays wsX5_streetNumbered := goodIn_rB _ [17, 18, 85, 86, 87, 88, 89, 90, 91, 92, 93, 94, 95, 96, 97] (by decide +kernel) (by decide +kernel)
set_option maxRecDepth 20000 in
theorem gX5_passDays_X5_streetNumbered : GoodIn wsX5_passDays (wsV RX5 105 RX5 yX5_streetNumbered wsX5_streetNumbered) := goodIn_app (goodIn_of _ (by decide +kernel)) ggX5_passDays_X5_streetNumbered
set_option maxRecDepth 20000 in
theorem ggX5_passDays_X5_walk : GoodIn wsX5_passDays wsX5_walk := goodIn_rB _ [22, 4, 3, 23, 24, 25, 26, 27, 28, 29, 30, 31, 32, 33, 34, 35, 36, 16, 37, 38, 2, 39, 40, 41, 8, 42, 43, 44, 45, 46, 47, 48, 49, 1, 50, 51, 52, 53, 54, 55, 56, 10, 57, 12, 58, 59, 60, 61, 62, 63, 64, 65, 66, 67, 68, 69, 70, 71, 72, 73, 74, 75, 76, 77, 85, 86, 87, 88, 89, 90, 91, 92, 93, 94, 95, 96, 97, 112, 113, 98, 99, 100, 101, 102, 103, 104, 105, 106, 107, 108, 109, 110, 111, 114, 115, 116] (by decide +kernel) (by decide +kernel)
set_option maxRecDepth 20000 in
theorem gX5_passDays_X5_walk : GoodIn wsX5_passDays (wsV RX5 182 RX5 yX5_walk wsX5_walk) := goodIn_app (goodIn_of _ (by decide +kernel)) ggX5_passDays_X5_walk
set_option maxRecDepth 20000 in
theorem ggX5_passDays_X5_endYear : GoodIn wsX5_passDays wsX5_endYear := goodIn_rB _ [81, 82, 2, 4, 83, 84, 85, 86, 87, 88, 89, 90, 91, 92, 93, 94, 95, 96, 97, 98, 99, 100, 101, 102, 103, 104, 105, 106, 107, 108, 109, 110, 111] (by decide +kernel) (by decide +kernel)
set_option maxRecDepth 20000 in
theorem gX5_passDays_X5_endYear : GoodIn wsX5_passDays (wsV RX5 185 RX5 yX5_endYear wsX5_endYear) := goodIn_app (goodIn_of _ (by decide +kernel)) ggX5_passDays_X5_endYear
theorem dX5_passDays_0 : decode cX5_passDays 0 = .ok (.aload_n 0, 1) := by decide +kernel
theorem dX5_passDays_1 : decode cX5_passDays 1 = .ok (.getfield 62, 3) := by decide +kernel
theorem dX5_passDays_4 : decode cX5_passDays 4 = .ok (.istore_n 2, 1) := by decide +kernel
theorem dX5_passDays_5 : decode cX5_passDays 5 = .ok (.iconst 0, 1) := by decide +kernel
theorem dX5_passDays_6 : decode cX5_passDays 6 = .ok (.istore_n 3, 1) := by decide +kernel
theorem dX5_passDays_7 : decode cX5_passDays 7 = .ok (.iload_n 3, 1) := by decide +kernel
theorem dX5_passDays_8 : decode cX5_passDays 8 = .ok (.iload_n 1, 1) := by decide +kernel
theorem dX5_passDays_9 : decode cX5_passDays 9 = .ok (.if_icmp .ge 108, 3) := by decide +kernel
theorem dX5_passDays_12 : decode cX5_passDays 12 = .ok (.aload_n 0, 1) := by decide +kernel
theorem dX5_passDays_13 : decode cX5_passDays 13 = .ok (.getfield 11, 3) := by decide +kernel
theorem dX5_passDays_16 : decode cX5_passDays 16 = .ok (.astore 4, 2) := by decide +kernel
theorem dX5_passDays_18 : decode cX5_passDays 18 = .ok (.aload 4, 2) := by decide +kernel
theorem dX5_passDays_20 : decode cX5_passDays 20 = .ok (.arraylength, 1) := by decide +kernel
theorem dX5_passDays_21 : decode cX5_passDays 21 = .ok (.istore 5, 2) := by decide +kernel
theorem dX5_passDays_23 : decode cX5_passDays 23 = .ok (.iconst 0, 1) := by decide +kernel
theorem dX5_passDays_24 : decode cX5_passDays 24 = .ok (.istore 6, 2) := by decide +kernel
theorem dX5_passDays_26 : decode cX5_passDays 26 = .ok (.iload 6, 2) := by decide +kernel
theorem dX5_passDays_28 : decode cX5_passDays 28 = .ok (.iload 5, 2) := by decide +kernel
theorem dX5_passDays_30 : decode cX5_passDays 30 = .ok (.if_icmp .ge 21, 3) := by decide +kernel
theorem dX5_passDays_33 : decode cX5_passDays 33 = .ok (.aload 4, 2) := by decide +kernel
theorem dX5_passDays_35 : decode cX5_passDays 35 = .ok (.iload 6, 2) := by decide +kernel
theorem dX5_passDays_37 : decode cX5_passDays 37 = .ok (.aaload, 1) := by decide +kernel
theorem dX5_passDays_38 : decode cX5_passDays 38 = .ok (.astore 7, 2) := by decide +kernel
theorem dX5_passDays_40 : decode cX5_passDays 40 = .ok (.aload 7, 2) := by decide +kernel
theorem dX5_passDays_42 : decode cX5_passDays 42 = .ok (.invokevirtual 179, 3) := by decide +kernel
theorem dX5_passDays_45 : decode cX5_passDays 45 = .ok (.iinc 6 1, 3) := by decide +kernel
theorem dX5_passDays_48 : decode cX5_passDays 48 = .ok (.goto (-22), 3) := by decide +kernel
theorem dX5_passDays_51 : decode cX5_passDays 51 = .ok (.aload_n 0, 1) := by decide +kernel
theorem dX5_passDays_52 : decode cX5_passDays 52 = .ok (.dup, 1) := by decide +kernel
theorem dX5_passDays_53 : decode cX5_passDays 53 = .ok (.getfield 59, 3) := by decide +kernel
theorem dX5_passDays_56 : decode cX5_passDays 56 = .ok (.iconst 1, 1) := by decide +kernel
theorem dX5_passDays_57 : decode cX5_passDays 57 = .ok (.iadd, 1) := by decide +kernel
theorem dX5_passDays_58 : decode cX5_passDays 58 = .ok (.putfield 59, 3) := by decide +kernel
theorem dX5_passDays_61 : decode cX5_passDays 61 = .ok (.aload_n 0, 1) := by decide +kernel
theorem dX5_passDays_62 : decode cX5_passDays 62 = .ok (.aload_n 0, 1) := by decide +kernel
theorem dX5_passDays_63 : decode cX5_passDays 63 = .ok (.getfield 59, 3) := by decide +kernel
theorem dX5_passDays_66 : decode cX5_passDays 66 = .ok (.iconst 4, 1) := by decide +kernel
theorem dX5_passDays_67 : decode cX5_passDays 67 = .ok (.irem, 1) := by decide +kernel
theorem dX5_passDays_68 : decode cX5_passDays 68 = .ok (.invokevirtual 105, 3) := by decide +kernel
theorem dX5_passDays_71 : decode cX5_passDays 71 = .ok (.astore 4, 2) := by decide +kernel
theorem dX5_passDays_73 : decode cX5_passDays 73 = .ok (.aload 4, 2) := by decide +kernel
theorem dX5_passDays_75 : decode cX5_passDays 75 = .ok (.ifnull 9, 3) := by decide +kernel
theorem dX5_passDays_78 : decode cX5_passDays 78 = .ok (.aload_n 0, 1) := by decide +kernel
theorem dX5_passDays_79 : decode cX5_passDays 79 = .ok (.aload 4, 2) := by decide +kernel
theorem dX5_passDays_81 : decode cX5_passDays 81 = .ok (.invokevirtual 182, 3) := by decide +kernel
theorem dX5_passDays_84 : decode cX5_passDays 84 = .ok (.aload_n 0, 1) := by decide +kernel
theorem dX5_passDays_85 : decode cX5_passDays 85 = .ok (.getfield 30, 3) := by decide +kernel
theorem dX5_passDays_88 : decode cX5_passDays 88 = .ok (.iconst 3, 1) := by decide +kernel
theorem dX5_passDays_89 : decode cX5_passDays 89 = .ok (.iaload, 1) := by decide +kernel
theorem dX5_passDays_90 : decode cX5_passDays 90 = .ok (.istore 5, 2) := by decide +kernel
theorem dX5_passDays_92 : decode cX5_passDays 92 = .ok (.iload 5, 2) := by decide +kernel
theorem dX5_passDays_94 : decode cX5_passDays 94 = .ok (.ifCond .le 17, 3) := by decide +kernel
theorem dX5_passDays_97 : decode cX5_passDays 97 = .ok (.aload_n 0, 1) := by decide +kernel
theorem dX5_passDays_98 : decode cX5_passDays 98 = .ok (.getfield 59, 3) := by decide +kernel
theorem dX5_passDays_101 : decode cX5_passDays 101 = .ok (.iload 5, 2) := by decide +kernel
theorem dX5_passDays_103 : decode cX5_passDays 103 = .ok (.irem, 1) := by decide +kernel
theorem dX5_passDays_104 : decode cX5_passDays 104 = .ok (.ifCond .ne 7, 3) := by decide +kernel
theorem dX5_passDays_107 : decode cX5_passDays 107 = .ok (.aload_n 0, 1) := by decide +kernel
theorem dX5_passDays_108 : decode cX5_passDays 108 = .ok (.invokevirtual 185, 3) := by decide +kernel
theorem dX5_passDays_111 : decode cX5_passDays 111 = .ok (.iinc 3 1, 3) := by decide +kernel
theorem dX5_passDays_114 : decode cX5_passDays 114 = .ok (.goto (-107), 3) := by decide +kernel
theorem dX5_passDays_117 : decode cX5_passDays 117 = .ok (.aload_n 0, 1) := by decide +kernel
theorem dX5_passDays_118 : decode cX5_passDays 118 = .ok (.getfield 62, 3) := by decide +kernel
theorem dX5_passDays_121 : decode cX5_passDays 121 = .ok (.iload_n 2, 1) := by decide +kernel
theorem dX5_passDays_122 : decode cX5_passDays 122 = .ok (.isub, 1) := by decide +kernel
theorem dX5_passDays_123 : decode cX5_passDays 123 = .ok (.ireturn, 1) := by decide +kernel
set_option maxRecDepth 20000 in
theorem ggX5_walk_X4_stepAhead : GoodIn wsX5_walk wsX4_stepAhead := goodIn_rB _ [7, 8, 77, 78] (by decide +kernel) (by decide +kernel)
set_option maxRecDepth 20000 in
theorem gX5_walk_X4_stepAhead : GoodIn wsX5_walk (wsV RX5 188 RX4 yX4_stepAhead wsX4_stepAhead) := goodIn_app (goodIn_of _ (by decide +kernel)) ggX5_walk_X4_stepAhead
set_option maxRecDepth 20000 in
theorem ggX5_walk_X4_houseOn : GoodIn wsX5_walk wsX4_houseOn := goodIn_rB _ [12, 13, 77, 78] (by decide +kernel) (by decide +kernel)
set_option maxRecDepth 20000 in
theorem gX5_walk_X4_houseOn : GoodIn wsX5_walk (wsV RX5 116 RX4 yX4_houseOn wsX4_houseOn) := goodIn_app (goodIn_of _ (by decide +kernel)) ggX5_walk_X4_houseOn
set_option maxRecDepth 20000 in
theorem ggX5_walk_X5_houseNumbered : GoodIn wsX5_walk wsX5_houseNumbered := goodIn_rB _ [18, 19, 20, 64, 65, 66, 67, 68, 69, 70, 71, 72, 73, 74, 75, 76] (by decide +kernel) (by decide +kernel)
set_option maxRecDepth 20000 in
theorem gX5_walk_X5_houseNumbered : GoodIn wsX5_walk (wsV RX5 130 RX5 yX5_houseNumbered wsX5_houseNumbered) := goodIn_app (goodIn_of _ (by decide +kernel)) ggX5_walk_X5_houseNumbered
set_option maxRecDepth 20000 in
theorem ggX5_walk_X1_reasonOn : GoodIn wsX5_walk wsX1_reasonOn := goodIn_rB _ [25, 26, 27, 79, 80, 81, 82, 83, 84, 85, 86, 87, 88, 89, 90, 91, 92] (by decide +kernel) (by decide +kernel)
set_option maxRecDepth 20000 in
theorem gX5_walk_X1_reasonOn : GoodIn wsX5_walk (wsV RX5 151 RX1 yX1_reasonOn wsX1_reasonOn) := goodIn_app (goodIn_of _ (by decide +kernel)) ggX5_walk_X1_reasonOn
set_option maxRecDepth 20000 in
theorem ggX5_walk_X5_readMeter : GoodIn wsX5_walk wsX5_readMeter := goodIn_rB _ [31, 2, 32, 33, 34, 35, 1, 36, 37, 38, 39, 24, 40, 41, 42, 43, 44, 45, 46, 47, 48, 49, 50, 51, 27, 52, 53, 54, 55, 56, 57, 58, 59, 60, 61, 62, 63, 79, 80, 81, 82, 83, 84, 85, 86, 87, 88, 89, 90, 91, 92, 64, 65, 66, 67, 68, 69, 70, 71, 72, 73, 74, 75, 76, 93, 94, 95] (by decide +kernel) (by decide +kernel)
set_option maxRecDepth 20000 in
theorem gX5_walk_X5_readMeter : GoodIn wsX5_walk (wsV RX5 154 RX5 yX5_readMeter wsX5_readMeter) := goodIn_app (goodIn_of _ (by decide +kernel)) ggX5_walk_X5_readMeter
theorem dX5_walk_0 : decode cX5_walk 0 = .ok (.aload_n 1, 1) := by decide +kernel
theorem dX5_walk_1 : decode cX5_walk 1 = .ok (.iconst 0, 1) := by decide +kernel
theorem dX5_walk_2 : decode cX5_walk 2 = .ok (.invokevirtual 188, 3) := by decide +kernel
theorem dX5_walk_5 : decode cX5_walk 5 = .ok (.istore_n 2, 1) := by decide +kernel
theorem dX5_walk_6 : decode cX5_walk 6 = .ok (.aload_n 0, 1) := by decide +kernel
theorem dX5_walk_7 : decode cX5_walk 7 = .ok (.getfield 30, 3) := by decide +kernel
theorem dX5_walk_10 : decode cX5_walk 10 = .ok (.iconst 0, 1) := by decide +kernel
theorem dX5_walk_11 : decode cX5_walk 11 = .ok (.iaload, 1) := by decide +kernel
theorem dX5_walk_12 : decode cX5_walk 12 = .ok (.istore_n 3, 1) := by decide +kernel
theorem dX5_walk_13 : decode cX5_walk 13 = .ok (.iconst 0, 1) := by decide +kernel
theorem dX5_walk_14 : decode cX5_walk 14 = .ok (.istore 4, 2) := by decide +kernel
theorem dX5_walk_16 : decode cX5_walk 16 = .ok (.iload 4, 2) := by decide +kernel
theorem dX5_walk_18 : decode cX5_walk 18 = .ok (.bipush 20, 2) := by decide +kernel
theorem dX5_walk_20 : decode cX5_walk 20 = .ok (.if_icmp .ge 73, 3) := by decide +kernel
theorem dX5_walk_23 : decode cX5_walk 23 = .ok (.iload_n 3, 1) := by decide +kernel
theorem dX5_walk_24 : decode cX5_walk 24 = .ok (.ifCond .le 69, 3) := by decide +kernel
theorem dX5_walk_27 : decode cX5_walk 27 = .ok (.iload_n 2, 1) := by decide +kernel
theorem dX5_walk_28 : decode cX5_walk 28 = .ok (.iload 4, 2) := by decide +kernel
theorem dX5_walk_30 : decode cX5_walk 30 = .ok (.iadd, 1) := by decide +kernel
theorem dX5_walk_31 : decode cX5_walk 31 = .ok (.bipush 20, 2) := by decide +kernel
theorem dX5_walk_33 : decode cX5_walk 33 = .ok (.irem, 1) := by decide +kernel
theorem dX5_walk_34 : decode cX5_walk 34 = .ok (.istore 5, 2) := by decide +kernel
theorem dX5_walk_36 : decode cX5_walk 36 = .ok (.aload_n 1, 1) := by decide +kernel
theorem dX5_walk_37 : decode cX5_walk 37 = .ok (.iload 5, 2) := by decide +kernel
theorem dX5_walk_39 : decode cX5_walk 39 = .ok (.invokevirtual 116, 3) := by decide +kernel
theorem dX5_walk_42 : decode cX5_walk 42 = .ok (.istore 6, 2) := by decide +kernel
theorem dX5_walk_44 : decode cX5_walk 44 = .ok (.aload_n 0, 1) := by decide +kernel
theorem dX5_walk_45 : decode cX5_walk 45 = .ok (.iload 6, 2) := by decide +kernel
theorem dX5_walk_47 : decode cX5_walk 47 = .ok (.invokevirtual 130, 3) := by decide +kernel
theorem dX5_walk_50 : decode cX5_walk 50 = .ok (.astore 7, 2) := by decide +kernel
theorem dX5_walk_52 : decode cX5_walk 52 = .ok (.aload 7, 2) := by decide +kernel
theorem dX5_walk_54 : decode cX5_walk 54 = .ok (.ifnull 33, 3) := by decide +kernel
theorem dX5_walk_57 : decode cX5_walk 57 = .ok (.aload 7, 2) := by decide +kernel
theorem dX5_walk_59 : decode cX5_walk 59 = .ok (.aload_n 0, 1) := by decide +kernel
theorem dX5_walk_60 : decode cX5_walk 60 = .ok (.getfield 59, 3) := by decide +kernel
theorem dX5_walk_63 : decode cX5_walk 63 = .ok (.invokevirtual 151, 3) := by decide +kernel
theorem dX5_walk_66 : decode cX5_walk 66 = .ok (.ifCond .ne 21, 3) := by decide +kernel
theorem dX5_walk_69 : decode cX5_walk 69 = .ok (.aload_n 0, 1) := by decide +kernel
theorem dX5_walk_70 : decode cX5_walk 70 = .ok (.aload 7, 2) := by decide +kernel
theorem dX5_walk_72 : decode cX5_walk 72 = .ok (.iload 6, 2) := by decide +kernel
theorem dX5_walk_74 : decode cX5_walk 74 = .ok (.invokevirtual 154, 3) := by decide +kernel
theorem dX5_walk_77 : decode cX5_walk 77 = .ok (.pop, 1) := by decide +kernel
theorem dX5_walk_78 : decode cX5_walk 78 = .ok (.aload_n 1, 1) := by decide +kernel
theorem dX5_walk_79 : decode cX5_walk 79 = .ok (.iload 5, 2) := by decide +kernel
theorem dX5_walk_81 : decode cX5_walk 81 = .ok (.putfield 191, 3) := by decide +kernel
theorem dX5_walk_84 : decode cX5_walk 84 = .ok (.iinc 3 (-1), 3) := by decide +kernel
theorem dX5_walk_87 : decode cX5_walk 87 = .ok (.iinc 4 1, 3) := by decide +kernel
theorem dX5_walk_90 : decode cX5_walk 90 = .ok (.goto (-74), 3) := by decide +kernel
theorem dX5_walk_93 : decode cX5_walk 93 = .ok (.return_, 1) := by decide +kernel
theorem dX5_endYear_0 : decode cX5_endYear 0 = .ok (.aload_n 0, 1) := by decide +kernel
theorem dX5_endYear_1 : decode cX5_endYear 1 = .ok (.dup, 1) := by decide +kernel
theorem dX5_endYear_2 : decode cX5_endYear 2 = .ok (.getfield 80, 3) := by decide +kernel
theorem dX5_endYear_5 : decode cX5_endYear 5 = .ok (.iconst 1, 1) := by decide +kernel
theorem dX5_endYear_6 : decode cX5_endYear 6 = .ok (.iadd, 1) := by decide +kernel
theorem dX5_endYear_7 : decode cX5_endYear 7 = .ok (.putfield 80, 3) := by decide +kernel
theorem dX5_endYear_10 : decode cX5_endYear 10 = .ok (.aload_n 0, 1) := by decide +kernel
theorem dX5_endYear_11 : decode cX5_endYear 11 = .ok (.getfield 11, 3) := by decide +kernel
theorem dX5_endYear_14 : decode cX5_endYear 14 = .ok (.astore_n 1, 1) := by decide +kernel
theorem dX5_endYear_15 : decode cX5_endYear 15 = .ok (.aload_n 1, 1) := by decide +kernel
theorem dX5_endYear_16 : decode cX5_endYear 16 = .ok (.arraylength, 1) := by decide +kernel
theorem dX5_endYear_17 : decode cX5_endYear 17 = .ok (.istore_n 2, 1) := by decide +kernel
theorem dX5_endYear_18 : decode cX5_endYear 18 = .ok (.iconst 0, 1) := by decide +kernel
theorem dX5_endYear_19 : decode cX5_endYear 19 = .ok (.istore_n 3, 1) := by decide +kernel
theorem dX5_endYear_20 : decode cX5_endYear 20 = .ok (.iload_n 3, 1) := by decide +kernel
theorem dX5_endYear_21 : decode cX5_endYear 21 = .ok (.iload_n 2, 1) := by decide +kernel
theorem dX5_endYear_22 : decode cX5_endYear 22 = .ok (.if_icmp .ge 76, 3) := by decide +kernel
theorem dX5_endYear_25 : decode cX5_endYear 25 = .ok (.aload_n 1, 1) := by decide +kernel
theorem dX5_endYear_26 : decode cX5_endYear 26 = .ok (.iload_n 3, 1) := by decide +kernel
theorem dX5_endYear_27 : decode cX5_endYear 27 = .ok (.aaload, 1) := by decide +kernel
theorem dX5_endYear_28 : decode cX5_endYear 28 = .ok (.astore 4, 2) := by decide +kernel
theorem dX5_endYear_30 : decode cX5_endYear 30 = .ok (.aload 4, 2) := by decide +kernel
theorem dX5_endYear_32 : decode cX5_endYear 32 = .ok (.getfield 165, 3) := by decide +kernel
theorem dX5_endYear_35 : decode cX5_endYear 35 = .ok (.aload_n 0, 1) := by decide +kernel
theorem dX5_endYear_36 : decode cX5_endYear 36 = .ok (.getfield 30, 3) := by decide +kernel
theorem dX5_endYear_39 : decode cX5_endYear 39 = .ok (.iconst 2, 1) := by decide +kernel
theorem dX5_endYear_40 : decode cX5_endYear 40 = .ok (.iaload, 1) := by decide +kernel
theorem dX5_endYear_41 : decode cX5_endYear 41 = .ok (.if_icmp .lt 51, 3) := by decide +kernel
theorem dX5_endYear_44 : decode cX5_endYear 44 = .ok (.aload 4, 2) := by decide +kernel
theorem dX5_endYear_46 : decode cX5_endYear 46 = .ok (.dup, 1) := by decide +kernel
theorem dX5_endYear_47 : decode cX5_endYear 47 = .ok (.getfield 165, 3) := by decide +kernel
theorem dX5_endYear_50 : decode cX5_endYear 50 = .ok (.bipush 100, 2) := by decide +kernel
theorem dX5_endYear_52 : decode cX5_endYear 52 = .ok (.isub, 1) := by decide +kernel
theorem dX5_endYear_53 : decode cX5_endYear 53 = .ok (.putfield 165, 3) := by decide +kernel
theorem dX5_endYear_56 : decode cX5_endYear 56 = .ok (.aload 4, 2) := by decide +kernel
theorem dX5_endYear_58 : decode cX5_endYear 58 = .ok (.dup, 1) := by decide +kernel
theorem dX5_endYear_59 : decode cX5_endYear 59 = .ok (.getfield 194, 3) := by decide +kernel
theorem dX5_endYear_62 : decode cX5_endYear 62 = .ok (.iconst 1, 1) := by decide +kernel
theorem dX5_endYear_63 : decode cX5_endYear 63 = .ok (.iadd, 1) := by decide +kernel
theorem dX5_endYear_64 : decode cX5_endYear 64 = .ok (.putfield 194, 3) := by decide +kernel
theorem dX5_endYear_67 : decode cX5_endYear 67 = .ok (.aload_n 0, 1) := by decide +kernel
theorem dX5_endYear_68 : decode cX5_endYear 68 = .ok (.dup, 1) := by decide +kernel
theorem dX5_endYear_69 : decode cX5_endYear 69 = .ok (.getfield 74, 3) := by decide +kernel
theorem dX5_endYear_72 : decode cX5_endYear 72 = .ok (.iconst 1, 1) := by decide +kernel
theorem dX5_endYear_73 : decode cX5_endYear 73 = .ok (.iadd, 1) := by decide +kernel
theorem dX5_endYear_74 : decode cX5_endYear 74 = .ok (.putfield 74, 3) := by decide +kernel
theorem dX5_endYear_77 : decode cX5_endYear 77 = .ok (.aload_n 0, 1) := by decide +kernel
theorem dX5_endYear_78 : decode cX5_endYear 78 = .ok (.dup, 1) := by decide +kernel
theorem dX5_endYear_79 : decode cX5_endYear 79 = .ok (.getfield 77, 3) := by decide +kernel
theorem dX5_endYear_82 : decode cX5_endYear 82 = .ok (.aload_n 0, 1) := by decide +kernel
theorem dX5_endYear_83 : decode cX5_endYear 83 = .ok (.getfield 30, 3) := by decide +kernel
theorem dX5_endYear_86 : decode cX5_endYear 86 = .ok (.iconst 1, 1) := by decide +kernel
theorem dX5_endYear_87 : decode cX5_endYear 87 = .ok (.iaload, 1) := by decide +kernel
theorem dX5_endYear_88 : decode cX5_endYear 88 = .ok (.iadd, 1) := by decide +kernel
theorem dX5_endYear_89 : decode cX5_endYear 89 = .ok (.putfield 77, 3) := by decide +kernel
theorem dX5_endYear_92 : decode cX5_endYear 92 = .ok (.iinc 3 1, 3) := by decide +kernel
theorem dX5_endYear_95 : decode cX5_endYear 95 = .ok (.goto (-75), 3) := by decide +kernel
theorem dX5_endYear_98 : decode cX5_endYear 98 = .ok (.return_, 1) := by decide +kernel
set_option maxRecDepth 20000 in
theorem ggX5_houseByBalance_X5_housesAhead : GoodIn wsX5_houseByBalance wsX5_housesAhead := goodIn_rB _ [8, 1, 2, 9, 10, 11, 12, 13, 14, 15, 16, 17, 18, 19, 20, 21, 22, 23, 24, 25, 26, 27, 28, 29, 30, 31, 32, 33, 34, 35] (by decide +kernel) (by decide +kernel)
set_option maxRecDepth 20000 in
theorem gX5_houseByBalance_X5_housesAhead : GoodIn wsX5_houseByBalance (wsV RX5 196 RX5 yX5_housesAhead wsX5_housesAhead) := goodIn_app (goodIn_of _ (by decide +kernel)) ggX5_houseByBalance_X5_housesAhead
theorem dX5_houseByBalance_0 : decode cX5_houseByBalance 0 = .ok (.iconst 0, 1) := by decide +kernel
theorem dX5_houseByBalance_1 : decode cX5_houseByBalance 1 = .ok (.istore_n 2, 1) := by decide +kernel
theorem dX5_houseByBalance_2 : decode cX5_houseByBalance 2 = .ok (.iload_n 2, 1) := by decide +kernel
theorem dX5_houseByBalance_3 : decode cX5_houseByBalance 3 = .ok (.aload_n 0, 1) := by decide +kernel
theorem dX5_houseByBalance_4 : decode cX5_houseByBalance 4 = .ok (.getfield 55, 3) := by decide +kernel
theorem dX5_houseByBalance_7 : decode cX5_houseByBalance 7 = .ok (.if_icmp .ge 35, 3) := by decide +kernel
theorem dX5_houseByBalance_10 : decode cX5_houseByBalance 10 = .ok (.iload_n 2, 1) := by decide +kernel
theorem dX5_houseByBalance_11 : decode cX5_houseByBalance 11 = .ok (.bipush 24, 2) := by decide +kernel
theorem dX5_houseByBalance_13 : decode cX5_houseByBalance 13 = .ok (.if_icmp .ge 29, 3) := by decide +kernel
theorem dX5_houseByBalance_16 : decode cX5_houseByBalance 16 = .ok (.aload_n 0, 1) := by decide +kernel
theorem dX5_houseByBalance_17 : decode cX5_houseByBalance 17 = .ok (.iload_n 2, 1) := by decide +kernel
theorem dX5_houseByBalance_18 : decode cX5_houseByBalance 18 = .ok (.aload_n 0, 1) := by decide +kernel
theorem dX5_houseByBalance_19 : decode cX5_houseByBalance 19 = .ok (.getfield 11, 3) := by decide +kernel
theorem dX5_houseByBalance_22 : decode cX5_houseByBalance 22 = .ok (.iload_n 2, 1) := by decide +kernel
theorem dX5_houseByBalance_23 : decode cX5_houseByBalance 23 = .ok (.aaload, 1) := by decide +kernel
theorem dX5_houseByBalance_24 : decode cX5_houseByBalance 24 = .ok (.getfield 165, 3) := by decide +kernel
theorem dX5_houseByBalance_27 : decode cX5_houseByBalance 27 = .ok (.invokevirtual 196, 3) := by decide +kernel
theorem dX5_houseByBalance_30 : decode cX5_houseByBalance 30 = .ok (.iload_n 1, 1) := by decide +kernel
theorem dX5_houseByBalance_31 : decode cX5_houseByBalance 31 = .ok (.if_icmp .ne 5, 3) := by decide +kernel
theorem dX5_houseByBalance_34 : decode cX5_houseByBalance 34 = .ok (.iload_n 2, 1) := by decide +kernel
theorem dX5_houseByBalance_35 : decode cX5_houseByBalance 35 = .ok (.ireturn, 1) := by decide +kernel
theorem dX5_houseByBalance_36 : decode cX5_houseByBalance 36 = .ok (.iinc 2 1, 3) := by decide +kernel
theorem dX5_houseByBalance_39 : decode cX5_houseByBalance 39 = .ok (.goto (-37), 3) := by decide +kernel
theorem dX5_houseByBalance_42 : decode cX5_houseByBalance 42 = .ok (.ldc 195, 2) := by decide +kernel
theorem dX5_houseByBalance_44 : decode cX5_houseByBalance 44 = .ok (.ireturn, 1) := by decide +kernel
theorem dX5_housesAhead_0 : decode cX5_housesAhead 0 = .ok (.iconst 0, 1) := by decide +kernel
theorem dX5_housesAhead_1 : decode cX5_housesAhead 1 = .ok (.istore_n 3, 1) := by decide +kernel
theorem dX5_housesAhead_2 : decode cX5_housesAhead 2 = .ok (.iconst 0, 1) := by decide +kernel
theorem dX5_housesAhead_3 : decode cX5_housesAhead 3 = .ok (.istore 4, 2) := by decide +kernel
theorem dX5_housesAhead_5 : decode cX5_housesAhead 5 = .ok (.iload 4, 2) := by decide +kernel
theorem dX5_housesAhead_7 : decode cX5_housesAhead 7 = .ok (.aload_n 0, 1) := by decide +kernel
theorem dX5_housesAhead_8 : decode cX5_housesAhead 8 = .ok (.getfield 55, 3) := by decide +kernel
theorem dX5_housesAhead_11 : decode cX5_housesAhead 11 = .ok (.if_icmp .ge 49, 3) := by decide +kernel
theorem dX5_housesAhead_14 : decode cX5_housesAhead 14 = .ok (.iload 4, 2) := by decide +kernel
theorem dX5_housesAhead_16 : decode cX5_housesAhead 16 = .ok (.bipush 24, 2) := by decide +kernel
theorem dX5_housesAhead_18 : decode cX5_housesAhead 18 = .ok (.if_icmp .ge 42, 3) := by decide +kernel
theorem dX5_housesAhead_21 : decode cX5_housesAhead 21 = .ok (.aload_n 0, 1) := by decide +kernel
theorem dX5_housesAhead_22 : decode cX5_housesAhead 22 = .ok (.getfield 11, 3) := by decide +kernel
theorem dX5_housesAhead_25 : decode cX5_housesAhead 25 = .ok (.iload 4, 2) := by decide +kernel
theorem dX5_housesAhead_27 : decode cX5_housesAhead 27 = .ok (.aaload, 1) := by decide +kernel
theorem dX5_housesAhead_28 : decode cX5_housesAhead 28 = .ok (.getfield 165, 3) := by decide +kernel
theorem dX5_housesAhead_31 : decode cX5_housesAhead 31 = .ok (.istore 5, 2) := by decide +kernel
theorem dX5_housesAhead_33 : decode cX5_housesAhead 33 = .ok (.iload 5, 2) := by decide +kernel
theorem dX5_housesAhead_35 : decode cX5_housesAhead 35 = .ok (.iload_n 2, 1) := by decide +kernel
theorem dX5_housesAhead_36 : decode cX5_housesAhead 36 = .ok (.if_icmp .gt 15, 3) := by decide +kernel
theorem dX5_housesAhead_39 : decode cX5_housesAhead 39 = .ok (.iload 5, 2) := by decide +kernel
theorem dX5_housesAhead_41 : decode cX5_housesAhead 41 = .ok (.iload_n 2, 1) := by decide +kernel
theorem dX5_housesAhead_42 : decode cX5_housesAhead 42 = .ok (.if_icmp .ne 12, 3) := by decide +kernel
theorem dX5_housesAhead_45 : decode cX5_housesAhead 45 = .ok (.iload 4, 2) := by decide +kernel
theorem dX5_housesAhead_47 : decode cX5_housesAhead 47 = .ok (.iload_n 1, 1) := by decide +kernel
theorem dX5_housesAhead_48 : decode cX5_housesAhead 48 = .ok (.if_icmp .ge 6, 3) := by decide +kernel
theorem dX5_housesAhead_51 : decode cX5_housesAhead 51 = .ok (.iinc 3 1, 3) := by decide +kernel
theorem dX5_housesAhead_54 : decode cX5_housesAhead 54 = .ok (.iinc 4 1, 3) := by decide +kernel
theorem dX5_housesAhead_57 : decode cX5_housesAhead 57 = .ok (.goto (-52), 3) := by decide +kernel
theorem dX5_housesAhead_60 : decode cX5_housesAhead 60 = .ok (.iload_n 3, 1) := by decide +kernel
theorem dX5_housesAhead_61 : decode cX5_housesAhead 61 = .ok (.ireturn, 1) := by decide +kernel
set_option maxRecDepth 20000 in
theorem ggX5_number_X5_housesLocked : GoodIn wsX5_number wsX5_housesLocked := goodIn_rB _ [17, 18, 27, 28, 29, 30, 31, 32, 33, 34, 35, 36, 37, 38, 39, 43, 44, 45, 46, 47, 48, 49, 50, 51, 52, 53, 54, 55, 56] (by decide +kernel) (by decide +kernel)
set_option maxRecDepth 20000 in
theorem gX5_number_X5_housesLocked : GoodIn wsX5_number (wsV RX5 199 RX5 yX5_housesLocked wsX5_housesLocked) := goodIn_app (goodIn_of _ (by decide +kernel)) ggX5_number_X5_housesLocked
set_option maxRecDepth 20000 in
theorem ggX5_number_X5_housesBetween : GoodIn wsX5_number wsX5_housesBetween := goodIn_rB _ [22, 18, 27, 28, 29, 30, 31, 32, 33, 34, 35, 36, 37, 38, 39, 43, 44, 45, 46, 47, 48, 49, 50, 51, 52, 53, 54, 55, 56] (by decide +kernel) (by decide +kernel)
set_option maxRecDepth 20000 in
theorem gX5_number_X5_housesBetween : GoodIn wsX5_number (wsV RX5 202 RX5 yX5_housesBetween wsX5_housesBetween) := goodIn_app (goodIn_of _ (by decide +kernel)) ggX5_number_X5_housesBetween
set_option maxRecDepth 20000 in
theorem ggX5_number_X5_balances : GoodIn wsX5_number wsX5_balances := goodIn_rB _ [26, 18, 27, 28, 29, 30, 31, 32, 33, 34, 35, 36, 37, 38, 39, 43, 44, 45, 46, 47, 48, 49, 50, 51, 52, 53, 54, 55, 56] (by decide +kernel) (by decide +kernel)
set_option maxRecDepth 20000 in
theorem gX5_number_X5_balances : GoodIn wsX5_number (wsV RX5 205 RX5 yX5_balances wsX5_balances) := goodIn_app (goodIn_of _ (by decide +kernel)) ggX5_number_X5_balances
theorem dX5_number_0 : decode cX5_number 0 = .ok (.iload_n 1, 1) := by decide +kernel
theorem dX5_number_1 : decode cX5_number 1 = .ok (.tableswitch 183 0 14 #[75, 80, 85, 90, 95, 100, 105, 110, 115, 120, 128, 136, 145, 170, 175], 75) := by decide +kernel
theorem dX5_number_76 : decode cX5_number 76 = .ok (.aload_n 0, 1) := by decide +kernel
theorem dX5_number_77 : decode cX5_number 77 = .ok (.getfield 59, 3) := by decide +kernel
theorem dX5_number_80 : decode cX5_number 80 = .ok (.ireturn, 1) := by decide +kernel
theorem dX5_number_81 : decode cX5_number 81 = .ok (.aload_n 0, 1) := by decide +kernel
theorem dX5_number_82 : decode cX5_number 82 = .ok (.getfield 55, 3) := by decide +kernel
theorem dX5_number_85 : decode cX5_number 85 = .ok (.ireturn, 1) := by decide +kernel
theorem dX5_number_86 : decode cX5_number 86 = .ok (.aload_n 0, 1) := by decide +kernel
theorem dX5_number_87 : decode cX5_number 87 = .ok (.invokevirtual 199, 3) := by decide +kernel
theorem dX5_number_90 : decode cX5_number 90 = .ok (.ireturn, 1) := by decide +kernel
theorem dX5_number_91 : decode cX5_number 91 = .ok (.aload_n 0, 1) := by decide +kernel
theorem dX5_number_92 : decode cX5_number 92 = .ok (.getfield 62, 3) := by decide +kernel
theorem dX5_number_95 : decode cX5_number 95 = .ok (.ireturn, 1) := by decide +kernel
theorem dX5_number_96 : decode cX5_number 96 = .ok (.aload_n 0, 1) := by decide +kernel
theorem dX5_number_97 : decode cX5_number 97 = .ok (.getfield 65, 3) := by decide +kernel
theorem dX5_number_100 : decode cX5_number 100 = .ok (.ireturn, 1) := by decide +kernel
theorem dX5_number_101 : decode cX5_number 101 = .ok (.aload_n 0, 1) := by decide +kernel
theorem dX5_number_102 : decode cX5_number 102 = .ok (.getfield 68, 3) := by decide +kernel
theorem dX5_number_105 : decode cX5_number 105 = .ok (.ireturn, 1) := by decide +kernel
theorem dX5_number_106 : decode cX5_number 106 = .ok (.aload_n 0, 1) := by decide +kernel
theorem dX5_number_107 : decode cX5_number 107 = .ok (.getfield 71, 3) := by decide +kernel
theorem dX5_number_110 : decode cX5_number 110 = .ok (.ireturn, 1) := by decide +kernel
theorem dX5_number_111 : decode cX5_number 111 = .ok (.aload_n 0, 1) := by decide +kernel
theorem dX5_number_112 : decode cX5_number 112 = .ok (.getfield 74, 3) := by decide +kernel
theorem dX5_number_115 : decode cX5_number 115 = .ok (.ireturn, 1) := by decide +kernel
theorem dX5_number_116 : decode cX5_number 116 = .ok (.aload_n 0, 1) := by decide +kernel
theorem dX5_number_117 : decode cX5_number 117 = .ok (.getfield 77, 3) := by decide +kernel
theorem dX5_number_120 : decode cX5_number 120 = .ok (.ireturn, 1) := by decide +kernel
theorem dX5_number_121 : decode cX5_number 121 = .ok (.aload_n 0, 1) := by decide +kernel
theorem dX5_number_122 : decode cX5_number 122 = .ok (.iconst 1, 1) := by decide +kernel
theorem dX5_number_123 : decode cX5_number 123 = .ok (.bipush 100, 2) := by decide +kernel
theorem dX5_number_125 : decode cX5_number 125 = .ok (.invokevirtual 202, 3) := by decide +kernel
theorem dX5_number_128 : decode cX5_number 128 = .ok (.ireturn, 1) := by decide +kernel
theorem dX5_number_129 : decode cX5_number 129 = .ok (.aload_n 0, 1) := by decide +kernel
theorem dX5_number_130 : decode cX5_number 130 = .ok (.bipush (-100), 2) := by decide +kernel
theorem dX5_number_132 : decode cX5_number 132 = .ok (.iconst (-1), 1) := by decide +kernel
theorem dX5_number_133 : decode cX5_number 133 = .ok (.invokevirtual 202, 3) := by decide +kernel
theorem dX5_number_136 : decode cX5_number 136 = .ok (.ireturn, 1) := by decide +kernel
theorem dX5_number_137 : decode cX5_number 137 = .ok (.sipush 10000, 3) := by decide +kernel
theorem dX5_number_140 : decode cX5_number 140 = .ok (.aload_n 0, 1) := by decide +kernel
theorem dX5_number_141 : decode cX5_number 141 = .ok (.invokevirtual 205, 3) := by decide +kernel
theorem dX5_number_144 : decode cX5_number 144 = .ok (.iadd, 1) := by decide +kernel
theorem dX5_number_145 : decode cX5_number 145 = .ok (.ireturn, 1) := by decide +kernel
theorem dX5_number_146 : decode cX5_number 146 = .ok (.sipush 10000, 3) := by decide +kernel
theorem dX5_number_149 : decode cX5_number 149 = .ok (.bipush 100, 2) := by decide +kernel
theorem dX5_number_151 : decode cX5_number 151 = .ok (.aload_n 0, 1) := by decide +kernel
theorem dX5_number_152 : decode cX5_number 152 = .ok (.getfield 65, 3) := by decide +kernel
theorem dX5_number_155 : decode cX5_number 155 = .ok (.imul, 1) := by decide +kernel
theorem dX5_number_156 : decode cX5_number 156 = .ok (.iadd, 1) := by decide +kernel
theorem dX5_number_157 : decode cX5_number 157 = .ok (.aload_n 0, 1) := by decide +kernel
theorem dX5_number_158 : decode cX5_number 158 = .ok (.getfield 71, 3) := by decide +kernel
theorem dX5_number_161 : decode cX5_number 161 = .ok (.isub, 1) := by decide +kernel
theorem dX5_number_162 : decode cX5_number 162 = .ok (.bipush 100, 2) := by decide +kernel
theorem dX5_number_164 : decode cX5_number 164 = .ok (.aload_n 0, 1) := by decide +kernel
theorem dX5_number_165 : decode cX5_number 165 = .ok (.getfield 74, 3) := by decide +kernel
theorem dX5_number_168 : decode cX5_number 168 = .ok (.imul, 1) := by decide +kernel
theorem dX5_number_169 : decode cX5_number 169 = .ok (.isub, 1) := by decide +kernel
theorem dX5_number_170 : decode cX5_number 170 = .ok (.ireturn, 1) := by decide +kernel
theorem dX5_number_171 : decode cX5_number 171 = .ok (.aload_n 0, 1) := by decide +kernel
theorem dX5_number_172 : decode cX5_number 172 = .ok (.getfield 80, 3) := by decide +kernel
theorem dX5_number_175 : decode cX5_number 175 = .ok (.ireturn, 1) := by decide +kernel
theorem dX5_number_176 : decode cX5_number 176 = .ok (.aload_n 0, 1) := by decide +kernel
theorem dX5_number_177 : decode cX5_number 177 = .ok (.getfield 26, 3) := by decide +kernel
theorem dX5_number_180 : decode cX5_number 180 = .ok (.getfield 208, 3) := by decide +kernel
theorem dX5_number_183 : decode cX5_number 183 = .ok (.ireturn, 1) := by decide +kernel
theorem dX5_number_184 : decode cX5_number 184 = .ok (.iload_n 1, 1) := by decide +kernel
theorem dX5_number_185 : decode cX5_number 185 = .ok (.bipush 20, 2) := by decide +kernel
theorem dX5_number_187 : decode cX5_number 187 = .ok (.if_icmp .lt 21, 3) := by decide +kernel
theorem dX5_number_190 : decode cX5_number 190 = .ok (.iload_n 1, 1) := by decide +kernel
theorem dX5_number_191 : decode cX5_number 191 = .ok (.bipush 24, 2) := by decide +kernel
theorem dX5_number_193 : decode cX5_number 193 = .ok (.if_icmp .ge 15, 3) := by decide +kernel
theorem dX5_number_196 : decode cX5_number 196 = .ok (.aload_n 0, 1) := by decide +kernel
theorem dX5_number_197 : decode cX5_number 197 = .ok (.getfield 30, 3) := by decide +kernel
theorem dX5_number_200 : decode cX5_number 200 = .ok (.iload_n 1, 1) := by decide +kernel
theorem dX5_number_201 : decode cX5_number 201 = .ok (.bipush 20, 2) := by decide +kernel
theorem dX5_number_203 : decode cX5_number 203 = .ok (.isub, 1) := by decide +kernel
theorem dX5_number_204 : decode cX5_number 204 = .ok (.iaload, 1) := by decide +kernel
theorem dX5_number_205 : decode cX5_number 205 = .ok (.goto 5, 3) := by decide +kernel
theorem dX5_number_208 : decode cX5_number 208 = .ok (.ldc 100, 2) := by decide +kernel
theorem dX5_number_210 : decode cX5_number 210 = .ok (.ireturn, 1) := by decide +kernel
theorem dX5_housesLocked_0 : decode cX5_housesLocked 0 = .ok (.iconst 0, 1) := by decide +kernel
theorem dX5_housesLocked_1 : decode cX5_housesLocked 1 = .ok (.istore_n 1, 1) := by decide +kernel
theorem dX5_housesLocked_2 : decode cX5_housesLocked 2 = .ok (.aload_n 0, 1) := by decide +kernel
theorem dX5_housesLocked_3 : decode cX5_housesLocked 3 = .ok (.getfield 11, 3) := by decide +kernel
theorem dX5_housesLocked_6 : decode cX5_housesLocked 6 = .ok (.astore_n 2, 1) := by decide +kernel
theorem dX5_housesLocked_7 : decode cX5_housesLocked 7 = .ok (.aload_n 2, 1) := by decide +kernel
theorem dX5_housesLocked_8 : decode cX5_housesLocked 8 = .ok (.arraylength, 1) := by decide +kernel
theorem dX5_housesLocked_9 : decode cX5_housesLocked 9 = .ok (.istore_n 3, 1) := by decide +kernel
theorem dX5_housesLocked_10 : decode cX5_housesLocked 10 = .ok (.iconst 0, 1) := by decide +kernel
theorem dX5_housesLocked_11 : decode cX5_housesLocked 11 = .ok (.istore 4, 2) := by decide +kernel
theorem dX5_housesLocked_13 : decode cX5_housesLocked 13 = .ok (.iload 4, 2) := by decide +kernel
theorem dX5_housesLocked_15 : decode cX5_housesLocked 15 = .ok (.iload_n 3, 1) := by decide +kernel
theorem dX5_housesLocked_16 : decode cX5_housesLocked 16 = .ok (.if_icmp .ge 26, 3) := by decide +kernel
theorem dX5_housesLocked_19 : decode cX5_housesLocked 19 = .ok (.aload_n 2, 1) := by decide +kernel
theorem dX5_housesLocked_20 : decode cX5_housesLocked 20 = .ok (.iload 4, 2) := by decide +kernel
theorem dX5_housesLocked_22 : decode cX5_housesLocked 22 = .ok (.aaload, 1) := by decide +kernel
theorem dX5_housesLocked_23 : decode cX5_housesLocked 23 = .ok (.astore 5, 2) := by decide +kernel
theorem dX5_housesLocked_25 : decode cX5_housesLocked 25 = .ok (.aload 5, 2) := by decide +kernel
theorem dX5_housesLocked_27 : decode cX5_housesLocked 27 = .ok (.getfield 137, 3) := by decide +kernel
theorem dX5_housesLocked_30 : decode cX5_housesLocked 30 = .ok (.ifCond .eq 6, 3) := by decide +kernel
theorem dX5_housesLocked_33 : decode cX5_housesLocked 33 = .ok (.iinc 1 1, 3) := by decide +kernel
theorem dX5_housesLocked_36 : decode cX5_housesLocked 36 = .ok (.iinc 4 1, 3) := by decide +kernel
theorem dX5_housesLocked_39 : decode cX5_housesLocked 39 = .ok (.goto (-26), 3) := by decide +kernel
theorem dX5_housesLocked_42 : decode cX5_housesLocked 42 = .ok (.iload_n 1, 1) := by decide +kernel
theorem dX5_housesLocked_43 : decode cX5_housesLocked 43 = .ok (.ireturn, 1) := by decide +kernel
theorem dX5_housesBetween_0 : decode cX5_housesBetween 0 = .ok (.iconst 0, 1) := by decide +kernel
theorem dX5_housesBetween_1 : decode cX5_housesBetween 1 = .ok (.istore_n 3, 1) := by decide +kernel
theorem dX5_housesBetween_2 : decode cX5_housesBetween 2 = .ok (.aload_n 0, 1) := by decide +kernel
theorem dX5_housesBetween_3 : decode cX5_housesBetween 3 = .ok (.getfield 11, 3) := by decide +kernel
theorem dX5_housesBetween_6 : decode cX5_housesBetween 6 = .ok (.astore 4, 2) := by decide +kernel
theorem dX5_housesBetween_8 : decode cX5_housesBetween 8 = .ok (.aload 4, 2) := by decide +kernel
theorem dX5_housesBetween_10 : decode cX5_housesBetween 10 = .ok (.arraylength, 1) := by decide +kernel
theorem dX5_housesBetween_11 : decode cX5_housesBetween 11 = .ok (.istore 5, 2) := by decide +kernel
theorem dX5_housesBetween_13 : decode cX5_housesBetween 13 = .ok (.iconst 0, 1) := by decide +kernel
theorem dX5_housesBetween_14 : decode cX5_housesBetween 14 = .ok (.istore 6, 2) := by decide +kernel
theorem dX5_housesBetween_16 : decode cX5_housesBetween 16 = .ok (.iload 6, 2) := by decide +kernel
theorem dX5_housesBetween_18 : decode cX5_housesBetween 18 = .ok (.iload 5, 2) := by decide +kernel
theorem dX5_housesBetween_20 : decode cX5_housesBetween 20 = .ok (.if_icmp .ge 37, 3) := by decide +kernel
theorem dX5_housesBetween_23 : decode cX5_housesBetween 23 = .ok (.aload 4, 2) := by decide +kernel
theorem dX5_housesBetween_25 : decode cX5_housesBetween 25 = .ok (.iload 6, 2) := by decide +kernel
theorem dX5_housesBetween_27 : decode cX5_housesBetween 27 = .ok (.aaload, 1) := by decide +kernel
theorem dX5_housesBetween_28 : decode cX5_housesBetween 28 = .ok (.astore 7, 2) := by decide +kernel
theorem dX5_housesBetween_30 : decode cX5_housesBetween 30 = .ok (.aload 7, 2) := by decide +kernel
theorem dX5_housesBetween_32 : decode cX5_housesBetween 32 = .ok (.getfield 165, 3) := by decide +kernel
theorem dX5_housesBetween_35 : decode cX5_housesBetween 35 = .ok (.iload_n 1, 1) := by decide +kernel
theorem dX5_housesBetween_36 : decode cX5_housesBetween 36 = .ok (.if_icmp .lt 15, 3) := by decide +kernel
theorem dX5_housesBetween_39 : decode cX5_housesBetween 39 = .ok (.aload 7, 2) := by decide +kernel
theorem dX5_housesBetween_41 : decode cX5_housesBetween 41 = .ok (.getfield 165, 3) := by decide +kernel
theorem dX5_housesBetween_44 : decode cX5_housesBetween 44 = .ok (.iload_n 2, 1) := by decide +kernel
theorem dX5_housesBetween_45 : decode cX5_housesBetween 45 = .ok (.if_icmp .gt 6, 3) := by decide +kernel
theorem dX5_housesBetween_48 : decode cX5_housesBetween 48 = .ok (.iinc 3 1, 3) := by decide +kernel
theorem dX5_housesBetween_51 : decode cX5_housesBetween 51 = .ok (.iinc 6 1, 3) := by decide +kernel
theorem dX5_housesBetween_54 : decode cX5_housesBetween 54 = .ok (.goto (-38), 3) := by decide +kernel
theorem dX5_housesBetween_57 : decode cX5_housesBetween 57 = .ok (.iload_n 3, 1) := by decide +kernel
theorem dX5_housesBetween_58 : decode cX5_housesBetween 58 = .ok (.ireturn, 1) := by decide +kernel
theorem dX5_balances_0 : decode cX5_balances 0 = .ok (.iconst 0, 1) := by decide +kernel
theorem dX5_balances_1 : decode cX5_balances 1 = .ok (.istore_n 1, 1) := by decide +kernel
theorem dX5_balances_2 : decode cX5_balances 2 = .ok (.aload_n 0, 1) := by decide +kernel
theorem dX5_balances_3 : decode cX5_balances 3 = .ok (.getfield 11, 3) := by decide +kernel
theorem dX5_balances_6 : decode cX5_balances 6 = .ok (.astore_n 2, 1) := by decide +kernel
theorem dX5_balances_7 : decode cX5_balances 7 = .ok (.aload_n 2, 1) := by decide +kernel
theorem dX5_balances_8 : decode cX5_balances 8 = .ok (.arraylength, 1) := by decide +kernel
theorem dX5_balances_9 : decode cX5_balances 9 = .ok (.istore_n 3, 1) := by decide +kernel
theorem dX5_balances_10 : decode cX5_balances 10 = .ok (.iconst 0, 1) := by decide +kernel
theorem dX5_balances_11 : decode cX5_balances 11 = .ok (.istore 4, 2) := by decide +kernel
theorem dX5_balances_13 : decode cX5_balances 13 = .ok (.iload 4, 2) := by decide +kernel
theorem dX5_balances_15 : decode cX5_balances 15 = .ok (.iload_n 3, 1) := by decide +kernel
theorem dX5_balances_16 : decode cX5_balances 16 = .ok (.if_icmp .ge 23, 3) := by decide +kernel
theorem dX5_balances_19 : decode cX5_balances 19 = .ok (.aload_n 2, 1) := by decide +kernel
theorem dX5_balances_20 : decode cX5_balances 20 = .ok (.iload 4, 2) := by decide +kernel
theorem dX5_balances_22 : decode cX5_balances 22 = .ok (.aaload, 1) := by decide +kernel
theorem dX5_balances_23 : decode cX5_balances 23 = .ok (.astore 5, 2) := by decide +kernel
theorem dX5_balances_25 : decode cX5_balances 25 = .ok (.iload_n 1, 1) := by decide +kernel
theorem dX5_balances_26 : decode cX5_balances 26 = .ok (.aload 5, 2) := by decide +kernel
theorem dX5_balances_28 : decode cX5_balances 28 = .ok (.getfield 165, 3) := by decide +kernel
theorem dX5_balances_31 : decode cX5_balances 31 = .ok (.iadd, 1) := by decide +kernel
theorem dX5_balances_32 : decode cX5_balances 32 = .ok (.istore_n 1, 1) := by decide +kernel
theorem dX5_balances_33 : decode cX5_balances 33 = .ok (.iinc 4 1, 3) := by decide +kernel
theorem dX5_balances_36 : decode cX5_balances 36 = .ok (.goto (-23), 3) := by decide +kernel
theorem dX5_balances_39 : decode cX5_balances 39 = .ok (.iload_n 1, 1) := by decide +kernel
theorem dX5_balances_40 : decode cX5_balances 40 = .ok (.ireturn, 1) := by decide +kernel
set_option maxRecDepth 20000 in
theorem ggX6_init_X5_init : GoodIn wsX6_init wsX5_init := goodIn_rB _ [19, 20, 2, 3, 21, 22, 23, 24, 25, 26, 27, 28, 29, 30, 31, 32, 33, 34, 35, 36, 37, 38, 39, 40, 41, 42, 43, 44, 45, 46, 47, 48, 60, 61, 62, 63, 64, 65, 66, 67, 68, 69, 70, 71, 72, 90, 91, 92, 93, 94, 95, 96, 97, 98, 99, 100, 101, 102, 103, 104, 105, 106, 107, 108] (by decide +kernel) (by decide +kernel)
set_option maxRecDepth 20000 in
theorem gX6_init_X5_init : GoodIn wsX6_init (wsX5_init) := ggX6_init_X5_init
set_option maxRecDepth 20000 in
theorem ggX6_init_X0_init : GoodIn wsX6_init wsX0_init := goodIn_rB _ [51, 52, 2, 3, 53, 54, 5, 6, 55, 18, 19, 20, 21, 22, 23, 24, 25, 26, 27, 28, 29, 30, 31, 32, 33, 34, 35, 36, 37, 38, 39, 40, 41, 42, 43, 44, 45, 46, 47, 48, 77, 78, 79, 60, 61, 62, 63, 64, 65, 66, 67, 68, 69, 70, 71, 72, 90, 91, 92, 93, 94, 95, 96, 97, 98, 99, 100, 101, 102, 103, 104, 105, 106, 107, 108] (by decide +kernel) (by decide +kernel)
set_option maxRecDepth 20000 in
theorem gX6_init_X0_init : GoodIn wsX6_init (wsX0_init) := ggX6_init_X0_init
set_option maxRecDepth 20000 in
theorem ggX6_init_X3_init : GoodIn wsX6_init wsX3_init := goodIn_rB _ [57, 58, 2, 3, 29, 59, 80, 81, 82, 83, 84, 85, 86, 87, 88, 89] (by decide +kernel) (by decide +kernel)
set_option maxRecDepth 20000 in
theorem gX6_init_X3_init_n28 : GoodIn wsX6_init (wsX3_init) := ggX6_init_X3_init
theorem dX6_init_0 : decode cX6_init 0 = .ok (.aload_n 0, 1) := by decide +kernel
theorem dX6_init_1 : decode cX6_init 1 = .ok (.invokespecial 1, 3) := by decide +kernel
theorem dX6_init_4 : decode cX6_init 4 = .ok (.aload_n 0, 1) := by decide +kernel
theorem dX6_init_5 : decode cX6_init 5 = .ok (.new 7, 3) := by decide +kernel
theorem dX6_init_8 : decode cX6_init 8 = .ok (.dup, 1) := by decide +kernel
theorem dX6_init_9 : decode cX6_init 9 = .ok (.invokespecial 9, 3) := by decide +kernel
theorem dX6_init_12 : decode cX6_init 12 = .ok (.putfield 10, 3) := by decide +kernel
theorem dX6_init_15 : decode cX6_init 15 = .ok (.aload_n 0, 1) := by decide +kernel
theorem dX6_init_16 : decode cX6_init 16 = .ok (.new 7, 3) := by decide +kernel
theorem dX6_init_19 : decode cX6_init 19 = .ok (.dup, 1) := by decide +kernel
theorem dX6_init_20 : decode cX6_init 20 = .ok (.invokespecial 9, 3) := by decide +kernel
theorem dX6_init_23 : decode cX6_init 23 = .ok (.putfield 16, 3) := by decide +kernel
theorem dX6_init_26 : decode cX6_init 26 = .ok (.aload_n 0, 1) := by decide +kernel
theorem dX6_init_27 : decode cX6_init 27 = .ok (.new 19, 3) := by decide +kernel
theorem dX6_init_30 : decode cX6_init 30 = .ok (.dup, 1) := by decide +kernel
theorem dX6_init_31 : decode cX6_init 31 = .ok (.invokespecial 21, 3) := by decide +kernel
theorem dX6_init_34 : decode cX6_init 34 = .ok (.putfield 22, 3) := by decide +kernel
theorem dX6_init_37 : decode cX6_init 37 = .ok (.aload_n 0, 1) := by decide +kernel
theorem dX6_init_38 : decode cX6_init 38 = .ok (.new 26, 3) := by decide +kernel
theorem dX6_init_41 : decode cX6_init 41 = .ok (.dup, 1) := by decide +kernel
theorem dX6_init_42 : decode cX6_init 42 = .ok (.invokespecial 28, 3) := by decide +kernel
theorem dX6_init_45 : decode cX6_init 45 = .ok (.putfield 29, 3) := by decide +kernel
theorem dX6_init_48 : decode cX6_init 48 = .ok (.return_, 1) := by decide +kernel
set_option maxRecDepth 20000 in
theorem ggX6_house_X6_carryOut : GoodIn wsX6_house wsX6_carryOut := goodIn_rB _ [5, 6, 7, 8, 9, 10, 11, 12, 13, 14, 15, 16, 17, 18, 19, 20, 21, 22, 23, 24, 25, 26, 27, 28, 29, 30, 31, 32, 33, 34, 35, 36, 37, 38, 39, 40, 41, 42, 43, 44, 45, 46, 47, 48, 49, 50, 51, 52, 53, 54, 55, 56, 57, 58, 59, 60, 61, 62, 63, 64, 65, 66, 67, 68, 69, 70, 71, 72, 73, 74, 75, 76, 77, 78, 79, 80, 81, 82, 83, 84, 85, 86, 87, 88, 4, 89, 90, 91, 92, 93, 94, 95, 96, 97, 98, 99, 100, 101, 102, 103, 104, 105, 106, 107, 108, 109, 110, 111, 112, 113, 114, 115, 116, 117, 118, 119, 120, 121, 122, 123, 124, 125, 126, 127, 128, 129, 130, 131, 132, 133, 134, 135, 136, 137, 138, 139, 140, 141, 142, 143, 144, 145, 146, 147, 148, 149, 150, 151, 152, 153, 154, 155, 156, 157, 158, 159, 160, 161, 162, 163, 164, 165, 166, 167, 168, 169, 170, 171, 172, 173, 174, 175, 176, 177, 178, 179, 180, 181, 182, 183, 184, 185, 186, 187, 188, 189, 190, 191, 192, 193, 194, 195, 196, 197, 198, 199, 200, 201, 202, 203, 204, 205, 206, 207, 208, 209, 210, 211, 212, 213, 214, 215, 216, 217, 218] (by decide +kernel) (by decide +kernel)
set_option maxRecDepth 20000 in
theorem gX6_house_X6_carryOut : GoodIn wsX6_house (wsV RX6 33 RX6 yX6_carryOut wsX6_carryOut) := goodIn_app (goodIn_of _ (by decide +kernel)) ggX6_house_X6_carryOut
theorem dX6_house_0 : decode cX6_house 0 = .ok (.aload_n 0, 1) := by decide +kernel
theorem dX6_house_1 : decode cX6_house 1 = .ok (.bipush 104, 2) := by decide +kernel
theorem dX6_house_3 : decode cX6_house 3 = .ok (.iload_n 1, 1) := by decide +kernel
theorem dX6_house_4 : decode cX6_house 4 = .ok (.iload_n 2, 1) := by decide +kernel
theorem dX6_house_5 : decode cX6_house 5 = .ok (.invokevirtual 33, 3) := by decide +kernel
theorem dX6_house_8 : decode cX6_house 8 = .ok (.ireturn, 1) := by decide +kernel
set_option maxRecDepth 20000 in
theorem ggX6_flow_X6_carryOut : GoodIn wsX6_flow wsX6_carryOut := goodIn_rB _ [5, 6, 7, 8, 9, 10, 11, 12, 13, 14, 15, 16, 17, 18, 19, 20, 21, 22, 23, 24, 25, 26, 27, 28, 29, 30, 31, 32, 33, 34, 35, 36, 37, 38, 39, 40, 41, 42, 43, 44, 45, 46, 47, 48, 49, 50, 51, 52, 53, 54, 55, 56, 57, 58, 59, 60, 61, 62, 63, 64, 65, 66, 67, 68, 69, 70, 71, 72, 73, 74, 75, 76, 77, 78, 79, 80, 81, 82, 83, 84, 85, 86, 87, 88, 4, 89, 90, 91, 92, 93, 94, 95, 96, 97, 98, 99, 100, 101, 102, 103, 104, 105, 106, 107, 108, 109, 110, 111, 112, 113, 114, 115, 116, 117, 118, 119, 120, 121, 122, 123, 124, 125, 126, 127, 128, 129, 130, 131, 132, 133, 134, 135, 136, 137, 138, 139, 140, 141, 142, 143, 144, 145, 146, 147, 148, 149, 150, 151, 152, 153, 154, 155, 156, 157, 158, 159, 160, 161, 162, 163, 164, 165, 166, 167, 168, 169, 170, 171, 172, 173, 174, 175, 176, 177, 178, 179, 180, 181, 182, 183, 184, 185, 186, 187, 188, 189, 190, 191, 192, 193, 194, 195, 196, 197, 198, 199, 200, 201, 202, 203, 204, 205, 206, 207, 208, 209, 210, 211, 212, 213, 214, 215, 216, 217, 218] (by decide +kernel) (by decide +kernel)
set_option maxRecDepth 20000 in
theorem gX6_flow_X6_carryOut : GoodIn wsX6_flow (wsV RX6 33 RX6 yX6_carryOut wsX6_carryOut) := goodIn_app (goodIn_of _ (by decide +kernel)) ggX6_flow_X6_carryOut
theorem dX6_flow_0 : decode cX6_flow 0 = .ok (.aload_n 0, 1) := by decide +kernel
theorem dX6_flow_1 : decode cX6_flow 1 = .ok (.bipush 102, 2) := by decide +kernel
theorem dX6_flow_3 : decode cX6_flow 3 = .ok (.iload_n 1, 1) := by decide +kernel
theorem dX6_flow_4 : decode cX6_flow 4 = .ok (.iload_n 2, 1) := by decide +kernel
theorem dX6_flow_5 : decode cX6_flow 5 = .ok (.invokevirtual 33, 3) := by decide +kernel
theorem dX6_flow_8 : decode cX6_flow 8 = .ok (.ireturn, 1) := by decide +kernel
set_option maxRecDepth 20000 in
theorem ggX6_lock_X0_record : GoodIn wsX6_lock wsX0_record := goodIn_rB _ [7, 8, 9, 10, 11, 12, 13, 14, 15, 16, 17, 18, 19, 20, 21, 22, 23, 24, 25, 26, 27, 28, 29, 30, 31, 32, 33, 34, 35, 36, 37, 38, 39, 40, 41, 42, 43, 44, 45, 46, 47, 48, 49, 50, 51, 52, 53, 54, 55, 56, 57, 58, 59, 60, 61, 62, 63, 64, 65, 66, 67, 91, 92, 93, 94, 95, 96, 97, 98, 99, 100, 101, 102, 103, 104, 105, 106, 107, 108, 109, 110, 111, 112, 113, 114, 115, 116, 117, 118, 119, 120, 121, 122, 123, 124, 125] (by decide +kernel) (by decide +kernel)
set_option maxRecDepth 20000 in
theorem gX6_lock_X0_record : GoodIn wsX6_lock (wsV RX6 37 RX0 yX0_record wsX0_record) := goodIn_app (goodIn_of _ (by decide +kernel)) ggX6_lock_X0_record
set_option maxRecDepth 20000 in
theorem ggX6_lock_X5_putLock : GoodIn wsX6_lock wsX5_putLock := goodIn_rB _ [71, 72, 73, 74, 75, 13, 76, 23, 15, 107, 108, 109, 110, 111, 112, 113, 114, 115, 116, 117, 118, 119, 120, 94, 95, 96, 97, 98, 99, 100, 101, 102, 103, 104, 105, 106] (by decide +kernel) (by decide +kernel)
set_option maxRecDepth 20000 in
theorem gX6_lock_X5_putLock : GoodIn wsX6_lock (wsV RX6 41 RX5 yX5_putLock wsX5_putLock) := goodIn_app (goodIn_of _ (by decide +kernel)) ggX6_lock_X5_putLock
set_option maxRecDepth 20000 in
theorem ggX6_lock_X6_kept : GoodIn wsX6_lock wsX6_kept := goodIn_rB _ [81, 1, 82, 83, 84, 6, 85, 8, 86, 87, 88, 89, 90, 91, 92, 93] (by decide +kernel) (by decide +kernel)
set_option maxRecDepth 20000 in
theorem gX6_lock_X6_kept : GoodIn wsX6_lock (wsV RX6 45 RX6 yX6_kept wsX6_kept) := goodIn_app (goodIn_of _ (by decide +kernel)) ggX6_lock_X6_kept
theorem dX6_lock_0 : decode cX6_lock 0 = .ok (.aload_n 0, 1) := by decide +kernel
theorem dX6_lock_1 : decode cX6_lock 1 = .ok (.getfield 22, 3) := by decide +kernel
theorem dX6_lock_4 : decode cX6_lock 4 = .ok (.aload_n 0, 1) := by decide +kernel
theorem dX6_lock_5 : decode cX6_lock 5 = .ok (.getfield 10, 3) := by decide +kernel
theorem dX6_lock_8 : decode cX6_lock 8 = .ok (.invokevirtual 37, 3) := by decide +kernel
theorem dX6_lock_11 : decode cX6_lock 11 = .ok (.aload_n 0, 1) := by decide +kernel
theorem dX6_lock_12 : decode cX6_lock 12 = .ok (.aload_n 0, 1) := by decide +kernel
theorem dX6_lock_13 : decode cX6_lock 13 = .ok (.getfield 10, 3) := by decide +kernel
theorem dX6_lock_16 : decode cX6_lock 16 = .ok (.iload_n 1, 1) := by decide +kernel
theorem dX6_lock_17 : decode cX6_lock 17 = .ok (.iload_n 2, 1) := by decide +kernel
theorem dX6_lock_18 : decode cX6_lock 18 = .ok (.invokevirtual 41, 3) := by decide +kernel
theorem dX6_lock_21 : decode cX6_lock 21 = .ok (.invokevirtual 45, 3) := by decide +kernel
theorem dX6_lock_24 : decode cX6_lock 24 = .ok (.ireturn, 1) := by decide +kernel
set_option maxRecDepth 20000 in
theorem ggX6_read_X6_carryOut : GoodIn wsX6_read wsX6_carryOut := goodIn_rB _ [5, 6, 7, 8, 9, 10, 11, 12, 13, 14, 15, 16, 17, 18, 19, 20, 21, 22, 23, 24, 25, 26, 27, 28, 29, 30, 31, 32, 33, 34, 35, 36, 37, 38, 39, 40, 41, 42, 43, 44, 45, 46, 47, 48, 49, 50, 51, 52, 53, 54, 55, 56, 57, 58, 59, 60, 61, 62, 63, 64, 65, 66, 67, 68, 69, 70, 71, 72, 73, 74, 75, 76, 77, 78, 79, 80, 81, 82, 83, 84, 85, 86, 87, 88, 4, 89, 90, 91, 92, 93, 94, 95, 96, 97, 98, 99, 100, 101, 102, 103, 104, 105, 106, 107, 108, 109, 110, 111, 112, 113, 114, 115, 116, 117, 118, 119, 120, 121, 122, 123, 124, 125, 126, 127, 128, 129, 130, 131, 132, 133, 134, 135, 136, 137, 138, 139, 140, 141, 142, 143, 144, 145, 146, 147, 148, 149, 150, 151, 152, 153, 154, 155, 156, 157, 158, 159, 160, 161, 162, 163, 164, 165, 166, 167, 168, 169, 170, 171, 172, 173, 174, 175, 176, 177, 178, 179, 180, 181, 182, 183, 184, 185, 186, 187, 188, 189, 190, 191, 192, 193, 194, 195, 196, 197, 198, 199, 200, 201, 202, 203, 204, 205, 206, 207, 208, 209, 210, 211, 212, 213, 214, 215, 216, 217, 218] (by decide +kernel) (by decide +kernel)
set_option maxRecDepth 20000 in
theorem gX6_read_X6_carryOut : GoodIn wsX6_read (wsV RX6 33 RX6 yX6_carryOut wsX6_carryOut) := goodIn_app (goodIn_of _ (by decide +kernel)) ggX6_read_X6_carryOut
theorem dX6_read_0 : decode cX6_read 0 = .ok (.aload_n 0, 1) := by decide +kernel
theorem dX6_read_1 : decode cX6_read 1 = .ok (.bipush 114, 2) := by decide +kernel
theorem dX6_read_3 : decode cX6_read 3 = .ok (.iload_n 1, 1) := by decide +kernel
theorem dX6_read_4 : decode cX6_read 4 = .ok (.iconst 0, 1) := by decide +kernel
theorem dX6_read_5 : decode cX6_read 5 = .ok (.invokevirtual 33, 3) := by decide +kernel
theorem dX6_read_8 : decode cX6_read 8 = .ok (.ireturn, 1) := by decide +kernel
set_option maxRecDepth 20000 in
theorem ggX6_change_X6_carryOut : GoodIn wsX6_change wsX6_carryOut := goodIn_rB _ [5, 6, 7, 8, 9, 10, 11, 12, 13, 14, 15, 16, 17, 18, 19, 20, 21, 22, 23, 24, 25, 26, 27, 28, 29, 30, 31, 32, 33, 34, 35, 36, 37, 38, 39, 40, 41, 42, 43, 44, 45, 46, 47, 48, 49, 50, 51, 52, 53, 54, 55, 56, 57, 58, 59, 60, 61, 62, 63, 64, 65, 66, 67, 68, 69, 70, 71, 72, 73, 74, 75, 76, 77, 78, 79, 80, 81, 82, 83, 84, 85, 86, 87, 88, 4, 89, 90, 91, 92, 93, 94, 95, 96, 97, 98, 99, 100, 101, 102, 103, 104, 105, 106, 107, 108, 109, 110, 111, 112, 113, 114, 115, 116, 117, 118, 119, 120, 121, 122, 123, 124, 125, 126, 127, 128, 129, 130, 131, 132, 133, 134, 135, 136, 137, 138, 139, 140, 141, 142, 143, 144, 145, 146, 147, 148, 149, 150, 151, 152, 153, 154, 155, 156, 157, 158, 159, 160, 161, 162, 163, 164, 165, 166, 167, 168, 169, 170, 171, 172, 173, 174, 175, 176, 177, 178, 179, 180, 181, 182, 183, 184, 185, 186, 187, 188, 189, 190, 191, 192, 193, 194, 195, 196, 197, 198, 199, 200, 201, 202, 203, 204, 205, 206, 207, 208, 209, 210, 211, 212, 213, 214, 215, 216, 217, 218] (by decide +kernel) (by decide +kernel)
set_option maxRecDepth 20000 in
theorem gX6_change_X6_carryOut : GoodIn wsX6_change (wsV RX6 33 RX6 yX6_carryOut wsX6_carryOut) := goodIn_app (goodIn_of _ (by decide +kernel)) ggX6_change_X6_carryOut
theorem dX6_change_0 : decode cX6_change 0 = .ok (.aload_n 0, 1) := by decide +kernel
theorem dX6_change_1 : decode cX6_change 1 = .ok (.bipush 99, 2) := by decide +kernel
theorem dX6_change_3 : decode cX6_change 3 = .ok (.iload_n 1, 1) := by decide +kernel
theorem dX6_change_4 : decode cX6_change 4 = .ok (.iconst 0, 1) := by decide +kernel
theorem dX6_change_5 : decode cX6_change 5 = .ok (.invokevirtual 33, 3) := by decide +kernel
theorem dX6_change_8 : decode cX6_change 8 = .ok (.ireturn, 1) := by decide +kernel
set_option maxRecDepth 20000 in
theorem ggX6_days_X6_carryOut : GoodIn wsX6_days wsX6_carryOut := goodIn_rB _ [5, 6, 7, 8, 9, 10, 11, 12, 13, 14, 15, 16, 17, 18, 19, 20, 21, 22, 23, 24, 25, 26, 27, 28, 29, 30, 31, 32, 33, 34, 35, 36, 37, 38, 39, 40, 41, 42, 43, 44, 45, 46, 47, 48, 49, 50, 51, 52, 53, 54, 55, 56, 57, 58, 59, 60, 61, 62, 63, 64, 65, 66, 67, 68, 69, 70, 71, 72, 73, 74, 75, 76, 77, 78, 79, 80, 81, 82, 83, 84, 85, 86, 87, 88, 4, 89, 90, 91, 92, 93, 94, 95, 96, 97, 98, 99, 100, 101, 102, 103, 104, 105, 106, 107, 108, 109, 110, 111, 112, 113, 114, 115, 116, 117, 118, 119, 120, 121, 122, 123, 124, 125, 126, 127, 128, 129, 130, 131, 132, 133, 134, 135, 136, 137, 138, 139, 140, 141, 142, 143, 144, 145, 146, 147, 148, 149, 150, 151, 152, 153, 154, 155, 156, 157, 158, 159, 160, 161, 162, 163, 164, 165, 166, 167, 168, 169, 170, 171, 172, 173, 174, 175, 176, 177, 178, 179, 180, 181, 182, 183, 184, 185, 186, 187, 188, 189, 190, 191, 192, 193, 194, 195, 196, 197, 198, 199, 200, 201, 202, 203, 204, 205, 206, 207, 208, 209, 210, 211, 212, 213, 214, 215, 216, 217, 218] (by decide +kernel) (by decide +kernel)
set_option maxRecDepth 20000 in
theorem gX6_days_X6_carryOut : GoodIn wsX6_days (wsV RX6 33 RX6 yX6_carryOut wsX6_carryOut) := goodIn_app (goodIn_of _ (by decide +kernel)) ggX6_days_X6_carryOut
theorem dX6_days_0 : decode cX6_days 0 = .ok (.aload_n 0, 1) := by decide +kernel
theorem dX6_days_1 : decode cX6_days 1 = .ok (.bipush 100, 2) := by decide +kernel
theorem dX6_days_3 : decode cX6_days 3 = .ok (.iload_n 1, 1) := by decide +kernel
theorem dX6_days_4 : decode cX6_days 4 = .ok (.iconst 0, 1) := by decide +kernel
theorem dX6_days_5 : decode cX6_days 5 = .ok (.invokevirtual 33, 3) := by decide +kernel
theorem dX6_days_8 : decode cX6_days 8 = .ok (.ireturn, 1) := by decide +kernel
set_option maxRecDepth 20000 in
theorem ggX6_set_X0_record : GoodIn wsX6_set wsX0_record := goodIn_rB _ [7, 8, 9, 10, 11, 12, 13, 14, 15, 16, 17, 18, 19, 20, 21, 22, 23, 24, 25, 26, 27, 28, 29, 30, 31, 32, 33, 34, 35, 36, 37, 38, 39, 40, 41, 42, 43, 44, 45, 46, 47, 48, 49, 50, 51, 52, 53, 54, 55, 56, 57, 58, 59, 60, 61, 62, 63, 64, 65, 66, 67, 87, 88, 89, 90, 91, 92, 93, 94, 95, 96, 97, 98, 99, 100, 101, 102, 103, 104, 105, 106, 107, 108, 109, 110, 111, 112, 113, 114, 115, 116, 117, 118, 119, 120, 121] (by decide +kernel) (by decide +kernel)
set_option maxRecDepth 20000 in
theorem gX6_set_X0_record : GoodIn wsX6_set (wsV RX6 37 RX0 yX0_record wsX0_record) := goodIn_app (goodIn_of _ (by decide +kernel)) ggX6_set_X0_record
set_option maxRecDepth 20000 in
theorem ggX6_set_X5_putSetting : GoodIn wsX6_set wsX5_putSetting := goodIn_rB _ [71, 72, 18, 90, 91, 92, 93, 94, 95, 96, 97, 98, 99, 100, 101, 102] (by decide +kernel) (by decide +kernel)
set_option maxRecDepth 20000 in
theorem gX6_set_X5_putSetting : GoodIn wsX6_set (wsV RX6 49 RX5 yX5_putSetting wsX5_putSetting) := goodIn_app (goodIn_of _ (by decide +kernel)) ggX6_set_X5_putSetting
set_option maxRecDepth 20000 in
theorem ggX6_set_X6_kept : GoodIn wsX6_set wsX6_kept := goodIn_rB _ [77, 1, 78, 79, 80, 6, 81, 8, 82, 83, 84, 85, 86, 87, 88, 89] (by decide +kernel) (by decide +kernel)
set_option maxRecDepth 20000 in
theorem gX6_set_X6_kept : GoodIn wsX6_set (wsV RX6 45 RX6 yX6_kept wsX6_kept) := goodIn_app (goodIn_of _ (by decide +kernel)) ggX6_set_X6_kept
theorem dX6_set_0 : decode cX6_set 0 = .ok (.aload_n 0, 1) := by decide +kernel
theorem dX6_set_1 : decode cX6_set 1 = .ok (.getfield 22, 3) := by decide +kernel
theorem dX6_set_4 : decode cX6_set 4 = .ok (.aload_n 0, 1) := by decide +kernel
theorem dX6_set_5 : decode cX6_set 5 = .ok (.getfield 10, 3) := by decide +kernel
theorem dX6_set_8 : decode cX6_set 8 = .ok (.invokevirtual 37, 3) := by decide +kernel
theorem dX6_set_11 : decode cX6_set 11 = .ok (.aload_n 0, 1) := by decide +kernel
theorem dX6_set_12 : decode cX6_set 12 = .ok (.aload_n 0, 1) := by decide +kernel
theorem dX6_set_13 : decode cX6_set 13 = .ok (.getfield 10, 3) := by decide +kernel
theorem dX6_set_16 : decode cX6_set 16 = .ok (.iload_n 1, 1) := by decide +kernel
theorem dX6_set_17 : decode cX6_set 17 = .ok (.iload_n 2, 1) := by decide +kernel
theorem dX6_set_18 : decode cX6_set 18 = .ok (.invokevirtual 49, 3) := by decide +kernel
theorem dX6_set_21 : decode cX6_set 21 = .ok (.invokevirtual 45, 3) := by decide +kernel
theorem dX6_set_24 : decode cX6_set 24 = .ok (.ireturn, 1) := by decide +kernel
set_option maxRecDepth 20000 in
theorem ggX6_houseOf_X5_houseNumbered : GoodIn wsX6_houseOf wsX5_houseNumbered := goodIn_rB _ [7, 8, 9, 40, 41, 42, 43, 44, 45, 46, 47, 48, 49, 50, 51, 52] (by decide +kernel) (by decide +kernel)
set_option maxRecDepth 20000 in
theorem gX6_houseOf_X5_houseNumbered : GoodIn wsX6_houseOf (wsV RX6 53 RX5 yX5_houseNumbered wsX5_houseNumbered) := goodIn_app (goodIn_of _ (by decide +kernel)) ggX6_houseOf_X5_houseNumbered
set_option maxRecDepth 20000 in
theorem ggX6_houseOf_X1_fact : GoodIn wsX6_houseOf wsX1_fact := goodIn_rB _ [14, 15, 16, 17, 18, 19, 20, 21, 22, 23, 24, 25, 26, 27, 28, 29, 30, 31, 32, 13, 33, 34, 35, 53, 54, 55, 56, 57, 58, 59, 60, 61, 62, 63, 64, 65, 66] (by decide +kernel) (by decide +kernel)
set_option maxRecDepth 20000 in
theorem gX6_houseOf_X1_fact : GoodIn wsX6_houseOf (wsV RX6 58 RX1 yX1_fact wsX1_fact) := goodIn_app (goodIn_of _ (by decide +kernel)) ggX6_houseOf_X1_fact
theorem dX6_houseOf_0 : decode cX6_houseOf 0 = .ok (.aload_n 0, 1) := by decide +kernel
theorem dX6_houseOf_1 : decode cX6_houseOf 1 = .ok (.getfield 10, 3) := by decide +kernel
theorem dX6_houseOf_4 : decode cX6_houseOf 4 = .ok (.iload_n 1, 1) := by decide +kernel
theorem dX6_houseOf_5 : decode cX6_houseOf 5 = .ok (.invokevirtual 53, 3) := by decide +kernel
theorem dX6_houseOf_8 : decode cX6_houseOf 8 = .ok (.astore_n 3, 1) := by decide +kernel
theorem dX6_houseOf_9 : decode cX6_houseOf 9 = .ok (.aload_n 3, 1) := by decide +kernel
theorem dX6_houseOf_10 : decode cX6_houseOf 10 = .ok (.ifnonnull 8, 3) := by decide +kernel
theorem dX6_houseOf_13 : decode cX6_houseOf 13 = .ok (.ldc 57, 2) := by decide +kernel
theorem dX6_houseOf_15 : decode cX6_houseOf 15 = .ok (.goto 8, 3) := by decide +kernel
theorem dX6_houseOf_18 : decode cX6_houseOf 18 = .ok (.aload_n 3, 1) := by decide +kernel
theorem dX6_houseOf_19 : decode cX6_houseOf 19 = .ok (.iload_n 2, 1) := by decide +kernel
theorem dX6_houseOf_20 : decode cX6_houseOf 20 = .ok (.invokevirtual 58, 3) := by decide +kernel
theorem dX6_houseOf_23 : decode cX6_houseOf 23 = .ok (.ireturn, 1) := by decide +kernel
set_option maxRecDepth 20000 in
theorem ggX6_at_X5_streetNumbered : GoodIn wsX6_at wsX5_streetNumbered := goodIn_rB _ [8, 9, 27, 28, 29, 30, 31, 32, 33, 34, 35, 36, 37, 38, 39] (by decide +kernel) (by decide +kernel)
set_option maxRecDepth 20000 in
theorem gX6_at_X5_streetNumbered : GoodIn wsX6_at (wsV RX6 63 RX5 yX5_streetNumbered wsX5_streetNumbered) := goodIn_app (goodIn_of _ (by decide +kernel)) ggX6_at_X5_streetNumbered
set_option maxRecDepth 20000 in
theorem ggX6_at_X6_isPlace : GoodIn wsX6_at wsX6_isPlace := goodIn_rB _ [13] (by decide +kernel) (by decide +kernel)
set_option maxRecDepth 20000 in
theorem gX6_at_X6_isPlace : GoodIn wsX6_at (va_wsS RX6 67 yX6_isPlace wsX6_isPlace) := goodIn_app (goodIn_of _ (by decide +kernel)) ggX6_at_X6_isPlace
set_option maxRecDepth 20000 in
theorem ggX6_at_X6_stepOf : GoodIn wsX6_at wsX6_stepOf := goodIn_rB _ [16] (by decide +kernel) (by decide +kernel)
set_option maxRecDepth 20000 in
theorem gX6_at_X6_stepOf : GoodIn wsX6_at (va_wsS RX6 71 yX6_stepOf wsX6_stepOf) := goodIn_app (goodIn_of _ (by decide +kernel)) ggX6_at_X6_stepOf
set_option maxRecDepth 20000 in
theorem ggX6_at_X4_houseOn : GoodIn wsX6_at wsX4_houseOn := goodIn_rB _ [21, 22, 40, 41] (by decide +kernel) (by decide +kernel)
set_option maxRecDepth 20000 in
theorem gX6_at_X4_houseOn : GoodIn wsX6_at (wsV RX6 74 RX4 yX4_houseOn wsX4_houseOn) := goodIn_app (goodIn_of _ (by decide +kernel)) ggX6_at_X4_houseOn
theorem dX6_at_0 : decode cX6_at 0 = .ok (.aload_n 0, 1) := by decide +kernel
theorem dX6_at_1 : decode cX6_at 1 = .ok (.getfield 10, 3) := by decide +kernel
theorem dX6_at_4 : decode cX6_at 4 = .ok (.iload_n 1, 1) := by decide +kernel
theorem dX6_at_5 : decode cX6_at 5 = .ok (.invokevirtual 63, 3) := by decide +kernel
theorem dX6_at_8 : decode cX6_at 8 = .ok (.astore_n 3, 1) := by decide +kernel
theorem dX6_at_9 : decode cX6_at 9 = .ok (.aload_n 3, 1) := by decide +kernel
theorem dX6_at_10 : decode cX6_at 10 = .ok (.ifnull 10, 3) := by decide +kernel
theorem dX6_at_13 : decode cX6_at 13 = .ok (.iload_n 2, 1) := by decide +kernel
theorem dX6_at_14 : decode cX6_at 14 = .ok (.invokestatic 67, 3) := by decide +kernel
theorem dX6_at_17 : decode cX6_at 17 = .ok (.ifCond .ne 6, 3) := by decide +kernel
theorem dX6_at_20 : decode cX6_at 20 = .ok (.ldc 57, 2) := by decide +kernel
theorem dX6_at_22 : decode cX6_at 22 = .ok (.ireturn, 1) := by decide +kernel
theorem dX6_at_23 : decode cX6_at 23 = .ok (.aload_n 3, 1) := by decide +kernel
theorem dX6_at_24 : decode cX6_at 24 = .ok (.iload_n 2, 1) := by decide +kernel
theorem dX6_at_25 : decode cX6_at 25 = .ok (.invokestatic 71, 3) := by decide +kernel
theorem dX6_at_28 : decode cX6_at 28 = .ok (.invokevirtual 74, 3) := by decide +kernel
theorem dX6_at_31 : decode cX6_at 31 = .ok (.istore 4, 2) := by decide +kernel
theorem dX6_at_33 : decode cX6_at 33 = .ok (.iload 4, 2) := by decide +kernel
theorem dX6_at_35 : decode cX6_at 35 = .ok (.iconst (-1), 1) := by decide +kernel
theorem dX6_at_36 : decode cX6_at 36 = .ok (.if_icmp .ne 8, 3) := by decide +kernel
theorem dX6_at_39 : decode cX6_at 39 = .ok (.ldc 79, 2) := by decide +kernel
theorem dX6_at_41 : decode cX6_at 41 = .ok (.goto 5, 3) := by decide +kernel
theorem dX6_at_44 : decode cX6_at 44 = .ok (.iload 4, 2) := by decide +kernel
theorem dX6_at_46 : decode cX6_at 46 = .ok (.ireturn, 1) := by decide +kernel
set_option maxRecDepth 20000 in
theorem ggX6_next_X5_streetNumbered : GoodIn wsX6_next wsX5_streetNumbered := goodIn_rB _ [7, 8, 29, 30, 31, 32, 33, 34, 35, 36, 37, 38, 39, 40, 41] (by decide +kernel) (by decide +kernel)
set_option maxRecDepth 20000 in
theorem gX6_next_X5_streetNumbered : GoodIn wsX6_next (wsV RX6 63 RX5 yX5_streetNumbered wsX5_streetNumbered) := goodIn_app (goodIn_of _ (by decide +kernel)) ggX6_next_X5_streetNumbered
set_option maxRecDepth 20000 in
theorem ggX6_next_X4_houseRanked : GoodIn wsX6_next wsX4_houseRanked := goodIn_rB _ [13, 14, 15, 16, 17, 12, 18, 19, 20, 21, 22, 23, 24, 42, 43] (by decide +kernel) (by decide +kernel)
set_option maxRecDepth 20000 in
theorem gX6_next_X4_houseRanked : GoodIn wsX6_next (wsV RX6 80 RX4 yX4_houseRanked wsX4_houseRanked) := goodIn_app (goodIn_of _ (by decide +kernel)) ggX6_next_X4_houseRanked
theorem dX6_next_0 : decode cX6_next 0 = .ok (.aload_n 0, 1) := by decide +kernel
theorem dX6_next_1 : decode cX6_next 1 = .ok (.getfield 10, 3) := by decide +kernel
theorem dX6_next_4 : decode cX6_next 4 = .ok (.iload_n 1, 1) := by decide +kernel
theorem dX6_next_5 : decode cX6_next 5 = .ok (.invokevirtual 63, 3) := by decide +kernel
theorem dX6_next_8 : decode cX6_next 8 = .ok (.astore_n 3, 1) := by decide +kernel
theorem dX6_next_9 : decode cX6_next 9 = .ok (.aload_n 3, 1) := by decide +kernel
theorem dX6_next_10 : decode cX6_next 10 = .ok (.ifnull 7, 3) := by decide +kernel
theorem dX6_next_13 : decode cX6_next 13 = .ok (.iload_n 2, 1) := by decide +kernel
theorem dX6_next_14 : decode cX6_next 14 = .ok (.ifCond .ge 6, 3) := by decide +kernel
theorem dX6_next_17 : decode cX6_next 17 = .ok (.ldc 57, 2) := by decide +kernel
theorem dX6_next_19 : decode cX6_next 19 = .ok (.ireturn, 1) := by decide +kernel
theorem dX6_next_20 : decode cX6_next 20 = .ok (.aload_n 3, 1) := by decide +kernel
theorem dX6_next_21 : decode cX6_next 21 = .ok (.iload_n 2, 1) := by decide +kernel
theorem dX6_next_22 : decode cX6_next 22 = .ok (.invokevirtual 80, 3) := by decide +kernel
theorem dX6_next_25 : decode cX6_next 25 = .ok (.ireturn, 1) := by decide +kernel
set_option maxRecDepth 20000 in
theorem ggX6_ledger_X2_entry : GoodIn wsX6_ledger wsX2_entry := goodIn_rB _ [6, 7, 8, 9, 10, 11, 29, 30, 31] (by decide +kernel) (by decide +kernel)
set_option maxRecDepth 20000 in
theorem gX6_ledger_X2_entry : GoodIn wsX6_ledger (wsV RX6 87 RX2 yX2_entry wsX2_entry) := goodIn_app (goodIn_of _ (by decide +kernel)) ggX6_ledger_X2_entry
theorem dX6_ledger_0 : decode cX6_ledger 0 = .ok (.aload_n 0, 1) := by decide +kernel
theorem dX6_ledger_1 : decode cX6_ledger 1 = .ok (.getfield 10, 3) := by decide +kernel
theorem dX6_ledger_4 : decode cX6_ledger 4 = .ok (.getfield 83, 3) := by decide +kernel
theorem dX6_ledger_7 : decode cX6_ledger 7 = .ok (.iload_n 1, 1) := by decide +kernel
theorem dX6_ledger_8 : decode cX6_ledger 8 = .ok (.iload_n 2, 1) := by decide +kernel
theorem dX6_ledger_9 : decode cX6_ledger 9 = .ok (.invokevirtual 87, 3) := by decide +kernel
theorem dX6_ledger_12 : decode cX6_ledger 12 = .ok (.ireturn, 1) := by decide +kernel
set_option maxRecDepth 20000 in
theorem ggX6_why_X5_houseNumbered : GoodIn wsX6_why wsX5_houseNumbered := goodIn_rB _ [7, 8, 9, 21, 22, 23, 24, 25, 26, 27, 28, 29, 30, 31, 32, 33] (by decide +kernel) (by decide +kernel)
set_option maxRecDepth 20000 in
theorem gX6_why_X5_houseNumbered : GoodIn wsX6_why (wsV RX6 53 RX5 yX5_houseNumbered wsX5_houseNumbered) := goodIn_app (goodIn_of _ (by decide +kernel)) ggX6_why_X5_houseNumbered
set_option maxRecDepth 20000 in
theorem ggX6_why_X1_reasonOn : GoodIn wsX6_why wsX1_reasonOn := goodIn_rB _ [14, 15, 16, 34, 35, 36, 37, 38, 39, 40, 41, 42, 43, 44, 45, 46, 47] (by decide +kernel) (by decide +kernel)
set_option maxRecDepth 20000 in
theorem gX6_why_X1_reasonOn : GoodIn wsX6_why (wsV RX6 96 RX1 yX1_reasonOn wsX1_reasonOn) := goodIn_app (goodIn_of _ (by decide +kernel)) ggX6_why_X1_reasonOn
theorem dX6_why_0 : decode cX6_why 0 = .ok (.aload_n 0, 1) := by decide +kernel
theorem dX6_why_1 : decode cX6_why 1 = .ok (.getfield 10, 3) := by decide +kernel
theorem dX6_why_4 : decode cX6_why 4 = .ok (.iload_n 1, 1) := by decide +kernel
theorem dX6_why_5 : decode cX6_why 5 = .ok (.invokevirtual 53, 3) := by decide +kernel
theorem dX6_why_8 : decode cX6_why 8 = .ok (.astore_n 2, 1) := by decide +kernel
theorem dX6_why_9 : decode cX6_why 9 = .ok (.aload_n 2, 1) := by decide +kernel
theorem dX6_why_10 : decode cX6_why 10 = .ok (.ifnonnull 8, 3) := by decide +kernel
theorem dX6_why_13 : decode cX6_why 13 = .ok (.ldc 57, 2) := by decide +kernel
theorem dX6_why_15 : decode cX6_why 15 = .ok (.goto 14, 3) := by decide +kernel
theorem dX6_why_18 : decode cX6_why 18 = .ok (.aload_n 2, 1) := by decide +kernel
theorem dX6_why_19 : decode cX6_why 19 = .ok (.aload_n 0, 1) := by decide +kernel
theorem dX6_why_20 : decode cX6_why 20 = .ok (.getfield 10, 3) := by decide +kernel
theorem dX6_why_23 : decode cX6_why 23 = .ok (.getfield 92, 3) := by decide +kernel
theorem dX6_why_26 : decode cX6_why 26 = .ok (.invokevirtual 96, 3) := by decide +kernel
theorem dX6_why_29 : decode cX6_why 29 = .ok (.ireturn, 1) := by decide +kernel
set_option maxRecDepth 20000 in
theorem ggX6_ifRead_X5_houseNumbered : GoodIn wsX6_ifRead wsX5_houseNumbered := goodIn_rB _ [7, 8, 9, 40, 41, 42, 43, 44, 45, 46, 47, 48, 49, 50, 51, 52] (by decide +kernel) (by decide +kernel)
set_option maxRecDepth 20000 in
theorem gX6_ifRead_X5_houseNumbered : GoodIn wsX6_ifRead (wsV RX6 53 RX5 yX5_houseNumbered wsX5_houseNumbered) := goodIn_app (goodIn_of _ (by decide +kernel)) ggX6_ifRead_X5_houseNumbered
set_option maxRecDepth 20000 in
theorem ggX6_ifRead_X1_used : GoodIn wsX6_ifRead wsX1_used := goodIn_rB _ [14, 15, 16, 17, 26, 27, 28, 29, 30, 31, 32, 33, 34, 35, 36, 37, 38, 39] (by decide +kernel) (by decide +kernel)
set_option maxRecDepth 20000 in
theorem gX6_ifRead_X1_used : GoodIn wsX6_ifRead (wsV RX6 99 RX1 yX1_used wsX1_used) := goodIn_app (goodIn_of _ (by decide +kernel)) ggX6_ifRead_X1_used
set_option maxRecDepth 20000 in
theorem ggX6_ifRead_X6_unitsFor : GoodIn wsX6_ifRead wsX6_unitsFor := goodIn_rB _ [21] (by decide +kernel) (by decide +kernel)
set_option maxRecDepth 20000 in
theorem gX6_ifRead_X6_unitsFor : GoodIn wsX6_ifRead (va_wsS RX6 106 yX6_unitsFor wsX6_unitsFor) := goodIn_app (goodIn_of _ (by decide +kernel)) ggX6_ifRead_X6_unitsFor
theorem dX6_ifRead_0 : decode cX6_ifRead 0 = .ok (.aload_n 0, 1) := by decide +kernel
theorem dX6_ifRead_1 : decode cX6_ifRead 1 = .ok (.getfield 10, 3) := by decide +kernel
theorem dX6_ifRead_4 : decode cX6_ifRead 4 = .ok (.iload_n 1, 1) := by decide +kernel
theorem dX6_ifRead_5 : decode cX6_ifRead 5 = .ok (.invokevirtual 53, 3) := by decide +kernel
theorem dX6_ifRead_8 : decode cX6_ifRead 8 = .ok (.astore_n 3, 1) := by decide +kernel
theorem dX6_ifRead_9 : decode cX6_ifRead 9 = .ok (.aload_n 3, 1) := by decide +kernel
theorem dX6_ifRead_10 : decode cX6_ifRead 10 = .ok (.ifnonnull 6, 3) := by decide +kernel
theorem dX6_ifRead_13 : decode cX6_ifRead 13 = .ok (.ldc 57, 2) := by decide +kernel
theorem dX6_ifRead_15 : decode cX6_ifRead 15 = .ok (.ireturn, 1) := by decide +kernel
theorem dX6_ifRead_16 : decode cX6_ifRead 16 = .ok (.aload_n 3, 1) := by decide +kernel
theorem dX6_ifRead_17 : decode cX6_ifRead 17 = .ok (.invokevirtual 99, 3) := by decide +kernel
theorem dX6_ifRead_20 : decode cX6_ifRead 20 = .ok (.istore 4, 2) := by decide +kernel
theorem dX6_ifRead_22 : decode cX6_ifRead 22 = .ok (.iload 4, 2) := by decide +kernel
theorem dX6_ifRead_24 : decode cX6_ifRead 24 = .ok (.aload_n 3, 1) := by decide +kernel
theorem dX6_ifRead_25 : decode cX6_ifRead 25 = .ok (.getfield 103, 3) := by decide +kernel
theorem dX6_ifRead_28 : decode cX6_ifRead 28 = .ok (.invokestatic 106, 3) := by decide +kernel
theorem dX6_ifRead_31 : decode cX6_ifRead 31 = .ok (.istore 5, 2) := by decide +kernel
theorem dX6_ifRead_33 : decode cX6_ifRead 33 = .ok (.aload_n 3, 1) := by decide +kernel
theorem dX6_ifRead_34 : decode cX6_ifRead 34 = .ok (.getfield 103, 3) := by decide +kernel
theorem dX6_ifRead_37 : decode cX6_ifRead 37 = .ok (.bipush 100, 2) := by decide +kernel
theorem dX6_ifRead_39 : decode cX6_ifRead 39 = .ok (.iload 5, 2) := by decide +kernel
theorem dX6_ifRead_41 : decode cX6_ifRead 41 = .ok (.imul, 1) := by decide +kernel
theorem dX6_ifRead_42 : decode cX6_ifRead 42 = .ok (.iadd, 1) := by decide +kernel
theorem dX6_ifRead_43 : decode cX6_ifRead 43 = .ok (.iload 4, 2) := by decide +kernel
theorem dX6_ifRead_45 : decode cX6_ifRead 45 = .ok (.isub, 1) := by decide +kernel
theorem dX6_ifRead_46 : decode cX6_ifRead 46 = .ok (.istore 6, 2) := by decide +kernel
theorem dX6_ifRead_48 : decode cX6_ifRead 48 = .ok (.iload_n 2, 1) := by decide +kernel
theorem dX6_ifRead_49 : decode cX6_ifRead 49 = .ok (.tableswitch 74 0 3 #[31, 34, 41, 61], 31) := by decide +kernel
theorem dX6_ifRead_80 : decode cX6_ifRead 80 = .ok (.iload 5, 2) := by decide +kernel
theorem dX6_ifRead_82 : decode cX6_ifRead 82 = .ok (.ireturn, 1) := by decide +kernel
theorem dX6_ifRead_83 : decode cX6_ifRead 83 = .ok (.sipush 1000, 3) := by decide +kernel
theorem dX6_ifRead_86 : decode cX6_ifRead 86 = .ok (.iload 6, 2) := by decide +kernel
theorem dX6_ifRead_88 : decode cX6_ifRead 88 = .ok (.iadd, 1) := by decide +kernel
theorem dX6_ifRead_89 : decode cX6_ifRead 89 = .ok (.ireturn, 1) := by decide +kernel
theorem dX6_ifRead_90 : decode cX6_ifRead 90 = .ok (.iload 6, 2) := by decide +kernel
theorem dX6_ifRead_92 : decode cX6_ifRead 92 = .ok (.ifCond .le 7, 3) := by decide +kernel
theorem dX6_ifRead_95 : decode cX6_ifRead 95 = .ok (.iconst 1, 1) := by decide +kernel
theorem dX6_ifRead_96 : decode cX6_ifRead 96 = .ok (.goto 13, 3) := by decide +kernel
theorem dX6_ifRead_99 : decode cX6_ifRead 99 = .ok (.iload 6, 2) := by decide +kernel
theorem dX6_ifRead_101 : decode cX6_ifRead 101 = .ok (.ifCond .ge 7, 3) := by decide +kernel
theorem dX6_ifRead_104 : decode cX6_ifRead 104 = .ok (.iconst 2, 1) := by decide +kernel
theorem dX6_ifRead_105 : decode cX6_ifRead 105 = .ok (.goto 4, 3) := by decide +kernel
theorem dX6_ifRead_108 : decode cX6_ifRead 108 = .ok (.iconst 0, 1) := by decide +kernel
theorem dX6_ifRead_109 : decode cX6_ifRead 109 = .ok (.ireturn, 1) := by decide +kernel
theorem dX6_ifRead_110 : decode cX6_ifRead 110 = .ok (.iload 5, 2) := by decide +kernel
theorem dX6_ifRead_112 : decode cX6_ifRead 112 = .ok (.aload_n 0, 1) := by decide +kernel
theorem dX6_ifRead_113 : decode cX6_ifRead 113 = .ok (.getfield 10, 3) := by decide +kernel
theorem dX6_ifRead_116 : decode cX6_ifRead 116 = .ok (.getfield 109, 3) := by decide +kernel
theorem dX6_ifRead_119 : decode cX6_ifRead 119 = .ok (.iconst 1, 1) := by decide +kernel
theorem dX6_ifRead_120 : decode cX6_ifRead 120 = .ok (.iaload, 1) := by decide +kernel
theorem dX6_ifRead_121 : decode cX6_ifRead 121 = .ok (.imul, 1) := by decide +kernel
theorem dX6_ifRead_122 : decode cX6_ifRead 122 = .ok (.ireturn, 1) := by decide +kernel
theorem dX6_ifRead_123 : decode cX6_ifRead 123 = .ok (.ldc 57, 2) := by decide +kernel
theorem dX6_ifRead_125 : decode cX6_ifRead 125 = .ok (.ireturn, 1) := by decide +kernel
set_option maxRecDepth 20000 in
theorem ggX6_wronged_X5_houseByBalance : GoodIn wsX6_wronged wsX5_houseByBalance := goodIn_rB _ [7, 8, 9, 10, 11, 12, 13, 6, 14, 19, 20, 21, 22, 23, 24, 25, 26, 27, 28, 29, 30, 31, 32, 33, 34, 35, 36, 37, 38, 39, 40, 41, 42, 43, 44, 45] (by decide +kernel) (by decide +kernel)
set_option maxRecDepth 20000 in
theorem gX6_wronged_X5_houseByBalance : GoodIn wsX6_wronged (wsV RX6 113 RX5 yX5_houseByBalance wsX5_houseByBalance) := goodIn_app (goodIn_of _ (by decide +kernel)) ggX6_wronged_X5_houseByBalance
theorem dX6_wronged_0 : decode cX6_wronged 0 = .ok (.iload_n 1, 1) := by decide +kernel
theorem dX6_wronged_1 : decode cX6_wronged 1 = .ok (.ifCond .ge 8, 3) := by decide +kernel
theorem dX6_wronged_4 : decode cX6_wronged 4 = .ok (.ldc 57, 2) := by decide +kernel
theorem dX6_wronged_6 : decode cX6_wronged 6 = .ok (.goto 11, 3) := by decide +kernel
theorem dX6_wronged_9 : decode cX6_wronged 9 = .ok (.aload_n 0, 1) := by decide +kernel
theorem dX6_wronged_10 : decode cX6_wronged 10 = .ok (.getfield 10, 3) := by decide +kernel
theorem dX6_wronged_13 : decode cX6_wronged 13 = .ok (.iload_n 1, 1) := by decide +kernel
theorem dX6_wronged_14 : decode cX6_wronged 14 = .ok (.invokevirtual 113, 3) := by decide +kernel
theorem dX6_wronged_17 : decode cX6_wronged 17 = .ok (.ireturn, 1) := by decide +kernel
set_option maxRecDepth 20000 in
theorem ggX6_count_X5_number : GoodIn wsX6_count wsX5_number := goodIn_rB _ [8, 9, 10, 11, 12, 13, 14, 15, 16, 17, 18, 19, 20, 21, 22, 23, 7, 24, 25, 26, 27, 28, 29, 30, 31, 32, 33, 51, 52, 53, 54, 55, 56, 57, 58, 59, 60, 61, 62, 63, 64, 65, 66, 67, 68, 69, 70, 71, 72, 73, 74, 75, 76, 77, 78, 79, 80] (by decide +kernel) (by decide +kernel)
set_option maxRecDepth 20000 in
theorem gX6_count_X5_number : GoodIn wsX6_count (wsV RX6 150 RX5 yX5_number wsX5_number) := goodIn_app (goodIn_of _ (by decide +kernel)) ggX6_count_X5_number
theorem dX6_count_0 : decode cX6_count 0 = .ok (.iload_n 1, 1) := by decide +kernel
theorem dX6_count_1 : decode cX6_count 1 = .ok (.lookupswitch 43 #[(15, 27), (16, 35)], 27) := by decide +kernel
theorem dX6_count_28 : decode cX6_count 28 = .ok (.aload_n 0, 1) := by decide +kernel
theorem dX6_count_29 : decode cX6_count 29 = .ok (.getfield 22, 3) := by decide +kernel
theorem dX6_count_32 : decode cX6_count 32 = .ok (.getfield 144, 3) := by decide +kernel
theorem dX6_count_35 : decode cX6_count 35 = .ok (.ireturn, 1) := by decide +kernel
theorem dX6_count_36 : decode cX6_count 36 = .ok (.aload_n 0, 1) := by decide +kernel
theorem dX6_count_37 : decode cX6_count 37 = .ok (.getfield 29, 3) := by decide +kernel
theorem dX6_count_40 : decode cX6_count 40 = .ok (.getfield 147, 3) := by decide +kernel
theorem dX6_count_43 : decode cX6_count 43 = .ok (.ireturn, 1) := by decide +kernel
theorem dX6_count_44 : decode cX6_count 44 = .ok (.aload_n 0, 1) := by decide +kernel
theorem dX6_count_45 : decode cX6_count 45 = .ok (.getfield 10, 3) := by decide +kernel
theorem dX6_count_48 : decode cX6_count 48 = .ok (.iload_n 1, 1) := by decide +kernel
theorem dX6_count_49 : decode cX6_count 49 = .ok (.invokevirtual 150, 3) := by decide +kernel
theorem dX6_count_52 : decode cX6_count 52 = .ok (.ireturn, 1) := by decide +kernel
set_option maxRecDepth 20000 in
theorem ggX6_carryOut_X0_record : GoodIn wsX6_carryOut wsX0_record := goodIn_rB _ [7, 8, 9, 10, 11, 12, 13, 14, 15, 16, 17, 18, 19, 20, 21, 22, 23, 24, 25, 26, 27, 28, 29, 30, 31, 32, 33, 34, 35, 36, 37, 38, 39, 40, 41, 42, 43, 44, 45, 46, 47, 48, 49, 50, 51, 52, 53, 54, 55, 56, 57, 58, 59, 60, 61, 62, 63, 64, 65, 66, 67, 180, 181, 182, 183, 184, 185, 186, 187, 188, 189, 190, 191, 192, 193, 194, 195, 196, 197, 198, 199, 200, 201, 202, 203, 204, 205, 206, 207, 208, 209, 210, 211, 212, 213, 214] (by decide +kernel) (by decide +kernel)
set_option maxRecDepth 20000 in
theorem gX6_carryOut_X0_record : GoodIn wsX6_carryOut (wsV RX6 37 RX0 yX0_record wsX0_record) := goodIn_app (goodIn_of _ (by decide +kernel)) ggX6_carryOut_X0_record
set_option maxRecDepth 20000 in
theorem ggX6_carryOut_X5_obey : GoodIn wsX6_carryOut wsX5_obey := goodIn_rB _ [71, 72, 24, 73, 74, 75, 76, 13, 77, 78, 23, 15, 79, 80, 81, 82, 16, 83, 84, 85, 86, 87, 88, 89, 90, 54, 91, 56, 92, 93, 94, 95, 96, 97, 98, 99, 100, 101, 102, 103, 104, 105, 106, 107, 108, 109, 110, 111, 112, 113, 114, 115, 116, 117, 118, 35, 119, 42, 44, 120, 121, 122, 123, 17, 25, 26, 27, 18, 28, 124, 125, 126, 127, 39, 40, 128, 129, 130, 131, 132, 133, 134, 43, 45, 46, 47, 48, 135, 136, 137, 62, 138, 66, 64, 67, 139, 140, 141, 142, 143, 144, 145, 146, 50, 147, 148, 149, 150, 151, 152, 153, 154, 41, 155, 156, 157, 158, 159, 160, 161, 162, 58, 163, 164, 165, 166, 31, 29, 30, 183, 184, 185, 186, 187, 188, 189, 190, 191, 192, 193, 194, 195, 196, 197, 198, 199, 200, 201, 202, 203, 204, 205, 206, 207, 208, 209, 210, 211, 212, 213, 214] (by decide +kernel) (by decide +kernel)
set_option maxRecDepth 20000 in
theorem gX6_carryOut_X5_obey : GoodIn wsX6_carryOut (wsV RX6 176 RX5 yX5_obey wsX5_obey) := goodIn_app (goodIn_of _ (by decide +kernel)) ggX6_carryOut_X5_obey
set_option maxRecDepth 20000 in
theorem ggX6_carryOut_X6_kept : GoodIn wsX6_carryOut wsX6_kept := goodIn_rB _ [170, 1, 171, 172, 173, 6, 174, 8, 175, 176, 177, 178, 179, 180, 181, 182] (by decide +kernel) (by decide +kernel)
set_option maxRecDepth 20000 in
theorem gX6_carryOut_X6_kept : GoodIn wsX6_carryOut (wsV RX6 45 RX6 yX6_kept wsX6_kept) := goodIn_app (goodIn_of _ (by decide +kernel)) ggX6_carryOut_X6_kept
theorem dX6_carryOut_0 : decode cX6_carryOut 0 = .ok (.aload_n 0, 1) := by decide +kernel
theorem dX6_carryOut_1 : decode cX6_carryOut 1 = .ok (.getfield 22, 3) := by decide +kernel
theorem dX6_carryOut_4 : decode cX6_carryOut 4 = .ok (.aload_n 0, 1) := by decide +kernel
theorem dX6_carryOut_5 : decode cX6_carryOut 5 = .ok (.getfield 10, 3) := by decide +kernel
theorem dX6_carryOut_8 : decode cX6_carryOut 8 = .ok (.invokevirtual 37, 3) := by decide +kernel
theorem dX6_carryOut_11 : decode cX6_carryOut 11 = .ok (.aload_n 0, 1) := by decide +kernel
theorem dX6_carryOut_12 : decode cX6_carryOut 12 = .ok (.aload_n 0, 1) := by decide +kernel
theorem dX6_carryOut_13 : decode cX6_carryOut 13 = .ok (.getfield 10, 3) := by decide +kernel
theorem dX6_carryOut_16 : decode cX6_carryOut 16 = .ok (.iload_n 1, 1) := by decide +kernel
theorem dX6_carryOut_17 : decode cX6_carryOut 17 = .ok (.iload_n 2, 1) := by decide +kernel
theorem dX6_carryOut_18 : decode cX6_carryOut 18 = .ok (.iload_n 3, 1) := by decide +kernel
theorem dX6_carryOut_19 : decode cX6_carryOut 19 = .ok (.invokevirtual 176, 3) := by decide +kernel
theorem dX6_carryOut_22 : decode cX6_carryOut 22 = .ok (.invokevirtual 45, 3) := by decide +kernel
theorem dX6_carryOut_25 : decode cX6_carryOut 25 = .ok (.ireturn, 1) := by decide +kernel
set_option maxRecDepth 20000 in
theorem ggX6_kept_X0_keep : GoodIn wsX6_kept wsX0_keep := goodIn_rB _ [6, 7, 8, 13, 14, 15] (by decide +kernel) (by decide +kernel)
set_option maxRecDepth 20000 in
theorem gX6_kept_X0_keep : GoodIn wsX6_kept (wsV RX6 179 RX0 yX0_keep wsX0_keep) := goodIn_app (goodIn_of _ (by decide +kernel)) ggX6_kept_X0_keep
theorem dX6_kept_0 : decode cX6_kept 0 = .ok (.iload_n 1, 1) := by decide +kernel
theorem dX6_kept_1 : decode cX6_kept 1 = .ok (.ifCond .lt 10, 3) := by decide +kernel
theorem dX6_kept_4 : decode cX6_kept 4 = .ok (.aload_n 0, 1) := by decide +kernel
theorem dX6_kept_5 : decode cX6_kept 5 = .ok (.getfield 22, 3) := by decide +kernel
theorem dX6_kept_8 : decode cX6_kept 8 = .ok (.invokevirtual 179, 3) := by decide +kernel
theorem dX6_kept_11 : decode cX6_kept 11 = .ok (.iload_n 1, 1) := by decide +kernel
theorem dX6_kept_12 : decode cX6_kept 12 = .ok (.ireturn, 1) := by decide +kernel
theorem dX6_isPlace_0 : decode cX6_isPlace 0 = .ok (.iload_n 0, 1) := by decide +kernel
theorem dX6_isPlace_1 : decode cX6_isPlace 1 = .ok (.iconst 1, 1) := by decide +kernel
theorem dX6_isPlace_2 : decode cX6_isPlace 2 = .ok (.if_icmp .lt 13, 3) := by decide +kernel
theorem dX6_isPlace_5 : decode cX6_isPlace 5 = .ok (.iload_n 0, 1) := by decide +kernel
theorem dX6_isPlace_6 : decode cX6_isPlace 6 = .ok (.bipush 20, 2) := by decide +kernel
theorem dX6_isPlace_8 : decode cX6_isPlace 8 = .ok (.if_icmp .gt 7, 3) := by decide +kernel
theorem dX6_isPlace_11 : decode cX6_isPlace 11 = .ok (.iconst 1, 1) := by decide +kernel
theorem dX6_isPlace_12 : decode cX6_isPlace 12 = .ok (.goto 4, 3) := by decide +kernel
theorem dX6_isPlace_15 : decode cX6_isPlace 15 = .ok (.iconst 0, 1) := by decide +kernel
theorem dX6_isPlace_16 : decode cX6_isPlace 16 = .ok (.ireturn, 1) := by decide +kernel
theorem dX6_stepOf_0 : decode cX6_stepOf 0 = .ok (.iload_n 0, 1) := by decide +kernel
theorem dX6_stepOf_1 : decode cX6_stepOf 1 = .ok (.iconst 2, 1) := by decide +kernel
theorem dX6_stepOf_2 : decode cX6_stepOf 2 = .ok (.irem, 1) := by decide +kernel
theorem dX6_stepOf_3 : decode cX6_stepOf 3 = .ok (.iconst 1, 1) := by decide +kernel
theorem dX6_stepOf_4 : decode cX6_stepOf 4 = .ok (.if_icmp .ne 9, 3) := by decide +kernel
theorem dX6_stepOf_7 : decode cX6_stepOf 7 = .ok (.iload_n 0, 1) := by decide +kernel
theorem dX6_stepOf_8 : decode cX6_stepOf 8 = .ok (.iconst 2, 1) := by decide +kernel
theorem dX6_stepOf_9 : decode cX6_stepOf 9 = .ok (.idiv, 1) := by decide +kernel
theorem dX6_stepOf_10 : decode cX6_stepOf 10 = .ok (.goto 9, 3) := by decide +kernel
theorem dX6_stepOf_13 : decode cX6_stepOf 13 = .ok (.bipush 20, 2) := by decide +kernel
theorem dX6_stepOf_15 : decode cX6_stepOf 15 = .ok (.iload_n 0, 1) := by decide +kernel
theorem dX6_stepOf_16 : decode cX6_stepOf 16 = .ok (.iconst 2, 1) := by decide +kernel
theorem dX6_stepOf_17 : decode cX6_stepOf 17 = .ok (.idiv, 1) := by decide +kernel
theorem dX6_stepOf_18 : decode cX6_stepOf 18 = .ok (.isub, 1) := by decide +kernel
theorem dX6_stepOf_19 : decode cX6_stepOf 19 = .ok (.ireturn, 1) := by decide +kernel
theorem dX6_unitsFor_0 : decode cX6_unitsFor 0 = .ok (.iload_n 1, 1) := by decide +kernel
theorem dX6_unitsFor_1 : decode cX6_unitsFor 1 = .ok (.ifCond .le 8, 3) := by decide +kernel
theorem dX6_unitsFor_4 : decode cX6_unitsFor 4 = .ok (.iload_n 0, 1) := by decide +kernel
theorem dX6_unitsFor_5 : decode cX6_unitsFor 5 = .ok (.bipush 100, 2) := by decide +kernel
theorem dX6_unitsFor_7 : decode cX6_unitsFor 7 = .ok (.idiv, 1) := by decide +kernel
theorem dX6_unitsFor_8 : decode cX6_unitsFor 8 = .ok (.ireturn, 1) := by decide +kernel
theorem dX6_unitsFor_9 : decode cX6_unitsFor 9 = .ok (.iload_n 1, 1) := by decide +kernel
theorem dX6_unitsFor_10 : decode cX6_unitsFor 10 = .ok (.ifCond .ge 13, 3) := by decide +kernel
theorem dX6_unitsFor_13 : decode cX6_unitsFor 13 = .ok (.iload_n 0, 1) := by decide +kernel
theorem dX6_unitsFor_14 : decode cX6_unitsFor 14 = .ok (.bipush 100, 2) := by decide +kernel
theorem dX6_unitsFor_16 : decode cX6_unitsFor 16 = .ok (.iadd, 1) := by decide +kernel
theorem dX6_unitsFor_17 : decode cX6_unitsFor 17 = .ok (.iconst 1, 1) := by decide +kernel
theorem dX6_unitsFor_18 : decode cX6_unitsFor 18 = .ok (.isub, 1) := by decide +kernel
theorem dX6_unitsFor_19 : decode cX6_unitsFor 19 = .ok (.bipush 100, 2) := by decide +kernel
theorem dX6_unitsFor_21 : decode cX6_unitsFor 21 = .ok (.idiv, 1) := by decide +kernel
theorem dX6_unitsFor_22 : decode cX6_unitsFor 22 = .ok (.ireturn, 1) := by decide +kernel
theorem dX6_unitsFor_23 : decode cX6_unitsFor 23 = .ok (.iload_n 0, 1) := by decide +kernel
theorem dX6_unitsFor_24 : decode cX6_unitsFor 24 = .ok (.bipush 50, 2) := by decide +kernel
theorem dX6_unitsFor_26 : decode cX6_unitsFor 26 = .ok (.iadd, 1) := by decide +kernel
theorem dX6_unitsFor_27 : decode cX6_unitsFor 27 = .ok (.bipush 100, 2) := by decide +kernel
theorem dX6_unitsFor_29 : decode cX6_unitsFor 29 = .ok (.idiv, 1) := by decide +kernel
theorem dX6_unitsFor_30 : decode cX6_unitsFor 30 = .ok (.ireturn, 1) := by decide +kernel
