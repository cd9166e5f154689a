set_option maxRecDepth 20000 in
theorem ggX0_init_X5_init : GoodIn wsX0_init wsX5_init := goodIn_rB _ [10, 11, 2, 3, 12, 13, 14, 15, 16, 17, 18, 19, 20, 21, 22, 23, 24, 25, 26, 27, 28, 29, 30, 31, 32, 33, 34, 35, 36, 37, 38, 39, 43, 44, 45, 46, 47, 48, 49, 50, 51, 52, 53, 54, 55, 56, 57, 58, 59, 60, 61, 62, 63, 64, 65, 66, 67, 68, 69, 70, 71, 72, 73, 74] (by decide +kernel) (by decide +kernel)
set_option maxRecDepth 20000 in
theorem gX0_init_X5_init : GoodIn wsX0_init (wsX5_init) := ggX0_init_X5_init
theorem dX0_init_0 : decode cX0_init 0 = .ok (.aload_n 0, 1) := by decide +kernel
theorem dX0_init_1 : decode cX0_init 1 = .ok (.invokespecial 5, 3) := by decide +kernel
theorem dX0_init_4 : decode cX0_init 4 = .ok (.aload_n 0, 1) := by decide +kernel
theorem dX0_init_5 : decode cX0_init 5 = .ok (.iconst 5, 1) := by decide +kernel
theorem dX0_init_6 : decode cX0_init 6 = .ok (.anewarray 11, 3) := by decide +kernel
theorem dX0_init_9 : decode cX0_init 9 = .ok (.putfield 13, 3) := by decide +kernel
theorem dX0_init_12 : decode cX0_init 12 = .ok (.iconst 0, 1) := by decide +kernel
theorem dX0_init_13 : decode cX0_init 13 = .ok (.istore_n 1, 1) := by decide +kernel
theorem dX0_init_14 : decode cX0_init 14 = .ok (.iload_n 1, 1) := by decide +kernel
theorem dX0_init_15 : decode cX0_init 15 = .ok (.iconst 5, 1) := by decide +kernel
theorem dX0_init_16 : decode cX0_init 16 = .ok (.if_icmp .ge 22, 3) := by decide +kernel
theorem dX0_init_19 : decode cX0_init 19 = .ok (.aload_n 0, 1) := by decide +kernel
theorem dX0_init_20 : decode cX0_init 20 = .ok (.getfield 13, 3) := by decide +kernel
theorem dX0_init_23 : decode cX0_init 23 = .ok (.iload_n 1, 1) := by decide +kernel
theorem dX0_init_24 : decode cX0_init 24 = .ok (.new 11, 3) := by decide +kernel
theorem dX0_init_27 : decode cX0_init 27 = .ok (.dup, 1) := by decide +kernel
theorem dX0_init_28 : decode cX0_init 28 = .ok (.invokespecial 17, 3) := by decide +kernel
theorem dX0_init_31 : decode cX0_init 31 = .ok (.aastore, 1) := by decide +kernel
theorem dX0_init_32 : decode cX0_init 32 = .ok (.iinc 1 1, 3) := by decide +kernel
theorem dX0_init_35 : decode cX0_init 35 = .ok (.goto (-21), 3) := by decide +kernel
theorem dX0_init_38 : decode cX0_init 38 = .ok (.return_, 1) := by decide +kernel
set_option maxRecDepth 20000 in
theorem ggX0_record_X5_copyFrom : GoodIn wsX0_record wsX5_copyFrom := goodIn_rB _ [7, 8, 9, 10, 11, 12, 13, 14, 15, 16, 17, 18, 19, 20, 21, 22, 23, 24, 25, 26, 27, 28, 29, 30, 31, 32, 33, 34, 35, 36, 37, 38, 39, 40, 41, 42, 43, 44, 45, 46, 47, 48, 49, 50, 51, 52, 53, 54, 55, 56, 57, 58, 59, 60, 64, 65, 66, 67, 68, 69, 70, 71, 72, 73, 74, 75, 76, 77, 78, 79, 80, 81, 82, 83, 84, 85, 86, 87, 88, 89, 90, 91, 92, 93, 94, 95] (by decide +kernel) (by decide +kernel)
set_option maxRecDepth 20000 in
theorem gX0_record_X5_copyFrom : GoodIn wsX0_record (wsV RX0 22 RX5 yX5_copyFrom wsX5_copyFrom) := goodIn_app (goodIn_of _ (by decide +kernel)) ggX0_record_X5_copyFrom
theorem dX0_record_0 : decode cX0_record 0 = .ok (.aload_n 0, 1) := by decide +kernel
theorem dX0_record_1 : decode cX0_record 1 = .ok (.getfield 18, 3) := by decide +kernel
theorem dX0_record_4 : decode cX0_record 4 = .ok (.ifCond .lt 24, 3) := by decide +kernel
theorem dX0_record_7 : decode cX0_record 7 = .ok (.aload_n 0, 1) := by decide +kernel
theorem dX0_record_8 : decode cX0_record 8 = .ok (.getfield 18, 3) := by decide +kernel
theorem dX0_record_11 : decode cX0_record 11 = .ok (.iconst 5, 1) := by decide +kernel
theorem dX0_record_12 : decode cX0_record 12 = .ok (.if_icmp .ge 16, 3) := by decide +kernel
theorem dX0_record_15 : decode cX0_record 15 = .ok (.aload_n 0, 1) := by decide +kernel
theorem dX0_record_16 : decode cX0_record 16 = .ok (.getfield 13, 3) := by decide +kernel
theorem dX0_record_19 : decode cX0_record 19 = .ok (.aload_n 0, 1) := by decide +kernel
theorem dX0_record_20 : decode cX0_record 20 = .ok (.getfield 18, 3) := by decide +kernel
theorem dX0_record_23 : decode cX0_record 23 = .ok (.aaload, 1) := by decide +kernel
theorem dX0_record_24 : decode cX0_record 24 = .ok (.aload_n 1, 1) := by decide +kernel
theorem dX0_record_25 : decode cX0_record 25 = .ok (.invokevirtual 22, 3) := by decide +kernel
theorem dX0_record_28 : decode cX0_record 28 = .ok (.return_, 1) := by decide +kernel
theorem dX0_keep_0 : decode cX0_keep 0 = .ok (.aload_n 0, 1) := by decide +kernel
theorem dX0_keep_1 : decode cX0_keep 1 = .ok (.aload_n 0, 1) := by decide +kernel
theorem dX0_keep_2 : decode cX0_keep 2 = .ok (.getfield 18, 3) := by decide +kernel
theorem dX0_keep_5 : decode cX0_keep 5 = .ok (.iconst 1, 1) := by decide +kernel
theorem dX0_keep_6 : decode cX0_keep 6 = .ok (.iadd, 1) := by decide +kernel
theorem dX0_keep_7 : decode cX0_keep 7 = .ok (.iconst 5, 1) := by decide +kernel
theorem dX0_keep_8 : decode cX0_keep 8 = .ok (.irem, 1) := by decide +kernel
theorem dX0_keep_9 : decode cX0_keep 9 = .ok (.putfield 18, 3) := by decide +kernel
theorem dX0_keep_12 : decode cX0_keep 12 = .ok (.aload_n 0, 1) := by decide +kernel
theorem dX0_keep_13 : decode cX0_keep 13 = .ok (.getfield 26, 3) := by decide +kernel
theorem dX0_keep_16 : decode cX0_keep 16 = .ok (.iconst 4, 1) := by decide +kernel
theorem dX0_keep_17 : decode cX0_keep 17 = .ok (.if_icmp .ge 13, 3) := by decide +kernel
theorem dX0_keep_20 : decode cX0_keep 20 = .ok (.aload_n 0, 1) := by decide +kernel
theorem dX0_keep_21 : decode cX0_keep 21 = .ok (.dup, 1) := by decide +kernel
theorem dX0_keep_22 : decode cX0_keep 22 = .ok (.getfield 26, 3) := by decide +kernel
theorem dX0_keep_25 : decode cX0_keep 25 = .ok (.iconst 1, 1) := by decide +kernel
theorem dX0_keep_26 : decode cX0_keep 26 = .ok (.iadd, 1) := by decide +kernel
theorem dX0_keep_27 : decode cX0_keep 27 = .ok (.putfield 26, 3) := by decide +kernel
theorem dX0_keep_30 : decode cX0_keep 30 = .ok (.return_, 1) := by decide +kernel
theorem dX1_init_0 : decode cX1_init 0 = .ok (.aload_n 0, 1) := by decide +kernel
theorem dX1_init_1 : decode cX1_init 1 = .ok (.invokespecial 3, 3) := by decide +kernel
theorem dX1_init_4 : decode cX1_init 4 = .ok (.aload_n 0, 1) := by decide +kernel
theorem dX1_init_5 : decode cX1_init 5 = .ok (.iconst (-1), 1) := by decide +kernel
theorem dX1_init_6 : decode cX1_init 6 = .ok (.putfield 9, 3) := by decide +kernel
theorem dX1_init_9 : decode cX1_init 9 = .ok (.return_, 1) := by decide +kernel
theorem dX1_copyFrom_0 : decode cX1_copyFrom 0 = .ok (.aload_n 0, 1) := by decide +kernel
theorem dX1_copyFrom_1 : decode cX1_copyFrom 1 = .ok (.aload_n 1, 1) := by decide +kernel
theorem dX1_copyFrom_2 : decode cX1_copyFrom 2 = .ok (.getfield 15, 3) := by decide +kernel
theorem dX1_copyFrom_5 : decode cX1_copyFrom 5 = .ok (.putfield 15, 3) := by decide +kernel
theorem dX1_copyFrom_8 : decode cX1_copyFrom 8 = .ok (.aload_n 0, 1) := by decide +kernel
theorem dX1_copyFrom_9 : decode cX1_copyFrom 9 = .ok (.aload_n 1, 1) := by decide +kernel
theorem dX1_copyFrom_10 : decode cX1_copyFrom 10 = .ok (.getfield 18, 3) := by decide +kernel
theorem dX1_copyFrom_13 : decode cX1_copyFrom 13 = .ok (.putfield 18, 3) := by decide +kernel
theorem dX1_copyFrom_16 : decode cX1_copyFrom 16 = .ok (.aload_n 0, 1) := by decide +kernel
theorem dX1_copyFrom_17 : decode cX1_copyFrom 17 = .ok (.aload_n 1, 1) := by decide +kernel
theorem dX1_copyFrom_18 : decode cX1_copyFrom 18 = .ok (.getfield 21, 3) := by decide +kernel
theorem dX1_copyFrom_21 : decode cX1_copyFrom 21 = .ok (.putfield 21, 3) := by decide +kernel
theorem dX1_copyFrom_24 : decode cX1_copyFrom 24 = .ok (.aload_n 0, 1) := by decide +kernel
theorem dX1_copyFrom_25 : decode cX1_copyFrom 25 = .ok (.aload_n 1, 1) := by decide +kernel
theorem dX1_copyFrom_26 : decode cX1_copyFrom 26 = .ok (.getfield 24, 3) := by decide +kernel
theorem dX1_copyFrom_29 : decode cX1_copyFrom 29 = .ok (.putfield 24, 3) := by decide +kernel
theorem dX1_copyFrom_32 : decode cX1_copyFrom 32 = .ok (.aload_n 0, 1) := by decide +kernel
theorem dX1_copyFrom_33 : decode cX1_copyFrom 33 = .ok (.aload_n 1, 1) := by decide +kernel
theorem dX1_copyFrom_34 : decode cX1_copyFrom 34 = .ok (.getfield 27, 3) := by decide +kernel
theorem dX1_copyFrom_37 : decode cX1_copyFrom 37 = .ok (.putfield 27, 3) := by decide +kernel
theorem dX1_copyFrom_40 : decode cX1_copyFrom 40 = .ok (.aload_n 0, 1) := by decide +kernel
theorem dX1_copyFrom_41 : decode cX1_copyFrom 41 = .ok (.aload_n 1, 1) := by decide +kernel
theorem dX1_copyFrom_42 : decode cX1_copyFrom 42 = .ok (.getfield 30, 3) := by decide +kernel
theorem dX1_copyFrom_45 : decode cX1_copyFrom 45 = .ok (.putfield 30, 3) := by decide +kernel
theorem dX1_copyFrom_48 : decode cX1_copyFrom 48 = .ok (.aload_n 0, 1) := by decide +kernel
theorem dX1_copyFrom_49 : decode cX1_copyFrom 49 = .ok (.aload_n 1, 1) := by decide +kernel
theorem dX1_copyFrom_50 : decode cX1_copyFrom 50 = .ok (.getfield 34, 3) := by decide +kernel
theorem dX1_copyFrom_53 : decode cX1_copyFrom 53 = .ok (.putfield 34, 3) := by decide +kernel
theorem dX1_copyFrom_56 : decode cX1_copyFrom 56 = .ok (.aload_n 0, 1) := by decide +kernel
theorem dX1_copyFrom_57 : decode cX1_copyFrom 57 = .ok (.aload_n 1, 1) := by decide +kernel
theorem dX1_copyFrom_58 : decode cX1_copyFrom 58 = .ok (.getfield 9, 3) := by decide +kernel
theorem dX1_copyFrom_61 : decode cX1_copyFrom 61 = .ok (.putfield 9, 3) := by decide +kernel
theorem dX1_copyFrom_64 : decode cX1_copyFrom 64 = .ok (.aload_n 0, 1) := by decide +kernel
theorem dX1_copyFrom_65 : decode cX1_copyFrom 65 = .ok (.aload_n 1, 1) := by decide +kernel
theorem dX1_copyFrom_66 : decode cX1_copyFrom 66 = .ok (.getfield 37, 3) := by decide +kernel
theorem dX1_copyFrom_69 : decode cX1_copyFrom 69 = .ok (.putfield 37, 3) := by decide +kernel
theorem dX1_copyFrom_72 : decode cX1_copyFrom 72 = .ok (.aload_n 0, 1) := by decide +kernel
theorem dX1_copyFrom_73 : decode cX1_copyFrom 73 = .ok (.aload_n 1, 1) := by decide +kernel
theorem dX1_copyFrom_74 : decode cX1_copyFrom 74 = .ok (.getfield 40, 3) := by decide +kernel
theorem dX1_copyFrom_77 : decode cX1_copyFrom 77 = .ok (.putfield 40, 3) := by decide +kernel
theorem dX1_copyFrom_80 : decode cX1_copyFrom 80 = .ok (.aload_n 0, 1) := by decide +kernel
theorem dX1_copyFrom_81 : decode cX1_copyFrom 81 = .ok (.aload_n 1, 1) := by decide +kernel
theorem dX1_copyFrom_82 : decode cX1_copyFrom 82 = .ok (.getfield 43, 3) := by decide +kernel
theorem dX1_copyFrom_85 : decode cX1_copyFrom 85 = .ok (.putfield 43, 3) := by decide +kernel
theorem dX1_copyFrom_88 : decode cX1_copyFrom 88 = .ok (.aload_n 0, 1) := by decide +kernel
theorem dX1_copyFrom_89 : decode cX1_copyFrom 89 = .ok (.aload_n 1, 1) := by decide +kernel
theorem dX1_copyFrom_90 : decode cX1_copyFrom 90 = .ok (.getfield 46, 3) := by decide +kernel
theorem dX1_copyFrom_93 : decode cX1_copyFrom 93 = .ok (.putfield 46, 3) := by decide +kernel
theorem dX1_copyFrom_96 : decode cX1_copyFrom 96 = .ok (.aload_n 0, 1) := by decide +kernel
theorem dX1_copyFrom_97 : decode cX1_copyFrom 97 = .ok (.aload_n 1, 1) := by decide +kernel
theorem dX1_copyFrom_98 : decode cX1_copyFrom 98 = .ok (.getfield 49, 3) := by decide +kernel
theorem dX1_copyFrom_101 : decode cX1_copyFrom 101 = .ok (.putfield 49, 3) := by decide +kernel
theorem dX1_copyFrom_104 : decode cX1_copyFrom 104 = .ok (.aload_n 0, 1) := by decide +kernel
theorem dX1_copyFrom_105 : decode cX1_copyFrom 105 = .ok (.aload_n 1, 1) := by decide +kernel
theorem dX1_copyFrom_106 : decode cX1_copyFrom 106 = .ok (.getfield 52, 3) := by decide +kernel
theorem dX1_copyFrom_109 : decode cX1_copyFrom 109 = .ok (.putfield 52, 3) := by decide +kernel
theorem dX1_copyFrom_112 : decode cX1_copyFrom 112 = .ok (.return_, 1) := by decide +kernel
theorem dX1_used_0 : decode cX1_used 0 = .ok (.aload_n 0, 1) := by decide +kernel
theorem dX1_used_1 : decode cX1_used 1 = .ok (.getfield 21, 3) := by decide +kernel
theorem dX1_used_4 : decode cX1_used 4 = .ok (.aload_n 0, 1) := by decide +kernel
theorem dX1_used_5 : decode cX1_used 5 = .ok (.getfield 24, 3) := by decide +kernel
theorem dX1_used_8 : decode cX1_used 8 = .ok (.if_icmp .lt 15, 3) := by decide +kernel
theorem dX1_used_11 : decode cX1_used 11 = .ok (.aload_n 0, 1) := by decide +kernel
theorem dX1_used_12 : decode cX1_used 12 = .ok (.getfield 21, 3) := by decide +kernel
theorem dX1_used_15 : decode cX1_used 15 = .ok (.aload_n 0, 1) := by decide +kernel
theorem dX1_used_16 : decode cX1_used 16 = .ok (.getfield 24, 3) := by decide +kernel
theorem dX1_used_19 : decode cX1_used 19 = .ok (.isub, 1) := by decide +kernel
theorem dX1_used_20 : decode cX1_used 20 = .ok (.goto 15, 3) := by decide +kernel
theorem dX1_used_23 : decode cX1_used 23 = .ok (.aload_n 0, 1) := by decide +kernel
theorem dX1_used_24 : decode cX1_used 24 = .ok (.getfield 21, 3) := by decide +kernel
theorem dX1_used_27 : decode cX1_used 27 = .ok (.aload_n 0, 1) := by decide +kernel
theorem dX1_used_28 : decode cX1_used 28 = .ok (.getfield 24, 3) := by decide +kernel
theorem dX1_used_31 : decode cX1_used 31 = .ok (.isub, 1) := by decide +kernel
theorem dX1_used_32 : decode cX1_used 32 = .ok (.ldc 55, 2) := by decide +kernel
theorem dX1_used_34 : decode cX1_used 34 = .ok (.iadd, 1) := by decide +kernel
theorem dX1_used_35 : decode cX1_used 35 = .ok (.ireturn, 1) := by decide +kernel
theorem dX1_reasonOn_0 : decode cX1_reasonOn 0 = .ok (.aload_n 0, 1) := by decide +kernel
theorem dX1_reasonOn_1 : decode cX1_reasonOn 1 = .ok (.getfield 30, 3) := by decide +kernel
theorem dX1_reasonOn_4 : decode cX1_reasonOn 4 = .ok (.ifCond .eq 7, 3) := by decide +kernel
theorem dX1_reasonOn_7 : decode cX1_reasonOn 7 = .ok (.iconst 1, 1) := by decide +kernel
theorem dX1_reasonOn_8 : decode cX1_reasonOn 8 = .ok (.goto 16, 3) := by decide +kernel
theorem dX1_reasonOn_11 : decode cX1_reasonOn 11 = .ok (.aload_n 0, 1) := by decide +kernel
theorem dX1_reasonOn_12 : decode cX1_reasonOn 12 = .ok (.getfield 9, 3) := by decide +kernel
theorem dX1_reasonOn_15 : decode cX1_reasonOn 15 = .ok (.iload_n 1, 1) := by decide +kernel
theorem dX1_reasonOn_16 : decode cX1_reasonOn 16 = .ok (.if_icmp .ne 7, 3) := by decide +kernel
theorem dX1_reasonOn_19 : decode cX1_reasonOn 19 = .ok (.iconst 2, 1) := by decide +kernel
theorem dX1_reasonOn_20 : decode cX1_reasonOn 20 = .ok (.goto 4, 3) := by decide +kernel
theorem dX1_reasonOn_23 : decode cX1_reasonOn 23 = .ok (.iconst 0, 1) := by decide +kernel
theorem dX1_reasonOn_24 : decode cX1_reasonOn 24 = .ok (.ireturn, 1) := by decide +kernel
theorem dX1_goOn_0 : decode cX1_goOn 0 = .ok (.aload_n 0, 1) := by decide +kernel
theorem dX1_goOn_1 : decode cX1_goOn 1 = .ok (.dup, 1) := by decide +kernel
theorem dX1_goOn_2 : decode cX1_goOn 2 = .ok (.getfield 21, 3) := by decide +kernel
theorem dX1_goOn_5 : decode cX1_goOn 5 = .ok (.aload_n 0, 1) := by decide +kernel
theorem dX1_goOn_6 : decode cX1_goOn 6 = .ok (.getfield 27, 3) := by decide +kernel
theorem dX1_goOn_9 : decode cX1_goOn 9 = .ok (.iadd, 1) := by decide +kernel
theorem dX1_goOn_10 : decode cX1_goOn 10 = .ok (.putfield 21, 3) := by decide +kernel
theorem dX1_goOn_13 : decode cX1_goOn 13 = .ok (.aload_n 0, 1) := by decide +kernel
theorem dX1_goOn_14 : decode cX1_goOn 14 = .ok (.getfield 21, 3) := by decide +kernel
theorem dX1_goOn_17 : decode cX1_goOn 17 = .ok (.ldc 55, 2) := by decide +kernel
theorem dX1_goOn_19 : decode cX1_goOn 19 = .ok (.if_icmp .lt 14, 3) := by decide +kernel
theorem dX1_goOn_22 : decode cX1_goOn 22 = .ok (.aload_n 0, 1) := by decide +kernel
theorem dX1_goOn_23 : decode cX1_goOn 23 = .ok (.dup, 1) := by decide +kernel
theorem dX1_goOn_24 : decode cX1_goOn 24 = .ok (.getfield 21, 3) := by decide +kernel
theorem dX1_goOn_27 : decode cX1_goOn 27 = .ok (.ldc 55, 2) := by decide +kernel
theorem dX1_goOn_29 : decode cX1_goOn 29 = .ok (.isub, 1) := by decide +kernel
theorem dX1_goOn_30 : decode cX1_goOn 30 = .ok (.putfield 21, 3) := by decide +kernel
theorem dX1_goOn_33 : decode cX1_goOn 33 = .ok (.return_, 1) := by decide +kernel
theorem dX1_settle_0 : decode cX1_settle 0 = .ok (.aload_n 0, 1) := by decide +kernel
theorem dX1_settle_1 : decode cX1_settle 1 = .ok (.dup, 1) := by decide +kernel
theorem dX1_settle_2 : decode cX1_settle 2 = .ok (.getfield 34, 3) := by decide +kernel
theorem dX1_settle_5 : decode cX1_settle 5 = .ok (.bipush 100, 2) := by decide +kernel
theorem dX1_settle_7 : decode cX1_settle 7 = .ok (.iload_n 3, 1) := by decide +kernel
theorem dX1_settle_8 : decode cX1_settle 8 = .ok (.imul, 1) := by decide +kernel
theorem dX1_settle_9 : decode cX1_settle 9 = .ok (.iload_n 2, 1) := by decide +kernel
theorem dX1_settle_10 : decode cX1_settle 10 = .ok (.isub, 1) := by decide +kernel
theorem dX1_settle_11 : decode cX1_settle 11 = .ok (.iadd, 1) := by decide +kernel
theorem dX1_settle_12 : decode cX1_settle 12 = .ok (.putfield 34, 3) := by decide +kernel
theorem dX1_settle_15 : decode cX1_settle 15 = .ok (.aload_n 0, 1) := by decide +kernel
theorem dX1_settle_16 : decode cX1_settle 16 = .ok (.aload_n 0, 1) := by decide +kernel
theorem dX1_settle_17 : decode cX1_settle 17 = .ok (.getfield 21, 3) := by decide +kernel
theorem dX1_settle_20 : decode cX1_settle 20 = .ok (.putfield 24, 3) := by decide +kernel
theorem dX1_settle_23 : decode cX1_settle 23 = .ok (.aload_n 0, 1) := by decide +kernel
theorem dX1_settle_24 : decode cX1_settle 24 = .ok (.iload_n 1, 1) := by decide +kernel
theorem dX1_settle_25 : decode cX1_settle 25 = .ok (.putfield 9, 3) := by decide +kernel
theorem dX1_settle_28 : decode cX1_settle 28 = .ok (.aload_n 0, 1) := by decide +kernel
theorem dX1_settle_29 : decode cX1_settle 29 = .ok (.dup, 1) := by decide +kernel
theorem dX1_settle_30 : decode cX1_settle 30 = .ok (.getfield 37, 3) := by decide +kernel
theorem dX1_settle_33 : decode cX1_settle 33 = .ok (.iconst 1, 1) := by decide +kernel
theorem dX1_settle_34 : decode cX1_settle 34 = .ok (.iadd, 1) := by decide +kernel
theorem dX1_settle_35 : decode cX1_settle 35 = .ok (.putfield 37, 3) := by decide +kernel
theorem dX1_settle_38 : decode cX1_settle 38 = .ok (.aload_n 0, 1) := by decide +kernel
theorem dX1_settle_39 : decode cX1_settle 39 = .ok (.dup, 1) := by decide +kernel
theorem dX1_settle_40 : decode cX1_settle 40 = .ok (.getfield 40, 3) := by decide +kernel
theorem dX1_settle_43 : decode cX1_settle 43 = .ok (.iload_n 3, 1) := by decide +kernel
theorem dX1_settle_44 : decode cX1_settle 44 = .ok (.iadd, 1) := by decide +kernel
theorem dX1_settle_45 : decode cX1_settle 45 = .ok (.putfield 40, 3) := by decide +kernel
theorem dX1_settle_48 : decode cX1_settle 48 = .ok (.aload_n 0, 1) := by decide +kernel
theorem dX1_settle_49 : decode cX1_settle 49 = .ok (.getfield 34, 3) := by decide +kernel
theorem dX1_settle_52 : decode cX1_settle 52 = .ok (.ifCond .le 16, 3) := by decide +kernel
theorem dX1_settle_55 : decode cX1_settle 55 = .ok (.aload_n 0, 1) := by decide +kernel
theorem dX1_settle_56 : decode cX1_settle 56 = .ok (.dup, 1) := by decide +kernel
theorem dX1_settle_57 : decode cX1_settle 57 = .ok (.getfield 43, 3) := by decide +kernel
theorem dX1_settle_60 : decode cX1_settle 60 = .ok (.iconst 1, 1) := by decide +kernel
theorem dX1_settle_61 : decode cX1_settle 61 = .ok (.iadd, 1) := by decide +kernel
theorem dX1_settle_62 : decode cX1_settle 62 = .ok (.putfield 43, 3) := by decide +kernel
theorem dX1_settle_65 : decode cX1_settle 65 = .ok (.goto 20, 3) := by decide +kernel
theorem dX1_settle_68 : decode cX1_settle 68 = .ok (.aload_n 0, 1) := by decide +kernel
theorem dX1_settle_69 : decode cX1_settle 69 = .ok (.getfield 34, 3) := by decide +kernel
theorem dX1_settle_72 : decode cX1_settle 72 = .ok (.ifCond .ge 13, 3) := by decide +kernel
theorem dX1_settle_75 : decode cX1_settle 75 = .ok (.aload_n 0, 1) := by decide +kernel
theorem dX1_settle_76 : decode cX1_settle 76 = .ok (.dup, 1) := by decide +kernel
theorem dX1_settle_77 : decode cX1_settle 77 = .ok (.getfield 46, 3) := by decide +kernel
theorem dX1_settle_80 : decode cX1_settle 80 = .ok (.iconst 1, 1) := by decide +kernel
theorem dX1_settle_81 : decode cX1_settle 81 = .ok (.iadd, 1) := by decide +kernel
theorem dX1_settle_82 : decode cX1_settle 82 = .ok (.putfield 46, 3) := by decide +kernel
theorem dX1_settle_85 : decode cX1_settle 85 = .ok (.return_, 1) := by decide +kernel
theorem dX1_renewMeter_0 : decode cX1_renewMeter 0 = .ok (.aload_n 0, 1) := by decide +kernel
theorem dX1_renewMeter_1 : decode cX1_renewMeter 1 = .ok (.iconst 0, 1) := by decide +kernel
theorem dX1_renewMeter_2 : decode cX1_renewMeter 2 = .ok (.putfield 21, 3) := by decide +kernel
theorem dX1_renewMeter_5 : decode cX1_renewMeter 5 = .ok (.aload_n 0, 1) := by decide +kernel
theorem dX1_renewMeter_6 : decode cX1_renewMeter 6 = .ok (.iconst 0, 1) := by decide +kernel
theorem dX1_renewMeter_7 : decode cX1_renewMeter 7 = .ok (.putfield 24, 3) := by decide +kernel
theorem dX1_renewMeter_10 : decode cX1_renewMeter 10 = .ok (.aload_n 0, 1) := by decide +kernel
theorem dX1_renewMeter_11 : decode cX1_renewMeter 11 = .ok (.dup, 1) := by decide +kernel
theorem dX1_renewMeter_12 : decode cX1_renewMeter 12 = .ok (.getfield 52, 3) := by decide +kernel
theorem dX1_renewMeter_15 : decode cX1_renewMeter 15 = .ok (.iconst 1, 1) := by decide +kernel
theorem dX1_renewMeter_16 : decode cX1_renewMeter 16 = .ok (.iadd, 1) := by decide +kernel
theorem dX1_renewMeter_17 : decode cX1_renewMeter 17 = .ok (.putfield 52, 3) := by decide +kernel
theorem dX1_renewMeter_20 : decode cX1_renewMeter 20 = .ok (.return_, 1) := by decide +kernel
set_option maxRecDepth 20000 in
theorem ggX1_fact_X1_used : GoodIn wsX1_fact wsX1_used := goodIn_rB _ [20, 3, 21, 22, 23, 24, 25, 26, 27, 28, 29, 30, 31, 32, 33, 34, 35, 36] (by decide +kernel) (by decide +kernel)
set_option maxRecDepth 20000 in
theorem gX1_fact_X1_used : GoodIn wsX1_fact (wsV RX1 56 RX1 yX1_used wsX1_used) := goodIn_app (goodIn_of _ (by decide +kernel)) ggX1_fact_X1_used
theorem dX1_fact_0 : decode cX1_fact 0 = .ok (.iload_n 1, 1) := by decide +kernel
theorem dX1_fact_1 : decode cX1_fact 1 = .ok (.tableswitch 166 0 13 #[71, 76, 81, 86, 91, 100, 105, 118, 136, 141, 146, 151, 156, 161], 71) := by decide +kernel
theorem dX1_fact_72 : decode cX1_fact 72 = .ok (.aload_n 0, 1) := by decide +kernel
theorem dX1_fact_73 : decode cX1_fact 73 = .ok (.getfield 15, 3) := by decide +kernel
theorem dX1_fact_76 : decode cX1_fact 76 = .ok (.ireturn, 1) := by decide +kernel
theorem dX1_fact_77 : decode cX1_fact 77 = .ok (.aload_n 0, 1) := by decide +kernel
theorem dX1_fact_78 : decode cX1_fact 78 = .ok (.getfield 18, 3) := by decide +kernel
theorem dX1_fact_81 : decode cX1_fact 81 = .ok (.ireturn, 1) := by decide +kernel
theorem dX1_fact_82 : decode cX1_fact 82 = .ok (.aload_n 0, 1) := by decide +kernel
theorem dX1_fact_83 : decode cX1_fact 83 = .ok (.getfield 21, 3) := by decide +kernel
theorem dX1_fact_86 : decode cX1_fact 86 = .ok (.ireturn, 1) := by decide +kernel
theorem dX1_fact_87 : decode cX1_fact 87 = .ok (.aload_n 0, 1) := by decide +kernel
theorem dX1_fact_88 : decode cX1_fact 88 = .ok (.invokevirtual 56, 3) := by decide +kernel
theorem dX1_fact_91 : decode cX1_fact 91 = .ok (.ireturn, 1) := by decide +kernel
theorem dX1_fact_92 : decode cX1_fact 92 = .ok (.sipush 1000, 3) := by decide +kernel
theorem dX1_fact_95 : decode cX1_fact 95 = .ok (.aload_n 0, 1) := by decide +kernel
theorem dX1_fact_96 : decode cX1_fact 96 = .ok (.getfield 34, 3) := by decide +kernel
theorem dX1_fact_99 : decode cX1_fact 99 = .ok (.iadd, 1) := by decide +kernel
theorem dX1_fact_100 : decode cX1_fact 100 = .ok (.ireturn, 1) := by decide +kernel
theorem dX1_fact_101 : decode cX1_fact 101 = .ok (.aload_n 0, 1) := by decide +kernel
theorem dX1_fact_102 : decode cX1_fact 102 = .ok (.getfield 27, 3) := by decide +kernel
theorem dX1_fact_105 : decode cX1_fact 105 = .ok (.ireturn, 1) := by decide +kernel
theorem dX1_fact_106 : decode cX1_fact 106 = .ok (.aload_n 0, 1) := by decide +kernel
theorem dX1_fact_107 : decode cX1_fact 107 = .ok (.getfield 30, 3) := by decide +kernel
theorem dX1_fact_110 : decode cX1_fact 110 = .ok (.ifCond .eq 7, 3) := by decide +kernel
theorem dX1_fact_113 : decode cX1_fact 113 = .ok (.iconst 1, 1) := by decide +kernel
theorem dX1_fact_114 : decode cX1_fact 114 = .ok (.goto 4, 3) := by decide +kernel
theorem dX1_fact_117 : decode cX1_fact 117 = .ok (.iconst 0, 1) := by decide +kernel
theorem dX1_fact_118 : decode cX1_fact 118 = .ok (.ireturn, 1) := by decide +kernel
theorem dX1_fact_119 : decode cX1_fact 119 = .ok (.aload_n 0, 1) := by decide +kernel
theorem dX1_fact_120 : decode cX1_fact 120 = .ok (.getfield 9, 3) := by decide +kernel
theorem dX1_fact_123 : decode cX1_fact 123 = .ok (.iconst (-1), 1) := by decide +kernel
theorem dX1_fact_124 : decode cX1_fact 124 = .ok (.if_icmp .ne 8, 3) := by decide +kernel
theorem dX1_fact_127 : decode cX1_fact 127 = .ok (.ldc 60, 2) := by decide +kernel
theorem dX1_fact_129 : decode cX1_fact 129 = .ok (.goto 7, 3) := by decide +kernel
theorem dX1_fact_132 : decode cX1_fact 132 = .ok (.aload_n 0, 1) := by decide +kernel
theorem dX1_fact_133 : decode cX1_fact 133 = .ok (.getfield 9, 3) := by decide +kernel
theorem dX1_fact_136 : decode cX1_fact 136 = .ok (.ireturn, 1) := by decide +kernel
theorem dX1_fact_137 : decode cX1_fact 137 = .ok (.aload_n 0, 1) := by decide +kernel
theorem dX1_fact_138 : decode cX1_fact 138 = .ok (.getfield 37, 3) := by decide +kernel
theorem dX1_fact_141 : decode cX1_fact 141 = .ok (.ireturn, 1) := by decide +kernel
theorem dX1_fact_142 : decode cX1_fact 142 = .ok (.aload_n 0, 1) := by decide +kernel
theorem dX1_fact_143 : decode cX1_fact 143 = .ok (.getfield 40, 3) := by decide +kernel
theorem dX1_fact_146 : decode cX1_fact 146 = .ok (.ireturn, 1) := by decide +kernel
theorem dX1_fact_147 : decode cX1_fact 147 = .ok (.aload_n 0, 1) := by decide +kernel
theorem dX1_fact_148 : decode cX1_fact 148 = .ok (.getfield 43, 3) := by decide +kernel
theorem dX1_fact_151 : decode cX1_fact 151 = .ok (.ireturn, 1) := by decide +kernel
theorem dX1_fact_152 : decode cX1_fact 152 = .ok (.aload_n 0, 1) := by decide +kernel
theorem dX1_fact_153 : decode cX1_fact 153 = .ok (.getfield 46, 3) := by decide +kernel
theorem dX1_fact_156 : decode cX1_fact 156 = .ok (.ireturn, 1) := by decide +kernel
theorem dX1_fact_157 : decode cX1_fact 157 = .ok (.aload_n 0, 1) := by decide +kernel
theorem dX1_fact_158 : decode cX1_fact 158 = .ok (.getfield 49, 3) := by decide +kernel
theorem dX1_fact_161 : decode cX1_fact 161 = .ok (.ireturn, 1) := by decide +kernel
theorem dX1_fact_162 : decode cX1_fact 162 = .ok (.aload_n 0, 1) := by decide +kernel
theorem dX1_fact_163 : decode cX1_fact 163 = .ok (.getfield 52, 3) := by decide +kernel
theorem dX1_fact_166 : decode cX1_fact 166 = .ok (.ireturn, 1) := by decide +kernel
theorem dX1_fact_167 : decode cX1_fact 167 = .ok (.ldc 61, 2) := by decide +kernel
theorem dX1_fact_169 : decode cX1_fact 169 = .ok (.ireturn, 1) := by decide +kernel
theorem dX2_init_0 : decode cX2_init 0 = .ok (.aload_n 0, 1) := by decide +kernel
theorem dX2_init_1 : decode cX2_init 1 = .ok (.invokespecial 3, 3) := by decide +kernel
theorem dX2_init_4 : decode cX2_init 4 = .ok (.aload_n 0, 1) := by decide +kernel
theorem dX2_init_5 : decode cX2_init 5 = .ok (.bipush 60, 2) := by decide +kernel
theorem dX2_init_7 : decode cX2_init 7 = .ok (.newarray .int, 2) := by decide +kernel
theorem dX2_init_9 : decode cX2_init 9 = .ok (.putfield 11, 3) := by decide +kernel
theorem dX2_init_12 : decode cX2_init 12 = .ok (.return_, 1) := by decide +kernel
theorem dX2_copyFrom_0 : decode cX2_copyFrom 0 = .ok (.aload_n 1, 1) := by decide +kernel
theorem dX2_copyFrom_1 : decode cX2_copyFrom 1 = .ok (.getfield 11, 3) := by decide +kernel
theorem dX2_copyFrom_4 : decode cX2_copyFrom 4 = .ok (.iconst 0, 1) := by decide +kernel
theorem dX2_copyFrom_5 : decode cX2_copyFrom 5 = .ok (.aload_n 0, 1) := by decide +kernel
theorem dX2_copyFrom_6 : decode cX2_copyFrom 6 = .ok (.getfield 11, 3) := by decide +kernel
theorem dX2_copyFrom_9 : decode cX2_copyFrom 9 = .ok (.iconst 0, 1) := by decide +kernel
theorem dX2_copyFrom_10 : decode cX2_copyFrom 10 = .ok (.bipush 60, 2) := by decide +kernel
theorem dX2_copyFrom_12 : decode cX2_copyFrom 12 = .ok (.invokestatic 15, 3) := by decide +kernel
theorem dX2_copyFrom_15 : decode cX2_copyFrom 15 = .ok (.aload_n 0, 1) := by decide +kernel
theorem dX2_copyFrom_16 : decode cX2_copyFrom 16 = .ok (.aload_n 1, 1) := by decide +kernel
theorem dX2_copyFrom_17 : decode cX2_copyFrom 17 = .ok (.getfield 21, 3) := by decide +kernel
theorem dX2_copyFrom_20 : decode cX2_copyFrom 20 = .ok (.putfield 21, 3) := by decide +kernel
theorem dX2_copyFrom_23 : decode cX2_copyFrom 23 = .ok (.aload_n 0, 1) := by decide +kernel
theorem dX2_copyFrom_24 : decode cX2_copyFrom 24 = .ok (.aload_n 1, 1) := by decide +kernel
theorem dX2_copyFrom_25 : decode cX2_copyFrom 25 = .ok (.getfield 25, 3) := by decide +kernel
theorem dX2_copyFrom_28 : decode cX2_copyFrom 28 = .ok (.putfield 25, 3) := by decide +kernel
theorem dX2_copyFrom_31 : decode cX2_copyFrom 31 = .ok (.return_, 1) := by decide +kernel
theorem dX2_add_0 : decode cX2_add 0 = .ok (.aload_n 0, 1) := by decide +kernel
theorem dX2_add_1 : decode cX2_add 1 = .ok (.getfield 21, 3) := by decide +kernel
theorem dX2_add_4 : decode cX2_add 4 = .ok (.ifCond .lt 12, 3) := by decide +kernel
theorem dX2_add_7 : decode cX2_add 7 = .ok (.aload_n 0, 1) := by decide +kernel
theorem dX2_add_8 : decode cX2_add 8 = .ok (.getfield 21, 3) := by decide +kernel
theorem dX2_add_11 : decode cX2_add 11 = .ok (.bipush 10, 2) := by decide +kernel
theorem dX2_add_13 : decode cX2_add 13 = .ok (.if_icmp .lt 4, 3) := by decide +kernel
theorem dX2_add_16 : decode cX2_add 16 = .ok (.return_, 1) := by decide +kernel
theorem dX2_add_17 : decode cX2_add 17 = .ok (.aload_n 0, 1) := by decide +kernel
theorem dX2_add_18 : decode cX2_add 18 = .ok (.getfield 21, 3) := by decide +kernel
theorem dX2_add_21 : decode cX2_add 21 = .ok (.bipush 6, 2) := by decide +kernel
theorem dX2_add_23 : decode cX2_add 23 = .ok (.imul, 1) := by decide +kernel
theorem dX2_add_24 : decode cX2_add 24 = .ok (.istore 6, 2) := by decide +kernel
theorem dX2_add_26 : decode cX2_add 26 = .ok (.aload_n 0, 1) := by decide +kernel
theorem dX2_add_27 : decode cX2_add 27 = .ok (.getfield 11, 3) := by decide +kernel
theorem dX2_add_30 : decode cX2_add 30 = .ok (.iload 6, 2) := by decide +kernel
theorem dX2_add_32 : decode cX2_add 32 = .ok (.iload_n 1, 1) := by decide +kernel
theorem dX2_add_33 : decode cX2_add 33 = .ok (.iastore, 1) := by decide +kernel
theorem dX2_add_34 : decode cX2_add 34 = .ok (.aload_n 0, 1) := by decide +kernel
theorem dX2_add_35 : decode cX2_add 35 = .ok (.getfield 11, 3) := by decide +kernel
theorem dX2_add_38 : decode cX2_add 38 = .ok (.iload 6, 2) := by decide +kernel
theorem dX2_add_40 : decode cX2_add 40 = .ok (.iconst 1, 1) := by decide +kernel
theorem dX2_add_41 : decode cX2_add 41 = .ok (.iadd, 1) := by decide +kernel
theorem dX2_add_42 : decode cX2_add 42 = .ok (.iload_n 2, 1) := by decide +kernel
theorem dX2_add_43 : decode cX2_add 43 = .ok (.iastore, 1) := by decide +kernel
theorem dX2_add_44 : decode cX2_add 44 = .ok (.aload_n 0, 1) := by decide +kernel
theorem dX2_add_45 : decode cX2_add 45 = .ok (.getfield 11, 3) := by decide +kernel
theorem dX2_add_48 : decode cX2_add 48 = .ok (.iload 6, 2) := by decide +kernel
theorem dX2_add_50 : decode cX2_add 50 = .ok (.iconst 2, 1) := by decide +kernel
theorem dX2_add_51 : decode cX2_add 51 = .ok (.iadd, 1) := by decide +kernel
theorem dX2_add_52 : decode cX2_add 52 = .ok (.iload_n 3, 1) := by decide +kernel
theorem dX2_add_53 : decode cX2_add 53 = .ok (.iastore, 1) := by decide +kernel
theorem dX2_add_54 : decode cX2_add 54 = .ok (.aload_n 0, 1) := by decide +kernel
theorem dX2_add_55 : decode cX2_add 55 = .ok (.getfield 11, 3) := by decide +kernel
theorem dX2_add_58 : decode cX2_add 58 = .ok (.iload 6, 2) := by decide +kernel
theorem dX2_add_60 : decode cX2_add 60 = .ok (.iconst 3, 1) := by decide +kernel
theorem dX2_add_61 : decode cX2_add 61 = .ok (.iadd, 1) := by decide +kernel
theorem dX2_add_62 : decode cX2_add 62 = .ok (.iload 4, 2) := by decide +kernel
theorem dX2_add_64 : decode cX2_add 64 = .ok (.iastore, 1) := by decide +kernel
theorem dX2_add_65 : decode cX2_add 65 = .ok (.aload_n 0, 1) := by decide +kernel
theorem dX2_add_66 : decode cX2_add 66 = .ok (.getfield 11, 3) := by decide +kernel
theorem dX2_add_69 : decode cX2_add 69 = .ok (.iload 6, 2) := by decide +kernel
theorem dX2_add_71 : decode cX2_add 71 = .ok (.iconst 4, 1) := by decide +kernel
theorem dX2_add_72 : decode cX2_add 72 = .ok (.iadd, 1) := by decide +kernel
theorem dX2_add_73 : decode cX2_add 73 = .ok (.bipush 100, 2) := by decide +kernel
theorem dX2_add_75 : decode cX2_add 75 = .ok (.iload 4, 2) := by decide +kernel
theorem dX2_add_77 : decode cX2_add 77 = .ok (.imul, 1) := by decide +kernel
theorem dX2_add_78 : decode cX2_add 78 = .ok (.iload_n 3, 1) := by decide +kernel
theorem dX2_add_79 : decode cX2_add 79 = .ok (.if_icmp .ge 7, 3) := by decide +kernel
theorem dX2_add_82 : decode cX2_add 82 = .ok (.iconst 0, 1) := by decide +kernel
theorem dX2_add_83 : decode cX2_add 83 = .ok (.goto 17, 3) := by decide +kernel
theorem dX2_add_86 : decode cX2_add 86 = .ok (.bipush 100, 2) := by decide +kernel
theorem dX2_add_88 : decode cX2_add 88 = .ok (.iload 4, 2) := by decide +kernel
theorem dX2_add_90 : decode cX2_add 90 = .ok (.imul, 1) := by decide +kernel
theorem dX2_add_91 : decode cX2_add 91 = .ok (.iload_n 3, 1) := by decide +kernel
theorem dX2_add_92 : decode cX2_add 92 = .ok (.if_icmp .le 7, 3) := by decide +kernel
theorem dX2_add_95 : decode cX2_add 95 = .ok (.iconst 1, 1) := by decide +kernel
theorem dX2_add_96 : decode cX2_add 96 = .ok (.goto 4, 3) := by decide +kernel
theorem dX2_add_99 : decode cX2_add 99 = .ok (.iconst 2, 1) := by decide +kernel
theorem dX2_add_100 : decode cX2_add 100 = .ok (.iastore, 1) := by decide +kernel
theorem dX2_add_101 : decode cX2_add 101 = .ok (.aload_n 0, 1) := by decide +kernel
theorem dX2_add_102 : decode cX2_add 102 = .ok (.getfield 11, 3) := by decide +kernel
theorem dX2_add_105 : decode cX2_add 105 = .ok (.iload 6, 2) := by decide +kernel
theorem dX2_add_107 : decode cX2_add 107 = .ok (.iconst 5, 1) := by decide +kernel
theorem dX2_add_108 : decode cX2_add 108 = .ok (.iadd, 1) := by decide +kernel
theorem dX2_add_109 : decode cX2_add 109 = .ok (.sipush 1000, 3) := by decide +kernel
theorem dX2_add_112 : decode cX2_add 112 = .ok (.iload 5, 2) := by decide +kernel
theorem dX2_add_114 : decode cX2_add 114 = .ok (.iadd, 1) := by decide +kernel
theorem dX2_add_115 : decode cX2_add 115 = .ok (.iastore, 1) := by decide +kernel
theorem dX2_add_116 : decode cX2_add 116 = .ok (.aload_n 0, 1) := by decide +kernel
theorem dX2_add_117 : decode cX2_add 117 = .ok (.aload_n 0, 1) := by decide +kernel
theorem dX2_add_118 : decode cX2_add 118 = .ok (.getfield 21, 3) := by decide +kernel
theorem dX2_add_121 : decode cX2_add 121 = .ok (.iconst 1, 1) := by decide +kernel
theorem dX2_add_122 : decode cX2_add 122 = .ok (.iadd, 1) := by decide +kernel
theorem dX2_add_123 : decode cX2_add 123 = .ok (.bipush 10, 2) := by decide +kernel
theorem dX2_add_125 : decode cX2_add 125 = .ok (.irem, 1) := by decide +kernel
theorem dX2_add_126 : decode cX2_add 126 = .ok (.putfield 21, 3) := by decide +kernel
theorem dX2_add_129 : decode cX2_add 129 = .ok (.aload_n 0, 1) := by decide +kernel
theorem dX2_add_130 : decode cX2_add 130 = .ok (.getfield 25, 3) := by decide +kernel
theorem dX2_add_133 : decode cX2_add 133 = .ok (.bipush 10, 2) := by decide +kernel
theorem dX2_add_135 : decode cX2_add 135 = .ok (.if_icmp .ge 13, 3) := by decide +kernel
theorem dX2_add_138 : decode cX2_add 138 = .ok (.aload_n 0, 1) := by decide +kernel
theorem dX2_add_139 : decode cX2_add 139 = .ok (.dup, 1) := by decide +kernel
theorem dX2_add_140 : decode cX2_add 140 = .ok (.getfield 25, 3) := by decide +kernel
theorem dX2_add_143 : decode cX2_add 143 = .ok (.iconst 1, 1) := by decide +kernel
theorem dX2_add_144 : decode cX2_add 144 = .ok (.iadd, 1) := by decide +kernel
theorem dX2_add_145 : decode cX2_add 145 = .ok (.putfield 25, 3) := by decide +kernel
theorem dX2_add_148 : decode cX2_add 148 = .ok (.return_, 1) := by decide +kernel
theorem dX2_entry_0 : decode cX2_entry 0 = .ok (.iload_n 1, 1) := by decide +kernel
theorem dX2_entry_1 : decode cX2_entry 1 = .ok (.ifCond .lt 13, 3) := by decide +kernel
theorem dX2_entry_4 : decode cX2_entry 4 = .ok (.iload_n 2, 1) := by decide +kernel
theorem dX2_entry_5 : decode cX2_entry 5 = .ok (.ifCond .lt 9, 3) := by decide +kernel
theorem dX2_entry_8 : decode cX2_entry 8 = .ok (.iload_n 2, 1) := by decide +kernel
theorem dX2_entry_9 : decode cX2_entry 9 = .ok (.bipush 6, 2) := by decide +kernel
theorem dX2_entry_11 : decode cX2_entry 11 = .ok (.if_icmp .lt 6, 3) := by decide +kernel
theorem dX2_entry_14 : decode cX2_entry 14 = .ok (.ldc 28, 2) := by decide +kernel
theorem dX2_entry_16 : decode cX2_entry 16 = .ok (.ireturn, 1) := by decide +kernel
theorem dX2_entry_17 : decode cX2_entry 17 = .ok (.iload_n 1, 1) := by decide +kernel
theorem dX2_entry_18 : decode cX2_entry 18 = .ok (.aload_n 0, 1) := by decide +kernel
theorem dX2_entry_19 : decode cX2_entry 19 = .ok (.getfield 25, 3) := by decide +kernel
theorem dX2_entry_22 : decode cX2_entry 22 = .ok (.if_icmp .lt 6, 3) := by decide +kernel
theorem dX2_entry_25 : decode cX2_entry 25 = .ok (.ldc 29, 2) := by decide +kernel
theorem dX2_entry_27 : decode cX2_entry 27 = .ok (.ireturn, 1) := by decide +kernel
theorem dX2_entry_28 : decode cX2_entry 28 = .ok (.aload_n 0, 1) := by decide +kernel
theorem dX2_entry_29 : decode cX2_entry 29 = .ok (.getfield 21, 3) := by decide +kernel
theorem dX2_entry_32 : decode cX2_entry 32 = .ok (.bipush 10, 2) := by decide +kernel
theorem dX2_entry_34 : decode cX2_entry 34 = .ok (.iadd, 1) := by decide +kernel
theorem dX2_entry_35 : decode cX2_entry 35 = .ok (.iconst 1, 1) := by decide +kernel
theorem dX2_entry_36 : decode cX2_entry 36 = .ok (.isub, 1) := by decide +kernel
theorem dX2_entry_37 : decode cX2_entry 37 = .ok (.iload_n 1, 1) := by decide +kernel
theorem dX2_entry_38 : decode cX2_entry 38 = .ok (.isub, 1) := by decide +kernel
theorem dX2_entry_39 : decode cX2_entry 39 = .ok (.bipush 10, 2) := by decide +kernel
theorem dX2_entry_41 : decode cX2_entry 41 = .ok (.irem, 1) := by decide +kernel
theorem dX2_entry_42 : decode cX2_entry 42 = .ok (.bipush 6, 2) := by decide +kernel
theorem dX2_entry_44 : decode cX2_entry 44 = .ok (.imul, 1) := by decide +kernel
theorem dX2_entry_45 : decode cX2_entry 45 = .ok (.iload_n 2, 1) := by decide +kernel
theorem dX2_entry_46 : decode cX2_entry 46 = .ok (.iadd, 1) := by decide +kernel
theorem dX2_entry_47 : decode cX2_entry 47 = .ok (.istore_n 3, 1) := by decide +kernel
theorem dX2_entry_48 : decode cX2_entry 48 = .ok (.iload_n 3, 1) := by decide +kernel
theorem dX2_entry_49 : decode cX2_entry 49 = .ok (.ifCond .lt 18, 3) := by decide +kernel
theorem dX2_entry_52 : decode cX2_entry 52 = .ok (.iload_n 3, 1) := by decide +kernel
theorem dX2_entry_53 : decode cX2_entry 53 = .ok (.bipush 60, 2) := by decide +kernel
theorem dX2_entry_55 : decode cX2_entry 55 = .ok (.if_icmp .ge 12, 3) := by decide +kernel
theorem dX2_entry_58 : decode cX2_entry 58 = .ok (.aload_n 0, 1) := by decide +kernel
theorem dX2_entry_59 : decode cX2_entry 59 = .ok (.getfield 11, 3) := by decide +kernel
theorem dX2_entry_62 : decode cX2_entry 62 = .ok (.iload_n 3, 1) := by decide +kernel
theorem dX2_entry_63 : decode cX2_entry 63 = .ok (.iaload, 1) := by decide +kernel
theorem dX2_entry_64 : decode cX2_entry 64 = .ok (.goto 5, 3) := by decide +kernel
theorem dX2_entry_67 : decode cX2_entry 67 = .ok (.ldc 29, 2) := by decide +kernel
theorem dX2_entry_69 : decode cX2_entry 69 = .ok (.ireturn, 1) := by decide +kernel
theorem dX3_init_0 : decode cX3_init 0 = .ok (.aload_n 0, 1) := by decide +kernel
theorem dX3_init_1 : decode cX3_init 1 = .ok (.invokespecial 3, 3) := by decide +kernel
theorem dX3_init_4 : decode cX3_init 4 = .ok (.aload_n 0, 1) := by decide +kernel
theorem dX3_init_5 : decode cX3_init 5 = .ok (.bipush 60, 2) := by decide +kernel
theorem dX3_init_7 : decode cX3_init 7 = .ok (.newarray .int, 2) := by decide +kernel
theorem dX3_init_9 : decode cX3_init 9 = .ok (.putfield 11, 3) := by decide +kernel
theorem dX3_init_12 : decode cX3_init 12 = .ok (.return_, 1) := by decide +kernel
theorem dX4_init_0 : decode cX4_init 0 = .ok (.aload_n 0, 1) := by decide +kernel
theorem dX4_init_1 : decode cX4_init 1 = .ok (.invokespecial 3, 3) := by decide +kernel
theorem dX4_init_4 : decode cX4_init 4 = .ok (.aload_n 0, 1) := by decide +kernel
theorem dX4_init_5 : decode cX4_init 5 = .ok (.bipush 20, 2) := by decide +kernel
theorem dX4_init_7 : decode cX4_init 7 = .ok (.newarray .int, 2) := by decide +kernel
theorem dX4_init_9 : decode cX4_init 9 = .ok (.putfield 9, 3) := by decide +kernel
theorem dX4_init_12 : decode cX4_init 12 = .ok (.aload_n 0, 1) := by decide +kernel
theorem dX4_init_13 : decode cX4_init 13 = .ok (.iconst (-1), 1) := by decide +kernel
theorem dX4_init_14 : decode cX4_init 14 = .ok (.putfield 15, 3) := by decide +kernel
theorem dX4_init_17 : decode cX4_init 17 = .ok (.iconst 0, 1) := by decide +kernel
theorem dX4_init_18 : decode cX4_init 18 = .ok (.istore_n 1, 1) := by decide +kernel
theorem dX4_init_19 : decode cX4_init 19 = .ok (.iload_n 1, 1) := by decide +kernel
theorem dX4_init_20 : decode cX4_init 20 = .ok (.bipush 20, 2) := by decide +kernel
theorem dX4_init_22 : decode cX4_init 22 = .ok (.if_icmp .ge 16, 3) := by decide +kernel
theorem dX4_init_25 : decode cX4_init 25 = .ok (.aload_n 0, 1) := by decide +kernel
theorem dX4_init_26 : decode cX4_init 26 = .ok (.getfield 9, 3) := by decide +kernel
theorem dX4_init_29 : decode cX4_init 29 = .ok (.iload_n 1, 1) := by decide +kernel
theorem dX4_init_30 : decode cX4_init 30 = .ok (.iconst (-1), 1) := by decide +kernel
theorem dX4_init_31 : decode cX4_init 31 = .ok (.iastore, 1) := by decide +kernel
theorem dX4_init_32 : decode cX4_init 32 = .ok (.iinc 1 1, 3) := by decide +kernel
theorem dX4_init_35 : decode cX4_init 35 = .ok (.goto (-16), 3) := by decide +kernel
theorem dX4_init_38 : decode cX4_init 38 = .ok (.return_, 1) := by decide +kernel
theorem dX4_copyFrom_0 : decode cX4_copyFrom 0 = .ok (.aload_n 1, 1) := by decide +kernel
theorem dX4_copyFrom_1 : decode cX4_copyFrom 1 = .ok (.getfield 9, 3) := by decide +kernel
theorem dX4_copyFrom_4 : decode cX4_copyFrom 4 = .ok (.iconst 0, 1) := by decide +kernel
theorem dX4_copyFrom_5 : decode cX4_copyFrom 5 = .ok (.aload_n 0, 1) := by decide +kernel
theorem dX4_copyFrom_6 : decode cX4_copyFrom 6 = .ok (.getfield 9, 3) := by decide +kernel
theorem dX4_copyFrom_9 : decode cX4_copyFrom 9 = .ok (.iconst 0, 1) := by decide +kernel
theorem dX4_copyFrom_10 : decode cX4_copyFrom 10 = .ok (.bipush 20, 2) := by decide +kernel
theorem dX4_copyFrom_12 : decode cX4_copyFrom 12 = .ok (.invokestatic 19, 3) := by decide +kernel
theorem dX4_copyFrom_15 : decode cX4_copyFrom 15 = .ok (.aload_n 0, 1) := by decide +kernel
theorem dX4_copyFrom_16 : decode cX4_copyFrom 16 = .ok (.aload_n 1, 1) := by decide +kernel
theorem dX4_copyFrom_17 : decode cX4_copyFrom 17 = .ok (.getfield 15, 3) := by decide +kernel
theorem dX4_copyFrom_20 : decode cX4_copyFrom 20 = .ok (.putfield 15, 3) := by decide +kernel
theorem dX4_copyFrom_23 : decode cX4_copyFrom 23 = .ok (.return_, 1) := by decide +kernel
theorem dX4_stepAhead_0 : decode cX4_stepAhead 0 = .ok (.aload_n 0, 1) := by decide +kernel
theorem dX4_stepAhead_1 : decode cX4_stepAhead 1 = .ok (.getfield 15, 3) := by decide +kernel
theorem dX4_stepAhead_4 : decode cX4_stepAhead 4 = .ok (.iconst 1, 1) := by decide +kernel
theorem dX4_stepAhead_5 : decode cX4_stepAhead 5 = .ok (.iadd, 1) := by decide +kernel
theorem dX4_stepAhead_6 : decode cX4_stepAhead 6 = .ok (.iload_n 1, 1) := by decide +kernel
theorem dX4_stepAhead_7 : decode cX4_stepAhead 7 = .ok (.iadd, 1) := by decide +kernel
theorem dX4_stepAhead_8 : decode cX4_stepAhead 8 = .ok (.bipush 20, 2) := by decide +kernel
theorem dX4_stepAhead_10 : decode cX4_stepAhead 10 = .ok (.irem, 1) := by decide +kernel
theorem dX4_stepAhead_11 : decode cX4_stepAhead 11 = .ok (.ireturn, 1) := by decide +kernel
theorem dX4_houseOn_0 : decode cX4_houseOn 0 = .ok (.iload_n 1, 1) := by decide +kernel
theorem dX4_houseOn_1 : decode cX4_houseOn 1 = .ok (.ifCond .lt 18, 3) := by decide +kernel
theorem dX4_houseOn_4 : decode cX4_houseOn 4 = .ok (.iload_n 1, 1) := by decide +kernel
theorem dX4_houseOn_5 : decode cX4_houseOn 5 = .ok (.bipush 20, 2) := by decide +kernel
theorem dX4_houseOn_7 : decode cX4_houseOn 7 = .ok (.if_icmp .ge 12, 3) := by decide +kernel
theorem dX4_houseOn_10 : decode cX4_houseOn 10 = .ok (.aload_n 0, 1) := by decide +kernel
theorem dX4_houseOn_11 : decode cX4_houseOn 11 = .ok (.getfield 9, 3) := by decide +kernel
theorem dX4_houseOn_14 : decode cX4_houseOn 14 = .ok (.iload_n 1, 1) := by decide +kernel
theorem dX4_houseOn_15 : decode cX4_houseOn 15 = .ok (.iaload, 1) := by decide +kernel
theorem dX4_houseOn_16 : decode cX4_houseOn 16 = .ok (.goto 4, 3) := by decide +kernel
theorem dX4_houseOn_19 : decode cX4_houseOn 19 = .ok (.iconst (-1), 1) := by decide +kernel
theorem dX4_houseOn_20 : decode cX4_houseOn 20 = .ok (.ireturn, 1) := by decide +kernel
theorem dX4_putHouse_0 : decode cX4_putHouse 0 = .ok (.iload_n 1, 1) := by decide +kernel
theorem dX4_putHouse_1 : decode cX4_putHouse 1 = .ok (.ifCond .lt 16, 3) := by decide +kernel
theorem dX4_putHouse_4 : decode cX4_putHouse 4 = .ok (.iload_n 1, 1) := by decide +kernel
theorem dX4_putHouse_5 : decode cX4_putHouse 5 = .ok (.bipush 20, 2) := by decide +kernel
theorem dX4_putHouse_7 : decode cX4_putHouse 7 = .ok (.if_icmp .ge 10, 3) := by decide +kernel
theorem dX4_putHouse_10 : decode cX4_putHouse 10 = .ok (.aload_n 0, 1) := by decide +kernel
theorem dX4_putHouse_11 : decode cX4_putHouse 11 = .ok (.getfield 9, 3) := by decide +kernel
theorem dX4_putHouse_14 : decode cX4_putHouse 14 = .ok (.iload_n 1, 1) := by decide +kernel
theorem dX4_putHouse_15 : decode cX4_putHouse 15 = .ok (.iload_n 2, 1) := by decide +kernel
theorem dX4_putHouse_16 : decode cX4_putHouse 16 = .ok (.iastore, 1) := by decide +kernel
theorem dX4_putHouse_17 : decode cX4_putHouse 17 = .ok (.return_, 1) := by decide +kernel
set_option maxRecDepth 20000 in
theorem ggX4_houseRanked_X4_stepAhead : GoodIn wsX4_houseRanked wsX4_stepAhead := goodIn_rB _ [6, 7, 13, 14] (by decide +kernel) (by decide +kernel)
set_option maxRecDepth 20000 in
theorem gX4_houseRanked_X4_stepAhead : GoodIn wsX4_houseRanked (wsV RX4 25 RX4 yX4_stepAhead wsX4_stepAhead) := goodIn_app (goodIn_of _ (by decide +kernel)) ggX4_houseRanked_X4_stepAhead
set_option maxRecDepth 20000 in
theorem ggX4_houseRanked_X4_houseOn : GoodIn wsX4_houseRanked wsX4_houseOn := goodIn_rB _ [11, 12, 13, 14] (by decide +kernel) (by decide +kernel)
set_option maxRecDepth 20000 in
theorem gX4_houseRanked_X4_houseOn : GoodIn wsX4_houseRanked (wsV RX4 29 RX4 yX4_houseOn wsX4_houseOn) := goodIn_app (goodIn_of _ (by decide +kernel)) ggX4_houseRanked_X4_houseOn
theorem dX4_houseRanked_0 : decode cX4_houseRanked 0 = .ok (.iconst 0, 1) := by decide +kernel
theorem dX4_houseRanked_1 : decode cX4_houseRanked 1 = .ok (.istore_n 2, 1) := by decide +kernel
theorem dX4_houseRanked_2 : decode cX4_houseRanked 2 = .ok (.iconst 0, 1) := by decide +kernel
theorem dX4_houseRanked_3 : decode cX4_houseRanked 3 = .ok (.istore_n 3, 1) := by decide +kernel
theorem dX4_houseRanked_4 : decode cX4_houseRanked 4 = .ok (.iload_n 3, 1) := by decide +kernel
theorem dX4_houseRanked_5 : decode cX4_houseRanked 5 = .ok (.bipush 20, 2) := by decide +kernel
theorem dX4_houseRanked_7 : decode cX4_houseRanked 7 = .ok (.if_icmp .ge 37, 3) := by decide +kernel
theorem dX4_houseRanked_10 : decode cX4_houseRanked 10 = .ok (.aload_n 0, 1) := by decide +kernel
theorem dX4_houseRanked_11 : decode cX4_houseRanked 11 = .ok (.aload_n 0, 1) := by decide +kernel
theorem dX4_houseRanked_12 : decode cX4_houseRanked 12 = .ok (.iload_n 3, 1) := by decide +kernel
theorem dX4_houseRanked_13 : decode cX4_houseRanked 13 = .ok (.invokevirtual 25, 3) := by decide +kernel
theorem dX4_houseRanked_16 : decode cX4_houseRanked 16 = .ok (.invokevirtual 29, 3) := by decide +kernel
theorem dX4_houseRanked_19 : decode cX4_houseRanked 19 = .ok (.istore 4, 2) := by decide +kernel
theorem dX4_houseRanked_21 : decode cX4_houseRanked 21 = .ok (.iload 4, 2) := by decide +kernel
theorem dX4_houseRanked_23 : decode cX4_houseRanked 23 = .ok (.iconst (-1), 1) := by decide +kernel
theorem dX4_houseRanked_24 : decode cX4_houseRanked 24 = .ok (.if_icmp .eq 14, 3) := by decide +kernel
theorem dX4_houseRanked_27 : decode cX4_houseRanked 27 = .ok (.iload_n 2, 1) := by decide +kernel
theorem dX4_houseRanked_28 : decode cX4_houseRanked 28 = .ok (.iload_n 1, 1) := by decide +kernel
theorem dX4_houseRanked_29 : decode cX4_houseRanked 29 = .ok (.if_icmp .ne 6, 3) := by decide +kernel
theorem dX4_houseRanked_32 : decode cX4_houseRanked 32 = .ok (.iload 4, 2) := by decide +kernel
theorem dX4_houseRanked_34 : decode cX4_houseRanked 34 = .ok (.ireturn, 1) := by decide +kernel
theorem dX4_houseRanked_35 : decode cX4_houseRanked 35 = .ok (.iinc 2 1, 3) := by decide +kernel
theorem dX4_houseRanked_38 : decode cX4_houseRanked 38 = .ok (.iinc 3 1, 3) := by decide +kernel
theorem dX4_houseRanked_41 : decode cX4_houseRanked 41 = .ok (.goto (-37), 3) := by decide +kernel
theorem dX4_houseRanked_44 : decode cX4_houseRanked 44 = .ok (.ldc 32, 2) := by decide +kernel
theorem dX4_houseRanked_46 : decode cX4_houseRanked 46 = .ok (.ireturn, 1) := by decide +kernel
set_option maxRecDepth 20000 in
theorem ggX5_init_X2_init : GoodIn wsX5_init wsX2_init := goodIn_rB _ [19, 20, 2, 3, 12, 21, 45, 46, 47] (by decide +kernel) (by decide +kernel)
set_option maxRecDepth 20000 in
theorem gX5_init_X2_init_n25 : GoodIn wsX5_init (wsX2_init) := ggX5_init_X2_init
set_option maxRecDepth 20000 in
theorem ggX5_init_X1_init : GoodIn wsX5_init wsX1_init := goodIn_rB _ [23, 24, 2, 3, 25, 48, 49, 50, 51, 52, 53, 54, 55, 56, 57, 58, 59, 60, 61] (by decide +kernel) (by decide +kernel)
set_option maxRecDepth 20000 in
theorem gX5_init_X1_init_n34 : GoodIn wsX5_init (wsX1_init) := ggX5_init_X1_init
set_option maxRecDepth 20000 in
theorem ggX5_init_X4_init : GoodIn wsX5_init wsX4_init := goodIn_rB _ [28, 29, 2, 3, 12, 30, 31, 62, 63] (by decide +kernel) (by decide +kernel)
set_option maxRecDepth 20000 in
theorem gX5_init_X4_init : GoodIn wsX5_init (wsX4_init) := ggX5_init_X4_init
theorem dX5_init_0 : decode cX5_init 0 = .ok (.aload_n 0, 1) := by decide +kernel
theorem dX5_init_1 : decode cX5_init 1 = .ok (.invokespecial 3, 3) := by decide +kernel
theorem dX5_init_4 : decode cX5_init 4 = .ok (.aload_n 0, 1) := by decide +kernel
theorem dX5_init_5 : decode cX5_init 5 = .ok (.bipush 24, 2) := by decide +kernel
theorem dX5_init_7 : decode cX5_init 7 = .ok (.anewarray 9, 3) := by decide +kernel
theorem dX5_init_10 : decode cX5_init 10 = .ok (.putfield 11, 3) := by decide +kernel
theorem dX5_init_13 : decode cX5_init 13 = .ok (.aload_n 0, 1) := by decide +kernel
theorem dX5_init_14 : decode cX5_init 14 = .ok (.iconst 4, 1) := by decide +kernel
theorem dX5_init_15 : decode cX5_init 15 = .ok (.anewarray 17, 3) := by decide +kernel
theorem dX5_init_18 : decode cX5_init 18 = .ok (.putfield 19, 3) := by decide +kernel
theorem dX5_init_21 : decode cX5_init 21 = .ok (.aload_n 0, 1) := by decide +kernel
theorem dX5_init_22 : decode cX5_init 22 = .ok (.new 23, 3) := by decide +kernel
theorem dX5_init_25 : decode cX5_init 25 = .ok (.dup, 1) := by decide +kernel
theorem dX5_init_26 : decode cX5_init 26 = .ok (.invokespecial 25, 3) := by decide +kernel
theorem dX5_init_29 : decode cX5_init 29 = .ok (.putfield 26, 3) := by decide +kernel
theorem dX5_init_32 : decode cX5_init 32 = .ok (.aload_n 0, 1) := by decide +kernel
theorem dX5_init_33 : decode cX5_init 33 = .ok (.iconst 4, 1) := by decide +kernel
theorem dX5_init_34 : decode cX5_init 34 = .ok (.newarray .int, 2) := by decide +kernel
theorem dX5_init_36 : decode cX5_init 36 = .ok (.putfield 30, 3) := by decide +kernel
theorem dX5_init_39 : decode cX5_init 39 = .ok (.iconst 0, 1) := by decide +kernel
theorem dX5_init_40 : decode cX5_init 40 = .ok (.istore_n 1, 1) := by decide +kernel
theorem dX5_init_41 : decode cX5_init 41 = .ok (.iload_n 1, 1) := by decide +kernel
theorem dX5_init_42 : decode cX5_init 42 = .ok (.bipush 24, 2) := by decide +kernel
theorem dX5_init_44 : decode cX5_init 44 = .ok (.if_icmp .ge 22, 3) := by decide +kernel
theorem dX5_init_47 : decode cX5_init 47 = .ok (.aload_n 0, 1) := by decide +kernel
theorem dX5_init_48 : decode cX5_init 48 = .ok (.getfield 11, 3) := by decide +kernel
theorem dX5_init_51 : decode cX5_init 51 = .ok (.iload_n 1, 1) := by decide +kernel
theorem dX5_init_52 : decode cX5_init 52 = .ok (.new 9, 3) := by decide +kernel
theorem dX5_init_55 : decode cX5_init 55 = .ok (.dup, 1) := by decide +kernel
theorem dX5_init_56 : decode cX5_init 56 = .ok (.invokespecial 34, 3) := by decide +kernel
theorem dX5_init_59 : decode cX5_init 59 = .ok (.aastore, 1) := by decide +kernel
theorem dX5_init_60 : decode cX5_init 60 = .ok (.iinc 1 1, 3) := by decide +kernel
theorem dX5_init_63 : decode cX5_init 63 = .ok (.goto (-22), 3) := by decide +kernel
theorem dX5_init_66 : decode cX5_init 66 = .ok (.iconst 0, 1) := by decide +kernel
theorem dX5_init_67 : decode cX5_init 67 = .ok (.istore_n 1, 1) := by decide +kernel
theorem dX5_init_68 : decode cX5_init 68 = .ok (.iload_n 1, 1) := by decide +kernel
theorem dX5_init_69 : decode cX5_init 69 = .ok (.iconst 4, 1) := by decide +kernel
theorem dX5_init_70 : decode cX5_init 70 = .ok (.if_icmp .ge 22, 3) := by decide +kernel
theorem dX5_init_73 : decode cX5_init 73 = .ok (.aload_n 0, 1) := by decide +kernel
theorem dX5_init_74 : decode cX5_init 74 = .ok (.getfield 19, 3) := by decide +kernel
theorem dX5_init_77 : decode cX5_init 77 = .ok (.iload_n 1, 1) := by decide +kernel
theorem dX5_init_78 : decode cX5_init 78 = .ok (.new 17, 3) := by decide +kernel
theorem dX5_init_81 : decode cX5_init 81 = .ok (.dup, 1) := by decide +kernel
theorem dX5_init_82 : decode cX5_init 82 = .ok (.invokespecial 35, 3) := by decide +kernel
theorem dX5_init_85 : decode cX5_init 85 = .ok (.aastore, 1) := by decide +kernel
theorem dX5_init_86 : decode cX5_init 86 = .ok (.iinc 1 1, 3) := by decide +kernel
theorem dX5_init_89 : decode cX5_init 89 = .ok (.goto (-21), 3) := by decide +kernel
theorem dX5_init_92 : decode cX5_init 92 = .ok (.iconst 0, 1) := by decide +kernel
theorem dX5_init_93 : decode cX5_init 93 = .ok (.istore_n 1, 1) := by decide +kernel
theorem dX5_init_94 : decode cX5_init 94 = .ok (.iload_n 1, 1) := by decide +kernel
theorem dX5_init_95 : decode cX5_init 95 = .ok (.iconst 4, 1) := by decide +kernel
theorem dX5_init_96 : decode cX5_init 96 = .ok (.if_icmp .ge 20, 3) := by decide +kernel
theorem dX5_init_99 : decode cX5_init 99 = .ok (.aload_n 0, 1) := by decide +kernel
theorem dX5_init_100 : decode cX5_init 100 = .ok (.getfield 30, 3) := by decide +kernel
theorem dX5_init_103 : decode cX5_init 103 = .ok (.iload_n 1, 1) := by decide +kernel
theorem dX5_init_104 : decode cX5_init 104 = .ok (.getstatic 36, 3) := by decide +kernel
theorem dX5_init_107 : decode cX5_init 107 = .ok (.iload_n 1, 1) := by decide +kernel
theorem dX5_init_108 : decode cX5_init 108 = .ok (.iaload, 1) := by decide +kernel
theorem dX5_init_109 : decode cX5_init 109 = .ok (.iastore, 1) := by decide +kernel
theorem dX5_init_110 : decode cX5_init 110 = .ok (.iinc 1 1, 3) := by decide +kernel
theorem dX5_init_113 : decode cX5_init 113 = .ok (.goto (-19), 3) := by decide +kernel
theorem dX5_init_116 : decode cX5_init 116 = .ok (.return_, 1) := by decide +kernel
set_option maxRecDepth 20000 in
theorem ggX5_copyFrom_X1_copyFrom : GoodIn wsX5_copyFrom wsX1_copyFrom := goodIn_rB _ [22, 23, 24, 25, 26, 27, 28, 29, 30, 31, 32, 33, 34, 35, 36, 67, 68, 69, 70, 71, 72, 73, 74, 75, 76, 77, 78, 79, 80] (by decide +kernel) (by decide +kernel)
set_option maxRecDepth 20000 in
theorem gX5_copyFrom_X1_copyFrom : GoodIn wsX5_copyFrom (wsV RX5 39 RX1 yX1_copyFrom wsX1_copyFrom) := goodIn_app (goodIn_of _ (by decide +kernel)) ggX5_copyFrom_X1_copyFrom
set_option maxRecDepth 20000 in
theorem ggX5_copyFrom_X4_copyFrom : GoodIn wsX5_copyFrom wsX4_copyFrom := goodIn_rB _ [41, 42, 43, 6, 7, 8, 44, 81, 82] (by decide +kernel) (by decide +kernel)
set_option maxRecDepth 20000 in
theorem gX5_copyFrom_X4_copyFrom : GoodIn wsX5_copyFrom (wsV RX5 43 RX4 yX4_copyFrom wsX4_copyFrom) := goodIn_app (goodIn_of _ (by decide +kernel)) ggX5_copyFrom_X4_copyFrom
set_option maxRecDepth 20000 in
theorem ggX5_copyFrom_X2_copyFrom : GoodIn wsX5_copyFrom wsX2_copyFrom := goodIn_rB _ [49, 50, 51, 6, 7, 8, 52, 53, 83, 84, 85] (by decide +kernel) (by decide +kernel)
set_option maxRecDepth 20000 in
theorem gX5_copyFrom_X2_copyFrom : GoodIn wsX5_copyFrom (wsV RX5 46 RX2 yX2_copyFrom wsX2_copyFrom) := goodIn_app (goodIn_of _ (by decide +kernel)) ggX5_copyFrom_X2_copyFrom
theorem dX5_copyFrom_0 : decode cX5_copyFrom 0 = .ok (.iconst 0, 1) := by decide +kernel
theorem dX5_copyFrom_1 : decode cX5_copyFrom 1 = .ok (.istore_n 2, 1) := by decide +kernel
theorem dX5_copyFrom_2 : decode cX5_copyFrom 2 = .ok (.iload_n 2, 1) := by decide +kernel
theorem dX5_copyFrom_3 : decode cX5_copyFrom 3 = .ok (.bipush 24, 2) := by decide +kernel
theorem dX5_copyFrom_5 : decode cX5_copyFrom 5 = .ok (.if_icmp .ge 24, 3) := by decide +kernel
theorem dX5_copyFrom_8 : decode cX5_copyFrom 8 = .ok (.aload_n 0, 1) := by decide +kernel
theorem dX5_copyFrom_9 : decode cX5_copyFrom 9 = .ok (.getfield 11, 3) := by decide +kernel
theorem dX5_copyFrom_12 : decode cX5_copyFrom 12 = .ok (.iload_n 2, 1) := by decide +kernel
theorem dX5_copyFrom_13 : decode cX5_copyFrom 13 = .ok (.aaload, 1) := by decide +kernel
theorem dX5_copyFrom_14 : decode cX5_copyFrom 14 = .ok (.aload_n 1, 1) := by decide +kernel
theorem dX5_copyFrom_15 : decode cX5_copyFrom 15 = .ok (.getfield 11, 3) := by decide +kernel
theorem dX5_copyFrom_18 : decode cX5_copyFrom 18 = .ok (.iload_n 2, 1) := by decide +kernel
theorem dX5_copyFrom_19 : decode cX5_copyFrom 19 = .ok (.aaload, 1) := by decide +kernel
theorem dX5_copyFrom_20 : decode cX5_copyFrom 20 = .ok (.invokevirtual 39, 3) := by decide +kernel
theorem dX5_copyFrom_23 : decode cX5_copyFrom 23 = .ok (.iinc 2 1, 3) := by decide +kernel
theorem dX5_copyFrom_26 : decode cX5_copyFrom 26 = .ok (.goto (-24), 3) := by decide +kernel
theorem dX5_copyFrom_29 : decode cX5_copyFrom 29 = .ok (.iconst 0, 1) := by decide +kernel
theorem dX5_copyFrom_30 : decode cX5_copyFrom 30 = .ok (.istore_n 2, 1) := by decide +kernel
theorem dX5_copyFrom_31 : decode cX5_copyFrom 31 = .ok (.iload_n 2, 1) := by decide +kernel
theorem dX5_copyFrom_32 : decode cX5_copyFrom 32 = .ok (.iconst 4, 1) := by decide +kernel
theorem dX5_copyFrom_33 : decode cX5_copyFrom 33 = .ok (.if_icmp .ge 24, 3) := by decide +kernel
theorem dX5_copyFrom_36 : decode cX5_copyFrom 36 = .ok (.aload_n 0, 1) := by decide +kernel
theorem dX5_copyFrom_37 : decode cX5_copyFrom 37 = .ok (.getfield 19, 3) := by decide +kernel
theorem dX5_copyFrom_40 : decode cX5_copyFrom 40 = .ok (.iload_n 2, 1) := by decide +kernel
theorem dX5_copyFrom_41 : decode cX5_copyFrom 41 = .ok (.aaload, 1) := by decide +kernel
theorem dX5_copyFrom_42 : decode cX5_copyFrom 42 = .ok (.aload_n 1, 1) := by decide +kernel
theorem dX5_copyFrom_43 : decode cX5_copyFrom 43 = .ok (.getfield 19, 3) := by decide +kernel
theorem dX5_copyFrom_46 : decode cX5_copyFrom 46 = .ok (.iload_n 2, 1) := by decide +kernel
theorem dX5_copyFrom_47 : decode cX5_copyFrom 47 = .ok (.aaload, 1) := by decide +kernel
theorem dX5_copyFrom_48 : decode cX5_copyFrom 48 = .ok (.invokevirtual 43, 3) := by decide +kernel
theorem dX5_copyFrom_51 : decode cX5_copyFrom 51 = .ok (.iinc 2 1, 3) := by decide +kernel
theorem dX5_copyFrom_54 : decode cX5_copyFrom 54 = .ok (.goto (-23), 3) := by decide +kernel
theorem dX5_copyFrom_57 : decode cX5_copyFrom 57 = .ok (.aload_n 0, 1) := by decide +kernel
theorem dX5_copyFrom_58 : decode cX5_copyFrom 58 = .ok (.getfield 26, 3) := by decide +kernel
theorem dX5_copyFrom_61 : decode cX5_copyFrom 61 = .ok (.aload_n 1, 1) := by decide +kernel
theorem dX5_copyFrom_62 : decode cX5_copyFrom 62 = .ok (.getfield 26, 3) := by decide +kernel
theorem dX5_copyFrom_65 : decode cX5_copyFrom 65 = .ok (.invokevirtual 46, 3) := by decide +kernel
theorem dX5_copyFrom_68 : decode cX5_copyFrom 68 = .ok (.aload_n 1, 1) := by decide +kernel
theorem dX5_copyFrom_69 : decode cX5_copyFrom 69 = .ok (.getfield 30, 3) := by decide +kernel
theorem dX5_copyFrom_72 : decode cX5_copyFrom 72 = .ok (.iconst 0, 1) := by decide +kernel
theorem dX5_copyFrom_73 : decode cX5_copyFrom 73 = .ok (.aload_n 0, 1) := by decide +kernel
theorem dX5_copyFrom_74 : decode cX5_copyFrom 74 = .ok (.getfield 30, 3) := by decide +kernel
theorem dX5_copyFrom_77 : decode cX5_copyFrom 77 = .ok (.iconst 0, 1) := by decide +kernel
theorem dX5_copyFrom_78 : decode cX5_copyFrom 78 = .ok (.iconst 4, 1) := by decide +kernel
theorem dX5_copyFrom_79 : decode cX5_copyFrom 79 = .ok (.invokestatic 49, 3) := by decide +kernel
theorem dX5_copyFrom_82 : decode cX5_copyFrom 82 = .ok (.aload_n 0, 1) := by decide +kernel
theorem dX5_copyFrom_83 : decode cX5_copyFrom 83 = .ok (.aload_n 1, 1) := by decide +kernel
theorem dX5_copyFrom_84 : decode cX5_copyFrom 84 = .ok (.getfield 55, 3) := by decide +kernel
theorem dX5_copyFrom_87 : decode cX5_copyFrom 87 = .ok (.putfield 55, 3) := by decide +kernel
theorem dX5_copyFrom_90 : decode cX5_copyFrom 90 = .ok (.aload_n 0, 1) := by decide +kernel
theorem dX5_copyFrom_91 : decode cX5_copyFrom 91 = .ok (.aload_n 1, 1) := by decide +kernel
theorem dX5_copyFrom_92 : decode cX5_copyFrom 92 = .ok (.getfield 59, 3) := by decide +kernel
theorem dX5_copyFrom_95 : decode cX5_copyFrom 95 = .ok (.putfield 59, 3) := by decide +kernel
theorem dX5_copyFrom_98 : decode cX5_copyFrom 98 = .ok (.aload_n 0, 1) := by decide +kernel
theorem dX5_copyFrom_99 : decode cX5_copyFrom 99 = .ok (.aload_n 1, 1) := by decide +kernel
theorem dX5_copyFrom_100 : decode cX5_copyFrom 100 = .ok (.getfield 62, 3) := by decide +kernel
theorem dX5_copyFrom_103 : decode cX5_copyFrom 103 = .ok (.putfield 62, 3) := by decide +kernel
theorem dX5_copyFrom_106 : decode cX5_copyFrom 106 = .ok (.aload_n 0, 1) := by decide +kernel
theorem dX5_copyFrom_107 : decode cX5_copyFrom 107 = .ok (.aload_n 1, 1) := by decide +kernel
theorem dX5_copyFrom_108 : decode cX5_copyFrom 108 = .ok (.getfield 65, 3) := by decide +kernel
theorem dX5_copyFrom_111 : decode cX5_copyFrom 111 = .ok (.putfield 65, 3) := by decide +kernel
theorem dX5_copyFrom_114 : decode cX5_copyFrom 114 = .ok (.aload_n 0, 1) := by decide +kernel
theorem dX5_copyFrom_115 : decode cX5_copyFrom 115 = .ok (.aload_n 1, 1) := by decide +kernel
theorem dX5_copyFrom_116 : decode cX5_copyFrom 116 = .ok (.getfield 68, 3) := by decide +kernel
theorem dX5_copyFrom_119 : decode cX5_copyFrom 119 = .ok (.putfield 68, 3) := by decide +kernel
theorem dX5_copyFrom_122 : decode cX5_copyFrom 122 = .ok (.aload_n 0, 1) := by decide +kernel
theorem dX5_copyFrom_123 : decode cX5_copyFrom 123 = .ok (.aload_n 1, 1) := by decide +kernel
theorem dX5_copyFrom_124 : decode cX5_copyFrom 124 = .ok (.getfield 71, 3) := by decide +kernel
theorem dX5_copyFrom_127 : decode cX5_copyFrom 127 = .ok (.putfield 71, 3) := by decide +kernel
theorem dX5_copyFrom_130 : decode cX5_copyFrom 130 = .ok (.aload_n 0, 1) := by decide +kernel
theorem dX5_copyFrom_131 : decode cX5_copyFrom 131 = .ok (.aload_n 1, 1) := by decide +kernel
theorem dX5_copyFrom_132 : decode cX5_copyFrom 132 = .ok (.getfield 74, 3) := by decide +kernel
theorem dX5_copyFrom_135 : decode cX5_copyFrom 135 = .ok (.putfield 74, 3) := by decide +kernel
theorem dX5_copyFrom_138 : decode cX5_copyFrom 138 = .ok (.aload_n 0, 1) := by decide +kernel
theorem dX5_copyFrom_139 : decode cX5_copyFrom 139 = .ok (.aload_n 1, 1) := by decide +kernel
theorem dX5_copyFrom_140 : decode cX5_copyFrom 140 = .ok (.getfield 77, 3) := by decide +kernel
theorem dX5_copyFrom_143 : decode cX5_copyFrom 143 = .ok (.putfield 77, 3) := by decide +kernel
theorem dX5_copyFrom_146 : decode cX5_copyFrom 146 = .ok (.aload_n 0, 1) := by decide +kernel
theorem dX5_copyFrom_147 : decode cX5_copyFrom 147 = .ok (.aload_n 1, 1) := by decide +kernel
theorem dX5_copyFrom_148 : decode cX5_copyFrom 148 = .ok (.getfield 80, 3) := by decide +kernel
theorem dX5_copyFrom_151 : decode cX5_copyFrom 151 = .ok (.putfield 80, 3) := by decide +kernel
theorem dX5_copyFrom_154 : decode cX5_copyFrom 154 = .ok (.return_, 1) := by decide +kernel
theorem dX5_houseNumbered_0 : decode cX5_houseNumbered 0 = .ok (.iload_n 1, 1) := by decide +kernel
theorem dX5_houseNumbered_1 : decode cX5_houseNumbered 1 = .ok (.ifCond .lt 26, 3) := by decide +kernel
theorem dX5_houseNumbered_4 : decode cX5_houseNumbered 4 = .ok (.iload_n 1, 1) := by decide +kernel
theorem dX5_houseNumbered_5 : decode cX5_houseNumbered 5 = .ok (.aload_n 0, 1) := by decide +kernel
theorem dX5_houseNumbered_6 : decode cX5_houseNumbered 6 = .ok (.getfield 55, 3) := by decide +kernel
theorem dX5_houseNumbered_9 : decode cX5_houseNumbered 9 = .ok (.if_icmp .ge 18, 3) := by decide +kernel
theorem dX5_houseNumbered_12 : decode cX5_houseNumbered 12 = .ok (.iload_n 1, 1) := by decide +kernel
theorem dX5_houseNumbered_13 : decode cX5_houseNumbered 13 = .ok (.bipush 24, 2) := by decide +kernel
theorem dX5_houseNumbered_15 : decode cX5_houseNumbered 15 = .ok (.if_icmp .ge 12, 3) := by decide +kernel
theorem dX5_houseNumbered_18 : decode cX5_houseNumbered 18 = .ok (.aload_n 0, 1) := by decide +kernel
theorem dX5_houseNumbered_19 : decode cX5_houseNumbered 19 = .ok (.getfield 11, 3) := by decide +kernel
theorem dX5_houseNumbered_22 : decode cX5_houseNumbered 22 = .ok (.iload_n 1, 1) := by decide +kernel
theorem dX5_houseNumbered_23 : decode cX5_houseNumbered 23 = .ok (.aaload, 1) := by decide +kernel
theorem dX5_houseNumbered_24 : decode cX5_houseNumbered 24 = .ok (.goto 4, 3) := by decide +kernel
theorem dX5_houseNumbered_27 : decode cX5_houseNumbered 27 = .ok (.aconst_null, 1) := by decide +kernel
theorem dX5_houseNumbered_28 : decode cX5_houseNumbered 28 = .ok (.areturn, 1) := by decide +kernel
theorem dX5_streetNumbered_0 : decode cX5_streetNumbered 0 = .ok (.iload_n 1, 1) := by decide +kernel
theorem dX5_streetNumbered_1 : decode cX5_streetNumbered 1 = .ok (.ifCond .lt 17, 3) := by decide +kernel
theorem dX5_streetNumbered_4 : decode cX5_streetNumbered 4 = .ok (.iload_n 1, 1) := by decide +kernel
theorem dX5_streetNumbered_5 : decode cX5_streetNumbered 5 = .ok (.iconst 4, 1) := by decide +kernel
theorem dX5_streetNumbered_6 : decode cX5_streetNumbered 6 = .ok (.if_icmp .ge 12, 3) := by decide +kernel
theorem dX5_streetNumbered_9 : decode cX5_streetNumbered 9 = .ok (.aload_n 0, 1) := by decide +kernel
theorem dX5_streetNumbered_10 : decode cX5_streetNumbered 10 = .ok (.getfield 19, 3) := by decide +kernel
theorem dX5_streetNumbered_13 : decode cX5_streetNumbered 13 = .ok (.iload_n 1, 1) := by decide +kernel
theorem dX5_streetNumbered_14 : decode cX5_streetNumbered 14 = .ok (.aaload, 1) := by decide +kernel
theorem dX5_streetNumbered_15 : decode cX5_streetNumbered 15 = .ok (.goto 4, 3) := by decide +kernel
theorem dX5_streetNumbered_18 : decode cX5_streetNumbered 18 = .ok (.aconst_null, 1) := by decide +kernel
theorem dX5_streetNumbered_19 : decode cX5_streetNumbered 19 = .ok (.areturn, 1) := by decide +kernel
set_option maxRecDepth 20000 in
theorem ggX5_obey_X5_addHouse : GoodIn wsX5_obey wsX5_addHouse := goodIn_rB _ [8, 1, 9, 10, 3, 11, 12, 13, 14, 7, 15, 16, 17, 18, 19, 20, 21, 22, 23, 24, 25, 26, 27, 28, 29, 30, 31, 129, 130, 131, 132, 133, 134, 135, 136, 137, 138, 139, 140, 141, 142, 143, 144, 145, 146, 147, 148, 149, 150, 151, 152, 153, 154, 155, 156, 157] (by decide +kernel) (by decide +kernel)
set_option maxRecDepth 20000 in
theorem gX5_obey_X5_addHouse : GoodIn wsX5_obey (wsV RX5 83 RX5 yX5_addHouse wsX5_addHouse) := goodIn_app (goodIn_of _ (by decide +kernel)) ggX5_obey_X5_addHouse
set_option maxRecDepth 20000 in
theorem ggX5_obey_X5_putFlow : GoodIn wsX5_obey wsX5_putFlow := goodIn_rB _ [35, 1, 36, 37, 38, 7, 39, 10, 11, 142, 143, 144, 145, 146, 147, 148, 149, 150, 151, 152, 153, 154, 155, 129, 130, 131, 132, 133, 134, 135, 136, 137, 138, 139, 140, 141] (by decide +kernel) (by decide +kernel)
set_option maxRecDepth 20000 in
theorem gX5_obey_X5_putFlow : GoodIn wsX5_obey (wsV RX5 87 RX5 yX5_putFlow wsX5_putFlow) := goodIn_app (goodIn_of _ (by decide +kernel)) ggX5_obey_X5_putFlow
set_option maxRecDepth 20000 in
theorem ggX5_obey_X5_turnLock : GoodIn wsX5_obey wsX5_turnLock := goodIn_rB _ [43, 1, 36, 37, 38, 7, 39, 10, 11, 44, 45, 46, 47, 142, 143, 144, 145, 146, 147, 148, 149, 150, 151, 152, 153, 154, 155, 129, 130, 131, 132, 133, 134, 135, 136, 137, 138, 139, 140, 141] (by decide +kernel) (by decide +kernel)
set_option maxRecDepth 20000 in
theorem gX5_obey_X5_turnLock : GoodIn wsX5_obey (wsV RX5 90 RX5 yX5_turnLock wsX5_turnLock) := goodIn_app (goodIn_of _ (by decide +kernel)) ggX5_obey_X5_turnLock
set_option maxRecDepth 20000 in
theorem ggX5_obey_X5_readIfOpen : GoodIn wsX5_obey wsX5_readIfOpen := goodIn_rB _ [51, 1, 2, 9, 36, 37, 38, 7, 39, 10, 11, 52, 53, 54, 55, 56, 57, 58, 59, 60, 61, 62, 63, 64, 65, 66, 67, 68, 69, 70, 71, 72, 73, 74, 75, 76, 18, 77, 78, 79, 80, 81, 82, 83, 84, 85, 86, 87, 88, 89, 90, 91, 92, 93, 94, 129, 130, 131, 132, 133, 134, 135, 136, 137, 138, 139, 140, 141, 142, 143, 144, 145, 146, 147, 148, 149, 150, 151, 152, 153, 154, 155, 158, 159, 160] (by decide +kernel) (by decide +kernel)
set_option maxRecDepth 20000 in
theorem gX5_obey_X5_readIfOpen : GoodIn wsX5_obey (wsV RX5 94 RX5 yX5_readIfOpen wsX5_readIfOpen) := goodIn_app (goodIn_of _ (by decide +kernel)) ggX5_obey_X5_readIfOpen
set_option maxRecDepth 20000 in
theorem ggX5_obey_X5_changeMeter : GoodIn wsX5_obey wsX5_changeMeter := goodIn_rB _ [98, 1, 36, 37, 38, 7, 39, 10, 11, 59, 60, 61, 62, 2, 63, 64, 65, 66, 67, 68, 69, 70, 71, 55, 72, 73, 74, 75, 76, 18, 77, 78, 79, 80, 81, 82, 58, 83, 84, 85, 86, 87, 88, 89, 90, 91, 92, 93, 94, 99, 100, 101, 102, 103, 129, 130, 131, 132, 133, 134, 135, 136, 137, 138, 139, 140, 141, 142, 143, 144, 145, 146, 147, 148, 149, 150, 151, 152, 153, 154, 155, 158, 159, 160] (by decide +kernel) (by decide +kernel)
set_option maxRecDepth 20000 in
theorem gX5_obey_X5_changeMeter : GoodIn wsX5_obey (wsV RX5 97 RX5 yX5_changeMeter wsX5_changeMeter) := goodIn_app (goodIn_of _ (by decide +kernel)) ggX5_obey_X5_changeMeter
set_option maxRecDepth 20000 in
theorem ggX5_obey_X5_passDays : GoodIn wsX5_obey wsX5_passDays := goodIn_rB _ [107, 64, 11, 2, 67, 108, 109, 110, 55, 111, 73, 112, 75, 12, 13, 14, 7, 15, 16, 113, 114, 115, 116, 117, 118, 119, 25, 120, 121, 22, 23, 24, 26, 27, 36, 37, 38, 39, 10, 52, 53, 54, 56, 57, 58, 59, 60, 61, 62, 63, 65, 66, 68, 69, 70, 71, 72, 74, 76, 18, 77, 78, 79, 80, 81, 82, 83, 84, 85, 86, 87, 88, 89, 90, 91, 92, 93, 94, 122, 123, 124, 125, 126, 127, 128, 129, 130, 131, 132, 133, 134, 135, 136, 137, 138, 139, 140, 141, 142, 143, 144, 145, 146, 147, 148, 149, 150, 151, 152, 153, 154, 155, 156, 157, 158, 159, 160] (by decide +kernel) (by decide +kernel)
set_option maxRecDepth 20000 in
theorem gX5_obey_X5_passDays : GoodIn wsX5_obey (wsV RX5 102 RX5 yX5_passDays wsX5_passDays) := goodIn_app (goodIn_of _ (by decide +kernel)) ggX5_obey_X5_passDays
theorem dX5_obey_0 : decode cX5_obey 0 = .ok (.iload_n 1, 1) := by decide +kernel
theorem dX5_obey_1 : decode cX5_obey 1 = .ok (.tableswitch 148 99 114 #[105, 111, 148, 86, 148, 79, 148, 148, 148, 93, 148, 148, 148, 148, 148, 99], 79) := by decide +kernel
theorem dX5_obey_80 : decode cX5_obey 80 = .ok (.aload_n 0, 1) := by decide +kernel
theorem dX5_obey_81 : decode cX5_obey 81 = .ok (.iload_n 2, 1) := by decide +kernel
theorem dX5_obey_82 : decode cX5_obey 82 = .ok (.iload_n 3, 1) := by decide +kernel
theorem dX5_obey_83 : decode cX5_obey 83 = .ok (.invokevirtual 83, 3) := by decide +kernel
theorem dX5_obey_86 : decode cX5_obey 86 = .ok (.ireturn, 1) := by decide +kernel
theorem dX5_obey_87 : decode cX5_obey 87 = .ok (.aload_n 0, 1) := by decide +kernel
theorem dX5_obey_88 : decode cX5_obey 88 = .ok (.iload_n 2, 1) := by decide +kernel
theorem dX5_obey_89 : decode cX5_obey 89 = .ok (.iload_n 3, 1) := by decide +kernel
theorem dX5_obey_90 : decode cX5_obey 90 = .ok (.invokevirtual 87, 3) := by decide +kernel
theorem dX5_obey_93 : decode cX5_obey 93 = .ok (.ireturn, 1) := by decide +kernel
theorem dX5_obey_94 : decode cX5_obey 94 = .ok (.aload_n 0, 1) := by decide +kernel
theorem dX5_obey_95 : decode cX5_obey 95 = .ok (.iload_n 2, 1) := by decide +kernel
theorem dX5_obey_96 : decode cX5_obey 96 = .ok (.invokevirtual 90, 3) := by decide +kernel
theorem dX5_obey_99 : decode cX5_obey 99 = .ok (.ireturn, 1) := by decide +kernel
theorem dX5_obey_100 : decode cX5_obey 100 = .ok (.aload_n 0, 1) := by decide +kernel
theorem dX5_obey_101 : decode cX5_obey 101 = .ok (.iload_n 2, 1) := by decide +kernel
theorem dX5_obey_102 : decode cX5_obey 102 = .ok (.invokevirtual 94, 3) := by decide +kernel
theorem dX5_obey_105 : decode cX5_obey 105 = .ok (.ireturn, 1) := by decide +kernel
theorem dX5_obey_106 : decode cX5_obey 106 = .ok (.aload_n 0, 1) := by decide +kernel
theorem dX5_obey_107 : decode cX5_obey 107 = .ok (.iload_n 2, 1) := by decide +kernel
theorem dX5_obey_108 : decode cX5_obey 108 = .ok (.invokevirtual 97, 3) := by decide +kernel
theorem dX5_obey_111 : decode cX5_obey 111 = .ok (.ireturn, 1) := by decide +kernel
theorem dX5_obey_112 : decode cX5_obey 112 = .ok (.iload_n 2, 1) := by decide +kernel
theorem dX5_obey_113 : decode cX5_obey 113 = .ok (.iconst 1, 1) := by decide +kernel
theorem dX5_obey_114 : decode cX5_obey 114 = .ok (.if_icmp .lt 9, 3) := by decide +kernel
theorem dX5_obey_117 : decode cX5_obey 117 = .ok (.iload_n 2, 1) := by decide +kernel
theorem dX5_obey_118 : decode cX5_obey 118 = .ok (.bipush 99, 2) := by decide +kernel
theorem dX5_obey_120 : decode cX5_obey 120 = .ok (.if_icmp .le 6, 3) := by decide +kernel
theorem dX5_obey_123 : decode cX5_obey 123 = .ok (.ldc 100, 2) := by decide +kernel
theorem dX5_obey_125 : decode cX5_obey 125 = .ok (.ireturn, 1) := by decide +kernel
theorem dX5_obey_126 : decode cX5_obey 126 = .ok (.aload_n 0, 1) := by decide +kernel
theorem dX5_obey_127 : decode cX5_obey 127 = .ok (.getfield 59, 3) := by decide +kernel
theorem dX5_obey_130 : decode cX5_obey 130 = .ok (.iload_n 2, 1) := by decide +kernel
theorem dX5_obey_131 : decode cX5_obey 131 = .ok (.iadd, 1) := by decide +kernel
theorem dX5_obey_132 : decode cX5_obey 132 = .ok (.sipush 9999, 3) := by decide +kernel
theorem dX5_obey_135 : decode cX5_obey 135 = .ok (.if_icmp .le 8, 3) := by decide +kernel
theorem dX5_obey_138 : decode cX5_obey 138 = .ok (.ldc 101, 2) := by decide +kernel
theorem dX5_obey_140 : decode cX5_obey 140 = .ok (.goto 8, 3) := by decide +kernel
theorem dX5_obey_143 : decode cX5_obey 143 = .ok (.aload_n 0, 1) := by decide +kernel
theorem dX5_obey_144 : decode cX5_obey 144 = .ok (.iload_n 2, 1) := by decide +kernel
theorem dX5_obey_145 : decode cX5_obey 145 = .ok (.invokevirtual 102, 3) := by decide +kernel
theorem dX5_obey_148 : decode cX5_obey 148 = .ok (.ireturn, 1) := by decide +kernel
theorem dX5_obey_149 : decode cX5_obey 149 = .ok (.ldc 100, 2) := by decide +kernel
theorem dX5_obey_151 : decode cX5_obey 151 = .ok (.ireturn, 1) := by decide +kernel
set_option maxRecDepth 20000 in
theorem ggX5_addHouse_X5_streetNumbered : GoodIn wsX5_addHouse wsX5_streetNumbered := goodIn_rB _ [10, 11, 27, 28, 29, 30, 31, 32, 33, 34, 35, 36, 37, 38, 39] (by decide +kernel) (by decide +kernel)
set_option maxRecDepth 20000 in
theorem gX5_addHouse_X5_streetNumbered : GoodIn wsX5_addHouse (wsV RX5 105 RX5 yX5_streetNumbered wsX5_streetNumbered) := goodIn_app (goodIn_of _ (by decide +kernel)) ggX5_addHouse_X5_streetNumbered
set_option maxRecDepth 20000 in
theorem ggX5_addHouse_X6_isPlace : GoodIn wsX5_addHouse wsX6_isPlace := goodIn_rB _ [14] (by decide +kernel) (by decide +kernel)
set_option maxRecDepth 20000 in
theorem gX5_addHouse_X6_isPlace_n109 : GoodIn wsX5_addHouse (wsX6_isPlace) := ggX5_addHouse_X6_isPlace
set_option maxRecDepth 20000 in
theorem ggX5_addHouse_X6_stepOf : GoodIn wsX5_addHouse wsX6_stepOf := goodIn_rB _ [16] (by decide +kernel) (by decide +kernel)
set_option maxRecDepth 20000 in
theorem gX5_addHouse_X6_stepOf_n113 : GoodIn wsX5_addHouse (wsX6_stepOf) := ggX5_addHouse_X6_stepOf
set_option maxRecDepth 20000 in
theorem ggX5_addHouse_X4_houseOn : GoodIn wsX5_addHouse wsX4_houseOn := goodIn_rB _ [21, 22, 54, 55] (by decide +kernel) (by decide +kernel)
set_option maxRecDepth 20000 in
theorem gX5_addHouse_X4_houseOn : GoodIn wsX5_addHouse (wsV RX5 116 RX4 yX4_houseOn wsX4_houseOn) := goodIn_app (goodIn_of _ (by decide +kernel)) ggX5_addHouse_X4_houseOn
set_option maxRecDepth 20000 in
theorem ggX5_addHouse_X4_putHouse : GoodIn wsX5_addHouse wsX4_putHouse := goodIn_rB _ [26, 22, 54, 55] (by decide +kernel) (by decide +kernel)
set_option maxRecDepth 20000 in
theorem gX5_addHouse_X4_putHouse : GoodIn wsX5_addHouse (wsV RX5 126 RX4 yX4_putHouse wsX4_putHouse) := goodIn_app (goodIn_of _ (by decide +kernel)) ggX5_addHouse_X4_putHouse
theorem dX5_addHouse_0 : decode cX5_addHouse 0 = .ok (.aload_n 0, 1) := by decide +kernel
theorem dX5_addHouse_1 : decode cX5_addHouse 1 = .ok (.iload_n 1, 1) := by decide +kernel
theorem dX5_addHouse_2 : decode cX5_addHouse 2 = .ok (.invokevirtual 105, 3) := by decide +kernel
theorem dX5_addHouse_5 : decode cX5_addHouse 5 = .ok (.astore_n 3, 1) := by decide +kernel
theorem dX5_addHouse_6 : decode cX5_addHouse 6 = .ok (.aload_n 3, 1) := by decide +kernel
theorem dX5_addHouse_7 : decode cX5_addHouse 7 = .ok (.ifnull 10, 3) := by decide +kernel
theorem dX5_addHouse_10 : decode cX5_addHouse 10 = .ok (.iload_n 2, 1) := by decide +kernel
theorem dX5_addHouse_11 : decode cX5_addHouse 11 = .ok (.invokestatic 109, 3) := by decide +kernel
theorem dX5_addHouse_14 : decode cX5_addHouse 14 = .ok (.ifCond .ne 6, 3) := by decide +kernel
theorem dX5_addHouse_17 : decode cX5_addHouse 17 = .ok (.ldc 100, 2) := by decide +kernel
theorem dX5_addHouse_19 : decode cX5_addHouse 19 = .ok (.ireturn, 1) := by decide +kernel
theorem dX5_addHouse_20 : decode cX5_addHouse 20 = .ok (.aload_n 3, 1) := by decide +kernel
theorem dX5_addHouse_21 : decode cX5_addHouse 21 = .ok (.iload_n 2, 1) := by decide +kernel
theorem dX5_addHouse_22 : decode cX5_addHouse 22 = .ok (.invokestatic 113, 3) := by decide +kernel
theorem dX5_addHouse_25 : decode cX5_addHouse 25 = .ok (.invokevirtual 116, 3) := by decide +kernel
theorem dX5_addHouse_28 : decode cX5_addHouse 28 = .ok (.iconst (-1), 1) := by decide +kernel
theorem dX5_addHouse_29 : decode cX5_addHouse 29 = .ok (.if_icmp .eq 6, 3) := by decide +kernel
theorem dX5_addHouse_32 : decode cX5_addHouse 32 = .ok (.ldc 119, 2) := by decide +kernel
theorem dX5_addHouse_34 : decode cX5_addHouse 34 = .ok (.ireturn, 1) := by decide +kernel
theorem dX5_addHouse_35 : decode cX5_addHouse 35 = .ok (.aload_n 0, 1) := by decide +kernel
theorem dX5_addHouse_36 : decode cX5_addHouse 36 = .ok (.getfield 55, 3) := by decide +kernel
theorem dX5_addHouse_39 : decode cX5_addHouse 39 = .ok (.bipush 24, 2) := by decide +kernel
theorem dX5_addHouse_41 : decode cX5_addHouse 41 = .ok (.if_icmp .lt 6, 3) := by decide +kernel
theorem dX5_addHouse_44 : decode cX5_addHouse 44 = .ok (.ldc 101, 2) := by decide +kernel
theorem dX5_addHouse_46 : decode cX5_addHouse 46 = .ok (.ireturn, 1) := by decide +kernel
theorem dX5_addHouse_47 : decode cX5_addHouse 47 = .ok (.aload_n 0, 1) := by decide +kernel
theorem dX5_addHouse_48 : decode cX5_addHouse 48 = .ok (.getfield 11, 3) := by decide +kernel
theorem dX5_addHouse_51 : decode cX5_addHouse 51 = .ok (.aload_n 0, 1) := by decide +kernel
theorem dX5_addHouse_52 : decode cX5_addHouse 52 = .ok (.getfield 55, 3) := by decide +kernel
theorem dX5_addHouse_55 : decode cX5_addHouse 55 = .ok (.aaload, 1) := by decide +kernel
theorem dX5_addHouse_56 : decode cX5_addHouse 56 = .ok (.astore 4, 2) := by decide +kernel
theorem dX5_addHouse_58 : decode cX5_addHouse 58 = .ok (.aload 4, 2) := by decide +kernel
theorem dX5_addHouse_60 : decode cX5_addHouse 60 = .ok (.iload_n 1, 1) := by decide +kernel
theorem dX5_addHouse_61 : decode cX5_addHouse 61 = .ok (.putfield 120, 3) := by decide +kernel
theorem dX5_addHouse_64 : decode cX5_addHouse 64 = .ok (.aload 4, 2) := by decide +kernel
theorem dX5_addHouse_66 : decode cX5_addHouse 66 = .ok (.iload_n 2, 1) := by decide +kernel
theorem dX5_addHouse_67 : decode cX5_addHouse 67 = .ok (.putfield 123, 3) := by decide +kernel
theorem dX5_addHouse_70 : decode cX5_addHouse 70 = .ok (.aload_n 3, 1) := by decide +kernel
theorem dX5_addHouse_71 : decode cX5_addHouse 71 = .ok (.iload_n 2, 1) := by decide +kernel
theorem dX5_addHouse_72 : decode cX5_addHouse 72 = .ok (.invokestatic 113, 3) := by decide +kernel
theorem dX5_addHouse_75 : decode cX5_addHouse 75 = .ok (.aload_n 0, 1) := by decide +kernel
theorem dX5_addHouse_76 : decode cX5_addHouse 76 = .ok (.getfield 55, 3) := by decide +kernel
theorem dX5_addHouse_79 : decode cX5_addHouse 79 = .ok (.invokevirtual 126, 3) := by decide +kernel
theorem dX5_addHouse_82 : decode cX5_addHouse 82 = .ok (.aload_n 0, 1) := by decide +kernel
theorem dX5_addHouse_83 : decode cX5_addHouse 83 = .ok (.dup, 1) := by decide +kernel
theorem dX5_addHouse_84 : decode cX5_addHouse 84 = .ok (.getfield 55, 3) := by decide +kernel
theorem dX5_addHouse_87 : decode cX5_addHouse 87 = .ok (.iconst 1, 1) := by decide +kernel
theorem dX5_addHouse_88 : decode cX5_addHouse 88 = .ok (.iadd, 1) := by decide +kernel
theorem dX5_addHouse_89 : decode cX5_addHouse 89 = .ok (.putfield 55, 3) := by decide +kernel
theorem dX5_addHouse_92 : decode cX5_addHouse 92 = .ok (.aload_n 0, 1) := by decide +kernel
theorem dX5_addHouse_93 : decode cX5_addHouse 93 = .ok (.getfield 55, 3) := by decide +kernel
theorem dX5_addHouse_96 : decode cX5_addHouse 96 = .ok (.iconst 1, 1) := by decide +kernel
theorem dX5_addHouse_97 : decode cX5_addHouse 97 = .ok (.isub, 1) := by decide +kernel
theorem dX5_addHouse_98 : decode cX5_addHouse 98 = .ok (.ireturn, 1) := by decide +kernel
set_option maxRecDepth 20000 in
theorem ggX5_putFlow_X5_houseNumbered : GoodIn wsX5_putFlow wsX5_houseNumbered := goodIn_rB _ [6, 7, 8, 23, 24, 25, 26, 27, 28, 29, 30, 31, 32, 33, 34, 35] (by decide +kernel) (by decide +kernel)
set_option maxRecDepth 20000 in
theorem gX5_putFlow_X5_houseNumbered : GoodIn wsX5_putFlow (wsV RX5 130 RX5 yX5_houseNumbered wsX5_houseNumbered) := goodIn_app (goodIn_of _ (by decide +kernel)) ggX5_putFlow_X5_houseNumbered
theorem dX5_putFlow_0 : decode cX5_putFlow 0 = .ok (.aload_n 0, 1) := by decide +kernel
theorem dX5_putFlow_1 : decode cX5_putFlow 1 = .ok (.iload_n 1, 1) := by decide +kernel
theorem dX5_putFlow_2 : decode cX5_putFlow 2 = .ok (.invokevirtual 130, 3) := by decide +kernel
theorem dX5_putFlow_5 : decode cX5_putFlow 5 = .ok (.astore_n 3, 1) := by decide +kernel
theorem dX5_putFlow_6 : decode cX5_putFlow 6 = .ok (.aload_n 3, 1) := by decide +kernel
theorem dX5_putFlow_7 : decode cX5_putFlow 7 = .ok (.ifnull 14, 3) := by decide +kernel
theorem dX5_putFlow_10 : decode cX5_putFlow 10 = .ok (.iload_n 2, 1) := by decide +kernel
theorem dX5_putFlow_11 : decode cX5_putFlow 11 = .ok (.ifCond .lt 10, 3) := by decide +kernel
theorem dX5_putFlow_14 : decode cX5_putFlow 14 = .ok (.iload_n 2, 1) := by decide +kernel
theorem dX5_putFlow_15 : decode cX5_putFlow 15 = .ok (.sipush 999, 3) := by decide +kernel
theorem dX5_putFlow_18 : decode cX5_putFlow 18 = .ok (.if_icmp .le 6, 3) := by decide +kernel
theorem dX5_putFlow_21 : decode cX5_putFlow 21 = .ok (.ldc 100, 2) := by decide +kernel
theorem dX5_putFlow_23 : decode cX5_putFlow 23 = .ok (.ireturn, 1) := by decide +kernel
theorem dX5_putFlow_24 : decode cX5_putFlow 24 = .ok (.aload_n 3, 1) := by decide +kernel
theorem dX5_putFlow_25 : decode cX5_putFlow 25 = .ok (.getfield 134, 3) := by decide +kernel
theorem dX5_putFlow_28 : decode cX5_putFlow 28 = .ok (.istore 4, 2) := by decide +kernel
theorem dX5_putFlow_30 : decode cX5_putFlow 30 = .ok (.aload_n 3, 1) := by decide +kernel
theorem dX5_putFlow_31 : decode cX5_putFlow 31 = .ok (.iload_n 2, 1) := by decide +kernel
theorem dX5_putFlow_32 : decode cX5_putFlow 32 = .ok (.putfield 134, 3) := by decide +kernel
theorem dX5_putFlow_35 : decode cX5_putFlow 35 = .ok (.iload 4, 2) := by decide +kernel
theorem dX5_putFlow_37 : decode cX5_putFlow 37 = .ok (.ireturn, 1) := by decide +kernel
set_option maxRecDepth 20000 in
theorem ggX5_putLock_X5_houseNumbered : GoodIn wsX5_putLock wsX5_houseNumbered := goodIn_rB _ [6, 7, 8, 23, 24, 25, 26, 27, 28, 29, 30, 31, 32, 33, 34, 35] (by decide +kernel) (by decide +kernel)
set_option maxRecDepth 20000 in
theorem gX5_putLock_X5_houseNumbered : GoodIn wsX5_putLock (wsV RX5 130 RX5 yX5_houseNumbered wsX5_houseNumbered) := goodIn_app (goodIn_of _ (by decide +kernel)) ggX5_putLock_X5_houseNumbered
theorem dX5_putLock_0 : decode cX5_putLock 0 = .ok (.aload_n 0, 1) := by decide +kernel
theorem dX5_putLock_1 : decode cX5_putLock 1 = .ok (.iload_n 1, 1) := by decide +kernel
theorem dX5_putLock_2 : decode cX5_putLock 2 = .ok (.invokevirtual 130, 3) := by decide +kernel
theorem dX5_putLock_5 : decode cX5_putLock 5 = .ok (.astore_n 3, 1) := by decide +kernel
theorem dX5_putLock_6 : decode cX5_putLock 6 = .ok (.aload_n 3, 1) := by decide +kernel
theorem dX5_putLock_7 : decode cX5_putLock 7 = .ok (.ifnonnull 6, 3) := by decide +kernel
theorem dX5_putLock_10 : decode cX5_putLock 10 = .ok (.ldc 100, 2) := by decide +kernel
theorem dX5_putLock_12 : decode cX5_putLock 12 = .ok (.ireturn, 1) := by decide +kernel
theorem dX5_putLock_13 : decode cX5_putLock 13 = .ok (.aload_n 3, 1) := by decide +kernel
theorem dX5_putLock_14 : decode cX5_putLock 14 = .ok (.getfield 137, 3) := by decide +kernel
theorem dX5_putLock_17 : decode cX5_putLock 17 = .ok (.ifCond .eq 7, 3) := by decide +kernel
theorem dX5_putLock_20 : decode cX5_putLock 20 = .ok (.iconst 1, 1) := by decide +kernel
theorem dX5_putLock_21 : decode cX5_putLock 21 = .ok (.goto 4, 3) := by decide +kernel
theorem dX5_putLock_24 : decode cX5_putLock 24 = .ok (.iconst 0, 1) := by decide +kernel
theorem dX5_putLock_25 : decode cX5_putLock 25 = .ok (.istore 4, 2) := by decide +kernel
theorem dX5_putLock_27 : decode cX5_putLock 27 = .ok (.aload_n 3, 1) := by decide +kernel
theorem dX5_putLock_28 : decode cX5_putLock 28 = .ok (.iload_n 2, 1) := by decide +kernel
theorem dX5_putLock_29 : decode cX5_putLock 29 = .ok (.putfield 137, 3) := by decide +kernel
theorem dX5_putLock_32 : decode cX5_putLock 32 = .ok (.iload 4, 2) := by decide +kernel
theorem dX5_putLock_34 : decode cX5_putLock 34 = .ok (.ireturn, 1) := by decide +kernel
set_option maxRecDepth 20000 in
theorem ggX5_turnLock_X5_houseNumbered : GoodIn wsX5_turnLock wsX5_houseNumbered := goodIn_rB _ [6, 7, 8, 27, 28, 29, 30, 31, 32, 33, 34, 35, 36, 37, 38, 39] (by decide +kernel) (by decide +kernel)
set_option maxRecDepth 20000 in
theorem gX5_turnLock_X5_houseNumbered : GoodIn wsX5_turnLock (wsV RX5 130 RX5 yX5_houseNumbered wsX5_houseNumbered) := goodIn_app (goodIn_of _ (by decide +kernel)) ggX5_turnLock_X5_houseNumbered
set_option maxRecDepth 20000 in
theorem ggX5_turnLock_X5_putLock : GoodIn wsX5_turnLock wsX5_putLock := goodIn_rB _ [12, 1, 2, 3, 4, 5, 6, 7, 8, 13, 14, 15, 16, 17, 18, 19, 20, 21, 22, 23, 24, 25, 26, 27, 28, 29, 30, 31, 32, 33, 34, 35, 36, 37, 38, 39] (by decide +kernel) (by decide +kernel)
set_option maxRecDepth 20000 in
theorem gX5_turnLock_X5_putLock : GoodIn wsX5_turnLock (wsV RX5 141 RX5 yX5_putLock wsX5_putLock) := goodIn_app (goodIn_of _ (by decide +kernel)) ggX5_turnLock_X5_putLock
theorem dX5_turnLock_0 : decode cX5_turnLock 0 = .ok (.aload_n 0, 1) := by decide +kernel
theorem dX5_turnLock_1 : decode cX5_turnLock 1 = .ok (.iload_n 1, 1) := by decide +kernel
theorem dX5_turnLock_2 : decode cX5_turnLock 2 = .ok (.invokevirtual 130, 3) := by decide +kernel
theorem dX5_turnLock_5 : decode cX5_turnLock 5 = .ok (.astore_n 2, 1) := by decide +kernel
theorem dX5_turnLock_6 : decode cX5_turnLock 6 = .ok (.aload_n 2, 1) := by decide +kernel
theorem dX5_turnLock_7 : decode cX5_turnLock 7 = .ok (.ifnonnull 8, 3) := by decide +kernel
theorem dX5_turnLock_10 : decode cX5_turnLock 10 = .ok (.ldc 100, 2) := by decide +kernel
theorem dX5_turnLock_12 : decode cX5_turnLock 12 = .ok (.goto 20, 3) := by decide +kernel
theorem dX5_turnLock_15 : decode cX5_turnLock 15 = .ok (.aload_n 0, 1) := by decide +kernel
theorem dX5_turnLock_16 : decode cX5_turnLock 16 = .ok (.iload_n 1, 1) := by decide +kernel
theorem dX5_turnLock_17 : decode cX5_turnLock 17 = .ok (.aload_n 2, 1) := by decide +kernel
theorem dX5_turnLock_18 : decode cX5_turnLock 18 = .ok (.getfield 137, 3) := by decide +kernel
theorem dX5_turnLock_21 : decode cX5_turnLock 21 = .ok (.ifCond .ne 7, 3) := by decide +kernel
theorem dX5_turnLock_24 : decode cX5_turnLock 24 = .ok (.iconst 1, 1) := by decide +kernel
theorem dX5_turnLock_25 : decode cX5_turnLock 25 = .ok (.goto 4, 3) := by decide +kernel
theorem dX5_turnLock_28 : decode cX5_turnLock 28 = .ok (.iconst 0, 1) := by decide +kernel
theorem dX5_turnLock_29 : decode cX5_turnLock 29 = .ok (.invokevirtual 141, 3) := by decide +kernel
theorem dX5_turnLock_32 : decode cX5_turnLock 32 = .ok (.ireturn, 1) := by decide +kernel
theorem dX5_putSetting_0 : decode cX5_putSetting 0 = .ok (.iload_n 1, 1) := by decide +kernel
theorem dX5_putSetting_1 : decode cX5_putSetting 1 = .ok (.ifCond .lt 26, 3) := by decide +kernel
theorem dX5_putSetting_4 : decode cX5_putSetting 4 = .ok (.iload_n 1, 1) := by decide +kernel
theorem dX5_putSetting_5 : decode cX5_putSetting 5 = .ok (.iconst 4, 1) := by decide +kernel
theorem dX5_putSetting_6 : decode cX5_putSetting 6 = .ok (.if_icmp .ge 21, 3) := by decide +kernel
theorem dX5_putSetting_9 : decode cX5_putSetting 9 = .ok (.iload_n 2, 1) := by decide +kernel
theorem dX5_putSetting_10 : decode cX5_putSetting 10 = .ok (.getstatic 145, 3) := by decide +kernel
theorem dX5_putSetting_13 : decode cX5_putSetting 13 = .ok (.iload_n 1, 1) := by decide +kernel
theorem dX5_putSetting_14 : decode cX5_putSetting 14 = .ok (.iaload, 1) := by decide +kernel
theorem dX5_putSetting_15 : decode cX5_putSetting 15 = .ok (.if_icmp .lt 12, 3) := by decide +kernel
theorem dX5_putSetting_18 : decode cX5_putSetting 18 = .ok (.iload_n 2, 1) := by decide +kernel
theorem dX5_putSetting_19 : decode cX5_putSetting 19 = .ok (.getstatic 148, 3) := by decide +kernel
theorem dX5_putSetting_22 : decode cX5_putSetting 22 = .ok (.iload_n 1, 1) := by decide +kernel
theorem dX5_putSetting_23 : decode cX5_putSetting 23 = .ok (.iaload, 1) := by decide +kernel
theorem dX5_putSetting_24 : decode cX5_putSetting 24 = .ok (.if_icmp .le 6, 3) := by decide +kernel
theorem dX5_putSetting_27 : decode cX5_putSetting 27 = .ok (.ldc 100, 2) := by decide +kernel
theorem dX5_putSetting_29 : decode cX5_putSetting 29 = .ok (.ireturn, 1) := by decide +kernel
theorem dX5_putSetting_30 : decode cX5_putSetting 30 = .ok (.aload_n 0, 1) := by decide +kernel
theorem dX5_putSetting_31 : decode cX5_putSetting 31 = .ok (.getfield 30, 3) := by decide +kernel
theorem dX5_putSetting_34 : decode cX5_putSetting 34 = .ok (.iload_n 1, 1) := by decide +kernel
theorem dX5_putSetting_35 : decode cX5_putSetting 35 = .ok (.iaload, 1) := by decide +kernel
theorem dX5_putSetting_36 : decode cX5_putSetting 36 = .ok (.istore_n 3, 1) := by decide +kernel
theorem dX5_putSetting_37 : decode cX5_putSetting 37 = .ok (.aload_n 0, 1) := by decide +kernel
theorem dX5_putSetting_38 : decode cX5_putSetting 38 = .ok (.getfield 30, 3) := by decide +kernel
theorem dX5_putSetting_41 : decode cX5_putSetting 41 = .ok (.iload_n 1, 1) := by decide +kernel
theorem dX5_putSetting_42 : decode cX5_putSetting 42 = .ok (.iload_n 2, 1) := by decide +kernel
theorem dX5_putSetting_43 : decode cX5_putSetting 43 = .ok (.iastore, 1) := by decide +kernel
theorem dX5_putSetting_44 : decode cX5_putSetting 44 = .ok (.iload_n 3, 1) := by decide +kernel
theorem dX5_putSetting_45 : decode cX5_putSetting 45 = .ok (.ireturn, 1) := by decide +kernel
set_option maxRecDepth 20000 in
theorem ggX5_readIfOpen_X5_houseNumbered : GoodIn wsX5_readIfOpen wsX5_houseNumbered := goodIn_rB _ [8, 9, 10, 55, 56, 57, 58, 59, 60, 61, 62, 63, 64, 65, 66, 67] (by decide +kernel) (by decide +kernel)
