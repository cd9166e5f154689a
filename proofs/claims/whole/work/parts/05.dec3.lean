set_option maxRecDepth 20000 in
theorem gX7_used_X7_of : GoodIn wsX7_used (wsV RX7 43 RX7 yX7_of wsX7_of) := goodIn_app (goodIn_of _ (by decide +kernel)) ggX7_used_X7_of
theorem dX7_used_0 : decode cX7_used 0 = .ok (.aload_n 0, 1) := by decide +kernel
theorem dX7_used_1 : decode cX7_used 1 = .ok (.iload_n 1, 1) := by decide +kernel
theorem dX7_used_2 : decode cX7_used 2 = .ok (.iconst 2, 1) := by decide +kernel
theorem dX7_used_3 : decode cX7_used 3 = .ok (.invokevirtual 43, 3) := by decide +kernel
theorem dX7_used_6 : decode cX7_used 6 = .ok (.aload_n 0, 1) := by decide +kernel
theorem dX7_used_7 : decode cX7_used 7 = .ok (.iload_n 1, 1) := by decide +kernel
theorem dX7_used_8 : decode cX7_used 8 = .ok (.iconst 3, 1) := by decide +kernel
theorem dX7_used_9 : decode cX7_used 9 = .ok (.invokevirtual 43, 3) := by decide +kernel
theorem dX7_used_12 : decode cX7_used 12 = .ok (.isub, 1) := by decide +kernel
theorem dX7_used_13 : decode cX7_used 13 = .ok (.ldc 48, 2) := by decide +kernel
theorem dX7_used_15 : decode cX7_used 15 = .ok (.iadd, 1) := by decide +kernel
theorem dX7_used_16 : decode cX7_used 16 = .ok (.ldc 48, 2) := by decide +kernel
theorem dX7_used_18 : decode cX7_used 18 = .ok (.irem, 1) := by decide +kernel
theorem dX7_used_19 : decode cX7_used 19 = .ok (.ireturn, 1) := by decide +kernel
set_option maxRecDepth 20000 in
theorem ggX7_unitsOf_X7_used : GoodIn wsX7_unitsOf wsX7_used := goodIn_r _ [5, 6, 7, 8, 9, 4, 10, 11, 12, 13, 14, 15, 16, 17, 18, 19, 20, 21, 22, 23, 24, 25, 26, 27] (by decide +kernel) (by decide +kernel)
set_option maxRecDepth 20000 in
theorem gX7_unitsOf_X7_used : GoodIn wsX7_unitsOf (wsV RX7 49 RX7 yX7_used wsX7_used) := goodIn_app (goodIn_of _ (by decide +kernel)) ggX7_unitsOf_X7_used
set_option maxRecDepth 20000 in
theorem ggX7_unitsOf_X7_of : GoodIn wsX7_unitsOf wsX7_of := goodIn_r _ [10, 11, 12, 13, 14, 15, 16, 17, 18, 19, 20, 21, 22, 23, 24, 25, 26, 27] (by decide +kernel) (by decide +kernel)
set_option maxRecDepth 20000 in
theorem gX7_unitsOf_X7_of : GoodIn wsX7_unitsOf (wsV RX7 43 RX7 yX7_of wsX7_of) := goodIn_app (goodIn_of _ (by decide +kernel)) ggX7_unitsOf_X7_of
theorem dX7_unitsOf_0 : decode cX7_unitsOf 0 = .ok (.aload_n 0, 1) := by decide +kernel
theorem dX7_unitsOf_1 : decode cX7_unitsOf 1 = .ok (.iload_n 1, 1) := by decide +kernel
theorem dX7_unitsOf_2 : decode cX7_unitsOf 2 = .ok (.invokevirtual 49, 3) := by decide +kernel
theorem dX7_unitsOf_5 : decode cX7_unitsOf 5 = .ok (.istore_n 2, 1) := by decide +kernel
theorem dX7_unitsOf_6 : decode cX7_unitsOf 6 = .ok (.aload_n 0, 1) := by decide +kernel
theorem dX7_unitsOf_7 : decode cX7_unitsOf 7 = .ok (.iload_n 1, 1) := by decide +kernel
theorem dX7_unitsOf_8 : decode cX7_unitsOf 8 = .ok (.iconst 4, 1) := by decide +kernel
theorem dX7_unitsOf_9 : decode cX7_unitsOf 9 = .ok (.invokevirtual 43, 3) := by decide +kernel
theorem dX7_unitsOf_12 : decode cX7_unitsOf 12 = .ok (.istore_n 3, 1) := by decide +kernel
theorem dX7_unitsOf_13 : decode cX7_unitsOf 13 = .ok (.iload_n 3, 1) := by decide +kernel
theorem dX7_unitsOf_14 : decode cX7_unitsOf 14 = .ok (.ifCond .le 7, 3) := by decide +kernel
theorem dX7_unitsOf_17 : decode cX7_unitsOf 17 = .ok (.iconst 0, 1) := by decide +kernel
theorem dX7_unitsOf_18 : decode cX7_unitsOf 18 = .ok (.goto 14, 3) := by decide +kernel
theorem dX7_unitsOf_21 : decode cX7_unitsOf 21 = .ok (.iload_n 3, 1) := by decide +kernel
theorem dX7_unitsOf_22 : decode cX7_unitsOf 22 = .ok (.ifCond .ge 8, 3) := by decide +kernel
theorem dX7_unitsOf_25 : decode cX7_unitsOf 25 = .ok (.bipush 99, 2) := by decide +kernel
theorem dX7_unitsOf_27 : decode cX7_unitsOf 27 = .ok (.goto 5, 3) := by decide +kernel
theorem dX7_unitsOf_30 : decode cX7_unitsOf 30 = .ok (.bipush 50, 2) := by decide +kernel
theorem dX7_unitsOf_32 : decode cX7_unitsOf 32 = .ok (.istore 4, 2) := by decide +kernel
theorem dX7_unitsOf_34 : decode cX7_unitsOf 34 = .ok (.iload_n 2, 1) := by decide +kernel
theorem dX7_unitsOf_35 : decode cX7_unitsOf 35 = .ok (.iload 4, 2) := by decide +kernel
theorem dX7_unitsOf_37 : decode cX7_unitsOf 37 = .ok (.iadd, 1) := by decide +kernel
theorem dX7_unitsOf_38 : decode cX7_unitsOf 38 = .ok (.bipush 100, 2) := by decide +kernel
theorem dX7_unitsOf_40 : decode cX7_unitsOf 40 = .ok (.idiv, 1) := by decide +kernel
theorem dX7_unitsOf_41 : decode cX7_unitsOf 41 = .ok (.ireturn, 1) := by decide +kernel
set_option maxRecDepth 20000 in
theorem ggX7_balanceThen_X7_of : GoodIn wsX7_balanceThen wsX7_of := goodIn_r _ [5, 6, 16, 17, 18, 19, 20, 21, 22, 23, 24, 25, 26, 27, 28, 29, 30, 31] (by decide +kernel) (by decide +kernel)
set_option maxRecDepth 20000 in
theorem gX7_balanceThen_X7_of : GoodIn wsX7_balanceThen (wsV RX7 43 RX7 yX7_of wsX7_of) := goodIn_app (goodIn_of _ (by decide +kernel)) ggX7_balanceThen_X7_of
set_option maxRecDepth 20000 in
theorem ggX7_balanceThen_X7_unitsOf : GoodIn wsX7_balanceThen wsX7_unitsOf := goodIn_r _ [10, 11, 12, 13, 4, 14, 15, 1, 2, 3, 5, 6, 16, 17, 18, 19, 20, 21, 22, 23, 24, 25, 26, 27, 28, 29, 30, 31] (by decide +kernel) (by decide +kernel)
set_option maxRecDepth 20000 in
theorem gX7_balanceThen_X7_unitsOf : GoodIn wsX7_balanceThen (wsV RX7 53 RX7 yX7_unitsOf wsX7_unitsOf) := goodIn_app (goodIn_of _ (by decide +kernel)) ggX7_balanceThen_X7_unitsOf
set_option maxRecDepth 20000 in
theorem ggX7_balanceThen_X7_used : GoodIn wsX7_balanceThen wsX7_used := goodIn_r _ [14, 15, 1, 2, 3, 4, 5, 6, 16, 17, 18, 19, 20, 21, 22, 23, 24, 25, 26, 27, 28, 29, 30, 31] (by decide +kernel) (by decide +kernel)
set_option maxRecDepth 20000 in
theorem gX7_balanceThen_X7_used : GoodIn wsX7_balanceThen (wsV RX7 49 RX7 yX7_used wsX7_used) := goodIn_app (goodIn_of _ (by decide +kernel)) ggX7_balanceThen_X7_used
theorem dX7_balanceThen_0 : decode cX7_balanceThen 0 = .ok (.aload_n 0, 1) := by decide +kernel
theorem dX7_balanceThen_1 : decode cX7_balanceThen 1 = .ok (.iload_n 1, 1) := by decide +kernel
theorem dX7_balanceThen_2 : decode cX7_balanceThen 2 = .ok (.iconst 4, 1) := by decide +kernel
theorem dX7_balanceThen_3 : decode cX7_balanceThen 3 = .ok (.invokevirtual 43, 3) := by decide +kernel
theorem dX7_balanceThen_6 : decode cX7_balanceThen 6 = .ok (.bipush 100, 2) := by decide +kernel
theorem dX7_balanceThen_8 : decode cX7_balanceThen 8 = .ok (.aload_n 0, 1) := by decide +kernel
theorem dX7_balanceThen_9 : decode cX7_balanceThen 9 = .ok (.iload_n 1, 1) := by decide +kernel
theorem dX7_balanceThen_10 : decode cX7_balanceThen 10 = .ok (.invokevirtual 53, 3) := by decide +kernel
theorem dX7_balanceThen_13 : decode cX7_balanceThen 13 = .ok (.imul, 1) := by decide +kernel
theorem dX7_balanceThen_14 : decode cX7_balanceThen 14 = .ok (.iadd, 1) := by decide +kernel
theorem dX7_balanceThen_15 : decode cX7_balanceThen 15 = .ok (.aload_n 0, 1) := by decide +kernel
theorem dX7_balanceThen_16 : decode cX7_balanceThen 16 = .ok (.iload_n 1, 1) := by decide +kernel
theorem dX7_balanceThen_17 : decode cX7_balanceThen 17 = .ok (.invokevirtual 49, 3) := by decide +kernel
theorem dX7_balanceThen_20 : decode cX7_balanceThen 20 = .ok (.isub, 1) := by decide +kernel
theorem dX7_balanceThen_21 : decode cX7_balanceThen 21 = .ok (.ireturn, 1) := by decide +kernel
set_option maxRecDepth 20000 in
theorem ggX7_barred_X7_of : GoodIn wsX7_barred wsX7_of := goodIn_r _ [6, 1, 7, 8, 9, 10, 11, 12, 13, 14, 15, 16, 17, 18, 19, 20, 21, 22] (by decide +kernel) (by decide +kernel)
set_option maxRecDepth 20000 in
theorem gX7_barred_X7_of : GoodIn wsX7_barred (wsV RX7 43 RX7 yX7_of wsX7_of) := goodIn_app (goodIn_of _ (by decide +kernel)) ggX7_barred_X7_of
theorem dX7_barred_0 : decode cX7_barred 0 = .ok (.aload_n 0, 1) := by decide +kernel
theorem dX7_barred_1 : decode cX7_barred 1 = .ok (.iload_n 1, 1) := by decide +kernel
theorem dX7_barred_2 : decode cX7_barred 2 = .ok (.bipush 6, 2) := by decide +kernel
theorem dX7_barred_4 : decode cX7_barred 4 = .ok (.invokevirtual 43, 3) := by decide +kernel
theorem dX7_barred_7 : decode cX7_barred 7 = .ok (.iconst 1, 1) := by decide +kernel
theorem dX7_barred_8 : decode cX7_barred 8 = .ok (.if_icmp .ne 7, 3) := by decide +kernel
theorem dX7_barred_11 : decode cX7_barred 11 = .ok (.iconst 1, 1) := by decide +kernel
theorem dX7_barred_12 : decode cX7_barred 12 = .ok (.goto 28, 3) := by decide +kernel
theorem dX7_barred_15 : decode cX7_barred 15 = .ok (.aload_n 0, 1) := by decide +kernel
theorem dX7_barred_16 : decode cX7_barred 16 = .ok (.iload_n 1, 1) := by decide +kernel
theorem dX7_barred_17 : decode cX7_barred 17 = .ok (.bipush 7, 2) := by decide +kernel
theorem dX7_barred_19 : decode cX7_barred 19 = .ok (.invokevirtual 43, 3) := by decide +kernel
theorem dX7_barred_22 : decode cX7_barred 22 = .ok (.aload_n 0, 1) := by decide +kernel
theorem dX7_barred_23 : decode cX7_barred 23 = .ok (.getfield 7, 3) := by decide +kernel
theorem dX7_barred_26 : decode cX7_barred 26 = .ok (.sipush 400, 3) := by decide +kernel
theorem dX7_barred_29 : decode cX7_barred 29 = .ok (.iaload, 1) := by decide +kernel
theorem dX7_barred_30 : decode cX7_barred 30 = .ok (.iconst 1, 1) := by decide +kernel
theorem dX7_barred_31 : decode cX7_barred 31 = .ok (.iadd, 1) := by decide +kernel
theorem dX7_barred_32 : decode cX7_barred 32 = .ok (.if_icmp .ne 7, 3) := by decide +kernel
theorem dX7_barred_35 : decode cX7_barred 35 = .ok (.iconst 2, 1) := by decide +kernel
theorem dX7_barred_36 : decode cX7_barred 36 = .ok (.goto 4, 3) := by decide +kernel
theorem dX7_barred_39 : decode cX7_barred 39 = .ok (.iconst 0, 1) := by decide +kernel
theorem dX7_barred_40 : decode cX7_barred 40 = .ok (.ireturn, 1) := by decide +kernel
theorem dX7_enters_0 : decode cX7_enters 0 = .ok (.bipush 59, 2) := by decide +kernel
theorem dX7_enters_2 : decode cX7_enters 2 = .ok (.istore 5, 2) := by decide +kernel
theorem dX7_enters_4 : decode cX7_enters 4 = .ok (.iload 5, 2) := by decide +kernel
theorem dX7_enters_6 : decode cX7_enters 6 = .ok (.bipush 6, 2) := by decide +kernel
theorem dX7_enters_8 : decode cX7_enters 8 = .ok (.if_icmp .lt 34, 3) := by decide +kernel
theorem dX7_enters_11 : decode cX7_enters 11 = .ok (.aload_n 0, 1) := by decide +kernel
theorem dX7_enters_12 : decode cX7_enters 12 = .ok (.getfield 7, 3) := by decide +kernel
theorem dX7_enters_15 : decode cX7_enters 15 = .ok (.sipush 340, 3) := by decide +kernel
theorem dX7_enters_18 : decode cX7_enters 18 = .ok (.iload 5, 2) := by decide +kernel
theorem dX7_enters_20 : decode cX7_enters 20 = .ok (.iadd, 1) := by decide +kernel
theorem dX7_enters_21 : decode cX7_enters 21 = .ok (.aload_n 0, 1) := by decide +kernel
theorem dX7_enters_22 : decode cX7_enters 22 = .ok (.getfield 7, 3) := by decide +kernel
theorem dX7_enters_25 : decode cX7_enters 25 = .ok (.sipush 340, 3) := by decide +kernel
theorem dX7_enters_28 : decode cX7_enters 28 = .ok (.iload 5, 2) := by decide +kernel
theorem dX7_enters_30 : decode cX7_enters 30 = .ok (.iadd, 1) := by decide +kernel
theorem dX7_enters_31 : decode cX7_enters 31 = .ok (.bipush 6, 2) := by decide +kernel
theorem dX7_enters_33 : decode cX7_enters 33 = .ok (.isub, 1) := by decide +kernel
theorem dX7_enters_34 : decode cX7_enters 34 = .ok (.iaload, 1) := by decide +kernel
theorem dX7_enters_35 : decode cX7_enters 35 = .ok (.iastore, 1) := by decide +kernel
theorem dX7_enters_36 : decode cX7_enters 36 = .ok (.iinc 5 (-1), 3) := by decide +kernel
theorem dX7_enters_39 : decode cX7_enters 39 = .ok (.goto (-35), 3) := by decide +kernel
theorem dX7_enters_42 : decode cX7_enters 42 = .ok (.aload_n 0, 1) := by decide +kernel
theorem dX7_enters_43 : decode cX7_enters 43 = .ok (.getfield 7, 3) := by decide +kernel
theorem dX7_enters_46 : decode cX7_enters 46 = .ok (.sipush 340, 3) := by decide +kernel
theorem dX7_enters_49 : decode cX7_enters 49 = .ok (.aload_n 0, 1) := by decide +kernel
theorem dX7_enters_50 : decode cX7_enters 50 = .ok (.getfield 7, 3) := by decide +kernel
theorem dX7_enters_53 : decode cX7_enters 53 = .ok (.sipush 400, 3) := by decide +kernel
theorem dX7_enters_56 : decode cX7_enters 56 = .ok (.iaload, 1) := by decide +kernel
theorem dX7_enters_57 : decode cX7_enters 57 = .ok (.iastore, 1) := by decide +kernel
theorem dX7_enters_58 : decode cX7_enters 58 = .ok (.aload_n 0, 1) := by decide +kernel
theorem dX7_enters_59 : decode cX7_enters 59 = .ok (.getfield 7, 3) := by decide +kernel
theorem dX7_enters_62 : decode cX7_enters 62 = .ok (.sipush 341, 3) := by decide +kernel
theorem dX7_enters_65 : decode cX7_enters 65 = .ok (.iload_n 1, 1) := by decide +kernel
theorem dX7_enters_66 : decode cX7_enters 66 = .ok (.iastore, 1) := by decide +kernel
theorem dX7_enters_67 : decode cX7_enters 67 = .ok (.aload_n 0, 1) := by decide +kernel
theorem dX7_enters_68 : decode cX7_enters 68 = .ok (.getfield 7, 3) := by decide +kernel
theorem dX7_enters_71 : decode cX7_enters 71 = .ok (.sipush 342, 3) := by decide +kernel
theorem dX7_enters_74 : decode cX7_enters 74 = .ok (.iload_n 2, 1) := by decide +kernel
theorem dX7_enters_75 : decode cX7_enters 75 = .ok (.iastore, 1) := by decide +kernel
theorem dX7_enters_76 : decode cX7_enters 76 = .ok (.aload_n 0, 1) := by decide +kernel
theorem dX7_enters_77 : decode cX7_enters 77 = .ok (.getfield 7, 3) := by decide +kernel
theorem dX7_enters_80 : decode cX7_enters 80 = .ok (.sipush 343, 3) := by decide +kernel
theorem dX7_enters_83 : decode cX7_enters 83 = .ok (.iload_n 3, 1) := by decide +kernel
theorem dX7_enters_84 : decode cX7_enters 84 = .ok (.iastore, 1) := by decide +kernel
theorem dX7_enters_85 : decode cX7_enters 85 = .ok (.aload_n 0, 1) := by decide +kernel
theorem dX7_enters_86 : decode cX7_enters 86 = .ok (.getfield 7, 3) := by decide +kernel
theorem dX7_enters_89 : decode cX7_enters 89 = .ok (.sipush 344, 3) := by decide +kernel
theorem dX7_enters_92 : decode cX7_enters 92 = .ok (.iload_n 2, 1) := by decide +kernel
theorem dX7_enters_93 : decode cX7_enters 93 = .ok (.bipush 100, 2) := by decide +kernel
theorem dX7_enters_95 : decode cX7_enters 95 = .ok (.irem, 1) := by decide +kernel
theorem dX7_enters_96 : decode cX7_enters 96 = .ok (.ifCond .ne 7, 3) := by decide +kernel
theorem dX7_enters_99 : decode cX7_enters 99 = .ok (.iconst 2, 1) := by decide +kernel
theorem dX7_enters_100 : decode cX7_enters 100 = .ok (.goto 16, 3) := by decide +kernel
theorem dX7_enters_103 : decode cX7_enters 103 = .ok (.bipush 100, 2) := by decide +kernel
theorem dX7_enters_105 : decode cX7_enters 105 = .ok (.iload_n 3, 1) := by decide +kernel
theorem dX7_enters_106 : decode cX7_enters 106 = .ok (.imul, 1) := by decide +kernel
theorem dX7_enters_107 : decode cX7_enters 107 = .ok (.iload_n 2, 1) := by decide +kernel
theorem dX7_enters_108 : decode cX7_enters 108 = .ok (.if_icmp .le 7, 3) := by decide +kernel
theorem dX7_enters_111 : decode cX7_enters 111 = .ok (.iconst 1, 1) := by decide +kernel
theorem dX7_enters_112 : decode cX7_enters 112 = .ok (.goto 4, 3) := by decide +kernel
theorem dX7_enters_115 : decode cX7_enters 115 = .ok (.iconst 0, 1) := by decide +kernel
theorem dX7_enters_116 : decode cX7_enters 116 = .ok (.iastore, 1) := by decide +kernel
theorem dX7_enters_117 : decode cX7_enters 117 = .ok (.aload_n 0, 1) := by decide +kernel
theorem dX7_enters_118 : decode cX7_enters 118 = .ok (.getfield 7, 3) := by decide +kernel
theorem dX7_enters_121 : decode cX7_enters 121 = .ok (.sipush 345, 3) := by decide +kernel
theorem dX7_enters_124 : decode cX7_enters 124 = .ok (.sipush 1000, 3) := by decide +kernel
theorem dX7_enters_127 : decode cX7_enters 127 = .ok (.iload 4, 2) := by decide +kernel
theorem dX7_enters_129 : decode cX7_enters 129 = .ok (.iadd, 1) := by decide +kernel
theorem dX7_enters_130 : decode cX7_enters 130 = .ok (.iastore, 1) := by decide +kernel
theorem dX7_enters_131 : decode cX7_enters 131 = .ok (.aload_n 0, 1) := by decide +kernel
theorem dX7_enters_132 : decode cX7_enters 132 = .ok (.getfield 7, 3) := by decide +kernel
theorem dX7_enters_135 : decode cX7_enters 135 = .ok (.sipush 409, 3) := by decide +kernel
theorem dX7_enters_138 : decode cX7_enters 138 = .ok (.dup2, 1) := by decide +kernel
theorem dX7_enters_139 : decode cX7_enters 139 = .ok (.iaload, 1) := by decide +kernel
theorem dX7_enters_140 : decode cX7_enters 140 = .ok (.aload_n 0, 1) := by decide +kernel
theorem dX7_enters_141 : decode cX7_enters 141 = .ok (.getfield 7, 3) := by decide +kernel
theorem dX7_enters_144 : decode cX7_enters 144 = .ok (.sipush 409, 3) := by decide +kernel
theorem dX7_enters_147 : decode cX7_enters 147 = .ok (.iaload, 1) := by decide +kernel
theorem dX7_enters_148 : decode cX7_enters 148 = .ok (.bipush 10, 2) := by decide +kernel
theorem dX7_enters_150 : decode cX7_enters 150 = .ok (.if_icmp .ge 7, 3) := by decide +kernel
theorem dX7_enters_153 : decode cX7_enters 153 = .ok (.iconst 1, 1) := by decide +kernel
theorem dX7_enters_154 : decode cX7_enters 154 = .ok (.goto 4, 3) := by decide +kernel
theorem dX7_enters_157 : decode cX7_enters 157 = .ok (.iconst 0, 1) := by decide +kernel
theorem dX7_enters_158 : decode cX7_enters 158 = .ok (.iadd, 1) := by decide +kernel
theorem dX7_enters_159 : decode cX7_enters 159 = .ok (.iastore, 1) := by decide +kernel
theorem dX7_enters_160 : decode cX7_enters 160 = .ok (.return_, 1) := by decide +kernel
set_option maxRecDepth 20000 in
theorem ggX7_reads_X7_used : GoodIn wsX7_reads wsX7_used := goodIn_r _ [6, 7, 8, 9, 10, 5, 11, 1, 32, 33, 34, 35, 36, 37, 38, 39, 40, 41, 42, 43, 44, 45, 46, 47] (by decide +kernel) (by decide +kernel)
set_option maxRecDepth 20000 in
theorem gX7_reads_X7_used : GoodIn wsX7_reads (wsV RX7 49 RX7 yX7_used wsX7_used) := goodIn_app (goodIn_of _ (by decide +kernel)) ggX7_reads_X7_used
set_option maxRecDepth 20000 in
theorem ggX7_reads_X7_unitsOf : GoodIn wsX7_reads wsX7_unitsOf := goodIn_r _ [15, 2, 3, 4, 5, 6, 7, 8, 9, 10, 11, 1, 32, 33, 34, 35, 36, 37, 38, 39, 40, 41, 42, 43, 44, 45, 46, 47] (by decide +kernel) (by decide +kernel)
set_option maxRecDepth 20000 in
theorem gX7_reads_X7_unitsOf : GoodIn wsX7_reads (wsV RX7 53 RX7 yX7_unitsOf wsX7_unitsOf) := goodIn_app (goodIn_of _ (by decide +kernel)) ggX7_reads_X7_unitsOf
set_option maxRecDepth 20000 in
theorem ggX7_reads_X7_balanceThen : GoodIn wsX7_reads wsX7_balanceThen := goodIn_r _ [19, 8, 9, 10, 5, 11, 1, 12, 13, 14, 15, 2, 3, 4, 6, 7, 32, 33, 34, 35, 36, 37, 38, 39, 40, 41, 42, 43, 44, 45, 46, 47] (by decide +kernel) (by decide +kernel)
set_option maxRecDepth 20000 in
theorem gX7_reads_X7_balanceThen : GoodIn wsX7_reads (wsV RX7 56 RX7 yX7_balanceThen wsX7_balanceThen) := goodIn_app (goodIn_of _ (by decide +kernel)) ggX7_reads_X7_balanceThen
set_option maxRecDepth 20000 in
theorem ggX7_reads_X7_lay : GoodIn wsX7_reads wsX7_lay := goodIn_r _ [23, 1, 32, 33, 34, 35, 36, 37, 38, 39, 40, 41, 42, 43, 44, 45, 46, 47] (by decide +kernel) (by decide +kernel)
set_option maxRecDepth 20000 in
theorem gX7_reads_X7_lay : GoodIn wsX7_reads (wsV RX7 59 RX7 yX7_lay wsX7_lay) := goodIn_app (goodIn_of _ (by decide +kernel)) ggX7_reads_X7_lay
set_option maxRecDepth 20000 in
theorem ggX7_reads_X7_of : GoodIn wsX7_reads wsX7_of := goodIn_r _ [11, 1, 32, 33, 34, 35, 36, 37, 38, 39, 40, 41, 42, 43, 44, 45, 46, 47] (by decide +kernel) (by decide +kernel)
set_option maxRecDepth 20000 in
theorem gX7_reads_X7_of : GoodIn wsX7_reads (wsV RX7 43 RX7 yX7_of wsX7_of) := goodIn_app (goodIn_of _ (by decide +kernel)) ggX7_reads_X7_of
set_option maxRecDepth 20000 in
theorem ggX7_reads_X7_adds : GoodIn wsX7_reads wsX7_adds := goodIn_r _ [27, 1, 32, 33, 34, 35, 36, 37, 38, 39, 40, 41, 42, 43, 44, 45, 46, 47] (by decide +kernel) (by decide +kernel)
set_option maxRecDepth 20000 in
theorem gX7_reads_X7_adds : GoodIn wsX7_reads (wsV RX7 63 RX7 yX7_adds wsX7_adds) := goodIn_app (goodIn_of _ (by decide +kernel)) ggX7_reads_X7_adds
set_option maxRecDepth 20000 in
theorem ggX7_reads_X7_enters : GoodIn wsX7_reads wsX7_enters := goodIn_r _ [31, 1, 32, 33, 34, 35, 36, 37, 38, 39, 40, 41, 42, 43, 44, 45, 46, 47] (by decide +kernel) (by decide +kernel)
set_option maxRecDepth 20000 in
theorem gX7_reads_X7_enters : GoodIn wsX7_reads (wsV RX7 66 RX7 yX7_enters wsX7_enters) := goodIn_app (goodIn_of _ (by decide +kernel)) ggX7_reads_X7_enters
theorem dX7_reads_0 : decode cX7_reads 0 = .ok (.aload_n 0, 1) := by decide +kernel
theorem dX7_reads_1 : decode cX7_reads 1 = .ok (.iload_n 1, 1) := by decide +kernel
theorem dX7_reads_2 : decode cX7_reads 2 = .ok (.invokevirtual 49, 3) := by decide +kernel
theorem dX7_reads_5 : decode cX7_reads 5 = .ok (.istore_n 2, 1) := by decide +kernel
theorem dX7_reads_6 : decode cX7_reads 6 = .ok (.aload_n 0, 1) := by decide +kernel
theorem dX7_reads_7 : decode cX7_reads 7 = .ok (.iload_n 1, 1) := by decide +kernel
theorem dX7_reads_8 : decode cX7_reads 8 = .ok (.invokevirtual 53, 3) := by decide +kernel
theorem dX7_reads_11 : decode cX7_reads 11 = .ok (.istore_n 3, 1) := by decide +kernel
theorem dX7_reads_12 : decode cX7_reads 12 = .ok (.aload_n 0, 1) := by decide +kernel
theorem dX7_reads_13 : decode cX7_reads 13 = .ok (.iload_n 1, 1) := by decide +kernel
theorem dX7_reads_14 : decode cX7_reads 14 = .ok (.invokevirtual 56, 3) := by decide +kernel
theorem dX7_reads_17 : decode cX7_reads 17 = .ok (.istore 4, 2) := by decide +kernel
theorem dX7_reads_19 : decode cX7_reads 19 = .ok (.aload_n 0, 1) := by decide +kernel
theorem dX7_reads_20 : decode cX7_reads 20 = .ok (.iload_n 1, 1) := by decide +kernel
theorem dX7_reads_21 : decode cX7_reads 21 = .ok (.iconst 4, 1) := by decide +kernel
theorem dX7_reads_22 : decode cX7_reads 22 = .ok (.iload 4, 2) := by decide +kernel
theorem dX7_reads_24 : decode cX7_reads 24 = .ok (.invokevirtual 59, 3) := by decide +kernel
theorem dX7_reads_27 : decode cX7_reads 27 = .ok (.aload_n 0, 1) := by decide +kernel
theorem dX7_reads_28 : decode cX7_reads 28 = .ok (.iload_n 1, 1) := by decide +kernel
theorem dX7_reads_29 : decode cX7_reads 29 = .ok (.iconst 3, 1) := by decide +kernel
theorem dX7_reads_30 : decode cX7_reads 30 = .ok (.aload_n 0, 1) := by decide +kernel
theorem dX7_reads_31 : decode cX7_reads 31 = .ok (.iload_n 1, 1) := by decide +kernel
theorem dX7_reads_32 : decode cX7_reads 32 = .ok (.iconst 2, 1) := by decide +kernel
theorem dX7_reads_33 : decode cX7_reads 33 = .ok (.invokevirtual 43, 3) := by decide +kernel
theorem dX7_reads_36 : decode cX7_reads 36 = .ok (.invokevirtual 59, 3) := by decide +kernel
theorem dX7_reads_39 : decode cX7_reads 39 = .ok (.aload_n 0, 1) := by decide +kernel
theorem dX7_reads_40 : decode cX7_reads 40 = .ok (.iload_n 1, 1) := by decide +kernel
theorem dX7_reads_41 : decode cX7_reads 41 = .ok (.bipush 7, 2) := by decide +kernel
theorem dX7_reads_43 : decode cX7_reads 43 = .ok (.aload_n 0, 1) := by decide +kernel
theorem dX7_reads_44 : decode cX7_reads 44 = .ok (.getfield 7, 3) := by decide +kernel
theorem dX7_reads_47 : decode cX7_reads 47 = .ok (.sipush 400, 3) := by decide +kernel
theorem dX7_reads_50 : decode cX7_reads 50 = .ok (.iaload, 1) := by decide +kernel
theorem dX7_reads_51 : decode cX7_reads 51 = .ok (.iconst 1, 1) := by decide +kernel
theorem dX7_reads_52 : decode cX7_reads 52 = .ok (.iadd, 1) := by decide +kernel
theorem dX7_reads_53 : decode cX7_reads 53 = .ok (.invokevirtual 59, 3) := by decide +kernel
theorem dX7_reads_56 : decode cX7_reads 56 = .ok (.aload_n 0, 1) := by decide +kernel
theorem dX7_reads_57 : decode cX7_reads 57 = .ok (.iload_n 1, 1) := by decide +kernel
theorem dX7_reads_58 : decode cX7_reads 58 = .ok (.bipush 8, 2) := by decide +kernel
theorem dX7_reads_60 : decode cX7_reads 60 = .ok (.iconst 1, 1) := by decide +kernel
theorem dX7_reads_61 : decode cX7_reads 61 = .ok (.invokevirtual 63, 3) := by decide +kernel
theorem dX7_reads_64 : decode cX7_reads 64 = .ok (.aload_n 0, 1) := by decide +kernel
theorem dX7_reads_65 : decode cX7_reads 65 = .ok (.iload_n 1, 1) := by decide +kernel
theorem dX7_reads_66 : decode cX7_reads 66 = .ok (.bipush 9, 2) := by decide +kernel
theorem dX7_reads_68 : decode cX7_reads 68 = .ok (.iload_n 3, 1) := by decide +kernel
theorem dX7_reads_69 : decode cX7_reads 69 = .ok (.invokevirtual 63, 3) := by decide +kernel
theorem dX7_reads_72 : decode cX7_reads 72 = .ok (.aload_n 0, 1) := by decide +kernel
theorem dX7_reads_73 : decode cX7_reads 73 = .ok (.iload_n 1, 1) := by decide +kernel
theorem dX7_reads_74 : decode cX7_reads 74 = .ok (.bipush 10, 2) := by decide +kernel
theorem dX7_reads_76 : decode cX7_reads 76 = .ok (.iload 4, 2) := by decide +kernel
theorem dX7_reads_78 : decode cX7_reads 78 = .ok (.ifCond .le 7, 3) := by decide +kernel
theorem dX7_reads_81 : decode cX7_reads 81 = .ok (.iconst 1, 1) := by decide +kernel
theorem dX7_reads_82 : decode cX7_reads 82 = .ok (.goto 4, 3) := by decide +kernel
theorem dX7_reads_85 : decode cX7_reads 85 = .ok (.iconst 0, 1) := by decide +kernel
theorem dX7_reads_86 : decode cX7_reads 86 = .ok (.invokevirtual 63, 3) := by decide +kernel
theorem dX7_reads_89 : decode cX7_reads 89 = .ok (.aload_n 0, 1) := by decide +kernel
theorem dX7_reads_90 : decode cX7_reads 90 = .ok (.iload_n 1, 1) := by decide +kernel
theorem dX7_reads_91 : decode cX7_reads 91 = .ok (.bipush 11, 2) := by decide +kernel
theorem dX7_reads_93 : decode cX7_reads 93 = .ok (.iload 4, 2) := by decide +kernel
theorem dX7_reads_95 : decode cX7_reads 95 = .ok (.ifCond .ge 7, 3) := by decide +kernel
theorem dX7_reads_98 : decode cX7_reads 98 = .ok (.iconst 1, 1) := by decide +kernel
theorem dX7_reads_99 : decode cX7_reads 99 = .ok (.goto 4, 3) := by decide +kernel
theorem dX7_reads_102 : decode cX7_reads 102 = .ok (.iconst 0, 1) := by decide +kernel
theorem dX7_reads_103 : decode cX7_reads 103 = .ok (.invokevirtual 63, 3) := by decide +kernel
theorem dX7_reads_106 : decode cX7_reads 106 = .ok (.aload_n 0, 1) := by decide +kernel
theorem dX7_reads_107 : decode cX7_reads 107 = .ok (.getfield 7, 3) := by decide +kernel
theorem dX7_reads_110 : decode cX7_reads 110 = .ok (.sipush 402, 3) := by decide +kernel
theorem dX7_reads_113 : decode cX7_reads 113 = .ok (.dup2, 1) := by decide +kernel
theorem dX7_reads_114 : decode cX7_reads 114 = .ok (.iaload, 1) := by decide +kernel
theorem dX7_reads_115 : decode cX7_reads 115 = .ok (.iconst 1, 1) := by decide +kernel
theorem dX7_reads_116 : decode cX7_reads 116 = .ok (.iadd, 1) := by decide +kernel
theorem dX7_reads_117 : decode cX7_reads 117 = .ok (.iastore, 1) := by decide +kernel
theorem dX7_reads_118 : decode cX7_reads 118 = .ok (.aload_n 0, 1) := by decide +kernel
theorem dX7_reads_119 : decode cX7_reads 119 = .ok (.getfield 7, 3) := by decide +kernel
theorem dX7_reads_122 : decode cX7_reads 122 = .ok (.sipush 403, 3) := by decide +kernel
theorem dX7_reads_125 : decode cX7_reads 125 = .ok (.dup2, 1) := by decide +kernel
theorem dX7_reads_126 : decode cX7_reads 126 = .ok (.iaload, 1) := by decide +kernel
theorem dX7_reads_127 : decode cX7_reads 127 = .ok (.iload_n 3, 1) := by decide +kernel
theorem dX7_reads_128 : decode cX7_reads 128 = .ok (.iadd, 1) := by decide +kernel
theorem dX7_reads_129 : decode cX7_reads 129 = .ok (.iastore, 1) := by decide +kernel
theorem dX7_reads_130 : decode cX7_reads 130 = .ok (.aload_n 0, 1) := by decide +kernel
theorem dX7_reads_131 : decode cX7_reads 131 = .ok (.getfield 7, 3) := by decide +kernel
theorem dX7_reads_134 : decode cX7_reads 134 = .ok (.sipush 404, 3) := by decide +kernel
theorem dX7_reads_137 : decode cX7_reads 137 = .ok (.dup2, 1) := by decide +kernel
theorem dX7_reads_138 : decode cX7_reads 138 = .ok (.iaload, 1) := by decide +kernel
theorem dX7_reads_139 : decode cX7_reads 139 = .ok (.iload_n 3, 1) := by decide +kernel
theorem dX7_reads_140 : decode cX7_reads 140 = .ok (.aload_n 0, 1) := by decide +kernel
theorem dX7_reads_141 : decode cX7_reads 141 = .ok (.getfield 7, 3) := by decide +kernel
theorem dX7_reads_144 : decode cX7_reads 144 = .ok (.sipush 411, 3) := by decide +kernel
theorem dX7_reads_147 : decode cX7_reads 147 = .ok (.iaload, 1) := by decide +kernel
theorem dX7_reads_148 : decode cX7_reads 148 = .ok (.imul, 1) := by decide +kernel
theorem dX7_reads_149 : decode cX7_reads 149 = .ok (.iadd, 1) := by decide +kernel
theorem dX7_reads_150 : decode cX7_reads 150 = .ok (.iastore, 1) := by decide +kernel
theorem dX7_reads_151 : decode cX7_reads 151 = .ok (.aload_n 0, 1) := by decide +kernel
theorem dX7_reads_152 : decode cX7_reads 152 = .ok (.getfield 7, 3) := by decide +kernel
theorem dX7_reads_155 : decode cX7_reads 155 = .ok (.sipush 405, 3) := by decide +kernel
theorem dX7_reads_158 : decode cX7_reads 158 = .ok (.dup2, 1) := by decide +kernel
theorem dX7_reads_159 : decode cX7_reads 159 = .ok (.iaload, 1) := by decide +kernel
theorem dX7_reads_160 : decode cX7_reads 160 = .ok (.iload_n 2, 1) := by decide +kernel
theorem dX7_reads_161 : decode cX7_reads 161 = .ok (.iadd, 1) := by decide +kernel
theorem dX7_reads_162 : decode cX7_reads 162 = .ok (.iastore, 1) := by decide +kernel
theorem dX7_reads_163 : decode cX7_reads 163 = .ok (.aload_n 0, 1) := by decide +kernel
theorem dX7_reads_164 : decode cX7_reads 164 = .ok (.iload_n 1, 1) := by decide +kernel
theorem dX7_reads_165 : decode cX7_reads 165 = .ok (.iload_n 2, 1) := by decide +kernel
theorem dX7_reads_166 : decode cX7_reads 166 = .ok (.iload_n 3, 1) := by decide +kernel
theorem dX7_reads_167 : decode cX7_reads 167 = .ok (.iload 4, 2) := by decide +kernel
theorem dX7_reads_169 : decode cX7_reads 169 = .ok (.invokevirtual 66, 3) := by decide +kernel
theorem dX7_reads_172 : decode cX7_reads 172 = .ok (.iload_n 3, 1) := by decide +kernel
theorem dX7_reads_173 : decode cX7_reads 173 = .ok (.ireturn, 1) := by decide +kernel
set_option maxRecDepth 20000 in
theorem ggX7_turn_X7_of : GoodIn wsX7_turn wsX7_of := goodIn_r _ [5, 6, 7, 8, 9, 10, 11, 12, 13, 14, 15, 16, 17, 18, 19, 20, 21, 22] (by decide +kernel) (by decide +kernel)
set_option maxRecDepth 20000 in
theorem gX7_turn_X7_of : GoodIn wsX7_turn (wsV RX7 43 RX7 yX7_of wsX7_of) := goodIn_app (goodIn_of _ (by decide +kernel)) ggX7_turn_X7_of
theorem dX7_turn_0 : decode cX7_turn 0 = .ok (.aload_n 0, 1) := by decide +kernel
theorem dX7_turn_1 : decode cX7_turn 1 = .ok (.iload_n 1, 1) := by decide +kernel
theorem dX7_turn_2 : decode cX7_turn 2 = .ok (.iconst 1, 1) := by decide +kernel
theorem dX7_turn_3 : decode cX7_turn 3 = .ok (.invokevirtual 43, 3) := by decide +kernel
theorem dX7_turn_6 : decode cX7_turn 6 = .ok (.istore_n 2, 1) := by decide +kernel
theorem dX7_turn_7 : decode cX7_turn 7 = .ok (.iload_n 2, 1) := by decide +kernel
theorem dX7_turn_8 : decode cX7_turn 8 = .ok (.iconst 2, 1) := by decide +kernel
theorem dX7_turn_9 : decode cX7_turn 9 = .ok (.irem, 1) := by decide +kernel
theorem dX7_turn_10 : decode cX7_turn 10 = .ok (.iconst 1, 1) := by decide +kernel
theorem dX7_turn_11 : decode cX7_turn 11 = .ok (.if_icmp .ne 7, 3) := by decide +kernel
theorem dX7_turn_14 : decode cX7_turn 14 = .ok (.iload_n 2, 1) := by decide +kernel
theorem dX7_turn_15 : decode cX7_turn 15 = .ok (.goto 7, 3) := by decide +kernel
theorem dX7_turn_18 : decode cX7_turn 18 = .ok (.bipush 100, 2) := by decide +kernel
theorem dX7_turn_20 : decode cX7_turn 20 = .ok (.iload_n 2, 1) := by decide +kernel
theorem dX7_turn_21 : decode cX7_turn 21 = .ok (.isub, 1) := by decide +kernel
theorem dX7_turn_22 : decode cX7_turn 22 = .ok (.ireturn, 1) := by decide +kernel
set_option maxRecDepth 20000 in
theorem ggX7_rounds_X7_of : GoodIn wsX7_rounds wsX7_of := goodIn_r _ [7, 1, 16, 17, 18, 19, 20, 21, 22, 23, 24, 25, 26, 27, 28, 29, 30, 31] (by decide +kernel) (by decide +kernel)
set_option maxRecDepth 20000 in
theorem gX7_rounds_X7_of : GoodIn wsX7_rounds (wsV RX7 43 RX7 yX7_of wsX7_of) := goodIn_app (goodIn_of _ (by decide +kernel)) ggX7_rounds_X7_of
set_option maxRecDepth 20000 in
theorem ggX7_rounds_X7_turn : GoodIn wsX7_rounds wsX7_turn := goodIn_r _ [11, 3, 4, 5, 6, 7, 1, 16, 17, 18, 19, 20, 21, 22, 23, 24, 25, 26, 27, 28, 29, 30, 31] (by decide +kernel) (by decide +kernel)
set_option maxRecDepth 20000 in
theorem gX7_rounds_X7_turn : GoodIn wsX7_rounds (wsV RX7 70 RX7 yX7_turn wsX7_turn) := goodIn_app (goodIn_of _ (by decide +kernel)) ggX7_rounds_X7_turn
set_option maxRecDepth 20000 in
theorem ggX7_rounds_X7_rankOf : GoodIn wsX7_rounds wsX7_rankOf := goodIn_r _ [15, 1, 8, 9, 10, 6, 11, 3, 4, 5, 7, 16, 17, 18, 19, 20, 21, 22, 23, 24, 25, 26, 27, 28, 29, 30, 31] (by decide +kernel) (by decide +kernel)
set_option maxRecDepth 20000 in
theorem gX7_rounds_X7_rankOf : GoodIn wsX7_rounds (wsV RX7 73 RX7 yX7_rankOf wsX7_rankOf) := goodIn_app (goodIn_of _ (by decide +kernel)) ggX7_rounds_X7_rankOf
theorem dX7_rounds_0 : decode cX7_rounds 0 = .ok (.iconst 0, 1) := by decide +kernel
theorem dX7_rounds_1 : decode cX7_rounds 1 = .ok (.istore_n 2, 1) := by decide +kernel
theorem dX7_rounds_2 : decode cX7_rounds 2 = .ok (.iconst 0, 1) := by decide +kernel
theorem dX7_rounds_3 : decode cX7_rounds 3 = .ok (.istore_n 3, 1) := by decide +kernel
theorem dX7_rounds_4 : decode cX7_rounds 4 = .ok (.iload_n 3, 1) := by decide +kernel
theorem dX7_rounds_5 : decode cX7_rounds 5 = .ok (.aload_n 0, 1) := by decide +kernel
theorem dX7_rounds_6 : decode cX7_rounds 6 = .ok (.getfield 7, 3) := by decide +kernel
theorem dX7_rounds_9 : decode cX7_rounds 9 = .ok (.sipush 401, 3) := by decide +kernel
theorem dX7_rounds_12 : decode cX7_rounds 12 = .ok (.iaload, 1) := by decide +kernel
theorem dX7_rounds_13 : decode cX7_rounds 13 = .ok (.if_icmp .ge 27, 3) := by decide +kernel
theorem dX7_rounds_16 : decode cX7_rounds 16 = .ok (.iload_n 2, 1) := by decide +kernel
theorem dX7_rounds_17 : decode cX7_rounds 17 = .ok (.aload_n 0, 1) := by decide +kernel
theorem dX7_rounds_18 : decode cX7_rounds 18 = .ok (.iload_n 3, 1) := by decide +kernel
theorem dX7_rounds_19 : decode cX7_rounds 19 = .ok (.iconst 0, 1) := by decide +kernel
theorem dX7_rounds_20 : decode cX7_rounds 20 = .ok (.invokevirtual 43, 3) := by decide +kernel
theorem dX7_rounds_23 : decode cX7_rounds 23 = .ok (.iload_n 1, 1) := by decide +kernel
theorem dX7_rounds_24 : decode cX7_rounds 24 = .ok (.if_icmp .ne 7, 3) := by decide +kernel
theorem dX7_rounds_27 : decode cX7_rounds 27 = .ok (.iconst 1, 1) := by decide +kernel
theorem dX7_rounds_28 : decode cX7_rounds 28 = .ok (.goto 4, 3) := by decide +kernel
theorem dX7_rounds_31 : decode cX7_rounds 31 = .ok (.iconst 0, 1) := by decide +kernel
theorem dX7_rounds_32 : decode cX7_rounds 32 = .ok (.iadd, 1) := by decide +kernel
theorem dX7_rounds_33 : decode cX7_rounds 33 = .ok (.istore_n 2, 1) := by decide +kernel
theorem dX7_rounds_34 : decode cX7_rounds 34 = .ok (.iinc 3 1, 3) := by decide +kernel
theorem dX7_rounds_37 : decode cX7_rounds 37 = .ok (.goto (-33), 3) := by decide +kernel
theorem dX7_rounds_40 : decode cX7_rounds 40 = .ok (.aload_n 0, 1) := by decide +kernel
theorem dX7_rounds_41 : decode cX7_rounds 41 = .ok (.getfield 7, 3) := by decide +kernel
theorem dX7_rounds_44 : decode cX7_rounds 44 = .ok (.sipush 336, 3) := by decide +kernel
theorem dX7_rounds_47 : decode cX7_rounds 47 = .ok (.iload_n 1, 1) := by decide +kernel
theorem dX7_rounds_48 : decode cX7_rounds 48 = .ok (.iadd, 1) := by decide +kernel
theorem dX7_rounds_49 : decode cX7_rounds 49 = .ok (.iaload, 1) := by decide +kernel
theorem dX7_rounds_50 : decode cX7_rounds 50 = .ok (.iconst 1, 1) := by decide +kernel
theorem dX7_rounds_51 : decode cX7_rounds 51 = .ok (.isub, 1) := by decide +kernel
theorem dX7_rounds_52 : decode cX7_rounds 52 = .ok (.istore_n 3, 1) := by decide +kernel
theorem dX7_rounds_53 : decode cX7_rounds 53 = .ok (.iload_n 3, 1) := by decide +kernel
theorem dX7_rounds_54 : decode cX7_rounds 54 = .ok (.ifCond .ge 7, 3) := by decide +kernel
theorem dX7_rounds_57 : decode cX7_rounds 57 = .ok (.iconst 0, 1) := by decide +kernel
theorem dX7_rounds_58 : decode cX7_rounds 58 = .ok (.goto 8, 3) := by decide +kernel
theorem dX7_rounds_61 : decode cX7_rounds 61 = .ok (.aload_n 0, 1) := by decide +kernel
theorem dX7_rounds_62 : decode cX7_rounds 62 = .ok (.iload_n 3, 1) := by decide +kernel
theorem dX7_rounds_63 : decode cX7_rounds 63 = .ok (.invokevirtual 70, 3) := by decide +kernel
theorem dX7_rounds_66 : decode cX7_rounds 66 = .ok (.istore 4, 2) := by decide +kernel
theorem dX7_rounds_68 : decode cX7_rounds 68 = .ok (.iconst 0, 1) := by decide +kernel
theorem dX7_rounds_69 : decode cX7_rounds 69 = .ok (.istore 5, 2) := by decide +kernel
theorem dX7_rounds_71 : decode cX7_rounds 71 = .ok (.iload 5, 2) := by decide +kernel
theorem dX7_rounds_73 : decode cX7_rounds 73 = .ok (.aload_n 0, 1) := by decide +kernel
theorem dX7_rounds_74 : decode cX7_rounds 74 = .ok (.getfield 7, 3) := by decide +kernel
theorem dX7_rounds_77 : decode cX7_rounds 77 = .ok (.sipush 401, 3) := by decide +kernel
theorem dX7_rounds_80 : decode cX7_rounds 80 = .ok (.iaload, 1) := by decide +kernel
theorem dX7_rounds_81 : decode cX7_rounds 81 = .ok (.if_icmp .ge 36, 3) := by decide +kernel
theorem dX7_rounds_84 : decode cX7_rounds 84 = .ok (.aload_n 0, 1) := by decide +kernel
theorem dX7_rounds_85 : decode cX7_rounds 85 = .ok (.iload 5, 2) := by decide +kernel
theorem dX7_rounds_87 : decode cX7_rounds 87 = .ok (.iconst 0, 1) := by decide +kernel
theorem dX7_rounds_88 : decode cX7_rounds 88 = .ok (.invokevirtual 43, 3) := by decide +kernel
theorem dX7_rounds_91 : decode cX7_rounds 91 = .ok (.iload_n 1, 1) := by decide +kernel
theorem dX7_rounds_92 : decode cX7_rounds 92 = .ok (.if_icmp .ne 19, 3) := by decide +kernel
theorem dX7_rounds_95 : decode cX7_rounds 95 = .ok (.aload_n 0, 1) := by decide +kernel
theorem dX7_rounds_96 : decode cX7_rounds 96 = .ok (.getfield 25, 3) := by decide +kernel
theorem dX7_rounds_99 : decode cX7_rounds 99 = .ok (.aload_n 0, 1) := by decide +kernel
theorem dX7_rounds_100 : decode cX7_rounds 100 = .ok (.iload 5, 2) := by decide +kernel
theorem dX7_rounds_102 : decode cX7_rounds 102 = .ok (.iload_n 1, 1) := by decide +kernel
theorem dX7_rounds_103 : decode cX7_rounds 103 = .ok (.iload 4, 2) := by decide +kernel
theorem dX7_rounds_105 : decode cX7_rounds 105 = .ok (.invokevirtual 73, 3) := by decide +kernel
theorem dX7_rounds_108 : decode cX7_rounds 108 = .ok (.iload 5, 2) := by decide +kernel
theorem dX7_rounds_110 : decode cX7_rounds 110 = .ok (.iastore, 1) := by decide +kernel
theorem dX7_rounds_111 : decode cX7_rounds 111 = .ok (.iinc 5 1, 3) := by decide +kernel
theorem dX7_rounds_114 : decode cX7_rounds 114 = .ok (.goto (-43), 3) := by decide +kernel
theorem dX7_rounds_117 : decode cX7_rounds 117 = .ok (.iload_n 2, 1) := by decide +kernel
theorem dX7_rounds_118 : decode cX7_rounds 118 = .ok (.ireturn, 1) := by decide +kernel
set_option maxRecDepth 20000 in
theorem ggX7_rankOf_X7_turn : GoodIn wsX7_rankOf wsX7_turn := goodIn_r _ [6, 7, 8, 9, 5, 10, 1, 11, 12, 13, 14, 15, 16, 17, 18, 19, 20, 21, 22, 23, 24, 25, 26] (by decide +kernel) (by decide +kernel)
set_option maxRecDepth 20000 in
theorem gX7_rankOf_X7_turn : GoodIn wsX7_rankOf (wsV RX7 70 RX7 yX7_turn wsX7_turn) := goodIn_app (goodIn_of _ (by decide +kernel)) ggX7_rankOf_X7_turn
set_option maxRecDepth 20000 in
theorem ggX7_rankOf_X7_of : GoodIn wsX7_rankOf wsX7_of := goodIn_r _ [10, 1, 11, 12, 13, 14, 15, 16, 17, 18, 19, 20, 21, 22, 23, 24, 25, 26] (by decide +kernel) (by decide +kernel)
set_option maxRecDepth 20000 in
theorem gX7_rankOf_X7_of : GoodIn wsX7_rankOf (wsV RX7 43 RX7 yX7_of wsX7_of) := goodIn_app (goodIn_of _ (by decide +kernel)) ggX7_rankOf_X7_of
theorem dX7_rankOf_0 : decode cX7_rankOf 0 = .ok (.iconst 0, 1) := by decide +kernel
theorem dX7_rankOf_1 : decode cX7_rankOf 1 = .ok (.istore 4, 2) := by decide +kernel
theorem dX7_rankOf_3 : decode cX7_rankOf 3 = .ok (.aload_n 0, 1) := by decide +kernel
theorem dX7_rankOf_4 : decode cX7_rankOf 4 = .ok (.iload_n 1, 1) := by decide +kernel
theorem dX7_rankOf_5 : decode cX7_rankOf 5 = .ok (.invokevirtual 70, 3) := by decide +kernel
theorem dX7_rankOf_8 : decode cX7_rankOf 8 = .ok (.iload_n 3, 1) := by decide +kernel
theorem dX7_rankOf_9 : decode cX7_rankOf 9 = .ok (.isub, 1) := by decide +kernel
theorem dX7_rankOf_10 : decode cX7_rankOf 10 = .ok (.sipush 199, 3) := by decide +kernel
theorem dX7_rankOf_13 : decode cX7_rankOf 13 = .ok (.iadd, 1) := by decide +kernel
theorem dX7_rankOf_14 : decode cX7_rankOf 14 = .ok (.sipush 200, 3) := by decide +kernel
theorem dX7_rankOf_17 : decode cX7_rankOf 17 = .ok (.irem, 1) := by decide +kernel
theorem dX7_rankOf_18 : decode cX7_rankOf 18 = .ok (.istore 5, 2) := by decide +kernel
theorem dX7_rankOf_20 : decode cX7_rankOf 20 = .ok (.iconst 0, 1) := by decide +kernel
theorem dX7_rankOf_21 : decode cX7_rankOf 21 = .ok (.istore 6, 2) := by decide +kernel
theorem dX7_rankOf_23 : decode cX7_rankOf 23 = .ok (.iload 6, 2) := by decide +kernel
theorem dX7_rankOf_25 : decode cX7_rankOf 25 = .ok (.aload_n 0, 1) := by decide +kernel
theorem dX7_rankOf_26 : decode cX7_rankOf 26 = .ok (.getfield 7, 3) := by decide +kernel
theorem dX7_rankOf_29 : decode cX7_rankOf 29 = .ok (.sipush 401, 3) := by decide +kernel
theorem dX7_rankOf_32 : decode cX7_rankOf 32 = .ok (.iaload, 1) := by decide +kernel
theorem dX7_rankOf_33 : decode cX7_rankOf 33 = .ok (.if_icmp .ge 51, 3) := by decide +kernel
theorem dX7_rankOf_36 : decode cX7_rankOf 36 = .ok (.iload 4, 2) := by decide +kernel
theorem dX7_rankOf_38 : decode cX7_rankOf 38 = .ok (.aload_n 0, 1) := by decide +kernel
theorem dX7_rankOf_39 : decode cX7_rankOf 39 = .ok (.iload 6, 2) := by decide +kernel
theorem dX7_rankOf_41 : decode cX7_rankOf 41 = .ok (.iconst 0, 1) := by decide +kernel
theorem dX7_rankOf_42 : decode cX7_rankOf 42 = .ok (.invokevirtual 43, 3) := by decide +kernel
theorem dX7_rankOf_45 : decode cX7_rankOf 45 = .ok (.iload_n 2, 1) := by decide +kernel
theorem dX7_rankOf_46 : decode cX7_rankOf 46 = .ok (.if_icmp .ne 28, 3) := by decide +kernel
theorem dX7_rankOf_49 : decode cX7_rankOf 49 = .ok (.aload_n 0, 1) := by decide +kernel
theorem dX7_rankOf_50 : decode cX7_rankOf 50 = .ok (.iload 6, 2) := by decide +kernel
theorem dX7_rankOf_52 : decode cX7_rankOf 52 = .ok (.invokevirtual 70, 3) := by decide +kernel
theorem dX7_rankOf_55 : decode cX7_rankOf 55 = .ok (.iload_n 3, 1) := by decide +kernel
theorem dX7_rankOf_56 : decode cX7_rankOf 56 = .ok (.isub, 1) := by decide +kernel
theorem dX7_rankOf_57 : decode cX7_rankOf 57 = .ok (.sipush 199, 3) := by decide +kernel
theorem dX7_rankOf_60 : decode cX7_rankOf 60 = .ok (.iadd, 1) := by decide +kernel
theorem dX7_rankOf_61 : decode cX7_rankOf 61 = .ok (.sipush 200, 3) := by decide +kernel
theorem dX7_rankOf_64 : decode cX7_rankOf 64 = .ok (.irem, 1) := by decide +kernel
theorem dX7_rankOf_65 : decode cX7_rankOf 65 = .ok (.iload 5, 2) := by decide +kernel
theorem dX7_rankOf_67 : decode cX7_rankOf 67 = .ok (.if_icmp .ge 7, 3) := by decide +kernel
theorem dX7_rankOf_70 : decode cX7_rankOf 70 = .ok (.iconst 1, 1) := by decide +kernel
theorem dX7_rankOf_71 : decode cX7_rankOf 71 = .ok (.goto 4, 3) := by decide +kernel
theorem dX7_rankOf_74 : decode cX7_rankOf 74 = .ok (.iconst 0, 1) := by decide +kernel
theorem dX7_rankOf_75 : decode cX7_rankOf 75 = .ok (.iadd, 1) := by decide +kernel
theorem dX7_rankOf_76 : decode cX7_rankOf 76 = .ok (.istore 4, 2) := by decide +kernel
theorem dX7_rankOf_78 : decode cX7_rankOf 78 = .ok (.iinc 6 1, 3) := by decide +kernel
theorem dX7_rankOf_81 : decode cX7_rankOf 81 = .ok (.goto (-58), 3) := by decide +kernel
theorem dX7_rankOf_84 : decode cX7_rankOf 84 = .ok (.iload 4, 2) := by decide +kernel
theorem dX7_rankOf_86 : decode cX7_rankOf 86 = .ok (.ireturn, 1) := by decide +kernel
set_option maxRecDepth 20000 in
theorem ggX7_walks_X7_rounds : GoodIn wsX7_walks wsX7_rounds := goodIn_r _ [7, 1, 2, 8, 9, 10, 6, 11, 12, 13, 14, 15, 16, 17, 18, 19, 53, 54, 55, 56, 57, 58, 59, 60, 61, 62, 63, 64, 65, 66, 67, 68] (by decide +kernel) (by decide +kernel)
set_option maxRecDepth 20000 in
theorem gX7_walks_X7_rounds : GoodIn wsX7_walks (wsV RX7 77 RX7 yX7_rounds wsX7_rounds) := goodIn_app (goodIn_of _ (by decide +kernel)) ggX7_walks_X7_rounds
set_option maxRecDepth 20000 in
theorem ggX7_walks_X7_barred : GoodIn wsX7_walks wsX7_barred := goodIn_r _ [23, 1, 8, 9, 10, 6, 11, 53, 54, 55, 56, 57, 58, 59, 60, 61, 62, 63, 64, 65, 66, 67, 68] (by decide +kernel) (by decide +kernel)
set_option maxRecDepth 20000 in
theorem gX7_walks_X7_barred : GoodIn wsX7_walks (wsV RX7 80 RX7 yX7_barred wsX7_barred) := goodIn_app (goodIn_of _ (by decide +kernel)) ggX7_walks_X7_barred
set_option maxRecDepth 20000 in
theorem ggX7_walks_X7_reads : GoodIn wsX7_walks wsX7_reads := goodIn_r _ [27, 1, 28, 29, 30, 6, 31, 32, 8, 9, 10, 11, 33, 34, 35, 36, 37, 38, 39, 40, 41, 42, 43, 44, 45, 46, 47, 48, 49, 50, 51, 52, 53, 54, 55, 56, 57, 58, 59, 60, 61, 62, 63, 64, 65, 66, 67, 68] (by decide +kernel) (by decide +kernel)
set_option maxRecDepth 20000 in
theorem gX7_walks_X7_reads : GoodIn wsX7_walks (wsV RX7 83 RX7 yX7_reads wsX7_reads) := goodIn_app (goodIn_of _ (by decide +kernel)) ggX7_walks_X7_reads
theorem dX7_walks_0 : decode cX7_walks 0 = .ok (.aload_n 0, 1) := by decide +kernel
theorem dX7_walks_1 : decode cX7_walks 1 = .ok (.iload_n 1, 1) := by decide +kernel
theorem dX7_walks_2 : decode cX7_walks 2 = .ok (.invokevirtual 77, 3) := by decide +kernel
theorem dX7_walks_5 : decode cX7_walks 5 = .ok (.istore_n 2, 1) := by decide +kernel
theorem dX7_walks_6 : decode cX7_walks 6 = .ok (.iconst 0, 1) := by decide +kernel
theorem dX7_walks_7 : decode cX7_walks 7 = .ok (.istore_n 3, 1) := by decide +kernel
theorem dX7_walks_8 : decode cX7_walks 8 = .ok (.iconst 0, 1) := by decide +kernel
theorem dX7_walks_9 : decode cX7_walks 9 = .ok (.istore 4, 2) := by decide +kernel
theorem dX7_walks_11 : decode cX7_walks 11 = .ok (.iload 4, 2) := by decide +kernel
theorem dX7_walks_13 : decode cX7_walks 13 = .ok (.iload_n 2, 1) := by decide +kernel
theorem dX7_walks_14 : decode cX7_walks 14 = .ok (.if_icmp .ge 76, 3) := by decide +kernel
theorem dX7_walks_17 : decode cX7_walks 17 = .ok (.iload_n 3, 1) := by decide +kernel
theorem dX7_walks_18 : decode cX7_walks 18 = .ok (.aload_n 0, 1) := by decide +kernel
theorem dX7_walks_19 : decode cX7_walks 19 = .ok (.getfield 7, 3) := by decide +kernel
theorem dX7_walks_22 : decode cX7_walks 22 = .ok (.sipush 410, 3) := by decide +kernel
theorem dX7_walks_25 : decode cX7_walks 25 = .ok (.iaload, 1) := by decide +kernel
theorem dX7_walks_26 : decode cX7_walks 26 = .ok (.if_icmp .ge 64, 3) := by decide +kernel
theorem dX7_walks_29 : decode cX7_walks 29 = .ok (.aload_n 0, 1) := by decide +kernel
theorem dX7_walks_30 : decode cX7_walks 30 = .ok (.aload_n 0, 1) := by decide +kernel
theorem dX7_walks_31 : decode cX7_walks 31 = .ok (.getfield 25, 3) := by decide +kernel
theorem dX7_walks_34 : decode cX7_walks 34 = .ok (.iload 4, 2) := by decide +kernel
theorem dX7_walks_36 : decode cX7_walks 36 = .ok (.iaload, 1) := by decide +kernel
theorem dX7_walks_37 : decode cX7_walks 37 = .ok (.invokevirtual 80, 3) := by decide +kernel
theorem dX7_walks_40 : decode cX7_walks 40 = .ok (.ifCond .ne 44, 3) := by decide +kernel
theorem dX7_walks_43 : decode cX7_walks 43 = .ok (.iload_n 3, 1) := by decide +kernel
theorem dX7_walks_44 : decode cX7_walks 44 = .ok (.aload_n 0, 1) := by decide +kernel
theorem dX7_walks_45 : decode cX7_walks 45 = .ok (.aload_n 0, 1) := by decide +kernel
theorem dX7_walks_46 : decode cX7_walks 46 = .ok (.getfield 25, 3) := by decide +kernel
theorem dX7_walks_49 : decode cX7_walks 49 = .ok (.iload 4, 2) := by decide +kernel
theorem dX7_walks_51 : decode cX7_walks 51 = .ok (.iaload, 1) := by decide +kernel
theorem dX7_walks_52 : decode cX7_walks 52 = .ok (.invokevirtual 83, 3) := by decide +kernel
theorem dX7_walks_55 : decode cX7_walks 55 = .ok (.ifCond .ge 7, 3) := by decide +kernel
theorem dX7_walks_58 : decode cX7_walks 58 = .ok (.iconst 0, 1) := by decide +kernel
theorem dX7_walks_59 : decode cX7_walks 59 = .ok (.goto 4, 3) := by decide +kernel
theorem dX7_walks_62 : decode cX7_walks 62 = .ok (.iconst 1, 1) := by decide +kernel
theorem dX7_walks_63 : decode cX7_walks 63 = .ok (.iadd, 1) := by decide +kernel
theorem dX7_walks_64 : decode cX7_walks 64 = .ok (.istore_n 3, 1) := by decide +kernel
theorem dX7_walks_65 : decode cX7_walks 65 = .ok (.aload_n 0, 1) := by decide +kernel
theorem dX7_walks_66 : decode cX7_walks 66 = .ok (.getfield 7, 3) := by decide +kernel
theorem dX7_walks_69 : decode cX7_walks 69 = .ok (.sipush 336, 3) := by decide +kernel
theorem dX7_walks_72 : decode cX7_walks 72 = .ok (.iload_n 1, 1) := by decide +kernel
theorem dX7_walks_73 : decode cX7_walks 73 = .ok (.iadd, 1) := by decide +kernel
theorem dX7_walks_74 : decode cX7_walks 74 = .ok (.aload_n 0, 1) := by decide +kernel
theorem dX7_walks_75 : decode cX7_walks 75 = .ok (.getfield 25, 3) := by decide +kernel
theorem dX7_walks_78 : decode cX7_walks 78 = .ok (.iload 4, 2) := by decide +kernel
theorem dX7_walks_80 : decode cX7_walks 80 = .ok (.iaload, 1) := by decide +kernel
theorem dX7_walks_81 : decode cX7_walks 81 = .ok (.iconst 1, 1) := by decide +kernel
theorem dX7_walks_82 : decode cX7_walks 82 = .ok (.iadd, 1) := by decide +kernel
theorem dX7_walks_83 : decode cX7_walks 83 = .ok (.iastore, 1) := by decide +kernel
theorem dX7_walks_84 : decode cX7_walks 84 = .ok (.iinc 4 1, 3) := by decide +kernel
theorem dX7_walks_87 : decode cX7_walks 87 = .ok (.goto (-76), 3) := by decide +kernel
theorem dX7_walks_90 : decode cX7_walks 90 = .ok (.iload_n 3, 1) := by decide +kernel
theorem dX7_walks_91 : decode cX7_walks 91 = .ok (.ireturn, 1) := by decide +kernel
set_option maxRecDepth 20000 in
theorem ggX7_refunds_X7_of : GoodIn wsX7_refunds wsX7_of := goodIn_r _ [6, 1, 11, 12, 13, 14, 15, 16, 17, 18, 19, 20, 21, 22, 23, 24, 25, 26] (by decide +kernel) (by decide +kernel)
set_option maxRecDepth 20000 in
theorem gX7_refunds_X7_of : GoodIn wsX7_refunds (wsV RX7 43 RX7 yX7_of wsX7_of) := goodIn_app (goodIn_of _ (by decide +kernel)) ggX7_refunds_X7_of
set_option maxRecDepth 20000 in
theorem ggX7_refunds_X7_adds : GoodIn wsX7_refunds wsX7_adds := goodIn_r _ [10, 1, 11, 12, 13, 14, 15, 16, 17, 18, 19, 20, 21, 22, 23, 24, 25, 26] (by decide +kernel) (by decide +kernel)
set_option maxRecDepth 20000 in
theorem gX7_refunds_X7_adds : GoodIn wsX7_refunds (wsV RX7 63 RX7 yX7_adds wsX7_adds) := goodIn_app (goodIn_of _ (by decide +kernel)) ggX7_refunds_X7_adds
theorem dX7_refunds_0 : decode cX7_refunds 0 = .ok (.aload_n 0, 1) := by decide +kernel
theorem dX7_refunds_1 : decode cX7_refunds 1 = .ok (.getfield 7, 3) := by decide +kernel
theorem dX7_refunds_4 : decode cX7_refunds 4 = .ok (.sipush 408, 3) := by decide +kernel
theorem dX7_refunds_7 : decode cX7_refunds 7 = .ok (.dup2, 1) := by decide +kernel
theorem dX7_refunds_8 : decode cX7_refunds 8 = .ok (.iaload, 1) := by decide +kernel
theorem dX7_refunds_9 : decode cX7_refunds 9 = .ok (.iconst 1, 1) := by decide +kernel
theorem dX7_refunds_10 : decode cX7_refunds 10 = .ok (.iadd, 1) := by decide +kernel
theorem dX7_refunds_11 : decode cX7_refunds 11 = .ok (.iastore, 1) := by decide +kernel
theorem dX7_refunds_12 : decode cX7_refunds 12 = .ok (.iconst 0, 1) := by decide +kernel
theorem dX7_refunds_13 : decode cX7_refunds 13 = .ok (.istore_n 1, 1) := by decide +kernel
theorem dX7_refunds_14 : decode cX7_refunds 14 = .ok (.iload_n 1, 1) := by decide +kernel
theorem dX7_refunds_15 : decode cX7_refunds 15 = .ok (.aload_n 0, 1) := by decide +kernel
theorem dX7_refunds_16 : decode cX7_refunds 16 = .ok (.getfield 7, 3) := by decide +kernel
theorem dX7_refunds_19 : decode cX7_refunds 19 = .ok (.sipush 401, 3) := by decide +kernel
theorem dX7_refunds_22 : decode cX7_refunds 22 = .ok (.iaload, 1) := by decide +kernel
theorem dX7_refunds_23 : decode cX7_refunds 23 = .ok (.if_icmp .ge 73, 3) := by decide +kernel
theorem dX7_refunds_26 : decode cX7_refunds 26 = .ok (.aload_n 0, 1) := by decide +kernel
theorem dX7_refunds_27 : decode cX7_refunds 27 = .ok (.iload_n 1, 1) := by decide +kernel
theorem dX7_refunds_28 : decode cX7_refunds 28 = .ok (.iconst 4, 1) := by decide +kernel
theorem dX7_refunds_29 : decode cX7_refunds 29 = .ok (.invokevirtual 43, 3) := by decide +kernel
theorem dX7_refunds_32 : decode cX7_refunds 32 = .ok (.aload_n 0, 1) := by decide +kernel
theorem dX7_refunds_33 : decode cX7_refunds 33 = .ok (.getfield 7, 3) := by decide +kernel
theorem dX7_refunds_36 : decode cX7_refunds 36 = .ok (.sipush 412, 3) := by decide +kernel
theorem dX7_refunds_39 : decode cX7_refunds 39 = .ok (.iaload, 1) := by decide +kernel
theorem dX7_refunds_40 : decode cX7_refunds 40 = .ok (.if_icmp .lt 50, 3) := by decide +kernel
theorem dX7_refunds_43 : decode cX7_refunds 43 = .ok (.aload_n 0, 1) := by decide +kernel
theorem dX7_refunds_44 : decode cX7_refunds 44 = .ok (.iload_n 1, 1) := by decide +kernel
theorem dX7_refunds_45 : decode cX7_refunds 45 = .ok (.iconst 4, 1) := by decide +kernel
theorem dX7_refunds_46 : decode cX7_refunds 46 = .ok (.bipush (-100), 2) := by decide +kernel
theorem dX7_refunds_48 : decode cX7_refunds 48 = .ok (.invokevirtual 63, 3) := by decide +kernel
theorem dX7_refunds_51 : decode cX7_refunds 51 = .ok (.aload_n 0, 1) := by decide +kernel
theorem dX7_refunds_52 : decode cX7_refunds 52 = .ok (.iload_n 1, 1) := by decide +kernel
theorem dX7_refunds_53 : decode cX7_refunds 53 = .ok (.bipush 12, 2) := by decide +kernel
theorem dX7_refunds_55 : decode cX7_refunds 55 = .ok (.iconst 1, 1) := by decide +kernel
theorem dX7_refunds_56 : decode cX7_refunds 56 = .ok (.invokevirtual 63, 3) := by decide +kernel
theorem dX7_refunds_59 : decode cX7_refunds 59 = .ok (.aload_n 0, 1) := by decide +kernel
theorem dX7_refunds_60 : decode cX7_refunds 60 = .ok (.getfield 7, 3) := by decide +kernel
theorem dX7_refunds_63 : decode cX7_refunds 63 = .ok (.sipush 406, 3) := by decide +kernel
theorem dX7_refunds_66 : decode cX7_refunds 66 = .ok (.dup2, 1) := by decide +kernel
theorem dX7_refunds_67 : decode cX7_refunds 67 = .ok (.iaload, 1) := by decide +kernel
theorem dX7_refunds_68 : decode cX7_refunds 68 = .ok (.iconst 1, 1) := by decide +kernel
theorem dX7_refunds_69 : decode cX7_refunds 69 = .ok (.iadd, 1) := by decide +kernel
theorem dX7_refunds_70 : decode cX7_refunds 70 = .ok (.iastore, 1) := by decide +kernel
theorem dX7_refunds_71 : decode cX7_refunds 71 = .ok (.aload_n 0, 1) := by decide +kernel
theorem dX7_refunds_72 : decode cX7_refunds 72 = .ok (.getfield 7, 3) := by decide +kernel
theorem dX7_refunds_75 : decode cX7_refunds 75 = .ok (.sipush 407, 3) := by decide +kernel
theorem dX7_refunds_78 : decode cX7_refunds 78 = .ok (.dup2, 1) := by decide +kernel
theorem dX7_refunds_79 : decode cX7_refunds 79 = .ok (.iaload, 1) := by decide +kernel
theorem dX7_refunds_80 : decode cX7_refunds 80 = .ok (.aload_n 0, 1) := by decide +kernel
theorem dX7_refunds_81 : decode cX7_refunds 81 = .ok (.getfield 7, 3) := by decide +kernel
theorem dX7_refunds_84 : decode cX7_refunds 84 = .ok (.sipush 411, 3) := by decide +kernel
theorem dX7_refunds_87 : decode cX7_refunds 87 = .ok (.iaload, 1) := by decide +kernel
theorem dX7_refunds_88 : decode cX7_refunds 88 = .ok (.iadd, 1) := by decide +kernel
theorem dX7_refunds_89 : decode cX7_refunds 89 = .ok (.iastore, 1) := by decide +kernel
theorem dX7_refunds_90 : decode cX7_refunds 90 = .ok (.iinc 1 1, 3) := by decide +kernel
theorem dX7_refunds_93 : decode cX7_refunds 93 = .ok (.goto (-79), 3) := by decide +kernel
theorem dX7_refunds_96 : decode cX7_refunds 96 = .ok (.return_, 1) := by decide +kernel
set_option maxRecDepth 20000 in
theorem ggX7_day_X7_of : GoodIn wsX7_day wsX7_of := goodIn_r _ [7, 1, 61, 62, 63, 64, 65, 66, 67, 68, 69, 70, 71, 72, 73, 74, 75, 76] (by decide +kernel) (by decide +kernel)
set_option maxRecDepth 20000 in
theorem gX7_day_X7_of : GoodIn wsX7_day (wsV RX7 43 RX7 yX7_of wsX7_of) := goodIn_app (goodIn_of _ (by decide +kernel)) ggX7_day_X7_of
set_option maxRecDepth 20000 in
theorem ggX7_day_X7_lay : GoodIn wsX7_day wsX7_lay := goodIn_r _ [11, 1, 61, 62, 63, 64, 65, 66, 67, 68, 69, 70, 71, 72, 73, 74, 75, 76] (by decide +kernel) (by decide +kernel)
set_option maxRecDepth 20000 in
theorem gX7_day_X7_lay : GoodIn wsX7_day (wsV RX7 59 RX7 yX7_lay wsX7_lay) := goodIn_app (goodIn_of _ (by decide +kernel)) ggX7_day_X7_lay
set_option maxRecDepth 20000 in
theorem ggX7_day_X7_walks : GoodIn wsX7_day wsX7_walks := goodIn_r _ [15, 1, 16, 17, 18, 19, 6, 20, 3, 4, 5, 7, 21, 22, 23, 24, 25, 26, 27, 28, 29, 30, 31, 32, 33, 34, 35, 36, 37, 38, 39, 40, 2, 41, 42, 43, 44, 45, 46, 47, 48, 8, 9, 10, 11, 49, 50, 51, 52, 53, 54, 55, 56, 61, 62, 63, 64, 65, 66, 67, 68, 69, 70, 71, 72, 73, 74, 75, 76] (by decide +kernel) (by decide +kernel)
set_option maxRecDepth 20000 in
theorem gX7_day_X7_walks : GoodIn wsX7_day (wsV RX7 86 RX7 yX7_walks wsX7_walks) := goodIn_app (goodIn_of _ (by decide +kernel)) ggX7_day_X7_walks
set_option maxRecDepth 20000 in
theorem ggX7_day_X7_refunds : GoodIn wsX7_day wsX7_refunds := goodIn_r _ [60, 1, 3, 4, 5, 6, 7, 49, 50, 51, 52, 61, 62, 63, 64, 65, 66, 67, 68, 69, 70, 71, 72, 73, 74, 75, 76] (by decide +kernel) (by decide +kernel)
set_option maxRecDepth 20000 in
theorem gX7_day_X7_refunds : GoodIn wsX7_day (wsV RX7 89 RX7 yX7_refunds wsX7_refunds) := goodIn_app (goodIn_of _ (by decide +kernel)) ggX7_day_X7_refunds
theorem dX7_day_0 : decode cX7_day 0 = .ok (.iconst 0, 1) := by decide +kernel
theorem dX7_day_1 : decode cX7_day 1 = .ok (.istore_n 1, 1) := by decide +kernel
theorem dX7_day_2 : decode cX7_day 2 = .ok (.iload_n 1, 1) := by decide +kernel
theorem dX7_day_3 : decode cX7_day 3 = .ok (.aload_n 0, 1) := by decide +kernel
theorem dX7_day_4 : decode cX7_day 4 = .ok (.getfield 7, 3) := by decide +kernel
theorem dX7_day_7 : decode cX7_day 7 = .ok (.sipush 401, 3) := by decide +kernel
theorem dX7_day_10 : decode cX7_day 10 = .ok (.iaload, 1) := by decide +kernel
theorem dX7_day_11 : decode cX7_day 11 = .ok (.if_icmp .ge 31, 3) := by decide +kernel
theorem dX7_day_14 : decode cX7_day 14 = .ok (.aload_n 0, 1) := by decide +kernel
theorem dX7_day_15 : decode cX7_day 15 = .ok (.iload_n 1, 1) := by decide +kernel
theorem dX7_day_16 : decode cX7_day 16 = .ok (.iconst 2, 1) := by decide +kernel
theorem dX7_day_17 : decode cX7_day 17 = .ok (.aload_n 0, 1) := by decide +kernel
theorem dX7_day_18 : decode cX7_day 18 = .ok (.iload_n 1, 1) := by decide +kernel
theorem dX7_day_19 : decode cX7_day 19 = .ok (.iconst 2, 1) := by decide +kernel
theorem dX7_day_20 : decode cX7_day 20 = .ok (.invokevirtual 43, 3) := by decide +kernel
theorem dX7_day_23 : decode cX7_day 23 = .ok (.aload_n 0, 1) := by decide +kernel
theorem dX7_day_24 : decode cX7_day 24 = .ok (.iload_n 1, 1) := by decide +kernel
theorem dX7_day_25 : decode cX7_day 25 = .ok (.iconst 5, 1) := by decide +kernel
theorem dX7_day_26 : decode cX7_day 26 = .ok (.invokevirtual 43, 3) := by decide +kernel
theorem dX7_day_29 : decode cX7_day 29 = .ok (.iadd, 1) := by decide +kernel
theorem dX7_day_30 : decode cX7_day 30 = .ok (.ldc 48, 2) := by decide +kernel
theorem dX7_day_32 : decode cX7_day 32 = .ok (.irem, 1) := by decide +kernel
theorem dX7_day_33 : decode cX7_day 33 = .ok (.invokevirtual 59, 3) := by decide +kernel
theorem dX7_day_36 : decode cX7_day 36 = .ok (.iinc 1 1, 3) := by decide +kernel
theorem dX7_day_39 : decode cX7_day 39 = .ok (.goto (-37), 3) := by decide +kernel
theorem dX7_day_42 : decode cX7_day 42 = .ok (.aload_n 0, 1) := by decide +kernel
theorem dX7_day_43 : decode cX7_day 43 = .ok (.getfield 7, 3) := by decide +kernel
theorem dX7_day_46 : decode cX7_day 46 = .ok (.sipush 400, 3) := by decide +kernel
theorem dX7_day_49 : decode cX7_day 49 = .ok (.dup2, 1) := by decide +kernel
theorem dX7_day_50 : decode cX7_day 50 = .ok (.iaload, 1) := by decide +kernel
theorem dX7_day_51 : decode cX7_day 51 = .ok (.iconst 1, 1) := by decide +kernel
theorem dX7_day_52 : decode cX7_day 52 = .ok (.iadd, 1) := by decide +kernel
theorem dX7_day_53 : decode cX7_day 53 = .ok (.iastore, 1) := by decide +kernel
theorem dX7_day_54 : decode cX7_day 54 = .ok (.aload_n 0, 1) := by decide +kernel
theorem dX7_day_55 : decode cX7_day 55 = .ok (.aload_n 0, 1) := by decide +kernel
theorem dX7_day_56 : decode cX7_day 56 = .ok (.getfield 7, 3) := by decide +kernel
theorem dX7_day_59 : decode cX7_day 59 = .ok (.sipush 400, 3) := by decide +kernel
theorem dX7_day_62 : decode cX7_day 62 = .ok (.iaload, 1) := by decide +kernel
theorem dX7_day_63 : decode cX7_day 63 = .ok (.iconst 4, 1) := by decide +kernel
theorem dX7_day_64 : decode cX7_day 64 = .ok (.irem, 1) := by decide +kernel
theorem dX7_day_65 : decode cX7_day 65 = .ok (.invokevirtual 86, 3) := by decide +kernel
theorem dX7_day_68 : decode cX7_day 68 = .ok (.istore_n 1, 1) := by decide +kernel
theorem dX7_day_69 : decode cX7_day 69 = .ok (.aload_n 0, 1) := by decide +kernel
theorem dX7_day_70 : decode cX7_day 70 = .ok (.getfield 7, 3) := by decide +kernel
theorem dX7_day_73 : decode cX7_day 73 = .ok (.sipush 400, 3) := by decide +kernel
theorem dX7_day_76 : decode cX7_day 76 = .ok (.iaload, 1) := by decide +kernel
theorem dX7_day_77 : decode cX7_day 77 = .ok (.aload_n 0, 1) := by decide +kernel
theorem dX7_day_78 : decode cX7_day 78 = .ok (.getfield 7, 3) := by decide +kernel
theorem dX7_day_81 : decode cX7_day 81 = .ok (.sipush 413, 3) := by decide +kernel
theorem dX7_day_84 : decode cX7_day 84 = .ok (.iaload, 1) := by decide +kernel
theorem dX7_day_85 : decode cX7_day 85 = .ok (.irem, 1) := by decide +kernel
theorem dX7_day_86 : decode cX7_day 86 = .ok (.ifCond .ne 7, 3) := by decide +kernel
theorem dX7_day_89 : decode cX7_day 89 = .ok (.aload_n 0, 1) := by decide +kernel
theorem dX7_day_90 : decode cX7_day 90 = .ok (.invokevirtual 89, 3) := by decide +kernel
theorem dX7_day_93 : decode cX7_day 93 = .ok (.iload_n 1, 1) := by decide +kernel
theorem dX7_day_94 : decode cX7_day 94 = .ok (.ireturn, 1) := by decide +kernel
set_option maxRecDepth 20000 in
theorem ggX7_house_X7_isPlace : GoodIn wsX7_house wsX7_isPlace := goodIn_r _ [8, 9, 10, 7, 11] (by decide +kernel) (by decide +kernel)
set_option maxRecDepth 20000 in
theorem gX7_house_X7_isPlace : GoodIn wsX7_house (va_wsS RX7 92 yX7_isPlace wsX7_isPlace) := goodIn_app (goodIn_of _ (by decide +kernel)) ggX7_house_X7_isPlace
set_option maxRecDepth 20000 in
theorem ggX7_house_X7_atPlace : GoodIn wsX7_house wsX7_atPlace := goodIn_r _ [15, 3, 16, 17, 18, 19, 7, 20, 32, 33, 34, 35, 36, 37, 38, 39, 40, 41, 42, 43, 44, 45, 46, 47] (by decide +kernel) (by decide +kernel)
set_option maxRecDepth 20000 in
theorem gX7_house_X7_atPlace : GoodIn wsX7_house (wsV RX7 97 RX7 yX7_atPlace wsX7_atPlace) := goodIn_app (goodIn_of _ (by decide +kernel)) ggX7_house_X7_atPlace
set_option maxRecDepth 20000 in
theorem ggX7_house_X7_changes : GoodIn wsX7_house wsX7_changes := goodIn_r _ [24, 25, 26, 27, 3, 32, 33, 34, 35, 36, 37, 38, 39, 40, 41, 42, 43, 44, 45, 46, 47] (by decide +kernel) (by decide +kernel)
set_option maxRecDepth 20000 in
theorem gX7_house_X7_changes : GoodIn wsX7_house (wsV RX7 102 RX7 yX7_changes wsX7_changes) := goodIn_app (goodIn_of _ (by decide +kernel)) ggX7_house_X7_changes
set_option maxRecDepth 20000 in
theorem ggX7_house_X7_lay : GoodIn wsX7_house wsX7_lay := goodIn_r _ [31, 3, 32, 33, 34, 35, 36, 37, 38, 39, 40, 41, 42, 43, 44, 45, 46, 47] (by decide +kernel) (by decide +kernel)
set_option maxRecDepth 20000 in
theorem gX7_house_X7_lay : GoodIn wsX7_house (wsV RX7 59 RX7 yX7_lay wsX7_lay) := goodIn_app (goodIn_of _ (by decide +kernel)) ggX7_house_X7_lay
theorem dX7_house_0 : decode cX7_house 0 = .ok (.iload_n 1, 1) := by decide +kernel
theorem dX7_house_1 : decode cX7_house 1 = .ok (.iload_n 2, 1) := by decide +kernel
theorem dX7_house_2 : decode cX7_house 2 = .ok (.invokestatic 92, 3) := by decide +kernel
theorem dX7_house_5 : decode cX7_house 5 = .ok (.ifCond .ne 6, 3) := by decide +kernel
theorem dX7_house_8 : decode cX7_house 8 = .ok (.ldc 96, 2) := by decide +kernel
theorem dX7_house_10 : decode cX7_house 10 = .ok (.ireturn, 1) := by decide +kernel
theorem dX7_house_11 : decode cX7_house 11 = .ok (.aload_n 0, 1) := by decide +kernel
theorem dX7_house_12 : decode cX7_house 12 = .ok (.iload_n 1, 1) := by decide +kernel
theorem dX7_house_13 : decode cX7_house 13 = .ok (.iload_n 2, 1) := by decide +kernel
theorem dX7_house_14 : decode cX7_house 14 = .ok (.invokevirtual 97, 3) := by decide +kernel
theorem dX7_house_17 : decode cX7_house 17 = .ok (.ifCond .lt 6, 3) := by decide +kernel
theorem dX7_house_20 : decode cX7_house 20 = .ok (.ldc 100, 2) := by decide +kernel
theorem dX7_house_22 : decode cX7_house 22 = .ok (.ireturn, 1) := by decide +kernel
theorem dX7_house_23 : decode cX7_house 23 = .ok (.aload_n 0, 1) := by decide +kernel
theorem dX7_house_24 : decode cX7_house 24 = .ok (.getfield 7, 3) := by decide +kernel
theorem dX7_house_27 : decode cX7_house 27 = .ok (.sipush 401, 3) := by decide +kernel
theorem dX7_house_30 : decode cX7_house 30 = .ok (.iaload, 1) := by decide +kernel
theorem dX7_house_31 : decode cX7_house 31 = .ok (.bipush 24, 2) := by decide +kernel
theorem dX7_house_33 : decode cX7_house 33 = .ok (.if_icmp .ne 6, 3) := by decide +kernel
theorem dX7_house_36 : decode cX7_house 36 = .ok (.ldc 101, 2) := by decide +kernel
theorem dX7_house_38 : decode cX7_house 38 = .ok (.ireturn, 1) := by decide +kernel
theorem dX7_house_39 : decode cX7_house 39 = .ok (.aload_n 0, 1) := by decide +kernel
theorem dX7_house_40 : decode cX7_house 40 = .ok (.invokevirtual 102, 3) := by decide +kernel
theorem dX7_house_43 : decode cX7_house 43 = .ok (.aload_n 0, 1) := by decide +kernel
theorem dX7_house_44 : decode cX7_house 44 = .ok (.aload_n 0, 1) := by decide +kernel
theorem dX7_house_45 : decode cX7_house 45 = .ok (.getfield 7, 3) := by decide +kernel
theorem dX7_house_48 : decode cX7_house 48 = .ok (.sipush 401, 3) := by decide +kernel
theorem dX7_house_51 : decode cX7_house 51 = .ok (.iaload, 1) := by decide +kernel
theorem dX7_house_52 : decode cX7_house 52 = .ok (.iconst 0, 1) := by decide +kernel
theorem dX7_house_53 : decode cX7_house 53 = .ok (.iload_n 1, 1) := by decide +kernel
theorem dX7_house_54 : decode cX7_house 54 = .ok (.invokevirtual 59, 3) := by decide +kernel
theorem dX7_house_57 : decode cX7_house 57 = .ok (.aload_n 0, 1) := by decide +kernel
theorem dX7_house_58 : decode cX7_house 58 = .ok (.aload_n 0, 1) := by decide +kernel
theorem dX7_house_59 : decode cX7_house 59 = .ok (.getfield 7, 3) := by decide +kernel
theorem dX7_house_62 : decode cX7_house 62 = .ok (.sipush 401, 3) := by decide +kernel
theorem dX7_house_65 : decode cX7_house 65 = .ok (.iaload, 1) := by decide +kernel
theorem dX7_house_66 : decode cX7_house 66 = .ok (.iconst 1, 1) := by decide +kernel
theorem dX7_house_67 : decode cX7_house 67 = .ok (.iload_n 2, 1) := by decide +kernel
theorem dX7_house_68 : decode cX7_house 68 = .ok (.invokevirtual 59, 3) := by decide +kernel
theorem dX7_house_71 : decode cX7_house 71 = .ok (.aload_n 0, 1) := by decide +kernel
theorem dX7_house_72 : decode cX7_house 72 = .ok (.getfield 7, 3) := by decide +kernel
theorem dX7_house_75 : decode cX7_house 75 = .ok (.sipush 401, 3) := by decide +kernel
theorem dX7_house_78 : decode cX7_house 78 = .ok (.dup2, 1) := by decide +kernel
theorem dX7_house_79 : decode cX7_house 79 = .ok (.iaload, 1) := by decide +kernel
theorem dX7_house_80 : decode cX7_house 80 = .ok (.iconst 1, 1) := by decide +kernel
theorem dX7_house_81 : decode cX7_house 81 = .ok (.iadd, 1) := by decide +kernel
theorem dX7_house_82 : decode cX7_house 82 = .ok (.iastore, 1) := by decide +kernel
theorem dX7_house_83 : decode cX7_house 83 = .ok (.aload_n 0, 1) := by decide +kernel
theorem dX7_house_84 : decode cX7_house 84 = .ok (.getfield 7, 3) := by decide +kernel
theorem dX7_house_87 : decode cX7_house 87 = .ok (.sipush 401, 3) := by decide +kernel
theorem dX7_house_90 : decode cX7_house 90 = .ok (.iaload, 1) := by decide +kernel
theorem dX7_house_91 : decode cX7_house 91 = .ok (.iconst 1, 1) := by decide +kernel
theorem dX7_house_92 : decode cX7_house 92 = .ok (.isub, 1) := by decide +kernel
theorem dX7_house_93 : decode cX7_house 93 = .ok (.ireturn, 1) := by decide +kernel
set_option maxRecDepth 20000 in
theorem ggX7_flow_X7_isHouse : GoodIn wsX7_flow wsX7_isHouse := goodIn_r _ [6, 7, 8, 9, 5, 10, 26, 27, 28, 29, 30, 31, 32, 33, 34, 35, 36, 37, 38, 39, 40, 41] (by decide +kernel) (by decide +kernel)
set_option maxRecDepth 20000 in
theorem gX7_flow_X7_isHouse : GoodIn wsX7_flow (wsV RX7 105 RX7 yX7_isHouse wsX7_isHouse) := goodIn_app (goodIn_of _ (by decide +kernel)) ggX7_flow_X7_isHouse
set_option maxRecDepth 20000 in
theorem ggX7_flow_X7_in : GoodIn wsX7_flow wsX7_in := goodIn_r _ [10] (by decide +kernel) (by decide +kernel)
set_option maxRecDepth 20000 in
theorem gX7_flow_X7_in : GoodIn wsX7_flow (va_wsS RX7 39 yX7_in wsX7_in) := goodIn_app (goodIn_of _ (by decide +kernel)) ggX7_flow_X7_in
set_option maxRecDepth 20000 in
theorem ggX7_flow_X7_changes : GoodIn wsX7_flow wsX7_changes := goodIn_r _ [14, 15, 16, 17, 7, 26, 27, 28, 29, 30, 31, 32, 33, 34, 35, 36, 37, 38, 39, 40, 41] (by decide +kernel) (by decide +kernel)
set_option maxRecDepth 20000 in
theorem gX7_flow_X7_changes : GoodIn wsX7_flow (wsV RX7 102 RX7 yX7_changes wsX7_changes) := goodIn_app (goodIn_of _ (by decide +kernel)) ggX7_flow_X7_changes
set_option maxRecDepth 20000 in
theorem ggX7_flow_X7_of : GoodIn wsX7_flow wsX7_of := goodIn_r _ [21, 7, 26, 27, 28, 29, 30, 31, 32, 33, 34, 35, 36, 37, 38, 39, 40, 41] (by decide +kernel) (by decide +kernel)
set_option maxRecDepth 20000 in
theorem gX7_flow_X7_of : GoodIn wsX7_flow (wsV RX7 43 RX7 yX7_of wsX7_of) := goodIn_app (goodIn_of _ (by decide +kernel)) ggX7_flow_X7_of
set_option maxRecDepth 20000 in
theorem ggX7_flow_X7_lay : GoodIn wsX7_flow wsX7_lay := goodIn_r _ [25, 7, 26, 27, 28, 29, 30, 31, 32, 33, 34, 35, 36, 37, 38, 39, 40, 41] (by decide +kernel) (by decide +kernel)
set_option maxRecDepth 20000 in
theorem gX7_flow_X7_lay : GoodIn wsX7_flow (wsV RX7 59 RX7 yX7_lay wsX7_lay) := goodIn_app (goodIn_of _ (by decide +kernel)) ggX7_flow_X7_lay
theorem dX7_flow_0 : decode cX7_flow 0 = .ok (.aload_n 0, 1) := by decide +kernel
theorem dX7_flow_1 : decode cX7_flow 1 = .ok (.iload_n 1, 1) := by decide +kernel
theorem dX7_flow_2 : decode cX7_flow 2 = .ok (.invokevirtual 105, 3) := by decide +kernel
theorem dX7_flow_5 : decode cX7_flow 5 = .ok (.ifCond .eq 14, 3) := by decide +kernel
theorem dX7_flow_8 : decode cX7_flow 8 = .ok (.iload_n 2, 1) := by decide +kernel
theorem dX7_flow_9 : decode cX7_flow 9 = .ok (.iconst 0, 1) := by decide +kernel
theorem dX7_flow_10 : decode cX7_flow 10 = .ok (.sipush 999, 3) := by decide +kernel
theorem dX7_flow_13 : decode cX7_flow 13 = .ok (.invokestatic 39, 3) := by decide +kernel
theorem dX7_flow_16 : decode cX7_flow 16 = .ok (.ifCond .ne 6, 3) := by decide +kernel
theorem dX7_flow_19 : decode cX7_flow 19 = .ok (.ldc 96, 2) := by decide +kernel
theorem dX7_flow_21 : decode cX7_flow 21 = .ok (.ireturn, 1) := by decide +kernel
theorem dX7_flow_22 : decode cX7_flow 22 = .ok (.aload_n 0, 1) := by decide +kernel
theorem dX7_flow_23 : decode cX7_flow 23 = .ok (.invokevirtual 102, 3) := by decide +kernel
theorem dX7_flow_26 : decode cX7_flow 26 = .ok (.aload_n 0, 1) := by decide +kernel
theorem dX7_flow_27 : decode cX7_flow 27 = .ok (.iload_n 1, 1) := by decide +kernel
theorem dX7_flow_28 : decode cX7_flow 28 = .ok (.iconst 5, 1) := by decide +kernel
theorem dX7_flow_29 : decode cX7_flow 29 = .ok (.invokevirtual 43, 3) := by decide +kernel
theorem dX7_flow_32 : decode cX7_flow 32 = .ok (.istore_n 3, 1) := by decide +kernel
theorem dX7_flow_33 : decode cX7_flow 33 = .ok (.aload_n 0, 1) := by decide +kernel
theorem dX7_flow_34 : decode cX7_flow 34 = .ok (.iload_n 1, 1) := by decide +kernel
theorem dX7_flow_35 : decode cX7_flow 35 = .ok (.iconst 5, 1) := by decide +kernel
theorem dX7_flow_36 : decode cX7_flow 36 = .ok (.iload_n 2, 1) := by decide +kernel
theorem dX7_flow_37 : decode cX7_flow 37 = .ok (.invokevirtual 59, 3) := by decide +kernel
theorem dX7_flow_40 : decode cX7_flow 40 = .ok (.iload_n 3, 1) := by decide +kernel
theorem dX7_flow_41 : decode cX7_flow 41 = .ok (.ireturn, 1) := by decide +kernel
set_option maxRecDepth 20000 in
theorem ggX7_lock_X7_isHouse : GoodIn wsX7_lock wsX7_isHouse := goodIn_r _ [6, 7, 8, 9, 5, 10, 26, 27, 28, 29, 30, 31, 32, 33, 34, 35, 36, 37, 38, 39, 40, 41] (by decide +kernel) (by decide +kernel)
set_option maxRecDepth 20000 in
theorem gX7_lock_X7_isHouse : GoodIn wsX7_lock (wsV RX7 105 RX7 yX7_isHouse wsX7_isHouse) := goodIn_app (goodIn_of _ (by decide +kernel)) ggX7_lock_X7_isHouse
set_option maxRecDepth 20000 in
theorem ggX7_lock_X7_changes : GoodIn wsX7_lock wsX7_changes := goodIn_r _ [14, 15, 16, 17, 7, 26, 27, 28, 29, 30, 31, 32, 33, 34, 35, 36, 37, 38, 39, 40, 41] (by decide +kernel) (by decide +kernel)
set_option maxRecDepth 20000 in
theorem gX7_lock_X7_changes : GoodIn wsX7_lock (wsV RX7 102 RX7 yX7_changes wsX7_changes) := goodIn_app (goodIn_of _ (by decide +kernel)) ggX7_lock_X7_changes
set_option maxRecDepth 20000 in
theorem ggX7_lock_X7_of : GoodIn wsX7_lock wsX7_of := goodIn_r _ [21, 7, 26, 27, 28, 29, 30, 31, 32, 33, 34, 35, 36, 37, 38, 39, 40, 41] (by decide +kernel) (by decide +kernel)
set_option maxRecDepth 20000 in
theorem gX7_lock_X7_of : GoodIn wsX7_lock (wsV RX7 43 RX7 yX7_of wsX7_of) := goodIn_app (goodIn_of _ (by decide +kernel)) ggX7_lock_X7_of
set_option maxRecDepth 20000 in
theorem ggX7_lock_X7_lay : GoodIn wsX7_lock wsX7_lay := goodIn_r _ [25, 7, 26, 27, 28, 29, 30, 31, 32, 33, 34, 35, 36, 37, 38, 39, 40, 41] (by decide +kernel) (by decide +kernel)
set_option maxRecDepth 20000 in
theorem gX7_lock_X7_lay : GoodIn wsX7_lock (wsV RX7 59 RX7 yX7_lay wsX7_lay) := goodIn_app (goodIn_of _ (by decide +kernel)) ggX7_lock_X7_lay
theorem dX7_lock_0 : decode cX7_lock 0 = .ok (.aload_n 0, 1) := by decide +kernel
theorem dX7_lock_1 : decode cX7_lock 1 = .ok (.iload_n 1, 1) := by decide +kernel
theorem dX7_lock_2 : decode cX7_lock 2 = .ok (.invokevirtual 105, 3) := by decide +kernel
theorem dX7_lock_5 : decode cX7_lock 5 = .ok (.ifCond .ne 6, 3) := by decide +kernel
theorem dX7_lock_8 : decode cX7_lock 8 = .ok (.ldc 96, 2) := by decide +kernel
theorem dX7_lock_10 : decode cX7_lock 10 = .ok (.ireturn, 1) := by decide +kernel
theorem dX7_lock_11 : decode cX7_lock 11 = .ok (.aload_n 0, 1) := by decide +kernel
theorem dX7_lock_12 : decode cX7_lock 12 = .ok (.invokevirtual 102, 3) := by decide +kernel
theorem dX7_lock_15 : decode cX7_lock 15 = .ok (.aload_n 0, 1) := by decide +kernel
theorem dX7_lock_16 : decode cX7_lock 16 = .ok (.iload_n 1, 1) := by decide +kernel
theorem dX7_lock_17 : decode cX7_lock 17 = .ok (.bipush 6, 2) := by decide +kernel
theorem dX7_lock_19 : decode cX7_lock 19 = .ok (.invokevirtual 43, 3) := by decide +kernel
theorem dX7_lock_22 : decode cX7_lock 22 = .ok (.istore_n 3, 1) := by decide +kernel
theorem dX7_lock_23 : decode cX7_lock 23 = .ok (.aload_n 0, 1) := by decide +kernel
theorem dX7_lock_24 : decode cX7_lock 24 = .ok (.iload_n 1, 1) := by decide +kernel
theorem dX7_lock_25 : decode cX7_lock 25 = .ok (.bipush 6, 2) := by decide +kernel
theorem dX7_lock_27 : decode cX7_lock 27 = .ok (.iload_n 2, 1) := by decide +kernel
theorem dX7_lock_28 : decode cX7_lock 28 = .ok (.ifCond .eq 7, 3) := by decide +kernel
theorem dX7_lock_31 : decode cX7_lock 31 = .ok (.iconst 1, 1) := by decide +kernel
theorem dX7_lock_32 : decode cX7_lock 32 = .ok (.goto 4, 3) := by decide +kernel
theorem dX7_lock_35 : decode cX7_lock 35 = .ok (.iconst 0, 1) := by decide +kernel
theorem dX7_lock_36 : decode cX7_lock 36 = .ok (.invokevirtual 59, 3) := by decide +kernel
theorem dX7_lock_39 : decode cX7_lock 39 = .ok (.iload_n 3, 1) := by decide +kernel
theorem dX7_lock_40 : decode cX7_lock 40 = .ok (.ireturn, 1) := by decide +kernel
set_option maxRecDepth 20000 in
theorem ggX7_read_X7_isHouse : GoodIn wsX7_read wsX7_isHouse := goodIn_r _ [7, 8, 9, 10, 6, 11, 56, 57, 58, 59, 60, 61, 62, 63, 64, 65, 66, 67, 68, 69, 70, 71] (by decide +kernel) (by decide +kernel)
set_option maxRecDepth 20000 in
theorem gX7_read_X7_isHouse : GoodIn wsX7_read (wsV RX7 105 RX7 yX7_isHouse wsX7_isHouse) := goodIn_app (goodIn_of _ (by decide +kernel)) ggX7_read_X7_isHouse
set_option maxRecDepth 20000 in
theorem ggX7_read_X7_barred : GoodIn wsX7_read wsX7_barred := goodIn_r _ [15, 8, 16, 17, 18, 6, 19, 56, 57, 58, 59, 60, 61, 62, 63, 64, 65, 66, 67, 68, 69, 70, 71] (by decide +kernel) (by decide +kernel)
set_option maxRecDepth 20000 in
theorem gX7_read_X7_barred : GoodIn wsX7_read (wsV RX7 80 RX7 yX7_barred wsX7_barred) := goodIn_app (goodIn_of _ (by decide +kernel)) ggX7_read_X7_barred
set_option maxRecDepth 20000 in
theorem ggX7_read_X7_changes : GoodIn wsX7_read wsX7_changes := goodIn_r _ [23, 24, 25, 26, 8, 56, 57, 58, 59, 60, 61, 62, 63, 64, 65, 66, 67, 68, 69, 70, 71] (by decide +kernel) (by decide +kernel)
set_option maxRecDepth 20000 in
theorem gX7_read_X7_changes : GoodIn wsX7_read (wsV RX7 102 RX7 yX7_changes wsX7_changes) := goodIn_app (goodIn_of _ (by decide +kernel)) ggX7_read_X7_changes
set_option maxRecDepth 20000 in
theorem ggX7_read_X7_reads : GoodIn wsX7_read wsX7_reads := goodIn_r _ [30, 8, 31, 32, 33, 6, 34, 35, 16, 17, 18, 19, 36, 37, 38, 39, 40, 41, 42, 43, 44, 45, 46, 47, 48, 49, 50, 51, 52, 53, 54, 55, 56, 57, 58, 59, 60, 61, 62, 63, 64, 65, 66, 67, 68, 69, 70, 71] (by decide +kernel) (by decide +kernel)
set_option maxRecDepth 20000 in
theorem gX7_read_X7_reads : GoodIn wsX7_read (wsV RX7 83 RX7 yX7_reads wsX7_reads) := goodIn_app (goodIn_of _ (by decide +kernel)) ggX7_read_X7_reads
theorem dX7_read_0 : decode cX7_read 0 = .ok (.aload_n 0, 1) := by decide +kernel
theorem dX7_read_1 : decode cX7_read 1 = .ok (.iload_n 1, 1) := by decide +kernel
theorem dX7_read_2 : decode cX7_read 2 = .ok (.invokevirtual 105, 3) := by decide +kernel
theorem dX7_read_5 : decode cX7_read 5 = .ok (.ifCond .ne 6, 3) := by decide +kernel
theorem dX7_read_8 : decode cX7_read 8 = .ok (.ldc 96, 2) := by decide +kernel
theorem dX7_read_10 : decode cX7_read 10 = .ok (.ireturn, 1) := by decide +kernel
theorem dX7_read_11 : decode cX7_read 11 = .ok (.aload_n 0, 1) := by decide +kernel
theorem dX7_read_12 : decode cX7_read 12 = .ok (.iload_n 1, 1) := by decide +kernel
theorem dX7_read_13 : decode cX7_read 13 = .ok (.invokevirtual 80, 3) := by decide +kernel
theorem dX7_read_16 : decode cX7_read 16 = .ok (.ifCond .le 6, 3) := by decide +kernel
theorem dX7_read_19 : decode cX7_read 19 = .ok (.ldc 100, 2) := by decide +kernel
theorem dX7_read_21 : decode cX7_read 21 = .ok (.ireturn, 1) := by decide +kernel
theorem dX7_read_22 : decode cX7_read 22 = .ok (.aload_n 0, 1) := by decide +kernel
theorem dX7_read_23 : decode cX7_read 23 = .ok (.invokevirtual 102, 3) := by decide +kernel
theorem dX7_read_26 : decode cX7_read 26 = .ok (.aload_n 0, 1) := by decide +kernel
theorem dX7_read_27 : decode cX7_read 27 = .ok (.iload_n 1, 1) := by decide +kernel
theorem dX7_read_28 : decode cX7_read 28 = .ok (.invokevirtual 83, 3) := by decide +kernel
theorem dX7_read_31 : decode cX7_read 31 = .ok (.ireturn, 1) := by decide +kernel
set_option maxRecDepth 20000 in
theorem ggX7_change_X7_isHouse : GoodIn wsX7_change wsX7_isHouse := goodIn_r _ [6, 7, 8, 9, 5, 10, 51, 52, 53, 54, 55, 56, 57, 58, 59, 60, 61, 62, 63, 64, 65, 66] (by decide +kernel) (by decide +kernel)
set_option maxRecDepth 20000 in
theorem gX7_change_X7_isHouse : GoodIn wsX7_change (wsV RX7 105 RX7 yX7_isHouse wsX7_isHouse) := goodIn_app (goodIn_of _ (by decide +kernel)) ggX7_change_X7_isHouse
set_option maxRecDepth 20000 in
theorem ggX7_change_X7_changes : GoodIn wsX7_change wsX7_changes := goodIn_r _ [14, 15, 16, 17, 7, 51, 52, 53, 54, 55, 56, 57, 58, 59, 60, 61, 62, 63, 64, 65, 66] (by decide +kernel) (by decide +kernel)
set_option maxRecDepth 20000 in
theorem gX7_change_X7_changes : GoodIn wsX7_change (wsV RX7 102 RX7 yX7_changes wsX7_changes) := goodIn_app (goodIn_of _ (by decide +kernel)) ggX7_change_X7_changes
set_option maxRecDepth 20000 in
theorem ggX7_change_X7_reads : GoodIn wsX7_change wsX7_reads := goodIn_r _ [21, 7, 22, 23, 24, 5, 25, 26, 27, 28, 29, 30, 31, 32, 33, 34, 35, 36, 37, 38, 39, 40, 41, 42, 43, 44, 45, 46, 47, 48, 49, 50, 51, 52, 53, 54, 55, 56, 57, 58, 59, 60, 61, 62, 63, 64, 65, 66] (by decide +kernel) (by decide +kernel)
set_option maxRecDepth 20000 in
theorem gX7_change_X7_reads : GoodIn wsX7_change (wsV RX7 83 RX7 yX7_reads wsX7_reads) := goodIn_app (goodIn_of _ (by decide +kernel)) ggX7_change_X7_reads
set_option maxRecDepth 20000 in
theorem ggX7_change_X7_lay : GoodIn wsX7_change wsX7_lay := goodIn_r _ [42, 7, 51, 52, 53, 54, 55, 56, 57, 58, 59, 60, 61, 62, 63, 64, 65, 66] (by decide +kernel) (by decide +kernel)
set_option maxRecDepth 20000 in
theorem gX7_change_X7_lay : GoodIn wsX7_change (wsV RX7 59 RX7 yX7_lay wsX7_lay) := goodIn_app (goodIn_of _ (by decide +kernel)) ggX7_change_X7_lay
set_option maxRecDepth 20000 in
theorem ggX7_change_X7_adds : GoodIn wsX7_change wsX7_adds := goodIn_r _ [46, 7, 51, 52, 53, 54, 55, 56, 57, 58, 59, 60, 61, 62, 63, 64, 65, 66] (by decide +kernel) (by decide +kernel)
set_option maxRecDepth 20000 in
theorem gX7_change_X7_adds : GoodIn wsX7_change (wsV RX7 63 RX7 yX7_adds wsX7_adds) := goodIn_app (goodIn_of _ (by decide +kernel)) ggX7_change_X7_adds
theorem dX7_change_0 : decode cX7_change 0 = .ok (.aload_n 0, 1) := by decide +kernel
theorem dX7_change_1 : decode cX7_change 1 = .ok (.iload_n 1, 1) := by decide +kernel
theorem dX7_change_2 : decode cX7_change 2 = .ok (.invokevirtual 105, 3) := by decide +kernel
theorem dX7_change_5 : decode cX7_change 5 = .ok (.ifCond .ne 6, 3) := by decide +kernel
theorem dX7_change_8 : decode cX7_change 8 = .ok (.ldc 96, 2) := by decide +kernel
theorem dX7_change_10 : decode cX7_change 10 = .ok (.ireturn, 1) := by decide +kernel
theorem dX7_change_11 : decode cX7_change 11 = .ok (.aload_n 0, 1) := by decide +kernel
theorem dX7_change_12 : decode cX7_change 12 = .ok (.invokevirtual 102, 3) := by decide +kernel
theorem dX7_change_15 : decode cX7_change 15 = .ok (.aload_n 0, 1) := by decide +kernel
theorem dX7_change_16 : decode cX7_change 16 = .ok (.iload_n 1, 1) := by decide +kernel
theorem dX7_change_17 : decode cX7_change 17 = .ok (.invokevirtual 83, 3) := by decide +kernel
theorem dX7_change_20 : decode cX7_change 20 = .ok (.istore_n 2, 1) := by decide +kernel
theorem dX7_change_21 : decode cX7_change 21 = .ok (.aload_n 0, 1) := by decide +kernel
theorem dX7_change_22 : decode cX7_change 22 = .ok (.iload_n 1, 1) := by decide +kernel
theorem dX7_change_23 : decode cX7_change 23 = .ok (.iconst 2, 1) := by decide +kernel
theorem dX7_change_24 : decode cX7_change 24 = .ok (.iconst 0, 1) := by decide +kernel
theorem dX7_change_25 : decode cX7_change 25 = .ok (.invokevirtual 59, 3) := by decide +kernel
theorem dX7_change_28 : decode cX7_change 28 = .ok (.aload_n 0, 1) := by decide +kernel
theorem dX7_change_29 : decode cX7_change 29 = .ok (.iload_n 1, 1) := by decide +kernel
theorem dX7_change_30 : decode cX7_change 30 = .ok (.iconst 3, 1) := by decide +kernel
theorem dX7_change_31 : decode cX7_change 31 = .ok (.iconst 0, 1) := by decide +kernel
theorem dX7_change_32 : decode cX7_change 32 = .ok (.invokevirtual 59, 3) := by decide +kernel
theorem dX7_change_35 : decode cX7_change 35 = .ok (.aload_n 0, 1) := by decide +kernel
theorem dX7_change_36 : decode cX7_change 36 = .ok (.iload_n 1, 1) := by decide +kernel
theorem dX7_change_37 : decode cX7_change 37 = .ok (.bipush 13, 2) := by decide +kernel
theorem dX7_change_39 : decode cX7_change 39 = .ok (.iconst 1, 1) := by decide +kernel
theorem dX7_change_40 : decode cX7_change 40 = .ok (.invokevirtual 63, 3) := by decide +kernel
theorem dX7_change_43 : decode cX7_change 43 = .ok (.iload_n 2, 1) := by decide +kernel
theorem dX7_change_44 : decode cX7_change 44 = .ok (.ireturn, 1) := by decide +kernel
set_option maxRecDepth 20000 in
theorem ggX7_pass_X7_day : GoodIn wsX7_pass wsX7_day := goodIn_r _ [5, 6, 7, 8, 9, 10, 4, 11, 12, 13, 14, 15, 16, 17, 18, 19, 20, 21, 22, 23, 24, 25, 26, 27, 28, 29, 30, 31, 32, 33, 34, 35, 36, 37, 38, 39, 40, 41, 42, 43, 44, 45, 46, 47, 48, 49, 50, 51, 52, 53, 54, 55, 56, 57, 58, 59, 60, 61, 62, 63, 64, 65, 66, 67, 68, 69, 70, 71, 72, 73, 74, 75, 76, 77, 78, 79, 80] (by decide +kernel) (by decide +kernel)
set_option maxRecDepth 20000 in
theorem gX7_pass_X7_day : GoodIn wsX7_pass (wsV RX7 109 RX7 yX7_day wsX7_day) := goodIn_app (goodIn_of _ (by decide +kernel)) ggX7_pass_X7_day
theorem dX7_pass_0 : decode cX7_pass 0 = .ok (.iconst 0, 1) := by decide +kernel
theorem dX7_pass_1 : decode cX7_pass 1 = .ok (.istore_n 2, 1) := by decide +kernel
theorem dX7_pass_2 : decode cX7_pass 2 = .ok (.iconst 0, 1) := by decide +kernel
theorem dX7_pass_3 : decode cX7_pass 3 = .ok (.istore_n 3, 1) := by decide +kernel
theorem dX7_pass_4 : decode cX7_pass 4 = .ok (.iload_n 3, 1) := by decide +kernel
theorem dX7_pass_5 : decode cX7_pass 5 = .ok (.iload_n 1, 1) := by decide +kernel
theorem dX7_pass_6 : decode cX7_pass 6 = .ok (.if_icmp .ge 16, 3) := by decide +kernel
theorem dX7_pass_9 : decode cX7_pass 9 = .ok (.iload_n 2, 1) := by decide +kernel
theorem dX7_pass_10 : decode cX7_pass 10 = .ok (.aload_n 0, 1) := by decide +kernel
theorem dX7_pass_11 : decode cX7_pass 11 = .ok (.invokevirtual 109, 3) := by decide +kernel
theorem dX7_pass_14 : decode cX7_pass 14 = .ok (.iadd, 1) := by decide +kernel
theorem dX7_pass_15 : decode cX7_pass 15 = .ok (.istore_n 2, 1) := by decide +kernel
theorem dX7_pass_16 : decode cX7_pass 16 = .ok (.iinc 3 1, 3) := by decide +kernel
theorem dX7_pass_19 : decode cX7_pass 19 = .ok (.goto (-15), 3) := by decide +kernel
theorem dX7_pass_22 : decode cX7_pass 22 = .ok (.iload_n 2, 1) := by decide +kernel
theorem dX7_pass_23 : decode cX7_pass 23 = .ok (.ireturn, 1) := by decide +kernel
set_option maxRecDepth 20000 in
theorem ggX7_days_X7_in : GoodIn wsX7_days wsX7_in := goodIn_r _ [7] (by decide +kernel) (by decide +kernel)
set_option maxRecDepth 20000 in
theorem gX7_days_X7_in : GoodIn wsX7_days (va_wsS RX7 39 yX7_in wsX7_in) := goodIn_app (goodIn_of _ (by decide +kernel)) ggX7_days_X7_in
set_option maxRecDepth 20000 in
theorem ggX7_days_X7_changes : GoodIn wsX7_days wsX7_changes := goodIn_r _ [11, 12, 13, 14, 2, 81, 82, 83, 84, 85, 86, 87, 88, 89, 90, 91, 92, 93, 94, 95, 96] (by decide +kernel) (by decide +kernel)
set_option maxRecDepth 20000 in
theorem gX7_days_X7_changes : GoodIn wsX7_days (wsV RX7 102 RX7 yX7_changes wsX7_changes) := goodIn_app (goodIn_of _ (by decide +kernel)) ggX7_days_X7_changes
set_option maxRecDepth 20000 in
theorem ggX7_days_X7_pass : GoodIn wsX7_days wsX7_pass := goodIn_r _ [18, 19, 20, 21, 6, 22, 2, 23, 24, 25, 26, 27, 28, 29, 30, 31, 32, 33, 34, 35, 36, 37, 38, 39, 40, 41, 42, 43, 44, 45, 46, 47, 48, 49, 50, 51, 52, 53, 54, 55, 56, 57, 58, 59, 60, 61, 62, 63, 64, 65, 66, 67, 68, 69, 70, 71, 72, 73, 74, 75, 76, 77, 78, 79, 80, 81, 82, 83, 84, 85, 86, 87, 88, 89, 90, 91, 92, 93, 94, 95, 96] (by decide +kernel) (by decide +kernel)
set_option maxRecDepth 20000 in
theorem gX7_days_X7_pass : GoodIn wsX7_days (wsV RX7 113 RX7 yX7_pass wsX7_pass) := goodIn_app (goodIn_of _ (by decide +kernel)) ggX7_days_X7_pass
theorem dX7_days_0 : decode cX7_days 0 = .ok (.iload_n 1, 1) := by decide +kernel
theorem dX7_days_1 : decode cX7_days 1 = .ok (.iconst 1, 1) := by decide +kernel
theorem dX7_days_2 : decode cX7_days 2 = .ok (.bipush 99, 2) := by decide +kernel
theorem dX7_days_4 : decode cX7_days 4 = .ok (.invokestatic 39, 3) := by decide +kernel
theorem dX7_days_7 : decode cX7_days 7 = .ok (.ifCond .ne 6, 3) := by decide +kernel
theorem dX7_days_10 : decode cX7_days 10 = .ok (.ldc 96, 2) := by decide +kernel
theorem dX7_days_12 : decode cX7_days 12 = .ok (.ireturn, 1) := by decide +kernel
theorem dX7_days_13 : decode cX7_days 13 = .ok (.aload_n 0, 1) := by decide +kernel
theorem dX7_days_14 : decode cX7_days 14 = .ok (.getfield 7, 3) := by decide +kernel
theorem dX7_days_17 : decode cX7_days 17 = .ok (.sipush 400, 3) := by decide +kernel
theorem dX7_days_20 : decode cX7_days 20 = .ok (.iaload, 1) := by decide +kernel
theorem dX7_days_21 : decode cX7_days 21 = .ok (.iload_n 1, 1) := by decide +kernel
theorem dX7_days_22 : decode cX7_days 22 = .ok (.iadd, 1) := by decide +kernel
theorem dX7_days_23 : decode cX7_days 23 = .ok (.sipush 9999, 3) := by decide +kernel
theorem dX7_days_26 : decode cX7_days 26 = .ok (.if_icmp .le 6, 3) := by decide +kernel
theorem dX7_days_29 : decode cX7_days 29 = .ok (.ldc 101, 2) := by decide +kernel
theorem dX7_days_31 : decode cX7_days 31 = .ok (.ireturn, 1) := by decide +kernel
theorem dX7_days_32 : decode cX7_days 32 = .ok (.aload_n 0, 1) := by decide +kernel
theorem dX7_days_33 : decode cX7_days 33 = .ok (.invokevirtual 102, 3) := by decide +kernel
theorem dX7_days_36 : decode cX7_days 36 = .ok (.aload_n 0, 1) := by decide +kernel
theorem dX7_days_37 : decode cX7_days 37 = .ok (.iload_n 1, 1) := by decide +kernel
theorem dX7_days_38 : decode cX7_days 38 = .ok (.invokevirtual 113, 3) := by decide +kernel
theorem dX7_days_41 : decode cX7_days 41 = .ok (.ireturn, 1) := by decide +kernel
theorem dX7_least_0 : decode cX7_least 0 = .ok (.iload_n 0, 1) := by decide +kernel
theorem dX7_least_1 : decode cX7_least 1 = .ok (.ifCond .ne 7, 3) := by decide +kernel
theorem dX7_least_4 : decode cX7_least 4 = .ok (.iconst 0, 1) := by decide +kernel
theorem dX7_least_5 : decode cX7_least 5 = .ok (.goto 13, 3) := by decide +kernel
theorem dX7_least_8 : decode cX7_least 8 = .ok (.iload_n 0, 1) := by decide +kernel
theorem dX7_least_9 : decode cX7_least 9 = .ok (.iconst 3, 1) := by decide +kernel
theorem dX7_least_10 : decode cX7_least 10 = .ok (.if_icmp .ne 7, 3) := by decide +kernel
theorem dX7_least_13 : decode cX7_least 13 = .ok (.iconst 5, 1) := by decide +kernel
theorem dX7_least_14 : decode cX7_least 14 = .ok (.goto 4, 3) := by decide +kernel
theorem dX7_least_17 : decode cX7_least 17 = .ok (.iconst 1, 1) := by decide +kernel
theorem dX7_least_18 : decode cX7_least 18 = .ok (.ireturn, 1) := by decide +kernel
theorem dX7_most_0 : decode cX7_most 0 = .ok (.iload_n 0, 1) := by decide +kernel
theorem dX7_most_1 : decode cX7_most 1 = .ok (.ifCond .ne 8, 3) := by decide +kernel
theorem dX7_most_4 : decode cX7_most 4 = .ok (.bipush 12, 2) := by decide +kernel
theorem dX7_most_6 : decode cX7_most 6 = .ok (.goto 26, 3) := by decide +kernel
theorem dX7_most_9 : decode cX7_most 9 = .ok (.iload_n 0, 1) := by decide +kernel
theorem dX7_most_10 : decode cX7_most 10 = .ok (.iconst 1, 1) := by decide +kernel
theorem dX7_most_11 : decode cX7_most 11 = .ok (.if_icmp .ne 8, 3) := by decide +kernel
theorem dX7_most_14 : decode cX7_most 14 = .ok (.bipush 50, 2) := by decide +kernel
theorem dX7_most_16 : decode cX7_most 16 = .ok (.goto 16, 3) := by decide +kernel
theorem dX7_most_19 : decode cX7_most 19 = .ok (.iload_n 0, 1) := by decide +kernel
theorem dX7_most_20 : decode cX7_most 20 = .ok (.iconst 2, 1) := by decide +kernel
theorem dX7_most_21 : decode cX7_most 21 = .ok (.if_icmp .ne 8, 3) := by decide +kernel
theorem dX7_most_24 : decode cX7_most 24 = .ok (.bipush 99, 2) := by decide +kernel
theorem dX7_most_26 : decode cX7_most 26 = .ok (.goto 6, 3) := by decide +kernel
theorem dX7_most_29 : decode cX7_most 29 = .ok (.sipush 400, 3) := by decide +kernel
theorem dX7_most_32 : decode cX7_most 32 = .ok (.ireturn, 1) := by decide +kernel
set_option maxRecDepth 20000 in
theorem ggX7_set_X7_in : GoodIn wsX7_set wsX7_in := goodIn_r _ [6] (by decide +kernel) (by decide +kernel)
set_option maxRecDepth 20000 in
theorem gX7_set_X7_in : GoodIn wsX7_set (va_wsS RX7 39 yX7_in wsX7_in) := goodIn_app (goodIn_of _ (by decide +kernel)) ggX7_set_X7_in
set_option maxRecDepth 20000 in
theorem ggX7_set_X7_least : GoodIn wsX7_set wsX7_least := goodIn_r _ [9] (by decide +kernel) (by decide +kernel)
set_option maxRecDepth 20000 in
theorem gX7_set_X7_least : GoodIn wsX7_set (va_wsS RX7 116 yX7_least wsX7_least) := goodIn_app (goodIn_of _ (by decide +kernel)) ggX7_set_X7_least
set_option maxRecDepth 20000 in
theorem ggX7_set_X7_most : GoodIn wsX7_set wsX7_most := goodIn_r _ [12] (by decide +kernel) (by decide +kernel)
set_option maxRecDepth 20000 in
theorem gX7_set_X7_most : GoodIn wsX7_set (va_wsS RX7 119 yX7_most wsX7_most) := goodIn_app (goodIn_of _ (by decide +kernel)) ggX7_set_X7_most
set_option maxRecDepth 20000 in
theorem ggX7_set_X7_changes : GoodIn wsX7_set wsX7_changes := goodIn_r _ [16, 17, 18, 19, 2, 20, 21, 22, 23, 24, 25, 26, 27, 28, 29, 30, 31, 32, 33, 34, 35] (by decide +kernel) (by decide +kernel)
set_option maxRecDepth 20000 in
theorem gX7_set_X7_changes : GoodIn wsX7_set (wsV RX7 102 RX7 yX7_changes wsX7_changes) := goodIn_app (goodIn_of _ (by decide +kernel)) ggX7_set_X7_changes
theorem dX7_set_0 : decode cX7_set 0 = .ok (.iload_n 1, 1) := by decide +kernel
theorem dX7_set_1 : decode cX7_set 1 = .ok (.iconst 0, 1) := by decide +kernel
theorem dX7_set_2 : decode cX7_set 2 = .ok (.iconst 3, 1) := by decide +kernel
theorem dX7_set_3 : decode cX7_set 3 = .ok (.invokestatic 39, 3) := by decide +kernel
theorem dX7_set_6 : decode cX7_set 6 = .ok (.ifCond .eq 18, 3) := by decide +kernel
theorem dX7_set_9 : decode cX7_set 9 = .ok (.iload_n 2, 1) := by decide +kernel
theorem dX7_set_10 : decode cX7_set 10 = .ok (.iload_n 1, 1) := by decide +kernel
theorem dX7_set_11 : decode cX7_set 11 = .ok (.invokestatic 116, 3) := by decide +kernel
theorem dX7_set_14 : decode cX7_set 14 = .ok (.iload_n 1, 1) := by decide +kernel
theorem dX7_set_15 : decode cX7_set 15 = .ok (.invokestatic 119, 3) := by decide +kernel
theorem dX7_set_18 : decode cX7_set 18 = .ok (.invokestatic 39, 3) := by decide +kernel
theorem dX7_set_21 : decode cX7_set 21 = .ok (.ifCond .ne 6, 3) := by decide +kernel
theorem dX7_set_24 : decode cX7_set 24 = .ok (.ldc 96, 2) := by decide +kernel
theorem dX7_set_26 : decode cX7_set 26 = .ok (.ireturn, 1) := by decide +kernel
theorem dX7_set_27 : decode cX7_set 27 = .ok (.aload_n 0, 1) := by decide +kernel
theorem dX7_set_28 : decode cX7_set 28 = .ok (.invokevirtual 102, 3) := by decide +kernel
theorem dX7_set_31 : decode cX7_set 31 = .ok (.aload_n 0, 1) := by decide +kernel
theorem dX7_set_32 : decode cX7_set 32 = .ok (.getfield 7, 3) := by decide +kernel
theorem dX7_set_35 : decode cX7_set 35 = .ok (.sipush 410, 3) := by decide +kernel
theorem dX7_set_38 : decode cX7_set 38 = .ok (.iload_n 1, 1) := by decide +kernel
theorem dX7_set_39 : decode cX7_set 39 = .ok (.iadd, 1) := by decide +kernel
theorem dX7_set_40 : decode cX7_set 40 = .ok (.iaload, 1) := by decide +kernel
theorem dX7_set_41 : decode cX7_set 41 = .ok (.istore_n 3, 1) := by decide +kernel
theorem dX7_set_42 : decode cX7_set 42 = .ok (.aload_n 0, 1) := by decide +kernel
theorem dX7_set_43 : decode cX7_set 43 = .ok (.getfield 7, 3) := by decide +kernel
theorem dX7_set_46 : decode cX7_set 46 = .ok (.sipush 410, 3) := by decide +kernel
theorem dX7_set_49 : decode cX7_set 49 = .ok (.iload_n 1, 1) := by decide +kernel
theorem dX7_set_50 : decode cX7_set 50 = .ok (.iadd, 1) := by decide +kernel
theorem dX7_set_51 : decode cX7_set 51 = .ok (.iload_n 2, 1) := by decide +kernel
theorem dX7_set_52 : decode cX7_set 52 = .ok (.iastore, 1) := by decide +kernel
theorem dX7_set_53 : decode cX7_set 53 = .ok (.iload_n 3, 1) := by decide +kernel
theorem dX7_set_54 : decode cX7_set 54 = .ok (.ireturn, 1) := by decide +kernel
set_option maxRecDepth 20000 in
theorem ggX7_houseOf_X7_isHouse : GoodIn wsX7_houseOf wsX7_isHouse := goodIn_r _ [7, 8, 9, 10, 6, 11, 21, 22, 23, 24, 25, 26, 27, 28, 29, 30, 31, 32, 33, 34, 35, 36] (by decide +kernel) (by decide +kernel)
set_option maxRecDepth 20000 in
theorem gX7_houseOf_X7_isHouse : GoodIn wsX7_houseOf (wsV RX7 105 RX7 yX7_isHouse wsX7_isHouse) := goodIn_app (goodIn_of _ (by decide +kernel)) ggX7_houseOf_X7_isHouse
set_option maxRecDepth 20000 in
theorem ggX7_houseOf_X7_in : GoodIn wsX7_houseOf wsX7_in := goodIn_r _ [11] (by decide +kernel) (by decide +kernel)
set_option maxRecDepth 20000 in
theorem gX7_houseOf_X7_in : GoodIn wsX7_houseOf (va_wsS RX7 39 yX7_in wsX7_in) := goodIn_app (goodIn_of _ (by decide +kernel)) ggX7_houseOf_X7_in
set_option maxRecDepth 20000 in
theorem ggX7_houseOf_X7_used : GoodIn wsX7_houseOf wsX7_used := goodIn_r _ [15, 16, 17, 18, 19, 6, 20, 8, 21, 22, 23, 24, 25, 26, 27, 28, 29, 30, 31, 32, 33, 34, 35, 36] (by decide +kernel) (by decide +kernel)
set_option maxRecDepth 20000 in
theorem gX7_houseOf_X7_used : GoodIn wsX7_houseOf (wsV RX7 49 RX7 yX7_used wsX7_used) := goodIn_app (goodIn_of _ (by decide +kernel)) ggX7_houseOf_X7_used
set_option maxRecDepth 20000 in
theorem ggX7_houseOf_X7_of : GoodIn wsX7_houseOf wsX7_of := goodIn_r _ [20, 8, 21, 22, 23, 24, 25, 26, 27, 28, 29, 30, 31, 32, 33, 34, 35, 36] (by decide +kernel) (by decide +kernel)
set_option maxRecDepth 20000 in
theorem gX7_houseOf_X7_of : GoodIn wsX7_houseOf (wsV RX7 43 RX7 yX7_of wsX7_of) := goodIn_app (goodIn_of _ (by decide +kernel)) ggX7_houseOf_X7_of
theorem dX7_houseOf_0 : decode cX7_houseOf 0 = .ok (.aload_n 0, 1) := by decide +kernel
theorem dX7_houseOf_1 : decode cX7_houseOf 1 = .ok (.iload_n 1, 1) := by decide +kernel
theorem dX7_houseOf_2 : decode cX7_houseOf 2 = .ok (.invokevirtual 105, 3) := by decide +kernel
theorem dX7_houseOf_5 : decode cX7_houseOf 5 = .ok (.ifCond .eq 13, 3) := by decide +kernel
theorem dX7_houseOf_8 : decode cX7_houseOf 8 = .ok (.iload_n 2, 1) := by decide +kernel
theorem dX7_houseOf_9 : decode cX7_houseOf 9 = .ok (.iconst 0, 1) := by decide +kernel
theorem dX7_houseOf_10 : decode cX7_houseOf 10 = .ok (.bipush 13, 2) := by decide +kernel
theorem dX7_houseOf_12 : decode cX7_houseOf 12 = .ok (.invokestatic 39, 3) := by decide +kernel
theorem dX7_houseOf_15 : decode cX7_houseOf 15 = .ok (.ifCond .ne 6, 3) := by decide +kernel
theorem dX7_houseOf_18 : decode cX7_houseOf 18 = .ok (.ldc 96, 2) := by decide +kernel
theorem dX7_houseOf_20 : decode cX7_houseOf 20 = .ok (.ireturn, 1) := by decide +kernel
theorem dX7_houseOf_21 : decode cX7_houseOf 21 = .ok (.iload_n 2, 1) := by decide +kernel
theorem dX7_houseOf_22 : decode cX7_houseOf 22 = .ok (.tableswitch 76 3 7 #[34, 40, 76, 76, 51], 34) := by decide +kernel
theorem dX7_houseOf_56 : decode cX7_houseOf 56 = .ok (.aload_n 0, 1) := by decide +kernel
theorem dX7_houseOf_57 : decode cX7_houseOf 57 = .ok (.iload_n 1, 1) := by decide +kernel
theorem dX7_houseOf_58 : decode cX7_houseOf 58 = .ok (.invokevirtual 49, 3) := by decide +kernel
theorem dX7_houseOf_61 : decode cX7_houseOf 61 = .ok (.ireturn, 1) := by decide +kernel
theorem dX7_houseOf_62 : decode cX7_houseOf 62 = .ok (.sipush 1000, 3) := by decide +kernel
theorem dX7_houseOf_65 : decode cX7_houseOf 65 = .ok (.aload_n 0, 1) := by decide +kernel
theorem dX7_houseOf_66 : decode cX7_houseOf 66 = .ok (.iload_n 1, 1) := by decide +kernel
theorem dX7_houseOf_67 : decode cX7_houseOf 67 = .ok (.iconst 4, 1) := by decide +kernel
theorem dX7_houseOf_68 : decode cX7_houseOf 68 = .ok (.invokevirtual 43, 3) := by decide +kernel
theorem dX7_houseOf_71 : decode cX7_houseOf 71 = .ok (.iadd, 1) := by decide +kernel
theorem dX7_houseOf_72 : decode cX7_houseOf 72 = .ok (.ireturn, 1) := by decide +kernel
theorem dX7_houseOf_73 : decode cX7_houseOf 73 = .ok (.aload_n 0, 1) := by decide +kernel
theorem dX7_houseOf_74 : decode cX7_houseOf 74 = .ok (.iload_n 1, 1) := by decide +kernel
theorem dX7_houseOf_75 : decode cX7_houseOf 75 = .ok (.bipush 7, 2) := by decide +kernel
theorem dX7_houseOf_77 : decode cX7_houseOf 77 = .ok (.invokevirtual 43, 3) := by decide +kernel
theorem dX7_houseOf_80 : decode cX7_houseOf 80 = .ok (.ifCond .le 15, 3) := by decide +kernel
theorem dX7_houseOf_83 : decode cX7_houseOf 83 = .ok (.aload_n 0, 1) := by decide +kernel
theorem dX7_houseOf_84 : decode cX7_houseOf 84 = .ok (.iload_n 1, 1) := by decide +kernel
theorem dX7_houseOf_85 : decode cX7_houseOf 85 = .ok (.bipush 7, 2) := by decide +kernel
theorem dX7_houseOf_87 : decode cX7_houseOf 87 = .ok (.invokevirtual 43, 3) := by decide +kernel
theorem dX7_houseOf_90 : decode cX7_houseOf 90 = .ok (.iconst 1, 1) := by decide +kernel
theorem dX7_houseOf_91 : decode cX7_houseOf 91 = .ok (.isub, 1) := by decide +kernel
theorem dX7_houseOf_92 : decode cX7_houseOf 92 = .ok (.goto 5, 3) := by decide +kernel
theorem dX7_houseOf_95 : decode cX7_houseOf 95 = .ok (.ldc 47, 2) := by decide +kernel
theorem dX7_houseOf_97 : decode cX7_houseOf 97 = .ok (.ireturn, 1) := by decide +kernel
theorem dX7_houseOf_98 : decode cX7_houseOf 98 = .ok (.aload_n 0, 1) := by decide +kernel
theorem dX7_houseOf_99 : decode cX7_houseOf 99 = .ok (.iload_n 1, 1) := by decide +kernel
theorem dX7_houseOf_100 : decode cX7_houseOf 100 = .ok (.iload_n 2, 1) := by decide +kernel
theorem dX7_houseOf_101 : decode cX7_houseOf 101 = .ok (.invokevirtual 43, 3) := by decide +kernel
theorem dX7_houseOf_104 : decode cX7_houseOf 104 = .ok (.ireturn, 1) := by decide +kernel
set_option maxRecDepth 20000 in
theorem ggX7_at_X7_isPlace : GoodIn wsX7_at wsX7_isPlace := goodIn_r _ [5, 6, 7, 4, 8] (by decide +kernel) (by decide +kernel)
set_option maxRecDepth 20000 in
theorem gX7_at_X7_isPlace : GoodIn wsX7_at (va_wsS RX7 92 yX7_isPlace wsX7_isPlace) := goodIn_app (goodIn_of _ (by decide +kernel)) ggX7_at_X7_isPlace
set_option maxRecDepth 20000 in
theorem ggX7_at_X7_atPlace : GoodIn wsX7_at wsX7_atPlace := goodIn_r _ [12, 13, 14, 15, 16, 17, 4, 18, 19, 20, 21, 22, 23, 24, 25, 26, 27, 28, 29, 30, 31, 32, 33, 34] (by decide +kernel) (by decide +kernel)
set_option maxRecDepth 20000 in
theorem gX7_at_X7_atPlace : GoodIn wsX7_at (wsV RX7 97 RX7 yX7_atPlace wsX7_atPlace) := goodIn_app (goodIn_of _ (by decide +kernel)) ggX7_at_X7_atPlace
theorem dX7_at_0 : decode cX7_at 0 = .ok (.iload_n 1, 1) := by decide +kernel
theorem dX7_at_1 : decode cX7_at 1 = .ok (.iload_n 2, 1) := by decide +kernel
theorem dX7_at_2 : decode cX7_at 2 = .ok (.invokestatic 92, 3) := by decide +kernel
theorem dX7_at_5 : decode cX7_at 5 = .ok (.ifCond .eq 12, 3) := by decide +kernel
theorem dX7_at_8 : decode cX7_at 8 = .ok (.aload_n 0, 1) := by decide +kernel
theorem dX7_at_9 : decode cX7_at 9 = .ok (.iload_n 1, 1) := by decide +kernel
theorem dX7_at_10 : decode cX7_at 10 = .ok (.iload_n 2, 1) := by decide +kernel
theorem dX7_at_11 : decode cX7_at 11 = .ok (.invokevirtual 97, 3) := by decide +kernel
theorem dX7_at_14 : decode cX7_at 14 = .ok (.goto 5, 3) := by decide +kernel
theorem dX7_at_17 : decode cX7_at 17 = .ok (.ldc 96, 2) := by decide +kernel
theorem dX7_at_19 : decode cX7_at 19 = .ok (.ireturn, 1) := by decide +kernel
set_option maxRecDepth 20000 in
theorem ggX7_next_X7_in : GoodIn wsX7_next wsX7_in := goodIn_r _ [7] (by decide +kernel) (by decide +kernel)
set_option maxRecDepth 20000 in
theorem gX7_next_X7_in : GoodIn wsX7_next (va_wsS RX7 39 yX7_in wsX7_in) := goodIn_app (goodIn_of _ (by decide +kernel)) ggX7_next_X7_in
set_option maxRecDepth 20000 in
theorem ggX7_next_X7_rounds : GoodIn wsX7_next wsX7_rounds := goodIn_r _ [11, 12, 2, 13, 14, 15, 6, 16, 17, 18, 19, 20, 21, 22, 23, 24, 25, 26, 27, 28, 29, 30, 31, 32, 33, 34, 35, 36, 37, 38, 39, 40] (by decide +kernel) (by decide +kernel)
set_option maxRecDepth 20000 in
theorem gX7_next_X7_rounds : GoodIn wsX7_next (wsV RX7 77 RX7 yX7_rounds wsX7_rounds) := goodIn_app (goodIn_of _ (by decide +kernel)) ggX7_next_X7_rounds
theorem dX7_next_0 : decode cX7_next 0 = .ok (.iload_n 1, 1) := by decide +kernel
theorem dX7_next_1 : decode cX7_next 1 = .ok (.iconst 0, 1) := by decide +kernel
theorem dX7_next_2 : decode cX7_next 2 = .ok (.iconst 3, 1) := by decide +kernel
theorem dX7_next_3 : decode cX7_next 3 = .ok (.invokestatic 39, 3) := by decide +kernel
theorem dX7_next_6 : decode cX7_next 6 = .ok (.ifCond .eq 7, 3) := by decide +kernel
theorem dX7_next_9 : decode cX7_next 9 = .ok (.iload_n 2, 1) := by decide +kernel
theorem dX7_next_10 : decode cX7_next 10 = .ok (.ifCond .ge 6, 3) := by decide +kernel
theorem dX7_next_13 : decode cX7_next 13 = .ok (.ldc 96, 2) := by decide +kernel
theorem dX7_next_15 : decode cX7_next 15 = .ok (.ireturn, 1) := by decide +kernel
theorem dX7_next_16 : decode cX7_next 16 = .ok (.iload_n 2, 1) := by decide +kernel
theorem dX7_next_17 : decode cX7_next 17 = .ok (.aload_n 0, 1) := by decide +kernel
theorem dX7_next_18 : decode cX7_next 18 = .ok (.iload_n 1, 1) := by decide +kernel
theorem dX7_next_19 : decode cX7_next 19 = .ok (.invokevirtual 77, 3) := by decide +kernel
theorem dX7_next_22 : decode cX7_next 22 = .ok (.if_icmp .ge 12, 3) := by decide +kernel
theorem dX7_next_25 : decode cX7_next 25 = .ok (.aload_n 0, 1) := by decide +kernel
theorem dX7_next_26 : decode cX7_next 26 = .ok (.getfield 25, 3) := by decide +kernel
theorem dX7_next_29 : decode cX7_next 29 = .ok (.iload_n 2, 1) := by decide +kernel
theorem dX7_next_30 : decode cX7_next 30 = .ok (.iaload, 1) := by decide +kernel
theorem dX7_next_31 : decode cX7_next 31 = .ok (.goto 5, 3) := by decide +kernel
theorem dX7_next_34 : decode cX7_next 34 = .ok (.ldc 47, 2) := by decide +kernel
theorem dX7_next_36 : decode cX7_next 36 = .ok (.ireturn, 1) := by decide +kernel
set_option maxRecDepth 20000 in
theorem ggX7_ledger_X7_in : GoodIn wsX7_ledger wsX7_in := goodIn_r _ [7] (by decide +kernel) (by decide +kernel)
set_option maxRecDepth 20000 in
theorem gX7_ledger_X7_in : GoodIn wsX7_ledger (va_wsS RX7 39 yX7_in wsX7_in) := goodIn_app (goodIn_of _ (by decide +kernel)) ggX7_ledger_X7_in
theorem dX7_ledger_0 : decode cX7_ledger 0 = .ok (.iload_n 1, 1) := by decide +kernel
theorem dX7_ledger_1 : decode cX7_ledger 1 = .ok (.ifCond .lt 12, 3) := by decide +kernel
theorem dX7_ledger_4 : decode cX7_ledger 4 = .ok (.iload_n 2, 1) := by decide +kernel
theorem dX7_ledger_5 : decode cX7_ledger 5 = .ok (.iconst 0, 1) := by decide +kernel
theorem dX7_ledger_6 : decode cX7_ledger 6 = .ok (.iconst 5, 1) := by decide +kernel
theorem dX7_ledger_7 : decode cX7_ledger 7 = .ok (.invokestatic 39, 3) := by decide +kernel
theorem dX7_ledger_10 : decode cX7_ledger 10 = .ok (.ifCond .ne 6, 3) := by decide +kernel
theorem dX7_ledger_13 : decode cX7_ledger 13 = .ok (.ldc 96, 2) := by decide +kernel
theorem dX7_ledger_15 : decode cX7_ledger 15 = .ok (.ireturn, 1) := by decide +kernel
theorem dX7_ledger_16 : decode cX7_ledger 16 = .ok (.iload_n 1, 1) := by decide +kernel
theorem dX7_ledger_17 : decode cX7_ledger 17 = .ok (.aload_n 0, 1) := by decide +kernel
theorem dX7_ledger_18 : decode cX7_ledger 18 = .ok (.getfield 7, 3) := by decide +kernel
theorem dX7_ledger_21 : decode cX7_ledger 21 = .ok (.sipush 409, 3) := by decide +kernel
theorem dX7_ledger_24 : decode cX7_ledger 24 = .ok (.iaload, 1) := by decide +kernel
theorem dX7_ledger_25 : decode cX7_ledger 25 = .ok (.if_icmp .ge 21, 3) := by decide +kernel
theorem dX7_ledger_28 : decode cX7_ledger 28 = .ok (.aload_n 0, 1) := by decide +kernel
theorem dX7_ledger_29 : decode cX7_ledger 29 = .ok (.getfield 7, 3) := by decide +kernel
theorem dX7_ledger_32 : decode cX7_ledger 32 = .ok (.sipush 340, 3) := by decide +kernel
theorem dX7_ledger_35 : decode cX7_ledger 35 = .ok (.bipush 6, 2) := by decide +kernel
theorem dX7_ledger_37 : decode cX7_ledger 37 = .ok (.iload_n 1, 1) := by decide +kernel
theorem dX7_ledger_38 : decode cX7_ledger 38 = .ok (.imul, 1) := by decide +kernel
theorem dX7_ledger_39 : decode cX7_ledger 39 = .ok (.iadd, 1) := by decide +kernel
theorem dX7_ledger_40 : decode cX7_ledger 40 = .ok (.iload_n 2, 1) := by decide +kernel
theorem dX7_ledger_41 : decode cX7_ledger 41 = .ok (.iadd, 1) := by decide +kernel
theorem dX7_ledger_42 : decode cX7_ledger 42 = .ok (.iaload, 1) := by decide +kernel
theorem dX7_ledger_43 : decode cX7_ledger 43 = .ok (.goto 5, 3) := by decide +kernel
theorem dX7_ledger_46 : decode cX7_ledger 46 = .ok (.ldc 47, 2) := by decide +kernel
theorem dX7_ledger_48 : decode cX7_ledger 48 = .ok (.ireturn, 1) := by decide +kernel
set_option maxRecDepth 20000 in
theorem ggX7_why_X7_isHouse : GoodIn wsX7_why wsX7_isHouse := goodIn_r _ [6, 7, 8, 9, 5, 10, 19, 20, 21, 22, 23, 24, 25, 26, 27, 28, 29, 30, 31, 32, 33, 34] (by decide +kernel) (by decide +kernel)
set_option maxRecDepth 20000 in
theorem gX7_why_X7_isHouse : GoodIn wsX7_why (wsV RX7 105 RX7 yX7_isHouse wsX7_isHouse) := goodIn_app (goodIn_of _ (by decide +kernel)) ggX7_why_X7_isHouse
set_option maxRecDepth 20000 in
theorem ggX7_why_X7_barred : GoodIn wsX7_why wsX7_barred := goodIn_r _ [14, 7, 15, 16, 17, 5, 18, 19, 20, 21, 22, 23, 24, 25, 26, 27, 28, 29, 30, 31, 32, 33, 34] (by decide +kernel) (by decide +kernel)
set_option maxRecDepth 20000 in
theorem gX7_why_X7_barred : GoodIn wsX7_why (wsV RX7 80 RX7 yX7_barred wsX7_barred) := goodIn_app (goodIn_of _ (by decide +kernel)) ggX7_why_X7_barred
theorem dX7_why_0 : decode cX7_why 0 = .ok (.aload_n 0, 1) := by decide +kernel
theorem dX7_why_1 : decode cX7_why 1 = .ok (.iload_n 1, 1) := by decide +kernel
theorem dX7_why_2 : decode cX7_why 2 = .ok (.invokevirtual 105, 3) := by decide +kernel
theorem dX7_why_5 : decode cX7_why 5 = .ok (.ifCond .eq 11, 3) := by decide +kernel
theorem dX7_why_8 : decode cX7_why 8 = .ok (.aload_n 0, 1) := by decide +kernel
theorem dX7_why_9 : decode cX7_why 9 = .ok (.iload_n 1, 1) := by decide +kernel
theorem dX7_why_10 : decode cX7_why 10 = .ok (.invokevirtual 80, 3) := by decide +kernel
theorem dX7_why_13 : decode cX7_why 13 = .ok (.goto 5, 3) := by decide +kernel
theorem dX7_why_16 : decode cX7_why 16 = .ok (.ldc 96, 2) := by decide +kernel
theorem dX7_why_18 : decode cX7_why 18 = .ok (.ireturn, 1) := by decide +kernel
set_option maxRecDepth 20000 in
theorem ggX7_ifRead_X7_isHouse : GoodIn wsX7_ifRead wsX7_isHouse := goodIn_r _ [7, 2, 8, 9, 6, 10, 28, 29, 30, 31, 32, 33, 34, 35, 36, 37, 38, 39, 40, 41, 42, 43] (by decide +kernel) (by decide +kernel)
set_option maxRecDepth 20000 in
theorem gX7_ifRead_X7_isHouse : GoodIn wsX7_ifRead (wsV RX7 105 RX7 yX7_isHouse wsX7_isHouse) := goodIn_app (goodIn_of _ (by decide +kernel)) ggX7_ifRead_X7_isHouse
set_option maxRecDepth 20000 in
theorem ggX7_ifRead_X7_in : GoodIn wsX7_ifRead wsX7_in := goodIn_r _ [10] (by decide +kernel) (by decide +kernel)
set_option maxRecDepth 20000 in
theorem gX7_ifRead_X7_in : GoodIn wsX7_ifRead (va_wsS RX7 39 yX7_in wsX7_in) := goodIn_app (goodIn_of _ (by decide +kernel)) ggX7_ifRead_X7_in
set_option maxRecDepth 20000 in
theorem ggX7_ifRead_X7_balanceThen : GoodIn wsX7_ifRead wsX7_balanceThen := goodIn_r _ [14, 15, 16, 17, 6, 18, 2, 19, 20, 21, 22, 23, 24, 25, 26, 27, 28, 29, 30, 31, 32, 33, 34, 35, 36, 37, 38, 39, 40, 41, 42, 43] (by decide +kernel) (by decide +kernel)
set_option maxRecDepth 20000 in
theorem gX7_ifRead_X7_balanceThen : GoodIn wsX7_ifRead (wsV RX7 56 RX7 yX7_balanceThen wsX7_balanceThen) := goodIn_app (goodIn_of _ (by decide +kernel)) ggX7_ifRead_X7_balanceThen
set_option maxRecDepth 20000 in
theorem ggX7_ifRead_X7_unitsOf : GoodIn wsX7_ifRead wsX7_unitsOf := goodIn_r _ [22, 23, 24, 25, 6, 26, 27, 15, 16, 17, 18, 2, 28, 29, 30, 31, 32, 33, 34, 35, 36, 37, 38, 39, 40, 41, 42, 43] (by decide +kernel) (by decide +kernel)
set_option maxRecDepth 20000 in
theorem gX7_ifRead_X7_unitsOf : GoodIn wsX7_ifRead (wsV RX7 53 RX7 yX7_unitsOf wsX7_unitsOf) := goodIn_app (goodIn_of _ (by decide +kernel)) ggX7_ifRead_X7_unitsOf
theorem dX7_ifRead_0 : decode cX7_ifRead 0 = .ok (.aload_n 0, 1) := by decide +kernel
theorem dX7_ifRead_1 : decode cX7_ifRead 1 = .ok (.iload_n 1, 1) := by decide +kernel
theorem dX7_ifRead_2 : decode cX7_ifRead 2 = .ok (.invokevirtual 105, 3) := by decide +kernel
theorem dX7_ifRead_5 : decode cX7_ifRead 5 = .ok (.ifCond .eq 12, 3) := by decide +kernel
theorem dX7_ifRead_8 : decode cX7_ifRead 8 = .ok (.iload_n 2, 1) := by decide +kernel
theorem dX7_ifRead_9 : decode cX7_ifRead 9 = .ok (.iconst 0, 1) := by decide +kernel
theorem dX7_ifRead_10 : decode cX7_ifRead 10 = .ok (.iconst 3, 1) := by decide +kernel
theorem dX7_ifRead_11 : decode cX7_ifRead 11 = .ok (.invokestatic 39, 3) := by decide +kernel
theorem dX7_ifRead_14 : decode cX7_ifRead 14 = .ok (.ifCond .ne 6, 3) := by decide +kernel
theorem dX7_ifRead_17 : decode cX7_ifRead 17 = .ok (.ldc 96, 2) := by decide +kernel
theorem dX7_ifRead_19 : decode cX7_ifRead 19 = .ok (.ireturn, 1) := by decide +kernel
theorem dX7_ifRead_20 : decode cX7_ifRead 20 = .ok (.aload_n 0, 1) := by decide +kernel
theorem dX7_ifRead_21 : decode cX7_ifRead 21 = .ok (.iload_n 1, 1) := by decide +kernel
theorem dX7_ifRead_22 : decode cX7_ifRead 22 = .ok (.invokevirtual 56, 3) := by decide +kernel
theorem dX7_ifRead_25 : decode cX7_ifRead 25 = .ok (.istore_n 3, 1) := by decide +kernel
theorem dX7_ifRead_26 : decode cX7_ifRead 26 = .ok (.iload_n 2, 1) := by decide +kernel
theorem dX7_ifRead_27 : decode cX7_ifRead 27 = .ok (.tableswitch 55 0 2 #[25, 31, 37], 25) := by decide +kernel
theorem dX7_ifRead_52 : decode cX7_ifRead 52 = .ok (.aload_n 0, 1) := by decide +kernel
theorem dX7_ifRead_53 : decode cX7_ifRead 53 = .ok (.iload_n 1, 1) := by decide +kernel
theorem dX7_ifRead_54 : decode cX7_ifRead 54 = .ok (.invokevirtual 53, 3) := by decide +kernel
theorem dX7_ifRead_57 : decode cX7_ifRead 57 = .ok (.ireturn, 1) := by decide +kernel
theorem dX7_ifRead_58 : decode cX7_ifRead 58 = .ok (.sipush 1000, 3) := by decide +kernel
theorem dX7_ifRead_61 : decode cX7_ifRead 61 = .ok (.iload_n 3, 1) := by decide +kernel
theorem dX7_ifRead_62 : decode cX7_ifRead 62 = .ok (.iadd, 1) := by decide +kernel
theorem dX7_ifRead_63 : decode cX7_ifRead 63 = .ok (.ireturn, 1) := by decide +kernel
theorem dX7_ifRead_64 : decode cX7_ifRead 64 = .ok (.iload_n 3, 1) := by decide +kernel
theorem dX7_ifRead_65 : decode cX7_ifRead 65 = .ok (.ifCond .le 7, 3) := by decide +kernel
theorem dX7_ifRead_68 : decode cX7_ifRead 68 = .ok (.iconst 1, 1) := by decide +kernel
theorem dX7_ifRead_69 : decode cX7_ifRead 69 = .ok (.goto 12, 3) := by decide +kernel
theorem dX7_ifRead_72 : decode cX7_ifRead 72 = .ok (.iload_n 3, 1) := by decide +kernel
theorem dX7_ifRead_73 : decode cX7_ifRead 73 = .ok (.ifCond .ge 7, 3) := by decide +kernel
theorem dX7_ifRead_76 : decode cX7_ifRead 76 = .ok (.iconst 2, 1) := by decide +kernel
theorem dX7_ifRead_77 : decode cX7_ifRead 77 = .ok (.goto 4, 3) := by decide +kernel
theorem dX7_ifRead_80 : decode cX7_ifRead 80 = .ok (.iconst 0, 1) := by decide +kernel
theorem dX7_ifRead_81 : decode cX7_ifRead 81 = .ok (.ireturn, 1) := by decide +kernel
theorem dX7_ifRead_82 : decode cX7_ifRead 82 = .ok (.aload_n 0, 1) := by decide +kernel
theorem dX7_ifRead_83 : decode cX7_ifRead 83 = .ok (.iload_n 1, 1) := by decide +kernel
theorem dX7_ifRead_84 : decode cX7_ifRead 84 = .ok (.invokevirtual 53, 3) := by decide +kernel
theorem dX7_ifRead_87 : decode cX7_ifRead 87 = .ok (.aload_n 0, 1) := by decide +kernel
theorem dX7_ifRead_88 : decode cX7_ifRead 88 = .ok (.getfield 7, 3) := by decide +kernel
theorem dX7_ifRead_91 : decode cX7_ifRead 91 = .ok (.sipush 411, 3) := by decide +kernel
theorem dX7_ifRead_94 : decode cX7_ifRead 94 = .ok (.iaload, 1) := by decide +kernel
theorem dX7_ifRead_95 : decode cX7_ifRead 95 = .ok (.imul, 1) := by decide +kernel
theorem dX7_ifRead_96 : decode cX7_ifRead 96 = .ok (.ireturn, 1) := by decide +kernel
set_option maxRecDepth 20000 in
theorem ggX7_wronged_X7_of : GoodIn wsX7_wronged wsX7_of := goodIn_r _ [8, 2, 9, 10, 11, 12, 13, 14, 15, 16, 17, 18, 19, 20, 21, 22, 23, 24] (by decide +kernel) (by decide +kernel)
set_option maxRecDepth 20000 in
theorem gX7_wronged_X7_of : GoodIn wsX7_wronged (wsV RX7 43 RX7 yX7_of wsX7_of) := goodIn_app (goodIn_of _ (by decide +kernel)) ggX7_wronged_X7_of
theorem dX7_wronged_0 : decode cX7_wronged 0 = .ok (.iload_n 1, 1) := by decide +kernel
theorem dX7_wronged_1 : decode cX7_wronged 1 = .ok (.ifCond .ge 6, 3) := by decide +kernel
theorem dX7_wronged_4 : decode cX7_wronged 4 = .ok (.ldc 96, 2) := by decide +kernel
theorem dX7_wronged_6 : decode cX7_wronged 6 = .ok (.ireturn, 1) := by decide +kernel
theorem dX7_wronged_7 : decode cX7_wronged 7 = .ok (.iconst 0, 1) := by decide +kernel
theorem dX7_wronged_8 : decode cX7_wronged 8 = .ok (.istore_n 2, 1) := by decide +kernel
theorem dX7_wronged_9 : decode cX7_wronged 9 = .ok (.iload_n 2, 1) := by decide +kernel
theorem dX7_wronged_10 : decode cX7_wronged 10 = .ok (.aload_n 0, 1) := by decide +kernel
theorem dX7_wronged_11 : decode cX7_wronged 11 = .ok (.getfield 7, 3) := by decide +kernel
theorem dX7_wronged_14 : decode cX7_wronged 14 = .ok (.sipush 401, 3) := by decide +kernel
theorem dX7_wronged_17 : decode cX7_wronged 17 = .ok (.iaload, 1) := by decide +kernel
theorem dX7_wronged_18 : decode cX7_wronged 18 = .ok (.if_icmp .ge 80, 3) := by decide +kernel
theorem dX7_wronged_21 : decode cX7_wronged 21 = .ok (.iconst 0, 1) := by decide +kernel
theorem dX7_wronged_22 : decode cX7_wronged 22 = .ok (.istore_n 3, 1) := by decide +kernel
theorem dX7_wronged_23 : decode cX7_wronged 23 = .ok (.iconst 0, 1) := by decide +kernel
theorem dX7_wronged_24 : decode cX7_wronged 24 = .ok (.istore 4, 2) := by decide +kernel
theorem dX7_wronged_26 : decode cX7_wronged 26 = .ok (.iload 4, 2) := by decide +kernel
theorem dX7_wronged_28 : decode cX7_wronged 28 = .ok (.aload_n 0, 1) := by decide +kernel
theorem dX7_wronged_29 : decode cX7_wronged 29 = .ok (.getfield 7, 3) := by decide +kernel
theorem dX7_wronged_32 : decode cX7_wronged 32 = .ok (.sipush 401, 3) := by decide +kernel
theorem dX7_wronged_35 : decode cX7_wronged 35 = .ok (.iaload, 1) := by decide +kernel
theorem dX7_wronged_36 : decode cX7_wronged 36 = .ok (.if_icmp .ge 49, 3) := by decide +kernel
theorem dX7_wronged_39 : decode cX7_wronged 39 = .ok (.aload_n 0, 1) := by decide +kernel
theorem dX7_wronged_40 : decode cX7_wronged 40 = .ok (.iload 4, 2) := by decide +kernel
theorem dX7_wronged_42 : decode cX7_wronged 42 = .ok (.iconst 4, 1) := by decide +kernel
theorem dX7_wronged_43 : decode cX7_wronged 43 = .ok (.invokevirtual 43, 3) := by decide +kernel
theorem dX7_wronged_46 : decode cX7_wronged 46 = .ok (.aload_n 0, 1) := by decide +kernel
theorem dX7_wronged_47 : decode cX7_wronged 47 = .ok (.iload_n 2, 1) := by decide +kernel
theorem dX7_wronged_48 : decode cX7_wronged 48 = .ok (.iconst 4, 1) := by decide +kernel
theorem dX7_wronged_49 : decode cX7_wronged 49 = .ok (.invokevirtual 43, 3) := by decide +kernel
theorem dX7_wronged_52 : decode cX7_wronged 52 = .ok (.isub, 1) := by decide +kernel
theorem dX7_wronged_53 : decode cX7_wronged 53 = .ok (.istore 5, 2) := by decide +kernel
theorem dX7_wronged_55 : decode cX7_wronged 55 = .ok (.iload_n 3, 1) := by decide +kernel
theorem dX7_wronged_56 : decode cX7_wronged 56 = .ok (.iload 5, 2) := by decide +kernel
theorem dX7_wronged_58 : decode cX7_wronged 58 = .ok (.ifCond .gt 14, 3) := by decide +kernel
theorem dX7_wronged_61 : decode cX7_wronged 61 = .ok (.iload 5, 2) := by decide +kernel
theorem dX7_wronged_63 : decode cX7_wronged 63 = .ok (.ifCond .ne 13, 3) := by decide +kernel
theorem dX7_wronged_66 : decode cX7_wronged 66 = .ok (.iload 4, 2) := by decide +kernel
theorem dX7_wronged_68 : decode cX7_wronged 68 = .ok (.iload_n 2, 1) := by decide +kernel
theorem dX7_wronged_69 : decode cX7_wronged 69 = .ok (.if_icmp .ge 7, 3) := by decide +kernel
theorem dX7_wronged_72 : decode cX7_wronged 72 = .ok (.iconst 1, 1) := by decide +kernel
theorem dX7_wronged_73 : decode cX7_wronged 73 = .ok (.goto 4, 3) := by decide +kernel
theorem dX7_wronged_76 : decode cX7_wronged 76 = .ok (.iconst 0, 1) := by decide +kernel
theorem dX7_wronged_77 : decode cX7_wronged 77 = .ok (.iadd, 1) := by decide +kernel
theorem dX7_wronged_78 : decode cX7_wronged 78 = .ok (.istore_n 3, 1) := by decide +kernel
theorem dX7_wronged_79 : decode cX7_wronged 79 = .ok (.iinc 4 1, 3) := by decide +kernel
theorem dX7_wronged_82 : decode cX7_wronged 82 = .ok (.goto (-56), 3) := by decide +kernel
theorem dX7_wronged_85 : decode cX7_wronged 85 = .ok (.iload_n 3, 1) := by decide +kernel
theorem dX7_wronged_86 : decode cX7_wronged 86 = .ok (.iload_n 1, 1) := by decide +kernel
theorem dX7_wronged_87 : decode cX7_wronged 87 = .ok (.if_icmp .ne 5, 3) := by decide +kernel
theorem dX7_wronged_90 : decode cX7_wronged 90 = .ok (.iload_n 2, 1) := by decide +kernel
theorem dX7_wronged_91 : decode cX7_wronged 91 = .ok (.ireturn, 1) := by decide +kernel
theorem dX7_wronged_92 : decode cX7_wronged 92 = .ok (.iinc 2 1, 3) := by decide +kernel
theorem dX7_wronged_95 : decode cX7_wronged 95 = .ok (.goto (-86), 3) := by decide +kernel
theorem dX7_wronged_98 : decode cX7_wronged 98 = .ok (.ldc 47, 2) := by decide +kernel
theorem dX7_wronged_100 : decode cX7_wronged 100 = .ok (.ireturn, 1) := by decide +kernel
set_option maxRecDepth 20000 in
theorem ggX7_refundIn_X7_isHouse : GoodIn wsX7_refundIn wsX7_isHouse := goodIn_r _ [9, 2, 10, 11, 8, 12, 78, 79, 80, 81, 82, 83, 84, 85, 86, 87, 88, 89, 90, 91, 92, 93] (by decide +kernel) (by decide +kernel)
set_option maxRecDepth 20000 in
theorem gX7_refundIn_X7_isHouse : GoodIn wsX7_refundIn (wsV RX7 105 RX7 yX7_isHouse wsX7_isHouse) := goodIn_app (goodIn_of _ (by decide +kernel)) ggX7_refundIn_X7_isHouse
set_option maxRecDepth 20000 in
theorem ggX7_refundIn_X7_copies : GoodIn wsX7_refundIn wsX7_copies := goodIn_r _ [15] (by decide +kernel) (by decide +kernel)
set_option maxRecDepth 20000 in
theorem gX7_refundIn_X7_copies : GoodIn wsX7_refundIn (va_wsS RX7 122 yX7_copies wsX7_copies) := goodIn_app (goodIn_of _ (by decide +kernel)) ggX7_refundIn_X7_copies
set_option maxRecDepth 20000 in
theorem ggX7_refundIn_X7_of : GoodIn wsX7_refundIn wsX7_of := goodIn_r _ [19, 2, 78, 79, 80, 81, 82, 83, 84, 85, 86, 87, 88, 89, 90, 91, 92, 93] (by decide +kernel) (by decide +kernel)
set_option maxRecDepth 20000 in
theorem gX7_refundIn_X7_of : GoodIn wsX7_refundIn (wsV RX7 43 RX7 yX7_of wsX7_of) := goodIn_app (goodIn_of _ (by decide +kernel)) ggX7_refundIn_X7_of
set_option maxRecDepth 20000 in
theorem ggX7_refundIn_X7_day : GoodIn wsX7_refundIn wsX7_day := goodIn_r _ [23, 2, 24, 16, 17, 18, 8, 19, 25, 26, 27, 28, 29, 30, 31, 32, 33, 34, 35, 36, 37, 38, 39, 40, 41, 42, 43, 44, 45, 46, 47, 48, 49, 50, 51, 52, 53, 54, 55, 56, 57, 58, 59, 60, 61, 62, 63, 64, 65, 66, 67, 68, 69, 70, 71, 72, 73, 74, 75, 76, 77, 78, 79, 80, 81, 82, 83, 84, 85, 86, 87, 88, 89, 90, 91, 92, 93] (by decide +kernel) (by decide +kernel)
set_option maxRecDepth 20000 in
theorem gX7_refundIn_X7_day : GoodIn wsX7_refundIn (wsV RX7 109 RX7 yX7_day wsX7_day) := goodIn_app (goodIn_of _ (by decide +kernel)) ggX7_refundIn_X7_day
theorem dX7_refundIn_0 : decode cX7_refundIn 0 = .ok (.aload_n 0, 1) := by decide +kernel
theorem dX7_refundIn_1 : decode cX7_refundIn 1 = .ok (.iload_n 1, 1) := by decide +kernel
theorem dX7_refundIn_2 : decode cX7_refundIn 2 = .ok (.invokevirtual 105, 3) := by decide +kernel
theorem dX7_refundIn_5 : decode cX7_refundIn 5 = .ok (.ifCond .ne 6, 3) := by decide +kernel
theorem dX7_refundIn_8 : decode cX7_refundIn 8 = .ok (.ldc 96, 2) := by decide +kernel
theorem dX7_refundIn_10 : decode cX7_refundIn 10 = .ok (.ireturn, 1) := by decide +kernel
theorem dX7_refundIn_11 : decode cX7_refundIn 11 = .ok (.aload_n 0, 1) := by decide +kernel
theorem dX7_refundIn_12 : decode cX7_refundIn 12 = .ok (.getfield 7, 3) := by decide +kernel
theorem dX7_refundIn_15 : decode cX7_refundIn 15 = .ok (.aload_n 0, 1) := by decide +kernel
theorem dX7_refundIn_16 : decode cX7_refundIn 16 = .ok (.getfield 19, 3) := by decide +kernel
theorem dX7_refundIn_19 : decode cX7_refundIn 19 = .ok (.invokestatic 122, 3) := by decide +kernel
theorem dX7_refundIn_22 : decode cX7_refundIn 22 = .ok (.aload_n 0, 1) := by decide +kernel
theorem dX7_refundIn_23 : decode cX7_refundIn 23 = .ok (.iload_n 1, 1) := by decide +kernel
theorem dX7_refundIn_24 : decode cX7_refundIn 24 = .ok (.bipush 12, 2) := by decide +kernel
theorem dX7_refundIn_26 : decode cX7_refundIn 26 = .ok (.invokevirtual 43, 3) := by decide +kernel
theorem dX7_refundIn_29 : decode cX7_refundIn 29 = .ok (.istore_n 2, 1) := by decide +kernel
theorem dX7_refundIn_30 : decode cX7_refundIn 30 = .ok (.iconst 0, 1) := by decide +kernel
theorem dX7_refundIn_31 : decode cX7_refundIn 31 = .ok (.istore_n 3, 1) := by decide +kernel
theorem dX7_refundIn_32 : decode cX7_refundIn 32 = .ok (.iload_n 3, 1) := by decide +kernel
theorem dX7_refundIn_33 : decode cX7_refundIn 33 = .ok (.sipush 400, 3) := by decide +kernel
theorem dX7_refundIn_36 : decode cX7_refundIn 36 = .ok (.if_icmp .ge 32, 3) := by decide +kernel
theorem dX7_refundIn_39 : decode cX7_refundIn 39 = .ok (.aload_n 0, 1) := by decide +kernel
theorem dX7_refundIn_40 : decode cX7_refundIn 40 = .ok (.iload_n 1, 1) := by decide +kernel
theorem dX7_refundIn_41 : decode cX7_refundIn 41 = .ok (.bipush 12, 2) := by decide +kernel
theorem dX7_refundIn_43 : decode cX7_refundIn 43 = .ok (.invokevirtual 43, 3) := by decide +kernel
theorem dX7_refundIn_46 : decode cX7_refundIn 46 = .ok (.iload_n 2, 1) := by decide +kernel
theorem dX7_refundIn_47 : decode cX7_refundIn 47 = .ok (.if_icmp .ne 21, 3) := by decide +kernel
theorem dX7_refundIn_50 : decode cX7_refundIn 50 = .ok (.iload_n 3, 1) := by decide +kernel
theorem dX7_refundIn_51 : decode cX7_refundIn 51 = .ok (.aload_n 0, 1) := by decide +kernel
theorem dX7_refundIn_52 : decode cX7_refundIn 52 = .ok (.invokevirtual 109, 3) := by decide +kernel
theorem dX7_refundIn_55 : decode cX7_refundIn 55 = .ok (.ifCond .ge 7, 3) := by decide +kernel
theorem dX7_refundIn_58 : decode cX7_refundIn 58 = .ok (.iconst 0, 1) := by decide +kernel
theorem dX7_refundIn_59 : decode cX7_refundIn 59 = .ok (.goto 4, 3) := by decide +kernel
theorem dX7_refundIn_62 : decode cX7_refundIn 62 = .ok (.iconst 1, 1) := by decide +kernel
theorem dX7_refundIn_63 : decode cX7_refundIn 63 = .ok (.iadd, 1) := by decide +kernel
theorem dX7_refundIn_64 : decode cX7_refundIn 64 = .ok (.istore_n 3, 1) := by decide +kernel
theorem dX7_refundIn_65 : decode cX7_refundIn 65 = .ok (.goto (-33), 3) := by decide +kernel
theorem dX7_refundIn_68 : decode cX7_refundIn 68 = .ok (.aload_n 0, 1) := by decide +kernel
theorem dX7_refundIn_69 : decode cX7_refundIn 69 = .ok (.iload_n 1, 1) := by decide +kernel
theorem dX7_refundIn_70 : decode cX7_refundIn 70 = .ok (.bipush 12, 2) := by decide +kernel
theorem dX7_refundIn_72 : decode cX7_refundIn 72 = .ok (.invokevirtual 43, 3) := by decide +kernel
theorem dX7_refundIn_75 : decode cX7_refundIn 75 = .ok (.iload_n 2, 1) := by decide +kernel
theorem dX7_refundIn_76 : decode cX7_refundIn 76 = .ok (.if_icmp .ne 8, 3) := by decide +kernel
theorem dX7_refundIn_79 : decode cX7_refundIn 79 = .ok (.ldc 47, 2) := by decide +kernel
theorem dX7_refundIn_81 : decode cX7_refundIn 81 = .ok (.goto 4, 3) := by decide +kernel
theorem dX7_refundIn_84 : decode cX7_refundIn 84 = .ok (.iload_n 3, 1) := by decide +kernel
theorem dX7_refundIn_85 : decode cX7_refundIn 85 = .ok (.istore_n 3, 1) := by decide +kernel
theorem dX7_refundIn_86 : decode cX7_refundIn 86 = .ok (.aload_n 0, 1) := by decide +kernel
theorem dX7_refundIn_87 : decode cX7_refundIn 87 = .ok (.getfield 19, 3) := by decide +kernel
theorem dX7_refundIn_90 : decode cX7_refundIn 90 = .ok (.aload_n 0, 1) := by decide +kernel
theorem dX7_refundIn_91 : decode cX7_refundIn 91 = .ok (.getfield 7, 3) := by decide +kernel
theorem dX7_refundIn_94 : decode cX7_refundIn 94 = .ok (.invokestatic 122, 3) := by decide +kernel
theorem dX7_refundIn_97 : decode cX7_refundIn 97 = .ok (.iload_n 3, 1) := by decide +kernel
theorem dX7_refundIn_98 : decode cX7_refundIn 98 = .ok (.ireturn, 1) := by decide +kernel
set_option maxRecDepth 20000 in
theorem ggX7_ifDays_X7_in : GoodIn wsX7_ifDays wsX7_in := goodIn_r _ [7] (by decide +kernel) (by decide +kernel)
set_option maxRecDepth 20000 in
theorem gX7_ifDays_X7_in : GoodIn wsX7_ifDays (va_wsS RX7 39 yX7_in wsX7_in) := goodIn_app (goodIn_of _ (by decide +kernel)) ggX7_ifDays_X7_in
set_option maxRecDepth 20000 in
theorem ggX7_ifDays_X7_copies : GoodIn wsX7_ifDays wsX7_copies := goodIn_r _ [10] (by decide +kernel) (by decide +kernel)
set_option maxRecDepth 20000 in
theorem gX7_ifDays_X7_copies : GoodIn wsX7_ifDays (va_wsS RX7 122 yX7_copies wsX7_copies) := goodIn_app (goodIn_of _ (by decide +kernel)) ggX7_ifDays_X7_copies
set_option maxRecDepth 20000 in
theorem ggX7_ifDays_X7_pass : GoodIn wsX7_ifDays wsX7_pass := goodIn_r _ [14, 15, 16, 17, 6, 18, 2, 19, 20, 21, 22, 23, 24, 25, 26, 27, 28, 29, 30, 31, 32, 33, 34, 35, 36, 37, 38, 39, 40, 41, 42, 43, 44, 45, 46, 47, 48, 49, 50, 51, 52, 53, 54, 55, 56, 57, 58, 59, 60, 61, 62, 63, 64, 65, 66, 67, 68, 69, 70, 71, 72, 73, 74, 75, 76, 77, 78, 79, 80, 81, 82, 83, 84, 85, 86, 87, 88, 89, 90, 91, 92] (by decide +kernel) (by decide +kernel)
set_option maxRecDepth 20000 in
theorem gX7_ifDays_X7_pass : GoodIn wsX7_ifDays (wsV RX7 113 RX7 yX7_pass wsX7_pass) := goodIn_app (goodIn_of _ (by decide +kernel)) ggX7_ifDays_X7_pass
theorem dX7_ifDays_0 : decode cX7_ifDays 0 = .ok (.iload_n 1, 1) := by decide +kernel
theorem dX7_ifDays_1 : decode cX7_ifDays 1 = .ok (.iconst 1, 1) := by decide +kernel
theorem dX7_ifDays_2 : decode cX7_ifDays 2 = .ok (.bipush 99, 2) := by decide +kernel
theorem dX7_ifDays_4 : decode cX7_ifDays 4 = .ok (.invokestatic 39, 3) := by decide +kernel
theorem dX7_ifDays_7 : decode cX7_ifDays 7 = .ok (.ifCond .eq 12, 3) := by decide +kernel
theorem dX7_ifDays_10 : decode cX7_ifDays 10 = .ok (.iload_n 2, 1) := by decide +kernel
theorem dX7_ifDays_11 : decode cX7_ifDays 11 = .ok (.iconst 0, 1) := by decide +kernel
theorem dX7_ifDays_12 : decode cX7_ifDays 12 = .ok (.iconst 2, 1) := by decide +kernel
theorem dX7_ifDays_13 : decode cX7_ifDays 13 = .ok (.invokestatic 39, 3) := by decide +kernel
theorem dX7_ifDays_16 : decode cX7_ifDays 16 = .ok (.ifCond .ne 6, 3) := by decide +kernel
theorem dX7_ifDays_19 : decode cX7_ifDays 19 = .ok (.ldc 96, 2) := by decide +kernel
theorem dX7_ifDays_21 : decode cX7_ifDays 21 = .ok (.ireturn, 1) := by decide +kernel
theorem dX7_ifDays_22 : decode cX7_ifDays 22 = .ok (.aload_n 0, 1) := by decide +kernel
theorem dX7_ifDays_23 : decode cX7_ifDays 23 = .ok (.getfield 7, 3) := by decide +kernel
theorem dX7_ifDays_26 : decode cX7_ifDays 26 = .ok (.aload_n 0, 1) := by decide +kernel
theorem dX7_ifDays_27 : decode cX7_ifDays 27 = .ok (.getfield 19, 3) := by decide +kernel
theorem dX7_ifDays_30 : decode cX7_ifDays 30 = .ok (.invokestatic 122, 3) := by decide +kernel
theorem dX7_ifDays_33 : decode cX7_ifDays 33 = .ok (.aload_n 0, 1) := by decide +kernel
theorem dX7_ifDays_34 : decode cX7_ifDays 34 = .ok (.iload_n 1, 1) := by decide +kernel
theorem dX7_ifDays_35 : decode cX7_ifDays 35 = .ok (.invokevirtual 113, 3) := by decide +kernel
theorem dX7_ifDays_38 : decode cX7_ifDays 38 = .ok (.istore_n 3, 1) := by decide +kernel
theorem dX7_ifDays_39 : decode cX7_ifDays 39 = .ok (.aload_n 0, 1) := by decide +kernel
theorem dX7_ifDays_40 : decode cX7_ifDays 40 = .ok (.getfield 7, 3) := by decide +kernel
theorem dX7_ifDays_43 : decode cX7_ifDays 43 = .ok (.sipush 403, 3) := by decide +kernel
theorem dX7_ifDays_46 : decode cX7_ifDays 46 = .ok (.iaload, 1) := by decide +kernel
theorem dX7_ifDays_47 : decode cX7_ifDays 47 = .ok (.aload_n 0, 1) := by decide +kernel
theorem dX7_ifDays_48 : decode cX7_ifDays 48 = .ok (.getfield 19, 3) := by decide +kernel
theorem dX7_ifDays_51 : decode cX7_ifDays 51 = .ok (.sipush 403, 3) := by decide +kernel
theorem dX7_ifDays_54 : decode cX7_ifDays 54 = .ok (.iaload, 1) := by decide +kernel
theorem dX7_ifDays_55 : decode cX7_ifDays 55 = .ok (.isub, 1) := by decide +kernel
theorem dX7_ifDays_56 : decode cX7_ifDays 56 = .ok (.istore 4, 2) := by decide +kernel
theorem dX7_ifDays_58 : decode cX7_ifDays 58 = .ok (.aload_n 0, 1) := by decide +kernel
theorem dX7_ifDays_59 : decode cX7_ifDays 59 = .ok (.getfield 7, 3) := by decide +kernel
theorem dX7_ifDays_62 : decode cX7_ifDays 62 = .ok (.sipush 406, 3) := by decide +kernel
theorem dX7_ifDays_65 : decode cX7_ifDays 65 = .ok (.iaload, 1) := by decide +kernel
theorem dX7_ifDays_66 : decode cX7_ifDays 66 = .ok (.aload_n 0, 1) := by decide +kernel
theorem dX7_ifDays_67 : decode cX7_ifDays 67 = .ok (.getfield 19, 3) := by decide +kernel
theorem dX7_ifDays_70 : decode cX7_ifDays 70 = .ok (.sipush 406, 3) := by decide +kernel
theorem dX7_ifDays_73 : decode cX7_ifDays 73 = .ok (.iaload, 1) := by decide +kernel
theorem dX7_ifDays_74 : decode cX7_ifDays 74 = .ok (.isub, 1) := by decide +kernel
theorem dX7_ifDays_75 : decode cX7_ifDays 75 = .ok (.istore 5, 2) := by decide +kernel
theorem dX7_ifDays_77 : decode cX7_ifDays 77 = .ok (.aload_n 0, 1) := by decide +kernel
theorem dX7_ifDays_78 : decode cX7_ifDays 78 = .ok (.getfield 19, 3) := by decide +kernel
theorem dX7_ifDays_81 : decode cX7_ifDays 81 = .ok (.aload_n 0, 1) := by decide +kernel
theorem dX7_ifDays_82 : decode cX7_ifDays 82 = .ok (.getfield 7, 3) := by decide +kernel
theorem dX7_ifDays_85 : decode cX7_ifDays 85 = .ok (.invokestatic 122, 3) := by decide +kernel
theorem dX7_ifDays_88 : decode cX7_ifDays 88 = .ok (.iload_n 2, 1) := by decide +kernel
theorem dX7_ifDays_89 : decode cX7_ifDays 89 = .ok (.ifCond .ne 7, 3) := by decide +kernel
