theorem dX7_ifDays_92 : decode cX7_ifDays 92 = .ok (.iload_n 3, 1) := by decide +kernel
theorem dX7_ifDays_93 : decode cX7_ifDays 93 = .ok (.goto 15, 3) := by decide +kernel
theorem dX7_ifDays_96 : decode cX7_ifDays 96 = .ok (.iload_n 2, 1) := by decide +kernel
theorem dX7_ifDays_97 : decode cX7_ifDays 97 = .ok (.iconst 1, 1) := by decide +kernel
theorem dX7_ifDays_98 : decode cX7_ifDays 98 = .ok (.if_icmp .ne 8, 3) := by decide +kernel
theorem dX7_ifDays_101 : decode cX7_ifDays 101 = .ok (.iload 4, 2) := by decide +kernel
theorem dX7_ifDays_103 : decode cX7_ifDays 103 = .ok (.goto 5, 3) := by decide +kernel
theorem dX7_ifDays_106 : decode cX7_ifDays 106 = .ok (.iload 5, 2) := by decide +kernel
theorem dX7_ifDays_108 : decode cX7_ifDays 108 = .ok (.ireturn, 1) := by decide +kernel
set_option maxRecDepth 20000 in
theorem ggX7_mean_X7_of : GoodIn wsX7_mean wsX7_of := goodIn_r _ [7, 1, 20, 21, 22, 23, 24, 25, 26, 27, 28, 29, 30, 31, 32, 33, 34, 35] (by decide +kernel) (by decide +kernel)
set_option maxRecDepth 20000 in
theorem gX7_mean_X7_of : GoodIn wsX7_mean (wsV RX7 43 RX7 yX7_of wsX7_of) := goodIn_app (goodIn_of _ (by decide +kernel)) ggX7_mean_X7_of
set_option maxRecDepth 20000 in
theorem ggX7_mean_Jxf58ca_floatToIntBits_5c35a : GoodIn wsX7_mean wsJxf58ca_floatToIntBits_5c35a := goodIn_r _ [11, 12, 13, 14, 15, 16, 17, 18, 10, 19] (by decide +kernel) (by decide +kernel)
set_option maxRecDepth 20000 in
theorem gX7_mean_Jxf58ca_floatToIntBits_5c35a : GoodIn wsX7_mean (va_wsS RX7 126 yJxf58ca_floatToIntBits_5c35a wsJxf58ca_floatToIntBits_5c35a) := goodIn_app (goodIn_of _ (by decide +kernel)) ggX7_mean_Jxf58ca_floatToIntBits_5c35a
theorem dX7_mean_0 : decode cX7_mean 0 = .ok (.iconst 0, 1) := by decide +kernel
theorem dX7_mean_1 : decode cX7_mean 1 = .ok (.istore_n 1, 1) := by decide +kernel
theorem dX7_mean_2 : decode cX7_mean 2 = .ok (.iconst 0, 1) := by decide +kernel
theorem dX7_mean_3 : decode cX7_mean 3 = .ok (.istore_n 2, 1) := by decide +kernel
theorem dX7_mean_4 : decode cX7_mean 4 = .ok (.iload_n 2, 1) := by decide +kernel
theorem dX7_mean_5 : decode cX7_mean 5 = .ok (.aload_n 0, 1) := by decide +kernel
theorem dX7_mean_6 : decode cX7_mean 6 = .ok (.getfield 7, 3) := by decide +kernel
theorem dX7_mean_9 : decode cX7_mean 9 = .ok (.sipush 401, 3) := by decide +kernel
theorem dX7_mean_12 : decode cX7_mean 12 = .ok (.iaload, 1) := by decide +kernel
theorem dX7_mean_13 : decode cX7_mean 13 = .ok (.if_icmp .ge 29, 3) := by decide +kernel
theorem dX7_mean_16 : decode cX7_mean 16 = .ok (.aload_n 0, 1) := by decide +kernel
theorem dX7_mean_17 : decode cX7_mean 17 = .ok (.iload_n 2, 1) := by decide +kernel
theorem dX7_mean_18 : decode cX7_mean 18 = .ok (.iconst 4, 1) := by decide +kernel
theorem dX7_mean_19 : decode cX7_mean 19 = .ok (.invokevirtual 43, 3) := by decide +kernel
theorem dX7_mean_22 : decode cX7_mean 22 = .ok (.istore_n 3, 1) := by decide +kernel
theorem dX7_mean_23 : decode cX7_mean 23 = .ok (.iload_n 1, 1) := by decide +kernel
theorem dX7_mean_24 : decode cX7_mean 24 = .ok (.iload_n 3, 1) := by decide +kernel
theorem dX7_mean_25 : decode cX7_mean 25 = .ok (.ifCond .ge 8, 3) := by decide +kernel
theorem dX7_mean_28 : decode cX7_mean 28 = .ok (.iload_n 3, 1) := by decide +kernel
theorem dX7_mean_29 : decode cX7_mean 29 = .ok (.ineg, 1) := by decide +kernel
theorem dX7_mean_30 : decode cX7_mean 30 = .ok (.goto 4, 3) := by decide +kernel
theorem dX7_mean_33 : decode cX7_mean 33 = .ok (.iload_n 3, 1) := by decide +kernel
theorem dX7_mean_34 : decode cX7_mean 34 = .ok (.iadd, 1) := by decide +kernel
theorem dX7_mean_35 : decode cX7_mean 35 = .ok (.istore_n 1, 1) := by decide +kernel
theorem dX7_mean_36 : decode cX7_mean 36 = .ok (.iinc 2 1, 3) := by decide +kernel
theorem dX7_mean_39 : decode cX7_mean 39 = .ok (.goto (-35), 3) := by decide +kernel
theorem dX7_mean_42 : decode cX7_mean 42 = .ok (.iload_n 1, 1) := by decide +kernel
theorem dX7_mean_43 : decode cX7_mean 43 = .ok (.i2f, 1) := by decide +kernel
theorem dX7_mean_44 : decode cX7_mean 44 = .ok (.fstore_n 2, 1) := by decide +kernel
theorem dX7_mean_45 : decode cX7_mean 45 = .ok (.aload_n 0, 1) := by decide +kernel
theorem dX7_mean_46 : decode cX7_mean 46 = .ok (.getfield 7, 3) := by decide +kernel
theorem dX7_mean_49 : decode cX7_mean 49 = .ok (.sipush 401, 3) := by decide +kernel
theorem dX7_mean_52 : decode cX7_mean 52 = .ok (.iaload, 1) := by decide +kernel
theorem dX7_mean_53 : decode cX7_mean 53 = .ok (.i2f, 1) := by decide +kernel
theorem dX7_mean_54 : decode cX7_mean 54 = .ok (.fstore_n 3, 1) := by decide +kernel
theorem dX7_mean_55 : decode cX7_mean 55 = .ok (.aload_n 0, 1) := by decide +kernel
theorem dX7_mean_56 : decode cX7_mean 56 = .ok (.getfield 7, 3) := by decide +kernel
theorem dX7_mean_59 : decode cX7_mean 59 = .ok (.sipush 401, 3) := by decide +kernel
theorem dX7_mean_62 : decode cX7_mean 62 = .ok (.iaload, 1) := by decide +kernel
theorem dX7_mean_63 : decode cX7_mean 63 = .ok (.ifCond .ne 8, 3) := by decide +kernel
theorem dX7_mean_66 : decode cX7_mean 66 = .ok (.ldc 47, 2) := by decide +kernel
theorem dX7_mean_68 : decode cX7_mean 68 = .ok (.goto 9, 3) := by decide +kernel
theorem dX7_mean_71 : decode cX7_mean 71 = .ok (.fload_n 2, 1) := by decide +kernel
theorem dX7_mean_72 : decode cX7_mean 72 = .ok (.fload_n 3, 1) := by decide +kernel
theorem dX7_mean_73 : decode cX7_mean 73 = .ok (.fdiv, 1) := by decide +kernel
theorem dX7_mean_74 : decode cX7_mean 74 = .ok (.invokestatic 126, 3) := by decide +kernel
theorem dX7_mean_77 : decode cX7_mean 77 = .ok (.ireturn, 1) := by decide +kernel
set_option maxRecDepth 20000 in
theorem ggX7_locked_X7_of : GoodIn wsX7_locked wsX7_of := goodIn_r _ [6, 1, 7, 8, 9, 10, 11, 12, 13, 14, 15, 16, 17, 18, 19, 20, 21, 22] (by decide +kernel) (by decide +kernel)
set_option maxRecDepth 20000 in
theorem gX7_locked_X7_of : GoodIn wsX7_locked (wsV RX7 43 RX7 yX7_of wsX7_of) := goodIn_app (goodIn_of _ (by decide +kernel)) ggX7_locked_X7_of
theorem dX7_locked_0 : decode cX7_locked 0 = .ok (.iconst 0, 1) := by decide +kernel
theorem dX7_locked_1 : decode cX7_locked 1 = .ok (.istore_n 1, 1) := by decide +kernel
theorem dX7_locked_2 : decode cX7_locked 2 = .ok (.iconst 0, 1) := by decide +kernel
theorem dX7_locked_3 : decode cX7_locked 3 = .ok (.istore_n 2, 1) := by decide +kernel
theorem dX7_locked_4 : decode cX7_locked 4 = .ok (.iload_n 2, 1) := by decide +kernel
theorem dX7_locked_5 : decode cX7_locked 5 = .ok (.aload_n 0, 1) := by decide +kernel
theorem dX7_locked_6 : decode cX7_locked 6 = .ok (.getfield 7, 3) := by decide +kernel
theorem dX7_locked_9 : decode cX7_locked 9 = .ok (.sipush 401, 3) := by decide +kernel
theorem dX7_locked_12 : decode cX7_locked 12 = .ok (.iaload, 1) := by decide +kernel
theorem dX7_locked_13 : decode cX7_locked 13 = .ok (.if_icmp .ge 19, 3) := by decide +kernel
theorem dX7_locked_16 : decode cX7_locked 16 = .ok (.iload_n 1, 1) := by decide +kernel
theorem dX7_locked_17 : decode cX7_locked 17 = .ok (.aload_n 0, 1) := by decide +kernel
theorem dX7_locked_18 : decode cX7_locked 18 = .ok (.iload_n 2, 1) := by decide +kernel
theorem dX7_locked_19 : decode cX7_locked 19 = .ok (.bipush 6, 2) := by decide +kernel
theorem dX7_locked_21 : decode cX7_locked 21 = .ok (.invokevirtual 43, 3) := by decide +kernel
theorem dX7_locked_24 : decode cX7_locked 24 = .ok (.iadd, 1) := by decide +kernel
theorem dX7_locked_25 : decode cX7_locked 25 = .ok (.istore_n 1, 1) := by decide +kernel
theorem dX7_locked_26 : decode cX7_locked 26 = .ok (.iinc 2 1, 3) := by decide +kernel
theorem dX7_locked_29 : decode cX7_locked 29 = .ok (.goto (-25), 3) := by decide +kernel
theorem dX7_locked_32 : decode cX7_locked 32 = .ok (.iload_n 1, 1) := by decide +kernel
theorem dX7_locked_33 : decode cX7_locked 33 = .ok (.ireturn, 1) := by decide +kernel
set_option maxRecDepth 20000 in
theorem ggX7_signed_X7_of : GoodIn wsX7_signed wsX7_of := goodIn_r _ [6, 1, 7, 8, 9, 10, 11, 12, 13, 14, 15, 16, 17, 18, 19, 20, 21, 22] (by decide +kernel) (by decide +kernel)
set_option maxRecDepth 20000 in
theorem gX7_signed_X7_of : GoodIn wsX7_signed (wsV RX7 43 RX7 yX7_of wsX7_of) := goodIn_app (goodIn_of _ (by decide +kernel)) ggX7_signed_X7_of
theorem dX7_signed_0 : decode cX7_signed 0 = .ok (.iconst 0, 1) := by decide +kernel
theorem dX7_signed_1 : decode cX7_signed 1 = .ok (.istore_n 2, 1) := by decide +kernel
theorem dX7_signed_2 : decode cX7_signed 2 = .ok (.iconst 0, 1) := by decide +kernel
theorem dX7_signed_3 : decode cX7_signed 3 = .ok (.istore_n 3, 1) := by decide +kernel
theorem dX7_signed_4 : decode cX7_signed 4 = .ok (.iload_n 3, 1) := by decide +kernel
theorem dX7_signed_5 : decode cX7_signed 5 = .ok (.aload_n 0, 1) := by decide +kernel
theorem dX7_signed_6 : decode cX7_signed 6 = .ok (.getfield 7, 3) := by decide +kernel
theorem dX7_signed_9 : decode cX7_signed 9 = .ok (.sipush 401, 3) := by decide +kernel
theorem dX7_signed_12 : decode cX7_signed 12 = .ok (.iaload, 1) := by decide +kernel
theorem dX7_signed_13 : decode cX7_signed 13 = .ok (.if_icmp .ge 28, 3) := by decide +kernel
theorem dX7_signed_16 : decode cX7_signed 16 = .ok (.iload_n 2, 1) := by decide +kernel
theorem dX7_signed_17 : decode cX7_signed 17 = .ok (.iload_n 1, 1) := by decide +kernel
theorem dX7_signed_18 : decode cX7_signed 18 = .ok (.aload_n 0, 1) := by decide +kernel
theorem dX7_signed_19 : decode cX7_signed 19 = .ok (.iload_n 3, 1) := by decide +kernel
theorem dX7_signed_20 : decode cX7_signed 20 = .ok (.iconst 4, 1) := by decide +kernel
theorem dX7_signed_21 : decode cX7_signed 21 = .ok (.invokevirtual 43, 3) := by decide +kernel
theorem dX7_signed_24 : decode cX7_signed 24 = .ok (.imul, 1) := by decide +kernel
theorem dX7_signed_25 : decode cX7_signed 25 = .ok (.ifCond .le 7, 3) := by decide +kernel
theorem dX7_signed_28 : decode cX7_signed 28 = .ok (.iconst 1, 1) := by decide +kernel
theorem dX7_signed_29 : decode cX7_signed 29 = .ok (.goto 4, 3) := by decide +kernel
theorem dX7_signed_32 : decode cX7_signed 32 = .ok (.iconst 0, 1) := by decide +kernel
theorem dX7_signed_33 : decode cX7_signed 33 = .ok (.iadd, 1) := by decide +kernel
theorem dX7_signed_34 : decode cX7_signed 34 = .ok (.istore_n 2, 1) := by decide +kernel
theorem dX7_signed_35 : decode cX7_signed 35 = .ok (.iinc 3 1, 3) := by decide +kernel
theorem dX7_signed_38 : decode cX7_signed 38 = .ok (.goto (-34), 3) := by decide +kernel
theorem dX7_signed_41 : decode cX7_signed 41 = .ok (.iload_n 2, 1) := by decide +kernel
theorem dX7_signed_42 : decode cX7_signed 42 = .ok (.ireturn, 1) := by decide +kernel
set_option maxRecDepth 20000 in
theorem ggX7_balances_X7_of : GoodIn wsX7_balances wsX7_of := goodIn_r _ [6, 1, 7, 8, 9, 10, 11, 12, 13, 14, 15, 16, 17, 18, 19, 20, 21, 22] (by decide +kernel) (by decide +kernel)
set_option maxRecDepth 20000 in
theorem gX7_balances_X7_of : GoodIn wsX7_balances (wsV RX7 43 RX7 yX7_of wsX7_of) := goodIn_app (goodIn_of _ (by decide +kernel)) ggX7_balances_X7_of
theorem dX7_balances_0 : decode cX7_balances 0 = .ok (.sipush 10000, 3) := by decide +kernel
theorem dX7_balances_3 : decode cX7_balances 3 = .ok (.istore_n 1, 1) := by decide +kernel
theorem dX7_balances_4 : decode cX7_balances 4 = .ok (.iconst 0, 1) := by decide +kernel
theorem dX7_balances_5 : decode cX7_balances 5 = .ok (.istore_n 2, 1) := by decide +kernel
theorem dX7_balances_6 : decode cX7_balances 6 = .ok (.iload_n 2, 1) := by decide +kernel
theorem dX7_balances_7 : decode cX7_balances 7 = .ok (.aload_n 0, 1) := by decide +kernel
theorem dX7_balances_8 : decode cX7_balances 8 = .ok (.getfield 7, 3) := by decide +kernel
theorem dX7_balances_11 : decode cX7_balances 11 = .ok (.sipush 401, 3) := by decide +kernel
theorem dX7_balances_14 : decode cX7_balances 14 = .ok (.iaload, 1) := by decide +kernel
theorem dX7_balances_15 : decode cX7_balances 15 = .ok (.if_icmp .ge 18, 3) := by decide +kernel
theorem dX7_balances_18 : decode cX7_balances 18 = .ok (.iload_n 1, 1) := by decide +kernel
theorem dX7_balances_19 : decode cX7_balances 19 = .ok (.aload_n 0, 1) := by decide +kernel
theorem dX7_balances_20 : decode cX7_balances 20 = .ok (.iload_n 2, 1) := by decide +kernel
theorem dX7_balances_21 : decode cX7_balances 21 = .ok (.iconst 4, 1) := by decide +kernel
theorem dX7_balances_22 : decode cX7_balances 22 = .ok (.invokevirtual 43, 3) := by decide +kernel
theorem dX7_balances_25 : decode cX7_balances 25 = .ok (.iadd, 1) := by decide +kernel
theorem dX7_balances_26 : decode cX7_balances 26 = .ok (.istore_n 1, 1) := by decide +kernel
theorem dX7_balances_27 : decode cX7_balances 27 = .ok (.iinc 2 1, 3) := by decide +kernel
theorem dX7_balances_30 : decode cX7_balances 30 = .ok (.goto (-24), 3) := by decide +kernel
theorem dX7_balances_33 : decode cX7_balances 33 = .ok (.iload_n 1, 1) := by decide +kernel
theorem dX7_balances_34 : decode cX7_balances 34 = .ok (.ireturn, 1) := by decide +kernel
set_option maxRecDepth 20000 in
theorem ggX7_count_X7_locked : GoodIn wsX7_count wsX7_locked := goodIn_r _ [9, 1, 10, 11, 12, 8, 13, 22, 23, 24, 25, 26, 27, 28, 29, 30, 31, 32, 33, 34, 35, 36, 37] (by decide +kernel) (by decide +kernel)
set_option maxRecDepth 20000 in
theorem gX7_count_X7_locked : GoodIn wsX7_count (wsV RX7 132 RX7 yX7_locked wsX7_locked) := goodIn_app (goodIn_of _ (by decide +kernel)) ggX7_count_X7_locked
set_option maxRecDepth 20000 in
theorem ggX7_count_X7_signed : GoodIn wsX7_count wsX7_signed := goodIn_r _ [17, 1, 10, 11, 12, 8, 13, 22, 23, 24, 25, 26, 27, 28, 29, 30, 31, 32, 33, 34, 35, 36, 37] (by decide +kernel) (by decide +kernel)
set_option maxRecDepth 20000 in
theorem gX7_count_X7_signed : GoodIn wsX7_count (wsV RX7 135 RX7 yX7_signed wsX7_signed) := goodIn_app (goodIn_of _ (by decide +kernel)) ggX7_count_X7_signed
set_option maxRecDepth 20000 in
theorem ggX7_count_X7_balances : GoodIn wsX7_count wsX7_balances := goodIn_r _ [21, 1, 10, 11, 12, 8, 13, 22, 23, 24, 25, 26, 27, 28, 29, 30, 31, 32, 33, 34, 35, 36, 37] (by decide +kernel) (by decide +kernel)
set_option maxRecDepth 20000 in
theorem gX7_count_X7_balances : GoodIn wsX7_count (wsV RX7 138 RX7 yX7_balances wsX7_balances) := goodIn_app (goodIn_of _ (by decide +kernel)) ggX7_count_X7_balances
theorem dX7_count_0 : decode cX7_count 0 = .ok (.iload_n 1, 1) := by decide +kernel
theorem dX7_count_1 : decode cX7_count 1 = .ok (.tableswitch 232 0 23 #[111, 111, 122, 127, 127, 127, 127, 127, 127, 140, 146, 152, 157, 194, 194, 208, 213, 232, 232, 232, 218, 218, 218, 218], 111) := by decide +kernel
theorem dX7_count_112 : decode cX7_count 112 = .ok (.aload_n 0, 1) := by decide +kernel
theorem dX7_count_113 : decode cX7_count 113 = .ok (.getfield 7, 3) := by decide +kernel
theorem dX7_count_116 : decode cX7_count 116 = .ok (.sipush 400, 3) := by decide +kernel
theorem dX7_count_119 : decode cX7_count 119 = .ok (.iload_n 1, 1) := by decide +kernel
theorem dX7_count_120 : decode cX7_count 120 = .ok (.iadd, 1) := by decide +kernel
theorem dX7_count_121 : decode cX7_count 121 = .ok (.iaload, 1) := by decide +kernel
theorem dX7_count_122 : decode cX7_count 122 = .ok (.ireturn, 1) := by decide +kernel
theorem dX7_count_123 : decode cX7_count 123 = .ok (.aload_n 0, 1) := by decide +kernel
theorem dX7_count_124 : decode cX7_count 124 = .ok (.invokevirtual 132, 3) := by decide +kernel
theorem dX7_count_127 : decode cX7_count 127 = .ok (.ireturn, 1) := by decide +kernel
theorem dX7_count_128 : decode cX7_count 128 = .ok (.aload_n 0, 1) := by decide +kernel
theorem dX7_count_129 : decode cX7_count 129 = .ok (.getfield 7, 3) := by decide +kernel
theorem dX7_count_132 : decode cX7_count 132 = .ok (.sipush 402, 3) := by decide +kernel
theorem dX7_count_135 : decode cX7_count 135 = .ok (.iload_n 1, 1) := by decide +kernel
theorem dX7_count_136 : decode cX7_count 136 = .ok (.iadd, 1) := by decide +kernel
theorem dX7_count_137 : decode cX7_count 137 = .ok (.iconst 3, 1) := by decide +kernel
theorem dX7_count_138 : decode cX7_count 138 = .ok (.isub, 1) := by decide +kernel
theorem dX7_count_139 : decode cX7_count 139 = .ok (.iaload, 1) := by decide +kernel
theorem dX7_count_140 : decode cX7_count 140 = .ok (.ireturn, 1) := by decide +kernel
theorem dX7_count_141 : decode cX7_count 141 = .ok (.aload_n 0, 1) := by decide +kernel
theorem dX7_count_142 : decode cX7_count 142 = .ok (.iconst 1, 1) := by decide +kernel
theorem dX7_count_143 : decode cX7_count 143 = .ok (.invokevirtual 135, 3) := by decide +kernel
theorem dX7_count_146 : decode cX7_count 146 = .ok (.ireturn, 1) := by decide +kernel
theorem dX7_count_147 : decode cX7_count 147 = .ok (.aload_n 0, 1) := by decide +kernel
theorem dX7_count_148 : decode cX7_count 148 = .ok (.iconst (-1), 1) := by decide +kernel
theorem dX7_count_149 : decode cX7_count 149 = .ok (.invokevirtual 135, 3) := by decide +kernel
theorem dX7_count_152 : decode cX7_count 152 = .ok (.ireturn, 1) := by decide +kernel
theorem dX7_count_153 : decode cX7_count 153 = .ok (.aload_n 0, 1) := by decide +kernel
theorem dX7_count_154 : decode cX7_count 154 = .ok (.invokevirtual 138, 3) := by decide +kernel
theorem dX7_count_157 : decode cX7_count 157 = .ok (.ireturn, 1) := by decide +kernel
theorem dX7_count_158 : decode cX7_count 158 = .ok (.sipush 10000, 3) := by decide +kernel
theorem dX7_count_161 : decode cX7_count 161 = .ok (.bipush 100, 2) := by decide +kernel
theorem dX7_count_163 : decode cX7_count 163 = .ok (.aload_n 0, 1) := by decide +kernel
theorem dX7_count_164 : decode cX7_count 164 = .ok (.getfield 7, 3) := by decide +kernel
theorem dX7_count_167 : decode cX7_count 167 = .ok (.sipush 403, 3) := by decide +kernel
theorem dX7_count_170 : decode cX7_count 170 = .ok (.iaload, 1) := by decide +kernel
theorem dX7_count_171 : decode cX7_count 171 = .ok (.imul, 1) := by decide +kernel
theorem dX7_count_172 : decode cX7_count 172 = .ok (.iadd, 1) := by decide +kernel
theorem dX7_count_173 : decode cX7_count 173 = .ok (.aload_n 0, 1) := by decide +kernel
theorem dX7_count_174 : decode cX7_count 174 = .ok (.getfield 7, 3) := by decide +kernel
theorem dX7_count_177 : decode cX7_count 177 = .ok (.sipush 405, 3) := by decide +kernel
theorem dX7_count_180 : decode cX7_count 180 = .ok (.iaload, 1) := by decide +kernel
theorem dX7_count_181 : decode cX7_count 181 = .ok (.isub, 1) := by decide +kernel
theorem dX7_count_182 : decode cX7_count 182 = .ok (.bipush 100, 2) := by decide +kernel
theorem dX7_count_184 : decode cX7_count 184 = .ok (.aload_n 0, 1) := by decide +kernel
theorem dX7_count_185 : decode cX7_count 185 = .ok (.getfield 7, 3) := by decide +kernel
theorem dX7_count_188 : decode cX7_count 188 = .ok (.sipush 406, 3) := by decide +kernel
theorem dX7_count_191 : decode cX7_count 191 = .ok (.iaload, 1) := by decide +kernel
theorem dX7_count_192 : decode cX7_count 192 = .ok (.imul, 1) := by decide +kernel
theorem dX7_count_193 : decode cX7_count 193 = .ok (.isub, 1) := by decide +kernel
theorem dX7_count_194 : decode cX7_count 194 = .ok (.ireturn, 1) := by decide +kernel
theorem dX7_count_195 : decode cX7_count 195 = .ok (.aload_n 0, 1) := by decide +kernel
theorem dX7_count_196 : decode cX7_count 196 = .ok (.getfield 7, 3) := by decide +kernel
theorem dX7_count_199 : decode cX7_count 199 = .ok (.sipush 408, 3) := by decide +kernel
theorem dX7_count_202 : decode cX7_count 202 = .ok (.iload_n 1, 1) := by decide +kernel
theorem dX7_count_203 : decode cX7_count 203 = .ok (.iadd, 1) := by decide +kernel
theorem dX7_count_204 : decode cX7_count 204 = .ok (.bipush 13, 2) := by decide +kernel
theorem dX7_count_206 : decode cX7_count 206 = .ok (.isub, 1) := by decide +kernel
theorem dX7_count_207 : decode cX7_count 207 = .ok (.iaload, 1) := by decide +kernel
theorem dX7_count_208 : decode cX7_count 208 = .ok (.ireturn, 1) := by decide +kernel
theorem dX7_count_209 : decode cX7_count 209 = .ok (.aload_n 0, 1) := by decide +kernel
theorem dX7_count_210 : decode cX7_count 210 = .ok (.getfield 35, 3) := by decide +kernel
theorem dX7_count_213 : decode cX7_count 213 = .ok (.ireturn, 1) := by decide +kernel
theorem dX7_count_214 : decode cX7_count 214 = .ok (.aload_n 0, 1) := by decide +kernel
theorem dX7_count_215 : decode cX7_count 215 = .ok (.getfield 141, 3) := by decide +kernel
theorem dX7_count_218 : decode cX7_count 218 = .ok (.ireturn, 1) := by decide +kernel
theorem dX7_count_219 : decode cX7_count 219 = .ok (.aload_n 0, 1) := by decide +kernel
theorem dX7_count_220 : decode cX7_count 220 = .ok (.getfield 7, 3) := by decide +kernel
theorem dX7_count_223 : decode cX7_count 223 = .ok (.sipush 410, 3) := by decide +kernel
theorem dX7_count_226 : decode cX7_count 226 = .ok (.iload_n 1, 1) := by decide +kernel
theorem dX7_count_227 : decode cX7_count 227 = .ok (.iadd, 1) := by decide +kernel
theorem dX7_count_228 : decode cX7_count 228 = .ok (.bipush 20, 2) := by decide +kernel
theorem dX7_count_230 : decode cX7_count 230 = .ok (.isub, 1) := by decide +kernel
theorem dX7_count_231 : decode cX7_count 231 = .ok (.iaload, 1) := by decide +kernel
theorem dX7_count_232 : decode cX7_count 232 = .ok (.ireturn, 1) := by decide +kernel
theorem dX7_count_233 : decode cX7_count 233 = .ok (.ldc 96, 2) := by decide +kernel
theorem dX7_count_235 : decode cX7_count 235 = .ok (.ireturn, 1) := by decide +kernel
theorem dX7_undo_0 : decode cX7_undo 0 = .ok (.aload_n 0, 1) := by decide +kernel
theorem dX7_undo_1 : decode cX7_undo 1 = .ok (.getfield 35, 3) := by decide +kernel
theorem dX7_undo_4 : decode cX7_undo 4 = .ok (.ifCond .ne 6, 3) := by decide +kernel
theorem dX7_undo_7 : decode cX7_undo 7 = .ok (.ldc 100, 2) := by decide +kernel
theorem dX7_undo_9 : decode cX7_undo 9 = .ok (.ireturn, 1) := by decide +kernel
theorem dX7_undo_10 : decode cX7_undo 10 = .ok (.aload_n 0, 1) := by decide +kernel
theorem dX7_undo_11 : decode cX7_undo 11 = .ok (.dup, 1) := by decide +kernel
theorem dX7_undo_12 : decode cX7_undo 12 = .ok (.getfield 35, 3) := by decide +kernel
theorem dX7_undo_15 : decode cX7_undo 15 = .ok (.iconst 1, 1) := by decide +kernel
theorem dX7_undo_16 : decode cX7_undo 16 = .ok (.isub, 1) := by decide +kernel
theorem dX7_undo_17 : decode cX7_undo 17 = .ok (.putfield 35, 3) := by decide +kernel
theorem dX7_undo_20 : decode cX7_undo 20 = .ok (.iconst 0, 1) := by decide +kernel
theorem dX7_undo_21 : decode cX7_undo 21 = .ok (.istore_n 1, 1) := by decide +kernel
theorem dX7_undo_22 : decode cX7_undo 22 = .ok (.iload_n 1, 1) := by decide +kernel
theorem dX7_undo_23 : decode cX7_undo 23 = .ok (.sipush 414, 3) := by decide +kernel
theorem dX7_undo_26 : decode cX7_undo 26 = .ok (.if_icmp .ge 30, 3) := by decide +kernel
theorem dX7_undo_29 : decode cX7_undo 29 = .ok (.aload_n 0, 1) := by decide +kernel
theorem dX7_undo_30 : decode cX7_undo 30 = .ok (.getfield 7, 3) := by decide +kernel
theorem dX7_undo_33 : decode cX7_undo 33 = .ok (.iload_n 1, 1) := by decide +kernel
theorem dX7_undo_34 : decode cX7_undo 34 = .ok (.aload_n 0, 1) := by decide +kernel
theorem dX7_undo_35 : decode cX7_undo 35 = .ok (.getfield 13, 3) := by decide +kernel
theorem dX7_undo_38 : decode cX7_undo 38 = .ok (.sipush 414, 3) := by decide +kernel
theorem dX7_undo_41 : decode cX7_undo 41 = .ok (.aload_n 0, 1) := by decide +kernel
theorem dX7_undo_42 : decode cX7_undo 42 = .ok (.getfield 35, 3) := by decide +kernel
theorem dX7_undo_45 : decode cX7_undo 45 = .ok (.imul, 1) := by decide +kernel
theorem dX7_undo_46 : decode cX7_undo 46 = .ok (.iload_n 1, 1) := by decide +kernel
theorem dX7_undo_47 : decode cX7_undo 47 = .ok (.iadd, 1) := by decide +kernel
theorem dX7_undo_48 : decode cX7_undo 48 = .ok (.iaload, 1) := by decide +kernel
theorem dX7_undo_49 : decode cX7_undo 49 = .ok (.iastore, 1) := by decide +kernel
theorem dX7_undo_50 : decode cX7_undo 50 = .ok (.iinc 1 1, 3) := by decide +kernel
theorem dX7_undo_53 : decode cX7_undo 53 = .ok (.goto (-31), 3) := by decide +kernel
theorem dX7_undo_56 : decode cX7_undo 56 = .ok (.aload_n 0, 1) := by decide +kernel
theorem dX7_undo_57 : decode cX7_undo 57 = .ok (.getfield 35, 3) := by decide +kernel
theorem dX7_undo_60 : decode cX7_undo 60 = .ok (.ireturn, 1) := by decide +kernel
set_option maxRecDepth 20000 in
theorem ggX7_type_X7_in : GoodIn wsX7_type wsX7_in := goodIn_r _ [8] (by decide +kernel) (by decide +kernel)
set_option maxRecDepth 20000 in
theorem gX7_type_X7_in : GoodIn wsX7_type (va_wsS RX7 39 yX7_in wsX7_in) := goodIn_app (goodIn_of _ (by decide +kernel)) ggX7_type_X7_in
theorem dX7_type_0 : decode cX7_type 0 = .ok (.iload_n 1, 1) := by decide +kernel
theorem dX7_type_1 : decode cX7_type 1 = .ok (.bipush 32, 2) := by decide +kernel
theorem dX7_type_3 : decode cX7_type 3 = .ok (.bipush 126, 2) := by decide +kernel
theorem dX7_type_5 : decode cX7_type 5 = .ok (.invokestatic 39, 3) := by decide +kernel
theorem dX7_type_8 : decode cX7_type 8 = .ok (.ifCond .ne 6, 3) := by decide +kernel
theorem dX7_type_11 : decode cX7_type 11 = .ok (.ldc 96, 2) := by decide +kernel
theorem dX7_type_13 : decode cX7_type 13 = .ok (.ireturn, 1) := by decide +kernel
theorem dX7_type_14 : decode cX7_type 14 = .ok (.aload_n 0, 1) := by decide +kernel
theorem dX7_type_15 : decode cX7_type 15 = .ok (.getfield 141, 3) := by decide +kernel
theorem dX7_type_18 : decode cX7_type 18 = .ok (.bipush 60, 2) := by decide +kernel
theorem dX7_type_20 : decode cX7_type 20 = .ok (.if_icmp .ne 6, 3) := by decide +kernel
theorem dX7_type_23 : decode cX7_type 23 = .ok (.ldc 101, 2) := by decide +kernel
theorem dX7_type_25 : decode cX7_type 25 = .ok (.ireturn, 1) := by decide +kernel
theorem dX7_type_26 : decode cX7_type 26 = .ok (.aload_n 0, 1) := by decide +kernel
theorem dX7_type_27 : decode cX7_type 27 = .ok (.getfield 22, 3) := by decide +kernel
theorem dX7_type_30 : decode cX7_type 30 = .ok (.aload_n 0, 1) := by decide +kernel
theorem dX7_type_31 : decode cX7_type 31 = .ok (.getfield 141, 3) := by decide +kernel
theorem dX7_type_34 : decode cX7_type 34 = .ok (.iload_n 1, 1) := by decide +kernel
theorem dX7_type_35 : decode cX7_type 35 = .ok (.iastore, 1) := by decide +kernel
theorem dX7_type_36 : decode cX7_type 36 = .ok (.aload_n 0, 1) := by decide +kernel
theorem dX7_type_37 : decode cX7_type 37 = .ok (.dup, 1) := by decide +kernel
theorem dX7_type_38 : decode cX7_type 38 = .ok (.getfield 141, 3) := by decide +kernel
theorem dX7_type_41 : decode cX7_type 41 = .ok (.iconst 1, 1) := by decide +kernel
theorem dX7_type_42 : decode cX7_type 42 = .ok (.iadd, 1) := by decide +kernel
theorem dX7_type_43 : decode cX7_type 43 = .ok (.putfield 141, 3) := by decide +kernel
theorem dX7_type_46 : decode cX7_type 46 = .ok (.aload_n 0, 1) := by decide +kernel
theorem dX7_type_47 : decode cX7_type 47 = .ok (.getfield 141, 3) := by decide +kernel
theorem dX7_type_50 : decode cX7_type 50 = .ok (.ireturn, 1) := by decide +kernel
theorem dX7_clearText_0 : decode cX7_clearText 0 = .ok (.aload_n 0, 1) := by decide +kernel
theorem dX7_clearText_1 : decode cX7_clearText 1 = .ok (.getfield 141, 3) := by decide +kernel
theorem dX7_clearText_4 : decode cX7_clearText 4 = .ok (.istore_n 1, 1) := by decide +kernel
theorem dX7_clearText_5 : decode cX7_clearText 5 = .ok (.aload_n 0, 1) := by decide +kernel
theorem dX7_clearText_6 : decode cX7_clearText 6 = .ok (.iconst 0, 1) := by decide +kernel
theorem dX7_clearText_7 : decode cX7_clearText 7 = .ok (.putfield 141, 3) := by decide +kernel
theorem dX7_clearText_10 : decode cX7_clearText 10 = .ok (.iload_n 1, 1) := by decide +kernel
theorem dX7_clearText_11 : decode cX7_clearText 11 = .ok (.ireturn, 1) := by decide +kernel
set_option maxRecDepth 20000 in
theorem ggX7_isAt_X7_in : GoodIn wsX7_isAt wsX7_in := goodIn_r _ [7] (by decide +kernel) (by decide +kernel)
set_option maxRecDepth 20000 in
theorem gX7_isAt_X7_in : GoodIn wsX7_isAt (va_wsS RX7 39 yX7_in wsX7_in) := goodIn_app (goodIn_of _ (by decide +kernel)) ggX7_isAt_X7_in
theorem dX7_isAt_0 : decode cX7_isAt 0 = .ok (.aload_n 0, 1) := by decide +kernel
theorem dX7_isAt_1 : decode cX7_isAt 1 = .ok (.getfield 144, 3) := by decide +kernel
theorem dX7_isAt_4 : decode cX7_isAt 4 = .ok (.aload_n 0, 1) := by decide +kernel
theorem dX7_isAt_5 : decode cX7_isAt 5 = .ok (.getfield 141, 3) := by decide +kernel
theorem dX7_isAt_8 : decode cX7_isAt 8 = .ok (.if_icmp .ge 24, 3) := by decide +kernel
theorem dX7_isAt_11 : decode cX7_isAt 11 = .ok (.aload_n 0, 1) := by decide +kernel
theorem dX7_isAt_12 : decode cX7_isAt 12 = .ok (.getfield 22, 3) := by decide +kernel
theorem dX7_isAt_15 : decode cX7_isAt 15 = .ok (.aload_n 0, 1) := by decide +kernel
theorem dX7_isAt_16 : decode cX7_isAt 16 = .ok (.getfield 144, 3) := by decide +kernel
theorem dX7_isAt_19 : decode cX7_isAt 19 = .ok (.iaload, 1) := by decide +kernel
theorem dX7_isAt_20 : decode cX7_isAt 20 = .ok (.iload_n 1, 1) := by decide +kernel
theorem dX7_isAt_21 : decode cX7_isAt 21 = .ok (.iload_n 2, 1) := by decide +kernel
theorem dX7_isAt_22 : decode cX7_isAt 22 = .ok (.invokestatic 39, 3) := by decide +kernel
theorem dX7_isAt_25 : decode cX7_isAt 25 = .ok (.ifCond .eq 7, 3) := by decide +kernel
theorem dX7_isAt_28 : decode cX7_isAt 28 = .ok (.iconst 1, 1) := by decide +kernel
theorem dX7_isAt_29 : decode cX7_isAt 29 = .ok (.goto 4, 3) := by decide +kernel
theorem dX7_isAt_32 : decode cX7_isAt 32 = .ok (.iconst 0, 1) := by decide +kernel
theorem dX7_isAt_33 : decode cX7_isAt 33 = .ok (.ireturn, 1) := by decide +kernel
set_option maxRecDepth 20000 in
theorem ggX7_sign_X7_isAt : GoodIn wsX7_sign wsX7_isAt := goodIn_r _ [6, 1, 7, 8, 9, 10, 5, 11, 12, 13, 14, 15, 16, 17, 18, 19, 20, 21, 22, 23, 24, 25, 26, 27] (by decide +kernel) (by decide +kernel)
set_option maxRecDepth 20000 in
theorem gX7_sign_X7_isAt : GoodIn wsX7_sign (wsV RX7 147 RX7 yX7_isAt wsX7_isAt) := goodIn_app (goodIn_of _ (by decide +kernel)) ggX7_sign_X7_isAt
theorem dX7_sign_0 : decode cX7_sign 0 = .ok (.aload_n 0, 1) := by decide +kernel
theorem dX7_sign_1 : decode cX7_sign 1 = .ok (.iload_n 1, 1) := by decide +kernel
theorem dX7_sign_2 : decode cX7_sign 2 = .ok (.iload_n 1, 1) := by decide +kernel
theorem dX7_sign_3 : decode cX7_sign 3 = .ok (.invokevirtual 147, 3) := by decide +kernel
theorem dX7_sign_6 : decode cX7_sign 6 = .ok (.istore_n 2, 1) := by decide +kernel
theorem dX7_sign_7 : decode cX7_sign 7 = .ok (.aload_n 0, 1) := by decide +kernel
theorem dX7_sign_8 : decode cX7_sign 8 = .ok (.dup, 1) := by decide +kernel
theorem dX7_sign_9 : decode cX7_sign 9 = .ok (.getfield 144, 3) := by decide +kernel
theorem dX7_sign_12 : decode cX7_sign 12 = .ok (.iload_n 2, 1) := by decide +kernel
theorem dX7_sign_13 : decode cX7_sign 13 = .ok (.ifCond .eq 7, 3) := by decide +kernel
theorem dX7_sign_16 : decode cX7_sign 16 = .ok (.iconst 1, 1) := by decide +kernel
theorem dX7_sign_17 : decode cX7_sign 17 = .ok (.goto 4, 3) := by decide +kernel
theorem dX7_sign_20 : decode cX7_sign 20 = .ok (.iconst 0, 1) := by decide +kernel
theorem dX7_sign_21 : decode cX7_sign 21 = .ok (.iadd, 1) := by decide +kernel
theorem dX7_sign_22 : decode cX7_sign 22 = .ok (.putfield 144, 3) := by decide +kernel
theorem dX7_sign_25 : decode cX7_sign 25 = .ok (.iload_n 2, 1) := by decide +kernel
theorem dX7_sign_26 : decode cX7_sign 26 = .ok (.ireturn, 1) := by decide +kernel
set_option maxRecDepth 20000 in
theorem ggX7_numbered_X7_isAt : GoodIn wsX7_numbered wsX7_isAt := goodIn_r _ [8, 1, 9, 3, 10, 11, 7, 12, 13, 14, 15, 16, 17, 18, 19, 20, 21, 22, 23, 24, 25, 26, 27, 28] (by decide +kernel) (by decide +kernel)
set_option maxRecDepth 20000 in
theorem gX7_numbered_X7_isAt : GoodIn wsX7_numbered (wsV RX7 147 RX7 yX7_isAt wsX7_isAt) := goodIn_app (goodIn_of _ (by decide +kernel)) ggX7_numbered_X7_isAt
theorem dX7_numbered_0 : decode cX7_numbered 0 = .ok (.aload_n 0, 1) := by decide +kernel
theorem dX7_numbered_1 : decode cX7_numbered 1 = .ok (.getfield 144, 3) := by decide +kernel
theorem dX7_numbered_4 : decode cX7_numbered 4 = .ok (.istore_n 2, 1) := by decide +kernel
theorem dX7_numbered_5 : decode cX7_numbered 5 = .ok (.aload_n 0, 1) := by decide +kernel
theorem dX7_numbered_6 : decode cX7_numbered 6 = .ok (.getfield 28, 3) := by decide +kernel
theorem dX7_numbered_9 : decode cX7_numbered 9 = .ok (.iload_n 1, 1) := by decide +kernel
theorem dX7_numbered_10 : decode cX7_numbered 10 = .ok (.iconst 0, 1) := by decide +kernel
theorem dX7_numbered_11 : decode cX7_numbered 11 = .ok (.iastore, 1) := by decide +kernel
theorem dX7_numbered_12 : decode cX7_numbered 12 = .ok (.aload_n 0, 1) := by decide +kernel
theorem dX7_numbered_13 : decode cX7_numbered 13 = .ok (.bipush 48, 2) := by decide +kernel
theorem dX7_numbered_15 : decode cX7_numbered 15 = .ok (.bipush 57, 2) := by decide +kernel
theorem dX7_numbered_17 : decode cX7_numbered 17 = .ok (.invokevirtual 147, 3) := by decide +kernel
theorem dX7_numbered_20 : decode cX7_numbered 20 = .ok (.ifCond .eq 54, 3) := by decide +kernel
theorem dX7_numbered_23 : decode cX7_numbered 23 = .ok (.aload_n 0, 1) := by decide +kernel
theorem dX7_numbered_24 : decode cX7_numbered 24 = .ok (.getfield 144, 3) := by decide +kernel
theorem dX7_numbered_27 : decode cX7_numbered 27 = .ok (.iload_n 2, 1) := by decide +kernel
theorem dX7_numbered_28 : decode cX7_numbered 28 = .ok (.isub, 1) := by decide +kernel
theorem dX7_numbered_29 : decode cX7_numbered 29 = .ok (.iconst 3, 1) := by decide +kernel
theorem dX7_numbered_30 : decode cX7_numbered 30 = .ok (.if_icmp .ge 44, 3) := by decide +kernel
theorem dX7_numbered_33 : decode cX7_numbered 33 = .ok (.aload_n 0, 1) := by decide +kernel
theorem dX7_numbered_34 : decode cX7_numbered 34 = .ok (.getfield 28, 3) := by decide +kernel
theorem dX7_numbered_37 : decode cX7_numbered 37 = .ok (.iload_n 1, 1) := by decide +kernel
theorem dX7_numbered_38 : decode cX7_numbered 38 = .ok (.bipush 10, 2) := by decide +kernel
theorem dX7_numbered_40 : decode cX7_numbered 40 = .ok (.aload_n 0, 1) := by decide +kernel
theorem dX7_numbered_41 : decode cX7_numbered 41 = .ok (.getfield 28, 3) := by decide +kernel
theorem dX7_numbered_44 : decode cX7_numbered 44 = .ok (.iload_n 1, 1) := by decide +kernel
theorem dX7_numbered_45 : decode cX7_numbered 45 = .ok (.iaload, 1) := by decide +kernel
theorem dX7_numbered_46 : decode cX7_numbered 46 = .ok (.imul, 1) := by decide +kernel
theorem dX7_numbered_47 : decode cX7_numbered 47 = .ok (.aload_n 0, 1) := by decide +kernel
theorem dX7_numbered_48 : decode cX7_numbered 48 = .ok (.getfield 22, 3) := by decide +kernel
theorem dX7_numbered_51 : decode cX7_numbered 51 = .ok (.aload_n 0, 1) := by decide +kernel
theorem dX7_numbered_52 : decode cX7_numbered 52 = .ok (.getfield 144, 3) := by decide +kernel
theorem dX7_numbered_55 : decode cX7_numbered 55 = .ok (.iaload, 1) := by decide +kernel
theorem dX7_numbered_56 : decode cX7_numbered 56 = .ok (.iadd, 1) := by decide +kernel
theorem dX7_numbered_57 : decode cX7_numbered 57 = .ok (.bipush 48, 2) := by decide +kernel
theorem dX7_numbered_59 : decode cX7_numbered 59 = .ok (.isub, 1) := by decide +kernel
theorem dX7_numbered_60 : decode cX7_numbered 60 = .ok (.iastore, 1) := by decide +kernel
theorem dX7_numbered_61 : decode cX7_numbered 61 = .ok (.aload_n 0, 1) := by decide +kernel
theorem dX7_numbered_62 : decode cX7_numbered 62 = .ok (.dup, 1) := by decide +kernel
theorem dX7_numbered_63 : decode cX7_numbered 63 = .ok (.getfield 144, 3) := by decide +kernel
theorem dX7_numbered_66 : decode cX7_numbered 66 = .ok (.iconst 1, 1) := by decide +kernel
theorem dX7_numbered_67 : decode cX7_numbered 67 = .ok (.iadd, 1) := by decide +kernel
theorem dX7_numbered_68 : decode cX7_numbered 68 = .ok (.putfield 144, 3) := by decide +kernel
theorem dX7_numbered_71 : decode cX7_numbered 71 = .ok (.goto (-59), 3) := by decide +kernel
theorem dX7_numbered_74 : decode cX7_numbered 74 = .ok (.aload_n 0, 1) := by decide +kernel
theorem dX7_numbered_75 : decode cX7_numbered 75 = .ok (.getfield 144, 3) := by decide +kernel
theorem dX7_numbered_78 : decode cX7_numbered 78 = .ok (.iload_n 2, 1) := by decide +kernel
theorem dX7_numbered_79 : decode cX7_numbered 79 = .ok (.if_icmp .le 7, 3) := by decide +kernel
theorem dX7_numbered_82 : decode cX7_numbered 82 = .ok (.iconst 1, 1) := by decide +kernel
theorem dX7_numbered_83 : decode cX7_numbered 83 = .ok (.goto 4, 3) := by decide +kernel
theorem dX7_numbered_86 : decode cX7_numbered 86 = .ok (.iconst 0, 1) := by decide +kernel
theorem dX7_numbered_87 : decode cX7_numbered 87 = .ok (.ireturn, 1) := by decide +kernel
theorem dX7_numbersOf_0 : decode cX7_numbersOf 0 = .ok (.iload_n 0, 1) := by decide +kernel
theorem dX7_numbersOf_1 : decode cX7_numbersOf 1 = .ok (.tableswitch 83 99 114 #[81, 81, 83, 79, 83, 79, 83, 83, 83, 81, 83, 83, 83, 83, 83, 81], 79) := by decide +kernel
theorem dX7_numbersOf_80 : decode cX7_numbersOf 80 = .ok (.iconst 2, 1) := by decide +kernel
theorem dX7_numbersOf_81 : decode cX7_numbersOf 81 = .ok (.ireturn, 1) := by decide +kernel
theorem dX7_numbersOf_82 : decode cX7_numbersOf 82 = .ok (.iconst 1, 1) := by decide +kernel
theorem dX7_numbersOf_83 : decode cX7_numbersOf 83 = .ok (.ireturn, 1) := by decide +kernel
theorem dX7_numbersOf_84 : decode cX7_numbersOf 84 = .ok (.iconst 0, 1) := by decide +kernel
theorem dX7_numbersOf_85 : decode cX7_numbersOf 85 = .ok (.ireturn, 1) := by decide +kernel
set_option maxRecDepth 20000 in
theorem ggX7_parses_X7_isAt : GoodIn wsX7_parses wsX7_isAt := goodIn_r _ [8, 2, 9, 1, 10, 11, 7, 12, 25, 26, 27, 28, 29, 30, 31, 32, 33, 34, 35, 36, 37, 38, 39, 40] (by decide +kernel) (by decide +kernel)
set_option maxRecDepth 20000 in
theorem gX7_parses_X7_isAt : GoodIn wsX7_parses (wsV RX7 147 RX7 yX7_isAt wsX7_isAt) := goodIn_app (goodIn_of _ (by decide +kernel)) ggX7_parses_X7_isAt
set_option maxRecDepth 20000 in
theorem ggX7_parses_X7_numbersOf : GoodIn wsX7_parses wsX7_numbersOf := goodIn_r _ [15] (by decide +kernel) (by decide +kernel)
set_option maxRecDepth 20000 in
theorem gX7_parses_X7_numbersOf : GoodIn wsX7_parses (va_wsS RX7 153 yX7_numbersOf wsX7_numbersOf) := goodIn_app (goodIn_of _ (by decide +kernel)) ggX7_parses_X7_numbersOf
set_option maxRecDepth 20000 in
theorem ggX7_parses_X7_numbered : GoodIn wsX7_parses wsX7_numbered := goodIn_r _ [19, 2, 20, 1, 4, 5, 6, 7, 8, 9, 10, 11, 12, 25, 26, 27, 28, 29, 30, 31, 32, 33, 34, 35, 36, 37, 38, 39, 40] (by decide +kernel) (by decide +kernel)
set_option maxRecDepth 20000 in
theorem gX7_parses_X7_numbered : GoodIn wsX7_parses (wsV RX7 156 RX7 yX7_numbered wsX7_numbered) := goodIn_app (goodIn_of _ (by decide +kernel)) ggX7_parses_X7_numbered
set_option maxRecDepth 20000 in
theorem ggX7_parses_X7_sign : GoodIn wsX7_parses wsX7_sign := goodIn_r _ [24, 2, 4, 5, 6, 7, 8, 9, 1, 10, 11, 12, 25, 26, 27, 28, 29, 30, 31, 32, 33, 34, 35, 36, 37, 38, 39, 40] (by decide +kernel) (by decide +kernel)
set_option maxRecDepth 20000 in
theorem gX7_parses_X7_sign : GoodIn wsX7_parses (wsV RX7 159 RX7 yX7_sign wsX7_sign) := goodIn_app (goodIn_of _ (by decide +kernel)) ggX7_parses_X7_sign
theorem dX7_parses_0 : decode cX7_parses 0 = .ok (.aload_n 0, 1) := by decide +kernel
theorem dX7_parses_1 : decode cX7_parses 1 = .ok (.aload_n 0, 1) := by decide +kernel
theorem dX7_parses_2 : decode cX7_parses 2 = .ok (.bipush 33, 2) := by decide +kernel
theorem dX7_parses_4 : decode cX7_parses 4 = .ok (.bipush 126, 2) := by decide +kernel
theorem dX7_parses_6 : decode cX7_parses 6 = .ok (.invokevirtual 147, 3) := by decide +kernel
theorem dX7_parses_9 : decode cX7_parses 9 = .ok (.ifCond .eq 15, 3) := by decide +kernel
theorem dX7_parses_12 : decode cX7_parses 12 = .ok (.aload_n 0, 1) := by decide +kernel
theorem dX7_parses_13 : decode cX7_parses 13 = .ok (.getfield 22, 3) := by decide +kernel
theorem dX7_parses_16 : decode cX7_parses 16 = .ok (.aload_n 0, 1) := by decide +kernel
theorem dX7_parses_17 : decode cX7_parses 17 = .ok (.getfield 144, 3) := by decide +kernel
theorem dX7_parses_20 : decode cX7_parses 20 = .ok (.iaload, 1) := by decide +kernel
theorem dX7_parses_21 : decode cX7_parses 21 = .ok (.goto 4, 3) := by decide +kernel
theorem dX7_parses_24 : decode cX7_parses 24 = .ok (.iconst 0, 1) := by decide +kernel
theorem dX7_parses_25 : decode cX7_parses 25 = .ok (.putfield 150, 3) := by decide +kernel
theorem dX7_parses_28 : decode cX7_parses 28 = .ok (.aload_n 0, 1) := by decide +kernel
theorem dX7_parses_29 : decode cX7_parses 29 = .ok (.getfield 150, 3) := by decide +kernel
theorem dX7_parses_32 : decode cX7_parses 32 = .ok (.invokestatic 153, 3) := by decide +kernel
theorem dX7_parses_35 : decode cX7_parses 35 = .ok (.istore_n 1, 1) := by decide +kernel
theorem dX7_parses_36 : decode cX7_parses 36 = .ok (.iload_n 1, 1) := by decide +kernel
theorem dX7_parses_37 : decode cX7_parses 37 = .ok (.ifCond .ne 5, 3) := by decide +kernel
theorem dX7_parses_40 : decode cX7_parses 40 = .ok (.iconst 0, 1) := by decide +kernel
theorem dX7_parses_41 : decode cX7_parses 41 = .ok (.ireturn, 1) := by decide +kernel
theorem dX7_parses_42 : decode cX7_parses 42 = .ok (.aload_n 0, 1) := by decide +kernel
theorem dX7_parses_43 : decode cX7_parses 43 = .ok (.dup, 1) := by decide +kernel
theorem dX7_parses_44 : decode cX7_parses 44 = .ok (.getfield 144, 3) := by decide +kernel
theorem dX7_parses_47 : decode cX7_parses 47 = .ok (.iconst 1, 1) := by decide +kernel
theorem dX7_parses_48 : decode cX7_parses 48 = .ok (.iadd, 1) := by decide +kernel
theorem dX7_parses_49 : decode cX7_parses 49 = .ok (.putfield 144, 3) := by decide +kernel
theorem dX7_parses_52 : decode cX7_parses 52 = .ok (.aload_n 0, 1) := by decide +kernel
theorem dX7_parses_53 : decode cX7_parses 53 = .ok (.iconst 0, 1) := by decide +kernel
theorem dX7_parses_54 : decode cX7_parses 54 = .ok (.invokevirtual 156, 3) := by decide +kernel
theorem dX7_parses_57 : decode cX7_parses 57 = .ok (.ifCond .eq 38, 3) := by decide +kernel
theorem dX7_parses_60 : decode cX7_parses 60 = .ok (.iload_n 1, 1) := by decide +kernel
theorem dX7_parses_61 : decode cX7_parses 61 = .ok (.iconst 1, 1) := by decide +kernel
theorem dX7_parses_62 : decode cX7_parses 62 = .ok (.if_icmp .eq 20, 3) := by decide +kernel
theorem dX7_parses_65 : decode cX7_parses 65 = .ok (.aload_n 0, 1) := by decide +kernel
theorem dX7_parses_66 : decode cX7_parses 66 = .ok (.bipush 44, 2) := by decide +kernel
theorem dX7_parses_68 : decode cX7_parses 68 = .ok (.invokevirtual 159, 3) := by decide +kernel
theorem dX7_parses_71 : decode cX7_parses 71 = .ok (.ifCond .eq 24, 3) := by decide +kernel
theorem dX7_parses_74 : decode cX7_parses 74 = .ok (.aload_n 0, 1) := by decide +kernel
theorem dX7_parses_75 : decode cX7_parses 75 = .ok (.iconst 1, 1) := by decide +kernel
theorem dX7_parses_76 : decode cX7_parses 76 = .ok (.invokevirtual 156, 3) := by decide +kernel
theorem dX7_parses_79 : decode cX7_parses 79 = .ok (.ifCond .eq 16, 3) := by decide +kernel
theorem dX7_parses_82 : decode cX7_parses 82 = .ok (.aload_n 0, 1) := by decide +kernel
theorem dX7_parses_83 : decode cX7_parses 83 = .ok (.bipush 59, 2) := by decide +kernel
theorem dX7_parses_85 : decode cX7_parses 85 = .ok (.invokevirtual 159, 3) := by decide +kernel
theorem dX7_parses_88 : decode cX7_parses 88 = .ok (.ifCond .eq 7, 3) := by decide +kernel
theorem dX7_parses_91 : decode cX7_parses 91 = .ok (.iconst 1, 1) := by decide +kernel
theorem dX7_parses_92 : decode cX7_parses 92 = .ok (.goto 4, 3) := by decide +kernel
theorem dX7_parses_95 : decode cX7_parses 95 = .ok (.iconst 0, 1) := by decide +kernel
theorem dX7_parses_96 : decode cX7_parses 96 = .ok (.ireturn, 1) := by decide +kernel
set_option maxRecDepth 20000 in
theorem ggX7_does_X7_house : GoodIn wsX7_does wsX7_house := goodIn_r _ [7, 8, 9, 10, 11, 12, 13, 6, 14, 15, 16, 17, 18, 19, 20, 21, 22, 23, 24, 25, 26, 27, 28, 29, 30, 31, 32, 33, 34, 35, 36, 37, 120, 121, 122, 123, 124, 125, 126, 127, 128, 129, 130, 131, 132, 133, 134, 135] (by decide +kernel) (by decide +kernel)
set_option maxRecDepth 20000 in
theorem gX7_does_X7_house : GoodIn wsX7_does (wsV RX7 162 RX7 yX7_house wsX7_house) := goodIn_app (goodIn_of _ (by decide +kernel)) ggX7_does_X7_house
set_option maxRecDepth 20000 in
theorem ggX7_does_X7_flow : GoodIn wsX7_does wsX7_flow := goodIn_r _ [41, 8, 42, 43, 44, 6, 45, 10, 15, 16, 17, 27, 28, 29, 30, 31, 32, 33, 23, 24, 25, 26, 34, 35, 36, 37, 120, 121, 122, 123, 124, 125, 126, 127, 128, 129, 130, 131, 132, 133, 134, 135] (by decide +kernel) (by decide +kernel)
set_option maxRecDepth 20000 in
theorem gX7_does_X7_flow : GoodIn wsX7_does (wsV RX7 165 RX7 yX7_flow wsX7_flow) := goodIn_app (goodIn_of _ (by decide +kernel)) ggX7_does_X7_flow
set_option maxRecDepth 20000 in
theorem ggX7_does_X7_isHouse : GoodIn wsX7_does wsX7_isHouse := goodIn_r _ [45, 10, 15, 16, 6, 17, 120, 121, 122, 123, 124, 125, 126, 127, 128, 129, 130, 131, 132, 133, 134, 135] (by decide +kernel) (by decide +kernel)
set_option maxRecDepth 20000 in
theorem gX7_does_X7_isHouse : GoodIn wsX7_does (wsV RX7 105 RX7 yX7_isHouse wsX7_isHouse) := goodIn_app (goodIn_of _ (by decide +kernel)) ggX7_does_X7_isHouse
set_option maxRecDepth 20000 in
theorem ggX7_does_X7_of : GoodIn wsX7_does wsX7_of := goodIn_r _ [26, 10, 120, 121, 122, 123, 124, 125, 126, 127, 128, 129, 130, 131, 132, 133, 134, 135] (by decide +kernel) (by decide +kernel)
set_option maxRecDepth 20000 in
theorem gX7_does_X7_of : GoodIn wsX7_does (wsV RX7 43 RX7 yX7_of wsX7_of) := goodIn_app (goodIn_of _ (by decide +kernel)) ggX7_does_X7_of
set_option maxRecDepth 20000 in
theorem ggX7_does_X7_lock : GoodIn wsX7_does wsX7_lock := goodIn_r _ [49, 8, 42, 43, 44, 6, 45, 10, 15, 16, 17, 27, 28, 29, 30, 31, 32, 33, 23, 24, 25, 26, 34, 35, 36, 37, 120, 121, 122, 123, 124, 125, 126, 127, 128, 129, 130, 131, 132, 133, 134, 135] (by decide +kernel) (by decide +kernel)
set_option maxRecDepth 20000 in
theorem gX7_does_X7_lock : GoodIn wsX7_does (wsV RX7 168 RX7 yX7_lock wsX7_lock) := goodIn_app (goodIn_of _ (by decide +kernel)) ggX7_does_X7_lock
set_option maxRecDepth 20000 in
theorem ggX7_does_X7_read : GoodIn wsX7_does wsX7_read := goodIn_r _ [53, 8, 9, 42, 43, 44, 6, 45, 10, 15, 16, 17, 54, 55, 56, 57, 23, 24, 25, 26, 27, 28, 29, 30, 31, 32, 33, 58, 59, 60, 61, 62, 63, 64, 65, 66, 67, 68, 69, 70, 71, 72, 73, 74, 34, 35, 36, 37, 75, 76, 77, 78, 79, 80, 81, 82, 120, 121, 122, 123, 124, 125, 126, 127, 128, 129, 130, 131, 132, 133, 134, 135] (by decide +kernel) (by decide +kernel)
set_option maxRecDepth 20000 in
theorem gX7_does_X7_read : GoodIn wsX7_does (wsV RX7 172 RX7 yX7_read wsX7_read) := goodIn_app (goodIn_of _ (by decide +kernel)) ggX7_does_X7_read
set_option maxRecDepth 20000 in
theorem ggX7_does_X7_change : GoodIn wsX7_does wsX7_change := goodIn_r _ [86, 8, 42, 43, 44, 6, 45, 10, 15, 16, 17, 27, 28, 29, 30, 31, 32, 33, 58, 59, 60, 61, 62, 63, 64, 65, 66, 23, 24, 25, 26, 67, 68, 69, 70, 71, 72, 73, 74, 34, 35, 36, 37, 75, 76, 77, 78, 79, 80, 81, 82, 120, 121, 122, 123, 124, 125, 126, 127, 128, 129, 130, 131, 132, 133, 134, 135] (by decide +kernel) (by decide +kernel)
set_option maxRecDepth 20000 in
theorem gX7_does_X7_change : GoodIn wsX7_does (wsV RX7 175 RX7 yX7_change wsX7_change) := goodIn_app (goodIn_of _ (by decide +kernel)) ggX7_does_X7_change
set_option maxRecDepth 20000 in
theorem ggX7_does_X7_days : GoodIn wsX7_does wsX7_days := goodIn_r _ [90, 8, 10, 11, 15, 16, 6, 17, 27, 28, 29, 30, 31, 32, 33, 91, 92, 93, 94, 95, 96, 97, 98, 66, 23, 24, 25, 26, 34, 35, 36, 37, 99, 100, 101, 102, 103, 104, 105, 106, 107, 108, 109, 110, 111, 112, 113, 114, 115, 54, 55, 56, 57, 58, 59, 60, 61, 62, 63, 64, 65, 67, 68, 69, 70, 71, 72, 73, 74, 75, 76, 77, 78, 79, 80, 81, 82, 116, 117, 118, 119, 120, 121, 122, 123, 124, 125, 126, 127, 128, 129, 130, 131, 132, 133, 134, 135] (by decide +kernel) (by decide +kernel)
set_option maxRecDepth 20000 in
theorem gX7_does_X7_days : GoodIn wsX7_does (wsV RX7 178 RX7 yX7_days wsX7_days) := goodIn_app (goodIn_of _ (by decide +kernel)) ggX7_does_X7_days
theorem dX7_does_0 : decode cX7_does 0 = .ok (.aload_n 0, 1) := by decide +kernel
theorem dX7_does_1 : decode cX7_does 1 = .ok (.getfield 150, 3) := by decide +kernel
theorem dX7_does_4 : decode cX7_does 4 = .ok (.lookupswitch 152 #[(99, 141), (102, 69), (104, 52), (108, 86), (114, 130)], 52) := by decide +kernel
theorem dX7_does_56 : decode cX7_does 56 = .ok (.aload_n 0, 1) := by decide +kernel
theorem dX7_does_57 : decode cX7_does 57 = .ok (.aload_n 0, 1) := by decide +kernel
theorem dX7_does_58 : decode cX7_does 58 = .ok (.getfield 28, 3) := by decide +kernel
theorem dX7_does_61 : decode cX7_does 61 = .ok (.iconst 0, 1) := by decide +kernel
theorem dX7_does_62 : decode cX7_does 62 = .ok (.iaload, 1) := by decide +kernel
theorem dX7_does_63 : decode cX7_does 63 = .ok (.aload_n 0, 1) := by decide +kernel
theorem dX7_does_64 : decode cX7_does 64 = .ok (.getfield 28, 3) := by decide +kernel
theorem dX7_does_67 : decode cX7_does 67 = .ok (.iconst 1, 1) := by decide +kernel
theorem dX7_does_68 : decode cX7_does 68 = .ok (.iaload, 1) := by decide +kernel
theorem dX7_does_69 : decode cX7_does 69 = .ok (.invokevirtual 162, 3) := by decide +kernel
theorem dX7_does_72 : decode cX7_does 72 = .ok (.ireturn, 1) := by decide +kernel
theorem dX7_does_73 : decode cX7_does 73 = .ok (.aload_n 0, 1) := by decide +kernel
theorem dX7_does_74 : decode cX7_does 74 = .ok (.aload_n 0, 1) := by decide +kernel
theorem dX7_does_75 : decode cX7_does 75 = .ok (.getfield 28, 3) := by decide +kernel
theorem dX7_does_78 : decode cX7_does 78 = .ok (.iconst 0, 1) := by decide +kernel
theorem dX7_does_79 : decode cX7_does 79 = .ok (.iaload, 1) := by decide +kernel
theorem dX7_does_80 : decode cX7_does 80 = .ok (.aload_n 0, 1) := by decide +kernel
theorem dX7_does_81 : decode cX7_does 81 = .ok (.getfield 28, 3) := by decide +kernel
theorem dX7_does_84 : decode cX7_does 84 = .ok (.iconst 1, 1) := by decide +kernel
theorem dX7_does_85 : decode cX7_does 85 = .ok (.iaload, 1) := by decide +kernel
theorem dX7_does_86 : decode cX7_does 86 = .ok (.invokevirtual 165, 3) := by decide +kernel
theorem dX7_does_89 : decode cX7_does 89 = .ok (.ireturn, 1) := by decide +kernel
theorem dX7_does_90 : decode cX7_does 90 = .ok (.aload_n 0, 1) := by decide +kernel
theorem dX7_does_91 : decode cX7_does 91 = .ok (.aload_n 0, 1) := by decide +kernel
theorem dX7_does_92 : decode cX7_does 92 = .ok (.getfield 28, 3) := by decide +kernel
theorem dX7_does_95 : decode cX7_does 95 = .ok (.iconst 0, 1) := by decide +kernel
theorem dX7_does_96 : decode cX7_does 96 = .ok (.iaload, 1) := by decide +kernel
theorem dX7_does_97 : decode cX7_does 97 = .ok (.aload_n 0, 1) := by decide +kernel
theorem dX7_does_98 : decode cX7_does 98 = .ok (.aload_n 0, 1) := by decide +kernel
theorem dX7_does_99 : decode cX7_does 99 = .ok (.getfield 28, 3) := by decide +kernel
theorem dX7_does_102 : decode cX7_does 102 = .ok (.iconst 0, 1) := by decide +kernel
theorem dX7_does_103 : decode cX7_does 103 = .ok (.iaload, 1) := by decide +kernel
theorem dX7_does_104 : decode cX7_does 104 = .ok (.invokevirtual 105, 3) := by decide +kernel
theorem dX7_does_107 : decode cX7_does 107 = .ok (.ifCond .eq 22, 3) := by decide +kernel
theorem dX7_does_110 : decode cX7_does 110 = .ok (.aload_n 0, 1) := by decide +kernel
theorem dX7_does_111 : decode cX7_does 111 = .ok (.aload_n 0, 1) := by decide +kernel
theorem dX7_does_112 : decode cX7_does 112 = .ok (.getfield 28, 3) := by decide +kernel
theorem dX7_does_115 : decode cX7_does 115 = .ok (.iconst 0, 1) := by decide +kernel
theorem dX7_does_116 : decode cX7_does 116 = .ok (.iaload, 1) := by decide +kernel
theorem dX7_does_117 : decode cX7_does 117 = .ok (.bipush 6, 2) := by decide +kernel
theorem dX7_does_119 : decode cX7_does 119 = .ok (.invokevirtual 43, 3) := by decide +kernel
theorem dX7_does_122 : decode cX7_does 122 = .ok (.ifCond .ne 7, 3) := by decide +kernel
theorem dX7_does_125 : decode cX7_does 125 = .ok (.iconst 1, 1) := by decide +kernel
theorem dX7_does_126 : decode cX7_does 126 = .ok (.goto 4, 3) := by decide +kernel
theorem dX7_does_129 : decode cX7_does 129 = .ok (.iconst 0, 1) := by decide +kernel
theorem dX7_does_130 : decode cX7_does 130 = .ok (.invokevirtual 168, 3) := by decide +kernel
theorem dX7_does_133 : decode cX7_does 133 = .ok (.ireturn, 1) := by decide +kernel
theorem dX7_does_134 : decode cX7_does 134 = .ok (.aload_n 0, 1) := by decide +kernel
theorem dX7_does_135 : decode cX7_does 135 = .ok (.aload_n 0, 1) := by decide +kernel
theorem dX7_does_136 : decode cX7_does 136 = .ok (.getfield 28, 3) := by decide +kernel
theorem dX7_does_139 : decode cX7_does 139 = .ok (.iconst 0, 1) := by decide +kernel
theorem dX7_does_140 : decode cX7_does 140 = .ok (.iaload, 1) := by decide +kernel
theorem dX7_does_141 : decode cX7_does 141 = .ok (.invokevirtual 172, 3) := by decide +kernel
theorem dX7_does_144 : decode cX7_does 144 = .ok (.ireturn, 1) := by decide +kernel
theorem dX7_does_145 : decode cX7_does 145 = .ok (.aload_n 0, 1) := by decide +kernel
theorem dX7_does_146 : decode cX7_does 146 = .ok (.aload_n 0, 1) := by decide +kernel
theorem dX7_does_147 : decode cX7_does 147 = .ok (.getfield 28, 3) := by decide +kernel
theorem dX7_does_150 : decode cX7_does 150 = .ok (.iconst 0, 1) := by decide +kernel
theorem dX7_does_151 : decode cX7_does 151 = .ok (.iaload, 1) := by decide +kernel
theorem dX7_does_152 : decode cX7_does 152 = .ok (.invokevirtual 175, 3) := by decide +kernel
theorem dX7_does_155 : decode cX7_does 155 = .ok (.ireturn, 1) := by decide +kernel
theorem dX7_does_156 : decode cX7_does 156 = .ok (.aload_n 0, 1) := by decide +kernel
theorem dX7_does_157 : decode cX7_does 157 = .ok (.aload_n 0, 1) := by decide +kernel
theorem dX7_does_158 : decode cX7_does 158 = .ok (.getfield 28, 3) := by decide +kernel
theorem dX7_does_161 : decode cX7_does 161 = .ok (.iconst 0, 1) := by decide +kernel
theorem dX7_does_162 : decode cX7_does 162 = .ok (.iaload, 1) := by decide +kernel
theorem dX7_does_163 : decode cX7_does 163 = .ok (.invokevirtual 178, 3) := by decide +kernel
theorem dX7_does_166 : decode cX7_does 166 = .ok (.ireturn, 1) := by decide +kernel
set_option maxRecDepth 20000 in
theorem ggX7_plays_X7_parses : GoodIn wsX7_plays wsX7_parses := goodIn_r _ [12, 13, 2, 14, 15, 16, 17, 11, 18, 5, 19, 20, 21, 22, 23, 24, 25, 26, 27, 28, 29, 30, 31, 32, 33, 150, 151, 152, 153, 154, 155, 156, 157, 158, 159, 160, 161, 162, 163, 164, 165] (by decide +kernel) (by decide +kernel)
set_option maxRecDepth 20000 in
theorem gX7_plays_X7_parses : GoodIn wsX7_plays (wsV RX7 187 RX7 yX7_parses wsX7_parses) := goodIn_app (goodIn_of _ (by decide +kernel)) ggX7_plays_X7_parses
set_option maxRecDepth 20000 in
theorem ggX7_plays_X7_does : GoodIn wsX7_plays wsX7_does := goodIn_r _ [37, 14, 29, 38, 39, 40, 11, 41, 42, 43, 44, 45, 46, 47, 48, 19, 20, 21, 49, 50, 51, 52, 53, 54, 55, 56, 57, 58, 59, 60, 61, 1, 62, 63, 64, 65, 66, 67, 68, 69, 70, 71, 72, 73, 74, 75, 76, 77, 78, 79, 80, 81, 82, 83, 84, 85, 86, 87, 88, 89, 90, 91, 92, 93, 94, 95, 96, 97, 98, 99, 100, 101, 102, 103, 104, 105, 106, 107, 108, 109, 110, 111, 112, 113, 114, 115, 116, 117, 118, 119, 120, 121, 122, 123, 124, 125, 126, 127, 128, 129, 130, 131, 132, 133, 134, 135, 136, 137, 138, 139, 140, 141, 142, 143, 144, 145, 146, 147, 148, 149, 150, 151, 152, 153, 154, 155, 156, 157, 158, 159, 160, 161, 162, 163, 164, 165] (by decide +kernel) (by decide +kernel)
set_option maxRecDepth 20000 in
theorem gX7_plays_X7_does : GoodIn wsX7_plays (wsV RX7 191 RX7 yX7_does wsX7_does) := goodIn_app (goodIn_of _ (by decide +kernel)) ggX7_plays_X7_does
theorem dX7_plays_0 : decode cX7_plays 0 = .ok (.aload_n 0, 1) := by decide +kernel
theorem dX7_plays_1 : decode cX7_plays 1 = .ok (.iconst 1, 1) := by decide +kernel
theorem dX7_plays_2 : decode cX7_plays 2 = .ok (.putfield 31, 3) := by decide +kernel
theorem dX7_plays_5 : decode cX7_plays 5 = .ok (.aload_n 0, 1) := by decide +kernel
theorem dX7_plays_6 : decode cX7_plays 6 = .ok (.iconst 0, 1) := by decide +kernel
theorem dX7_plays_7 : decode cX7_plays 7 = .ok (.putfield 144, 3) := by decide +kernel
theorem dX7_plays_10 : decode cX7_plays 10 = .ok (.aload_n 0, 1) := by decide +kernel
theorem dX7_plays_11 : decode cX7_plays 11 = .ok (.iconst 0, 1) := by decide +kernel
theorem dX7_plays_12 : decode cX7_plays 12 = .ok (.putfield 181, 3) := by decide +kernel
theorem dX7_plays_15 : decode cX7_plays 15 = .ok (.aload_n 0, 1) := by decide +kernel
theorem dX7_plays_16 : decode cX7_plays 16 = .ok (.iconst 0, 1) := by decide +kernel
theorem dX7_plays_17 : decode cX7_plays 17 = .ok (.putfield 184, 3) := by decide +kernel
theorem dX7_plays_20 : decode cX7_plays 20 = .ok (.iconst 1, 1) := by decide +kernel
theorem dX7_plays_21 : decode cX7_plays 21 = .ok (.istore_n 1, 1) := by decide +kernel
theorem dX7_plays_22 : decode cX7_plays 22 = .ok (.aload_n 0, 1) := by decide +kernel
theorem dX7_plays_23 : decode cX7_plays 23 = .ok (.getfield 144, 3) := by decide +kernel
theorem dX7_plays_26 : decode cX7_plays 26 = .ok (.aload_n 0, 1) := by decide +kernel
theorem dX7_plays_27 : decode cX7_plays 27 = .ok (.getfield 141, 3) := by decide +kernel
theorem dX7_plays_30 : decode cX7_plays 30 = .ok (.if_icmp .ge 94, 3) := by decide +kernel
theorem dX7_plays_33 : decode cX7_plays 33 = .ok (.iload_n 1, 1) := by decide +kernel
theorem dX7_plays_34 : decode cX7_plays 34 = .ok (.ifCond .eq 90, 3) := by decide +kernel
theorem dX7_plays_37 : decode cX7_plays 37 = .ok (.aload_n 0, 1) := by decide +kernel
theorem dX7_plays_38 : decode cX7_plays 38 = .ok (.aload_n 0, 1) := by decide +kernel
theorem dX7_plays_39 : decode cX7_plays 39 = .ok (.getfield 144, 3) := by decide +kernel
theorem dX7_plays_42 : decode cX7_plays 42 = .ok (.putfield 181, 3) := by decide +kernel
theorem dX7_plays_45 : decode cX7_plays 45 = .ok (.aload_n 0, 1) := by decide +kernel
theorem dX7_plays_46 : decode cX7_plays 46 = .ok (.invokevirtual 187, 3) := by decide +kernel
theorem dX7_plays_49 : decode cX7_plays 49 = .ok (.istore_n 2, 1) := by decide +kernel
theorem dX7_plays_50 : decode cX7_plays 50 = .ok (.iload_n 2, 1) := by decide +kernel
theorem dX7_plays_51 : decode cX7_plays 51 = .ok (.ifCond .eq 10, 3) := by decide +kernel
theorem dX7_plays_54 : decode cX7_plays 54 = .ok (.aload_n 0, 1) := by decide +kernel
theorem dX7_plays_55 : decode cX7_plays 55 = .ok (.invokevirtual 191, 3) := by decide +kernel
theorem dX7_plays_58 : decode cX7_plays 58 = .ok (.goto 4, 3) := by decide +kernel
theorem dX7_plays_61 : decode cX7_plays 61 = .ok (.iconst 0, 1) := by decide +kernel
theorem dX7_plays_62 : decode cX7_plays 62 = .ok (.istore_n 3, 1) := by decide +kernel
theorem dX7_plays_63 : decode cX7_plays 63 = .ok (.iload_n 2, 1) := by decide +kernel
theorem dX7_plays_64 : decode cX7_plays 64 = .ok (.ifCond .eq 11, 3) := by decide +kernel
theorem dX7_plays_67 : decode cX7_plays 67 = .ok (.iload_n 3, 1) := by decide +kernel
theorem dX7_plays_68 : decode cX7_plays 68 = .ok (.ifCond .lt 7, 3) := by decide +kernel
theorem dX7_plays_71 : decode cX7_plays 71 = .ok (.iconst 1, 1) := by decide +kernel
theorem dX7_plays_72 : decode cX7_plays 72 = .ok (.goto 4, 3) := by decide +kernel
theorem dX7_plays_75 : decode cX7_plays 75 = .ok (.iconst 0, 1) := by decide +kernel
theorem dX7_plays_76 : decode cX7_plays 76 = .ok (.istore_n 1, 1) := by decide +kernel
theorem dX7_plays_77 : decode cX7_plays 77 = .ok (.aload_n 0, 1) := by decide +kernel
theorem dX7_plays_78 : decode cX7_plays 78 = .ok (.iload_n 2, 1) := by decide +kernel
theorem dX7_plays_79 : decode cX7_plays 79 = .ok (.ifCond .eq 7, 3) := by decide +kernel
theorem dX7_plays_82 : decode cX7_plays 82 = .ok (.iconst 2, 1) := by decide +kernel
theorem dX7_plays_83 : decode cX7_plays 83 = .ok (.goto 4, 3) := by decide +kernel
theorem dX7_plays_86 : decode cX7_plays 86 = .ok (.iconst 1, 1) := by decide +kernel
theorem dX7_plays_87 : decode cX7_plays 87 = .ok (.putfield 194, 3) := by decide +kernel
theorem dX7_plays_90 : decode cX7_plays 90 = .ok (.aload_n 0, 1) := by decide +kernel
theorem dX7_plays_91 : decode cX7_plays 91 = .ok (.iload_n 2, 1) := by decide +kernel
theorem dX7_plays_92 : decode cX7_plays 92 = .ok (.ifCond .eq 7, 3) := by decide +kernel
theorem dX7_plays_95 : decode cX7_plays 95 = .ok (.iload_n 3, 1) := by decide +kernel
theorem dX7_plays_96 : decode cX7_plays 96 = .ok (.goto 12, 3) := by decide +kernel
theorem dX7_plays_99 : decode cX7_plays 99 = .ok (.aload_n 0, 1) := by decide +kernel
theorem dX7_plays_100 : decode cX7_plays 100 = .ok (.getfield 144, 3) := by decide +kernel
theorem dX7_plays_103 : decode cX7_plays 103 = .ok (.aload_n 0, 1) := by decide +kernel
theorem dX7_plays_104 : decode cX7_plays 104 = .ok (.getfield 181, 3) := by decide +kernel
theorem dX7_plays_107 : decode cX7_plays 107 = .ok (.isub, 1) := by decide +kernel
theorem dX7_plays_108 : decode cX7_plays 108 = .ok (.putfield 197, 3) := by decide +kernel
theorem dX7_plays_111 : decode cX7_plays 111 = .ok (.aload_n 0, 1) := by decide +kernel
theorem dX7_plays_112 : decode cX7_plays 112 = .ok (.dup, 1) := by decide +kernel
theorem dX7_plays_113 : decode cX7_plays 113 = .ok (.getfield 184, 3) := by decide +kernel
theorem dX7_plays_116 : decode cX7_plays 116 = .ok (.iconst 1, 1) := by decide +kernel
theorem dX7_plays_117 : decode cX7_plays 117 = .ok (.iadd, 1) := by decide +kernel
theorem dX7_plays_118 : decode cX7_plays 118 = .ok (.putfield 184, 3) := by decide +kernel
theorem dX7_plays_121 : decode cX7_plays 121 = .ok (.goto (-99), 3) := by decide +kernel
theorem dX7_plays_124 : decode cX7_plays 124 = .ok (.aload_n 0, 1) := by decide +kernel
theorem dX7_plays_125 : decode cX7_plays 125 = .ok (.iconst 0, 1) := by decide +kernel
theorem dX7_plays_126 : decode cX7_plays 126 = .ok (.putfield 31, 3) := by decide +kernel
theorem dX7_plays_129 : decode cX7_plays 129 = .ok (.iload_n 1, 1) := by decide +kernel
theorem dX7_plays_130 : decode cX7_plays 130 = .ok (.ireturn, 1) := by decide +kernel
set_option maxRecDepth 20000 in
theorem ggX7_fault_X7_in : GoodIn wsX7_fault wsX7_in := goodIn_r _ [11] (by decide +kernel) (by decide +kernel)
set_option maxRecDepth 20000 in
theorem gX7_fault_X7_in : GoodIn wsX7_fault (va_wsS RX7 39 yX7_in wsX7_in) := goodIn_app (goodIn_of _ (by decide +kernel)) ggX7_fault_X7_in
set_option maxRecDepth 20000 in
theorem ggX7_fault_X7_copies : GoodIn wsX7_fault wsX7_copies := goodIn_r _ [14] (by decide +kernel) (by decide +kernel)
set_option maxRecDepth 20000 in
theorem gX7_fault_X7_copies : GoodIn wsX7_fault (va_wsS RX7 122 yX7_copies wsX7_copies) := goodIn_app (goodIn_of _ (by decide +kernel)) ggX7_fault_X7_copies
set_option maxRecDepth 20000 in
theorem ggX7_fault_X7_plays : GoodIn wsX7_fault wsX7_plays := goodIn_r _ [18, 19, 20, 5, 21, 22, 6, 7, 23, 24, 25, 10, 26, 27, 28, 29, 30, 31, 32, 8, 9, 11, 33, 34, 35, 36, 37, 38, 39, 40, 41, 42, 43, 44, 45, 46, 47, 48, 49, 50, 51, 52, 1, 53, 2, 54, 55, 56, 57, 58, 59, 60, 61, 4, 62, 63, 64, 65, 66, 67, 68, 69, 70, 71, 72, 73, 74, 75, 76, 77, 78, 79, 80, 81, 82, 83, 84, 85, 86, 87, 88, 89, 90, 91, 92, 93, 94, 95, 96, 97, 98, 99, 100, 101, 102, 103, 104, 105, 106, 107, 108, 109, 110, 111, 112, 113, 114, 115, 116, 117, 118, 119, 120, 121, 122, 123, 124, 125, 126, 127, 128, 129, 130, 131, 132, 133, 134, 135, 136, 137, 138, 139, 140, 141, 142, 143, 144, 145, 146, 147, 148, 149, 150, 151, 152, 153, 154, 155, 156, 157, 158, 159, 160, 161, 162, 163, 164, 165, 166, 167, 168, 169, 170, 171, 172, 173] (by decide +kernel) (by decide +kernel)
set_option maxRecDepth 20000 in
theorem gX7_fault_X7_plays : GoodIn wsX7_fault (wsV RX7 200 RX7 yX7_plays wsX7_plays) := goodIn_app (goodIn_of _ (by decide +kernel)) ggX7_fault_X7_plays
theorem dX7_fault_0 : decode cX7_fault 0 = .ok (.iload_n 1, 1) := by decide +kernel
theorem dX7_fault_1 : decode cX7_fault 1 = .ok (.iconst 0, 1) := by decide +kernel
theorem dX7_fault_2 : decode cX7_fault 2 = .ok (.iconst 2, 1) := by decide +kernel
theorem dX7_fault_3 : decode cX7_fault 3 = .ok (.invokestatic 39, 3) := by decide +kernel
theorem dX7_fault_6 : decode cX7_fault 6 = .ok (.ifCond .ne 6, 3) := by decide +kernel
theorem dX7_fault_9 : decode cX7_fault 9 = .ok (.ldc 96, 2) := by decide +kernel
theorem dX7_fault_11 : decode cX7_fault 11 = .ok (.ireturn, 1) := by decide +kernel
theorem dX7_fault_12 : decode cX7_fault 12 = .ok (.aload_n 0, 1) := by decide +kernel
theorem dX7_fault_13 : decode cX7_fault 13 = .ok (.getfield 7, 3) := by decide +kernel
theorem dX7_fault_16 : decode cX7_fault 16 = .ok (.aload_n 0, 1) := by decide +kernel
theorem dX7_fault_17 : decode cX7_fault 17 = .ok (.getfield 16, 3) := by decide +kernel
theorem dX7_fault_20 : decode cX7_fault 20 = .ok (.invokestatic 122, 3) := by decide +kernel
theorem dX7_fault_23 : decode cX7_fault 23 = .ok (.aload_n 0, 1) := by decide +kernel
theorem dX7_fault_24 : decode cX7_fault 24 = .ok (.invokevirtual 200, 3) := by decide +kernel
theorem dX7_fault_27 : decode cX7_fault 27 = .ok (.istore_n 2, 1) := by decide +kernel
theorem dX7_fault_28 : decode cX7_fault 28 = .ok (.aload_n 0, 1) := by decide +kernel
theorem dX7_fault_29 : decode cX7_fault 29 = .ok (.getfield 16, 3) := by decide +kernel
theorem dX7_fault_32 : decode cX7_fault 32 = .ok (.aload_n 0, 1) := by decide +kernel
theorem dX7_fault_33 : decode cX7_fault 33 = .ok (.getfield 7, 3) := by decide +kernel
theorem dX7_fault_36 : decode cX7_fault 36 = .ok (.invokestatic 122, 3) := by decide +kernel
theorem dX7_fault_39 : decode cX7_fault 39 = .ok (.iload_n 2, 1) := by decide +kernel
theorem dX7_fault_40 : decode cX7_fault 40 = .ok (.ifCond .eq 8, 3) := by decide +kernel
theorem dX7_fault_43 : decode cX7_fault 43 = .ok (.ldc 47, 2) := by decide +kernel
theorem dX7_fault_45 : decode cX7_fault 45 = .ok (.goto 30, 3) := by decide +kernel
theorem dX7_fault_48 : decode cX7_fault 48 = .ok (.iload_n 1, 1) := by decide +kernel
theorem dX7_fault_49 : decode cX7_fault 49 = .ok (.ifCond .ne 10, 3) := by decide +kernel
theorem dX7_fault_52 : decode cX7_fault 52 = .ok (.aload_n 0, 1) := by decide +kernel
theorem dX7_fault_53 : decode cX7_fault 53 = .ok (.getfield 181, 3) := by decide +kernel
theorem dX7_fault_56 : decode cX7_fault 56 = .ok (.goto 19, 3) := by decide +kernel
theorem dX7_fault_59 : decode cX7_fault 59 = .ok (.iload_n 1, 1) := by decide +kernel
theorem dX7_fault_60 : decode cX7_fault 60 = .ok (.iconst 1, 1) := by decide +kernel
theorem dX7_fault_61 : decode cX7_fault 61 = .ok (.if_icmp .ne 10, 3) := by decide +kernel
theorem dX7_fault_64 : decode cX7_fault 64 = .ok (.aload_n 0, 1) := by decide +kernel
theorem dX7_fault_65 : decode cX7_fault 65 = .ok (.getfield 194, 3) := by decide +kernel
theorem dX7_fault_68 : decode cX7_fault 68 = .ok (.goto 7, 3) := by decide +kernel
theorem dX7_fault_71 : decode cX7_fault 71 = .ok (.aload_n 0, 1) := by decide +kernel
theorem dX7_fault_72 : decode cX7_fault 72 = .ok (.getfield 197, 3) := by decide +kernel
theorem dX7_fault_75 : decode cX7_fault 75 = .ok (.ireturn, 1) := by decide +kernel
set_option maxRecDepth 20000 in
theorem ggX7_play_X7_copies : GoodIn wsX7_play wsX7_copies := goodIn_r _ [9] (by decide +kernel) (by decide +kernel)
set_option maxRecDepth 20000 in
theorem gX7_play_X7_copies : GoodIn wsX7_play (va_wsS RX7 122 yX7_copies wsX7_copies) := goodIn_app (goodIn_of _ (by decide +kernel)) ggX7_play_X7_copies
set_option maxRecDepth 20000 in
theorem ggX7_play_X7_plays : GoodIn wsX7_play wsX7_plays := goodIn_r _ [13, 14, 15, 16, 4, 17, 18, 19, 20, 21, 22, 8, 23, 24, 25, 26, 27, 28, 29, 30, 31, 32, 33, 34, 35, 36, 37, 38, 39, 40, 41, 42, 43, 44, 45, 46, 47, 48, 49, 50, 51, 52, 53, 3, 1, 54, 55, 56, 57, 58, 59, 60, 61, 5, 62, 63, 64, 65, 66, 67, 68, 69, 70, 71, 72, 73, 74, 75, 76, 77, 78, 79, 80, 81, 82, 83, 84, 85, 86, 87, 88, 89, 90, 91, 92, 93, 94, 95, 96, 97, 98, 99, 100, 101, 102, 103, 104, 105, 106, 107, 108, 109, 110, 111, 112, 113, 114, 115, 116, 117, 118, 119, 120, 121, 122, 123, 124, 125, 126, 127, 128, 129, 130, 131, 132, 133, 134, 135, 136, 137, 138, 139, 140, 141, 142, 143, 144, 145, 146, 147, 148, 149, 150, 151, 152, 153, 154, 155, 156, 157, 158, 159, 160, 161, 162, 163, 164, 165, 166, 167, 168, 169, 170, 171, 172, 173] (by decide +kernel) (by decide +kernel)
set_option maxRecDepth 20000 in
theorem gX7_play_X7_plays : GoodIn wsX7_play (wsV RX7 200 RX7 yX7_plays wsX7_plays) := goodIn_app (goodIn_of _ (by decide +kernel)) ggX7_play_X7_plays
set_option maxRecDepth 20000 in
theorem ggX7_play_X7_changes : GoodIn wsX7_play wsX7_changes := goodIn_r _ [69, 14, 70, 71, 1, 158, 159, 160, 161, 162, 163, 164, 165, 166, 167, 168, 169, 170, 171, 172, 173] (by decide +kernel) (by decide +kernel)
set_option maxRecDepth 20000 in
theorem gX7_play_X7_changes : GoodIn wsX7_play (wsV RX7 102 RX7 yX7_changes wsX7_changes) := goodIn_app (goodIn_of _ (by decide +kernel)) ggX7_play_X7_changes
theorem dX7_play_0 : decode cX7_play 0 = .ok (.aload_n 0, 1) := by decide +kernel
theorem dX7_play_1 : decode cX7_play 1 = .ok (.getfield 7, 3) := by decide +kernel
theorem dX7_play_4 : decode cX7_play 4 = .ok (.aload_n 0, 1) := by decide +kernel
theorem dX7_play_5 : decode cX7_play 5 = .ok (.getfield 16, 3) := by decide +kernel
theorem dX7_play_8 : decode cX7_play 8 = .ok (.invokestatic 122, 3) := by decide +kernel
theorem dX7_play_11 : decode cX7_play 11 = .ok (.aload_n 0, 1) := by decide +kernel
theorem dX7_play_12 : decode cX7_play 12 = .ok (.invokevirtual 200, 3) := by decide +kernel
theorem dX7_play_15 : decode cX7_play 15 = .ok (.istore_n 1, 1) := by decide +kernel
theorem dX7_play_16 : decode cX7_play 16 = .ok (.aload_n 0, 1) := by decide +kernel
theorem dX7_play_17 : decode cX7_play 17 = .ok (.getfield 16, 3) := by decide +kernel
theorem dX7_play_20 : decode cX7_play 20 = .ok (.aload_n 0, 1) := by decide +kernel
theorem dX7_play_21 : decode cX7_play 21 = .ok (.getfield 7, 3) := by decide +kernel
theorem dX7_play_24 : decode cX7_play 24 = .ok (.invokestatic 122, 3) := by decide +kernel
theorem dX7_play_27 : decode cX7_play 27 = .ok (.iload_n 1, 1) := by decide +kernel
theorem dX7_play_28 : decode cX7_play 28 = .ok (.ifCond .ne 6, 3) := by decide +kernel
theorem dX7_play_31 : decode cX7_play 31 = .ok (.ldc 100, 2) := by decide +kernel
theorem dX7_play_33 : decode cX7_play 33 = .ok (.ireturn, 1) := by decide +kernel
theorem dX7_play_34 : decode cX7_play 34 = .ok (.aload_n 0, 1) := by decide +kernel
theorem dX7_play_35 : decode cX7_play 35 = .ok (.invokevirtual 102, 3) := by decide +kernel
theorem dX7_play_38 : decode cX7_play 38 = .ok (.aload_n 0, 1) := by decide +kernel
theorem dX7_play_39 : decode cX7_play 39 = .ok (.invokevirtual 200, 3) := by decide +kernel
theorem dX7_play_42 : decode cX7_play 42 = .ok (.ifCond .eq 10, 3) := by decide +kernel
theorem dX7_play_45 : decode cX7_play 45 = .ok (.aload_n 0, 1) := by decide +kernel
theorem dX7_play_46 : decode cX7_play 46 = .ok (.getfield 184, 3) := by decide +kernel
theorem dX7_play_49 : decode cX7_play 49 = .ok (.goto 5, 3) := by decide +kernel
theorem dX7_play_52 : decode cX7_play 52 = .ok (.ldc 47, 2) := by decide +kernel
theorem dX7_play_54 : decode cX7_play 54 = .ok (.ireturn, 1) := by decide +kernel
theorem dJxf58ca_isNaN_12338_0 : decode cJxf58ca_isNaN_12338 0 = .ok (.fload_n 0, 1) := by decide +kernel
theorem dJxf58ca_isNaN_12338_1 : decode cJxf58ca_isNaN_12338 1 = .ok (.fload_n 0, 1) := by decide +kernel
theorem dJxf58ca_isNaN_12338_2 : decode cJxf58ca_isNaN_12338 2 = .ok (.fcmp .l, 1) := by decide +kernel
theorem dJxf58ca_isNaN_12338_3 : decode cJxf58ca_isNaN_12338 3 = .ok (.ifCond .eq 7, 3) := by decide +kernel
theorem dJxf58ca_isNaN_12338_6 : decode cJxf58ca_isNaN_12338 6 = .ok (.iconst 1, 1) := by decide +kernel
theorem dJxf58ca_isNaN_12338_7 : decode cJxf58ca_isNaN_12338 7 = .ok (.goto 4, 3) := by decide +kernel
theorem dJxf58ca_isNaN_12338_10 : decode cJxf58ca_isNaN_12338 10 = .ok (.iconst 0, 1) := by decide +kernel
theorem dJxf58ca_isNaN_12338_11 : decode cJxf58ca_isNaN_12338 11 = .ok (.ireturn, 1) := by decide +kernel
set_option maxRecDepth 20000 in
theorem ggJxf58ca_floatToIntBits_5c35a_Jxf58ca_isNaN_12338 : GoodIn wsJxf58ca_floatToIntBits_5c35a wsJxf58ca_isNaN_12338 := goodIn_r _ [9] (by decide +kernel) (by decide +kernel)
set_option maxRecDepth 20000 in
theorem gJxf58ca_floatToIntBits_5c35a_Jxf58ca_isNaN_12338 : GoodIn wsJxf58ca_floatToIntBits_5c35a (va_wsS RJxf58ca 59 yJxf58ca_isNaN_12338 wsJxf58ca_isNaN_12338) := goodIn_app (goodIn_of _ (by decide +kernel)) ggJxf58ca_floatToIntBits_5c35a_Jxf58ca_isNaN_12338
theorem dJxf58ca_floatToIntBits_5c35a_0 : decode cJxf58ca_floatToIntBits_5c35a 0 = .ok (.fload_n 0, 1) := by decide +kernel
theorem dJxf58ca_floatToIntBits_5c35a_1 : decode cJxf58ca_floatToIntBits_5c35a 1 = .ok (.invokestatic 59, 3) := by decide +kernel
theorem dJxf58ca_floatToIntBits_5c35a_4 : decode cJxf58ca_floatToIntBits_5c35a 4 = .ok (.ifCond .ne 8, 3) := by decide +kernel
theorem dJxf58ca_floatToIntBits_5c35a_7 : decode cJxf58ca_floatToIntBits_5c35a 7 = .ok (.fload_n 0, 1) := by decide +kernel
theorem dJxf58ca_floatToIntBits_5c35a_8 : decode cJxf58ca_floatToIntBits_5c35a 8 = .ok (.invokestatic 74, 3) := by decide +kernel
theorem dJxf58ca_floatToIntBits_5c35a_11 : decode cJxf58ca_floatToIntBits_5c35a 11 = .ok (.ireturn, 1) := by decide +kernel
theorem dJxf58ca_floatToIntBits_5c35a_12 : decode cJxf58ca_floatToIntBits_5c35a 12 = .ok (.ldc 77, 2) := by decide +kernel
theorem dJxf58ca_floatToIntBits_5c35a_14 : decode cJxf58ca_floatToIntBits_5c35a 14 = .ok (.ireturn, 1) := by decide +kernel
theorem dJ9_abs_0f7a4_0 : decode cJ9_abs_0f7a4 0 = .ok (.iload_n 0, 1) := by decide +kernel
theorem dJ9_abs_0f7a4_1 : decode cJ9_abs_0f7a4 1 = .ok (.ifCond .ge 8, 3) := by decide +kernel
theorem dJ9_abs_0f7a4_4 : decode cJ9_abs_0f7a4 4 = .ok (.iload_n 0, 1) := by decide +kernel
theorem dJ9_abs_0f7a4_5 : decode cJ9_abs_0f7a4 5 = .ok (.ineg, 1) := by decide +kernel
theorem dJ9_abs_0f7a4_6 : decode cJ9_abs_0f7a4 6 = .ok (.goto 4, 3) := by decide +kernel
theorem dJ9_abs_0f7a4_9 : decode cJ9_abs_0f7a4 9 = .ok (.iload_n 0, 1) := by decide +kernel
theorem dJ9_abs_0f7a4_10 : decode cJ9_abs_0f7a4 10 = .ok (.ireturn, 1) := by decide +kernel
theorem dJ9_max_7cf53_0 : decode cJ9_max_7cf53 0 = .ok (.iload_n 0, 1) := by decide +kernel
theorem dJ9_max_7cf53_1 : decode cJ9_max_7cf53 1 = .ok (.iload_n 1, 1) := by decide +kernel
theorem dJ9_max_7cf53_2 : decode cJ9_max_7cf53 2 = .ok (.if_icmp .lt 7, 3) := by decide +kernel
theorem dJ9_max_7cf53_5 : decode cJ9_max_7cf53 5 = .ok (.iload_n 0, 1) := by decide +kernel
theorem dJ9_max_7cf53_6 : decode cJ9_max_7cf53 6 = .ok (.goto 4, 3) := by decide +kernel
theorem dJ9_max_7cf53_9 : decode cJ9_max_7cf53 9 = .ok (.iload_n 1, 1) := by decide +kernel
theorem dJ9_max_7cf53_10 : decode cJ9_max_7cf53 10 = .ok (.ireturn, 1) := by decide +kernel
