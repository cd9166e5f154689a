theorem dL_cell_0 : decode cL_cell 0 = .ok (.iload_n 1, 1) := by decide +kernel
theorem dL_cell_1 : decode cL_cell 1 = .ok (.aload_n 0, 1) := by decide +kernel
theorem dL_cell_2 : decode cL_cell 2 = .ok (.arraylength, 1) := by decide +kernel
theorem dL_cell_3 : decode cL_cell 3 = .ok (.if_icmp .ge 9, 3) := by decide +kernel
theorem dL_cell_6 : decode cL_cell 6 = .ok (.aload_n 0, 1) := by decide +kernel
theorem dL_cell_7 : decode cL_cell 7 = .ok (.iload_n 1, 1) := by decide +kernel
theorem dL_cell_8 : decode cL_cell 8 = .ok (.iaload, 1) := by decide +kernel
theorem dL_cell_9 : decode cL_cell 9 = .ok (.goto 9, 3) := by decide +kernel
theorem dL_cell_12 : decode cL_cell 12 = .ok (.ldc 7, 2) := by decide +kernel
theorem dL_cell_14 : decode cL_cell 14 = .ok (.iload_n 1, 1) := by decide +kernel
theorem dL_cell_15 : decode cL_cell 15 = .ok (.iconst 3, 1) := by decide +kernel
theorem dL_cell_16 : decode cL_cell 16 = .ok (.iadd, 1) := by decide +kernel
theorem dL_cell_17 : decode cL_cell 17 = .ok (.imul, 1) := by decide +kernel
theorem dL_cell_18 : decode cL_cell 18 = .ok (.ireturn, 1) := by decide +kernel
theorem dL_used_0 : decode cL_used 0 = .ok (.aload_n 0, 1) := by decide +kernel
theorem dL_used_1 : decode cL_used 1 = .ok (.iconst 4, 1) := by decide +kernel
theorem dL_used_2 : decode cL_used 2 = .ok (.iload_n 1, 1) := by decide +kernel
theorem dL_used_3 : decode cL_used 3 = .ok (.imul, 1) := by decide +kernel
theorem dL_used_4 : decode cL_used 4 = .ok (.iconst 2, 1) := by decide +kernel
theorem dL_used_5 : decode cL_used 5 = .ok (.iadd, 1) := by decide +kernel
theorem dL_used_6 : decode cL_used 6 = .ok (.iaload, 1) := by decide +kernel
theorem dL_used_7 : decode cL_used 7 = .ok (.aload_n 0, 1) := by decide +kernel
theorem dL_used_8 : decode cL_used 8 = .ok (.iconst 4, 1) := by decide +kernel
theorem dL_used_9 : decode cL_used 9 = .ok (.iload_n 1, 1) := by decide +kernel
theorem dL_used_10 : decode cL_used 10 = .ok (.imul, 1) := by decide +kernel
theorem dL_used_11 : decode cL_used 11 = .ok (.iconst 3, 1) := by decide +kernel
theorem dL_used_12 : decode cL_used 12 = .ok (.iadd, 1) := by decide +kernel
theorem dL_used_13 : decode cL_used 13 = .ok (.iaload, 1) := by decide +kernel
theorem dL_used_14 : decode cL_used 14 = .ok (.isub, 1) := by decide +kernel
theorem dL_used_15 : decode cL_used 15 = .ok (.istore_n 2, 1) := by decide +kernel
theorem dL_used_16 : decode cL_used 16 = .ok (.iload_n 2, 1) := by decide +kernel
theorem dL_used_17 : decode cL_used 17 = .ok (.ifCond .ge 10, 3) := by decide +kernel
theorem dL_used_20 : decode cL_used 20 = .ok (.iload_n 2, 1) := by decide +kernel
theorem dL_used_21 : decode cL_used 21 = .ok (.ldc 9, 2) := by decide +kernel
theorem dL_used_23 : decode cL_used 23 = .ok (.iadd, 1) := by decide +kernel
theorem dL_used_24 : decode cL_used 24 = .ok (.goto 4, 3) := by decide +kernel
theorem dL_used_27 : decode cL_used 27 = .ok (.iload_n 2, 1) := by decide +kernel
theorem dL_used_28 : decode cL_used 28 = .ok (.ireturn, 1) := by decide +kernel
set_option maxRecDepth 20000 in
theorem ggL_units_L_used : GoodIn wsL_units wsL_used := goodIn_rB _ [4, 5] (by decide +kernel) (by decide +kernel)
set_option maxRecDepth 20000 in
theorem gL_units_L_used : GoodIn wsL_units (va_wsS RL 10 yL_used wsL_used) := goodIn_app (goodIn_of _ (by decide +kernel)) ggL_units_L_used
theorem dL_units_0 : decode cL_units 0 = .ok (.aload_n 0, 1) := by decide +kernel
theorem dL_units_1 : decode cL_units 1 = .ok (.iload_n 2, 1) := by decide +kernel
theorem dL_units_2 : decode cL_units 2 = .ok (.invokestatic 10, 3) := by decide +kernel
theorem dL_units_5 : decode cL_units 5 = .ok (.istore_n 3, 1) := by decide +kernel
theorem dL_units_6 : decode cL_units 6 = .ok (.iload_n 3, 1) := by decide +kernel
theorem dL_units_7 : decode cL_units 7 = .ok (.bipush 100, 2) := by decide +kernel
theorem dL_units_9 : decode cL_units 9 = .ok (.idiv, 1) := by decide +kernel
theorem dL_units_10 : decode cL_units 10 = .ok (.istore 4, 2) := by decide +kernel
theorem dL_units_12 : decode cL_units 12 = .ok (.iload_n 3, 1) := by decide +kernel
theorem dL_units_13 : decode cL_units 13 = .ok (.bipush 100, 2) := by decide +kernel
theorem dL_units_15 : decode cL_units 15 = .ok (.irem, 1) := by decide +kernel
theorem dL_units_16 : decode cL_units 16 = .ok (.istore 5, 2) := by decide +kernel
theorem dL_units_18 : decode cL_units 18 = .ok (.aload_n 1, 1) := by decide +kernel
theorem dL_units_19 : decode cL_units 19 = .ok (.iconst 4, 1) := by decide +kernel
theorem dL_units_20 : decode cL_units 20 = .ok (.iload_n 2, 1) := by decide +kernel
theorem dL_units_21 : decode cL_units 21 = .ok (.imul, 1) := by decide +kernel
theorem dL_units_22 : decode cL_units 22 = .ok (.iaload, 1) := by decide +kernel
theorem dL_units_23 : decode cL_units 23 = .ok (.ifCond .ge 16, 3) := by decide +kernel
theorem dL_units_26 : decode cL_units 26 = .ok (.iload 5, 2) := by decide +kernel
theorem dL_units_28 : decode cL_units 28 = .ok (.ifCond .le 7, 3) := by decide +kernel
theorem dL_units_31 : decode cL_units 31 = .ok (.iconst 1, 1) := by decide +kernel
theorem dL_units_32 : decode cL_units 32 = .ok (.goto 27, 3) := by decide +kernel
theorem dL_units_35 : decode cL_units 35 = .ok (.iconst 0, 1) := by decide +kernel
theorem dL_units_36 : decode cL_units 36 = .ok (.goto 23, 3) := by decide +kernel
theorem dL_units_39 : decode cL_units 39 = .ok (.aload_n 1, 1) := by decide +kernel
theorem dL_units_40 : decode cL_units 40 = .ok (.iconst 4, 1) := by decide +kernel
theorem dL_units_41 : decode cL_units 41 = .ok (.iload_n 2, 1) := by decide +kernel
theorem dL_units_42 : decode cL_units 42 = .ok (.imul, 1) := by decide +kernel
theorem dL_units_43 : decode cL_units 43 = .ok (.iaload, 1) := by decide +kernel
theorem dL_units_44 : decode cL_units 44 = .ok (.ifCond .ne 14, 3) := by decide +kernel
theorem dL_units_47 : decode cL_units 47 = .ok (.iload 5, 2) := by decide +kernel
theorem dL_units_49 : decode cL_units 49 = .ok (.bipush 49, 2) := by decide +kernel
theorem dL_units_51 : decode cL_units 51 = .ok (.if_icmp .le 7, 3) := by decide +kernel
theorem dL_units_54 : decode cL_units 54 = .ok (.iconst 1, 1) := by decide +kernel
theorem dL_units_55 : decode cL_units 55 = .ok (.goto 4, 3) := by decide +kernel
theorem dL_units_58 : decode cL_units 58 = .ok (.iconst 0, 1) := by decide +kernel
theorem dL_units_59 : decode cL_units 59 = .ok (.istore 6, 2) := by decide +kernel
theorem dL_units_61 : decode cL_units 61 = .ok (.iload 6, 2) := by decide +kernel
theorem dL_units_63 : decode cL_units 63 = .ok (.ifCond .eq 10, 3) := by decide +kernel
theorem dL_units_66 : decode cL_units 66 = .ok (.iload 4, 2) := by decide +kernel
theorem dL_units_68 : decode cL_units 68 = .ok (.iconst 1, 1) := by decide +kernel
theorem dL_units_69 : decode cL_units 69 = .ok (.iadd, 1) := by decide +kernel
theorem dL_units_70 : decode cL_units 70 = .ok (.goto 5, 3) := by decide +kernel
theorem dL_units_73 : decode cL_units 73 = .ok (.iload 4, 2) := by decide +kernel
theorem dL_units_75 : decode cL_units 75 = .ok (.ireturn, 1) := by decide +kernel
theorem dL_why_0 : decode cL_why 0 = .ok (.aload_n 0, 1) := by decide +kernel
theorem dL_why_1 : decode cL_why 1 = .ok (.iconst 4, 1) := by decide +kernel
theorem dL_why_2 : decode cL_why 2 = .ok (.iload_n 2, 1) := by decide +kernel
theorem dL_why_3 : decode cL_why 3 = .ok (.imul, 1) := by decide +kernel
theorem dL_why_4 : decode cL_why 4 = .ok (.iconst 2, 1) := by decide +kernel
theorem dL_why_5 : decode cL_why 5 = .ok (.iadd, 1) := by decide +kernel
theorem dL_why_6 : decode cL_why 6 = .ok (.iaload, 1) := by decide +kernel
theorem dL_why_7 : decode cL_why 7 = .ok (.iconst 1, 1) := by decide +kernel
theorem dL_why_8 : decode cL_why 8 = .ok (.if_icmp .ne 7, 3) := by decide +kernel
theorem dL_why_11 : decode cL_why 11 = .ok (.iconst 1, 1) := by decide +kernel
theorem dL_why_12 : decode cL_why 12 = .ok (.goto 23, 3) := by decide +kernel
theorem dL_why_15 : decode cL_why 15 = .ok (.aload_n 0, 1) := by decide +kernel
theorem dL_why_16 : decode cL_why 16 = .ok (.iconst 4, 1) := by decide +kernel
theorem dL_why_17 : decode cL_why 17 = .ok (.iload_n 2, 1) := by decide +kernel
theorem dL_why_18 : decode cL_why 18 = .ok (.imul, 1) := by decide +kernel
theorem dL_why_19 : decode cL_why 19 = .ok (.iconst 3, 1) := by decide +kernel
theorem dL_why_20 : decode cL_why 20 = .ok (.iadd, 1) := by decide +kernel
theorem dL_why_21 : decode cL_why 21 = .ok (.iaload, 1) := by decide +kernel
theorem dL_why_22 : decode cL_why 22 = .ok (.aload_n 1, 1) := by decide +kernel
theorem dL_why_23 : decode cL_why 23 = .ok (.iconst 0, 1) := by decide +kernel
theorem dL_why_24 : decode cL_why 24 = .ok (.iaload, 1) := by decide +kernel
theorem dL_why_25 : decode cL_why 25 = .ok (.iconst 1, 1) := by decide +kernel
theorem dL_why_26 : decode cL_why 26 = .ok (.iadd, 1) := by decide +kernel
theorem dL_why_27 : decode cL_why 27 = .ok (.if_icmp .ne 7, 3) := by decide +kernel
theorem dL_why_30 : decode cL_why 30 = .ok (.iconst 2, 1) := by decide +kernel
theorem dL_why_31 : decode cL_why 31 = .ok (.goto 4, 3) := by decide +kernel
theorem dL_why_34 : decode cL_why 34 = .ok (.iconst 0, 1) := by decide +kernel
theorem dL_why_35 : decode cL_why 35 = .ok (.ireturn, 1) := by decide +kernel
set_option maxRecDepth 20000 in
theorem ggL_read_L_used : GoodIn wsL_read wsL_used := goodIn_rB _ [4, 5] (by decide +kernel) (by decide +kernel)
set_option maxRecDepth 20000 in
theorem gL_read_L_used : GoodIn wsL_read (va_wsS RL 10 yL_used wsL_used) := goodIn_app (goodIn_of _ (by decide +kernel)) ggL_read_L_used
set_option maxRecDepth 20000 in
theorem ggL_read_L_units : GoodIn wsL_read wsL_units := goodIn_rB _ [8, 1, 2, 3, 4, 5] (by decide +kernel) (by decide +kernel)
set_option maxRecDepth 20000 in
theorem gL_read_L_units : GoodIn wsL_read (va_wsS RL 16 yL_units wsL_units) := goodIn_app (goodIn_of _ (by decide +kernel)) ggL_read_L_units
theorem dL_read_0 : decode cL_read 0 = .ok (.aload_n 0, 1) := by decide +kernel
theorem dL_read_1 : decode cL_read 1 = .ok (.iload 5, 2) := by decide +kernel
theorem dL_read_3 : decode cL_read 3 = .ok (.invokestatic 10, 3) := by decide +kernel
theorem dL_read_6 : decode cL_read 6 = .ok (.istore 6, 2) := by decide +kernel
theorem dL_read_8 : decode cL_read 8 = .ok (.aload_n 0, 1) := by decide +kernel
theorem dL_read_9 : decode cL_read 9 = .ok (.aload_n 1, 1) := by decide +kernel
theorem dL_read_10 : decode cL_read 10 = .ok (.iload 5, 2) := by decide +kernel
theorem dL_read_12 : decode cL_read 12 = .ok (.invokestatic 16, 3) := by decide +kernel
theorem dL_read_15 : decode cL_read 15 = .ok (.istore 7, 2) := by decide +kernel
theorem dL_read_17 : decode cL_read 17 = .ok (.aload_n 1, 1) := by decide +kernel
theorem dL_read_18 : decode cL_read 18 = .ok (.iconst 4, 1) := by decide +kernel
theorem dL_read_19 : decode cL_read 19 = .ok (.iload 5, 2) := by decide +kernel
theorem dL_read_21 : decode cL_read 21 = .ok (.imul, 1) := by decide +kernel
theorem dL_read_22 : decode cL_read 22 = .ok (.dup2, 1) := by decide +kernel
theorem dL_read_23 : decode cL_read 23 = .ok (.iaload, 1) := by decide +kernel
theorem dL_read_24 : decode cL_read 24 = .ok (.bipush 100, 2) := by decide +kernel
theorem dL_read_26 : decode cL_read 26 = .ok (.iload 7, 2) := by decide +kernel
theorem dL_read_28 : decode cL_read 28 = .ok (.imul, 1) := by decide +kernel
theorem dL_read_29 : decode cL_read 29 = .ok (.iload 6, 2) := by decide +kernel
theorem dL_read_31 : decode cL_read 31 = .ok (.isub, 1) := by decide +kernel
theorem dL_read_32 : decode cL_read 32 = .ok (.iadd, 1) := by decide +kernel
theorem dL_read_33 : decode cL_read 33 = .ok (.iastore, 1) := by decide +kernel
theorem dL_read_34 : decode cL_read 34 = .ok (.aload_n 0, 1) := by decide +kernel
theorem dL_read_35 : decode cL_read 35 = .ok (.iconst 4, 1) := by decide +kernel
theorem dL_read_36 : decode cL_read 36 = .ok (.iload 5, 2) := by decide +kernel
theorem dL_read_38 : decode cL_read 38 = .ok (.imul, 1) := by decide +kernel
theorem dL_read_39 : decode cL_read 39 = .ok (.iconst 3, 1) := by decide +kernel
theorem dL_read_40 : decode cL_read 40 = .ok (.iadd, 1) := by decide +kernel
theorem dL_read_41 : decode cL_read 41 = .ok (.aload_n 0, 1) := by decide +kernel
theorem dL_read_42 : decode cL_read 42 = .ok (.iconst 4, 1) := by decide +kernel
theorem dL_read_43 : decode cL_read 43 = .ok (.iload 5, 2) := by decide +kernel
theorem dL_read_45 : decode cL_read 45 = .ok (.imul, 1) := by decide +kernel
theorem dL_read_46 : decode cL_read 46 = .ok (.iconst 2, 1) := by decide +kernel
theorem dL_read_47 : decode cL_read 47 = .ok (.iadd, 1) := by decide +kernel
theorem dL_read_48 : decode cL_read 48 = .ok (.iaload, 1) := by decide +kernel
theorem dL_read_49 : decode cL_read 49 = .ok (.iastore, 1) := by decide +kernel
theorem dL_read_50 : decode cL_read 50 = .ok (.aload_n 1, 1) := by decide +kernel
theorem dL_read_51 : decode cL_read 51 = .ok (.iconst 4, 1) := by decide +kernel
theorem dL_read_52 : decode cL_read 52 = .ok (.iload 5, 2) := by decide +kernel
theorem dL_read_54 : decode cL_read 54 = .ok (.imul, 1) := by decide +kernel
theorem dL_read_55 : decode cL_read 55 = .ok (.iconst 3, 1) := by decide +kernel
theorem dL_read_56 : decode cL_read 56 = .ok (.iadd, 1) := by decide +kernel
theorem dL_read_57 : decode cL_read 57 = .ok (.aload 4, 2) := by decide +kernel
theorem dL_read_59 : decode cL_read 59 = .ok (.iconst 0, 1) := by decide +kernel
theorem dL_read_60 : decode cL_read 60 = .ok (.iaload, 1) := by decide +kernel
theorem dL_read_61 : decode cL_read 61 = .ok (.iconst 1, 1) := by decide +kernel
theorem dL_read_62 : decode cL_read 62 = .ok (.iadd, 1) := by decide +kernel
theorem dL_read_63 : decode cL_read 63 = .ok (.iastore, 1) := by decide +kernel
theorem dL_read_64 : decode cL_read 64 = .ok (.aload_n 2, 1) := by decide +kernel
theorem dL_read_65 : decode cL_read 65 = .ok (.iconst 4, 1) := by decide +kernel
theorem dL_read_66 : decode cL_read 66 = .ok (.iload 5, 2) := by decide +kernel
theorem dL_read_68 : decode cL_read 68 = .ok (.imul, 1) := by decide +kernel
theorem dL_read_69 : decode cL_read 69 = .ok (.dup2, 1) := by decide +kernel
theorem dL_read_70 : decode cL_read 70 = .ok (.iaload, 1) := by decide +kernel
theorem dL_read_71 : decode cL_read 71 = .ok (.iconst 1, 1) := by decide +kernel
theorem dL_read_72 : decode cL_read 72 = .ok (.iadd, 1) := by decide +kernel
theorem dL_read_73 : decode cL_read 73 = .ok (.iastore, 1) := by decide +kernel
theorem dL_read_74 : decode cL_read 74 = .ok (.aload_n 2, 1) := by decide +kernel
theorem dL_read_75 : decode cL_read 75 = .ok (.iconst 4, 1) := by decide +kernel
theorem dL_read_76 : decode cL_read 76 = .ok (.iload 5, 2) := by decide +kernel
theorem dL_read_78 : decode cL_read 78 = .ok (.imul, 1) := by decide +kernel
theorem dL_read_79 : decode cL_read 79 = .ok (.iconst 1, 1) := by decide +kernel
theorem dL_read_80 : decode cL_read 80 = .ok (.iadd, 1) := by decide +kernel
theorem dL_read_81 : decode cL_read 81 = .ok (.dup2, 1) := by decide +kernel
theorem dL_read_82 : decode cL_read 82 = .ok (.iaload, 1) := by decide +kernel
theorem dL_read_83 : decode cL_read 83 = .ok (.iload 7, 2) := by decide +kernel
theorem dL_read_85 : decode cL_read 85 = .ok (.iadd, 1) := by decide +kernel
theorem dL_read_86 : decode cL_read 86 = .ok (.iastore, 1) := by decide +kernel
theorem dL_read_87 : decode cL_read 87 = .ok (.aload_n 2, 1) := by decide +kernel
theorem dL_read_88 : decode cL_read 88 = .ok (.iconst 4, 1) := by decide +kernel
theorem dL_read_89 : decode cL_read 89 = .ok (.iload 5, 2) := by decide +kernel
theorem dL_read_91 : decode cL_read 91 = .ok (.imul, 1) := by decide +kernel
theorem dL_read_92 : decode cL_read 92 = .ok (.iconst 2, 1) := by decide +kernel
theorem dL_read_93 : decode cL_read 93 = .ok (.iadd, 1) := by decide +kernel
theorem dL_read_94 : decode cL_read 94 = .ok (.dup2, 1) := by decide +kernel
theorem dL_read_95 : decode cL_read 95 = .ok (.iaload, 1) := by decide +kernel
theorem dL_read_96 : decode cL_read 96 = .ok (.aload_n 1, 1) := by decide +kernel
theorem dL_read_97 : decode cL_read 97 = .ok (.iconst 4, 1) := by decide +kernel
theorem dL_read_98 : decode cL_read 98 = .ok (.iload 5, 2) := by decide +kernel
theorem dL_read_100 : decode cL_read 100 = .ok (.imul, 1) := by decide +kernel
theorem dL_read_101 : decode cL_read 101 = .ok (.iaload, 1) := by decide +kernel
theorem dL_read_102 : decode cL_read 102 = .ok (.ifCond .le 7, 3) := by decide +kernel
theorem dL_read_105 : decode cL_read 105 = .ok (.iconst 1, 1) := by decide +kernel
theorem dL_read_106 : decode cL_read 106 = .ok (.goto 4, 3) := by decide +kernel
theorem dL_read_109 : decode cL_read 109 = .ok (.iconst 0, 1) := by decide +kernel
theorem dL_read_110 : decode cL_read 110 = .ok (.iadd, 1) := by decide +kernel
theorem dL_read_111 : decode cL_read 111 = .ok (.iastore, 1) := by decide +kernel
theorem dL_read_112 : decode cL_read 112 = .ok (.aload_n 2, 1) := by decide +kernel
theorem dL_read_113 : decode cL_read 113 = .ok (.iconst 4, 1) := by decide +kernel
theorem dL_read_114 : decode cL_read 114 = .ok (.iload 5, 2) := by decide +kernel
theorem dL_read_116 : decode cL_read 116 = .ok (.imul, 1) := by decide +kernel
theorem dL_read_117 : decode cL_read 117 = .ok (.iconst 3, 1) := by decide +kernel
theorem dL_read_118 : decode cL_read 118 = .ok (.iadd, 1) := by decide +kernel
theorem dL_read_119 : decode cL_read 119 = .ok (.dup2, 1) := by decide +kernel
theorem dL_read_120 : decode cL_read 120 = .ok (.iaload, 1) := by decide +kernel
theorem dL_read_121 : decode cL_read 121 = .ok (.aload_n 1, 1) := by decide +kernel
theorem dL_read_122 : decode cL_read 122 = .ok (.iconst 4, 1) := by decide +kernel
theorem dL_read_123 : decode cL_read 123 = .ok (.iload 5, 2) := by decide +kernel
theorem dL_read_125 : decode cL_read 125 = .ok (.imul, 1) := by decide +kernel
theorem dL_read_126 : decode cL_read 126 = .ok (.iaload, 1) := by decide +kernel
theorem dL_read_127 : decode cL_read 127 = .ok (.ifCond .ge 7, 3) := by decide +kernel
theorem dL_read_130 : decode cL_read 130 = .ok (.iconst 1, 1) := by decide +kernel
theorem dL_read_131 : decode cL_read 131 = .ok (.goto 4, 3) := by decide +kernel
theorem dL_read_134 : decode cL_read 134 = .ok (.iconst 0, 1) := by decide +kernel
theorem dL_read_135 : decode cL_read 135 = .ok (.iadd, 1) := by decide +kernel
theorem dL_read_136 : decode cL_read 136 = .ok (.iastore, 1) := by decide +kernel
theorem dL_read_137 : decode cL_read 137 = .ok (.aload 4, 2) := by decide +kernel
theorem dL_read_139 : decode cL_read 139 = .ok (.iconst 2, 1) := by decide +kernel
theorem dL_read_140 : decode cL_read 140 = .ok (.dup2, 1) := by decide +kernel
theorem dL_read_141 : decode cL_read 141 = .ok (.iaload, 1) := by decide +kernel
theorem dL_read_142 : decode cL_read 142 = .ok (.iconst 1, 1) := by decide +kernel
theorem dL_read_143 : decode cL_read 143 = .ok (.iadd, 1) := by decide +kernel
theorem dL_read_144 : decode cL_read 144 = .ok (.iastore, 1) := by decide +kernel
theorem dL_read_145 : decode cL_read 145 = .ok (.aload 4, 2) := by decide +kernel
theorem dL_read_147 : decode cL_read 147 = .ok (.iconst 3, 1) := by decide +kernel
theorem dL_read_148 : decode cL_read 148 = .ok (.dup2, 1) := by decide +kernel
theorem dL_read_149 : decode cL_read 149 = .ok (.iaload, 1) := by decide +kernel
theorem dL_read_150 : decode cL_read 150 = .ok (.iload 7, 2) := by decide +kernel
theorem dL_read_152 : decode cL_read 152 = .ok (.iadd, 1) := by decide +kernel
theorem dL_read_153 : decode cL_read 153 = .ok (.iastore, 1) := by decide +kernel
theorem dL_read_154 : decode cL_read 154 = .ok (.aload 4, 2) := by decide +kernel
theorem dL_read_156 : decode cL_read 156 = .ok (.iconst 4, 1) := by decide +kernel
theorem dL_read_157 : decode cL_read 157 = .ok (.dup2, 1) := by decide +kernel
theorem dL_read_158 : decode cL_read 158 = .ok (.iaload, 1) := by decide +kernel
theorem dL_read_159 : decode cL_read 159 = .ok (.iload 7, 2) := by decide +kernel
theorem dL_read_161 : decode cL_read 161 = .ok (.aload 4, 2) := by decide +kernel
theorem dL_read_163 : decode cL_read 163 = .ok (.bipush 11, 2) := by decide +kernel
theorem dL_read_165 : decode cL_read 165 = .ok (.iaload, 1) := by decide +kernel
theorem dL_read_166 : decode cL_read 166 = .ok (.imul, 1) := by decide +kernel
theorem dL_read_167 : decode cL_read 167 = .ok (.iadd, 1) := by decide +kernel
theorem dL_read_168 : decode cL_read 168 = .ok (.iastore, 1) := by decide +kernel
theorem dL_read_169 : decode cL_read 169 = .ok (.aload 4, 2) := by decide +kernel
theorem dL_read_171 : decode cL_read 171 = .ok (.iconst 5, 1) := by decide +kernel
theorem dL_read_172 : decode cL_read 172 = .ok (.dup2, 1) := by decide +kernel
theorem dL_read_173 : decode cL_read 173 = .ok (.iaload, 1) := by decide +kernel
theorem dL_read_174 : decode cL_read 174 = .ok (.iload 6, 2) := by decide +kernel
theorem dL_read_176 : decode cL_read 176 = .ok (.iadd, 1) := by decide +kernel
theorem dL_read_177 : decode cL_read 177 = .ok (.iastore, 1) := by decide +kernel
theorem dL_read_178 : decode cL_read 178 = .ok (.aload 4, 2) := by decide +kernel
theorem dL_read_180 : decode cL_read 180 = .ok (.bipush 9, 2) := by decide +kernel
theorem dL_read_182 : decode cL_read 182 = .ok (.dup2, 1) := by decide +kernel
theorem dL_read_183 : decode cL_read 183 = .ok (.iaload, 1) := by decide +kernel
theorem dL_read_184 : decode cL_read 184 = .ok (.aload 4, 2) := by decide +kernel
theorem dL_read_186 : decode cL_read 186 = .ok (.bipush 9, 2) := by decide +kernel
theorem dL_read_188 : decode cL_read 188 = .ok (.iaload, 1) := by decide +kernel
theorem dL_read_189 : decode cL_read 189 = .ok (.bipush 10, 2) := by decide +kernel
theorem dL_read_191 : decode cL_read 191 = .ok (.if_icmp .ge 7, 3) := by decide +kernel
theorem dL_read_194 : decode cL_read 194 = .ok (.iconst 1, 1) := by decide +kernel
theorem dL_read_195 : decode cL_read 195 = .ok (.goto 4, 3) := by decide +kernel
theorem dL_read_198 : decode cL_read 198 = .ok (.iconst 0, 1) := by decide +kernel
theorem dL_read_199 : decode cL_read 199 = .ok (.iadd, 1) := by decide +kernel
theorem dL_read_200 : decode cL_read 200 = .ok (.iastore, 1) := by decide +kernel
theorem dL_read_201 : decode cL_read 201 = .ok (.bipush 59, 2) := by decide +kernel
theorem dL_read_203 : decode cL_read 203 = .ok (.istore 8, 2) := by decide +kernel
theorem dL_read_205 : decode cL_read 205 = .ok (.iload 8, 2) := by decide +kernel
theorem dL_read_207 : decode cL_read 207 = .ok (.iconst 5, 1) := by decide +kernel
theorem dL_read_208 : decode cL_read 208 = .ok (.if_icmp .le 20, 3) := by decide +kernel
theorem dL_read_211 : decode cL_read 211 = .ok (.aload_n 3, 1) := by decide +kernel
theorem dL_read_212 : decode cL_read 212 = .ok (.iload 8, 2) := by decide +kernel
theorem dL_read_214 : decode cL_read 214 = .ok (.aload_n 3, 1) := by decide +kernel
theorem dL_read_215 : decode cL_read 215 = .ok (.iload 8, 2) := by decide +kernel
theorem dL_read_217 : decode cL_read 217 = .ok (.bipush 6, 2) := by decide +kernel
theorem dL_read_219 : decode cL_read 219 = .ok (.isub, 1) := by decide +kernel
theorem dL_read_220 : decode cL_read 220 = .ok (.iaload, 1) := by decide +kernel
theorem dL_read_221 : decode cL_read 221 = .ok (.iastore, 1) := by decide +kernel
theorem dL_read_222 : decode cL_read 222 = .ok (.iinc 8 (-1), 3) := by decide +kernel
theorem dL_read_225 : decode cL_read 225 = .ok (.goto (-20), 3) := by decide +kernel
theorem dL_read_228 : decode cL_read 228 = .ok (.aload_n 3, 1) := by decide +kernel
theorem dL_read_229 : decode cL_read 229 = .ok (.iconst 0, 1) := by decide +kernel
theorem dL_read_230 : decode cL_read 230 = .ok (.aload 4, 2) := by decide +kernel
theorem dL_read_232 : decode cL_read 232 = .ok (.iconst 0, 1) := by decide +kernel
theorem dL_read_233 : decode cL_read 233 = .ok (.iaload, 1) := by decide +kernel
theorem dL_read_234 : decode cL_read 234 = .ok (.iastore, 1) := by decide +kernel
theorem dL_read_235 : decode cL_read 235 = .ok (.aload_n 3, 1) := by decide +kernel
theorem dL_read_236 : decode cL_read 236 = .ok (.iconst 1, 1) := by decide +kernel
theorem dL_read_237 : decode cL_read 237 = .ok (.iload 5, 2) := by decide +kernel
theorem dL_read_239 : decode cL_read 239 = .ok (.iastore, 1) := by decide +kernel
theorem dL_read_240 : decode cL_read 240 = .ok (.aload_n 3, 1) := by decide +kernel
theorem dL_read_241 : decode cL_read 241 = .ok (.iconst 2, 1) := by decide +kernel
theorem dL_read_242 : decode cL_read 242 = .ok (.iload 6, 2) := by decide +kernel
theorem dL_read_244 : decode cL_read 244 = .ok (.iastore, 1) := by decide +kernel
theorem dL_read_245 : decode cL_read 245 = .ok (.aload_n 3, 1) := by decide +kernel
theorem dL_read_246 : decode cL_read 246 = .ok (.iconst 3, 1) := by decide +kernel
theorem dL_read_247 : decode cL_read 247 = .ok (.iload 7, 2) := by decide +kernel
theorem dL_read_249 : decode cL_read 249 = .ok (.iastore, 1) := by decide +kernel
theorem dL_read_250 : decode cL_read 250 = .ok (.aload_n 3, 1) := by decide +kernel
theorem dL_read_251 : decode cL_read 251 = .ok (.iconst 4, 1) := by decide +kernel
theorem dL_read_252 : decode cL_read 252 = .ok (.iload 6, 2) := by decide +kernel
theorem dL_read_254 : decode cL_read 254 = .ok (.bipush 100, 2) := by decide +kernel
theorem dL_read_256 : decode cL_read 256 = .ok (.irem, 1) := by decide +kernel
theorem dL_read_257 : decode cL_read 257 = .ok (.ifCond .ne 7, 3) := by decide +kernel
theorem dL_read_260 : decode cL_read 260 = .ok (.iconst 2, 1) := by decide +kernel
theorem dL_read_261 : decode cL_read 261 = .ok (.goto 18, 3) := by decide +kernel
theorem dL_read_264 : decode cL_read 264 = .ok (.iload 7, 2) := by decide +kernel
theorem dL_read_266 : decode cL_read 266 = .ok (.iload 6, 2) := by decide +kernel
theorem dL_read_268 : decode cL_read 268 = .ok (.bipush 100, 2) := by decide +kernel
theorem dL_read_270 : decode cL_read 270 = .ok (.idiv, 1) := by decide +kernel
theorem dL_read_271 : decode cL_read 271 = .ok (.if_icmp .le 7, 3) := by decide +kernel
theorem dL_read_274 : decode cL_read 274 = .ok (.iconst 1, 1) := by decide +kernel
theorem dL_read_275 : decode cL_read 275 = .ok (.goto 4, 3) := by decide +kernel
theorem dL_read_278 : decode cL_read 278 = .ok (.iconst 0, 1) := by decide +kernel
theorem dL_read_279 : decode cL_read 279 = .ok (.iastore, 1) := by decide +kernel
theorem dL_read_280 : decode cL_read 280 = .ok (.aload_n 3, 1) := by decide +kernel
theorem dL_read_281 : decode cL_read 281 = .ok (.iconst 5, 1) := by decide +kernel
theorem dL_read_282 : decode cL_read 282 = .ok (.aload_n 1, 1) := by decide +kernel
theorem dL_read_283 : decode cL_read 283 = .ok (.iconst 4, 1) := by decide +kernel
theorem dL_read_284 : decode cL_read 284 = .ok (.iload 5, 2) := by decide +kernel
theorem dL_read_286 : decode cL_read 286 = .ok (.imul, 1) := by decide +kernel
theorem dL_read_287 : decode cL_read 287 = .ok (.iaload, 1) := by decide +kernel
theorem dL_read_288 : decode cL_read 288 = .ok (.sipush 1000, 3) := by decide +kernel
theorem dL_read_291 : decode cL_read 291 = .ok (.iadd, 1) := by decide +kernel
theorem dL_read_292 : decode cL_read 292 = .ok (.iastore, 1) := by decide +kernel
theorem dL_read_293 : decode cL_read 293 = .ok (.iload 7, 2) := by decide +kernel
theorem dL_read_295 : decode cL_read 295 = .ok (.ireturn, 1) := by decide +kernel
theorem dL_at_0 : decode cL_at 0 = .ok (.iconst 0, 1) := by decide +kernel
theorem dL_at_1 : decode cL_at 1 = .ok (.istore 4, 2) := by decide +kernel
theorem dL_at_3 : decode cL_at 3 = .ok (.iload 4, 2) := by decide +kernel
theorem dL_at_5 : decode cL_at 5 = .ok (.aload_n 1, 1) := by decide +kernel
theorem dL_at_6 : decode cL_at 6 = .ok (.iconst 1, 1) := by decide +kernel
theorem dL_at_7 : decode cL_at 7 = .ok (.iaload, 1) := by decide +kernel
theorem dL_at_8 : decode cL_at 8 = .ok (.if_icmp .ge 34, 3) := by decide +kernel
theorem dL_at_11 : decode cL_at 11 = .ok (.aload_n 0, 1) := by decide +kernel
theorem dL_at_12 : decode cL_at 12 = .ok (.iconst 4, 1) := by decide +kernel
theorem dL_at_13 : decode cL_at 13 = .ok (.iload 4, 2) := by decide +kernel
theorem dL_at_15 : decode cL_at 15 = .ok (.imul, 1) := by decide +kernel
theorem dL_at_16 : decode cL_at 16 = .ok (.iaload, 1) := by decide +kernel
theorem dL_at_17 : decode cL_at 17 = .ok (.iload_n 2, 1) := by decide +kernel
theorem dL_at_18 : decode cL_at 18 = .ok (.if_icmp .ne 18, 3) := by decide +kernel
theorem dL_at_21 : decode cL_at 21 = .ok (.aload_n 0, 1) := by decide +kernel
theorem dL_at_22 : decode cL_at 22 = .ok (.iconst 4, 1) := by decide +kernel
theorem dL_at_23 : decode cL_at 23 = .ok (.iload 4, 2) := by decide +kernel
theorem dL_at_25 : decode cL_at 25 = .ok (.imul, 1) := by decide +kernel
theorem dL_at_26 : decode cL_at 26 = .ok (.iconst 1, 1) := by decide +kernel
theorem dL_at_27 : decode cL_at 27 = .ok (.iadd, 1) := by decide +kernel
theorem dL_at_28 : decode cL_at 28 = .ok (.iaload, 1) := by decide +kernel
theorem dL_at_29 : decode cL_at 29 = .ok (.iload_n 3, 1) := by decide +kernel
theorem dL_at_30 : decode cL_at 30 = .ok (.if_icmp .ne 6, 3) := by decide +kernel
theorem dL_at_33 : decode cL_at 33 = .ok (.iload 4, 2) := by decide +kernel
theorem dL_at_35 : decode cL_at 35 = .ok (.ireturn, 1) := by decide +kernel
theorem dL_at_36 : decode cL_at 36 = .ok (.iinc 4 1, 3) := by decide +kernel
theorem dL_at_39 : decode cL_at 39 = .ok (.goto (-36), 3) := by decide +kernel
theorem dL_at_42 : decode cL_at 42 = .ok (.iconst (-1), 1) := by decide +kernel
theorem dL_at_43 : decode cL_at 43 = .ok (.ireturn, 1) := by decide +kernel
set_option maxRecDepth 20000 in
theorem ggL_round_L_at : GoodIn wsL_round wsL_at := goodIn_rB _ [4] (by decide +kernel) (by decide +kernel)
set_option maxRecDepth 20000 in
theorem gL_round_L_at : GoodIn wsL_round (va_wsS RL 20 yL_at wsL_at) := goodIn_app (goodIn_of _ (by decide +kernel)) ggL_round_L_at
theorem dL_round_0 : decode cL_round 0 = .ok (.iconst 0, 1) := by decide +kernel
theorem dL_round_1 : decode cL_round 1 = .ok (.istore 4, 2) := by decide +kernel
theorem dL_round_3 : decode cL_round 3 = .ok (.iconst 0, 1) := by decide +kernel
theorem dL_round_4 : decode cL_round 4 = .ok (.istore 5, 2) := by decide +kernel
theorem dL_round_6 : decode cL_round 6 = .ok (.iconst 0, 1) := by decide +kernel
theorem dL_round_7 : decode cL_round 7 = .ok (.istore 6, 2) := by decide +kernel
theorem dL_round_9 : decode cL_round 9 = .ok (.iload 6, 2) := by decide +kernel
theorem dL_round_11 : decode cL_round 11 = .ok (.bipush 20, 2) := by decide +kernel
theorem dL_round_13 : decode cL_round 13 = .ok (.if_icmp .ge 76, 3) := by decide +kernel
theorem dL_round_16 : decode cL_round 16 = .ok (.aload_n 0, 1) := by decide +kernel
theorem dL_round_17 : decode cL_round 17 = .ok (.aload_n 2, 1) := by decide +kernel
theorem dL_round_18 : decode cL_round 18 = .ok (.iload_n 3, 1) := by decide +kernel
theorem dL_round_19 : decode cL_round 19 = .ok (.iload 6, 2) := by decide +kernel
theorem dL_round_21 : decode cL_round 21 = .ok (.bipush 10, 2) := by decide +kernel
theorem dL_round_23 : decode cL_round 23 = .ok (.if_icmp .ge 12, 3) := by decide +kernel
theorem dL_round_26 : decode cL_round 26 = .ok (.iconst 2, 1) := by decide +kernel
theorem dL_round_27 : decode cL_round 27 = .ok (.iload 6, 2) := by decide +kernel
theorem dL_round_29 : decode cL_round 29 = .ok (.imul, 1) := by decide +kernel
theorem dL_round_30 : decode cL_round 30 = .ok (.iconst 1, 1) := by decide +kernel
theorem dL_round_31 : decode cL_round 31 = .ok (.iadd, 1) := by decide +kernel
theorem dL_round_32 : decode cL_round 32 = .ok (.goto 10, 3) := by decide +kernel
theorem dL_round_35 : decode cL_round 35 = .ok (.bipush 40, 2) := by decide +kernel
theorem dL_round_37 : decode cL_round 37 = .ok (.iconst 2, 1) := by decide +kernel
theorem dL_round_38 : decode cL_round 38 = .ok (.iload 6, 2) := by decide +kernel
theorem dL_round_40 : decode cL_round 40 = .ok (.imul, 1) := by decide +kernel
theorem dL_round_41 : decode cL_round 41 = .ok (.isub, 1) := by decide +kernel
theorem dL_round_42 : decode cL_round 42 = .ok (.invokestatic 20, 3) := by decide +kernel
theorem dL_round_45 : decode cL_round 45 = .ok (.istore 7, 2) := by decide +kernel
theorem dL_round_47 : decode cL_round 47 = .ok (.iload 7, 2) := by decide +kernel
theorem dL_round_49 : decode cL_round 49 = .ok (.ifCond .lt 34, 3) := by decide +kernel
theorem dL_round_52 : decode cL_round 52 = .ok (.aload_n 1, 1) := by decide +kernel
theorem dL_round_53 : decode cL_round 53 = .ok (.bipush 24, 2) := by decide +kernel
theorem dL_round_55 : decode cL_round 55 = .ok (.iload 4, 2) := by decide +kernel
theorem dL_round_57 : decode cL_round 57 = .ok (.iadd, 1) := by decide +kernel
theorem dL_round_58 : decode cL_round 58 = .ok (.iload 7, 2) := by decide +kernel
theorem dL_round_60 : decode cL_round 60 = .ok (.iastore, 1) := by decide +kernel
theorem dL_round_61 : decode cL_round 61 = .ok (.iinc 4 1, 3) := by decide +kernel
theorem dL_round_64 : decode cL_round 64 = .ok (.aload_n 1, 1) := by decide +kernel
theorem dL_round_65 : decode cL_round 65 = .ok (.iload_n 3, 1) := by decide +kernel
theorem dL_round_66 : decode cL_round 66 = .ok (.iaload, 1) := by decide +kernel
theorem dL_round_67 : decode cL_round 67 = .ok (.iload 7, 2) := by decide +kernel
theorem dL_round_69 : decode cL_round 69 = .ok (.iconst 1, 1) := by decide +kernel
theorem dL_round_70 : decode cL_round 70 = .ok (.iadd, 1) := by decide +kernel
theorem dL_round_71 : decode cL_round 71 = .ok (.if_icmp .ne 8, 3) := by decide +kernel
theorem dL_round_74 : decode cL_round 74 = .ok (.iload 4, 2) := by decide +kernel
theorem dL_round_76 : decode cL_round 76 = .ok (.goto 5, 3) := by decide +kernel
theorem dL_round_79 : decode cL_round 79 = .ok (.iload 5, 2) := by decide +kernel
theorem dL_round_81 : decode cL_round 81 = .ok (.istore 5, 2) := by decide +kernel
theorem dL_round_83 : decode cL_round 83 = .ok (.iinc 6 1, 3) := by decide +kernel
theorem dL_round_86 : decode cL_round 86 = .ok (.goto (-77), 3) := by decide +kernel
theorem dL_round_89 : decode cL_round 89 = .ok (.iconst 0, 1) := by decide +kernel
theorem dL_round_90 : decode cL_round 90 = .ok (.istore 6, 2) := by decide +kernel
theorem dL_round_92 : decode cL_round 92 = .ok (.iload 6, 2) := by decide +kernel
theorem dL_round_94 : decode cL_round 94 = .ok (.iload 4, 2) := by decide +kernel
theorem dL_round_96 : decode cL_round 96 = .ok (.if_icmp .ge 28, 3) := by decide +kernel
theorem dL_round_99 : decode cL_round 99 = .ok (.aload_n 1, 1) := by decide +kernel
theorem dL_round_100 : decode cL_round 100 = .ok (.iconst 4, 1) := by decide +kernel
theorem dL_round_101 : decode cL_round 101 = .ok (.iload 6, 2) := by decide +kernel
theorem dL_round_103 : decode cL_round 103 = .ok (.iadd, 1) := by decide +kernel
theorem dL_round_104 : decode cL_round 104 = .ok (.aload_n 1, 1) := by decide +kernel
theorem dL_round_105 : decode cL_round 105 = .ok (.bipush 24, 2) := by decide +kernel
theorem dL_round_107 : decode cL_round 107 = .ok (.iload 5, 2) := by decide +kernel
theorem dL_round_109 : decode cL_round 109 = .ok (.iload 6, 2) := by decide +kernel
theorem dL_round_111 : decode cL_round 111 = .ok (.iadd, 1) := by decide +kernel
theorem dL_round_112 : decode cL_round 112 = .ok (.iload 4, 2) := by decide +kernel
theorem dL_round_114 : decode cL_round 114 = .ok (.irem, 1) := by decide +kernel
theorem dL_round_115 : decode cL_round 115 = .ok (.iadd, 1) := by decide +kernel
theorem dL_round_116 : decode cL_round 116 = .ok (.iaload, 1) := by decide +kernel
theorem dL_round_117 : decode cL_round 117 = .ok (.iastore, 1) := by decide +kernel
theorem dL_round_118 : decode cL_round 118 = .ok (.iinc 6 1, 3) := by decide +kernel
theorem dL_round_121 : decode cL_round 121 = .ok (.goto (-29), 3) := by decide +kernel
theorem dL_round_124 : decode cL_round 124 = .ok (.iload 4, 2) := by decide +kernel
theorem dL_round_126 : decode cL_round 126 = .ok (.ireturn, 1) := by decide +kernel
set_option maxRecDepth 20000 in
theorem ggL_day_L_round : GoodIn wsL_day wsL_round := goodIn_rB _ [6, 7, 8, 5, 9] (by decide +kernel) (by decide +kernel)
set_option maxRecDepth 20000 in
theorem gL_day_L_round : GoodIn wsL_day (va_wsS RL 25 yL_round wsL_round) := goodIn_app (goodIn_of _ (by decide +kernel)) ggL_day_L_round
set_option maxRecDepth 20000 in
theorem ggL_day_L_why : GoodIn wsL_day wsL_why := goodIn_rB _ [12] (by decide +kernel) (by decide +kernel)
set_option maxRecDepth 20000 in
theorem gL_day_L_why : GoodIn wsL_day (va_wsS RL 29 yL_why wsL_why) := goodIn_app (goodIn_of _ (by decide +kernel)) ggL_day_L_why
set_option maxRecDepth 20000 in
theorem ggL_day_L_read : GoodIn wsL_day wsL_read := goodIn_rB _ [15, 16, 17, 5, 18, 2, 19, 20, 21] (by decide +kernel) (by decide +kernel)
set_option maxRecDepth 20000 in
theorem gL_day_L_read : GoodIn wsL_day (va_wsS RL 32 yL_read wsL_read) := goodIn_app (goodIn_of _ (by decide +kernel)) ggL_day_L_read
theorem dL_day_0 : decode cL_day 0 = .ok (.iconst 0, 1) := by decide +kernel
theorem dL_day_1 : decode cL_day 1 = .ok (.istore 7, 2) := by decide +kernel
theorem dL_day_3 : decode cL_day 3 = .ok (.iload 7, 2) := by decide +kernel
theorem dL_day_5 : decode cL_day 5 = .ok (.aload 6, 2) := by decide +kernel
theorem dL_day_7 : decode cL_day 7 = .ok (.iconst 1, 1) := by decide +kernel
theorem dL_day_8 : decode cL_day 8 = .ok (.iaload, 1) := by decide +kernel
theorem dL_day_9 : decode cL_day 9 = .ok (.if_icmp .ge 58, 3) := by decide +kernel
theorem dL_day_12 : decode cL_day 12 = .ok (.aload_n 0, 1) := by decide +kernel
theorem dL_day_13 : decode cL_day 13 = .ok (.iconst 4, 1) := by decide +kernel
theorem dL_day_14 : decode cL_day 14 = .ok (.iload 7, 2) := by decide +kernel
theorem dL_day_16 : decode cL_day 16 = .ok (.imul, 1) := by decide +kernel
theorem dL_day_17 : decode cL_day 17 = .ok (.iconst 2, 1) := by decide +kernel
theorem dL_day_18 : decode cL_day 18 = .ok (.iadd, 1) := by decide +kernel
theorem dL_day_19 : decode cL_day 19 = .ok (.dup2, 1) := by decide +kernel
theorem dL_day_20 : decode cL_day 20 = .ok (.iaload, 1) := by decide +kernel
theorem dL_day_21 : decode cL_day 21 = .ok (.aload_n 1, 1) := by decide +kernel
theorem dL_day_22 : decode cL_day 22 = .ok (.iconst 4, 1) := by decide +kernel
theorem dL_day_23 : decode cL_day 23 = .ok (.iload 7, 2) := by decide +kernel
theorem dL_day_25 : decode cL_day 25 = .ok (.imul, 1) := by decide +kernel
theorem dL_day_26 : decode cL_day 26 = .ok (.iconst 1, 1) := by decide +kernel
theorem dL_day_27 : decode cL_day 27 = .ok (.iadd, 1) := by decide +kernel
theorem dL_day_28 : decode cL_day 28 = .ok (.iaload, 1) := by decide +kernel
theorem dL_day_29 : decode cL_day 29 = .ok (.iadd, 1) := by decide +kernel
theorem dL_day_30 : decode cL_day 30 = .ok (.iastore, 1) := by decide +kernel
theorem dL_day_31 : decode cL_day 31 = .ok (.aload_n 0, 1) := by decide +kernel
theorem dL_day_32 : decode cL_day 32 = .ok (.iconst 4, 1) := by decide +kernel
theorem dL_day_33 : decode cL_day 33 = .ok (.iload 7, 2) := by decide +kernel
theorem dL_day_35 : decode cL_day 35 = .ok (.imul, 1) := by decide +kernel
theorem dL_day_36 : decode cL_day 36 = .ok (.iconst 2, 1) := by decide +kernel
theorem dL_day_37 : decode cL_day 37 = .ok (.iadd, 1) := by decide +kernel
theorem dL_day_38 : decode cL_day 38 = .ok (.dup2, 1) := by decide +kernel
theorem dL_day_39 : decode cL_day 39 = .ok (.iaload, 1) := by decide +kernel
theorem dL_day_40 : decode cL_day 40 = .ok (.aload_n 0, 1) := by decide +kernel
theorem dL_day_41 : decode cL_day 41 = .ok (.iconst 4, 1) := by decide +kernel
theorem dL_day_42 : decode cL_day 42 = .ok (.iload 7, 2) := by decide +kernel
theorem dL_day_44 : decode cL_day 44 = .ok (.imul, 1) := by decide +kernel
theorem dL_day_45 : decode cL_day 45 = .ok (.iconst 2, 1) := by decide +kernel
theorem dL_day_46 : decode cL_day 46 = .ok (.iadd, 1) := by decide +kernel
theorem dL_day_47 : decode cL_day 47 = .ok (.iaload, 1) := by decide +kernel
theorem dL_day_48 : decode cL_day 48 = .ok (.ldc 24, 2) := by decide +kernel
theorem dL_day_50 : decode cL_day 50 = .ok (.if_icmp .le 8, 3) := by decide +kernel
theorem dL_day_53 : decode cL_day 53 = .ok (.ldc 9, 2) := by decide +kernel
theorem dL_day_55 : decode cL_day 55 = .ok (.goto 4, 3) := by decide +kernel
theorem dL_day_58 : decode cL_day 58 = .ok (.iconst 0, 1) := by decide +kernel
theorem dL_day_59 : decode cL_day 59 = .ok (.isub, 1) := by decide +kernel
theorem dL_day_60 : decode cL_day 60 = .ok (.iastore, 1) := by decide +kernel
theorem dL_day_61 : decode cL_day 61 = .ok (.iinc 7 1, 3) := by decide +kernel
theorem dL_day_64 : decode cL_day 64 = .ok (.goto (-61), 3) := by decide +kernel
theorem dL_day_67 : decode cL_day 67 = .ok (.aload 6, 2) := by decide +kernel
theorem dL_day_69 : decode cL_day 69 = .ok (.iconst 0, 1) := by decide +kernel
theorem dL_day_70 : decode cL_day 70 = .ok (.dup2, 1) := by decide +kernel
theorem dL_day_71 : decode cL_day 71 = .ok (.iaload, 1) := by decide +kernel
theorem dL_day_72 : decode cL_day 72 = .ok (.iconst 1, 1) := by decide +kernel
theorem dL_day_73 : decode cL_day 73 = .ok (.iadd, 1) := by decide +kernel
theorem dL_day_74 : decode cL_day 74 = .ok (.iastore, 1) := by decide +kernel
theorem dL_day_75 : decode cL_day 75 = .ok (.aload 6, 2) := by decide +kernel
theorem dL_day_77 : decode cL_day 77 = .ok (.iconst 0, 1) := by decide +kernel
theorem dL_day_78 : decode cL_day 78 = .ok (.iaload, 1) := by decide +kernel
theorem dL_day_79 : decode cL_day 79 = .ok (.iconst 4, 1) := by decide +kernel
theorem dL_day_80 : decode cL_day 80 = .ok (.irem, 1) := by decide +kernel
theorem dL_day_81 : decode cL_day 81 = .ok (.istore 7, 2) := by decide +kernel
theorem dL_day_83 : decode cL_day 83 = .ok (.aload_n 0, 1) := by decide +kernel
theorem dL_day_84 : decode cL_day 84 = .ok (.aload 4, 2) := by decide +kernel
theorem dL_day_86 : decode cL_day 86 = .ok (.aload 6, 2) := by decide +kernel
theorem dL_day_88 : decode cL_day 88 = .ok (.iload 7, 2) := by decide +kernel
theorem dL_day_90 : decode cL_day 90 = .ok (.invokestatic 25, 3) := by decide +kernel
theorem dL_day_93 : decode cL_day 93 = .ok (.istore 8, 2) := by decide +kernel
theorem dL_day_95 : decode cL_day 95 = .ok (.iconst 0, 1) := by decide +kernel
theorem dL_day_96 : decode cL_day 96 = .ok (.istore 9, 2) := by decide +kernel
theorem dL_day_98 : decode cL_day 98 = .ok (.iconst 0, 1) := by decide +kernel
theorem dL_day_99 : decode cL_day 99 = .ok (.istore 10, 2) := by decide +kernel
theorem dL_day_101 : decode cL_day 101 = .ok (.iload 10, 2) := by decide +kernel
theorem dL_day_103 : decode cL_day 103 = .ok (.iload 8, 2) := by decide +kernel
theorem dL_day_105 : decode cL_day 105 = .ok (.if_icmp .ge 73, 3) := by decide +kernel
theorem dL_day_108 : decode cL_day 108 = .ok (.iload 9, 2) := by decide +kernel
theorem dL_day_110 : decode cL_day 110 = .ok (.aload 6, 2) := by decide +kernel
theorem dL_day_112 : decode cL_day 112 = .ok (.bipush 10, 2) := by decide +kernel
theorem dL_day_114 : decode cL_day 114 = .ok (.iaload, 1) := by decide +kernel
theorem dL_day_115 : decode cL_day 115 = .ok (.if_icmp .ge 63, 3) := by decide +kernel
theorem dL_day_118 : decode cL_day 118 = .ok (.aload 4, 2) := by decide +kernel
theorem dL_day_120 : decode cL_day 120 = .ok (.iconst 4, 1) := by decide +kernel
theorem dL_day_121 : decode cL_day 121 = .ok (.iload 10, 2) := by decide +kernel
theorem dL_day_123 : decode cL_day 123 = .ok (.iadd, 1) := by decide +kernel
theorem dL_day_124 : decode cL_day 124 = .ok (.iaload, 1) := by decide +kernel
theorem dL_day_125 : decode cL_day 125 = .ok (.istore 11, 2) := by decide +kernel
theorem dL_day_127 : decode cL_day 127 = .ok (.aload_n 1, 1) := by decide +kernel
theorem dL_day_128 : decode cL_day 128 = .ok (.aload 6, 2) := by decide +kernel
theorem dL_day_130 : decode cL_day 130 = .ok (.iload 11, 2) := by decide +kernel
theorem dL_day_132 : decode cL_day 132 = .ok (.invokestatic 29, 3) := by decide +kernel
theorem dL_day_135 : decode cL_day 135 = .ok (.ifCond .ne 37, 3) := by decide +kernel
theorem dL_day_138 : decode cL_day 138 = .ok (.iload 9, 2) := by decide +kernel
theorem dL_day_140 : decode cL_day 140 = .ok (.aload_n 0, 1) := by decide +kernel
theorem dL_day_141 : decode cL_day 141 = .ok (.aload_n 1, 1) := by decide +kernel
theorem dL_day_142 : decode cL_day 142 = .ok (.aload_n 2, 1) := by decide +kernel
theorem dL_day_143 : decode cL_day 143 = .ok (.aload 5, 2) := by decide +kernel
theorem dL_day_145 : decode cL_day 145 = .ok (.aload 6, 2) := by decide +kernel
theorem dL_day_147 : decode cL_day 147 = .ok (.iload 11, 2) := by decide +kernel
theorem dL_day_149 : decode cL_day 149 = .ok (.invokestatic 32, 3) := by decide +kernel
theorem dL_day_152 : decode cL_day 152 = .ok (.ifCond .ge 7, 3) := by decide +kernel
theorem dL_day_155 : decode cL_day 155 = .ok (.iconst 0, 1) := by decide +kernel
theorem dL_day_156 : decode cL_day 156 = .ok (.goto 4, 3) := by decide +kernel
theorem dL_day_159 : decode cL_day 159 = .ok (.iconst 1, 1) := by decide +kernel
theorem dL_day_160 : decode cL_day 160 = .ok (.iadd, 1) := by decide +kernel
theorem dL_day_161 : decode cL_day 161 = .ok (.istore 9, 2) := by decide +kernel
theorem dL_day_163 : decode cL_day 163 = .ok (.aload 4, 2) := by decide +kernel
theorem dL_day_165 : decode cL_day 165 = .ok (.iload 7, 2) := by decide +kernel
theorem dL_day_167 : decode cL_day 167 = .ok (.iload 11, 2) := by decide +kernel
theorem dL_day_169 : decode cL_day 169 = .ok (.iconst 1, 1) := by decide +kernel
theorem dL_day_170 : decode cL_day 170 = .ok (.iadd, 1) := by decide +kernel
theorem dL_day_171 : decode cL_day 171 = .ok (.iastore, 1) := by decide +kernel
theorem dL_day_172 : decode cL_day 172 = .ok (.iinc 10 1, 3) := by decide +kernel
theorem dL_day_175 : decode cL_day 175 = .ok (.goto (-74), 3) := by decide +kernel
theorem dL_day_178 : decode cL_day 178 = .ok (.aload 6, 2) := by decide +kernel
theorem dL_day_180 : decode cL_day 180 = .ok (.iconst 0, 1) := by decide +kernel
theorem dL_day_181 : decode cL_day 181 = .ok (.iaload, 1) := by decide +kernel
theorem dL_day_182 : decode cL_day 182 = .ok (.aload 6, 2) := by decide +kernel
theorem dL_day_184 : decode cL_day 184 = .ok (.bipush 13, 2) := by decide +kernel
theorem dL_day_186 : decode cL_day 186 = .ok (.iaload, 1) := by decide +kernel
theorem dL_day_187 : decode cL_day 187 = .ok (.irem, 1) := by decide +kernel
theorem dL_day_188 : decode cL_day 188 = .ok (.ifCond .ne 87, 3) := by decide +kernel
theorem dL_day_191 : decode cL_day 191 = .ok (.aload 6, 2) := by decide +kernel
theorem dL_day_193 : decode cL_day 193 = .ok (.bipush 8, 2) := by decide +kernel
theorem dL_day_195 : decode cL_day 195 = .ok (.dup2, 1) := by decide +kernel
theorem dL_day_196 : decode cL_day 196 = .ok (.iaload, 1) := by decide +kernel
theorem dL_day_197 : decode cL_day 197 = .ok (.iconst 1, 1) := by decide +kernel
theorem dL_day_198 : decode cL_day 198 = .ok (.iadd, 1) := by decide +kernel
theorem dL_day_199 : decode cL_day 199 = .ok (.iastore, 1) := by decide +kernel
theorem dL_day_200 : decode cL_day 200 = .ok (.iconst 0, 1) := by decide +kernel
theorem dL_day_201 : decode cL_day 201 = .ok (.istore 10, 2) := by decide +kernel
theorem dL_day_203 : decode cL_day 203 = .ok (.iload 10, 2) := by decide +kernel
theorem dL_day_205 : decode cL_day 205 = .ok (.aload 6, 2) := by decide +kernel
theorem dL_day_207 : decode cL_day 207 = .ok (.iconst 1, 1) := by decide +kernel
theorem dL_day_208 : decode cL_day 208 = .ok (.iaload, 1) := by decide +kernel
theorem dL_day_209 : decode cL_day 209 = .ok (.if_icmp .ge 66, 3) := by decide +kernel
theorem dL_day_212 : decode cL_day 212 = .ok (.aload_n 1, 1) := by decide +kernel
theorem dL_day_213 : decode cL_day 213 = .ok (.iconst 4, 1) := by decide +kernel
theorem dL_day_214 : decode cL_day 214 = .ok (.iload 10, 2) := by decide +kernel
theorem dL_day_216 : decode cL_day 216 = .ok (.imul, 1) := by decide +kernel
theorem dL_day_217 : decode cL_day 217 = .ok (.iaload, 1) := by decide +kernel
theorem dL_day_218 : decode cL_day 218 = .ok (.aload 6, 2) := by decide +kernel
theorem dL_day_220 : decode cL_day 220 = .ok (.bipush 12, 2) := by decide +kernel
theorem dL_day_222 : decode cL_day 222 = .ok (.iaload, 1) := by decide +kernel
theorem dL_day_223 : decode cL_day 223 = .ok (.if_icmp .lt 46, 3) := by decide +kernel
theorem dL_day_226 : decode cL_day 226 = .ok (.aload_n 1, 1) := by decide +kernel
theorem dL_day_227 : decode cL_day 227 = .ok (.iconst 4, 1) := by decide +kernel
theorem dL_day_228 : decode cL_day 228 = .ok (.iload 10, 2) := by decide +kernel
theorem dL_day_230 : decode cL_day 230 = .ok (.imul, 1) := by decide +kernel
theorem dL_day_231 : decode cL_day 231 = .ok (.dup2, 1) := by decide +kernel
theorem dL_day_232 : decode cL_day 232 = .ok (.iaload, 1) := by decide +kernel
theorem dL_day_233 : decode cL_day 233 = .ok (.bipush 100, 2) := by decide +kernel
theorem dL_day_235 : decode cL_day 235 = .ok (.isub, 1) := by decide +kernel
theorem dL_day_236 : decode cL_day 236 = .ok (.iastore, 1) := by decide +kernel
theorem dL_day_237 : decode cL_day 237 = .ok (.aload_n 3, 1) := by decide +kernel
theorem dL_day_238 : decode cL_day 238 = .ok (.iconst 2, 1) := by decide +kernel
theorem dL_day_239 : decode cL_day 239 = .ok (.iload 10, 2) := by decide +kernel
theorem dL_day_241 : decode cL_day 241 = .ok (.imul, 1) := by decide +kernel
theorem dL_day_242 : decode cL_day 242 = .ok (.dup2, 1) := by decide +kernel
theorem dL_day_243 : decode cL_day 243 = .ok (.iaload, 1) := by decide +kernel
theorem dL_day_244 : decode cL_day 244 = .ok (.iconst 1, 1) := by decide +kernel
theorem dL_day_245 : decode cL_day 245 = .ok (.iadd, 1) := by decide +kernel
theorem dL_day_246 : decode cL_day 246 = .ok (.iastore, 1) := by decide +kernel
theorem dL_day_247 : decode cL_day 247 = .ok (.aload 6, 2) := by decide +kernel
theorem dL_day_249 : decode cL_day 249 = .ok (.bipush 6, 2) := by decide +kernel
theorem dL_day_251 : decode cL_day 251 = .ok (.dup2, 1) := by decide +kernel
theorem dL_day_252 : decode cL_day 252 = .ok (.iaload, 1) := by decide +kernel
theorem dL_day_253 : decode cL_day 253 = .ok (.iconst 1, 1) := by decide +kernel
theorem dL_day_254 : decode cL_day 254 = .ok (.iadd, 1) := by decide +kernel
theorem dL_day_255 : decode cL_day 255 = .ok (.iastore, 1) := by decide +kernel
theorem dL_day_256 : decode cL_day 256 = .ok (.aload 6, 2) := by decide +kernel
theorem dL_day_258 : decode cL_day 258 = .ok (.bipush 7, 2) := by decide +kernel
theorem dL_day_260 : decode cL_day 260 = .ok (.dup2, 1) := by decide +kernel
theorem dL_day_261 : decode cL_day 261 = .ok (.iaload, 1) := by decide +kernel
theorem dL_day_262 : decode cL_day 262 = .ok (.aload 6, 2) := by decide +kernel
theorem dL_day_264 : decode cL_day 264 = .ok (.bipush 11, 2) := by decide +kernel
theorem dL_day_266 : decode cL_day 266 = .ok (.iaload, 1) := by decide +kernel
theorem dL_day_267 : decode cL_day 267 = .ok (.iadd, 1) := by decide +kernel
theorem dL_day_268 : decode cL_day 268 = .ok (.iastore, 1) := by decide +kernel
theorem dL_day_269 : decode cL_day 269 = .ok (.iinc 10 1, 3) := by decide +kernel
theorem dL_day_272 : decode cL_day 272 = .ok (.goto (-69), 3) := by decide +kernel
theorem dL_day_275 : decode cL_day 275 = .ok (.iload 9, 2) := by decide +kernel
theorem dL_day_277 : decode cL_day 277 = .ok (.ireturn, 1) := by decide +kernel
set_option maxRecDepth 20000 in
theorem ggL_areHouses_X6_houseOf : GoodIn wsL_areHouses wsX6_houseOf := goodIn_rB _ [7, 8, 9, 10, 11, 12, 13, 14, 15, 16, 17, 18, 19, 20, 21, 22, 23, 24, 25, 26, 27, 28, 29, 30, 31, 32, 33, 34, 35, 36, 37, 38, 39, 40, 41, 42, 92, 93, 94, 95, 96, 97, 98, 99, 100, 101, 102, 103, 104, 105, 106, 107, 108, 109, 110, 111, 112, 113, 114, 115, 116, 117, 118, 119, 120, 121, 122] (by decide +kernel) (by decide +kernel)
set_option maxRecDepth 20000 in
theorem gL_areHouses_X6_houseOf : GoodIn wsL_areHouses (wsV RL 36 RX6 yX6_houseOf wsX6_houseOf) := goodIn_app (goodIn_of _ (by decide +kernel)) ggL_areHouses_X6_houseOf
set_option maxRecDepth 20000 in
theorem ggL_areHouses_X6_why : GoodIn wsL_areHouses wsX6_why := goodIn_rB _ [46, 8, 9, 10, 11, 12, 13, 14, 15, 16, 47, 48, 49, 20, 50, 27, 28, 92, 93, 94, 95, 96, 97, 98, 99, 100, 101, 102, 103, 104, 105, 106, 107, 108, 109, 110, 111, 112, 113, 114, 115, 116, 117, 118, 119, 120, 121, 122] (by decide +kernel) (by decide +kernel)
set_option maxRecDepth 20000 in
theorem gL_areHouses_X6_why : GoodIn wsL_areHouses (wsV RL 43 RX6 yX6_why wsX6_why) := goodIn_app (goodIn_of _ (by decide +kernel)) ggL_areHouses_X6_why
set_option maxRecDepth 20000 in
theorem ggL_areHouses_L_units : GoodIn wsL_areHouses wsL_units := goodIn_rB _ [54, 55, 56, 53, 57, 58] (by decide +kernel) (by decide +kernel)
set_option maxRecDepth 20000 in
theorem gL_areHouses_L_units : GoodIn wsL_areHouses (va_wsS RL 16 yL_units wsL_units) := goodIn_app (goodIn_of _ (by decide +kernel)) ggL_areHouses_L_units
set_option maxRecDepth 20000 in
theorem ggL_areHouses_L_used : GoodIn wsL_areHouses wsL_used := goodIn_rB _ [57, 58] (by decide +kernel) (by decide +kernel)
set_option maxRecDepth 20000 in
theorem gL_areHouses_L_used : GoodIn wsL_areHouses (va_wsS RL 10 yL_used wsL_used) := goodIn_app (goodIn_of _ (by decide +kernel)) ggL_areHouses_L_used
set_option maxRecDepth 20000 in
theorem ggL_areHouses_L_why : GoodIn wsL_areHouses wsL_why := goodIn_rB _ [61] (by decide +kernel) (by decide +kernel)
set_option maxRecDepth 20000 in
theorem gL_areHouses_L_why : GoodIn wsL_areHouses (va_wsS RL 29 yL_why wsL_why) := goodIn_app (goodIn_of _ (by decide +kernel)) ggL_areHouses_L_why
set_option maxRecDepth 20000 in
theorem ggL_areHouses_X6_ifRead : GoodIn wsL_areHouses wsX6_ifRead := goodIn_rB _ [65, 8, 9, 10, 11, 12, 13, 14, 15, 16, 66, 38, 39, 20, 40, 24, 41, 42, 67, 68, 6, 69, 92, 93, 94, 95, 109, 110, 111, 112, 113, 114, 115, 116, 117, 118, 119, 120, 121, 122, 96, 97, 98, 99, 100, 101, 102, 103, 104, 105, 106, 107, 108] (by decide +kernel) (by decide +kernel)
set_option maxRecDepth 20000 in
theorem gL_areHouses_X6_ifRead : GoodIn wsL_areHouses (wsV RL 47 RX6 yX6_ifRead wsX6_ifRead) := goodIn_app (goodIn_of _ (by decide +kernel)) ggL_areHouses_X6_ifRead
set_option maxRecDepth 20000 in
theorem ggL_areHouses_X6_at : GoodIn wsL_areHouses wsX6_at := goodIn_rB _ [73, 8, 9, 74, 75, 76, 77, 13, 78, 79, 80, 81, 6, 82, 83, 84, 85, 86, 87, 88, 89, 90, 91, 92, 93, 94, 95, 96, 97, 98, 99, 100, 101, 102, 103, 104, 105, 106, 107, 108, 123, 124] (by decide +kernel) (by decide +kernel)
set_option maxRecDepth 20000 in
theorem gL_areHouses_X6_at : GoodIn wsL_areHouses (wsV RL 50 RX6 yX6_at wsX6_at) := goodIn_app (goodIn_of _ (by decide +kernel)) ggL_areHouses_X6_at
theorem dL_areHouses_0 : decode cL_areHouses 0 = .ok (.aload_n 0, 1) := by decide +kernel
theorem dL_areHouses_1 : decode cL_areHouses 1 = .ok (.aload 5, 2) := by decide +kernel
theorem dL_areHouses_3 : decode cL_areHouses 3 = .ok (.iconst 1, 1) := by decide +kernel
theorem dL_areHouses_4 : decode cL_areHouses 4 = .ok (.iaload, 1) := by decide +kernel
theorem dL_areHouses_5 : decode cL_areHouses 5 = .ok (.iconst 0, 1) := by decide +kernel
theorem dL_areHouses_6 : decode cL_areHouses 6 = .ok (.invokevirtual 36, 3) := by decide +kernel
theorem dL_areHouses_9 : decode cL_areHouses 9 = .ok (.ldc 42, 2) := by decide +kernel
theorem dL_areHouses_11 : decode cL_areHouses 11 = .ok (.if_icmp .ne 31, 3) := by decide +kernel
theorem dL_areHouses_14 : decode cL_areHouses 14 = .ok (.aload_n 0, 1) := by decide +kernel
theorem dL_areHouses_15 : decode cL_areHouses 15 = .ok (.iconst (-1), 1) := by decide +kernel
theorem dL_areHouses_16 : decode cL_areHouses 16 = .ok (.iconst 0, 1) := by decide +kernel
theorem dL_areHouses_17 : decode cL_areHouses 17 = .ok (.invokevirtual 36, 3) := by decide +kernel
theorem dL_areHouses_20 : decode cL_areHouses 20 = .ok (.ldc 42, 2) := by decide +kernel
theorem dL_areHouses_22 : decode cL_areHouses 22 = .ok (.if_icmp .ne 20, 3) := by decide +kernel
theorem dL_areHouses_25 : decode cL_areHouses 25 = .ok (.aload_n 0, 1) := by decide +kernel
theorem dL_areHouses_26 : decode cL_areHouses 26 = .ok (.aload 5, 2) := by decide +kernel
theorem dL_areHouses_28 : decode cL_areHouses 28 = .ok (.iconst 1, 1) := by decide +kernel
theorem dL_areHouses_29 : decode cL_areHouses 29 = .ok (.iaload, 1) := by decide +kernel
theorem dL_areHouses_30 : decode cL_areHouses 30 = .ok (.invokevirtual 43, 3) := by decide +kernel
theorem dL_areHouses_33 : decode cL_areHouses 33 = .ok (.ldc 42, 2) := by decide +kernel
theorem dL_areHouses_35 : decode cL_areHouses 35 = .ok (.if_icmp .ne 7, 3) := by decide +kernel
theorem dL_areHouses_38 : decode cL_areHouses 38 = .ok (.iconst 1, 1) := by decide +kernel
theorem dL_areHouses_39 : decode cL_areHouses 39 = .ok (.goto 4, 3) := by decide +kernel
theorem dL_areHouses_42 : decode cL_areHouses 42 = .ok (.iconst 0, 1) := by decide +kernel
theorem dL_areHouses_43 : decode cL_areHouses 43 = .ok (.istore 6, 2) := by decide +kernel
theorem dL_areHouses_45 : decode cL_areHouses 45 = .ok (.iconst 0, 1) := by decide +kernel
theorem dL_areHouses_46 : decode cL_areHouses 46 = .ok (.istore 7, 2) := by decide +kernel
theorem dL_areHouses_48 : decode cL_areHouses 48 = .ok (.iload 7, 2) := by decide +kernel
theorem dL_areHouses_50 : decode cL_areHouses 50 = .ok (.aload 5, 2) := by decide +kernel
theorem dL_areHouses_52 : decode cL_areHouses 52 = .ok (.iconst 1, 1) := by decide +kernel
theorem dL_areHouses_53 : decode cL_areHouses 53 = .ok (.iaload, 1) := by decide +kernel
theorem dL_areHouses_54 : decode cL_areHouses 54 = .ok (.if_icmp .ge 440, 3) := by decide +kernel
theorem dL_areHouses_57 : decode cL_areHouses 57 = .ok (.iload 6, 2) := by decide +kernel
theorem dL_areHouses_59 : decode cL_areHouses 59 = .ok (.ifCond .eq 435, 3) := by decide +kernel
theorem dL_areHouses_62 : decode cL_areHouses 62 = .ok (.aload_n 1, 1) := by decide +kernel
theorem dL_areHouses_63 : decode cL_areHouses 63 = .ok (.aload_n 2, 1) := by decide +kernel
theorem dL_areHouses_64 : decode cL_areHouses 64 = .ok (.iload 7, 2) := by decide +kernel
theorem dL_areHouses_66 : decode cL_areHouses 66 = .ok (.invokestatic 16, 3) := by decide +kernel
theorem dL_areHouses_69 : decode cL_areHouses 69 = .ok (.istore 8, 2) := by decide +kernel
theorem dL_areHouses_71 : decode cL_areHouses 71 = .ok (.aload_n 2, 1) := by decide +kernel
theorem dL_areHouses_72 : decode cL_areHouses 72 = .ok (.iconst 4, 1) := by decide +kernel
theorem dL_areHouses_73 : decode cL_areHouses 73 = .ok (.iload 7, 2) := by decide +kernel
theorem dL_areHouses_75 : decode cL_areHouses 75 = .ok (.imul, 1) := by decide +kernel
theorem dL_areHouses_76 : decode cL_areHouses 76 = .ok (.iaload, 1) := by decide +kernel
theorem dL_areHouses_77 : decode cL_areHouses 77 = .ok (.bipush 100, 2) := by decide +kernel
theorem dL_areHouses_79 : decode cL_areHouses 79 = .ok (.iload 8, 2) := by decide +kernel
theorem dL_areHouses_81 : decode cL_areHouses 81 = .ok (.imul, 1) := by decide +kernel
theorem dL_areHouses_82 : decode cL_areHouses 82 = .ok (.iadd, 1) := by decide +kernel
theorem dL_areHouses_83 : decode cL_areHouses 83 = .ok (.aload_n 1, 1) := by decide +kernel
theorem dL_areHouses_84 : decode cL_areHouses 84 = .ok (.iload 7, 2) := by decide +kernel
theorem dL_areHouses_86 : decode cL_areHouses 86 = .ok (.invokestatic 10, 3) := by decide +kernel
theorem dL_areHouses_89 : decode cL_areHouses 89 = .ok (.isub, 1) := by decide +kernel
theorem dL_areHouses_90 : decode cL_areHouses 90 = .ok (.istore 9, 2) := by decide +kernel
theorem dL_areHouses_92 : decode cL_areHouses 92 = .ok (.aload_n 0, 1) := by decide +kernel
theorem dL_areHouses_93 : decode cL_areHouses 93 = .ok (.iload 7, 2) := by decide +kernel
theorem dL_areHouses_95 : decode cL_areHouses 95 = .ok (.iconst 0, 1) := by decide +kernel
theorem dL_areHouses_96 : decode cL_areHouses 96 = .ok (.invokevirtual 36, 3) := by decide +kernel
theorem dL_areHouses_99 : decode cL_areHouses 99 = .ok (.aload_n 1, 1) := by decide +kernel
theorem dL_areHouses_100 : decode cL_areHouses 100 = .ok (.iconst 4, 1) := by decide +kernel
theorem dL_areHouses_101 : decode cL_areHouses 101 = .ok (.iload 7, 2) := by decide +kernel
theorem dL_areHouses_103 : decode cL_areHouses 103 = .ok (.imul, 1) := by decide +kernel
theorem dL_areHouses_104 : decode cL_areHouses 104 = .ok (.iaload, 1) := by decide +kernel
theorem dL_areHouses_105 : decode cL_areHouses 105 = .ok (.if_icmp .ne 380, 3) := by decide +kernel
theorem dL_areHouses_108 : decode cL_areHouses 108 = .ok (.aload_n 0, 1) := by decide +kernel
theorem dL_areHouses_109 : decode cL_areHouses 109 = .ok (.iload 7, 2) := by decide +kernel
theorem dL_areHouses_111 : decode cL_areHouses 111 = .ok (.iconst 1, 1) := by decide +kernel
theorem dL_areHouses_112 : decode cL_areHouses 112 = .ok (.invokevirtual 36, 3) := by decide +kernel
theorem dL_areHouses_115 : decode cL_areHouses 115 = .ok (.aload_n 1, 1) := by decide +kernel
theorem dL_areHouses_116 : decode cL_areHouses 116 = .ok (.iconst 4, 1) := by decide +kernel
theorem dL_areHouses_117 : decode cL_areHouses 117 = .ok (.iload 7, 2) := by decide +kernel
theorem dL_areHouses_119 : decode cL_areHouses 119 = .ok (.imul, 1) := by decide +kernel
theorem dL_areHouses_120 : decode cL_areHouses 120 = .ok (.iconst 1, 1) := by decide +kernel
theorem dL_areHouses_121 : decode cL_areHouses 121 = .ok (.iadd, 1) := by decide +kernel
theorem dL_areHouses_122 : decode cL_areHouses 122 = .ok (.iaload, 1) := by decide +kernel
theorem dL_areHouses_123 : decode cL_areHouses 123 = .ok (.if_icmp .ne 362, 3) := by decide +kernel
theorem dL_areHouses_126 : decode cL_areHouses 126 = .ok (.aload_n 0, 1) := by decide +kernel
theorem dL_areHouses_127 : decode cL_areHouses 127 = .ok (.iload 7, 2) := by decide +kernel
theorem dL_areHouses_129 : decode cL_areHouses 129 = .ok (.iconst 2, 1) := by decide +kernel
theorem dL_areHouses_130 : decode cL_areHouses 130 = .ok (.invokevirtual 36, 3) := by decide +kernel
theorem dL_areHouses_133 : decode cL_areHouses 133 = .ok (.aload_n 1, 1) := by decide +kernel
theorem dL_areHouses_134 : decode cL_areHouses 134 = .ok (.iconst 4, 1) := by decide +kernel
theorem dL_areHouses_135 : decode cL_areHouses 135 = .ok (.iload 7, 2) := by decide +kernel
theorem dL_areHouses_137 : decode cL_areHouses 137 = .ok (.imul, 1) := by decide +kernel
theorem dL_areHouses_138 : decode cL_areHouses 138 = .ok (.iconst 2, 1) := by decide +kernel
theorem dL_areHouses_139 : decode cL_areHouses 139 = .ok (.iadd, 1) := by decide +kernel
theorem dL_areHouses_140 : decode cL_areHouses 140 = .ok (.iaload, 1) := by decide +kernel
theorem dL_areHouses_141 : decode cL_areHouses 141 = .ok (.if_icmp .ne 344, 3) := by decide +kernel
theorem dL_areHouses_144 : decode cL_areHouses 144 = .ok (.aload_n 0, 1) := by decide +kernel
theorem dL_areHouses_145 : decode cL_areHouses 145 = .ok (.iload 7, 2) := by decide +kernel
theorem dL_areHouses_147 : decode cL_areHouses 147 = .ok (.iconst 3, 1) := by decide +kernel
theorem dL_areHouses_148 : decode cL_areHouses 148 = .ok (.invokevirtual 36, 3) := by decide +kernel
theorem dL_areHouses_151 : decode cL_areHouses 151 = .ok (.aload_n 1, 1) := by decide +kernel
theorem dL_areHouses_152 : decode cL_areHouses 152 = .ok (.iload 7, 2) := by decide +kernel
theorem dL_areHouses_154 : decode cL_areHouses 154 = .ok (.invokestatic 10, 3) := by decide +kernel
theorem dL_areHouses_157 : decode cL_areHouses 157 = .ok (.if_icmp .ne 328, 3) := by decide +kernel
theorem dL_areHouses_160 : decode cL_areHouses 160 = .ok (.aload_n 0, 1) := by decide +kernel
theorem dL_areHouses_161 : decode cL_areHouses 161 = .ok (.iload 7, 2) := by decide +kernel
theorem dL_areHouses_163 : decode cL_areHouses 163 = .ok (.iconst 4, 1) := by decide +kernel
theorem dL_areHouses_164 : decode cL_areHouses 164 = .ok (.invokevirtual 36, 3) := by decide +kernel
theorem dL_areHouses_167 : decode cL_areHouses 167 = .ok (.aload_n 2, 1) := by decide +kernel
theorem dL_areHouses_168 : decode cL_areHouses 168 = .ok (.iconst 4, 1) := by decide +kernel
theorem dL_areHouses_169 : decode cL_areHouses 169 = .ok (.iload 7, 2) := by decide +kernel
theorem dL_areHouses_171 : decode cL_areHouses 171 = .ok (.imul, 1) := by decide +kernel
theorem dL_areHouses_172 : decode cL_areHouses 172 = .ok (.iaload, 1) := by decide +kernel
theorem dL_areHouses_173 : decode cL_areHouses 173 = .ok (.sipush 1000, 3) := by decide +kernel
theorem dL_areHouses_176 : decode cL_areHouses 176 = .ok (.iadd, 1) := by decide +kernel
theorem dL_areHouses_177 : decode cL_areHouses 177 = .ok (.if_icmp .ne 308, 3) := by decide +kernel
theorem dL_areHouses_180 : decode cL_areHouses 180 = .ok (.aload_n 0, 1) := by decide +kernel
theorem dL_areHouses_181 : decode cL_areHouses 181 = .ok (.iload 7, 2) := by decide +kernel
theorem dL_areHouses_183 : decode cL_areHouses 183 = .ok (.iconst 5, 1) := by decide +kernel
theorem dL_areHouses_184 : decode cL_areHouses 184 = .ok (.invokevirtual 36, 3) := by decide +kernel
theorem dL_areHouses_187 : decode cL_areHouses 187 = .ok (.aload_n 2, 1) := by decide +kernel
theorem dL_areHouses_188 : decode cL_areHouses 188 = .ok (.iconst 4, 1) := by decide +kernel
theorem dL_areHouses_189 : decode cL_areHouses 189 = .ok (.iload 7, 2) := by decide +kernel
theorem dL_areHouses_191 : decode cL_areHouses 191 = .ok (.imul, 1) := by decide +kernel
theorem dL_areHouses_192 : decode cL_areHouses 192 = .ok (.iconst 1, 1) := by decide +kernel
theorem dL_areHouses_193 : decode cL_areHouses 193 = .ok (.iadd, 1) := by decide +kernel
theorem dL_areHouses_194 : decode cL_areHouses 194 = .ok (.iaload, 1) := by decide +kernel
theorem dL_areHouses_195 : decode cL_areHouses 195 = .ok (.if_icmp .ne 290, 3) := by decide +kernel
theorem dL_areHouses_198 : decode cL_areHouses 198 = .ok (.aload_n 0, 1) := by decide +kernel
theorem dL_areHouses_199 : decode cL_areHouses 199 = .ok (.iload 7, 2) := by decide +kernel
theorem dL_areHouses_201 : decode cL_areHouses 201 = .ok (.bipush 6, 2) := by decide +kernel
theorem dL_areHouses_203 : decode cL_areHouses 203 = .ok (.invokevirtual 36, 3) := by decide +kernel
theorem dL_areHouses_206 : decode cL_areHouses 206 = .ok (.aload_n 2, 1) := by decide +kernel
theorem dL_areHouses_207 : decode cL_areHouses 207 = .ok (.iconst 4, 1) := by decide +kernel
theorem dL_areHouses_208 : decode cL_areHouses 208 = .ok (.iload 7, 2) := by decide +kernel
theorem dL_areHouses_210 : decode cL_areHouses 210 = .ok (.imul, 1) := by decide +kernel
theorem dL_areHouses_211 : decode cL_areHouses 211 = .ok (.iconst 2, 1) := by decide +kernel
theorem dL_areHouses_212 : decode cL_areHouses 212 = .ok (.iadd, 1) := by decide +kernel
theorem dL_areHouses_213 : decode cL_areHouses 213 = .ok (.iaload, 1) := by decide +kernel
theorem dL_areHouses_214 : decode cL_areHouses 214 = .ok (.if_icmp .ne 271, 3) := by decide +kernel
theorem dL_areHouses_217 : decode cL_areHouses 217 = .ok (.aload_n 0, 1) := by decide +kernel
theorem dL_areHouses_218 : decode cL_areHouses 218 = .ok (.iload 7, 2) := by decide +kernel
theorem dL_areHouses_220 : decode cL_areHouses 220 = .ok (.bipush 7, 2) := by decide +kernel
theorem dL_areHouses_222 : decode cL_areHouses 222 = .ok (.invokevirtual 36, 3) := by decide +kernel
theorem dL_areHouses_225 : decode cL_areHouses 225 = .ok (.aload_n 2, 1) := by decide +kernel
theorem dL_areHouses_226 : decode cL_areHouses 226 = .ok (.iconst 4, 1) := by decide +kernel
theorem dL_areHouses_227 : decode cL_areHouses 227 = .ok (.iload 7, 2) := by decide +kernel
theorem dL_areHouses_229 : decode cL_areHouses 229 = .ok (.imul, 1) := by decide +kernel
theorem dL_areHouses_230 : decode cL_areHouses 230 = .ok (.iconst 3, 1) := by decide +kernel
theorem dL_areHouses_231 : decode cL_areHouses 231 = .ok (.iadd, 1) := by decide +kernel
theorem dL_areHouses_232 : decode cL_areHouses 232 = .ok (.iaload, 1) := by decide +kernel
theorem dL_areHouses_233 : decode cL_areHouses 233 = .ok (.ifCond .le 16, 3) := by decide +kernel
theorem dL_areHouses_236 : decode cL_areHouses 236 = .ok (.aload_n 2, 1) := by decide +kernel
theorem dL_areHouses_237 : decode cL_areHouses 237 = .ok (.iconst 4, 1) := by decide +kernel
theorem dL_areHouses_238 : decode cL_areHouses 238 = .ok (.iload 7, 2) := by decide +kernel
theorem dL_areHouses_240 : decode cL_areHouses 240 = .ok (.imul, 1) := by decide +kernel
theorem dL_areHouses_241 : decode cL_areHouses 241 = .ok (.iconst 3, 1) := by decide +kernel
theorem dL_areHouses_242 : decode cL_areHouses 242 = .ok (.iadd, 1) := by decide +kernel
theorem dL_areHouses_243 : decode cL_areHouses 243 = .ok (.iaload, 1) := by decide +kernel
theorem dL_areHouses_244 : decode cL_areHouses 244 = .ok (.iconst 1, 1) := by decide +kernel
theorem dL_areHouses_245 : decode cL_areHouses 245 = .ok (.isub, 1) := by decide +kernel
theorem dL_areHouses_246 : decode cL_areHouses 246 = .ok (.goto 5, 3) := by decide +kernel
theorem dL_areHouses_249 : decode cL_areHouses 249 = .ok (.ldc 46, 2) := by decide +kernel
theorem dL_areHouses_251 : decode cL_areHouses 251 = .ok (.if_icmp .ne 234, 3) := by decide +kernel
theorem dL_areHouses_254 : decode cL_areHouses 254 = .ok (.aload_n 0, 1) := by decide +kernel
theorem dL_areHouses_255 : decode cL_areHouses 255 = .ok (.iload 7, 2) := by decide +kernel
theorem dL_areHouses_257 : decode cL_areHouses 257 = .ok (.bipush 8, 2) := by decide +kernel
theorem dL_areHouses_259 : decode cL_areHouses 259 = .ok (.invokevirtual 36, 3) := by decide +kernel
theorem dL_areHouses_262 : decode cL_areHouses 262 = .ok (.aload_n 3, 1) := by decide +kernel
theorem dL_areHouses_263 : decode cL_areHouses 263 = .ok (.iconst 4, 1) := by decide +kernel
theorem dL_areHouses_264 : decode cL_areHouses 264 = .ok (.iload 7, 2) := by decide +kernel
theorem dL_areHouses_266 : decode cL_areHouses 266 = .ok (.imul, 1) := by decide +kernel
theorem dL_areHouses_267 : decode cL_areHouses 267 = .ok (.iaload, 1) := by decide +kernel
theorem dL_areHouses_268 : decode cL_areHouses 268 = .ok (.if_icmp .ne 217, 3) := by decide +kernel
theorem dL_areHouses_271 : decode cL_areHouses 271 = .ok (.aload_n 0, 1) := by decide +kernel
theorem dL_areHouses_272 : decode cL_areHouses 272 = .ok (.iload 7, 2) := by decide +kernel
theorem dL_areHouses_274 : decode cL_areHouses 274 = .ok (.bipush 9, 2) := by decide +kernel
theorem dL_areHouses_276 : decode cL_areHouses 276 = .ok (.invokevirtual 36, 3) := by decide +kernel
theorem dL_areHouses_279 : decode cL_areHouses 279 = .ok (.aload_n 3, 1) := by decide +kernel
theorem dL_areHouses_280 : decode cL_areHouses 280 = .ok (.iconst 4, 1) := by decide +kernel
theorem dL_areHouses_281 : decode cL_areHouses 281 = .ok (.iload 7, 2) := by decide +kernel
theorem dL_areHouses_283 : decode cL_areHouses 283 = .ok (.imul, 1) := by decide +kernel
theorem dL_areHouses_284 : decode cL_areHouses 284 = .ok (.iconst 1, 1) := by decide +kernel
theorem dL_areHouses_285 : decode cL_areHouses 285 = .ok (.iadd, 1) := by decide +kernel
theorem dL_areHouses_286 : decode cL_areHouses 286 = .ok (.iaload, 1) := by decide +kernel
theorem dL_areHouses_287 : decode cL_areHouses 287 = .ok (.if_icmp .ne 198, 3) := by decide +kernel
theorem dL_areHouses_290 : decode cL_areHouses 290 = .ok (.aload_n 0, 1) := by decide +kernel
theorem dL_areHouses_291 : decode cL_areHouses 291 = .ok (.iload 7, 2) := by decide +kernel
theorem dL_areHouses_293 : decode cL_areHouses 293 = .ok (.bipush 10, 2) := by decide +kernel
theorem dL_areHouses_295 : decode cL_areHouses 295 = .ok (.invokevirtual 36, 3) := by decide +kernel
theorem dL_areHouses_298 : decode cL_areHouses 298 = .ok (.aload_n 3, 1) := by decide +kernel
theorem dL_areHouses_299 : decode cL_areHouses 299 = .ok (.iconst 4, 1) := by decide +kernel
theorem dL_areHouses_300 : decode cL_areHouses 300 = .ok (.iload 7, 2) := by decide +kernel
theorem dL_areHouses_302 : decode cL_areHouses 302 = .ok (.imul, 1) := by decide +kernel
theorem dL_areHouses_303 : decode cL_areHouses 303 = .ok (.iconst 2, 1) := by decide +kernel
theorem dL_areHouses_304 : decode cL_areHouses 304 = .ok (.iadd, 1) := by decide +kernel
theorem dL_areHouses_305 : decode cL_areHouses 305 = .ok (.iaload, 1) := by decide +kernel
theorem dL_areHouses_306 : decode cL_areHouses 306 = .ok (.if_icmp .ne 179, 3) := by decide +kernel
theorem dL_areHouses_309 : decode cL_areHouses 309 = .ok (.aload_n 0, 1) := by decide +kernel
theorem dL_areHouses_310 : decode cL_areHouses 310 = .ok (.iload 7, 2) := by decide +kernel
theorem dL_areHouses_312 : decode cL_areHouses 312 = .ok (.bipush 11, 2) := by decide +kernel
theorem dL_areHouses_314 : decode cL_areHouses 314 = .ok (.invokevirtual 36, 3) := by decide +kernel
theorem dL_areHouses_317 : decode cL_areHouses 317 = .ok (.aload_n 3, 1) := by decide +kernel
theorem dL_areHouses_318 : decode cL_areHouses 318 = .ok (.iconst 4, 1) := by decide +kernel
theorem dL_areHouses_319 : decode cL_areHouses 319 = .ok (.iload 7, 2) := by decide +kernel
theorem dL_areHouses_321 : decode cL_areHouses 321 = .ok (.imul, 1) := by decide +kernel
