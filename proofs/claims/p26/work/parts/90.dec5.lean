set_option maxRecDepth 20000 in
theorem ggL_law_X6_init : GoodIn wsL_law wsX6_init := goodIn_rB _ [7, 8, 9, 10, 11, 12, 13, 14, 15, 16, 17, 18, 19, 20, 21, 22, 23, 24, 25, 26, 27, 28, 29, 30, 31, 32, 33, 34, 35, 3, 36, 37, 38, 39, 40, 41, 42, 43, 44, 45, 46, 47, 48, 49, 50, 51, 52, 53, 54, 55, 56, 57, 58, 59, 60, 61, 62, 63, 64, 65, 395, 396, 397, 398, 399, 400, 401, 402, 403, 404, 405, 406, 407, 391, 392, 393, 394, 408, 409, 410, 411, 412, 413, 414, 415, 416, 417, 418, 419, 420, 421, 422, 423, 424, 425, 426, 427, 428, 429, 430, 431, 432, 433, 434, 435, 436, 437, 438, 439] (by decide +kernel) (by decide +kernel)
set_option maxRecDepth 20000 in
theorem gL_law_X6_init : GoodIn wsL_law (wsX6_init) := ggL_law_X6_init
set_option maxRecDepth 20000 in
theorem ggL_law_L_cell : GoodIn wsL_law wsL_cell := goodIn_rB _ [69, 70] (by decide +kernel) (by decide +kernel)
set_option maxRecDepth 20000 in
theorem gL_law_L_cell : GoodIn wsL_law (va_wsS RL 91 yL_cell wsL_cell) := goodIn_app (goodIn_of _ (by decide +kernel)) ggL_law_L_cell
set_option maxRecDepth 20000 in
theorem ggL_law_L_isActed : GoodIn wsL_law wsL_isActed := goodIn_rB _ [73, 74, 75, 76, 77, 68, 78, 79, 80, 81, 2, 82, 83, 84, 85, 86, 19, 14, 87, 88, 89, 18, 90, 91, 60, 92, 93, 94, 13, 95, 29, 31, 35, 36, 96, 97, 98, 99, 100, 101, 102, 103, 104, 105, 106, 107, 108, 109, 110, 111, 38, 112, 113, 114, 115, 116, 117, 118, 119, 48, 120, 121, 122, 123, 124, 125, 126, 127, 128, 40, 129, 53, 130, 54, 131, 132, 133, 34, 134, 44, 135, 136, 137, 138, 139, 140, 141, 142, 143, 144, 145, 146, 147, 148, 149, 150, 151, 152, 153, 154, 155, 156, 157, 158, 159, 160, 161, 162, 163, 164, 165, 166, 167, 168, 169, 170, 171, 172, 173, 174, 175, 176, 177, 178, 179, 180, 181, 182, 183, 184, 185, 186, 187, 188, 189, 190, 191, 192, 193, 194, 195, 196, 197, 198, 199, 200, 201, 202, 203, 204, 205, 206, 207, 208, 209, 210, 211, 212, 213, 214, 215, 216, 217, 218, 219, 220, 221, 222, 223, 224, 225, 226, 227, 228, 229, 230, 231, 232, 233, 234, 235, 236, 237, 238, 239, 240, 241, 242, 243, 244, 245, 246, 247, 248, 249, 250, 251, 252, 253, 254, 255, 256, 257, 258, 259, 260, 261, 262, 263, 264, 265, 266, 267, 268, 269, 270, 271, 272, 273, 274, 275, 276, 277, 278, 279, 280, 281, 282, 283, 284, 285, 286, 287, 288, 289, 290, 291, 292, 293, 391, 392, 393, 394, 408, 409, 410, 395, 396, 397, 398, 399, 400, 401, 402, 403, 404, 405, 406, 407, 424, 425, 426, 427, 428, 429, 430, 431, 432, 433, 434, 435, 436, 437, 438, 439, 421, 422, 423] (by decide +kernel) (by decide +kernel)
set_option maxRecDepth 20000 in
theorem gL_law_L_isActed : GoodIn wsL_law (va_wsS RL 94 yL_isActed wsL_isActed) := goodIn_app (goodIn_of _ (by decide +kernel)) ggL_law_L_isActed
set_option maxRecDepth 20000 in
theorem ggL_law_L_areHouses : GoodIn wsL_law wsL_areHouses := goodIn_rB _ [296, 75, 297, 298, 299, 300, 2, 301, 14, 302, 303, 170, 171, 13, 172, 100, 29, 304, 305, 306, 38, 307, 113, 114, 115, 119, 117, 118, 48, 308, 120, 121, 122, 123, 124, 125, 309, 310, 194, 195, 196, 116, 197, 311, 312, 313, 314, 315, 186, 187, 188, 272, 273, 68, 274, 268, 269, 270, 271, 262, 263, 264, 316, 317, 318, 319, 320, 321, 198, 199, 322, 323, 324, 325, 326, 327, 150, 151, 152, 31, 328, 153, 154, 329, 155, 156, 330, 158, 159, 40, 160, 53, 391, 392, 393, 394, 395, 396, 397, 398, 399, 400, 401, 402, 403, 404, 405, 406, 407, 424, 425, 426, 427, 428, 429, 430, 431, 432, 433, 434, 435, 436, 437, 438, 439] (by decide +kernel) (by decide +kernel)
set_option maxRecDepth 20000 in
theorem gL_law_L_areHouses : GoodIn wsL_law (va_wsS RL 98 yL_areHouses wsL_areHouses) := goodIn_app (goodIn_of _ (by decide +kernel)) ggL_law_L_areHouses
set_option maxRecDepth 20000 in
theorem ggL_law_L_areSums : GoodIn wsL_law wsL_areSums := goodIn_rB _ [333, 297, 334, 335, 336, 2, 337, 302, 14, 338, 339, 340, 13, 341, 100, 29, 342, 343, 344, 345, 346, 347, 348, 349, 350, 351, 352, 353, 34, 354, 355, 137, 356, 136, 44, 357, 358, 359, 360, 19, 23, 361, 362, 363, 364, 101, 102, 103, 104, 105, 106, 107, 108, 35, 36, 142, 365, 366, 367, 368, 369, 370, 371, 372, 373, 374, 375, 376, 391, 392, 393, 394, 395, 396, 397, 398, 399, 400, 401, 402, 403, 404, 405, 406, 407, 424, 425, 426, 427, 428, 429, 430, 431, 432, 433, 434, 435, 436, 437, 421, 422, 423, 408, 409, 410, 411, 412, 413, 414, 415, 416, 417, 418, 419, 420] (by decide +kernel) (by decide +kernel)
set_option maxRecDepth 20000 in
theorem gL_law_L_areSums : GoodIn wsL_law (va_wsS RL 102 yL_areSums wsL_areSums) := goodIn_app (goodIn_of _ (by decide +kernel)) ggL_law_L_areSums
set_option maxRecDepth 20000 in
theorem ggL_law_L_areRounds : GoodIn wsL_law wsL_areRounds := goodIn_rB _ [379, 75, 297, 380, 381, 382, 2, 383, 14, 302, 327, 150, 151, 13, 152, 31, 384, 385, 386, 40, 387, 388, 389, 229, 230, 231, 54, 390, 158, 159, 160, 53, 287, 288, 68, 289, 76, 77, 78, 391, 392, 393, 394, 395, 396, 397, 398, 399, 400, 401, 402, 403, 404, 405, 406, 407, 438, 439] (by decide +kernel) (by decide +kernel)
set_option maxRecDepth 20000 in
theorem gL_law_L_areRounds : GoodIn wsL_law (va_wsS RL 106 yL_areRounds wsL_areRounds) := goodIn_app (goodIn_of _ (by decide +kernel)) ggL_law_L_areRounds
theorem dL_law_0 : decode cL_law 0 = .ok (.new 37, 3) := by decide +kernel
theorem dL_law_3 : decode cL_law 3 = .ok (.dup, 1) := by decide +kernel
theorem dL_law_4 : decode cL_law 4 = .ok (.invokespecial 90, 3) := by decide +kernel
theorem dL_law_7 : decode cL_law 7 = .ok (.astore_n 1, 1) := by decide +kernel
theorem dL_law_8 : decode cL_law 8 = .ok (.bipush 64, 2) := by decide +kernel
theorem dL_law_10 : decode cL_law 10 = .ok (.newarray .int, 2) := by decide +kernel
theorem dL_law_12 : decode cL_law 12 = .ok (.astore_n 2, 1) := by decide +kernel
theorem dL_law_13 : decode cL_law 13 = .ok (.bipush 64, 2) := by decide +kernel
theorem dL_law_15 : decode cL_law 15 = .ok (.newarray .int, 2) := by decide +kernel
theorem dL_law_17 : decode cL_law 17 = .ok (.astore_n 3, 1) := by decide +kernel
theorem dL_law_18 : decode cL_law 18 = .ok (.bipush 64, 2) := by decide +kernel
theorem dL_law_20 : decode cL_law 20 = .ok (.newarray .int, 2) := by decide +kernel
theorem dL_law_22 : decode cL_law 22 = .ok (.astore 4, 2) := by decide +kernel
theorem dL_law_24 : decode cL_law 24 = .ok (.bipush 32, 2) := by decide +kernel
theorem dL_law_26 : decode cL_law 26 = .ok (.newarray .int, 2) := by decide +kernel
theorem dL_law_28 : decode cL_law 28 = .ok (.astore 5, 2) := by decide +kernel
theorem dL_law_30 : decode cL_law 30 = .ok (.bipush 44, 2) := by decide +kernel
theorem dL_law_32 : decode cL_law 32 = .ok (.newarray .int, 2) := by decide +kernel
theorem dL_law_34 : decode cL_law 34 = .ok (.astore 6, 2) := by decide +kernel
theorem dL_law_36 : decode cL_law 36 = .ok (.bipush 60, 2) := by decide +kernel
theorem dL_law_38 : decode cL_law 38 = .ok (.newarray .int, 2) := by decide +kernel
theorem dL_law_40 : decode cL_law 40 = .ok (.astore 7, 2) := by decide +kernel
theorem dL_law_42 : decode cL_law 42 = .ok (.bipush 14, 2) := by decide +kernel
theorem dL_law_44 : decode cL_law 44 = .ok (.newarray .int, 2) := by decide +kernel
theorem dL_law_46 : decode cL_law 46 = .ok (.astore 8, 2) := by decide +kernel
theorem dL_law_48 : decode cL_law 48 = .ok (.aload 8, 2) := by decide +kernel
theorem dL_law_50 : decode cL_law 50 = .ok (.bipush 10, 2) := by decide +kernel
theorem dL_law_52 : decode cL_law 52 = .ok (.iconst 3, 1) := by decide +kernel
theorem dL_law_53 : decode cL_law 53 = .ok (.iastore, 1) := by decide +kernel
theorem dL_law_54 : decode cL_law 54 = .ok (.aload 8, 2) := by decide +kernel
theorem dL_law_56 : decode cL_law 56 = .ok (.bipush 11, 2) := by decide +kernel
theorem dL_law_58 : decode cL_law 58 = .ok (.bipush 7, 2) := by decide +kernel
theorem dL_law_60 : decode cL_law 60 = .ok (.iastore, 1) := by decide +kernel
theorem dL_law_61 : decode cL_law 61 = .ok (.aload 8, 2) := by decide +kernel
theorem dL_law_63 : decode cL_law 63 = .ok (.bipush 12, 2) := by decide +kernel
theorem dL_law_65 : decode cL_law 65 = .ok (.bipush 50, 2) := by decide +kernel
theorem dL_law_67 : decode cL_law 67 = .ok (.iastore, 1) := by decide +kernel
theorem dL_law_68 : decode cL_law 68 = .ok (.aload 8, 2) := by decide +kernel
theorem dL_law_70 : decode cL_law 70 = .ok (.bipush 13, 2) := by decide +kernel
theorem dL_law_72 : decode cL_law 72 = .ok (.bipush 60, 2) := by decide +kernel
theorem dL_law_74 : decode cL_law 74 = .ok (.iastore, 1) := by decide +kernel
theorem dL_law_75 : decode cL_law 75 = .ok (.iconst 0, 1) := by decide +kernel
theorem dL_law_76 : decode cL_law 76 = .ok (.istore 9, 2) := by decide +kernel
theorem dL_law_78 : decode cL_law 78 = .ok (.iload 9, 2) := by decide +kernel
theorem dL_law_80 : decode cL_law 80 = .ok (.bipush 64, 2) := by decide +kernel
theorem dL_law_82 : decode cL_law 82 = .ok (.if_icmp .ge 105, 3) := by decide +kernel
theorem dL_law_85 : decode cL_law 85 = .ok (.aload_n 0, 1) := by decide +kernel
theorem dL_law_86 : decode cL_law 86 = .ok (.iload 9, 2) := by decide +kernel
theorem dL_law_88 : decode cL_law 88 = .ok (.invokestatic 91, 3) := by decide +kernel
theorem dL_law_91 : decode cL_law 91 = .ok (.ldc 8, 2) := by decide +kernel
theorem dL_law_93 : decode cL_law 93 = .ok (.iand, 1) := by decide +kernel
theorem dL_law_94 : decode cL_law 94 = .ok (.istore 10, 2) := by decide +kernel
theorem dL_law_96 : decode cL_law 96 = .ok (.aload_n 1, 1) := by decide +kernel
theorem dL_law_97 : decode cL_law 97 = .ok (.aload_n 2, 1) := by decide +kernel
theorem dL_law_98 : decode cL_law 98 = .ok (.aload_n 3, 1) := by decide +kernel
theorem dL_law_99 : decode cL_law 99 = .ok (.aload 4, 2) := by decide +kernel
theorem dL_law_101 : decode cL_law 101 = .ok (.aload 5, 2) := by decide +kernel
theorem dL_law_103 : decode cL_law 103 = .ok (.aload 6, 2) := by decide +kernel
theorem dL_law_105 : decode cL_law 105 = .ok (.aload 7, 2) := by decide +kernel
theorem dL_law_107 : decode cL_law 107 = .ok (.aload 8, 2) := by decide +kernel
theorem dL_law_109 : decode cL_law 109 = .ok (.iload 9, 2) := by decide +kernel
theorem dL_law_111 : decode cL_law 111 = .ok (.bipush 8, 2) := by decide +kernel
theorem dL_law_113 : decode cL_law 113 = .ok (.if_icmp .ge 11, 3) := by decide +kernel
theorem dL_law_116 : decode cL_law 116 = .ok (.iload 10, 2) := by decide +kernel
theorem dL_law_118 : decode cL_law 118 = .ok (.bipush 9, 2) := by decide +kernel
theorem dL_law_120 : decode cL_law 120 = .ok (.irem, 1) := by decide +kernel
theorem dL_law_121 : decode cL_law 121 = .ok (.goto 8, 3) := by decide +kernel
theorem dL_law_124 : decode cL_law 124 = .ok (.iload 10, 2) := by decide +kernel
theorem dL_law_126 : decode cL_law 126 = .ok (.bipush 21, 2) := by decide +kernel
theorem dL_law_128 : decode cL_law 128 = .ok (.irem, 1) := by decide +kernel
theorem dL_law_129 : decode cL_law 129 = .ok (.iload 10, 2) := by decide +kernel
theorem dL_law_131 : decode cL_law 131 = .ok (.bipush 21, 2) := by decide +kernel
theorem dL_law_133 : decode cL_law 133 = .ok (.idiv, 1) := by decide +kernel
theorem dL_law_134 : decode cL_law 134 = .ok (.invokestatic 94, 3) := by decide +kernel
theorem dL_law_137 : decode cL_law 137 = .ok (.ifCond .eq 42, 3) := by decide +kernel
theorem dL_law_140 : decode cL_law 140 = .ok (.aload_n 1, 1) := by decide +kernel
theorem dL_law_141 : decode cL_law 141 = .ok (.aload_n 2, 1) := by decide +kernel
theorem dL_law_142 : decode cL_law 142 = .ok (.aload_n 3, 1) := by decide +kernel
theorem dL_law_143 : decode cL_law 143 = .ok (.aload 4, 2) := by decide +kernel
theorem dL_law_145 : decode cL_law 145 = .ok (.aload 5, 2) := by decide +kernel
theorem dL_law_147 : decode cL_law 147 = .ok (.aload 8, 2) := by decide +kernel
theorem dL_law_149 : decode cL_law 149 = .ok (.invokestatic 98, 3) := by decide +kernel
theorem dL_law_152 : decode cL_law 152 = .ok (.ifCond .eq 27, 3) := by decide +kernel
theorem dL_law_155 : decode cL_law 155 = .ok (.aload_n 1, 1) := by decide +kernel
theorem dL_law_156 : decode cL_law 156 = .ok (.aload_n 3, 1) := by decide +kernel
theorem dL_law_157 : decode cL_law 157 = .ok (.aload 7, 2) := by decide +kernel
theorem dL_law_159 : decode cL_law 159 = .ok (.aload 8, 2) := by decide +kernel
theorem dL_law_161 : decode cL_law 161 = .ok (.invokestatic 102, 3) := by decide +kernel
theorem dL_law_164 : decode cL_law 164 = .ok (.ifCond .eq 15, 3) := by decide +kernel
theorem dL_law_167 : decode cL_law 167 = .ok (.aload_n 1, 1) := by decide +kernel
theorem dL_law_168 : decode cL_law 168 = .ok (.aload_n 2, 1) := by decide +kernel
theorem dL_law_169 : decode cL_law 169 = .ok (.aload 6, 2) := by decide +kernel
theorem dL_law_171 : decode cL_law 171 = .ok (.aload 8, 2) := by decide +kernel
theorem dL_law_173 : decode cL_law 173 = .ok (.invokestatic 106, 3) := by decide +kernel
theorem dL_law_176 : decode cL_law 176 = .ok (.ifCond .ne 5, 3) := by decide +kernel
theorem dL_law_179 : decode cL_law 179 = .ok (.iconst 0, 1) := by decide +kernel
theorem dL_law_180 : decode cL_law 180 = .ok (.ireturn, 1) := by decide +kernel
theorem dL_law_181 : decode cL_law 181 = .ok (.iinc 9 1, 3) := by decide +kernel
theorem dL_law_184 : decode cL_law 184 = .ok (.goto (-106), 3) := by decide +kernel
theorem dL_law_187 : decode cL_law 187 = .ok (.iconst 1, 1) := by decide +kernel
theorem dL_law_188 : decode cL_law 188 = .ok (.ireturn, 1) := by decide +kernel
