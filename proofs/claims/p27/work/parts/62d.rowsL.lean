set_option maxRecDepth 20000 in
theorem ggL_law_X5_init : GoodIn wsL_law wsX5_init := goodIn_r _ [6, 7, 8, 9, 10, 11, 12, 13, 14, 15, 16, 17, 18, 19, 20, 21, 22, 23, 24, 25, 26, 27, 28, 29, 30, 31, 32, 33, 34, 35, 36, 37, 38, 39, 40, 41, 42, 43, 44, 45, 46, 47, 48, 49, 50, 51, 52, 53, 54, 55, 56, 57, 58, 59, 60, 61, 62, 63, 64, 65, 66, 67, 68, 69, 70, 71, 72, 73, 74, 75, 76, 77, 78, 79, 80, 481, 482, 483, 484, 485, 486, 487, 473, 474, 475, 476, 477, 478, 479, 480, 488, 489, 490, 491, 492, 493, 494, 495, 496, 497, 498, 499, 500, 501] (by decide +kernel) (by decide +kernel)
set_option maxRecDepth 20000 in
theorem gL_law_X5_init : GoodIn wsL_law (wsX5_init) := ggL_law_X5_init
set_option maxRecDepth 20000 in
theorem ggL_law_X5_undo : GoodIn wsL_law wsX5_undo := goodIn_r _ [84, 19, 13, 85, 86, 87, 18, 88, 89, 90, 91, 92, 93, 94, 71, 95, 96, 97, 12, 98, 34, 35, 36, 37, 38, 42, 99, 100, 101, 102, 32, 103, 57, 47, 104, 105, 106, 107, 108, 109, 110, 111, 112, 113, 114, 41, 115, 116, 117, 52, 118, 119, 473, 474, 475, 476, 477, 478, 479, 480, 488, 489, 490, 481, 482, 483, 484, 485, 486, 487, 496, 497, 498, 499, 500, 501] (by decide +kernel) (by decide +kernel)
set_option maxRecDepth 20000 in
theorem gL_law_X5_undo : GoodIn wsL_law (wsV RL 33 RX5 yX5_undo wsX5_undo) := goodIn_app (goodIn_of _ (by decide +kernel)) ggL_law_X5_undo
set_option maxRecDepth 20000 in
theorem ggL_law_X5_restore : GoodIn wsL_law wsX5_restore := goodIn_r _ [123, 124, 14, 15, 125, 96, 97, 12, 98, 34, 35, 36, 37, 38, 42, 99, 100, 101, 102, 32, 103, 57, 47, 104, 105, 106, 107, 108, 109, 110, 111, 112, 113, 114, 41, 115, 116, 117, 52, 118, 119, 126, 127, 128, 129, 130, 131, 132, 133, 134, 135, 136, 2, 137, 19, 13, 138, 139, 140, 18, 141, 89, 94, 90, 91, 92, 93, 71, 95, 473, 474, 475, 476, 477, 478, 479, 480, 481, 482, 483, 484, 485, 486, 487, 496, 497, 498, 499, 500, 501, 488, 489, 490] (by decide +kernel) (by decide +kernel)
set_option maxRecDepth 20000 in
theorem gL_law_X5_restore : GoodIn wsL_law (wsV RL 39 RX5 yX5_restore wsX5_restore) := goodIn_app (goodIn_of _ (by decide +kernel)) ggL_law_X5_restore
set_option maxRecDepth 20000 in
theorem ggL_law_X5_perform : GoodIn wsL_law wsX5_perform := goodIn_r _ [145, 23, 14, 13, 24, 25, 146, 147, 148, 22, 149, 79, 150, 151, 152, 153, 154, 155, 32, 156, 57, 157, 54, 55, 56, 158, 159, 160, 161, 162, 163, 164, 165, 77, 166, 59, 60, 61, 48, 47, 167, 168, 169, 170, 171, 172, 173, 174, 175, 176, 177, 178, 125, 96, 97, 12, 98, 34, 35, 36, 37, 38, 42, 99, 100, 101, 102, 103, 104, 105, 106, 107, 108, 109, 110, 111, 112, 113, 114, 41, 115, 116, 117, 52, 118, 119, 179, 180, 181, 182, 183, 184, 185, 186, 187, 188, 189, 2, 190, 191, 192, 193, 194, 195, 196, 197, 198, 199, 200, 201, 202, 203, 204, 205, 206, 207, 53, 58, 208, 209, 210, 211, 212, 213, 214, 215, 216, 217, 218, 219, 220, 221, 222, 223, 224, 225, 130, 131, 132, 133, 226, 227, 228, 229, 230, 231, 232, 233, 234, 235, 236, 237, 238, 239, 240, 241, 242, 243, 244, 245, 246, 247, 248, 249, 250, 251, 252, 253, 254, 255, 256, 257, 258, 259, 260, 261, 262, 263, 264, 265, 266, 267, 268, 269, 270, 271, 272, 273, 274, 275, 276, 277, 278, 279, 134, 135, 136, 137, 19, 138, 139, 140, 18, 141, 89, 94, 90, 91, 92, 93, 71, 95, 473, 474, 475, 476, 477, 478, 479, 480, 491, 492, 493, 494, 495, 496, 497, 498, 481, 482, 483, 484, 485, 486, 487, 499, 500, 501, 488, 489, 490] (by decide +kernel) (by decide +kernel)
set_option maxRecDepth 20000 in
theorem gL_law_X5_perform : GoodIn wsL_law (wsV RL 49 RX5 yX5_perform wsX5_perform) := goodIn_app (goodIn_of _ (by decide +kernel)) ggL_law_X5_perform
set_option maxRecDepth 20000 in
theorem ggL_law_X5_stopped : GoodIn wsL_law wsX5_stopped := goodIn_r _ [283, 24, 25, 473, 474, 475, 476, 477, 478, 479, 480] (by decide +kernel) (by decide +kernel)
set_option maxRecDepth 20000 in
theorem gL_law_X5_stopped : GoodIn wsL_law (wsV RL 82 RX5 yX5_stopped wsX5_stopped) := goodIn_app (goodIn_of _ (by decide +kernel)) ggL_law_X5_stopped
set_option maxRecDepth 20000 in
theorem ggL_law_X5_adjust : GoodIn wsL_law wsX5_adjust := goodIn_r _ [287, 14, 13, 125, 96, 97, 12, 98, 34, 35, 36, 37, 38, 42, 99, 100, 101, 102, 32, 103, 57, 47, 104, 105, 106, 107, 108, 109, 110, 111, 112, 113, 114, 41, 115, 116, 117, 52, 118, 119, 288, 289, 290, 291, 253, 254, 255, 212, 196, 197, 198, 48, 58, 59, 60, 61, 134, 135, 136, 2, 137, 19, 138, 139, 140, 18, 141, 89, 94, 90, 91, 92, 93, 71, 95, 473, 474, 475, 476, 477, 478, 479, 480, 481, 482, 483, 484, 485, 486, 487, 496, 497, 498, 499, 500, 501, 488, 489, 490] (by decide +kernel) (by decide +kernel)
set_option maxRecDepth 20000 in
theorem gL_law_X5_adjust : GoodIn wsL_law (wsV RL 22 RX5 yX5_adjust wsX5_adjust) := goodIn_app (goodIn_of _ (by decide +kernel)) ggL_law_X5_adjust
set_option maxRecDepth 20000 in
theorem ggL_law_L_cell : GoodIn wsL_law wsL_cell := goodIn_r _ [404, 405, 406] (by decide +kernel) (by decide +kernel)
set_option maxRecDepth 20000 in
theorem gL_law_L_cell : GoodIn wsL_law (va_wsS RL 98 yL_cell wsL_cell) := goodIn_app (goodIn_of _ (by decide +kernel)) ggL_law_L_cell
set_option maxRecDepth 20000 in
theorem ggL_law_L_same : GoodIn wsL_law wsL_same := goodIn_r _ [472, 330, 331, 332, 2, 333, 19, 23, 13, 334, 335, 336, 18, 337, 89, 338, 339, 340, 22, 341, 152, 342, 343, 344, 12, 345, 99, 35, 36, 42, 37, 34, 38, 207, 184, 185, 32, 186, 57, 312, 313, 314, 315, 316, 196, 197, 198, 48, 47, 130, 131, 132, 41, 133, 117, 346, 347, 348, 349, 350, 351, 352, 353, 212, 321, 322, 323, 324, 325, 326, 327, 328, 329, 203, 204, 205, 206, 304, 305, 306, 307, 308, 309, 310, 311, 246, 247, 106, 248, 317, 318, 319, 320, 354, 355, 356, 357, 358, 359, 360, 361, 362, 363, 364, 365, 378, 379, 380, 381, 382, 383, 384, 385, 386, 231, 232, 233, 116, 52, 366, 367, 368, 369, 370, 371, 372, 373, 374, 375, 376, 377, 230, 473, 474, 475, 476, 477, 478, 479, 480, 488, 489, 490, 491, 492, 493, 494, 495, 481, 482, 483, 484, 485, 486, 487, 496, 497, 498, 499, 500, 501] (by decide +kernel) (by decide +kernel)
set_option maxRecDepth 20000 in
theorem gL_law_L_same : GoodIn wsL_law (va_wsS RL 110 yL_same wsL_same) := goodIn_app (goodIn_of _ (by decide +kernel)) ggL_law_L_same
set_option maxRecDepth 20000 in
theorem ggL_law_X5_pass : GoodIn wsL_law wsX5_pass := goodIn_r _ [433, 14, 13, 125, 96, 97, 12, 98, 34, 35, 36, 37, 38, 42, 99, 100, 101, 102, 32, 103, 57, 47, 104, 105, 106, 107, 108, 109, 110, 111, 112, 113, 114, 41, 115, 116, 117, 52, 118, 119, 217, 218, 219, 220, 221, 222, 223, 224, 225, 212, 196, 197, 198, 48, 130, 131, 132, 133, 226, 227, 228, 229, 230, 231, 232, 233, 234, 235, 236, 237, 238, 239, 240, 241, 242, 243, 244, 245, 246, 247, 248, 249, 250, 251, 252, 253, 254, 255, 256, 257, 258, 259, 58, 59, 60, 61, 260, 261, 262, 263, 264, 265, 266, 267, 268, 269, 270, 271, 213, 214, 215, 216, 272, 273, 274, 275, 276, 277, 278, 279, 134, 135, 136, 2, 137, 19, 138, 139, 140, 18, 141, 89, 94, 90, 91, 92, 93, 71, 95, 473, 474, 475, 476, 477, 478, 479, 480, 481, 482, 483, 484, 485, 486, 487, 496, 497, 498, 499, 500, 501, 488, 489, 490] (by decide +kernel) (by decide +kernel)
set_option maxRecDepth 20000 in
theorem gL_law_X5_pass : GoodIn wsL_law (wsV RL 30 RX5 yX5_pass wsX5_pass) := goodIn_app (goodIn_of _ (by decide +kernel)) ggL_law_X5_pass
set_option maxRecDepth 20000 in
theorem ggL_law_X5_account : GoodIn wsL_law wsX5_account := goodIn_r _ [324, 13, 325, 326, 327, 12, 328, 34, 36, 35, 329, 203, 204, 205, 32, 206, 57, 212, 196, 197, 198, 48, 47, 207, 184, 185, 186, 473, 474, 475, 476, 477, 478, 479, 480, 481, 482, 483, 484, 485, 486, 487, 496, 497, 498] (by decide +kernel) (by decide +kernel)
set_option maxRecDepth 20000 in
theorem gL_law_X5_account : GoodIn wsL_law (wsV RL 65 RX5 yX5_account wsX5_account) := goodIn_app (goodIn_of _ (by decide +kernel)) ggL_law_X5_account
set_option maxRecDepth 20000 in
theorem ggL_law_X5_count : GoodIn wsL_law wsX5_count := goodIn_r _ [333, 19, 23, 13, 334, 335, 336, 18, 337, 89, 338, 339, 340, 22, 341, 152, 342, 343, 344, 12, 345, 99, 35, 36, 42, 37, 34, 38, 207, 184, 185, 32, 186, 57, 312, 313, 314, 315, 316, 196, 197, 198, 48, 47, 130, 131, 132, 41, 133, 117, 346, 347, 348, 349, 350, 351, 352, 353, 212, 473, 474, 475, 476, 477, 478, 479, 480, 488, 489, 490, 491, 492, 493, 494, 495, 481, 482, 483, 484, 485, 486, 487, 496, 497, 498, 499, 500, 501] (by decide +kernel) (by decide +kernel)
set_option maxRecDepth 20000 in
theorem gL_law_X5_count : GoodIn wsL_law (wsV RL 9 RX5 yX5_count wsX5_count) := goodIn_app (goodIn_of _ (by decide +kernel)) ggL_law_X5_count
theorem dL_law_0 : decode cL_law 0 = .ok (.new 10, 3) := by decide +kernel
theorem dL_law_3 : decode cL_law 3 = .ok (.dup, 1) := by decide +kernel
theorem dL_law_4 : decode cL_law 4 = .ok (.invokespecial 91, 3) := by decide +kernel
theorem dL_law_7 : decode cL_law 7 = .ok (.astore_n 1, 1) := by decide +kernel
theorem dL_law_8 : decode cL_law 8 = .ok (.new 10, 3) := by decide +kernel
theorem dL_law_11 : decode cL_law 11 = .ok (.dup, 1) := by decide +kernel
theorem dL_law_12 : decode cL_law 12 = .ok (.invokespecial 91, 3) := by decide +kernel
theorem dL_law_15 : decode cL_law 15 = .ok (.astore_n 2, 1) := by decide +kernel
theorem dL_law_16 : decode cL_law 16 = .ok (.aload_n 1, 1) := by decide +kernel
theorem dL_law_17 : decode cL_law 17 = .ok (.invokevirtual 33, 3) := by decide +kernel
theorem dL_law_20 : decode cL_law 20 = .ok (.bipush (-5), 2) := by decide +kernel
theorem dL_law_22 : decode cL_law 22 = .ok (.if_icmp .ne 51, 3) := by decide +kernel
theorem dL_law_25 : decode cL_law 25 = .ok (.aload_n 1, 1) := by decide +kernel
theorem dL_law_26 : decode cL_law 26 = .ok (.invokevirtual 39, 3) := by decide +kernel
theorem dL_law_29 : decode cL_law 29 = .ok (.bipush (-5), 2) := by decide +kernel
theorem dL_law_31 : decode cL_law 31 = .ok (.if_icmp .ne 42, 3) := by decide +kernel
theorem dL_law_34 : decode cL_law 34 = .ok (.aload_n 1, 1) := by decide +kernel
theorem dL_law_35 : decode cL_law 35 = .ok (.invokevirtual 49, 3) := by decide +kernel
theorem dL_law_38 : decode cL_law 38 = .ok (.bipush (-100), 2) := by decide +kernel
theorem dL_law_40 : decode cL_law 40 = .ok (.if_icmp .ne 33, 3) := by decide +kernel
theorem dL_law_43 : decode cL_law 43 = .ok (.aload_n 1, 1) := by decide +kernel
theorem dL_law_44 : decode cL_law 44 = .ok (.iconst 0, 1) := by decide +kernel
theorem dL_law_45 : decode cL_law 45 = .ok (.invokevirtual 82, 3) := by decide +kernel
theorem dL_law_48 : decode cL_law 48 = .ok (.bipush (-5), 2) := by decide +kernel
theorem dL_law_50 : decode cL_law 50 = .ok (.if_icmp .ne 23, 3) := by decide +kernel
theorem dL_law_53 : decode cL_law 53 = .ok (.aload_n 1, 1) := by decide +kernel
theorem dL_law_54 : decode cL_law 54 = .ok (.invokevirtual 22, 3) := by decide +kernel
theorem dL_law_57 : decode cL_law 57 = .ok (.bipush (-5), 2) := by decide +kernel
theorem dL_law_59 : decode cL_law 59 = .ok (.if_icmp .ne 14, 3) := by decide +kernel
theorem dL_law_62 : decode cL_law 62 = .ok (.aload_n 1, 1) := by decide +kernel
theorem dL_law_63 : decode cL_law 63 = .ok (.invokestatic 92, 3) := by decide +kernel
theorem dL_law_66 : decode cL_law 66 = .ok (.ifCond .eq 7, 3) := by decide +kernel
theorem dL_law_69 : decode cL_law 69 = .ok (.iconst 1, 1) := by decide +kernel
theorem dL_law_70 : decode cL_law 70 = .ok (.goto 4, 3) := by decide +kernel
theorem dL_law_73 : decode cL_law 73 = .ok (.iconst 0, 1) := by decide +kernel
theorem dL_law_74 : decode cL_law 74 = .ok (.istore_n 3, 1) := by decide +kernel
theorem dL_law_75 : decode cL_law 75 = .ok (.iconst 0, 1) := by decide +kernel
theorem dL_law_76 : decode cL_law 76 = .ok (.istore 4, 2) := by decide +kernel
theorem dL_law_78 : decode cL_law 78 = .ok (.iload 4, 2) := by decide +kernel
theorem dL_law_80 : decode cL_law 80 = .ok (.bipush 44, 2) := by decide +kernel
theorem dL_law_82 : decode cL_law 82 = .ok (.if_icmp .ge 99, 3) := by decide +kernel
theorem dL_law_85 : decode cL_law 85 = .ok (.iload_n 3, 1) := by decide +kernel
theorem dL_law_86 : decode cL_law 86 = .ok (.ifCond .eq 95, 3) := by decide +kernel
theorem dL_law_89 : decode cL_law 89 = .ok (.aload_n 0, 1) := by decide +kernel
theorem dL_law_90 : decode cL_law 90 = .ok (.iload 4, 2) := by decide +kernel
theorem dL_law_92 : decode cL_law 92 = .ok (.invokestatic 98, 3) := by decide +kernel
theorem dL_law_95 : decode cL_law 95 = .ok (.istore 5, 2) := by decide +kernel
theorem dL_law_97 : decode cL_law 97 = .ok (.aload_n 1, 1) := by decide +kernel
theorem dL_law_98 : decode cL_law 98 = .ok (.iload 5, 2) := by decide +kernel
theorem dL_law_100 : decode cL_law 100 = .ok (.invokestatic 102, 3) := by decide +kernel
theorem dL_law_103 : decode cL_law 103 = .ok (.istore 6, 2) := by decide +kernel
theorem dL_law_105 : decode cL_law 105 = .ok (.iload 4, 2) := by decide +kernel
theorem dL_law_107 : decode cL_law 107 = .ok (.iconst 3, 1) := by decide +kernel
theorem dL_law_108 : decode cL_law 108 = .ok (.irem, 1) := by decide +kernel
theorem dL_law_109 : decode cL_law 109 = .ok (.ifCond .gt 15, 3) := by decide +kernel
theorem dL_law_112 : decode cL_law 112 = .ok (.aload_n 2, 1) := by decide +kernel
theorem dL_law_113 : decode cL_law 113 = .ok (.iload 5, 2) := by decide +kernel
theorem dL_law_115 : decode cL_law 115 = .ok (.ldc 68, 2) := by decide +kernel
theorem dL_law_117 : decode cL_law 117 = .ok (.irem, 1) := by decide +kernel
theorem dL_law_118 : decode cL_law 118 = .ok (.invokestatic 106, 3) := by decide +kernel
theorem dL_law_121 : decode cL_law 121 = .ok (.ifCond .eq 52, 3) := by decide +kernel
theorem dL_law_124 : decode cL_law 124 = .ok (.aload_n 2, 1) := by decide +kernel
theorem dL_law_125 : decode cL_law 125 = .ok (.iload 5, 2) := by decide +kernel
theorem dL_law_127 : decode cL_law 127 = .ok (.invokestatic 102, 3) := by decide +kernel
theorem dL_law_130 : decode cL_law 130 = .ok (.iload 6, 2) := by decide +kernel
theorem dL_law_132 : decode cL_law 132 = .ok (.if_icmp .ne 41, 3) := by decide +kernel
theorem dL_law_135 : decode cL_law 135 = .ok (.aload_n 1, 1) := by decide +kernel
theorem dL_law_136 : decode cL_law 136 = .ok (.aload_n 2, 1) := by decide +kernel
theorem dL_law_137 : decode cL_law 137 = .ok (.invokestatic 110, 3) := by decide +kernel
theorem dL_law_140 : decode cL_law 140 = .ok (.ifCond .eq 33, 3) := by decide +kernel
theorem dL_law_143 : decode cL_law 143 = .ok (.iload 4, 2) := by decide +kernel
theorem dL_law_145 : decode cL_law 145 = .ok (.iconst 4, 1) := by decide +kernel
theorem dL_law_146 : decode cL_law 146 = .ok (.irem, 1) := by decide +kernel
theorem dL_law_147 : decode cL_law 147 = .ok (.ifCond .gt 22, 3) := by decide +kernel
theorem dL_law_150 : decode cL_law 150 = .ok (.iload 4, 2) := by decide +kernel
theorem dL_law_152 : decode cL_law 152 = .ok (.bipush 8, 2) := by decide +kernel
theorem dL_law_154 : decode cL_law 154 = .ok (.irem, 1) := by decide +kernel
theorem dL_law_155 : decode cL_law 155 = .ok (.ifCond .ne 7, 3) := by decide +kernel
theorem dL_law_158 : decode cL_law 158 = .ok (.aload_n 1, 1) := by decide +kernel
theorem dL_law_159 : decode cL_law 159 = .ok (.goto 4, 3) := by decide +kernel
theorem dL_law_162 : decode cL_law 162 = .ok (.aload_n 2, 1) := by decide +kernel
theorem dL_law_163 : decode cL_law 163 = .ok (.invokestatic 92, 3) := by decide +kernel
theorem dL_law_166 : decode cL_law 166 = .ok (.ifCond .eq 7, 3) := by decide +kernel
theorem dL_law_169 : decode cL_law 169 = .ok (.iconst 1, 1) := by decide +kernel
theorem dL_law_170 : decode cL_law 170 = .ok (.goto 4, 3) := by decide +kernel
theorem dL_law_173 : decode cL_law 173 = .ok (.iconst 0, 1) := by decide +kernel
theorem dL_law_174 : decode cL_law 174 = .ok (.istore_n 3, 1) := by decide +kernel
theorem dL_law_175 : decode cL_law 175 = .ok (.iinc 4 1, 3) := by decide +kernel
theorem dL_law_178 : decode cL_law 178 = .ok (.goto (-100), 3) := by decide +kernel
theorem dL_law_181 : decode cL_law 181 = .ok (.iconst 2, 1) := by decide +kernel
theorem dL_law_182 : decode cL_law 182 = .ok (.aload_n 0, 1) := by decide +kernel
theorem dL_law_183 : decode cL_law 183 = .ok (.bipush 44, 2) := by decide +kernel
theorem dL_law_185 : decode cL_law 185 = .ok (.invokestatic 98, 3) := by decide +kernel
theorem dL_law_188 : decode cL_law 188 = .ok (.bipush 20, 2) := by decide +kernel
theorem dL_law_190 : decode cL_law 190 = .ok (.irem, 1) := by decide +kernel
theorem dL_law_191 : decode cL_law 191 = .ok (.iadd, 1) := by decide +kernel
theorem dL_law_192 : decode cL_law 192 = .ok (.istore 4, 2) := by decide +kernel
theorem dL_law_194 : decode cL_law 194 = .ok (.iconst 0, 1) := by decide +kernel
theorem dL_law_195 : decode cL_law 195 = .ok (.istore 5, 2) := by decide +kernel
theorem dL_law_197 : decode cL_law 197 = .ok (.iconst 0, 1) := by decide +kernel
theorem dL_law_198 : decode cL_law 198 = .ok (.istore 6, 2) := by decide +kernel
theorem dL_law_200 : decode cL_law 200 = .ok (.iload 6, 2) := by decide +kernel
theorem dL_law_202 : decode cL_law 202 = .ok (.iload 4, 2) := by decide +kernel
theorem dL_law_204 : decode cL_law 204 = .ok (.if_icmp .ge 23, 3) := by decide +kernel
theorem dL_law_207 : decode cL_law 207 = .ok (.iload_n 3, 1) := by decide +kernel
theorem dL_law_208 : decode cL_law 208 = .ok (.ifCond .eq 19, 3) := by decide +kernel
theorem dL_law_211 : decode cL_law 211 = .ok (.iload 5, 2) := by decide +kernel
theorem dL_law_213 : decode cL_law 213 = .ok (.aload_n 1, 1) := by decide +kernel
theorem dL_law_214 : decode cL_law 214 = .ok (.iconst 1, 1) := by decide +kernel
theorem dL_law_215 : decode cL_law 215 = .ok (.invokevirtual 30, 3) := by decide +kernel
theorem dL_law_218 : decode cL_law 218 = .ok (.iadd, 1) := by decide +kernel
theorem dL_law_219 : decode cL_law 219 = .ok (.istore 5, 2) := by decide +kernel
theorem dL_law_221 : decode cL_law 221 = .ok (.iinc 6 1, 3) := by decide +kernel
theorem dL_law_224 : decode cL_law 224 = .ok (.goto (-24), 3) := by decide +kernel
theorem dL_law_227 : decode cL_law 227 = .ok (.iload_n 3, 1) := by decide +kernel
theorem dL_law_228 : decode cL_law 228 = .ok (.ifCond .eq 18, 3) := by decide +kernel
theorem dL_law_231 : decode cL_law 231 = .ok (.aload_n 2, 1) := by decide +kernel
theorem dL_law_232 : decode cL_law 232 = .ok (.iload 4, 2) := by decide +kernel
theorem dL_law_234 : decode cL_law 234 = .ok (.invokevirtual 30, 3) := by decide +kernel
theorem dL_law_237 : decode cL_law 237 = .ok (.iload 5, 2) := by decide +kernel
theorem dL_law_239 : decode cL_law 239 = .ok (.if_icmp .ne 7, 3) := by decide +kernel
theorem dL_law_242 : decode cL_law 242 = .ok (.iconst 1, 1) := by decide +kernel
theorem dL_law_243 : decode cL_law 243 = .ok (.goto 4, 3) := by decide +kernel
theorem dL_law_246 : decode cL_law 246 = .ok (.iconst 0, 1) := by decide +kernel
theorem dL_law_247 : decode cL_law 247 = .ok (.istore_n 3, 1) := by decide +kernel
theorem dL_law_248 : decode cL_law 248 = .ok (.iconst 0, 1) := by decide +kernel
theorem dL_law_249 : decode cL_law 249 = .ok (.istore 6, 2) := by decide +kernel
theorem dL_law_251 : decode cL_law 251 = .ok (.iload 6, 2) := by decide +kernel
theorem dL_law_253 : decode cL_law 253 = .ok (.bipush 8, 2) := by decide +kernel
theorem dL_law_255 : decode cL_law 255 = .ok (.if_icmp .ge 34, 3) := by decide +kernel
theorem dL_law_258 : decode cL_law 258 = .ok (.iload_n 3, 1) := by decide +kernel
theorem dL_law_259 : decode cL_law 259 = .ok (.ifCond .eq 30, 3) := by decide +kernel
theorem dL_law_262 : decode cL_law 262 = .ok (.aload_n 1, 1) := by decide +kernel
theorem dL_law_263 : decode cL_law 263 = .ok (.iload 6, 2) := by decide +kernel
theorem dL_law_265 : decode cL_law 265 = .ok (.invokevirtual 65, 3) := by decide +kernel
theorem dL_law_268 : decode cL_law 268 = .ok (.aload_n 2, 1) := by decide +kernel
theorem dL_law_269 : decode cL_law 269 = .ok (.iload 6, 2) := by decide +kernel
theorem dL_law_271 : decode cL_law 271 = .ok (.invokevirtual 65, 3) := by decide +kernel
theorem dL_law_274 : decode cL_law 274 = .ok (.if_icmp .ne 7, 3) := by decide +kernel
theorem dL_law_277 : decode cL_law 277 = .ok (.iconst 1, 1) := by decide +kernel
theorem dL_law_278 : decode cL_law 278 = .ok (.goto 4, 3) := by decide +kernel
theorem dL_law_281 : decode cL_law 281 = .ok (.iconst 0, 1) := by decide +kernel
theorem dL_law_282 : decode cL_law 282 = .ok (.istore_n 3, 1) := by decide +kernel
theorem dL_law_283 : decode cL_law 283 = .ok (.iinc 6 1, 3) := by decide +kernel
theorem dL_law_286 : decode cL_law 286 = .ok (.goto (-35), 3) := by decide +kernel
theorem dL_law_289 : decode cL_law 289 = .ok (.iload_n 3, 1) := by decide +kernel
theorem dL_law_290 : decode cL_law 290 = .ok (.ifCond .eq 62, 3) := by decide +kernel
theorem dL_law_293 : decode cL_law 293 = .ok (.aload_n 1, 1) := by decide +kernel
theorem dL_law_294 : decode cL_law 294 = .ok (.iconst 0, 1) := by decide +kernel
theorem dL_law_295 : decode cL_law 295 = .ok (.invokevirtual 9, 3) := by decide +kernel
theorem dL_law_298 : decode cL_law 298 = .ok (.aload_n 2, 1) := by decide +kernel
theorem dL_law_299 : decode cL_law 299 = .ok (.iconst 0, 1) := by decide +kernel
theorem dL_law_300 : decode cL_law 300 = .ok (.invokevirtual 9, 3) := by decide +kernel
theorem dL_law_303 : decode cL_law 303 = .ok (.if_icmp .ne 49, 3) := by decide +kernel
theorem dL_law_306 : decode cL_law 306 = .ok (.aload_n 1, 1) := by decide +kernel
theorem dL_law_307 : decode cL_law 307 = .ok (.iconst 4, 1) := by decide +kernel
theorem dL_law_308 : decode cL_law 308 = .ok (.invokevirtual 9, 3) := by decide +kernel
theorem dL_law_311 : decode cL_law 311 = .ok (.aload_n 2, 1) := by decide +kernel
theorem dL_law_312 : decode cL_law 312 = .ok (.iconst 4, 1) := by decide +kernel
theorem dL_law_313 : decode cL_law 313 = .ok (.invokevirtual 9, 3) := by decide +kernel
theorem dL_law_316 : decode cL_law 316 = .ok (.if_icmp .ne 36, 3) := by decide +kernel
theorem dL_law_319 : decode cL_law 319 = .ok (.aload_n 1, 1) := by decide +kernel
theorem dL_law_320 : decode cL_law 320 = .ok (.bipush 9, 2) := by decide +kernel
theorem dL_law_322 : decode cL_law 322 = .ok (.invokevirtual 9, 3) := by decide +kernel
theorem dL_law_325 : decode cL_law 325 = .ok (.aload_n 2, 1) := by decide +kernel
theorem dL_law_326 : decode cL_law 326 = .ok (.bipush 9, 2) := by decide +kernel
theorem dL_law_328 : decode cL_law 328 = .ok (.invokevirtual 9, 3) := by decide +kernel
theorem dL_law_331 : decode cL_law 331 = .ok (.if_icmp .ne 21, 3) := by decide +kernel
theorem dL_law_334 : decode cL_law 334 = .ok (.aload_n 1, 1) := by decide +kernel
theorem dL_law_335 : decode cL_law 335 = .ok (.invokestatic 92, 3) := by decide +kernel
theorem dL_law_338 : decode cL_law 338 = .ok (.ifCond .eq 14, 3) := by decide +kernel
theorem dL_law_341 : decode cL_law 341 = .ok (.aload_n 2, 1) := by decide +kernel
theorem dL_law_342 : decode cL_law 342 = .ok (.invokestatic 92, 3) := by decide +kernel
theorem dL_law_345 : decode cL_law 345 = .ok (.ifCond .eq 7, 3) := by decide +kernel
theorem dL_law_348 : decode cL_law 348 = .ok (.iconst 1, 1) := by decide +kernel
theorem dL_law_349 : decode cL_law 349 = .ok (.goto 4, 3) := by decide +kernel
theorem dL_law_352 : decode cL_law 352 = .ok (.iconst 0, 1) := by decide +kernel
theorem dL_law_353 : decode cL_law 353 = .ok (.ireturn, 1) := by decide +kernel
