theorem dL_cell_0 : decode cL_cell 0 = .ok (.iload_n 1, 1) := by decide +kernel
theorem dL_cell_1 : decode cL_cell 1 = .ok (.aload_n 0, 1) := by decide +kernel
theorem dL_cell_2 : decode cL_cell 2 = .ok (.arraylength, 1) := by decide +kernel
theorem dL_cell_3 : decode cL_cell 3 = .ok (.if_icmp .ge 9, 3) := by decide +kernel
theorem dL_cell_6 : decode cL_cell 6 = .ok (.aload_n 0, 1) := by decide +kernel
theorem dL_cell_7 : decode cL_cell 7 = .ok (.iload_n 1, 1) := by decide +kernel
theorem dL_cell_8 : decode cL_cell 8 = .ok (.iaload, 1) := by decide +kernel
theorem dL_cell_9 : decode cL_cell 9 = .ok (.goto 13, 3) := by decide +kernel
theorem dL_cell_12 : decode cL_cell 12 = .ok (.ldc 7, 2) := by decide +kernel
theorem dL_cell_14 : decode cL_cell 14 = .ok (.iload_n 1, 1) := by decide +kernel
theorem dL_cell_15 : decode cL_cell 15 = .ok (.bipush 53, 2) := by decide +kernel
theorem dL_cell_17 : decode cL_cell 17 = .ok (.iadd, 1) := by decide +kernel
theorem dL_cell_18 : decode cL_cell 18 = .ok (.imul, 1) := by decide +kernel
theorem dL_cell_19 : decode cL_cell 19 = .ok (.bipush 89, 2) := by decide +kernel
theorem dL_cell_21 : decode cL_cell 21 = .ok (.iadd, 1) := by decide +kernel
theorem dL_cell_22 : decode cL_cell 22 = .ok (.ldc 8, 2) := by decide +kernel
theorem dL_cell_24 : decode cL_cell 24 = .ok (.iand, 1) := by decide +kernel
theorem dL_cell_25 : decode cL_cell 25 = .ok (.ireturn, 1) := by decide +kernel
set_option maxRecDepth 20000 in
theorem ggL_acts_X5_count : GoodIn wsL_acts wsX5_count := goodIn_r _ [5, 6, 7, 8, 9, 10, 11, 12, 13, 14, 15, 16, 17, 18, 19, 20, 21, 22, 23, 24, 25, 26, 27, 28, 29, 30, 31, 32, 33, 34, 35, 36, 37, 38, 39, 40, 41, 42, 43, 44, 45, 46, 47, 48, 49, 50, 51, 52, 53, 54, 55, 56, 57, 58, 59, 60, 61, 62, 63, 335, 336, 337, 338, 339, 340, 341, 342, 343, 344, 345, 346, 347, 348, 349, 350, 351, 352, 353, 354, 355, 356, 357, 358, 359, 360, 361, 362, 363] (by decide +kernel) (by decide +kernel)
set_option maxRecDepth 20000 in
theorem gL_acts_X5_count : GoodIn wsL_acts (wsV RL 9 RX5 yX5_count wsX5_count) := goodIn_app (goodIn_of _ (by decide +kernel)) ggL_acts_X5_count
set_option maxRecDepth 20000 in
theorem ggL_acts_X5_ask : GoodIn wsL_acts wsX5_ask := goodIn_r _ [67, 68, 8, 69, 70, 71, 24, 72, 31, 27, 28, 30, 32, 29, 26, 73, 74, 75, 36, 76, 38, 48, 77, 78, 79, 80, 81, 82, 83, 84, 85, 86, 87, 52, 88, 89, 54, 90, 91, 92, 93, 94, 95, 96, 97, 98, 99, 100, 33, 34, 35, 37, 101, 102, 103, 104, 105, 106, 107, 108, 47, 109, 110, 111, 4, 112, 6, 113, 114, 115, 12, 116, 14, 117, 118, 119, 120, 121, 122, 123, 335, 336, 337, 338, 339, 340, 341, 342, 351, 352, 353, 354, 355, 356, 357, 358, 359, 360, 361, 362, 363, 343, 344, 345] (by decide +kernel) (by decide +kernel)
set_option maxRecDepth 20000 in
theorem gL_acts_X5_ask : GoodIn wsL_acts (wsV RL 15 RX5 yX5_ask wsX5_ask) := goodIn_app (goodIn_of _ (by decide +kernel)) ggL_acts_X5_ask
set_option maxRecDepth 20000 in
theorem ggL_acts_X5_withdraw : GoodIn wsL_acts wsX5_withdraw := goodIn_r _ [127, 68, 8, 69, 70, 71, 24, 72, 31, 27, 28, 30, 32, 29, 26, 73, 74, 75, 36, 76, 38, 48, 77, 78, 79, 80, 81, 82, 83, 84, 85, 86, 87, 52, 88, 89, 54, 90, 91, 92, 128, 129, 130, 131, 97, 98, 99, 100, 63, 44, 45, 46, 47, 105, 106, 107, 108, 132, 133, 134, 135, 43, 109, 110, 111, 4, 112, 6, 113, 114, 115, 12, 116, 14, 117, 118, 119, 120, 121, 122, 123, 335, 336, 337, 338, 339, 340, 341, 342, 351, 352, 353, 354, 355, 356, 357, 358, 359, 360, 361, 362, 363, 343, 344, 345] (by decide +kernel) (by decide +kernel)
set_option maxRecDepth 20000 in
theorem gL_acts_X5_withdraw : GoodIn wsL_acts (wsV RL 19 RX5 yX5_withdraw wsX5_withdraw) := goodIn_app (goodIn_of _ (by decide +kernel)) ggL_acts_X5_withdraw
set_option maxRecDepth 20000 in
theorem ggL_acts_X5_adjust : GoodIn wsL_acts wsX5_adjust := goodIn_r _ [139, 68, 8, 69, 70, 71, 24, 72, 31, 27, 28, 30, 32, 29, 26, 73, 74, 75, 36, 76, 38, 48, 77, 78, 79, 80, 81, 82, 83, 84, 85, 86, 87, 52, 88, 89, 54, 90, 91, 92, 140, 141, 142, 143, 144, 145, 146, 63, 44, 45, 46, 47, 105, 106, 107, 108, 109, 110, 111, 4, 112, 6, 113, 114, 115, 12, 116, 14, 117, 118, 119, 120, 121, 122, 123, 335, 336, 337, 338, 339, 340, 341, 342, 351, 352, 353, 354, 355, 356, 357, 358, 359, 360, 361, 362, 363, 343, 344, 345] (by decide +kernel) (by decide +kernel)
set_option maxRecDepth 20000 in
theorem gL_acts_X5_adjust : GoodIn wsL_acts (wsV RL 22 RX5 yX5_adjust wsX5_adjust) := goodIn_app (goodIn_of _ (by decide +kernel)) ggL_acts_X5_adjust
set_option maxRecDepth 20000 in
theorem ggL_acts_X5_set : GoodIn wsL_acts wsX5_set := goodIn_r _ [150, 68, 8, 69, 70, 71, 24, 72, 31, 27, 28, 30, 32, 29, 26, 73, 74, 75, 36, 76, 38, 48, 77, 78, 79, 80, 81, 82, 83, 84, 85, 86, 87, 52, 88, 89, 54, 90, 91, 92, 151, 152, 153, 154, 97, 98, 99, 100, 63, 44, 45, 46, 47, 105, 106, 107, 108, 109, 110, 111, 4, 112, 6, 113, 114, 115, 12, 116, 14, 117, 118, 119, 120, 121, 122, 123, 335, 336, 337, 338, 339, 340, 341, 342, 351, 352, 353, 354, 355, 356, 357, 358, 359, 360, 361, 362, 363, 343, 344, 345] (by decide +kernel) (by decide +kernel)
set_option maxRecDepth 20000 in
theorem gL_acts_X5_set : GoodIn wsL_acts (wsV RL 26 RX5 yX5_set wsX5_set) := goodIn_app (goodIn_of _ (by decide +kernel)) ggL_acts_X5_set
set_option maxRecDepth 20000 in
theorem ggL_acts_X5_pass : GoodIn wsL_acts wsX5_pass := goodIn_r _ [158, 68, 8, 69, 70, 71, 24, 72, 31, 27, 28, 30, 32, 29, 26, 73, 74, 75, 36, 76, 38, 48, 77, 78, 79, 80, 81, 82, 83, 84, 85, 86, 87, 52, 88, 89, 54, 90, 91, 92, 159, 160, 161, 162, 163, 164, 165, 166, 167, 63, 44, 45, 46, 47, 49, 50, 51, 53, 168, 169, 170, 171, 172, 173, 174, 175, 176, 177, 178, 179, 180, 181, 182, 183, 184, 185, 186, 187, 188, 189, 190, 191, 192, 193, 194, 144, 145, 146, 195, 196, 197, 198, 105, 106, 107, 108, 199, 200, 201, 202, 203, 204, 205, 206, 207, 208, 209, 210, 211, 212, 213, 214, 215, 216, 217, 218, 219, 220, 221, 222, 109, 110, 111, 4, 112, 6, 113, 114, 115, 12, 116, 14, 117, 118, 119, 120, 121, 122, 123, 335, 336, 337, 338, 339, 340, 341, 342, 351, 352, 353, 354, 355, 356, 357, 358, 359, 360, 361, 362, 363, 343, 344, 345] (by decide +kernel) (by decide +kernel)
set_option maxRecDepth 20000 in
theorem gL_acts_X5_pass : GoodIn wsL_acts (wsV RL 30 RX5 yX5_pass wsX5_pass) := goodIn_app (goodIn_of _ (by decide +kernel)) ggL_acts_X5_pass
set_option maxRecDepth 20000 in
theorem ggL_acts_X5_undo : GoodIn wsL_acts wsX5_undo := goodIn_r _ [226, 6, 8, 227, 228, 229, 12, 230, 14, 118, 119, 120, 121, 117, 122, 123, 70, 71, 24, 72, 31, 27, 28, 30, 32, 29, 26, 73, 74, 75, 36, 76, 38, 48, 77, 78, 79, 80, 81, 82, 83, 84, 85, 86, 87, 52, 88, 89, 54, 90, 91, 92, 335, 336, 337, 338, 339, 340, 341, 342, 343, 344, 345, 351, 352, 353, 354, 355, 356, 357, 358, 359, 360, 361, 362, 363] (by decide +kernel) (by decide +kernel)
set_option maxRecDepth 20000 in
theorem gL_acts_X5_undo : GoodIn wsL_acts (wsV RL 33 RX5 yX5_undo wsX5_undo) := goodIn_app (goodIn_of _ (by decide +kernel)) ggL_acts_X5_undo
set_option maxRecDepth 20000 in
theorem ggL_acts_X5_keep : GoodIn wsL_acts wsX5_keep := goodIn_r _ [234, 235, 8, 236, 69, 70, 71, 24, 72, 31, 27, 28, 30, 32, 29, 26, 73, 74, 75, 36, 76, 38, 48, 77, 78, 79, 80, 81, 82, 83, 84, 85, 86, 87, 52, 88, 89, 54, 90, 91, 92, 237, 238, 239, 240, 49, 50, 51, 53, 335, 336, 337, 338, 339, 340, 341, 342, 351, 352, 353, 354, 355, 356, 357, 358, 359, 360, 361, 362, 363] (by decide +kernel) (by decide +kernel)
set_option maxRecDepth 20000 in
theorem gL_acts_X5_keep : GoodIn wsL_acts (wsV RL 36 RX5 yX5_keep wsX5_keep) := goodIn_app (goodIn_of _ (by decide +kernel)) ggL_acts_X5_keep
set_option maxRecDepth 20000 in
theorem ggL_acts_X5_restore : GoodIn wsL_acts wsX5_restore := goodIn_r _ [244, 236, 68, 235, 69, 70, 71, 24, 72, 31, 27, 28, 30, 32, 29, 26, 73, 74, 75, 36, 76, 38, 48, 77, 78, 79, 80, 81, 82, 83, 84, 85, 86, 87, 52, 88, 89, 54, 90, 91, 92, 237, 238, 239, 240, 49, 50, 51, 53, 109, 110, 111, 4, 112, 6, 8, 113, 114, 115, 12, 116, 14, 117, 118, 119, 120, 121, 122, 123, 335, 336, 337, 338, 339, 340, 341, 342, 351, 352, 353, 354, 355, 356, 357, 358, 359, 360, 361, 362, 363, 343, 344, 345] (by decide +kernel) (by decide +kernel)
set_option maxRecDepth 20000 in
theorem gL_acts_X5_restore : GoodIn wsL_acts (wsV RL 39 RX5 yX5_restore wsX5_restore) := goodIn_app (goodIn_of _ (by decide +kernel)) ggL_acts_X5_restore
set_option maxRecDepth 20000 in
theorem ggL_acts_X5_clearText : GoodIn wsL_acts wsX5_clearText := goodIn_r _ [248, 7, 249, 250, 251, 18, 252, 20, 335, 336, 337, 338, 339, 340, 341, 342, 346, 347, 348, 349, 350] (by decide +kernel) (by decide +kernel)
set_option maxRecDepth 20000 in
theorem gL_acts_X5_clearText : GoodIn wsL_acts (wsV RL 42 RX5 yX5_clearText wsX5_clearText) := goodIn_app (goodIn_of _ (by decide +kernel)) ggL_acts_X5_clearText
set_option maxRecDepth 20000 in
theorem ggL_acts_X5_type : GoodIn wsL_acts wsX5_type := goodIn_r _ [256, 7, 257, 258, 259, 18, 260, 20, 261, 335, 336, 337, 338, 339, 340, 341, 342, 346, 347, 348, 349, 350] (by decide +kernel) (by decide +kernel)
set_option maxRecDepth 20000 in
theorem gL_acts_X5_type : GoodIn wsL_acts (wsV RL 45 RX5 yX5_type wsX5_type) := goodIn_app (goodIn_of _ (by decide +kernel)) ggL_acts_X5_type
set_option maxRecDepth 20000 in
theorem ggL_acts_X5_perform : GoodIn wsL_acts wsX5_perform := goodIn_r _ [265, 7, 68, 8, 266, 267, 268, 269, 270, 18, 271, 272, 273, 274, 20, 275, 276, 277, 36, 278, 38, 279, 102, 103, 104, 280, 281, 282, 283, 284, 285, 286, 287, 261, 288, 106, 107, 108, 47, 48, 289, 290, 291, 292, 293, 294, 295, 296, 297, 298, 299, 300, 69, 70, 71, 24, 72, 31, 27, 28, 30, 32, 29, 26, 73, 74, 75, 76, 77, 78, 79, 80, 81, 82, 83, 84, 85, 86, 87, 52, 88, 89, 54, 90, 91, 92, 301, 302, 303, 304, 305, 34, 35, 37, 306, 307, 308, 4, 309, 310, 311, 312, 313, 314, 44, 45, 46, 93, 94, 95, 96, 97, 98, 99, 100, 33, 101, 105, 315, 316, 317, 318, 63, 211, 212, 213, 214, 159, 160, 161, 162, 163, 164, 165, 166, 167, 49, 50, 51, 53, 168, 169, 170, 171, 172, 173, 174, 175, 176, 177, 178, 179, 180, 181, 182, 183, 184, 185, 186, 187, 188, 189, 190, 191, 192, 193, 194, 144, 145, 146, 195, 196, 197, 198, 199, 200, 201, 202, 203, 204, 205, 206, 207, 208, 209, 210, 215, 216, 217, 218, 219, 220, 221, 222, 109, 110, 111, 112, 6, 113, 114, 115, 12, 116, 14, 117, 118, 119, 120, 121, 122, 123, 335, 336, 337, 338, 339, 340, 341, 342, 346, 347, 348, 349, 350, 358, 359, 360, 351, 352, 353, 354, 355, 356, 357, 361, 362, 363, 343, 344, 345] (by decide +kernel) (by decide +kernel)
set_option maxRecDepth 20000 in
theorem gL_acts_X5_perform : GoodIn wsL_acts (wsV RL 49 RX5 yX5_perform wsX5_perform) := goodIn_app (goodIn_of _ (by decide +kernel)) ggL_acts_X5_perform
set_option maxRecDepth 20000 in
theorem ggL_acts_X5_riddle : GoodIn wsL_acts wsX5_riddle := goodIn_r _ [322, 8, 323, 324, 325, 24, 326, 27, 28, 97, 98, 99, 36, 100, 38, 63, 44, 45, 46, 47, 48, 39, 40, 41, 42, 43, 132, 133, 134, 135, 327, 328, 329, 330, 335, 336, 337, 338, 339, 340, 341, 342, 351, 352, 353, 354, 355, 356, 357, 358, 359, 360] (by decide +kernel) (by decide +kernel)
set_option maxRecDepth 20000 in
theorem gL_acts_X5_riddle : GoodIn wsL_acts (wsV RL 52 RX5 yX5_riddle wsX5_riddle) := goodIn_app (goodIn_of _ (by decide +kernel)) ggL_acts_X5_riddle
set_option maxRecDepth 20000 in
theorem ggL_acts_X5_deliver : GoodIn wsL_acts wsX5_deliver := goodIn_r _ [334, 68, 8, 69, 70, 71, 24, 72, 31, 27, 28, 30, 32, 29, 26, 73, 74, 75, 36, 76, 38, 48, 77, 78, 79, 80, 81, 82, 83, 84, 85, 86, 87, 52, 88, 89, 54, 90, 91, 92, 315, 316, 317, 318, 97, 98, 99, 100, 63, 44, 45, 46, 47, 33, 34, 35, 37, 101, 102, 103, 104, 105, 106, 107, 108, 211, 212, 213, 214, 109, 110, 111, 4, 112, 6, 113, 114, 115, 12, 116, 14, 117, 118, 119, 120, 121, 122, 123, 335, 336, 337, 338, 339, 340, 341, 342, 351, 352, 353, 354, 355, 356, 357, 358, 359, 360, 361, 362, 363, 343, 344, 345] (by decide +kernel) (by decide +kernel)
set_option maxRecDepth 20000 in
theorem gL_acts_X5_deliver : GoodIn wsL_acts (wsV RL 55 RX5 yX5_deliver wsX5_deliver) := goodIn_app (goodIn_of _ (by decide +kernel)) ggL_acts_X5_deliver
theorem dL_acts_0 : decode cL_acts 0 = .ok (.iload_n 1, 1) := by decide +kernel
theorem dL_acts_1 : decode cL_acts 1 = .ok (.bipush 32, 2) := by decide +kernel
theorem dL_acts_3 : decode cL_acts 3 = .ok (.idiv, 1) := by decide +kernel
theorem dL_acts_4 : decode cL_acts 4 = .ok (.istore_n 2, 1) := by decide +kernel
theorem dL_acts_5 : decode cL_acts 5 = .ok (.aload_n 0, 1) := by decide +kernel
theorem dL_acts_6 : decode cL_acts 6 = .ok (.iconst 1, 1) := by decide +kernel
theorem dL_acts_7 : decode cL_acts 7 = .ok (.invokevirtual 9, 3) := by decide +kernel
theorem dL_acts_10 : decode cL_acts 10 = .ok (.istore_n 3, 1) := by decide +kernel
theorem dL_acts_11 : decode cL_acts 11 = .ok (.iload_n 3, 1) := by decide +kernel
theorem dL_acts_12 : decode cL_acts 12 = .ok (.iconst 1, 1) := by decide +kernel
theorem dL_acts_13 : decode cL_acts 13 = .ok (.if_icmp .ge 7, 3) := by decide +kernel
theorem dL_acts_16 : decode cL_acts 16 = .ok (.iconst 0, 1) := by decide +kernel
theorem dL_acts_17 : decode cL_acts 17 = .ok (.goto 9, 3) := by decide +kernel
theorem dL_acts_20 : decode cL_acts 20 = .ok (.iload_n 2, 1) := by decide +kernel
theorem dL_acts_21 : decode cL_acts 21 = .ok (.bipush 8, 2) := by decide +kernel
theorem dL_acts_23 : decode cL_acts 23 = .ok (.idiv, 1) := by decide +kernel
theorem dL_acts_24 : decode cL_acts 24 = .ok (.iload_n 3, 1) := by decide +kernel
theorem dL_acts_25 : decode cL_acts 25 = .ok (.irem, 1) := by decide +kernel
theorem dL_acts_26 : decode cL_acts 26 = .ok (.istore 4, 2) := by decide +kernel
theorem dL_acts_28 : decode cL_acts 28 = .ok (.iload_n 1, 1) := by decide +kernel
theorem dL_acts_29 : decode cL_acts 29 = .ok (.bipush 32, 2) := by decide +kernel
theorem dL_acts_31 : decode cL_acts 31 = .ok (.irem, 1) := by decide +kernel
theorem dL_acts_32 : decode cL_acts 32 = .ok (.tableswitch 438 0 20 #[100, 100, 100, 100, 100, 100, 125, 132, 137, 137, 170, 170, 170, 170, 180, 180, 185, 190, 195, 195, 195], 100) := by decide +kernel
theorem dL_acts_132 : decode cL_acts 132 = .ok (.aload_n 0, 1) := by decide +kernel
theorem dL_acts_133 : decode cL_acts 133 = .ok (.iload_n 2, 1) := by decide +kernel
theorem dL_acts_134 : decode cL_acts 134 = .ok (.bipush 8, 2) := by decide +kernel
theorem dL_acts_136 : decode cL_acts 136 = .ok (.irem, 1) := by decide +kernel
theorem dL_acts_137 : decode cL_acts 137 = .ok (.iconst 1, 1) := by decide +kernel
theorem dL_acts_138 : decode cL_acts 138 = .ok (.iload_n 2, 1) := by decide +kernel
theorem dL_acts_139 : decode cL_acts 139 = .ok (.bipush 8, 2) := by decide +kernel
theorem dL_acts_141 : decode cL_acts 141 = .ok (.idiv, 1) := by decide +kernel
theorem dL_acts_142 : decode cL_acts 142 = .ok (.bipush 50, 2) := by decide +kernel
theorem dL_acts_144 : decode cL_acts 144 = .ok (.irem, 1) := by decide +kernel
theorem dL_acts_145 : decode cL_acts 145 = .ok (.iadd, 1) := by decide +kernel
theorem dL_acts_146 : decode cL_acts 146 = .ok (.iload_n 2, 1) := by decide +kernel
theorem dL_acts_147 : decode cL_acts 147 = .ok (.sipush 512, 3) := by decide +kernel
theorem dL_acts_150 : decode cL_acts 150 = .ok (.idiv, 1) := by decide +kernel
theorem dL_acts_151 : decode cL_acts 151 = .ok (.iconst 3, 1) := by decide +kernel
theorem dL_acts_152 : decode cL_acts 152 = .ok (.irem, 1) := by decide +kernel
theorem dL_acts_153 : decode cL_acts 153 = .ok (.invokevirtual 15, 3) := by decide +kernel
theorem dL_acts_156 : decode cL_acts 156 = .ok (.ireturn, 1) := by decide +kernel
theorem dL_acts_157 : decode cL_acts 157 = .ok (.aload_n 0, 1) := by decide +kernel
theorem dL_acts_158 : decode cL_acts 158 = .ok (.iload 4, 2) := by decide +kernel
theorem dL_acts_160 : decode cL_acts 160 = .ok (.invokevirtual 19, 3) := by decide +kernel
theorem dL_acts_163 : decode cL_acts 163 = .ok (.ireturn, 1) := by decide +kernel
theorem dL_acts_164 : decode cL_acts 164 = .ok (.aload_n 0, 1) := by decide +kernel
theorem dL_acts_165 : decode cL_acts 165 = .ok (.invokevirtual 22, 3) := by decide +kernel
theorem dL_acts_168 : decode cL_acts 168 = .ok (.ireturn, 1) := by decide +kernel
theorem dL_acts_169 : decode cL_acts 169 = .ok (.aload_n 0, 1) := by decide +kernel
theorem dL_acts_170 : decode cL_acts 170 = .ok (.iload_n 2, 1) := by decide +kernel
theorem dL_acts_171 : decode cL_acts 171 = .ok (.iconst 4, 1) := by decide +kernel
theorem dL_acts_172 : decode cL_acts 172 = .ok (.irem, 1) := by decide +kernel
theorem dL_acts_173 : decode cL_acts 173 = .ok (.iload_n 2, 1) := by decide +kernel
theorem dL_acts_174 : decode cL_acts 174 = .ok (.iconst 4, 1) := by decide +kernel
theorem dL_acts_175 : decode cL_acts 175 = .ok (.irem, 1) := by decide +kernel
theorem dL_acts_176 : decode cL_acts 176 = .ok (.iconst 3, 1) := by decide +kernel
theorem dL_acts_177 : decode cL_acts 177 = .ok (.if_icmp .ne 13, 3) := by decide +kernel
theorem dL_acts_180 : decode cL_acts 180 = .ok (.iload_n 2, 1) := by decide +kernel
theorem dL_acts_181 : decode cL_acts 181 = .ok (.iconst 4, 1) := by decide +kernel
theorem dL_acts_182 : decode cL_acts 182 = .ok (.idiv, 1) := by decide +kernel
theorem dL_acts_183 : decode cL_acts 183 = .ok (.sipush 300, 3) := by decide +kernel
theorem dL_acts_186 : decode cL_acts 186 = .ok (.irem, 1) := by decide +kernel
theorem dL_acts_187 : decode cL_acts 187 = .ok (.goto 11, 3) := by decide +kernel
theorem dL_acts_190 : decode cL_acts 190 = .ok (.iconst 1, 1) := by decide +kernel
theorem dL_acts_191 : decode cL_acts 191 = .ok (.iload_n 2, 1) := by decide +kernel
theorem dL_acts_192 : decode cL_acts 192 = .ok (.iconst 4, 1) := by decide +kernel
theorem dL_acts_193 : decode cL_acts 193 = .ok (.idiv, 1) := by decide +kernel
theorem dL_acts_194 : decode cL_acts 194 = .ok (.bipush 9, 2) := by decide +kernel
theorem dL_acts_196 : decode cL_acts 196 = .ok (.irem, 1) := by decide +kernel
theorem dL_acts_197 : decode cL_acts 197 = .ok (.iadd, 1) := by decide +kernel
theorem dL_acts_198 : decode cL_acts 198 = .ok (.invokevirtual 26, 3) := by decide +kernel
theorem dL_acts_201 : decode cL_acts 201 = .ok (.ireturn, 1) := by decide +kernel
theorem dL_acts_202 : decode cL_acts 202 = .ok (.aload_n 0, 1) := by decide +kernel
theorem dL_acts_203 : decode cL_acts 203 = .ok (.iconst 1, 1) := by decide +kernel
theorem dL_acts_204 : decode cL_acts 204 = .ok (.iload_n 2, 1) := by decide +kernel
theorem dL_acts_205 : decode cL_acts 205 = .ok (.iconst 4, 1) := by decide +kernel
theorem dL_acts_206 : decode cL_acts 206 = .ok (.irem, 1) := by decide +kernel
theorem dL_acts_207 : decode cL_acts 207 = .ok (.iadd, 1) := by decide +kernel
theorem dL_acts_208 : decode cL_acts 208 = .ok (.invokevirtual 30, 3) := by decide +kernel
theorem dL_acts_211 : decode cL_acts 211 = .ok (.ireturn, 1) := by decide +kernel
theorem dL_acts_212 : decode cL_acts 212 = .ok (.aload_n 0, 1) := by decide +kernel
theorem dL_acts_213 : decode cL_acts 213 = .ok (.invokevirtual 33, 3) := by decide +kernel
theorem dL_acts_216 : decode cL_acts 216 = .ok (.ireturn, 1) := by decide +kernel
theorem dL_acts_217 : decode cL_acts 217 = .ok (.aload_n 0, 1) := by decide +kernel
theorem dL_acts_218 : decode cL_acts 218 = .ok (.invokevirtual 36, 3) := by decide +kernel
theorem dL_acts_221 : decode cL_acts 221 = .ok (.ireturn, 1) := by decide +kernel
theorem dL_acts_222 : decode cL_acts 222 = .ok (.aload_n 0, 1) := by decide +kernel
theorem dL_acts_223 : decode cL_acts 223 = .ok (.invokevirtual 39, 3) := by decide +kernel
theorem dL_acts_226 : decode cL_acts 226 = .ok (.ireturn, 1) := by decide +kernel
theorem dL_acts_227 : decode cL_acts 227 = .ok (.aload_n 0, 1) := by decide +kernel
theorem dL_acts_228 : decode cL_acts 228 = .ok (.invokevirtual 42, 3) := by decide +kernel
theorem dL_acts_231 : decode cL_acts 231 = .ok (.istore 5, 2) := by decide +kernel
theorem dL_acts_233 : decode cL_acts 233 = .ok (.iconst 0, 1) := by decide +kernel
theorem dL_acts_234 : decode cL_acts 234 = .ok (.istore 6, 2) := by decide +kernel
theorem dL_acts_236 : decode cL_acts 236 = .ok (.iload 6, 2) := by decide +kernel
theorem dL_acts_238 : decode cL_acts 238 = .ok (.iconst 1, 1) := by decide +kernel
theorem dL_acts_239 : decode cL_acts 239 = .ok (.iload_n 2, 1) := by decide +kernel
theorem dL_acts_240 : decode cL_acts 240 = .ok (.iconst 4, 1) := by decide +kernel
theorem dL_acts_241 : decode cL_acts 241 = .ok (.irem, 1) := by decide +kernel
theorem dL_acts_242 : decode cL_acts 242 = .ok (.iadd, 1) := by decide +kernel
theorem dL_acts_243 : decode cL_acts 243 = .ok (.if_icmp .ge 211, 3) := by decide +kernel
theorem dL_acts_246 : decode cL_acts 246 = .ok (.iload_n 2, 1) := by decide +kernel
theorem dL_acts_247 : decode cL_acts 247 = .ok (.iconst 4, 1) := by decide +kernel
theorem dL_acts_248 : decode cL_acts 248 = .ok (.idiv, 1) := by decide +kernel
theorem dL_acts_249 : decode cL_acts 249 = .ok (.iconst 5, 1) := by decide +kernel
theorem dL_acts_250 : decode cL_acts 250 = .ok (.iload 6, 2) := by decide +kernel
theorem dL_acts_252 : decode cL_acts 252 = .ok (.imul, 1) := by decide +kernel
theorem dL_acts_253 : decode cL_acts 253 = .ok (.ishr, 1) := by decide +kernel
theorem dL_acts_254 : decode cL_acts 254 = .ok (.istore 7, 2) := by decide +kernel
theorem dL_acts_256 : decode cL_acts 256 = .ok (.iload 6, 2) := by decide +kernel
theorem dL_acts_258 : decode cL_acts 258 = .ok (.ifCond .le 12, 3) := by decide +kernel
theorem dL_acts_261 : decode cL_acts 261 = .ok (.aload_n 0, 1) := by decide +kernel
theorem dL_acts_262 : decode cL_acts 262 = .ok (.bipush 59, 2) := by decide +kernel
theorem dL_acts_264 : decode cL_acts 264 = .ok (.invokevirtual 45, 3) := by decide +kernel
theorem dL_acts_267 : decode cL_acts 267 = .ok (.goto 4, 3) := by decide +kernel
theorem dL_acts_270 : decode cL_acts 270 = .ok (.iconst 0, 1) := by decide +kernel
theorem dL_acts_271 : decode cL_acts 271 = .ok (.istore 5, 2) := by decide +kernel
theorem dL_acts_273 : decode cL_acts 273 = .ok (.iload 7, 2) := by decide +kernel
theorem dL_acts_275 : decode cL_acts 275 = .ok (.iconst 4, 1) := by decide +kernel
theorem dL_acts_276 : decode cL_acts 276 = .ok (.irem, 1) := by decide +kernel
theorem dL_acts_277 : decode cL_acts 277 = .ok (.ifCond .ne 30, 3) := by decide +kernel
theorem dL_acts_280 : decode cL_acts 280 = .ok (.aload_n 0, 1) := by decide +kernel
theorem dL_acts_281 : decode cL_acts 281 = .ok (.bipush 46, 2) := by decide +kernel
theorem dL_acts_283 : decode cL_acts 283 = .ok (.invokevirtual 45, 3) := by decide +kernel
theorem dL_acts_286 : decode cL_acts 286 = .ok (.istore 5, 2) := by decide +kernel
theorem dL_acts_288 : decode cL_acts 288 = .ok (.aload_n 0, 1) := by decide +kernel
theorem dL_acts_289 : decode cL_acts 289 = .ok (.bipush 49, 2) := by decide +kernel
theorem dL_acts_291 : decode cL_acts 291 = .ok (.iload 7, 2) := by decide +kernel
theorem dL_acts_293 : decode cL_acts 293 = .ok (.iconst 4, 1) := by decide +kernel
theorem dL_acts_294 : decode cL_acts 294 = .ok (.idiv, 1) := by decide +kernel
theorem dL_acts_295 : decode cL_acts 295 = .ok (.iconst 4, 1) := by decide +kernel
theorem dL_acts_296 : decode cL_acts 296 = .ok (.irem, 1) := by decide +kernel
theorem dL_acts_297 : decode cL_acts 297 = .ok (.iadd, 1) := by decide +kernel
theorem dL_acts_298 : decode cL_acts 298 = .ok (.i2c, 1) := by decide +kernel
theorem dL_acts_299 : decode cL_acts 299 = .ok (.invokevirtual 45, 3) := by decide +kernel
theorem dL_acts_302 : decode cL_acts 302 = .ok (.istore 5, 2) := by decide +kernel
theorem dL_acts_304 : decode cL_acts 304 = .ok (.goto 144, 3) := by decide +kernel
theorem dL_acts_307 : decode cL_acts 307 = .ok (.aload_n 0, 1) := by decide +kernel
theorem dL_acts_308 : decode cL_acts 308 = .ok (.iload 7, 2) := by decide +kernel
theorem dL_acts_310 : decode cL_acts 310 = .ok (.iconst 4, 1) := by decide +kernel
theorem dL_acts_311 : decode cL_acts 311 = .ok (.irem, 1) := by decide +kernel
theorem dL_acts_312 : decode cL_acts 312 = .ok (.iconst 1, 1) := by decide +kernel
theorem dL_acts_313 : decode cL_acts 313 = .ok (.if_icmp .ne 8, 3) := by decide +kernel
theorem dL_acts_316 : decode cL_acts 316 = .ok (.bipush 114, 2) := by decide +kernel
theorem dL_acts_318 : decode cL_acts 318 = .ok (.goto 5, 3) := by decide +kernel
theorem dL_acts_321 : decode cL_acts 321 = .ok (.bipush 97, 2) := by decide +kernel
theorem dL_acts_323 : decode cL_acts 323 = .ok (.invokevirtual 45, 3) := by decide +kernel
theorem dL_acts_326 : decode cL_acts 326 = .ok (.istore 5, 2) := by decide +kernel
theorem dL_acts_328 : decode cL_acts 328 = .ok (.aload_n 0, 1) := by decide +kernel
theorem dL_acts_329 : decode cL_acts 329 = .ok (.bipush 48, 2) := by decide +kernel
theorem dL_acts_331 : decode cL_acts 331 = .ok (.iload 7, 2) := by decide +kernel
theorem dL_acts_333 : decode cL_acts 333 = .ok (.iconst 4, 1) := by decide +kernel
theorem dL_acts_334 : decode cL_acts 334 = .ok (.idiv, 1) := by decide +kernel
theorem dL_acts_335 : decode cL_acts 335 = .ok (.bipush 8, 2) := by decide +kernel
theorem dL_acts_337 : decode cL_acts 337 = .ok (.irem, 1) := by decide +kernel
theorem dL_acts_338 : decode cL_acts 338 = .ok (.iadd, 1) := by decide +kernel
theorem dL_acts_339 : decode cL_acts 339 = .ok (.i2c, 1) := by decide +kernel
theorem dL_acts_340 : decode cL_acts 340 = .ok (.invokevirtual 45, 3) := by decide +kernel
theorem dL_acts_343 : decode cL_acts 343 = .ok (.istore 5, 2) := by decide +kernel
theorem dL_acts_345 : decode cL_acts 345 = .ok (.aload_n 0, 1) := by decide +kernel
theorem dL_acts_346 : decode cL_acts 346 = .ok (.bipush 58, 2) := by decide +kernel
theorem dL_acts_348 : decode cL_acts 348 = .ok (.invokevirtual 45, 3) := by decide +kernel
theorem dL_acts_351 : decode cL_acts 351 = .ok (.istore 5, 2) := by decide +kernel
theorem dL_acts_353 : decode cL_acts 353 = .ok (.aload_n 0, 1) := by decide +kernel
theorem dL_acts_354 : decode cL_acts 354 = .ok (.bipush 49, 2) := by decide +kernel
theorem dL_acts_356 : decode cL_acts 356 = .ok (.iload 7, 2) := by decide +kernel
theorem dL_acts_358 : decode cL_acts 358 = .ok (.bipush 32, 2) := by decide +kernel
theorem dL_acts_360 : decode cL_acts 360 = .ok (.idiv, 1) := by decide +kernel
theorem dL_acts_361 : decode cL_acts 361 = .ok (.bipush 9, 2) := by decide +kernel
theorem dL_acts_363 : decode cL_acts 363 = .ok (.irem, 1) := by decide +kernel
theorem dL_acts_364 : decode cL_acts 364 = .ok (.iadd, 1) := by decide +kernel
theorem dL_acts_365 : decode cL_acts 365 = .ok (.i2c, 1) := by decide +kernel
theorem dL_acts_366 : decode cL_acts 366 = .ok (.invokevirtual 45, 3) := by decide +kernel
theorem dL_acts_369 : decode cL_acts 369 = .ok (.istore 5, 2) := by decide +kernel
theorem dL_acts_371 : decode cL_acts 371 = .ok (.aload_n 0, 1) := by decide +kernel
theorem dL_acts_372 : decode cL_acts 372 = .ok (.bipush 61, 2) := by decide +kernel
theorem dL_acts_374 : decode cL_acts 374 = .ok (.invokevirtual 45, 3) := by decide +kernel
theorem dL_acts_377 : decode cL_acts 377 = .ok (.istore 5, 2) := by decide +kernel
theorem dL_acts_379 : decode cL_acts 379 = .ok (.aload_n 0, 1) := by decide +kernel
theorem dL_acts_380 : decode cL_acts 380 = .ok (.bipush 48, 2) := by decide +kernel
theorem dL_acts_382 : decode cL_acts 382 = .ok (.iload 7, 2) := by decide +kernel
theorem dL_acts_384 : decode cL_acts 384 = .ok (.bipush 16, 2) := by decide +kernel
theorem dL_acts_386 : decode cL_acts 386 = .ok (.idiv, 1) := by decide +kernel
theorem dL_acts_387 : decode cL_acts 387 = .ok (.iconst 3, 1) := by decide +kernel
theorem dL_acts_388 : decode cL_acts 388 = .ok (.irem, 1) := by decide +kernel
theorem dL_acts_389 : decode cL_acts 389 = .ok (.iadd, 1) := by decide +kernel
theorem dL_acts_390 : decode cL_acts 390 = .ok (.i2c, 1) := by decide +kernel
theorem dL_acts_391 : decode cL_acts 391 = .ok (.invokevirtual 45, 3) := by decide +kernel
theorem dL_acts_394 : decode cL_acts 394 = .ok (.istore 5, 2) := by decide +kernel
theorem dL_acts_396 : decode cL_acts 396 = .ok (.iload 7, 2) := by decide +kernel
theorem dL_acts_398 : decode cL_acts 398 = .ok (.iconst 4, 1) := by decide +kernel
theorem dL_acts_399 : decode cL_acts 399 = .ok (.irem, 1) := by decide +kernel
theorem dL_acts_400 : decode cL_acts 400 = .ok (.iconst 1, 1) := by decide +kernel
theorem dL_acts_401 : decode cL_acts 401 = .ok (.if_icmp .ne 8, 3) := by decide +kernel
theorem dL_acts_404 : decode cL_acts 404 = .ok (.iload 5, 2) := by decide +kernel
theorem dL_acts_406 : decode cL_acts 406 = .ok (.goto 9, 3) := by decide +kernel
theorem dL_acts_409 : decode cL_acts 409 = .ok (.aload_n 0, 1) := by decide +kernel
theorem dL_acts_410 : decode cL_acts 410 = .ok (.bipush 42, 2) := by decide +kernel
theorem dL_acts_412 : decode cL_acts 412 = .ok (.invokevirtual 45, 3) := by decide +kernel
theorem dL_acts_415 : decode cL_acts 415 = .ok (.istore 5, 2) := by decide +kernel
theorem dL_acts_417 : decode cL_acts 417 = .ok (.iload 7, 2) := by decide +kernel
theorem dL_acts_419 : decode cL_acts 419 = .ok (.iconst 4, 1) := by decide +kernel
theorem dL_acts_420 : decode cL_acts 420 = .ok (.irem, 1) := by decide +kernel
theorem dL_acts_421 : decode cL_acts 421 = .ok (.iconst 1, 1) := by decide +kernel
theorem dL_acts_422 : decode cL_acts 422 = .ok (.if_icmp .ne 8, 3) := by decide +kernel
theorem dL_acts_425 : decode cL_acts 425 = .ok (.iload 5, 2) := by decide +kernel
theorem dL_acts_427 : decode cL_acts 427 = .ok (.goto 19, 3) := by decide +kernel
theorem dL_acts_430 : decode cL_acts 430 = .ok (.aload_n 0, 1) := by decide +kernel
theorem dL_acts_431 : decode cL_acts 431 = .ok (.bipush 49, 2) := by decide +kernel
theorem dL_acts_433 : decode cL_acts 433 = .ok (.iload 7, 2) := by decide +kernel
theorem dL_acts_435 : decode cL_acts 435 = .ok (.bipush 64, 2) := by decide +kernel
theorem dL_acts_437 : decode cL_acts 437 = .ok (.idiv, 1) := by decide +kernel
theorem dL_acts_438 : decode cL_acts 438 = .ok (.bipush 9, 2) := by decide +kernel
theorem dL_acts_440 : decode cL_acts 440 = .ok (.irem, 1) := by decide +kernel
theorem dL_acts_441 : decode cL_acts 441 = .ok (.iadd, 1) := by decide +kernel
theorem dL_acts_442 : decode cL_acts 442 = .ok (.i2c, 1) := by decide +kernel
theorem dL_acts_443 : decode cL_acts 443 = .ok (.invokevirtual 45, 3) := by decide +kernel
theorem dL_acts_446 : decode cL_acts 446 = .ok (.istore 5, 2) := by decide +kernel
theorem dL_acts_448 : decode cL_acts 448 = .ok (.iinc 6 1, 3) := by decide +kernel
theorem dL_acts_451 : decode cL_acts 451 = .ok (.goto (-215), 3) := by decide +kernel
theorem dL_acts_454 : decode cL_acts 454 = .ok (.iload 5, 2) := by decide +kernel
theorem dL_acts_456 : decode cL_acts 456 = .ok (.iconst 1, 1) := by decide +kernel
theorem dL_acts_457 : decode cL_acts 457 = .ok (.if_icmp .ge 8, 3) := by decide +kernel
theorem dL_acts_460 : decode cL_acts 460 = .ok (.bipush (-9), 2) := by decide +kernel
theorem dL_acts_462 : decode cL_acts 462 = .ok (.goto 7, 3) := by decide +kernel
theorem dL_acts_465 : decode cL_acts 465 = .ok (.aload_n 0, 1) := by decide +kernel
theorem dL_acts_466 : decode cL_acts 466 = .ok (.invokevirtual 49, 3) := by decide +kernel
theorem dL_acts_469 : decode cL_acts 469 = .ok (.ireturn, 1) := by decide +kernel
theorem dL_acts_470 : decode cL_acts 470 = .ok (.aload_n 0, 1) := by decide +kernel
theorem dL_acts_471 : decode cL_acts 471 = .ok (.iload_n 2, 1) := by decide +kernel
theorem dL_acts_472 : decode cL_acts 472 = .ok (.bipush 8, 2) := by decide +kernel
theorem dL_acts_474 : decode cL_acts 474 = .ok (.irem, 1) := by decide +kernel
theorem dL_acts_475 : decode cL_acts 475 = .ok (.iload 4, 2) := by decide +kernel
theorem dL_acts_477 : decode cL_acts 477 = .ok (.iload_n 2, 1) := by decide +kernel
theorem dL_acts_478 : decode cL_acts 478 = .ok (.sipush 256, 3) := by decide +kernel
theorem dL_acts_481 : decode cL_acts 481 = .ok (.idiv, 1) := by decide +kernel
theorem dL_acts_482 : decode cL_acts 482 = .ok (.iconst 4, 1) := by decide +kernel
theorem dL_acts_483 : decode cL_acts 483 = .ok (.irem, 1) := by decide +kernel
theorem dL_acts_484 : decode cL_acts 484 = .ok (.ifCond .le 13, 3) := by decide +kernel
theorem dL_acts_487 : decode cL_acts 487 = .ok (.aload_n 0, 1) := by decide +kernel
theorem dL_acts_488 : decode cL_acts 488 = .ok (.iload 4, 2) := by decide +kernel
theorem dL_acts_490 : decode cL_acts 490 = .ok (.iconst 2, 1) := by decide +kernel
theorem dL_acts_491 : decode cL_acts 491 = .ok (.invokevirtual 52, 3) := by decide +kernel
theorem dL_acts_494 : decode cL_acts 494 = .ok (.goto 10, 3) := by decide +kernel
theorem dL_acts_497 : decode cL_acts 497 = .ok (.iload_n 2, 1) := by decide +kernel
theorem dL_acts_498 : decode cL_acts 498 = .ok (.sipush 1024, 3) := by decide +kernel
theorem dL_acts_501 : decode cL_acts 501 = .ok (.idiv, 1) := by decide +kernel
theorem dL_acts_502 : decode cL_acts 502 = .ok (.iconst 4, 1) := by decide +kernel
theorem dL_acts_503 : decode cL_acts 503 = .ok (.irem, 1) := by decide +kernel
theorem dL_acts_504 : decode cL_acts 504 = .ok (.iconst 1, 1) := by decide +kernel
theorem dL_acts_505 : decode cL_acts 505 = .ok (.iload_n 2, 1) := by decide +kernel
theorem dL_acts_506 : decode cL_acts 506 = .ok (.sipush 4096, 3) := by decide +kernel
theorem dL_acts_509 : decode cL_acts 509 = .ok (.idiv, 1) := by decide +kernel
theorem dL_acts_510 : decode cL_acts 510 = .ok (.bipush 99, 2) := by decide +kernel
theorem dL_acts_512 : decode cL_acts 512 = .ok (.irem, 1) := by decide +kernel
theorem dL_acts_513 : decode cL_acts 513 = .ok (.iadd, 1) := by decide +kernel
theorem dL_acts_514 : decode cL_acts 514 = .ok (.invokevirtual 55, 3) := by decide +kernel
theorem dL_acts_517 : decode cL_acts 517 = .ok (.ireturn, 1) := by decide +kernel
