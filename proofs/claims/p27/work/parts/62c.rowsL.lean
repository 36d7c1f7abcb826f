set_option maxRecDepth 20000 in
theorem ggL_same_X5_count : GoodIn wsL_same wsX5_count := goodIn_r _ [5, 6, 7, 8, 9, 10, 11, 12, 13, 14, 15, 16, 17, 18, 19, 20, 21, 22, 23, 24, 25, 26, 27, 28, 29, 30, 31, 32, 33, 34, 35, 36, 37, 38, 39, 40, 41, 42, 43, 44, 45, 46, 47, 48, 49, 50, 51, 52, 53, 54, 55, 56, 57, 58, 59, 60, 61, 62, 63, 132, 133, 134, 135, 136, 137, 138, 139, 140, 141, 142, 143, 144, 145, 146, 147, 148, 149, 150, 151, 152, 153, 154, 155, 156, 157, 158, 159, 160] (by decide +kernel) (by decide +kernel)
set_option maxRecDepth 20000 in
theorem gL_same_X5_count : GoodIn wsL_same (wsV RL 9 RX5 yX5_count wsX5_count) := goodIn_app (goodIn_of _ (by decide +kernel)) ggL_same_X5_count
set_option maxRecDepth 20000 in
theorem ggL_same_X5_account : GoodIn wsL_same wsX5_account := goodIn_r _ [67, 8, 68, 69, 70, 24, 71, 31, 28, 27, 72, 73, 74, 75, 36, 76, 38, 63, 44, 45, 46, 47, 48, 33, 34, 35, 37, 132, 133, 134, 135, 136, 137, 138, 139, 148, 149, 150, 151, 152, 153, 154, 155, 156, 157] (by decide +kernel) (by decide +kernel)
set_option maxRecDepth 20000 in
theorem gL_same_X5_account : GoodIn wsL_same (wsV RL 65 RX5 yX5_account wsX5_account) := goodIn_app (goodIn_of _ (by decide +kernel)) ggL_same_X5_account
set_option maxRecDepth 20000 in
theorem ggL_same_X5_trader : GoodIn wsL_same wsX5_trader := goodIn_r _ [80, 8, 81, 82, 83, 24, 84, 31, 85, 86, 87, 88, 27, 28, 73, 74, 75, 36, 76, 38, 63, 44, 45, 46, 47, 48, 39, 40, 41, 42, 43, 89, 90, 91, 92, 132, 133, 134, 135, 136, 137, 138, 139, 148, 149, 150, 151, 152, 153, 154, 155, 156, 157] (by decide +kernel) (by decide +kernel)
set_option maxRecDepth 20000 in
theorem gL_same_X5_trader : GoodIn wsL_same (wsV RL 62 RX5 yX5_trader wsX5_trader) := goodIn_app (goodIn_of _ (by decide +kernel)) ggL_same_X5_trader
set_option maxRecDepth 20000 in
theorem ggL_same_X5_riddle : GoodIn wsL_same wsX5_riddle := goodIn_r _ [96, 8, 97, 98, 99, 24, 100, 27, 28, 73, 74, 75, 36, 76, 38, 63, 44, 45, 46, 47, 48, 39, 40, 41, 42, 43, 89, 90, 91, 92, 101, 102, 103, 104, 132, 133, 134, 135, 136, 137, 138, 139, 148, 149, 150, 151, 152, 153, 154, 155, 156, 157] (by decide +kernel) (by decide +kernel)
set_option maxRecDepth 20000 in
theorem gL_same_X5_riddle : GoodIn wsL_same (wsV RL 52 RX5 yX5_riddle wsX5_riddle) := goodIn_app (goodIn_of _ (by decide +kernel)) ggL_same_X5_riddle
set_option maxRecDepth 20000 in
theorem ggL_same_X5_waits : GoodIn wsL_same wsX5_waits := goodIn_r _ [108, 8, 109, 110, 111, 24, 112, 29, 113, 114, 115, 52, 116, 54, 117, 118, 132, 133, 134, 135, 136, 137, 138, 139, 148, 149, 150, 151, 152, 153, 154, 158, 159, 160] (by decide +kernel) (by decide +kernel)
set_option maxRecDepth 20000 in
theorem gL_same_X5_waits : GoodIn wsL_same (wsV RL 72 RX5 yX5_waits wsX5_waits) := goodIn_app (goodIn_of _ (by decide +kernel)) ggL_same_X5_waits
set_option maxRecDepth 20000 in
theorem ggL_same_X5_answer : GoodIn wsL_same wsX5_answer := goodIn_r _ [122, 8, 123, 124, 125, 24, 126, 28, 29, 73, 74, 75, 36, 76, 38, 127, 128, 129, 52, 130, 54, 131, 114, 115, 116, 117, 118, 63, 44, 45, 46, 47, 48, 132, 133, 134, 135, 136, 137, 138, 139, 148, 149, 150, 151, 152, 153, 154, 155, 156, 157, 158, 159, 160] (by decide +kernel) (by decide +kernel)
set_option maxRecDepth 20000 in
theorem gL_same_X5_answer : GoodIn wsL_same (wsV RL 69 RX5 yX5_answer wsX5_answer) := goodIn_app (goodIn_of _ (by decide +kernel)) ggL_same_X5_answer
theorem dL_same_0 : decode cL_same 0 = .ok (.iconst 1, 1) := by decide +kernel
theorem dL_same_1 : decode cL_same 1 = .ok (.istore_n 2, 1) := by decide +kernel
theorem dL_same_2 : decode cL_same 2 = .ok (.iconst 0, 1) := by decide +kernel
theorem dL_same_3 : decode cL_same 3 = .ok (.istore_n 3, 1) := by decide +kernel
theorem dL_same_4 : decode cL_same 4 = .ok (.iload_n 3, 1) := by decide +kernel
theorem dL_same_5 : decode cL_same 5 = .ok (.bipush 20, 2) := by decide +kernel
theorem dL_same_7 : decode cL_same 7 = .ok (.if_icmp .ge 38, 3) := by decide +kernel
theorem dL_same_10 : decode cL_same 10 = .ok (.iload_n 2, 1) := by decide +kernel
theorem dL_same_11 : decode cL_same 11 = .ok (.ifCond .eq 34, 3) := by decide +kernel
theorem dL_same_14 : decode cL_same 14 = .ok (.iload_n 3, 1) := by decide +kernel
theorem dL_same_15 : decode cL_same 15 = .ok (.bipush 19, 2) := by decide +kernel
theorem dL_same_17 : decode cL_same 17 = .ok (.if_icmp .eq 16, 3) := by decide +kernel
theorem dL_same_20 : decode cL_same 20 = .ok (.aload_n 0, 1) := by decide +kernel
theorem dL_same_21 : decode cL_same 21 = .ok (.iload_n 3, 1) := by decide +kernel
theorem dL_same_22 : decode cL_same 22 = .ok (.invokevirtual 9, 3) := by decide +kernel
theorem dL_same_25 : decode cL_same 25 = .ok (.aload_n 1, 1) := by decide +kernel
theorem dL_same_26 : decode cL_same 26 = .ok (.iload_n 3, 1) := by decide +kernel
theorem dL_same_27 : decode cL_same 27 = .ok (.invokevirtual 9, 3) := by decide +kernel
theorem dL_same_30 : decode cL_same 30 = .ok (.if_icmp .ne 7, 3) := by decide +kernel
theorem dL_same_33 : decode cL_same 33 = .ok (.iconst 1, 1) := by decide +kernel
theorem dL_same_34 : decode cL_same 34 = .ok (.goto 4, 3) := by decide +kernel
theorem dL_same_37 : decode cL_same 37 = .ok (.iconst 0, 1) := by decide +kernel
theorem dL_same_38 : decode cL_same 38 = .ok (.istore_n 2, 1) := by decide +kernel
theorem dL_same_39 : decode cL_same 39 = .ok (.iinc 3 1, 3) := by decide +kernel
theorem dL_same_42 : decode cL_same 42 = .ok (.goto (-38), 3) := by decide +kernel
theorem dL_same_45 : decode cL_same 45 = .ok (.iconst 0, 1) := by decide +kernel
theorem dL_same_46 : decode cL_same 46 = .ok (.istore_n 3, 1) := by decide +kernel
theorem dL_same_47 : decode cL_same 47 = .ok (.iload_n 3, 1) := by decide +kernel
theorem dL_same_48 : decode cL_same 48 = .ok (.bipush 8, 2) := by decide +kernel
theorem dL_same_50 : decode cL_same 50 = .ok (.if_icmp .ge 66, 3) := by decide +kernel
theorem dL_same_53 : decode cL_same 53 = .ok (.iload_n 2, 1) := by decide +kernel
theorem dL_same_54 : decode cL_same 54 = .ok (.ifCond .eq 62, 3) := by decide +kernel
theorem dL_same_57 : decode cL_same 57 = .ok (.aload_n 0, 1) := by decide +kernel
theorem dL_same_58 : decode cL_same 58 = .ok (.iload_n 3, 1) := by decide +kernel
theorem dL_same_59 : decode cL_same 59 = .ok (.invokevirtual 65, 3) := by decide +kernel
theorem dL_same_62 : decode cL_same 62 = .ok (.aload_n 1, 1) := by decide +kernel
theorem dL_same_63 : decode cL_same 63 = .ok (.iload_n 3, 1) := by decide +kernel
theorem dL_same_64 : decode cL_same 64 = .ok (.invokevirtual 65, 3) := by decide +kernel
theorem dL_same_67 : decode cL_same 67 = .ok (.if_icmp .ne 41, 3) := by decide +kernel
theorem dL_same_70 : decode cL_same 70 = .ok (.aload_n 0, 1) := by decide +kernel
theorem dL_same_71 : decode cL_same 71 = .ok (.iload_n 3, 1) := by decide +kernel
theorem dL_same_72 : decode cL_same 72 = .ok (.bipush 7, 2) := by decide +kernel
theorem dL_same_74 : decode cL_same 74 = .ok (.invokevirtual 62, 3) := by decide +kernel
theorem dL_same_77 : decode cL_same 77 = .ok (.aload_n 1, 1) := by decide +kernel
theorem dL_same_78 : decode cL_same 78 = .ok (.iload_n 3, 1) := by decide +kernel
theorem dL_same_79 : decode cL_same 79 = .ok (.bipush 7, 2) := by decide +kernel
theorem dL_same_81 : decode cL_same 81 = .ok (.invokevirtual 62, 3) := by decide +kernel
theorem dL_same_84 : decode cL_same 84 = .ok (.if_icmp .ne 24, 3) := by decide +kernel
theorem dL_same_87 : decode cL_same 87 = .ok (.aload_n 0, 1) := by decide +kernel
theorem dL_same_88 : decode cL_same 88 = .ok (.iload_n 3, 1) := by decide +kernel
theorem dL_same_89 : decode cL_same 89 = .ok (.bipush 6, 2) := by decide +kernel
theorem dL_same_91 : decode cL_same 91 = .ok (.invokevirtual 62, 3) := by decide +kernel
theorem dL_same_94 : decode cL_same 94 = .ok (.aload_n 1, 1) := by decide +kernel
theorem dL_same_95 : decode cL_same 95 = .ok (.iload_n 3, 1) := by decide +kernel
theorem dL_same_96 : decode cL_same 96 = .ok (.bipush 6, 2) := by decide +kernel
theorem dL_same_98 : decode cL_same 98 = .ok (.invokevirtual 62, 3) := by decide +kernel
theorem dL_same_101 : decode cL_same 101 = .ok (.if_icmp .ne 7, 3) := by decide +kernel
theorem dL_same_104 : decode cL_same 104 = .ok (.iconst 1, 1) := by decide +kernel
theorem dL_same_105 : decode cL_same 105 = .ok (.goto 4, 3) := by decide +kernel
theorem dL_same_108 : decode cL_same 108 = .ok (.iconst 0, 1) := by decide +kernel
theorem dL_same_109 : decode cL_same 109 = .ok (.istore_n 2, 1) := by decide +kernel
theorem dL_same_110 : decode cL_same 110 = .ok (.iinc 3 1, 3) := by decide +kernel
theorem dL_same_113 : decode cL_same 113 = .ok (.goto (-66), 3) := by decide +kernel
theorem dL_same_116 : decode cL_same 116 = .ok (.iconst 0, 1) := by decide +kernel
theorem dL_same_117 : decode cL_same 117 = .ok (.istore_n 3, 1) := by decide +kernel
theorem dL_same_118 : decode cL_same 118 = .ok (.iload_n 3, 1) := by decide +kernel
theorem dL_same_119 : decode cL_same 119 = .ok (.bipush 20, 2) := by decide +kernel
theorem dL_same_121 : decode cL_same 121 = .ok (.if_icmp .ge 79, 3) := by decide +kernel
theorem dL_same_124 : decode cL_same 124 = .ok (.iload_n 2, 1) := by decide +kernel
theorem dL_same_125 : decode cL_same 125 = .ok (.ifCond .eq 75, 3) := by decide +kernel
theorem dL_same_128 : decode cL_same 128 = .ok (.aload_n 0, 1) := by decide +kernel
theorem dL_same_129 : decode cL_same 129 = .ok (.iload_n 3, 1) := by decide +kernel
theorem dL_same_130 : decode cL_same 130 = .ok (.iconst 0, 1) := by decide +kernel
theorem dL_same_131 : decode cL_same 131 = .ok (.invokevirtual 52, 3) := by decide +kernel
theorem dL_same_134 : decode cL_same 134 = .ok (.aload_n 1, 1) := by decide +kernel
theorem dL_same_135 : decode cL_same 135 = .ok (.iload_n 3, 1) := by decide +kernel
theorem dL_same_136 : decode cL_same 136 = .ok (.iconst 0, 1) := by decide +kernel
theorem dL_same_137 : decode cL_same 137 = .ok (.invokevirtual 52, 3) := by decide +kernel
theorem dL_same_140 : decode cL_same 140 = .ok (.if_icmp .ne 52, 3) := by decide +kernel
theorem dL_same_143 : decode cL_same 143 = .ok (.aload_n 0, 1) := by decide +kernel
theorem dL_same_144 : decode cL_same 144 = .ok (.iload_n 3, 1) := by decide +kernel
theorem dL_same_145 : decode cL_same 145 = .ok (.iconst 1, 1) := by decide +kernel
theorem dL_same_146 : decode cL_same 146 = .ok (.invokevirtual 52, 3) := by decide +kernel
theorem dL_same_149 : decode cL_same 149 = .ok (.aload_n 1, 1) := by decide +kernel
theorem dL_same_150 : decode cL_same 150 = .ok (.iload_n 3, 1) := by decide +kernel
theorem dL_same_151 : decode cL_same 151 = .ok (.iconst 1, 1) := by decide +kernel
theorem dL_same_152 : decode cL_same 152 = .ok (.invokevirtual 52, 3) := by decide +kernel
theorem dL_same_155 : decode cL_same 155 = .ok (.if_icmp .ne 37, 3) := by decide +kernel
theorem dL_same_158 : decode cL_same 158 = .ok (.aload_n 0, 1) := by decide +kernel
theorem dL_same_159 : decode cL_same 159 = .ok (.iload_n 3, 1) := by decide +kernel
theorem dL_same_160 : decode cL_same 160 = .ok (.iconst 2, 1) := by decide +kernel
theorem dL_same_161 : decode cL_same 161 = .ok (.invokevirtual 52, 3) := by decide +kernel
theorem dL_same_164 : decode cL_same 164 = .ok (.aload_n 1, 1) := by decide +kernel
theorem dL_same_165 : decode cL_same 165 = .ok (.iload_n 3, 1) := by decide +kernel
theorem dL_same_166 : decode cL_same 166 = .ok (.iconst 2, 1) := by decide +kernel
theorem dL_same_167 : decode cL_same 167 = .ok (.invokevirtual 52, 3) := by decide +kernel
theorem dL_same_170 : decode cL_same 170 = .ok (.if_icmp .ne 22, 3) := by decide +kernel
theorem dL_same_173 : decode cL_same 173 = .ok (.aload_n 0, 1) := by decide +kernel
theorem dL_same_174 : decode cL_same 174 = .ok (.iload_n 3, 1) := by decide +kernel
theorem dL_same_175 : decode cL_same 175 = .ok (.iconst 3, 1) := by decide +kernel
theorem dL_same_176 : decode cL_same 176 = .ok (.invokevirtual 52, 3) := by decide +kernel
theorem dL_same_179 : decode cL_same 179 = .ok (.aload_n 1, 1) := by decide +kernel
theorem dL_same_180 : decode cL_same 180 = .ok (.iload_n 3, 1) := by decide +kernel
theorem dL_same_181 : decode cL_same 181 = .ok (.iconst 3, 1) := by decide +kernel
theorem dL_same_182 : decode cL_same 182 = .ok (.invokevirtual 52, 3) := by decide +kernel
theorem dL_same_185 : decode cL_same 185 = .ok (.if_icmp .ne 7, 3) := by decide +kernel
theorem dL_same_188 : decode cL_same 188 = .ok (.iconst 1, 1) := by decide +kernel
theorem dL_same_189 : decode cL_same 189 = .ok (.goto 4, 3) := by decide +kernel
theorem dL_same_192 : decode cL_same 192 = .ok (.iconst 0, 1) := by decide +kernel
theorem dL_same_193 : decode cL_same 193 = .ok (.istore_n 2, 1) := by decide +kernel
theorem dL_same_194 : decode cL_same 194 = .ok (.iinc 3 1, 3) := by decide +kernel
theorem dL_same_197 : decode cL_same 197 = .ok (.goto (-79), 3) := by decide +kernel
theorem dL_same_200 : decode cL_same 200 = .ok (.iconst 0, 1) := by decide +kernel
theorem dL_same_201 : decode cL_same 201 = .ok (.istore_n 3, 1) := by decide +kernel
theorem dL_same_202 : decode cL_same 202 = .ok (.iload_n 3, 1) := by decide +kernel
theorem dL_same_203 : decode cL_same 203 = .ok (.bipush 40, 2) := by decide +kernel
theorem dL_same_205 : decode cL_same 205 = .ok (.if_icmp .ge 79, 3) := by decide +kernel
theorem dL_same_208 : decode cL_same 208 = .ok (.iload_n 2, 1) := by decide +kernel
theorem dL_same_209 : decode cL_same 209 = .ok (.ifCond .eq 75, 3) := by decide +kernel
theorem dL_same_212 : decode cL_same 212 = .ok (.aload_n 0, 1) := by decide +kernel
theorem dL_same_213 : decode cL_same 213 = .ok (.iload_n 3, 1) := by decide +kernel
theorem dL_same_214 : decode cL_same 214 = .ok (.invokevirtual 72, 3) := by decide +kernel
theorem dL_same_217 : decode cL_same 217 = .ok (.aload_n 1, 1) := by decide +kernel
theorem dL_same_218 : decode cL_same 218 = .ok (.iload_n 3, 1) := by decide +kernel
theorem dL_same_219 : decode cL_same 219 = .ok (.invokevirtual 72, 3) := by decide +kernel
theorem dL_same_222 : decode cL_same 222 = .ok (.if_icmp .ne 54, 3) := by decide +kernel
theorem dL_same_225 : decode cL_same 225 = .ok (.aload_n 0, 1) := by decide +kernel
theorem dL_same_226 : decode cL_same 226 = .ok (.iload_n 3, 1) := by decide +kernel
theorem dL_same_227 : decode cL_same 227 = .ok (.iconst 3, 1) := by decide +kernel
theorem dL_same_228 : decode cL_same 228 = .ok (.invokevirtual 69, 3) := by decide +kernel
theorem dL_same_231 : decode cL_same 231 = .ok (.aload_n 1, 1) := by decide +kernel
theorem dL_same_232 : decode cL_same 232 = .ok (.iload_n 3, 1) := by decide +kernel
theorem dL_same_233 : decode cL_same 233 = .ok (.iconst 3, 1) := by decide +kernel
theorem dL_same_234 : decode cL_same 234 = .ok (.invokevirtual 69, 3) := by decide +kernel
theorem dL_same_237 : decode cL_same 237 = .ok (.if_icmp .ne 39, 3) := by decide +kernel
theorem dL_same_240 : decode cL_same 240 = .ok (.aload_n 0, 1) := by decide +kernel
theorem dL_same_241 : decode cL_same 241 = .ok (.iload_n 3, 1) := by decide +kernel
theorem dL_same_242 : decode cL_same 242 = .ok (.iconst 5, 1) := by decide +kernel
theorem dL_same_243 : decode cL_same 243 = .ok (.invokevirtual 69, 3) := by decide +kernel
theorem dL_same_246 : decode cL_same 246 = .ok (.aload_n 1, 1) := by decide +kernel
theorem dL_same_247 : decode cL_same 247 = .ok (.iload_n 3, 1) := by decide +kernel
theorem dL_same_248 : decode cL_same 248 = .ok (.iconst 5, 1) := by decide +kernel
theorem dL_same_249 : decode cL_same 249 = .ok (.invokevirtual 69, 3) := by decide +kernel
theorem dL_same_252 : decode cL_same 252 = .ok (.if_icmp .ne 24, 3) := by decide +kernel
theorem dL_same_255 : decode cL_same 255 = .ok (.aload_n 0, 1) := by decide +kernel
theorem dL_same_256 : decode cL_same 256 = .ok (.iload_n 3, 1) := by decide +kernel
theorem dL_same_257 : decode cL_same 257 = .ok (.bipush 6, 2) := by decide +kernel
theorem dL_same_259 : decode cL_same 259 = .ok (.invokevirtual 69, 3) := by decide +kernel
theorem dL_same_262 : decode cL_same 262 = .ok (.aload_n 1, 1) := by decide +kernel
theorem dL_same_263 : decode cL_same 263 = .ok (.iload_n 3, 1) := by decide +kernel
theorem dL_same_264 : decode cL_same 264 = .ok (.bipush 6, 2) := by decide +kernel
theorem dL_same_266 : decode cL_same 266 = .ok (.invokevirtual 69, 3) := by decide +kernel
theorem dL_same_269 : decode cL_same 269 = .ok (.if_icmp .ne 7, 3) := by decide +kernel
theorem dL_same_272 : decode cL_same 272 = .ok (.iconst 1, 1) := by decide +kernel
theorem dL_same_273 : decode cL_same 273 = .ok (.goto 4, 3) := by decide +kernel
theorem dL_same_276 : decode cL_same 276 = .ok (.iconst 0, 1) := by decide +kernel
theorem dL_same_277 : decode cL_same 277 = .ok (.istore_n 2, 1) := by decide +kernel
theorem dL_same_278 : decode cL_same 278 = .ok (.iinc 3 1, 3) := by decide +kernel
theorem dL_same_281 : decode cL_same 281 = .ok (.goto (-79), 3) := by decide +kernel
theorem dL_same_284 : decode cL_same 284 = .ok (.iload_n 2, 1) := by decide +kernel
theorem dL_same_285 : decode cL_same 285 = .ok (.ireturn, 1) := by decide +kernel
set_option maxRecDepth 20000 in
theorem ggL_refuses_X5_count : GoodIn wsL_refuses wsX5_count := goodIn_r _ [5, 6, 7, 8, 9, 10, 11, 12, 13, 14, 15, 16, 17, 18, 19, 20, 21, 22, 23, 24, 25, 26, 27, 28, 29, 30, 31, 32, 33, 34, 35, 36, 37, 38, 39, 40, 41, 42, 43, 44, 45, 46, 47, 48, 49, 50, 51, 52, 53, 54, 55, 56, 57, 58, 59, 60, 61, 62, 63, 371, 372, 373, 374, 375, 376, 377, 378, 379, 380, 381, 382, 383, 384, 385, 386, 387, 388, 389, 390, 391, 392, 393, 394, 395, 396, 397, 398, 399] (by decide +kernel) (by decide +kernel)
set_option maxRecDepth 20000 in
theorem gL_refuses_X5_count : GoodIn wsL_refuses (wsV RL 9 RX5 yX5_count wsX5_count) := goodIn_app (goodIn_of _ (by decide +kernel)) ggL_refuses_X5_count
set_option maxRecDepth 20000 in
theorem ggL_refuses_X5_ask : GoodIn wsL_refuses wsX5_ask := goodIn_r _ [67, 68, 8, 69, 70, 71, 24, 72, 31, 27, 28, 30, 32, 29, 26, 73, 74, 75, 36, 76, 38, 48, 77, 78, 79, 80, 81, 82, 83, 84, 85, 86, 87, 52, 88, 89, 54, 90, 91, 92, 93, 94, 95, 96, 97, 98, 99, 100, 33, 34, 35, 37, 101, 102, 103, 104, 105, 106, 107, 108, 47, 109, 110, 111, 4, 112, 6, 113, 114, 115, 12, 116, 14, 117, 118, 119, 120, 121, 122, 123, 371, 372, 373, 374, 375, 376, 377, 378, 387, 388, 389, 390, 391, 392, 393, 394, 395, 396, 397, 398, 399, 379, 380, 381] (by decide +kernel) (by decide +kernel)
set_option maxRecDepth 20000 in
theorem gL_refuses_X5_ask : GoodIn wsL_refuses (wsV RL 15 RX5 yX5_ask wsX5_ask) := goodIn_app (goodIn_of _ (by decide +kernel)) ggL_refuses_X5_ask
set_option maxRecDepth 20000 in
theorem ggL_refuses_X5_withdraw : GoodIn wsL_refuses wsX5_withdraw := goodIn_r _ [127, 68, 8, 69, 70, 71, 24, 72, 31, 27, 28, 30, 32, 29, 26, 73, 74, 75, 36, 76, 38, 48, 77, 78, 79, 80, 81, 82, 83, 84, 85, 86, 87, 52, 88, 89, 54, 90, 91, 92, 128, 129, 130, 131, 97, 98, 99, 100, 63, 44, 45, 46, 47, 105, 106, 107, 108, 132, 133, 134, 135, 43, 109, 110, 111, 4, 112, 6, 113, 114, 115, 12, 116, 14, 117, 118, 119, 120, 121, 122, 123, 371, 372, 373, 374, 375, 376, 377, 378, 387, 388, 389, 390, 391, 392, 393, 394, 395, 396, 397, 398, 399, 379, 380, 381] (by decide +kernel) (by decide +kernel)
set_option maxRecDepth 20000 in
theorem gL_refuses_X5_withdraw : GoodIn wsL_refuses (wsV RL 19 RX5 yX5_withdraw wsX5_withdraw) := goodIn_app (goodIn_of _ (by decide +kernel)) ggL_refuses_X5_withdraw
set_option maxRecDepth 20000 in
theorem ggL_refuses_X5_deliver : GoodIn wsL_refuses wsX5_deliver := goodIn_r _ [139, 68, 8, 69, 70, 71, 24, 72, 31, 27, 28, 30, 32, 29, 26, 73, 74, 75, 36, 76, 38, 48, 77, 78, 79, 80, 81, 82, 83, 84, 85, 86, 87, 52, 88, 89, 54, 90, 91, 92, 140, 141, 142, 143, 97, 98, 99, 100, 63, 44, 45, 46, 47, 33, 34, 35, 37, 101, 102, 103, 104, 105, 106, 107, 108, 144, 145, 146, 147, 109, 110, 111, 4, 112, 6, 113, 114, 115, 12, 116, 14, 117, 118, 119, 120, 121, 122, 123, 371, 372, 373, 374, 375, 376, 377, 378, 387, 388, 389, 390, 391, 392, 393, 394, 395, 396, 397, 398, 399, 379, 380, 381] (by decide +kernel) (by decide +kernel)
set_option maxRecDepth 20000 in
theorem gL_refuses_X5_deliver : GoodIn wsL_refuses (wsV RL 55 RX5 yX5_deliver wsX5_deliver) := goodIn_app (goodIn_of _ (by decide +kernel)) ggL_refuses_X5_deliver
set_option maxRecDepth 20000 in
theorem ggL_refuses_X5_set : GoodIn wsL_refuses wsX5_set := goodIn_r _ [151, 68, 8, 69, 70, 71, 24, 72, 31, 27, 28, 30, 32, 29, 26, 73, 74, 75, 36, 76, 38, 48, 77, 78, 79, 80, 81, 82, 83, 84, 85, 86, 87, 52, 88, 89, 54, 90, 91, 92, 152, 153, 154, 155, 97, 98, 99, 100, 63, 44, 45, 46, 47, 105, 106, 107, 108, 109, 110, 111, 4, 112, 6, 113, 114, 115, 12, 116, 14, 117, 118, 119, 120, 121, 122, 123, 371, 372, 373, 374, 375, 376, 377, 378, 387, 388, 389, 390, 391, 392, 393, 394, 395, 396, 397, 398, 399, 379, 380, 381] (by decide +kernel) (by decide +kernel)
set_option maxRecDepth 20000 in
theorem gL_refuses_X5_set : GoodIn wsL_refuses (wsV RL 26 RX5 yX5_set wsX5_set) := goodIn_app (goodIn_of _ (by decide +kernel)) ggL_refuses_X5_set
set_option maxRecDepth 20000 in
theorem ggL_refuses_X5_pass : GoodIn wsL_refuses wsX5_pass := goodIn_r _ [159, 68, 8, 69, 70, 71, 24, 72, 31, 27, 28, 30, 32, 29, 26, 73, 74, 75, 36, 76, 38, 48, 77, 78, 79, 80, 81, 82, 83, 84, 85, 86, 87, 52, 88, 89, 54, 90, 91, 92, 160, 161, 162, 163, 164, 165, 166, 167, 168, 63, 44, 45, 46, 47, 49, 50, 51, 53, 169, 170, 171, 172, 173, 174, 175, 176, 177, 178, 179, 180, 181, 182, 183, 184, 185, 186, 187, 188, 189, 190, 191, 192, 193, 194, 195, 196, 197, 198, 199, 200, 201, 202, 105, 106, 107, 108, 203, 204, 205, 206, 207, 208, 209, 210, 211, 212, 213, 214, 144, 145, 146, 147, 215, 216, 217, 218, 219, 220, 221, 222, 109, 110, 111, 4, 112, 6, 113, 114, 115, 12, 116, 14, 117, 118, 119, 120, 121, 122, 123, 371, 372, 373, 374, 375, 376, 377, 378, 387, 388, 389, 390, 391, 392, 393, 394, 395, 396, 397, 398, 399, 379, 380, 381] (by decide +kernel) (by decide +kernel)
set_option maxRecDepth 20000 in
theorem gL_refuses_X5_pass : GoodIn wsL_refuses (wsV RL 30 RX5 yX5_pass wsX5_pass) := goodIn_app (goodIn_of _ (by decide +kernel)) ggL_refuses_X5_pass
set_option maxRecDepth 20000 in
theorem ggL_refuses_X5_stopped : GoodIn wsL_refuses wsX5_stopped := goodIn_r _ [226, 227, 228, 371, 372, 373, 374, 375, 376, 377, 378] (by decide +kernel) (by decide +kernel)
set_option maxRecDepth 20000 in
theorem gL_refuses_X5_stopped : GoodIn wsL_refuses (wsV RL 82 RX5 yX5_stopped wsX5_stopped) := goodIn_app (goodIn_of _ (by decide +kernel)) ggL_refuses_X5_stopped
set_option maxRecDepth 20000 in
theorem ggL_refuses_X5_trader : GoodIn wsL_refuses wsX5_trader := goodIn_r _ [232, 8, 233, 234, 235, 24, 236, 31, 189, 190, 79, 191, 27, 28, 97, 98, 99, 36, 100, 38, 63, 44, 45, 46, 47, 48, 39, 40, 41, 42, 43, 132, 133, 134, 135, 371, 372, 373, 374, 375, 376, 377, 378, 387, 388, 389, 390, 391, 392, 393, 394, 395, 396] (by decide +kernel) (by decide +kernel)
set_option maxRecDepth 20000 in
theorem gL_refuses_X5_trader : GoodIn wsL_refuses (wsV RL 62 RX5 yX5_trader wsX5_trader) := goodIn_app (goodIn_of _ (by decide +kernel)) ggL_refuses_X5_trader
set_option maxRecDepth 20000 in
theorem ggL_refuses_X5_riddle : GoodIn wsL_refuses wsX5_riddle := goodIn_r _ [240, 8, 241, 242, 243, 24, 244, 27, 28, 97, 98, 99, 36, 100, 38, 63, 44, 45, 46, 47, 48, 39, 40, 41, 42, 43, 132, 133, 134, 135, 245, 246, 247, 248, 371, 372, 373, 374, 375, 376, 377, 378, 387, 388, 389, 390, 391, 392, 393, 394, 395, 396] (by decide +kernel) (by decide +kernel)
set_option maxRecDepth 20000 in
theorem gL_refuses_X5_riddle : GoodIn wsL_refuses (wsV RL 52 RX5 yX5_riddle wsX5_riddle) := goodIn_app (goodIn_of _ (by decide +kernel)) ggL_refuses_X5_riddle
set_option maxRecDepth 20000 in
theorem ggL_refuses_X5_answer : GoodIn wsL_refuses wsX5_answer := goodIn_r _ [252, 8, 253, 254, 255, 24, 256, 28, 29, 97, 98, 99, 36, 100, 38, 257, 258, 259, 52, 260, 54, 173, 174, 175, 176, 89, 90, 63, 44, 45, 46, 47, 48, 371, 372, 373, 374, 375, 376, 377, 378, 387, 388, 389, 390, 391, 392, 393, 394, 395, 396, 397, 398, 399] (by decide +kernel) (by decide +kernel)
set_option maxRecDepth 20000 in
theorem gL_refuses_X5_answer : GoodIn wsL_refuses (wsV RL 69 RX5 yX5_answer wsX5_answer) := goodIn_app (goodIn_of _ (by decide +kernel)) ggL_refuses_X5_answer
set_option maxRecDepth 20000 in
theorem ggL_refuses_X5_waits : GoodIn wsL_refuses wsX5_waits := goodIn_r _ [264, 8, 265, 266, 267, 24, 268, 29, 269, 174, 175, 52, 176, 54, 89, 90, 371, 372, 373, 374, 375, 376, 377, 378, 387, 388, 389, 390, 391, 392, 393, 397, 398, 399] (by decide +kernel) (by decide +kernel)
set_option maxRecDepth 20000 in
theorem gL_refuses_X5_waits : GoodIn wsL_refuses (wsV RL 72 RX5 yX5_waits wsX5_waits) := goodIn_app (goodIn_of _ (by decide +kernel)) ggL_refuses_X5_waits
set_option maxRecDepth 20000 in
theorem ggL_refuses_X5_weigh : GoodIn wsL_refuses wsX5_weigh := goodIn_r _ [273, 8, 274, 186, 187, 24, 188, 30, 189, 190, 79, 191, 63, 44, 45, 36, 46, 47, 48, 371, 372, 373, 374, 375, 376, 377, 378, 387, 388, 389, 390, 391, 392, 393, 394, 395, 396] (by decide +kernel) (by decide +kernel)
set_option maxRecDepth 20000 in
theorem gL_refuses_X5_weigh : GoodIn wsL_refuses (wsV RL 85 RX5 yX5_weigh wsX5_weigh) := goodIn_app (goodIn_of _ (by decide +kernel)) ggL_refuses_X5_weigh
set_option maxRecDepth 20000 in
theorem ggL_refuses_X5_reason : GoodIn wsL_refuses wsX5_reason := goodIn_r _ [278, 8, 279, 280, 281, 24, 282, 28, 97, 98, 99, 36, 100, 38, 63, 44, 45, 46, 47, 48, 283, 182, 183, 184, 27, 185, 186, 187, 188, 30, 189, 190, 79, 191, 284, 193, 194, 195, 196, 197, 198, 32, 31, 371, 372, 373, 374, 375, 376, 377, 378, 387, 388, 389, 390, 391, 392, 393, 394, 395, 396] (by decide +kernel) (by decide +kernel)
set_option maxRecDepth 20000 in
theorem gL_refuses_X5_reason : GoodIn wsL_refuses (wsV RL 75 RX5 yX5_reason wsX5_reason) := goodIn_app (goodIn_of _ (by decide +kernel)) ggL_refuses_X5_reason
set_option maxRecDepth 20000 in
theorem ggL_refuses_X5_settledIn : GoodIn wsL_refuses wsX5_settledIn := goodIn_r _ [288, 8, 68, 279, 280, 281, 24, 282, 28, 97, 98, 99, 36, 100, 38, 63, 44, 45, 46, 47, 48, 69, 70, 71, 72, 31, 27, 30, 32, 29, 26, 73, 74, 75, 76, 77, 78, 79, 80, 81, 82, 83, 84, 85, 86, 87, 52, 88, 89, 54, 90, 91, 92, 289, 165, 166, 167, 168, 49, 50, 51, 53, 169, 170, 171, 172, 173, 174, 175, 176, 177, 178, 179, 180, 181, 182, 183, 184, 185, 186, 187, 188, 189, 190, 191, 192, 193, 194, 195, 196, 197, 198, 199, 200, 201, 202, 105, 106, 107, 108, 203, 204, 205, 206, 207, 208, 209, 210, 211, 212, 213, 214, 144, 145, 146, 147, 215, 216, 217, 218, 219, 220, 221, 222, 371, 372, 373, 374, 375, 376, 377, 378, 387, 388, 389, 390, 391, 392, 393, 394, 395, 396, 397, 398, 399] (by decide +kernel) (by decide +kernel)
set_option maxRecDepth 20000 in
theorem gL_refuses_X5_settledIn : GoodIn wsL_refuses (wsV RL 88 RX5 yX5_settledIn wsX5_settledIn) := goodIn_app (goodIn_of _ (by decide +kernel)) ggL_refuses_X5_settledIn
set_option maxRecDepth 20000 in
theorem ggL_refuses_X5_ifRounds : GoodIn wsL_refuses wsX5_ifRounds := goodIn_r _ [293, 68, 8, 69, 70, 71, 24, 72, 31, 27, 28, 30, 32, 29, 26, 73, 74, 75, 36, 76, 38, 48, 77, 78, 79, 80, 81, 82, 83, 84, 85, 86, 87, 52, 88, 89, 54, 90, 91, 92, 294, 295, 296, 297, 196, 197, 198, 63, 44, 45, 46, 47, 105, 106, 107, 108, 289, 165, 166, 167, 168, 49, 50, 51, 53, 169, 170, 171, 172, 173, 174, 175, 176, 177, 178, 179, 180, 181, 182, 183, 184, 185, 186, 187, 188, 189, 190, 191, 192, 193, 194, 195, 199, 200, 201, 202, 203, 204, 205, 206, 207, 208, 209, 210, 211, 212, 213, 214, 144, 145, 146, 147, 215, 216, 217, 218, 219, 220, 221, 222, 371, 372, 373, 374, 375, 376, 377, 378, 387, 388, 389, 390, 391, 392, 393, 394, 395, 396, 397, 398, 399] (by decide +kernel) (by decide +kernel)
set_option maxRecDepth 20000 in
theorem gL_refuses_X5_ifRounds : GoodIn wsL_refuses (wsV RL 78 RX5 yX5_ifRounds wsX5_ifRounds) := goodIn_app (goodIn_of _ (by decide +kernel)) ggL_refuses_X5_ifRounds
set_option maxRecDepth 20000 in
theorem ggL_refuses_X5_account : GoodIn wsL_refuses wsX5_account := goodIn_r _ [301, 8, 302, 303, 304, 24, 305, 31, 28, 27, 306, 97, 98, 99, 36, 100, 38, 63, 44, 45, 46, 47, 48, 33, 34, 35, 37, 371, 372, 373, 374, 375, 376, 377, 378, 387, 388, 389, 390, 391, 392, 393, 394, 395, 396] (by decide +kernel) (by decide +kernel)
set_option maxRecDepth 20000 in
theorem gL_refuses_X5_account : GoodIn wsL_refuses (wsV RL 65 RX5 yX5_account wsX5_account) := goodIn_app (goodIn_of _ (by decide +kernel)) ggL_refuses_X5_account
set_option maxRecDepth 20000 in
theorem ggL_refuses_X5_clearText : GoodIn wsL_refuses wsX5_clearText := goodIn_r _ [310, 7, 311, 312, 313, 18, 314, 20, 371, 372, 373, 374, 375, 376, 377, 378, 382, 383, 384, 385, 386] (by decide +kernel) (by decide +kernel)
set_option maxRecDepth 20000 in
theorem gL_refuses_X5_clearText : GoodIn wsL_refuses (wsV RL 42 RX5 yX5_clearText wsX5_clearText) := goodIn_app (goodIn_of _ (by decide +kernel)) ggL_refuses_X5_clearText
set_option maxRecDepth 20000 in
theorem ggL_refuses_X5_perform : GoodIn wsL_refuses wsX5_perform := goodIn_r _ [318, 7, 68, 8, 227, 228, 319, 320, 321, 18, 322, 323, 324, 325, 20, 326, 327, 328, 36, 329, 38, 330, 102, 103, 104, 331, 332, 333, 334, 335, 336, 337, 338, 339, 340, 106, 107, 108, 47, 48, 341, 342, 343, 344, 345, 346, 347, 348, 349, 350, 351, 352, 69, 70, 71, 24, 72, 31, 27, 28, 30, 32, 29, 26, 73, 74, 75, 76, 77, 78, 79, 80, 81, 82, 83, 84, 85, 86, 87, 52, 88, 89, 54, 90, 91, 92, 353, 354, 355, 356, 357, 34, 35, 37, 358, 359, 360, 4, 361, 362, 363, 364, 365, 366, 44, 45, 46, 93, 94, 95, 96, 97, 98, 99, 100, 33, 101, 105, 140, 141, 142, 143, 63, 144, 145, 146, 147, 160, 161, 162, 163, 164, 165, 166, 167, 168, 49, 50, 51, 53, 169, 170, 171, 172, 173, 174, 175, 176, 177, 178, 179, 180, 181, 182, 183, 184, 185, 186, 187, 188, 189, 190, 191, 192, 193, 194, 195, 196, 197, 198, 199, 200, 201, 202, 203, 204, 205, 206, 207, 208, 209, 210, 211, 212, 213, 214, 215, 216, 217, 218, 219, 220, 221, 222, 109, 110, 111, 112, 6, 113, 114, 115, 12, 116, 14, 117, 118, 119, 120, 121, 122, 123, 371, 372, 373, 374, 375, 376, 377, 378, 382, 383, 384, 385, 386, 394, 395, 396, 387, 388, 389, 390, 391, 392, 393, 397, 398, 399, 379, 380, 381] (by decide +kernel) (by decide +kernel)
set_option maxRecDepth 20000 in
theorem gL_refuses_X5_perform : GoodIn wsL_refuses (wsV RL 49 RX5 yX5_perform wsX5_perform) := goodIn_app (goodIn_of _ (by decide +kernel)) ggL_refuses_X5_perform
set_option maxRecDepth 20000 in
theorem ggL_refuses_X5_adjust : GoodIn wsL_refuses wsX5_adjust := goodIn_r _ [370, 68, 8, 69, 70, 71, 24, 72, 31, 27, 28, 30, 32, 29, 26, 73, 74, 75, 36, 76, 38, 48, 77, 78, 79, 80, 81, 82, 83, 84, 85, 86, 87, 52, 88, 89, 54, 90, 91, 92, 294, 295, 296, 297, 196, 197, 198, 63, 44, 45, 46, 47, 105, 106, 107, 108, 109, 110, 111, 4, 112, 6, 113, 114, 115, 12, 116, 14, 117, 118, 119, 120, 121, 122, 123, 371, 372, 373, 374, 375, 376, 377, 378, 387, 388, 389, 390, 391, 392, 393, 394, 395, 396, 397, 398, 399, 379, 380, 381] (by decide +kernel) (by decide +kernel)
set_option maxRecDepth 20000 in
theorem gL_refuses_X5_adjust : GoodIn wsL_refuses (wsV RL 22 RX5 yX5_adjust wsX5_adjust) := goodIn_app (goodIn_of _ (by decide +kernel)) ggL_refuses_X5_adjust
theorem dL_refuses_0 : decode cL_refuses 0 = .ok (.iload_n 1, 1) := by decide +kernel
theorem dL_refuses_1 : decode cL_refuses 1 = .ok (.iconst 2, 1) := by decide +kernel
theorem dL_refuses_2 : decode cL_refuses 2 = .ok (.irem, 1) := by decide +kernel
theorem dL_refuses_3 : decode cL_refuses 3 = .ok (.ifCond .ne 10, 3) := by decide +kernel
theorem dL_refuses_6 : decode cL_refuses 6 = .ok (.bipush 8, 2) := by decide +kernel
theorem dL_refuses_8 : decode cL_refuses 8 = .ok (.iload_n 1, 1) := by decide +kernel
theorem dL_refuses_9 : decode cL_refuses 9 = .ok (.iadd, 1) := by decide +kernel
theorem dL_refuses_10 : decode cL_refuses 10 = .ok (.goto 6, 3) := by decide +kernel
theorem dL_refuses_13 : decode cL_refuses 13 = .ok (.iconst (-1), 1) := by decide +kernel
theorem dL_refuses_14 : decode cL_refuses 14 = .ok (.iload_n 1, 1) := by decide +kernel
theorem dL_refuses_15 : decode cL_refuses 15 = .ok (.isub, 1) := by decide +kernel
theorem dL_refuses_16 : decode cL_refuses 16 = .ok (.istore_n 2, 1) := by decide +kernel
theorem dL_refuses_17 : decode cL_refuses 17 = .ok (.iload_n 1, 1) := by decide +kernel
theorem dL_refuses_18 : decode cL_refuses 18 = .ok (.iconst 2, 1) := by decide +kernel
theorem dL_refuses_19 : decode cL_refuses 19 = .ok (.irem, 1) := by decide +kernel
theorem dL_refuses_20 : decode cL_refuses 20 = .ok (.ifCond .ne 13, 3) := by decide +kernel
theorem dL_refuses_23 : decode cL_refuses 23 = .ok (.aload_n 0, 1) := by decide +kernel
theorem dL_refuses_24 : decode cL_refuses 24 = .ok (.iconst 1, 1) := by decide +kernel
theorem dL_refuses_25 : decode cL_refuses 25 = .ok (.invokevirtual 9, 3) := by decide +kernel
theorem dL_refuses_28 : decode cL_refuses 28 = .ok (.iload_n 1, 1) := by decide +kernel
theorem dL_refuses_29 : decode cL_refuses 29 = .ok (.iadd, 1) := by decide +kernel
theorem dL_refuses_30 : decode cL_refuses 30 = .ok (.goto 6, 3) := by decide +kernel
theorem dL_refuses_33 : decode cL_refuses 33 = .ok (.iconst (-1), 1) := by decide +kernel
theorem dL_refuses_34 : decode cL_refuses 34 = .ok (.iload_n 1, 1) := by decide +kernel
theorem dL_refuses_35 : decode cL_refuses 35 = .ok (.isub, 1) := by decide +kernel
theorem dL_refuses_36 : decode cL_refuses 36 = .ok (.istore_n 3, 1) := by decide +kernel
theorem dL_refuses_37 : decode cL_refuses 37 = .ok (.iload_n 1, 1) := by decide +kernel
theorem dL_refuses_38 : decode cL_refuses 38 = .ok (.iconst 2, 1) := by decide +kernel
theorem dL_refuses_39 : decode cL_refuses 39 = .ok (.irem, 1) := by decide +kernel
theorem dL_refuses_40 : decode cL_refuses 40 = .ok (.ifCond .ne 13, 3) := by decide +kernel
theorem dL_refuses_43 : decode cL_refuses 43 = .ok (.aload_n 0, 1) := by decide +kernel
theorem dL_refuses_44 : decode cL_refuses 44 = .ok (.iconst 3, 1) := by decide +kernel
theorem dL_refuses_45 : decode cL_refuses 45 = .ok (.invokevirtual 9, 3) := by decide +kernel
theorem dL_refuses_48 : decode cL_refuses 48 = .ok (.iload_n 1, 1) := by decide +kernel
theorem dL_refuses_49 : decode cL_refuses 49 = .ok (.iadd, 1) := by decide +kernel
theorem dL_refuses_50 : decode cL_refuses 50 = .ok (.goto 6, 3) := by decide +kernel
theorem dL_refuses_53 : decode cL_refuses 53 = .ok (.iconst (-1), 1) := by decide +kernel
theorem dL_refuses_54 : decode cL_refuses 54 = .ok (.iload_n 1, 1) := by decide +kernel
theorem dL_refuses_55 : decode cL_refuses 55 = .ok (.isub, 1) := by decide +kernel
theorem dL_refuses_56 : decode cL_refuses 56 = .ok (.istore 4, 2) := by decide +kernel
theorem dL_refuses_58 : decode cL_refuses 58 = .ok (.aload_n 0, 1) := by decide +kernel
theorem dL_refuses_59 : decode cL_refuses 59 = .ok (.iload_n 2, 1) := by decide +kernel
theorem dL_refuses_60 : decode cL_refuses 60 = .ok (.iconst 0, 1) := by decide +kernel
theorem dL_refuses_61 : decode cL_refuses 61 = .ok (.iconst 0, 1) := by decide +kernel
theorem dL_refuses_62 : decode cL_refuses 62 = .ok (.invokevirtual 15, 3) := by decide +kernel
theorem dL_refuses_65 : decode cL_refuses 65 = .ok (.iconst (-1), 1) := by decide +kernel
theorem dL_refuses_66 : decode cL_refuses 66 = .ok (.if_icmp .ne 309, 3) := by decide +kernel
theorem dL_refuses_69 : decode cL_refuses 69 = .ok (.aload_n 0, 1) := by decide +kernel
theorem dL_refuses_70 : decode cL_refuses 70 = .ok (.iconst 0, 1) := by decide +kernel
theorem dL_refuses_71 : decode cL_refuses 71 = .ok (.bipush 51, 2) := by decide +kernel
theorem dL_refuses_73 : decode cL_refuses 73 = .ok (.iload_n 1, 1) := by decide +kernel
theorem dL_refuses_74 : decode cL_refuses 74 = .ok (.iadd, 1) := by decide +kernel
theorem dL_refuses_75 : decode cL_refuses 75 = .ok (.iconst 0, 1) := by decide +kernel
theorem dL_refuses_76 : decode cL_refuses 76 = .ok (.invokevirtual 15, 3) := by decide +kernel
theorem dL_refuses_79 : decode cL_refuses 79 = .ok (.bipush (-2), 2) := by decide +kernel
theorem dL_refuses_81 : decode cL_refuses 81 = .ok (.if_icmp .ne 294, 3) := by decide +kernel
theorem dL_refuses_84 : decode cL_refuses 84 = .ok (.aload_n 0, 1) := by decide +kernel
theorem dL_refuses_85 : decode cL_refuses 85 = .ok (.iconst 0, 1) := by decide +kernel
theorem dL_refuses_86 : decode cL_refuses 86 = .ok (.iconst 1, 1) := by decide +kernel
theorem dL_refuses_87 : decode cL_refuses 87 = .ok (.bipush 100, 2) := by decide +kernel
theorem dL_refuses_89 : decode cL_refuses 89 = .ok (.iload_n 1, 1) := by decide +kernel
theorem dL_refuses_90 : decode cL_refuses 90 = .ok (.iadd, 1) := by decide +kernel
theorem dL_refuses_91 : decode cL_refuses 91 = .ok (.invokevirtual 15, 3) := by decide +kernel
theorem dL_refuses_94 : decode cL_refuses 94 = .ok (.bipush (-2), 2) := by decide +kernel
theorem dL_refuses_96 : decode cL_refuses 96 = .ok (.if_icmp .ne 279, 3) := by decide +kernel
theorem dL_refuses_99 : decode cL_refuses 99 = .ok (.aload_n 0, 1) := by decide +kernel
theorem dL_refuses_100 : decode cL_refuses 100 = .ok (.iload_n 3, 1) := by decide +kernel
theorem dL_refuses_101 : decode cL_refuses 101 = .ok (.invokevirtual 19, 3) := by decide +kernel
theorem dL_refuses_104 : decode cL_refuses 104 = .ok (.iconst (-1), 1) := by decide +kernel
theorem dL_refuses_105 : decode cL_refuses 105 = .ok (.if_icmp .ne 270, 3) := by decide +kernel
theorem dL_refuses_108 : decode cL_refuses 108 = .ok (.aload_n 0, 1) := by decide +kernel
theorem dL_refuses_109 : decode cL_refuses 109 = .ok (.iconst 0, 1) := by decide +kernel
theorem dL_refuses_110 : decode cL_refuses 110 = .ok (.iload_n 3, 1) := by decide +kernel
theorem dL_refuses_111 : decode cL_refuses 111 = .ok (.iconst 0, 1) := by decide +kernel
theorem dL_refuses_112 : decode cL_refuses 112 = .ok (.iconst 0, 1) := by decide +kernel
theorem dL_refuses_113 : decode cL_refuses 113 = .ok (.invokevirtual 55, 3) := by decide +kernel
theorem dL_refuses_116 : decode cL_refuses 116 = .ok (.iconst (-1), 1) := by decide +kernel
theorem dL_refuses_117 : decode cL_refuses 117 = .ok (.if_icmp .ne 258, 3) := by decide +kernel
theorem dL_refuses_120 : decode cL_refuses 120 = .ok (.aload_n 0, 1) := by decide +kernel
theorem dL_refuses_121 : decode cL_refuses 121 = .ok (.iload_n 2, 1) := by decide +kernel
theorem dL_refuses_122 : decode cL_refuses 122 = .ok (.iconst 0, 1) := by decide +kernel
theorem dL_refuses_123 : decode cL_refuses 123 = .ok (.iconst 0, 1) := by decide +kernel
theorem dL_refuses_124 : decode cL_refuses 124 = .ok (.iconst 1, 1) := by decide +kernel
theorem dL_refuses_125 : decode cL_refuses 125 = .ok (.invokevirtual 55, 3) := by decide +kernel
theorem dL_refuses_128 : decode cL_refuses 128 = .ok (.iconst (-1), 1) := by decide +kernel
theorem dL_refuses_129 : decode cL_refuses 129 = .ok (.if_icmp .ne 246, 3) := by decide +kernel
theorem dL_refuses_132 : decode cL_refuses 132 = .ok (.aload_n 0, 1) := by decide +kernel
theorem dL_refuses_133 : decode cL_refuses 133 = .ok (.iconst 4, 1) := by decide +kernel
theorem dL_refuses_134 : decode cL_refuses 134 = .ok (.iload_n 1, 1) := by decide +kernel
theorem dL_refuses_135 : decode cL_refuses 135 = .ok (.iadd, 1) := by decide +kernel
theorem dL_refuses_136 : decode cL_refuses 136 = .ok (.iconst 0, 1) := by decide +kernel
theorem dL_refuses_137 : decode cL_refuses 137 = .ok (.invokevirtual 26, 3) := by decide +kernel
theorem dL_refuses_140 : decode cL_refuses 140 = .ok (.iconst (-1), 1) := by decide +kernel
theorem dL_refuses_141 : decode cL_refuses 141 = .ok (.if_icmp .ne 234, 3) := by decide +kernel
theorem dL_refuses_144 : decode cL_refuses 144 = .ok (.aload_n 0, 1) := by decide +kernel
theorem dL_refuses_145 : decode cL_refuses 145 = .ok (.iconst 0, 1) := by decide +kernel
theorem dL_refuses_146 : decode cL_refuses 146 = .ok (.bipush 10, 2) := by decide +kernel
theorem dL_refuses_148 : decode cL_refuses 148 = .ok (.iload_n 1, 1) := by decide +kernel
theorem dL_refuses_149 : decode cL_refuses 149 = .ok (.iadd, 1) := by decide +kernel
theorem dL_refuses_150 : decode cL_refuses 150 = .ok (.invokevirtual 26, 3) := by decide +kernel
theorem dL_refuses_153 : decode cL_refuses 153 = .ok (.bipush (-2), 2) := by decide +kernel
theorem dL_refuses_155 : decode cL_refuses 155 = .ok (.if_icmp .ne 220, 3) := by decide +kernel
theorem dL_refuses_158 : decode cL_refuses 158 = .ok (.aload_n 0, 1) := by decide +kernel
theorem dL_refuses_159 : decode cL_refuses 159 = .ok (.iconst 2, 1) := by decide +kernel
theorem dL_refuses_160 : decode cL_refuses 160 = .ok (.iconst 0, 1) := by decide +kernel
theorem dL_refuses_161 : decode cL_refuses 161 = .ok (.invokevirtual 26, 3) := by decide +kernel
theorem dL_refuses_164 : decode cL_refuses 164 = .ok (.bipush (-2), 2) := by decide +kernel
theorem dL_refuses_166 : decode cL_refuses 166 = .ok (.if_icmp .ne 209, 3) := by decide +kernel
theorem dL_refuses_169 : decode cL_refuses 169 = .ok (.aload_n 0, 1) := by decide +kernel
theorem dL_refuses_170 : decode cL_refuses 170 = .ok (.iconst 1, 1) := by decide +kernel
theorem dL_refuses_171 : decode cL_refuses 171 = .ok (.aload_n 0, 1) := by decide +kernel
theorem dL_refuses_172 : decode cL_refuses 172 = .ok (.bipush 15, 2) := by decide +kernel
theorem dL_refuses_174 : decode cL_refuses 174 = .ok (.invokevirtual 9, 3) := by decide +kernel
theorem dL_refuses_177 : decode cL_refuses 177 = .ok (.invokevirtual 26, 3) := by decide +kernel
theorem dL_refuses_180 : decode cL_refuses 180 = .ok (.bipush (-5), 2) := by decide +kernel
theorem dL_refuses_182 : decode cL_refuses 182 = .ok (.if_icmp .ne 193, 3) := by decide +kernel
theorem dL_refuses_185 : decode cL_refuses 185 = .ok (.aload_n 0, 1) := by decide +kernel
theorem dL_refuses_186 : decode cL_refuses 186 = .ok (.iconst 0, 1) := by decide +kernel
theorem dL_refuses_187 : decode cL_refuses 187 = .ok (.invokevirtual 30, 3) := by decide +kernel
theorem dL_refuses_190 : decode cL_refuses 190 = .ok (.bipush (-2), 2) := by decide +kernel
theorem dL_refuses_192 : decode cL_refuses 192 = .ok (.if_icmp .ne 183, 3) := by decide +kernel
theorem dL_refuses_195 : decode cL_refuses 195 = .ok (.aload_n 0, 1) := by decide +kernel
theorem dL_refuses_196 : decode cL_refuses 196 = .ok (.bipush 100, 2) := by decide +kernel
theorem dL_refuses_198 : decode cL_refuses 198 = .ok (.iload_n 1, 1) := by decide +kernel
theorem dL_refuses_199 : decode cL_refuses 199 = .ok (.iadd, 1) := by decide +kernel
theorem dL_refuses_200 : decode cL_refuses 200 = .ok (.invokevirtual 30, 3) := by decide +kernel
theorem dL_refuses_203 : decode cL_refuses 203 = .ok (.bipush (-2), 2) := by decide +kernel
theorem dL_refuses_205 : decode cL_refuses 205 = .ok (.if_icmp .ne 170, 3) := by decide +kernel
theorem dL_refuses_208 : decode cL_refuses 208 = .ok (.aload_n 0, 1) := by decide +kernel
theorem dL_refuses_209 : decode cL_refuses 209 = .ok (.iconst 2, 1) := by decide +kernel
theorem dL_refuses_210 : decode cL_refuses 210 = .ok (.iload_n 1, 1) := by decide +kernel
theorem dL_refuses_211 : decode cL_refuses 211 = .ok (.iadd, 1) := by decide +kernel
theorem dL_refuses_212 : decode cL_refuses 212 = .ok (.invokevirtual 82, 3) := by decide +kernel
theorem dL_refuses_215 : decode cL_refuses 215 = .ok (.bipush (-2), 2) := by decide +kernel
theorem dL_refuses_217 : decode cL_refuses 217 = .ok (.if_icmp .ne 158, 3) := by decide +kernel
theorem dL_refuses_220 : decode cL_refuses 220 = .ok (.aload_n 0, 1) := by decide +kernel
theorem dL_refuses_221 : decode cL_refuses 221 = .ok (.iload_n 2, 1) := by decide +kernel
theorem dL_refuses_222 : decode cL_refuses 222 = .ok (.iconst 0, 1) := by decide +kernel
theorem dL_refuses_223 : decode cL_refuses 223 = .ok (.invokevirtual 62, 3) := by decide +kernel
theorem dL_refuses_226 : decode cL_refuses 226 = .ok (.iconst (-1), 1) := by decide +kernel
theorem dL_refuses_227 : decode cL_refuses 227 = .ok (.if_icmp .ne 148, 3) := by decide +kernel
theorem dL_refuses_230 : decode cL_refuses 230 = .ok (.aload_n 0, 1) := by decide +kernel
theorem dL_refuses_231 : decode cL_refuses 231 = .ok (.iconst 0, 1) := by decide +kernel
theorem dL_refuses_232 : decode cL_refuses 232 = .ok (.bipush 8, 2) := by decide +kernel
theorem dL_refuses_234 : decode cL_refuses 234 = .ok (.iload_n 1, 1) := by decide +kernel
theorem dL_refuses_235 : decode cL_refuses 235 = .ok (.iadd, 1) := by decide +kernel
theorem dL_refuses_236 : decode cL_refuses 236 = .ok (.invokevirtual 62, 3) := by decide +kernel
theorem dL_refuses_239 : decode cL_refuses 239 = .ok (.bipush (-2), 2) := by decide +kernel
theorem dL_refuses_241 : decode cL_refuses 241 = .ok (.if_icmp .ne 134, 3) := by decide +kernel
theorem dL_refuses_244 : decode cL_refuses 244 = .ok (.aload_n 0, 1) := by decide +kernel
theorem dL_refuses_245 : decode cL_refuses 245 = .ok (.iload_n 3, 1) := by decide +kernel
theorem dL_refuses_246 : decode cL_refuses 246 = .ok (.iconst 0, 1) := by decide +kernel
theorem dL_refuses_247 : decode cL_refuses 247 = .ok (.invokevirtual 52, 3) := by decide +kernel
theorem dL_refuses_250 : decode cL_refuses 250 = .ok (.iconst (-1), 1) := by decide +kernel
theorem dL_refuses_251 : decode cL_refuses 251 = .ok (.if_icmp .ne 124, 3) := by decide +kernel
theorem dL_refuses_254 : decode cL_refuses 254 = .ok (.aload_n 0, 1) := by decide +kernel
theorem dL_refuses_255 : decode cL_refuses 255 = .ok (.iload 4, 2) := by decide +kernel
theorem dL_refuses_257 : decode cL_refuses 257 = .ok (.iconst 0, 1) := by decide +kernel
theorem dL_refuses_258 : decode cL_refuses 258 = .ok (.invokevirtual 69, 3) := by decide +kernel
theorem dL_refuses_261 : decode cL_refuses 261 = .ok (.iconst (-1), 1) := by decide +kernel
theorem dL_refuses_262 : decode cL_refuses 262 = .ok (.if_icmp .ne 113, 3) := by decide +kernel
theorem dL_refuses_265 : decode cL_refuses 265 = .ok (.aload_n 0, 1) := by decide +kernel
theorem dL_refuses_266 : decode cL_refuses 266 = .ok (.iconst (-1), 1) := by decide +kernel
theorem dL_refuses_267 : decode cL_refuses 267 = .ok (.iload_n 1, 1) := by decide +kernel
theorem dL_refuses_268 : decode cL_refuses 268 = .ok (.isub, 1) := by decide +kernel
theorem dL_refuses_269 : decode cL_refuses 269 = .ok (.invokevirtual 72, 3) := by decide +kernel
theorem dL_refuses_272 : decode cL_refuses 272 = .ok (.bipush (-2), 2) := by decide +kernel
theorem dL_refuses_274 : decode cL_refuses 274 = .ok (.if_icmp .ne 101, 3) := by decide +kernel
theorem dL_refuses_277 : decode cL_refuses 277 = .ok (.aload_n 0, 1) := by decide +kernel
theorem dL_refuses_278 : decode cL_refuses 278 = .ok (.iconst 2, 1) := by decide +kernel
theorem dL_refuses_279 : decode cL_refuses 279 = .ok (.iload_n 1, 1) := by decide +kernel
theorem dL_refuses_280 : decode cL_refuses 280 = .ok (.iadd, 1) := by decide +kernel
theorem dL_refuses_281 : decode cL_refuses 281 = .ok (.iconst 1, 1) := by decide +kernel
theorem dL_refuses_282 : decode cL_refuses 282 = .ok (.invokevirtual 85, 3) := by decide +kernel
theorem dL_refuses_285 : decode cL_refuses 285 = .ok (.iconst (-1), 1) := by decide +kernel
theorem dL_refuses_286 : decode cL_refuses 286 = .ok (.if_icmp .ne 89, 3) := by decide +kernel
theorem dL_refuses_289 : decode cL_refuses 289 = .ok (.aload_n 0, 1) := by decide +kernel
theorem dL_refuses_290 : decode cL_refuses 290 = .ok (.iconst 0, 1) := by decide +kernel
theorem dL_refuses_291 : decode cL_refuses 291 = .ok (.bipush 100, 2) := by decide +kernel
theorem dL_refuses_293 : decode cL_refuses 293 = .ok (.iload_n 1, 1) := by decide +kernel
theorem dL_refuses_294 : decode cL_refuses 294 = .ok (.iadd, 1) := by decide +kernel
theorem dL_refuses_295 : decode cL_refuses 295 = .ok (.invokevirtual 85, 3) := by decide +kernel
theorem dL_refuses_298 : decode cL_refuses 298 = .ok (.bipush (-2), 2) := by decide +kernel
theorem dL_refuses_300 : decode cL_refuses 300 = .ok (.if_icmp .ne 75, 3) := by decide +kernel
theorem dL_refuses_303 : decode cL_refuses 303 = .ok (.aload_n 0, 1) := by decide +kernel
theorem dL_refuses_304 : decode cL_refuses 304 = .ok (.iload 4, 2) := by decide +kernel
theorem dL_refuses_306 : decode cL_refuses 306 = .ok (.invokevirtual 75, 3) := by decide +kernel
theorem dL_refuses_309 : decode cL_refuses 309 = .ok (.iconst (-1), 1) := by decide +kernel
theorem dL_refuses_310 : decode cL_refuses 310 = .ok (.if_icmp .ne 65, 3) := by decide +kernel
theorem dL_refuses_313 : decode cL_refuses 313 = .ok (.aload_n 0, 1) := by decide +kernel
theorem dL_refuses_314 : decode cL_refuses 314 = .ok (.iload 4, 2) := by decide +kernel
theorem dL_refuses_316 : decode cL_refuses 316 = .ok (.invokevirtual 88, 3) := by decide +kernel
theorem dL_refuses_319 : decode cL_refuses 319 = .ok (.iconst (-1), 1) := by decide +kernel
theorem dL_refuses_320 : decode cL_refuses 320 = .ok (.if_icmp .ne 55, 3) := by decide +kernel
theorem dL_refuses_323 : decode cL_refuses 323 = .ok (.aload_n 0, 1) := by decide +kernel
theorem dL_refuses_324 : decode cL_refuses 324 = .ok (.bipush 100, 2) := by decide +kernel
theorem dL_refuses_326 : decode cL_refuses 326 = .ok (.iload_n 1, 1) := by decide +kernel
theorem dL_refuses_327 : decode cL_refuses 327 = .ok (.iadd, 1) := by decide +kernel
theorem dL_refuses_328 : decode cL_refuses 328 = .ok (.iconst 1, 1) := by decide +kernel
theorem dL_refuses_329 : decode cL_refuses 329 = .ok (.invokevirtual 78, 3) := by decide +kernel
theorem dL_refuses_332 : decode cL_refuses 332 = .ok (.bipush (-2), 2) := by decide +kernel
theorem dL_refuses_334 : decode cL_refuses 334 = .ok (.if_icmp .ne 41, 3) := by decide +kernel
theorem dL_refuses_337 : decode cL_refuses 337 = .ok (.aload_n 0, 1) := by decide +kernel
theorem dL_refuses_338 : decode cL_refuses 338 = .ok (.iload_n 2, 1) := by decide +kernel
theorem dL_refuses_339 : decode cL_refuses 339 = .ok (.invokevirtual 65, 3) := by decide +kernel
theorem dL_refuses_342 : decode cL_refuses 342 = .ok (.iconst (-1), 1) := by decide +kernel
theorem dL_refuses_343 : decode cL_refuses 343 = .ok (.if_icmp .ne 32, 3) := by decide +kernel
theorem dL_refuses_346 : decode cL_refuses 346 = .ok (.aload_n 0, 1) := by decide +kernel
theorem dL_refuses_347 : decode cL_refuses 347 = .ok (.bipush 20, 2) := by decide +kernel
theorem dL_refuses_349 : decode cL_refuses 349 = .ok (.iload_n 1, 1) := by decide +kernel
theorem dL_refuses_350 : decode cL_refuses 350 = .ok (.iadd, 1) := by decide +kernel
theorem dL_refuses_351 : decode cL_refuses 351 = .ok (.invokevirtual 9, 3) := by decide +kernel
theorem dL_refuses_354 : decode cL_refuses 354 = .ok (.bipush (-2), 2) := by decide +kernel
theorem dL_refuses_356 : decode cL_refuses 356 = .ok (.if_icmp .ne 19, 3) := by decide +kernel
theorem dL_refuses_359 : decode cL_refuses 359 = .ok (.aload_n 0, 1) := by decide +kernel
theorem dL_refuses_360 : decode cL_refuses 360 = .ok (.iconst (-1), 1) := by decide +kernel
theorem dL_refuses_361 : decode cL_refuses 361 = .ok (.iload_n 1, 1) := by decide +kernel
theorem dL_refuses_362 : decode cL_refuses 362 = .ok (.isub, 1) := by decide +kernel
theorem dL_refuses_363 : decode cL_refuses 363 = .ok (.invokevirtual 9, 3) := by decide +kernel
theorem dL_refuses_366 : decode cL_refuses 366 = .ok (.bipush (-2), 2) := by decide +kernel
theorem dL_refuses_368 : decode cL_refuses 368 = .ok (.if_icmp .ne 7, 3) := by decide +kernel
theorem dL_refuses_371 : decode cL_refuses 371 = .ok (.iconst 1, 1) := by decide +kernel
theorem dL_refuses_372 : decode cL_refuses 372 = .ok (.goto 4, 3) := by decide +kernel
theorem dL_refuses_375 : decode cL_refuses 375 = .ok (.iconst 0, 1) := by decide +kernel
theorem dL_refuses_376 : decode cL_refuses 376 = .ok (.istore 5, 2) := by decide +kernel
theorem dL_refuses_378 : decode cL_refuses 378 = .ok (.aload_n 0, 1) := by decide +kernel
theorem dL_refuses_379 : decode cL_refuses 379 = .ok (.invokevirtual 42, 3) := by decide +kernel
theorem dL_refuses_382 : decode cL_refuses 382 = .ok (.istore 6, 2) := by decide +kernel
theorem dL_refuses_384 : decode cL_refuses 384 = .ok (.iload 5, 2) := by decide +kernel
theorem dL_refuses_386 : decode cL_refuses 386 = .ok (.ifCond .eq 154, 3) := by decide +kernel
theorem dL_refuses_389 : decode cL_refuses 389 = .ok (.iload 6, 2) := by decide +kernel
theorem dL_refuses_391 : decode cL_refuses 391 = .ok (.ifCond .lt 149, 3) := by decide +kernel
theorem dL_refuses_394 : decode cL_refuses 394 = .ok (.aload_n 0, 1) := by decide +kernel
theorem dL_refuses_395 : decode cL_refuses 395 = .ok (.invokevirtual 49, 3) := by decide +kernel
theorem dL_refuses_398 : decode cL_refuses 398 = .ok (.bipush (-100), 2) := by decide +kernel
theorem dL_refuses_400 : decode cL_refuses 400 = .ok (.if_icmp .ne 140, 3) := by decide +kernel
theorem dL_refuses_403 : decode cL_refuses 403 = .ok (.aload_n 0, 1) := by decide +kernel
theorem dL_refuses_404 : decode cL_refuses 404 = .ok (.iconst 1, 1) := by decide +kernel
theorem dL_refuses_405 : decode cL_refuses 405 = .ok (.invokevirtual 9, 3) := by decide +kernel
theorem dL_refuses_408 : decode cL_refuses 408 = .ok (.ifCond .eq 75, 3) := by decide +kernel
theorem dL_refuses_411 : decode cL_refuses 411 = .ok (.aload_n 0, 1) := by decide +kernel
theorem dL_refuses_412 : decode cL_refuses 412 = .ok (.iconst 0, 1) := by decide +kernel
theorem dL_refuses_413 : decode cL_refuses 413 = .ok (.bipush 7, 2) := by decide +kernel
theorem dL_refuses_415 : decode cL_refuses 415 = .ok (.iload_n 1, 1) := by decide +kernel
theorem dL_refuses_416 : decode cL_refuses 416 = .ok (.iadd, 1) := by decide +kernel
theorem dL_refuses_417 : decode cL_refuses 417 = .ok (.invokevirtual 52, 3) := by decide +kernel
theorem dL_refuses_420 : decode cL_refuses 420 = .ok (.bipush (-2), 2) := by decide +kernel
theorem dL_refuses_422 : decode cL_refuses 422 = .ok (.if_icmp .ne 118, 3) := by decide +kernel
theorem dL_refuses_425 : decode cL_refuses 425 = .ok (.aload_n 0, 1) := by decide +kernel
theorem dL_refuses_426 : decode cL_refuses 426 = .ok (.aload_n 0, 1) := by decide +kernel
theorem dL_refuses_427 : decode cL_refuses 427 = .ok (.iconst 0, 1) := by decide +kernel
theorem dL_refuses_428 : decode cL_refuses 428 = .ok (.iconst 0, 1) := by decide +kernel
theorem dL_refuses_429 : decode cL_refuses 429 = .ok (.invokevirtual 52, 3) := by decide +kernel
theorem dL_refuses_432 : decode cL_refuses 432 = .ok (.iconst 0, 1) := by decide +kernel
theorem dL_refuses_433 : decode cL_refuses 433 = .ok (.iconst 0, 1) := by decide +kernel
theorem dL_refuses_434 : decode cL_refuses 434 = .ok (.bipush 100, 2) := by decide +kernel
theorem dL_refuses_436 : decode cL_refuses 436 = .ok (.iload_n 1, 1) := by decide +kernel
theorem dL_refuses_437 : decode cL_refuses 437 = .ok (.iadd, 1) := by decide +kernel
theorem dL_refuses_438 : decode cL_refuses 438 = .ok (.invokevirtual 55, 3) := by decide +kernel
theorem dL_refuses_441 : decode cL_refuses 441 = .ok (.bipush (-2), 2) := by decide +kernel
theorem dL_refuses_443 : decode cL_refuses 443 = .ok (.if_icmp .ne 97, 3) := by decide +kernel
theorem dL_refuses_446 : decode cL_refuses 446 = .ok (.aload_n 0, 1) := by decide +kernel
theorem dL_refuses_447 : decode cL_refuses 447 = .ok (.aload_n 0, 1) := by decide +kernel
theorem dL_refuses_448 : decode cL_refuses 448 = .ok (.iconst 0, 1) := by decide +kernel
theorem dL_refuses_449 : decode cL_refuses 449 = .ok (.iconst 0, 1) := by decide +kernel
theorem dL_refuses_450 : decode cL_refuses 450 = .ok (.invokevirtual 52, 3) := by decide +kernel
theorem dL_refuses_453 : decode cL_refuses 453 = .ok (.iconst 0, 1) := by decide +kernel
theorem dL_refuses_454 : decode cL_refuses 454 = .ok (.iconst 0, 1) := by decide +kernel
theorem dL_refuses_455 : decode cL_refuses 455 = .ok (.iconst 1, 1) := by decide +kernel
theorem dL_refuses_456 : decode cL_refuses 456 = .ok (.invokevirtual 55, 3) := by decide +kernel
theorem dL_refuses_459 : decode cL_refuses 459 = .ok (.bipush (-4), 2) := by decide +kernel
theorem dL_refuses_461 : decode cL_refuses 461 = .ok (.if_icmp .ne 79, 3) := by decide +kernel
theorem dL_refuses_464 : decode cL_refuses 464 = .ok (.aload_n 0, 1) := by decide +kernel
theorem dL_refuses_465 : decode cL_refuses 465 = .ok (.iconst 0, 1) := by decide +kernel
theorem dL_refuses_466 : decode cL_refuses 466 = .ok (.iconst 3, 1) := by decide +kernel
theorem dL_refuses_467 : decode cL_refuses 467 = .ok (.invokevirtual 52, 3) := by decide +kernel
theorem dL_refuses_470 : decode cL_refuses 470 = .ok (.ifCond .eq 13, 3) := by decide +kernel
theorem dL_refuses_473 : decode cL_refuses 473 = .ok (.aload_n 0, 1) := by decide +kernel
theorem dL_refuses_474 : decode cL_refuses 474 = .ok (.iconst 0, 1) := by decide +kernel
theorem dL_refuses_475 : decode cL_refuses 475 = .ok (.invokevirtual 19, 3) := by decide +kernel
theorem dL_refuses_478 : decode cL_refuses 478 = .ok (.bipush (-4), 2) := by decide +kernel
theorem dL_refuses_480 : decode cL_refuses 480 = .ok (.if_icmp .ne 60, 3) := by decide +kernel
theorem dL_refuses_483 : decode cL_refuses 483 = .ok (.aload_n 0, 1) := by decide +kernel
theorem dL_refuses_484 : decode cL_refuses 484 = .ok (.iconst 3, 1) := by decide +kernel
theorem dL_refuses_485 : decode cL_refuses 485 = .ok (.invokevirtual 9, 3) := by decide +kernel
theorem dL_refuses_488 : decode cL_refuses 488 = .ok (.ifCond .eq 17, 3) := by decide +kernel
theorem dL_refuses_491 : decode cL_refuses 491 = .ok (.aload_n 0, 1) := by decide +kernel
theorem dL_refuses_492 : decode cL_refuses 492 = .ok (.iconst 0, 1) := by decide +kernel
theorem dL_refuses_493 : decode cL_refuses 493 = .ok (.bipush 9, 2) := by decide +kernel
theorem dL_refuses_495 : decode cL_refuses 495 = .ok (.iload_n 1, 1) := by decide +kernel
theorem dL_refuses_496 : decode cL_refuses 496 = .ok (.iadd, 1) := by decide +kernel
theorem dL_refuses_497 : decode cL_refuses 497 = .ok (.invokevirtual 69, 3) := by decide +kernel
theorem dL_refuses_500 : decode cL_refuses 500 = .ok (.bipush (-2), 2) := by decide +kernel
theorem dL_refuses_502 : decode cL_refuses 502 = .ok (.if_icmp .ne 38, 3) := by decide +kernel
theorem dL_refuses_505 : decode cL_refuses 505 = .ok (.aload_n 0, 1) := by decide +kernel
theorem dL_refuses_506 : decode cL_refuses 506 = .ok (.bipush 12, 2) := by decide +kernel
theorem dL_refuses_508 : decode cL_refuses 508 = .ok (.invokevirtual 9, 3) := by decide +kernel
theorem dL_refuses_511 : decode cL_refuses 511 = .ok (.bipush 9, 2) := by decide +kernel
theorem dL_refuses_513 : decode cL_refuses 513 = .ok (.if_icmp .ne 23, 3) := by decide +kernel
theorem dL_refuses_516 : decode cL_refuses 516 = .ok (.aload_n 0, 1) := by decide +kernel
theorem dL_refuses_517 : decode cL_refuses 517 = .ok (.bipush 13, 2) := by decide +kernel
theorem dL_refuses_519 : decode cL_refuses 519 = .ok (.invokevirtual 9, 3) := by decide +kernel
theorem dL_refuses_522 : decode cL_refuses 522 = .ok (.bipush 9, 2) := by decide +kernel
theorem dL_refuses_524 : decode cL_refuses 524 = .ok (.if_icmp .ne 12, 3) := by decide +kernel
theorem dL_refuses_527 : decode cL_refuses 527 = .ok (.aload_n 0, 1) := by decide +kernel
theorem dL_refuses_528 : decode cL_refuses 528 = .ok (.invokevirtual 22, 3) := by decide +kernel
theorem dL_refuses_531 : decode cL_refuses 531 = .ok (.bipush (-5), 2) := by decide +kernel
theorem dL_refuses_533 : decode cL_refuses 533 = .ok (.if_icmp .ne 7, 3) := by decide +kernel
theorem dL_refuses_536 : decode cL_refuses 536 = .ok (.iconst 1, 1) := by decide +kernel
theorem dL_refuses_537 : decode cL_refuses 537 = .ok (.goto 4, 3) := by decide +kernel
theorem dL_refuses_540 : decode cL_refuses 540 = .ok (.iconst 0, 1) := by decide +kernel
theorem dL_refuses_541 : decode cL_refuses 541 = .ok (.ireturn, 1) := by decide +kernel
