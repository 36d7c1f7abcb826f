set_option maxRecDepth 20000 in
theorem ggL_hangs_X5_richest : GoodIn wsL_hangs wsX5_richest := goodIn_r _ [6, 7, 8, 9, 10, 11, 12, 13, 14, 15, 16, 17, 18, 19, 20, 241, 242, 243, 244, 245, 246, 247, 248, 249, 250, 251, 252, 253, 254, 255, 256, 257, 258] (by decide +kernel) (by decide +kernel)
set_option maxRecDepth 20000 in
theorem gL_hangs_X5_richest : GoodIn wsL_hangs (wsV RL 59 RX5 yX5_richest wsX5_richest) := goodIn_app (goodIn_of _ (by decide +kernel)) ggL_hangs_X5_richest
set_option maxRecDepth 20000 in
theorem ggL_hangs_X5_trader : GoodIn wsL_hangs wsX5_trader := goodIn_r _ [24, 7, 25, 26, 27, 11, 28, 13, 29, 30, 31, 32, 33, 34, 35, 36, 37, 17, 38, 39, 14, 15, 16, 18, 19, 20, 40, 41, 42, 43, 44, 45, 46, 47, 48, 241, 242, 243, 244, 245, 246, 247, 248, 249, 250, 251, 252, 253, 254, 255, 256, 257, 258] (by decide +kernel) (by decide +kernel)
set_option maxRecDepth 20000 in
theorem gL_hangs_X5_trader : GoodIn wsL_hangs (wsV RL 62 RX5 yX5_trader wsX5_trader) := goodIn_app (goodIn_of _ (by decide +kernel)) ggL_hangs_X5_trader
set_option maxRecDepth 20000 in
theorem ggL_hangs_X5_account : GoodIn wsL_hangs wsX5_account := goodIn_r _ [52, 7, 53, 54, 55, 11, 56, 13, 34, 33, 57, 35, 36, 37, 17, 38, 39, 14, 15, 16, 18, 19, 20, 58, 59, 60, 61, 241, 242, 243, 244, 245, 246, 247, 248, 249, 250, 251, 252, 253, 254, 255, 256, 257, 258] (by decide +kernel) (by decide +kernel)
set_option maxRecDepth 20000 in
theorem gL_hangs_X5_account : GoodIn wsL_hangs (wsV RL 65 RX5 yX5_account wsX5_account) := goodIn_app (goodIn_of _ (by decide +kernel)) ggL_hangs_X5_account
set_option maxRecDepth 20000 in
theorem ggL_hangs_X5_count : GoodIn wsL_hangs wsX5_count := goodIn_r _ [65, 66, 67, 7, 68, 69, 70, 71, 72, 73, 74, 75, 76, 77, 78, 79, 80, 81, 82, 11, 83, 84, 33, 34, 85, 86, 13, 87, 58, 59, 60, 17, 61, 39, 40, 41, 42, 43, 44, 15, 16, 18, 19, 20, 88, 89, 90, 91, 92, 93, 94, 95, 96, 97, 98, 99, 100, 101, 14, 241, 242, 243, 244, 245, 246, 247, 248, 259, 260, 261, 262, 263, 264, 265, 266, 249, 250, 251, 252, 253, 254, 255, 256, 257, 258, 267, 268, 269] (by decide +kernel) (by decide +kernel)
set_option maxRecDepth 20000 in
theorem gL_hangs_X5_count : GoodIn wsL_hangs (wsV RL 9 RX5 yX5_count wsX5_count) := goodIn_app (goodIn_of _ (by decide +kernel)) ggL_hangs_X5_count
set_option maxRecDepth 20000 in
theorem ggL_hangs_X5_riddle : GoodIn wsL_hangs wsX5_riddle := goodIn_r _ [105, 7, 106, 107, 108, 11, 109, 33, 34, 35, 36, 37, 17, 38, 39, 14, 15, 16, 18, 19, 20, 40, 41, 42, 43, 44, 45, 46, 47, 48, 110, 111, 112, 113, 241, 242, 243, 244, 245, 246, 247, 248, 249, 250, 251, 252, 253, 254, 255, 256, 257, 258] (by decide +kernel) (by decide +kernel)
set_option maxRecDepth 20000 in
theorem gL_hangs_X5_riddle : GoodIn wsL_hangs (wsV RL 52 RX5 yX5_riddle wsX5_riddle) := goodIn_app (goodIn_of _ (by decide +kernel)) ggL_hangs_X5_riddle
set_option maxRecDepth 20000 in
theorem ggL_hangs_X5_answer : GoodIn wsL_hangs wsX5_answer := goodIn_r _ [117, 7, 118, 119, 120, 11, 121, 34, 85, 35, 36, 37, 17, 38, 39, 122, 123, 124, 91, 125, 93, 126, 127, 128, 129, 130, 131, 14, 15, 16, 18, 19, 20, 241, 242, 243, 244, 245, 246, 247, 248, 249, 250, 251, 252, 253, 254, 255, 256, 257, 258, 267, 268, 269] (by decide +kernel) (by decide +kernel)
set_option maxRecDepth 20000 in
theorem gL_hangs_X5_answer : GoodIn wsL_hangs (wsV RL 69 RX5 yX5_answer wsX5_answer) := goodIn_app (goodIn_of _ (by decide +kernel)) ggL_hangs_X5_answer
set_option maxRecDepth 20000 in
theorem ggL_hangs_X5_waits : GoodIn wsL_hangs wsX5_waits := goodIn_r _ [135, 7, 136, 137, 138, 11, 139, 85, 140, 127, 128, 91, 129, 93, 130, 131, 241, 242, 243, 244, 245, 246, 247, 248, 249, 250, 251, 252, 253, 254, 255, 267, 268, 269] (by decide +kernel) (by decide +kernel)
set_option maxRecDepth 20000 in
theorem gL_hangs_X5_waits : GoodIn wsL_hangs (wsV RL 72 RX5 yX5_waits wsX5_waits) := goodIn_app (goodIn_of _ (by decide +kernel)) ggL_hangs_X5_waits
set_option maxRecDepth 20000 in
theorem ggL_hangs_X5_reason : GoodIn wsL_hangs wsX5_reason := goodIn_r _ [144, 7, 145, 146, 147, 11, 148, 34, 35, 36, 37, 17, 38, 39, 14, 15, 16, 18, 19, 20, 149, 150, 151, 152, 33, 153, 154, 155, 156, 86, 29, 30, 31, 32, 157, 158, 159, 160, 161, 162, 163, 87, 13, 241, 242, 243, 244, 245, 246, 247, 248, 249, 250, 251, 252, 253, 254, 255, 256, 257, 258] (by decide +kernel) (by decide +kernel)
set_option maxRecDepth 20000 in
theorem gL_hangs_X5_reason : GoodIn wsL_hangs (wsV RL 75 RX5 yX5_reason wsX5_reason) := goodIn_app (goodIn_of _ (by decide +kernel)) ggL_hangs_X5_reason
set_option maxRecDepth 20000 in
theorem ggL_hangs_X5_ifRounds : GoodIn wsL_hangs wsX5_ifRounds := goodIn_r _ [167, 168, 7, 169, 170, 171, 11, 172, 13, 33, 34, 86, 87, 85, 84, 173, 174, 175, 17, 176, 39, 20, 177, 178, 31, 179, 180, 181, 182, 183, 184, 185, 186, 91, 187, 130, 93, 131, 188, 189, 190, 191, 192, 193, 161, 162, 163, 14, 15, 16, 18, 19, 194, 195, 196, 197, 198, 199, 200, 201, 202, 88, 89, 90, 92, 203, 204, 205, 206, 126, 127, 128, 129, 207, 208, 209, 210, 211, 150, 151, 152, 153, 154, 155, 156, 29, 30, 32, 212, 158, 159, 160, 213, 214, 215, 216, 217, 218, 219, 220, 221, 222, 223, 224, 225, 226, 227, 228, 229, 230, 231, 232, 233, 234, 235, 236, 237, 238, 239, 240, 241, 242, 243, 244, 245, 246, 247, 248, 249, 250, 251, 252, 253, 254, 255, 256, 257, 258, 267, 268, 269] (by decide +kernel) (by decide +kernel)
set_option maxRecDepth 20000 in
theorem gL_hangs_X5_ifRounds : GoodIn wsL_hangs (wsV RL 78 RX5 yX5_ifRounds wsX5_ifRounds) := goodIn_app (goodIn_of _ (by decide +kernel)) ggL_hangs_X5_ifRounds
theorem dL_hangs_0 : decode cL_hangs 0 = .ok (.iconst 0, 1) := by decide +kernel
theorem dL_hangs_1 : decode cL_hangs 1 = .ok (.istore_n 1, 1) := by decide +kernel
theorem dL_hangs_2 : decode cL_hangs 2 = .ok (.iconst 0, 1) := by decide +kernel
theorem dL_hangs_3 : decode cL_hangs 3 = .ok (.istore_n 2, 1) := by decide +kernel
theorem dL_hangs_4 : decode cL_hangs 4 = .ok (.iconst 0, 1) := by decide +kernel
theorem dL_hangs_5 : decode cL_hangs 5 = .ok (.istore_n 3, 1) := by decide +kernel
theorem dL_hangs_6 : decode cL_hangs 6 = .ok (.iconst 0, 1) := by decide +kernel
theorem dL_hangs_7 : decode cL_hangs 7 = .ok (.istore 4, 2) := by decide +kernel
theorem dL_hangs_9 : decode cL_hangs 9 = .ok (.iconst 0, 1) := by decide +kernel
theorem dL_hangs_10 : decode cL_hangs 10 = .ok (.istore 5, 2) := by decide +kernel
theorem dL_hangs_12 : decode cL_hangs 12 = .ok (.iconst 1, 1) := by decide +kernel
theorem dL_hangs_13 : decode cL_hangs 13 = .ok (.istore 6, 2) := by decide +kernel
theorem dL_hangs_15 : decode cL_hangs 15 = .ok (.aload_n 0, 1) := by decide +kernel
theorem dL_hangs_16 : decode cL_hangs 16 = .ok (.invokevirtual 59, 3) := by decide +kernel
theorem dL_hangs_19 : decode cL_hangs 19 = .ok (.istore 7, 2) := by decide +kernel
theorem dL_hangs_21 : decode cL_hangs 21 = .ok (.iconst 0, 1) := by decide +kernel
theorem dL_hangs_22 : decode cL_hangs 22 = .ok (.istore 8, 2) := by decide +kernel
theorem dL_hangs_24 : decode cL_hangs 24 = .ok (.iload 8, 2) := by decide +kernel
theorem dL_hangs_26 : decode cL_hangs 26 = .ok (.bipush 8, 2) := by decide +kernel
theorem dL_hangs_28 : decode cL_hangs 28 = .ok (.if_icmp .ge 241, 3) := by decide +kernel
theorem dL_hangs_31 : decode cL_hangs 31 = .ok (.iload 6, 2) := by decide +kernel
theorem dL_hangs_33 : decode cL_hangs 33 = .ok (.ifCond .eq 236, 3) := by decide +kernel
theorem dL_hangs_36 : decode cL_hangs 36 = .ok (.aload_n 0, 1) := by decide +kernel
theorem dL_hangs_37 : decode cL_hangs 37 = .ok (.iload 8, 2) := by decide +kernel
theorem dL_hangs_39 : decode cL_hangs 39 = .ok (.iconst 1, 1) := by decide +kernel
theorem dL_hangs_40 : decode cL_hangs 40 = .ok (.invokevirtual 62, 3) := by decide +kernel
theorem dL_hangs_43 : decode cL_hangs 43 = .ok (.aload_n 0, 1) := by decide +kernel
theorem dL_hangs_44 : decode cL_hangs 44 = .ok (.iload 8, 2) := by decide +kernel
theorem dL_hangs_46 : decode cL_hangs 46 = .ok (.iconst 0, 1) := by decide +kernel
theorem dL_hangs_47 : decode cL_hangs 47 = .ok (.invokevirtual 62, 3) := by decide +kernel
theorem dL_hangs_50 : decode cL_hangs 50 = .ok (.isub, 1) := by decide +kernel
theorem dL_hangs_51 : decode cL_hangs 51 = .ok (.istore 9, 2) := by decide +kernel
theorem dL_hangs_53 : decode cL_hangs 53 = .ok (.aload_n 0, 1) := by decide +kernel
theorem dL_hangs_54 : decode cL_hangs 54 = .ok (.iload 8, 2) := by decide +kernel
theorem dL_hangs_56 : decode cL_hangs 56 = .ok (.iconst 0, 1) := by decide +kernel
theorem dL_hangs_57 : decode cL_hangs 57 = .ok (.invokevirtual 62, 3) := by decide +kernel
theorem dL_hangs_60 : decode cL_hangs 60 = .ok (.ifCond .lt 142, 3) := by decide +kernel
theorem dL_hangs_63 : decode cL_hangs 63 = .ok (.aload_n 0, 1) := by decide +kernel
theorem dL_hangs_64 : decode cL_hangs 64 = .ok (.iload 8, 2) := by decide +kernel
theorem dL_hangs_66 : decode cL_hangs 66 = .ok (.iconst 1, 1) := by decide +kernel
theorem dL_hangs_67 : decode cL_hangs 67 = .ok (.invokevirtual 62, 3) := by decide +kernel
theorem dL_hangs_70 : decode cL_hangs 70 = .ok (.ifCond .lt 132, 3) := by decide +kernel
theorem dL_hangs_73 : decode cL_hangs 73 = .ok (.aload_n 0, 1) := by decide +kernel
theorem dL_hangs_74 : decode cL_hangs 74 = .ok (.iload 8, 2) := by decide +kernel
theorem dL_hangs_76 : decode cL_hangs 76 = .ok (.iconst 0, 1) := by decide +kernel
theorem dL_hangs_77 : decode cL_hangs 77 = .ok (.invokevirtual 62, 3) := by decide +kernel
theorem dL_hangs_80 : decode cL_hangs 80 = .ok (.ifCond .eq 13, 3) := by decide +kernel
theorem dL_hangs_83 : decode cL_hangs 83 = .ok (.aload_n 0, 1) := by decide +kernel
theorem dL_hangs_84 : decode cL_hangs 84 = .ok (.iload 8, 2) := by decide +kernel
theorem dL_hangs_86 : decode cL_hangs 86 = .ok (.iconst 1, 1) := by decide +kernel
theorem dL_hangs_87 : decode cL_hangs 87 = .ok (.invokevirtual 62, 3) := by decide +kernel
theorem dL_hangs_90 : decode cL_hangs 90 = .ok (.ifCond .ne 112, 3) := by decide +kernel
theorem dL_hangs_93 : decode cL_hangs 93 = .ok (.aload_n 0, 1) := by decide +kernel
theorem dL_hangs_94 : decode cL_hangs 94 = .ok (.iload 8, 2) := by decide +kernel
theorem dL_hangs_96 : decode cL_hangs 96 = .ok (.invokevirtual 65, 3) := by decide +kernel
theorem dL_hangs_99 : decode cL_hangs 99 = .ok (.iload 9, 2) := by decide +kernel
theorem dL_hangs_101 : decode cL_hangs 101 = .ok (.ldc 68, 2) := by decide +kernel
theorem dL_hangs_103 : decode cL_hangs 103 = .ok (.iadd, 1) := by decide +kernel
theorem dL_hangs_104 : decode cL_hangs 104 = .ok (.if_icmp .ne 98, 3) := by decide +kernel
theorem dL_hangs_107 : decode cL_hangs 107 = .ok (.aload_n 0, 1) := by decide +kernel
theorem dL_hangs_108 : decode cL_hangs 108 = .ok (.iload 8, 2) := by decide +kernel
theorem dL_hangs_110 : decode cL_hangs 110 = .ok (.bipush 7, 2) := by decide +kernel
theorem dL_hangs_112 : decode cL_hangs 112 = .ok (.invokevirtual 62, 3) := by decide +kernel
theorem dL_hangs_115 : decode cL_hangs 115 = .ok (.ifCond .lt 87, 3) := by decide +kernel
theorem dL_hangs_118 : decode cL_hangs 118 = .ok (.aload_n 0, 1) := by decide +kernel
theorem dL_hangs_119 : decode cL_hangs 119 = .ok (.iload 7, 2) := by decide +kernel
theorem dL_hangs_121 : decode cL_hangs 121 = .ok (.invokevirtual 65, 3) := by decide +kernel
theorem dL_hangs_124 : decode cL_hangs 124 = .ok (.aload_n 0, 1) := by decide +kernel
theorem dL_hangs_125 : decode cL_hangs 125 = .ok (.iload 8, 2) := by decide +kernel
theorem dL_hangs_127 : decode cL_hangs 127 = .ok (.invokevirtual 65, 3) := by decide +kernel
theorem dL_hangs_130 : decode cL_hangs 130 = .ok (.if_icmp .lt 72, 3) := by decide +kernel
theorem dL_hangs_133 : decode cL_hangs 133 = .ok (.iload 8, 2) := by decide +kernel
theorem dL_hangs_135 : decode cL_hangs 135 = .ok (.iload 7, 2) := by decide +kernel
theorem dL_hangs_137 : decode cL_hangs 137 = .ok (.if_icmp .ge 18, 3) := by decide +kernel
theorem dL_hangs_140 : decode cL_hangs 140 = .ok (.aload_n 0, 1) := by decide +kernel
theorem dL_hangs_141 : decode cL_hangs 141 = .ok (.iload 7, 2) := by decide +kernel
theorem dL_hangs_143 : decode cL_hangs 143 = .ok (.invokevirtual 65, 3) := by decide +kernel
theorem dL_hangs_146 : decode cL_hangs 146 = .ok (.aload_n 0, 1) := by decide +kernel
theorem dL_hangs_147 : decode cL_hangs 147 = .ok (.iload 8, 2) := by decide +kernel
theorem dL_hangs_149 : decode cL_hangs 149 = .ok (.invokevirtual 65, 3) := by decide +kernel
theorem dL_hangs_152 : decode cL_hangs 152 = .ok (.if_icmp .le 50, 3) := by decide +kernel
theorem dL_hangs_155 : decode cL_hangs 155 = .ok (.aload_n 0, 1) := by decide +kernel
theorem dL_hangs_156 : decode cL_hangs 156 = .ok (.iload 8, 2) := by decide +kernel
theorem dL_hangs_158 : decode cL_hangs 158 = .ok (.iconst 3, 1) := by decide +kernel
theorem dL_hangs_159 : decode cL_hangs 159 = .ok (.invokevirtual 62, 3) := by decide +kernel
theorem dL_hangs_162 : decode cL_hangs 162 = .ok (.aload_n 0, 1) := by decide +kernel
theorem dL_hangs_163 : decode cL_hangs 163 = .ok (.iload 8, 2) := by decide +kernel
theorem dL_hangs_165 : decode cL_hangs 165 = .ok (.iconst 2, 1) := by decide +kernel
theorem dL_hangs_166 : decode cL_hangs 166 = .ok (.invokevirtual 62, 3) := by decide +kernel
theorem dL_hangs_169 : decode cL_hangs 169 = .ok (.if_icmp .gt 33, 3) := by decide +kernel
theorem dL_hangs_172 : decode cL_hangs 172 = .ok (.aload_n 0, 1) := by decide +kernel
theorem dL_hangs_173 : decode cL_hangs 173 = .ok (.iload 8, 2) := by decide +kernel
theorem dL_hangs_175 : decode cL_hangs 175 = .ok (.iconst 5, 1) := by decide +kernel
theorem dL_hangs_176 : decode cL_hangs 176 = .ok (.invokevirtual 62, 3) := by decide +kernel
theorem dL_hangs_179 : decode cL_hangs 179 = .ok (.aload_n 0, 1) := by decide +kernel
theorem dL_hangs_180 : decode cL_hangs 180 = .ok (.iload 8, 2) := by decide +kernel
theorem dL_hangs_182 : decode cL_hangs 182 = .ok (.bipush 6, 2) := by decide +kernel
theorem dL_hangs_184 : decode cL_hangs 184 = .ok (.invokevirtual 62, 3) := by decide +kernel
theorem dL_hangs_187 : decode cL_hangs 187 = .ok (.iadd, 1) := by decide +kernel
theorem dL_hangs_188 : decode cL_hangs 188 = .ok (.aload_n 0, 1) := by decide +kernel
theorem dL_hangs_189 : decode cL_hangs 189 = .ok (.iload 8, 2) := by decide +kernel
theorem dL_hangs_191 : decode cL_hangs 191 = .ok (.iconst 4, 1) := by decide +kernel
theorem dL_hangs_192 : decode cL_hangs 192 = .ok (.invokevirtual 62, 3) := by decide +kernel
theorem dL_hangs_195 : decode cL_hangs 195 = .ok (.if_icmp .gt 7, 3) := by decide +kernel
theorem dL_hangs_198 : decode cL_hangs 198 = .ok (.iconst 1, 1) := by decide +kernel
theorem dL_hangs_199 : decode cL_hangs 199 = .ok (.goto 4, 3) := by decide +kernel
theorem dL_hangs_202 : decode cL_hangs 202 = .ok (.iconst 0, 1) := by decide +kernel
theorem dL_hangs_203 : decode cL_hangs 203 = .ok (.istore 6, 2) := by decide +kernel
theorem dL_hangs_205 : decode cL_hangs 205 = .ok (.iload_n 1, 1) := by decide +kernel
theorem dL_hangs_206 : decode cL_hangs 206 = .ok (.iload 9, 2) := by decide +kernel
theorem dL_hangs_208 : decode cL_hangs 208 = .ok (.iadd, 1) := by decide +kernel
theorem dL_hangs_209 : decode cL_hangs 209 = .ok (.istore_n 1, 1) := by decide +kernel
theorem dL_hangs_210 : decode cL_hangs 210 = .ok (.iload_n 2, 1) := by decide +kernel
theorem dL_hangs_211 : decode cL_hangs 211 = .ok (.aload_n 0, 1) := by decide +kernel
theorem dL_hangs_212 : decode cL_hangs 212 = .ok (.iload 8, 2) := by decide +kernel
theorem dL_hangs_214 : decode cL_hangs 214 = .ok (.bipush 7, 2) := by decide +kernel
theorem dL_hangs_216 : decode cL_hangs 216 = .ok (.invokevirtual 62, 3) := by decide +kernel
theorem dL_hangs_219 : decode cL_hangs 219 = .ok (.iadd, 1) := by decide +kernel
theorem dL_hangs_220 : decode cL_hangs 220 = .ok (.istore_n 2, 1) := by decide +kernel
theorem dL_hangs_221 : decode cL_hangs 221 = .ok (.iload_n 3, 1) := by decide +kernel
theorem dL_hangs_222 : decode cL_hangs 222 = .ok (.aload_n 0, 1) := by decide +kernel
theorem dL_hangs_223 : decode cL_hangs 223 = .ok (.iload 8, 2) := by decide +kernel
theorem dL_hangs_225 : decode cL_hangs 225 = .ok (.iconst 2, 1) := by decide +kernel
theorem dL_hangs_226 : decode cL_hangs 226 = .ok (.invokevirtual 62, 3) := by decide +kernel
theorem dL_hangs_229 : decode cL_hangs 229 = .ok (.iadd, 1) := by decide +kernel
theorem dL_hangs_230 : decode cL_hangs 230 = .ok (.istore_n 3, 1) := by decide +kernel
theorem dL_hangs_231 : decode cL_hangs 231 = .ok (.iload 4, 2) := by decide +kernel
theorem dL_hangs_233 : decode cL_hangs 233 = .ok (.aload_n 0, 1) := by decide +kernel
theorem dL_hangs_234 : decode cL_hangs 234 = .ok (.iload 8, 2) := by decide +kernel
theorem dL_hangs_236 : decode cL_hangs 236 = .ok (.iconst 4, 1) := by decide +kernel
theorem dL_hangs_237 : decode cL_hangs 237 = .ok (.invokevirtual 62, 3) := by decide +kernel
theorem dL_hangs_240 : decode cL_hangs 240 = .ok (.iadd, 1) := by decide +kernel
theorem dL_hangs_241 : decode cL_hangs 241 = .ok (.istore 4, 2) := by decide +kernel
theorem dL_hangs_243 : decode cL_hangs 243 = .ok (.iload 5, 2) := by decide +kernel
theorem dL_hangs_245 : decode cL_hangs 245 = .ok (.aload_n 0, 1) := by decide +kernel
theorem dL_hangs_246 : decode cL_hangs 246 = .ok (.iload 8, 2) := by decide +kernel
theorem dL_hangs_248 : decode cL_hangs 248 = .ok (.iconst 0, 1) := by decide +kernel
theorem dL_hangs_249 : decode cL_hangs 249 = .ok (.invokevirtual 62, 3) := by decide +kernel
theorem dL_hangs_252 : decode cL_hangs 252 = .ok (.ifCond .le 7, 3) := by decide +kernel
theorem dL_hangs_255 : decode cL_hangs 255 = .ok (.iconst 1, 1) := by decide +kernel
theorem dL_hangs_256 : decode cL_hangs 256 = .ok (.goto 4, 3) := by decide +kernel
theorem dL_hangs_259 : decode cL_hangs 259 = .ok (.iconst 0, 1) := by decide +kernel
theorem dL_hangs_260 : decode cL_hangs 260 = .ok (.iadd, 1) := by decide +kernel
theorem dL_hangs_261 : decode cL_hangs 261 = .ok (.istore 5, 2) := by decide +kernel
theorem dL_hangs_263 : decode cL_hangs 263 = .ok (.iinc 8 1, 3) := by decide +kernel
theorem dL_hangs_266 : decode cL_hangs 266 = .ok (.goto (-242), 3) := by decide +kernel
theorem dL_hangs_269 : decode cL_hangs 269 = .ok (.aload_n 0, 1) := by decide +kernel
theorem dL_hangs_270 : decode cL_hangs 270 = .ok (.iconst 1, 1) := by decide +kernel
theorem dL_hangs_271 : decode cL_hangs 271 = .ok (.invokevirtual 9, 3) := by decide +kernel
theorem dL_hangs_274 : decode cL_hangs 274 = .ok (.istore 8, 2) := by decide +kernel
theorem dL_hangs_276 : decode cL_hangs 276 = .ok (.iconst 0, 1) := by decide +kernel
theorem dL_hangs_277 : decode cL_hangs 277 = .ok (.istore 9, 2) := by decide +kernel
theorem dL_hangs_279 : decode cL_hangs 279 = .ok (.iconst 0, 1) := by decide +kernel
theorem dL_hangs_280 : decode cL_hangs 280 = .ok (.istore 10, 2) := by decide +kernel
theorem dL_hangs_282 : decode cL_hangs 282 = .ok (.iconst 0, 1) := by decide +kernel
theorem dL_hangs_283 : decode cL_hangs 283 = .ok (.istore 11, 2) := by decide +kernel
theorem dL_hangs_285 : decode cL_hangs 285 = .ok (.iconst 0, 1) := by decide +kernel
theorem dL_hangs_286 : decode cL_hangs 286 = .ok (.istore 12, 2) := by decide +kernel
theorem dL_hangs_288 : decode cL_hangs 288 = .ok (.iconst 0, 1) := by decide +kernel
theorem dL_hangs_289 : decode cL_hangs 289 = .ok (.istore 13, 2) := by decide +kernel
theorem dL_hangs_291 : decode cL_hangs 291 = .ok (.iload 13, 2) := by decide +kernel
theorem dL_hangs_293 : decode cL_hangs 293 = .ok (.iload 8, 2) := by decide +kernel
theorem dL_hangs_295 : decode cL_hangs 295 = .ok (.if_icmp .ge 206, 3) := by decide +kernel
theorem dL_hangs_298 : decode cL_hangs 298 = .ok (.iload 13, 2) := by decide +kernel
theorem dL_hangs_300 : decode cL_hangs 300 = .ok (.bipush 20, 2) := by decide +kernel
theorem dL_hangs_302 : decode cL_hangs 302 = .ok (.if_icmp .ge 199, 3) := by decide +kernel
theorem dL_hangs_305 : decode cL_hangs 305 = .ok (.iload 6, 2) := by decide +kernel
theorem dL_hangs_307 : decode cL_hangs 307 = .ok (.ifCond .eq 194, 3) := by decide +kernel
theorem dL_hangs_310 : decode cL_hangs 310 = .ok (.aload_n 0, 1) := by decide +kernel
theorem dL_hangs_311 : decode cL_hangs 311 = .ok (.iload 13, 2) := by decide +kernel
theorem dL_hangs_313 : decode cL_hangs 313 = .ok (.iconst 3, 1) := by decide +kernel
theorem dL_hangs_314 : decode cL_hangs 314 = .ok (.invokevirtual 52, 3) := by decide +kernel
theorem dL_hangs_317 : decode cL_hangs 317 = .ok (.istore 14, 2) := by decide +kernel
theorem dL_hangs_319 : decode cL_hangs 319 = .ok (.aload_n 0, 1) := by decide +kernel
theorem dL_hangs_320 : decode cL_hangs 320 = .ok (.iload 13, 2) := by decide +kernel
theorem dL_hangs_322 : decode cL_hangs 322 = .ok (.bipush 6, 2) := by decide +kernel
theorem dL_hangs_324 : decode cL_hangs 324 = .ok (.invokevirtual 52, 3) := by decide +kernel
theorem dL_hangs_327 : decode cL_hangs 327 = .ok (.istore 15, 2) := by decide +kernel
theorem dL_hangs_329 : decode cL_hangs 329 = .ok (.iload 14, 2) := by decide +kernel
theorem dL_hangs_331 : decode cL_hangs 331 = .ok (.ifCond .lt 106, 3) := by decide +kernel
theorem dL_hangs_334 : decode cL_hangs 334 = .ok (.iload 14, 2) := by decide +kernel
theorem dL_hangs_336 : decode cL_hangs 336 = .ok (.iconst 3, 1) := by decide +kernel
theorem dL_hangs_337 : decode cL_hangs 337 = .ok (.if_icmp .ge 100, 3) := by decide +kernel
theorem dL_hangs_340 : decode cL_hangs 340 = .ok (.iload 14, 2) := by decide +kernel
theorem dL_hangs_342 : decode cL_hangs 342 = .ok (.iconst 1, 1) := by decide +kernel
theorem dL_hangs_343 : decode cL_hangs 343 = .ok (.if_icmp .ne 7, 3) := by decide +kernel
theorem dL_hangs_346 : decode cL_hangs 346 = .ok (.iconst 1, 1) := by decide +kernel
theorem dL_hangs_347 : decode cL_hangs 347 = .ok (.goto 4, 3) := by decide +kernel
theorem dL_hangs_350 : decode cL_hangs 350 = .ok (.iconst 0, 1) := by decide +kernel
theorem dL_hangs_351 : decode cL_hangs 351 = .ok (.iload 15, 2) := by decide +kernel
theorem dL_hangs_353 : decode cL_hangs 353 = .ok (.ifCond .lt 7, 3) := by decide +kernel
theorem dL_hangs_356 : decode cL_hangs 356 = .ok (.iconst 1, 1) := by decide +kernel
theorem dL_hangs_357 : decode cL_hangs 357 = .ok (.goto 4, 3) := by decide +kernel
theorem dL_hangs_360 : decode cL_hangs 360 = .ok (.iconst 0, 1) := by decide +kernel
theorem dL_hangs_361 : decode cL_hangs 361 = .ok (.if_icmp .ne 76, 3) := by decide +kernel
theorem dL_hangs_364 : decode cL_hangs 364 = .ok (.iload 15, 2) := by decide +kernel
theorem dL_hangs_366 : decode cL_hangs 366 = .ok (.bipush (-5), 2) := by decide +kernel
theorem dL_hangs_368 : decode cL_hangs 368 = .ok (.if_icmp .eq 26, 3) := by decide +kernel
theorem dL_hangs_371 : decode cL_hangs 371 = .ok (.aload_n 0, 1) := by decide +kernel
theorem dL_hangs_372 : decode cL_hangs 372 = .ok (.iload 15, 2) := by decide +kernel
theorem dL_hangs_374 : decode cL_hangs 374 = .ok (.iconst 1, 1) := by decide +kernel
theorem dL_hangs_375 : decode cL_hangs 375 = .ok (.invokevirtual 69, 3) := by decide +kernel
theorem dL_hangs_378 : decode cL_hangs 378 = .ok (.iload 13, 2) := by decide +kernel
theorem dL_hangs_380 : decode cL_hangs 380 = .ok (.if_icmp .ne 57, 3) := by decide +kernel
theorem dL_hangs_383 : decode cL_hangs 383 = .ok (.aload_n 0, 1) := by decide +kernel
theorem dL_hangs_384 : decode cL_hangs 384 = .ok (.iload 15, 2) := by decide +kernel
theorem dL_hangs_386 : decode cL_hangs 386 = .ok (.iconst 4, 1) := by decide +kernel
theorem dL_hangs_387 : decode cL_hangs 387 = .ok (.invokevirtual 69, 3) := by decide +kernel
theorem dL_hangs_390 : decode cL_hangs 390 = .ok (.iconst 1, 1) := by decide +kernel
theorem dL_hangs_391 : decode cL_hangs 391 = .ok (.if_icmp .ne 46, 3) := by decide +kernel
theorem dL_hangs_394 : decode cL_hangs 394 = .ok (.aload_n 0, 1) := by decide +kernel
theorem dL_hangs_395 : decode cL_hangs 395 = .ok (.iload 13, 2) := by decide +kernel
theorem dL_hangs_397 : decode cL_hangs 397 = .ok (.iconst 1, 1) := by decide +kernel
theorem dL_hangs_398 : decode cL_hangs 398 = .ok (.invokevirtual 52, 3) := by decide +kernel
theorem dL_hangs_401 : decode cL_hangs 401 = .ok (.ifCond .le 36, 3) := by decide +kernel
theorem dL_hangs_404 : decode cL_hangs 404 = .ok (.aload_n 0, 1) := by decide +kernel
theorem dL_hangs_405 : decode cL_hangs 405 = .ok (.iload 13, 2) := by decide +kernel
theorem dL_hangs_407 : decode cL_hangs 407 = .ok (.iconst 1, 1) := by decide +kernel
theorem dL_hangs_408 : decode cL_hangs 408 = .ok (.invokevirtual 52, 3) := by decide +kernel
theorem dL_hangs_411 : decode cL_hangs 411 = .ok (.bipush 51, 2) := by decide +kernel
theorem dL_hangs_413 : decode cL_hangs 413 = .ok (.if_icmp .ge 24, 3) := by decide +kernel
theorem dL_hangs_416 : decode cL_hangs 416 = .ok (.aload_n 0, 1) := by decide +kernel
theorem dL_hangs_417 : decode cL_hangs 417 = .ok (.iload 13, 2) := by decide +kernel
theorem dL_hangs_419 : decode cL_hangs 419 = .ok (.iconst 5, 1) := by decide +kernel
theorem dL_hangs_420 : decode cL_hangs 420 = .ok (.invokevirtual 52, 3) := by decide +kernel
theorem dL_hangs_423 : decode cL_hangs 423 = .ok (.aload_n 0, 1) := by decide +kernel
theorem dL_hangs_424 : decode cL_hangs 424 = .ok (.iload 13, 2) := by decide +kernel
theorem dL_hangs_426 : decode cL_hangs 426 = .ok (.iconst 4, 1) := by decide +kernel
theorem dL_hangs_427 : decode cL_hangs 427 = .ok (.invokevirtual 52, 3) := by decide +kernel
theorem dL_hangs_430 : decode cL_hangs 430 = .ok (.if_icmp .gt 7, 3) := by decide +kernel
theorem dL_hangs_433 : decode cL_hangs 433 = .ok (.iconst 1, 1) := by decide +kernel
theorem dL_hangs_434 : decode cL_hangs 434 = .ok (.goto 4, 3) := by decide +kernel
theorem dL_hangs_437 : decode cL_hangs 437 = .ok (.iconst 0, 1) := by decide +kernel
theorem dL_hangs_438 : decode cL_hangs 438 = .ok (.istore 6, 2) := by decide +kernel
theorem dL_hangs_440 : decode cL_hangs 440 = .ok (.iload 9, 2) := by decide +kernel
theorem dL_hangs_442 : decode cL_hangs 442 = .ok (.iload 14, 2) := by decide +kernel
theorem dL_hangs_444 : decode cL_hangs 444 = .ok (.ifCond .ne 7, 3) := by decide +kernel
theorem dL_hangs_447 : decode cL_hangs 447 = .ok (.iconst 1, 1) := by decide +kernel
theorem dL_hangs_448 : decode cL_hangs 448 = .ok (.goto 4, 3) := by decide +kernel
theorem dL_hangs_451 : decode cL_hangs 451 = .ok (.iconst 0, 1) := by decide +kernel
theorem dL_hangs_452 : decode cL_hangs 452 = .ok (.iadd, 1) := by decide +kernel
theorem dL_hangs_453 : decode cL_hangs 453 = .ok (.istore 9, 2) := by decide +kernel
theorem dL_hangs_455 : decode cL_hangs 455 = .ok (.iload 10, 2) := by decide +kernel
theorem dL_hangs_457 : decode cL_hangs 457 = .ok (.iload 14, 2) := by decide +kernel
theorem dL_hangs_459 : decode cL_hangs 459 = .ok (.iconst 1, 1) := by decide +kernel
theorem dL_hangs_460 : decode cL_hangs 460 = .ok (.if_icmp .ne 7, 3) := by decide +kernel
theorem dL_hangs_463 : decode cL_hangs 463 = .ok (.iconst 1, 1) := by decide +kernel
theorem dL_hangs_464 : decode cL_hangs 464 = .ok (.goto 4, 3) := by decide +kernel
theorem dL_hangs_467 : decode cL_hangs 467 = .ok (.iconst 0, 1) := by decide +kernel
theorem dL_hangs_468 : decode cL_hangs 468 = .ok (.iadd, 1) := by decide +kernel
theorem dL_hangs_469 : decode cL_hangs 469 = .ok (.istore 10, 2) := by decide +kernel
theorem dL_hangs_471 : decode cL_hangs 471 = .ok (.iload 11, 2) := by decide +kernel
theorem dL_hangs_473 : decode cL_hangs 473 = .ok (.aload_n 0, 1) := by decide +kernel
theorem dL_hangs_474 : decode cL_hangs 474 = .ok (.iload 13, 2) := by decide +kernel
theorem dL_hangs_476 : decode cL_hangs 476 = .ok (.iconst 5, 1) := by decide +kernel
theorem dL_hangs_477 : decode cL_hangs 477 = .ok (.invokevirtual 52, 3) := by decide +kernel
theorem dL_hangs_480 : decode cL_hangs 480 = .ok (.iadd, 1) := by decide +kernel
theorem dL_hangs_481 : decode cL_hangs 481 = .ok (.istore 11, 2) := by decide +kernel
theorem dL_hangs_483 : decode cL_hangs 483 = .ok (.iload 12, 2) := by decide +kernel
theorem dL_hangs_485 : decode cL_hangs 485 = .ok (.aload_n 0, 1) := by decide +kernel
theorem dL_hangs_486 : decode cL_hangs 486 = .ok (.iload 13, 2) := by decide +kernel
theorem dL_hangs_488 : decode cL_hangs 488 = .ok (.iconst 4, 1) := by decide +kernel
theorem dL_hangs_489 : decode cL_hangs 489 = .ok (.invokevirtual 52, 3) := by decide +kernel
theorem dL_hangs_492 : decode cL_hangs 492 = .ok (.iadd, 1) := by decide +kernel
theorem dL_hangs_493 : decode cL_hangs 493 = .ok (.istore 12, 2) := by decide +kernel
theorem dL_hangs_495 : decode cL_hangs 495 = .ok (.iinc 13 1, 3) := by decide +kernel
theorem dL_hangs_498 : decode cL_hangs 498 = .ok (.goto (-207), 3) := by decide +kernel
theorem dL_hangs_501 : decode cL_hangs 501 = .ok (.iconst 0, 1) := by decide +kernel
theorem dL_hangs_502 : decode cL_hangs 502 = .ok (.istore 13, 2) := by decide +kernel
theorem dL_hangs_504 : decode cL_hangs 504 = .ok (.iconst 0, 1) := by decide +kernel
theorem dL_hangs_505 : decode cL_hangs 505 = .ok (.istore 14, 2) := by decide +kernel
theorem dL_hangs_507 : decode cL_hangs 507 = .ok (.iconst 0, 1) := by decide +kernel
theorem dL_hangs_508 : decode cL_hangs 508 = .ok (.istore 15, 2) := by decide +kernel
theorem dL_hangs_510 : decode cL_hangs 510 = .ok (.iconst 0, 1) := by decide +kernel
theorem dL_hangs_511 : decode cL_hangs 511 = .ok (.istore 16, 2) := by decide +kernel
theorem dL_hangs_513 : decode cL_hangs 513 = .ok (.aload_n 0, 1) := by decide +kernel
theorem dL_hangs_514 : decode cL_hangs 514 = .ok (.iconst 3, 1) := by decide +kernel
theorem dL_hangs_515 : decode cL_hangs 515 = .ok (.invokevirtual 9, 3) := by decide +kernel
theorem dL_hangs_518 : decode cL_hangs 518 = .ok (.istore 17, 2) := by decide +kernel
theorem dL_hangs_520 : decode cL_hangs 520 = .ok (.iconst 0, 1) := by decide +kernel
theorem dL_hangs_521 : decode cL_hangs 521 = .ok (.istore 18, 2) := by decide +kernel
theorem dL_hangs_523 : decode cL_hangs 523 = .ok (.iload 18, 2) := by decide +kernel
theorem dL_hangs_525 : decode cL_hangs 525 = .ok (.iload 17, 2) := by decide +kernel
theorem dL_hangs_527 : decode cL_hangs 527 = .ok (.if_icmp .ge 333, 3) := by decide +kernel
theorem dL_hangs_530 : decode cL_hangs 530 = .ok (.iload 18, 2) := by decide +kernel
theorem dL_hangs_532 : decode cL_hangs 532 = .ok (.bipush 40, 2) := by decide +kernel
theorem dL_hangs_534 : decode cL_hangs 534 = .ok (.if_icmp .ge 326, 3) := by decide +kernel
theorem dL_hangs_537 : decode cL_hangs 537 = .ok (.iload 6, 2) := by decide +kernel
theorem dL_hangs_539 : decode cL_hangs 539 = .ok (.ifCond .eq 321, 3) := by decide +kernel
theorem dL_hangs_542 : decode cL_hangs 542 = .ok (.aload_n 0, 1) := by decide +kernel
theorem dL_hangs_543 : decode cL_hangs 543 = .ok (.iload 18, 2) := by decide +kernel
theorem dL_hangs_545 : decode cL_hangs 545 = .ok (.iconst 4, 1) := by decide +kernel
theorem dL_hangs_546 : decode cL_hangs 546 = .ok (.invokevirtual 69, 3) := by decide +kernel
theorem dL_hangs_549 : decode cL_hangs 549 = .ok (.istore 19, 2) := by decide +kernel
theorem dL_hangs_551 : decode cL_hangs 551 = .ok (.aload_n 0, 1) := by decide +kernel
theorem dL_hangs_552 : decode cL_hangs 552 = .ok (.iload 18, 2) := by decide +kernel
theorem dL_hangs_554 : decode cL_hangs 554 = .ok (.bipush 8, 2) := by decide +kernel
theorem dL_hangs_556 : decode cL_hangs 556 = .ok (.invokevirtual 69, 3) := by decide +kernel
theorem dL_hangs_559 : decode cL_hangs 559 = .ok (.istore 20, 2) := by decide +kernel
theorem dL_hangs_561 : decode cL_hangs 561 = .ok (.aload_n 0, 1) := by decide +kernel
theorem dL_hangs_562 : decode cL_hangs 562 = .ok (.iload 18, 2) := by decide +kernel
theorem dL_hangs_564 : decode cL_hangs 564 = .ok (.iconst 5, 1) := by decide +kernel
theorem dL_hangs_565 : decode cL_hangs 565 = .ok (.invokevirtual 69, 3) := by decide +kernel
theorem dL_hangs_568 : decode cL_hangs 568 = .ok (.istore 21, 2) := by decide +kernel
theorem dL_hangs_570 : decode cL_hangs 570 = .ok (.iload 19, 2) := by decide +kernel
theorem dL_hangs_572 : decode cL_hangs 572 = .ok (.ifCond .lt 221, 3) := by decide +kernel
theorem dL_hangs_575 : decode cL_hangs 575 = .ok (.iload 19, 2) := by decide +kernel
theorem dL_hangs_577 : decode cL_hangs 577 = .ok (.iconst 3, 1) := by decide +kernel
theorem dL_hangs_578 : decode cL_hangs 578 = .ok (.if_icmp .ge 215, 3) := by decide +kernel
theorem dL_hangs_581 : decode cL_hangs 581 = .ok (.iload 19, 2) := by decide +kernel
theorem dL_hangs_583 : decode cL_hangs 583 = .ok (.ifCond .ne 7, 3) := by decide +kernel
theorem dL_hangs_586 : decode cL_hangs 586 = .ok (.iconst 1, 1) := by decide +kernel
theorem dL_hangs_587 : decode cL_hangs 587 = .ok (.goto 4, 3) := by decide +kernel
theorem dL_hangs_590 : decode cL_hangs 590 = .ok (.iconst 0, 1) := by decide +kernel
theorem dL_hangs_591 : decode cL_hangs 591 = .ok (.iload 20, 2) := by decide +kernel
theorem dL_hangs_593 : decode cL_hangs 593 = .ok (.ifCond .lt 7, 3) := by decide +kernel
theorem dL_hangs_596 : decode cL_hangs 596 = .ok (.iconst 1, 1) := by decide +kernel
theorem dL_hangs_597 : decode cL_hangs 597 = .ok (.goto 4, 3) := by decide +kernel
theorem dL_hangs_600 : decode cL_hangs 600 = .ok (.iconst 0, 1) := by decide +kernel
theorem dL_hangs_601 : decode cL_hangs 601 = .ok (.if_icmp .ne 192, 3) := by decide +kernel
theorem dL_hangs_604 : decode cL_hangs 604 = .ok (.iload 19, 2) := by decide +kernel
theorem dL_hangs_606 : decode cL_hangs 606 = .ok (.ifCond .ne 36, 3) := by decide +kernel
theorem dL_hangs_609 : decode cL_hangs 609 = .ok (.aload_n 0, 1) := by decide +kernel
theorem dL_hangs_610 : decode cL_hangs 610 = .ok (.iload 20, 2) := by decide +kernel
theorem dL_hangs_612 : decode cL_hangs 612 = .ok (.invokevirtual 72, 3) := by decide +kernel
theorem dL_hangs_615 : decode cL_hangs 615 = .ok (.iload 18, 2) := by decide +kernel
theorem dL_hangs_617 : decode cL_hangs 617 = .ok (.if_icmp .ne 176, 3) := by decide +kernel
theorem dL_hangs_620 : decode cL_hangs 620 = .ok (.aload_n 0, 1) := by decide +kernel
theorem dL_hangs_621 : decode cL_hangs 621 = .ok (.iload 18, 2) := by decide +kernel
theorem dL_hangs_623 : decode cL_hangs 623 = .ok (.invokevirtual 75, 3) := by decide +kernel
theorem dL_hangs_626 : decode cL_hangs 626 = .ok (.ifCond .lt 167, 3) := by decide +kernel
theorem dL_hangs_629 : decode cL_hangs 629 = .ok (.aload_n 0, 1) := by decide +kernel
theorem dL_hangs_630 : decode cL_hangs 630 = .ok (.iload 18, 2) := by decide +kernel
theorem dL_hangs_632 : decode cL_hangs 632 = .ok (.invokevirtual 75, 3) := by decide +kernel
theorem dL_hangs_635 : decode cL_hangs 635 = .ok (.iconst 5, 1) := by decide +kernel
theorem dL_hangs_636 : decode cL_hangs 636 = .ok (.if_icmp .ge 157, 3) := by decide +kernel
theorem dL_hangs_639 : decode cL_hangs 639 = .ok (.goto 14, 3) := by decide +kernel
theorem dL_hangs_642 : decode cL_hangs 642 = .ok (.aload_n 0, 1) := by decide +kernel
theorem dL_hangs_643 : decode cL_hangs 643 = .ok (.iload 18, 2) := by decide +kernel
theorem dL_hangs_645 : decode cL_hangs 645 = .ok (.invokevirtual 75, 3) := by decide +kernel
theorem dL_hangs_648 : decode cL_hangs 648 = .ok (.bipush (-4), 2) := by decide +kernel
theorem dL_hangs_650 : decode cL_hangs 650 = .ok (.if_icmp .ne 143, 3) := by decide +kernel
theorem dL_hangs_653 : decode cL_hangs 653 = .ok (.iload 19, 2) := by decide +kernel
theorem dL_hangs_655 : decode cL_hangs 655 = .ok (.iconst 2, 1) := by decide +kernel
theorem dL_hangs_656 : decode cL_hangs 656 = .ok (.if_icmp .ne 7, 3) := by decide +kernel
theorem dL_hangs_659 : decode cL_hangs 659 = .ok (.iconst 1, 1) := by decide +kernel
theorem dL_hangs_660 : decode cL_hangs 660 = .ok (.goto 4, 3) := by decide +kernel
theorem dL_hangs_663 : decode cL_hangs 663 = .ok (.iconst 0, 1) := by decide +kernel
theorem dL_hangs_664 : decode cL_hangs 664 = .ok (.iload 21, 2) := by decide +kernel
theorem dL_hangs_666 : decode cL_hangs 666 = .ok (.ifCond .le 7, 3) := by decide +kernel
theorem dL_hangs_669 : decode cL_hangs 669 = .ok (.iconst 1, 1) := by decide +kernel
theorem dL_hangs_670 : decode cL_hangs 670 = .ok (.goto 4, 3) := by decide +kernel
theorem dL_hangs_673 : decode cL_hangs 673 = .ok (.iconst 0, 1) := by decide +kernel
theorem dL_hangs_674 : decode cL_hangs 674 = .ok (.if_icmp .ne 119, 3) := by decide +kernel
theorem dL_hangs_677 : decode cL_hangs 677 = .ok (.iload 21, 2) := by decide +kernel
theorem dL_hangs_679 : decode cL_hangs 679 = .ok (.iconst 4, 1) := by decide +kernel
theorem dL_hangs_680 : decode cL_hangs 680 = .ok (.if_icmp .ge 113, 3) := by decide +kernel
theorem dL_hangs_683 : decode cL_hangs 683 = .ok (.aload_n 0, 1) := by decide +kernel
theorem dL_hangs_684 : decode cL_hangs 684 = .ok (.iload 18, 2) := by decide +kernel
theorem dL_hangs_686 : decode cL_hangs 686 = .ok (.bipush 6, 2) := by decide +kernel
theorem dL_hangs_688 : decode cL_hangs 688 = .ok (.invokevirtual 69, 3) := by decide +kernel
theorem dL_hangs_691 : decode cL_hangs 691 = .ok (.ifCond .lt 102, 3) := by decide +kernel
theorem dL_hangs_694 : decode cL_hangs 694 = .ok (.aload_n 0, 1) := by decide +kernel
theorem dL_hangs_695 : decode cL_hangs 695 = .ok (.iload 18, 2) := by decide +kernel
theorem dL_hangs_697 : decode cL_hangs 697 = .ok (.bipush 6, 2) := by decide +kernel
theorem dL_hangs_699 : decode cL_hangs 699 = .ok (.invokevirtual 69, 3) := by decide +kernel
theorem dL_hangs_702 : decode cL_hangs 702 = .ok (.iconst 4, 1) := by decide +kernel
theorem dL_hangs_703 : decode cL_hangs 703 = .ok (.if_icmp .ge 90, 3) := by decide +kernel
theorem dL_hangs_706 : decode cL_hangs 706 = .ok (.aload_n 0, 1) := by decide +kernel
theorem dL_hangs_707 : decode cL_hangs 707 = .ok (.iload 18, 2) := by decide +kernel
theorem dL_hangs_709 : decode cL_hangs 709 = .ok (.bipush 6, 2) := by decide +kernel
theorem dL_hangs_711 : decode cL_hangs 711 = .ok (.invokevirtual 69, 3) := by decide +kernel
theorem dL_hangs_714 : decode cL_hangs 714 = .ok (.iconst 3, 1) := by decide +kernel
theorem dL_hangs_715 : decode cL_hangs 715 = .ok (.if_icmp .ne 7, 3) := by decide +kernel
theorem dL_hangs_718 : decode cL_hangs 718 = .ok (.iconst 1, 1) := by decide +kernel
theorem dL_hangs_719 : decode cL_hangs 719 = .ok (.goto 4, 3) := by decide +kernel
theorem dL_hangs_722 : decode cL_hangs 722 = .ok (.iconst 0, 1) := by decide +kernel
theorem dL_hangs_723 : decode cL_hangs 723 = .ok (.iload 21, 2) := by decide +kernel
theorem dL_hangs_725 : decode cL_hangs 725 = .ok (.iconst 3, 1) := by decide +kernel
theorem dL_hangs_726 : decode cL_hangs 726 = .ok (.if_icmp .ne 7, 3) := by decide +kernel
theorem dL_hangs_729 : decode cL_hangs 729 = .ok (.iconst 1, 1) := by decide +kernel
theorem dL_hangs_730 : decode cL_hangs 730 = .ok (.goto 4, 3) := by decide +kernel
theorem dL_hangs_733 : decode cL_hangs 733 = .ok (.iconst 0, 1) := by decide +kernel
theorem dL_hangs_734 : decode cL_hangs 734 = .ok (.if_icmp .ne 59, 3) := by decide +kernel
theorem dL_hangs_737 : decode cL_hangs 737 = .ok (.iload 19, 2) := by decide +kernel
theorem dL_hangs_739 : decode cL_hangs 739 = .ok (.iconst 1, 1) := by decide +kernel
theorem dL_hangs_740 : decode cL_hangs 740 = .ok (.if_icmp .ne 7, 3) := by decide +kernel
theorem dL_hangs_743 : decode cL_hangs 743 = .ok (.iconst 1, 1) := by decide +kernel
theorem dL_hangs_744 : decode cL_hangs 744 = .ok (.goto 4, 3) := by decide +kernel
theorem dL_hangs_747 : decode cL_hangs 747 = .ok (.iconst 0, 1) := by decide +kernel
theorem dL_hangs_748 : decode cL_hangs 748 = .ok (.aload_n 0, 1) := by decide +kernel
theorem dL_hangs_749 : decode cL_hangs 749 = .ok (.iload 18, 2) := by decide +kernel
theorem dL_hangs_751 : decode cL_hangs 751 = .ok (.bipush 7, 2) := by decide +kernel
theorem dL_hangs_753 : decode cL_hangs 753 = .ok (.invokevirtual 69, 3) := by decide +kernel
theorem dL_hangs_756 : decode cL_hangs 756 = .ok (.ifCond .le 7, 3) := by decide +kernel
theorem dL_hangs_759 : decode cL_hangs 759 = .ok (.iconst 1, 1) := by decide +kernel
theorem dL_hangs_760 : decode cL_hangs 760 = .ok (.goto 4, 3) := by decide +kernel
theorem dL_hangs_763 : decode cL_hangs 763 = .ok (.iconst 0, 1) := by decide +kernel
theorem dL_hangs_764 : decode cL_hangs 764 = .ok (.if_icmp .ne 29, 3) := by decide +kernel
theorem dL_hangs_767 : decode cL_hangs 767 = .ok (.aload_n 0, 1) := by decide +kernel
theorem dL_hangs_768 : decode cL_hangs 768 = .ok (.iload 18, 2) := by decide +kernel
theorem dL_hangs_770 : decode cL_hangs 770 = .ok (.iconst 0, 1) := by decide +kernel
theorem dL_hangs_771 : decode cL_hangs 771 = .ok (.invokevirtual 69, 3) := by decide +kernel
theorem dL_hangs_774 : decode cL_hangs 774 = .ok (.aload_n 0, 1) := by decide +kernel
theorem dL_hangs_775 : decode cL_hangs 775 = .ok (.aload_n 0, 1) := by decide +kernel
theorem dL_hangs_776 : decode cL_hangs 776 = .ok (.iload 18, 2) := by decide +kernel
theorem dL_hangs_778 : decode cL_hangs 778 = .ok (.iconst 1, 1) := by decide +kernel
theorem dL_hangs_779 : decode cL_hangs 779 = .ok (.invokevirtual 69, 3) := by decide +kernel
theorem dL_hangs_782 : decode cL_hangs 782 = .ok (.iconst 0, 1) := by decide +kernel
theorem dL_hangs_783 : decode cL_hangs 783 = .ok (.invokevirtual 52, 3) := by decide +kernel
theorem dL_hangs_786 : decode cL_hangs 786 = .ok (.if_icmp .eq 7, 3) := by decide +kernel
theorem dL_hangs_789 : decode cL_hangs 789 = .ok (.iconst 1, 1) := by decide +kernel
theorem dL_hangs_790 : decode cL_hangs 790 = .ok (.goto 4, 3) := by decide +kernel
theorem dL_hangs_793 : decode cL_hangs 793 = .ok (.iconst 0, 1) := by decide +kernel
theorem dL_hangs_794 : decode cL_hangs 794 = .ok (.istore 6, 2) := by decide +kernel
theorem dL_hangs_796 : decode cL_hangs 796 = .ok (.iload 13, 2) := by decide +kernel
theorem dL_hangs_798 : decode cL_hangs 798 = .ok (.iload 19, 2) := by decide +kernel
theorem dL_hangs_800 : decode cL_hangs 800 = .ok (.iconst 1, 1) := by decide +kernel
theorem dL_hangs_801 : decode cL_hangs 801 = .ok (.if_icmp .ne 7, 3) := by decide +kernel
theorem dL_hangs_804 : decode cL_hangs 804 = .ok (.iconst 1, 1) := by decide +kernel
theorem dL_hangs_805 : decode cL_hangs 805 = .ok (.goto 4, 3) := by decide +kernel
theorem dL_hangs_808 : decode cL_hangs 808 = .ok (.iconst 0, 1) := by decide +kernel
theorem dL_hangs_809 : decode cL_hangs 809 = .ok (.iadd, 1) := by decide +kernel
theorem dL_hangs_810 : decode cL_hangs 810 = .ok (.istore 13, 2) := by decide +kernel
theorem dL_hangs_812 : decode cL_hangs 812 = .ok (.iload 14, 2) := by decide +kernel
theorem dL_hangs_814 : decode cL_hangs 814 = .ok (.iload 19, 2) := by decide +kernel
theorem dL_hangs_816 : decode cL_hangs 816 = .ok (.iconst 2, 1) := by decide +kernel
theorem dL_hangs_817 : decode cL_hangs 817 = .ok (.if_icmp .ne 7, 3) := by decide +kernel
theorem dL_hangs_820 : decode cL_hangs 820 = .ok (.iconst 1, 1) := by decide +kernel
theorem dL_hangs_821 : decode cL_hangs 821 = .ok (.goto 4, 3) := by decide +kernel
theorem dL_hangs_824 : decode cL_hangs 824 = .ok (.iconst 0, 1) := by decide +kernel
theorem dL_hangs_825 : decode cL_hangs 825 = .ok (.iadd, 1) := by decide +kernel
theorem dL_hangs_826 : decode cL_hangs 826 = .ok (.istore 14, 2) := by decide +kernel
theorem dL_hangs_828 : decode cL_hangs 828 = .ok (.iload 15, 2) := by decide +kernel
theorem dL_hangs_830 : decode cL_hangs 830 = .ok (.aload_n 0, 1) := by decide +kernel
theorem dL_hangs_831 : decode cL_hangs 831 = .ok (.iload 18, 2) := by decide +kernel
theorem dL_hangs_833 : decode cL_hangs 833 = .ok (.bipush 7, 2) := by decide +kernel
theorem dL_hangs_835 : decode cL_hangs 835 = .ok (.invokevirtual 69, 3) := by decide +kernel
theorem dL_hangs_838 : decode cL_hangs 838 = .ok (.iadd, 1) := by decide +kernel
theorem dL_hangs_839 : decode cL_hangs 839 = .ok (.istore 15, 2) := by decide +kernel
theorem dL_hangs_841 : decode cL_hangs 841 = .ok (.iload 16, 2) := by decide +kernel
theorem dL_hangs_843 : decode cL_hangs 843 = .ok (.aload_n 0, 1) := by decide +kernel
theorem dL_hangs_844 : decode cL_hangs 844 = .ok (.iload 18, 2) := by decide +kernel
theorem dL_hangs_846 : decode cL_hangs 846 = .ok (.bipush 6, 2) := by decide +kernel
theorem dL_hangs_848 : decode cL_hangs 848 = .ok (.invokevirtual 69, 3) := by decide +kernel
theorem dL_hangs_851 : decode cL_hangs 851 = .ok (.iadd, 1) := by decide +kernel
theorem dL_hangs_852 : decode cL_hangs 852 = .ok (.istore 16, 2) := by decide +kernel
theorem dL_hangs_854 : decode cL_hangs 854 = .ok (.iinc 18 1, 3) := by decide +kernel
theorem dL_hangs_857 : decode cL_hangs 857 = .ok (.goto (-334), 3) := by decide +kernel
theorem dL_hangs_860 : decode cL_hangs 860 = .ok (.aload_n 0, 1) := by decide +kernel
theorem dL_hangs_861 : decode cL_hangs 861 = .ok (.bipush 7, 2) := by decide +kernel
theorem dL_hangs_863 : decode cL_hangs 863 = .ok (.iconst 0, 1) := by decide +kernel
theorem dL_hangs_864 : decode cL_hangs 864 = .ok (.invokevirtual 78, 3) := by decide +kernel
theorem dL_hangs_867 : decode cL_hangs 867 = .ok (.istore 18, 2) := by decide +kernel
theorem dL_hangs_869 : decode cL_hangs 869 = .ok (.iload 6, 2) := by decide +kernel
theorem dL_hangs_871 : decode cL_hangs 871 = .ok (.ifCond .eq 270, 3) := by decide +kernel
theorem dL_hangs_874 : decode cL_hangs 874 = .ok (.iload_n 1, 1) := by decide +kernel
theorem dL_hangs_875 : decode cL_hangs 875 = .ok (.aload_n 0, 1) := by decide +kernel
theorem dL_hangs_876 : decode cL_hangs 876 = .ok (.bipush 9, 2) := by decide +kernel
theorem dL_hangs_878 : decode cL_hangs 878 = .ok (.invokevirtual 9, 3) := by decide +kernel
theorem dL_hangs_881 : decode cL_hangs 881 = .ok (.iadd, 1) := by decide +kernel
theorem dL_hangs_882 : decode cL_hangs 882 = .ok (.sipush 800, 3) := by decide +kernel
theorem dL_hangs_885 : decode cL_hangs 885 = .ok (.if_icmp .ne 256, 3) := by decide +kernel
theorem dL_hangs_888 : decode cL_hangs 888 = .ok (.iload_n 2, 1) := by decide +kernel
theorem dL_hangs_889 : decode cL_hangs 889 = .ok (.aload_n 0, 1) := by decide +kernel
theorem dL_hangs_890 : decode cL_hangs 890 = .ok (.bipush 9, 2) := by decide +kernel
theorem dL_hangs_892 : decode cL_hangs 892 = .ok (.invokevirtual 9, 3) := by decide +kernel
theorem dL_hangs_895 : decode cL_hangs 895 = .ok (.if_icmp .ne 246, 3) := by decide +kernel
theorem dL_hangs_898 : decode cL_hangs 898 = .ok (.iload_n 3, 1) := by decide +kernel
theorem dL_hangs_899 : decode cL_hangs 899 = .ok (.iload 8, 2) := by decide +kernel
theorem dL_hangs_901 : decode cL_hangs 901 = .ok (.if_icmp .ne 240, 3) := by decide +kernel
theorem dL_hangs_904 : decode cL_hangs 904 = .ok (.iload 4, 2) := by decide +kernel
theorem dL_hangs_906 : decode cL_hangs 906 = .ok (.iload 17, 2) := by decide +kernel
theorem dL_hangs_908 : decode cL_hangs 908 = .ok (.if_icmp .ne 233, 3) := by decide +kernel
theorem dL_hangs_911 : decode cL_hangs 911 = .ok (.iload 5, 2) := by decide +kernel
theorem dL_hangs_913 : decode cL_hangs 913 = .ok (.aload_n 0, 1) := by decide +kernel
theorem dL_hangs_914 : decode cL_hangs 914 = .ok (.bipush 10, 2) := by decide +kernel
theorem dL_hangs_916 : decode cL_hangs 916 = .ok (.invokevirtual 9, 3) := by decide +kernel
theorem dL_hangs_919 : decode cL_hangs 919 = .ok (.if_icmp .ne 222, 3) := by decide +kernel
theorem dL_hangs_922 : decode cL_hangs 922 = .ok (.iload 9, 2) := by decide +kernel
theorem dL_hangs_924 : decode cL_hangs 924 = .ok (.aload_n 0, 1) := by decide +kernel
theorem dL_hangs_925 : decode cL_hangs 925 = .ok (.iconst 2, 1) := by decide +kernel
theorem dL_hangs_926 : decode cL_hangs 926 = .ok (.invokevirtual 9, 3) := by decide +kernel
theorem dL_hangs_929 : decode cL_hangs 929 = .ok (.if_icmp .ne 212, 3) := by decide +kernel
theorem dL_hangs_932 : decode cL_hangs 932 = .ok (.iload 10, 2) := by decide +kernel
theorem dL_hangs_934 : decode cL_hangs 934 = .ok (.iload 13, 2) := by decide +kernel
theorem dL_hangs_936 : decode cL_hangs 936 = .ok (.if_icmp .ne 205, 3) := by decide +kernel
theorem dL_hangs_939 : decode cL_hangs 939 = .ok (.iload 13, 2) := by decide +kernel
theorem dL_hangs_941 : decode cL_hangs 941 = .ok (.aload_n 0, 1) := by decide +kernel
theorem dL_hangs_942 : decode cL_hangs 942 = .ok (.iconst 5, 1) := by decide +kernel
theorem dL_hangs_943 : decode cL_hangs 943 = .ok (.invokevirtual 9, 3) := by decide +kernel
theorem dL_hangs_946 : decode cL_hangs 946 = .ok (.if_icmp .ne 195, 3) := by decide +kernel
theorem dL_hangs_949 : decode cL_hangs 949 = .ok (.iload 14, 2) := by decide +kernel
theorem dL_hangs_951 : decode cL_hangs 951 = .ok (.aload_n 0, 1) := by decide +kernel
theorem dL_hangs_952 : decode cL_hangs 952 = .ok (.bipush 6, 2) := by decide +kernel
theorem dL_hangs_954 : decode cL_hangs 954 = .ok (.invokevirtual 9, 3) := by decide +kernel
theorem dL_hangs_957 : decode cL_hangs 957 = .ok (.if_icmp .ne 184, 3) := by decide +kernel
theorem dL_hangs_960 : decode cL_hangs 960 = .ok (.iload 15, 2) := by decide +kernel
theorem dL_hangs_962 : decode cL_hangs 962 = .ok (.aload_n 0, 1) := by decide +kernel
theorem dL_hangs_963 : decode cL_hangs 963 = .ok (.bipush 11, 2) := by decide +kernel
theorem dL_hangs_965 : decode cL_hangs 965 = .ok (.invokevirtual 9, 3) := by decide +kernel
theorem dL_hangs_968 : decode cL_hangs 968 = .ok (.if_icmp .ne 173, 3) := by decide +kernel
theorem dL_hangs_971 : decode cL_hangs 971 = .ok (.iload 16, 2) := by decide +kernel
theorem dL_hangs_973 : decode cL_hangs 973 = .ok (.aload_n 0, 1) := by decide +kernel
theorem dL_hangs_974 : decode cL_hangs 974 = .ok (.bipush 7, 2) := by decide +kernel
theorem dL_hangs_976 : decode cL_hangs 976 = .ok (.invokevirtual 9, 3) := by decide +kernel
theorem dL_hangs_979 : decode cL_hangs 979 = .ok (.if_icmp .ne 162, 3) := by decide +kernel
theorem dL_hangs_982 : decode cL_hangs 982 = .ok (.aload_n 0, 1) := by decide +kernel
theorem dL_hangs_983 : decode cL_hangs 983 = .ok (.bipush 8, 2) := by decide +kernel
theorem dL_hangs_985 : decode cL_hangs 985 = .ok (.invokevirtual 9, 3) := by decide +kernel
theorem dL_hangs_988 : decode cL_hangs 988 = .ok (.iconst 2, 1) := by decide +kernel
theorem dL_hangs_989 : decode cL_hangs 989 = .ok (.iload 16, 2) := by decide +kernel
theorem dL_hangs_991 : decode cL_hangs 991 = .ok (.iload 13, 2) := by decide +kernel
theorem dL_hangs_993 : decode cL_hangs 993 = .ok (.iadd, 1) := by decide +kernel
theorem dL_hangs_994 : decode cL_hangs 994 = .ok (.imul, 1) := by decide +kernel
theorem dL_hangs_995 : decode cL_hangs 995 = .ok (.if_icmp .lt 146, 3) := by decide +kernel
theorem dL_hangs_998 : decode cL_hangs 998 = .ok (.aload_n 0, 1) := by decide +kernel
theorem dL_hangs_999 : decode cL_hangs 999 = .ok (.bipush 8, 2) := by decide +kernel
theorem dL_hangs_1001 : decode cL_hangs 1001 = .ok (.invokevirtual 9, 3) := by decide +kernel
theorem dL_hangs_1004 : decode cL_hangs 1004 = .ok (.iconst 2, 1) := by decide +kernel
theorem dL_hangs_1005 : decode cL_hangs 1005 = .ok (.irem, 1) := by decide +kernel
theorem dL_hangs_1006 : decode cL_hangs 1006 = .ok (.ifCond .ne 135, 3) := by decide +kernel
theorem dL_hangs_1009 : decode cL_hangs 1009 = .ok (.iload 11, 2) := by decide +kernel
theorem dL_hangs_1011 : decode cL_hangs 1011 = .ok (.aload_n 0, 1) := by decide +kernel
theorem dL_hangs_1012 : decode cL_hangs 1012 = .ok (.iconst 4, 1) := by decide +kernel
theorem dL_hangs_1013 : decode cL_hangs 1013 = .ok (.invokevirtual 9, 3) := by decide +kernel
theorem dL_hangs_1016 : decode cL_hangs 1016 = .ok (.if_icmp .ne 125, 3) := by decide +kernel
theorem dL_hangs_1019 : decode cL_hangs 1019 = .ok (.iload 12, 2) := by decide +kernel
theorem dL_hangs_1021 : decode cL_hangs 1021 = .ok (.iload 17, 2) := by decide +kernel
theorem dL_hangs_1023 : decode cL_hangs 1023 = .ok (.if_icmp .ne 118, 3) := by decide +kernel
theorem dL_hangs_1026 : decode cL_hangs 1026 = .ok (.aload_n 0, 1) := by decide +kernel
theorem dL_hangs_1027 : decode cL_hangs 1027 = .ok (.iconst 4, 1) := by decide +kernel
theorem dL_hangs_1028 : decode cL_hangs 1028 = .ok (.invokevirtual 9, 3) := by decide +kernel
theorem dL_hangs_1031 : decode cL_hangs 1031 = .ok (.iload 13, 2) := by decide +kernel
theorem dL_hangs_1033 : decode cL_hangs 1033 = .ok (.iadd, 1) := by decide +kernel
theorem dL_hangs_1034 : decode cL_hangs 1034 = .ok (.iload 14, 2) := by decide +kernel
theorem dL_hangs_1036 : decode cL_hangs 1036 = .ok (.iadd, 1) := by decide +kernel
theorem dL_hangs_1037 : decode cL_hangs 1037 = .ok (.iload 17, 2) := by decide +kernel
theorem dL_hangs_1039 : decode cL_hangs 1039 = .ok (.if_icmp .ne 102, 3) := by decide +kernel
theorem dL_hangs_1042 : decode cL_hangs 1042 = .ok (.aload_n 0, 1) := by decide +kernel
theorem dL_hangs_1043 : decode cL_hangs 1043 = .ok (.aload_n 0, 1) := by decide +kernel
theorem dL_hangs_1044 : decode cL_hangs 1044 = .ok (.iconst 4, 1) := by decide +kernel
theorem dL_hangs_1045 : decode cL_hangs 1045 = .ok (.invokevirtual 9, 3) := by decide +kernel
theorem dL_hangs_1048 : decode cL_hangs 1048 = .ok (.invokevirtual 72, 3) := by decide +kernel
theorem dL_hangs_1051 : decode cL_hangs 1051 = .ok (.bipush (-5), 2) := by decide +kernel
theorem dL_hangs_1053 : decode cL_hangs 1053 = .ok (.if_icmp .ne 88, 3) := by decide +kernel
theorem dL_hangs_1056 : decode cL_hangs 1056 = .ok (.aload_n 0, 1) := by decide +kernel
theorem dL_hangs_1057 : decode cL_hangs 1057 = .ok (.bipush 12, 2) := by decide +kernel
theorem dL_hangs_1059 : decode cL_hangs 1059 = .ok (.invokevirtual 9, 3) := by decide +kernel
theorem dL_hangs_1062 : decode cL_hangs 1062 = .ok (.ifCond .lt 79, 3) := by decide +kernel
theorem dL_hangs_1065 : decode cL_hangs 1065 = .ok (.aload_n 0, 1) := by decide +kernel
theorem dL_hangs_1066 : decode cL_hangs 1066 = .ok (.bipush 12, 2) := by decide +kernel
theorem dL_hangs_1068 : decode cL_hangs 1068 = .ok (.invokevirtual 9, 3) := by decide +kernel
theorem dL_hangs_1071 : decode cL_hangs 1071 = .ok (.bipush 19, 2) := by decide +kernel
theorem dL_hangs_1073 : decode cL_hangs 1073 = .ok (.if_icmp .ge 68, 3) := by decide +kernel
theorem dL_hangs_1076 : decode cL_hangs 1076 = .ok (.aload_n 0, 1) := by decide +kernel
theorem dL_hangs_1077 : decode cL_hangs 1077 = .ok (.bipush 13, 2) := by decide +kernel
theorem dL_hangs_1079 : decode cL_hangs 1079 = .ok (.invokevirtual 9, 3) := by decide +kernel
theorem dL_hangs_1082 : decode cL_hangs 1082 = .ok (.ifCond .lt 59, 3) := by decide +kernel
theorem dL_hangs_1085 : decode cL_hangs 1085 = .ok (.aload_n 0, 1) := by decide +kernel
theorem dL_hangs_1086 : decode cL_hangs 1086 = .ok (.bipush 13, 2) := by decide +kernel
theorem dL_hangs_1088 : decode cL_hangs 1088 = .ok (.invokevirtual 9, 3) := by decide +kernel
theorem dL_hangs_1091 : decode cL_hangs 1091 = .ok (.bipush 19, 2) := by decide +kernel
theorem dL_hangs_1093 : decode cL_hangs 1093 = .ok (.if_icmp .ge 48, 3) := by decide +kernel
theorem dL_hangs_1096 : decode cL_hangs 1096 = .ok (.iload 18, 2) := by decide +kernel
theorem dL_hangs_1098 : decode cL_hangs 1098 = .ok (.ifCond .lt 43, 3) := by decide +kernel
theorem dL_hangs_1101 : decode cL_hangs 1101 = .ok (.iload 18, 2) := by decide +kernel
theorem dL_hangs_1103 : decode cL_hangs 1103 = .ok (.aload_n 0, 1) := by decide +kernel
theorem dL_hangs_1104 : decode cL_hangs 1104 = .ok (.iconst 4, 1) := by decide +kernel
theorem dL_hangs_1105 : decode cL_hangs 1105 = .ok (.invokevirtual 9, 3) := by decide +kernel
theorem dL_hangs_1108 : decode cL_hangs 1108 = .ok (.if_icmp .gt 33, 3) := by decide +kernel
theorem dL_hangs_1111 : decode cL_hangs 1111 = .ok (.iload 18, 2) := by decide +kernel
theorem dL_hangs_1113 : decode cL_hangs 1113 = .ok (.iload 9, 2) := by decide +kernel
theorem dL_hangs_1115 : decode cL_hangs 1115 = .ok (.if_icmp .gt 26, 3) := by decide +kernel
theorem dL_hangs_1118 : decode cL_hangs 1118 = .ok (.aload_n 0, 1) := by decide +kernel
theorem dL_hangs_1119 : decode cL_hangs 1119 = .ok (.bipush 18, 2) := by decide +kernel
theorem dL_hangs_1121 : decode cL_hangs 1121 = .ok (.invokevirtual 9, 3) := by decide +kernel
theorem dL_hangs_1124 : decode cL_hangs 1124 = .ok (.ifCond .lt 17, 3) := by decide +kernel
theorem dL_hangs_1127 : decode cL_hangs 1127 = .ok (.aload_n 0, 1) := by decide +kernel
theorem dL_hangs_1128 : decode cL_hangs 1128 = .ok (.bipush 18, 2) := by decide +kernel
theorem dL_hangs_1130 : decode cL_hangs 1130 = .ok (.invokevirtual 9, 3) := by decide +kernel
theorem dL_hangs_1133 : decode cL_hangs 1133 = .ok (.iconst 5, 1) := by decide +kernel
theorem dL_hangs_1134 : decode cL_hangs 1134 = .ok (.if_icmp .ge 7, 3) := by decide +kernel
theorem dL_hangs_1137 : decode cL_hangs 1137 = .ok (.iconst 1, 1) := by decide +kernel
theorem dL_hangs_1138 : decode cL_hangs 1138 = .ok (.goto 4, 3) := by decide +kernel
theorem dL_hangs_1141 : decode cL_hangs 1141 = .ok (.iconst 0, 1) := by decide +kernel
theorem dL_hangs_1142 : decode cL_hangs 1142 = .ok (.ireturn, 1) := by decide +kernel
