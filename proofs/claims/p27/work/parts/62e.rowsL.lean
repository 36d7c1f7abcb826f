/-! part 62e: words of the long methods among those of the law, in pieces -/
theorem goodIn_one {big : List Cond} {c : Cond} {i : Nat} (h : big[i]? = some c) (hg : goodWord c = true) : GoodIn big [c] := fun w hw => by
  rw [List.mem_singleton] at hw
  subst hw
  exact ⟨List.mem_of_getElem? h, good_of_word hg⟩
theorem goodIn_cons {big a : List Cond} {c : Cond} (hc : GoodIn big [c]) (ha : GoodIn big a) : GoodIn big (c :: a) := fun w h => (List.mem_cons.mp h).elim (fun e => hc w (List.mem_cons.mpr (Or.inl e))) (ha w)
set_option maxRecDepth 20000 in
theorem gp_hangs_0 : GoodIn wsL_law [Cond.code yL_hangs cL_hangs 22 (some .boolean)] := goodIn_one (i := 295) rfl (by decide +kernel)
set_option maxRecDepth 20000 in
theorem gp_hangs_wsL_hangs_r1 : GoodIn wsL_law wsL_hangs_r1 := goodIn_r _ [3, 296, 297, 298, 2, 299, 13, 300, 301, 302, 12, 303, 34, 212, 196, 197, 32, 198, 48, 47, 304, 305, 306, 307] (by decide +kernel) (by decide +kernel)
set_option maxRecDepth 20000 in
theorem gp_hangs_wsL_hangs_r2 : GoodIn wsL_law wsL_hangs_r2 := goodIn_r _ [308, 309, 310, 311, 246, 247, 106, 248, 35, 36, 203, 204, 205, 206, 57, 312, 313, 314, 315, 316, 317, 318, 319, 320] (by decide +kernel) (by decide +kernel)
set_option maxRecDepth 20000 in
theorem gp_hangs_wsL_hangs_r3 : GoodIn wsL_law wsL_hangs_r3 := goodIn_r _ [321, 322, 323, 324, 325, 326, 327, 328, 329, 207, 184, 185, 186, 330, 331, 332, 333, 19, 23, 334, 335, 336, 18, 337] (by decide +kernel) (by decide +kernel)
set_option maxRecDepth 20000 in
theorem gp_hangs_wsL_hangs_r4 : GoodIn wsL_law wsL_hangs_r4 := goodIn_r _ [89, 338, 339, 340, 22, 341, 152, 342, 343, 344, 345, 99, 42, 37, 38, 130, 131, 132, 41, 133, 117, 346, 347, 348] (by decide +kernel) (by decide +kernel)
set_option maxRecDepth 20000 in
theorem gp_hangs_wsL_hangs_r5 : GoodIn wsL_law wsL_hangs_r5 := goodIn_r _ [349, 350, 351, 352, 353, 354, 355, 356, 357, 358, 359, 360, 361, 362, 363, 364, 365, 366, 367, 368, 369, 370, 371, 372] (by decide +kernel) (by decide +kernel)
set_option maxRecDepth 20000 in
theorem gp_hangs_wsL_hangs_r6 : GoodIn wsL_law wsL_hangs_r6 := goodIn_r _ [373, 374, 375, 376, 377, 230, 231, 232, 233, 116, 52, 378, 379, 380, 381, 382, 383, 384, 385, 386, 387, 388, 389, 390] (by decide +kernel) (by decide +kernel)
set_option maxRecDepth 20000 in
theorem gp_hangs_wsL_hangs_r7 : GoodIn wsL_law wsL_hangs_r7 := goodIn_r _ [391, 392, 393, 394, 395, 239, 240, 241, 242, 243, 244, 245, 396, 250, 251, 252, 253, 254, 255, 397, 398, 399, 400, 14] (by decide +kernel) (by decide +kernel)
set_option maxRecDepth 20000 in
theorem gp_hangs_wsL_hangs_r8 : GoodIn wsL_law wsL_hangs_r8 := goodIn_r _ [125, 96, 97, 98, 100, 101, 102, 103, 104, 105, 107, 108, 109, 110, 111, 112, 113, 114, 115, 118, 119, 288, 289, 290] (by decide +kernel) (by decide +kernel)
set_option maxRecDepth 20000 in
theorem gp_hangs_wsL_hangs_r9 : GoodIn wsL_law wsL_hangs_r9 := goodIn_r _ [291, 58, 59, 60, 61, 401, 222, 223, 224, 225, 226, 227, 228, 229, 234, 235, 236, 237, 238, 249, 256, 257, 258, 259] (by decide +kernel) (by decide +kernel)
set_option maxRecDepth 20000 in
theorem gp_hangs_wsL_hangs_r10 : GoodIn wsL_law wsL_hangs_r10 := goodIn_r _ [260, 261, 262, 263, 264, 265, 266, 267, 268, 269, 270, 271, 213, 214, 215, 216, 272, 273, 274, 275, 276, 277, 278, 279] (by decide +kernel) (by decide +kernel)
set_option maxRecDepth 20000 in
theorem gp_hangs_wsX50 : GoodIn wsL_law wsX50 := goodIn_r _ [473, 474, 475, 476, 477, 478, 479, 480] (by decide +kernel) (by decide +kernel)
set_option maxRecDepth 20000 in
theorem gp_hangs_wsX00 : GoodIn wsL_law wsX00 := goodIn_r _ [481, 482, 483, 484, 485, 486, 487] (by decide +kernel) (by decide +kernel)
set_option maxRecDepth 20000 in
theorem gp_hangs_wsX40 : GoodIn wsL_law wsX40 := goodIn_r _ [496, 497, 498] (by decide +kernel) (by decide +kernel)
set_option maxRecDepth 20000 in
theorem gp_hangs_wsX10 : GoodIn wsL_law wsX10 := goodIn_r _ [488, 489, 490] (by decide +kernel) (by decide +kernel)
set_option maxRecDepth 20000 in
theorem gp_hangs_wsX20 : GoodIn wsL_law wsX20 := goodIn_r _ [491, 492, 493, 494, 495] (by decide +kernel) (by decide +kernel)
set_option maxRecDepth 20000 in
theorem gp_hangs_wsX30 : GoodIn wsL_law wsX30 := goodIn_r _ [499, 500, 501] (by decide +kernel) (by decide +kernel)
theorem ggL_law_L_hangs : GoodIn wsL_law wsL_hangs := goodIn_cons gp_hangs_0 (goodIn_app (goodIn_app (goodIn_app (goodIn_app (goodIn_app (goodIn_app (goodIn_app gp_hangs_wsL_hangs_r1 (goodIn_app gp_hangs_wsL_hangs_r2 (goodIn_app gp_hangs_wsL_hangs_r3 (goodIn_app gp_hangs_wsL_hangs_r4 (goodIn_app gp_hangs_wsL_hangs_r5 (goodIn_app gp_hangs_wsL_hangs_r6 (goodIn_app gp_hangs_wsL_hangs_r7 (goodIn_app gp_hangs_wsL_hangs_r8 (goodIn_app gp_hangs_wsL_hangs_r9 gp_hangs_wsL_hangs_r10))))))))) gp_hangs_wsX50) gp_hangs_wsX00) gp_hangs_wsX40) gp_hangs_wsX10) gp_hangs_wsX20) gp_hangs_wsX30)
set_option maxRecDepth 20000 in
theorem gL_law_L_hangs : GoodIn wsL_law (va_wsS RL 92 yL_hangs wsL_hangs) := goodIn_app (goodIn_of _ (by decide +kernel)) ggL_law_L_hangs
set_option maxRecDepth 20000 in
theorem gp_acts_0 : GoodIn wsL_law [Cond.code yL_acts cL_acts 8 (some .int)] := goodIn_one (i := 409) rfl (by decide +kernel)
set_option maxRecDepth 20000 in
theorem gp_acts_wsL_acts_r1 : GoodIn wsL_law wsL_acts_r1 := goodIn_r _ [330, 331, 332, 2, 333, 19, 23, 13, 334, 335, 336, 18, 337, 89, 338, 339, 340, 22, 341, 152, 342, 343, 344, 12] (by decide +kernel) (by decide +kernel)
set_option maxRecDepth 20000 in
theorem gp_acts_wsL_acts_r2 : GoodIn wsL_law wsL_acts_r2 := goodIn_r _ [345, 99, 35, 36, 42, 37, 34, 38, 207, 184, 185, 32, 186, 57, 312, 313, 314, 315, 316, 196, 197, 198, 48, 47] (by decide +kernel) (by decide +kernel)
set_option maxRecDepth 20000 in
theorem gp_acts_wsL_acts_r3 : GoodIn wsL_law wsL_acts_r3 := goodIn_r _ [130, 131, 132, 41, 133, 117, 346, 347, 348, 349, 350, 351, 352, 353, 212, 410, 411, 412, 413, 14, 125, 96, 97, 98] (by decide +kernel) (by decide +kernel)
set_option maxRecDepth 20000 in
theorem gp_acts_wsL_acts_r4 : GoodIn wsL_law wsL_acts_r4 := goodIn_r _ [100, 101, 102, 103, 104, 105, 106, 107, 108, 109, 110, 111, 112, 113, 114, 115, 116, 52, 118, 119, 199, 200, 201, 202] (by decide +kernel) (by decide +kernel)
set_option maxRecDepth 20000 in
theorem gp_acts_wsL_acts_r5 : GoodIn wsL_law wsL_acts_r5 := goodIn_r _ [203, 204, 205, 206, 53, 54, 55, 56, 58, 59, 60, 61, 134, 135, 136, 137, 138, 139, 140, 141, 94, 90, 91, 92] (by decide +kernel) (by decide +kernel)
set_option maxRecDepth 20000 in
theorem gp_acts_wsL_acts_r6 : GoodIn wsL_law wsL_acts_r6 := goodIn_r _ [93, 71, 95, 414, 415, 416, 417, 418, 419, 420, 421, 317, 318, 319, 320, 284, 285, 286, 287, 288, 289, 290, 291, 253] (by decide +kernel) (by decide +kernel)
set_option maxRecDepth 20000 in
theorem gp_acts_wsL_acts_r7 : GoodIn wsL_law wsL_acts_r7 := goodIn_r _ [254, 255, 422, 423, 424, 425, 426, 427, 428, 429, 430, 431, 432, 433, 217, 218, 219, 220, 221, 222, 223, 224, 225, 226] (by decide +kernel) (by decide +kernel)
set_option maxRecDepth 20000 in
theorem gp_acts_wsL_acts_r8 : GoodIn wsL_law wsL_acts_r8 := goodIn_r _ [227, 228, 229, 230, 231, 232, 233, 234, 235, 236, 237, 238, 239, 240, 241, 242, 243, 244, 245, 246, 247, 248, 249, 250] (by decide +kernel) (by decide +kernel)
set_option maxRecDepth 20000 in
theorem gp_acts_wsL_acts_r9 : GoodIn wsL_law wsL_acts_r9 := goodIn_r _ [251, 252, 256, 257, 258, 259, 260, 261, 262, 263, 264, 265, 266, 267, 268, 269, 270, 271, 213, 214, 215, 216, 272, 273] (by decide +kernel) (by decide +kernel)
set_option maxRecDepth 20000 in
theorem gp_acts_wsL_acts_r10 : GoodIn wsL_law wsL_acts_r10 := goodIn_r _ [274, 275, 276, 277, 278, 279, 81, 82, 83, 84, 85, 86, 87, 88, 434, 435, 436, 437, 15, 124, 126, 127, 128, 129] (by decide +kernel) (by decide +kernel)
set_option maxRecDepth 20000 in
theorem gp_acts_wsL_acts_r11 : GoodIn wsL_law wsL_acts_r11 := goodIn_r _ [120, 121, 122, 123, 438, 439, 440, 441, 442, 443, 444, 445, 446, 447, 448, 449, 450, 451, 452, 453, 77, 142, 143, 144] (by decide +kernel) (by decide +kernel)
set_option maxRecDepth 20000 in
theorem gp_acts_wsL_acts_r12 : GoodIn wsL_law wsL_acts_r12 := goodIn_r _ [145, 24, 25, 146, 147, 148, 149, 79, 150, 151, 153, 154, 155, 156, 157, 158, 159, 160, 161, 162, 163, 164, 165, 166] (by decide +kernel) (by decide +kernel)
set_option maxRecDepth 20000 in
theorem gp_acts_wsL_acts_r13 : GoodIn wsL_law wsL_acts_r13 := goodIn_r _ [167, 168, 169, 170, 171, 172, 173, 174, 175, 176, 177, 178, 179, 180, 181, 182, 183, 187, 188, 189, 190, 191, 192, 193] (by decide +kernel) (by decide +kernel)
set_option maxRecDepth 20000 in
theorem gp_acts_wsL_acts_r14 : GoodIn wsL_law wsL_acts_r14 := goodIn_r _ [194, 195, 208, 209, 210, 211, 354, 355, 356, 357, 358, 359, 360, 361, 362, 363, 364, 365, 454, 455, 456, 457] (by decide +kernel) (by decide +kernel)
set_option maxRecDepth 20000 in
theorem gp_acts_wsX50 : GoodIn wsL_law wsX50 := goodIn_r _ [473, 474, 475, 476, 477, 478, 479, 480] (by decide +kernel) (by decide +kernel)
set_option maxRecDepth 20000 in
theorem gp_acts_wsX10 : GoodIn wsL_law wsX10 := goodIn_r _ [488, 489, 490] (by decide +kernel) (by decide +kernel)
set_option maxRecDepth 20000 in
theorem gp_acts_wsX20 : GoodIn wsL_law wsX20 := goodIn_r _ [491, 492, 493, 494, 495] (by decide +kernel) (by decide +kernel)
set_option maxRecDepth 20000 in
theorem gp_acts_wsX00 : GoodIn wsL_law wsX00 := goodIn_r _ [481, 482, 483, 484, 485, 486, 487] (by decide +kernel) (by decide +kernel)
set_option maxRecDepth 20000 in
theorem gp_acts_wsX40 : GoodIn wsL_law wsX40 := goodIn_r _ [496, 497, 498] (by decide +kernel) (by decide +kernel)
set_option maxRecDepth 20000 in
theorem gp_acts_wsX30 : GoodIn wsL_law wsX30 := goodIn_r _ [499, 500, 501] (by decide +kernel) (by decide +kernel)
theorem ggL_law_L_acts : GoodIn wsL_law wsL_acts := goodIn_cons gp_acts_0 (goodIn_app (goodIn_app (goodIn_app (goodIn_app (goodIn_app (goodIn_app (goodIn_app gp_acts_wsL_acts_r1 (goodIn_app gp_acts_wsL_acts_r2 (goodIn_app gp_acts_wsL_acts_r3 (goodIn_app gp_acts_wsL_acts_r4 (goodIn_app gp_acts_wsL_acts_r5 (goodIn_app gp_acts_wsL_acts_r6 (goodIn_app gp_acts_wsL_acts_r7 (goodIn_app gp_acts_wsL_acts_r8 (goodIn_app gp_acts_wsL_acts_r9 (goodIn_app gp_acts_wsL_acts_r10 (goodIn_app gp_acts_wsL_acts_r11 (goodIn_app gp_acts_wsL_acts_r12 (goodIn_app gp_acts_wsL_acts_r13 gp_acts_wsL_acts_r14))))))))))))) gp_acts_wsX50) gp_acts_wsX10) gp_acts_wsX20) gp_acts_wsX00) gp_acts_wsX40) gp_acts_wsX30)
set_option maxRecDepth 20000 in
theorem gL_law_L_acts : GoodIn wsL_law (va_wsS RL 102 yL_acts wsL_acts) := goodIn_app (goodIn_of _ (by decide +kernel)) ggL_law_L_acts
set_option maxRecDepth 20000 in
theorem gp_refuses_0 : GoodIn wsL_law [Cond.code yL_refuses cL_refuses 7 (some .boolean)] := goodIn_one (i := 460) rfl (by decide +kernel)
set_option maxRecDepth 20000 in
theorem gp_refuses_wsL_refuses_r1 : GoodIn wsL_law wsL_refuses_r1 := goodIn_r _ [330, 331, 332, 2, 333, 19, 23, 13, 334, 335, 336, 18, 337, 89, 338, 339, 340, 22, 341, 152, 342, 343, 344, 12] (by decide +kernel) (by decide +kernel)
set_option maxRecDepth 20000 in
theorem gp_refuses_wsL_refuses_r2 : GoodIn wsL_law wsL_refuses_r2 := goodIn_r _ [345, 99, 35, 36, 42, 37, 34, 38, 207, 184, 185, 32, 186, 57, 312, 313, 314, 315, 316, 196, 197, 198, 48, 47] (by decide +kernel) (by decide +kernel)
set_option maxRecDepth 20000 in
theorem gp_refuses_wsL_refuses_r3 : GoodIn wsL_law wsL_refuses_r3 := goodIn_r _ [130, 131, 132, 41, 133, 117, 346, 347, 348, 349, 350, 351, 352, 353, 212, 410, 411, 412, 413, 14, 125, 96, 97, 98] (by decide +kernel) (by decide +kernel)
set_option maxRecDepth 20000 in
theorem gp_refuses_wsL_refuses_r4 : GoodIn wsL_law wsL_refuses_r4 := goodIn_r _ [100, 101, 102, 103, 104, 105, 106, 107, 108, 109, 110, 111, 112, 113, 114, 115, 116, 52, 118, 119, 199, 200, 201, 202] (by decide +kernel) (by decide +kernel)
set_option maxRecDepth 20000 in
theorem gp_refuses_wsL_refuses_r5 : GoodIn wsL_law wsL_refuses_r5 := goodIn_r _ [203, 204, 205, 206, 53, 54, 55, 56, 58, 59, 60, 61, 134, 135, 136, 137, 138, 139, 140, 141, 94, 90, 91, 92] (by decide +kernel) (by decide +kernel)
set_option maxRecDepth 20000 in
theorem gp_refuses_wsL_refuses_r6 : GoodIn wsL_law wsL_refuses_r6 := goodIn_r _ [93, 71, 95, 414, 415, 416, 417, 418, 419, 420, 421, 317, 318, 319, 320, 454, 455, 456, 457, 208, 209, 210, 211, 213] (by decide +kernel) (by decide +kernel)
set_option maxRecDepth 20000 in
theorem gp_refuses_wsL_refuses_r7 : GoodIn wsL_law wsL_refuses_r7 := goodIn_r _ [214, 215, 216, 422, 423, 424, 425, 426, 427, 428, 429, 430, 431, 432, 433, 217, 218, 219, 220, 221, 222, 223, 224, 225] (by decide +kernel) (by decide +kernel)
set_option maxRecDepth 20000 in
theorem gp_refuses_wsL_refuses_r8 : GoodIn wsL_law wsL_refuses_r8 := goodIn_r _ [226, 227, 228, 229, 230, 231, 232, 233, 234, 235, 236, 237, 238, 239, 240, 241, 242, 243, 244, 245, 246, 247, 248, 249] (by decide +kernel) (by decide +kernel)
set_option maxRecDepth 20000 in
theorem gp_refuses_wsL_refuses_r9 : GoodIn wsL_law wsL_refuses_r9 := goodIn_r _ [250, 251, 252, 253, 254, 255, 256, 257, 258, 259, 260, 261, 262, 263, 264, 265, 266, 267, 268, 269, 270, 271, 272, 273] (by decide +kernel) (by decide +kernel)
set_option maxRecDepth 20000 in
theorem gp_refuses_wsL_refuses_r10 : GoodIn wsL_law wsL_refuses_r10 := goodIn_r _ [274, 275, 276, 277, 278, 279, 280, 281, 282, 283, 24, 25, 304, 305, 306, 307, 308, 309, 310, 311, 354, 355, 356, 357] (by decide +kernel) (by decide +kernel)
set_option maxRecDepth 20000 in
theorem gp_refuses_wsL_refuses_r11 : GoodIn wsL_law wsL_refuses_r11 := goodIn_r _ [358, 359, 360, 361, 362, 363, 364, 365, 366, 367, 368, 369, 370, 371, 372, 373, 374, 375, 376, 377, 378, 379, 380, 381] (by decide +kernel) (by decide +kernel)
set_option maxRecDepth 20000 in
theorem gp_refuses_wsL_refuses_r12 : GoodIn wsL_law wsL_refuses_r12 := goodIn_r _ [382, 383, 384, 385, 386, 461, 462, 463, 464, 465, 387, 388, 389, 390, 391, 392, 393, 394, 395, 396, 466, 467, 468, 469] (by decide +kernel) (by decide +kernel)
set_option maxRecDepth 20000 in
theorem gp_refuses_wsL_refuses_r13 : GoodIn wsL_law wsL_refuses_r13 := goodIn_r _ [401, 397, 398, 399, 400, 288, 289, 290, 291, 321, 322, 323, 324, 325, 326, 327, 328, 329, 438, 439, 440, 441, 442, 443] (by decide +kernel) (by decide +kernel)
set_option maxRecDepth 20000 in
theorem gp_refuses_wsL_refuses_r14 : GoodIn wsL_law wsL_refuses_r14 := goodIn_r _ [444, 445, 142, 143, 144, 145, 146, 147, 148, 149, 79, 150, 151, 153, 154, 155, 156, 157, 158, 159, 160, 161, 162, 163] (by decide +kernel) (by decide +kernel)
set_option maxRecDepth 20000 in
theorem gp_refuses_wsL_refuses_r15 : GoodIn wsL_law wsL_refuses_r15 := goodIn_r _ [164, 165, 77, 166, 167, 168, 169, 170, 171, 172, 173, 174, 175, 176, 177, 178, 179, 180, 181, 182, 183, 187, 188, 189] (by decide +kernel) (by decide +kernel)
set_option maxRecDepth 20000 in
theorem gp_refuses_wsL_refuses_r16 : GoodIn wsL_law wsL_refuses_r16 := goodIn_r _ [190, 191, 192, 193, 194, 195, 284, 285, 286, 287] (by decide +kernel) (by decide +kernel)
set_option maxRecDepth 20000 in
theorem gp_refuses_wsX50 : GoodIn wsL_law wsX50 := goodIn_r _ [473, 474, 475, 476, 477, 478, 479, 480] (by decide +kernel) (by decide +kernel)
set_option maxRecDepth 20000 in
theorem gp_refuses_wsX10 : GoodIn wsL_law wsX10 := goodIn_r _ [488, 489, 490] (by decide +kernel) (by decide +kernel)
set_option maxRecDepth 20000 in
theorem gp_refuses_wsX20 : GoodIn wsL_law wsX20 := goodIn_r _ [491, 492, 493, 494, 495] (by decide +kernel) (by decide +kernel)
set_option maxRecDepth 20000 in
theorem gp_refuses_wsX00 : GoodIn wsL_law wsX00 := goodIn_r _ [481, 482, 483, 484, 485, 486, 487] (by decide +kernel) (by decide +kernel)
set_option maxRecDepth 20000 in
theorem gp_refuses_wsX40 : GoodIn wsL_law wsX40 := goodIn_r _ [496, 497, 498] (by decide +kernel) (by decide +kernel)
set_option maxRecDepth 20000 in
theorem gp_refuses_wsX30 : GoodIn wsL_law wsX30 := goodIn_r _ [499, 500, 501] (by decide +kernel) (by decide +kernel)
theorem ggL_law_L_refuses : GoodIn wsL_law wsL_refuses := goodIn_cons gp_refuses_0 (goodIn_app (goodIn_app (goodIn_app (goodIn_app (goodIn_app (goodIn_app (goodIn_app gp_refuses_wsL_refuses_r1 (goodIn_app gp_refuses_wsL_refuses_r2 (goodIn_app gp_refuses_wsL_refuses_r3 (goodIn_app gp_refuses_wsL_refuses_r4 (goodIn_app gp_refuses_wsL_refuses_r5 (goodIn_app gp_refuses_wsL_refuses_r6 (goodIn_app gp_refuses_wsL_refuses_r7 (goodIn_app gp_refuses_wsL_refuses_r8 (goodIn_app gp_refuses_wsL_refuses_r9 (goodIn_app gp_refuses_wsL_refuses_r10 (goodIn_app gp_refuses_wsL_refuses_r11 (goodIn_app gp_refuses_wsL_refuses_r12 (goodIn_app gp_refuses_wsL_refuses_r13 (goodIn_app gp_refuses_wsL_refuses_r14 (goodIn_app gp_refuses_wsL_refuses_r15 gp_refuses_wsL_refuses_r16))))))))))))))) gp_refuses_wsX50) gp_refuses_wsX10) gp_refuses_wsX20) gp_refuses_wsX00) gp_refuses_wsX40) gp_refuses_wsX30)
set_option maxRecDepth 20000 in
theorem gL_law_L_refuses : GoodIn wsL_law (va_wsS RL 106 yL_refuses wsL_refuses) := goodIn_app (goodIn_of _ (by decide +kernel)) ggL_law_L_refuses
