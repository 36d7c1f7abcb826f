/-! part 70: the words of the law in the table -/
theorem in_r {big : List Cond} (ws : List Cond) (ps : List Nat) (hp : ws = ps.filterMap (fun i => big[i]?)) : ∀ w ∈ ws, w ∈ big := by
  intro w hw
  rw [hp] at hw
  obtain ⟨i, -, hi⟩ := List.mem_filterMap.mp hw
  first | exact List.mem_of_getElem? hi | exact List.getElem?_mem hi
theorem in_app {big a b : List Cond} (ha : ∀ w ∈ a, w ∈ big) (hb : ∀ w ∈ b, w ∈ big) : ∀ w ∈ a ++ b, w ∈ big := fun w h => (List.mem_append.mp h).elim (ha w) (hb w)
theorem in_one {big : List Cond} {c : Cond} {i : Nat} (h : big[i]? = some c) : ∀ w ∈ [c], w ∈ big := fun w hw => by
  rw [List.mem_singleton] at hw
  subst hw
  exact List.mem_of_getElem? h
theorem in_cons {big a : List Cond} {c : Cond} (hc : ∀ w ∈ [c], w ∈ big) (ha : ∀ w ∈ a, w ∈ big) : ∀ w ∈ c :: a, w ∈ big := fun w h => (List.mem_cons.mp h).elim (fun e => hc w (List.mem_cons.mpr (Or.inl e))) (ha w)
set_option maxRecDepth 20000 in
theorem in_wsL_law_r1 : ∀ w ∈ wsL_law_r1, w ∈ lw_tbl := in_r _ [25, 26, 17, 504, 27, 28, 29, 30, 31, 32, 33, 34, 18, 150, 151, 152, 106, 107, 21, 153, 125, 126, 22, 154] (by decide +kernel)
set_option maxRecDepth 20000 in
theorem in_wsL_law_r2 : ∀ w ∈ wsL_law_r2, w ∈ lw_tbl := in_r _ [156, 157, 35, 36, 37, 38, 39, 40, 19, 55, 84, 85, 86, 87, 88, 56, 57, 20, 89, 41, 42, 43, 44, 45] (by decide +kernel)
set_option maxRecDepth 20000 in
theorem in_wsL_law_r3 : ∀ w ∈ wsL_law_r3, w ∈ lw_tbl := in_r _ [46, 59, 60, 61, 62, 72, 73, 74, 75, 47, 76, 77, 78, 79, 80, 82, 0, 83, 108, 109, 110, 111, 112, 115] (by decide +kernel)
set_option maxRecDepth 20000 in
theorem in_wsL_law_r4 : ∀ w ∈ wsL_law_r4, w ∈ lw_tbl := in_r _ [114, 128, 129, 130, 149, 133, 131, 134, 132, 363, 364, 365, 366, 367, 368, 369, 370, 117, 218, 220, 2, 221, 116, 222] (by decide +kernel)
set_option maxRecDepth 20000 in
theorem in_wsL_law_r5 : ∀ w ∈ wsL_law_r5, w ∈ lw_tbl := in_r _ [180, 181, 182, 90, 183, 184, 185, 186, 187, 188, 23, 189, 190, 192, 191, 24, 193, 194, 195, 196, 63, 64, 197, 198] (by decide +kernel)
set_option maxRecDepth 20000 in
theorem in_wsL_law_r6 : ∀ w ∈ wsL_law_r6, w ∈ lw_tbl := in_r _ [371, 372, 373, 374, 155, 179, 375, 376, 377, 378, 235, 236, 237, 238, 210, 212, 1, 213, 214, 215, 216, 217, 295, 296] (by decide +kernel)
set_option maxRecDepth 20000 in
theorem in_wsL_law_r7 : ∀ w ∈ wsL_law_r7, w ∈ lw_tbl := in_r _ [297, 298, 299, 300, 301, 302, 136, 137, 135, 303, 304, 305, 306, 307, 308, 310, 9, 311, 312, 314, 10, 315, 316, 317] (by decide +kernel)
set_option maxRecDepth 20000 in
theorem in_wsL_law_r8 : ∀ w ∈ wsL_law_r8, w ∈ lw_tbl := in_r _ [319, 11, 320, 321, 323, 12, 324, 325, 327, 13, 328, 329, 330, 331, 332, 333, 334, 335, 336, 337, 339, 14, 340, 341] (by decide +kernel)
set_option maxRecDepth 20000 in
theorem in_wsL_law_r9 : ∀ w ∈ wsL_law_r9, w ∈ lw_tbl := in_r _ [342, 343, 344, 345, 204, 205, 206, 346, 347, 348, 349, 350, 351, 352, 353, 354, 355, 356, 357, 358, 203, 283, 284, 285] (by decide +kernel)
set_option maxRecDepth 20000 in
theorem in_wsL_law_r10 : ∀ w ∈ wsL_law_r10, w ∈ lw_tbl := in_r _ [286, 227, 228, 229, 230, 231, 232, 233, 234, 239, 240, 241, 242, 243, 244, 245, 246, 247, 248, 250, 3, 251, 252, 253] (by decide +kernel)
set_option maxRecDepth 20000 in
theorem in_wsL_law_r11 : ∀ w ∈ wsL_law_r11, w ∈ lw_tbl := in_r _ [254, 255, 256, 257, 258, 259, 260, 261, 262, 263, 264, 265, 266, 207, 208, 209, 267, 269, 4, 270, 271, 273, 5, 274] (by decide +kernel)
set_option maxRecDepth 20000 in
theorem in_wsL_law_r12 : ∀ w ∈ wsL_law_r12, w ∈ lw_tbl := in_r _ [275, 276, 277, 278, 279, 281, 6, 282, 287, 289, 7, 290, 291, 293, 8, 294, 359, 360, 361, 362, 175, 176, 177, 178] (by decide +kernel)
set_option maxRecDepth 20000 in
theorem in_wsL_law_r13 : ∀ w ∈ wsL_law_r13, w ∈ lw_tbl := (in_cons (in_one (i := 199) rfl) (in_cons (in_one (i := 200) rfl) (in_cons (in_one (i := 201) rfl) (in_cons (in_one (i := 202) rfl) (in_cons (in_one (i := 485) rfl) (in_cons (in_one (i := 486) rfl) (in_cons (in_one (i := 16) rfl) (in_cons (in_one (i := 487) rfl) (in_cons (in_one (i := 488) rfl) (in_cons (in_one (i := 489) rfl) (in_cons (in_one (i := 490) rfl) (in_cons (in_one (i := 491) rfl) (in_cons (in_one (i := 492) rfl) (in_cons (in_one (i := 493) rfl) (in_cons (in_one (i := 494) rfl) (in_cons (in_one (i := 495) rfl) (in_cons (in_one (i := 496) rfl) (in_cons (in_one (i := 497) rfl) (in_cons (in_one (i := 498) rfl) (in_cons (in_one (i := 499) rfl) (in_cons (in_one (i := 500) rfl) (in_cons (in_one (i := 501) rfl) (in_cons (in_one (i := 502) rfl) (in_cons (in_one (i := 503) rfl) (fun _ h => absurd h List.not_mem_nil)))))))))))))))))))))))))
set_option maxRecDepth 20000 in
theorem in_wsL_law_r14 : ∀ w ∈ wsL_law_r14, w ∈ lw_tbl := in_r _ [404, 405, 406, 407, 408, 437, 438, 439, 440, 379, 380, 381, 382, 383, 384, 385, 386, 387, 388, 389, 390, 391, 392, 393] (by decide +kernel)
set_option maxRecDepth 20000 in
theorem in_wsL_law_r15 : ∀ w ∈ wsL_law_r15, w ∈ lw_tbl := in_r _ [394, 395, 396, 397, 398, 399, 400, 401, 402, 403, 409, 410, 411, 412, 413, 415, 15, 416, 469, 470, 471, 472, 473, 474] (by decide +kernel)
set_option maxRecDepth 20000 in
theorem in_wsL_law_r16 : ∀ w ∈ wsL_law_r16, w ∈ lw_tbl := in_r _ [475, 476, 477, 478, 479, 480, 505, 506, 507, 508, 509, 510, 511, 512, 513, 514, 515, 516, 517, 518, 519, 520, 521, 522] (by decide +kernel)
set_option maxRecDepth 20000 in
theorem in_wsL_law_r17 : ∀ w ∈ wsL_law_r17, w ∈ lw_tbl := (in_cons (in_one (i := 523) rfl) (in_cons (in_one (i := 524) rfl) (in_cons (in_one (i := 525) rfl) (in_cons (in_one (i := 526) rfl) (in_cons (in_one (i := 527) rfl) (in_cons (in_one (i := 528) rfl) (in_cons (in_one (i := 529) rfl) (in_cons (in_one (i := 530) rfl) (in_cons (in_one (i := 531) rfl) (in_cons (in_one (i := 532) rfl) (in_cons (in_one (i := 533) rfl) (in_cons (in_one (i := 534) rfl) (in_cons (in_one (i := 535) rfl) (in_cons (in_one (i := 536) rfl) (in_cons (in_one (i := 537) rfl) (in_cons (in_one (i := 538) rfl) (in_cons (in_one (i := 539) rfl) (in_cons (in_one (i := 540) rfl) (in_cons (in_one (i := 417) rfl) (in_cons (in_one (i := 418) rfl) (in_cons (in_one (i := 419) rfl) (in_cons (in_one (i := 420) rfl) (in_cons (in_one (i := 421) rfl) (in_cons (in_one (i := 422) rfl) (fun _ h => absurd h List.not_mem_nil)))))))))))))))))))))))))
set_option maxRecDepth 20000 in
theorem in_wsL_law_r18 : ∀ w ∈ wsL_law_r18, w ∈ lw_tbl := (in_cons (in_one (i := 423) rfl) (in_cons (in_one (i := 424) rfl) (in_cons (in_one (i := 425) rfl) (in_cons (in_one (i := 426) rfl) (in_cons (in_one (i := 427) rfl) (in_cons (in_one (i := 428) rfl) (in_cons (in_one (i := 429) rfl) (in_cons (in_one (i := 430) rfl) (in_cons (in_one (i := 431) rfl) (in_cons (in_one (i := 432) rfl) (in_cons (in_one (i := 433) rfl) (in_cons (in_one (i := 434) rfl) (in_cons (in_one (i := 435) rfl) (in_cons (in_one (i := 436) rfl) (in_cons (in_one (i := 441) rfl) (in_cons (in_one (i := 442) rfl) (in_cons (in_one (i := 443) rfl) (in_cons (in_one (i := 444) rfl) (in_cons (in_one (i := 445) rfl) (in_cons (in_one (i := 446) rfl) (in_cons (in_one (i := 447) rfl) (in_cons (in_one (i := 448) rfl) (in_cons (in_one (i := 223) rfl) (in_cons (in_one (i := 224) rfl) (fun _ h => absurd h List.not_mem_nil)))))))))))))))))))))))))
set_option maxRecDepth 20000 in
theorem in_wsL_law_r19 : ∀ w ∈ wsL_law_r19, w ∈ lw_tbl := in_r _ [225, 226, 449, 450, 451, 452, 453, 454, 455, 456, 457, 458, 459, 460, 461, 462, 463, 464, 465, 466, 467, 468, 481, 482] (by decide +kernel)
set_option maxRecDepth 20000 in
theorem in_wsL_law_r20 : ∀ w ∈ wsL_law_r20, w ∈ lw_tbl := (in_cons (in_one (i := 483) rfl) (in_cons (in_one (i := 484) rfl) (in_cons (in_one (i := 544) rfl) (in_cons (in_one (i := 545) rfl) (in_cons (in_one (i := 546) rfl) (in_cons (in_one (i := 547) rfl) (in_cons (in_one (i := 548) rfl) (in_cons (in_one (i := 549) rfl) (in_cons (in_one (i := 550) rfl) (in_cons (in_one (i := 551) rfl) (in_cons (in_one (i := 552) rfl) (in_cons (in_one (i := 553) rfl) (in_cons (in_one (i := 554) rfl) (in_cons (in_one (i := 555) rfl) (in_cons (in_one (i := 541) rfl) (in_cons (in_one (i := 542) rfl) (in_cons (in_one (i := 543) rfl) (fun _ h => absurd h List.not_mem_nil))))))))))))))))))
set_option maxRecDepth 20000 in
theorem in_wsX50 : ∀ w ∈ wsX50, w ∈ lw_tbl := in_r _ [158, 160, 162, 164, 166, 168, 170, 172] (by decide +kernel)
set_option maxRecDepth 20000 in
theorem in_wsX00 : ∀ w ∈ wsX00, w ∈ lw_tbl := in_r _ [91, 93, 95, 97, 99, 101, 103] (by decide +kernel)
set_option maxRecDepth 20000 in
theorem in_wsX10 : ∀ w ∈ wsX10, w ∈ lw_tbl := in_r _ [118, 120, 122] (by decide +kernel)
set_option maxRecDepth 20000 in
theorem in_wsX20 : ∀ w ∈ wsX20, w ∈ lw_tbl := in_r _ [138, 140, 142, 144, 146] (by decide +kernel)
set_option maxRecDepth 20000 in
theorem in_wsX40 : ∀ w ∈ wsX40, w ∈ lw_tbl := in_r _ [48, 50, 52] (by decide +kernel)
set_option maxRecDepth 20000 in
theorem in_wsX30 : ∀ w ∈ wsX30, w ∈ lw_tbl := in_r _ [65, 67, 69] (by decide +kernel)
theorem wsL_law_in : ∀ w ∈ wsL_law, w ∈ lw_tbl := (in_app (in_app (in_app (in_app (in_app (in_app (in_app (in_app in_wsL_law_r1 (in_app in_wsL_law_r2 (in_app in_wsL_law_r3 (in_app in_wsL_law_r4 (in_app in_wsL_law_r5 (in_app in_wsL_law_r6 (in_app in_wsL_law_r7 (in_app in_wsL_law_r8 (in_app in_wsL_law_r9 (in_app in_wsL_law_r10 (in_app in_wsL_law_r11 (in_app in_wsL_law_r12 (in_app in_wsL_law_r13 (in_app in_wsL_law_r14 (in_app in_wsL_law_r15 (in_app in_wsL_law_r16 (in_app in_wsL_law_r17 (in_app in_wsL_law_r18 (in_app in_wsL_law_r19 in_wsL_law_r20))))))))))))))))))) in_wsX50) in_wsX00) in_wsX10) in_wsX20) in_wsX40) in_wsX30) (fun _ h => absurd h List.not_mem_nil))
theorem inlX0 : ∀ w ∈ wsX00, w ∈ wsL_law := fun _ h => List.mem_append_left _ (List.mem_append_left _ (List.mem_append_left _ (List.mem_append_left _ (List.mem_append_left _ (List.mem_append_right _ h)))))
theorem inlX1 : ∀ w ∈ wsX10, w ∈ wsL_law := fun _ h => List.mem_append_left _ (List.mem_append_left _ (List.mem_append_left _ (List.mem_append_left _ (List.mem_append_right _ h))))
theorem inlX2 : ∀ w ∈ wsX20, w ∈ wsL_law := fun _ h => List.mem_append_left _ (List.mem_append_left _ (List.mem_append_left _ (List.mem_append_right _ h)))
theorem inlX3 : ∀ w ∈ wsX30, w ∈ wsL_law := fun _ h => List.mem_append_left _ (List.mem_append_right _ h)
theorem inlX4 : ∀ w ∈ wsX40, w ∈ wsL_law := fun _ h => List.mem_append_left _ (List.mem_append_left _ (List.mem_append_right _ h))
theorem inlX5 : ∀ w ∈ wsX50, w ∈ wsL_law := fun _ h => List.mem_append_left _ (List.mem_append_left _ (List.mem_append_left _ (List.mem_append_left _ (List.mem_append_left _ (List.mem_append_left _ (List.mem_append_right _ h))))))
