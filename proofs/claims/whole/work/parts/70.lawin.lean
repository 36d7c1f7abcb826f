theorem in_r {big : List Cond} (ws : List Cond) (ps : List Nat) (hp : ws = ps.filterMap (fun i => big[i]?)) : ∀ w ∈ ws, w ∈ big := by
  intro w hw
  rw [hp] at hw
  obtain ⟨i, -, hi⟩ := List.mem_filterMap.mp hw
  first | exact List.mem_of_getElem? hi | exact List.getElem?_mem hi
theorem in_app {big a b : List Cond} (ha : ∀ w ∈ a, w ∈ big) (hb : ∀ w ∈ b, w ∈ big) : ∀ w ∈ a ++ b, w ∈ big := fun w h => (List.mem_append.mp h).elim (ha w) (hb w)
set_option maxRecDepth 20000 in
theorem in_r1 : ∀ w ∈ wsL_law_r1, w ∈ lw_tbl := in_r _ [59, 60, 50, 572, 573, 56, 61, 62, 63, 64, 65, 66, 67, 68, 51, 184, 185, 186, 140, 141, 54, 187, 159, 160] (by decide +kernel)
set_option maxRecDepth 20000 in
theorem in_r2 : ∀ w ∈ wsL_law_r2, w ∈ lw_tbl := in_r _ [55, 188, 190, 191, 69, 70, 71, 72, 73, 74, 52, 89, 118, 119, 120, 121, 122, 90, 91, 53, 123, 75, 76, 77] (by decide +kernel)
set_option maxRecDepth 20000 in
theorem in_r3 : ∀ w ∈ wsL_law_r3, w ∈ lw_tbl := in_r _ [78, 79, 80, 93, 94, 95, 96, 106, 107, 108, 109, 81, 110, 111, 112, 113, 114, 116, 0, 117, 142, 143, 144, 145] (by decide +kernel)
set_option maxRecDepth 20000 in
theorem in_r4 : ∀ w ∈ wsL_law_r4, w ∈ lw_tbl := in_r _ [146, 149, 148, 162, 163, 164, 183, 167, 165, 168, 166, 574, 575, 576, 577, 578, 579, 580, 582, 584, 209, 210, 211, 212] (by decide +kernel)
set_option maxRecDepth 20000 in
theorem in_r5 : ∀ w ∈ wsL_law_r5, w ∈ lw_tbl := in_r _ [213, 214, 215, 216, 124, 217, 218, 219, 220, 221, 222, 57, 223, 224, 226, 225, 58, 227, 228, 229, 230, 97, 98, 231] (by decide +kernel)
set_option maxRecDepth 20000 in
theorem in_r6 : ∀ w ∈ wsL_law_r6, w ∈ lw_tbl := in_r _ [232, 233, 234, 235, 236, 237, 238, 239, 240, 241, 242, 243, 244, 245, 247, 1, 248, 249, 250, 251, 252, 151, 150, 253] (by decide +kernel)
set_option maxRecDepth 20000 in
theorem in_r7 : ∀ w ∈ wsL_law_r7, w ∈ lw_tbl := in_r _ [255, 2, 256, 257, 633, 634, 635, 636, 637, 639, 16, 640, 641, 642, 643, 644, 645, 646, 647, 649, 17, 650, 581, 651] (by decide +kernel)
set_option maxRecDepth 20000 in
theorem in_r8 : ∀ w ∈ wsL_law_r8, w ∈ lw_tbl := in_r _ [653, 18, 654, 655, 656, 657, 258, 259, 260, 261, 262, 263, 264, 265, 266, 267, 268, 269, 270, 271, 272, 273, 274, 658] (by decide +kernel)
set_option maxRecDepth 20000 in
theorem in_r9 : ∀ w ∈ wsL_law_r9, w ∈ lw_tbl := in_r _ [659, 660, 661, 662, 664, 19, 665, 666, 668, 20, 669, 670, 671, 672, 275, 276, 277, 278, 279, 280, 281, 282, 283, 284] (by decide +kernel)
set_option maxRecDepth 20000 in
theorem in_r10 : ∀ w ∈ wsL_law_r10, w ∈ lw_tbl := in_r _ [285, 286, 673, 674, 675, 676, 677, 679, 21, 680, 681, 683, 22, 684, 685, 687, 23, 688, 287, 288, 289, 290, 291, 292] (by decide +kernel)
set_option maxRecDepth 20000 in
theorem in_r11 : ∀ w ∈ wsL_law_r11, w ∈ lw_tbl := in_r _ [293, 294, 295, 296, 297, 689, 690, 691, 692, 693, 694, 695, 298, 299, 300, 301, 302, 303, 304, 305, 696, 697, 698, 699] (by decide +kernel)
set_option maxRecDepth 20000 in
theorem in_r12 : ∀ w ∈ wsL_law_r12, w ∈ lw_tbl := in_r _ [306, 307, 308, 309, 310, 311, 312, 313, 314, 315, 316, 317, 322, 318, 319, 320, 321, 323, 324, 325, 326, 327, 328, 329] (by decide +kernel)
set_option maxRecDepth 20000 in
theorem in_r13 : ∀ w ∈ wsL_law_r13, w ∈ lw_tbl := in_r _ [330, 331, 333, 3, 334, 335, 336, 337, 338, 339, 340, 341, 342, 343, 344, 345, 346, 347, 348, 349, 350, 352, 4, 353] (by decide +kernel)
set_option maxRecDepth 20000 in
theorem in_r14 : ∀ w ∈ wsL_law_r14, w ∈ lw_tbl := in_r _ [354, 356, 5, 357, 358, 359, 360, 361, 362, 364, 6, 365, 366, 368, 7, 369, 370, 372, 8, 373, 700, 701, 702, 703] (by decide +kernel)
set_option maxRecDepth 20000 in
theorem in_r15 : ∀ w ∈ wsL_law_r15, w ∈ lw_tbl := in_r _ [704, 706, 24, 707, 708, 710, 25, 711, 712, 714, 26, 715, 716, 718, 27, 719, 720, 722, 28, 723, 724, 726, 29, 727] (by decide +kernel)
set_option maxRecDepth 20000 in
theorem in_r16 : ∀ w ∈ wsL_law_r16, w ∈ lw_tbl := in_r _ [728, 730, 30, 731, 732, 734, 31, 735, 736, 738, 32, 739, 740, 742, 33, 743, 374, 375, 376, 377, 378, 379, 380, 381] (by decide +kernel)
set_option maxRecDepth 20000 in
theorem in_r17 : ∀ w ∈ wsL_law_r17, w ∈ lw_tbl := in_r _ [169, 744, 745, 746, 747, 585, 382, 383, 384, 385, 386, 387, 388, 389, 748, 749, 750, 751, 390, 391, 392, 393, 394, 395] (by decide +kernel)
set_option maxRecDepth 20000 in
theorem in_r18 : ∀ w ∈ wsL_law_r18, w ∈ lw_tbl := in_r _ [396, 397, 170, 171, 398, 399, 400, 401, 402, 403, 405, 9, 406, 407, 409, 10, 410, 411, 412, 414, 11, 415, 416, 418] (by decide +kernel)
set_option maxRecDepth 20000 in
theorem in_r19 : ∀ w ∈ wsL_law_r19, w ∈ lw_tbl := in_r _ [12, 419, 420, 422, 13, 423, 424, 425, 426, 427, 428, 429, 431, 14, 432, 433, 434, 435, 436, 437, 752, 753, 754, 755] (by decide +kernel)
set_option maxRecDepth 20000 in
theorem in_r20 : ∀ w ∈ wsL_law_r20, w ∈ lw_tbl := in_r _ [589, 586, 587, 588, 756, 758, 34, 759, 590, 760, 762, 35, 763, 591, 592, 593, 594, 595, 764, 766, 36, 767, 768, 770] (by decide +kernel)
set_option maxRecDepth 20000 in
theorem in_r21 : ∀ w ∈ wsL_law_r21, w ∈ lw_tbl := in_r _ [37, 771, 772, 774, 38, 775, 776, 778, 39, 779, 780, 782, 40, 783, 784, 786, 41, 787, 438, 439, 440, 441, 788, 789] (by decide +kernel)
set_option maxRecDepth 20000 in
theorem in_r22 : ∀ w ∈ wsL_law_r22, w ∈ lw_tbl := in_r _ [790, 791, 442, 443, 444, 445, 446, 447, 448, 449, 792, 793, 794, 795, 450, 451, 452, 453, 189, 454, 455, 456, 457, 796] (by decide +kernel)
set_option maxRecDepth 20000 in
theorem in_r23 : ∀ w ∈ wsL_law_r23, w ∈ lw_tbl := in_r _ [797, 798, 799, 583, 458, 459, 460, 461, 800, 801, 802, 803, 462, 463, 464, 465, 466, 467, 468, 469, 470, 471, 472, 473] (by decide +kernel)
set_option maxRecDepth 20000 in
theorem in_r24 : ∀ w ∈ wsL_law_r24, w ∈ lw_tbl := in_r _ [804, 805, 806, 807, 808, 810, 42, 811, 812, 814, 43, 815, 474, 475, 476, 477, 478, 479, 480, 481, 482, 483, 484, 485] (by decide +kernel)
set_option maxRecDepth 20000 in
theorem in_r25 : ∀ w ∈ wsL_law_r25, w ∈ lw_tbl := in_r _ [816, 817, 818, 819, 820, 822, 44, 823, 486, 487, 488, 489, 490, 491, 492, 493, 494, 495, 496, 497, 824, 825, 826, 827] (by decide +kernel)
set_option maxRecDepth 20000 in
theorem in_r26 : ∀ w ∈ wsL_law_r26, w ∈ lw_tbl := in_r _ [828, 830, 45, 831, 832, 834, 46, 835, 498, 499, 500, 501, 502, 503, 504, 505, 506, 836, 837, 838, 839, 507, 508, 509] (by decide +kernel)
set_option maxRecDepth 20000 in
theorem in_r27 : ∀ w ∈ wsL_law_r27, w ∈ lw_tbl := in_r _ [510, 511, 840, 841, 842, 843, 512, 513, 514, 515, 516, 517, 518, 519, 520, 521, 844, 845, 846, 847, 522, 523, 524, 525] (by decide +kernel)
set_option maxRecDepth 20000 in
theorem in_r28 : ∀ w ∈ wsL_law_r28, w ∈ lw_tbl := in_r _ [526, 848, 849, 850, 851, 527, 528, 529, 530, 852, 853, 854, 855, 531, 532, 533, 534, 535, 536, 537, 538, 856, 857, 858] (by decide +kernel)
set_option maxRecDepth 20000 in
theorem in_r29 : ∀ w ∈ wsL_law_r29, w ∈ lw_tbl := in_r _ [859, 539, 540, 541, 542, 543, 544, 545, 546, 547, 860, 861, 862, 863, 864, 548, 549, 550, 551, 552, 553, 554, 555, 556] (by decide +kernel)
set_option maxRecDepth 20000 in
theorem in_r30 : ∀ w ∈ wsL_law_r30, w ∈ lw_tbl := in_r _ [557, 558, 559, 560, 561, 562, 563, 564, 565, 566, 567, 568, 570, 15, 571, 865, 866, 867, 868, 869, 871, 47, 872, 873] (by decide +kernel)
set_option maxRecDepth 20000 in
theorem in_r31 : ∀ w ∈ wsL_law_r31, w ∈ lw_tbl := in_r _ [875, 48, 876] (by decide +kernel)
set_option maxRecDepth 20000 in
theorem inX0 : ∀ w ∈ wsX00, w ∈ lw_tbl := in_r _ [125, 127, 129, 131, 133, 135, 137] (by decide +kernel)
set_option maxRecDepth 20000 in
theorem inX1 : ∀ w ∈ wsX10, w ∈ lw_tbl := in_r _ [152, 154, 156] (by decide +kernel)
set_option maxRecDepth 20000 in
theorem inX2 : ∀ w ∈ wsX20, w ∈ lw_tbl := in_r _ [172, 174, 176, 178, 180] (by decide +kernel)
set_option maxRecDepth 20000 in
theorem inX3 : ∀ w ∈ wsX30, w ∈ lw_tbl := in_r _ [99, 101, 103] (by decide +kernel)
set_option maxRecDepth 20000 in
theorem inX4 : ∀ w ∈ wsX40, w ∈ lw_tbl := in_r _ [82, 84, 86] (by decide +kernel)
set_option maxRecDepth 20000 in
theorem inX5 : ∀ w ∈ wsX50, w ∈ lw_tbl := in_r _ [192, 194, 196, 198, 200, 202, 204, 206] (by decide +kernel)
set_option maxRecDepth 20000 in
theorem inX6 : ∀ w ∈ wsX60, w ∈ lw_tbl := in_r _ [596, 598, 600, 602, 604, 606, 608, 610, 612, 614, 616, 618, 620, 622, 624, 626, 628, 630] (by decide +kernel)
theorem wsL_law_in : ∀ w ∈ wsL_law, w ∈ lw_tbl := in_app (in_app (in_app (in_app (in_app (in_app (in_app (in_app (in_app in_r1 (in_app in_r2 (in_app in_r3 (in_app in_r4 (in_app in_r5 (in_app in_r6 (in_app in_r7 (in_app in_r8 (in_app in_r9 (in_app in_r10 (in_app in_r11 (in_app in_r12 (in_app in_r13 (in_app in_r14 (in_app in_r15 (in_app in_r16 (in_app in_r17 (in_app in_r18 (in_app in_r19 (in_app in_r20 (in_app in_r21 (in_app in_r22 (in_app in_r23 (in_app in_r24 (in_app in_r25 (in_app in_r26 (in_app in_r27 (in_app in_r28 (in_app in_r29 (in_app in_r30 (in_r31))))))))))))))))))))))))))))))) inX5) inX6) inX0) inX1) inX2) inX4) inX3) (fun _ h => absurd h List.not_mem_nil)
theorem inlX0 : ∀ w ∈ wsX00, w ∈ wsL_law := fun _ h => List.mem_append_left _ (List.mem_append_left _ (List.mem_append_left _ (List.mem_append_left _ (List.mem_append_left _ (List.mem_append_right _ h)))))
theorem inlX1 : ∀ w ∈ wsX10, w ∈ wsL_law := fun _ h => List.mem_append_left _ (List.mem_append_left _ (List.mem_append_left _ (List.mem_append_left _ (List.mem_append_right _ h))))
theorem inlX2 : ∀ w ∈ wsX20, w ∈ wsL_law := fun _ h => List.mem_append_left _ (List.mem_append_left _ (List.mem_append_left _ (List.mem_append_right _ h)))
theorem inlX3 : ∀ w ∈ wsX30, w ∈ wsL_law := fun _ h => List.mem_append_left _ (List.mem_append_right _ h)
theorem inlX4 : ∀ w ∈ wsX40, w ∈ wsL_law := fun _ h => List.mem_append_left _ (List.mem_append_left _ (List.mem_append_right _ h))
theorem inlX5 : ∀ w ∈ wsX50, w ∈ wsL_law := fun _ h => List.mem_append_left _ (List.mem_append_left _ (List.mem_append_left _ (List.mem_append_left _ (List.mem_append_left _ (List.mem_append_left _ (List.mem_append_left _ (List.mem_append_right _ h)))))))
theorem inlX6 : ∀ w ∈ wsX60, w ∈ wsL_law := fun _ h => List.mem_append_left _ (List.mem_append_left _ (List.mem_append_left _ (List.mem_append_left _ (List.mem_append_left _ (List.mem_append_left _ (List.mem_append_right _ h))))))
theorem inJ9 : ∀ w ∈ wsJ90, w ∈ lw_tbl := by decide +kernel
theorem inJ10 : ∀ w ∈ wsJ100, w ∈ lw_tbl := by decide +kernel
