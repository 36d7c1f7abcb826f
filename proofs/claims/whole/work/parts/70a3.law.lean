set_option maxRecDepth 20000 in
theorem ggL_law_X5_perform : GoodIn wsL_law wsX5_perform := goodIn_r _ [405, 25, 16, 15, 26, 27, 406, 407, 408, 24, 409, 81, 410, 411, 384, 412, 413, 414, 34, 415, 59, 416, 56, 57, 58, 417, 418, 419, 420, 421, 422, 423, 424, 79, 425, 61, 62, 63, 50, 49, 426, 427, 428, 429, 430, 431, 432, 433, 434, 435, 436, 437, 96, 97, 98, 14, 99, 36, 37, 38, 39, 40, 44, 100, 101, 102, 103, 104, 105, 106, 107, 108, 109, 110, 111, 112, 113, 114, 115, 43, 116, 117, 118, 54, 119, 120, 438, 439, 440, 441, 442, 130, 131, 132, 443, 444, 445, 2, 446, 447, 448, 449, 450, 451, 183, 184, 185, 121, 122, 123, 124, 125, 126, 127, 128, 129, 55, 60, 210, 211, 212, 213, 182, 214, 215, 216, 217, 268, 269, 270, 271, 272, 273, 274, 275, 276, 277, 278, 279, 280, 281, 282, 283, 284, 285, 286, 287, 288, 289, 290, 291, 292, 293, 294, 295, 296, 297, 298, 299, 300, 301, 302, 303, 304, 305, 306, 307, 242, 243, 244, 308, 309, 310, 311, 312, 313, 314, 315, 316, 317, 318, 319, 320, 321, 322, 323, 324, 325, 326, 327, 328, 329, 330, 331, 133, 134, 135, 136, 21, 137, 138, 139, 20, 140, 141, 142, 143, 144, 145, 146, 73, 147, 723, 724, 725, 726, 727, 728, 729, 730, 759, 760, 761, 762, 763, 764, 765, 766, 749, 750, 751, 752, 753, 754, 755, 767, 768, 769, 756, 757, 758] (by decide +kernel) (by decide +kernel)
set_option maxRecDepth 20000 in
theorem gL_law_X5_perform : GoodIn wsL_law (wsV RL 51 RX5 yX5_perform wsX5_perform) := goodIn_app (goodIn_of _ (by decide +kernel)) ggL_law_X5_perform
set_option maxRecDepth 20000 in
theorem ggL_law_X6_perform : GoodIn wsL_law wsX6_perform := goodIn_r _ [455, 456, 457, 458, 459, 87, 88, 460, 461, 462, 5, 463, 464, 389, 465, 466, 467, 468, 469, 470, 471, 472, 473, 474, 475, 476, 477, 91, 478, 479, 480, 481, 159, 160, 161, 482, 483, 484, 485, 486, 487, 488, 489, 490, 491, 492, 493, 152, 153, 154, 155, 156, 157, 158, 222, 223, 224, 225, 195, 196, 197, 198, 171, 172, 173, 336, 337, 338, 339, 167, 168, 169, 170, 226, 227, 228, 229, 203, 204, 205, 230, 231, 232, 233, 340, 341, 342, 343, 344, 345, 346, 347, 348, 349, 350, 351, 352, 353, 354, 355, 356, 357, 358, 359, 360, 361, 362, 363, 364, 365, 366, 367, 249, 250, 251, 368, 369, 370, 371, 372, 373, 374, 375, 494, 495, 496, 497, 162, 163, 164, 165, 166, 89, 731, 732, 733, 734, 735, 736, 737, 738, 739, 740, 741, 742, 743, 744, 745, 746, 747, 748] (by decide +kernel) (by decide +kernel)
set_option maxRecDepth 20000 in
theorem gL_law_X6_perform : GoodIn wsL_law (wsV RL 54 RX6 yX6_perform wsX6_perform) := goodIn_app (goodIn_of _ (by decide +kernel)) ggL_law_X6_perform
set_option maxRecDepth 20000 in
theorem ggL_law_X5_stopped : GoodIn wsL_law wsX5_stopped := goodIn_r _ [501, 26, 27, 723, 724, 725, 726, 727, 728, 729, 730] (by decide +kernel) (by decide +kernel)
set_option maxRecDepth 20000 in
theorem gL_law_X5_stopped : GoodIn wsL_law (wsV RL 55 RX5 yX5_stopped wsX5_stopped) := goodIn_app (goodIn_of _ (by decide +kernel)) ggL_law_X5_stopped
set_option maxRecDepth 20000 in
theorem ggL_law_X6_stopped : GoodIn wsL_law wsX6_stopped := goodIn_r _ [505, 457, 458, 459, 159, 160, 5, 161, 731, 732, 733, 734, 735, 736, 737, 738, 739, 740, 741, 742, 743, 744, 745, 746, 747, 748] (by decide +kernel) (by decide +kernel)
set_option maxRecDepth 20000 in
theorem gL_law_X6_stopped : GoodIn wsL_law (wsV RL 58 RX6 yX6_stopped wsX6_stopped) := goodIn_app (goodIn_of _ (by decide +kernel)) ggL_law_X6_stopped
set_option maxRecDepth 20000 in
theorem ggL_law_X5_undo : GoodIn wsL_law wsX5_undo := goodIn_r _ [509, 21, 15, 510, 511, 512, 20, 513, 141, 143, 144, 145, 146, 142, 73, 147, 97, 98, 14, 99, 36, 37, 38, 39, 40, 44, 100, 101, 102, 103, 34, 104, 59, 49, 105, 106, 107, 108, 109, 110, 111, 112, 113, 114, 115, 43, 116, 117, 118, 54, 119, 120, 723, 724, 725, 726, 727, 728, 729, 730, 756, 757, 758, 749, 750, 751, 752, 753, 754, 755, 764, 765, 766, 767, 768, 769] (by decide +kernel) (by decide +kernel)
set_option maxRecDepth 20000 in
theorem gL_law_X5_undo : GoodIn wsL_law (wsV RL 59 RX5 yX5_undo wsX5_undo) := goodIn_app (goodIn_of _ (by decide +kernel)) ggL_law_X5_undo
set_option maxRecDepth 20000 in
theorem ggL_law_X6_undo : GoodIn wsL_law wsX6_undo := goodIn_r _ [517, 166, 87, 89, 731, 732, 733, 734, 735, 736, 737, 738, 739, 740, 741, 742, 743, 744, 745, 746, 747, 748] (by decide +kernel) (by decide +kernel)
set_option maxRecDepth 20000 in
theorem gL_law_X6_undo : GoodIn wsL_law (wsV RL 62 RX6 yX6_undo wsX6_undo) := goodIn_app (goodIn_of _ (by decide +kernel)) ggL_law_X6_undo
set_option maxRecDepth 20000 in
theorem ggL_law_X5_keep : GoodIn wsL_law wsX5_keep := goodIn_r _ [521, 17, 15, 522, 96, 97, 98, 14, 99, 36, 37, 38, 39, 40, 44, 100, 101, 102, 103, 34, 104, 59, 49, 105, 106, 107, 108, 109, 110, 111, 112, 113, 114, 115, 43, 116, 117, 118, 54, 119, 120, 523, 524, 525, 526, 277, 278, 279, 280, 723, 724, 725, 726, 727, 728, 729, 730, 749, 750, 751, 752, 753, 754, 755, 764, 765, 766, 767, 768, 769] (by decide +kernel) (by decide +kernel)
set_option maxRecDepth 20000 in
theorem gL_law_X5_keep : GoodIn wsL_law (wsV RL 63 RX5 yX5_keep wsX5_keep) := goodIn_app (goodIn_of _ (by decide +kernel)) ggL_law_X5_keep
set_option maxRecDepth 20000 in
theorem ggL_law_X6_keep : GoodIn wsL_law wsX6_keep := goodIn_r _ [530, 90, 87, 531, 731, 732, 733, 734, 735, 736, 737, 738, 739, 740, 741, 742, 743, 744, 745, 746, 747, 748] (by decide +kernel) (by decide +kernel)
set_option maxRecDepth 20000 in
theorem gL_law_X6_keep : GoodIn wsL_law (wsV RL 66 RX6 yX6_keep wsX6_keep) := goodIn_app (goodIn_of _ (by decide +kernel)) ggL_law_X6_keep
set_option maxRecDepth 20000 in
theorem ggL_law_X5_restore : GoodIn wsL_law wsX5_restore := goodIn_r _ [535, 522, 16, 17, 96, 97, 98, 14, 99, 36, 37, 38, 39, 40, 44, 100, 101, 102, 103, 34, 104, 59, 49, 105, 106, 107, 108, 109, 110, 111, 112, 113, 114, 115, 43, 116, 117, 118, 54, 119, 120, 523, 524, 525, 526, 277, 278, 279, 280, 133, 134, 135, 2, 136, 21, 15, 137, 138, 139, 20, 140, 141, 142, 143, 144, 145, 146, 73, 147, 723, 724, 725, 726, 727, 728, 729, 730, 749, 750, 751, 752, 753, 754, 755, 764, 765, 766, 767, 768, 769, 756, 757, 758] (by decide +kernel) (by decide +kernel)
set_option maxRecDepth 20000 in
theorem gL_law_X5_restore : GoodIn wsL_law (wsV RL 67 RX5 yX5_restore wsX5_restore) := goodIn_app (goodIn_of _ (by decide +kernel)) ggL_law_X5_restore
set_option maxRecDepth 20000 in
theorem ggL_law_X6_restore : GoodIn wsL_law wsX6_restore := goodIn_r _ [539, 531, 87, 90, 162, 163, 164, 5, 165, 166, 89, 731, 732, 733, 734, 735, 736, 737, 738, 739, 740, 741, 742, 743, 744, 745, 746, 747, 748] (by decide +kernel) (by decide +kernel)
set_option maxRecDepth 20000 in
theorem gL_law_X6_restore : GoodIn wsL_law (wsV RL 70 RX6 yX6_restore wsX6_restore) := goodIn_app (goodIn_of _ (by decide +kernel)) ggL_law_X6_restore
set_option maxRecDepth 20000 in
theorem ggL_law_X5_trader : GoodIn wsL_law wsX5_trader := goodIn_r _ [543, 15, 544, 545, 546, 14, 547, 36, 301, 302, 107, 303, 37, 38, 125, 126, 127, 34, 128, 59, 182, 183, 184, 185, 50, 49, 548, 549, 550, 551, 190, 186, 187, 188, 189, 723, 724, 725, 726, 727, 728, 729, 730, 749, 750, 751, 752, 753, 754, 755, 764, 765, 766] (by decide +kernel) (by decide +kernel)
set_option maxRecDepth 20000 in
theorem gL_law_X5_trader : GoodIn wsL_law (wsV RL 71 RX5 yX5_trader wsX5_trader) := goodIn_app (goodIn_of _ (by decide +kernel)) ggL_law_X5_trader
set_option maxRecDepth 20000 in
theorem ggL_law_X6_trader : GoodIn wsL_law wsX6_trader := goodIn_r _ [555, 87, 156, 157, 5, 158, 159, 160, 161, 556, 557, 558, 559, 171, 172, 173, 560, 561, 562, 563, 203, 204, 205, 731, 732, 733, 734, 735, 736, 737, 738, 739, 740, 741, 742, 743, 744, 745, 746, 747, 748] (by decide +kernel) (by decide +kernel)
set_option maxRecDepth 20000 in
theorem gL_law_X6_trader : GoodIn wsL_law (wsV RL 74 RX6 yX6_trader wsX6_trader) := goodIn_app (goodIn_of _ (by decide +kernel)) ggL_law_X6_trader
set_option maxRecDepth 20000 in
theorem ggL_law_X5_riddle : GoodIn wsL_law wsX5_riddle := goodIn_r _ [567, 15, 568, 569, 570, 14, 571, 37, 38, 125, 126, 127, 34, 128, 59, 182, 183, 184, 185, 50, 49, 548, 549, 550, 551, 190, 186, 187, 188, 189, 572, 573, 574, 575, 723, 724, 725, 726, 727, 728, 729, 730, 749, 750, 751, 752, 753, 754, 755, 764, 765, 766] (by decide +kernel) (by decide +kernel)
set_option maxRecDepth 20000 in
theorem gL_law_X5_riddle : GoodIn wsL_law (wsV RL 75 RX5 yX5_riddle wsX5_riddle) := goodIn_app (goodIn_of _ (by decide +kernel)) ggL_law_X5_riddle
set_option maxRecDepth 20000 in
theorem ggL_law_X6_riddle : GoodIn wsL_law wsX6_riddle := goodIn_r _ [579, 87, 195, 196, 197, 5, 198, 159, 160, 161, 171, 172, 173, 580, 581, 582, 583, 203, 204, 205, 199, 200, 201, 202, 731, 732, 733, 734, 735, 736, 737, 738, 739, 740, 741, 742, 743, 744, 745, 746, 747, 748] (by decide +kernel) (by decide +kernel)
set_option maxRecDepth 20000 in
theorem gL_law_X6_riddle : GoodIn wsL_law (wsV RL 78 RX6 yX6_riddle wsX6_riddle) := goodIn_app (goodIn_of _ (by decide +kernel)) ggL_law_X6_riddle
set_option maxRecDepth 20000 in
theorem ggL_law_X5_answer : GoodIn wsL_law wsX5_answer := goodIn_r _ [587, 15, 588, 589, 590, 14, 591, 38, 44, 125, 126, 127, 34, 128, 59, 592, 593, 594, 43, 595, 118, 285, 286, 287, 288, 117, 54, 182, 183, 184, 185, 50, 49, 723, 724, 725, 726, 727, 728, 729, 730, 749, 750, 751, 752, 753, 754, 755, 764, 765, 766, 767, 768, 769] (by decide +kernel) (by decide +kernel)
set_option maxRecDepth 20000 in
theorem gL_law_X5_answer : GoodIn wsL_law (wsV RL 79 RX5 yX5_answer wsX5_answer) := goodIn_app (goodIn_of _ (by decide +kernel)) ggL_law_X5_answer
set_option maxRecDepth 20000 in
theorem ggL_law_X6_answer : GoodIn wsL_law wsX6_answer := goodIn_r _ [599, 87, 600, 601, 602, 5, 603, 159, 160, 161, 604, 605, 606, 607, 203, 204, 205, 731, 732, 733, 734, 735, 736, 737, 738, 739, 740, 741, 742, 743, 744, 745, 746, 747, 748] (by decide +kernel) (by decide +kernel)
set_option maxRecDepth 20000 in
theorem gL_law_X6_answer : GoodIn wsL_law (wsV RL 82 RX6 yX6_answer wsX6_answer) := goodIn_app (goodIn_of _ (by decide +kernel)) ggL_law_X6_answer
set_option maxRecDepth 20000 in
theorem ggL_law_X5_waits : GoodIn wsL_law wsX5_waits := goodIn_r _ [611, 15, 612, 613, 614, 14, 615, 44, 616, 286, 287, 43, 288, 118, 117, 54, 723, 724, 725, 726, 727, 728, 729, 730, 749, 750, 751, 752, 753, 754, 755, 767, 768, 769] (by decide +kernel) (by decide +kernel)
set_option maxRecDepth 20000 in
theorem gL_law_X5_waits : GoodIn wsL_law (wsV RL 83 RX5 yX5_waits wsX5_waits) := goodIn_app (goodIn_of _ (by decide +kernel)) ggL_law_X5_waits
set_option maxRecDepth 20000 in
theorem ggL_law_X6_waits : GoodIn wsL_law wsX6_waits := goodIn_r _ [620, 87, 731, 732, 733, 734, 735, 736, 737, 738, 739, 740, 741, 742, 743, 744, 745, 746, 747, 748] (by decide +kernel) (by decide +kernel)
set_option maxRecDepth 20000 in
theorem gL_law_X6_waits : GoodIn wsL_law (wsV RL 86 RX6 yX6_waits wsX6_waits) := goodIn_app (goodIn_of _ (by decide +kernel)) ggL_law_X6_waits
set_option maxRecDepth 20000 in
theorem ggL_law_X5_weigh : GoodIn wsL_law wsX5_weigh := goodIn_r _ [624, 15, 625, 298, 299, 14, 300, 39, 301, 302, 107, 303, 182, 183, 184, 34, 185, 50, 49, 723, 724, 725, 726, 727, 728, 729, 730, 749, 750, 751, 752, 753, 754, 755, 764, 765, 766] (by decide +kernel) (by decide +kernel)
set_option maxRecDepth 20000 in
theorem gL_law_X5_weigh : GoodIn wsL_law (wsV RL 87 RX5 yX5_weigh wsX5_weigh) := goodIn_app (goodIn_of _ (by decide +kernel)) ggL_law_X5_weigh
set_option maxRecDepth 20000 in
theorem ggL_law_X6_weigh : GoodIn wsL_law wsX6_weigh := goodIn_r _ [629, 159, 160, 5, 161, 360, 361, 362, 363, 87, 731, 732, 733, 734, 735, 736, 737, 738, 739, 740, 741, 742, 743, 744, 745, 746, 747, 748] (by decide +kernel) (by decide +kernel)
set_option maxRecDepth 20000 in
theorem gL_law_X6_weigh : GoodIn wsL_law (wsV RL 90 RX6 yX6_weigh wsX6_weigh) := goodIn_app (goodIn_of _ (by decide +kernel)) ggL_law_X6_weigh
set_option maxRecDepth 20000 in
theorem ggL_law_X5_reason : GoodIn wsL_law wsX5_reason := goodIn_r _ [633, 15, 634, 635, 636, 14, 637, 38, 125, 126, 127, 34, 128, 59, 182, 183, 184, 185, 50, 49, 638, 294, 295, 296, 37, 297, 298, 299, 300, 39, 301, 302, 107, 303, 639, 305, 306, 307, 242, 243, 244, 40, 36, 723, 724, 725, 726, 727, 728, 729, 730, 749, 750, 751, 752, 753, 754, 755, 764, 765, 766] (by decide +kernel) (by decide +kernel)
set_option maxRecDepth 20000 in
theorem gL_law_X5_reason : GoodIn wsL_law (wsV RL 91 RX5 yX5_reason wsX5_reason) := goodIn_app (goodIn_of _ (by decide +kernel)) ggL_law_X5_reason
set_option maxRecDepth 20000 in
theorem ggL_law_X6_reason : GoodIn wsL_law wsX6_reason := goodIn_r _ [643, 87, 600, 601, 602, 5, 603, 159, 160, 161, 203, 204, 205, 360, 361, 362, 363, 171, 172, 173, 249, 250, 251, 368, 369, 370, 371, 372, 373, 374, 375, 731, 732, 733, 734, 735, 736, 737, 738, 739, 740, 741, 742, 743, 744, 745, 746, 747, 748] (by decide +kernel) (by decide +kernel)
set_option maxRecDepth 20000 in
theorem gL_law_X6_reason : GoodIn wsL_law (wsV RL 94 RX6 yX6_reason wsX6_reason) := goodIn_app (goodIn_of _ (by decide +kernel)) ggL_law_X6_reason
set_option maxRecDepth 20000 in
theorem ggL_law_X5_settledIn : GoodIn wsL_law wsX5_settledIn := goodIn_r _ [647, 15, 16, 634, 635, 636, 14, 637, 38, 125, 126, 127, 34, 128, 59, 182, 183, 184, 185, 50, 49, 96, 97, 98, 99, 36, 37, 39, 40, 44, 100, 101, 102, 103, 104, 105, 106, 107, 108, 109, 110, 111, 112, 113, 114, 115, 43, 116, 117, 118, 54, 119, 120, 648, 273, 274, 275, 276, 277, 278, 279, 280, 281, 282, 283, 284, 285, 286, 287, 288, 289, 290, 291, 292, 293, 294, 295, 296, 297, 298, 299, 300, 301, 302, 303, 304, 305, 306, 307, 242, 243, 244, 308, 309, 310, 311, 60, 61, 62, 63, 312, 313, 314, 315, 316, 317, 318, 319, 320, 321, 322, 323, 214, 215, 216, 217, 324, 325, 326, 327, 328, 329, 330, 331, 723, 724, 725, 726, 727, 728, 729, 730, 749, 750, 751, 752, 753, 754, 755, 764, 765, 766, 767, 768, 769] (by decide +kernel) (by decide +kernel)
set_option maxRecDepth 20000 in
theorem gL_law_X5_settledIn : GoodIn wsL_law (wsV RL 95 RX5 yX5_settledIn wsX5_settledIn) := goodIn_app (goodIn_of _ (by decide +kernel)) ggL_law_X5_settledIn
set_option maxRecDepth 20000 in
theorem ggL_law_X6_settledIn : GoodIn wsL_law wsX6_settledIn := goodIn_r _ [652, 87, 600, 601, 602, 5, 603, 159, 160, 161, 203, 204, 205, 486, 487, 488, 489, 88, 348, 349, 350, 351, 352, 353, 354, 355, 171, 172, 173, 356, 357, 358, 359, 360, 361, 362, 363, 364, 365, 366, 367, 249, 250, 251, 230, 231, 232, 233, 368, 369, 370, 371, 372, 373, 374, 375, 494, 495, 496, 497, 731, 732, 733, 734, 735, 736, 737, 738, 739, 740, 741, 742, 743, 744, 745, 746, 747, 748] (by decide +kernel) (by decide +kernel)
set_option maxRecDepth 20000 in
theorem gL_law_X6_settledIn : GoodIn wsL_law (wsV RL 98 RX6 yX6_settledIn wsX6_settledIn) := goodIn_app (goodIn_of _ (by decide +kernel)) ggL_law_X6_settledIn
set_option maxRecDepth 20000 in
theorem ggL_law_X5_ifRounds : GoodIn wsL_law wsX5_ifRounds := goodIn_r _ [656, 16, 15, 96, 97, 98, 14, 99, 36, 37, 38, 39, 40, 44, 100, 101, 102, 103, 34, 104, 59, 49, 105, 106, 107, 108, 109, 110, 111, 112, 113, 114, 115, 43, 116, 117, 118, 54, 119, 120, 238, 239, 240, 241, 242, 243, 244, 182, 183, 184, 185, 50, 60, 61, 62, 63, 648, 273, 274, 275, 276, 277, 278, 279, 280, 281, 282, 283, 284, 285, 286, 287, 288, 289, 290, 291, 292, 293, 294, 295, 296, 297, 298, 299, 300, 301, 302, 303, 304, 305, 306, 307, 308, 309, 310, 311, 312, 313, 314, 315, 316, 317, 318, 319, 320, 321, 322, 323, 214, 215, 216, 217, 324, 325, 326, 327, 328, 329, 330, 331, 723, 724, 725, 726, 727, 728, 729, 730, 749, 750, 751, 752, 753, 754, 755, 764, 765, 766, 767, 768, 769] (by decide +kernel) (by decide +kernel)
set_option maxRecDepth 20000 in
theorem gL_law_X5_ifRounds : GoodIn wsL_law (wsV RL 99 RX5 yX5_ifRounds wsX5_ifRounds) := goodIn_app (goodIn_of _ (by decide +kernel)) ggL_law_X5_ifRounds
set_option maxRecDepth 20000 in
theorem ggL_law_X6_ifRounds : GoodIn wsL_law wsX6_ifRounds := goodIn_r _ [660, 87, 159, 160, 5, 161, 486, 487, 488, 489, 88, 340, 341, 342, 343, 344, 345, 346, 347, 203, 204, 205, 348, 349, 350, 351, 352, 353, 354, 355, 171, 172, 173, 356, 357, 358, 359, 360, 361, 362, 363, 364, 365, 366, 367, 249, 250, 251, 230, 231, 232, 233, 368, 369, 370, 371, 372, 373, 374, 375, 494, 495, 496, 497, 731, 732, 733, 734, 735, 736, 737, 738, 739, 740, 741, 742, 743, 744, 745, 746, 747, 748] (by decide +kernel) (by decide +kernel)
set_option maxRecDepth 20000 in
theorem gL_law_X6_ifRounds : GoodIn wsL_law (wsV RL 103 RX6 yX6_ifRounds wsX6_ifRounds) := goodIn_app (goodIn_of _ (by decide +kernel)) ggL_law_X6_ifRounds
set_option maxRecDepth 20000 in
theorem ggL_law_X5_richest : GoodIn wsL_law wsX5_richest := goodIn_r _ [664, 15, 665, 666, 667, 14, 668, 36, 182, 183, 184, 34, 185, 50, 49, 723, 724, 725, 726, 727, 728, 729, 730, 749, 750, 751, 752, 753, 754, 755, 764, 765, 766] (by decide +kernel) (by decide +kernel)
set_option maxRecDepth 20000 in
theorem gL_law_X5_richest : GoodIn wsL_law (wsV RL 104 RX5 yX5_richest wsX5_richest) := goodIn_app (goodIn_of _ (by decide +kernel)) ggL_law_X5_richest
set_option maxRecDepth 20000 in
theorem ggL_law_X6_richest : GoodIn wsL_law wsX6_richest := goodIn_r _ [672, 87, 731, 732, 733, 734, 735, 736, 737, 738, 739, 740, 741, 742, 743, 744, 745, 746, 747, 748] (by decide +kernel) (by decide +kernel)
set_option maxRecDepth 20000 in
theorem gL_law_X6_richest : GoodIn wsL_law (wsV RL 107 RX6 yX6_richest wsX6_richest) := goodIn_app (goodIn_of _ (by decide +kernel)) ggL_law_X6_richest
set_option maxRecDepth 20000 in
theorem ggL_law_X5_account : GoodIn wsL_law wsX5_account := goodIn_r _ [676, 15, 677, 678, 679, 14, 680, 36, 38, 37, 681, 125, 126, 127, 34, 128, 59, 182, 183, 184, 185, 50, 49, 129, 130, 131, 132, 723, 724, 725, 726, 727, 728, 729, 730, 749, 750, 751, 752, 753, 754, 755, 764, 765, 766] (by decide +kernel) (by decide +kernel)
set_option maxRecDepth 20000 in
theorem gL_law_X5_account : GoodIn wsL_law (wsV RL 108 RX5 yX5_account wsX5_account) := goodIn_app (goodIn_of _ (by decide +kernel)) ggL_law_X5_account
set_option maxRecDepth 20000 in
theorem ggL_law_X6_account : GoodIn wsL_law wsX6_account := goodIn_r _ [685, 686, 87, 156, 157, 5, 158, 159, 160, 161, 203, 204, 205, 171, 172, 173, 731, 732, 733, 734, 735, 736, 737, 738, 739, 740, 741, 742, 743, 744, 745, 746, 747, 748] (by decide +kernel) (by decide +kernel)
set_option maxRecDepth 20000 in
theorem gL_law_X6_account : GoodIn wsL_law (wsV RL 111 RX6 yX6_account wsX6_account) := goodIn_app (goodIn_of _ (by decide +kernel)) ggL_law_X6_account
set_option maxRecDepth 20000 in
theorem ggL_law_X5_count : GoodIn wsL_law wsX5_count := goodIn_r _ [690, 21, 25, 15, 691, 692, 693, 20, 694, 141, 695, 696, 697, 24, 698, 384, 699, 700, 701, 14, 702, 100, 37, 38, 44, 39, 36, 40, 129, 130, 131, 34, 132, 59, 548, 549, 550, 551, 190, 183, 184, 185, 50, 49, 277, 278, 279, 43, 280, 118, 703, 704, 705, 706, 707, 708, 709, 710, 182, 723, 724, 725, 726, 727, 728, 729, 730, 756, 757, 758, 759, 760, 761, 762, 763, 749, 750, 751, 752, 753, 754, 755, 764, 765, 766, 767, 768, 769] (by decide +kernel) (by decide +kernel)
set_option maxRecDepth 20000 in
theorem gL_law_X5_count : GoodIn wsL_law (wsV RL 112 RX5 yX5_count wsX5_count) := goodIn_app (goodIn_of _ (by decide +kernel)) ggL_law_X5_count
set_option maxRecDepth 20000 in
theorem ggL_law_X6_count : GoodIn wsL_law wsX6_count := goodIn_r _ [714, 87, 166, 389, 715, 716, 717, 5, 718, 171, 172, 173, 344, 345, 346, 347, 203, 204, 205, 719, 720, 721, 722, 731, 732, 733, 734, 735, 736, 737, 738, 739, 740, 741, 742, 743, 744, 745, 746, 747, 748] (by decide +kernel) (by decide +kernel)
set_option maxRecDepth 20000 in
theorem gL_law_X6_count : GoodIn wsL_law (wsV RL 115 RX6 yX6_count wsX6_count) := goodIn_app (goodIn_of _ (by decide +kernel)) ggL_law_X6_count
