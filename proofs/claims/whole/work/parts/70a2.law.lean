set_option maxRecDepth 20000 in
theorem ggL_law_X5_deliver : GoodIn wsL_law wsX5_deliver := goodIn_r _ [209, 16, 15, 96, 97, 98, 14, 99, 36, 37, 38, 39, 40, 44, 100, 101, 102, 103, 34, 104, 59, 49, 105, 106, 107, 108, 109, 110, 111, 112, 113, 114, 115, 43, 116, 117, 118, 54, 119, 120, 210, 211, 212, 213, 125, 126, 127, 128, 182, 183, 184, 185, 50, 129, 130, 131, 132, 55, 56, 57, 58, 60, 61, 62, 63, 214, 215, 216, 217, 133, 134, 135, 2, 136, 21, 137, 138, 139, 20, 140, 141, 142, 143, 144, 145, 146, 73, 147, 723, 724, 725, 726, 727, 728, 729, 730, 749, 750, 751, 752, 753, 754, 755, 764, 765, 766, 767, 768, 769, 756, 757, 758] (by decide +kernel) (by decide +kernel)
set_option maxRecDepth 20000 in
theorem gL_law_X5_deliver : GoodIn wsL_law (wsV RL 23 RX5 yX5_deliver wsX5_deliver) := goodIn_app (goodIn_of _ (by decide +kernel)) ggL_law_X5_deliver
set_option maxRecDepth 20000 in
theorem ggL_law_X6_deliver : GoodIn wsL_law wsX6_deliver := goodIn_r _ [221, 222, 223, 224, 5, 225, 87, 156, 157, 158, 159, 160, 161, 195, 196, 197, 198, 171, 172, 173, 162, 163, 164, 165, 166, 89, 226, 227, 228, 229, 203, 204, 205, 230, 231, 232, 233, 731, 732, 733, 734, 735, 736, 737, 738, 739, 740, 741, 742, 743, 744, 745, 746, 747, 748] (by decide +kernel) (by decide +kernel)
set_option maxRecDepth 20000 in
theorem gL_law_X6_deliver : GoodIn wsL_law (wsV RL 27 RX6 yX6_deliver wsX6_deliver) := goodIn_app (goodIn_of _ (by decide +kernel)) ggL_law_X6_deliver
set_option maxRecDepth 20000 in
theorem ggL_law_X5_adjust : GoodIn wsL_law wsX5_adjust := goodIn_r _ [237, 16, 15, 96, 97, 98, 14, 99, 36, 37, 38, 39, 40, 44, 100, 101, 102, 103, 34, 104, 59, 49, 105, 106, 107, 108, 109, 110, 111, 112, 113, 114, 115, 43, 116, 117, 118, 54, 119, 120, 238, 239, 240, 241, 242, 243, 244, 182, 183, 184, 185, 50, 60, 61, 62, 63, 133, 134, 135, 2, 136, 21, 137, 138, 139, 20, 140, 141, 142, 143, 144, 145, 146, 73, 147, 723, 724, 725, 726, 727, 728, 729, 730, 749, 750, 751, 752, 753, 754, 755, 764, 765, 766, 767, 768, 769, 756, 757, 758] (by decide +kernel) (by decide +kernel)
set_option maxRecDepth 20000 in
theorem gL_law_X5_adjust : GoodIn wsL_law (wsV RL 28 RX5 yX5_adjust wsX5_adjust) := goodIn_app (goodIn_of _ (by decide +kernel)) ggL_law_X5_adjust
set_option maxRecDepth 20000 in
theorem ggL_law_X6_adjust : GoodIn wsL_law wsX6_adjust := goodIn_r _ [248, 87, 249, 250, 5, 251, 162, 163, 164, 165, 166, 89, 731, 732, 733, 734, 735, 736, 737, 738, 739, 740, 741, 742, 743, 744, 745, 746, 747, 748] (by decide +kernel) (by decide +kernel)
set_option maxRecDepth 20000 in
theorem gL_law_X6_adjust : GoodIn wsL_law (wsV RL 32 RX6 yX6_adjust wsX6_adjust) := goodIn_app (goodIn_of _ (by decide +kernel)) ggL_law_X6_adjust
set_option maxRecDepth 20000 in
theorem ggL_law_X5_set : GoodIn wsL_law wsX5_set := goodIn_r _ [255, 16, 15, 96, 97, 98, 14, 99, 36, 37, 38, 39, 40, 44, 100, 101, 102, 103, 34, 104, 59, 49, 105, 106, 107, 108, 109, 110, 111, 112, 113, 114, 115, 43, 116, 117, 118, 54, 119, 120, 256, 257, 258, 259, 125, 126, 127, 128, 182, 183, 184, 185, 50, 60, 61, 62, 63, 133, 134, 135, 2, 136, 21, 137, 138, 139, 20, 140, 141, 142, 143, 144, 145, 146, 73, 147, 723, 724, 725, 726, 727, 728, 729, 730, 749, 750, 751, 752, 753, 754, 755, 764, 765, 766, 767, 768, 769, 756, 757, 758] (by decide +kernel) (by decide +kernel)
set_option maxRecDepth 20000 in
theorem gL_law_X5_set : GoodIn wsL_law (wsV RL 33 RX5 yX5_set wsX5_set) := goodIn_app (goodIn_of _ (by decide +kernel)) ggL_law_X5_set
set_option maxRecDepth 20000 in
theorem ggL_law_X6_set : GoodIn wsL_law wsX6_set := goodIn_r _ [263, 87, 159, 160, 5, 161, 162, 163, 164, 165, 166, 89, 731, 732, 733, 734, 735, 736, 737, 738, 739, 740, 741, 742, 743, 744, 745, 746, 747, 748] (by decide +kernel) (by decide +kernel)
set_option maxRecDepth 20000 in
theorem gL_law_X6_set : GoodIn wsL_law (wsV RL 37 RX6 yX6_set wsX6_set) := goodIn_app (goodIn_of _ (by decide +kernel)) ggL_law_X6_set
set_option maxRecDepth 20000 in
theorem ggL_law_X5_pass : GoodIn wsL_law wsX5_pass := goodIn_r _ [267, 16, 15, 96, 97, 98, 14, 99, 36, 37, 38, 39, 40, 44, 100, 101, 102, 103, 34, 104, 59, 49, 105, 106, 107, 108, 109, 110, 111, 112, 113, 114, 115, 43, 116, 117, 118, 54, 119, 120, 268, 269, 270, 271, 272, 273, 274, 275, 276, 182, 183, 184, 185, 50, 277, 278, 279, 280, 281, 282, 283, 284, 285, 286, 287, 288, 289, 290, 291, 292, 293, 294, 295, 296, 297, 298, 299, 300, 301, 302, 303, 304, 305, 306, 307, 242, 243, 244, 308, 309, 310, 311, 60, 61, 62, 63, 312, 313, 314, 315, 316, 317, 318, 319, 320, 321, 322, 323, 214, 215, 216, 217, 324, 325, 326, 327, 328, 329, 330, 331, 133, 134, 135, 2, 136, 21, 137, 138, 139, 20, 140, 141, 142, 143, 144, 145, 146, 73, 147, 723, 724, 725, 726, 727, 728, 729, 730, 749, 750, 751, 752, 753, 754, 755, 764, 765, 766, 767, 768, 769, 756, 757, 758] (by decide +kernel) (by decide +kernel)
set_option maxRecDepth 20000 in
theorem gL_law_X5_pass : GoodIn wsL_law (wsV RL 38 RX5 yX5_pass wsX5_pass) := goodIn_app (goodIn_of _ (by decide +kernel)) ggL_law_X5_pass
set_option maxRecDepth 20000 in
theorem ggL_law_X6_pass : GoodIn wsL_law wsX6_pass := goodIn_r _ [335, 336, 337, 338, 5, 339, 87, 159, 160, 161, 162, 163, 164, 165, 166, 89, 340, 341, 342, 343, 344, 345, 346, 347, 203, 204, 205, 348, 349, 350, 351, 352, 353, 354, 355, 171, 172, 173, 356, 357, 358, 359, 360, 361, 362, 363, 364, 365, 366, 367, 249, 250, 251, 230, 231, 232, 233, 368, 369, 370, 371, 372, 373, 374, 375, 731, 732, 733, 734, 735, 736, 737, 738, 739, 740, 741, 742, 743, 744, 745, 746, 747, 748] (by decide +kernel) (by decide +kernel)
set_option maxRecDepth 20000 in
theorem gL_law_X6_pass : GoodIn wsL_law (wsV RL 41 RX6 yX6_pass wsX6_pass) := goodIn_app (goodIn_of _ (by decide +kernel)) ggL_law_X6_pass
set_option maxRecDepth 20000 in
theorem ggL_law_X5_type : GoodIn wsL_law wsX5_type := goodIn_r _ [379, 25, 380, 381, 382, 24, 383, 384, 79, 723, 724, 725, 726, 727, 728, 729, 730, 759, 760, 761, 762, 763] (by decide +kernel) (by decide +kernel)
set_option maxRecDepth 20000 in
theorem gL_law_X5_type : GoodIn wsL_law (wsV RL 42 RX5 yX5_type wsX5_type) := goodIn_app (goodIn_of _ (by decide +kernel)) ggL_law_X5_type
set_option maxRecDepth 20000 in
theorem ggL_law_X6_type : GoodIn wsL_law wsX6_type := goodIn_r _ [388, 389, 91, 731, 732, 733, 734, 735, 736, 737, 738, 739, 740, 741, 742, 743, 744, 745, 746, 747, 748] (by decide +kernel) (by decide +kernel)
set_option maxRecDepth 20000 in
theorem gL_law_X6_type : GoodIn wsL_law (wsV RL 46 RX6 yX6_type wsX6_type) := goodIn_app (goodIn_of _ (by decide +kernel)) ggL_law_X6_type
set_option maxRecDepth 20000 in
theorem ggL_law_X5_clearText : GoodIn wsL_law wsX5_clearText := goodIn_r _ [393, 25, 394, 395, 396, 24, 397, 384, 723, 724, 725, 726, 727, 728, 729, 730, 759, 760, 761, 762, 763] (by decide +kernel) (by decide +kernel)
set_option maxRecDepth 20000 in
theorem gL_law_X5_clearText : GoodIn wsL_law (wsV RL 47 RX5 yX5_clearText wsX5_clearText) := goodIn_app (goodIn_of _ (by decide +kernel)) ggL_law_X5_clearText
set_option maxRecDepth 20000 in
theorem ggL_law_X6_clearText : GoodIn wsL_law wsX6_clearText := goodIn_r _ [401, 389, 731, 732, 733, 734, 735, 736, 737, 738, 739, 740, 741, 742, 743, 744, 745, 746, 747, 748] (by decide +kernel) (by decide +kernel)
set_option maxRecDepth 20000 in
theorem gL_law_X6_clearText : GoodIn wsL_law (wsV RL 50 RX6 yX6_clearText wsX6_clearText) := goodIn_app (goodIn_of _ (by decide +kernel)) ggL_law_X6_clearText
