set_option maxRecDepth 20000 in
theorem ggL_law_X5_init : GoodIn wsL_law wsX5_init := goodIn_r _ [8, 9, 10, 11, 12, 13, 14, 15, 16, 17, 18, 19, 20, 21, 22, 23, 24, 25, 26, 27, 28, 29, 30, 31, 32, 33, 34, 35, 36, 37, 38, 39, 40, 41, 42, 43, 44, 45, 46, 47, 48, 49, 50, 51, 52, 53, 54, 55, 56, 57, 58, 59, 60, 61, 62, 63, 64, 65, 66, 67, 68, 69, 70, 71, 72, 73, 74, 75, 76, 77, 78, 79, 80, 81, 82, 749, 750, 751, 752, 753, 754, 755, 723, 724, 725, 726, 727, 728, 729, 730, 756, 757, 758, 759, 760, 761, 762, 763, 764, 765, 766, 767, 768, 769] (by decide +kernel) (by decide +kernel)
set_option maxRecDepth 20000 in
theorem gL_law_X5_init : GoodIn wsL_law (wsX5_init) := ggL_law_X5_init
set_option maxRecDepth 20000 in
theorem ggL_law_X6_init : GoodIn wsL_law wsX6_init := goodIn_r _ [85, 86, 10, 11, 35, 87, 88, 89, 90, 78, 91, 731, 732, 733, 734, 735, 736, 737, 738, 739, 740, 741, 742, 743, 744, 745, 746, 747, 748] (by decide +kernel) (by decide +kernel)
set_option maxRecDepth 20000 in
theorem gL_law_X6_init : GoodIn wsL_law (wsX6_init) := ggL_law_X6_init
set_option maxRecDepth 20000 in
theorem ggL_law_X5_ask : GoodIn wsL_law wsX5_ask := goodIn_r _ [95, 16, 15, 96, 97, 98, 14, 99, 36, 37, 38, 39, 40, 44, 100, 101, 102, 103, 34, 104, 59, 49, 105, 106, 107, 108, 109, 110, 111, 112, 113, 114, 115, 43, 116, 117, 118, 54, 119, 120, 121, 122, 123, 124, 125, 126, 127, 128, 129, 130, 131, 132, 55, 56, 57, 58, 60, 61, 62, 63, 50, 133, 134, 135, 2, 136, 21, 137, 138, 139, 20, 140, 141, 142, 143, 144, 145, 146, 73, 147, 723, 724, 725, 726, 727, 728, 729, 730, 749, 750, 751, 752, 753, 754, 755, 764, 765, 766, 767, 768, 769, 756, 757, 758] (by decide +kernel) (by decide +kernel)
set_option maxRecDepth 20000 in
theorem gL_law_X5_ask : GoodIn wsL_law (wsV RL 13 RX5 yX5_ask wsX5_ask) := goodIn_app (goodIn_of _ (by decide +kernel)) ggL_law_X5_ask
set_option maxRecDepth 20000 in
theorem ggL_law_X6_ask : GoodIn wsL_law wsX6_ask := goodIn_r _ [151, 152, 153, 154, 5, 155, 87, 156, 157, 158, 159, 160, 161, 162, 163, 164, 165, 166, 89, 167, 168, 169, 170, 171, 172, 173, 731, 732, 733, 734, 735, 736, 737, 738, 739, 740, 741, 742, 743, 744, 745, 746, 747, 748] (by decide +kernel) (by decide +kernel)
set_option maxRecDepth 20000 in
theorem gL_law_X6_ask : GoodIn wsL_law (wsV RL 17 RX6 yX6_ask wsX6_ask) := goodIn_app (goodIn_of _ (by decide +kernel)) ggL_law_X6_ask
set_option maxRecDepth 20000 in
theorem ggL_law_X5_withdraw : GoodIn wsL_law wsX5_withdraw := goodIn_r _ [177, 16, 15, 96, 97, 98, 14, 99, 36, 37, 38, 39, 40, 44, 100, 101, 102, 103, 34, 104, 59, 49, 105, 106, 107, 108, 109, 110, 111, 112, 113, 114, 115, 43, 116, 117, 118, 54, 119, 120, 178, 179, 180, 181, 125, 126, 127, 128, 182, 183, 184, 185, 50, 60, 61, 62, 63, 186, 187, 188, 189, 190, 133, 134, 135, 2, 136, 21, 137, 138, 139, 20, 140, 141, 142, 143, 144, 145, 146, 73, 147, 723, 724, 725, 726, 727, 728, 729, 730, 749, 750, 751, 752, 753, 754, 755, 764, 765, 766, 767, 768, 769, 756, 757, 758] (by decide +kernel) (by decide +kernel)
set_option maxRecDepth 20000 in
theorem gL_law_X5_withdraw : GoodIn wsL_law (wsV RL 18 RX5 yX5_withdraw wsX5_withdraw) := goodIn_app (goodIn_of _ (by decide +kernel)) ggL_law_X5_withdraw
set_option maxRecDepth 20000 in
theorem ggL_law_X6_withdraw : GoodIn wsL_law wsX6_withdraw := goodIn_r _ [194, 87, 195, 196, 197, 5, 198, 159, 160, 161, 171, 172, 173, 162, 163, 164, 165, 166, 89, 199, 200, 201, 202, 203, 204, 205, 731, 732, 733, 734, 735, 736, 737, 738, 739, 740, 741, 742, 743, 744, 745, 746, 747, 748] (by decide +kernel) (by decide +kernel)
set_option maxRecDepth 20000 in
theorem gL_law_X6_withdraw : GoodIn wsL_law (wsV RL 22 RX6 yX6_withdraw wsX6_withdraw) := goodIn_app (goodIn_of _ (by decide +kernel)) ggL_law_X6_withdraw
