set_option maxRecDepth 20000 in
theorem ggL_law_X5_init : GoodIn wsL_law wsX5_init := goodIn_r _ [8, 9, 10, 11, 12, 13, 14, 15, 16, 17, 18, 19, 20, 21, 22, 23, 24, 25, 26, 27, 28, 29, 30, 31, 32, 33, 34, 35, 36, 37, 38, 39, 40, 41, 42, 43, 44, 45, 46, 47, 48, 49, 50, 51, 52, 53, 54, 675, 676, 677, 644, 645, 646, 647, 648, 649, 650, 651, 678, 679, 680, 681] (by decide +kernel) (by decide +kernel)
set_option maxRecDepth 20000 in
theorem gL_law_X5_init : GoodIn wsL_law (wsX5_init) := ggL_law_X5_init
set_option maxRecDepth 20000 in
theorem ggL_law_X6_init : GoodIn wsL_law wsX6_init := goodIn_r _ [57, 58, 10, 11, 59, 60, 22, 61, 62, 63, 64, 65, 66, 67, 68, 69, 70, 71, 72, 73, 74, 75, 76, 77, 652, 653, 654, 655, 656, 657, 658, 659, 660, 661, 662, 663, 664, 665, 666, 667, 668, 669, 670, 671, 672, 673, 674] (by decide +kernel) (by decide +kernel)
set_option maxRecDepth 20000 in
theorem gL_law_X6_init : GoodIn wsL_law (wsX6_init) := ggL_law_X6_init
set_option maxRecDepth 20000 in
theorem ggL_law_X5_pass : GoodIn wsL_law wsX5_pass := goodIn_r _ [81, 82, 21, 83, 84, 85, 20, 86, 48, 49, 87, 88, 89, 90, 644, 645, 646, 647, 648, 649, 650, 651, 678, 679] (by decide +kernel) (by decide +kernel)
set_option maxRecDepth 20000 in
theorem gL_law_X5_pass : GoodIn wsL_law (wsV RL 13 RX5 yX5_pass wsX5_pass) := goodIn_app (goodIn_of _ (by decide +kernel)) ggL_law_X5_pass
set_option maxRecDepth 20000 in
theorem ggL_law_X6_pass : GoodIn wsL_law wsX6_pass := goodIn_r _ [94, 95, 96, 60, 61, 97, 98, 5, 99, 652, 653, 654, 655, 656, 657, 658, 659, 660, 661, 662, 663, 664, 665, 666, 667, 668, 669, 670, 671, 672, 673, 674] (by decide +kernel) (by decide +kernel)
set_option maxRecDepth 20000 in
theorem gL_law_X6_pass : GoodIn wsL_law (wsV RL 17 RX6 yX6_pass wsX6_pass) := goodIn_app (goodIn_of _ (by decide +kernel)) ggL_law_X6_pass
set_option maxRecDepth 20000 in
theorem ggL_law_X5_tell : GoodIn wsL_law wsX5_tell := goodIn_r _ [103, 104, 15, 105, 82, 16, 106, 107, 108, 109, 110, 111, 112, 113, 2, 114, 115, 116, 117, 118, 119, 120, 121, 122, 14, 123, 124, 125, 126, 127, 128, 129, 130, 131, 132, 133, 134, 135, 136, 137, 138, 139, 140, 33, 141, 142, 143, 144, 10, 11, 145, 146, 147, 148, 149, 150, 151, 152, 153, 154, 155, 156, 157, 158, 159, 160, 161, 162, 163, 164, 165, 32, 166, 167, 168, 169, 170, 171, 172, 173, 174, 175, 176, 177, 178, 179, 180, 181, 182, 183, 184, 185, 186, 187, 188, 189, 190, 191, 192, 193, 194, 195, 196, 88, 89, 90, 197, 198, 199, 200, 201, 202, 203, 204, 205, 206, 207, 208, 209, 210, 644, 645, 646, 647, 648, 649, 650, 651, 682, 683, 684, 685, 686, 687, 688, 689, 690, 675, 676, 677] (by decide +kernel) (by decide +kernel)
set_option maxRecDepth 20000 in
theorem gL_law_X5_tell : GoodIn wsL_law (wsV RL 18 RX5 yX5_tell wsX5_tell) := goodIn_app (goodIn_of _ (by decide +kernel)) ggL_law_X5_tell
set_option maxRecDepth 20000 in
theorem ggL_law_X6_tell : GoodIn wsL_law wsX6_tell := goodIn_r _ [214, 215, 66, 96, 216, 217, 62, 65, 63, 64, 68, 69, 70, 67, 218, 219, 5, 220, 221, 97, 98, 99, 222, 223, 224, 225, 652, 653, 654, 655, 656, 657, 658, 659, 660, 661, 662, 663, 664, 665, 666, 667, 668, 669, 670, 671, 672, 673, 674] (by decide +kernel) (by decide +kernel)
set_option maxRecDepth 20000 in
theorem gL_law_X6_tell : GoodIn wsL_law (wsV RL 22 RX6 yX6_tell wsX6_tell) := goodIn_app (goodIn_of _ (by decide +kernel)) ggL_law_X6_tell
set_option maxRecDepth 20000 in
theorem ggL_law_X5_series : GoodIn wsL_law wsX5_series := goodIn_r _ [229, 15, 105, 230, 231, 232, 2, 233, 120, 121, 122, 14, 123, 124, 125, 126, 127, 128, 129, 130, 131, 132, 133, 134, 135, 136, 137, 138, 139, 140, 33, 644, 645, 646, 647, 648, 649, 650, 651, 682, 683, 684, 685, 686, 687, 675, 676, 677] (by decide +kernel) (by decide +kernel)
set_option maxRecDepth 20000 in
theorem gL_law_X5_series : GoodIn wsL_law (wsV RL 23 RX5 yX5_series wsX5_series) := goodIn_app (goodIn_of _ (by decide +kernel)) ggL_law_X5_series
set_option maxRecDepth 20000 in
theorem ggL_law_X6_series : GoodIn wsL_law wsX6_series := goodIn_r _ [237, 216, 62, 63, 64, 65, 66, 67, 97, 98, 5, 99, 652, 653, 654, 655, 656, 657, 658, 659, 660, 661, 662, 663, 664, 665, 666, 667, 668, 669, 670, 671, 672, 673, 674] (by decide +kernel) (by decide +kernel)
set_option maxRecDepth 20000 in
theorem gL_law_X6_series : GoodIn wsL_law (wsV RL 26 RX6 yX6_series wsX6_series) := goodIn_app (goodIn_of _ (by decide +kernel)) ggL_law_X6_series
set_option maxRecDepth 20000 in
theorem ggL_law_X5_find : GoodIn wsL_law wsX5_find := goodIn_r _ [241, 112, 113, 2, 114, 115, 116, 117, 118, 119, 15, 105, 120, 121, 122, 14, 123, 124, 125, 126, 127, 128, 129, 130, 131, 132, 133, 134, 135, 136, 137, 138, 139, 140, 33, 644, 645, 646, 647, 648, 649, 650, 651, 682, 683, 684, 685, 686, 687, 675, 676, 677] (by decide +kernel) (by decide +kernel)
set_option maxRecDepth 20000 in
theorem gL_law_X5_find : GoodIn wsL_law (wsV RL 27 RX5 yX5_find wsX5_find) := goodIn_app (goodIn_of _ (by decide +kernel)) ggL_law_X5_find
set_option maxRecDepth 20000 in
theorem ggL_law_X6_find : GoodIn wsL_law wsX6_find := goodIn_r _ [245, 218, 219, 5, 220, 221, 97, 98, 99, 222, 223, 224, 225, 216, 62, 652, 653, 654, 655, 656, 657, 658, 659, 660, 661, 662, 663, 664, 665, 666, 667, 668, 669, 670, 671, 672, 673, 674] (by decide +kernel) (by decide +kernel)
set_option maxRecDepth 20000 in
theorem gL_law_X6_find : GoodIn wsL_law (wsV RL 30 RX6 yX6_find wsX6_find) := goodIn_app (goodIn_of _ (by decide +kernel)) ggL_law_X6_find
set_option maxRecDepth 20000 in
theorem ggL_law_X5_growth : GoodIn wsL_law wsX5_growth := goodIn_r _ [249, 250, 251, 15, 105, 230, 231, 232, 2, 233, 120, 121, 122, 14, 123, 124, 252, 253, 254, 255, 82, 256, 257, 258, 259, 260, 261, 262, 263, 264, 125, 126, 127, 128, 129, 130, 131, 132, 133, 134, 135, 136, 137, 138, 139, 140, 33, 265, 266, 267, 268, 16, 269, 270, 271, 272, 111, 273, 209, 644, 645, 646, 647, 648, 649, 650, 651, 682, 683, 684, 685, 686, 687, 675, 676, 677, 688, 689, 690] (by decide +kernel) (by decide +kernel)
set_option maxRecDepth 20000 in
theorem gL_law_X5_growth : GoodIn wsL_law (wsV RL 31 RX5 yX5_growth wsX5_growth) := goodIn_app (goodIn_of _ (by decide +kernel)) ggL_law_X5_growth
set_option maxRecDepth 20000 in
theorem ggL_law_X6_growth : GoodIn wsL_law wsX6_growth := goodIn_r _ [277, 216, 278, 279, 97, 98, 5, 99, 280, 281, 282, 283, 96, 284, 285, 286, 287, 217, 68, 69, 70, 652, 653, 654, 655, 656, 657, 658, 659, 660, 661, 662, 663, 664, 665, 666, 667, 668, 669, 670, 671, 672, 673, 674] (by decide +kernel) (by decide +kernel)
set_option maxRecDepth 20000 in
theorem gL_law_X6_growth : GoodIn wsL_law (wsV RL 35 RX6 yX6_growth wsX6_growth) := goodIn_app (goodIn_of _ (by decide +kernel)) ggL_law_X6_growth
set_option maxRecDepth 20000 in
theorem ggL_law_X5_seen : GoodIn wsL_law wsX5_seen := goodIn_r _ [291, 27, 252, 253, 254, 2, 255, 82, 292, 293, 294, 295, 16, 269, 296, 297, 298, 26, 299, 300, 120, 121, 122, 14, 123, 124, 125, 126, 127, 128, 129, 130, 131, 132, 133, 134, 135, 136, 137, 138, 139, 140, 33, 270, 271, 272, 111, 273, 209, 301, 302, 303, 304, 54, 305, 88, 89, 90, 306, 307, 308, 309, 310, 311, 312, 313, 314, 315, 316, 317, 318, 644, 645, 646, 647, 648, 649, 650, 651, 680, 681, 688, 689, 690, 675, 676, 677] (by decide +kernel) (by decide +kernel)
set_option maxRecDepth 20000 in
theorem gL_law_X5_seen : GoodIn wsL_law (wsV RL 36 RX5 yX5_seen wsX5_seen) := goodIn_app (goodIn_of _ (by decide +kernel)) ggL_law_X5_seen
set_option maxRecDepth 20000 in
theorem ggL_law_X6_seen : GoodIn wsL_law wsX6_seen := goodIn_r _ [322, 280, 281, 282, 5, 283, 96, 97, 98, 99, 323, 324, 325, 326, 216, 71, 217, 69, 68, 652, 653, 654, 655, 656, 657, 658, 659, 660, 661, 662, 663, 664, 665, 666, 667, 668, 669, 670, 671, 672, 673, 674] (by decide +kernel) (by decide +kernel)
set_option maxRecDepth 20000 in
theorem gL_law_X6_seen : GoodIn wsL_law (wsV RL 39 RX6 yX6_seen wsX6_seen) := goodIn_app (goodIn_of _ (by decide +kernel)) ggL_law_X6_seen
