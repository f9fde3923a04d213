set_option maxRecDepth 20000 in
theorem ggL_law_X5_lacks : GoodIn wsL_law wsX5_lacks := goodIn_r _ [576, 17, 496, 497, 498, 499, 2, 500, 120, 121, 122, 14, 123, 124, 252, 253, 254, 255, 82, 125, 126, 127, 128, 129, 130, 131, 132, 133, 134, 135, 136, 137, 138, 139, 140, 33, 549, 550, 551, 552, 21, 644, 645, 646, 647, 648, 649, 650, 651, 691, 692, 693, 694, 695, 675, 676, 677, 678, 679] (by decide +kernel) (by decide +kernel)
set_option maxRecDepth 20000 in
theorem gL_law_X5_lacks : GoodIn wsL_law (wsV RL 100 RX5 yX5_lacks wsX5_lacks) := goodIn_app (goodIn_of _ (by decide +kernel)) ggL_law_X5_lacks
set_option maxRecDepth 20000 in
theorem ggL_law_X6_lacks : GoodIn wsL_law wsX6_lacks := goodIn_r _ [564, 509, 510, 511, 5, 512, 491, 97, 98, 99, 280, 281, 282, 283, 96, 565, 566, 567, 568, 73, 60, 652, 653, 654, 655, 656, 657, 658, 659, 660, 661, 662, 663, 664, 665, 666, 667, 668, 669, 670, 671, 672, 673, 674] (by decide +kernel) (by decide +kernel)
set_option maxRecDepth 20000 in
theorem gL_law_X6_lacks : GoodIn wsL_law (wsV RL 103 RX6 yX6_lacks wsX6_lacks) := goodIn_app (goodIn_of _ (by decide +kernel)) ggL_law_X6_lacks
set_option maxRecDepth 20000 in
theorem ggL_law_X5_weigh : GoodIn wsL_law wsX5_weigh := goodIn_r _ [581, 17, 496, 497, 498, 499, 2, 500, 120, 121, 122, 14, 123, 124, 331, 332, 333, 125, 126, 127, 128, 129, 130, 131, 132, 133, 134, 135, 136, 137, 138, 139, 140, 33, 582, 583, 584, 478, 585, 586, 587, 588, 589, 590, 23, 644, 645, 646, 647, 648, 649, 650, 651, 675, 676, 677, 691, 692, 693, 694, 695] (by decide +kernel) (by decide +kernel)
set_option maxRecDepth 20000 in
theorem gL_law_X5_weigh : GoodIn wsL_law (wsV RL 104 RX5 yX5_weigh wsX5_weigh) := goodIn_app (goodIn_of _ (by decide +kernel)) ggL_law_X5_weigh
set_option maxRecDepth 20000 in
theorem ggL_law_X6_weigh : GoodIn wsL_law wsX6_weigh := goodIn_r _ [594, 595, 76, 77, 509, 510, 511, 5, 512, 491, 97, 98, 99, 343, 344, 345, 346, 652, 653, 654, 655, 656, 657, 658, 659, 660, 661, 662, 663, 664, 665, 666, 667, 668, 669, 670, 671, 672, 673, 674] (by decide +kernel) (by decide +kernel)
set_option maxRecDepth 20000 in
theorem gL_law_X6_weigh : GoodIn wsL_law (wsV RL 108 RX6 yX6_weigh wsX6_weigh) := goodIn_app (goodIn_of _ (by decide +kernel)) ggL_law_X6_weigh
set_option maxRecDepth 20000 in
theorem ggL_law_X5_loss : GoodIn wsL_law wsX5_loss := goodIn_r _ [599, 358, 359, 2, 360, 600, 601, 602, 603, 23, 17, 496, 259, 260, 261, 120, 121, 122, 14, 123, 124, 125, 126, 127, 128, 129, 130, 131, 132, 133, 134, 135, 136, 137, 138, 139, 140, 33, 644, 645, 646, 647, 648, 649, 650, 651, 691, 692, 693, 694, 695, 675, 676, 677] (by decide +kernel) (by decide +kernel)
set_option maxRecDepth 20000 in
theorem gL_law_X5_loss : GoodIn wsL_law (wsV RL 109 RX5 yX5_loss wsX5_loss) := goodIn_app (goodIn_of _ (by decide +kernel)) ggL_law_X5_loss
set_option maxRecDepth 20000 in
theorem ggL_law_X6_loss : GoodIn wsL_law wsX6_loss := goodIn_r _ [607, 365, 97, 98, 5, 99, 608, 609, 610, 611, 77, 491, 73, 76, 652, 653, 654, 655, 656, 657, 658, 659, 660, 661, 662, 663, 664, 665, 666, 667, 668, 669, 670, 671, 672, 673, 674] (by decide +kernel) (by decide +kernel)
set_option maxRecDepth 20000 in
theorem gL_law_X6_loss : GoodIn wsL_law (wsV RL 112 RX6 yX6_loss wsX6_loss) := goodIn_app (goodIn_of _ (by decide +kernel)) ggL_law_X6_loss
set_option maxRecDepth 20000 in
theorem ggL_law_X5_plan : GoodIn wsL_law wsX5_plan := goodIn_r _ [615, 252, 253, 254, 2, 255, 82, 292, 293, 294, 295, 27, 16, 269, 296, 297, 298, 26, 299, 300, 120, 121, 122, 14, 123, 124, 125, 126, 127, 128, 129, 130, 131, 132, 133, 134, 135, 136, 137, 138, 139, 140, 33, 270, 271, 272, 111, 273, 209, 301, 302, 303, 304, 54, 305, 88, 89, 90, 306, 307, 308, 309, 310, 311, 312, 313, 314, 315, 316, 317, 318, 334, 335, 336, 337, 28, 256, 257, 258, 259, 260, 261, 262, 263, 264, 600, 601, 602, 603, 23, 17, 496, 644, 645, 646, 647, 648, 649, 650, 651, 688, 689, 690, 680, 681, 675, 676, 677, 691, 692, 693, 694, 695] (by decide +kernel) (by decide +kernel)
set_option maxRecDepth 20000 in
theorem gL_law_X5_plan : GoodIn wsL_law (wsV RL 113 RX5 yX5_plan wsX5_plan) := goodIn_app (goodIn_of _ (by decide +kernel)) ggL_law_X5_plan
set_option maxRecDepth 20000 in
theorem ggL_law_X6_plan : GoodIn wsL_law wsX6_plan := goodIn_r _ [619, 620, 97, 98, 5, 99, 280, 281, 282, 283, 96, 323, 324, 325, 326, 216, 71, 217, 69, 68, 366, 367, 368, 369, 342, 62, 370, 371, 372, 350, 351, 352, 353, 72, 608, 609, 610, 611, 77, 491, 73, 76, 652, 653, 654, 655, 656, 657, 658, 659, 660, 661, 662, 663, 664, 665, 666, 667, 668, 669, 670, 671, 672, 673, 674] (by decide +kernel) (by decide +kernel)
set_option maxRecDepth 20000 in
theorem gL_law_X6_plan : GoodIn wsL_law (wsV RL 116 RX6 yX6_plan wsX6_plan) := goodIn_app (goodIn_of _ (by decide +kernel)) ggL_law_X6_plan
set_option maxRecDepth 20000 in
theorem ggL_law_X5_bill : GoodIn wsL_law wsX5_bill := goodIn_r _ [624, 27, 331, 332, 2, 333, 427, 428, 429, 252, 253, 254, 255, 82, 292, 293, 294, 295, 16, 269, 296, 297, 298, 26, 299, 300, 120, 121, 122, 14, 123, 124, 125, 126, 127, 128, 129, 130, 131, 132, 133, 134, 135, 136, 137, 138, 139, 140, 33, 270, 271, 272, 111, 273, 209, 301, 302, 303, 304, 54, 305, 88, 89, 90, 306, 307, 308, 309, 310, 311, 312, 313, 314, 315, 316, 317, 318, 625, 385, 386, 644, 645, 646, 647, 648, 649, 650, 651, 680, 681, 688, 689, 690, 675, 676, 677] (by decide +kernel) (by decide +kernel)
set_option maxRecDepth 20000 in
theorem gL_law_X5_bill : GoodIn wsL_law (wsV RL 117 RX5 yX5_bill wsX5_bill) := goodIn_app (goodIn_of _ (by decide +kernel)) ggL_law_X5_bill
set_option maxRecDepth 20000 in
theorem ggL_law_X6_bill : GoodIn wsL_law wsX6_bill := goodIn_r _ [629, 216, 71, 62, 343, 344, 5, 345, 346, 97, 98, 99, 439, 440, 441, 442, 280, 281, 282, 283, 96, 323, 324, 325, 326, 217, 69, 68, 347, 348, 349, 652, 653, 654, 655, 656, 657, 658, 659, 660, 661, 662, 663, 664, 665, 666, 667, 668, 669, 670, 671, 672, 673, 674] (by decide +kernel) (by decide +kernel)
set_option maxRecDepth 20000 in
theorem gL_law_X6_bill : GoodIn wsL_law (wsV RL 120 RX6 yX6_bill wsX6_bill) := goodIn_app (goodIn_of _ (by decide +kernel)) ggL_law_X6_bill
set_option maxRecDepth 20000 in
theorem ggL_law_X5_count : GoodIn wsL_law wsX5_count := goodIn_r _ [633, 82, 15, 16, 17, 21, 120, 121, 122, 14, 123, 124, 634, 635, 312, 636, 637, 638, 639, 644, 645, 646, 647, 648, 649, 650, 651, 678, 679, 675, 676, 677] (by decide +kernel) (by decide +kernel)
set_option maxRecDepth 20000 in
theorem gL_law_X5_count : GoodIn wsL_law (wsV RL 121 RX5 yX5_count wsX5_count) := goodIn_app (goodIn_of _ (by decide +kernel)) ggL_law_X5_count
set_option maxRecDepth 20000 in
theorem ggL_law_X6_count : GoodIn wsL_law wsX6_count := goodIn_r _ [643, 96, 216, 217, 491, 60, 652, 653, 654, 655, 656, 657, 658, 659, 660, 661, 662, 663, 664, 665, 666, 667, 668, 669, 670, 671, 672, 673, 674] (by decide +kernel) (by decide +kernel)
set_option maxRecDepth 20000 in
theorem gL_law_X6_count : GoodIn wsL_law (wsV RL 124 RX6 yX6_count wsX6_count) := goodIn_app (goodIn_of _ (by decide +kernel)) ggL_law_X6_count
