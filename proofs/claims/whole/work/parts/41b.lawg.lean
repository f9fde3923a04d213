set_option maxRecDepth 20000 in
theorem ggL_law_X5_values : GoodIn wsL_law wsX5_values := goodIn_r _ [330, 331, 332, 2, 333, 252, 253, 254, 255, 82, 292, 293, 294, 295, 27, 16, 269, 296, 297, 298, 26, 299, 300, 120, 121, 122, 14, 123, 124, 125, 126, 127, 128, 129, 130, 131, 132, 133, 134, 135, 136, 137, 138, 139, 140, 33, 270, 271, 272, 111, 273, 209, 301, 302, 303, 304, 54, 305, 88, 89, 90, 306, 307, 308, 309, 310, 311, 312, 313, 314, 315, 316, 317, 318, 334, 335, 336, 337, 28, 256, 257, 258, 259, 260, 261, 262, 263, 264, 644, 645, 646, 647, 648, 649, 650, 651, 688, 689, 690, 680, 681, 675, 676, 677] (by decide +kernel) (by decide +kernel)
set_option maxRecDepth 20000 in
theorem gL_law_X5_values : GoodIn wsL_law (wsV RL 40 RX5 yX5_values wsX5_values) := goodIn_app (goodIn_of _ (by decide +kernel)) ggL_law_X5_values
set_option maxRecDepth 20000 in
theorem ggL_law_X6_values : GoodIn wsL_law wsX6_values := goodIn_r _ [341, 342, 216, 71, 62, 343, 344, 5, 345, 346, 97, 98, 99, 280, 281, 282, 283, 96, 323, 324, 325, 326, 217, 69, 68, 347, 348, 349, 350, 351, 352, 353, 72, 652, 653, 654, 655, 656, 657, 658, 659, 660, 661, 662, 663, 664, 665, 666, 667, 668, 669, 670, 671, 672, 673, 674] (by decide +kernel) (by decide +kernel)
set_option maxRecDepth 20000 in
theorem gL_law_X6_values : GoodIn wsL_law (wsV RL 44 RX6 yX6_values wsX6_values) := goodIn_app (goodIn_of _ (by decide +kernel)) ggL_law_X6_values
set_option maxRecDepth 20000 in
theorem ggL_law_X5_unlike : GoodIn wsL_law wsX5_unlike := goodIn_r _ [357, 358, 359, 2, 360, 252, 253, 254, 255, 82, 292, 293, 294, 295, 27, 16, 269, 296, 297, 298, 26, 299, 300, 120, 121, 122, 14, 123, 124, 125, 126, 127, 128, 129, 130, 131, 132, 133, 134, 135, 136, 137, 138, 139, 140, 33, 270, 271, 272, 111, 273, 209, 301, 302, 303, 304, 54, 305, 88, 89, 90, 306, 307, 308, 309, 310, 311, 312, 313, 314, 315, 316, 317, 318, 334, 335, 336, 337, 28, 256, 257, 258, 259, 260, 261, 262, 263, 264, 644, 645, 646, 647, 648, 649, 650, 651, 688, 689, 690, 680, 681, 675, 676, 677] (by decide +kernel) (by decide +kernel)
set_option maxRecDepth 20000 in
theorem gL_law_X5_unlike : GoodIn wsL_law (wsV RL 45 RX5 yX5_unlike wsX5_unlike) := goodIn_app (goodIn_of _ (by decide +kernel)) ggL_law_X5_unlike
set_option maxRecDepth 20000 in
theorem ggL_law_X6_unlike : GoodIn wsL_law wsX6_unlike := goodIn_r _ [364, 365, 97, 98, 5, 99, 280, 281, 282, 283, 96, 323, 324, 325, 326, 216, 71, 217, 69, 68, 366, 367, 368, 369, 342, 62, 370, 371, 372, 350, 351, 352, 353, 72, 652, 653, 654, 655, 656, 657, 658, 659, 660, 661, 662, 663, 664, 665, 666, 667, 668, 669, 670, 671, 672, 673, 674] (by decide +kernel) (by decide +kernel)
set_option maxRecDepth 20000 in
theorem gL_law_X6_unlike : GoodIn wsL_law (wsV RL 48 RX6 yX6_unlike wsX6_unlike) := goodIn_app (goodIn_of _ (by decide +kernel)) ggL_law_X6_unlike
set_option maxRecDepth 20000 in
theorem ggL_law_X5_kept : GoodIn wsL_law wsX5_kept := goodIn_r _ [376, 28, 16, 269, 21, 252, 253, 254, 2, 255, 82, 296, 297, 298, 26, 299, 300, 120, 121, 122, 14, 123, 124, 125, 126, 127, 128, 129, 130, 131, 132, 133, 134, 135, 136, 137, 138, 139, 140, 33, 270, 271, 272, 111, 273, 209, 377, 378, 379, 20, 380, 381, 382, 383, 384, 48, 260, 261, 385, 386, 387, 388, 389, 390, 49, 263, 264, 301, 302, 303, 304, 54, 305, 88, 89, 90, 306, 307, 308, 309, 310, 311, 312, 313, 314, 315, 316, 317, 318, 644, 645, 646, 647, 648, 649, 650, 651, 688, 689, 690, 680, 681, 675, 676, 677, 678, 679] (by decide +kernel) (by decide +kernel)
set_option maxRecDepth 20000 in
theorem gL_law_X5_kept : GoodIn wsL_law (wsV RL 49 RX5 yX5_kept wsX5_kept) := goodIn_app (goodIn_of _ (by decide +kernel)) ggL_law_X5_kept
set_option maxRecDepth 20000 in
theorem ggL_law_X6_kept : GoodIn wsL_law wsX6_kept := goodIn_r _ [394, 342, 217, 69, 62, 68, 280, 281, 282, 5, 283, 96, 97, 98, 99, 395, 396, 397, 398, 60, 61, 347, 348, 349, 350, 351, 352, 353, 72, 652, 653, 654, 655, 656, 657, 658, 659, 660, 661, 662, 663, 664, 665, 666, 667, 668, 669, 670, 671, 672, 673, 674] (by decide +kernel) (by decide +kernel)
set_option maxRecDepth 20000 in
theorem gL_law_X6_kept : GoodIn wsL_law (wsV RL 52 RX6 yX6_kept wsX6_kept) := goodIn_app (goodIn_of _ (by decide +kernel)) ggL_law_X6_kept
set_option maxRecDepth 20000 in
theorem ggL_law_X5_worst : GoodIn wsL_law wsX5_worst := goodIn_r _ [402, 252, 253, 254, 2, 255, 82, 292, 293, 294, 295, 27, 16, 269, 296, 297, 298, 26, 299, 300, 120, 121, 122, 14, 123, 124, 125, 126, 127, 128, 129, 130, 131, 132, 133, 134, 135, 136, 137, 138, 139, 140, 33, 270, 271, 272, 111, 273, 209, 301, 302, 303, 304, 54, 305, 88, 89, 90, 306, 307, 308, 309, 310, 311, 312, 313, 314, 315, 316, 317, 318, 334, 335, 336, 337, 28, 256, 257, 258, 259, 260, 261, 262, 263, 264, 644, 645, 646, 647, 648, 649, 650, 651, 688, 689, 690, 680, 681, 675, 676, 677] (by decide +kernel) (by decide +kernel)
set_option maxRecDepth 20000 in
theorem gL_law_X5_worst : GoodIn wsL_law (wsV RL 53 RX5 yX5_worst wsX5_worst) := goodIn_app (goodIn_of _ (by decide +kernel)) ggL_law_X5_worst
set_option maxRecDepth 20000 in
theorem ggL_law_X6_worst : GoodIn wsL_law wsX6_worst := goodIn_r _ [406, 280, 281, 282, 5, 283, 96, 97, 98, 99, 323, 324, 325, 326, 216, 71, 217, 69, 68, 366, 367, 368, 369, 342, 62, 370, 371, 372, 350, 351, 352, 353, 72, 652, 653, 654, 655, 656, 657, 658, 659, 660, 661, 662, 663, 664, 665, 666, 667, 668, 669, 670, 671, 672, 673, 674] (by decide +kernel) (by decide +kernel)
set_option maxRecDepth 20000 in
theorem gL_law_X6_worst : GoodIn wsL_law (wsV RL 56 RX6 yX6_worst wsX6_worst) := goodIn_app (goodIn_of _ (by decide +kernel)) ggL_law_X6_worst
set_option maxRecDepth 20000 in
theorem ggL_law_X5_drop : GoodIn wsL_law wsX5_drop := goodIn_r _ [410, 21, 82, 331, 332, 2, 333, 411, 382, 383, 20, 384, 48, 260, 261, 412, 413, 414, 415, 416, 417, 418, 644, 645, 646, 647, 648, 649, 650, 651, 678, 679] (by decide +kernel) (by decide +kernel)
set_option maxRecDepth 20000 in
theorem gL_law_X5_drop : GoodIn wsL_law (wsV RL 57 RX5 yX5_drop wsX5_drop) := goodIn_app (goodIn_of _ (by decide +kernel)) ggL_law_X5_drop
set_option maxRecDepth 20000 in
theorem ggL_law_X6_drop : GoodIn wsL_law wsX6_drop := goodIn_r _ [422, 60, 96, 343, 344, 5, 345, 346, 97, 98, 99, 652, 653, 654, 655, 656, 657, 658, 659, 660, 661, 662, 663, 664, 665, 666, 667, 668, 669, 670, 671, 672, 673, 674] (by decide +kernel) (by decide +kernel)
set_option maxRecDepth 20000 in
theorem gL_law_X6_drop : GoodIn wsL_law (wsV RL 61 RX6 yX6_drop wsX6_drop) := goodIn_app (goodIn_of _ (by decide +kernel)) ggL_law_X6_drop
set_option maxRecDepth 20000 in
theorem ggL_law_X5_fold : GoodIn wsL_law wsX5_fold := goodIn_r _ [426, 21, 82, 331, 332, 2, 333, 427, 428, 429, 430, 431, 432, 20, 433, 434, 194, 168, 195, 49, 387, 388, 389, 390, 385, 386, 263, 264, 644, 645, 646, 647, 648, 649, 650, 651, 678, 679] (by decide +kernel) (by decide +kernel)
set_option maxRecDepth 20000 in
theorem gL_law_X5_fold : GoodIn wsL_law (wsV RL 62 RX5 yX5_fold wsX5_fold) := goodIn_app (goodIn_of _ (by decide +kernel)) ggL_law_X5_fold
set_option maxRecDepth 20000 in
theorem ggL_law_X6_fold : GoodIn wsL_law wsX6_fold := goodIn_r _ [438, 96, 61, 343, 344, 5, 345, 346, 97, 98, 99, 439, 440, 441, 442, 652, 653, 654, 655, 656, 657, 658, 659, 660, 661, 662, 663, 664, 665, 666, 667, 668, 669, 670, 671, 672, 673, 674] (by decide +kernel) (by decide +kernel)
set_option maxRecDepth 20000 in
theorem gL_law_X6_fold : GoodIn wsL_law (wsV RL 65 RX6 yX6_fold wsX6_fold) := goodIn_app (goodIn_of _ (by decide +kernel)) ggL_law_X6_fold
set_option maxRecDepth 20000 in
theorem ggL_law_X5_dropped : GoodIn wsL_law wsX5_dropped := goodIn_r _ [446, 21, 331, 332, 2, 333, 447, 448, 449, 450, 82, 411, 382, 383, 20, 384, 48, 260, 261, 412, 413, 414, 644, 645, 646, 647, 648, 649, 650, 651, 678, 679] (by decide +kernel) (by decide +kernel)
set_option maxRecDepth 20000 in
theorem gL_law_X5_dropped : GoodIn wsL_law (wsV RL 66 RX5 yX5_dropped wsX5_dropped) := goodIn_app (goodIn_of _ (by decide +kernel)) ggL_law_X5_dropped
set_option maxRecDepth 20000 in
theorem ggL_law_X6_dropped : GoodIn wsL_law wsX6_dropped := goodIn_r _ [454, 96, 60, 343, 344, 5, 345, 346, 97, 98, 99, 652, 653, 654, 655, 656, 657, 658, 659, 660, 661, 662, 663, 664, 665, 666, 667, 668, 669, 670, 671, 672, 673, 674] (by decide +kernel) (by decide +kernel)
set_option maxRecDepth 20000 in
theorem gL_law_X6_dropped : GoodIn wsL_law (wsV RL 69 RX6 yX6_dropped wsX6_dropped) := goodIn_app (goodIn_of _ (by decide +kernel)) ggL_law_X6_dropped
