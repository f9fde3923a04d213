set_option maxRecDepth 20000 in
theorem ggL_law_X5_chief : GoodIn wsL_law wsX5_chief := goodIn_r _ [458, 21, 331, 332, 2, 333, 427, 428, 429, 447, 448, 449, 450, 82, 459, 388, 389, 20, 390, 49, 385, 386, 644, 645, 646, 647, 648, 649, 650, 651, 678, 679] (by decide +kernel) (by decide +kernel)
set_option maxRecDepth 20000 in
theorem gL_law_X5_chief : GoodIn wsL_law (wsV RL 70 RX5 yX5_chief wsX5_chief) := goodIn_app (goodIn_of _ (by decide +kernel)) ggL_law_X5_chief
set_option maxRecDepth 20000 in
theorem ggL_law_X6_chief : GoodIn wsL_law wsX6_chief := goodIn_r _ [463, 96, 61, 343, 344, 5, 345, 346, 97, 98, 99, 439, 440, 441, 442, 652, 653, 654, 655, 656, 657, 658, 659, 660, 661, 662, 663, 664, 665, 666, 667, 668, 669, 670, 671, 672, 673, 674] (by decide +kernel) (by decide +kernel)
set_option maxRecDepth 20000 in
theorem gL_law_X6_chief : GoodIn wsL_law (wsV RL 73 RX6 yX6_chief wsX6_chief) := goodIn_app (goodIn_of _ (by decide +kernel)) ggL_law_X6_chief
set_option maxRecDepth 20000 in
theorem ggL_law_X5_shortAt : GoodIn wsL_law wsX5_shortAt := goodIn_r _ [467, 21, 112, 113, 2, 114, 115, 447, 448, 449, 450, 82, 377, 378, 379, 20, 380, 381, 382, 383, 384, 48, 260, 261, 385, 386, 387, 388, 389, 390, 49, 263, 264, 644, 645, 646, 647, 648, 649, 650, 651, 678, 679] (by decide +kernel) (by decide +kernel)
set_option maxRecDepth 20000 in
theorem gL_law_X5_shortAt : GoodIn wsL_law (wsV RL 74 RX5 yX5_shortAt wsX5_shortAt) := goodIn_app (goodIn_of _ (by decide +kernel)) ggL_law_X5_shortAt
set_option maxRecDepth 20000 in
theorem ggL_law_X6_shortAt : GoodIn wsL_law wsX6_shortAt := goodIn_r _ [471, 96, 218, 219, 5, 220, 221, 97, 98, 99, 395, 396, 397, 398, 60, 61, 347, 348, 349, 652, 653, 654, 655, 656, 657, 658, 659, 660, 661, 662, 663, 664, 665, 666, 667, 668, 669, 670, 671, 672, 673, 674] (by decide +kernel) (by decide +kernel)
set_option maxRecDepth 20000 in
theorem gL_law_X6_shortAt : GoodIn wsL_law (wsV RL 77 RX6 yX6_shortAt wsX6_shortAt) := goodIn_app (goodIn_of _ (by decide +kernel)) ggL_law_X6_shortAt
set_option maxRecDepth 20000 in
theorem ggL_law_X5_ask : GoodIn wsL_law wsX5_ask := goodIn_r _ [475, 17, 476, 477, 478, 358, 359, 2, 360, 331, 332, 333, 427, 428, 429, 259, 260, 261, 120, 121, 122, 14, 123, 124, 479, 480, 481, 482, 10, 11, 483, 484, 485, 486, 257, 258, 262, 263, 264, 148, 149, 150, 151, 152, 153, 33, 154, 155, 156, 157, 158, 159, 160, 161, 162, 163, 164, 165, 32, 166, 167, 168, 169, 170, 171, 172, 173, 174, 175, 176, 177, 178, 179, 180, 181, 182, 183, 184, 185, 186, 187, 188, 189, 190, 191, 192, 193, 194, 195, 196, 88, 89, 90, 644, 645, 646, 647, 648, 649, 650, 651, 691, 692, 693, 694, 695, 675, 676, 677] (by decide +kernel) (by decide +kernel)
set_option maxRecDepth 20000 in
theorem gL_law_X5_ask : GoodIn wsL_law (wsV RL 78 RX5 yX5_ask wsX5_ask) := goodIn_app (goodIn_of _ (by decide +kernel)) ggL_law_X5_ask
set_option maxRecDepth 20000 in
theorem ggL_law_X6_ask : GoodIn wsL_law wsX6_ask := goodIn_r _ [490, 365, 491, 73, 74, 75, 76, 97, 98, 5, 99, 343, 344, 345, 346, 439, 440, 441, 442, 652, 653, 654, 655, 656, 657, 658, 659, 660, 661, 662, 663, 664, 665, 666, 667, 668, 669, 670, 671, 672, 673, 674] (by decide +kernel) (by decide +kernel)
set_option maxRecDepth 20000 in
theorem gL_law_X6_ask : GoodIn wsL_law (wsV RL 81 RX6 yX6_ask wsX6_ask) := goodIn_app (goodIn_of _ (by decide +kernel)) ggL_law_X6_ask
set_option maxRecDepth 20000 in
theorem ggL_law_X5_answer : GoodIn wsL_law wsX5_answer := goodIn_r _ [495, 250, 17, 496, 251, 497, 498, 499, 2, 500, 120, 121, 122, 14, 123, 124, 125, 126, 127, 128, 129, 130, 131, 132, 133, 134, 135, 136, 137, 138, 139, 140, 33, 112, 113, 114, 115, 501, 502, 503, 478, 504, 485, 486, 484, 385, 386, 252, 253, 254, 255, 82, 265, 266, 267, 268, 16, 269, 270, 271, 272, 111, 273, 209, 644, 645, 646, 647, 648, 649, 650, 651, 691, 692, 693, 694, 695, 675, 676, 677, 688, 689, 690] (by decide +kernel) (by decide +kernel)
set_option maxRecDepth 20000 in
theorem gL_law_X5_answer : GoodIn wsL_law (wsV RL 82 RX5 yX5_answer wsX5_answer) := goodIn_app (goodIn_of _ (by decide +kernel)) ggL_law_X5_answer
set_option maxRecDepth 20000 in
theorem ggL_law_X6_answer : GoodIn wsL_law wsX6_answer := goodIn_r _ [508, 278, 279, 217, 69, 62, 68, 70, 509, 510, 511, 5, 512, 491, 97, 98, 99, 218, 219, 220, 221, 513, 514, 515, 516, 73, 370, 371, 372, 517, 518, 519, 520, 74, 75, 347, 348, 349, 280, 281, 282, 283, 96, 652, 653, 654, 655, 656, 657, 658, 659, 660, 661, 662, 663, 664, 665, 666, 667, 668, 669, 670, 671, 672, 673, 674] (by decide +kernel) (by decide +kernel)
set_option maxRecDepth 20000 in
theorem gL_law_X6_answer : GoodIn wsL_law (wsV RL 86 RX6 yX6_answer wsX6_answer) := goodIn_app (goodIn_of _ (by decide +kernel)) ggL_law_X6_answer
set_option maxRecDepth 20000 in
theorem ggL_law_X5_keys : GoodIn wsL_law wsX5_keys := goodIn_r _ [524, 17, 496, 28, 497, 498, 499, 2, 500, 120, 121, 122, 14, 123, 124, 252, 253, 254, 255, 82, 125, 126, 127, 128, 129, 130, 131, 132, 133, 134, 135, 136, 137, 138, 139, 140, 33, 525, 526, 527, 528, 27, 292, 293, 294, 295, 16, 269, 296, 297, 298, 26, 299, 300, 270, 271, 272, 111, 273, 209, 301, 302, 303, 304, 54, 305, 88, 89, 90, 306, 307, 308, 309, 310, 311, 312, 313, 314, 315, 316, 317, 318, 501, 502, 503, 478, 504, 485, 486, 484, 385, 386, 644, 645, 646, 647, 648, 649, 650, 651, 680, 681, 675, 676, 677, 688, 689, 690, 691, 692, 693, 694, 695] (by decide +kernel) (by decide +kernel)
set_option maxRecDepth 20000 in
theorem gL_law_X5_keys : GoodIn wsL_law (wsV RL 87 RX5 yX5_keys wsX5_keys) := goodIn_app (goodIn_of _ (by decide +kernel)) ggL_law_X5_keys
set_option maxRecDepth 20000 in
theorem ggL_law_X6_keys : GoodIn wsL_law wsX6_keys := goodIn_r _ [532, 509, 510, 511, 5, 512, 491, 97, 98, 99, 280, 281, 282, 283, 96, 533, 534, 535, 536, 342, 216, 71, 62, 323, 324, 325, 326, 217, 69, 68, 517, 518, 519, 520, 74, 75, 347, 348, 349, 513, 514, 515, 516, 73, 370, 371, 372, 350, 351, 352, 353, 72, 652, 653, 654, 655, 656, 657, 658, 659, 660, 661, 662, 663, 664, 665, 666, 667, 668, 669, 670, 671, 672, 673, 674] (by decide +kernel) (by decide +kernel)
set_option maxRecDepth 20000 in
theorem gL_law_X6_keys : GoodIn wsL_law (wsV RL 90 RX6 yX6_keys wsX6_keys) := goodIn_app (goodIn_of _ (by decide +kernel)) ggL_law_X6_keys
set_option maxRecDepth 20000 in
theorem ggL_law_X5_key : GoodIn wsL_law wsX5_key := goodIn_r _ [540, 17, 496, 28, 497, 498, 499, 2, 500, 120, 121, 122, 14, 123, 124, 252, 253, 254, 255, 82, 125, 126, 127, 128, 129, 130, 131, 132, 133, 134, 135, 136, 137, 138, 139, 140, 33, 525, 526, 527, 528, 27, 292, 293, 294, 295, 16, 269, 296, 297, 298, 26, 299, 300, 270, 271, 272, 111, 273, 209, 301, 302, 303, 304, 54, 305, 88, 89, 90, 306, 307, 308, 309, 310, 311, 312, 313, 314, 315, 316, 317, 318, 501, 502, 503, 478, 504, 485, 486, 484, 385, 386, 644, 645, 646, 647, 648, 649, 650, 651, 680, 681, 675, 676, 677, 688, 689, 690, 691, 692, 693, 694, 695] (by decide +kernel) (by decide +kernel)
set_option maxRecDepth 20000 in
theorem gL_law_X5_key : GoodIn wsL_law (wsV RL 91 RX5 yX5_key wsX5_key) := goodIn_app (goodIn_of _ (by decide +kernel)) ggL_law_X5_key
set_option maxRecDepth 20000 in
theorem ggL_law_X6_key : GoodIn wsL_law wsX6_key := goodIn_r _ [544, 72, 509, 510, 511, 5, 512, 491, 97, 98, 99, 280, 281, 282, 283, 96, 533, 534, 535, 536, 342, 216, 71, 62, 323, 324, 325, 326, 217, 69, 68, 517, 518, 519, 520, 74, 75, 347, 348, 349, 513, 514, 515, 516, 73, 370, 371, 372, 350, 351, 352, 353, 652, 653, 654, 655, 656, 657, 658, 659, 660, 661, 662, 663, 664, 665, 666, 667, 668, 669, 670, 671, 672, 673, 674] (by decide +kernel) (by decide +kernel)
set_option maxRecDepth 20000 in
theorem gL_law_X6_key : GoodIn wsL_law (wsV RL 95 RX6 yX6_key wsX6_key) := goodIn_app (goodIn_of _ (by decide +kernel)) ggL_law_X6_key
set_option maxRecDepth 20000 in
theorem ggL_law_X5_works : GoodIn wsL_law wsX5_works := goodIn_r _ [548, 17, 496, 21, 497, 498, 499, 2, 500, 120, 121, 122, 14, 123, 124, 252, 253, 254, 255, 82, 125, 126, 127, 128, 129, 130, 131, 132, 133, 134, 135, 136, 137, 138, 139, 140, 33, 549, 550, 551, 552, 553, 554, 555, 20, 556, 49, 50, 260, 261, 644, 645, 646, 647, 648, 649, 650, 651, 691, 692, 693, 694, 695, 675, 676, 677, 678, 679] (by decide +kernel) (by decide +kernel)
set_option maxRecDepth 20000 in
theorem gL_law_X5_works : GoodIn wsL_law (wsV RL 96 RX5 yX5_works wsX5_works) := goodIn_app (goodIn_of _ (by decide +kernel)) ggL_law_X5_works
set_option maxRecDepth 20000 in
theorem ggL_law_X6_works : GoodIn wsL_law wsX6_works := goodIn_r _ [560, 561, 562, 563, 5, 564, 509, 510, 511, 512, 491, 97, 98, 99, 280, 281, 282, 283, 96, 565, 566, 567, 568, 73, 60, 569, 570, 571, 572, 61, 652, 653, 654, 655, 656, 657, 658, 659, 660, 661, 662, 663, 664, 665, 666, 667, 668, 669, 670, 671, 672, 673, 674] (by decide +kernel) (by decide +kernel)
set_option maxRecDepth 20000 in
theorem gL_law_X6_works : GoodIn wsL_law (wsV RL 99 RX6 yX6_works wsX6_works) := goodIn_app (goodIn_of _ (by decide +kernel)) ggL_law_X6_works
