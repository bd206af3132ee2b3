set_option maxRecDepth 20000 in
theorem ggL_law_X5_cell : GoodIn wsL_law wsX5_cell := goodIn_r _ [608, 15, 363, 609, 610, 668, 669, 670, 671, 683, 684, 700, 701] (by decide +kernel) (by decide +kernel)
set_option maxRecDepth 20000 in
theorem gL_law_X5_cell : GoodIn wsL_law (wsV RL 73 RX5 yX5_cell wsX5_cell) := goodIn_app (goodIn_of _ (by decide +kernel)) ggL_law_X5_cell
set_option maxRecDepth 20000 in
theorem ggL_law_X6_cell : GoodIn wsL_law wsX6_cell := goodIn_r _ [614, 92, 93, 134, 135, 5, 136, 289, 290, 291, 292, 89, 258, 259, 260, 261, 262, 263, 264, 672, 673, 674, 675, 676, 677, 678, 679, 680, 681, 682] (by decide +kernel) (by decide +kernel)
set_option maxRecDepth 20000 in
theorem gL_law_X6_cell : GoodIn wsL_law (wsV RL 76 RX6 yX6_cell wsX6_cell) := goodIn_app (goodIn_of _ (by decide +kernel)) ggL_law_X6_cell
set_option maxRecDepth 20000 in
theorem ggL_law_X5_fit : GoodIn wsL_law wsX5_fit := goodIn_r _ [618, 619, 15, 363, 620, 230, 231, 34, 232, 233, 234, 235, 236, 237, 238, 239, 240, 59, 668, 669, 670, 671, 683, 684, 700, 701] (by decide +kernel) (by decide +kernel)
set_option maxRecDepth 20000 in
theorem gL_law_X5_fit : GoodIn wsL_law (wsV RL 77 RX5 yX5_fit wsX5_fit) := goodIn_app (goodIn_of _ (by decide +kernel)) ggL_law_X5_fit
set_option maxRecDepth 20000 in
theorem ggL_law_X6_fit : GoodIn wsL_law wsX6_fit := goodIn_r _ [624, 625, 134, 135, 5, 136, 289, 290, 291, 292, 92, 89, 93, 258, 259, 260, 261, 262, 263, 264, 293, 294, 295, 296, 672, 673, 674, 675, 676, 677, 678, 679, 680, 681, 682] (by decide +kernel) (by decide +kernel)
set_option maxRecDepth 20000 in
theorem gL_law_X6_fit : GoodIn wsL_law (wsV RL 80 RX6 yX6_fit wsX6_fit) := goodIn_app (goodIn_of _ (by decide +kernel)) ggL_law_X6_fit
set_option maxRecDepth 20000 in
theorem ggL_law_X5_endBy : GoodIn wsL_law wsX5_endBy := goodIn_r _ [629, 16, 99, 15, 363, 630, 113, 114, 30, 115, 40, 42, 116, 117, 118, 119, 43, 44, 45, 364, 365, 366, 14, 367, 31, 368, 369, 370, 371, 372, 35, 47, 48, 49, 50, 51, 52, 53, 373, 61, 62, 34, 63, 58, 59, 64, 374, 307, 308, 309, 310, 213, 214, 215, 216, 190, 191, 192, 193, 167, 168, 169, 311, 312, 313, 314, 315, 316, 317, 375, 175, 176, 177, 178, 179, 180, 181, 182, 183, 184, 185, 186, 187, 188, 189, 194, 195, 196, 197, 198, 199, 200, 201, 202, 203, 204, 205, 206, 207, 208, 209, 210, 211, 212, 217, 218, 219, 220, 221, 222, 223, 224, 225, 226, 227, 228, 229, 230, 231, 232, 233, 234, 235, 236, 237, 238, 239, 240, 241, 242, 243, 244, 245, 631, 632, 633, 634, 376, 377, 378, 379, 668, 669, 670, 671, 683, 684, 695, 696, 697, 698, 699, 700, 701] (by decide +kernel) (by decide +kernel)
set_option maxRecDepth 20000 in
theorem gL_law_X5_endBy : GoodIn wsL_law (wsV RL 81 RX5 yX5_endBy wsX5_endBy) := goodIn_app (goodIn_of _ (by decide +kernel)) ggL_law_X5_endBy
set_option maxRecDepth 20000 in
theorem ggL_law_X6_endBy : GoodIn wsL_law wsX6_endBy := goodIn_r _ [638, 134, 135, 5, 136, 141, 142, 143, 144, 90, 89, 384, 385, 386, 387, 258, 259, 260, 261, 326, 327, 328, 281, 282, 283, 284, 285, 286, 287, 288, 262, 263, 264, 289, 290, 291, 292, 92, 93, 293, 294, 295, 296, 388, 389, 390, 391, 522, 523, 524, 525, 672, 673, 674, 675, 676, 677, 678, 679, 680, 681, 682] (by decide +kernel) (by decide +kernel)
set_option maxRecDepth 20000 in
theorem gL_law_X6_endBy : GoodIn wsL_law (wsV RL 84 RX6 yX6_endBy wsX6_endBy) := goodIn_app (goodIn_of _ (by decide +kernel)) ggL_law_X6_endBy
set_option maxRecDepth 20000 in
theorem ggL_law_X5_slimmer : GoodIn wsL_law wsX5_slimmer := goodIn_r _ [642, 15, 99, 100, 643, 644, 645, 30, 646, 647, 344, 345, 346, 193, 167, 168, 169, 43, 347, 348, 349, 350, 551, 307, 308, 309, 310, 213, 214, 215, 216, 190, 191, 192, 42, 311, 312, 313, 314, 315, 316, 317, 668, 669, 670, 671, 683, 684, 695, 696, 697, 698, 699] (by decide +kernel) (by decide +kernel)
set_option maxRecDepth 20000 in
theorem gL_law_X5_slimmer : GoodIn wsL_law (wsV RL 85 RX5 yX5_slimmer wsX5_slimmer) := goodIn_app (goodIn_of _ (by decide +kernel)) ggL_law_X5_slimmer
set_option maxRecDepth 20000 in
theorem ggL_law_X6_slimmer : GoodIn wsL_law wsX6_slimmer := goodIn_r _ [651, 89, 258, 259, 260, 5, 261, 326, 327, 328, 355, 356, 357, 358, 254, 255, 256, 257, 262, 263, 264, 322, 323, 324, 325, 672, 673, 674, 675, 676, 677, 678, 679, 680, 681, 682] (by decide +kernel) (by decide +kernel)
set_option maxRecDepth 20000 in
theorem gL_law_X6_slimmer : GoodIn wsL_law (wsV RL 88 RX6 yX6_slimmer wsX6_slimmer) := goodIn_app (goodIn_of _ (by decide +kernel)) ggL_law_X6_slimmer
set_option maxRecDepth 20000 in
theorem ggL_law_X5_like : GoodIn wsL_law wsX5_like := goodIn_r _ [655, 15, 99, 159, 160, 161, 2, 162, 100, 656, 657, 658, 30, 659, 40, 660, 661, 662, 663, 193, 167, 168, 169, 43, 668, 669, 670, 671, 683, 684, 695, 696, 697, 698, 699] (by decide +kernel) (by decide +kernel)
set_option maxRecDepth 20000 in
theorem gL_law_X5_like : GoodIn wsL_law (wsV RL 89 RX5 yX5_like wsX5_like) := goodIn_app (goodIn_of _ (by decide +kernel)) ggL_law_X5_like
set_option maxRecDepth 20000 in
theorem ggL_law_X6_like : GoodIn wsL_law wsX6_like := goodIn_r _ [667, 89, 250, 251, 252, 5, 253, 134, 135, 136, 254, 255, 256, 257, 258, 259, 260, 261, 262, 263, 264, 672, 673, 674, 675, 676, 677, 678, 679, 680, 681, 682] (by decide +kernel) (by decide +kernel)
set_option maxRecDepth 20000 in
theorem gL_law_X6_like : GoodIn wsL_law (wsV RL 92 RX6 yX6_like wsX6_like) := goodIn_app (goodIn_of _ (by decide +kernel)) ggL_law_X6_like
