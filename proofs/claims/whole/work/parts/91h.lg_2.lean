set_option maxRecDepth 20000 in
theorem ggL_law_X5_slim : GoodIn wsL_law wsX5_slim := goodIn_r _ [341, 20, 15, 99, 342, 159, 160, 161, 2, 162, 100, 104, 105, 106, 19, 107, 69, 71, 108, 109, 110, 111, 112, 113, 114, 30, 115, 40, 42, 116, 117, 118, 119, 43, 44, 45, 343, 344, 345, 346, 193, 167, 168, 169, 347, 348, 349, 350, 174, 175, 176, 14, 177, 31, 178, 179, 180, 181, 182, 35, 183, 184, 185, 186, 187, 188, 189, 190, 191, 192, 194, 195, 196, 197, 198, 199, 200, 201, 202, 203, 204, 205, 206, 34, 207, 59, 208, 209, 210, 211, 58, 212, 213, 214, 215, 216, 217, 218, 219, 220, 221, 222, 223, 224, 225, 226, 227, 228, 229, 230, 231, 232, 233, 234, 235, 236, 237, 238, 239, 240, 241, 242, 243, 244, 245, 668, 669, 670, 671, 683, 684, 695, 696, 697, 698, 699, 685, 686, 700, 701] (by decide +kernel) (by decide +kernel)
set_option maxRecDepth 20000 in
theorem gL_law_X5_slim : GoodIn wsL_law (wsV RL 33 RX5 yX5_slim wsX5_slim) := goodIn_app (goodIn_of _ (by decide +kernel)) ggL_law_X5_slim
set_option maxRecDepth 20000 in
theorem ggL_law_X6_slim : GoodIn wsL_law wsX6_slim := goodIn_r _ [354, 89, 250, 251, 252, 5, 253, 134, 135, 136, 137, 138, 139, 140, 141, 142, 143, 144, 90, 145, 146, 147, 148, 91, 149, 150, 355, 356, 357, 358, 254, 255, 256, 257, 258, 259, 260, 261, 262, 263, 264, 322, 323, 324, 325, 265, 266, 267, 268, 269, 270, 271, 272, 273, 274, 275, 276, 277, 278, 279, 280, 281, 282, 283, 284, 285, 286, 287, 288, 289, 290, 291, 292, 92, 93, 293, 294, 295, 296, 672, 673, 674, 675, 676, 677, 678, 679, 680, 681, 682] (by decide +kernel) (by decide +kernel)
set_option maxRecDepth 20000 in
theorem gL_law_X6_slim : GoodIn wsL_law (wsV RL 36 RX6 yX6_slim wsX6_slim) := goodIn_app (goodIn_of _ (by decide +kernel)) ggL_law_X6_slim
set_option maxRecDepth 20000 in
theorem ggL_law_X5_push : GoodIn wsL_law wsX5_push := goodIn_r _ [362, 20, 15, 99, 363, 104, 105, 106, 19, 107, 69, 71, 108, 109, 110, 111, 112, 113, 114, 30, 115, 40, 42, 116, 117, 118, 119, 43, 44, 45, 364, 365, 366, 14, 367, 31, 368, 369, 370, 371, 372, 35, 47, 48, 49, 50, 51, 52, 53, 373, 61, 62, 34, 63, 58, 59, 64, 374, 307, 308, 309, 310, 213, 214, 215, 216, 190, 191, 192, 193, 167, 168, 169, 311, 312, 313, 314, 315, 316, 317, 375, 175, 176, 177, 178, 179, 180, 181, 182, 183, 184, 185, 186, 187, 188, 189, 194, 195, 196, 197, 198, 199, 200, 201, 202, 203, 204, 205, 206, 207, 208, 209, 210, 211, 212, 217, 218, 219, 220, 221, 222, 223, 224, 225, 226, 227, 228, 229, 230, 231, 232, 233, 234, 235, 236, 237, 238, 239, 240, 241, 242, 243, 244, 245, 376, 377, 378, 379, 668, 669, 670, 671, 683, 684, 685, 686, 695, 696, 697, 698, 699, 700, 701] (by decide +kernel) (by decide +kernel)
set_option maxRecDepth 20000 in
theorem gL_law_X5_push : GoodIn wsL_law (wsV RL 37 RX5 yX5_push wsX5_push) := goodIn_app (goodIn_of _ (by decide +kernel)) ggL_law_X5_push
set_option maxRecDepth 20000 in
theorem ggL_law_X6_push : GoodIn wsL_law wsX6_push := goodIn_r _ [383, 137, 138, 139, 5, 140, 141, 142, 143, 144, 90, 89, 145, 146, 147, 148, 91, 149, 150, 384, 385, 386, 387, 258, 259, 260, 261, 326, 327, 328, 281, 282, 283, 284, 285, 286, 287, 288, 262, 263, 264, 289, 290, 291, 292, 92, 93, 293, 294, 295, 296, 388, 389, 390, 391, 672, 673, 674, 675, 676, 677, 678, 679, 680, 681, 682] (by decide +kernel) (by decide +kernel)
set_option maxRecDepth 20000 in
theorem gL_law_X6_push : GoodIn wsL_law (wsV RL 40 RX6 yX6_push wsX6_push) := goodIn_app (goodIn_of _ (by decide +kernel)) ggL_law_X6_push
set_option maxRecDepth 20000 in
theorem ggL_law_X5_undo : GoodIn wsL_law wsX5_undo := goodIn_r _ [395, 20, 396, 15, 397, 398, 399, 19, 400, 69, 71, 401, 402, 403, 14, 404, 31, 35, 368, 405, 113, 114, 30, 115, 40, 42, 116, 117, 118, 119, 43, 44, 45, 373, 61, 62, 34, 63, 58, 59, 64, 51, 52, 53, 241, 242, 243, 244, 178, 185, 186, 187, 188, 189, 190, 191, 192, 193, 167, 168, 169, 194, 245, 209, 210, 211, 668, 669, 670, 671, 685, 686, 683, 684, 695, 696, 697, 698, 699, 700, 701] (by decide +kernel) (by decide +kernel)
set_option maxRecDepth 20000 in
theorem gL_law_X5_undo : GoodIn wsL_law (wsV RL 41 RX5 yX5_undo wsX5_undo) := goodIn_app (goodIn_of _ (by decide +kernel)) ggL_law_X5_undo
set_option maxRecDepth 20000 in
theorem ggL_law_X6_undo : GoodIn wsL_law wsX6_undo := goodIn_r _ [409, 150, 149, 89, 91, 672, 673, 674, 675, 676, 677, 678, 679, 680, 681, 682] (by decide +kernel) (by decide +kernel)
set_option maxRecDepth 20000 in
theorem gL_law_X6_undo : GoodIn wsL_law (wsV RL 44 RX6 yX6_undo wsX6_undo) := goodIn_app (goodIn_of _ (by decide +kernel)) ggL_law_X6_undo
set_option maxRecDepth 20000 in
theorem ggL_law_X5_append : GoodIn wsL_law wsX5_append := goodIn_r _ [413, 24, 414, 415, 416, 417, 23, 418, 76, 78, 668, 669, 670, 671, 687, 688, 689, 690, 691, 692, 693, 694] (by decide +kernel) (by decide +kernel)
set_option maxRecDepth 20000 in
theorem gL_law_X5_append : GoodIn wsL_law (wsV RL 45 RX5 yX5_append wsX5_append) := goodIn_app (goodIn_of _ (by decide +kernel)) ggL_law_X5_append
set_option maxRecDepth 20000 in
theorem ggL_law_X6_append : GoodIn wsL_law wsX6_append := goodIn_r _ [422, 423, 94, 134, 135, 5, 136, 672, 673, 674, 675, 676, 677, 678, 679, 680, 681, 682] (by decide +kernel) (by decide +kernel)
set_option maxRecDepth 20000 in
theorem gL_law_X6_append : GoodIn wsL_law (wsV RL 48 RX6 yX6_append wsX6_append) := goodIn_app (goodIn_of _ (by decide +kernel)) ggL_law_X6_append
set_option maxRecDepth 20000 in
theorem ggL_law_X5_clearText : GoodIn wsL_law wsX5_clearText := goodIn_r _ [427, 24, 414, 668, 669, 670, 671, 687, 688, 689, 690, 691, 692, 693, 694] (by decide +kernel) (by decide +kernel)
set_option maxRecDepth 20000 in
theorem gL_law_X5_clearText : GoodIn wsL_law (wsV RL 49 RX5 yX5_clearText wsX5_clearText) := goodIn_app (goodIn_of _ (by decide +kernel)) ggL_law_X5_clearText
set_option maxRecDepth 20000 in
theorem ggL_law_X6_clearText : GoodIn wsL_law wsX6_clearText := goodIn_r _ [431, 423, 672, 673, 674, 675, 676, 677, 678, 679, 680, 681, 682] (by decide +kernel) (by decide +kernel)
set_option maxRecDepth 20000 in
theorem gL_law_X6_clearText : GoodIn wsL_law (wsV RL 52 RX6 yX6_clearText wsX6_clearText) := goodIn_app (goodIn_of _ (by decide +kernel)) ggL_law_X6_clearText
