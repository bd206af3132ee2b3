set_option maxRecDepth 20000 in
theorem ggL_law_X5_cell : GoodIn wsL_law wsX5_cell := goodIn_r _ [645, 15, 389, 646, 203, 204, 34, 205, 58, 170, 2, 171, 647, 195, 196, 197, 59, 704, 705, 706, 707, 719, 720, 736, 737] (by decide +kernel) (by decide +kernel)
set_option maxRecDepth 20000 in
theorem gL_law_X5_cell : GoodIn wsL_law (wsV RL 73 RX5 yX5_cell wsX5_cell) := goodIn_app (goodIn_of _ (by decide +kernel)) ggL_law_X5_cell
set_option maxRecDepth 20000 in
theorem ggL_law_X6_cell : GoodIn wsL_law wsX6_cell := goodIn_r _ [651, 92, 93, 134, 135, 5, 136, 307, 308, 309, 310, 89, 276, 277, 278, 279, 280, 281, 282, 708, 709, 710, 711, 712, 713, 714, 715, 716, 717, 718] (by decide +kernel) (by decide +kernel)
set_option maxRecDepth 20000 in
theorem gL_law_X6_cell : GoodIn wsL_law (wsV RL 76 RX6 yX6_cell wsX6_cell) := goodIn_app (goodIn_of _ (by decide +kernel)) ggL_law_X6_cell
set_option maxRecDepth 20000 in
theorem ggL_law_X5_fit : GoodIn wsL_law wsX5_fit := goodIn_r _ [655, 656, 15, 389, 657, 252, 253, 34, 254, 255, 256, 257, 258, 59, 170, 2, 171, 704, 705, 706, 707, 719, 720, 736, 737] (by decide +kernel) (by decide +kernel)
set_option maxRecDepth 20000 in
theorem gL_law_X5_fit : GoodIn wsL_law (wsV RL 77 RX5 yX5_fit wsX5_fit) := goodIn_app (goodIn_of _ (by decide +kernel)) ggL_law_X5_fit
set_option maxRecDepth 20000 in
theorem ggL_law_X6_fit : GoodIn wsL_law wsX6_fit := goodIn_r _ [661, 662, 134, 135, 5, 136, 307, 308, 309, 310, 92, 89, 93, 276, 277, 278, 279, 280, 281, 282, 311, 312, 313, 314, 708, 709, 710, 711, 712, 713, 714, 715, 716, 717, 718] (by decide +kernel) (by decide +kernel)
set_option maxRecDepth 20000 in
theorem gL_law_X6_fit : GoodIn wsL_law (wsV RL 80 RX6 yX6_fit wsX6_fit) := goodIn_app (goodIn_of _ (by decide +kernel)) ggL_law_X6_fit
set_option maxRecDepth 20000 in
theorem ggL_law_X5_endBy : GoodIn wsL_law wsX5_endBy := goodIn_r _ [666, 16, 99, 15, 389, 667, 113, 114, 30, 115, 40, 42, 116, 117, 118, 119, 43, 44, 45, 390, 391, 392, 14, 393, 31, 394, 395, 396, 397, 398, 35, 399, 47, 48, 49, 50, 51, 52, 53, 400, 61, 62, 34, 63, 58, 59, 64, 401, 325, 326, 327, 328, 234, 235, 236, 237, 199, 200, 201, 170, 2, 171, 329, 330, 331, 332, 333, 334, 335, 402, 179, 180, 181, 182, 183, 184, 185, 186, 187, 188, 189, 190, 191, 192, 193, 194, 195, 196, 197, 198, 202, 203, 204, 205, 206, 167, 168, 169, 207, 208, 209, 210, 211, 212, 213, 214, 176, 177, 215, 216, 217, 218, 219, 220, 221, 222, 223, 224, 225, 226, 227, 228, 229, 230, 231, 232, 233, 238, 239, 240, 241, 242, 243, 244, 245, 246, 247, 248, 249, 250, 251, 252, 253, 254, 255, 256, 257, 258, 259, 260, 261, 262, 263, 668, 669, 670, 671, 403, 404, 405, 406, 407, 408, 409, 410, 704, 705, 706, 707, 719, 720, 731, 732, 733, 734, 735, 736, 737] (by decide +kernel) (by decide +kernel)
set_option maxRecDepth 20000 in
theorem gL_law_X5_endBy : GoodIn wsL_law (wsV RL 81 RX5 yX5_endBy wsX5_endBy) := goodIn_app (goodIn_of _ (by decide +kernel)) ggL_law_X5_endBy
set_option maxRecDepth 20000 in
theorem ggL_law_X6_endBy : GoodIn wsL_law wsX6_endBy := goodIn_r _ [675, 134, 135, 5, 136, 141, 142, 143, 144, 90, 89, 415, 416, 417, 418, 276, 277, 278, 279, 344, 345, 346, 299, 300, 301, 302, 303, 304, 305, 306, 280, 281, 282, 307, 308, 309, 310, 92, 93, 311, 312, 313, 314, 419, 420, 421, 422, 559, 560, 561, 562, 708, 709, 710, 711, 712, 713, 714, 715, 716, 717, 718] (by decide +kernel) (by decide +kernel)
set_option maxRecDepth 20000 in
theorem gL_law_X6_endBy : GoodIn wsL_law (wsV RL 84 RX6 yX6_endBy wsX6_endBy) := goodIn_app (goodIn_of _ (by decide +kernel)) ggL_law_X6_endBy
set_option maxRecDepth 20000 in
theorem ggL_law_X5_slimmer : GoodIn wsL_law wsX5_slimmer := goodIn_r _ [679, 15, 99, 100, 680, 681, 682, 30, 683, 364, 365, 366, 367, 368, 167, 168, 169, 43, 170, 2, 171, 369, 370, 371, 372, 588, 325, 326, 327, 328, 234, 235, 236, 237, 199, 200, 201, 42, 329, 330, 331, 332, 333, 334, 335, 704, 705, 706, 707, 719, 720, 731, 732, 733, 734, 735] (by decide +kernel) (by decide +kernel)
set_option maxRecDepth 20000 in
theorem gL_law_X5_slimmer : GoodIn wsL_law (wsV RL 85 RX5 yX5_slimmer wsX5_slimmer) := goodIn_app (goodIn_of _ (by decide +kernel)) ggL_law_X5_slimmer
set_option maxRecDepth 20000 in
theorem ggL_law_X6_slimmer : GoodIn wsL_law wsX6_slimmer := goodIn_r _ [687, 89, 276, 277, 278, 5, 279, 344, 345, 346, 381, 382, 383, 384, 272, 273, 274, 275, 280, 281, 282, 340, 341, 342, 343, 708, 709, 710, 711, 712, 713, 714, 715, 716, 717, 718] (by decide +kernel) (by decide +kernel)
set_option maxRecDepth 20000 in
theorem gL_law_X6_slimmer : GoodIn wsL_law (wsV RL 88 RX6 yX6_slimmer wsX6_slimmer) := goodIn_app (goodIn_of _ (by decide +kernel)) ggL_law_X6_slimmer
set_option maxRecDepth 20000 in
theorem ggL_law_X5_like : GoodIn wsL_law wsX5_like := goodIn_r _ [691, 15, 99, 159, 160, 161, 2, 162, 100, 692, 693, 694, 30, 695, 40, 696, 697, 698, 699, 368, 167, 168, 169, 43, 170, 171, 704, 705, 706, 707, 719, 720, 731, 732, 733, 734, 735] (by decide +kernel) (by decide +kernel)
set_option maxRecDepth 20000 in
theorem gL_law_X5_like : GoodIn wsL_law (wsV RL 89 RX5 yX5_like wsX5_like) := goodIn_app (goodIn_of _ (by decide +kernel)) ggL_law_X5_like
set_option maxRecDepth 20000 in
theorem ggL_law_X6_like : GoodIn wsL_law wsX6_like := goodIn_r _ [703, 89, 268, 269, 270, 5, 271, 134, 135, 136, 272, 273, 274, 275, 276, 277, 278, 279, 280, 281, 282, 708, 709, 710, 711, 712, 713, 714, 715, 716, 717, 718] (by decide +kernel) (by decide +kernel)
set_option maxRecDepth 20000 in
theorem gL_law_X6_like : GoodIn wsL_law (wsV RL 92 RX6 yX6_like wsX6_like) := goodIn_app (goodIn_of _ (by decide +kernel)) ggL_law_X6_like
