set_option maxRecDepth 20000 in
theorem ggL_law_X5_slim : GoodIn wsL_law wsX5_slim := goodIn_r _ [359, 20, 15, 99, 159, 160, 161, 2, 162, 100, 104, 105, 106, 19, 107, 69, 71, 108, 109, 110, 111, 112, 113, 114, 30, 115, 40, 42, 116, 117, 118, 119, 43, 44, 45, 360, 361, 362, 363, 364, 365, 366, 367, 368, 167, 168, 169, 170, 171, 369, 370, 371, 372, 176, 177, 178, 179, 180, 14, 181, 31, 182, 183, 184, 185, 186, 187, 188, 189, 35, 190, 191, 192, 193, 194, 195, 196, 34, 197, 59, 198, 199, 200, 201, 202, 203, 204, 205, 58, 206, 207, 208, 209, 210, 211, 212, 213, 214, 215, 216, 217, 218, 219, 220, 221, 222, 223, 224, 225, 226, 227, 228, 229, 230, 231, 232, 233, 234, 235, 236, 237, 238, 239, 240, 241, 242, 243, 244, 245, 246, 247, 248, 249, 250, 251, 252, 253, 254, 255, 256, 257, 258, 259, 260, 261, 262, 263, 373, 374, 375, 376, 704, 705, 706, 707, 719, 720, 731, 732, 733, 734, 735, 721, 722, 736, 737] (by decide +kernel) (by decide +kernel)
set_option maxRecDepth 20000 in
theorem gL_law_X5_slim : GoodIn wsL_law (wsV RL 33 RX5 yX5_slim wsX5_slim) := goodIn_app (goodIn_of _ (by decide +kernel)) ggL_law_X5_slim
set_option maxRecDepth 20000 in
theorem ggL_law_X6_slim : GoodIn wsL_law wsX6_slim := goodIn_r _ [380, 89, 268, 269, 270, 5, 271, 134, 135, 136, 137, 138, 139, 140, 141, 142, 143, 144, 90, 145, 146, 147, 148, 91, 149, 150, 381, 382, 383, 384, 272, 273, 274, 275, 276, 277, 278, 279, 280, 281, 282, 340, 341, 342, 343, 283, 284, 285, 286, 287, 288, 289, 290, 291, 292, 293, 294, 295, 296, 297, 298, 299, 300, 301, 302, 303, 304, 305, 306, 307, 308, 309, 310, 92, 93, 311, 312, 313, 314, 708, 709, 710, 711, 712, 713, 714, 715, 716, 717, 718] (by decide +kernel) (by decide +kernel)
set_option maxRecDepth 20000 in
theorem gL_law_X6_slim : GoodIn wsL_law (wsV RL 36 RX6 yX6_slim wsX6_slim) := goodIn_app (goodIn_of _ (by decide +kernel)) ggL_law_X6_slim
set_option maxRecDepth 20000 in
theorem ggL_law_X5_push : GoodIn wsL_law wsX5_push := goodIn_r _ [388, 20, 15, 99, 389, 104, 105, 106, 19, 107, 69, 71, 108, 109, 110, 111, 112, 113, 114, 30, 115, 40, 42, 116, 117, 118, 119, 43, 44, 45, 390, 391, 392, 14, 393, 31, 394, 395, 396, 397, 398, 35, 399, 47, 48, 49, 50, 51, 52, 53, 400, 61, 62, 34, 63, 58, 59, 64, 401, 325, 326, 327, 328, 234, 235, 236, 237, 199, 200, 201, 170, 2, 171, 329, 330, 331, 332, 333, 334, 335, 402, 179, 180, 181, 182, 183, 184, 185, 186, 187, 188, 189, 190, 191, 192, 193, 194, 195, 196, 197, 198, 202, 203, 204, 205, 206, 167, 168, 169, 207, 208, 209, 210, 211, 212, 213, 214, 176, 177, 215, 216, 217, 218, 219, 220, 221, 222, 223, 224, 225, 226, 227, 228, 229, 230, 231, 232, 233, 238, 239, 240, 241, 242, 243, 244, 245, 246, 247, 248, 249, 250, 251, 252, 253, 254, 255, 256, 257, 258, 259, 260, 261, 262, 263, 403, 404, 405, 406, 407, 408, 409, 410, 704, 705, 706, 707, 719, 720, 721, 722, 731, 732, 733, 734, 735, 736, 737] (by decide +kernel) (by decide +kernel)
set_option maxRecDepth 20000 in
theorem gL_law_X5_push : GoodIn wsL_law (wsV RL 37 RX5 yX5_push wsX5_push) := goodIn_app (goodIn_of _ (by decide +kernel)) ggL_law_X5_push
set_option maxRecDepth 20000 in
theorem ggL_law_X6_push : GoodIn wsL_law wsX6_push := goodIn_r _ [414, 137, 138, 139, 5, 140, 141, 142, 143, 144, 90, 89, 145, 146, 147, 148, 91, 149, 150, 415, 416, 417, 418, 276, 277, 278, 279, 344, 345, 346, 299, 300, 301, 302, 303, 304, 305, 306, 280, 281, 282, 307, 308, 309, 310, 92, 93, 311, 312, 313, 314, 419, 420, 421, 422, 708, 709, 710, 711, 712, 713, 714, 715, 716, 717, 718] (by decide +kernel) (by decide +kernel)
set_option maxRecDepth 20000 in
theorem gL_law_X6_push : GoodIn wsL_law (wsV RL 40 RX6 yX6_push wsX6_push) := goodIn_app (goodIn_of _ (by decide +kernel)) ggL_law_X6_push
set_option maxRecDepth 20000 in
theorem ggL_law_X5_undo : GoodIn wsL_law wsX5_undo := goodIn_r _ [426, 20, 15, 427, 428, 429, 430, 19, 431, 69, 71, 432, 433, 434, 14, 435, 31, 35, 394, 436, 113, 114, 30, 115, 40, 42, 116, 117, 118, 119, 43, 44, 45, 400, 61, 62, 34, 63, 58, 59, 64, 51, 52, 53, 259, 260, 261, 262, 182, 183, 184, 185, 170, 2, 171, 190, 191, 192, 193, 198, 199, 200, 201, 206, 167, 168, 169, 263, 226, 227, 228, 176, 177, 704, 705, 706, 707, 721, 722, 719, 720, 731, 732, 733, 734, 735, 736, 737] (by decide +kernel) (by decide +kernel)
set_option maxRecDepth 20000 in
theorem gL_law_X5_undo : GoodIn wsL_law (wsV RL 41 RX5 yX5_undo wsX5_undo) := goodIn_app (goodIn_of _ (by decide +kernel)) ggL_law_X5_undo
set_option maxRecDepth 20000 in
theorem ggL_law_X6_undo : GoodIn wsL_law wsX6_undo := goodIn_r _ [440, 150, 149, 89, 91, 708, 709, 710, 711, 712, 713, 714, 715, 716, 717, 718] (by decide +kernel) (by decide +kernel)
set_option maxRecDepth 20000 in
theorem gL_law_X6_undo : GoodIn wsL_law (wsV RL 44 RX6 yX6_undo wsX6_undo) := goodIn_app (goodIn_of _ (by decide +kernel)) ggL_law_X6_undo
set_option maxRecDepth 20000 in
theorem ggL_law_X5_append : GoodIn wsL_law wsX5_append := goodIn_r _ [444, 24, 445, 446, 447, 448, 23, 449, 76, 78, 704, 705, 706, 707, 723, 724, 725, 726, 727, 728, 729, 730] (by decide +kernel) (by decide +kernel)
set_option maxRecDepth 20000 in
theorem gL_law_X5_append : GoodIn wsL_law (wsV RL 45 RX5 yX5_append wsX5_append) := goodIn_app (goodIn_of _ (by decide +kernel)) ggL_law_X5_append
set_option maxRecDepth 20000 in
theorem ggL_law_X6_append : GoodIn wsL_law wsX6_append := goodIn_r _ [453, 454, 94, 134, 135, 5, 136, 708, 709, 710, 711, 712, 713, 714, 715, 716, 717, 718] (by decide +kernel) (by decide +kernel)
set_option maxRecDepth 20000 in
theorem gL_law_X6_append : GoodIn wsL_law (wsV RL 48 RX6 yX6_append wsX6_append) := goodIn_app (goodIn_of _ (by decide +kernel)) ggL_law_X6_append
set_option maxRecDepth 20000 in
theorem ggL_law_X5_clearText : GoodIn wsL_law wsX5_clearText := goodIn_r _ [458, 24, 445, 704, 705, 706, 707, 723, 724, 725, 726, 727, 728, 729, 730] (by decide +kernel) (by decide +kernel)
set_option maxRecDepth 20000 in
theorem gL_law_X5_clearText : GoodIn wsL_law (wsV RL 49 RX5 yX5_clearText wsX5_clearText) := goodIn_app (goodIn_of _ (by decide +kernel)) ggL_law_X5_clearText
set_option maxRecDepth 20000 in
theorem ggL_law_X6_clearText : GoodIn wsL_law wsX6_clearText := goodIn_r _ [462, 454, 708, 709, 710, 711, 712, 713, 714, 715, 716, 717, 718] (by decide +kernel) (by decide +kernel)
set_option maxRecDepth 20000 in
theorem gL_law_X6_clearText : GoodIn wsL_law (wsV RL 52 RX6 yX6_clearText wsX6_clearText) := goodIn_app (goodIn_of _ (by decide +kernel)) ggL_law_X6_clearText
