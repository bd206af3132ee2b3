set_option maxRecDepth 20000 in
theorem ggL_law_X5_init : GoodIn wsL_law wsX5_init := goodIn_r _ [8, 9, 10, 11, 12, 13, 14, 15, 16, 17, 18, 19, 20, 21, 22, 23, 24, 25, 26, 27, 28, 29, 30, 31, 32, 33, 34, 35, 36, 37, 38, 39, 40, 41, 42, 43, 44, 45, 46, 47, 48, 49, 50, 51, 52, 53, 54, 55, 56, 57, 58, 59, 60, 61, 62, 63, 64, 65, 66, 67, 68, 69, 70, 71, 72, 73, 74, 75, 76, 77, 78, 79, 80, 81, 82, 83, 84, 719, 720, 704, 705, 706, 707, 721, 722, 723, 724, 725, 726, 727, 728, 729, 730, 731, 732, 733, 734, 735, 736, 737] (by decide +kernel) (by decide +kernel)
set_option maxRecDepth 20000 in
theorem gL_law_X5_init : GoodIn wsL_law (wsX5_init) := ggL_law_X5_init
set_option maxRecDepth 20000 in
theorem ggL_law_X6_init : GoodIn wsL_law wsX6_init := goodIn_r _ [87, 88, 10, 11, 41, 89, 90, 91, 92, 93, 94, 708, 709, 710, 711, 712, 713, 714, 715, 716, 717, 718] (by decide +kernel) (by decide +kernel)
set_option maxRecDepth 20000 in
theorem gL_law_X6_init : GoodIn wsL_law (wsX6_init) := ggL_law_X6_init
set_option maxRecDepth 20000 in
theorem ggL_law_X5_add : GoodIn wsL_law wsX5_add := goodIn_r _ [98, 15, 99, 100, 20, 101, 102, 2, 103, 104, 105, 106, 19, 107, 69, 71, 108, 109, 110, 111, 112, 113, 114, 30, 115, 40, 42, 116, 117, 118, 119, 43, 44, 45, 120, 121, 122, 123, 124, 125, 52, 126, 127, 128, 129, 704, 705, 706, 707, 719, 720, 731, 732, 733, 734, 735, 721, 722] (by decide +kernel) (by decide +kernel)
set_option maxRecDepth 20000 in
theorem gL_law_X5_add : GoodIn wsL_law (wsV RL 13 RX5 yX5_add wsX5_add) := goodIn_app (goodIn_of _ (by decide +kernel)) ggL_law_X5_add
set_option maxRecDepth 20000 in
theorem ggL_law_X6_add : GoodIn wsL_law wsX6_add := goodIn_r _ [133, 89, 134, 135, 5, 136, 137, 138, 139, 140, 141, 142, 143, 144, 90, 145, 146, 147, 148, 91, 149, 150, 151, 152, 153, 154, 708, 709, 710, 711, 712, 713, 714, 715, 716, 717, 718] (by decide +kernel) (by decide +kernel)
set_option maxRecDepth 20000 in
theorem gL_law_X6_add : GoodIn wsL_law (wsV RL 17 RX6 yX6_add wsX6_add) := goodIn_app (goodIn_of _ (by decide +kernel)) ggL_law_X6_add
set_option maxRecDepth 20000 in
theorem ggL_law_X5_set : GoodIn wsL_law wsX5_set := goodIn_r _ [158, 20, 15, 99, 159, 160, 161, 2, 162, 100, 163, 164, 165, 101, 102, 103, 104, 105, 106, 19, 107, 69, 71, 108, 109, 110, 111, 112, 113, 114, 30, 115, 40, 42, 116, 117, 118, 119, 43, 44, 45, 166, 167, 168, 169, 170, 171, 172, 173, 174, 175, 176, 177, 178, 179, 180, 14, 181, 31, 182, 183, 184, 185, 186, 187, 188, 189, 35, 190, 191, 192, 193, 194, 195, 196, 34, 197, 59, 198, 199, 200, 201, 202, 203, 204, 205, 58, 206, 207, 208, 209, 210, 211, 212, 213, 214, 215, 216, 217, 218, 219, 220, 221, 222, 223, 224, 225, 226, 227, 228, 229, 230, 231, 232, 233, 234, 235, 236, 237, 238, 239, 240, 241, 242, 243, 244, 245, 246, 247, 248, 249, 250, 251, 252, 253, 254, 255, 256, 257, 258, 259, 260, 261, 262, 263, 704, 705, 706, 707, 719, 720, 731, 732, 733, 734, 735, 721, 722, 736, 737] (by decide +kernel) (by decide +kernel)
set_option maxRecDepth 20000 in
theorem gL_law_X5_set : GoodIn wsL_law (wsV RL 18 RX5 yX5_set wsX5_set) := goodIn_app (goodIn_of _ (by decide +kernel)) ggL_law_X5_set
set_option maxRecDepth 20000 in
theorem ggL_law_X6_set : GoodIn wsL_law wsX6_set := goodIn_r _ [267, 89, 268, 269, 270, 5, 271, 134, 135, 136, 137, 138, 139, 140, 141, 142, 143, 144, 90, 145, 146, 147, 148, 91, 149, 150, 272, 273, 274, 275, 276, 277, 278, 279, 280, 281, 282, 283, 284, 285, 286, 287, 288, 289, 290, 291, 292, 293, 294, 295, 296, 297, 298, 299, 300, 301, 302, 303, 304, 305, 306, 307, 308, 309, 310, 92, 93, 311, 312, 313, 314, 708, 709, 710, 711, 712, 713, 714, 715, 716, 717, 718] (by decide +kernel) (by decide +kernel)
set_option maxRecDepth 20000 in
theorem gL_law_X6_set : GoodIn wsL_law (wsV RL 22 RX6 yX6_set wsX6_set) := goodIn_app (goodIn_of _ (by decide +kernel)) ggL_law_X6_set
set_option maxRecDepth 20000 in
theorem ggL_law_X5_setDefault : GoodIn wsL_law wsX5_setDefault := goodIn_r _ [318, 20, 15, 99, 159, 160, 161, 2, 162, 100, 101, 102, 103, 104, 105, 106, 19, 107, 69, 71, 108, 109, 110, 111, 112, 113, 114, 30, 115, 40, 42, 116, 117, 118, 119, 43, 44, 45, 319, 320, 321, 322, 237, 199, 200, 201, 170, 171, 323, 173, 174, 175, 176, 177, 178, 179, 180, 14, 181, 31, 182, 183, 184, 185, 186, 187, 188, 189, 35, 190, 191, 192, 193, 194, 195, 196, 34, 197, 59, 198, 202, 203, 204, 205, 58, 206, 167, 168, 169, 207, 208, 209, 210, 211, 212, 213, 214, 215, 216, 217, 218, 219, 220, 221, 222, 223, 224, 225, 226, 227, 228, 229, 230, 231, 232, 233, 234, 235, 236, 238, 239, 240, 241, 242, 243, 244, 245, 246, 247, 248, 249, 250, 251, 252, 253, 254, 255, 256, 257, 258, 259, 260, 261, 262, 263, 324, 325, 326, 327, 328, 329, 330, 331, 332, 333, 334, 335, 704, 705, 706, 707, 719, 720, 731, 732, 733, 734, 735, 721, 722, 736, 737] (by decide +kernel) (by decide +kernel)
set_option maxRecDepth 20000 in
theorem gL_law_X5_setDefault : GoodIn wsL_law (wsV RL 23 RX5 yX5_setDefault wsX5_setDefault) := goodIn_app (goodIn_of _ (by decide +kernel)) ggL_law_X5_setDefault
set_option maxRecDepth 20000 in
theorem ggL_law_X6_setDefault : GoodIn wsL_law wsX6_setDefault := goodIn_r _ [339, 89, 268, 269, 270, 5, 271, 134, 135, 136, 137, 138, 139, 140, 141, 142, 143, 144, 90, 145, 146, 147, 148, 91, 149, 150, 340, 341, 342, 343, 276, 277, 278, 279, 280, 281, 282, 272, 273, 274, 275, 283, 284, 285, 286, 287, 288, 289, 290, 291, 292, 293, 294, 295, 296, 297, 298, 299, 300, 301, 302, 303, 304, 305, 306, 307, 308, 309, 310, 92, 93, 311, 312, 313, 314, 344, 345, 346, 708, 709, 710, 711, 712, 713, 714, 715, 716, 717, 718] (by decide +kernel) (by decide +kernel)
set_option maxRecDepth 20000 in
theorem gL_law_X6_setDefault : GoodIn wsL_law (wsV RL 27 RX6 yX6_setDefault wsX6_setDefault) := goodIn_app (goodIn_of _ (by decide +kernel)) ggL_law_X6_setDefault
set_option maxRecDepth 20000 in
theorem ggL_law_X5_removeLast : GoodIn wsL_law wsX5_removeLast := goodIn_r _ [350, 15, 99, 100, 20, 104, 105, 106, 19, 107, 69, 71, 108, 109, 110, 111, 112, 113, 114, 30, 115, 40, 42, 116, 117, 118, 119, 43, 44, 45, 351, 208, 209, 14, 210, 31, 35, 182, 183, 184, 185, 170, 2, 171, 190, 191, 192, 193, 211, 212, 213, 214, 176, 177, 215, 216, 217, 218, 219, 220, 221, 222, 34, 223, 224, 195, 196, 197, 59, 225, 226, 227, 228, 58, 229, 230, 231, 232, 704, 705, 706, 707, 719, 720, 731, 732, 733, 734, 735, 721, 722, 736, 737] (by decide +kernel) (by decide +kernel)
set_option maxRecDepth 20000 in
theorem gL_law_X5_removeLast : GoodIn wsL_law (wsV RL 28 RX5 yX5_removeLast wsX5_removeLast) := goodIn_app (goodIn_of _ (by decide +kernel)) ggL_law_X5_removeLast
set_option maxRecDepth 20000 in
theorem ggL_law_X6_removeLast : GoodIn wsL_law wsX6_removeLast := goodIn_r _ [355, 89, 137, 138, 139, 5, 140, 141, 142, 143, 144, 90, 145, 146, 147, 148, 91, 149, 150, 287, 288, 289, 290, 291, 292, 293, 294, 708, 709, 710, 711, 712, 713, 714, 715, 716, 717, 718] (by decide +kernel) (by decide +kernel)
set_option maxRecDepth 20000 in
theorem gL_law_X6_removeLast : GoodIn wsL_law (wsV RL 32 RX6 yX6_removeLast wsX6_removeLast) := goodIn_app (goodIn_of _ (by decide +kernel)) ggL_law_X6_removeLast
