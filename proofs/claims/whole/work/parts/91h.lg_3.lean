set_option maxRecDepth 20000 in
theorem ggL_law_X5_read : GoodIn wsL_law wsX5_read := goodIn_r _ [466, 24, 15, 99, 100, 467, 20, 468, 445, 469, 470, 471, 23, 472, 79, 76, 82, 473, 474, 475, 476, 477, 478, 479, 480, 78, 481, 482, 483, 484, 80, 485, 486, 487, 488, 489, 490, 491, 492, 81, 493, 494, 495, 496, 497, 498, 499, 500, 83, 84, 176, 2, 177, 501, 502, 503, 504, 505, 506, 507, 508, 164, 165, 509, 510, 511, 512, 104, 105, 106, 19, 107, 69, 71, 108, 109, 110, 111, 112, 113, 114, 30, 115, 40, 42, 116, 117, 118, 119, 43, 44, 45, 513, 514, 515, 516, 517, 518, 519, 520, 170, 171, 120, 121, 122, 123, 124, 125, 52, 126, 127, 128, 129, 521, 522, 523, 524, 172, 173, 174, 175, 178, 179, 180, 14, 181, 31, 182, 183, 184, 185, 186, 187, 188, 189, 35, 190, 191, 192, 193, 194, 195, 196, 34, 197, 59, 198, 199, 200, 201, 202, 203, 204, 205, 58, 206, 167, 168, 169, 207, 208, 209, 210, 211, 212, 213, 214, 215, 216, 217, 218, 219, 220, 221, 222, 223, 224, 225, 226, 227, 228, 229, 230, 231, 232, 233, 234, 235, 236, 237, 238, 239, 240, 241, 242, 243, 244, 245, 246, 247, 248, 249, 250, 251, 252, 253, 254, 255, 256, 257, 258, 259, 260, 261, 262, 263, 704, 705, 706, 707, 719, 720, 731, 732, 733, 734, 735, 723, 724, 725, 726, 727, 728, 729, 730, 721, 722, 736, 737] (by decide +kernel) (by decide +kernel)
set_option maxRecDepth 20000 in
theorem gL_law_X5_read : GoodIn wsL_law (wsV RL 53 RX5 yX5_read wsX5_read) := goodIn_app (goodIn_of _ (by decide +kernel)) ggL_law_X5_read
set_option maxRecDepth 20000 in
theorem ggL_law_X6_read : GoodIn wsL_law wsX6_read := goodIn_r _ [528, 529, 530, 454, 141, 142, 143, 5, 144, 90, 89, 531, 532, 533, 534, 94, 535, 536, 537, 538, 539, 540, 541, 542, 543, 544, 545, 546, 134, 135, 136, 547, 548, 549, 550, 551, 552, 553, 554, 151, 152, 153, 154, 555, 556, 557, 558, 299, 300, 301, 302, 303, 304, 305, 306, 276, 277, 278, 279, 280, 281, 282, 307, 308, 309, 310, 92, 93, 311, 312, 313, 314, 559, 560, 561, 562, 145, 146, 147, 148, 91, 149, 150, 708, 709, 710, 711, 712, 713, 714, 715, 716, 717, 718] (by decide +kernel) (by decide +kernel)
set_option maxRecDepth 20000 in
theorem gL_law_X6_read : GoodIn wsL_law (wsV RL 56 RX6 yX6_read wsX6_read) := goodIn_app (goodIn_of _ (by decide +kernel)) ggL_law_X6_read
set_option maxRecDepth 20000 in
theorem ggL_law_X5_get : GoodIn wsL_law wsX5_get := goodIn_r _ [566, 15, 159, 160, 161, 2, 162, 99, 100, 163, 164, 165, 567, 568, 569, 14, 570, 31, 35, 182, 183, 184, 30, 185, 44, 170, 171, 190, 191, 192, 193, 45, 194, 195, 196, 34, 197, 59, 202, 203, 204, 205, 58, 571, 374, 375, 376, 42, 704, 705, 706, 707, 719, 720, 731, 732, 733, 734, 735, 736, 737] (by decide +kernel) (by decide +kernel)
set_option maxRecDepth 20000 in
theorem gL_law_X5_get : GoodIn wsL_law (wsV RL 57 RX5 yX5_get wsX5_get) := goodIn_app (goodIn_of _ (by decide +kernel)) ggL_law_X5_get
set_option maxRecDepth 20000 in
theorem ggL_law_X6_get : GoodIn wsL_law wsX6_get := goodIn_r _ [575, 268, 269, 270, 5, 271, 89, 134, 135, 136, 272, 273, 274, 275, 276, 277, 278, 279, 280, 281, 282, 708, 709, 710, 711, 712, 713, 714, 715, 716, 717, 718] (by decide +kernel) (by decide +kernel)
set_option maxRecDepth 20000 in
theorem gL_law_X6_get : GoodIn wsL_law (wsV RL 60 RX6 yX6_get wsX6_get) := goodIn_app (goodIn_of _ (by decide +kernel)) ggL_law_X6_get
set_option maxRecDepth 20000 in
theorem ggL_law_X5_count : GoodIn wsL_law wsX5_count := goodIn_r _ [579, 15, 99, 100, 389, 20, 427, 24, 445, 580, 581, 582, 30, 583, 250, 191, 192, 193, 45, 170, 2, 171, 584, 585, 586, 587, 40, 588, 325, 326, 327, 328, 234, 235, 236, 237, 199, 200, 201, 43, 42, 329, 330, 331, 332, 333, 334, 335, 589, 590, 591, 34, 592, 407, 408, 409, 410, 59, 403, 404, 405, 406, 593, 594, 595, 14, 596, 31, 394, 597, 598, 599, 600, 35, 182, 183, 184, 185, 44, 190, 601, 194, 195, 196, 197, 704, 705, 706, 707, 719, 720, 731, 732, 733, 734, 735, 721, 722, 723, 724, 725, 726, 727, 728, 729, 730, 736, 737] (by decide +kernel) (by decide +kernel)
set_option maxRecDepth 20000 in
theorem gL_law_X5_count : GoodIn wsL_law (wsV RL 61 RX5 yX5_count wsX5_count) := goodIn_app (goodIn_of _ (by decide +kernel)) ggL_law_X5_count
set_option maxRecDepth 20000 in
theorem ggL_law_X6_count : GoodIn wsL_law wsX6_count := goodIn_r _ [605, 89, 150, 454, 606, 607, 608, 5, 609, 276, 277, 278, 279, 344, 345, 346, 610, 611, 612, 613, 92, 307, 308, 309, 310, 93, 280, 281, 282, 419, 420, 421, 422, 614, 615, 616, 617, 708, 709, 710, 711, 712, 713, 714, 715, 716, 717, 718] (by decide +kernel) (by decide +kernel)
set_option maxRecDepth 20000 in
theorem gL_law_X6_count : GoodIn wsL_law (wsV RL 64 RX6 yX6_count wsX6_count) := goodIn_app (goodIn_of _ (by decide +kernel)) ggL_law_X6_count
set_option maxRecDepth 20000 in
theorem ggL_law_X5_row : GoodIn wsL_law wsX5_row := goodIn_r _ [621, 15, 99, 159, 160, 161, 2, 162, 100, 373, 374, 375, 30, 376, 42, 170, 171, 324, 325, 326, 327, 328, 234, 235, 236, 237, 199, 200, 201, 43, 329, 330, 331, 332, 333, 334, 335, 622, 183, 184, 185, 44, 623, 191, 192, 193, 45, 624, 704, 705, 706, 707, 719, 720, 731, 732, 733, 734, 735] (by decide +kernel) (by decide +kernel)
set_option maxRecDepth 20000 in
theorem gL_law_X5_row : GoodIn wsL_law (wsV RL 65 RX5 yX5_row wsX5_row) := goodIn_app (goodIn_of _ (by decide +kernel)) ggL_law_X5_row
set_option maxRecDepth 20000 in
theorem ggL_law_X6_row : GoodIn wsL_law wsX6_row := goodIn_r _ [628, 89, 268, 269, 270, 5, 271, 134, 135, 136, 276, 277, 278, 279, 344, 345, 346, 708, 709, 710, 711, 712, 713, 714, 715, 716, 717, 718] (by decide +kernel) (by decide +kernel)
set_option maxRecDepth 20000 in
theorem gL_law_X6_row : GoodIn wsL_law (wsV RL 68 RX6 yX6_row wsX6_row) := goodIn_app (goodIn_of _ (by decide +kernel)) ggL_law_X6_row
set_option maxRecDepth 20000 in
theorem ggL_law_X5_form : GoodIn wsL_law wsX5_form := goodIn_r _ [632, 15, 99, 389, 623, 191, 192, 30, 193, 45, 170, 2, 171, 633, 216, 217, 218, 40, 219, 183, 184, 185, 44, 634, 635, 636, 34, 637, 224, 195, 196, 197, 59, 704, 705, 706, 707, 719, 720, 731, 732, 733, 734, 735, 736, 737] (by decide +kernel) (by decide +kernel)
set_option maxRecDepth 20000 in
theorem gL_law_X5_form : GoodIn wsL_law (wsV RL 69 RX5 yX5_form wsX5_form) := goodIn_app (goodIn_of _ (by decide +kernel)) ggL_law_X5_form
set_option maxRecDepth 20000 in
theorem ggL_law_X6_form : GoodIn wsL_law wsX6_form := goodIn_r _ [641, 89, 134, 135, 5, 136, 276, 277, 278, 279, 344, 345, 346, 291, 292, 293, 294, 708, 709, 710, 711, 712, 713, 714, 715, 716, 717, 718] (by decide +kernel) (by decide +kernel)
set_option maxRecDepth 20000 in
theorem gL_law_X6_form : GoodIn wsL_law (wsV RL 72 RX6 yX6_form wsX6_form) := goodIn_app (goodIn_of _ (by decide +kernel)) ggL_law_X6_form
