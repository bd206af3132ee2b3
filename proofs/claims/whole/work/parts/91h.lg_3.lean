set_option maxRecDepth 20000 in
theorem ggL_law_X5_read : GoodIn wsL_law wsX5_read := goodIn_r _ [435, 24, 15, 99, 100, 436, 20, 437, 414, 438, 439, 440, 23, 441, 79, 76, 82, 442, 443, 444, 445, 446, 447, 448, 449, 78, 450, 451, 452, 453, 83, 80, 84, 454, 455, 456, 457, 458, 459, 460, 461, 81, 462, 463, 464, 465, 466, 125, 52, 126, 127, 128, 129, 467, 468, 469, 470, 471, 472, 473, 474, 164, 2, 165, 475, 476, 477, 478, 104, 105, 106, 19, 107, 69, 71, 108, 109, 110, 111, 112, 113, 114, 30, 115, 40, 42, 116, 117, 118, 119, 43, 44, 45, 479, 480, 481, 482, 483, 120, 121, 122, 123, 124, 484, 485, 486, 487, 170, 171, 172, 173, 174, 175, 176, 14, 177, 31, 178, 179, 180, 181, 182, 35, 183, 184, 185, 186, 187, 188, 189, 190, 191, 192, 193, 167, 168, 169, 194, 195, 196, 197, 198, 199, 200, 201, 202, 203, 204, 205, 206, 34, 207, 59, 208, 209, 210, 211, 58, 212, 213, 214, 215, 216, 217, 218, 219, 220, 221, 222, 223, 224, 225, 226, 227, 228, 229, 230, 231, 232, 233, 234, 235, 236, 237, 238, 239, 240, 241, 242, 243, 244, 245, 668, 669, 670, 671, 683, 684, 695, 696, 697, 698, 699, 687, 688, 689, 690, 691, 692, 693, 694, 685, 686, 700, 701] (by decide +kernel) (by decide +kernel)
set_option maxRecDepth 20000 in
theorem gL_law_X5_read : GoodIn wsL_law (wsV RL 53 RX5 yX5_read wsX5_read) := goodIn_app (goodIn_of _ (by decide +kernel)) ggL_law_X5_read
set_option maxRecDepth 20000 in
theorem ggL_law_X6_read : GoodIn wsL_law wsX6_read := goodIn_r _ [491, 492, 493, 423, 141, 142, 143, 5, 144, 90, 89, 494, 495, 496, 497, 94, 498, 499, 500, 501, 502, 503, 504, 505, 506, 507, 508, 509, 134, 135, 136, 510, 511, 512, 513, 514, 515, 516, 517, 151, 152, 153, 154, 518, 519, 520, 521, 281, 282, 283, 284, 285, 286, 287, 288, 258, 259, 260, 261, 262, 263, 264, 289, 290, 291, 292, 92, 93, 293, 294, 295, 296, 522, 523, 524, 525, 145, 146, 147, 148, 91, 149, 150, 672, 673, 674, 675, 676, 677, 678, 679, 680, 681, 682] (by decide +kernel) (by decide +kernel)
set_option maxRecDepth 20000 in
theorem gL_law_X6_read : GoodIn wsL_law (wsV RL 56 RX6 yX6_read wsX6_read) := goodIn_app (goodIn_of _ (by decide +kernel)) ggL_law_X6_read
set_option maxRecDepth 20000 in
theorem ggL_law_X5_get : GoodIn wsL_law wsX5_get := goodIn_r _ [529, 15, 159, 160, 161, 2, 162, 99, 100, 163, 164, 165, 530, 531, 532, 14, 533, 31, 178, 35, 183, 184, 534, 185, 186, 187, 30, 188, 45, 668, 669, 670, 671, 683, 684, 695, 696, 697, 698, 699, 700, 701] (by decide +kernel) (by decide +kernel)
set_option maxRecDepth 20000 in
theorem gL_law_X5_get : GoodIn wsL_law (wsV RL 57 RX5 yX5_get wsX5_get) := goodIn_app (goodIn_of _ (by decide +kernel)) ggL_law_X5_get
set_option maxRecDepth 20000 in
theorem ggL_law_X6_get : GoodIn wsL_law wsX6_get := goodIn_r _ [538, 250, 251, 252, 5, 253, 89, 134, 135, 136, 254, 255, 256, 257, 258, 259, 260, 261, 262, 263, 264, 672, 673, 674, 675, 676, 677, 678, 679, 680, 681, 682] (by decide +kernel) (by decide +kernel)
set_option maxRecDepth 20000 in
theorem gL_law_X6_get : GoodIn wsL_law (wsV RL 60 RX6 yX6_get wsX6_get) := goodIn_app (goodIn_of _ (by decide +kernel)) ggL_law_X6_get
set_option maxRecDepth 20000 in
theorem ggL_law_X5_count : GoodIn wsL_law wsX5_count := goodIn_r _ [542, 15, 99, 100, 363, 20, 396, 24, 414, 543, 544, 545, 30, 546, 45, 547, 548, 549, 550, 40, 551, 307, 308, 309, 310, 213, 214, 215, 216, 190, 191, 192, 42, 193, 167, 168, 169, 43, 311, 312, 313, 314, 315, 316, 317, 552, 553, 554, 34, 555, 237, 238, 239, 240, 59, 376, 377, 378, 379, 556, 557, 558, 14, 559, 31, 368, 560, 561, 562, 563, 178, 35, 183, 185, 186, 187, 188, 564, 668, 669, 670, 671, 683, 684, 695, 696, 697, 698, 699, 685, 686, 687, 688, 689, 690, 691, 692, 693, 694, 700, 701] (by decide +kernel) (by decide +kernel)
set_option maxRecDepth 20000 in
theorem gL_law_X5_count : GoodIn wsL_law (wsV RL 61 RX5 yX5_count wsX5_count) := goodIn_app (goodIn_of _ (by decide +kernel)) ggL_law_X5_count
set_option maxRecDepth 20000 in
theorem ggL_law_X6_count : GoodIn wsL_law wsX6_count := goodIn_r _ [568, 89, 150, 423, 569, 570, 571, 5, 572, 258, 259, 260, 261, 326, 327, 328, 573, 574, 575, 576, 92, 289, 290, 291, 292, 93, 262, 263, 264, 388, 389, 390, 391, 577, 578, 579, 580, 672, 673, 674, 675, 676, 677, 678, 679, 680, 681, 682] (by decide +kernel) (by decide +kernel)
set_option maxRecDepth 20000 in
theorem gL_law_X6_count : GoodIn wsL_law (wsV RL 64 RX6 yX6_count wsX6_count) := goodIn_app (goodIn_of _ (by decide +kernel)) ggL_law_X6_count
set_option maxRecDepth 20000 in
theorem ggL_law_X5_row : GoodIn wsL_law wsX5_row := goodIn_r _ [584, 15, 99, 342, 585, 159, 160, 161, 2, 162, 100, 306, 307, 308, 30, 309, 310, 213, 214, 215, 216, 190, 191, 192, 42, 193, 167, 168, 169, 43, 311, 312, 313, 314, 315, 316, 317, 586, 186, 187, 188, 45, 587, 668, 669, 670, 671, 683, 684, 695, 696, 697, 698, 699] (by decide +kernel) (by decide +kernel)
set_option maxRecDepth 20000 in
theorem gL_law_X5_row : GoodIn wsL_law (wsV RL 65 RX5 yX5_row wsX5_row) := goodIn_app (goodIn_of _ (by decide +kernel)) ggL_law_X5_row
set_option maxRecDepth 20000 in
theorem ggL_law_X6_row : GoodIn wsL_law wsX6_row := goodIn_r _ [591, 89, 250, 251, 252, 5, 253, 134, 135, 136, 258, 259, 260, 261, 326, 327, 328, 672, 673, 674, 675, 676, 677, 678, 679, 680, 681, 682] (by decide +kernel) (by decide +kernel)
set_option maxRecDepth 20000 in
theorem gL_law_X6_row : GoodIn wsL_law (wsV RL 68 RX6 yX6_row wsX6_row) := goodIn_app (goodIn_of _ (by decide +kernel)) ggL_law_X6_row
set_option maxRecDepth 20000 in
theorem ggL_law_X5_form : GoodIn wsL_law wsX5_form := goodIn_r _ [595, 15, 99, 363, 586, 186, 187, 30, 188, 45, 596, 201, 202, 203, 40, 44, 597, 598, 599, 34, 600, 59, 668, 669, 670, 671, 683, 684, 695, 696, 697, 698, 699, 700, 701] (by decide +kernel) (by decide +kernel)
set_option maxRecDepth 20000 in
theorem gL_law_X5_form : GoodIn wsL_law (wsV RL 69 RX5 yX5_form wsX5_form) := goodIn_app (goodIn_of _ (by decide +kernel)) ggL_law_X5_form
set_option maxRecDepth 20000 in
theorem ggL_law_X6_form : GoodIn wsL_law wsX6_form := goodIn_r _ [604, 89, 134, 135, 5, 136, 258, 259, 260, 261, 326, 327, 328, 273, 274, 275, 276, 672, 673, 674, 675, 676, 677, 678, 679, 680, 681, 682] (by decide +kernel) (by decide +kernel)
set_option maxRecDepth 20000 in
theorem gL_law_X6_form : GoodIn wsL_law (wsV RL 72 RX6 yX6_form wsX6_form) := goodIn_app (goodIn_of _ (by decide +kernel)) ggL_law_X6_form
