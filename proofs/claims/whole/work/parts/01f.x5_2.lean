theorem dX5_get_8 : decode cX5_get 8 = .ok (.iload_n 2, 1) := by decide +kernel
theorem dX5_get_9 : decode cX5_get 9 = .ok (.invokestatic 58, 3) := by decide +kernel
theorem dX5_get_12 : decode cX5_get 12 = .ok (.ifCond .ne 5, 3) := by decide +kernel
theorem dX5_get_15 : decode cX5_get 15 = .ok (.iconst (-1), 1) := by decide +kernel
theorem dX5_get_16 : decode cX5_get 16 = .ok (.ireturn, 1) := by decide +kernel
theorem dX5_get_17 : decode cX5_get 17 = .ok (.aload_n 0, 1) := by decide +kernel
theorem dX5_get_18 : decode cX5_get 18 = .ok (.getfield 12, 3) := by decide +kernel
theorem dX5_get_21 : decode cX5_get 21 = .ok (.iload_n 1, 1) := by decide +kernel
theorem dX5_get_22 : decode cX5_get 22 = .ok (.iload_n 2, 1) := by decide +kernel
theorem dX5_get_23 : decode cX5_get 23 = .ok (.invokevirtual 132, 3) := by decide +kernel
theorem dX5_get_26 : decode cX5_get 26 = .ok (.ireturn, 1) := by decide +kernel
set_option maxRecDepth 20000 in
theorem ggX5_count_X1_formCount : GoodIn wsX5_count wsX1_formCount := goodIn_r _ [13, 14, 84, 85, 86, 87, 88] (by decide +kernel) (by decide +kernel)
set_option maxRecDepth 20000 in
theorem gX5_count_X1_formCount : GoodIn wsX5_count (wsV RX5 135 RX1 yX1_formCount wsX1_formCount) := goodIn_app (goodIn_of _ (by decide +kernel)) ggX5_count_X1_formCount
set_option maxRecDepth 20000 in
theorem ggX5_count_X1_weightSum : GoodIn wsX5_count wsX1_weightSum := goodIn_r _ [18, 19, 20, 21, 22, 12, 23, 24, 25, 26, 27, 28, 29, 30, 31, 32, 33, 34, 35, 36, 37, 38, 39, 40, 41, 42, 43, 44, 84, 85, 86, 87, 88] (by decide +kernel) (by decide +kernel)
set_option maxRecDepth 20000 in
theorem gX5_count_X1_weightSum : GoodIn wsX5_count (wsV RX5 138 RX1 yX1_weightSum wsX1_weightSum) := goodIn_app (goodIn_of _ (by decide +kernel)) ggX5_count_X1_weightSum
set_option maxRecDepth 20000 in
theorem ggX5_count_X2_filledCells : GoodIn wsX5_count wsX2_filledCells := goodIn_r _ [49, 50, 51, 52, 48, 53, 54, 99, 100] (by decide +kernel) (by decide +kernel)
set_option maxRecDepth 20000 in
theorem gX5_count_X2_filledCells : GoodIn wsX5_count (wsV RX5 141 RX2 yX2_filledCells wsX2_filledCells) := goodIn_app (goodIn_of _ (by decide +kernel)) ggX5_count_X2_filledCells
set_option maxRecDepth 20000 in
theorem ggX5_count_X2_endOfCells : GoodIn wsX5_count wsX2_endOfCells := goodIn_r _ [58, 50, 51, 52, 48, 53, 54, 99, 100] (by decide +kernel) (by decide +kernel)
set_option maxRecDepth 20000 in
theorem gX5_count_X2_endOfCells : GoodIn wsX5_count (wsV RX5 97 RX2 yX2_endOfCells wsX2_endOfCells) := goodIn_app (goodIn_of _ (by decide +kernel)) ggX5_count_X2_endOfCells
set_option maxRecDepth 20000 in
theorem ggX5_count_X3_refusals : GoodIn wsX5_count wsX3_refusals := goodIn_r _ [63, 64, 65, 66, 67, 68, 62, 69, 70, 71, 72, 73, 74, 75, 12, 76, 14, 77, 51, 52, 48, 53, 54, 82, 83, 84, 85, 86, 87, 88, 99, 100] (by decide +kernel) (by decide +kernel)
set_option maxRecDepth 20000 in
theorem gX5_count_X3_refusals : GoodIn wsX5_count (wsV RX5 144 RX3 yX3_refusals wsX3_refusals) := goodIn_app (goodIn_of _ (by decide +kernel)) ggX5_count_X3_refusals
theorem dX5_count_0 : decode cX5_count 0 = .ok (.iload_n 1, 1) := by decide +kernel
theorem dX5_count_1 : decode cX5_count 1 = .ok (.tableswitch 152 0 8 #[51, 62, 73, 84, 95, 106, 128, 136, 144], 51) := by decide +kernel
theorem dX5_count_52 : decode cX5_count 52 = .ok (.aload_n 0, 1) := by decide +kernel
theorem dX5_count_53 : decode cX5_count 53 = .ok (.getfield 12, 3) := by decide +kernel
theorem dX5_count_56 : decode cX5_count 56 = .ok (.getfield 37, 3) := by decide +kernel
theorem dX5_count_59 : decode cX5_count 59 = .ok (.getfield 41, 3) := by decide +kernel
theorem dX5_count_62 : decode cX5_count 62 = .ok (.ireturn, 1) := by decide +kernel
theorem dX5_count_63 : decode cX5_count 63 = .ok (.aload_n 0, 1) := by decide +kernel
theorem dX5_count_64 : decode cX5_count 64 = .ok (.getfield 12, 3) := by decide +kernel
theorem dX5_count_67 : decode cX5_count 67 = .ok (.getfield 37, 3) := by decide +kernel
theorem dX5_count_70 : decode cX5_count 70 = .ok (.invokevirtual 135, 3) := by decide +kernel
theorem dX5_count_73 : decode cX5_count 73 = .ok (.ireturn, 1) := by decide +kernel
theorem dX5_count_74 : decode cX5_count 74 = .ok (.aload_n 0, 1) := by decide +kernel
theorem dX5_count_75 : decode cX5_count 75 = .ok (.getfield 12, 3) := by decide +kernel
theorem dX5_count_78 : decode cX5_count 78 = .ok (.getfield 37, 3) := by decide +kernel
theorem dX5_count_81 : decode cX5_count 81 = .ok (.invokevirtual 138, 3) := by decide +kernel
theorem dX5_count_84 : decode cX5_count 84 = .ok (.ireturn, 1) := by decide +kernel
theorem dX5_count_85 : decode cX5_count 85 = .ok (.aload_n 0, 1) := by decide +kernel
theorem dX5_count_86 : decode cX5_count 86 = .ok (.getfield 12, 3) := by decide +kernel
theorem dX5_count_89 : decode cX5_count 89 = .ok (.getfield 93, 3) := by decide +kernel
theorem dX5_count_92 : decode cX5_count 92 = .ok (.invokevirtual 141, 3) := by decide +kernel
theorem dX5_count_95 : decode cX5_count 95 = .ok (.ireturn, 1) := by decide +kernel
theorem dX5_count_96 : decode cX5_count 96 = .ok (.aload_n 0, 1) := by decide +kernel
theorem dX5_count_97 : decode cX5_count 97 = .ok (.getfield 12, 3) := by decide +kernel
theorem dX5_count_100 : decode cX5_count 100 = .ok (.getfield 93, 3) := by decide +kernel
theorem dX5_count_103 : decode cX5_count 103 = .ok (.invokevirtual 97, 3) := by decide +kernel
theorem dX5_count_106 : decode cX5_count 106 = .ok (.ireturn, 1) := by decide +kernel
theorem dX5_count_107 : decode cX5_count 107 = .ok (.aload_n 0, 1) := by decide +kernel
theorem dX5_count_108 : decode cX5_count 108 = .ok (.getfield 12, 3) := by decide +kernel
theorem dX5_count_111 : decode cX5_count 111 = .ok (.getfield 93, 3) := by decide +kernel
theorem dX5_count_114 : decode cX5_count 114 = .ok (.invokevirtual 97, 3) := by decide +kernel
theorem dX5_count_117 : decode cX5_count 117 = .ok (.aload_n 0, 1) := by decide +kernel
theorem dX5_count_118 : decode cX5_count 118 = .ok (.getfield 12, 3) := by decide +kernel
theorem dX5_count_121 : decode cX5_count 121 = .ok (.getfield 93, 3) := by decide +kernel
theorem dX5_count_124 : decode cX5_count 124 = .ok (.invokevirtual 141, 3) := by decide +kernel
theorem dX5_count_127 : decode cX5_count 127 = .ok (.isub, 1) := by decide +kernel
theorem dX5_count_128 : decode cX5_count 128 = .ok (.ireturn, 1) := by decide +kernel
theorem dX5_count_129 : decode cX5_count 129 = .ok (.aload_n 0, 1) := by decide +kernel
theorem dX5_count_130 : decode cX5_count 130 = .ok (.getfield 12, 3) := by decide +kernel
theorem dX5_count_133 : decode cX5_count 133 = .ok (.invokevirtual 144, 3) := by decide +kernel
theorem dX5_count_136 : decode cX5_count 136 = .ok (.ireturn, 1) := by decide +kernel
theorem dX5_count_137 : decode cX5_count 137 = .ok (.aload_n 0, 1) := by decide +kernel
theorem dX5_count_138 : decode cX5_count 138 = .ok (.getfield 22, 3) := by decide +kernel
theorem dX5_count_141 : decode cX5_count 141 = .ok (.getfield 103, 3) := by decide +kernel
theorem dX5_count_144 : decode cX5_count 144 = .ok (.ireturn, 1) := by decide +kernel
theorem dX5_count_145 : decode cX5_count 145 = .ok (.aload_n 0, 1) := by decide +kernel
theorem dX5_count_146 : decode cX5_count 146 = .ok (.getfield 29, 3) := by decide +kernel
theorem dX5_count_149 : decode cX5_count 149 = .ok (.getfield 113, 3) := by decide +kernel
theorem dX5_count_152 : decode cX5_count 152 = .ok (.ireturn, 1) := by decide +kernel
theorem dX5_count_153 : decode cX5_count 153 = .ok (.iconst (-1), 1) := by decide +kernel
theorem dX5_count_154 : decode cX5_count 154 = .ok (.ireturn, 1) := by decide +kernel
set_option maxRecDepth 20000 in
theorem ggX5_row_X5_isRow : GoodIn wsX5_row wsX5_isRow := goodIn_r _ [9, 1, 2, 10, 43, 44, 45, 46, 47, 48, 49, 50, 51, 52, 53] (by decide +kernel) (by decide +kernel)
set_option maxRecDepth 20000 in
theorem gX5_row_X5_isRow : GoodIn wsX5_row (wsV RX5 55 RX5 yX5_isRow wsX5_isRow) := goodIn_app (goodIn_of _ (by decide +kernel)) ggX5_row_X5_isRow
set_option maxRecDepth 20000 in
theorem ggX5_row_X1_weightOf : GoodIn wsX5_row wsX1_weightOf := goodIn_r _ [15, 16, 17, 18, 14, 19, 20, 21, 22, 23, 24, 25, 26, 27, 28, 29, 30, 31, 32, 33, 34, 35, 36, 49, 50, 51, 52, 53] (by decide +kernel) (by decide +kernel)
set_option maxRecDepth 20000 in
theorem gX5_row_X1_weightOf : GoodIn wsX5_row (wsV RX5 77 RX1 yX1_weightOf wsX1_weightOf) := goodIn_app (goodIn_of _ (by decide +kernel)) ggX5_row_X1_weightOf
set_option maxRecDepth 20000 in
theorem ggX5_row_X1_shiftOf : GoodIn wsX5_row wsX1_shiftOf := goodIn_r _ [40, 41, 49, 50, 51, 52, 53] (by decide +kernel) (by decide +kernel)
set_option maxRecDepth 20000 in
theorem gX5_row_X1_shiftOf : GoodIn wsX5_row (wsV RX5 150 RX1 yX1_shiftOf wsX1_shiftOf) := goodIn_app (goodIn_of _ (by decide +kernel)) ggX5_row_X1_shiftOf
set_option maxRecDepth 20000 in
theorem ggX5_row_X1_columnsOf : GoodIn wsX5_row wsX1_columnsOf := goodIn_r _ [19, 20, 21, 22, 14, 23, 24, 25, 26, 27, 28, 29, 49, 50, 51, 52, 53] (by decide +kernel) (by decide +kernel)
set_option maxRecDepth 20000 in
theorem gX5_row_X1_columnsOf : GoodIn wsX5_row (wsV RX5 153 RX1 yX1_columnsOf wsX1_columnsOf) := goodIn_app (goodIn_of _ (by decide +kernel)) ggX5_row_X1_columnsOf
theorem dX5_row_0 : decode cX5_row 0 = .ok (.aload_n 0, 1) := by decide +kernel
theorem dX5_row_1 : decode cX5_row 1 = .ok (.iload_n 1, 1) := by decide +kernel
theorem dX5_row_2 : decode cX5_row 2 = .ok (.invokevirtual 55, 3) := by decide +kernel
theorem dX5_row_5 : decode cX5_row 5 = .ok (.ifCond .ne 5, 3) := by decide +kernel
theorem dX5_row_8 : decode cX5_row 8 = .ok (.iconst (-1), 1) := by decide +kernel
theorem dX5_row_9 : decode cX5_row 9 = .ok (.ireturn, 1) := by decide +kernel
theorem dX5_row_10 : decode cX5_row 10 = .ok (.iload_n 2, 1) := by decide +kernel
theorem dX5_row_11 : decode cX5_row 11 = .ok (.tableswitch 106 0 4 #[33, 46, 58, 71, 94], 33) := by decide +kernel
theorem dX5_row_44 : decode cX5_row 44 = .ok (.aload_n 0, 1) := by decide +kernel
theorem dX5_row_45 : decode cX5_row 45 = .ok (.getfield 12, 3) := by decide +kernel
theorem dX5_row_48 : decode cX5_row 48 = .ok (.getfield 37, 3) := by decide +kernel
theorem dX5_row_51 : decode cX5_row 51 = .ok (.getfield 83, 3) := by decide +kernel
theorem dX5_row_54 : decode cX5_row 54 = .ok (.iload_n 1, 1) := by decide +kernel
theorem dX5_row_55 : decode cX5_row 55 = .ok (.iaload, 1) := by decide +kernel
theorem dX5_row_56 : decode cX5_row 56 = .ok (.ireturn, 1) := by decide +kernel
theorem dX5_row_57 : decode cX5_row 57 = .ok (.aload_n 0, 1) := by decide +kernel
theorem dX5_row_58 : decode cX5_row 58 = .ok (.getfield 12, 3) := by decide +kernel
theorem dX5_row_61 : decode cX5_row 61 = .ok (.getfield 37, 3) := by decide +kernel
theorem dX5_row_64 : decode cX5_row 64 = .ok (.iload_n 1, 1) := by decide +kernel
theorem dX5_row_65 : decode cX5_row 65 = .ok (.invokevirtual 77, 3) := by decide +kernel
theorem dX5_row_68 : decode cX5_row 68 = .ok (.ireturn, 1) := by decide +kernel
theorem dX5_row_69 : decode cX5_row 69 = .ok (.aload_n 0, 1) := by decide +kernel
theorem dX5_row_70 : decode cX5_row 70 = .ok (.getfield 12, 3) := by decide +kernel
theorem dX5_row_73 : decode cX5_row 73 = .ok (.getfield 37, 3) := by decide +kernel
theorem dX5_row_76 : decode cX5_row 76 = .ok (.getfield 147, 3) := by decide +kernel
theorem dX5_row_79 : decode cX5_row 79 = .ok (.iload_n 1, 1) := by decide +kernel
theorem dX5_row_80 : decode cX5_row 80 = .ok (.iaload, 1) := by decide +kernel
theorem dX5_row_81 : decode cX5_row 81 = .ok (.ireturn, 1) := by decide +kernel
theorem dX5_row_82 : decode cX5_row 82 = .ok (.aload_n 0, 1) := by decide +kernel
theorem dX5_row_83 : decode cX5_row 83 = .ok (.getfield 12, 3) := by decide +kernel
theorem dX5_row_86 : decode cX5_row 86 = .ok (.getfield 37, 3) := by decide +kernel
theorem dX5_row_89 : decode cX5_row 89 = .ok (.aload_n 0, 1) := by decide +kernel
theorem dX5_row_90 : decode cX5_row 90 = .ok (.getfield 12, 3) := by decide +kernel
theorem dX5_row_93 : decode cX5_row 93 = .ok (.getfield 37, 3) := by decide +kernel
theorem dX5_row_96 : decode cX5_row 96 = .ok (.getfield 147, 3) := by decide +kernel
theorem dX5_row_99 : decode cX5_row 99 = .ok (.iload_n 1, 1) := by decide +kernel
theorem dX5_row_100 : decode cX5_row 100 = .ok (.iaload, 1) := by decide +kernel
theorem dX5_row_101 : decode cX5_row 101 = .ok (.invokevirtual 150, 3) := by decide +kernel
theorem dX5_row_104 : decode cX5_row 104 = .ok (.ireturn, 1) := by decide +kernel
theorem dX5_row_105 : decode cX5_row 105 = .ok (.aload_n 0, 1) := by decide +kernel
theorem dX5_row_106 : decode cX5_row 106 = .ok (.getfield 12, 3) := by decide +kernel
theorem dX5_row_109 : decode cX5_row 109 = .ok (.getfield 37, 3) := by decide +kernel
theorem dX5_row_112 : decode cX5_row 112 = .ok (.iload_n 1, 1) := by decide +kernel
theorem dX5_row_113 : decode cX5_row 113 = .ok (.invokevirtual 153, 3) := by decide +kernel
theorem dX5_row_116 : decode cX5_row 116 = .ok (.ireturn, 1) := by decide +kernel
theorem dX5_row_117 : decode cX5_row 117 = .ok (.iconst (-1), 1) := by decide +kernel
theorem dX5_row_118 : decode cX5_row 118 = .ok (.ireturn, 1) := by decide +kernel
set_option maxRecDepth 20000 in
theorem ggX5_form_X1_shiftOf : GoodIn wsX5_form wsX1_shiftOf := goodIn_r _ [8, 9, 28, 29, 30, 31, 32] (by decide +kernel) (by decide +kernel)
set_option maxRecDepth 20000 in
theorem gX5_form_X1_shiftOf : GoodIn wsX5_form (wsV RX5 150 RX1 yX1_shiftOf wsX1_shiftOf) := goodIn_app (goodIn_of _ (by decide +kernel)) ggX5_form_X1_shiftOf
set_option maxRecDepth 20000 in
theorem ggX5_form_X1_sharersOf : GoodIn wsX5_form wsX1_sharersOf := goodIn_r _ [13, 14, 15, 28, 29, 30, 31, 32] (by decide +kernel) (by decide +kernel)
set_option maxRecDepth 20000 in
theorem gX5_form_X1_sharersOf : GoodIn wsX5_form (wsV RX5 156 RX1 yX1_sharersOf wsX1_sharersOf) := goodIn_app (goodIn_of _ (by decide +kernel)) ggX5_form_X1_sharersOf
set_option maxRecDepth 20000 in
theorem ggX5_form_X2_filledOf : GoodIn wsX5_form wsX2_filledOf := goodIn_r _ [20, 21, 33, 34] (by decide +kernel) (by decide +kernel)
set_option maxRecDepth 20000 in
theorem gX5_form_X2_filledOf : GoodIn wsX5_form (wsV RX5 159 RX2 yX2_filledOf wsX2_filledOf) := goodIn_app (goodIn_of _ (by decide +kernel)) ggX5_form_X2_filledOf
theorem dX5_form_0 : decode cX5_form 0 = .ok (.iload_n 1, 1) := by decide +kernel
theorem dX5_form_1 : decode cX5_form 1 = .ok (.ifCond .lt 18, 3) := by decide +kernel
theorem dX5_form_4 : decode cX5_form 4 = .ok (.iload_n 1, 1) := by decide +kernel
theorem dX5_form_5 : decode cX5_form 5 = .ok (.bipush 24, 2) := by decide +kernel
theorem dX5_form_7 : decode cX5_form 7 = .ok (.if_icmp .ge 12, 3) := by decide +kernel
theorem dX5_form_10 : decode cX5_form 10 = .ok (.iload_n 2, 1) := by decide +kernel
theorem dX5_form_11 : decode cX5_form 11 = .ok (.ifCond .lt 8, 3) := by decide +kernel
theorem dX5_form_14 : decode cX5_form 14 = .ok (.iload_n 2, 1) := by decide +kernel
theorem dX5_form_15 : decode cX5_form 15 = .ok (.iconst 2, 1) := by decide +kernel
theorem dX5_form_16 : decode cX5_form 16 = .ok (.if_icmp .le 5, 3) := by decide +kernel
theorem dX5_form_19 : decode cX5_form 19 = .ok (.iconst (-1), 1) := by decide +kernel
theorem dX5_form_20 : decode cX5_form 20 = .ok (.ireturn, 1) := by decide +kernel
theorem dX5_form_21 : decode cX5_form 21 = .ok (.aload_n 0, 1) := by decide +kernel
theorem dX5_form_22 : decode cX5_form 22 = .ok (.getfield 12, 3) := by decide +kernel
theorem dX5_form_25 : decode cX5_form 25 = .ok (.getfield 37, 3) := by decide +kernel
theorem dX5_form_28 : decode cX5_form 28 = .ok (.iload_n 1, 1) := by decide +kernel
theorem dX5_form_29 : decode cX5_form 29 = .ok (.invokevirtual 150, 3) := by decide +kernel
theorem dX5_form_32 : decode cX5_form 32 = .ok (.istore_n 3, 1) := by decide +kernel
theorem dX5_form_33 : decode cX5_form 33 = .ok (.iload_n 3, 1) := by decide +kernel
theorem dX5_form_34 : decode cX5_form 34 = .ok (.bipush (-9), 2) := by decide +kernel
theorem dX5_form_36 : decode cX5_form 36 = .ok (.if_icmp .eq 7, 3) := by decide +kernel
theorem dX5_form_39 : decode cX5_form 39 = .ok (.iload_n 2, 1) := by decide +kernel
theorem dX5_form_40 : decode cX5_form 40 = .ok (.ifCond .ne 5, 3) := by decide +kernel
theorem dX5_form_43 : decode cX5_form 43 = .ok (.iload_n 3, 1) := by decide +kernel
theorem dX5_form_44 : decode cX5_form 44 = .ok (.ireturn, 1) := by decide +kernel
theorem dX5_form_45 : decode cX5_form 45 = .ok (.iload_n 2, 1) := by decide +kernel
theorem dX5_form_46 : decode cX5_form 46 = .ok (.iconst 1, 1) := by decide +kernel
theorem dX5_form_47 : decode cX5_form 47 = .ok (.if_icmp .ne 17, 3) := by decide +kernel
theorem dX5_form_50 : decode cX5_form 50 = .ok (.aload_n 0, 1) := by decide +kernel
theorem dX5_form_51 : decode cX5_form 51 = .ok (.getfield 12, 3) := by decide +kernel
theorem dX5_form_54 : decode cX5_form 54 = .ok (.getfield 37, 3) := by decide +kernel
theorem dX5_form_57 : decode cX5_form 57 = .ok (.iload_n 1, 1) := by decide +kernel
theorem dX5_form_58 : decode cX5_form 58 = .ok (.invokevirtual 156, 3) := by decide +kernel
theorem dX5_form_61 : decode cX5_form 61 = .ok (.goto 15, 3) := by decide +kernel
theorem dX5_form_64 : decode cX5_form 64 = .ok (.aload_n 0, 1) := by decide +kernel
theorem dX5_form_65 : decode cX5_form 65 = .ok (.getfield 12, 3) := by decide +kernel
theorem dX5_form_68 : decode cX5_form 68 = .ok (.getfield 93, 3) := by decide +kernel
theorem dX5_form_71 : decode cX5_form 71 = .ok (.iload_n 1, 1) := by decide +kernel
theorem dX5_form_72 : decode cX5_form 72 = .ok (.iload_n 3, 1) := by decide +kernel
theorem dX5_form_73 : decode cX5_form 73 = .ok (.invokevirtual 159, 3) := by decide +kernel
theorem dX5_form_76 : decode cX5_form 76 = .ok (.ireturn, 1) := by decide +kernel
theorem dX5_cell_0 : decode cX5_cell 0 = .ok (.iload_n 1, 1) := by decide +kernel
theorem dX5_cell_1 : decode cX5_cell 1 = .ok (.ifCond .lt 19, 3) := by decide +kernel
theorem dX5_cell_4 : decode cX5_cell 4 = .ok (.iload_n 1, 1) := by decide +kernel
theorem dX5_cell_5 : decode cX5_cell 5 = .ok (.sipush 800, 3) := by decide +kernel
theorem dX5_cell_8 : decode cX5_cell 8 = .ok (.if_icmp .ge 12, 3) := by decide +kernel
theorem dX5_cell_11 : decode cX5_cell 11 = .ok (.iload_n 2, 1) := by decide +kernel
theorem dX5_cell_12 : decode cX5_cell 12 = .ok (.ifCond .lt 8, 3) := by decide +kernel
theorem dX5_cell_15 : decode cX5_cell 15 = .ok (.iload_n 2, 1) := by decide +kernel
theorem dX5_cell_16 : decode cX5_cell 16 = .ok (.iconst 1, 1) := by decide +kernel
theorem dX5_cell_17 : decode cX5_cell 17 = .ok (.if_icmp .le 5, 3) := by decide +kernel
theorem dX5_cell_20 : decode cX5_cell 20 = .ok (.iconst (-1), 1) := by decide +kernel
theorem dX5_cell_21 : decode cX5_cell 21 = .ok (.ireturn, 1) := by decide +kernel
theorem dX5_cell_22 : decode cX5_cell 22 = .ok (.iload_n 2, 1) := by decide +kernel
theorem dX5_cell_23 : decode cX5_cell 23 = .ok (.ifCond .ne 18, 3) := by decide +kernel
theorem dX5_cell_26 : decode cX5_cell 26 = .ok (.aload_n 0, 1) := by decide +kernel
theorem dX5_cell_27 : decode cX5_cell 27 = .ok (.getfield 12, 3) := by decide +kernel
theorem dX5_cell_30 : decode cX5_cell 30 = .ok (.getfield 93, 3) := by decide +kernel
theorem dX5_cell_33 : decode cX5_cell 33 = .ok (.getfield 162, 3) := by decide +kernel
theorem dX5_cell_36 : decode cX5_cell 36 = .ok (.iload_n 1, 1) := by decide +kernel
theorem dX5_cell_37 : decode cX5_cell 37 = .ok (.iaload, 1) := by decide +kernel
theorem dX5_cell_38 : decode cX5_cell 38 = .ok (.goto 15, 3) := by decide +kernel
theorem dX5_cell_41 : decode cX5_cell 41 = .ok (.aload_n 0, 1) := by decide +kernel
theorem dX5_cell_42 : decode cX5_cell 42 = .ok (.getfield 12, 3) := by decide +kernel
theorem dX5_cell_45 : decode cX5_cell 45 = .ok (.getfield 93, 3) := by decide +kernel
theorem dX5_cell_48 : decode cX5_cell 48 = .ok (.getfield 165, 3) := by decide +kernel
theorem dX5_cell_51 : decode cX5_cell 51 = .ok (.iload_n 1, 1) := by decide +kernel
theorem dX5_cell_52 : decode cX5_cell 52 = .ok (.iaload, 1) := by decide +kernel
theorem dX5_cell_53 : decode cX5_cell 53 = .ok (.ireturn, 1) := by decide +kernel
set_option maxRecDepth 20000 in
theorem ggX5_fit_X2_firstFit : GoodIn wsX5_fit wsX2_firstFit := goodIn_r _ [8, 9, 10, 11, 7, 12, 13, 14, 15, 16, 17, 24, 25] (by decide +kernel) (by decide +kernel)
set_option maxRecDepth 20000 in
theorem gX5_fit_X2_firstFit : GoodIn wsX5_fit (wsV RX5 169 RX2 yX2_firstFit wsX2_firstFit) := goodIn_app (goodIn_of _ (by decide +kernel)) ggX5_fit_X2_firstFit
theorem dX5_fit_0 : decode cX5_fit 0 = .ok (.iload_n 1, 1) := by decide +kernel
theorem dX5_fit_1 : decode cX5_fit 1 = .ok (.iconst 1, 1) := by decide +kernel
theorem dX5_fit_2 : decode cX5_fit 2 = .ok (.if_icmp .lt 9, 3) := by decide +kernel
theorem dX5_fit_5 : decode cX5_fit 5 = .ok (.iload_n 1, 1) := by decide +kernel
theorem dX5_fit_6 : decode cX5_fit 6 = .ok (.ldc 168, 2) := by decide +kernel
theorem dX5_fit_8 : decode cX5_fit 8 = .ok (.if_icmp .le 5, 3) := by decide +kernel
theorem dX5_fit_11 : decode cX5_fit 11 = .ok (.iconst (-1), 1) := by decide +kernel
theorem dX5_fit_12 : decode cX5_fit 12 = .ok (.ireturn, 1) := by decide +kernel
theorem dX5_fit_13 : decode cX5_fit 13 = .ok (.aload_n 0, 1) := by decide +kernel
theorem dX5_fit_14 : decode cX5_fit 14 = .ok (.getfield 12, 3) := by decide +kernel
theorem dX5_fit_17 : decode cX5_fit 17 = .ok (.getfield 93, 3) := by decide +kernel
theorem dX5_fit_20 : decode cX5_fit 20 = .ok (.iload_n 1, 1) := by decide +kernel
theorem dX5_fit_21 : decode cX5_fit 21 = .ok (.invokevirtual 169, 3) := by decide +kernel
theorem dX5_fit_24 : decode cX5_fit 24 = .ok (.ireturn, 1) := by decide +kernel
set_option maxRecDepth 20000 in
theorem ggX5_endBy_X1_copyFrom : GoodIn wsX5_endBy wsX1_copyFrom := goodIn_r _ [9, 10, 11, 12, 13, 14, 15, 16, 17, 18, 147, 148, 149, 150, 151] (by decide +kernel) (by decide +kernel)
set_option maxRecDepth 20000 in
theorem gX5_endBy_X1_copyFrom : GoodIn wsX5_endBy (wsV RX5 172 RX1 yX1_copyFrom wsX1_copyFrom) := goodIn_app (goodIn_of _ (by decide +kernel)) ggX5_endBy_X1_copyFrom
set_option maxRecDepth 20000 in
theorem ggX5_endBy_X3_pushAnewByWeights : GoodIn wsX5_endBy wsX3_pushAnewByWeights := goodIn_r _ [23, 24, 25, 26, 27, 28, 22, 29, 30, 31, 8, 32, 33, 17, 18, 34, 35, 36, 37, 38, 39, 40, 41, 42, 43, 44, 45, 46, 47, 48, 49, 50, 51, 52, 53, 54, 55, 56, 57, 11, 58, 59, 60, 61, 16, 62, 63, 64, 65, 66, 67, 68, 69, 70, 71, 72, 73, 74, 75, 76, 77, 78, 79, 80, 81, 82, 83, 84, 85, 86, 87, 88, 89, 90, 91, 92, 93, 94, 10, 95, 96, 97, 98, 99, 100, 101, 102, 103, 104, 105, 106, 107, 108, 109, 110, 111, 112, 113, 114, 115, 116, 117, 118, 119, 120, 121, 122, 123, 124, 125, 126, 127, 128, 129, 130, 131, 132, 145, 146, 147, 148, 149, 150, 151, 152, 153] (by decide +kernel) (by decide +kernel)
set_option maxRecDepth 20000 in
theorem gX5_endBy_X3_pushAnewByWeights : GoodIn wsX5_endBy (wsV RX5 90 RX3 yX3_pushAnewByWeights wsX3_pushAnewByWeights) := goodIn_app (goodIn_of _ (by decide +kernel)) ggX5_endBy_X3_pushAnewByWeights
set_option maxRecDepth 20000 in
theorem ggX5_endBy_X3_pushAnewByNumbers : GoodIn wsX5_endBy wsX3_pushAnewByNumbers := goodIn_r _ [136, 24, 25, 26, 27, 28, 22, 29, 30, 31, 8, 32, 33, 17, 18, 34, 35, 36, 37, 38, 39, 40, 41, 42, 43, 44, 45, 69, 70, 71, 72, 73, 74, 75, 76, 77, 78, 79, 80, 81, 82, 83, 84, 55, 56, 57, 11, 58, 59, 60, 61, 16, 85, 86, 87, 88, 89, 90, 91, 92, 93, 94, 10, 95, 96, 97, 98, 99, 100, 101, 102, 103, 51, 52, 53, 54, 104, 105, 106, 107, 108, 109, 110, 111, 112, 113, 114, 115, 116, 117, 118, 119, 120, 121, 122, 123, 124, 125, 126, 127, 128, 129, 130, 131, 132, 145, 146, 147, 148, 149, 150, 151, 152, 153] (by decide +kernel) (by decide +kernel)
set_option maxRecDepth 20000 in
theorem gX5_endBy_X3_pushAnewByNumbers : GoodIn wsX5_endBy (wsV RX5 175 RX3 yX3_pushAnewByNumbers wsX3_pushAnewByNumbers) := goodIn_app (goodIn_of _ (by decide +kernel)) ggX5_endBy_X3_pushAnewByNumbers
set_option maxRecDepth 20000 in
theorem ggX5_endBy_X2_endOfCells : GoodIn wsX5_endBy wsX2_endOfCells := goodIn_r _ [140, 124, 125, 126, 41, 127, 44, 152, 153] (by decide +kernel) (by decide +kernel)
set_option maxRecDepth 20000 in
theorem gX5_endBy_X2_endOfCells : GoodIn wsX5_endBy (wsV RX5 97 RX2 yX2_endOfCells wsX2_endOfCells) := goodIn_app (goodIn_of _ (by decide +kernel)) ggX5_endBy_X2_endOfCells
theorem dX5_endBy_0 : decode cX5_endBy 0 = .ok (.iload_n 1, 1) := by decide +kernel
theorem dX5_endBy_1 : decode cX5_endBy 1 = .ok (.ifCond .eq 10, 3) := by decide +kernel
theorem dX5_endBy_4 : decode cX5_endBy 4 = .ok (.iload_n 1, 1) := by decide +kernel
theorem dX5_endBy_5 : decode cX5_endBy 5 = .ok (.iconst 1, 1) := by decide +kernel
theorem dX5_endBy_6 : decode cX5_endBy 6 = .ok (.if_icmp .eq 5, 3) := by decide +kernel
theorem dX5_endBy_9 : decode cX5_endBy 9 = .ok (.iconst (-1), 1) := by decide +kernel
theorem dX5_endBy_10 : decode cX5_endBy 10 = .ok (.ireturn, 1) := by decide +kernel
theorem dX5_endBy_11 : decode cX5_endBy 11 = .ok (.aload_n 0, 1) := by decide +kernel
theorem dX5_endBy_12 : decode cX5_endBy 12 = .ok (.getfield 16, 3) := by decide +kernel
theorem dX5_endBy_15 : decode cX5_endBy 15 = .ok (.getfield 37, 3) := by decide +kernel
theorem dX5_endBy_18 : decode cX5_endBy 18 = .ok (.aload_n 0, 1) := by decide +kernel
theorem dX5_endBy_19 : decode cX5_endBy 19 = .ok (.getfield 12, 3) := by decide +kernel
theorem dX5_endBy_22 : decode cX5_endBy 22 = .ok (.getfield 37, 3) := by decide +kernel
theorem dX5_endBy_25 : decode cX5_endBy 25 = .ok (.invokevirtual 172, 3) := by decide +kernel
theorem dX5_endBy_28 : decode cX5_endBy 28 = .ok (.iload_n 1, 1) := by decide +kernel
theorem dX5_endBy_29 : decode cX5_endBy 29 = .ok (.ifCond .ne 13, 3) := by decide +kernel
theorem dX5_endBy_32 : decode cX5_endBy 32 = .ok (.aload_n 0, 1) := by decide +kernel
theorem dX5_endBy_33 : decode cX5_endBy 33 = .ok (.getfield 16, 3) := by decide +kernel
theorem dX5_endBy_36 : decode cX5_endBy 36 = .ok (.invokevirtual 90, 3) := by decide +kernel
theorem dX5_endBy_39 : decode cX5_endBy 39 = .ok (.goto 10, 3) := by decide +kernel
theorem dX5_endBy_42 : decode cX5_endBy 42 = .ok (.aload_n 0, 1) := by decide +kernel
theorem dX5_endBy_43 : decode cX5_endBy 43 = .ok (.getfield 16, 3) := by decide +kernel
theorem dX5_endBy_46 : decode cX5_endBy 46 = .ok (.invokevirtual 175, 3) := by decide +kernel
theorem dX5_endBy_49 : decode cX5_endBy 49 = .ok (.aload_n 0, 1) := by decide +kernel
theorem dX5_endBy_50 : decode cX5_endBy 50 = .ok (.getfield 16, 3) := by decide +kernel
theorem dX5_endBy_53 : decode cX5_endBy 53 = .ok (.getfield 93, 3) := by decide +kernel
theorem dX5_endBy_56 : decode cX5_endBy 56 = .ok (.invokevirtual 97, 3) := by decide +kernel
theorem dX5_endBy_59 : decode cX5_endBy 59 = .ok (.ireturn, 1) := by decide +kernel
set_option maxRecDepth 20000 in
theorem ggX5_slimmer_X1_slimmerBy : GoodIn wsX5_slimmer wsX1_slimmerBy := goodIn_r _ [8, 9, 10, 11, 7, 12, 13, 14, 15, 16, 17, 18, 19, 20, 21, 22, 23, 24, 25, 26, 27, 28, 29, 30, 31, 32, 33, 34, 35, 36, 37, 38, 39, 40, 41, 48, 49, 50, 51, 52] (by decide +kernel) (by decide +kernel)
set_option maxRecDepth 20000 in
theorem gX5_slimmer_X1_slimmerBy : GoodIn wsX5_slimmer (wsV RX5 178 RX1 yX1_slimmerBy wsX1_slimmerBy) := goodIn_app (goodIn_of _ (by decide +kernel)) ggX5_slimmer_X1_slimmerBy
theorem dX5_slimmer_0 : decode cX5_slimmer 0 = .ok (.iconst 0, 1) := by decide +kernel
theorem dX5_slimmer_1 : decode cX5_slimmer 1 = .ok (.istore_n 1, 1) := by decide +kernel
theorem dX5_slimmer_2 : decode cX5_slimmer 2 = .ok (.iconst 0, 1) := by decide +kernel
theorem dX5_slimmer_3 : decode cX5_slimmer 3 = .ok (.istore_n 2, 1) := by decide +kernel
theorem dX5_slimmer_4 : decode cX5_slimmer 4 = .ok (.iload_n 2, 1) := by decide +kernel
theorem dX5_slimmer_5 : decode cX5_slimmer 5 = .ok (.aload_n 0, 1) := by decide +kernel
theorem dX5_slimmer_6 : decode cX5_slimmer 6 = .ok (.getfield 12, 3) := by decide +kernel
theorem dX5_slimmer_9 : decode cX5_slimmer 9 = .ok (.getfield 37, 3) := by decide +kernel
theorem dX5_slimmer_12 : decode cX5_slimmer 12 = .ok (.getfield 41, 3) := by decide +kernel
theorem dX5_slimmer_15 : decode cX5_slimmer 15 = .ok (.if_icmp .ge 23, 3) := by decide +kernel
theorem dX5_slimmer_18 : decode cX5_slimmer 18 = .ok (.iload_n 1, 1) := by decide +kernel
theorem dX5_slimmer_19 : decode cX5_slimmer 19 = .ok (.aload_n 0, 1) := by decide +kernel
theorem dX5_slimmer_20 : decode cX5_slimmer 20 = .ok (.getfield 12, 3) := by decide +kernel
theorem dX5_slimmer_23 : decode cX5_slimmer 23 = .ok (.getfield 37, 3) := by decide +kernel
theorem dX5_slimmer_26 : decode cX5_slimmer 26 = .ok (.iload_n 2, 1) := by decide +kernel
theorem dX5_slimmer_27 : decode cX5_slimmer 27 = .ok (.invokevirtual 178, 3) := by decide +kernel
theorem dX5_slimmer_30 : decode cX5_slimmer 30 = .ok (.iadd, 1) := by decide +kernel
theorem dX5_slimmer_31 : decode cX5_slimmer 31 = .ok (.istore_n 1, 1) := by decide +kernel
theorem dX5_slimmer_32 : decode cX5_slimmer 32 = .ok (.iinc 2 1, 3) := by decide +kernel
theorem dX5_slimmer_35 : decode cX5_slimmer 35 = .ok (.goto (-31), 3) := by decide +kernel
theorem dX5_slimmer_38 : decode cX5_slimmer 38 = .ok (.iload_n 1, 1) := by decide +kernel
theorem dX5_slimmer_39 : decode cX5_slimmer 39 = .ok (.ireturn, 1) := by decide +kernel
set_option maxRecDepth 20000 in
theorem ggX5_like_X5_isRow : GoodIn wsX5_like wsX5_isRow := goodIn_r _ [7, 1, 2, 8, 24, 25, 26, 27, 28, 29, 30, 31, 32, 33, 34] (by decide +kernel) (by decide +kernel)
set_option maxRecDepth 20000 in
theorem gX5_like_X5_isRow : GoodIn wsX5_like (wsV RX5 55 RX5 yX5_isRow wsX5_isRow) := goodIn_app (goodIn_of _ (by decide +kernel)) ggX5_like_X5_isRow
set_option maxRecDepth 20000 in
theorem ggX5_like_X1_mostLike : GoodIn wsX5_like wsX1_mostLike := goodIn_r _ [13, 14, 15, 16, 17, 12, 18, 19, 20, 21, 22, 23, 30, 31, 32, 33, 34] (by decide +kernel) (by decide +kernel)
set_option maxRecDepth 20000 in
theorem gX5_like_X1_mostLike : GoodIn wsX5_like (wsV RX5 181 RX1 yX1_mostLike wsX1_mostLike) := goodIn_app (goodIn_of _ (by decide +kernel)) ggX5_like_X1_mostLike
theorem dX5_like_0 : decode cX5_like 0 = .ok (.aload_n 0, 1) := by decide +kernel
theorem dX5_like_1 : decode cX5_like 1 = .ok (.iload_n 1, 1) := by decide +kernel
theorem dX5_like_2 : decode cX5_like 2 = .ok (.invokevirtual 55, 3) := by decide +kernel
theorem dX5_like_5 : decode cX5_like 5 = .ok (.ifCond .ne 5, 3) := by decide +kernel
theorem dX5_like_8 : decode cX5_like 8 = .ok (.iconst (-1), 1) := by decide +kernel
theorem dX5_like_9 : decode cX5_like 9 = .ok (.ireturn, 1) := by decide +kernel
theorem dX5_like_10 : decode cX5_like 10 = .ok (.aload_n 0, 1) := by decide +kernel
theorem dX5_like_11 : decode cX5_like 11 = .ok (.getfield 12, 3) := by decide +kernel
theorem dX5_like_14 : decode cX5_like 14 = .ok (.getfield 37, 3) := by decide +kernel
theorem dX5_like_17 : decode cX5_like 17 = .ok (.iload_n 1, 1) := by decide +kernel
theorem dX5_like_18 : decode cX5_like 18 = .ok (.invokevirtual 181, 3) := by decide +kernel
theorem dX5_like_21 : decode cX5_like 21 = .ok (.ireturn, 1) := by decide +kernel
set_option maxRecDepth 20000 in
theorem ggX5_addRowOfText_X1_addRow : GoodIn wsX5_addRowOfText wsX1_addRow := goodIn_r _ [9, 10, 11, 12, 13, 14, 15, 16, 17, 18, 19, 20, 127, 128, 129, 130, 131] (by decide +kernel) (by decide +kernel)
set_option maxRecDepth 20000 in
theorem gX5_addRowOfText_X1_addRow : GoodIn wsX5_addRowOfText (wsV RX5 51 RX1 yX1_addRow wsX1_addRow) := goodIn_app (goodIn_of _ (by decide +kernel)) ggX5_addRowOfText_X1_addRow
set_option maxRecDepth 20000 in
theorem ggX5_addRowOfText_X4_valueRead : GoodIn wsX5_addRowOfText wsX4_valueRead := goodIn_r _ [25, 26, 119, 120, 121, 122, 123, 124, 125, 126] (by decide +kernel) (by decide +kernel)
set_option maxRecDepth 20000 in
theorem gX5_addRowOfText_X4_valueRead : GoodIn wsX5_addRowOfText (wsV RX5 185 RX4 yX4_valueRead wsX4_valueRead) := goodIn_app (goodIn_of _ (by decide +kernel)) ggX5_addRowOfText_X4_valueRead
set_option maxRecDepth 20000 in
theorem ggX5_addRowOfText_X1_changeValue : GoodIn wsX5_addRowOfText wsX1_changeValue := goodIn_r _ [30, 12, 127, 128, 129, 130, 131] (by decide +kernel) (by decide +kernel)
set_option maxRecDepth 20000 in
theorem gX5_addRowOfText_X1_changeValue : GoodIn wsX5_addRowOfText (wsV RX5 65 RX1 yX1_changeValue wsX1_changeValue) := goodIn_app (goodIn_of _ (by decide +kernel)) ggX5_addRowOfText_X1_changeValue
set_option maxRecDepth 20000 in
theorem ggX5_addRowOfText_X3_settle : GoodIn wsX5_addRowOfText wsX3_settle := goodIn_r _ [35, 36, 37, 38, 39, 40, 34, 41, 42, 43, 44, 45, 46, 47, 8, 48, 49, 50, 51, 52, 53, 11, 54, 55, 56, 57, 12, 58, 59, 60, 61, 62, 63, 64, 65, 66, 67, 10, 13, 68, 69, 70, 71, 72, 73, 74, 75, 76, 77, 78, 79, 80, 81, 82, 83, 84, 85, 86, 87, 88, 89, 90, 91, 92, 93, 94, 95, 96, 97, 98, 99, 100, 101, 102, 103, 104, 105, 106, 107, 108, 109, 110, 111, 112, 117, 118, 127, 128, 129, 130, 131, 132, 133] (by decide +kernel) (by decide +kernel)
set_option maxRecDepth 20000 in
theorem gX5_addRowOfText_X3_settle : GoodIn wsX5_addRowOfText (wsV RX5 69 RX3 yX3_settle wsX3_settle) := goodIn_app (goodIn_of _ (by decide +kernel)) ggX5_addRowOfText_X3_settle
theorem dX5_addRowOfText_0 : decode cX5_addRowOfText 0 = .ok (.aload_n 0, 1) := by decide +kernel
theorem dX5_addRowOfText_1 : decode cX5_addRowOfText 1 = .ok (.getfield 12, 3) := by decide +kernel
theorem dX5_addRowOfText_4 : decode cX5_addRowOfText 4 = .ok (.getfield 37, 3) := by decide +kernel
theorem dX5_addRowOfText_7 : decode cX5_addRowOfText 7 = .ok (.aload_n 0, 1) := by decide +kernel
theorem dX5_addRowOfText_8 : decode cX5_addRowOfText 8 = .ok (.getfield 29, 3) := by decide +kernel
theorem dX5_addRowOfText_11 : decode cX5_addRowOfText 11 = .ok (.getfield 184, 3) := by decide +kernel
theorem dX5_addRowOfText_14 : decode cX5_addRowOfText 14 = .ok (.iload_n 1, 1) := by decide +kernel
theorem dX5_addRowOfText_15 : decode cX5_addRowOfText 15 = .ok (.iaload, 1) := by decide +kernel
theorem dX5_addRowOfText_16 : decode cX5_addRowOfText 16 = .ok (.invokevirtual 51, 3) := by decide +kernel
theorem dX5_addRowOfText_19 : decode cX5_addRowOfText 19 = .ok (.istore_n 2, 1) := by decide +kernel
theorem dX5_addRowOfText_20 : decode cX5_addRowOfText 20 = .ok (.iload_n 2, 1) := by decide +kernel
theorem dX5_addRowOfText_21 : decode cX5_addRowOfText 21 = .ok (.bipush (-9), 2) := by decide +kernel
theorem dX5_addRowOfText_23 : decode cX5_addRowOfText 23 = .ok (.if_icmp .ne 4, 3) := by decide +kernel
theorem dX5_addRowOfText_26 : decode cX5_addRowOfText 26 = .ok (.return_, 1) := by decide +kernel
theorem dX5_addRowOfText_27 : decode cX5_addRowOfText 27 = .ok (.iconst 0, 1) := by decide +kernel
theorem dX5_addRowOfText_28 : decode cX5_addRowOfText 28 = .ok (.istore_n 3, 1) := by decide +kernel
theorem dX5_addRowOfText_29 : decode cX5_addRowOfText 29 = .ok (.iload_n 3, 1) := by decide +kernel
theorem dX5_addRowOfText_30 : decode cX5_addRowOfText 30 = .ok (.bipush 16, 2) := by decide +kernel
theorem dX5_addRowOfText_32 : decode cX5_addRowOfText 32 = .ok (.if_icmp .ge 30, 3) := by decide +kernel
theorem dX5_addRowOfText_35 : decode cX5_addRowOfText 35 = .ok (.aload_n 0, 1) := by decide +kernel
theorem dX5_addRowOfText_36 : decode cX5_addRowOfText 36 = .ok (.getfield 12, 3) := by decide +kernel
theorem dX5_addRowOfText_39 : decode cX5_addRowOfText 39 = .ok (.getfield 37, 3) := by decide +kernel
theorem dX5_addRowOfText_42 : decode cX5_addRowOfText 42 = .ok (.iload_n 2, 1) := by decide +kernel
theorem dX5_addRowOfText_43 : decode cX5_addRowOfText 43 = .ok (.iload_n 3, 1) := by decide +kernel
theorem dX5_addRowOfText_44 : decode cX5_addRowOfText 44 = .ok (.aload_n 0, 1) := by decide +kernel
theorem dX5_addRowOfText_45 : decode cX5_addRowOfText 45 = .ok (.getfield 29, 3) := by decide +kernel
theorem dX5_addRowOfText_48 : decode cX5_addRowOfText 48 = .ok (.iload_n 1, 1) := by decide +kernel
theorem dX5_addRowOfText_49 : decode cX5_addRowOfText 49 = .ok (.iload_n 3, 1) := by decide +kernel
theorem dX5_addRowOfText_50 : decode cX5_addRowOfText 50 = .ok (.invokevirtual 185, 3) := by decide +kernel
theorem dX5_addRowOfText_53 : decode cX5_addRowOfText 53 = .ok (.invokevirtual 65, 3) := by decide +kernel
theorem dX5_addRowOfText_56 : decode cX5_addRowOfText 56 = .ok (.iinc 3 1, 3) := by decide +kernel
theorem dX5_addRowOfText_59 : decode cX5_addRowOfText 59 = .ok (.goto (-30), 3) := by decide +kernel
theorem dX5_addRowOfText_62 : decode cX5_addRowOfText 62 = .ok (.aload_n 0, 1) := by decide +kernel
theorem dX5_addRowOfText_63 : decode cX5_addRowOfText 63 = .ok (.getfield 12, 3) := by decide +kernel
theorem dX5_addRowOfText_66 : decode cX5_addRowOfText 66 = .ok (.iload_n 2, 1) := by decide +kernel
theorem dX5_addRowOfText_67 : decode cX5_addRowOfText 67 = .ok (.invokevirtual 69, 3) := by decide +kernel
theorem dX5_addRowOfText_70 : decode cX5_addRowOfText 70 = .ok (.return_, 1) := by decide +kernel
theorem dX5_isRow_0 : decode cX5_isRow 0 = .ok (.iload_n 1, 1) := by decide +kernel
theorem dX5_isRow_1 : decode cX5_isRow 1 = .ok (.ifCond .lt 21, 3) := by decide +kernel
theorem dX5_isRow_4 : decode cX5_isRow 4 = .ok (.iload_n 1, 1) := by decide +kernel
theorem dX5_isRow_5 : decode cX5_isRow 5 = .ok (.aload_n 0, 1) := by decide +kernel
theorem dX5_isRow_6 : decode cX5_isRow 6 = .ok (.getfield 12, 3) := by decide +kernel
theorem dX5_isRow_9 : decode cX5_isRow 9 = .ok (.getfield 37, 3) := by decide +kernel
theorem dX5_isRow_12 : decode cX5_isRow 12 = .ok (.getfield 41, 3) := by decide +kernel
theorem dX5_isRow_15 : decode cX5_isRow 15 = .ok (.if_icmp .ge 7, 3) := by decide +kernel
theorem dX5_isRow_18 : decode cX5_isRow 18 = .ok (.iconst 1, 1) := by decide +kernel
theorem dX5_isRow_19 : decode cX5_isRow 19 = .ok (.goto 4, 3) := by decide +kernel
theorem dX5_isRow_22 : decode cX5_isRow 22 = .ok (.iconst 0, 1) := by decide +kernel
theorem dX5_isRow_23 : decode cX5_isRow 23 = .ok (.ireturn, 1) := by decide +kernel
theorem dX5_isColumn_0 : decode cX5_isColumn 0 = .ok (.iload_n 0, 1) := by decide +kernel
theorem dX5_isColumn_1 : decode cX5_isColumn 1 = .ok (.ifCond .lt 13, 3) := by decide +kernel
theorem dX5_isColumn_4 : decode cX5_isColumn 4 = .ok (.iload_n 0, 1) := by decide +kernel
theorem dX5_isColumn_5 : decode cX5_isColumn 5 = .ok (.bipush 16, 2) := by decide +kernel
theorem dX5_isColumn_7 : decode cX5_isColumn 7 = .ok (.if_icmp .ge 7, 3) := by decide +kernel
theorem dX5_isColumn_10 : decode cX5_isColumn 10 = .ok (.iconst 1, 1) := by decide +kernel
theorem dX5_isColumn_11 : decode cX5_isColumn 11 = .ok (.goto 4, 3) := by decide +kernel
theorem dX5_isColumn_14 : decode cX5_isColumn 14 = .ok (.iconst 0, 1) := by decide +kernel
theorem dX5_isColumn_15 : decode cX5_isColumn 15 = .ok (.ireturn, 1) := by decide +kernel
theorem dX5_isValue_0 : decode cX5_isValue 0 = .ok (.iload_n 0, 1) := by decide +kernel
theorem dX5_isValue_1 : decode cX5_isValue 1 = .ok (.ifCond .lt 13, 3) := by decide +kernel
theorem dX5_isValue_4 : decode cX5_isValue 4 = .ok (.iload_n 0, 1) := by decide +kernel
theorem dX5_isValue_5 : decode cX5_isValue 5 = .ok (.bipush 99, 2) := by decide +kernel
theorem dX5_isValue_7 : decode cX5_isValue 7 = .ok (.if_icmp .gt 7, 3) := by decide +kernel
theorem dX5_isValue_10 : decode cX5_isValue 10 = .ok (.iconst 1, 1) := by decide +kernel
theorem dX5_isValue_11 : decode cX5_isValue 11 = .ok (.goto 4, 3) := by decide +kernel
theorem dX5_isValue_14 : decode cX5_isValue 14 = .ok (.iconst 0, 1) := by decide +kernel
theorem dX5_isValue_15 : decode cX5_isValue 15 = .ok (.ireturn, 1) := by decide +kernel
