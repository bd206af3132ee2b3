set_option maxRecDepth 20000 in
theorem gX5_count_X2_filledCells : GoodIn wsX5_count (wsV RX5 140 RX2 yX2_filledCells wsX2_filledCells) := goodIn_app (goodIn_of _ (by decide +kernel)) ggX5_count_X2_filledCells
set_option maxRecDepth 20000 in
theorem ggX5_count_X2_endOfCells : GoodIn wsX5_count wsX2_endOfCells := goodIn_r _ [61, 53, 54, 55, 51, 56, 57, 19, 20, 21, 106, 107] (by decide +kernel) (by decide +kernel)
set_option maxRecDepth 20000 in
theorem gX5_count_X2_endOfCells : GoodIn wsX5_count (wsV RX5 96 RX2 yX2_endOfCells wsX2_endOfCells) := goodIn_app (goodIn_of _ (by decide +kernel)) ggX5_count_X2_endOfCells
set_option maxRecDepth 20000 in
theorem ggX5_count_X3_refusals : GoodIn wsX5_count wsX3_refusals := goodIn_r _ [66, 67, 68, 69, 70, 71, 65, 72, 73, 74, 75, 76, 12, 77, 78, 19, 20, 21, 79, 15, 16, 17, 18, 80, 54, 55, 51, 56, 57, 81, 82, 83, 84, 89, 90, 91, 92, 93, 94, 95, 106, 107] (by decide +kernel) (by decide +kernel)
set_option maxRecDepth 20000 in
theorem gX5_count_X3_refusals : GoodIn wsX5_count (wsV RX5 143 RX3 yX3_refusals wsX3_refusals) := goodIn_app (goodIn_of _ (by decide +kernel)) ggX5_count_X3_refusals
theorem dX5_count_0 : decode cX5_count 0 = .ok (.iload_n 1, 1) := by decide +kernel
theorem dX5_count_1 : decode cX5_count 1 = .ok (.tableswitch 152 0 8 #[51, 62, 73, 84, 95, 106, 128, 136, 144], 51) := by decide +kernel
theorem dX5_count_52 : decode cX5_count 52 = .ok (.aload_n 0, 1) := by decide +kernel
theorem dX5_count_53 : decode cX5_count 53 = .ok (.getfield 12, 3) := by decide +kernel
theorem dX5_count_56 : decode cX5_count 56 = .ok (.getfield 37, 3) := by decide +kernel
theorem dX5_count_59 : decode cX5_count 59 = .ok (.getfield 41, 3) := by decide +kernel
theorem dX5_count_62 : decode cX5_count 62 = .ok (.ireturn, 1) := by decide +kernel
theorem dX5_count_63 : decode cX5_count 63 = .ok (.aload_n 0, 1) := by decide +kernel
theorem dX5_count_64 : decode cX5_count 64 = .ok (.getfield 12, 3) := by decide +kernel
theorem dX5_count_67 : decode cX5_count 67 = .ok (.getfield 37, 3) := by decide +kernel
theorem dX5_count_70 : decode cX5_count 70 = .ok (.invokevirtual 134, 3) := by decide +kernel
theorem dX5_count_73 : decode cX5_count 73 = .ok (.ireturn, 1) := by decide +kernel
theorem dX5_count_74 : decode cX5_count 74 = .ok (.aload_n 0, 1) := by decide +kernel
theorem dX5_count_75 : decode cX5_count 75 = .ok (.getfield 12, 3) := by decide +kernel
theorem dX5_count_78 : decode cX5_count 78 = .ok (.getfield 37, 3) := by decide +kernel
theorem dX5_count_81 : decode cX5_count 81 = .ok (.invokevirtual 137, 3) := by decide +kernel
theorem dX5_count_84 : decode cX5_count 84 = .ok (.ireturn, 1) := by decide +kernel
theorem dX5_count_85 : decode cX5_count 85 = .ok (.aload_n 0, 1) := by decide +kernel
theorem dX5_count_86 : decode cX5_count 86 = .ok (.getfield 12, 3) := by decide +kernel
theorem dX5_count_89 : decode cX5_count 89 = .ok (.getfield 92, 3) := by decide +kernel
theorem dX5_count_92 : decode cX5_count 92 = .ok (.invokevirtual 140, 3) := by decide +kernel
theorem dX5_count_95 : decode cX5_count 95 = .ok (.ireturn, 1) := by decide +kernel
theorem dX5_count_96 : decode cX5_count 96 = .ok (.aload_n 0, 1) := by decide +kernel
theorem dX5_count_97 : decode cX5_count 97 = .ok (.getfield 12, 3) := by decide +kernel
theorem dX5_count_100 : decode cX5_count 100 = .ok (.getfield 92, 3) := by decide +kernel
theorem dX5_count_103 : decode cX5_count 103 = .ok (.invokevirtual 96, 3) := by decide +kernel
theorem dX5_count_106 : decode cX5_count 106 = .ok (.ireturn, 1) := by decide +kernel
theorem dX5_count_107 : decode cX5_count 107 = .ok (.aload_n 0, 1) := by decide +kernel
theorem dX5_count_108 : decode cX5_count 108 = .ok (.getfield 12, 3) := by decide +kernel
theorem dX5_count_111 : decode cX5_count 111 = .ok (.getfield 92, 3) := by decide +kernel
theorem dX5_count_114 : decode cX5_count 114 = .ok (.invokevirtual 96, 3) := by decide +kernel
theorem dX5_count_117 : decode cX5_count 117 = .ok (.aload_n 0, 1) := by decide +kernel
theorem dX5_count_118 : decode cX5_count 118 = .ok (.getfield 12, 3) := by decide +kernel
theorem dX5_count_121 : decode cX5_count 121 = .ok (.getfield 92, 3) := by decide +kernel
theorem dX5_count_124 : decode cX5_count 124 = .ok (.invokevirtual 140, 3) := by decide +kernel
theorem dX5_count_127 : decode cX5_count 127 = .ok (.isub, 1) := by decide +kernel
theorem dX5_count_128 : decode cX5_count 128 = .ok (.ireturn, 1) := by decide +kernel
theorem dX5_count_129 : decode cX5_count 129 = .ok (.aload_n 0, 1) := by decide +kernel
theorem dX5_count_130 : decode cX5_count 130 = .ok (.getfield 12, 3) := by decide +kernel
theorem dX5_count_133 : decode cX5_count 133 = .ok (.invokevirtual 143, 3) := by decide +kernel
theorem dX5_count_136 : decode cX5_count 136 = .ok (.ireturn, 1) := by decide +kernel
theorem dX5_count_137 : decode cX5_count 137 = .ok (.aload_n 0, 1) := by decide +kernel
theorem dX5_count_138 : decode cX5_count 138 = .ok (.getfield 22, 3) := by decide +kernel
theorem dX5_count_141 : decode cX5_count 141 = .ok (.getfield 109, 3) := by decide +kernel
theorem dX5_count_144 : decode cX5_count 144 = .ok (.ireturn, 1) := by decide +kernel
theorem dX5_count_145 : decode cX5_count 145 = .ok (.aload_n 0, 1) := by decide +kernel
theorem dX5_count_146 : decode cX5_count 146 = .ok (.getfield 29, 3) := by decide +kernel
theorem dX5_count_149 : decode cX5_count 149 = .ok (.getfield 112, 3) := by decide +kernel
theorem dX5_count_152 : decode cX5_count 152 = .ok (.ireturn, 1) := by decide +kernel
theorem dX5_count_153 : decode cX5_count 153 = .ok (.iconst (-1), 1) := by decide +kernel
theorem dX5_count_154 : decode cX5_count 154 = .ok (.ireturn, 1) := by decide +kernel
set_option maxRecDepth 20000 in
theorem ggX5_row_X5_isRow : GoodIn wsX5_row wsX5_isRow := goodIn_r _ [7, 1, 2, 8, 48, 49, 50, 51, 52, 53, 54, 55, 56, 57, 58] (by decide +kernel) (by decide +kernel)
set_option maxRecDepth 20000 in
theorem gX5_row_X5_isRow : GoodIn wsX5_row (wsV RX5 55 RX5 yX5_isRow wsX5_isRow) := goodIn_app (goodIn_of _ (by decide +kernel)) ggX5_row_X5_isRow
set_option maxRecDepth 20000 in
theorem ggX5_row_X1_defaultOf : GoodIn wsX5_row wsX1_defaultOf := goodIn_r _ [13, 14, 15, 6, 16, 54, 55, 56, 57, 58] (by decide +kernel) (by decide +kernel)
set_option maxRecDepth 20000 in
theorem gX5_row_X1_defaultOf : GoodIn wsX5_row (wsV RX5 86 RX1 yX1_defaultOf wsX1_defaultOf) := goodIn_app (goodIn_of _ (by decide +kernel)) ggX5_row_X1_defaultOf
set_option maxRecDepth 20000 in
theorem ggX5_row_X1_weightOf : GoodIn wsX5_row wsX1_weightOf := goodIn_r _ [20, 21, 22, 23, 12, 24, 25, 26, 27, 28, 29, 14, 15, 6, 16, 30, 31, 32, 33, 34, 35, 36, 54, 55, 56, 57, 58] (by decide +kernel) (by decide +kernel)
set_option maxRecDepth 20000 in
theorem gX5_row_X1_weightOf : GoodIn wsX5_row (wsV RX5 77 RX1 yX1_weightOf wsX1_weightOf) := goodIn_app (goodIn_of _ (by decide +kernel)) ggX5_row_X1_weightOf
set_option maxRecDepth 20000 in
theorem ggX5_row_X1_formOf : GoodIn wsX5_row wsX1_formOf := goodIn_r _ [40, 41, 15, 6, 16, 54, 55, 56, 57, 58] (by decide +kernel) (by decide +kernel)
set_option maxRecDepth 20000 in
theorem gX5_row_X1_formOf : GoodIn wsX5_row (wsV RX5 146 RX1 yX1_formOf wsX1_formOf) := goodIn_app (goodIn_of _ (by decide +kernel)) ggX5_row_X1_formOf
set_option maxRecDepth 20000 in
theorem ggX5_row_X1_shiftOf : GoodIn wsX5_row wsX1_shiftOf := goodIn_r _ [45, 46, 15, 6, 16, 54, 55, 56, 57, 58] (by decide +kernel) (by decide +kernel)
set_option maxRecDepth 20000 in
theorem gX5_row_X1_shiftOf : GoodIn wsX5_row (wsV RX5 149 RX1 yX1_shiftOf wsX1_shiftOf) := goodIn_app (goodIn_of _ (by decide +kernel)) ggX5_row_X1_shiftOf
set_option maxRecDepth 20000 in
theorem ggX5_row_X1_columnsOf : GoodIn wsX5_row wsX1_columnsOf := goodIn_r _ [24, 25, 26, 27, 12, 28, 29, 14, 15, 6, 16, 54, 55, 56, 57, 58] (by decide +kernel) (by decide +kernel)
set_option maxRecDepth 20000 in
theorem gX5_row_X1_columnsOf : GoodIn wsX5_row (wsV RX5 152 RX1 yX1_columnsOf wsX1_columnsOf) := goodIn_app (goodIn_of _ (by decide +kernel)) ggX5_row_X1_columnsOf
theorem dX5_row_0 : decode cX5_row 0 = .ok (.aload_n 0, 1) := by decide +kernel
theorem dX5_row_1 : decode cX5_row 1 = .ok (.iload_n 1, 1) := by decide +kernel
theorem dX5_row_2 : decode cX5_row 2 = .ok (.invokevirtual 55, 3) := by decide +kernel
theorem dX5_row_5 : decode cX5_row 5 = .ok (.ifCond .ne 5, 3) := by decide +kernel
theorem dX5_row_8 : decode cX5_row 8 = .ok (.iconst (-1), 1) := by decide +kernel
theorem dX5_row_9 : decode cX5_row 9 = .ok (.ireturn, 1) := by decide +kernel
theorem dX5_row_10 : decode cX5_row 10 = .ok (.iload_n 2, 1) := by decide +kernel
theorem dX5_row_11 : decode cX5_row 11 = .ok (.tableswitch 103 0 4 #[33, 45, 57, 69, 91], 33) := by decide +kernel
theorem dX5_row_44 : decode cX5_row 44 = .ok (.aload_n 0, 1) := by decide +kernel
theorem dX5_row_45 : decode cX5_row 45 = .ok (.getfield 12, 3) := by decide +kernel
theorem dX5_row_48 : decode cX5_row 48 = .ok (.getfield 37, 3) := by decide +kernel
theorem dX5_row_51 : decode cX5_row 51 = .ok (.iload_n 1, 1) := by decide +kernel
theorem dX5_row_52 : decode cX5_row 52 = .ok (.invokevirtual 86, 3) := by decide +kernel
theorem dX5_row_55 : decode cX5_row 55 = .ok (.ireturn, 1) := by decide +kernel
theorem dX5_row_56 : decode cX5_row 56 = .ok (.aload_n 0, 1) := by decide +kernel
theorem dX5_row_57 : decode cX5_row 57 = .ok (.getfield 12, 3) := by decide +kernel
theorem dX5_row_60 : decode cX5_row 60 = .ok (.getfield 37, 3) := by decide +kernel
theorem dX5_row_63 : decode cX5_row 63 = .ok (.iload_n 1, 1) := by decide +kernel
theorem dX5_row_64 : decode cX5_row 64 = .ok (.invokevirtual 77, 3) := by decide +kernel
theorem dX5_row_67 : decode cX5_row 67 = .ok (.ireturn, 1) := by decide +kernel
theorem dX5_row_68 : decode cX5_row 68 = .ok (.aload_n 0, 1) := by decide +kernel
theorem dX5_row_69 : decode cX5_row 69 = .ok (.getfield 12, 3) := by decide +kernel
theorem dX5_row_72 : decode cX5_row 72 = .ok (.getfield 37, 3) := by decide +kernel
theorem dX5_row_75 : decode cX5_row 75 = .ok (.iload_n 1, 1) := by decide +kernel
theorem dX5_row_76 : decode cX5_row 76 = .ok (.invokevirtual 146, 3) := by decide +kernel
theorem dX5_row_79 : decode cX5_row 79 = .ok (.ireturn, 1) := by decide +kernel
theorem dX5_row_80 : decode cX5_row 80 = .ok (.aload_n 0, 1) := by decide +kernel
theorem dX5_row_81 : decode cX5_row 81 = .ok (.getfield 12, 3) := by decide +kernel
theorem dX5_row_84 : decode cX5_row 84 = .ok (.getfield 37, 3) := by decide +kernel
theorem dX5_row_87 : decode cX5_row 87 = .ok (.aload_n 0, 1) := by decide +kernel
theorem dX5_row_88 : decode cX5_row 88 = .ok (.getfield 12, 3) := by decide +kernel
theorem dX5_row_91 : decode cX5_row 91 = .ok (.getfield 37, 3) := by decide +kernel
theorem dX5_row_94 : decode cX5_row 94 = .ok (.iload_n 1, 1) := by decide +kernel
theorem dX5_row_95 : decode cX5_row 95 = .ok (.invokevirtual 146, 3) := by decide +kernel
theorem dX5_row_98 : decode cX5_row 98 = .ok (.invokevirtual 149, 3) := by decide +kernel
theorem dX5_row_101 : decode cX5_row 101 = .ok (.ireturn, 1) := by decide +kernel
theorem dX5_row_102 : decode cX5_row 102 = .ok (.aload_n 0, 1) := by decide +kernel
theorem dX5_row_103 : decode cX5_row 103 = .ok (.getfield 12, 3) := by decide +kernel
theorem dX5_row_106 : decode cX5_row 106 = .ok (.getfield 37, 3) := by decide +kernel
theorem dX5_row_109 : decode cX5_row 109 = .ok (.iload_n 1, 1) := by decide +kernel
theorem dX5_row_110 : decode cX5_row 110 = .ok (.invokevirtual 152, 3) := by decide +kernel
theorem dX5_row_113 : decode cX5_row 113 = .ok (.ireturn, 1) := by decide +kernel
theorem dX5_row_114 : decode cX5_row 114 = .ok (.iconst (-1), 1) := by decide +kernel
theorem dX5_row_115 : decode cX5_row 115 = .ok (.ireturn, 1) := by decide +kernel
set_option maxRecDepth 20000 in
theorem ggX5_form_X1_shiftOf : GoodIn wsX5_form wsX1_shiftOf := goodIn_r _ [8, 9, 10, 11, 12, 39, 40, 41, 42, 43] (by decide +kernel) (by decide +kernel)
set_option maxRecDepth 20000 in
theorem gX5_form_X1_shiftOf : GoodIn wsX5_form (wsV RX5 149 RX1 yX1_shiftOf wsX1_shiftOf) := goodIn_app (goodIn_of _ (by decide +kernel)) ggX5_form_X1_shiftOf
set_option maxRecDepth 20000 in
theorem ggX5_form_X1_sharersOf : GoodIn wsX5_form wsX1_sharersOf := goodIn_r _ [16, 17, 18, 19, 20, 7, 21, 22, 10, 11, 12, 39, 40, 41, 42, 43] (by decide +kernel) (by decide +kernel)
set_option maxRecDepth 20000 in
theorem gX5_form_X1_sharersOf : GoodIn wsX5_form (wsV RX5 155 RX1 yX1_sharersOf wsX1_sharersOf) := goodIn_app (goodIn_of _ (by decide +kernel)) ggX5_form_X1_sharersOf
set_option maxRecDepth 20000 in
theorem ggX5_form_X2_filledOf : GoodIn wsX5_form wsX2_filledOf := goodIn_r _ [27, 28, 29, 30, 26, 31, 32, 10, 11, 12, 44, 45] (by decide +kernel) (by decide +kernel)
set_option maxRecDepth 20000 in
theorem gX5_form_X2_filledOf : GoodIn wsX5_form (wsV RX5 158 RX2 yX2_filledOf wsX2_filledOf) := goodIn_app (goodIn_of _ (by decide +kernel)) ggX5_form_X2_filledOf
theorem dX5_form_0 : decode cX5_form 0 = .ok (.iload_n 1, 1) := by decide +kernel
theorem dX5_form_1 : decode cX5_form 1 = .ok (.ifCond .lt 18, 3) := by decide +kernel
theorem dX5_form_4 : decode cX5_form 4 = .ok (.iload_n 1, 1) := by decide +kernel
theorem dX5_form_5 : decode cX5_form 5 = .ok (.bipush 24, 2) := by decide +kernel
theorem dX5_form_7 : decode cX5_form 7 = .ok (.if_icmp .ge 12, 3) := by decide +kernel
theorem dX5_form_10 : decode cX5_form 10 = .ok (.iload_n 2, 1) := by decide +kernel
theorem dX5_form_11 : decode cX5_form 11 = .ok (.ifCond .lt 8, 3) := by decide +kernel
theorem dX5_form_14 : decode cX5_form 14 = .ok (.iload_n 2, 1) := by decide +kernel
theorem dX5_form_15 : decode cX5_form 15 = .ok (.iconst 2, 1) := by decide +kernel
theorem dX5_form_16 : decode cX5_form 16 = .ok (.if_icmp .le 5, 3) := by decide +kernel
theorem dX5_form_19 : decode cX5_form 19 = .ok (.iconst (-1), 1) := by decide +kernel
theorem dX5_form_20 : decode cX5_form 20 = .ok (.ireturn, 1) := by decide +kernel
theorem dX5_form_21 : decode cX5_form 21 = .ok (.aload_n 0, 1) := by decide +kernel
theorem dX5_form_22 : decode cX5_form 22 = .ok (.getfield 12, 3) := by decide +kernel
theorem dX5_form_25 : decode cX5_form 25 = .ok (.getfield 37, 3) := by decide +kernel
theorem dX5_form_28 : decode cX5_form 28 = .ok (.iload_n 1, 1) := by decide +kernel
theorem dX5_form_29 : decode cX5_form 29 = .ok (.invokevirtual 149, 3) := by decide +kernel
theorem dX5_form_32 : decode cX5_form 32 = .ok (.istore_n 3, 1) := by decide +kernel
theorem dX5_form_33 : decode cX5_form 33 = .ok (.iload_n 3, 1) := by decide +kernel
theorem dX5_form_34 : decode cX5_form 34 = .ok (.bipush (-9), 2) := by decide +kernel
theorem dX5_form_36 : decode cX5_form 36 = .ok (.if_icmp .eq 7, 3) := by decide +kernel
theorem dX5_form_39 : decode cX5_form 39 = .ok (.iload_n 2, 1) := by decide +kernel
theorem dX5_form_40 : decode cX5_form 40 = .ok (.ifCond .ne 5, 3) := by decide +kernel
theorem dX5_form_43 : decode cX5_form 43 = .ok (.iload_n 3, 1) := by decide +kernel
theorem dX5_form_44 : decode cX5_form 44 = .ok (.ireturn, 1) := by decide +kernel
theorem dX5_form_45 : decode cX5_form 45 = .ok (.iload_n 2, 1) := by decide +kernel
theorem dX5_form_46 : decode cX5_form 46 = .ok (.iconst 1, 1) := by decide +kernel
theorem dX5_form_47 : decode cX5_form 47 = .ok (.if_icmp .ne 17, 3) := by decide +kernel
theorem dX5_form_50 : decode cX5_form 50 = .ok (.aload_n 0, 1) := by decide +kernel
theorem dX5_form_51 : decode cX5_form 51 = .ok (.getfield 12, 3) := by decide +kernel
theorem dX5_form_54 : decode cX5_form 54 = .ok (.getfield 37, 3) := by decide +kernel
theorem dX5_form_57 : decode cX5_form 57 = .ok (.iload_n 1, 1) := by decide +kernel
theorem dX5_form_58 : decode cX5_form 58 = .ok (.invokevirtual 155, 3) := by decide +kernel
theorem dX5_form_61 : decode cX5_form 61 = .ok (.goto 15, 3) := by decide +kernel
theorem dX5_form_64 : decode cX5_form 64 = .ok (.aload_n 0, 1) := by decide +kernel
theorem dX5_form_65 : decode cX5_form 65 = .ok (.getfield 12, 3) := by decide +kernel
theorem dX5_form_68 : decode cX5_form 68 = .ok (.getfield 92, 3) := by decide +kernel
theorem dX5_form_71 : decode cX5_form 71 = .ok (.iload_n 1, 1) := by decide +kernel
theorem dX5_form_72 : decode cX5_form 72 = .ok (.iload_n 3, 1) := by decide +kernel
theorem dX5_form_73 : decode cX5_form 73 = .ok (.invokevirtual 158, 3) := by decide +kernel
theorem dX5_form_76 : decode cX5_form 76 = .ok (.ireturn, 1) := by decide +kernel
set_option maxRecDepth 20000 in
theorem ggX5_cell_X2_valueAt : GoodIn wsX5_cell wsX2_valueAt := goodIn_r _ [7, 8, 9, 10, 11, 23, 24] (by decide +kernel) (by decide +kernel)
set_option maxRecDepth 20000 in
theorem gX5_cell_X2_valueAt : GoodIn wsX5_cell (wsV RX5 161 RX2 yX2_valueAt wsX2_valueAt) := goodIn_app (goodIn_of _ (by decide +kernel)) ggX5_cell_X2_valueAt
set_option maxRecDepth 20000 in
theorem ggX5_cell_X2_markAt : GoodIn wsX5_cell wsX2_markAt := goodIn_r _ [15, 16, 9, 10, 11, 23, 24] (by decide +kernel) (by decide +kernel)
set_option maxRecDepth 20000 in
theorem gX5_cell_X2_markAt : GoodIn wsX5_cell (wsV RX5 163 RX2 yX2_markAt wsX2_markAt) := goodIn_app (goodIn_of _ (by decide +kernel)) ggX5_cell_X2_markAt
theorem dX5_cell_0 : decode cX5_cell 0 = .ok (.iload_n 1, 1) := by decide +kernel
theorem dX5_cell_1 : decode cX5_cell 1 = .ok (.ifCond .lt 19, 3) := by decide +kernel
theorem dX5_cell_4 : decode cX5_cell 4 = .ok (.iload_n 1, 1) := by decide +kernel
theorem dX5_cell_5 : decode cX5_cell 5 = .ok (.sipush 800, 3) := by decide +kernel
theorem dX5_cell_8 : decode cX5_cell 8 = .ok (.if_icmp .ge 12, 3) := by decide +kernel
theorem dX5_cell_11 : decode cX5_cell 11 = .ok (.iload_n 2, 1) := by decide +kernel
theorem dX5_cell_12 : decode cX5_cell 12 = .ok (.ifCond .lt 8, 3) := by decide +kernel
theorem dX5_cell_15 : decode cX5_cell 15 = .ok (.iload_n 2, 1) := by decide +kernel
theorem dX5_cell_16 : decode cX5_cell 16 = .ok (.iconst 1, 1) := by decide +kernel
theorem dX5_cell_17 : decode cX5_cell 17 = .ok (.if_icmp .le 5, 3) := by decide +kernel
theorem dX5_cell_20 : decode cX5_cell 20 = .ok (.iconst (-1), 1) := by decide +kernel
theorem dX5_cell_21 : decode cX5_cell 21 = .ok (.ireturn, 1) := by decide +kernel
theorem dX5_cell_22 : decode cX5_cell 22 = .ok (.iload_n 2, 1) := by decide +kernel
theorem dX5_cell_23 : decode cX5_cell 23 = .ok (.ifCond .ne 17, 3) := by decide +kernel
theorem dX5_cell_26 : decode cX5_cell 26 = .ok (.aload_n 0, 1) := by decide +kernel
theorem dX5_cell_27 : decode cX5_cell 27 = .ok (.getfield 12, 3) := by decide +kernel
theorem dX5_cell_30 : decode cX5_cell 30 = .ok (.getfield 92, 3) := by decide +kernel
theorem dX5_cell_33 : decode cX5_cell 33 = .ok (.iload_n 1, 1) := by decide +kernel
theorem dX5_cell_34 : decode cX5_cell 34 = .ok (.invokevirtual 161, 3) := by decide +kernel
theorem dX5_cell_37 : decode cX5_cell 37 = .ok (.goto 14, 3) := by decide +kernel
theorem dX5_cell_40 : decode cX5_cell 40 = .ok (.aload_n 0, 1) := by decide +kernel
theorem dX5_cell_41 : decode cX5_cell 41 = .ok (.getfield 12, 3) := by decide +kernel
theorem dX5_cell_44 : decode cX5_cell 44 = .ok (.getfield 92, 3) := by decide +kernel
theorem dX5_cell_47 : decode cX5_cell 47 = .ok (.iload_n 1, 1) := by decide +kernel
theorem dX5_cell_48 : decode cX5_cell 48 = .ok (.invokevirtual 163, 3) := by decide +kernel
theorem dX5_cell_51 : decode cX5_cell 51 = .ok (.ireturn, 1) := by decide +kernel
set_option maxRecDepth 20000 in
theorem ggX5_fit_X2_firstFit : GoodIn wsX5_fit wsX2_firstFit := goodIn_r _ [8, 9, 10, 11, 7, 12, 13, 14, 15, 16, 23, 24] (by decide +kernel) (by decide +kernel)
set_option maxRecDepth 20000 in
theorem gX5_fit_X2_firstFit : GoodIn wsX5_fit (wsV RX5 167 RX2 yX2_firstFit wsX2_firstFit) := goodIn_app (goodIn_of _ (by decide +kernel)) ggX5_fit_X2_firstFit
theorem dX5_fit_0 : decode cX5_fit 0 = .ok (.iload_n 1, 1) := by decide +kernel
theorem dX5_fit_1 : decode cX5_fit 1 = .ok (.iconst 1, 1) := by decide +kernel
theorem dX5_fit_2 : decode cX5_fit 2 = .ok (.if_icmp .lt 9, 3) := by decide +kernel
theorem dX5_fit_5 : decode cX5_fit 5 = .ok (.iload_n 1, 1) := by decide +kernel
theorem dX5_fit_6 : decode cX5_fit 6 = .ok (.ldc 166, 2) := by decide +kernel
theorem dX5_fit_8 : decode cX5_fit 8 = .ok (.if_icmp .le 5, 3) := by decide +kernel
theorem dX5_fit_11 : decode cX5_fit 11 = .ok (.iconst (-1), 1) := by decide +kernel
theorem dX5_fit_12 : decode cX5_fit 12 = .ok (.ireturn, 1) := by decide +kernel
theorem dX5_fit_13 : decode cX5_fit 13 = .ok (.aload_n 0, 1) := by decide +kernel
theorem dX5_fit_14 : decode cX5_fit 14 = .ok (.getfield 12, 3) := by decide +kernel
theorem dX5_fit_17 : decode cX5_fit 17 = .ok (.getfield 92, 3) := by decide +kernel
theorem dX5_fit_20 : decode cX5_fit 20 = .ok (.iload_n 1, 1) := by decide +kernel
theorem dX5_fit_21 : decode cX5_fit 21 = .ok (.invokevirtual 167, 3) := by decide +kernel
theorem dX5_fit_24 : decode cX5_fit 24 = .ok (.ireturn, 1) := by decide +kernel
set_option maxRecDepth 20000 in
theorem ggX5_endBy_X1_copyFrom : GoodIn wsX5_endBy wsX1_copyFrom := goodIn_r _ [9, 10, 11, 12, 13, 14, 15, 16, 17, 18, 171, 172, 173, 174, 175] (by decide +kernel) (by decide +kernel)
set_option maxRecDepth 20000 in
theorem gX5_endBy_X1_copyFrom : GoodIn wsX5_endBy (wsV RX5 170 RX1 yX1_copyFrom wsX1_copyFrom) := goodIn_app (goodIn_of _ (by decide +kernel)) ggX5_endBy_X1_copyFrom
set_option maxRecDepth 20000 in
theorem ggX5_endBy_X3_pushAnewByWeights : GoodIn wsX5_endBy wsX3_pushAnewByWeights := goodIn_r _ [23, 24, 25, 26, 27, 28, 22, 29, 30, 31, 32, 33, 8, 34, 17, 18, 35, 36, 37, 38, 39, 40, 41, 42, 43, 44, 45, 46, 47, 48, 49, 50, 51, 52, 53, 54, 55, 56, 57, 58, 16, 11, 59, 60, 61, 62, 63, 64, 65, 66, 67, 68, 69, 70, 71, 72, 73, 74, 75, 76, 77, 78, 79, 80, 81, 82, 83, 84, 85, 86, 87, 88, 89, 90, 91, 92, 93, 94, 95, 96, 97, 98, 99, 100, 101, 102, 103, 104, 105, 106, 107, 108, 109, 110, 111, 10, 112, 113, 114, 115, 116, 117, 118, 119, 120, 121, 122, 123, 124, 125, 126, 127, 128, 129, 130, 131, 132, 133, 134, 135, 136, 137, 138, 139, 140, 141, 142, 143, 144, 145, 146, 147, 148, 149, 150, 151, 152, 169, 170, 171, 172, 173, 174, 175, 176, 177] (by decide +kernel) (by decide +kernel)
set_option maxRecDepth 20000 in
theorem gX5_endBy_X3_pushAnewByWeights : GoodIn wsX5_endBy (wsV RX5 89 RX3 yX3_pushAnewByWeights wsX3_pushAnewByWeights) := goodIn_app (goodIn_of _ (by decide +kernel)) ggX5_endBy_X3_pushAnewByWeights
set_option maxRecDepth 20000 in
theorem ggX5_endBy_X3_pushAnewByNumbers : GoodIn wsX5_endBy wsX3_pushAnewByNumbers := goodIn_r _ [156, 24, 25, 26, 27, 28, 22, 29, 30, 31, 32, 33, 8, 34, 17, 18, 35, 36, 37, 38, 39, 40, 41, 42, 43, 44, 45, 46, 69, 70, 71, 72, 73, 74, 75, 76, 59, 60, 61, 77, 78, 79, 80, 81, 82, 83, 84, 85, 86, 87, 88, 89, 56, 57, 58, 16, 11, 90, 91, 92, 93, 94, 95, 96, 97, 98, 99, 100, 101, 102, 103, 104, 105, 106, 107, 108, 109, 110, 111, 10, 112, 113, 114, 115, 116, 117, 118, 119, 120, 121, 122, 123, 124, 125, 126, 52, 53, 54, 55, 127, 128, 129, 130, 131, 132, 133, 134, 135, 136, 137, 138, 139, 140, 141, 142, 143, 144, 145, 146, 147, 148, 149, 150, 151, 152, 169, 170, 171, 172, 173, 174, 175, 176, 177] (by decide +kernel) (by decide +kernel)
set_option maxRecDepth 20000 in
theorem gX5_endBy_X3_pushAnewByNumbers : GoodIn wsX5_endBy (wsV RX5 173 RX3 yX3_pushAnewByNumbers wsX3_pushAnewByNumbers) := goodIn_app (goodIn_of _ (by decide +kernel)) ggX5_endBy_X3_pushAnewByNumbers
set_option maxRecDepth 20000 in
theorem ggX5_endBy_X2_endOfCells : GoodIn wsX5_endBy wsX2_endOfCells := goodIn_r _ [160, 161, 162, 163, 42, 164, 45, 59, 60, 61, 176, 177] (by decide +kernel) (by decide +kernel)
set_option maxRecDepth 20000 in
theorem gX5_endBy_X2_endOfCells : GoodIn wsX5_endBy (wsV RX5 96 RX2 yX2_endOfCells wsX2_endOfCells) := goodIn_app (goodIn_of _ (by decide +kernel)) ggX5_endBy_X2_endOfCells
theorem dX5_endBy_0 : decode cX5_endBy 0 = .ok (.iload_n 1, 1) := by decide +kernel
theorem dX5_endBy_1 : decode cX5_endBy 1 = .ok (.ifCond .eq 10, 3) := by decide +kernel
theorem dX5_endBy_4 : decode cX5_endBy 4 = .ok (.iload_n 1, 1) := by decide +kernel
theorem dX5_endBy_5 : decode cX5_endBy 5 = .ok (.iconst 1, 1) := by decide +kernel
theorem dX5_endBy_6 : decode cX5_endBy 6 = .ok (.if_icmp .eq 5, 3) := by decide +kernel
theorem dX5_endBy_9 : decode cX5_endBy 9 = .ok (.iconst (-1), 1) := by decide +kernel
theorem dX5_endBy_10 : decode cX5_endBy 10 = .ok (.ireturn, 1) := by decide +kernel
theorem dX5_endBy_11 : decode cX5_endBy 11 = .ok (.aload_n 0, 1) := by decide +kernel
theorem dX5_endBy_12 : decode cX5_endBy 12 = .ok (.getfield 16, 3) := by decide +kernel
theorem dX5_endBy_15 : decode cX5_endBy 15 = .ok (.getfield 37, 3) := by decide +kernel
theorem dX5_endBy_18 : decode cX5_endBy 18 = .ok (.aload_n 0, 1) := by decide +kernel
theorem dX5_endBy_19 : decode cX5_endBy 19 = .ok (.getfield 12, 3) := by decide +kernel
theorem dX5_endBy_22 : decode cX5_endBy 22 = .ok (.getfield 37, 3) := by decide +kernel
theorem dX5_endBy_25 : decode cX5_endBy 25 = .ok (.invokevirtual 170, 3) := by decide +kernel
theorem dX5_endBy_28 : decode cX5_endBy 28 = .ok (.iload_n 1, 1) := by decide +kernel
theorem dX5_endBy_29 : decode cX5_endBy 29 = .ok (.ifCond .ne 13, 3) := by decide +kernel
theorem dX5_endBy_32 : decode cX5_endBy 32 = .ok (.aload_n 0, 1) := by decide +kernel
theorem dX5_endBy_33 : decode cX5_endBy 33 = .ok (.getfield 16, 3) := by decide +kernel
theorem dX5_endBy_36 : decode cX5_endBy 36 = .ok (.invokevirtual 89, 3) := by decide +kernel
theorem dX5_endBy_39 : decode cX5_endBy 39 = .ok (.goto 10, 3) := by decide +kernel
theorem dX5_endBy_42 : decode cX5_endBy 42 = .ok (.aload_n 0, 1) := by decide +kernel
theorem dX5_endBy_43 : decode cX5_endBy 43 = .ok (.getfield 16, 3) := by decide +kernel
theorem dX5_endBy_46 : decode cX5_endBy 46 = .ok (.invokevirtual 173, 3) := by decide +kernel
theorem dX5_endBy_49 : decode cX5_endBy 49 = .ok (.aload_n 0, 1) := by decide +kernel
theorem dX5_endBy_50 : decode cX5_endBy 50 = .ok (.getfield 16, 3) := by decide +kernel
theorem dX5_endBy_53 : decode cX5_endBy 53 = .ok (.getfield 92, 3) := by decide +kernel
theorem dX5_endBy_56 : decode cX5_endBy 56 = .ok (.invokevirtual 96, 3) := by decide +kernel
theorem dX5_endBy_59 : decode cX5_endBy 59 = .ok (.ireturn, 1) := by decide +kernel
set_option maxRecDepth 20000 in
theorem ggX5_slimmer_X1_slimmerBy : GoodIn wsX5_slimmer wsX1_slimmerBy := goodIn_r _ [8, 9, 10, 11, 7, 12, 13, 14, 15, 16, 17, 18, 19, 20, 21, 22, 23, 24, 25, 26, 27, 28, 29, 30, 31, 32, 33, 34, 35, 36, 37, 38, 39, 40, 41, 42, 43, 44, 51, 52, 53, 54, 55] (by decide +kernel) (by decide +kernel)
set_option maxRecDepth 20000 in
theorem gX5_slimmer_X1_slimmerBy : GoodIn wsX5_slimmer (wsV RX5 176 RX1 yX1_slimmerBy wsX1_slimmerBy) := goodIn_app (goodIn_of _ (by decide +kernel)) ggX5_slimmer_X1_slimmerBy
theorem dX5_slimmer_0 : decode cX5_slimmer 0 = .ok (.iconst 0, 1) := by decide +kernel
theorem dX5_slimmer_1 : decode cX5_slimmer 1 = .ok (.istore_n 1, 1) := by decide +kernel
theorem dX5_slimmer_2 : decode cX5_slimmer 2 = .ok (.iconst 0, 1) := by decide +kernel
theorem dX5_slimmer_3 : decode cX5_slimmer 3 = .ok (.istore_n 2, 1) := by decide +kernel
theorem dX5_slimmer_4 : decode cX5_slimmer 4 = .ok (.iload_n 2, 1) := by decide +kernel
theorem dX5_slimmer_5 : decode cX5_slimmer 5 = .ok (.aload_n 0, 1) := by decide +kernel
theorem dX5_slimmer_6 : decode cX5_slimmer 6 = .ok (.getfield 12, 3) := by decide +kernel
theorem dX5_slimmer_9 : decode cX5_slimmer 9 = .ok (.getfield 37, 3) := by decide +kernel
theorem dX5_slimmer_12 : decode cX5_slimmer 12 = .ok (.getfield 41, 3) := by decide +kernel
theorem dX5_slimmer_15 : decode cX5_slimmer 15 = .ok (.if_icmp .ge 23, 3) := by decide +kernel
theorem dX5_slimmer_18 : decode cX5_slimmer 18 = .ok (.iload_n 1, 1) := by decide +kernel
theorem dX5_slimmer_19 : decode cX5_slimmer 19 = .ok (.aload_n 0, 1) := by decide +kernel
theorem dX5_slimmer_20 : decode cX5_slimmer 20 = .ok (.getfield 12, 3) := by decide +kernel
theorem dX5_slimmer_23 : decode cX5_slimmer 23 = .ok (.getfield 37, 3) := by decide +kernel
theorem dX5_slimmer_26 : decode cX5_slimmer 26 = .ok (.iload_n 2, 1) := by decide +kernel
theorem dX5_slimmer_27 : decode cX5_slimmer 27 = .ok (.invokevirtual 176, 3) := by decide +kernel
theorem dX5_slimmer_30 : decode cX5_slimmer 30 = .ok (.iadd, 1) := by decide +kernel
theorem dX5_slimmer_31 : decode cX5_slimmer 31 = .ok (.istore_n 1, 1) := by decide +kernel
theorem dX5_slimmer_32 : decode cX5_slimmer 32 = .ok (.iinc 2 1, 3) := by decide +kernel
theorem dX5_slimmer_35 : decode cX5_slimmer 35 = .ok (.goto (-31), 3) := by decide +kernel
theorem dX5_slimmer_38 : decode cX5_slimmer 38 = .ok (.iload_n 1, 1) := by decide +kernel
theorem dX5_slimmer_39 : decode cX5_slimmer 39 = .ok (.ireturn, 1) := by decide +kernel
set_option maxRecDepth 20000 in
theorem ggX5_like_X5_isRow : GoodIn wsX5_like wsX5_isRow := goodIn_r _ [7, 1, 2, 8, 26, 27, 28, 29, 30, 31, 32, 33, 34, 35, 36] (by decide +kernel) (by decide +kernel)
set_option maxRecDepth 20000 in
theorem gX5_like_X5_isRow : GoodIn wsX5_like (wsV RX5 55 RX5 yX5_isRow wsX5_isRow) := goodIn_app (goodIn_of _ (by decide +kernel)) ggX5_like_X5_isRow
set_option maxRecDepth 20000 in
theorem ggX5_like_X1_mostLike : GoodIn wsX5_like wsX1_mostLike := goodIn_r _ [13, 14, 15, 16, 17, 12, 18, 19, 20, 21, 22, 23, 24, 6, 25, 32, 33, 34, 35, 36] (by decide +kernel) (by decide +kernel)
set_option maxRecDepth 20000 in
theorem gX5_like_X1_mostLike : GoodIn wsX5_like (wsV RX5 179 RX1 yX1_mostLike wsX1_mostLike) := goodIn_app (goodIn_of _ (by decide +kernel)) ggX5_like_X1_mostLike
theorem dX5_like_0 : decode cX5_like 0 = .ok (.aload_n 0, 1) := by decide +kernel
theorem dX5_like_1 : decode cX5_like 1 = .ok (.iload_n 1, 1) := by decide +kernel
theorem dX5_like_2 : decode cX5_like 2 = .ok (.invokevirtual 55, 3) := by decide +kernel
theorem dX5_like_5 : decode cX5_like 5 = .ok (.ifCond .ne 5, 3) := by decide +kernel
theorem dX5_like_8 : decode cX5_like 8 = .ok (.iconst (-1), 1) := by decide +kernel
theorem dX5_like_9 : decode cX5_like 9 = .ok (.ireturn, 1) := by decide +kernel
theorem dX5_like_10 : decode cX5_like 10 = .ok (.aload_n 0, 1) := by decide +kernel
theorem dX5_like_11 : decode cX5_like 11 = .ok (.getfield 12, 3) := by decide +kernel
theorem dX5_like_14 : decode cX5_like 14 = .ok (.getfield 37, 3) := by decide +kernel
theorem dX5_like_17 : decode cX5_like 17 = .ok (.iload_n 1, 1) := by decide +kernel
theorem dX5_like_18 : decode cX5_like 18 = .ok (.invokevirtual 179, 3) := by decide +kernel
theorem dX5_like_21 : decode cX5_like 21 = .ok (.ireturn, 1) := by decide +kernel
set_option maxRecDepth 20000 in
theorem ggX5_addRowOfText_X4_defaultRead : GoodIn wsX5_addRowOfText wsX4_defaultRead := goodIn_r _ [8, 9, 10, 11, 12, 142, 143, 144, 145, 146, 147, 148, 149] (by decide +kernel) (by decide +kernel)
set_option maxRecDepth 20000 in
theorem gX5_addRowOfText_X4_defaultRead : GoodIn wsX5_addRowOfText (wsV RX5 182 RX4 yX4_defaultRead wsX4_defaultRead) := goodIn_app (goodIn_of _ (by decide +kernel)) ggX5_addRowOfText_X4_defaultRead
set_option maxRecDepth 20000 in
theorem ggX5_addRowOfText_X1_addRow : GoodIn wsX5_addRowOfText wsX1_addRow := goodIn_r _ [17, 18, 19, 20, 21, 22, 23, 24, 25, 26, 27, 28, 150, 151, 152, 153, 154] (by decide +kernel) (by decide +kernel)
set_option maxRecDepth 20000 in
theorem gX5_addRowOfText_X1_addRow : GoodIn wsX5_addRowOfText (wsV RX5 51 RX1 yX1_addRow wsX1_addRow) := goodIn_app (goodIn_of _ (by decide +kernel)) ggX5_addRowOfText_X1_addRow
set_option maxRecDepth 20000 in
theorem ggX5_addRowOfText_X4_valueRead : GoodIn wsX5_addRowOfText wsX4_valueRead := goodIn_r _ [32, 33, 10, 11, 12, 142, 143, 144, 145, 146, 147, 148, 149] (by decide +kernel) (by decide +kernel)
set_option maxRecDepth 20000 in
theorem gX5_addRowOfText_X4_valueRead : GoodIn wsX5_addRowOfText (wsV RX5 185 RX4 yX4_valueRead wsX4_valueRead) := goodIn_app (goodIn_of _ (by decide +kernel)) ggX5_addRowOfText_X4_valueRead
set_option maxRecDepth 20000 in
theorem ggX5_addRowOfText_X1_changeValue : GoodIn wsX5_addRowOfText wsX1_changeValue := goodIn_r _ [37, 20, 38, 11, 39, 150, 151, 152, 153, 154] (by decide +kernel) (by decide +kernel)
set_option maxRecDepth 20000 in
theorem gX5_addRowOfText_X1_changeValue : GoodIn wsX5_addRowOfText (wsV RX5 65 RX1 yX1_changeValue wsX1_changeValue) := goodIn_app (goodIn_of _ (by decide +kernel)) ggX5_addRowOfText_X1_changeValue
set_option maxRecDepth 20000 in
theorem ggX5_addRowOfText_X3_settle : GoodIn wsX5_addRowOfText wsX3_settle := goodIn_r _ [44, 45, 46, 47, 48, 16, 49, 21, 10, 11, 12, 50, 51, 52, 43, 53, 54, 55, 56, 57, 58, 59, 60, 61, 62, 63, 64, 65, 66, 67, 68, 69, 20, 19, 70, 71, 72, 73, 74, 75, 76, 77, 78, 79, 80, 81, 82, 83, 84, 85, 86, 38, 39, 87, 88, 89, 90, 18, 91, 92, 93, 94, 95, 96, 97, 98, 99, 100, 101, 102, 103, 104, 105, 106, 107, 108, 109, 110, 111, 112, 113, 114, 115, 116, 117, 118, 119, 120, 121, 122, 123, 124, 125, 126, 127, 128, 129, 130, 131, 132, 133, 134, 135, 140, 141, 150, 151, 152, 153, 154, 155, 156] (by decide +kernel) (by decide +kernel)
set_option maxRecDepth 20000 in
theorem gX5_addRowOfText_X3_settle : GoodIn wsX5_addRowOfText (wsV RX5 69 RX3 yX3_settle wsX3_settle) := goodIn_app (goodIn_of _ (by decide +kernel)) ggX5_addRowOfText_X3_settle
theorem dX5_addRowOfText_0 : decode cX5_addRowOfText 0 = .ok (.aload_n 0, 1) := by decide +kernel
theorem dX5_addRowOfText_1 : decode cX5_addRowOfText 1 = .ok (.getfield 12, 3) := by decide +kernel
theorem dX5_addRowOfText_4 : decode cX5_addRowOfText 4 = .ok (.getfield 37, 3) := by decide +kernel
theorem dX5_addRowOfText_7 : decode cX5_addRowOfText 7 = .ok (.aload_n 0, 1) := by decide +kernel
theorem dX5_addRowOfText_8 : decode cX5_addRowOfText 8 = .ok (.getfield 29, 3) := by decide +kernel
theorem dX5_addRowOfText_11 : decode cX5_addRowOfText 11 = .ok (.iload_n 1, 1) := by decide +kernel
theorem dX5_addRowOfText_12 : decode cX5_addRowOfText 12 = .ok (.invokevirtual 182, 3) := by decide +kernel
theorem dX5_addRowOfText_15 : decode cX5_addRowOfText 15 = .ok (.invokevirtual 51, 3) := by decide +kernel
theorem dX5_addRowOfText_18 : decode cX5_addRowOfText 18 = .ok (.istore_n 2, 1) := by decide +kernel
theorem dX5_addRowOfText_19 : decode cX5_addRowOfText 19 = .ok (.iload_n 2, 1) := by decide +kernel
theorem dX5_addRowOfText_20 : decode cX5_addRowOfText 20 = .ok (.bipush (-9), 2) := by decide +kernel
theorem dX5_addRowOfText_22 : decode cX5_addRowOfText 22 = .ok (.if_icmp .ne 4, 3) := by decide +kernel
theorem dX5_addRowOfText_25 : decode cX5_addRowOfText 25 = .ok (.return_, 1) := by decide +kernel
theorem dX5_addRowOfText_26 : decode cX5_addRowOfText 26 = .ok (.iconst 0, 1) := by decide +kernel
theorem dX5_addRowOfText_27 : decode cX5_addRowOfText 27 = .ok (.istore_n 3, 1) := by decide +kernel
theorem dX5_addRowOfText_28 : decode cX5_addRowOfText 28 = .ok (.iload_n 3, 1) := by decide +kernel
theorem dX5_addRowOfText_29 : decode cX5_addRowOfText 29 = .ok (.bipush 16, 2) := by decide +kernel
theorem dX5_addRowOfText_31 : decode cX5_addRowOfText 31 = .ok (.if_icmp .ge 30, 3) := by decide +kernel
theorem dX5_addRowOfText_34 : decode cX5_addRowOfText 34 = .ok (.aload_n 0, 1) := by decide +kernel
theorem dX5_addRowOfText_35 : decode cX5_addRowOfText 35 = .ok (.getfield 12, 3) := by decide +kernel
theorem dX5_addRowOfText_38 : decode cX5_addRowOfText 38 = .ok (.getfield 37, 3) := by decide +kernel
theorem dX5_addRowOfText_41 : decode cX5_addRowOfText 41 = .ok (.iload_n 2, 1) := by decide +kernel
theorem dX5_addRowOfText_42 : decode cX5_addRowOfText 42 = .ok (.iload_n 3, 1) := by decide +kernel
theorem dX5_addRowOfText_43 : decode cX5_addRowOfText 43 = .ok (.aload_n 0, 1) := by decide +kernel
theorem dX5_addRowOfText_44 : decode cX5_addRowOfText 44 = .ok (.getfield 29, 3) := by decide +kernel
theorem dX5_addRowOfText_47 : decode cX5_addRowOfText 47 = .ok (.iload_n 1, 1) := by decide +kernel
theorem dX5_addRowOfText_48 : decode cX5_addRowOfText 48 = .ok (.iload_n 3, 1) := by decide +kernel
theorem dX5_addRowOfText_49 : decode cX5_addRowOfText 49 = .ok (.invokevirtual 185, 3) := by decide +kernel
theorem dX5_addRowOfText_52 : decode cX5_addRowOfText 52 = .ok (.invokevirtual 65, 3) := by decide +kernel
theorem dX5_addRowOfText_55 : decode cX5_addRowOfText 55 = .ok (.iinc 3 1, 3) := by decide +kernel
theorem dX5_addRowOfText_58 : decode cX5_addRowOfText 58 = .ok (.goto (-30), 3) := by decide +kernel
theorem dX5_addRowOfText_61 : decode cX5_addRowOfText 61 = .ok (.aload_n 0, 1) := by decide +kernel
theorem dX5_addRowOfText_62 : decode cX5_addRowOfText 62 = .ok (.getfield 12, 3) := by decide +kernel
theorem dX5_addRowOfText_65 : decode cX5_addRowOfText 65 = .ok (.iload_n 2, 1) := by decide +kernel
theorem dX5_addRowOfText_66 : decode cX5_addRowOfText 66 = .ok (.invokevirtual 69, 3) := by decide +kernel
theorem dX5_addRowOfText_69 : decode cX5_addRowOfText 69 = .ok (.return_, 1) := by decide +kernel
theorem dX5_isRow_0 : decode cX5_isRow 0 = .ok (.iload_n 1, 1) := by decide +kernel
theorem dX5_isRow_1 : decode cX5_isRow 1 = .ok (.ifCond .lt 21, 3) := by decide +kernel
theorem dX5_isRow_4 : decode cX5_isRow 4 = .ok (.iload_n 1, 1) := by decide +kernel
theorem dX5_isRow_5 : decode cX5_isRow 5 = .ok (.aload_n 0, 1) := by decide +kernel
theorem dX5_isRow_6 : decode cX5_isRow 6 = .ok (.getfield 12, 3) := by decide +kernel
theorem dX5_isRow_9 : decode cX5_isRow 9 = .ok (.getfield 37, 3) := by decide +kernel
theorem dX5_isRow_12 : decode cX5_isRow 12 = .ok (.getfield 41, 3) := by decide +kernel
theorem dX5_isRow_15 : decode cX5_isRow 15 = .ok (.if_icmp .ge 7, 3) := by decide +kernel
theorem dX5_isRow_18 : decode cX5_isRow 18 = .ok (.iconst 1, 1) := by decide +kernel
theorem dX5_isRow_19 : decode cX5_isRow 19 = .ok (.goto 4, 3) := by decide +kernel
theorem dX5_isRow_22 : decode cX5_isRow 22 = .ok (.iconst 0, 1) := by decide +kernel
theorem dX5_isRow_23 : decode cX5_isRow 23 = .ok (.ireturn, 1) := by decide +kernel
theorem dX5_isColumn_0 : decode cX5_isColumn 0 = .ok (.iload_n 0, 1) := by decide +kernel
theorem dX5_isColumn_1 : decode cX5_isColumn 1 = .ok (.ifCond .lt 13, 3) := by decide +kernel
theorem dX5_isColumn_4 : decode cX5_isColumn 4 = .ok (.iload_n 0, 1) := by decide +kernel
theorem dX5_isColumn_5 : decode cX5_isColumn 5 = .ok (.bipush 16, 2) := by decide +kernel
theorem dX5_isColumn_7 : decode cX5_isColumn 7 = .ok (.if_icmp .ge 7, 3) := by decide +kernel
theorem dX5_isColumn_10 : decode cX5_isColumn 10 = .ok (.iconst 1, 1) := by decide +kernel
theorem dX5_isColumn_11 : decode cX5_isColumn 11 = .ok (.goto 4, 3) := by decide +kernel
theorem dX5_isColumn_14 : decode cX5_isColumn 14 = .ok (.iconst 0, 1) := by decide +kernel
theorem dX5_isColumn_15 : decode cX5_isColumn 15 = .ok (.ireturn, 1) := by decide +kernel
theorem dX5_isValue_0 : decode cX5_isValue 0 = .ok (.iload_n 0, 1) := by decide +kernel
theorem dX5_isValue_1 : decode cX5_isValue 1 = .ok (.ifCond .lt 13, 3) := by decide +kernel
theorem dX5_isValue_4 : decode cX5_isValue 4 = .ok (.iload_n 0, 1) := by decide +kernel
theorem dX5_isValue_5 : decode cX5_isValue 5 = .ok (.bipush 99, 2) := by decide +kernel
theorem dX5_isValue_7 : decode cX5_isValue 7 = .ok (.if_icmp .gt 7, 3) := by decide +kernel
theorem dX5_isValue_10 : decode cX5_isValue 10 = .ok (.iconst 1, 1) := by decide +kernel
theorem dX5_isValue_11 : decode cX5_isValue 11 = .ok (.goto 4, 3) := by decide +kernel
theorem dX5_isValue_14 : decode cX5_isValue 14 = .ok (.iconst 0, 1) := by decide +kernel
theorem dX5_isValue_15 : decode cX5_isValue 15 = .ok (.ireturn, 1) := by decide +kernel
theorem dX5_numberAt_0 : decode cX5_numberAt 0 = .ok (.iload_n 1, 1) := by decide +kernel
theorem dX5_numberAt_1 : decode cX5_numberAt 1 = .ok (.ifCond .lt 15, 3) := by decide +kernel
theorem dX5_numberAt_4 : decode cX5_numberAt 4 = .ok (.iload_n 1, 1) := by decide +kernel
theorem dX5_numberAt_5 : decode cX5_numberAt 5 = .ok (.aload_n 0, 1) := by decide +kernel
theorem dX5_numberAt_6 : decode cX5_numberAt 6 = .ok (.arraylength, 1) := by decide +kernel
theorem dX5_numberAt_7 : decode cX5_numberAt 7 = .ok (.if_icmp .ge 9, 3) := by decide +kernel
theorem dX5_numberAt_10 : decode cX5_numberAt 10 = .ok (.aload_n 0, 1) := by decide +kernel
theorem dX5_numberAt_11 : decode cX5_numberAt 11 = .ok (.iload_n 1, 1) := by decide +kernel
theorem dX5_numberAt_12 : decode cX5_numberAt 12 = .ok (.iaload, 1) := by decide +kernel
theorem dX5_numberAt_13 : decode cX5_numberAt 13 = .ok (.goto 5, 3) := by decide +kernel
theorem dX5_numberAt_16 : decode cX5_numberAt 16 = .ok (.bipush (-9), 2) := by decide +kernel
theorem dX5_numberAt_18 : decode cX5_numberAt 18 = .ok (.ireturn, 1) := by decide +kernel
theorem dX5_putAt_0 : decode cX5_putAt 0 = .ok (.iload_n 1, 1) := by decide +kernel
theorem dX5_putAt_1 : decode cX5_putAt 1 = .ok (.ifCond .lt 13, 3) := by decide +kernel
theorem dX5_putAt_4 : decode cX5_putAt 4 = .ok (.iload_n 1, 1) := by decide +kernel
theorem dX5_putAt_5 : decode cX5_putAt 5 = .ok (.aload_n 0, 1) := by decide +kernel
theorem dX5_putAt_6 : decode cX5_putAt 6 = .ok (.arraylength, 1) := by decide +kernel
theorem dX5_putAt_7 : decode cX5_putAt 7 = .ok (.if_icmp .ge 7, 3) := by decide +kernel
theorem dX5_putAt_10 : decode cX5_putAt 10 = .ok (.aload_n 0, 1) := by decide +kernel
theorem dX5_putAt_11 : decode cX5_putAt 11 = .ok (.iload_n 1, 1) := by decide +kernel
theorem dX5_putAt_12 : decode cX5_putAt 12 = .ok (.iload_n 2, 1) := by decide +kernel
theorem dX5_putAt_13 : decode cX5_putAt 13 = .ok (.iastore, 1) := by decide +kernel
theorem dX5_putAt_14 : decode cX5_putAt 14 = .ok (.return_, 1) := by decide +kernel
