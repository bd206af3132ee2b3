theorem dJ6_bitCount_0f7a4_0 : decode cJ6_bitCount_0f7a4 0 = .ok (.iload_n 0, 1) := by decide +kernel
theorem dJ6_bitCount_0f7a4_1 : decode cJ6_bitCount_0f7a4 1 = .ok (.iload_n 0, 1) := by decide +kernel
theorem dJ6_bitCount_0f7a4_2 : decode cJ6_bitCount_0f7a4 2 = .ok (.iconst 1, 1) := by decide +kernel
theorem dJ6_bitCount_0f7a4_3 : decode cJ6_bitCount_0f7a4 3 = .ok (.iushr, 1) := by decide +kernel
theorem dJ6_bitCount_0f7a4_4 : decode cJ6_bitCount_0f7a4 4 = .ok (.ldc_w 265, 3) := by decide +kernel
theorem dJ6_bitCount_0f7a4_7 : decode cJ6_bitCount_0f7a4 7 = .ok (.iand, 1) := by decide +kernel
theorem dJ6_bitCount_0f7a4_8 : decode cJ6_bitCount_0f7a4 8 = .ok (.isub, 1) := by decide +kernel
theorem dJ6_bitCount_0f7a4_9 : decode cJ6_bitCount_0f7a4 9 = .ok (.istore_n 0, 1) := by decide +kernel
theorem dJ6_bitCount_0f7a4_10 : decode cJ6_bitCount_0f7a4 10 = .ok (.iload_n 0, 1) := by decide +kernel
theorem dJ6_bitCount_0f7a4_11 : decode cJ6_bitCount_0f7a4 11 = .ok (.ldc_w 266, 3) := by decide +kernel
theorem dJ6_bitCount_0f7a4_14 : decode cJ6_bitCount_0f7a4 14 = .ok (.iand, 1) := by decide +kernel
theorem dJ6_bitCount_0f7a4_15 : decode cJ6_bitCount_0f7a4 15 = .ok (.iload_n 0, 1) := by decide +kernel
theorem dJ6_bitCount_0f7a4_16 : decode cJ6_bitCount_0f7a4 16 = .ok (.iconst 2, 1) := by decide +kernel
theorem dJ6_bitCount_0f7a4_17 : decode cJ6_bitCount_0f7a4 17 = .ok (.iushr, 1) := by decide +kernel
theorem dJ6_bitCount_0f7a4_18 : decode cJ6_bitCount_0f7a4 18 = .ok (.ldc_w 266, 3) := by decide +kernel
theorem dJ6_bitCount_0f7a4_21 : decode cJ6_bitCount_0f7a4 21 = .ok (.iand, 1) := by decide +kernel
theorem dJ6_bitCount_0f7a4_22 : decode cJ6_bitCount_0f7a4 22 = .ok (.iadd, 1) := by decide +kernel
theorem dJ6_bitCount_0f7a4_23 : decode cJ6_bitCount_0f7a4 23 = .ok (.istore_n 0, 1) := by decide +kernel
theorem dJ6_bitCount_0f7a4_24 : decode cJ6_bitCount_0f7a4 24 = .ok (.iload_n 0, 1) := by decide +kernel
theorem dJ6_bitCount_0f7a4_25 : decode cJ6_bitCount_0f7a4 25 = .ok (.iload_n 0, 1) := by decide +kernel
theorem dJ6_bitCount_0f7a4_26 : decode cJ6_bitCount_0f7a4 26 = .ok (.iconst 4, 1) := by decide +kernel
theorem dJ6_bitCount_0f7a4_27 : decode cJ6_bitCount_0f7a4 27 = .ok (.iushr, 1) := by decide +kernel
theorem dJ6_bitCount_0f7a4_28 : decode cJ6_bitCount_0f7a4 28 = .ok (.iadd, 1) := by decide +kernel
theorem dJ6_bitCount_0f7a4_29 : decode cJ6_bitCount_0f7a4 29 = .ok (.ldc_w 267, 3) := by decide +kernel
theorem dJ6_bitCount_0f7a4_32 : decode cJ6_bitCount_0f7a4 32 = .ok (.iand, 1) := by decide +kernel
theorem dJ6_bitCount_0f7a4_33 : decode cJ6_bitCount_0f7a4 33 = .ok (.istore_n 0, 1) := by decide +kernel
theorem dJ6_bitCount_0f7a4_34 : decode cJ6_bitCount_0f7a4 34 = .ok (.iload_n 0, 1) := by decide +kernel
theorem dJ6_bitCount_0f7a4_35 : decode cJ6_bitCount_0f7a4 35 = .ok (.iload_n 0, 1) := by decide +kernel
theorem dJ6_bitCount_0f7a4_36 : decode cJ6_bitCount_0f7a4 36 = .ok (.bipush 8, 2) := by decide +kernel
theorem dJ6_bitCount_0f7a4_38 : decode cJ6_bitCount_0f7a4 38 = .ok (.iushr, 1) := by decide +kernel
theorem dJ6_bitCount_0f7a4_39 : decode cJ6_bitCount_0f7a4 39 = .ok (.iadd, 1) := by decide +kernel
theorem dJ6_bitCount_0f7a4_40 : decode cJ6_bitCount_0f7a4 40 = .ok (.istore_n 0, 1) := by decide +kernel
theorem dJ6_bitCount_0f7a4_41 : decode cJ6_bitCount_0f7a4 41 = .ok (.iload_n 0, 1) := by decide +kernel
theorem dJ6_bitCount_0f7a4_42 : decode cJ6_bitCount_0f7a4 42 = .ok (.iload_n 0, 1) := by decide +kernel
theorem dJ6_bitCount_0f7a4_43 : decode cJ6_bitCount_0f7a4 43 = .ok (.bipush 16, 2) := by decide +kernel
theorem dJ6_bitCount_0f7a4_45 : decode cJ6_bitCount_0f7a4 45 = .ok (.iushr, 1) := by decide +kernel
theorem dJ6_bitCount_0f7a4_46 : decode cJ6_bitCount_0f7a4 46 = .ok (.iadd, 1) := by decide +kernel
theorem dJ6_bitCount_0f7a4_47 : decode cJ6_bitCount_0f7a4 47 = .ok (.istore_n 0, 1) := by decide +kernel
theorem dJ6_bitCount_0f7a4_48 : decode cJ6_bitCount_0f7a4 48 = .ok (.iload_n 0, 1) := by decide +kernel
theorem dJ6_bitCount_0f7a4_49 : decode cJ6_bitCount_0f7a4 49 = .ok (.bipush 63, 2) := by decide +kernel
theorem dJ6_bitCount_0f7a4_51 : decode cJ6_bitCount_0f7a4 51 = .ok (.iand, 1) := by decide +kernel
theorem dJ6_bitCount_0f7a4_52 : decode cJ6_bitCount_0f7a4 52 = .ok (.ireturn, 1) := by decide +kernel
theorem dJ7_rangeCheck_23922_0 : decode cJ7_rangeCheck_23922 0 = .ok (.iload_n 1, 1) := by decide +kernel
theorem dJ7_rangeCheck_23922_1 : decode cJ7_rangeCheck_23922 1 = .ok (.iload_n 2, 1) := by decide +kernel
theorem dJ7_rangeCheck_23922_2 : decode cJ7_rangeCheck_23922 2 = .ok (.if_icmp .le 44, 3) := by decide +kernel
theorem dJ7_rangeCheck_23922_5 : decode cJ7_rangeCheck_23922 5 = .ok (.new 43, 3) := by decide +kernel
theorem dJ7_rangeCheck_23922_8 : decode cJ7_rangeCheck_23922 8 = .ok (.dup, 1) := by decide +kernel
theorem dJ7_rangeCheck_23922_9 : decode cJ7_rangeCheck_23922 9 = .ok (.new 45, 3) := by decide +kernel
theorem dJ7_rangeCheck_23922_12 : decode cJ7_rangeCheck_23922 12 = .ok (.dup, 1) := by decide +kernel
theorem dJ7_rangeCheck_23922_13 : decode cJ7_rangeCheck_23922 13 = .ok (.invokespecial 47, 3) := by decide +kernel
theorem dJ7_rangeCheck_23922_16 : decode cJ7_rangeCheck_23922 16 = .ok (.ldc 48, 2) := by decide +kernel
theorem dJ7_rangeCheck_23922_18 : decode cJ7_rangeCheck_23922 18 = .ok (.invokevirtual 50, 3) := by decide +kernel
theorem dJ7_rangeCheck_23922_21 : decode cJ7_rangeCheck_23922 21 = .ok (.iload_n 1, 1) := by decide +kernel
theorem dJ7_rangeCheck_23922_22 : decode cJ7_rangeCheck_23922 22 = .ok (.invokevirtual 54, 3) := by decide +kernel
theorem dJ7_rangeCheck_23922_25 : decode cJ7_rangeCheck_23922 25 = .ok (.ldc 57, 2) := by decide +kernel
theorem dJ7_rangeCheck_23922_27 : decode cJ7_rangeCheck_23922 27 = .ok (.invokevirtual 50, 3) := by decide +kernel
theorem dJ7_rangeCheck_23922_30 : decode cJ7_rangeCheck_23922 30 = .ok (.iload_n 2, 1) := by decide +kernel
theorem dJ7_rangeCheck_23922_31 : decode cJ7_rangeCheck_23922 31 = .ok (.invokevirtual 54, 3) := by decide +kernel
theorem dJ7_rangeCheck_23922_34 : decode cJ7_rangeCheck_23922 34 = .ok (.ldc 59, 2) := by decide +kernel
theorem dJ7_rangeCheck_23922_36 : decode cJ7_rangeCheck_23922 36 = .ok (.invokevirtual 50, 3) := by decide +kernel
theorem dJ7_rangeCheck_23922_39 : decode cJ7_rangeCheck_23922 39 = .ok (.invokevirtual 61, 3) := by decide +kernel
theorem dJ7_rangeCheck_23922_42 : decode cJ7_rangeCheck_23922 42 = .ok (.invokespecial 65, 3) := by decide +kernel
theorem dJ7_rangeCheck_23922_45 : decode cJ7_rangeCheck_23922 45 = .ok (.athrow, 1) := by decide +kernel
theorem dJ7_rangeCheck_23922_46 : decode cJ7_rangeCheck_23922 46 = .ok (.iload_n 1, 1) := by decide +kernel
theorem dJ7_rangeCheck_23922_47 : decode cJ7_rangeCheck_23922 47 = .ok (.ifCond .ge 12, 3) := by decide +kernel
theorem dJ7_rangeCheck_23922_50 : decode cJ7_rangeCheck_23922 50 = .ok (.new 68, 3) := by decide +kernel
theorem dJ7_rangeCheck_23922_53 : decode cJ7_rangeCheck_23922 53 = .ok (.dup, 1) := by decide +kernel
theorem dJ7_rangeCheck_23922_54 : decode cJ7_rangeCheck_23922 54 = .ok (.iload_n 1, 1) := by decide +kernel
theorem dJ7_rangeCheck_23922_55 : decode cJ7_rangeCheck_23922 55 = .ok (.invokespecial 70, 3) := by decide +kernel
theorem dJ7_rangeCheck_23922_58 : decode cJ7_rangeCheck_23922 58 = .ok (.athrow, 1) := by decide +kernel
theorem dJ7_rangeCheck_23922_59 : decode cJ7_rangeCheck_23922 59 = .ok (.iload_n 2, 1) := by decide +kernel
theorem dJ7_rangeCheck_23922_60 : decode cJ7_rangeCheck_23922 60 = .ok (.iload_n 0, 1) := by decide +kernel
theorem dJ7_rangeCheck_23922_61 : decode cJ7_rangeCheck_23922 61 = .ok (.if_icmp .le 12, 3) := by decide +kernel
theorem dJ7_rangeCheck_23922_64 : decode cJ7_rangeCheck_23922 64 = .ok (.new 68, 3) := by decide +kernel
theorem dJ7_rangeCheck_23922_67 : decode cJ7_rangeCheck_23922 67 = .ok (.dup, 1) := by decide +kernel
theorem dJ7_rangeCheck_23922_68 : decode cJ7_rangeCheck_23922 68 = .ok (.iload_n 2, 1) := by decide +kernel
theorem dJ7_rangeCheck_23922_69 : decode cJ7_rangeCheck_23922 69 = .ok (.invokespecial 70, 3) := by decide +kernel
theorem dJ7_rangeCheck_23922_72 : decode cJ7_rangeCheck_23922 72 = .ok (.athrow, 1) := by decide +kernel
theorem dJ7_rangeCheck_23922_73 : decode cJ7_rangeCheck_23922 73 = .ok (.return_, 1) := by decide +kernel
theorem dJ7_fill_53178_0 : decode cJ7_fill_53178 0 = .ok (.iconst 0, 1) := by decide +kernel
theorem dJ7_fill_53178_1 : decode cJ7_fill_53178 1 = .ok (.istore_n 2, 1) := by decide +kernel
theorem dJ7_fill_53178_2 : decode cJ7_fill_53178 2 = .ok (.aload_n 0, 1) := by decide +kernel
theorem dJ7_fill_53178_3 : decode cJ7_fill_53178 3 = .ok (.arraylength, 1) := by decide +kernel
theorem dJ7_fill_53178_4 : decode cJ7_fill_53178 4 = .ok (.istore_n 3, 1) := by decide +kernel
theorem dJ7_fill_53178_5 : decode cJ7_fill_53178 5 = .ok (.iload_n 2, 1) := by decide +kernel
theorem dJ7_fill_53178_6 : decode cJ7_fill_53178 6 = .ok (.iload_n 3, 1) := by decide +kernel
theorem dJ7_fill_53178_7 : decode cJ7_fill_53178 7 = .ok (.if_icmp .ge 13, 3) := by decide +kernel
theorem dJ7_fill_53178_10 : decode cJ7_fill_53178 10 = .ok (.aload_n 0, 1) := by decide +kernel
theorem dJ7_fill_53178_11 : decode cJ7_fill_53178 11 = .ok (.iload_n 2, 1) := by decide +kernel
theorem dJ7_fill_53178_12 : decode cJ7_fill_53178 12 = .ok (.iload_n 1, 1) := by decide +kernel
theorem dJ7_fill_53178_13 : decode cJ7_fill_53178 13 = .ok (.iastore, 1) := by decide +kernel
theorem dJ7_fill_53178_14 : decode cJ7_fill_53178 14 = .ok (.iinc 2 1, 3) := by decide +kernel
theorem dJ7_fill_53178_17 : decode cJ7_fill_53178 17 = .ok (.goto (-12), 3) := by decide +kernel
theorem dJ7_fill_53178_20 : decode cJ7_fill_53178 20 = .ok (.return_, 1) := by decide +kernel
set_option maxRecDepth 20000 in
theorem ggJ7_fill_fda19_J7_rangeCheck_23922 : GoodIn wsJ7_fill_fda19 wsJ7_rangeCheck_23922 := goodIn_r _ [4] (by decide +kernel) (by decide +kernel)
set_option maxRecDepth 20000 in
theorem gJ7_fill_fda19_J7_rangeCheck_23922 : GoodIn wsJ7_fill_fda19 (va_wsS RJ7 13 yJ7_rangeCheck_23922 wsJ7_rangeCheck_23922) := goodIn_app (goodIn_of _ (by decide +kernel)) ggJ7_fill_fda19_J7_rangeCheck_23922
theorem dJ7_fill_fda19_0 : decode cJ7_fill_fda19 0 = .ok (.aload_n 0, 1) := by decide +kernel
theorem dJ7_fill_fda19_1 : decode cJ7_fill_fda19 1 = .ok (.arraylength, 1) := by decide +kernel
theorem dJ7_fill_fda19_2 : decode cJ7_fill_fda19 2 = .ok (.iload_n 1, 1) := by decide +kernel
theorem dJ7_fill_fda19_3 : decode cJ7_fill_fda19 3 = .ok (.iload_n 2, 1) := by decide +kernel
theorem dJ7_fill_fda19_4 : decode cJ7_fill_fda19 4 = .ok (.invokestatic 13, 3) := by decide +kernel
theorem dJ7_fill_fda19_7 : decode cJ7_fill_fda19 7 = .ok (.iload_n 1, 1) := by decide +kernel
theorem dJ7_fill_fda19_8 : decode cJ7_fill_fda19 8 = .ok (.istore 4, 2) := by decide +kernel
theorem dJ7_fill_fda19_10 : decode cJ7_fill_fda19 10 = .ok (.iload 4, 2) := by decide +kernel
theorem dJ7_fill_fda19_12 : decode cJ7_fill_fda19 12 = .ok (.iload_n 2, 1) := by decide +kernel
theorem dJ7_fill_fda19_13 : decode cJ7_fill_fda19 13 = .ok (.if_icmp .ge 14, 3) := by decide +kernel
theorem dJ7_fill_fda19_16 : decode cJ7_fill_fda19 16 = .ok (.aload_n 0, 1) := by decide +kernel
theorem dJ7_fill_fda19_17 : decode cJ7_fill_fda19 17 = .ok (.iload 4, 2) := by decide +kernel
theorem dJ7_fill_fda19_19 : decode cJ7_fill_fda19 19 = .ok (.iload_n 3, 1) := by decide +kernel
theorem dJ7_fill_fda19_20 : decode cJ7_fill_fda19 20 = .ok (.iastore, 1) := by decide +kernel
theorem dJ7_fill_fda19_21 : decode cJ7_fill_fda19 21 = .ok (.iinc 4 1, 3) := by decide +kernel
theorem dJ7_fill_fda19_24 : decode cJ7_fill_fda19 24 = .ok (.goto (-14), 3) := by decide +kernel
theorem dJ7_fill_fda19_27 : decode cJ7_fill_fda19 27 = .ok (.return_, 1) := by decide +kernel
set_option maxRecDepth 20000 in
theorem ggX2_init_X2_emptyAll : GoodIn wsX2_init wsX2_emptyAll := goodIn_r _ [11, 5, 6, 12, 13, 14, 15, 16, 17] (by decide +kernel) (by decide +kernel)
set_option maxRecDepth 20000 in
theorem gX2_init_X2_emptyAll : GoodIn wsX2_init (wsV RX2 18 RX2 yX2_emptyAll wsX2_emptyAll) := goodIn_app (goodIn_of _ (by decide +kernel)) ggX2_init_X2_emptyAll
theorem dX2_init_0 : decode cX2_init 0 = .ok (.aload_n 0, 1) := by decide +kernel
theorem dX2_init_1 : decode cX2_init 1 = .ok (.invokespecial 3, 3) := by decide +kernel
theorem dX2_init_4 : decode cX2_init 4 = .ok (.aload_n 0, 1) := by decide +kernel
theorem dX2_init_5 : decode cX2_init 5 = .ok (.sipush 800, 3) := by decide +kernel
theorem dX2_init_8 : decode cX2_init 8 = .ok (.newarray .int, 2) := by decide +kernel
theorem dX2_init_10 : decode cX2_init 10 = .ok (.putfield 9, 3) := by decide +kernel
theorem dX2_init_13 : decode cX2_init 13 = .ok (.aload_n 0, 1) := by decide +kernel
theorem dX2_init_14 : decode cX2_init 14 = .ok (.sipush 800, 3) := by decide +kernel
theorem dX2_init_17 : decode cX2_init 17 = .ok (.newarray .int, 2) := by decide +kernel
theorem dX2_init_19 : decode cX2_init 19 = .ok (.putfield 15, 3) := by decide +kernel
theorem dX2_init_22 : decode cX2_init 22 = .ok (.aload_n 0, 1) := by decide +kernel
theorem dX2_init_23 : decode cX2_init 23 = .ok (.invokevirtual 18, 3) := by decide +kernel
theorem dX2_init_26 : decode cX2_init 26 = .ok (.return_, 1) := by decide +kernel
set_option maxRecDepth 20000 in
theorem ggX2_emptyAll_J7_fill_53178 : GoodIn wsX2_emptyAll wsJ7_fill_53178 := goodIn_r _ [6] (by decide +kernel) (by decide +kernel)
set_option maxRecDepth 20000 in
theorem gX2_emptyAll_J7_fill_53178 : GoodIn wsX2_emptyAll (va_wsS RX2 21 yJ7_fill_53178 wsJ7_fill_53178) := goodIn_app (goodIn_of _ (by decide +kernel)) ggX2_emptyAll_J7_fill_53178
theorem dX2_emptyAll_0 : decode cX2_emptyAll 0 = .ok (.aload_n 0, 1) := by decide +kernel
theorem dX2_emptyAll_1 : decode cX2_emptyAll 1 = .ok (.getfield 9, 3) := by decide +kernel
theorem dX2_emptyAll_4 : decode cX2_emptyAll 4 = .ok (.bipush (-9), 2) := by decide +kernel
theorem dX2_emptyAll_6 : decode cX2_emptyAll 6 = .ok (.invokestatic 21, 3) := by decide +kernel
theorem dX2_emptyAll_9 : decode cX2_emptyAll 9 = .ok (.aload_n 0, 1) := by decide +kernel
theorem dX2_emptyAll_10 : decode cX2_emptyAll 10 = .ok (.getfield 15, 3) := by decide +kernel
theorem dX2_emptyAll_13 : decode cX2_emptyAll 13 = .ok (.bipush (-9), 2) := by decide +kernel
theorem dX2_emptyAll_15 : decode cX2_emptyAll 15 = .ok (.invokestatic 21, 3) := by decide +kernel
theorem dX2_emptyAll_18 : decode cX2_emptyAll 18 = .ok (.return_, 1) := by decide +kernel
set_option maxRecDepth 20000 in
theorem ggX2_fillCell_X5_putAt : GoodIn wsX2_fillCell wsX5_putAt := goodIn_r _ [5] (by decide +kernel) (by decide +kernel)
set_option maxRecDepth 20000 in
theorem gX2_fillCell_X5_putAt_n27 : GoodIn wsX2_fillCell (wsX5_putAt) := ggX2_fillCell_X5_putAt
theorem dX2_fillCell_0 : decode cX2_fillCell 0 = .ok (.aload_n 0, 1) := by decide +kernel
theorem dX2_fillCell_1 : decode cX2_fillCell 1 = .ok (.getfield 9, 3) := by decide +kernel
theorem dX2_fillCell_4 : decode cX2_fillCell 4 = .ok (.iload_n 1, 1) := by decide +kernel
theorem dX2_fillCell_5 : decode cX2_fillCell 5 = .ok (.iload_n 2, 1) := by decide +kernel
theorem dX2_fillCell_6 : decode cX2_fillCell 6 = .ok (.invokestatic 27, 3) := by decide +kernel
theorem dX2_fillCell_9 : decode cX2_fillCell 9 = .ok (.aload_n 0, 1) := by decide +kernel
theorem dX2_fillCell_10 : decode cX2_fillCell 10 = .ok (.getfield 15, 3) := by decide +kernel
theorem dX2_fillCell_13 : decode cX2_fillCell 13 = .ok (.iload_n 1, 1) := by decide +kernel
theorem dX2_fillCell_14 : decode cX2_fillCell 14 = .ok (.iload_n 3, 1) := by decide +kernel
theorem dX2_fillCell_15 : decode cX2_fillCell 15 = .ok (.invokestatic 27, 3) := by decide +kernel
theorem dX2_fillCell_18 : decode cX2_fillCell 18 = .ok (.return_, 1) := by decide +kernel
set_option maxRecDepth 20000 in
theorem ggX2_valueAt_X5_numberAt : GoodIn wsX2_valueAt wsX5_numberAt := goodIn_r _ [4] (by decide +kernel) (by decide +kernel)
set_option maxRecDepth 20000 in
theorem gX2_valueAt_X5_numberAt_n31 : GoodIn wsX2_valueAt (wsX5_numberAt) := ggX2_valueAt_X5_numberAt
theorem dX2_valueAt_0 : decode cX2_valueAt 0 = .ok (.aload_n 0, 1) := by decide +kernel
theorem dX2_valueAt_1 : decode cX2_valueAt 1 = .ok (.getfield 9, 3) := by decide +kernel
theorem dX2_valueAt_4 : decode cX2_valueAt 4 = .ok (.iload_n 1, 1) := by decide +kernel
theorem dX2_valueAt_5 : decode cX2_valueAt 5 = .ok (.invokestatic 31, 3) := by decide +kernel
theorem dX2_valueAt_8 : decode cX2_valueAt 8 = .ok (.ireturn, 1) := by decide +kernel
set_option maxRecDepth 20000 in
theorem ggX2_markAt_X5_numberAt : GoodIn wsX2_markAt wsX5_numberAt := goodIn_r _ [4] (by decide +kernel) (by decide +kernel)
set_option maxRecDepth 20000 in
theorem gX2_markAt_X5_numberAt_n31 : GoodIn wsX2_markAt (wsX5_numberAt) := ggX2_markAt_X5_numberAt
theorem dX2_markAt_0 : decode cX2_markAt 0 = .ok (.aload_n 0, 1) := by decide +kernel
theorem dX2_markAt_1 : decode cX2_markAt 1 = .ok (.getfield 15, 3) := by decide +kernel
theorem dX2_markAt_4 : decode cX2_markAt 4 = .ok (.iload_n 1, 1) := by decide +kernel
theorem dX2_markAt_5 : decode cX2_markAt 5 = .ok (.invokestatic 31, 3) := by decide +kernel
theorem dX2_markAt_8 : decode cX2_markAt 8 = .ok (.ireturn, 1) := by decide +kernel
set_option maxRecDepth 20000 in
theorem ggX2_isEmptyAt_X5_numberAt : GoodIn wsX2_isEmptyAt wsX5_numberAt := goodIn_r _ [4] (by decide +kernel) (by decide +kernel)
set_option maxRecDepth 20000 in
theorem gX2_isEmptyAt_X5_numberAt_n31 : GoodIn wsX2_isEmptyAt (wsX5_numberAt) := ggX2_isEmptyAt_X5_numberAt
theorem dX2_isEmptyAt_0 : decode cX2_isEmptyAt 0 = .ok (.aload_n 0, 1) := by decide +kernel
theorem dX2_isEmptyAt_1 : decode cX2_isEmptyAt 1 = .ok (.getfield 15, 3) := by decide +kernel
theorem dX2_isEmptyAt_4 : decode cX2_isEmptyAt 4 = .ok (.iload_n 1, 1) := by decide +kernel
theorem dX2_isEmptyAt_5 : decode cX2_isEmptyAt 5 = .ok (.invokestatic 31, 3) := by decide +kernel
theorem dX2_isEmptyAt_8 : decode cX2_isEmptyAt 8 = .ok (.bipush (-9), 2) := by decide +kernel
theorem dX2_isEmptyAt_10 : decode cX2_isEmptyAt 10 = .ok (.if_icmp .ne 7, 3) := by decide +kernel
theorem dX2_isEmptyAt_13 : decode cX2_isEmptyAt 13 = .ok (.iconst 1, 1) := by decide +kernel
theorem dX2_isEmptyAt_14 : decode cX2_isEmptyAt 14 = .ok (.goto 4, 3) := by decide +kernel
theorem dX2_isEmptyAt_17 : decode cX2_isEmptyAt 17 = .ok (.iconst 0, 1) := by decide +kernel
theorem dX2_isEmptyAt_18 : decode cX2_isEmptyAt 18 = .ok (.ireturn, 1) := by decide +kernel
set_option maxRecDepth 20000 in
theorem ggX2_takeOut_X2_markAt : GoodIn wsX2_takeOut wsX2_markAt := goodIn_r _ [5, 6, 7, 8, 9, 17, 18] (by decide +kernel) (by decide +kernel)
set_option maxRecDepth 20000 in
theorem gX2_takeOut_X2_markAt : GoodIn wsX2_takeOut (wsV RX2 35 RX2 yX2_markAt wsX2_markAt) := goodIn_app (goodIn_of _ (by decide +kernel)) ggX2_takeOut_X2_markAt
set_option maxRecDepth 20000 in
theorem ggX2_takeOut_X2_fillCell : GoodIn wsX2_takeOut wsX2_fillCell := goodIn_r _ [13, 14, 6, 15, 8, 16, 17, 18] (by decide +kernel) (by decide +kernel)
set_option maxRecDepth 20000 in
theorem gX2_takeOut_X2_fillCell : GoodIn wsX2_takeOut (wsV RX2 39 RX2 yX2_fillCell wsX2_fillCell) := goodIn_app (goodIn_of _ (by decide +kernel)) ggX2_takeOut_X2_fillCell
theorem dX2_takeOut_0 : decode cX2_takeOut 0 = .ok (.iload_n 2, 1) := by decide +kernel
theorem dX2_takeOut_1 : decode cX2_takeOut 1 = .ok (.istore_n 3, 1) := by decide +kernel
theorem dX2_takeOut_2 : decode cX2_takeOut 2 = .ok (.iload_n 3, 1) := by decide +kernel
theorem dX2_takeOut_3 : decode cX2_takeOut 3 = .ok (.iload_n 2, 1) := by decide +kernel
theorem dX2_takeOut_4 : decode cX2_takeOut 4 = .ok (.bipush 16, 2) := by decide +kernel
theorem dX2_takeOut_6 : decode cX2_takeOut 6 = .ok (.iadd, 1) := by decide +kernel
theorem dX2_takeOut_7 : decode cX2_takeOut 7 = .ok (.if_icmp .ge 27, 3) := by decide +kernel
theorem dX2_takeOut_10 : decode cX2_takeOut 10 = .ok (.aload_n 0, 1) := by decide +kernel
theorem dX2_takeOut_11 : decode cX2_takeOut 11 = .ok (.iload_n 3, 1) := by decide +kernel
theorem dX2_takeOut_12 : decode cX2_takeOut 12 = .ok (.invokevirtual 35, 3) := by decide +kernel
theorem dX2_takeOut_15 : decode cX2_takeOut 15 = .ok (.iload_n 1, 1) := by decide +kernel
theorem dX2_takeOut_16 : decode cX2_takeOut 16 = .ok (.if_icmp .ne 12, 3) := by decide +kernel
theorem dX2_takeOut_19 : decode cX2_takeOut 19 = .ok (.aload_n 0, 1) := by decide +kernel
theorem dX2_takeOut_20 : decode cX2_takeOut 20 = .ok (.iload_n 3, 1) := by decide +kernel
theorem dX2_takeOut_21 : decode cX2_takeOut 21 = .ok (.bipush (-9), 2) := by decide +kernel
theorem dX2_takeOut_23 : decode cX2_takeOut 23 = .ok (.bipush (-9), 2) := by decide +kernel
theorem dX2_takeOut_25 : decode cX2_takeOut 25 = .ok (.invokevirtual 39, 3) := by decide +kernel
theorem dX2_takeOut_28 : decode cX2_takeOut 28 = .ok (.iinc 3 1, 3) := by decide +kernel
theorem dX2_takeOut_31 : decode cX2_takeOut 31 = .ok (.goto (-29), 3) := by decide +kernel
theorem dX2_takeOut_34 : decode cX2_takeOut 34 = .ok (.return_, 1) := by decide +kernel
set_option maxRecDepth 20000 in
theorem ggX2_filledOf_X2_markAt : GoodIn wsX2_filledOf wsX2_markAt := goodIn_r _ [5, 6, 7, 8, 9, 10, 11] (by decide +kernel) (by decide +kernel)
set_option maxRecDepth 20000 in
theorem gX2_filledOf_X2_markAt : GoodIn wsX2_filledOf (wsV RX2 35 RX2 yX2_markAt wsX2_markAt) := goodIn_app (goodIn_of _ (by decide +kernel)) ggX2_filledOf_X2_markAt
theorem dX2_filledOf_0 : decode cX2_filledOf 0 = .ok (.iconst 0, 1) := by decide +kernel
theorem dX2_filledOf_1 : decode cX2_filledOf 1 = .ok (.istore_n 3, 1) := by decide +kernel
theorem dX2_filledOf_2 : decode cX2_filledOf 2 = .ok (.iload_n 2, 1) := by decide +kernel
theorem dX2_filledOf_3 : decode cX2_filledOf 3 = .ok (.istore 4, 2) := by decide +kernel
theorem dX2_filledOf_5 : decode cX2_filledOf 5 = .ok (.iload 4, 2) := by decide +kernel
theorem dX2_filledOf_7 : decode cX2_filledOf 7 = .ok (.iload_n 2, 1) := by decide +kernel
theorem dX2_filledOf_8 : decode cX2_filledOf 8 = .ok (.bipush 16, 2) := by decide +kernel
theorem dX2_filledOf_10 : decode cX2_filledOf 10 = .ok (.iadd, 1) := by decide +kernel
theorem dX2_filledOf_11 : decode cX2_filledOf 11 = .ok (.if_icmp .ge 22, 3) := by decide +kernel
theorem dX2_filledOf_14 : decode cX2_filledOf 14 = .ok (.aload_n 0, 1) := by decide +kernel
theorem dX2_filledOf_15 : decode cX2_filledOf 15 = .ok (.iload 4, 2) := by decide +kernel
theorem dX2_filledOf_17 : decode cX2_filledOf 17 = .ok (.invokevirtual 35, 3) := by decide +kernel
theorem dX2_filledOf_20 : decode cX2_filledOf 20 = .ok (.iload_n 1, 1) := by decide +kernel
theorem dX2_filledOf_21 : decode cX2_filledOf 21 = .ok (.if_icmp .ne 6, 3) := by decide +kernel
theorem dX2_filledOf_24 : decode cX2_filledOf 24 = .ok (.iinc 3 1, 3) := by decide +kernel
theorem dX2_filledOf_27 : decode cX2_filledOf 27 = .ok (.iinc 4 1, 3) := by decide +kernel
theorem dX2_filledOf_30 : decode cX2_filledOf 30 = .ok (.goto (-25), 3) := by decide +kernel
theorem dX2_filledOf_33 : decode cX2_filledOf 33 = .ok (.iload_n 3, 1) := by decide +kernel
theorem dX2_filledOf_34 : decode cX2_filledOf 34 = .ok (.ireturn, 1) := by decide +kernel
set_option maxRecDepth 20000 in
theorem ggX2_firstFit_X2_fitsAt : GoodIn wsX2_firstFit wsX2_fitsAt := goodIn_r _ [5, 6, 7, 8, 9, 10, 11] (by decide +kernel) (by decide +kernel)
set_option maxRecDepth 20000 in
theorem gX2_firstFit_X2_fitsAt : GoodIn wsX2_firstFit (wsV RX2 43 RX2 yX2_fitsAt wsX2_fitsAt) := goodIn_app (goodIn_of _ (by decide +kernel)) ggX2_firstFit_X2_fitsAt
theorem dX2_firstFit_0 : decode cX2_firstFit 0 = .ok (.iconst 0, 1) := by decide +kernel
theorem dX2_firstFit_1 : decode cX2_firstFit 1 = .ok (.istore_n 2, 1) := by decide +kernel
theorem dX2_firstFit_2 : decode cX2_firstFit 2 = .ok (.iload_n 2, 1) := by decide +kernel
theorem dX2_firstFit_3 : decode cX2_firstFit 3 = .ok (.sipush 784, 3) := by decide +kernel
theorem dX2_firstFit_6 : decode cX2_firstFit 6 = .ok (.if_icmp .gt 20, 3) := by decide +kernel
theorem dX2_firstFit_9 : decode cX2_firstFit 9 = .ok (.aload_n 0, 1) := by decide +kernel
theorem dX2_firstFit_10 : decode cX2_firstFit 10 = .ok (.iload_n 2, 1) := by decide +kernel
theorem dX2_firstFit_11 : decode cX2_firstFit 11 = .ok (.iload_n 1, 1) := by decide +kernel
theorem dX2_firstFit_12 : decode cX2_firstFit 12 = .ok (.invokevirtual 43, 3) := by decide +kernel
theorem dX2_firstFit_15 : decode cX2_firstFit 15 = .ok (.ifCond .eq 5, 3) := by decide +kernel
theorem dX2_firstFit_18 : decode cX2_firstFit 18 = .ok (.iload_n 2, 1) := by decide +kernel
theorem dX2_firstFit_19 : decode cX2_firstFit 19 = .ok (.ireturn, 1) := by decide +kernel
theorem dX2_firstFit_20 : decode cX2_firstFit 20 = .ok (.iinc 2 1, 3) := by decide +kernel
theorem dX2_firstFit_23 : decode cX2_firstFit 23 = .ok (.goto (-21), 3) := by decide +kernel
theorem dX2_firstFit_26 : decode cX2_firstFit 26 = .ok (.bipush (-9), 2) := by decide +kernel
theorem dX2_firstFit_28 : decode cX2_firstFit 28 = .ok (.ireturn, 1) := by decide +kernel
set_option maxRecDepth 20000 in
theorem ggX2_fitsAt_X5_numberAt : GoodIn wsX2_fitsAt wsX5_numberAt := goodIn_r _ [4] (by decide +kernel) (by decide +kernel)
set_option maxRecDepth 20000 in
theorem gX2_fitsAt_X5_numberAt_n31 : GoodIn wsX2_fitsAt (wsX5_numberAt) := ggX2_fitsAt_X5_numberAt
theorem dX2_fitsAt_0 : decode cX2_fitsAt 0 = .ok (.iconst 0, 1) := by decide +kernel
theorem dX2_fitsAt_1 : decode cX2_fitsAt 1 = .ok (.istore_n 3, 1) := by decide +kernel
theorem dX2_fitsAt_2 : decode cX2_fitsAt 2 = .ok (.iload_n 3, 1) := by decide +kernel
theorem dX2_fitsAt_3 : decode cX2_fitsAt 3 = .ok (.bipush 16, 2) := by decide +kernel
theorem dX2_fitsAt_5 : decode cX2_fitsAt 5 = .ok (.if_icmp .ge 35, 3) := by decide +kernel
theorem dX2_fitsAt_8 : decode cX2_fitsAt 8 = .ok (.iload_n 2, 1) := by decide +kernel
theorem dX2_fitsAt_9 : decode cX2_fitsAt 9 = .ok (.iload_n 3, 1) := by decide +kernel
theorem dX2_fitsAt_10 : decode cX2_fitsAt 10 = .ok (.ishr, 1) := by decide +kernel
theorem dX2_fitsAt_11 : decode cX2_fitsAt 11 = .ok (.iconst 1, 1) := by decide +kernel
theorem dX2_fitsAt_12 : decode cX2_fitsAt 12 = .ok (.iand, 1) := by decide +kernel
theorem dX2_fitsAt_13 : decode cX2_fitsAt 13 = .ok (.iconst 1, 1) := by decide +kernel
theorem dX2_fitsAt_14 : decode cX2_fitsAt 14 = .ok (.if_icmp .ne 20, 3) := by decide +kernel
theorem dX2_fitsAt_17 : decode cX2_fitsAt 17 = .ok (.aload_n 0, 1) := by decide +kernel
theorem dX2_fitsAt_18 : decode cX2_fitsAt 18 = .ok (.getfield 15, 3) := by decide +kernel
theorem dX2_fitsAt_21 : decode cX2_fitsAt 21 = .ok (.iload_n 1, 1) := by decide +kernel
theorem dX2_fitsAt_22 : decode cX2_fitsAt 22 = .ok (.iload_n 3, 1) := by decide +kernel
theorem dX2_fitsAt_23 : decode cX2_fitsAt 23 = .ok (.iadd, 1) := by decide +kernel
theorem dX2_fitsAt_24 : decode cX2_fitsAt 24 = .ok (.invokestatic 31, 3) := by decide +kernel
theorem dX2_fitsAt_27 : decode cX2_fitsAt 27 = .ok (.bipush (-9), 2) := by decide +kernel
theorem dX2_fitsAt_29 : decode cX2_fitsAt 29 = .ok (.if_icmp .eq 5, 3) := by decide +kernel
theorem dX2_fitsAt_32 : decode cX2_fitsAt 32 = .ok (.iconst 0, 1) := by decide +kernel
theorem dX2_fitsAt_33 : decode cX2_fitsAt 33 = .ok (.ireturn, 1) := by decide +kernel
theorem dX2_fitsAt_34 : decode cX2_fitsAt 34 = .ok (.iinc 3 1, 3) := by decide +kernel
theorem dX2_fitsAt_37 : decode cX2_fitsAt 37 = .ok (.goto (-35), 3) := by decide +kernel
theorem dX2_fitsAt_40 : decode cX2_fitsAt 40 = .ok (.iconst 1, 1) := by decide +kernel
theorem dX2_fitsAt_41 : decode cX2_fitsAt 41 = .ok (.ireturn, 1) := by decide +kernel
set_option maxRecDepth 20000 in
theorem ggX2_endOfCells_X2_isEmptyAt : GoodIn wsX2_endOfCells wsX2_isEmptyAt := goodIn_r _ [5, 6, 7, 8, 9, 10, 11] (by decide +kernel) (by decide +kernel)
set_option maxRecDepth 20000 in
theorem gX2_endOfCells_X2_isEmptyAt : GoodIn wsX2_endOfCells (wsV RX2 47 RX2 yX2_isEmptyAt wsX2_isEmptyAt) := goodIn_app (goodIn_of _ (by decide +kernel)) ggX2_endOfCells_X2_isEmptyAt
theorem dX2_endOfCells_0 : decode cX2_endOfCells 0 = .ok (.sipush 799, 3) := by decide +kernel
theorem dX2_endOfCells_3 : decode cX2_endOfCells 3 = .ok (.istore_n 1, 1) := by decide +kernel
theorem dX2_endOfCells_4 : decode cX2_endOfCells 4 = .ok (.iload_n 1, 1) := by decide +kernel
theorem dX2_endOfCells_5 : decode cX2_endOfCells 5 = .ok (.ifCond .lt 21, 3) := by decide +kernel
theorem dX2_endOfCells_8 : decode cX2_endOfCells 8 = .ok (.aload_n 0, 1) := by decide +kernel
theorem dX2_endOfCells_9 : decode cX2_endOfCells 9 = .ok (.iload_n 1, 1) := by decide +kernel
theorem dX2_endOfCells_10 : decode cX2_endOfCells 10 = .ok (.invokevirtual 47, 3) := by decide +kernel
theorem dX2_endOfCells_13 : decode cX2_endOfCells 13 = .ok (.ifCond .ne 7, 3) := by decide +kernel
theorem dX2_endOfCells_16 : decode cX2_endOfCells 16 = .ok (.iload_n 1, 1) := by decide +kernel
theorem dX2_endOfCells_17 : decode cX2_endOfCells 17 = .ok (.iconst 1, 1) := by decide +kernel
theorem dX2_endOfCells_18 : decode cX2_endOfCells 18 = .ok (.iadd, 1) := by decide +kernel
theorem dX2_endOfCells_19 : decode cX2_endOfCells 19 = .ok (.ireturn, 1) := by decide +kernel
theorem dX2_endOfCells_20 : decode cX2_endOfCells 20 = .ok (.iinc 1 (-1), 3) := by decide +kernel
theorem dX2_endOfCells_23 : decode cX2_endOfCells 23 = .ok (.goto (-19), 3) := by decide +kernel
theorem dX2_endOfCells_26 : decode cX2_endOfCells 26 = .ok (.iconst 0, 1) := by decide +kernel
theorem dX2_endOfCells_27 : decode cX2_endOfCells 27 = .ok (.ireturn, 1) := by decide +kernel
set_option maxRecDepth 20000 in
theorem ggX2_filledCells_X2_isEmptyAt : GoodIn wsX2_filledCells wsX2_isEmptyAt := goodIn_r _ [5, 6, 7, 8, 9, 10, 11] (by decide +kernel) (by decide +kernel)
set_option maxRecDepth 20000 in
theorem gX2_filledCells_X2_isEmptyAt : GoodIn wsX2_filledCells (wsV RX2 47 RX2 yX2_isEmptyAt wsX2_isEmptyAt) := goodIn_app (goodIn_of _ (by decide +kernel)) ggX2_filledCells_X2_isEmptyAt
theorem dX2_filledCells_0 : decode cX2_filledCells 0 = .ok (.iconst 0, 1) := by decide +kernel
theorem dX2_filledCells_1 : decode cX2_filledCells 1 = .ok (.istore_n 1, 1) := by decide +kernel
theorem dX2_filledCells_2 : decode cX2_filledCells 2 = .ok (.iconst 0, 1) := by decide +kernel
theorem dX2_filledCells_3 : decode cX2_filledCells 3 = .ok (.istore_n 2, 1) := by decide +kernel
theorem dX2_filledCells_4 : decode cX2_filledCells 4 = .ok (.iload_n 2, 1) := by decide +kernel
theorem dX2_filledCells_5 : decode cX2_filledCells 5 = .ok (.sipush 800, 3) := by decide +kernel
theorem dX2_filledCells_8 : decode cX2_filledCells 8 = .ok (.if_icmp .ge 20, 3) := by decide +kernel
theorem dX2_filledCells_11 : decode cX2_filledCells 11 = .ok (.aload_n 0, 1) := by decide +kernel
theorem dX2_filledCells_12 : decode cX2_filledCells 12 = .ok (.iload_n 2, 1) := by decide +kernel
theorem dX2_filledCells_13 : decode cX2_filledCells 13 = .ok (.invokevirtual 47, 3) := by decide +kernel
theorem dX2_filledCells_16 : decode cX2_filledCells 16 = .ok (.ifCond .ne 6, 3) := by decide +kernel
theorem dX2_filledCells_19 : decode cX2_filledCells 19 = .ok (.iinc 1 1, 3) := by decide +kernel
theorem dX2_filledCells_22 : decode cX2_filledCells 22 = .ok (.iinc 2 1, 3) := by decide +kernel
theorem dX2_filledCells_25 : decode cX2_filledCells 25 = .ok (.goto (-21), 3) := by decide +kernel
theorem dX2_filledCells_28 : decode cX2_filledCells 28 = .ok (.iload_n 1, 1) := by decide +kernel
theorem dX2_filledCells_29 : decode cX2_filledCells 29 = .ok (.ireturn, 1) := by decide +kernel
