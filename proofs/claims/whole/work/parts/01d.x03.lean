set_option maxRecDepth 20000 in
theorem ggX0_init_X1_init : GoodIn wsX0_init wsX1_init := goodIn_r _ [11, 12, 2, 3, 13, 14, 15, 16, 17, 18, 19, 20, 21, 8, 22, 23, 24, 25, 26, 29, 30, 31, 32, 33] (by decide +kernel) (by decide +kernel)
set_option maxRecDepth 20000 in
theorem gX0_init_X1_init : GoodIn wsX0_init (wsX1_init) := ggX0_init_X1_init
theorem dX0_init_0 : decode cX0_init 0 = .ok (.aload_n 0, 1) := by decide +kernel
theorem dX0_init_1 : decode cX0_init 1 = .ok (.invokespecial 3, 3) := by decide +kernel
theorem dX0_init_4 : decode cX0_init 4 = .ok (.aload_n 0, 1) := by decide +kernel
theorem dX0_init_5 : decode cX0_init 5 = .ok (.iconst 0, 1) := by decide +kernel
theorem dX0_init_6 : decode cX0_init 6 = .ok (.putfield 9, 3) := by decide +kernel
theorem dX0_init_9 : decode cX0_init 9 = .ok (.aload_n 0, 1) := by decide +kernel
theorem dX0_init_10 : decode cX0_init 10 = .ok (.iconst 5, 1) := by decide +kernel
theorem dX0_init_11 : decode cX0_init 11 = .ok (.anewarray 15, 3) := by decide +kernel
theorem dX0_init_14 : decode cX0_init 14 = .ok (.putfield 17, 3) := by decide +kernel
theorem dX0_init_17 : decode cX0_init 17 = .ok (.iconst 0, 1) := by decide +kernel
theorem dX0_init_18 : decode cX0_init 18 = .ok (.istore_n 1, 1) := by decide +kernel
theorem dX0_init_19 : decode cX0_init 19 = .ok (.iload_n 1, 1) := by decide +kernel
theorem dX0_init_20 : decode cX0_init 20 = .ok (.iconst 5, 1) := by decide +kernel
theorem dX0_init_21 : decode cX0_init 21 = .ok (.if_icmp .ge 22, 3) := by decide +kernel
theorem dX0_init_24 : decode cX0_init 24 = .ok (.aload_n 0, 1) := by decide +kernel
theorem dX0_init_25 : decode cX0_init 25 = .ok (.getfield 17, 3) := by decide +kernel
theorem dX0_init_28 : decode cX0_init 28 = .ok (.iload_n 1, 1) := by decide +kernel
theorem dX0_init_29 : decode cX0_init 29 = .ok (.new 15, 3) := by decide +kernel
theorem dX0_init_32 : decode cX0_init 32 = .ok (.dup, 1) := by decide +kernel
theorem dX0_init_33 : decode cX0_init 33 = .ok (.invokespecial 21, 3) := by decide +kernel
theorem dX0_init_36 : decode cX0_init 36 = .ok (.aastore, 1) := by decide +kernel
theorem dX0_init_37 : decode cX0_init 37 = .ok (.iinc 1 1, 3) := by decide +kernel
theorem dX0_init_40 : decode cX0_init 40 = .ok (.goto (-21), 3) := by decide +kernel
theorem dX0_init_43 : decode cX0_init 43 = .ok (.return_, 1) := by decide +kernel
set_option maxRecDepth 20000 in
theorem ggX0_remember_X0_dropOldest : GoodIn wsX0_remember wsX0_dropOldest := goodIn_r _ [7, 2, 1, 22, 23] (by decide +kernel) (by decide +kernel)
set_option maxRecDepth 20000 in
theorem gX0_remember_X0_dropOldest : GoodIn wsX0_remember (wsV RX0 22 RX0 yX0_dropOldest wsX0_dropOldest) := goodIn_app (goodIn_of _ (by decide +kernel)) ggX0_remember_X0_dropOldest
set_option maxRecDepth 20000 in
theorem ggX0_remember_X1_copyFrom : GoodIn wsX0_remember wsX1_copyFrom := goodIn_r _ [12, 13, 14, 15, 16, 17, 18, 19, 20, 21, 24, 25, 26, 27, 28] (by decide +kernel) (by decide +kernel)
set_option maxRecDepth 20000 in
theorem gX0_remember_X1_copyFrom : GoodIn wsX0_remember (wsV RX0 25 RX1 yX1_copyFrom wsX1_copyFrom) := goodIn_app (goodIn_of _ (by decide +kernel)) ggX0_remember_X1_copyFrom
theorem dX0_remember_0 : decode cX0_remember 0 = .ok (.aload_n 0, 1) := by decide +kernel
theorem dX0_remember_1 : decode cX0_remember 1 = .ok (.getfield 9, 3) := by decide +kernel
theorem dX0_remember_4 : decode cX0_remember 4 = .ok (.iconst 5, 1) := by decide +kernel
theorem dX0_remember_5 : decode cX0_remember 5 = .ok (.if_icmp .lt 7, 3) := by decide +kernel
theorem dX0_remember_8 : decode cX0_remember 8 = .ok (.aload_n 0, 1) := by decide +kernel
theorem dX0_remember_9 : decode cX0_remember 9 = .ok (.invokevirtual 22, 3) := by decide +kernel
theorem dX0_remember_12 : decode cX0_remember 12 = .ok (.aload_n 0, 1) := by decide +kernel
theorem dX0_remember_13 : decode cX0_remember 13 = .ok (.getfield 9, 3) := by decide +kernel
theorem dX0_remember_16 : decode cX0_remember 16 = .ok (.ifCond .lt 26, 3) := by decide +kernel
theorem dX0_remember_19 : decode cX0_remember 19 = .ok (.aload_n 0, 1) := by decide +kernel
theorem dX0_remember_20 : decode cX0_remember 20 = .ok (.getfield 17, 3) := by decide +kernel
theorem dX0_remember_23 : decode cX0_remember 23 = .ok (.aload_n 0, 1) := by decide +kernel
theorem dX0_remember_24 : decode cX0_remember 24 = .ok (.getfield 9, 3) := by decide +kernel
theorem dX0_remember_27 : decode cX0_remember 27 = .ok (.aaload, 1) := by decide +kernel
theorem dX0_remember_28 : decode cX0_remember 28 = .ok (.aload_n 1, 1) := by decide +kernel
theorem dX0_remember_29 : decode cX0_remember 29 = .ok (.invokevirtual 25, 3) := by decide +kernel
theorem dX0_remember_32 : decode cX0_remember 32 = .ok (.aload_n 0, 1) := by decide +kernel
theorem dX0_remember_33 : decode cX0_remember 33 = .ok (.dup, 1) := by decide +kernel
theorem dX0_remember_34 : decode cX0_remember 34 = .ok (.getfield 9, 3) := by decide +kernel
theorem dX0_remember_37 : decode cX0_remember 37 = .ok (.iconst 1, 1) := by decide +kernel
theorem dX0_remember_38 : decode cX0_remember 38 = .ok (.iadd, 1) := by decide +kernel
theorem dX0_remember_39 : decode cX0_remember 39 = .ok (.putfield 9, 3) := by decide +kernel
theorem dX0_remember_42 : decode cX0_remember 42 = .ok (.return_, 1) := by decide +kernel
theorem dX0_dropOldest_0 : decode cX0_dropOldest 0 = .ok (.aload_n 0, 1) := by decide +kernel
theorem dX0_dropOldest_1 : decode cX0_dropOldest 1 = .ok (.getfield 17, 3) := by decide +kernel
theorem dX0_dropOldest_4 : decode cX0_dropOldest 4 = .ok (.iconst 0, 1) := by decide +kernel
theorem dX0_dropOldest_5 : decode cX0_dropOldest 5 = .ok (.aaload, 1) := by decide +kernel
theorem dX0_dropOldest_6 : decode cX0_dropOldest 6 = .ok (.astore_n 1, 1) := by decide +kernel
theorem dX0_dropOldest_7 : decode cX0_dropOldest 7 = .ok (.iconst 1, 1) := by decide +kernel
theorem dX0_dropOldest_8 : decode cX0_dropOldest 8 = .ok (.istore_n 2, 1) := by decide +kernel
theorem dX0_dropOldest_9 : decode cX0_dropOldest 9 = .ok (.iload_n 2, 1) := by decide +kernel
theorem dX0_dropOldest_10 : decode cX0_dropOldest 10 = .ok (.iconst 5, 1) := by decide +kernel
theorem dX0_dropOldest_11 : decode cX0_dropOldest 11 = .ok (.if_icmp .ge 23, 3) := by decide +kernel
theorem dX0_dropOldest_14 : decode cX0_dropOldest 14 = .ok (.aload_n 0, 1) := by decide +kernel
theorem dX0_dropOldest_15 : decode cX0_dropOldest 15 = .ok (.getfield 17, 3) := by decide +kernel
theorem dX0_dropOldest_18 : decode cX0_dropOldest 18 = .ok (.iload_n 2, 1) := by decide +kernel
theorem dX0_dropOldest_19 : decode cX0_dropOldest 19 = .ok (.iconst 1, 1) := by decide +kernel
theorem dX0_dropOldest_20 : decode cX0_dropOldest 20 = .ok (.isub, 1) := by decide +kernel
theorem dX0_dropOldest_21 : decode cX0_dropOldest 21 = .ok (.aload_n 0, 1) := by decide +kernel
theorem dX0_dropOldest_22 : decode cX0_dropOldest 22 = .ok (.getfield 17, 3) := by decide +kernel
theorem dX0_dropOldest_25 : decode cX0_dropOldest 25 = .ok (.iload_n 2, 1) := by decide +kernel
theorem dX0_dropOldest_26 : decode cX0_dropOldest 26 = .ok (.aaload, 1) := by decide +kernel
theorem dX0_dropOldest_27 : decode cX0_dropOldest 27 = .ok (.aastore, 1) := by decide +kernel
theorem dX0_dropOldest_28 : decode cX0_dropOldest 28 = .ok (.iinc 2 1, 3) := by decide +kernel
theorem dX0_dropOldest_31 : decode cX0_dropOldest 31 = .ok (.goto (-22), 3) := by decide +kernel
theorem dX0_dropOldest_34 : decode cX0_dropOldest 34 = .ok (.aload_n 0, 1) := by decide +kernel
theorem dX0_dropOldest_35 : decode cX0_dropOldest 35 = .ok (.getfield 17, 3) := by decide +kernel
theorem dX0_dropOldest_38 : decode cX0_dropOldest 38 = .ok (.iconst 4, 1) := by decide +kernel
theorem dX0_dropOldest_39 : decode cX0_dropOldest 39 = .ok (.aload_n 1, 1) := by decide +kernel
theorem dX0_dropOldest_40 : decode cX0_dropOldest 40 = .ok (.aastore, 1) := by decide +kernel
theorem dX0_dropOldest_41 : decode cX0_dropOldest 41 = .ok (.aload_n 0, 1) := by decide +kernel
theorem dX0_dropOldest_42 : decode cX0_dropOldest 42 = .ok (.iconst 4, 1) := by decide +kernel
theorem dX0_dropOldest_43 : decode cX0_dropOldest 43 = .ok (.putfield 9, 3) := by decide +kernel
theorem dX0_dropOldest_46 : decode cX0_dropOldest 46 = .ok (.return_, 1) := by decide +kernel
theorem dX0_takeLatest_0 : decode cX0_takeLatest 0 = .ok (.aload_n 0, 1) := by decide +kernel
theorem dX0_takeLatest_1 : decode cX0_takeLatest 1 = .ok (.getfield 9, 3) := by decide +kernel
theorem dX0_takeLatest_4 : decode cX0_takeLatest 4 = .ok (.ifCond .le 11, 3) := by decide +kernel
theorem dX0_takeLatest_7 : decode cX0_takeLatest 7 = .ok (.aload_n 0, 1) := by decide +kernel
theorem dX0_takeLatest_8 : decode cX0_takeLatest 8 = .ok (.getfield 9, 3) := by decide +kernel
theorem dX0_takeLatest_11 : decode cX0_takeLatest 11 = .ok (.iconst 5, 1) := by decide +kernel
theorem dX0_takeLatest_12 : decode cX0_takeLatest 12 = .ok (.if_icmp .le 5, 3) := by decide +kernel
theorem dX0_takeLatest_15 : decode cX0_takeLatest 15 = .ok (.aconst_null, 1) := by decide +kernel
theorem dX0_takeLatest_16 : decode cX0_takeLatest 16 = .ok (.areturn, 1) := by decide +kernel
theorem dX0_takeLatest_17 : decode cX0_takeLatest 17 = .ok (.aload_n 0, 1) := by decide +kernel
theorem dX0_takeLatest_18 : decode cX0_takeLatest 18 = .ok (.dup, 1) := by decide +kernel
theorem dX0_takeLatest_19 : decode cX0_takeLatest 19 = .ok (.getfield 9, 3) := by decide +kernel
theorem dX0_takeLatest_22 : decode cX0_takeLatest 22 = .ok (.iconst 1, 1) := by decide +kernel
theorem dX0_takeLatest_23 : decode cX0_takeLatest 23 = .ok (.isub, 1) := by decide +kernel
theorem dX0_takeLatest_24 : decode cX0_takeLatest 24 = .ok (.putfield 9, 3) := by decide +kernel
theorem dX0_takeLatest_27 : decode cX0_takeLatest 27 = .ok (.aload_n 0, 1) := by decide +kernel
theorem dX0_takeLatest_28 : decode cX0_takeLatest 28 = .ok (.getfield 17, 3) := by decide +kernel
theorem dX0_takeLatest_31 : decode cX0_takeLatest 31 = .ok (.aload_n 0, 1) := by decide +kernel
theorem dX0_takeLatest_32 : decode cX0_takeLatest 32 = .ok (.getfield 9, 3) := by decide +kernel
theorem dX0_takeLatest_35 : decode cX0_takeLatest 35 = .ok (.aaload, 1) := by decide +kernel
theorem dX0_takeLatest_36 : decode cX0_takeLatest 36 = .ok (.areturn, 1) := by decide +kernel
set_option maxRecDepth 20000 in
theorem ggX3_init_X1_init : GoodIn wsX3_init wsX1_init := goodIn_r _ [14, 15, 2, 3, 16, 17, 18, 19, 20, 21, 22, 23, 24, 6, 25, 26, 27, 28, 29, 41, 42, 43, 44, 45] (by decide +kernel) (by decide +kernel)
set_option maxRecDepth 20000 in
theorem gX3_init_X1_init : GoodIn wsX3_init (wsX1_init) := ggX3_init_X1_init
set_option maxRecDepth 20000 in
theorem ggX3_init_X2_init : GoodIn wsX3_init wsX2_init := goodIn_r _ [32, 33, 2, 3, 17, 34, 35, 36, 37, 38, 10, 39, 40, 27, 28, 29, 48, 49] (by decide +kernel) (by decide +kernel)
set_option maxRecDepth 20000 in
theorem gX3_init_X2_init : GoodIn wsX3_init (wsX2_init) := ggX3_init_X2_init
theorem dX3_init_0 : decode cX3_init 0 = .ok (.aload_n 0, 1) := by decide +kernel
theorem dX3_init_1 : decode cX3_init 1 = .ok (.invokespecial 3, 3) := by decide +kernel
theorem dX3_init_4 : decode cX3_init 4 = .ok (.aload_n 0, 1) := by decide +kernel
theorem dX3_init_5 : decode cX3_init 5 = .ok (.new 9, 3) := by decide +kernel
theorem dX3_init_8 : decode cX3_init 8 = .ok (.dup, 1) := by decide +kernel
theorem dX3_init_9 : decode cX3_init 9 = .ok (.invokespecial 11, 3) := by decide +kernel
theorem dX3_init_12 : decode cX3_init 12 = .ok (.putfield 12, 3) := by decide +kernel
theorem dX3_init_15 : decode cX3_init 15 = .ok (.aload_n 0, 1) := by decide +kernel
theorem dX3_init_16 : decode cX3_init 16 = .ok (.new 18, 3) := by decide +kernel
theorem dX3_init_19 : decode cX3_init 19 = .ok (.dup, 1) := by decide +kernel
theorem dX3_init_20 : decode cX3_init 20 = .ok (.invokespecial 20, 3) := by decide +kernel
theorem dX3_init_23 : decode cX3_init 23 = .ok (.putfield 21, 3) := by decide +kernel
theorem dX3_init_26 : decode cX3_init 26 = .ok (.return_, 1) := by decide +kernel
set_option maxRecDepth 20000 in
theorem ggX3_restore_X1_copyFrom : GoodIn wsX3_restore wsX1_copyFrom := goodIn_r _ [8, 9, 10, 11, 12, 13, 14, 15, 16, 17, 61, 62, 63, 64, 65] (by decide +kernel) (by decide +kernel)
set_option maxRecDepth 20000 in
theorem gX3_restore_X1_copyFrom : GoodIn wsX3_restore (wsV RX3 25 RX1 yX1_copyFrom wsX1_copyFrom) := goodIn_app (goodIn_of _ (by decide +kernel)) ggX3_restore_X1_copyFrom
set_option maxRecDepth 20000 in
theorem ggX3_restore_X2_emptyAll : GoodIn wsX3_restore wsX2_emptyAll := goodIn_r _ [22, 23, 24, 25, 26, 27, 28, 66, 67] (by decide +kernel) (by decide +kernel)
set_option maxRecDepth 20000 in
theorem gX3_restore_X2_emptyAll : GoodIn wsX3_restore (wsV RX3 29 RX2 yX2_emptyAll wsX2_emptyAll) := goodIn_app (goodIn_of _ (by decide +kernel)) ggX3_restore_X2_emptyAll
set_option maxRecDepth 20000 in
theorem ggX3_restore_X3_fillCellsOf : GoodIn wsX3_restore wsX3_fillCellsOf := goodIn_r _ [33, 1, 2, 34, 35, 36, 7, 37, 16, 38, 39, 40, 41, 42, 43, 44, 17, 45, 46, 47, 48, 15, 10, 49, 50, 51, 52, 53, 54, 55, 21, 56, 23, 24, 57, 58, 59, 60, 61, 62, 63, 64, 65, 66, 67] (by decide +kernel) (by decide +kernel)
set_option maxRecDepth 20000 in
theorem gX3_restore_X3_fillCellsOf : GoodIn wsX3_restore (wsV RX3 36 RX3 yX3_fillCellsOf wsX3_fillCellsOf) := goodIn_app (goodIn_of _ (by decide +kernel)) ggX3_restore_X3_fillCellsOf
theorem dX3_restore_0 : decode cX3_restore 0 = .ok (.aload_n 0, 1) := by decide +kernel
theorem dX3_restore_1 : decode cX3_restore 1 = .ok (.getfield 12, 3) := by decide +kernel
theorem dX3_restore_4 : decode cX3_restore 4 = .ok (.aload_n 1, 1) := by decide +kernel
theorem dX3_restore_5 : decode cX3_restore 5 = .ok (.invokevirtual 25, 3) := by decide +kernel
theorem dX3_restore_8 : decode cX3_restore 8 = .ok (.aload_n 0, 1) := by decide +kernel
theorem dX3_restore_9 : decode cX3_restore 9 = .ok (.getfield 21, 3) := by decide +kernel
theorem dX3_restore_12 : decode cX3_restore 12 = .ok (.invokevirtual 29, 3) := by decide +kernel
theorem dX3_restore_15 : decode cX3_restore 15 = .ok (.iconst 0, 1) := by decide +kernel
theorem dX3_restore_16 : decode cX3_restore 16 = .ok (.istore_n 2, 1) := by decide +kernel
theorem dX3_restore_17 : decode cX3_restore 17 = .ok (.iload_n 2, 1) := by decide +kernel
theorem dX3_restore_18 : decode cX3_restore 18 = .ok (.aload_n 0, 1) := by decide +kernel
theorem dX3_restore_19 : decode cX3_restore 19 = .ok (.getfield 12, 3) := by decide +kernel
theorem dX3_restore_22 : decode cX3_restore 22 = .ok (.getfield 32, 3) := by decide +kernel
theorem dX3_restore_25 : decode cX3_restore 25 = .ok (.if_icmp .ge 14, 3) := by decide +kernel
theorem dX3_restore_28 : decode cX3_restore 28 = .ok (.aload_n 0, 1) := by decide +kernel
theorem dX3_restore_29 : decode cX3_restore 29 = .ok (.iload_n 2, 1) := by decide +kernel
theorem dX3_restore_30 : decode cX3_restore 30 = .ok (.invokevirtual 36, 3) := by decide +kernel
theorem dX3_restore_33 : decode cX3_restore 33 = .ok (.iinc 2 1, 3) := by decide +kernel
theorem dX3_restore_36 : decode cX3_restore 36 = .ok (.goto (-19), 3) := by decide +kernel
theorem dX3_restore_39 : decode cX3_restore 39 = .ok (.return_, 1) := by decide +kernel
set_option maxRecDepth 20000 in
theorem ggX3_fillCellsOf_X1_formOf : GoodIn wsX3_fillCellsOf wsX1_formOf := goodIn_r _ [7, 8, 9, 10, 11, 38, 39, 40, 41, 42] (by decide +kernel) (by decide +kernel)
set_option maxRecDepth 20000 in
theorem gX3_fillCellsOf_X1_formOf : GoodIn wsX3_fillCellsOf (wsV RX3 40 RX1 yX1_formOf wsX1_formOf) := goodIn_app (goodIn_of _ (by decide +kernel)) ggX3_fillCellsOf_X1_formOf
set_option maxRecDepth 20000 in
theorem ggX3_fillCellsOf_X1_shiftOf : GoodIn wsX3_fillCellsOf wsX1_shiftOf := goodIn_r _ [15, 16, 9, 10, 11, 38, 39, 40, 41, 42] (by decide +kernel) (by decide +kernel)
set_option maxRecDepth 20000 in
theorem gX3_fillCellsOf_X1_shiftOf : GoodIn wsX3_fillCellsOf (wsV RX3 44 RX1 yX1_shiftOf wsX1_shiftOf) := goodIn_app (goodIn_of _ (by decide +kernel)) ggX3_fillCellsOf_X1_shiftOf
set_option maxRecDepth 20000 in
theorem ggX3_fillCellsOf_X1_isEntry : GoodIn wsX3_fillCellsOf wsX1_isEntry := goodIn_r _ [20, 21, 22, 9, 10, 11, 38, 39, 40, 41, 42] (by decide +kernel) (by decide +kernel)
set_option maxRecDepth 20000 in
theorem gX3_fillCellsOf_X1_isEntry : GoodIn wsX3_fillCellsOf (wsV RX3 47 RX1 yX1_isEntry wsX1_isEntry) := goodIn_app (goodIn_of _ (by decide +kernel)) ggX3_fillCellsOf_X1_isEntry
set_option maxRecDepth 20000 in
theorem ggX3_fillCellsOf_X1_valueAt : GoodIn wsX3_fillCellsOf wsX1_valueAt := goodIn_r _ [26, 21, 9, 10, 11, 38, 39, 40, 41, 42] (by decide +kernel) (by decide +kernel)
set_option maxRecDepth 20000 in
theorem gX3_fillCellsOf_X1_valueAt : GoodIn wsX3_fillCellsOf (wsV RX3 51 RX1 yX1_valueAt wsX1_valueAt) := goodIn_app (goodIn_of _ (by decide +kernel)) ggX3_fillCellsOf_X1_valueAt
set_option maxRecDepth 20000 in
theorem ggX3_fillCellsOf_X2_fillCell : GoodIn wsX3_fillCellsOf wsX2_fillCell := goodIn_r _ [31, 32, 33, 34, 10, 35, 43, 44] (by decide +kernel) (by decide +kernel)
set_option maxRecDepth 20000 in
theorem gX3_fillCellsOf_X2_fillCell : GoodIn wsX3_fillCellsOf (wsV RX3 55 RX2 yX2_fillCell wsX2_fillCell) := goodIn_app (goodIn_of _ (by decide +kernel)) ggX3_fillCellsOf_X2_fillCell
theorem dX3_fillCellsOf_0 : decode cX3_fillCellsOf 0 = .ok (.aload_n 0, 1) := by decide +kernel
theorem dX3_fillCellsOf_1 : decode cX3_fillCellsOf 1 = .ok (.getfield 12, 3) := by decide +kernel
theorem dX3_fillCellsOf_4 : decode cX3_fillCellsOf 4 = .ok (.iload_n 1, 1) := by decide +kernel
theorem dX3_fillCellsOf_5 : decode cX3_fillCellsOf 5 = .ok (.invokevirtual 40, 3) := by decide +kernel
theorem dX3_fillCellsOf_8 : decode cX3_fillCellsOf 8 = .ok (.istore_n 2, 1) := by decide +kernel
theorem dX3_fillCellsOf_9 : decode cX3_fillCellsOf 9 = .ok (.aload_n 0, 1) := by decide +kernel
theorem dX3_fillCellsOf_10 : decode cX3_fillCellsOf 10 = .ok (.getfield 12, 3) := by decide +kernel
theorem dX3_fillCellsOf_13 : decode cX3_fillCellsOf 13 = .ok (.iload_n 2, 1) := by decide +kernel
theorem dX3_fillCellsOf_14 : decode cX3_fillCellsOf 14 = .ok (.invokevirtual 44, 3) := by decide +kernel
theorem dX3_fillCellsOf_17 : decode cX3_fillCellsOf 17 = .ok (.istore_n 3, 1) := by decide +kernel
theorem dX3_fillCellsOf_18 : decode cX3_fillCellsOf 18 = .ok (.iload_n 3, 1) := by decide +kernel
theorem dX3_fillCellsOf_19 : decode cX3_fillCellsOf 19 = .ok (.bipush (-9), 2) := by decide +kernel
theorem dX3_fillCellsOf_21 : decode cX3_fillCellsOf 21 = .ok (.if_icmp .ne 4, 3) := by decide +kernel
theorem dX3_fillCellsOf_24 : decode cX3_fillCellsOf 24 = .ok (.return_, 1) := by decide +kernel
theorem dX3_fillCellsOf_25 : decode cX3_fillCellsOf 25 = .ok (.iconst 0, 1) := by decide +kernel
theorem dX3_fillCellsOf_26 : decode cX3_fillCellsOf 26 = .ok (.istore 4, 2) := by decide +kernel
theorem dX3_fillCellsOf_28 : decode cX3_fillCellsOf 28 = .ok (.iload 4, 2) := by decide +kernel
theorem dX3_fillCellsOf_30 : decode cX3_fillCellsOf 30 = .ok (.bipush 16, 2) := by decide +kernel
theorem dX3_fillCellsOf_32 : decode cX3_fillCellsOf 32 = .ok (.if_icmp .ge 44, 3) := by decide +kernel
theorem dX3_fillCellsOf_35 : decode cX3_fillCellsOf 35 = .ok (.aload_n 0, 1) := by decide +kernel
theorem dX3_fillCellsOf_36 : decode cX3_fillCellsOf 36 = .ok (.getfield 12, 3) := by decide +kernel
theorem dX3_fillCellsOf_39 : decode cX3_fillCellsOf 39 = .ok (.iload_n 1, 1) := by decide +kernel
theorem dX3_fillCellsOf_40 : decode cX3_fillCellsOf 40 = .ok (.iload 4, 2) := by decide +kernel
theorem dX3_fillCellsOf_42 : decode cX3_fillCellsOf 42 = .ok (.invokevirtual 47, 3) := by decide +kernel
theorem dX3_fillCellsOf_45 : decode cX3_fillCellsOf 45 = .ok (.ifCond .eq 25, 3) := by decide +kernel
theorem dX3_fillCellsOf_48 : decode cX3_fillCellsOf 48 = .ok (.aload_n 0, 1) := by decide +kernel
theorem dX3_fillCellsOf_49 : decode cX3_fillCellsOf 49 = .ok (.getfield 21, 3) := by decide +kernel
theorem dX3_fillCellsOf_52 : decode cX3_fillCellsOf 52 = .ok (.iload_n 3, 1) := by decide +kernel
theorem dX3_fillCellsOf_53 : decode cX3_fillCellsOf 53 = .ok (.iload 4, 2) := by decide +kernel
theorem dX3_fillCellsOf_55 : decode cX3_fillCellsOf 55 = .ok (.iadd, 1) := by decide +kernel
theorem dX3_fillCellsOf_56 : decode cX3_fillCellsOf 56 = .ok (.aload_n 0, 1) := by decide +kernel
theorem dX3_fillCellsOf_57 : decode cX3_fillCellsOf 57 = .ok (.getfield 12, 3) := by decide +kernel
theorem dX3_fillCellsOf_60 : decode cX3_fillCellsOf 60 = .ok (.iload_n 1, 1) := by decide +kernel
theorem dX3_fillCellsOf_61 : decode cX3_fillCellsOf 61 = .ok (.iload 4, 2) := by decide +kernel
theorem dX3_fillCellsOf_63 : decode cX3_fillCellsOf 63 = .ok (.invokevirtual 51, 3) := by decide +kernel
theorem dX3_fillCellsOf_66 : decode cX3_fillCellsOf 66 = .ok (.iload_n 2, 1) := by decide +kernel
theorem dX3_fillCellsOf_67 : decode cX3_fillCellsOf 67 = .ok (.invokevirtual 55, 3) := by decide +kernel
theorem dX3_fillCellsOf_70 : decode cX3_fillCellsOf 70 = .ok (.iinc 4 1, 3) := by decide +kernel
theorem dX3_fillCellsOf_73 : decode cX3_fillCellsOf 73 = .ok (.goto (-45), 3) := by decide +kernel
theorem dX3_fillCellsOf_76 : decode cX3_fillCellsOf 76 = .ok (.return_, 1) := by decide +kernel
set_option maxRecDepth 20000 in
theorem ggX3_settle_X1_formOf : GoodIn wsX3_settle wsX1_formOf := goodIn_r _ [6, 7, 8, 9, 10, 105, 106, 107, 108, 109] (by decide +kernel) (by decide +kernel)
set_option maxRecDepth 20000 in
theorem gX3_settle_X1_formOf : GoodIn wsX3_settle (wsV RX3 40 RX1 yX1_formOf wsX1_formOf) := goodIn_app (goodIn_of _ (by decide +kernel)) ggX3_settle_X1_formOf
set_option maxRecDepth 20000 in
theorem ggX3_settle_X3_hasEntriesOf : GoodIn wsX3_settle wsX3_hasEntriesOf := goodIn_r _ [15, 1, 16, 17, 18, 19, 5, 20, 21, 8, 9, 10, 22, 23, 24, 25, 26, 27, 28, 29, 30, 31, 32, 33, 34, 35, 36, 37, 38, 39, 40, 41, 42, 103, 104, 105, 106, 107, 108, 109, 110, 111] (by decide +kernel) (by decide +kernel)
set_option maxRecDepth 20000 in
theorem gX3_settle_X3_hasEntriesOf : GoodIn wsX3_settle (wsV RX3 59 RX3 yX3_hasEntriesOf wsX3_hasEntriesOf) := goodIn_app (goodIn_of _ (by decide +kernel)) ggX3_settle_X3_hasEntriesOf
set_option maxRecDepth 20000 in
theorem ggX3_settle_X3_leaveForm : GoodIn wsX3_settle wsX3_leaveForm := goodIn_r _ [46, 1, 16, 2, 3, 4, 5, 6, 7, 8, 9, 10, 17, 18, 19, 20, 21, 47, 48, 49, 50, 51, 52, 53, 54, 55, 56, 57, 58, 59, 60, 61, 25, 62, 63, 23, 24, 26, 27, 64, 65, 66, 67, 38, 68, 69, 70, 71, 103, 104, 105, 106, 107, 108, 109, 110, 111] (by decide +kernel) (by decide +kernel)
set_option maxRecDepth 20000 in
theorem gX3_settle_X3_leaveForm : GoodIn wsX3_settle (wsV RX3 62 RX3 yX3_leaveForm wsX3_leaveForm) := goodIn_app (goodIn_of _ (by decide +kernel)) ggX3_settle_X3_leaveForm
set_option maxRecDepth 20000 in
theorem ggX3_settle_X1_columnsOf : GoodIn wsX3_settle wsX1_columnsOf := goodIn_r _ [75, 76, 29, 30, 5, 31, 32, 33, 8, 9, 10, 105, 106, 107, 108, 109] (by decide +kernel) (by decide +kernel)
set_option maxRecDepth 20000 in
theorem gX3_settle_X1_columnsOf : GoodIn wsX3_settle (wsV RX3 65 RX1 yX1_columnsOf wsX1_columnsOf) := goodIn_app (goodIn_of _ (by decide +kernel)) ggX3_settle_X1_columnsOf
set_option maxRecDepth 20000 in
theorem ggX3_settle_X3_formWithEntriesOf : GoodIn wsX3_settle wsX3_formWithEntriesOf := goodIn_r _ [80, 11, 12, 13, 14, 15, 1, 16, 17, 18, 19, 5, 20, 21, 8, 9, 10, 22, 23, 24, 25, 26, 27, 28, 29, 30, 31, 32, 33, 34, 35, 36, 37, 38, 39, 40, 41, 42, 103, 104, 105, 106, 107, 108, 109, 110, 111] (by decide +kernel) (by decide +kernel)
set_option maxRecDepth 20000 in
theorem gX3_settle_X3_formWithEntriesOf : GoodIn wsX3_settle (wsV RX3 68 RX3 yX3_formWithEntriesOf wsX3_formWithEntriesOf) := goodIn_app (goodIn_of _ (by decide +kernel)) ggX3_settle_X3_formWithEntriesOf
set_option maxRecDepth 20000 in
theorem ggX3_settle_X3_pushNewForm : GoodIn wsX3_settle wsX3_pushNewForm := goodIn_r _ [84, 1, 16, 85, 86, 87, 5, 88, 89, 18, 19, 20, 21, 8, 9, 10, 90, 91, 92, 25, 93, 94, 95, 96, 97, 27, 47, 48, 49, 50, 7, 51, 52, 68, 69, 70, 71, 98, 99, 100, 14, 101, 2, 3, 4, 6, 17, 28, 29, 30, 31, 32, 33, 39, 40, 41, 42, 102, 65, 66, 67, 38, 103, 104, 105, 106, 107, 108, 109, 110, 111] (by decide +kernel) (by decide +kernel)
set_option maxRecDepth 20000 in
theorem gX3_settle_X3_pushNewForm : GoodIn wsX3_settle (wsV RX3 71 RX3 yX3_pushNewForm wsX3_pushNewForm) := goodIn_app (goodIn_of _ (by decide +kernel)) ggX3_settle_X3_pushNewForm
set_option maxRecDepth 20000 in
theorem ggX3_settle_X1_giveForm : GoodIn wsX3_settle wsX1_giveForm := goodIn_r _ [50, 7, 51, 9, 52, 105, 106, 107, 108, 109] (by decide +kernel) (by decide +kernel)
set_option maxRecDepth 20000 in
theorem gX3_settle_X1_giveForm : GoodIn wsX3_settle (wsV RX3 75 RX1 yX1_giveForm wsX1_giveForm) := goodIn_app (goodIn_of _ (by decide +kernel)) ggX3_settle_X1_giveForm
theorem dX3_settle_0 : decode cX3_settle 0 = .ok (.aload_n 0, 1) := by decide +kernel
theorem dX3_settle_1 : decode cX3_settle 1 = .ok (.aload_n 0, 1) := by decide +kernel
theorem dX3_settle_2 : decode cX3_settle 2 = .ok (.getfield 12, 3) := by decide +kernel
theorem dX3_settle_5 : decode cX3_settle 5 = .ok (.iload_n 1, 1) := by decide +kernel
theorem dX3_settle_6 : decode cX3_settle 6 = .ok (.invokevirtual 40, 3) := by decide +kernel
theorem dX3_settle_9 : decode cX3_settle 9 = .ok (.iload_n 1, 1) := by decide +kernel
theorem dX3_settle_10 : decode cX3_settle 10 = .ok (.invokevirtual 59, 3) := by decide +kernel
theorem dX3_settle_13 : decode cX3_settle 13 = .ok (.ifCond .eq 4, 3) := by decide +kernel
theorem dX3_settle_16 : decode cX3_settle 16 = .ok (.return_, 1) := by decide +kernel
theorem dX3_settle_17 : decode cX3_settle 17 = .ok (.aload_n 0, 1) := by decide +kernel
theorem dX3_settle_18 : decode cX3_settle 18 = .ok (.iload_n 1, 1) := by decide +kernel
theorem dX3_settle_19 : decode cX3_settle 19 = .ok (.invokevirtual 62, 3) := by decide +kernel
theorem dX3_settle_22 : decode cX3_settle 22 = .ok (.aload_n 0, 1) := by decide +kernel
theorem dX3_settle_23 : decode cX3_settle 23 = .ok (.getfield 12, 3) := by decide +kernel
theorem dX3_settle_26 : decode cX3_settle 26 = .ok (.iload_n 1, 1) := by decide +kernel
theorem dX3_settle_27 : decode cX3_settle 27 = .ok (.invokevirtual 65, 3) := by decide +kernel
theorem dX3_settle_30 : decode cX3_settle 30 = .ok (.istore_n 2, 1) := by decide +kernel
theorem dX3_settle_31 : decode cX3_settle 31 = .ok (.iload_n 2, 1) := by decide +kernel
theorem dX3_settle_32 : decode cX3_settle 32 = .ok (.ifCond .ne 4, 3) := by decide +kernel
theorem dX3_settle_35 : decode cX3_settle 35 = .ok (.return_, 1) := by decide +kernel
theorem dX3_settle_36 : decode cX3_settle 36 = .ok (.aload_n 0, 1) := by decide +kernel
theorem dX3_settle_37 : decode cX3_settle 37 = .ok (.iload_n 1, 1) := by decide +kernel
theorem dX3_settle_38 : decode cX3_settle 38 = .ok (.invokevirtual 68, 3) := by decide +kernel
theorem dX3_settle_41 : decode cX3_settle 41 = .ok (.istore_n 3, 1) := by decide +kernel
theorem dX3_settle_42 : decode cX3_settle 42 = .ok (.iload_n 3, 1) := by decide +kernel
theorem dX3_settle_43 : decode cX3_settle 43 = .ok (.bipush (-9), 2) := by decide +kernel
theorem dX3_settle_45 : decode cX3_settle 45 = .ok (.if_icmp .ne 12, 3) := by decide +kernel
theorem dX3_settle_48 : decode cX3_settle 48 = .ok (.aload_n 0, 1) := by decide +kernel
theorem dX3_settle_49 : decode cX3_settle 49 = .ok (.iload_n 1, 1) := by decide +kernel
theorem dX3_settle_50 : decode cX3_settle 50 = .ok (.iload_n 2, 1) := by decide +kernel
theorem dX3_settle_51 : decode cX3_settle 51 = .ok (.invokevirtual 71, 3) := by decide +kernel
theorem dX3_settle_54 : decode cX3_settle 54 = .ok (.goto 12, 3) := by decide +kernel
theorem dX3_settle_57 : decode cX3_settle 57 = .ok (.aload_n 0, 1) := by decide +kernel
theorem dX3_settle_58 : decode cX3_settle 58 = .ok (.getfield 12, 3) := by decide +kernel
theorem dX3_settle_61 : decode cX3_settle 61 = .ok (.iload_n 1, 1) := by decide +kernel
theorem dX3_settle_62 : decode cX3_settle 62 = .ok (.iload_n 3, 1) := by decide +kernel
theorem dX3_settle_63 : decode cX3_settle 63 = .ok (.invokevirtual 75, 3) := by decide +kernel
theorem dX3_settle_66 : decode cX3_settle 66 = .ok (.return_, 1) := by decide +kernel
set_option maxRecDepth 20000 in
theorem ggX3_leaveForm_X1_formOf : GoodIn wsX3_leaveForm wsX1_formOf := goodIn_r _ [7, 8, 9, 10, 11, 50, 51, 52, 53, 54] (by decide +kernel) (by decide +kernel)
set_option maxRecDepth 20000 in
theorem gX3_leaveForm_X1_formOf : GoodIn wsX3_leaveForm (wsV RX3 40 RX1 yX1_formOf wsX1_formOf) := goodIn_app (goodIn_of _ (by decide +kernel)) ggX3_leaveForm_X1_formOf
set_option maxRecDepth 20000 in
theorem ggX3_leaveForm_X1_shiftOf : GoodIn wsX3_leaveForm wsX1_shiftOf := goodIn_r _ [15, 16, 9, 10, 11, 50, 51, 52, 53, 54] (by decide +kernel) (by decide +kernel)
set_option maxRecDepth 20000 in
theorem gX3_leaveForm_X1_shiftOf : GoodIn wsX3_leaveForm (wsV RX3 44 RX1 yX1_shiftOf wsX1_shiftOf) := goodIn_app (goodIn_of _ (by decide +kernel)) ggX3_leaveForm_X1_shiftOf
set_option maxRecDepth 20000 in
theorem ggX3_leaveForm_X1_giveForm : GoodIn wsX3_leaveForm wsX1_giveForm := goodIn_r _ [20, 8, 21, 10, 22, 50, 51, 52, 53, 54] (by decide +kernel) (by decide +kernel)
set_option maxRecDepth 20000 in
theorem gX3_leaveForm_X1_giveForm : GoodIn wsX3_leaveForm (wsV RX3 75 RX1 yX1_giveForm wsX1_giveForm) := goodIn_app (goodIn_of _ (by decide +kernel)) ggX3_leaveForm_X1_giveForm
set_option maxRecDepth 20000 in
theorem ggX3_leaveForm_X1_sharersOf : GoodIn wsX3_leaveForm wsX1_sharersOf := goodIn_r _ [26, 27, 28, 4, 5, 6, 7, 8, 9, 10, 11, 50, 51, 52, 53, 54] (by decide +kernel) (by decide +kernel)
set_option maxRecDepth 20000 in
theorem gX3_leaveForm_X1_sharersOf : GoodIn wsX3_leaveForm (wsV RX3 78 RX1 yX1_sharersOf wsX1_sharersOf) := goodIn_app (goodIn_of _ (by decide +kernel)) ggX3_leaveForm_X1_sharersOf
set_option maxRecDepth 20000 in
theorem ggX3_leaveForm_X2_takeOut : GoodIn wsX3_leaveForm wsX2_takeOut := goodIn_r _ [33, 34, 35, 36, 32, 37, 38, 9, 10, 11, 39, 40, 41, 42, 43, 21, 22, 55, 56] (by decide +kernel) (by decide +kernel)
set_option maxRecDepth 20000 in
theorem gX3_leaveForm_X2_takeOut : GoodIn wsX3_leaveForm (wsV RX3 81 RX2 yX2_takeOut wsX2_takeOut) := goodIn_app (goodIn_of _ (by decide +kernel)) ggX3_leaveForm_X2_takeOut
set_option maxRecDepth 20000 in
theorem ggX3_leaveForm_X1_changeShift : GoodIn wsX3_leaveForm wsX1_changeShift := goodIn_r _ [47, 16, 21, 10, 22, 50, 51, 52, 53, 54] (by decide +kernel) (by decide +kernel)
set_option maxRecDepth 20000 in
theorem gX3_leaveForm_X1_changeShift : GoodIn wsX3_leaveForm (wsV RX3 84 RX1 yX1_changeShift wsX1_changeShift) := goodIn_app (goodIn_of _ (by decide +kernel)) ggX3_leaveForm_X1_changeShift
theorem dX3_leaveForm_0 : decode cX3_leaveForm 0 = .ok (.aload_n 0, 1) := by decide +kernel
theorem dX3_leaveForm_1 : decode cX3_leaveForm 1 = .ok (.getfield 12, 3) := by decide +kernel
theorem dX3_leaveForm_4 : decode cX3_leaveForm 4 = .ok (.iload_n 1, 1) := by decide +kernel
theorem dX3_leaveForm_5 : decode cX3_leaveForm 5 = .ok (.invokevirtual 40, 3) := by decide +kernel
theorem dX3_leaveForm_8 : decode cX3_leaveForm 8 = .ok (.istore_n 2, 1) := by decide +kernel
theorem dX3_leaveForm_9 : decode cX3_leaveForm 9 = .ok (.aload_n 0, 1) := by decide +kernel
theorem dX3_leaveForm_10 : decode cX3_leaveForm 10 = .ok (.getfield 12, 3) := by decide +kernel
theorem dX3_leaveForm_13 : decode cX3_leaveForm 13 = .ok (.iload_n 2, 1) := by decide +kernel
theorem dX3_leaveForm_14 : decode cX3_leaveForm 14 = .ok (.invokevirtual 44, 3) := by decide +kernel
theorem dX3_leaveForm_17 : decode cX3_leaveForm 17 = .ok (.istore_n 3, 1) := by decide +kernel
theorem dX3_leaveForm_18 : decode cX3_leaveForm 18 = .ok (.aload_n 0, 1) := by decide +kernel
theorem dX3_leaveForm_19 : decode cX3_leaveForm 19 = .ok (.getfield 12, 3) := by decide +kernel
theorem dX3_leaveForm_22 : decode cX3_leaveForm 22 = .ok (.iload_n 1, 1) := by decide +kernel
theorem dX3_leaveForm_23 : decode cX3_leaveForm 23 = .ok (.bipush (-9), 2) := by decide +kernel
theorem dX3_leaveForm_25 : decode cX3_leaveForm 25 = .ok (.invokevirtual 75, 3) := by decide +kernel
theorem dX3_leaveForm_28 : decode cX3_leaveForm 28 = .ok (.iload_n 3, 1) := by decide +kernel
theorem dX3_leaveForm_29 : decode cX3_leaveForm 29 = .ok (.bipush (-9), 2) := by decide +kernel
theorem dX3_leaveForm_31 : decode cX3_leaveForm 31 = .ok (.if_icmp .eq 33, 3) := by decide +kernel
theorem dX3_leaveForm_34 : decode cX3_leaveForm 34 = .ok (.aload_n 0, 1) := by decide +kernel
theorem dX3_leaveForm_35 : decode cX3_leaveForm 35 = .ok (.getfield 12, 3) := by decide +kernel
theorem dX3_leaveForm_38 : decode cX3_leaveForm 38 = .ok (.iload_n 2, 1) := by decide +kernel
theorem dX3_leaveForm_39 : decode cX3_leaveForm 39 = .ok (.invokevirtual 78, 3) := by decide +kernel
theorem dX3_leaveForm_42 : decode cX3_leaveForm 42 = .ok (.ifCond .ne 22, 3) := by decide +kernel
theorem dX3_leaveForm_45 : decode cX3_leaveForm 45 = .ok (.aload_n 0, 1) := by decide +kernel
theorem dX3_leaveForm_46 : decode cX3_leaveForm 46 = .ok (.getfield 21, 3) := by decide +kernel
theorem dX3_leaveForm_49 : decode cX3_leaveForm 49 = .ok (.iload_n 2, 1) := by decide +kernel
theorem dX3_leaveForm_50 : decode cX3_leaveForm 50 = .ok (.iload_n 3, 1) := by decide +kernel
theorem dX3_leaveForm_51 : decode cX3_leaveForm 51 = .ok (.invokevirtual 81, 3) := by decide +kernel
theorem dX3_leaveForm_54 : decode cX3_leaveForm 54 = .ok (.aload_n 0, 1) := by decide +kernel
theorem dX3_leaveForm_55 : decode cX3_leaveForm 55 = .ok (.getfield 12, 3) := by decide +kernel
theorem dX3_leaveForm_58 : decode cX3_leaveForm 58 = .ok (.iload_n 2, 1) := by decide +kernel
theorem dX3_leaveForm_59 : decode cX3_leaveForm 59 = .ok (.bipush (-9), 2) := by decide +kernel
theorem dX3_leaveForm_61 : decode cX3_leaveForm 61 = .ok (.invokevirtual 84, 3) := by decide +kernel
theorem dX3_leaveForm_64 : decode cX3_leaveForm 64 = .ok (.return_, 1) := by decide +kernel
set_option maxRecDepth 20000 in
theorem ggX3_formWithEntriesOf_X3_hasEntriesOf : GoodIn wsX3_formWithEntriesOf wsX3_hasEntriesOf := goodIn_r _ [5, 6, 7, 8, 9, 10, 11, 12, 13, 14, 15, 16, 17, 18, 19, 20, 21, 22, 23, 24, 25, 26, 27, 28, 29, 30, 31, 32, 33, 34, 35, 36, 37, 38, 39, 40, 41, 42, 43, 44, 45, 46] (by decide +kernel) (by decide +kernel)
set_option maxRecDepth 20000 in
theorem gX3_formWithEntriesOf_X3_hasEntriesOf : GoodIn wsX3_formWithEntriesOf (wsV RX3 59 RX3 yX3_hasEntriesOf wsX3_hasEntriesOf) := goodIn_app (goodIn_of _ (by decide +kernel)) ggX3_formWithEntriesOf_X3_hasEntriesOf
theorem dX3_formWithEntriesOf_0 : decode cX3_formWithEntriesOf 0 = .ok (.iconst 0, 1) := by decide +kernel
theorem dX3_formWithEntriesOf_1 : decode cX3_formWithEntriesOf 1 = .ok (.istore_n 2, 1) := by decide +kernel
theorem dX3_formWithEntriesOf_2 : decode cX3_formWithEntriesOf 2 = .ok (.iload_n 2, 1) := by decide +kernel
theorem dX3_formWithEntriesOf_3 : decode cX3_formWithEntriesOf 3 = .ok (.bipush 24, 2) := by decide +kernel
theorem dX3_formWithEntriesOf_5 : decode cX3_formWithEntriesOf 5 = .ok (.if_icmp .ge 20, 3) := by decide +kernel
theorem dX3_formWithEntriesOf_8 : decode cX3_formWithEntriesOf 8 = .ok (.aload_n 0, 1) := by decide +kernel
theorem dX3_formWithEntriesOf_9 : decode cX3_formWithEntriesOf 9 = .ok (.iload_n 2, 1) := by decide +kernel
theorem dX3_formWithEntriesOf_10 : decode cX3_formWithEntriesOf 10 = .ok (.iload_n 1, 1) := by decide +kernel
theorem dX3_formWithEntriesOf_11 : decode cX3_formWithEntriesOf 11 = .ok (.invokevirtual 59, 3) := by decide +kernel
theorem dX3_formWithEntriesOf_14 : decode cX3_formWithEntriesOf 14 = .ok (.ifCond .eq 5, 3) := by decide +kernel
theorem dX3_formWithEntriesOf_17 : decode cX3_formWithEntriesOf 17 = .ok (.iload_n 2, 1) := by decide +kernel
theorem dX3_formWithEntriesOf_18 : decode cX3_formWithEntriesOf 18 = .ok (.ireturn, 1) := by decide +kernel
theorem dX3_formWithEntriesOf_19 : decode cX3_formWithEntriesOf 19 = .ok (.iinc 2 1, 3) := by decide +kernel
theorem dX3_formWithEntriesOf_22 : decode cX3_formWithEntriesOf 22 = .ok (.goto (-20), 3) := by decide +kernel
theorem dX3_formWithEntriesOf_25 : decode cX3_formWithEntriesOf 25 = .ok (.bipush (-9), 2) := by decide +kernel
theorem dX3_formWithEntriesOf_27 : decode cX3_formWithEntriesOf 27 = .ok (.ireturn, 1) := by decide +kernel
set_option maxRecDepth 20000 in
theorem ggX3_hasEntriesOf_X1_shiftOf : GoodIn wsX3_hasEntriesOf wsX1_shiftOf := goodIn_r _ [7, 8, 9, 10, 11, 35, 36, 37, 38, 39] (by decide +kernel) (by decide +kernel)
set_option maxRecDepth 20000 in
theorem gX3_hasEntriesOf_X1_shiftOf : GoodIn wsX3_hasEntriesOf (wsV RX3 44 RX1 yX1_shiftOf wsX1_shiftOf) := goodIn_app (goodIn_of _ (by decide +kernel)) ggX3_hasEntriesOf_X1_shiftOf
set_option maxRecDepth 20000 in
theorem ggX3_hasEntriesOf_X2_markAt : GoodIn wsX3_hasEntriesOf wsX2_markAt := goodIn_r _ [16, 17, 9, 10, 11, 40, 41] (by decide +kernel) (by decide +kernel)
set_option maxRecDepth 20000 in
theorem gX3_hasEntriesOf_X2_markAt : GoodIn wsX3_hasEntriesOf (wsV RX3 87 RX2 yX2_markAt wsX2_markAt) := goodIn_app (goodIn_of _ (by decide +kernel)) ggX3_hasEntriesOf_X2_markAt
set_option maxRecDepth 20000 in
theorem ggX3_hasEntriesOf_X1_isEntry : GoodIn wsX3_hasEntriesOf wsX1_isEntry := goodIn_r _ [21, 22, 23, 9, 10, 11, 35, 36, 37, 38, 39] (by decide +kernel) (by decide +kernel)
set_option maxRecDepth 20000 in
theorem gX3_hasEntriesOf_X1_isEntry : GoodIn wsX3_hasEntriesOf (wsV RX3 47 RX1 yX1_isEntry wsX1_isEntry) := goodIn_app (goodIn_of _ (by decide +kernel)) ggX3_hasEntriesOf_X1_isEntry
set_option maxRecDepth 20000 in
theorem ggX3_hasEntriesOf_X2_valueAt : GoodIn wsX3_hasEntriesOf wsX2_valueAt := goodIn_r _ [27, 28, 9, 10, 11, 40, 41] (by decide +kernel) (by decide +kernel)
set_option maxRecDepth 20000 in
theorem gX3_hasEntriesOf_X2_valueAt : GoodIn wsX3_hasEntriesOf (wsV RX3 90 RX2 yX2_valueAt wsX2_valueAt) := goodIn_app (goodIn_of _ (by decide +kernel)) ggX3_hasEntriesOf_X2_valueAt
set_option maxRecDepth 20000 in
theorem ggX3_hasEntriesOf_X1_valueAt : GoodIn wsX3_hasEntriesOf wsX1_valueAt := goodIn_r _ [32, 22, 9, 10, 11, 35, 36, 37, 38, 39] (by decide +kernel) (by decide +kernel)
set_option maxRecDepth 20000 in
theorem gX3_hasEntriesOf_X1_valueAt : GoodIn wsX3_hasEntriesOf (wsV RX3 51 RX1 yX1_valueAt wsX1_valueAt) := goodIn_app (goodIn_of _ (by decide +kernel)) ggX3_hasEntriesOf_X1_valueAt
theorem dX3_hasEntriesOf_0 : decode cX3_hasEntriesOf 0 = .ok (.aload_n 0, 1) := by decide +kernel
theorem dX3_hasEntriesOf_1 : decode cX3_hasEntriesOf 1 = .ok (.getfield 12, 3) := by decide +kernel
theorem dX3_hasEntriesOf_4 : decode cX3_hasEntriesOf 4 = .ok (.iload_n 1, 1) := by decide +kernel
theorem dX3_hasEntriesOf_5 : decode cX3_hasEntriesOf 5 = .ok (.invokevirtual 44, 3) := by decide +kernel
theorem dX3_hasEntriesOf_8 : decode cX3_hasEntriesOf 8 = .ok (.istore_n 3, 1) := by decide +kernel
theorem dX3_hasEntriesOf_9 : decode cX3_hasEntriesOf 9 = .ok (.iload_n 3, 1) := by decide +kernel
theorem dX3_hasEntriesOf_10 : decode cX3_hasEntriesOf 10 = .ok (.bipush (-9), 2) := by decide +kernel
theorem dX3_hasEntriesOf_12 : decode cX3_hasEntriesOf 12 = .ok (.if_icmp .ne 5, 3) := by decide +kernel
theorem dX3_hasEntriesOf_15 : decode cX3_hasEntriesOf 15 = .ok (.iconst 0, 1) := by decide +kernel
theorem dX3_hasEntriesOf_16 : decode cX3_hasEntriesOf 16 = .ok (.ireturn, 1) := by decide +kernel
theorem dX3_hasEntriesOf_17 : decode cX3_hasEntriesOf 17 = .ok (.iconst 0, 1) := by decide +kernel
theorem dX3_hasEntriesOf_18 : decode cX3_hasEntriesOf 18 = .ok (.istore 4, 2) := by decide +kernel
theorem dX3_hasEntriesOf_20 : decode cX3_hasEntriesOf 20 = .ok (.iload 4, 2) := by decide +kernel
theorem dX3_hasEntriesOf_22 : decode cX3_hasEntriesOf 22 = .ok (.bipush 16, 2) := by decide +kernel
theorem dX3_hasEntriesOf_24 : decode cX3_hasEntriesOf 24 = .ok (.if_icmp .ge 79, 3) := by decide +kernel
theorem dX3_hasEntriesOf_27 : decode cX3_hasEntriesOf 27 = .ok (.aload_n 0, 1) := by decide +kernel
theorem dX3_hasEntriesOf_28 : decode cX3_hasEntriesOf 28 = .ok (.getfield 21, 3) := by decide +kernel
theorem dX3_hasEntriesOf_31 : decode cX3_hasEntriesOf 31 = .ok (.iload_n 3, 1) := by decide +kernel
theorem dX3_hasEntriesOf_32 : decode cX3_hasEntriesOf 32 = .ok (.iload 4, 2) := by decide +kernel
theorem dX3_hasEntriesOf_34 : decode cX3_hasEntriesOf 34 = .ok (.iadd, 1) := by decide +kernel
theorem dX3_hasEntriesOf_35 : decode cX3_hasEntriesOf 35 = .ok (.invokevirtual 87, 3) := by decide +kernel
theorem dX3_hasEntriesOf_38 : decode cX3_hasEntriesOf 38 = .ok (.iload_n 1, 1) := by decide +kernel
theorem dX3_hasEntriesOf_39 : decode cX3_hasEntriesOf 39 = .ok (.if_icmp .ne 7, 3) := by decide +kernel
theorem dX3_hasEntriesOf_42 : decode cX3_hasEntriesOf 42 = .ok (.iconst 1, 1) := by decide +kernel
theorem dX3_hasEntriesOf_43 : decode cX3_hasEntriesOf 43 = .ok (.goto 4, 3) := by decide +kernel
theorem dX3_hasEntriesOf_46 : decode cX3_hasEntriesOf 46 = .ok (.iconst 0, 1) := by decide +kernel
theorem dX3_hasEntriesOf_47 : decode cX3_hasEntriesOf 47 = .ok (.istore 5, 2) := by decide +kernel
theorem dX3_hasEntriesOf_49 : decode cX3_hasEntriesOf 49 = .ok (.iload 5, 2) := by decide +kernel
theorem dX3_hasEntriesOf_51 : decode cX3_hasEntriesOf 51 = .ok (.aload_n 0, 1) := by decide +kernel
theorem dX3_hasEntriesOf_52 : decode cX3_hasEntriesOf 52 = .ok (.getfield 12, 3) := by decide +kernel
theorem dX3_hasEntriesOf_55 : decode cX3_hasEntriesOf 55 = .ok (.iload_n 2, 1) := by decide +kernel
theorem dX3_hasEntriesOf_56 : decode cX3_hasEntriesOf 56 = .ok (.iload 4, 2) := by decide +kernel
theorem dX3_hasEntriesOf_58 : decode cX3_hasEntriesOf 58 = .ok (.invokevirtual 47, 3) := by decide +kernel
theorem dX3_hasEntriesOf_61 : decode cX3_hasEntriesOf 61 = .ok (.if_icmp .eq 5, 3) := by decide +kernel
theorem dX3_hasEntriesOf_64 : decode cX3_hasEntriesOf 64 = .ok (.iconst 0, 1) := by decide +kernel
theorem dX3_hasEntriesOf_65 : decode cX3_hasEntriesOf 65 = .ok (.ireturn, 1) := by decide +kernel
theorem dX3_hasEntriesOf_66 : decode cX3_hasEntriesOf 66 = .ok (.iload 5, 2) := by decide +kernel
theorem dX3_hasEntriesOf_68 : decode cX3_hasEntriesOf 68 = .ok (.ifCond .eq 29, 3) := by decide +kernel
theorem dX3_hasEntriesOf_71 : decode cX3_hasEntriesOf 71 = .ok (.aload_n 0, 1) := by decide +kernel
theorem dX3_hasEntriesOf_72 : decode cX3_hasEntriesOf 72 = .ok (.getfield 21, 3) := by decide +kernel
theorem dX3_hasEntriesOf_75 : decode cX3_hasEntriesOf 75 = .ok (.iload_n 3, 1) := by decide +kernel
theorem dX3_hasEntriesOf_76 : decode cX3_hasEntriesOf 76 = .ok (.iload 4, 2) := by decide +kernel
theorem dX3_hasEntriesOf_78 : decode cX3_hasEntriesOf 78 = .ok (.iadd, 1) := by decide +kernel
theorem dX3_hasEntriesOf_79 : decode cX3_hasEntriesOf 79 = .ok (.invokevirtual 90, 3) := by decide +kernel
theorem dX3_hasEntriesOf_82 : decode cX3_hasEntriesOf 82 = .ok (.aload_n 0, 1) := by decide +kernel
theorem dX3_hasEntriesOf_83 : decode cX3_hasEntriesOf 83 = .ok (.getfield 12, 3) := by decide +kernel
theorem dX3_hasEntriesOf_86 : decode cX3_hasEntriesOf 86 = .ok (.iload_n 2, 1) := by decide +kernel
theorem dX3_hasEntriesOf_87 : decode cX3_hasEntriesOf 87 = .ok (.iload 4, 2) := by decide +kernel
theorem dX3_hasEntriesOf_89 : decode cX3_hasEntriesOf 89 = .ok (.invokevirtual 51, 3) := by decide +kernel
theorem dX3_hasEntriesOf_92 : decode cX3_hasEntriesOf 92 = .ok (.if_icmp .eq 5, 3) := by decide +kernel
theorem dX3_hasEntriesOf_95 : decode cX3_hasEntriesOf 95 = .ok (.iconst 0, 1) := by decide +kernel
theorem dX3_hasEntriesOf_96 : decode cX3_hasEntriesOf 96 = .ok (.ireturn, 1) := by decide +kernel
theorem dX3_hasEntriesOf_97 : decode cX3_hasEntriesOf 97 = .ok (.iinc 4 1, 3) := by decide +kernel
theorem dX3_hasEntriesOf_100 : decode cX3_hasEntriesOf 100 = .ok (.goto (-80), 3) := by decide +kernel
theorem dX3_hasEntriesOf_103 : decode cX3_hasEntriesOf 103 = .ok (.iconst 1, 1) := by decide +kernel
theorem dX3_hasEntriesOf_104 : decode cX3_hasEntriesOf 104 = .ok (.ireturn, 1) := by decide +kernel
set_option maxRecDepth 20000 in
theorem ggX3_pushNewForm_X1_freeForm : GoodIn wsX3_pushNewForm wsX1_freeForm := goodIn_r _ [7, 8, 9, 10, 6, 11, 12, 13, 14, 15, 64, 65, 66, 67, 68] (by decide +kernel) (by decide +kernel)
set_option maxRecDepth 20000 in
theorem gX3_pushNewForm_X1_freeForm : GoodIn wsX3_pushNewForm (wsV RX3 92 RX1 yX1_freeForm wsX1_freeForm) := goodIn_app (goodIn_of _ (by decide +kernel)) ggX3_pushNewForm_X1_freeForm
set_option maxRecDepth 20000 in
theorem ggX3_pushNewForm_X2_firstFit : GoodIn wsX3_pushNewForm wsX2_firstFit := goodIn_r _ [20, 21, 22, 23, 19, 24, 25, 13, 14, 15, 69, 70] (by decide +kernel) (by decide +kernel)
set_option maxRecDepth 20000 in
theorem gX3_pushNewForm_X2_firstFit : GoodIn wsX3_pushNewForm (wsV RX3 96 RX2 yX2_firstFit wsX2_firstFit) := goodIn_app (goodIn_of _ (by decide +kernel)) ggX3_pushNewForm_X2_firstFit
set_option maxRecDepth 20000 in
theorem ggX3_pushNewForm_X1_giveForm : GoodIn wsX3_pushNewForm wsX1_giveForm := goodIn_r _ [29, 30, 31, 14, 32, 64, 65, 66, 67, 68] (by decide +kernel) (by decide +kernel)
set_option maxRecDepth 20000 in
theorem gX3_pushNewForm_X1_giveForm : GoodIn wsX3_pushNewForm (wsV RX3 75 RX1 yX1_giveForm wsX1_giveForm) := goodIn_app (goodIn_of _ (by decide +kernel)) ggX3_pushNewForm_X1_giveForm
set_option maxRecDepth 20000 in
theorem ggX3_pushNewForm_X1_changeShift : GoodIn wsX3_pushNewForm wsX1_changeShift := goodIn_r _ [36, 12, 31, 14, 32, 64, 65, 66, 67, 68] (by decide +kernel) (by decide +kernel)
set_option maxRecDepth 20000 in
theorem gX3_pushNewForm_X1_changeShift : GoodIn wsX3_pushNewForm (wsV RX3 84 RX1 yX1_changeShift wsX1_changeShift) := goodIn_app (goodIn_of _ (by decide +kernel)) ggX3_pushNewForm_X1_changeShift
set_option maxRecDepth 20000 in
theorem ggX3_pushNewForm_X3_fillCellsOf : GoodIn wsX3_pushNewForm wsX3_fillCellsOf := goodIn_r _ [41, 1, 2, 42, 43, 44, 6, 45, 30, 13, 14, 15, 46, 9, 10, 11, 12, 47, 48, 49, 50, 51, 52, 53, 54, 55, 56, 57, 58, 59, 19, 60, 61, 25, 31, 32, 62, 63, 64, 65, 66, 67, 68, 69, 70] (by decide +kernel) (by decide +kernel)
set_option maxRecDepth 20000 in
theorem gX3_pushNewForm_X3_fillCellsOf : GoodIn wsX3_pushNewForm (wsV RX3 36 RX3 yX3_fillCellsOf wsX3_fillCellsOf) := goodIn_app (goodIn_of _ (by decide +kernel)) ggX3_pushNewForm_X3_fillCellsOf
theorem dX3_pushNewForm_0 : decode cX3_pushNewForm 0 = .ok (.aload_n 0, 1) := by decide +kernel
theorem dX3_pushNewForm_1 : decode cX3_pushNewForm 1 = .ok (.getfield 12, 3) := by decide +kernel
theorem dX3_pushNewForm_4 : decode cX3_pushNewForm 4 = .ok (.invokevirtual 92, 3) := by decide +kernel
theorem dX3_pushNewForm_7 : decode cX3_pushNewForm 7 = .ok (.istore_n 3, 1) := by decide +kernel
theorem dX3_pushNewForm_8 : decode cX3_pushNewForm 8 = .ok (.aload_n 0, 1) := by decide +kernel
theorem dX3_pushNewForm_9 : decode cX3_pushNewForm 9 = .ok (.getfield 21, 3) := by decide +kernel
theorem dX3_pushNewForm_12 : decode cX3_pushNewForm 12 = .ok (.iload_n 2, 1) := by decide +kernel
theorem dX3_pushNewForm_13 : decode cX3_pushNewForm 13 = .ok (.invokevirtual 96, 3) := by decide +kernel
theorem dX3_pushNewForm_16 : decode cX3_pushNewForm 16 = .ok (.istore 4, 2) := by decide +kernel
theorem dX3_pushNewForm_18 : decode cX3_pushNewForm 18 = .ok (.iload_n 3, 1) := by decide +kernel
theorem dX3_pushNewForm_19 : decode cX3_pushNewForm 19 = .ok (.bipush (-9), 2) := by decide +kernel
theorem dX3_pushNewForm_21 : decode cX3_pushNewForm 21 = .ok (.if_icmp .eq 10, 3) := by decide +kernel
theorem dX3_pushNewForm_24 : decode cX3_pushNewForm 24 = .ok (.iload 4, 2) := by decide +kernel
theorem dX3_pushNewForm_26 : decode cX3_pushNewForm 26 = .ok (.bipush (-9), 2) := by decide +kernel
theorem dX3_pushNewForm_28 : decode cX3_pushNewForm 28 = .ok (.if_icmp .ne 4, 3) := by decide +kernel
theorem dX3_pushNewForm_31 : decode cX3_pushNewForm 31 = .ok (.return_, 1) := by decide +kernel
theorem dX3_pushNewForm_32 : decode cX3_pushNewForm 32 = .ok (.aload_n 0, 1) := by decide +kernel
theorem dX3_pushNewForm_33 : decode cX3_pushNewForm 33 = .ok (.getfield 12, 3) := by decide +kernel
theorem dX3_pushNewForm_36 : decode cX3_pushNewForm 36 = .ok (.iload_n 1, 1) := by decide +kernel
theorem dX3_pushNewForm_37 : decode cX3_pushNewForm 37 = .ok (.iload_n 3, 1) := by decide +kernel
theorem dX3_pushNewForm_38 : decode cX3_pushNewForm 38 = .ok (.invokevirtual 75, 3) := by decide +kernel
theorem dX3_pushNewForm_41 : decode cX3_pushNewForm 41 = .ok (.aload_n 0, 1) := by decide +kernel
theorem dX3_pushNewForm_42 : decode cX3_pushNewForm 42 = .ok (.getfield 12, 3) := by decide +kernel
theorem dX3_pushNewForm_45 : decode cX3_pushNewForm 45 = .ok (.iload_n 3, 1) := by decide +kernel
theorem dX3_pushNewForm_46 : decode cX3_pushNewForm 46 = .ok (.iload 4, 2) := by decide +kernel
theorem dX3_pushNewForm_48 : decode cX3_pushNewForm 48 = .ok (.invokevirtual 84, 3) := by decide +kernel
theorem dX3_pushNewForm_51 : decode cX3_pushNewForm 51 = .ok (.aload_n 0, 1) := by decide +kernel
theorem dX3_pushNewForm_52 : decode cX3_pushNewForm 52 = .ok (.iload_n 1, 1) := by decide +kernel
theorem dX3_pushNewForm_53 : decode cX3_pushNewForm 53 = .ok (.invokevirtual 36, 3) := by decide +kernel
theorem dX3_pushNewForm_56 : decode cX3_pushNewForm 56 = .ok (.return_, 1) := by decide +kernel
set_option maxRecDepth 20000 in
theorem ggX3_pushAnewByWeights_X3_takeOutAll : GoodIn wsX3_pushAnewByWeights wsX3_takeOutAll := goodIn_r _ [7, 1, 8, 9, 10, 11, 12, 13, 14, 15, 16, 17, 18, 19, 20, 21, 22, 23, 24, 25, 26, 27, 137, 138, 139, 140, 141, 142, 143, 144, 145] (by decide +kernel) (by decide +kernel)
set_option maxRecDepth 20000 in
theorem gX3_pushAnewByWeights_X3_takeOutAll : GoodIn wsX3_pushAnewByWeights (wsV RX3 99 RX3 yX3_takeOutAll wsX3_takeOutAll) := goodIn_app (goodIn_of _ (by decide +kernel)) ggX3_pushAnewByWeights_X3_takeOutAll
set_option maxRecDepth 20000 in
theorem ggX3_pushAnewByWeights_X1_weightOf : GoodIn wsX3_pushAnewByWeights wsX1_weightOf := goodIn_r _ [31, 32, 33, 34, 12, 35, 36, 37, 38, 39, 40, 41, 42, 43, 44, 45, 46, 47, 48, 49, 50, 51, 139, 140, 141, 142, 143] (by decide +kernel) (by decide +kernel)
set_option maxRecDepth 20000 in
theorem gX3_pushAnewByWeights_X1_weightOf : GoodIn wsX3_pushAnewByWeights (wsV RX3 102 RX1 yX1_weightOf wsX1_weightOf) := goodIn_app (goodIn_of _ (by decide +kernel)) ggX3_pushAnewByWeights_X1_weightOf
set_option maxRecDepth 20000 in
theorem ggX3_pushAnewByWeights_X3_settle : GoodIn wsX3_pushAnewByWeights wsX3_settle := goodIn_r _ [55, 1, 56, 57, 58, 12, 59, 14, 42, 43, 44, 60, 61, 62, 6, 63, 8, 64, 65, 66, 67, 15, 68, 69, 70, 23, 71, 26, 72, 37, 38, 39, 40, 41, 73, 74, 75, 76, 25, 77, 78, 79, 80, 81, 82, 83, 84, 85, 86, 87, 88, 89, 90, 91, 92, 93, 94, 95, 96, 97, 98, 99, 100, 101, 102, 103, 104, 105, 106, 107, 108, 109, 110, 33, 34, 35, 36, 111, 112, 113, 114, 115, 116, 117, 118, 119, 120, 121, 122, 123, 124, 125, 126, 127, 128, 129, 130, 131, 132, 133, 134, 135, 136, 137, 138, 139, 140, 141, 142, 143, 144, 145] (by decide +kernel) (by decide +kernel)
set_option maxRecDepth 20000 in
theorem gX3_pushAnewByWeights_X3_settle : GoodIn wsX3_pushAnewByWeights (wsV RX3 105 RX3 yX3_settle wsX3_settle) := goodIn_app (goodIn_of _ (by decide +kernel)) ggX3_pushAnewByWeights_X3_settle
theorem dX3_pushAnewByWeights_0 : decode cX3_pushAnewByWeights 0 = .ok (.aload_n 0, 1) := by decide +kernel
theorem dX3_pushAnewByWeights_1 : decode cX3_pushAnewByWeights 1 = .ok (.invokevirtual 99, 3) := by decide +kernel
theorem dX3_pushAnewByWeights_4 : decode cX3_pushAnewByWeights 4 = .ok (.bipush 16, 2) := by decide +kernel
theorem dX3_pushAnewByWeights_6 : decode cX3_pushAnewByWeights 6 = .ok (.istore_n 1, 1) := by decide +kernel
theorem dX3_pushAnewByWeights_7 : decode cX3_pushAnewByWeights 7 = .ok (.iload_n 1, 1) := by decide +kernel
theorem dX3_pushAnewByWeights_8 : decode cX3_pushAnewByWeights 8 = .ok (.iconst 1, 1) := by decide +kernel
theorem dX3_pushAnewByWeights_9 : decode cX3_pushAnewByWeights 9 = .ok (.if_icmp .lt 45, 3) := by decide +kernel
theorem dX3_pushAnewByWeights_12 : decode cX3_pushAnewByWeights 12 = .ok (.iconst 0, 1) := by decide +kernel
theorem dX3_pushAnewByWeights_13 : decode cX3_pushAnewByWeights 13 = .ok (.istore_n 2, 1) := by decide +kernel
theorem dX3_pushAnewByWeights_14 : decode cX3_pushAnewByWeights 14 = .ok (.iload_n 2, 1) := by decide +kernel
theorem dX3_pushAnewByWeights_15 : decode cX3_pushAnewByWeights 15 = .ok (.aload_n 0, 1) := by decide +kernel
theorem dX3_pushAnewByWeights_16 : decode cX3_pushAnewByWeights 16 = .ok (.getfield 12, 3) := by decide +kernel
theorem dX3_pushAnewByWeights_19 : decode cX3_pushAnewByWeights 19 = .ok (.getfield 32, 3) := by decide +kernel
theorem dX3_pushAnewByWeights_22 : decode cX3_pushAnewByWeights 22 = .ok (.if_icmp .ge 26, 3) := by decide +kernel
theorem dX3_pushAnewByWeights_25 : decode cX3_pushAnewByWeights 25 = .ok (.aload_n 0, 1) := by decide +kernel
theorem dX3_pushAnewByWeights_26 : decode cX3_pushAnewByWeights 26 = .ok (.getfield 12, 3) := by decide +kernel
theorem dX3_pushAnewByWeights_29 : decode cX3_pushAnewByWeights 29 = .ok (.iload_n 2, 1) := by decide +kernel
theorem dX3_pushAnewByWeights_30 : decode cX3_pushAnewByWeights 30 = .ok (.invokevirtual 102, 3) := by decide +kernel
theorem dX3_pushAnewByWeights_33 : decode cX3_pushAnewByWeights 33 = .ok (.iload_n 1, 1) := by decide +kernel
theorem dX3_pushAnewByWeights_34 : decode cX3_pushAnewByWeights 34 = .ok (.if_icmp .ne 8, 3) := by decide +kernel
theorem dX3_pushAnewByWeights_37 : decode cX3_pushAnewByWeights 37 = .ok (.aload_n 0, 1) := by decide +kernel
theorem dX3_pushAnewByWeights_38 : decode cX3_pushAnewByWeights 38 = .ok (.iload_n 2, 1) := by decide +kernel
theorem dX3_pushAnewByWeights_39 : decode cX3_pushAnewByWeights 39 = .ok (.invokevirtual 105, 3) := by decide +kernel
theorem dX3_pushAnewByWeights_42 : decode cX3_pushAnewByWeights 42 = .ok (.iinc 2 1, 3) := by decide +kernel
theorem dX3_pushAnewByWeights_45 : decode cX3_pushAnewByWeights 45 = .ok (.goto (-31), 3) := by decide +kernel
theorem dX3_pushAnewByWeights_48 : decode cX3_pushAnewByWeights 48 = .ok (.iinc 1 (-1), 3) := by decide +kernel
theorem dX3_pushAnewByWeights_51 : decode cX3_pushAnewByWeights 51 = .ok (.goto (-44), 3) := by decide +kernel
theorem dX3_pushAnewByWeights_54 : decode cX3_pushAnewByWeights 54 = .ok (.return_, 1) := by decide +kernel
set_option maxRecDepth 20000 in
theorem ggX3_pushAnewByNumbers_X3_takeOutAll : GoodIn wsX3_pushAnewByNumbers wsX3_takeOutAll := goodIn_r _ [7, 1, 8, 9, 10, 11, 12, 13, 14, 15, 16, 17, 18, 19, 20, 21, 22, 23, 24, 25, 26, 27, 125, 126, 127, 128, 129, 130, 131, 132, 133] (by decide +kernel) (by decide +kernel)
set_option maxRecDepth 20000 in
theorem gX3_pushAnewByNumbers_X3_takeOutAll : GoodIn wsX3_pushAnewByNumbers (wsV RX3 99 RX3 yX3_takeOutAll wsX3_takeOutAll) := goodIn_app (goodIn_of _ (by decide +kernel)) ggX3_pushAnewByNumbers_X3_takeOutAll
set_option maxRecDepth 20000 in
theorem ggX3_pushAnewByNumbers_X3_settle : GoodIn wsX3_pushAnewByNumbers wsX3_settle := goodIn_r _ [31, 1, 32, 33, 34, 12, 35, 14, 36, 37, 38, 39, 40, 41, 6, 42, 8, 43, 44, 45, 46, 15, 47, 48, 49, 23, 50, 26, 51, 52, 53, 54, 55, 56, 57, 58, 59, 60, 25, 61, 62, 63, 64, 65, 66, 67, 68, 69, 70, 71, 72, 73, 74, 75, 76, 77, 78, 79, 80, 81, 82, 83, 84, 85, 86, 87, 88, 89, 90, 91, 92, 93, 94, 95, 96, 97, 98, 99, 100, 101, 102, 103, 104, 105, 106, 107, 108, 109, 110, 111, 112, 113, 114, 115, 116, 117, 118, 119, 120, 121, 122, 123, 124, 125, 126, 127, 128, 129, 130, 131, 132, 133] (by decide +kernel) (by decide +kernel)
set_option maxRecDepth 20000 in
theorem gX3_pushAnewByNumbers_X3_settle : GoodIn wsX3_pushAnewByNumbers (wsV RX3 105 RX3 yX3_settle wsX3_settle) := goodIn_app (goodIn_of _ (by decide +kernel)) ggX3_pushAnewByNumbers_X3_settle
theorem dX3_pushAnewByNumbers_0 : decode cX3_pushAnewByNumbers 0 = .ok (.aload_n 0, 1) := by decide +kernel
theorem dX3_pushAnewByNumbers_1 : decode cX3_pushAnewByNumbers 1 = .ok (.invokevirtual 99, 3) := by decide +kernel
theorem dX3_pushAnewByNumbers_4 : decode cX3_pushAnewByNumbers 4 = .ok (.iconst 0, 1) := by decide +kernel
theorem dX3_pushAnewByNumbers_5 : decode cX3_pushAnewByNumbers 5 = .ok (.istore_n 1, 1) := by decide +kernel
theorem dX3_pushAnewByNumbers_6 : decode cX3_pushAnewByNumbers 6 = .ok (.iload_n 1, 1) := by decide +kernel
theorem dX3_pushAnewByNumbers_7 : decode cX3_pushAnewByNumbers 7 = .ok (.aload_n 0, 1) := by decide +kernel
theorem dX3_pushAnewByNumbers_8 : decode cX3_pushAnewByNumbers 8 = .ok (.getfield 12, 3) := by decide +kernel
theorem dX3_pushAnewByNumbers_11 : decode cX3_pushAnewByNumbers 11 = .ok (.getfield 32, 3) := by decide +kernel
theorem dX3_pushAnewByNumbers_14 : decode cX3_pushAnewByNumbers 14 = .ok (.if_icmp .ge 14, 3) := by decide +kernel
theorem dX3_pushAnewByNumbers_17 : decode cX3_pushAnewByNumbers 17 = .ok (.aload_n 0, 1) := by decide +kernel
theorem dX3_pushAnewByNumbers_18 : decode cX3_pushAnewByNumbers 18 = .ok (.iload_n 1, 1) := by decide +kernel
theorem dX3_pushAnewByNumbers_19 : decode cX3_pushAnewByNumbers 19 = .ok (.invokevirtual 105, 3) := by decide +kernel
theorem dX3_pushAnewByNumbers_22 : decode cX3_pushAnewByNumbers 22 = .ok (.iinc 1 1, 3) := by decide +kernel
theorem dX3_pushAnewByNumbers_25 : decode cX3_pushAnewByNumbers 25 = .ok (.goto (-19), 3) := by decide +kernel
theorem dX3_pushAnewByNumbers_28 : decode cX3_pushAnewByNumbers 28 = .ok (.return_, 1) := by decide +kernel
set_option maxRecDepth 20000 in
theorem ggX3_takeOutAll_X1_forgetForms : GoodIn wsX3_takeOutAll wsX1_forgetForms := goodIn_r _ [7, 8, 9, 10, 11, 12, 13, 24, 25, 26, 27, 28] (by decide +kernel) (by decide +kernel)
set_option maxRecDepth 20000 in
theorem gX3_takeOutAll_X1_forgetForms : GoodIn wsX3_takeOutAll (wsV RX3 108 RX1 yX1_forgetForms wsX1_forgetForms) := goodIn_app (goodIn_of _ (by decide +kernel)) ggX3_takeOutAll_X1_forgetForms
set_option maxRecDepth 20000 in
theorem ggX3_takeOutAll_X2_emptyAll : GoodIn wsX3_takeOutAll wsX2_emptyAll := goodIn_r _ [18, 19, 20, 21, 11, 12, 13, 29, 30] (by decide +kernel) (by decide +kernel)
set_option maxRecDepth 20000 in
theorem gX3_takeOutAll_X2_emptyAll : GoodIn wsX3_takeOutAll (wsV RX3 29 RX2 yX2_emptyAll wsX2_emptyAll) := goodIn_app (goodIn_of _ (by decide +kernel)) ggX3_takeOutAll_X2_emptyAll
theorem dX3_takeOutAll_0 : decode cX3_takeOutAll 0 = .ok (.aload_n 0, 1) := by decide +kernel
theorem dX3_takeOutAll_1 : decode cX3_takeOutAll 1 = .ok (.getfield 12, 3) := by decide +kernel
theorem dX3_takeOutAll_4 : decode cX3_takeOutAll 4 = .ok (.invokevirtual 108, 3) := by decide +kernel
theorem dX3_takeOutAll_7 : decode cX3_takeOutAll 7 = .ok (.aload_n 0, 1) := by decide +kernel
theorem dX3_takeOutAll_8 : decode cX3_takeOutAll 8 = .ok (.getfield 21, 3) := by decide +kernel
theorem dX3_takeOutAll_11 : decode cX3_takeOutAll 11 = .ok (.invokevirtual 29, 3) := by decide +kernel
theorem dX3_takeOutAll_14 : decode cX3_takeOutAll 14 = .ok (.return_, 1) := by decide +kernel
set_option maxRecDepth 20000 in
theorem ggX3_lookUp_X1_formOf : GoodIn wsX3_lookUp wsX1_formOf := goodIn_r _ [7, 8, 9, 10, 11, 35, 36, 37, 38, 39] (by decide +kernel) (by decide +kernel)
set_option maxRecDepth 20000 in
theorem gX3_lookUp_X1_formOf : GoodIn wsX3_lookUp (wsV RX3 40 RX1 yX1_formOf wsX1_formOf) := goodIn_app (goodIn_of _ (by decide +kernel)) ggX3_lookUp_X1_formOf
set_option maxRecDepth 20000 in
theorem ggX3_lookUp_X1_shiftOf : GoodIn wsX3_lookUp wsX1_shiftOf := goodIn_r _ [15, 16, 9, 10, 11, 35, 36, 37, 38, 39] (by decide +kernel) (by decide +kernel)
set_option maxRecDepth 20000 in
theorem gX3_lookUp_X1_shiftOf : GoodIn wsX3_lookUp (wsV RX3 44 RX1 yX1_shiftOf wsX1_shiftOf) := goodIn_app (goodIn_of _ (by decide +kernel)) ggX3_lookUp_X1_shiftOf
set_option maxRecDepth 20000 in
theorem ggX3_lookUp_X2_markAt : GoodIn wsX3_lookUp wsX2_markAt := goodIn_r _ [21, 22, 9, 10, 11, 40, 41] (by decide +kernel) (by decide +kernel)
set_option maxRecDepth 20000 in
theorem gX3_lookUp_X2_markAt : GoodIn wsX3_lookUp (wsV RX3 87 RX2 yX2_markAt wsX2_markAt) := goodIn_app (goodIn_of _ (by decide +kernel)) ggX3_lookUp_X2_markAt
set_option maxRecDepth 20000 in
theorem ggX3_lookUp_X2_valueAt : GoodIn wsX3_lookUp wsX2_valueAt := goodIn_r _ [26, 27, 9, 10, 11, 40, 41] (by decide +kernel) (by decide +kernel)
set_option maxRecDepth 20000 in
theorem gX3_lookUp_X2_valueAt : GoodIn wsX3_lookUp (wsV RX3 90 RX2 yX2_valueAt wsX2_valueAt) := goodIn_app (goodIn_of _ (by decide +kernel)) ggX3_lookUp_X2_valueAt
set_option maxRecDepth 20000 in
theorem ggX3_lookUp_X1_defaultOf : GoodIn wsX3_lookUp wsX1_defaultOf := goodIn_r _ [31, 32, 9, 10, 11, 35, 36, 37, 38, 39] (by decide +kernel) (by decide +kernel)
set_option maxRecDepth 20000 in
theorem gX3_lookUp_X1_defaultOf : GoodIn wsX3_lookUp (wsV RX3 111 RX1 yX1_defaultOf wsX1_defaultOf) := goodIn_app (goodIn_of _ (by decide +kernel)) ggX3_lookUp_X1_defaultOf
theorem dX3_lookUp_0 : decode cX3_lookUp 0 = .ok (.aload_n 0, 1) := by decide +kernel
theorem dX3_lookUp_1 : decode cX3_lookUp 1 = .ok (.getfield 12, 3) := by decide +kernel
theorem dX3_lookUp_4 : decode cX3_lookUp 4 = .ok (.iload_n 1, 1) := by decide +kernel
theorem dX3_lookUp_5 : decode cX3_lookUp 5 = .ok (.invokevirtual 40, 3) := by decide +kernel
theorem dX3_lookUp_8 : decode cX3_lookUp 8 = .ok (.istore_n 3, 1) := by decide +kernel
theorem dX3_lookUp_9 : decode cX3_lookUp 9 = .ok (.aload_n 0, 1) := by decide +kernel
theorem dX3_lookUp_10 : decode cX3_lookUp 10 = .ok (.getfield 12, 3) := by decide +kernel
theorem dX3_lookUp_13 : decode cX3_lookUp 13 = .ok (.iload_n 3, 1) := by decide +kernel
theorem dX3_lookUp_14 : decode cX3_lookUp 14 = .ok (.invokevirtual 44, 3) := by decide +kernel
theorem dX3_lookUp_17 : decode cX3_lookUp 17 = .ok (.istore 4, 2) := by decide +kernel
theorem dX3_lookUp_19 : decode cX3_lookUp 19 = .ok (.iload 4, 2) := by decide +kernel
theorem dX3_lookUp_21 : decode cX3_lookUp 21 = .ok (.bipush (-9), 2) := by decide +kernel
theorem dX3_lookUp_23 : decode cX3_lookUp 23 = .ok (.if_icmp .eq 30, 3) := by decide +kernel
theorem dX3_lookUp_26 : decode cX3_lookUp 26 = .ok (.aload_n 0, 1) := by decide +kernel
theorem dX3_lookUp_27 : decode cX3_lookUp 27 = .ok (.getfield 21, 3) := by decide +kernel
theorem dX3_lookUp_30 : decode cX3_lookUp 30 = .ok (.iload 4, 2) := by decide +kernel
theorem dX3_lookUp_32 : decode cX3_lookUp 32 = .ok (.iload_n 2, 1) := by decide +kernel
theorem dX3_lookUp_33 : decode cX3_lookUp 33 = .ok (.iadd, 1) := by decide +kernel
theorem dX3_lookUp_34 : decode cX3_lookUp 34 = .ok (.invokevirtual 87, 3) := by decide +kernel
theorem dX3_lookUp_37 : decode cX3_lookUp 37 = .ok (.iload_n 3, 1) := by decide +kernel
theorem dX3_lookUp_38 : decode cX3_lookUp 38 = .ok (.if_icmp .ne 15, 3) := by decide +kernel
theorem dX3_lookUp_41 : decode cX3_lookUp 41 = .ok (.aload_n 0, 1) := by decide +kernel
theorem dX3_lookUp_42 : decode cX3_lookUp 42 = .ok (.getfield 21, 3) := by decide +kernel
theorem dX3_lookUp_45 : decode cX3_lookUp 45 = .ok (.iload 4, 2) := by decide +kernel
theorem dX3_lookUp_47 : decode cX3_lookUp 47 = .ok (.iload_n 2, 1) := by decide +kernel
theorem dX3_lookUp_48 : decode cX3_lookUp 48 = .ok (.iadd, 1) := by decide +kernel
theorem dX3_lookUp_49 : decode cX3_lookUp 49 = .ok (.invokevirtual 90, 3) := by decide +kernel
theorem dX3_lookUp_52 : decode cX3_lookUp 52 = .ok (.ireturn, 1) := by decide +kernel
theorem dX3_lookUp_53 : decode cX3_lookUp 53 = .ok (.aload_n 0, 1) := by decide +kernel
theorem dX3_lookUp_54 : decode cX3_lookUp 54 = .ok (.getfield 12, 3) := by decide +kernel
theorem dX3_lookUp_57 : decode cX3_lookUp 57 = .ok (.iload_n 1, 1) := by decide +kernel
theorem dX3_lookUp_58 : decode cX3_lookUp 58 = .ok (.invokevirtual 111, 3) := by decide +kernel
theorem dX3_lookUp_61 : decode cX3_lookUp 61 = .ok (.ireturn, 1) := by decide +kernel
set_option maxRecDepth 20000 in
theorem ggX3_refusals_X3_refusalsOf : GoodIn wsX3_refusals wsX3_refusalsOf := goodIn_r _ [7, 1, 8, 9, 10, 11, 12, 13, 14, 15, 16, 17, 18, 19, 20, 21, 22, 23, 24, 25, 26, 27, 28, 29, 30, 31, 32, 33, 34, 35, 36, 37, 38, 39, 40, 41] (by decide +kernel) (by decide +kernel)
set_option maxRecDepth 20000 in
theorem gX3_refusals_X3_refusalsOf : GoodIn wsX3_refusals (wsV RX3 114 RX3 yX3_refusalsOf wsX3_refusalsOf) := goodIn_app (goodIn_of _ (by decide +kernel)) ggX3_refusals_X3_refusalsOf
theorem dX3_refusals_0 : decode cX3_refusals 0 = .ok (.iconst 0, 1) := by decide +kernel
theorem dX3_refusals_1 : decode cX3_refusals 1 = .ok (.istore_n 1, 1) := by decide +kernel
theorem dX3_refusals_2 : decode cX3_refusals 2 = .ok (.iconst 0, 1) := by decide +kernel
theorem dX3_refusals_3 : decode cX3_refusals 3 = .ok (.istore_n 2, 1) := by decide +kernel
theorem dX3_refusals_4 : decode cX3_refusals 4 = .ok (.iload_n 2, 1) := by decide +kernel
theorem dX3_refusals_5 : decode cX3_refusals 5 = .ok (.aload_n 0, 1) := by decide +kernel
theorem dX3_refusals_6 : decode cX3_refusals 6 = .ok (.getfield 12, 3) := by decide +kernel
theorem dX3_refusals_9 : decode cX3_refusals 9 = .ok (.getfield 32, 3) := by decide +kernel
theorem dX3_refusals_12 : decode cX3_refusals 12 = .ok (.if_icmp .ge 17, 3) := by decide +kernel
theorem dX3_refusals_15 : decode cX3_refusals 15 = .ok (.iload_n 1, 1) := by decide +kernel
theorem dX3_refusals_16 : decode cX3_refusals 16 = .ok (.aload_n 0, 1) := by decide +kernel
theorem dX3_refusals_17 : decode cX3_refusals 17 = .ok (.iload_n 2, 1) := by decide +kernel
theorem dX3_refusals_18 : decode cX3_refusals 18 = .ok (.invokevirtual 114, 3) := by decide +kernel
theorem dX3_refusals_21 : decode cX3_refusals 21 = .ok (.iadd, 1) := by decide +kernel
theorem dX3_refusals_22 : decode cX3_refusals 22 = .ok (.istore_n 1, 1) := by decide +kernel
theorem dX3_refusals_23 : decode cX3_refusals 23 = .ok (.iinc 2 1, 3) := by decide +kernel
theorem dX3_refusals_26 : decode cX3_refusals 26 = .ok (.goto (-22), 3) := by decide +kernel
theorem dX3_refusals_29 : decode cX3_refusals 29 = .ok (.iload_n 1, 1) := by decide +kernel
theorem dX3_refusals_30 : decode cX3_refusals 30 = .ok (.ireturn, 1) := by decide +kernel
set_option maxRecDepth 20000 in
theorem ggX3_refusalsOf_X1_formOf : GoodIn wsX3_refusalsOf wsX1_formOf := goodIn_r _ [7, 8, 9, 10, 11, 29, 30, 31, 32, 33] (by decide +kernel) (by decide +kernel)
set_option maxRecDepth 20000 in
theorem gX3_refusalsOf_X1_formOf : GoodIn wsX3_refusalsOf (wsV RX3 40 RX1 yX1_formOf wsX1_formOf) := goodIn_app (goodIn_of _ (by decide +kernel)) ggX3_refusalsOf_X1_formOf
set_option maxRecDepth 20000 in
theorem ggX3_refusalsOf_X1_shiftOf : GoodIn wsX3_refusalsOf wsX1_shiftOf := goodIn_r _ [15, 16, 9, 10, 11, 29, 30, 31, 32, 33] (by decide +kernel) (by decide +kernel)
set_option maxRecDepth 20000 in
theorem gX3_refusalsOf_X1_shiftOf : GoodIn wsX3_refusalsOf (wsV RX3 44 RX1 yX1_shiftOf wsX1_shiftOf) := goodIn_app (goodIn_of _ (by decide +kernel)) ggX3_refusalsOf_X1_shiftOf
set_option maxRecDepth 20000 in
theorem ggX3_refusalsOf_X2_isEmptyAt : GoodIn wsX3_refusalsOf wsX2_isEmptyAt := goodIn_r _ [21, 22, 9, 10, 11, 34, 35] (by decide +kernel) (by decide +kernel)
set_option maxRecDepth 20000 in
theorem gX3_refusalsOf_X2_isEmptyAt : GoodIn wsX3_refusalsOf (wsV RX3 117 RX2 yX2_isEmptyAt wsX2_isEmptyAt) := goodIn_app (goodIn_of _ (by decide +kernel)) ggX3_refusalsOf_X2_isEmptyAt
set_option maxRecDepth 20000 in
theorem ggX3_refusalsOf_X2_markAt : GoodIn wsX3_refusalsOf wsX2_markAt := goodIn_r _ [26, 22, 9, 10, 11, 34, 35] (by decide +kernel) (by decide +kernel)
set_option maxRecDepth 20000 in
theorem gX3_refusalsOf_X2_markAt : GoodIn wsX3_refusalsOf (wsV RX3 87 RX2 yX2_markAt wsX2_markAt) := goodIn_app (goodIn_of _ (by decide +kernel)) ggX3_refusalsOf_X2_markAt
theorem dX3_refusalsOf_0 : decode cX3_refusalsOf 0 = .ok (.aload_n 0, 1) := by decide +kernel
theorem dX3_refusalsOf_1 : decode cX3_refusalsOf 1 = .ok (.getfield 12, 3) := by decide +kernel
theorem dX3_refusalsOf_4 : decode cX3_refusalsOf 4 = .ok (.iload_n 1, 1) := by decide +kernel
theorem dX3_refusalsOf_5 : decode cX3_refusalsOf 5 = .ok (.invokevirtual 40, 3) := by decide +kernel
theorem dX3_refusalsOf_8 : decode cX3_refusalsOf 8 = .ok (.istore_n 2, 1) := by decide +kernel
theorem dX3_refusalsOf_9 : decode cX3_refusalsOf 9 = .ok (.aload_n 0, 1) := by decide +kernel
theorem dX3_refusalsOf_10 : decode cX3_refusalsOf 10 = .ok (.getfield 12, 3) := by decide +kernel
theorem dX3_refusalsOf_13 : decode cX3_refusalsOf 13 = .ok (.iload_n 2, 1) := by decide +kernel
theorem dX3_refusalsOf_14 : decode cX3_refusalsOf 14 = .ok (.invokevirtual 44, 3) := by decide +kernel
theorem dX3_refusalsOf_17 : decode cX3_refusalsOf 17 = .ok (.istore_n 3, 1) := by decide +kernel
theorem dX3_refusalsOf_18 : decode cX3_refusalsOf 18 = .ok (.iload_n 3, 1) := by decide +kernel
theorem dX3_refusalsOf_19 : decode cX3_refusalsOf 19 = .ok (.bipush (-9), 2) := by decide +kernel
theorem dX3_refusalsOf_21 : decode cX3_refusalsOf 21 = .ok (.if_icmp .ne 5, 3) := by decide +kernel
theorem dX3_refusalsOf_24 : decode cX3_refusalsOf 24 = .ok (.iconst 0, 1) := by decide +kernel
theorem dX3_refusalsOf_25 : decode cX3_refusalsOf 25 = .ok (.ireturn, 1) := by decide +kernel
theorem dX3_refusalsOf_26 : decode cX3_refusalsOf 26 = .ok (.iconst 0, 1) := by decide +kernel
theorem dX3_refusalsOf_27 : decode cX3_refusalsOf 27 = .ok (.istore 4, 2) := by decide +kernel
theorem dX3_refusalsOf_29 : decode cX3_refusalsOf 29 = .ok (.iload_n 3, 1) := by decide +kernel
theorem dX3_refusalsOf_30 : decode cX3_refusalsOf 30 = .ok (.istore 5, 2) := by decide +kernel
theorem dX3_refusalsOf_32 : decode cX3_refusalsOf 32 = .ok (.iload 5, 2) := by decide +kernel
theorem dX3_refusalsOf_34 : decode cX3_refusalsOf 34 = .ok (.iload_n 3, 1) := by decide +kernel
theorem dX3_refusalsOf_35 : decode cX3_refusalsOf 35 = .ok (.bipush 16, 2) := by decide +kernel
theorem dX3_refusalsOf_37 : decode cX3_refusalsOf 37 = .ok (.iadd, 1) := by decide +kernel
theorem dX3_refusalsOf_38 : decode cX3_refusalsOf 38 = .ok (.if_icmp .ge 37, 3) := by decide +kernel
theorem dX3_refusalsOf_41 : decode cX3_refusalsOf 41 = .ok (.aload_n 0, 1) := by decide +kernel
theorem dX3_refusalsOf_42 : decode cX3_refusalsOf 42 = .ok (.getfield 21, 3) := by decide +kernel
theorem dX3_refusalsOf_45 : decode cX3_refusalsOf 45 = .ok (.iload 5, 2) := by decide +kernel
theorem dX3_refusalsOf_47 : decode cX3_refusalsOf 47 = .ok (.invokevirtual 117, 3) := by decide +kernel
theorem dX3_refusalsOf_50 : decode cX3_refusalsOf 50 = .ok (.ifCond .ne 19, 3) := by decide +kernel
theorem dX3_refusalsOf_53 : decode cX3_refusalsOf 53 = .ok (.aload_n 0, 1) := by decide +kernel
theorem dX3_refusalsOf_54 : decode cX3_refusalsOf 54 = .ok (.getfield 21, 3) := by decide +kernel
theorem dX3_refusalsOf_57 : decode cX3_refusalsOf 57 = .ok (.iload 5, 2) := by decide +kernel
theorem dX3_refusalsOf_59 : decode cX3_refusalsOf 59 = .ok (.invokevirtual 87, 3) := by decide +kernel
theorem dX3_refusalsOf_62 : decode cX3_refusalsOf 62 = .ok (.iload_n 2, 1) := by decide +kernel
theorem dX3_refusalsOf_63 : decode cX3_refusalsOf 63 = .ok (.if_icmp .eq 6, 3) := by decide +kernel
theorem dX3_refusalsOf_66 : decode cX3_refusalsOf 66 = .ok (.iinc 4 1, 3) := by decide +kernel
theorem dX3_refusalsOf_69 : decode cX3_refusalsOf 69 = .ok (.iinc 5 1, 3) := by decide +kernel
theorem dX3_refusalsOf_72 : decode cX3_refusalsOf 72 = .ok (.goto (-40), 3) := by decide +kernel
theorem dX3_refusalsOf_75 : decode cX3_refusalsOf 75 = .ok (.iload 4, 2) := by decide +kernel
theorem dX3_refusalsOf_77 : decode cX3_refusalsOf 77 = .ok (.ireturn, 1) := by decide +kernel
