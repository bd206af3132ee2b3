set_option maxRecDepth 20000 in
theorem ggX0_init_X1_init : GoodIn wsX0_init wsX1_init := goodIn_r _ [11, 12, 2, 3, 13, 14, 15, 16, 17, 18, 19, 20, 21, 8, 22, 23, 24, 25, 26, 29, 30, 31, 32, 33] (by decide +kernel) (by decide +kernel)
set_option maxRecDepth 20000 in
theorem gX0_init_X1_init : GoodIn wsX0_init (wsX1_init) := ggX0_init_X1_init
theorem dX0_init_0 : decode cX0_init 0 = .ok (.aload_n 0, 1) := by decide +kernel
theorem dX0_init_1 : decode cX0_init 1 = .ok (.invokespecial 3, 3) := by decide +kernel
theorem dX0_init_4 : decode cX0_init 4 = .ok (.aload_n 0, 1) := by decide +kernel
theorem dX0_init_5 : decode cX0_init 5 = .ok (.iconst 0, 1) := by decide +kernel
theorem dX0_init_6 : decode cX0_init 6 = .ok (.putfield 9, 3) := by decide +kernel
theorem dX0_init_9 : decode cX0_init 9 = .ok (.aload_n 0, 1) := by decide +kernel
theorem dX0_init_10 : decode cX0_init 10 = .ok (.iconst 5, 1) := by decide +kernel
theorem dX0_init_11 : decode cX0_init 11 = .ok (.anewarray 15, 3) := by decide +kernel
theorem dX0_init_14 : decode cX0_init 14 = .ok (.putfield 17, 3) := by decide +kernel
theorem dX0_init_17 : decode cX0_init 17 = .ok (.iconst 0, 1) := by decide +kernel
theorem dX0_init_18 : decode cX0_init 18 = .ok (.istore_n 1, 1) := by decide +kernel
theorem dX0_init_19 : decode cX0_init 19 = .ok (.iload_n 1, 1) := by decide +kernel
theorem dX0_init_20 : decode cX0_init 20 = .ok (.iconst 5, 1) := by decide +kernel
theorem dX0_init_21 : decode cX0_init 21 = .ok (.if_icmp .ge 22, 3) := by decide +kernel
theorem dX0_init_24 : decode cX0_init 24 = .ok (.aload_n 0, 1) := by decide +kernel
theorem dX0_init_25 : decode cX0_init 25 = .ok (.getfield 17, 3) := by decide +kernel
theorem dX0_init_28 : decode cX0_init 28 = .ok (.iload_n 1, 1) := by decide +kernel
theorem dX0_init_29 : decode cX0_init 29 = .ok (.new 15, 3) := by decide +kernel
theorem dX0_init_32 : decode cX0_init 32 = .ok (.dup, 1) := by decide +kernel
theorem dX0_init_33 : decode cX0_init 33 = .ok (.invokespecial 21, 3) := by decide +kernel
theorem dX0_init_36 : decode cX0_init 36 = .ok (.aastore, 1) := by decide +kernel
theorem dX0_init_37 : decode cX0_init 37 = .ok (.iinc 1 1, 3) := by decide +kernel
theorem dX0_init_40 : decode cX0_init 40 = .ok (.goto (-21), 3) := by decide +kernel
theorem dX0_init_43 : decode cX0_init 43 = .ok (.return_, 1) := by decide +kernel
set_option maxRecDepth 20000 in
theorem ggX0_remember_X0_dropOldest : GoodIn wsX0_remember wsX0_dropOldest := goodIn_r _ [7, 2, 1, 22, 23] (by decide +kernel) (by decide +kernel)
set_option maxRecDepth 20000 in
theorem gX0_remember_X0_dropOldest : GoodIn wsX0_remember (wsV RX0 22 RX0 yX0_dropOldest wsX0_dropOldest) := goodIn_app (goodIn_of _ (by decide +kernel)) ggX0_remember_X0_dropOldest
set_option maxRecDepth 20000 in
theorem ggX0_remember_X1_copyFrom : GoodIn wsX0_remember wsX1_copyFrom := goodIn_r _ [12, 13, 14, 15, 16, 17, 18, 19, 20, 21, 24, 25, 26, 27, 28] (by decide +kernel) (by decide +kernel)
set_option maxRecDepth 20000 in
theorem gX0_remember_X1_copyFrom : GoodIn wsX0_remember (wsV RX0 25 RX1 yX1_copyFrom wsX1_copyFrom) := goodIn_app (goodIn_of _ (by decide +kernel)) ggX0_remember_X1_copyFrom
theorem dX0_remember_0 : decode cX0_remember 0 = .ok (.aload_n 0, 1) := by decide +kernel
theorem dX0_remember_1 : decode cX0_remember 1 = .ok (.getfield 9, 3) := by decide +kernel
theorem dX0_remember_4 : decode cX0_remember 4 = .ok (.iconst 5, 1) := by decide +kernel
theorem dX0_remember_5 : decode cX0_remember 5 = .ok (.if_icmp .lt 7, 3) := by decide +kernel
theorem dX0_remember_8 : decode cX0_remember 8 = .ok (.aload_n 0, 1) := by decide +kernel
theorem dX0_remember_9 : decode cX0_remember 9 = .ok (.invokevirtual 22, 3) := by decide +kernel
theorem dX0_remember_12 : decode cX0_remember 12 = .ok (.aload_n 0, 1) := by decide +kernel
theorem dX0_remember_13 : decode cX0_remember 13 = .ok (.getfield 17, 3) := by decide +kernel
theorem dX0_remember_16 : decode cX0_remember 16 = .ok (.aload_n 0, 1) := by decide +kernel
theorem dX0_remember_17 : decode cX0_remember 17 = .ok (.getfield 9, 3) := by decide +kernel
theorem dX0_remember_20 : decode cX0_remember 20 = .ok (.aaload, 1) := by decide +kernel
theorem dX0_remember_21 : decode cX0_remember 21 = .ok (.aload_n 1, 1) := by decide +kernel
theorem dX0_remember_22 : decode cX0_remember 22 = .ok (.invokevirtual 25, 3) := by decide +kernel
theorem dX0_remember_25 : decode cX0_remember 25 = .ok (.aload_n 0, 1) := by decide +kernel
theorem dX0_remember_26 : decode cX0_remember 26 = .ok (.dup, 1) := by decide +kernel
theorem dX0_remember_27 : decode cX0_remember 27 = .ok (.getfield 9, 3) := by decide +kernel
theorem dX0_remember_30 : decode cX0_remember 30 = .ok (.iconst 1, 1) := by decide +kernel
theorem dX0_remember_31 : decode cX0_remember 31 = .ok (.iadd, 1) := by decide +kernel
theorem dX0_remember_32 : decode cX0_remember 32 = .ok (.putfield 9, 3) := by decide +kernel
theorem dX0_remember_35 : decode cX0_remember 35 = .ok (.return_, 1) := by decide +kernel
theorem dX0_dropOldest_0 : decode cX0_dropOldest 0 = .ok (.aload_n 0, 1) := by decide +kernel
theorem dX0_dropOldest_1 : decode cX0_dropOldest 1 = .ok (.getfield 17, 3) := by decide +kernel
theorem dX0_dropOldest_4 : decode cX0_dropOldest 4 = .ok (.iconst 0, 1) := by decide +kernel
theorem dX0_dropOldest_5 : decode cX0_dropOldest 5 = .ok (.aaload, 1) := by decide +kernel
theorem dX0_dropOldest_6 : decode cX0_dropOldest 6 = .ok (.astore_n 1, 1) := by decide +kernel
theorem dX0_dropOldest_7 : decode cX0_dropOldest 7 = .ok (.iconst 1, 1) := by decide +kernel
theorem dX0_dropOldest_8 : decode cX0_dropOldest 8 = .ok (.istore_n 2, 1) := by decide +kernel
theorem dX0_dropOldest_9 : decode cX0_dropOldest 9 = .ok (.iload_n 2, 1) := by decide +kernel
theorem dX0_dropOldest_10 : decode cX0_dropOldest 10 = .ok (.iconst 5, 1) := by decide +kernel
theorem dX0_dropOldest_11 : decode cX0_dropOldest 11 = .ok (.if_icmp .ge 23, 3) := by decide +kernel
theorem dX0_dropOldest_14 : decode cX0_dropOldest 14 = .ok (.aload_n 0, 1) := by decide +kernel
theorem dX0_dropOldest_15 : decode cX0_dropOldest 15 = .ok (.getfield 17, 3) := by decide +kernel
theorem dX0_dropOldest_18 : decode cX0_dropOldest 18 = .ok (.iload_n 2, 1) := by decide +kernel
theorem dX0_dropOldest_19 : decode cX0_dropOldest 19 = .ok (.iconst 1, 1) := by decide +kernel
theorem dX0_dropOldest_20 : decode cX0_dropOldest 20 = .ok (.isub, 1) := by decide +kernel
theorem dX0_dropOldest_21 : decode cX0_dropOldest 21 = .ok (.aload_n 0, 1) := by decide +kernel
theorem dX0_dropOldest_22 : decode cX0_dropOldest 22 = .ok (.getfield 17, 3) := by decide +kernel
theorem dX0_dropOldest_25 : decode cX0_dropOldest 25 = .ok (.iload_n 2, 1) := by decide +kernel
theorem dX0_dropOldest_26 : decode cX0_dropOldest 26 = .ok (.aaload, 1) := by decide +kernel
theorem dX0_dropOldest_27 : decode cX0_dropOldest 27 = .ok (.aastore, 1) := by decide +kernel
theorem dX0_dropOldest_28 : decode cX0_dropOldest 28 = .ok (.iinc 2 1, 3) := by decide +kernel
theorem dX0_dropOldest_31 : decode cX0_dropOldest 31 = .ok (.goto (-22), 3) := by decide +kernel
theorem dX0_dropOldest_34 : decode cX0_dropOldest 34 = .ok (.aload_n 0, 1) := by decide +kernel
theorem dX0_dropOldest_35 : decode cX0_dropOldest 35 = .ok (.getfield 17, 3) := by decide +kernel
theorem dX0_dropOldest_38 : decode cX0_dropOldest 38 = .ok (.iconst 4, 1) := by decide +kernel
theorem dX0_dropOldest_39 : decode cX0_dropOldest 39 = .ok (.aload_n 1, 1) := by decide +kernel
theorem dX0_dropOldest_40 : decode cX0_dropOldest 40 = .ok (.aastore, 1) := by decide +kernel
theorem dX0_dropOldest_41 : decode cX0_dropOldest 41 = .ok (.aload_n 0, 1) := by decide +kernel
theorem dX0_dropOldest_42 : decode cX0_dropOldest 42 = .ok (.dup, 1) := by decide +kernel
theorem dX0_dropOldest_43 : decode cX0_dropOldest 43 = .ok (.getfield 9, 3) := by decide +kernel
theorem dX0_dropOldest_46 : decode cX0_dropOldest 46 = .ok (.iconst 1, 1) := by decide +kernel
theorem dX0_dropOldest_47 : decode cX0_dropOldest 47 = .ok (.isub, 1) := by decide +kernel
theorem dX0_dropOldest_48 : decode cX0_dropOldest 48 = .ok (.putfield 9, 3) := by decide +kernel
theorem dX0_dropOldest_51 : decode cX0_dropOldest 51 = .ok (.return_, 1) := by decide +kernel
theorem dX0_takeLatest_0 : decode cX0_takeLatest 0 = .ok (.aload_n 0, 1) := by decide +kernel
theorem dX0_takeLatest_1 : decode cX0_takeLatest 1 = .ok (.dup, 1) := by decide +kernel
theorem dX0_takeLatest_2 : decode cX0_takeLatest 2 = .ok (.getfield 9, 3) := by decide +kernel
theorem dX0_takeLatest_5 : decode cX0_takeLatest 5 = .ok (.iconst 1, 1) := by decide +kernel
theorem dX0_takeLatest_6 : decode cX0_takeLatest 6 = .ok (.isub, 1) := by decide +kernel
theorem dX0_takeLatest_7 : decode cX0_takeLatest 7 = .ok (.putfield 9, 3) := by decide +kernel
theorem dX0_takeLatest_10 : decode cX0_takeLatest 10 = .ok (.aload_n 0, 1) := by decide +kernel
theorem dX0_takeLatest_11 : decode cX0_takeLatest 11 = .ok (.getfield 17, 3) := by decide +kernel
theorem dX0_takeLatest_14 : decode cX0_takeLatest 14 = .ok (.aload_n 0, 1) := by decide +kernel
theorem dX0_takeLatest_15 : decode cX0_takeLatest 15 = .ok (.getfield 9, 3) := by decide +kernel
theorem dX0_takeLatest_18 : decode cX0_takeLatest 18 = .ok (.aaload, 1) := by decide +kernel
theorem dX0_takeLatest_19 : decode cX0_takeLatest 19 = .ok (.areturn, 1) := by decide +kernel
set_option maxRecDepth 20000 in
theorem ggX3_init_X1_init : GoodIn wsX3_init wsX1_init := goodIn_r _ [14, 15, 2, 3, 16, 17, 18, 19, 20, 21, 22, 23, 24, 6, 25, 26, 27, 28, 29, 41, 42, 43, 44, 45] (by decide +kernel) (by decide +kernel)
set_option maxRecDepth 20000 in
theorem gX3_init_X1_init : GoodIn wsX3_init (wsX1_init) := ggX3_init_X1_init
set_option maxRecDepth 20000 in
theorem ggX3_init_X2_init : GoodIn wsX3_init wsX2_init := goodIn_r _ [32, 33, 2, 3, 17, 34, 35, 36, 37, 38, 10, 39, 40, 27, 28, 29, 48, 49] (by decide +kernel) (by decide +kernel)
set_option maxRecDepth 20000 in
theorem gX3_init_X2_init : GoodIn wsX3_init (wsX2_init) := ggX3_init_X2_init
theorem dX3_init_0 : decode cX3_init 0 = .ok (.aload_n 0, 1) := by decide +kernel
theorem dX3_init_1 : decode cX3_init 1 = .ok (.invokespecial 3, 3) := by decide +kernel
theorem dX3_init_4 : decode cX3_init 4 = .ok (.aload_n 0, 1) := by decide +kernel
theorem dX3_init_5 : decode cX3_init 5 = .ok (.new 9, 3) := by decide +kernel
theorem dX3_init_8 : decode cX3_init 8 = .ok (.dup, 1) := by decide +kernel
theorem dX3_init_9 : decode cX3_init 9 = .ok (.invokespecial 11, 3) := by decide +kernel
theorem dX3_init_12 : decode cX3_init 12 = .ok (.putfield 12, 3) := by decide +kernel
theorem dX3_init_15 : decode cX3_init 15 = .ok (.aload_n 0, 1) := by decide +kernel
theorem dX3_init_16 : decode cX3_init 16 = .ok (.new 18, 3) := by decide +kernel
theorem dX3_init_19 : decode cX3_init 19 = .ok (.dup, 1) := by decide +kernel
theorem dX3_init_20 : decode cX3_init 20 = .ok (.invokespecial 20, 3) := by decide +kernel
theorem dX3_init_23 : decode cX3_init 23 = .ok (.putfield 21, 3) := by decide +kernel
theorem dX3_init_26 : decode cX3_init 26 = .ok (.return_, 1) := by decide +kernel
set_option maxRecDepth 20000 in
theorem ggX3_restore_X1_copyFrom : GoodIn wsX3_restore wsX1_copyFrom := goodIn_r _ [8, 9, 10, 11, 12, 13, 14, 15, 16, 17, 54, 55, 56, 57, 58] (by decide +kernel) (by decide +kernel)
set_option maxRecDepth 20000 in
theorem gX3_restore_X1_copyFrom : GoodIn wsX3_restore (wsV RX3 25 RX1 yX1_copyFrom wsX1_copyFrom) := goodIn_app (goodIn_of _ (by decide +kernel)) ggX3_restore_X1_copyFrom
set_option maxRecDepth 20000 in
theorem ggX3_restore_X2_emptyAll : GoodIn wsX3_restore wsX2_emptyAll := goodIn_r _ [22, 23, 24, 25, 26, 27, 28, 59, 60] (by decide +kernel) (by decide +kernel)
set_option maxRecDepth 20000 in
theorem gX3_restore_X2_emptyAll : GoodIn wsX3_restore (wsV RX3 29 RX2 yX2_emptyAll wsX2_emptyAll) := goodIn_app (goodIn_of _ (by decide +kernel)) ggX3_restore_X2_emptyAll
set_option maxRecDepth 20000 in
theorem ggX3_restore_X3_fillCellsOf : GoodIn wsX3_restore wsX3_fillCellsOf := goodIn_r _ [33, 1, 34, 2, 35, 36, 37, 7, 38, 17, 39, 40, 41, 42, 10, 43, 44, 45, 46, 15, 47, 48, 49, 50, 21, 51, 23, 24, 52, 53, 54, 55, 56, 57, 58, 59, 60] (by decide +kernel) (by decide +kernel)
set_option maxRecDepth 20000 in
theorem gX3_restore_X3_fillCellsOf : GoodIn wsX3_restore (wsV RX3 36 RX3 yX3_fillCellsOf wsX3_fillCellsOf) := goodIn_app (goodIn_of _ (by decide +kernel)) ggX3_restore_X3_fillCellsOf
theorem dX3_restore_0 : decode cX3_restore 0 = .ok (.aload_n 0, 1) := by decide +kernel
theorem dX3_restore_1 : decode cX3_restore 1 = .ok (.getfield 12, 3) := by decide +kernel
theorem dX3_restore_4 : decode cX3_restore 4 = .ok (.aload_n 1, 1) := by decide +kernel
theorem dX3_restore_5 : decode cX3_restore 5 = .ok (.invokevirtual 25, 3) := by decide +kernel
theorem dX3_restore_8 : decode cX3_restore 8 = .ok (.aload_n 0, 1) := by decide +kernel
theorem dX3_restore_9 : decode cX3_restore 9 = .ok (.getfield 21, 3) := by decide +kernel
theorem dX3_restore_12 : decode cX3_restore 12 = .ok (.invokevirtual 29, 3) := by decide +kernel
theorem dX3_restore_15 : decode cX3_restore 15 = .ok (.iconst 0, 1) := by decide +kernel
theorem dX3_restore_16 : decode cX3_restore 16 = .ok (.istore_n 2, 1) := by decide +kernel
theorem dX3_restore_17 : decode cX3_restore 17 = .ok (.iload_n 2, 1) := by decide +kernel
theorem dX3_restore_18 : decode cX3_restore 18 = .ok (.aload_n 0, 1) := by decide +kernel
theorem dX3_restore_19 : decode cX3_restore 19 = .ok (.getfield 12, 3) := by decide +kernel
theorem dX3_restore_22 : decode cX3_restore 22 = .ok (.getfield 32, 3) := by decide +kernel
theorem dX3_restore_25 : decode cX3_restore 25 = .ok (.if_icmp .ge 14, 3) := by decide +kernel
theorem dX3_restore_28 : decode cX3_restore 28 = .ok (.aload_n 0, 1) := by decide +kernel
theorem dX3_restore_29 : decode cX3_restore 29 = .ok (.iload_n 2, 1) := by decide +kernel
theorem dX3_restore_30 : decode cX3_restore 30 = .ok (.invokevirtual 36, 3) := by decide +kernel
theorem dX3_restore_33 : decode cX3_restore 33 = .ok (.iinc 2 1, 3) := by decide +kernel
theorem dX3_restore_36 : decode cX3_restore 36 = .ok (.goto (-19), 3) := by decide +kernel
theorem dX3_restore_39 : decode cX3_restore 39 = .ok (.return_, 1) := by decide +kernel
set_option maxRecDepth 20000 in
theorem ggX3_fillCellsOf_X1_shiftOf : GoodIn wsX3_fillCellsOf wsX1_shiftOf := goodIn_r _ [8, 9, 30, 31, 32, 33, 34] (by decide +kernel) (by decide +kernel)
set_option maxRecDepth 20000 in
theorem gX3_fillCellsOf_X1_shiftOf : GoodIn wsX3_fillCellsOf (wsV RX3 44 RX1 yX1_shiftOf wsX1_shiftOf) := goodIn_app (goodIn_of _ (by decide +kernel)) ggX3_fillCellsOf_X1_shiftOf
set_option maxRecDepth 20000 in
theorem ggX3_fillCellsOf_X1_isEntry : GoodIn wsX3_fillCellsOf wsX1_isEntry := goodIn_r _ [13, 14, 15, 16, 17, 7, 18, 19, 30, 31, 32, 33, 34] (by decide +kernel) (by decide +kernel)
set_option maxRecDepth 20000 in
theorem gX3_fillCellsOf_X1_isEntry : GoodIn wsX3_fillCellsOf (wsV RX3 48 RX1 yX1_isEntry wsX1_isEntry) := goodIn_app (goodIn_of _ (by decide +kernel)) ggX3_fillCellsOf_X1_isEntry
set_option maxRecDepth 20000 in
theorem ggX3_fillCellsOf_X1_valueAt : GoodIn wsX3_fillCellsOf wsX1_valueAt := goodIn_r _ [18, 19, 30, 31, 32, 33, 34] (by decide +kernel) (by decide +kernel)
set_option maxRecDepth 20000 in
theorem gX3_fillCellsOf_X1_valueAt : GoodIn wsX3_fillCellsOf (wsV RX3 52 RX1 yX1_valueAt wsX1_valueAt) := goodIn_app (goodIn_of _ (by decide +kernel)) ggX3_fillCellsOf_X1_valueAt
set_option maxRecDepth 20000 in
theorem ggX3_fillCellsOf_X2_fillCell : GoodIn wsX3_fillCellsOf wsX2_fillCell := goodIn_r _ [25, 26, 27, 35, 36] (by decide +kernel) (by decide +kernel)
set_option maxRecDepth 20000 in
theorem gX3_fillCellsOf_X2_fillCell : GoodIn wsX3_fillCellsOf (wsV RX3 56 RX2 yX2_fillCell wsX2_fillCell) := goodIn_app (goodIn_of _ (by decide +kernel)) ggX3_fillCellsOf_X2_fillCell
theorem dX3_fillCellsOf_0 : decode cX3_fillCellsOf 0 = .ok (.aload_n 0, 1) := by decide +kernel
theorem dX3_fillCellsOf_1 : decode cX3_fillCellsOf 1 = .ok (.getfield 12, 3) := by decide +kernel
theorem dX3_fillCellsOf_4 : decode cX3_fillCellsOf 4 = .ok (.getfield 40, 3) := by decide +kernel
theorem dX3_fillCellsOf_7 : decode cX3_fillCellsOf 7 = .ok (.iload_n 1, 1) := by decide +kernel
theorem dX3_fillCellsOf_8 : decode cX3_fillCellsOf 8 = .ok (.iaload, 1) := by decide +kernel
theorem dX3_fillCellsOf_9 : decode cX3_fillCellsOf 9 = .ok (.istore_n 2, 1) := by decide +kernel
theorem dX3_fillCellsOf_10 : decode cX3_fillCellsOf 10 = .ok (.aload_n 0, 1) := by decide +kernel
theorem dX3_fillCellsOf_11 : decode cX3_fillCellsOf 11 = .ok (.getfield 12, 3) := by decide +kernel
theorem dX3_fillCellsOf_14 : decode cX3_fillCellsOf 14 = .ok (.iload_n 2, 1) := by decide +kernel
theorem dX3_fillCellsOf_15 : decode cX3_fillCellsOf 15 = .ok (.invokevirtual 44, 3) := by decide +kernel
theorem dX3_fillCellsOf_18 : decode cX3_fillCellsOf 18 = .ok (.istore_n 3, 1) := by decide +kernel
theorem dX3_fillCellsOf_19 : decode cX3_fillCellsOf 19 = .ok (.iload_n 3, 1) := by decide +kernel
theorem dX3_fillCellsOf_20 : decode cX3_fillCellsOf 20 = .ok (.bipush (-9), 2) := by decide +kernel
theorem dX3_fillCellsOf_22 : decode cX3_fillCellsOf 22 = .ok (.if_icmp .ne 4, 3) := by decide +kernel
theorem dX3_fillCellsOf_25 : decode cX3_fillCellsOf 25 = .ok (.return_, 1) := by decide +kernel
theorem dX3_fillCellsOf_26 : decode cX3_fillCellsOf 26 = .ok (.iconst 0, 1) := by decide +kernel
theorem dX3_fillCellsOf_27 : decode cX3_fillCellsOf 27 = .ok (.istore 4, 2) := by decide +kernel
theorem dX3_fillCellsOf_29 : decode cX3_fillCellsOf 29 = .ok (.iload 4, 2) := by decide +kernel
theorem dX3_fillCellsOf_31 : decode cX3_fillCellsOf 31 = .ok (.bipush 16, 2) := by decide +kernel
theorem dX3_fillCellsOf_33 : decode cX3_fillCellsOf 33 = .ok (.if_icmp .ge 44, 3) := by decide +kernel
theorem dX3_fillCellsOf_36 : decode cX3_fillCellsOf 36 = .ok (.aload_n 0, 1) := by decide +kernel
theorem dX3_fillCellsOf_37 : decode cX3_fillCellsOf 37 = .ok (.getfield 12, 3) := by decide +kernel
theorem dX3_fillCellsOf_40 : decode cX3_fillCellsOf 40 = .ok (.iload_n 1, 1) := by decide +kernel
theorem dX3_fillCellsOf_41 : decode cX3_fillCellsOf 41 = .ok (.iload 4, 2) := by decide +kernel
theorem dX3_fillCellsOf_43 : decode cX3_fillCellsOf 43 = .ok (.invokevirtual 48, 3) := by decide +kernel
theorem dX3_fillCellsOf_46 : decode cX3_fillCellsOf 46 = .ok (.ifCond .eq 25, 3) := by decide +kernel
theorem dX3_fillCellsOf_49 : decode cX3_fillCellsOf 49 = .ok (.aload_n 0, 1) := by decide +kernel
theorem dX3_fillCellsOf_50 : decode cX3_fillCellsOf 50 = .ok (.getfield 21, 3) := by decide +kernel
theorem dX3_fillCellsOf_53 : decode cX3_fillCellsOf 53 = .ok (.iload_n 3, 1) := by decide +kernel
theorem dX3_fillCellsOf_54 : decode cX3_fillCellsOf 54 = .ok (.iload 4, 2) := by decide +kernel
theorem dX3_fillCellsOf_56 : decode cX3_fillCellsOf 56 = .ok (.iadd, 1) := by decide +kernel
theorem dX3_fillCellsOf_57 : decode cX3_fillCellsOf 57 = .ok (.aload_n 0, 1) := by decide +kernel
theorem dX3_fillCellsOf_58 : decode cX3_fillCellsOf 58 = .ok (.getfield 12, 3) := by decide +kernel
theorem dX3_fillCellsOf_61 : decode cX3_fillCellsOf 61 = .ok (.iload_n 1, 1) := by decide +kernel
theorem dX3_fillCellsOf_62 : decode cX3_fillCellsOf 62 = .ok (.iload 4, 2) := by decide +kernel
theorem dX3_fillCellsOf_64 : decode cX3_fillCellsOf 64 = .ok (.invokevirtual 52, 3) := by decide +kernel
theorem dX3_fillCellsOf_67 : decode cX3_fillCellsOf 67 = .ok (.iload_n 2, 1) := by decide +kernel
theorem dX3_fillCellsOf_68 : decode cX3_fillCellsOf 68 = .ok (.invokevirtual 56, 3) := by decide +kernel
theorem dX3_fillCellsOf_71 : decode cX3_fillCellsOf 71 = .ok (.iinc 4 1, 3) := by decide +kernel
theorem dX3_fillCellsOf_74 : decode cX3_fillCellsOf 74 = .ok (.goto (-45), 3) := by decide +kernel
theorem dX3_fillCellsOf_77 : decode cX3_fillCellsOf 77 = .ok (.return_, 1) := by decide +kernel
set_option maxRecDepth 20000 in
theorem ggX3_settle_X3_hasEntriesOf : GoodIn wsX3_settle wsX3_hasEntriesOf := goodIn_r _ [7, 1, 8, 9, 10, 11, 12, 13, 14, 15, 16, 17, 18, 19, 20, 21, 22, 23, 24, 25, 26, 27, 84, 85, 91, 92, 86, 87, 88, 89, 90] (by decide +kernel) (by decide +kernel)
set_option maxRecDepth 20000 in
theorem gX3_settle_X3_hasEntriesOf : GoodIn wsX3_settle (wsV RX3 60 RX3 yX3_hasEntriesOf wsX3_hasEntriesOf) := goodIn_app (goodIn_of _ (by decide +kernel)) ggX3_settle_X3_hasEntriesOf
set_option maxRecDepth 20000 in
theorem ggX3_settle_X3_leaveForm : GoodIn wsX3_settle wsX3_leaveForm := goodIn_r _ [31, 1, 2, 8, 32, 11, 12, 13, 14, 15, 16, 33, 34, 35, 36, 37, 38, 39, 40, 41, 42, 43, 44, 45, 46, 47, 48, 49, 84, 85, 86, 87, 88, 89, 90, 91, 92] (by decide +kernel) (by decide +kernel)
set_option maxRecDepth 20000 in
theorem gX3_settle_X3_leaveForm : GoodIn wsX3_settle (wsV RX3 63 RX3 yX3_leaveForm wsX3_leaveForm) := goodIn_app (goodIn_of _ (by decide +kernel)) ggX3_settle_X3_leaveForm
set_option maxRecDepth 20000 in
theorem ggX3_settle_X1_columnsOf : GoodIn wsX3_settle wsX1_columnsOf := goodIn_r _ [53, 54, 18, 19, 14, 20, 21, 22, 23, 24, 25, 26, 86, 87, 88, 89, 90] (by decide +kernel) (by decide +kernel)
set_option maxRecDepth 20000 in
theorem gX3_settle_X1_columnsOf : GoodIn wsX3_settle (wsV RX3 66 RX1 yX1_columnsOf wsX1_columnsOf) := goodIn_app (goodIn_of _ (by decide +kernel)) ggX3_settle_X1_columnsOf
set_option maxRecDepth 20000 in
theorem ggX3_settle_X3_formWithEntriesOf : GoodIn wsX3_settle wsX3_formWithEntriesOf := goodIn_r _ [58, 3, 4, 5, 6, 7, 1, 8, 9, 10, 11, 12, 13, 14, 15, 16, 17, 18, 19, 20, 21, 22, 23, 24, 25, 26, 27, 84, 85, 91, 92, 86, 87, 88, 89, 90] (by decide +kernel) (by decide +kernel)
set_option maxRecDepth 20000 in
theorem gX3_settle_X3_formWithEntriesOf : GoodIn wsX3_settle (wsV RX3 69 RX3 yX3_formWithEntriesOf wsX3_formWithEntriesOf) := goodIn_app (goodIn_of _ (by decide +kernel)) ggX3_settle_X3_formWithEntriesOf
set_option maxRecDepth 20000 in
theorem ggX3_settle_X3_pushNewForm : GoodIn wsX3_settle wsX3_pushNewForm := goodIn_r _ [62, 1, 8, 2, 32, 63, 64, 65, 14, 66, 16, 67, 68, 69, 42, 70, 71, 72, 73, 74, 75, 76, 77, 78, 44, 79, 80, 81, 6, 82, 11, 12, 13, 15, 17, 18, 19, 20, 21, 22, 23, 24, 25, 26, 27, 83, 46, 47, 48, 49, 84, 85, 86, 87, 88, 89, 90, 91, 92] (by decide +kernel) (by decide +kernel)
set_option maxRecDepth 20000 in
theorem gX3_settle_X3_pushNewForm : GoodIn wsX3_settle (wsV RX3 72 RX3 yX3_pushNewForm wsX3_pushNewForm) := goodIn_app (goodIn_of _ (by decide +kernel)) ggX3_settle_X3_pushNewForm
theorem dX3_settle_0 : decode cX3_settle 0 = .ok (.aload_n 0, 1) := by decide +kernel
theorem dX3_settle_1 : decode cX3_settle 1 = .ok (.aload_n 0, 1) := by decide +kernel
theorem dX3_settle_2 : decode cX3_settle 2 = .ok (.getfield 12, 3) := by decide +kernel
theorem dX3_settle_5 : decode cX3_settle 5 = .ok (.getfield 40, 3) := by decide +kernel
theorem dX3_settle_8 : decode cX3_settle 8 = .ok (.iload_n 1, 1) := by decide +kernel
theorem dX3_settle_9 : decode cX3_settle 9 = .ok (.iaload, 1) := by decide +kernel
theorem dX3_settle_10 : decode cX3_settle 10 = .ok (.iload_n 1, 1) := by decide +kernel
theorem dX3_settle_11 : decode cX3_settle 11 = .ok (.invokevirtual 60, 3) := by decide +kernel
theorem dX3_settle_14 : decode cX3_settle 14 = .ok (.ifCond .eq 4, 3) := by decide +kernel
theorem dX3_settle_17 : decode cX3_settle 17 = .ok (.return_, 1) := by decide +kernel
theorem dX3_settle_18 : decode cX3_settle 18 = .ok (.aload_n 0, 1) := by decide +kernel
theorem dX3_settle_19 : decode cX3_settle 19 = .ok (.iload_n 1, 1) := by decide +kernel
theorem dX3_settle_20 : decode cX3_settle 20 = .ok (.invokevirtual 63, 3) := by decide +kernel
theorem dX3_settle_23 : decode cX3_settle 23 = .ok (.aload_n 0, 1) := by decide +kernel
theorem dX3_settle_24 : decode cX3_settle 24 = .ok (.getfield 12, 3) := by decide +kernel
theorem dX3_settle_27 : decode cX3_settle 27 = .ok (.iload_n 1, 1) := by decide +kernel
theorem dX3_settle_28 : decode cX3_settle 28 = .ok (.invokevirtual 66, 3) := by decide +kernel
theorem dX3_settle_31 : decode cX3_settle 31 = .ok (.istore_n 2, 1) := by decide +kernel
theorem dX3_settle_32 : decode cX3_settle 32 = .ok (.iload_n 2, 1) := by decide +kernel
theorem dX3_settle_33 : decode cX3_settle 33 = .ok (.ifCond .ne 4, 3) := by decide +kernel
theorem dX3_settle_36 : decode cX3_settle 36 = .ok (.return_, 1) := by decide +kernel
theorem dX3_settle_37 : decode cX3_settle 37 = .ok (.aload_n 0, 1) := by decide +kernel
theorem dX3_settle_38 : decode cX3_settle 38 = .ok (.getfield 12, 3) := by decide +kernel
theorem dX3_settle_41 : decode cX3_settle 41 = .ok (.getfield 40, 3) := by decide +kernel
theorem dX3_settle_44 : decode cX3_settle 44 = .ok (.iload_n 1, 1) := by decide +kernel
theorem dX3_settle_45 : decode cX3_settle 45 = .ok (.aload_n 0, 1) := by decide +kernel
theorem dX3_settle_46 : decode cX3_settle 46 = .ok (.iload_n 1, 1) := by decide +kernel
theorem dX3_settle_47 : decode cX3_settle 47 = .ok (.invokevirtual 69, 3) := by decide +kernel
theorem dX3_settle_50 : decode cX3_settle 50 = .ok (.iastore, 1) := by decide +kernel
theorem dX3_settle_51 : decode cX3_settle 51 = .ok (.aload_n 0, 1) := by decide +kernel
theorem dX3_settle_52 : decode cX3_settle 52 = .ok (.getfield 12, 3) := by decide +kernel
theorem dX3_settle_55 : decode cX3_settle 55 = .ok (.getfield 40, 3) := by decide +kernel
theorem dX3_settle_58 : decode cX3_settle 58 = .ok (.iload_n 1, 1) := by decide +kernel
theorem dX3_settle_59 : decode cX3_settle 59 = .ok (.iaload, 1) := by decide +kernel
theorem dX3_settle_60 : decode cX3_settle 60 = .ok (.bipush (-9), 2) := by decide +kernel
theorem dX3_settle_62 : decode cX3_settle 62 = .ok (.if_icmp .ne 9, 3) := by decide +kernel
theorem dX3_settle_65 : decode cX3_settle 65 = .ok (.aload_n 0, 1) := by decide +kernel
theorem dX3_settle_66 : decode cX3_settle 66 = .ok (.iload_n 1, 1) := by decide +kernel
theorem dX3_settle_67 : decode cX3_settle 67 = .ok (.iload_n 2, 1) := by decide +kernel
theorem dX3_settle_68 : decode cX3_settle 68 = .ok (.invokevirtual 72, 3) := by decide +kernel
theorem dX3_settle_71 : decode cX3_settle 71 = .ok (.return_, 1) := by decide +kernel
set_option maxRecDepth 20000 in
theorem ggX3_leaveForm_X1_shiftOf : GoodIn wsX3_leaveForm wsX1_shiftOf := goodIn_r _ [9, 10, 30, 31, 32, 33, 34] (by decide +kernel) (by decide +kernel)
set_option maxRecDepth 20000 in
theorem gX3_leaveForm_X1_shiftOf : GoodIn wsX3_leaveForm (wsV RX3 44 RX1 yX1_shiftOf wsX1_shiftOf) := goodIn_app (goodIn_of _ (by decide +kernel)) ggX3_leaveForm_X1_shiftOf
set_option maxRecDepth 20000 in
theorem ggX3_leaveForm_X1_sharersOf : GoodIn wsX3_leaveForm wsX1_sharersOf := goodIn_r _ [14, 15, 16, 30, 31, 32, 33, 34] (by decide +kernel) (by decide +kernel)
set_option maxRecDepth 20000 in
theorem gX3_leaveForm_X1_sharersOf : GoodIn wsX3_leaveForm (wsV RX3 76 RX1 yX1_sharersOf wsX1_sharersOf) := goodIn_app (goodIn_of _ (by decide +kernel)) ggX3_leaveForm_X1_sharersOf
set_option maxRecDepth 20000 in
theorem ggX3_leaveForm_X2_takeOut : GoodIn wsX3_leaveForm wsX2_takeOut := goodIn_r _ [21, 22, 23, 24, 25, 20, 26, 27, 35, 36] (by decide +kernel) (by decide +kernel)
set_option maxRecDepth 20000 in
theorem gX3_leaveForm_X2_takeOut : GoodIn wsX3_leaveForm (wsV RX3 79 RX2 yX2_takeOut wsX2_takeOut) := goodIn_app (goodIn_of _ (by decide +kernel)) ggX3_leaveForm_X2_takeOut
theorem dX3_leaveForm_0 : decode cX3_leaveForm 0 = .ok (.aload_n 0, 1) := by decide +kernel
theorem dX3_leaveForm_1 : decode cX3_leaveForm 1 = .ok (.getfield 12, 3) := by decide +kernel
theorem dX3_leaveForm_4 : decode cX3_leaveForm 4 = .ok (.getfield 40, 3) := by decide +kernel
theorem dX3_leaveForm_7 : decode cX3_leaveForm 7 = .ok (.iload_n 1, 1) := by decide +kernel
theorem dX3_leaveForm_8 : decode cX3_leaveForm 8 = .ok (.iaload, 1) := by decide +kernel
theorem dX3_leaveForm_9 : decode cX3_leaveForm 9 = .ok (.istore_n 2, 1) := by decide +kernel
theorem dX3_leaveForm_10 : decode cX3_leaveForm 10 = .ok (.aload_n 0, 1) := by decide +kernel
theorem dX3_leaveForm_11 : decode cX3_leaveForm 11 = .ok (.getfield 12, 3) := by decide +kernel
theorem dX3_leaveForm_14 : decode cX3_leaveForm 14 = .ok (.iload_n 2, 1) := by decide +kernel
theorem dX3_leaveForm_15 : decode cX3_leaveForm 15 = .ok (.invokevirtual 44, 3) := by decide +kernel
theorem dX3_leaveForm_18 : decode cX3_leaveForm 18 = .ok (.istore_n 3, 1) := by decide +kernel
theorem dX3_leaveForm_19 : decode cX3_leaveForm 19 = .ok (.aload_n 0, 1) := by decide +kernel
theorem dX3_leaveForm_20 : decode cX3_leaveForm 20 = .ok (.getfield 12, 3) := by decide +kernel
theorem dX3_leaveForm_23 : decode cX3_leaveForm 23 = .ok (.getfield 40, 3) := by decide +kernel
theorem dX3_leaveForm_26 : decode cX3_leaveForm 26 = .ok (.iload_n 1, 1) := by decide +kernel
theorem dX3_leaveForm_27 : decode cX3_leaveForm 27 = .ok (.bipush (-9), 2) := by decide +kernel
theorem dX3_leaveForm_29 : decode cX3_leaveForm 29 = .ok (.iastore, 1) := by decide +kernel
theorem dX3_leaveForm_30 : decode cX3_leaveForm 30 = .ok (.iload_n 3, 1) := by decide +kernel
theorem dX3_leaveForm_31 : decode cX3_leaveForm 31 = .ok (.bipush (-9), 2) := by decide +kernel
theorem dX3_leaveForm_33 : decode cX3_leaveForm 33 = .ok (.if_icmp .eq 34, 3) := by decide +kernel
theorem dX3_leaveForm_36 : decode cX3_leaveForm 36 = .ok (.aload_n 0, 1) := by decide +kernel
theorem dX3_leaveForm_37 : decode cX3_leaveForm 37 = .ok (.getfield 12, 3) := by decide +kernel
theorem dX3_leaveForm_40 : decode cX3_leaveForm 40 = .ok (.iload_n 2, 1) := by decide +kernel
theorem dX3_leaveForm_41 : decode cX3_leaveForm 41 = .ok (.invokevirtual 76, 3) := by decide +kernel
theorem dX3_leaveForm_44 : decode cX3_leaveForm 44 = .ok (.ifCond .ne 23, 3) := by decide +kernel
theorem dX3_leaveForm_47 : decode cX3_leaveForm 47 = .ok (.aload_n 0, 1) := by decide +kernel
theorem dX3_leaveForm_48 : decode cX3_leaveForm 48 = .ok (.getfield 21, 3) := by decide +kernel
theorem dX3_leaveForm_51 : decode cX3_leaveForm 51 = .ok (.iload_n 2, 1) := by decide +kernel
theorem dX3_leaveForm_52 : decode cX3_leaveForm 52 = .ok (.iload_n 3, 1) := by decide +kernel
theorem dX3_leaveForm_53 : decode cX3_leaveForm 53 = .ok (.invokevirtual 79, 3) := by decide +kernel
theorem dX3_leaveForm_56 : decode cX3_leaveForm 56 = .ok (.aload_n 0, 1) := by decide +kernel
theorem dX3_leaveForm_57 : decode cX3_leaveForm 57 = .ok (.getfield 12, 3) := by decide +kernel
theorem dX3_leaveForm_60 : decode cX3_leaveForm 60 = .ok (.getfield 82, 3) := by decide +kernel
theorem dX3_leaveForm_63 : decode cX3_leaveForm 63 = .ok (.iload_n 2, 1) := by decide +kernel
theorem dX3_leaveForm_64 : decode cX3_leaveForm 64 = .ok (.bipush (-9), 2) := by decide +kernel
theorem dX3_leaveForm_66 : decode cX3_leaveForm 66 = .ok (.iastore, 1) := by decide +kernel
theorem dX3_leaveForm_67 : decode cX3_leaveForm 67 = .ok (.return_, 1) := by decide +kernel
set_option maxRecDepth 20000 in
theorem ggX3_formWithEntriesOf_X3_hasEntriesOf : GoodIn wsX3_formWithEntriesOf wsX3_hasEntriesOf := goodIn_r _ [5, 6, 7, 8, 9, 10, 11, 12, 13, 14, 15, 16, 17, 18, 19, 20, 21, 22, 23, 24, 25, 26, 27, 28, 29, 30, 31, 32, 33, 34, 35] (by decide +kernel) (by decide +kernel)
set_option maxRecDepth 20000 in
theorem gX3_formWithEntriesOf_X3_hasEntriesOf : GoodIn wsX3_formWithEntriesOf (wsV RX3 60 RX3 yX3_hasEntriesOf wsX3_hasEntriesOf) := goodIn_app (goodIn_of _ (by decide +kernel)) ggX3_formWithEntriesOf_X3_hasEntriesOf
theorem dX3_formWithEntriesOf_0 : decode cX3_formWithEntriesOf 0 = .ok (.iconst 0, 1) := by decide +kernel
theorem dX3_formWithEntriesOf_1 : decode cX3_formWithEntriesOf 1 = .ok (.istore_n 2, 1) := by decide +kernel
theorem dX3_formWithEntriesOf_2 : decode cX3_formWithEntriesOf 2 = .ok (.iload_n 2, 1) := by decide +kernel
theorem dX3_formWithEntriesOf_3 : decode cX3_formWithEntriesOf 3 = .ok (.bipush 24, 2) := by decide +kernel
theorem dX3_formWithEntriesOf_5 : decode cX3_formWithEntriesOf 5 = .ok (.if_icmp .ge 20, 3) := by decide +kernel
theorem dX3_formWithEntriesOf_8 : decode cX3_formWithEntriesOf 8 = .ok (.aload_n 0, 1) := by decide +kernel
theorem dX3_formWithEntriesOf_9 : decode cX3_formWithEntriesOf 9 = .ok (.iload_n 2, 1) := by decide +kernel
theorem dX3_formWithEntriesOf_10 : decode cX3_formWithEntriesOf 10 = .ok (.iload_n 1, 1) := by decide +kernel
theorem dX3_formWithEntriesOf_11 : decode cX3_formWithEntriesOf 11 = .ok (.invokevirtual 60, 3) := by decide +kernel
theorem dX3_formWithEntriesOf_14 : decode cX3_formWithEntriesOf 14 = .ok (.ifCond .eq 5, 3) := by decide +kernel
theorem dX3_formWithEntriesOf_17 : decode cX3_formWithEntriesOf 17 = .ok (.iload_n 2, 1) := by decide +kernel
theorem dX3_formWithEntriesOf_18 : decode cX3_formWithEntriesOf 18 = .ok (.ireturn, 1) := by decide +kernel
theorem dX3_formWithEntriesOf_19 : decode cX3_formWithEntriesOf 19 = .ok (.iinc 2 1, 3) := by decide +kernel
theorem dX3_formWithEntriesOf_22 : decode cX3_formWithEntriesOf 22 = .ok (.goto (-20), 3) := by decide +kernel
theorem dX3_formWithEntriesOf_25 : decode cX3_formWithEntriesOf 25 = .ok (.bipush (-9), 2) := by decide +kernel
theorem dX3_formWithEntriesOf_27 : decode cX3_formWithEntriesOf 27 = .ok (.ireturn, 1) := by decide +kernel
set_option maxRecDepth 20000 in
theorem ggX3_hasEntriesOf_X1_shiftOf : GoodIn wsX3_hasEntriesOf wsX1_shiftOf := goodIn_r _ [9, 10, 26, 27, 28, 29, 30] (by decide +kernel) (by decide +kernel)
set_option maxRecDepth 20000 in
theorem gX3_hasEntriesOf_X1_shiftOf : GoodIn wsX3_hasEntriesOf (wsV RX3 44 RX1 yX1_shiftOf wsX1_shiftOf) := goodIn_app (goodIn_of _ (by decide +kernel)) ggX3_hasEntriesOf_X1_shiftOf
set_option maxRecDepth 20000 in
theorem ggX3_hasEntriesOf_X1_isEntry : GoodIn wsX3_hasEntriesOf wsX1_isEntry := goodIn_r _ [14, 15, 16, 17, 18, 8, 19, 20, 26, 27, 28, 29, 30] (by decide +kernel) (by decide +kernel)
set_option maxRecDepth 20000 in
theorem gX3_hasEntriesOf_X1_isEntry : GoodIn wsX3_hasEntriesOf (wsV RX3 48 RX1 yX1_isEntry wsX1_isEntry) := goodIn_app (goodIn_of _ (by decide +kernel)) ggX3_hasEntriesOf_X1_isEntry
set_option maxRecDepth 20000 in
theorem ggX3_hasEntriesOf_X1_valueAt : GoodIn wsX3_hasEntriesOf wsX1_valueAt := goodIn_r _ [19, 20, 26, 27, 28, 29, 30] (by decide +kernel) (by decide +kernel)
set_option maxRecDepth 20000 in
theorem gX3_hasEntriesOf_X1_valueAt : GoodIn wsX3_hasEntriesOf (wsV RX3 52 RX1 yX1_valueAt wsX1_valueAt) := goodIn_app (goodIn_of _ (by decide +kernel)) ggX3_hasEntriesOf_X1_valueAt
theorem dX3_hasEntriesOf_0 : decode cX3_hasEntriesOf 0 = .ok (.aload_n 0, 1) := by decide +kernel
theorem dX3_hasEntriesOf_1 : decode cX3_hasEntriesOf 1 = .ok (.getfield 12, 3) := by decide +kernel
theorem dX3_hasEntriesOf_4 : decode cX3_hasEntriesOf 4 = .ok (.iload_n 1, 1) := by decide +kernel
theorem dX3_hasEntriesOf_5 : decode cX3_hasEntriesOf 5 = .ok (.invokevirtual 44, 3) := by decide +kernel
theorem dX3_hasEntriesOf_8 : decode cX3_hasEntriesOf 8 = .ok (.istore_n 3, 1) := by decide +kernel
theorem dX3_hasEntriesOf_9 : decode cX3_hasEntriesOf 9 = .ok (.iload_n 3, 1) := by decide +kernel
theorem dX3_hasEntriesOf_10 : decode cX3_hasEntriesOf 10 = .ok (.bipush (-9), 2) := by decide +kernel
theorem dX3_hasEntriesOf_12 : decode cX3_hasEntriesOf 12 = .ok (.if_icmp .ne 5, 3) := by decide +kernel
theorem dX3_hasEntriesOf_15 : decode cX3_hasEntriesOf 15 = .ok (.iconst 0, 1) := by decide +kernel
theorem dX3_hasEntriesOf_16 : decode cX3_hasEntriesOf 16 = .ok (.ireturn, 1) := by decide +kernel
theorem dX3_hasEntriesOf_17 : decode cX3_hasEntriesOf 17 = .ok (.iconst 0, 1) := by decide +kernel
theorem dX3_hasEntriesOf_18 : decode cX3_hasEntriesOf 18 = .ok (.istore 4, 2) := by decide +kernel
theorem dX3_hasEntriesOf_20 : decode cX3_hasEntriesOf 20 = .ok (.iload 4, 2) := by decide +kernel
theorem dX3_hasEntriesOf_22 : decode cX3_hasEntriesOf 22 = .ok (.bipush 16, 2) := by decide +kernel
theorem dX3_hasEntriesOf_24 : decode cX3_hasEntriesOf 24 = .ok (.if_icmp .ge 81, 3) := by decide +kernel
theorem dX3_hasEntriesOf_27 : decode cX3_hasEntriesOf 27 = .ok (.aload_n 0, 1) := by decide +kernel
theorem dX3_hasEntriesOf_28 : decode cX3_hasEntriesOf 28 = .ok (.getfield 21, 3) := by decide +kernel
theorem dX3_hasEntriesOf_31 : decode cX3_hasEntriesOf 31 = .ok (.getfield 85, 3) := by decide +kernel
theorem dX3_hasEntriesOf_34 : decode cX3_hasEntriesOf 34 = .ok (.iload_n 3, 1) := by decide +kernel
theorem dX3_hasEntriesOf_35 : decode cX3_hasEntriesOf 35 = .ok (.iload 4, 2) := by decide +kernel
theorem dX3_hasEntriesOf_37 : decode cX3_hasEntriesOf 37 = .ok (.iadd, 1) := by decide +kernel
theorem dX3_hasEntriesOf_38 : decode cX3_hasEntriesOf 38 = .ok (.iaload, 1) := by decide +kernel
theorem dX3_hasEntriesOf_39 : decode cX3_hasEntriesOf 39 = .ok (.iload_n 1, 1) := by decide +kernel
theorem dX3_hasEntriesOf_40 : decode cX3_hasEntriesOf 40 = .ok (.if_icmp .ne 7, 3) := by decide +kernel
theorem dX3_hasEntriesOf_43 : decode cX3_hasEntriesOf 43 = .ok (.iconst 1, 1) := by decide +kernel
theorem dX3_hasEntriesOf_44 : decode cX3_hasEntriesOf 44 = .ok (.goto 4, 3) := by decide +kernel
theorem dX3_hasEntriesOf_47 : decode cX3_hasEntriesOf 47 = .ok (.iconst 0, 1) := by decide +kernel
theorem dX3_hasEntriesOf_48 : decode cX3_hasEntriesOf 48 = .ok (.istore 5, 2) := by decide +kernel
theorem dX3_hasEntriesOf_50 : decode cX3_hasEntriesOf 50 = .ok (.iload 5, 2) := by decide +kernel
theorem dX3_hasEntriesOf_52 : decode cX3_hasEntriesOf 52 = .ok (.aload_n 0, 1) := by decide +kernel
theorem dX3_hasEntriesOf_53 : decode cX3_hasEntriesOf 53 = .ok (.getfield 12, 3) := by decide +kernel
theorem dX3_hasEntriesOf_56 : decode cX3_hasEntriesOf 56 = .ok (.iload_n 2, 1) := by decide +kernel
theorem dX3_hasEntriesOf_57 : decode cX3_hasEntriesOf 57 = .ok (.iload 4, 2) := by decide +kernel
theorem dX3_hasEntriesOf_59 : decode cX3_hasEntriesOf 59 = .ok (.invokevirtual 48, 3) := by decide +kernel
theorem dX3_hasEntriesOf_62 : decode cX3_hasEntriesOf 62 = .ok (.if_icmp .eq 5, 3) := by decide +kernel
theorem dX3_hasEntriesOf_65 : decode cX3_hasEntriesOf 65 = .ok (.iconst 0, 1) := by decide +kernel
theorem dX3_hasEntriesOf_66 : decode cX3_hasEntriesOf 66 = .ok (.ireturn, 1) := by decide +kernel
theorem dX3_hasEntriesOf_67 : decode cX3_hasEntriesOf 67 = .ok (.iload 5, 2) := by decide +kernel
theorem dX3_hasEntriesOf_69 : decode cX3_hasEntriesOf 69 = .ok (.ifCond .eq 30, 3) := by decide +kernel
theorem dX3_hasEntriesOf_72 : decode cX3_hasEntriesOf 72 = .ok (.aload_n 0, 1) := by decide +kernel
theorem dX3_hasEntriesOf_73 : decode cX3_hasEntriesOf 73 = .ok (.getfield 21, 3) := by decide +kernel
theorem dX3_hasEntriesOf_76 : decode cX3_hasEntriesOf 76 = .ok (.getfield 88, 3) := by decide +kernel
theorem dX3_hasEntriesOf_79 : decode cX3_hasEntriesOf 79 = .ok (.iload_n 3, 1) := by decide +kernel
theorem dX3_hasEntriesOf_80 : decode cX3_hasEntriesOf 80 = .ok (.iload 4, 2) := by decide +kernel
theorem dX3_hasEntriesOf_82 : decode cX3_hasEntriesOf 82 = .ok (.iadd, 1) := by decide +kernel
theorem dX3_hasEntriesOf_83 : decode cX3_hasEntriesOf 83 = .ok (.iaload, 1) := by decide +kernel
theorem dX3_hasEntriesOf_84 : decode cX3_hasEntriesOf 84 = .ok (.aload_n 0, 1) := by decide +kernel
theorem dX3_hasEntriesOf_85 : decode cX3_hasEntriesOf 85 = .ok (.getfield 12, 3) := by decide +kernel
theorem dX3_hasEntriesOf_88 : decode cX3_hasEntriesOf 88 = .ok (.iload_n 2, 1) := by decide +kernel
theorem dX3_hasEntriesOf_89 : decode cX3_hasEntriesOf 89 = .ok (.iload 4, 2) := by decide +kernel
theorem dX3_hasEntriesOf_91 : decode cX3_hasEntriesOf 91 = .ok (.invokevirtual 52, 3) := by decide +kernel
theorem dX3_hasEntriesOf_94 : decode cX3_hasEntriesOf 94 = .ok (.if_icmp .eq 5, 3) := by decide +kernel
theorem dX3_hasEntriesOf_97 : decode cX3_hasEntriesOf 97 = .ok (.iconst 0, 1) := by decide +kernel
theorem dX3_hasEntriesOf_98 : decode cX3_hasEntriesOf 98 = .ok (.ireturn, 1) := by decide +kernel
theorem dX3_hasEntriesOf_99 : decode cX3_hasEntriesOf 99 = .ok (.iinc 4 1, 3) := by decide +kernel
theorem dX3_hasEntriesOf_102 : decode cX3_hasEntriesOf 102 = .ok (.goto (-82), 3) := by decide +kernel
theorem dX3_hasEntriesOf_105 : decode cX3_hasEntriesOf 105 = .ok (.iconst 1, 1) := by decide +kernel
theorem dX3_hasEntriesOf_106 : decode cX3_hasEntriesOf 106 = .ok (.ireturn, 1) := by decide +kernel
set_option maxRecDepth 20000 in
theorem ggX3_pushNewForm_X1_freeForm : GoodIn wsX3_pushNewForm wsX1_freeForm := goodIn_r _ [9, 10, 52, 53, 54, 55, 56] (by decide +kernel) (by decide +kernel)
set_option maxRecDepth 20000 in
theorem gX3_pushNewForm_X1_freeForm : GoodIn wsX3_pushNewForm (wsV RX3 91 RX1 yX1_freeForm wsX1_freeForm) := goodIn_app (goodIn_of _ (by decide +kernel)) ggX3_pushNewForm_X1_freeForm
set_option maxRecDepth 20000 in
theorem ggX3_pushNewForm_X2_firstFit : GoodIn wsX3_pushNewForm wsX2_firstFit := goodIn_r _ [15, 16, 17, 18, 14, 19, 20, 21, 22, 23, 24, 57, 58] (by decide +kernel) (by decide +kernel)
set_option maxRecDepth 20000 in
theorem gX3_pushNewForm_X2_firstFit : GoodIn wsX3_pushNewForm (wsV RX3 95 RX2 yX2_firstFit wsX2_firstFit) := goodIn_app (goodIn_of _ (by decide +kernel)) ggX3_pushNewForm_X2_firstFit
set_option maxRecDepth 20000 in
theorem ggX3_pushNewForm_X3_fillCellsOf : GoodIn wsX3_pushNewForm wsX3_fillCellsOf := goodIn_r _ [29, 1, 3, 2, 30, 31, 32, 8, 33, 10, 34, 35, 36, 37, 38, 39, 40, 41, 42, 43, 44, 45, 46, 47, 14, 48, 49, 24, 50, 51, 52, 53, 54, 55, 56, 57, 58] (by decide +kernel) (by decide +kernel)
set_option maxRecDepth 20000 in
theorem gX3_pushNewForm_X3_fillCellsOf : GoodIn wsX3_pushNewForm (wsV RX3 36 RX3 yX3_fillCellsOf wsX3_fillCellsOf) := goodIn_app (goodIn_of _ (by decide +kernel)) ggX3_pushNewForm_X3_fillCellsOf
theorem dX3_pushNewForm_0 : decode cX3_pushNewForm 0 = .ok (.aload_n 0, 1) := by decide +kernel
theorem dX3_pushNewForm_1 : decode cX3_pushNewForm 1 = .ok (.getfield 12, 3) := by decide +kernel
theorem dX3_pushNewForm_4 : decode cX3_pushNewForm 4 = .ok (.invokevirtual 91, 3) := by decide +kernel
theorem dX3_pushNewForm_7 : decode cX3_pushNewForm 7 = .ok (.istore_n 3, 1) := by decide +kernel
theorem dX3_pushNewForm_8 : decode cX3_pushNewForm 8 = .ok (.aload_n 0, 1) := by decide +kernel
theorem dX3_pushNewForm_9 : decode cX3_pushNewForm 9 = .ok (.getfield 21, 3) := by decide +kernel
theorem dX3_pushNewForm_12 : decode cX3_pushNewForm 12 = .ok (.iload_n 2, 1) := by decide +kernel
theorem dX3_pushNewForm_13 : decode cX3_pushNewForm 13 = .ok (.invokevirtual 95, 3) := by decide +kernel
theorem dX3_pushNewForm_16 : decode cX3_pushNewForm 16 = .ok (.istore 4, 2) := by decide +kernel
theorem dX3_pushNewForm_18 : decode cX3_pushNewForm 18 = .ok (.iload_n 3, 1) := by decide +kernel
theorem dX3_pushNewForm_19 : decode cX3_pushNewForm 19 = .ok (.bipush (-9), 2) := by decide +kernel
theorem dX3_pushNewForm_21 : decode cX3_pushNewForm 21 = .ok (.if_icmp .eq 10, 3) := by decide +kernel
theorem dX3_pushNewForm_24 : decode cX3_pushNewForm 24 = .ok (.iload 4, 2) := by decide +kernel
theorem dX3_pushNewForm_26 : decode cX3_pushNewForm 26 = .ok (.bipush (-9), 2) := by decide +kernel
theorem dX3_pushNewForm_28 : decode cX3_pushNewForm 28 = .ok (.if_icmp .ne 4, 3) := by decide +kernel
theorem dX3_pushNewForm_31 : decode cX3_pushNewForm 31 = .ok (.return_, 1) := by decide +kernel
theorem dX3_pushNewForm_32 : decode cX3_pushNewForm 32 = .ok (.aload_n 0, 1) := by decide +kernel
theorem dX3_pushNewForm_33 : decode cX3_pushNewForm 33 = .ok (.getfield 12, 3) := by decide +kernel
theorem dX3_pushNewForm_36 : decode cX3_pushNewForm 36 = .ok (.getfield 40, 3) := by decide +kernel
theorem dX3_pushNewForm_39 : decode cX3_pushNewForm 39 = .ok (.iload_n 1, 1) := by decide +kernel
theorem dX3_pushNewForm_40 : decode cX3_pushNewForm 40 = .ok (.iload_n 3, 1) := by decide +kernel
theorem dX3_pushNewForm_41 : decode cX3_pushNewForm 41 = .ok (.iastore, 1) := by decide +kernel
theorem dX3_pushNewForm_42 : decode cX3_pushNewForm 42 = .ok (.aload_n 0, 1) := by decide +kernel
theorem dX3_pushNewForm_43 : decode cX3_pushNewForm 43 = .ok (.getfield 12, 3) := by decide +kernel
theorem dX3_pushNewForm_46 : decode cX3_pushNewForm 46 = .ok (.getfield 82, 3) := by decide +kernel
theorem dX3_pushNewForm_49 : decode cX3_pushNewForm 49 = .ok (.iload_n 3, 1) := by decide +kernel
theorem dX3_pushNewForm_50 : decode cX3_pushNewForm 50 = .ok (.iload 4, 2) := by decide +kernel
theorem dX3_pushNewForm_52 : decode cX3_pushNewForm 52 = .ok (.iastore, 1) := by decide +kernel
theorem dX3_pushNewForm_53 : decode cX3_pushNewForm 53 = .ok (.aload_n 0, 1) := by decide +kernel
theorem dX3_pushNewForm_54 : decode cX3_pushNewForm 54 = .ok (.iload_n 1, 1) := by decide +kernel
theorem dX3_pushNewForm_55 : decode cX3_pushNewForm 55 = .ok (.invokevirtual 36, 3) := by decide +kernel
theorem dX3_pushNewForm_58 : decode cX3_pushNewForm 58 = .ok (.return_, 1) := by decide +kernel
set_option maxRecDepth 20000 in
theorem ggX3_pushAnewByWeights_X3_takeOutAll : GoodIn wsX3_pushAnewByWeights wsX3_takeOutAll := goodIn_r _ [7, 1, 8, 9, 10, 11, 12, 13, 14, 15, 16, 17, 18, 19, 20, 21, 22, 23, 24, 25, 26, 117, 118, 119, 120, 121, 122, 123, 124, 125] (by decide +kernel) (by decide +kernel)
set_option maxRecDepth 20000 in
theorem gX3_pushAnewByWeights_X3_takeOutAll : GoodIn wsX3_pushAnewByWeights (wsV RX3 98 RX3 yX3_takeOutAll wsX3_takeOutAll) := goodIn_app (goodIn_of _ (by decide +kernel)) ggX3_pushAnewByWeights_X3_takeOutAll
set_option maxRecDepth 20000 in
theorem ggX3_pushAnewByWeights_X1_weightOf : GoodIn wsX3_pushAnewByWeights wsX1_weightOf := goodIn_r _ [30, 31, 32, 33, 10, 34, 35, 36, 37, 38, 39, 40, 41, 42, 43, 44, 45, 46, 47, 48, 49, 50, 51, 119, 120, 121, 122, 123] (by decide +kernel) (by decide +kernel)
set_option maxRecDepth 20000 in
theorem gX3_pushAnewByWeights_X1_weightOf : GoodIn wsX3_pushAnewByWeights (wsV RX3 101 RX1 yX1_weightOf wsX1_weightOf) := goodIn_app (goodIn_of _ (by decide +kernel)) ggX3_pushAnewByWeights_X1_weightOf
set_option maxRecDepth 20000 in
theorem ggX3_pushAnewByWeights_X3_settle : GoodIn wsX3_pushAnewByWeights wsX3_settle := goodIn_r _ [55, 1, 56, 57, 58, 59, 6, 60, 8, 61, 62, 63, 64, 65, 10, 66, 14, 67, 36, 37, 38, 39, 40, 41, 42, 43, 44, 68, 69, 70, 71, 72, 73, 74, 75, 76, 77, 78, 13, 79, 80, 81, 22, 82, 25, 83, 84, 85, 86, 24, 87, 32, 33, 34, 35, 88, 89, 90, 91, 92, 93, 94, 95, 96, 97, 98, 99, 100, 101, 102, 103, 104, 105, 106, 107, 108, 109, 110, 111, 112, 113, 114, 115, 116, 117, 118, 119, 120, 121, 122, 123, 124, 125] (by decide +kernel) (by decide +kernel)
set_option maxRecDepth 20000 in
theorem gX3_pushAnewByWeights_X3_settle : GoodIn wsX3_pushAnewByWeights (wsV RX3 104 RX3 yX3_settle wsX3_settle) := goodIn_app (goodIn_of _ (by decide +kernel)) ggX3_pushAnewByWeights_X3_settle
theorem dX3_pushAnewByWeights_0 : decode cX3_pushAnewByWeights 0 = .ok (.aload_n 0, 1) := by decide +kernel
theorem dX3_pushAnewByWeights_1 : decode cX3_pushAnewByWeights 1 = .ok (.invokevirtual 98, 3) := by decide +kernel
theorem dX3_pushAnewByWeights_4 : decode cX3_pushAnewByWeights 4 = .ok (.bipush 16, 2) := by decide +kernel
theorem dX3_pushAnewByWeights_6 : decode cX3_pushAnewByWeights 6 = .ok (.istore_n 1, 1) := by decide +kernel
theorem dX3_pushAnewByWeights_7 : decode cX3_pushAnewByWeights 7 = .ok (.iload_n 1, 1) := by decide +kernel
theorem dX3_pushAnewByWeights_8 : decode cX3_pushAnewByWeights 8 = .ok (.iconst 1, 1) := by decide +kernel
theorem dX3_pushAnewByWeights_9 : decode cX3_pushAnewByWeights 9 = .ok (.if_icmp .lt 45, 3) := by decide +kernel
theorem dX3_pushAnewByWeights_12 : decode cX3_pushAnewByWeights 12 = .ok (.iconst 0, 1) := by decide +kernel
theorem dX3_pushAnewByWeights_13 : decode cX3_pushAnewByWeights 13 = .ok (.istore_n 2, 1) := by decide +kernel
theorem dX3_pushAnewByWeights_14 : decode cX3_pushAnewByWeights 14 = .ok (.iload_n 2, 1) := by decide +kernel
theorem dX3_pushAnewByWeights_15 : decode cX3_pushAnewByWeights 15 = .ok (.aload_n 0, 1) := by decide +kernel
theorem dX3_pushAnewByWeights_16 : decode cX3_pushAnewByWeights 16 = .ok (.getfield 12, 3) := by decide +kernel
theorem dX3_pushAnewByWeights_19 : decode cX3_pushAnewByWeights 19 = .ok (.getfield 32, 3) := by decide +kernel
theorem dX3_pushAnewByWeights_22 : decode cX3_pushAnewByWeights 22 = .ok (.if_icmp .ge 26, 3) := by decide +kernel
theorem dX3_pushAnewByWeights_25 : decode cX3_pushAnewByWeights 25 = .ok (.aload_n 0, 1) := by decide +kernel
theorem dX3_pushAnewByWeights_26 : decode cX3_pushAnewByWeights 26 = .ok (.getfield 12, 3) := by decide +kernel
theorem dX3_pushAnewByWeights_29 : decode cX3_pushAnewByWeights 29 = .ok (.iload_n 2, 1) := by decide +kernel
theorem dX3_pushAnewByWeights_30 : decode cX3_pushAnewByWeights 30 = .ok (.invokevirtual 101, 3) := by decide +kernel
theorem dX3_pushAnewByWeights_33 : decode cX3_pushAnewByWeights 33 = .ok (.iload_n 1, 1) := by decide +kernel
theorem dX3_pushAnewByWeights_34 : decode cX3_pushAnewByWeights 34 = .ok (.if_icmp .ne 8, 3) := by decide +kernel
theorem dX3_pushAnewByWeights_37 : decode cX3_pushAnewByWeights 37 = .ok (.aload_n 0, 1) := by decide +kernel
theorem dX3_pushAnewByWeights_38 : decode cX3_pushAnewByWeights 38 = .ok (.iload_n 2, 1) := by decide +kernel
theorem dX3_pushAnewByWeights_39 : decode cX3_pushAnewByWeights 39 = .ok (.invokevirtual 104, 3) := by decide +kernel
theorem dX3_pushAnewByWeights_42 : decode cX3_pushAnewByWeights 42 = .ok (.iinc 2 1, 3) := by decide +kernel
theorem dX3_pushAnewByWeights_45 : decode cX3_pushAnewByWeights 45 = .ok (.goto (-31), 3) := by decide +kernel
theorem dX3_pushAnewByWeights_48 : decode cX3_pushAnewByWeights 48 = .ok (.iinc 1 (-1), 3) := by decide +kernel
theorem dX3_pushAnewByWeights_51 : decode cX3_pushAnewByWeights 51 = .ok (.goto (-44), 3) := by decide +kernel
theorem dX3_pushAnewByWeights_54 : decode cX3_pushAnewByWeights 54 = .ok (.return_, 1) := by decide +kernel
set_option maxRecDepth 20000 in
theorem ggX3_pushAnewByNumbers_X3_takeOutAll : GoodIn wsX3_pushAnewByNumbers wsX3_takeOutAll := goodIn_r _ [7, 1, 8, 9, 10, 11, 12, 13, 14, 15, 16, 17, 18, 19, 20, 21, 22, 23, 24, 25, 26, 105, 106, 107, 108, 109, 110, 111, 112, 113] (by decide +kernel) (by decide +kernel)
set_option maxRecDepth 20000 in
theorem gX3_pushAnewByNumbers_X3_takeOutAll : GoodIn wsX3_pushAnewByNumbers (wsV RX3 98 RX3 yX3_takeOutAll wsX3_takeOutAll) := goodIn_app (goodIn_of _ (by decide +kernel)) ggX3_pushAnewByNumbers_X3_takeOutAll
set_option maxRecDepth 20000 in
theorem ggX3_pushAnewByNumbers_X3_settle : GoodIn wsX3_pushAnewByNumbers wsX3_settle := goodIn_r _ [30, 1, 31, 32, 33, 34, 6, 35, 8, 36, 37, 38, 39, 40, 10, 41, 14, 42, 43, 44, 45, 46, 47, 48, 49, 50, 51, 52, 53, 54, 55, 56, 57, 58, 59, 60, 61, 62, 13, 63, 64, 65, 22, 66, 25, 67, 68, 69, 70, 24, 71, 72, 73, 74, 75, 76, 77, 78, 79, 80, 81, 82, 83, 84, 85, 86, 87, 88, 89, 90, 91, 92, 93, 94, 95, 96, 97, 98, 99, 100, 101, 102, 103, 104, 105, 106, 107, 108, 109, 110, 111, 112, 113] (by decide +kernel) (by decide +kernel)
set_option maxRecDepth 20000 in
theorem gX3_pushAnewByNumbers_X3_settle : GoodIn wsX3_pushAnewByNumbers (wsV RX3 104 RX3 yX3_settle wsX3_settle) := goodIn_app (goodIn_of _ (by decide +kernel)) ggX3_pushAnewByNumbers_X3_settle
theorem dX3_pushAnewByNumbers_0 : decode cX3_pushAnewByNumbers 0 = .ok (.aload_n 0, 1) := by decide +kernel
theorem dX3_pushAnewByNumbers_1 : decode cX3_pushAnewByNumbers 1 = .ok (.invokevirtual 98, 3) := by decide +kernel
theorem dX3_pushAnewByNumbers_4 : decode cX3_pushAnewByNumbers 4 = .ok (.iconst 0, 1) := by decide +kernel
theorem dX3_pushAnewByNumbers_5 : decode cX3_pushAnewByNumbers 5 = .ok (.istore_n 1, 1) := by decide +kernel
theorem dX3_pushAnewByNumbers_6 : decode cX3_pushAnewByNumbers 6 = .ok (.iload_n 1, 1) := by decide +kernel
theorem dX3_pushAnewByNumbers_7 : decode cX3_pushAnewByNumbers 7 = .ok (.aload_n 0, 1) := by decide +kernel
theorem dX3_pushAnewByNumbers_8 : decode cX3_pushAnewByNumbers 8 = .ok (.getfield 12, 3) := by decide +kernel
theorem dX3_pushAnewByNumbers_11 : decode cX3_pushAnewByNumbers 11 = .ok (.getfield 32, 3) := by decide +kernel
theorem dX3_pushAnewByNumbers_14 : decode cX3_pushAnewByNumbers 14 = .ok (.if_icmp .ge 14, 3) := by decide +kernel
theorem dX3_pushAnewByNumbers_17 : decode cX3_pushAnewByNumbers 17 = .ok (.aload_n 0, 1) := by decide +kernel
theorem dX3_pushAnewByNumbers_18 : decode cX3_pushAnewByNumbers 18 = .ok (.iload_n 1, 1) := by decide +kernel
theorem dX3_pushAnewByNumbers_19 : decode cX3_pushAnewByNumbers 19 = .ok (.invokevirtual 104, 3) := by decide +kernel
theorem dX3_pushAnewByNumbers_22 : decode cX3_pushAnewByNumbers 22 = .ok (.iinc 1 1, 3) := by decide +kernel
theorem dX3_pushAnewByNumbers_25 : decode cX3_pushAnewByNumbers 25 = .ok (.goto (-19), 3) := by decide +kernel
theorem dX3_pushAnewByNumbers_28 : decode cX3_pushAnewByNumbers 28 = .ok (.return_, 1) := by decide +kernel
set_option maxRecDepth 20000 in
theorem ggX3_takeOutAll_X1_forgetForms : GoodIn wsX3_takeOutAll wsX1_forgetForms := goodIn_r _ [6, 7, 8, 9, 10, 11, 12, 23, 24, 25, 26, 27] (by decide +kernel) (by decide +kernel)
set_option maxRecDepth 20000 in
theorem gX3_takeOutAll_X1_forgetForms_n107 : GoodIn wsX3_takeOutAll (wsX1_forgetForms) := ggX3_takeOutAll_X1_forgetForms
set_option maxRecDepth 20000 in
theorem ggX3_takeOutAll_X2_emptyAll : GoodIn wsX3_takeOutAll wsX2_emptyAll := goodIn_r _ [17, 18, 19, 20, 10, 11, 12, 28, 29] (by decide +kernel) (by decide +kernel)
set_option maxRecDepth 20000 in
theorem gX3_takeOutAll_X2_emptyAll : GoodIn wsX3_takeOutAll (wsV RX3 29 RX2 yX2_emptyAll wsX2_emptyAll) := goodIn_app (goodIn_of _ (by decide +kernel)) ggX3_takeOutAll_X2_emptyAll
theorem dX3_takeOutAll_0 : decode cX3_takeOutAll 0 = .ok (.aload_n 0, 1) := by decide +kernel
theorem dX3_takeOutAll_1 : decode cX3_takeOutAll 1 = .ok (.getfield 12, 3) := by decide +kernel
theorem dX3_takeOutAll_4 : decode cX3_takeOutAll 4 = .ok (.invokevirtual 107, 3) := by decide +kernel
theorem dX3_takeOutAll_7 : decode cX3_takeOutAll 7 = .ok (.aload_n 0, 1) := by decide +kernel
theorem dX3_takeOutAll_8 : decode cX3_takeOutAll 8 = .ok (.getfield 21, 3) := by decide +kernel
theorem dX3_takeOutAll_11 : decode cX3_takeOutAll 11 = .ok (.invokevirtual 29, 3) := by decide +kernel
theorem dX3_takeOutAll_14 : decode cX3_takeOutAll 14 = .ok (.return_, 1) := by decide +kernel
set_option maxRecDepth 20000 in
theorem ggX3_lookUp_X1_shiftOf : GoodIn wsX3_lookUp wsX1_shiftOf := goodIn_r _ [11, 12, 15, 16, 17, 18, 19] (by decide +kernel) (by decide +kernel)
set_option maxRecDepth 20000 in
theorem gX3_lookUp_X1_shiftOf : GoodIn wsX3_lookUp (wsV RX3 44 RX1 yX1_shiftOf wsX1_shiftOf) := goodIn_app (goodIn_of _ (by decide +kernel)) ggX3_lookUp_X1_shiftOf
theorem dX3_lookUp_0 : decode cX3_lookUp 0 = .ok (.aload_n 0, 1) := by decide +kernel
theorem dX3_lookUp_1 : decode cX3_lookUp 1 = .ok (.getfield 12, 3) := by decide +kernel
theorem dX3_lookUp_4 : decode cX3_lookUp 4 = .ok (.getfield 40, 3) := by decide +kernel
theorem dX3_lookUp_7 : decode cX3_lookUp 7 = .ok (.iload_n 1, 1) := by decide +kernel
theorem dX3_lookUp_8 : decode cX3_lookUp 8 = .ok (.iaload, 1) := by decide +kernel
theorem dX3_lookUp_9 : decode cX3_lookUp 9 = .ok (.istore_n 3, 1) := by decide +kernel
theorem dX3_lookUp_10 : decode cX3_lookUp 10 = .ok (.aload_n 0, 1) := by decide +kernel
theorem dX3_lookUp_11 : decode cX3_lookUp 11 = .ok (.getfield 12, 3) := by decide +kernel
theorem dX3_lookUp_14 : decode cX3_lookUp 14 = .ok (.iload_n 3, 1) := by decide +kernel
theorem dX3_lookUp_15 : decode cX3_lookUp 15 = .ok (.invokevirtual 44, 3) := by decide +kernel
theorem dX3_lookUp_18 : decode cX3_lookUp 18 = .ok (.istore 4, 2) := by decide +kernel
theorem dX3_lookUp_20 : decode cX3_lookUp 20 = .ok (.iload 4, 2) := by decide +kernel
theorem dX3_lookUp_22 : decode cX3_lookUp 22 = .ok (.bipush (-9), 2) := by decide +kernel
theorem dX3_lookUp_24 : decode cX3_lookUp 24 = .ok (.if_icmp .eq 32, 3) := by decide +kernel
theorem dX3_lookUp_27 : decode cX3_lookUp 27 = .ok (.aload_n 0, 1) := by decide +kernel
theorem dX3_lookUp_28 : decode cX3_lookUp 28 = .ok (.getfield 21, 3) := by decide +kernel
theorem dX3_lookUp_31 : decode cX3_lookUp 31 = .ok (.getfield 85, 3) := by decide +kernel
theorem dX3_lookUp_34 : decode cX3_lookUp 34 = .ok (.iload 4, 2) := by decide +kernel
theorem dX3_lookUp_36 : decode cX3_lookUp 36 = .ok (.iload_n 2, 1) := by decide +kernel
theorem dX3_lookUp_37 : decode cX3_lookUp 37 = .ok (.iadd, 1) := by decide +kernel
theorem dX3_lookUp_38 : decode cX3_lookUp 38 = .ok (.iaload, 1) := by decide +kernel
theorem dX3_lookUp_39 : decode cX3_lookUp 39 = .ok (.iload_n 3, 1) := by decide +kernel
theorem dX3_lookUp_40 : decode cX3_lookUp 40 = .ok (.if_icmp .ne 16, 3) := by decide +kernel
theorem dX3_lookUp_43 : decode cX3_lookUp 43 = .ok (.aload_n 0, 1) := by decide +kernel
theorem dX3_lookUp_44 : decode cX3_lookUp 44 = .ok (.getfield 21, 3) := by decide +kernel
theorem dX3_lookUp_47 : decode cX3_lookUp 47 = .ok (.getfield 88, 3) := by decide +kernel
theorem dX3_lookUp_50 : decode cX3_lookUp 50 = .ok (.iload 4, 2) := by decide +kernel
theorem dX3_lookUp_52 : decode cX3_lookUp 52 = .ok (.iload_n 2, 1) := by decide +kernel
theorem dX3_lookUp_53 : decode cX3_lookUp 53 = .ok (.iadd, 1) := by decide +kernel
theorem dX3_lookUp_54 : decode cX3_lookUp 54 = .ok (.iaload, 1) := by decide +kernel
theorem dX3_lookUp_55 : decode cX3_lookUp 55 = .ok (.ireturn, 1) := by decide +kernel
theorem dX3_lookUp_56 : decode cX3_lookUp 56 = .ok (.aload_n 0, 1) := by decide +kernel
theorem dX3_lookUp_57 : decode cX3_lookUp 57 = .ok (.getfield 12, 3) := by decide +kernel
theorem dX3_lookUp_60 : decode cX3_lookUp 60 = .ok (.getfield 110, 3) := by decide +kernel
theorem dX3_lookUp_63 : decode cX3_lookUp 63 = .ok (.iload_n 1, 1) := by decide +kernel
theorem dX3_lookUp_64 : decode cX3_lookUp 64 = .ok (.iaload, 1) := by decide +kernel
theorem dX3_lookUp_65 : decode cX3_lookUp 65 = .ok (.ireturn, 1) := by decide +kernel
set_option maxRecDepth 20000 in
theorem ggX3_refusals_X3_refusalsOf : GoodIn wsX3_refusals wsX3_refusalsOf := goodIn_r _ [7, 1, 8, 9, 10, 11, 12, 13, 14, 15, 16, 17, 18, 19, 20, 21, 22, 23, 24, 25, 26, 27, 28, 29, 30, 31] (by decide +kernel) (by decide +kernel)
set_option maxRecDepth 20000 in
theorem gX3_refusals_X3_refusalsOf : GoodIn wsX3_refusals (wsV RX3 113 RX3 yX3_refusalsOf wsX3_refusalsOf) := goodIn_app (goodIn_of _ (by decide +kernel)) ggX3_refusals_X3_refusalsOf
theorem dX3_refusals_0 : decode cX3_refusals 0 = .ok (.iconst 0, 1) := by decide +kernel
theorem dX3_refusals_1 : decode cX3_refusals 1 = .ok (.istore_n 1, 1) := by decide +kernel
theorem dX3_refusals_2 : decode cX3_refusals 2 = .ok (.iconst 0, 1) := by decide +kernel
theorem dX3_refusals_3 : decode cX3_refusals 3 = .ok (.istore_n 2, 1) := by decide +kernel
theorem dX3_refusals_4 : decode cX3_refusals 4 = .ok (.iload_n 2, 1) := by decide +kernel
theorem dX3_refusals_5 : decode cX3_refusals 5 = .ok (.aload_n 0, 1) := by decide +kernel
theorem dX3_refusals_6 : decode cX3_refusals 6 = .ok (.getfield 12, 3) := by decide +kernel
theorem dX3_refusals_9 : decode cX3_refusals 9 = .ok (.getfield 32, 3) := by decide +kernel
theorem dX3_refusals_12 : decode cX3_refusals 12 = .ok (.if_icmp .ge 17, 3) := by decide +kernel
theorem dX3_refusals_15 : decode cX3_refusals 15 = .ok (.iload_n 1, 1) := by decide +kernel
theorem dX3_refusals_16 : decode cX3_refusals 16 = .ok (.aload_n 0, 1) := by decide +kernel
theorem dX3_refusals_17 : decode cX3_refusals 17 = .ok (.iload_n 2, 1) := by decide +kernel
theorem dX3_refusals_18 : decode cX3_refusals 18 = .ok (.invokevirtual 113, 3) := by decide +kernel
theorem dX3_refusals_21 : decode cX3_refusals 21 = .ok (.iadd, 1) := by decide +kernel
theorem dX3_refusals_22 : decode cX3_refusals 22 = .ok (.istore_n 1, 1) := by decide +kernel
theorem dX3_refusals_23 : decode cX3_refusals 23 = .ok (.iinc 2 1, 3) := by decide +kernel
theorem dX3_refusals_26 : decode cX3_refusals 26 = .ok (.goto (-22), 3) := by decide +kernel
theorem dX3_refusals_29 : decode cX3_refusals 29 = .ok (.iload_n 1, 1) := by decide +kernel
theorem dX3_refusals_30 : decode cX3_refusals 30 = .ok (.ireturn, 1) := by decide +kernel
set_option maxRecDepth 20000 in
theorem ggX3_refusalsOf_X1_shiftOf : GoodIn wsX3_refusalsOf wsX1_shiftOf := goodIn_r _ [9, 10, 19, 20, 21, 22, 23] (by decide +kernel) (by decide +kernel)
set_option maxRecDepth 20000 in
theorem gX3_refusalsOf_X1_shiftOf : GoodIn wsX3_refusalsOf (wsV RX3 44 RX1 yX1_shiftOf wsX1_shiftOf) := goodIn_app (goodIn_of _ (by decide +kernel)) ggX3_refusalsOf_X1_shiftOf
set_option maxRecDepth 20000 in
theorem ggX3_refusalsOf_X2_isEmptyAt : GoodIn wsX3_refusalsOf wsX2_isEmptyAt := goodIn_r _ [15, 16, 24, 25] (by decide +kernel) (by decide +kernel)
set_option maxRecDepth 20000 in
theorem gX3_refusalsOf_X2_isEmptyAt : GoodIn wsX3_refusalsOf (wsV RX3 116 RX2 yX2_isEmptyAt wsX2_isEmptyAt) := goodIn_app (goodIn_of _ (by decide +kernel)) ggX3_refusalsOf_X2_isEmptyAt
theorem dX3_refusalsOf_0 : decode cX3_refusalsOf 0 = .ok (.aload_n 0, 1) := by decide +kernel
theorem dX3_refusalsOf_1 : decode cX3_refusalsOf 1 = .ok (.getfield 12, 3) := by decide +kernel
theorem dX3_refusalsOf_4 : decode cX3_refusalsOf 4 = .ok (.getfield 40, 3) := by decide +kernel
theorem dX3_refusalsOf_7 : decode cX3_refusalsOf 7 = .ok (.iload_n 1, 1) := by decide +kernel
theorem dX3_refusalsOf_8 : decode cX3_refusalsOf 8 = .ok (.iaload, 1) := by decide +kernel
theorem dX3_refusalsOf_9 : decode cX3_refusalsOf 9 = .ok (.istore_n 2, 1) := by decide +kernel
theorem dX3_refusalsOf_10 : decode cX3_refusalsOf 10 = .ok (.aload_n 0, 1) := by decide +kernel
theorem dX3_refusalsOf_11 : decode cX3_refusalsOf 11 = .ok (.getfield 12, 3) := by decide +kernel
theorem dX3_refusalsOf_14 : decode cX3_refusalsOf 14 = .ok (.iload_n 2, 1) := by decide +kernel
theorem dX3_refusalsOf_15 : decode cX3_refusalsOf 15 = .ok (.invokevirtual 44, 3) := by decide +kernel
theorem dX3_refusalsOf_18 : decode cX3_refusalsOf 18 = .ok (.istore_n 3, 1) := by decide +kernel
theorem dX3_refusalsOf_19 : decode cX3_refusalsOf 19 = .ok (.iload_n 3, 1) := by decide +kernel
theorem dX3_refusalsOf_20 : decode cX3_refusalsOf 20 = .ok (.bipush (-9), 2) := by decide +kernel
theorem dX3_refusalsOf_22 : decode cX3_refusalsOf 22 = .ok (.if_icmp .ne 5, 3) := by decide +kernel
theorem dX3_refusalsOf_25 : decode cX3_refusalsOf 25 = .ok (.iconst 0, 1) := by decide +kernel
theorem dX3_refusalsOf_26 : decode cX3_refusalsOf 26 = .ok (.ireturn, 1) := by decide +kernel
theorem dX3_refusalsOf_27 : decode cX3_refusalsOf 27 = .ok (.iconst 0, 1) := by decide +kernel
theorem dX3_refusalsOf_28 : decode cX3_refusalsOf 28 = .ok (.istore 4, 2) := by decide +kernel
theorem dX3_refusalsOf_30 : decode cX3_refusalsOf 30 = .ok (.iload_n 3, 1) := by decide +kernel
theorem dX3_refusalsOf_31 : decode cX3_refusalsOf 31 = .ok (.istore 5, 2) := by decide +kernel
theorem dX3_refusalsOf_33 : decode cX3_refusalsOf 33 = .ok (.iload 5, 2) := by decide +kernel
theorem dX3_refusalsOf_35 : decode cX3_refusalsOf 35 = .ok (.iload_n 3, 1) := by decide +kernel
theorem dX3_refusalsOf_36 : decode cX3_refusalsOf 36 = .ok (.bipush 16, 2) := by decide +kernel
theorem dX3_refusalsOf_38 : decode cX3_refusalsOf 38 = .ok (.iadd, 1) := by decide +kernel
theorem dX3_refusalsOf_39 : decode cX3_refusalsOf 39 = .ok (.if_icmp .ge 38, 3) := by decide +kernel
theorem dX3_refusalsOf_42 : decode cX3_refusalsOf 42 = .ok (.aload_n 0, 1) := by decide +kernel
theorem dX3_refusalsOf_43 : decode cX3_refusalsOf 43 = .ok (.getfield 21, 3) := by decide +kernel
theorem dX3_refusalsOf_46 : decode cX3_refusalsOf 46 = .ok (.iload 5, 2) := by decide +kernel
theorem dX3_refusalsOf_48 : decode cX3_refusalsOf 48 = .ok (.invokevirtual 116, 3) := by decide +kernel
theorem dX3_refusalsOf_51 : decode cX3_refusalsOf 51 = .ok (.ifCond .ne 20, 3) := by decide +kernel
theorem dX3_refusalsOf_54 : decode cX3_refusalsOf 54 = .ok (.aload_n 0, 1) := by decide +kernel
theorem dX3_refusalsOf_55 : decode cX3_refusalsOf 55 = .ok (.getfield 21, 3) := by decide +kernel
theorem dX3_refusalsOf_58 : decode cX3_refusalsOf 58 = .ok (.getfield 85, 3) := by decide +kernel
theorem dX3_refusalsOf_61 : decode cX3_refusalsOf 61 = .ok (.iload 5, 2) := by decide +kernel
theorem dX3_refusalsOf_63 : decode cX3_refusalsOf 63 = .ok (.iaload, 1) := by decide +kernel
theorem dX3_refusalsOf_64 : decode cX3_refusalsOf 64 = .ok (.iload_n 2, 1) := by decide +kernel
theorem dX3_refusalsOf_65 : decode cX3_refusalsOf 65 = .ok (.if_icmp .eq 6, 3) := by decide +kernel
theorem dX3_refusalsOf_68 : decode cX3_refusalsOf 68 = .ok (.iinc 4 1, 3) := by decide +kernel
theorem dX3_refusalsOf_71 : decode cX3_refusalsOf 71 = .ok (.iinc 5 1, 3) := by decide +kernel
theorem dX3_refusalsOf_74 : decode cX3_refusalsOf 74 = .ok (.goto (-41), 3) := by decide +kernel
theorem dX3_refusalsOf_77 : decode cX3_refusalsOf 77 = .ok (.iload 4, 2) := by decide +kernel
theorem dX3_refusalsOf_79 : decode cX3_refusalsOf 79 = .ok (.ireturn, 1) := by decide +kernel
