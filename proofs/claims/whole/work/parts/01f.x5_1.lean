set_option maxRecDepth 20000 in
theorem ggX5_init_X3_init : GoodIn wsX5_init wsX3_init := goodIn_r _ [18, 19, 2, 3, 20, 21, 22, 23, 24, 25, 26, 27, 28, 29, 30, 31, 32, 33, 34, 35, 36, 37, 38, 39, 40, 41, 42, 43, 44, 45, 46, 47, 48, 49, 50, 51, 52, 53, 54, 55, 56, 93, 94, 95, 96, 97, 77, 78, 98, 99] (by decide +kernel) (by decide +kernel)
set_option maxRecDepth 20000 in
theorem gX5_init_X3_init_n11 : GoodIn wsX5_init (wsX3_init) := ggX5_init_X3_init
set_option maxRecDepth 20000 in
theorem ggX5_init_X0_init : GoodIn wsX5_init wsX0_init := goodIn_r _ [59, 60, 2, 3, 61, 62, 63, 21, 22, 64, 29, 30, 31, 32, 33, 34, 35, 36, 37, 38, 39, 40, 41, 42, 43, 44, 45, 83, 84, 93, 94, 95, 96, 97] (by decide +kernel) (by decide +kernel)
set_option maxRecDepth 20000 in
theorem gX5_init_X0_init : GoodIn wsX5_init (wsX0_init) := ggX5_init_X0_init
set_option maxRecDepth 20000 in
theorem ggX5_init_X4_init : GoodIn wsX5_init wsX4_init := goodIn_r _ [66, 67, 2, 3, 68, 69, 70, 71, 72, 73, 74, 33, 75, 76, 85, 86, 87, 88, 89, 90, 91, 92] (by decide +kernel) (by decide +kernel)
set_option maxRecDepth 20000 in
theorem gX5_init_X4_init_n28 : GoodIn wsX5_init (wsX4_init) := ggX5_init_X4_init
theorem dX5_init_0 : decode cX5_init 0 = .ok (.aload_n 0, 1) := by decide +kernel
theorem dX5_init_1 : decode cX5_init 1 = .ok (.invokespecial 3, 3) := by decide +kernel
theorem dX5_init_4 : decode cX5_init 4 = .ok (.aload_n 0, 1) := by decide +kernel
theorem dX5_init_5 : decode cX5_init 5 = .ok (.new 9, 3) := by decide +kernel
theorem dX5_init_8 : decode cX5_init 8 = .ok (.dup, 1) := by decide +kernel
theorem dX5_init_9 : decode cX5_init 9 = .ok (.invokespecial 11, 3) := by decide +kernel
theorem dX5_init_12 : decode cX5_init 12 = .ok (.putfield 12, 3) := by decide +kernel
theorem dX5_init_15 : decode cX5_init 15 = .ok (.aload_n 0, 1) := by decide +kernel
theorem dX5_init_16 : decode cX5_init 16 = .ok (.new 9, 3) := by decide +kernel
theorem dX5_init_19 : decode cX5_init 19 = .ok (.dup, 1) := by decide +kernel
theorem dX5_init_20 : decode cX5_init 20 = .ok (.invokespecial 11, 3) := by decide +kernel
theorem dX5_init_23 : decode cX5_init 23 = .ok (.putfield 16, 3) := by decide +kernel
theorem dX5_init_26 : decode cX5_init 26 = .ok (.aload_n 0, 1) := by decide +kernel
theorem dX5_init_27 : decode cX5_init 27 = .ok (.new 19, 3) := by decide +kernel
theorem dX5_init_30 : decode cX5_init 30 = .ok (.dup, 1) := by decide +kernel
theorem dX5_init_31 : decode cX5_init 31 = .ok (.invokespecial 21, 3) := by decide +kernel
theorem dX5_init_34 : decode cX5_init 34 = .ok (.putfield 22, 3) := by decide +kernel
theorem dX5_init_37 : decode cX5_init 37 = .ok (.aload_n 0, 1) := by decide +kernel
theorem dX5_init_38 : decode cX5_init 38 = .ok (.new 26, 3) := by decide +kernel
theorem dX5_init_41 : decode cX5_init 41 = .ok (.dup, 1) := by decide +kernel
theorem dX5_init_42 : decode cX5_init 42 = .ok (.invokespecial 28, 3) := by decide +kernel
theorem dX5_init_45 : decode cX5_init 45 = .ok (.putfield 29, 3) := by decide +kernel
theorem dX5_init_48 : decode cX5_init 48 = .ok (.return_, 1) := by decide +kernel
set_option maxRecDepth 20000 in
theorem ggX5_add_X5_isValue : GoodIn wsX5_add wsX5_isValue := goodIn_r _ [8] (by decide +kernel) (by decide +kernel)
set_option maxRecDepth 20000 in
theorem gX5_add_X5_isValue : GoodIn wsX5_add (va_wsS RX5 33 yX5_isValue wsX5_isValue) := goodIn_app (goodIn_of _ (by decide +kernel)) ggX5_add_X5_isValue
set_option maxRecDepth 20000 in
theorem ggX5_add_X0_remember : GoodIn wsX5_add wsX0_remember := goodIn_r _ [13, 14, 15, 16, 17, 18, 12, 19, 20, 21, 22, 23, 24, 25, 26, 27, 28, 29, 30, 31, 32, 33, 56, 57, 51, 52, 53, 54, 55] (by decide +kernel) (by decide +kernel)
set_option maxRecDepth 20000 in
theorem gX5_add_X0_remember : GoodIn wsX5_add (wsV RX5 47 RX0 yX0_remember wsX0_remember) := goodIn_app (goodIn_of _ (by decide +kernel)) ggX5_add_X0_remember
set_option maxRecDepth 20000 in
theorem ggX5_add_X1_addRow : GoodIn wsX5_add wsX1_addRow := goodIn_r _ [37, 25, 26, 31, 32, 38, 39, 40, 41, 42, 43, 44, 51, 52, 53, 54, 55] (by decide +kernel) (by decide +kernel)
set_option maxRecDepth 20000 in
theorem gX5_add_X1_addRow : GoodIn wsX5_add (wsV RX5 51 RX1 yX1_addRow wsX1_addRow) := goodIn_app (goodIn_of _ (by decide +kernel)) ggX5_add_X1_addRow
theorem dX5_add_0 : decode cX5_add 0 = .ok (.iload_n 1, 1) := by decide +kernel
theorem dX5_add_1 : decode cX5_add 1 = .ok (.invokestatic 33, 3) := by decide +kernel
theorem dX5_add_4 : decode cX5_add 4 = .ok (.ifCond .ne 5, 3) := by decide +kernel
theorem dX5_add_7 : decode cX5_add 7 = .ok (.iconst (-1), 1) := by decide +kernel
theorem dX5_add_8 : decode cX5_add 8 = .ok (.ireturn, 1) := by decide +kernel
theorem dX5_add_9 : decode cX5_add 9 = .ok (.aload_n 0, 1) := by decide +kernel
theorem dX5_add_10 : decode cX5_add 10 = .ok (.getfield 12, 3) := by decide +kernel
theorem dX5_add_13 : decode cX5_add 13 = .ok (.getfield 37, 3) := by decide +kernel
theorem dX5_add_16 : decode cX5_add 16 = .ok (.getfield 41, 3) := by decide +kernel
theorem dX5_add_19 : decode cX5_add 19 = .ok (.bipush 24, 2) := by decide +kernel
theorem dX5_add_21 : decode cX5_add 21 = .ok (.if_icmp .lt 6, 3) := by decide +kernel
theorem dX5_add_24 : decode cX5_add 24 = .ok (.bipush (-3), 2) := by decide +kernel
theorem dX5_add_26 : decode cX5_add 26 = .ok (.ireturn, 1) := by decide +kernel
theorem dX5_add_27 : decode cX5_add 27 = .ok (.aload_n 0, 1) := by decide +kernel
theorem dX5_add_28 : decode cX5_add 28 = .ok (.getfield 22, 3) := by decide +kernel
theorem dX5_add_31 : decode cX5_add 31 = .ok (.aload_n 0, 1) := by decide +kernel
theorem dX5_add_32 : decode cX5_add 32 = .ok (.getfield 12, 3) := by decide +kernel
theorem dX5_add_35 : decode cX5_add 35 = .ok (.getfield 37, 3) := by decide +kernel
theorem dX5_add_38 : decode cX5_add 38 = .ok (.invokevirtual 47, 3) := by decide +kernel
theorem dX5_add_41 : decode cX5_add 41 = .ok (.aload_n 0, 1) := by decide +kernel
theorem dX5_add_42 : decode cX5_add 42 = .ok (.getfield 12, 3) := by decide +kernel
theorem dX5_add_45 : decode cX5_add 45 = .ok (.getfield 37, 3) := by decide +kernel
theorem dX5_add_48 : decode cX5_add 48 = .ok (.iload_n 1, 1) := by decide +kernel
theorem dX5_add_49 : decode cX5_add 49 = .ok (.invokevirtual 51, 3) := by decide +kernel
theorem dX5_add_52 : decode cX5_add 52 = .ok (.ireturn, 1) := by decide +kernel
set_option maxRecDepth 20000 in
theorem ggX5_set_X5_isRow : GoodIn wsX5_set wsX5_isRow := goodIn_r _ [8, 2, 3, 9, 145, 146, 147, 148, 149, 150, 151, 152, 153, 154, 155] (by decide +kernel) (by decide +kernel)
set_option maxRecDepth 20000 in
theorem gX5_set_X5_isRow : GoodIn wsX5_set (wsV RX5 55 RX5 yX5_isRow wsX5_isRow) := goodIn_app (goodIn_of _ (by decide +kernel)) ggX5_set_X5_isRow
set_option maxRecDepth 20000 in
theorem ggX5_set_X5_isColumn : GoodIn wsX5_set wsX5_isColumn := goodIn_r _ [12] (by decide +kernel) (by decide +kernel)
set_option maxRecDepth 20000 in
theorem gX5_set_X5_isColumn : GoodIn wsX5_set (va_wsS RX5 58 yX5_isColumn wsX5_isColumn) := goodIn_app (goodIn_of _ (by decide +kernel)) ggX5_set_X5_isColumn
set_option maxRecDepth 20000 in
theorem ggX5_set_X5_isValue : GoodIn wsX5_set wsX5_isValue := goodIn_r _ [15] (by decide +kernel) (by decide +kernel)
set_option maxRecDepth 20000 in
theorem gX5_set_X5_isValue : GoodIn wsX5_set (va_wsS RX5 33 yX5_isValue wsX5_isValue) := goodIn_app (goodIn_of _ (by decide +kernel)) ggX5_set_X5_isValue
set_option maxRecDepth 20000 in
theorem ggX5_set_X0_remember : GoodIn wsX5_set wsX0_remember := goodIn_r _ [20, 21, 22, 23, 24, 25, 19, 26, 27, 28, 29, 30, 31, 32, 33, 34, 35, 36, 37, 38, 39, 40, 156, 157, 151, 152, 153, 154, 155] (by decide +kernel) (by decide +kernel)
set_option maxRecDepth 20000 in
theorem gX5_set_X0_remember : GoodIn wsX5_set (wsV RX5 47 RX0 yX0_remember wsX0_remember) := goodIn_app (goodIn_of _ (by decide +kernel)) ggX5_set_X0_remember
set_option maxRecDepth 20000 in
theorem ggX5_set_X1_valueAt : GoodIn wsX5_set wsX1_valueAt := goodIn_r _ [44, 38, 45, 7, 46, 151, 152, 153, 154, 155] (by decide +kernel) (by decide +kernel)
set_option maxRecDepth 20000 in
theorem gX5_set_X1_valueAt : GoodIn wsX5_set (wsV RX5 61 RX1 yX1_valueAt wsX1_valueAt) := goodIn_app (goodIn_of _ (by decide +kernel)) ggX5_set_X1_valueAt
set_option maxRecDepth 20000 in
theorem ggX5_set_X1_changeValue : GoodIn wsX5_set wsX1_changeValue := goodIn_r _ [50, 38, 51, 7, 52, 151, 152, 153, 154, 155] (by decide +kernel) (by decide +kernel)
set_option maxRecDepth 20000 in
theorem gX5_set_X1_changeValue : GoodIn wsX5_set (wsV RX5 65 RX1 yX1_changeValue wsX1_changeValue) := goodIn_app (goodIn_of _ (by decide +kernel)) ggX5_set_X1_changeValue
set_option maxRecDepth 20000 in
theorem ggX5_set_X3_settle : GoodIn wsX5_set wsX3_settle := goodIn_r _ [57, 58, 59, 60, 61, 30, 62, 39, 45, 7, 46, 63, 64, 65, 56, 66, 67, 68, 69, 70, 71, 40, 72, 73, 74, 75, 76, 77, 78, 79, 80, 81, 38, 33, 82, 83, 84, 85, 86, 87, 42, 43, 44, 88, 89, 90, 91, 92, 93, 94, 95, 51, 52, 96, 97, 98, 99, 32, 100, 101, 102, 103, 104, 105, 106, 107, 108, 109, 110, 111, 112, 113, 114, 115, 116, 117, 118, 119, 120, 121, 122, 123, 124, 125, 126, 127, 128, 129, 130, 131, 132, 133, 134, 135, 136, 137, 138, 139, 140, 141, 142, 143, 144, 149, 150, 151, 152, 153, 154, 155, 158, 159] (by decide +kernel) (by decide +kernel)
set_option maxRecDepth 20000 in
theorem gX5_set_X3_settle : GoodIn wsX5_set (wsV RX5 69 RX3 yX3_settle wsX3_settle) := goodIn_app (goodIn_of _ (by decide +kernel)) ggX5_set_X3_settle
theorem dX5_set_0 : decode cX5_set 0 = .ok (.aload_n 0, 1) := by decide +kernel
theorem dX5_set_1 : decode cX5_set 1 = .ok (.iload_n 1, 1) := by decide +kernel
theorem dX5_set_2 : decode cX5_set 2 = .ok (.invokevirtual 55, 3) := by decide +kernel
theorem dX5_set_5 : decode cX5_set 5 = .ok (.ifCond .eq 17, 3) := by decide +kernel
theorem dX5_set_8 : decode cX5_set 8 = .ok (.iload_n 2, 1) := by decide +kernel
theorem dX5_set_9 : decode cX5_set 9 = .ok (.invokestatic 58, 3) := by decide +kernel
theorem dX5_set_12 : decode cX5_set 12 = .ok (.ifCond .eq 10, 3) := by decide +kernel
theorem dX5_set_15 : decode cX5_set 15 = .ok (.iload_n 3, 1) := by decide +kernel
theorem dX5_set_16 : decode cX5_set 16 = .ok (.invokestatic 33, 3) := by decide +kernel
theorem dX5_set_19 : decode cX5_set 19 = .ok (.ifCond .ne 5, 3) := by decide +kernel
theorem dX5_set_22 : decode cX5_set 22 = .ok (.iconst (-1), 1) := by decide +kernel
theorem dX5_set_23 : decode cX5_set 23 = .ok (.ireturn, 1) := by decide +kernel
theorem dX5_set_24 : decode cX5_set 24 = .ok (.aload_n 0, 1) := by decide +kernel
theorem dX5_set_25 : decode cX5_set 25 = .ok (.getfield 22, 3) := by decide +kernel
theorem dX5_set_28 : decode cX5_set 28 = .ok (.aload_n 0, 1) := by decide +kernel
theorem dX5_set_29 : decode cX5_set 29 = .ok (.getfield 12, 3) := by decide +kernel
theorem dX5_set_32 : decode cX5_set 32 = .ok (.getfield 37, 3) := by decide +kernel
theorem dX5_set_35 : decode cX5_set 35 = .ok (.invokevirtual 47, 3) := by decide +kernel
theorem dX5_set_38 : decode cX5_set 38 = .ok (.aload_n 0, 1) := by decide +kernel
theorem dX5_set_39 : decode cX5_set 39 = .ok (.getfield 12, 3) := by decide +kernel
theorem dX5_set_42 : decode cX5_set 42 = .ok (.getfield 37, 3) := by decide +kernel
theorem dX5_set_45 : decode cX5_set 45 = .ok (.iload_n 1, 1) := by decide +kernel
theorem dX5_set_46 : decode cX5_set 46 = .ok (.iload_n 2, 1) := by decide +kernel
theorem dX5_set_47 : decode cX5_set 47 = .ok (.invokevirtual 61, 3) := by decide +kernel
theorem dX5_set_50 : decode cX5_set 50 = .ok (.istore 4, 2) := by decide +kernel
theorem dX5_set_52 : decode cX5_set 52 = .ok (.aload_n 0, 1) := by decide +kernel
theorem dX5_set_53 : decode cX5_set 53 = .ok (.getfield 12, 3) := by decide +kernel
theorem dX5_set_56 : decode cX5_set 56 = .ok (.getfield 37, 3) := by decide +kernel
theorem dX5_set_59 : decode cX5_set 59 = .ok (.iload_n 1, 1) := by decide +kernel
theorem dX5_set_60 : decode cX5_set 60 = .ok (.iload_n 2, 1) := by decide +kernel
theorem dX5_set_61 : decode cX5_set 61 = .ok (.iload_n 3, 1) := by decide +kernel
theorem dX5_set_62 : decode cX5_set 62 = .ok (.invokevirtual 65, 3) := by decide +kernel
theorem dX5_set_65 : decode cX5_set 65 = .ok (.aload_n 0, 1) := by decide +kernel
theorem dX5_set_66 : decode cX5_set 66 = .ok (.getfield 12, 3) := by decide +kernel
theorem dX5_set_69 : decode cX5_set 69 = .ok (.iload_n 1, 1) := by decide +kernel
theorem dX5_set_70 : decode cX5_set 70 = .ok (.invokevirtual 69, 3) := by decide +kernel
theorem dX5_set_73 : decode cX5_set 73 = .ok (.iload 4, 2) := by decide +kernel
theorem dX5_set_75 : decode cX5_set 75 = .ok (.ireturn, 1) := by decide +kernel
set_option maxRecDepth 20000 in
theorem ggX5_setDefault_X5_isRow : GoodIn wsX5_setDefault wsX5_isRow := goodIn_r _ [8, 2, 3, 9, 157, 158, 159, 160, 161, 162, 163, 164, 165, 166, 167] (by decide +kernel) (by decide +kernel)
set_option maxRecDepth 20000 in
theorem gX5_setDefault_X5_isRow : GoodIn wsX5_setDefault (wsV RX5 55 RX5 yX5_isRow wsX5_isRow) := goodIn_app (goodIn_of _ (by decide +kernel)) ggX5_setDefault_X5_isRow
set_option maxRecDepth 20000 in
theorem ggX5_setDefault_X5_isValue : GoodIn wsX5_setDefault wsX5_isValue := goodIn_r _ [12] (by decide +kernel) (by decide +kernel)
set_option maxRecDepth 20000 in
theorem gX5_setDefault_X5_isValue : GoodIn wsX5_setDefault (va_wsS RX5 33 yX5_isValue wsX5_isValue) := goodIn_app (goodIn_of _ (by decide +kernel)) ggX5_setDefault_X5_isValue
set_option maxRecDepth 20000 in
theorem ggX5_setDefault_X0_remember : GoodIn wsX5_setDefault wsX0_remember := goodIn_r _ [17, 18, 19, 20, 21, 22, 16, 23, 24, 25, 26, 27, 28, 29, 30, 31, 32, 33, 34, 35, 36, 37, 168, 169, 163, 164, 165, 166, 167] (by decide +kernel) (by decide +kernel)
set_option maxRecDepth 20000 in
theorem gX5_setDefault_X0_remember : GoodIn wsX5_setDefault (wsV RX5 47 RX0 yX0_remember wsX0_remember) := goodIn_app (goodIn_of _ (by decide +kernel)) ggX5_setDefault_X0_remember
set_option maxRecDepth 20000 in
theorem ggX5_setDefault_X1_changeDefault : GoodIn wsX5_setDefault wsX1_changeDefault := goodIn_r _ [41, 30, 42, 43, 44, 27, 45, 35, 46, 7, 47, 48, 49, 50, 51, 52, 53, 163, 164, 165, 166, 167] (by decide +kernel) (by decide +kernel)
set_option maxRecDepth 20000 in
theorem gX5_setDefault_X1_changeDefault : GoodIn wsX5_setDefault (wsV RX5 73 RX1 yX1_changeDefault wsX1_changeDefault) := goodIn_app (goodIn_of _ (by decide +kernel)) ggX5_setDefault_X1_changeDefault
set_option maxRecDepth 20000 in
theorem ggX5_setDefault_X3_settle : GoodIn wsX5_setDefault wsX3_settle := goodIn_r _ [58, 59, 60, 61, 62, 27, 63, 36, 46, 7, 47, 64, 65, 66, 57, 67, 68, 69, 70, 71, 72, 37, 73, 74, 75, 76, 77, 78, 79, 43, 44, 45, 35, 30, 80, 81, 82, 83, 84, 85, 86, 87, 88, 89, 90, 91, 92, 93, 94, 95, 96, 52, 53, 97, 98, 99, 100, 29, 101, 102, 103, 104, 105, 106, 107, 108, 109, 110, 111, 112, 113, 114, 115, 116, 117, 118, 42, 119, 120, 121, 122, 123, 124, 125, 126, 127, 128, 129, 130, 131, 132, 133, 134, 135, 136, 137, 138, 139, 140, 141, 142, 143, 144, 161, 162, 163, 164, 165, 166, 167, 170, 171] (by decide +kernel) (by decide +kernel)
set_option maxRecDepth 20000 in
theorem gX5_setDefault_X3_settle : GoodIn wsX5_setDefault (wsV RX5 69 RX3 yX3_settle wsX3_settle) := goodIn_app (goodIn_of _ (by decide +kernel)) ggX5_setDefault_X3_settle
set_option maxRecDepth 20000 in
theorem ggX5_setDefault_X1_weightOf : GoodIn wsX5_setDefault wsX1_weightOf := goodIn_r _ [148, 149, 116, 117, 27, 118, 42, 43, 44, 45, 35, 30, 46, 7, 47, 150, 151, 152, 153, 154, 155, 156, 163, 164, 165, 166, 167] (by decide +kernel) (by decide +kernel)
set_option maxRecDepth 20000 in
theorem gX5_setDefault_X1_weightOf : GoodIn wsX5_setDefault (wsV RX5 77 RX1 yX1_weightOf wsX1_weightOf) := goodIn_app (goodIn_of _ (by decide +kernel)) ggX5_setDefault_X1_weightOf
theorem dX5_setDefault_0 : decode cX5_setDefault 0 = .ok (.aload_n 0, 1) := by decide +kernel
theorem dX5_setDefault_1 : decode cX5_setDefault 1 = .ok (.iload_n 1, 1) := by decide +kernel
theorem dX5_setDefault_2 : decode cX5_setDefault 2 = .ok (.invokevirtual 55, 3) := by decide +kernel
theorem dX5_setDefault_5 : decode cX5_setDefault 5 = .ok (.ifCond .eq 10, 3) := by decide +kernel
theorem dX5_setDefault_8 : decode cX5_setDefault 8 = .ok (.iload_n 2, 1) := by decide +kernel
theorem dX5_setDefault_9 : decode cX5_setDefault 9 = .ok (.invokestatic 33, 3) := by decide +kernel
theorem dX5_setDefault_12 : decode cX5_setDefault 12 = .ok (.ifCond .ne 5, 3) := by decide +kernel
theorem dX5_setDefault_15 : decode cX5_setDefault 15 = .ok (.iconst (-1), 1) := by decide +kernel
theorem dX5_setDefault_16 : decode cX5_setDefault 16 = .ok (.ireturn, 1) := by decide +kernel
theorem dX5_setDefault_17 : decode cX5_setDefault 17 = .ok (.aload_n 0, 1) := by decide +kernel
theorem dX5_setDefault_18 : decode cX5_setDefault 18 = .ok (.getfield 22, 3) := by decide +kernel
theorem dX5_setDefault_21 : decode cX5_setDefault 21 = .ok (.aload_n 0, 1) := by decide +kernel
theorem dX5_setDefault_22 : decode cX5_setDefault 22 = .ok (.getfield 12, 3) := by decide +kernel
theorem dX5_setDefault_25 : decode cX5_setDefault 25 = .ok (.getfield 37, 3) := by decide +kernel
theorem dX5_setDefault_28 : decode cX5_setDefault 28 = .ok (.invokevirtual 47, 3) := by decide +kernel
theorem dX5_setDefault_31 : decode cX5_setDefault 31 = .ok (.aload_n 0, 1) := by decide +kernel
theorem dX5_setDefault_32 : decode cX5_setDefault 32 = .ok (.getfield 12, 3) := by decide +kernel
theorem dX5_setDefault_35 : decode cX5_setDefault 35 = .ok (.getfield 37, 3) := by decide +kernel
theorem dX5_setDefault_38 : decode cX5_setDefault 38 = .ok (.iload_n 1, 1) := by decide +kernel
theorem dX5_setDefault_39 : decode cX5_setDefault 39 = .ok (.iload_n 2, 1) := by decide +kernel
theorem dX5_setDefault_40 : decode cX5_setDefault 40 = .ok (.invokevirtual 73, 3) := by decide +kernel
theorem dX5_setDefault_43 : decode cX5_setDefault 43 = .ok (.aload_n 0, 1) := by decide +kernel
theorem dX5_setDefault_44 : decode cX5_setDefault 44 = .ok (.getfield 12, 3) := by decide +kernel
theorem dX5_setDefault_47 : decode cX5_setDefault 47 = .ok (.iload_n 1, 1) := by decide +kernel
theorem dX5_setDefault_48 : decode cX5_setDefault 48 = .ok (.invokevirtual 69, 3) := by decide +kernel
theorem dX5_setDefault_51 : decode cX5_setDefault 51 = .ok (.aload_n 0, 1) := by decide +kernel
theorem dX5_setDefault_52 : decode cX5_setDefault 52 = .ok (.getfield 12, 3) := by decide +kernel
theorem dX5_setDefault_55 : decode cX5_setDefault 55 = .ok (.getfield 37, 3) := by decide +kernel
theorem dX5_setDefault_58 : decode cX5_setDefault 58 = .ok (.iload_n 1, 1) := by decide +kernel
theorem dX5_setDefault_59 : decode cX5_setDefault 59 = .ok (.invokevirtual 77, 3) := by decide +kernel
theorem dX5_setDefault_62 : decode cX5_setDefault 62 = .ok (.ireturn, 1) := by decide +kernel
set_option maxRecDepth 20000 in
theorem ggX5_removeLast_X0_remember : GoodIn wsX5_removeLast wsX0_remember := goodIn_r _ [9, 10, 11, 12, 13, 14, 8, 15, 16, 17, 18, 19, 20, 21, 22, 23, 24, 25, 26, 27, 28, 29, 89, 90, 84, 85, 86, 87, 88] (by decide +kernel) (by decide +kernel)
set_option maxRecDepth 20000 in
theorem gX5_removeLast_X0_remember : GoodIn wsX5_removeLast (wsV RX5 47 RX0 yX0_remember wsX0_remember) := goodIn_app (goodIn_of _ (by decide +kernel)) ggX5_removeLast_X0_remember
set_option maxRecDepth 20000 in
theorem ggX5_removeLast_X3_leaveForm : GoodIn wsX5_removeLast wsX3_leaveForm := goodIn_r _ [34, 35, 36, 37, 38, 39, 19, 40, 28, 41, 42, 43, 44, 45, 46, 47, 29, 48, 49, 50, 51, 52, 53, 54, 55, 56, 57, 21, 58, 59, 60, 61, 62, 63, 64, 65, 66, 67, 68, 69, 70, 71, 72, 73, 74, 75, 76, 77, 82, 83, 84, 85, 86, 87, 88, 91, 92] (by decide +kernel) (by decide +kernel)
set_option maxRecDepth 20000 in
theorem gX5_removeLast_X3_leaveForm : GoodIn wsX5_removeLast (wsV RX5 80 RX3 yX3_leaveForm wsX3_leaveForm) := goodIn_app (goodIn_of _ (by decide +kernel)) ggX5_removeLast_X3_leaveForm
theorem dX5_removeLast_0 : decode cX5_removeLast 0 = .ok (.aload_n 0, 1) := by decide +kernel
theorem dX5_removeLast_1 : decode cX5_removeLast 1 = .ok (.getfield 12, 3) := by decide +kernel
theorem dX5_removeLast_4 : decode cX5_removeLast 4 = .ok (.getfield 37, 3) := by decide +kernel
theorem dX5_removeLast_7 : decode cX5_removeLast 7 = .ok (.getfield 41, 3) := by decide +kernel
theorem dX5_removeLast_10 : decode cX5_removeLast 10 = .ok (.ifCond .gt 6, 3) := by decide +kernel
theorem dX5_removeLast_13 : decode cX5_removeLast 13 = .ok (.bipush (-2), 2) := by decide +kernel
theorem dX5_removeLast_15 : decode cX5_removeLast 15 = .ok (.ireturn, 1) := by decide +kernel
theorem dX5_removeLast_16 : decode cX5_removeLast 16 = .ok (.aload_n 0, 1) := by decide +kernel
theorem dX5_removeLast_17 : decode cX5_removeLast 17 = .ok (.getfield 22, 3) := by decide +kernel
theorem dX5_removeLast_20 : decode cX5_removeLast 20 = .ok (.aload_n 0, 1) := by decide +kernel
theorem dX5_removeLast_21 : decode cX5_removeLast 21 = .ok (.getfield 12, 3) := by decide +kernel
theorem dX5_removeLast_24 : decode cX5_removeLast 24 = .ok (.getfield 37, 3) := by decide +kernel
theorem dX5_removeLast_27 : decode cX5_removeLast 27 = .ok (.invokevirtual 47, 3) := by decide +kernel
theorem dX5_removeLast_30 : decode cX5_removeLast 30 = .ok (.aload_n 0, 1) := by decide +kernel
theorem dX5_removeLast_31 : decode cX5_removeLast 31 = .ok (.getfield 12, 3) := by decide +kernel
theorem dX5_removeLast_34 : decode cX5_removeLast 34 = .ok (.aload_n 0, 1) := by decide +kernel
theorem dX5_removeLast_35 : decode cX5_removeLast 35 = .ok (.getfield 12, 3) := by decide +kernel
theorem dX5_removeLast_38 : decode cX5_removeLast 38 = .ok (.getfield 37, 3) := by decide +kernel
theorem dX5_removeLast_41 : decode cX5_removeLast 41 = .ok (.getfield 41, 3) := by decide +kernel
theorem dX5_removeLast_44 : decode cX5_removeLast 44 = .ok (.iconst 1, 1) := by decide +kernel
theorem dX5_removeLast_45 : decode cX5_removeLast 45 = .ok (.isub, 1) := by decide +kernel
theorem dX5_removeLast_46 : decode cX5_removeLast 46 = .ok (.invokevirtual 80, 3) := by decide +kernel
theorem dX5_removeLast_49 : decode cX5_removeLast 49 = .ok (.aload_n 0, 1) := by decide +kernel
theorem dX5_removeLast_50 : decode cX5_removeLast 50 = .ok (.getfield 12, 3) := by decide +kernel
theorem dX5_removeLast_53 : decode cX5_removeLast 53 = .ok (.getfield 37, 3) := by decide +kernel
theorem dX5_removeLast_56 : decode cX5_removeLast 56 = .ok (.dup, 1) := by decide +kernel
theorem dX5_removeLast_57 : decode cX5_removeLast 57 = .ok (.getfield 41, 3) := by decide +kernel
theorem dX5_removeLast_60 : decode cX5_removeLast 60 = .ok (.iconst 1, 1) := by decide +kernel
theorem dX5_removeLast_61 : decode cX5_removeLast 61 = .ok (.isub, 1) := by decide +kernel
theorem dX5_removeLast_62 : decode cX5_removeLast 62 = .ok (.putfield 41, 3) := by decide +kernel
theorem dX5_removeLast_65 : decode cX5_removeLast 65 = .ok (.aload_n 0, 1) := by decide +kernel
theorem dX5_removeLast_66 : decode cX5_removeLast 66 = .ok (.getfield 12, 3) := by decide +kernel
theorem dX5_removeLast_69 : decode cX5_removeLast 69 = .ok (.getfield 37, 3) := by decide +kernel
theorem dX5_removeLast_72 : decode cX5_removeLast 72 = .ok (.getfield 41, 3) := by decide +kernel
theorem dX5_removeLast_75 : decode cX5_removeLast 75 = .ok (.ireturn, 1) := by decide +kernel
set_option maxRecDepth 20000 in
theorem ggX5_slim_X5_isRow : GoodIn wsX5_slim wsX5_isRow := goodIn_r _ [8, 2, 3, 9, 151, 152, 153, 154, 155, 156, 157, 158, 159, 160, 161] (by decide +kernel) (by decide +kernel)
set_option maxRecDepth 20000 in
theorem gX5_slim_X5_isRow : GoodIn wsX5_slim (wsV RX5 55 RX5 yX5_isRow wsX5_isRow) := goodIn_app (goodIn_of _ (by decide +kernel)) ggX5_slim_X5_isRow
set_option maxRecDepth 20000 in
theorem ggX5_slim_X0_remember : GoodIn wsX5_slim wsX0_remember := goodIn_r _ [14, 15, 16, 17, 18, 19, 13, 20, 21, 22, 23, 24, 25, 26, 27, 28, 29, 30, 31, 32, 33, 34, 162, 163, 157, 158, 159, 160, 161] (by decide +kernel) (by decide +kernel)
set_option maxRecDepth 20000 in
theorem gX5_slim_X0_remember : GoodIn wsX5_slim (wsV RX5 47 RX0 yX0_remember wsX0_remember) := goodIn_app (goodIn_of _ (by decide +kernel)) ggX5_slim_X0_remember
set_option maxRecDepth 20000 in
theorem ggX5_slim_X1_slimDefault : GoodIn wsX5_slim wsX1_slimDefault := goodIn_r _ [38, 27, 39, 40, 41, 24, 42, 43, 44, 45, 46, 32, 47, 7, 48, 49, 50, 51, 52, 53, 54, 157, 158, 159, 160, 161] (by decide +kernel) (by decide +kernel)
set_option maxRecDepth 20000 in
theorem gX5_slim_X1_slimDefault : GoodIn wsX5_slim (wsV RX5 83 RX1 yX1_slimDefault wsX1_slimDefault) := goodIn_app (goodIn_of _ (by decide +kernel)) ggX5_slim_X1_slimDefault
set_option maxRecDepth 20000 in
theorem ggX5_slim_X3_settle : GoodIn wsX5_slim wsX3_settle := goodIn_r _ [59, 60, 61, 62, 63, 24, 64, 33, 47, 7, 48, 65, 66, 67, 58, 68, 69, 70, 71, 72, 73, 34, 74, 75, 76, 77, 78, 79, 80, 81, 82, 83, 32, 27, 84, 85, 86, 87, 88, 89, 44, 45, 46, 90, 91, 92, 93, 94, 95, 96, 97, 53, 54, 98, 99, 100, 101, 26, 102, 103, 104, 105, 106, 107, 108, 109, 110, 111, 112, 113, 114, 115, 116, 117, 118, 119, 120, 121, 122, 123, 124, 125, 126, 127, 128, 129, 130, 131, 132, 133, 134, 135, 136, 137, 138, 139, 140, 141, 142, 143, 144, 145, 146, 155, 156, 157, 158, 159, 160, 161, 164, 165] (by decide +kernel) (by decide +kernel)
set_option maxRecDepth 20000 in
theorem gX5_slim_X3_settle : GoodIn wsX5_slim (wsV RX5 69 RX3 yX3_settle wsX3_settle) := goodIn_app (goodIn_of _ (by decide +kernel)) ggX5_slim_X3_settle
set_option maxRecDepth 20000 in
theorem ggX5_slim_X1_defaultOf : GoodIn wsX5_slim wsX1_defaultOf := goodIn_r _ [150, 27, 47, 7, 48, 157, 158, 159, 160, 161] (by decide +kernel) (by decide +kernel)
set_option maxRecDepth 20000 in
theorem gX5_slim_X1_defaultOf : GoodIn wsX5_slim (wsV RX5 86 RX1 yX1_defaultOf wsX1_defaultOf) := goodIn_app (goodIn_of _ (by decide +kernel)) ggX5_slim_X1_defaultOf
theorem dX5_slim_0 : decode cX5_slim 0 = .ok (.aload_n 0, 1) := by decide +kernel
theorem dX5_slim_1 : decode cX5_slim 1 = .ok (.iload_n 1, 1) := by decide +kernel
theorem dX5_slim_2 : decode cX5_slim 2 = .ok (.invokevirtual 55, 3) := by decide +kernel
theorem dX5_slim_5 : decode cX5_slim 5 = .ok (.ifCond .ne 5, 3) := by decide +kernel
theorem dX5_slim_8 : decode cX5_slim 8 = .ok (.iconst (-1), 1) := by decide +kernel
theorem dX5_slim_9 : decode cX5_slim 9 = .ok (.ireturn, 1) := by decide +kernel
theorem dX5_slim_10 : decode cX5_slim 10 = .ok (.aload_n 0, 1) := by decide +kernel
theorem dX5_slim_11 : decode cX5_slim 11 = .ok (.getfield 22, 3) := by decide +kernel
theorem dX5_slim_14 : decode cX5_slim 14 = .ok (.aload_n 0, 1) := by decide +kernel
theorem dX5_slim_15 : decode cX5_slim 15 = .ok (.getfield 12, 3) := by decide +kernel
theorem dX5_slim_18 : decode cX5_slim 18 = .ok (.getfield 37, 3) := by decide +kernel
theorem dX5_slim_21 : decode cX5_slim 21 = .ok (.invokevirtual 47, 3) := by decide +kernel
theorem dX5_slim_24 : decode cX5_slim 24 = .ok (.aload_n 0, 1) := by decide +kernel
theorem dX5_slim_25 : decode cX5_slim 25 = .ok (.getfield 12, 3) := by decide +kernel
theorem dX5_slim_28 : decode cX5_slim 28 = .ok (.getfield 37, 3) := by decide +kernel
theorem dX5_slim_31 : decode cX5_slim 31 = .ok (.iload_n 1, 1) := by decide +kernel
theorem dX5_slim_32 : decode cX5_slim 32 = .ok (.invokevirtual 83, 3) := by decide +kernel
theorem dX5_slim_35 : decode cX5_slim 35 = .ok (.aload_n 0, 1) := by decide +kernel
theorem dX5_slim_36 : decode cX5_slim 36 = .ok (.getfield 12, 3) := by decide +kernel
theorem dX5_slim_39 : decode cX5_slim 39 = .ok (.iload_n 1, 1) := by decide +kernel
theorem dX5_slim_40 : decode cX5_slim 40 = .ok (.invokevirtual 69, 3) := by decide +kernel
theorem dX5_slim_43 : decode cX5_slim 43 = .ok (.aload_n 0, 1) := by decide +kernel
theorem dX5_slim_44 : decode cX5_slim 44 = .ok (.getfield 12, 3) := by decide +kernel
theorem dX5_slim_47 : decode cX5_slim 47 = .ok (.getfield 37, 3) := by decide +kernel
theorem dX5_slim_50 : decode cX5_slim 50 = .ok (.iload_n 1, 1) := by decide +kernel
theorem dX5_slim_51 : decode cX5_slim 51 = .ok (.invokevirtual 86, 3) := by decide +kernel
theorem dX5_slim_54 : decode cX5_slim 54 = .ok (.ireturn, 1) := by decide +kernel
set_option maxRecDepth 20000 in
theorem ggX5_push_X0_remember : GoodIn wsX5_push wsX0_remember := goodIn_r _ [9, 10, 11, 12, 13, 14, 8, 15, 16, 17, 18, 19, 20, 21, 22, 23, 24, 25, 26, 27, 28, 29, 178, 179, 180, 181, 182, 183, 184] (by decide +kernel) (by decide +kernel)
set_option maxRecDepth 20000 in
theorem gX5_push_X0_remember : GoodIn wsX5_push (wsV RX5 47 RX0 yX0_remember wsX0_remember) := goodIn_app (goodIn_of _ (by decide +kernel)) ggX5_push_X0_remember
set_option maxRecDepth 20000 in
theorem ggX5_push_X3_pushAnewByWeights : GoodIn wsX5_push wsX3_pushAnewByWeights := goodIn_r _ [34, 35, 36, 37, 38, 39, 33, 40, 41, 42, 43, 44, 19, 45, 28, 29, 46, 47, 48, 49, 50, 51, 52, 53, 54, 55, 56, 57, 58, 59, 60, 61, 62, 63, 64, 65, 66, 67, 68, 69, 27, 22, 70, 71, 72, 73, 74, 75, 76, 77, 78, 79, 80, 81, 82, 83, 84, 85, 86, 87, 88, 89, 90, 91, 92, 93, 94, 95, 96, 97, 98, 99, 100, 101, 102, 103, 104, 105, 106, 107, 108, 109, 110, 111, 112, 113, 114, 115, 116, 117, 118, 119, 120, 121, 122, 21, 123, 124, 125, 126, 127, 128, 129, 130, 131, 132, 133, 134, 135, 136, 137, 138, 139, 140, 141, 142, 143, 144, 145, 146, 147, 148, 149, 150, 151, 152, 153, 154, 155, 156, 157, 158, 159, 160, 161, 162, 163, 176, 177, 180, 181, 182, 183, 184, 185, 186] (by decide +kernel) (by decide +kernel)
set_option maxRecDepth 20000 in
theorem gX5_push_X3_pushAnewByWeights : GoodIn wsX5_push (wsV RX5 89 RX3 yX3_pushAnewByWeights wsX3_pushAnewByWeights) := goodIn_app (goodIn_of _ (by decide +kernel)) ggX5_push_X3_pushAnewByWeights
set_option maxRecDepth 20000 in
theorem ggX5_push_X2_endOfCells : GoodIn wsX5_push wsX2_endOfCells := goodIn_r _ [167, 168, 169, 170, 53, 171, 56, 70, 71, 72, 185, 186] (by decide +kernel) (by decide +kernel)
set_option maxRecDepth 20000 in
theorem gX5_push_X2_endOfCells : GoodIn wsX5_push (wsV RX5 96 RX2 yX2_endOfCells wsX2_endOfCells) := goodIn_app (goodIn_of _ (by decide +kernel)) ggX5_push_X2_endOfCells
theorem dX5_push_0 : decode cX5_push 0 = .ok (.aload_n 0, 1) := by decide +kernel
theorem dX5_push_1 : decode cX5_push 1 = .ok (.getfield 22, 3) := by decide +kernel
theorem dX5_push_4 : decode cX5_push 4 = .ok (.aload_n 0, 1) := by decide +kernel
theorem dX5_push_5 : decode cX5_push 5 = .ok (.getfield 12, 3) := by decide +kernel
theorem dX5_push_8 : decode cX5_push 8 = .ok (.getfield 37, 3) := by decide +kernel
theorem dX5_push_11 : decode cX5_push 11 = .ok (.invokevirtual 47, 3) := by decide +kernel
theorem dX5_push_14 : decode cX5_push 14 = .ok (.aload_n 0, 1) := by decide +kernel
theorem dX5_push_15 : decode cX5_push 15 = .ok (.getfield 12, 3) := by decide +kernel
theorem dX5_push_18 : decode cX5_push 18 = .ok (.invokevirtual 89, 3) := by decide +kernel
theorem dX5_push_21 : decode cX5_push 21 = .ok (.aload_n 0, 1) := by decide +kernel
theorem dX5_push_22 : decode cX5_push 22 = .ok (.getfield 12, 3) := by decide +kernel
theorem dX5_push_25 : decode cX5_push 25 = .ok (.getfield 92, 3) := by decide +kernel
theorem dX5_push_28 : decode cX5_push 28 = .ok (.invokevirtual 96, 3) := by decide +kernel
theorem dX5_push_31 : decode cX5_push 31 = .ok (.ireturn, 1) := by decide +kernel
set_option maxRecDepth 20000 in
theorem ggX5_undo_X0_takeLatest : GoodIn wsX5_undo wsX0_takeLatest := goodIn_r _ [8, 9, 10, 77, 78] (by decide +kernel) (by decide +kernel)
set_option maxRecDepth 20000 in
theorem gX5_undo_X0_takeLatest : GoodIn wsX5_undo (wsV RX5 102 RX0 yX0_takeLatest wsX0_takeLatest) := goodIn_app (goodIn_of _ (by decide +kernel)) ggX5_undo_X0_takeLatest
set_option maxRecDepth 20000 in
theorem ggX5_undo_X3_restore : GoodIn wsX5_undo wsX3_restore := goodIn_r _ [15, 16, 17, 18, 19, 20, 21, 22, 23, 24, 25, 26, 27, 28, 29, 30, 31, 32, 33, 34, 35, 36, 37, 38, 39, 40, 41, 42, 43, 44, 45, 46, 14, 47, 48, 49, 50, 51, 52, 53, 54, 55, 56, 57, 58, 59, 60, 61, 62, 63, 64, 65, 66, 67, 68, 69, 70, 71, 72, 79, 80, 81, 82, 83, 84, 85, 86, 87] (by decide +kernel) (by decide +kernel)
set_option maxRecDepth 20000 in
theorem gX5_undo_X3_restore : GoodIn wsX5_undo (wsV RX5 106 RX3 yX3_restore wsX3_restore) := goodIn_app (goodIn_of _ (by decide +kernel)) ggX5_undo_X3_restore
theorem dX5_undo_0 : decode cX5_undo 0 = .ok (.aload_n 0, 1) := by decide +kernel
theorem dX5_undo_1 : decode cX5_undo 1 = .ok (.getfield 22, 3) := by decide +kernel
theorem dX5_undo_4 : decode cX5_undo 4 = .ok (.invokevirtual 102, 3) := by decide +kernel
theorem dX5_undo_7 : decode cX5_undo 7 = .ok (.astore_n 1, 1) := by decide +kernel
theorem dX5_undo_8 : decode cX5_undo 8 = .ok (.aload_n 1, 1) := by decide +kernel
theorem dX5_undo_9 : decode cX5_undo 9 = .ok (.ifnonnull 6, 3) := by decide +kernel
theorem dX5_undo_12 : decode cX5_undo 12 = .ok (.bipush (-2), 2) := by decide +kernel
theorem dX5_undo_14 : decode cX5_undo 14 = .ok (.ireturn, 1) := by decide +kernel
theorem dX5_undo_15 : decode cX5_undo 15 = .ok (.aload_n 0, 1) := by decide +kernel
theorem dX5_undo_16 : decode cX5_undo 16 = .ok (.getfield 12, 3) := by decide +kernel
theorem dX5_undo_19 : decode cX5_undo 19 = .ok (.aload_n 1, 1) := by decide +kernel
theorem dX5_undo_20 : decode cX5_undo 20 = .ok (.invokevirtual 106, 3) := by decide +kernel
theorem dX5_undo_23 : decode cX5_undo 23 = .ok (.aload_n 0, 1) := by decide +kernel
theorem dX5_undo_24 : decode cX5_undo 24 = .ok (.getfield 22, 3) := by decide +kernel
theorem dX5_undo_27 : decode cX5_undo 27 = .ok (.getfield 109, 3) := by decide +kernel
theorem dX5_undo_30 : decode cX5_undo 30 = .ok (.ireturn, 1) := by decide +kernel
set_option maxRecDepth 20000 in
theorem ggX5_append_X4_appendSign : GoodIn wsX5_append wsX4_appendSign := goodIn_r _ [7, 8, 9, 14, 15, 16, 17, 18, 19, 20, 21] (by decide +kernel) (by decide +kernel)
set_option maxRecDepth 20000 in
theorem gX5_append_X4_appendSign : GoodIn wsX5_append (wsV RX5 115 RX4 yX4_appendSign wsX4_appendSign) := goodIn_app (goodIn_of _ (by decide +kernel)) ggX5_append_X4_appendSign
theorem dX5_append_0 : decode cX5_append 0 = .ok (.iload_n 1, 1) := by decide +kernel
theorem dX5_append_1 : decode cX5_append 1 = .ok (.iconst 1, 1) := by decide +kernel
theorem dX5_append_2 : decode cX5_append 2 = .ok (.if_icmp .lt 10, 3) := by decide +kernel
theorem dX5_append_5 : decode cX5_append 5 = .ok (.iload_n 1, 1) := by decide +kernel
theorem dX5_append_6 : decode cX5_append 6 = .ok (.sipush 255, 3) := by decide +kernel
theorem dX5_append_9 : decode cX5_append 9 = .ok (.if_icmp .le 5, 3) := by decide +kernel
theorem dX5_append_12 : decode cX5_append 12 = .ok (.iconst (-1), 1) := by decide +kernel
theorem dX5_append_13 : decode cX5_append 13 = .ok (.ireturn, 1) := by decide +kernel
theorem dX5_append_14 : decode cX5_append 14 = .ok (.aload_n 0, 1) := by decide +kernel
theorem dX5_append_15 : decode cX5_append 15 = .ok (.getfield 29, 3) := by decide +kernel
theorem dX5_append_18 : decode cX5_append 18 = .ok (.getfield 112, 3) := by decide +kernel
theorem dX5_append_21 : decode cX5_append 21 = .ok (.bipush 100, 2) := by decide +kernel
theorem dX5_append_23 : decode cX5_append 23 = .ok (.if_icmp .lt 6, 3) := by decide +kernel
theorem dX5_append_26 : decode cX5_append 26 = .ok (.bipush (-3), 2) := by decide +kernel
theorem dX5_append_28 : decode cX5_append 28 = .ok (.ireturn, 1) := by decide +kernel
theorem dX5_append_29 : decode cX5_append 29 = .ok (.aload_n 0, 1) := by decide +kernel
theorem dX5_append_30 : decode cX5_append 30 = .ok (.getfield 29, 3) := by decide +kernel
theorem dX5_append_33 : decode cX5_append 33 = .ok (.iload_n 1, 1) := by decide +kernel
theorem dX5_append_34 : decode cX5_append 34 = .ok (.i2c, 1) := by decide +kernel
theorem dX5_append_35 : decode cX5_append 35 = .ok (.invokevirtual 115, 3) := by decide +kernel
theorem dX5_append_38 : decode cX5_append 38 = .ok (.aload_n 0, 1) := by decide +kernel
theorem dX5_append_39 : decode cX5_append 39 = .ok (.getfield 29, 3) := by decide +kernel
theorem dX5_append_42 : decode cX5_append 42 = .ok (.getfield 112, 3) := by decide +kernel
theorem dX5_append_45 : decode cX5_append 45 = .ok (.ireturn, 1) := by decide +kernel
theorem dX5_clearText_0 : decode cX5_clearText 0 = .ok (.aload_n 0, 1) := by decide +kernel
theorem dX5_clearText_1 : decode cX5_clearText 1 = .ok (.getfield 29, 3) := by decide +kernel
theorem dX5_clearText_4 : decode cX5_clearText 4 = .ok (.getfield 112, 3) := by decide +kernel
theorem dX5_clearText_7 : decode cX5_clearText 7 = .ok (.istore_n 1, 1) := by decide +kernel
theorem dX5_clearText_8 : decode cX5_clearText 8 = .ok (.aload_n 0, 1) := by decide +kernel
theorem dX5_clearText_9 : decode cX5_clearText 9 = .ok (.getfield 29, 3) := by decide +kernel
theorem dX5_clearText_12 : decode cX5_clearText 12 = .ok (.iconst 0, 1) := by decide +kernel
theorem dX5_clearText_13 : decode cX5_clearText 13 = .ok (.putfield 112, 3) := by decide +kernel
theorem dX5_clearText_16 : decode cX5_clearText 16 = .ok (.iload_n 1, 1) := by decide +kernel
theorem dX5_clearText_17 : decode cX5_clearText 17 = .ok (.ireturn, 1) := by decide +kernel
set_option maxRecDepth 20000 in
theorem ggX5_read_X4_readTable : GoodIn wsX5_read wsX4_readTable := goodIn_r _ [13, 14, 15, 16, 17, 18, 19, 12, 20, 21, 22, 23, 24, 25, 26, 27, 28, 29, 30, 31, 32, 33, 34, 35, 36, 37, 38, 39, 40, 41, 42, 43, 44, 45, 46, 47, 48, 49, 50, 51, 52, 53, 54, 55, 56, 57, 58, 59, 60, 61, 62, 63, 64, 65, 66, 227, 228, 229, 230, 231, 232, 233, 234] (by decide +kernel) (by decide +kernel)
set_option maxRecDepth 20000 in
theorem gX5_read_X4_readTable : GoodIn wsX5_read (wsV RX5 119 RX4 yX4_readTable wsX4_readTable) := goodIn_app (goodIn_of _ (by decide +kernel)) ggX5_read_X4_readTable
set_option maxRecDepth 20000 in
theorem ggX5_read_X0_remember : GoodIn wsX5_read wsX0_remember := goodIn_r _ [71, 72, 73, 74, 75, 76, 70, 77, 78, 79, 80, 81, 82, 83, 84, 85, 86, 87, 88, 89, 90, 91, 235, 236, 222, 223, 224, 225, 226] (by decide +kernel) (by decide +kernel)
set_option maxRecDepth 20000 in
theorem gX5_read_X0_remember : GoodIn wsX5_read (wsV RX5 47 RX0 yX0_remember wsX0_remember) := goodIn_app (goodIn_of _ (by decide +kernel)) ggX5_read_X0_remember
set_option maxRecDepth 20000 in
theorem ggX5_read_X5_addRowOfText : GoodIn wsX5_read wsX5_addRowOfText := goodIn_r _ [95, 2, 3, 1, 96, 97, 98, 12, 99, 48, 100, 51, 101, 102, 103, 104, 81, 105, 83, 84, 89, 90, 106, 107, 108, 109, 110, 111, 112, 113, 114, 115, 116, 49, 117, 118, 119, 120, 50, 52, 121, 122, 123, 124, 125, 126, 127, 128, 129, 130, 131, 132, 133, 134, 135, 136, 137, 138, 139, 91, 140, 141, 142, 143, 144, 145, 146, 147, 148, 149, 150, 151, 152, 153, 154, 155, 156, 157, 158, 159, 160, 161, 162, 163, 164, 165, 166, 167, 168, 169, 170, 171, 172, 173, 174, 175, 176, 177, 178, 179, 180, 181, 182, 183, 184, 185, 186, 187, 188, 189, 190, 191, 192, 193, 194, 195, 196, 197, 198, 199, 200, 201, 202, 203, 204, 205, 206, 207, 208, 209, 210, 211, 212, 213, 214, 215, 216, 217, 218, 219, 220, 221, 227, 228, 229, 230, 231, 232, 233, 234, 222, 223, 224, 225, 226, 237, 238] (by decide +kernel) (by decide +kernel)
set_option maxRecDepth 20000 in
theorem gX5_read_X5_addRowOfText : GoodIn wsX5_read (wsV RX5 128 RX5 yX5_addRowOfText wsX5_addRowOfText) := goodIn_app (goodIn_of _ (by decide +kernel)) ggX5_read_X5_addRowOfText
theorem dX5_read_0 : decode cX5_read 0 = .ok (.aload_n 0, 1) := by decide +kernel
theorem dX5_read_1 : decode cX5_read 1 = .ok (.getfield 29, 3) := by decide +kernel
theorem dX5_read_4 : decode cX5_read 4 = .ok (.bipush 24, 2) := by decide +kernel
theorem dX5_read_6 : decode cX5_read 6 = .ok (.aload_n 0, 1) := by decide +kernel
theorem dX5_read_7 : decode cX5_read 7 = .ok (.getfield 12, 3) := by decide +kernel
theorem dX5_read_10 : decode cX5_read 10 = .ok (.getfield 37, 3) := by decide +kernel
theorem dX5_read_13 : decode cX5_read 13 = .ok (.getfield 41, 3) := by decide +kernel
theorem dX5_read_16 : decode cX5_read 16 = .ok (.isub, 1) := by decide +kernel
theorem dX5_read_17 : decode cX5_read 17 = .ok (.invokevirtual 119, 3) := by decide +kernel
theorem dX5_read_20 : decode cX5_read 20 = .ok (.ifCond .ne 15, 3) := by decide +kernel
theorem dX5_read_23 : decode cX5_read 23 = .ok (.sipush (-1000), 3) := by decide +kernel
theorem dX5_read_26 : decode cX5_read 26 = .ok (.aload_n 0, 1) := by decide +kernel
theorem dX5_read_27 : decode cX5_read 27 = .ok (.getfield 29, 3) := by decide +kernel
theorem dX5_read_30 : decode cX5_read 30 = .ok (.getfield 122, 3) := by decide +kernel
theorem dX5_read_33 : decode cX5_read 33 = .ok (.isub, 1) := by decide +kernel
theorem dX5_read_34 : decode cX5_read 34 = .ok (.ireturn, 1) := by decide +kernel
theorem dX5_read_35 : decode cX5_read 35 = .ok (.aload_n 0, 1) := by decide +kernel
theorem dX5_read_36 : decode cX5_read 36 = .ok (.getfield 22, 3) := by decide +kernel
theorem dX5_read_39 : decode cX5_read 39 = .ok (.aload_n 0, 1) := by decide +kernel
theorem dX5_read_40 : decode cX5_read 40 = .ok (.getfield 12, 3) := by decide +kernel
theorem dX5_read_43 : decode cX5_read 43 = .ok (.getfield 37, 3) := by decide +kernel
theorem dX5_read_46 : decode cX5_read 46 = .ok (.invokevirtual 47, 3) := by decide +kernel
theorem dX5_read_49 : decode cX5_read 49 = .ok (.iconst 0, 1) := by decide +kernel
theorem dX5_read_50 : decode cX5_read 50 = .ok (.istore_n 1, 1) := by decide +kernel
theorem dX5_read_51 : decode cX5_read 51 = .ok (.iload_n 1, 1) := by decide +kernel
theorem dX5_read_52 : decode cX5_read 52 = .ok (.aload_n 0, 1) := by decide +kernel
theorem dX5_read_53 : decode cX5_read 53 = .ok (.getfield 29, 3) := by decide +kernel
theorem dX5_read_56 : decode cX5_read 56 = .ok (.getfield 125, 3) := by decide +kernel
theorem dX5_read_59 : decode cX5_read 59 = .ok (.if_icmp .ge 14, 3) := by decide +kernel
theorem dX5_read_62 : decode cX5_read 62 = .ok (.aload_n 0, 1) := by decide +kernel
theorem dX5_read_63 : decode cX5_read 63 = .ok (.iload_n 1, 1) := by decide +kernel
theorem dX5_read_64 : decode cX5_read 64 = .ok (.invokevirtual 128, 3) := by decide +kernel
theorem dX5_read_67 : decode cX5_read 67 = .ok (.iinc 1 1, 3) := by decide +kernel
theorem dX5_read_70 : decode cX5_read 70 = .ok (.goto (-19), 3) := by decide +kernel
theorem dX5_read_73 : decode cX5_read 73 = .ok (.aload_n 0, 1) := by decide +kernel
theorem dX5_read_74 : decode cX5_read 74 = .ok (.getfield 29, 3) := by decide +kernel
theorem dX5_read_77 : decode cX5_read 77 = .ok (.iconst 0, 1) := by decide +kernel
theorem dX5_read_78 : decode cX5_read 78 = .ok (.putfield 112, 3) := by decide +kernel
theorem dX5_read_81 : decode cX5_read 81 = .ok (.aload_n 0, 1) := by decide +kernel
theorem dX5_read_82 : decode cX5_read 82 = .ok (.getfield 29, 3) := by decide +kernel
theorem dX5_read_85 : decode cX5_read 85 = .ok (.getfield 125, 3) := by decide +kernel
theorem dX5_read_88 : decode cX5_read 88 = .ok (.ireturn, 1) := by decide +kernel
set_option maxRecDepth 20000 in
theorem ggX5_get_X5_isRow : GoodIn wsX5_get wsX5_isRow := goodIn_r _ [6, 1, 7, 8, 48, 49, 50, 51, 52, 53, 54, 55, 56, 57, 58] (by decide +kernel) (by decide +kernel)
set_option maxRecDepth 20000 in
theorem gX5_get_X5_isRow : GoodIn wsX5_get (wsV RX5 55 RX5 yX5_isRow wsX5_isRow) := goodIn_app (goodIn_of _ (by decide +kernel)) ggX5_get_X5_isRow
set_option maxRecDepth 20000 in
theorem ggX5_get_X5_isColumn : GoodIn wsX5_get wsX5_isColumn := goodIn_r _ [11] (by decide +kernel) (by decide +kernel)
set_option maxRecDepth 20000 in
theorem gX5_get_X5_isColumn : GoodIn wsX5_get (va_wsS RX5 58 yX5_isColumn wsX5_isColumn) := goodIn_app (goodIn_of _ (by decide +kernel)) ggX5_get_X5_isColumn
set_option maxRecDepth 20000 in
theorem ggX5_get_X3_lookUp : GoodIn wsX5_get wsX3_lookUp := goodIn_r _ [16, 17, 18, 19, 20, 21, 22, 23, 24, 25, 5, 26, 27, 28, 29, 30, 31, 32, 33, 34, 35, 36, 37, 38, 39, 40, 41, 42, 43, 44, 45, 46, 47, 52, 53, 54, 55, 56, 57, 58, 59, 60] (by decide +kernel) (by decide +kernel)
set_option maxRecDepth 20000 in
theorem gX5_get_X3_lookUp : GoodIn wsX5_get (wsV RX5 131 RX3 yX3_lookUp wsX3_lookUp) := goodIn_app (goodIn_of _ (by decide +kernel)) ggX5_get_X3_lookUp
theorem dX5_get_0 : decode cX5_get 0 = .ok (.aload_n 0, 1) := by decide +kernel
theorem dX5_get_1 : decode cX5_get 1 = .ok (.iload_n 1, 1) := by decide +kernel
theorem dX5_get_2 : decode cX5_get 2 = .ok (.invokevirtual 55, 3) := by decide +kernel
theorem dX5_get_5 : decode cX5_get 5 = .ok (.ifCond .eq 10, 3) := by decide +kernel
theorem dX5_get_8 : decode cX5_get 8 = .ok (.iload_n 2, 1) := by decide +kernel
theorem dX5_get_9 : decode cX5_get 9 = .ok (.invokestatic 58, 3) := by decide +kernel
theorem dX5_get_12 : decode cX5_get 12 = .ok (.ifCond .ne 5, 3) := by decide +kernel
theorem dX5_get_15 : decode cX5_get 15 = .ok (.iconst (-1), 1) := by decide +kernel
theorem dX5_get_16 : decode cX5_get 16 = .ok (.ireturn, 1) := by decide +kernel
theorem dX5_get_17 : decode cX5_get 17 = .ok (.aload_n 0, 1) := by decide +kernel
theorem dX5_get_18 : decode cX5_get 18 = .ok (.getfield 12, 3) := by decide +kernel
theorem dX5_get_21 : decode cX5_get 21 = .ok (.iload_n 1, 1) := by decide +kernel
theorem dX5_get_22 : decode cX5_get 22 = .ok (.iload_n 2, 1) := by decide +kernel
theorem dX5_get_23 : decode cX5_get 23 = .ok (.invokevirtual 131, 3) := by decide +kernel
theorem dX5_get_26 : decode cX5_get 26 = .ok (.ireturn, 1) := by decide +kernel
set_option maxRecDepth 20000 in
theorem ggX5_count_X1_formCount : GoodIn wsX5_count wsX1_formCount := goodIn_r _ [13, 14, 15, 16, 12, 17, 18, 19, 20, 21, 91, 92, 93, 94, 95] (by decide +kernel) (by decide +kernel)
set_option maxRecDepth 20000 in
theorem gX5_count_X1_formCount : GoodIn wsX5_count (wsV RX5 134 RX1 yX1_formCount wsX1_formCount) := goodIn_app (goodIn_of _ (by decide +kernel)) ggX5_count_X1_formCount
set_option maxRecDepth 20000 in
theorem ggX5_count_X1_weightSum : GoodIn wsX5_count wsX1_weightSum := goodIn_r _ [25, 26, 27, 28, 29, 12, 30, 31, 32, 33, 34, 35, 36, 37, 38, 39, 40, 19, 20, 21, 41, 42, 43, 44, 45, 46, 47, 91, 92, 93, 94, 95] (by decide +kernel) (by decide +kernel)
set_option maxRecDepth 20000 in
theorem gX5_count_X1_weightSum : GoodIn wsX5_count (wsV RX5 137 RX1 yX1_weightSum wsX1_weightSum) := goodIn_app (goodIn_of _ (by decide +kernel)) ggX5_count_X1_weightSum
set_option maxRecDepth 20000 in
theorem ggX5_count_X2_filledCells : GoodIn wsX5_count wsX2_filledCells := goodIn_r _ [52, 53, 54, 55, 51, 56, 57, 19, 20, 21, 106, 107] (by decide +kernel) (by decide +kernel)
