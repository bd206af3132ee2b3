theorem dX6_forms_94 : decode cX6_forms 94 = .ok (.iaload, 1) := by decide +kernel
theorem dX6_forms_95 : decode cX6_forms 95 = .ok (.ifCond .lt 9, 3) := by decide +kernel
theorem dX6_forms_98 : decode cX6_forms 98 = .ok (.iinc 2 1, 3) := by decide +kernel
theorem dX6_forms_101 : decode cX6_forms 101 = .ok (.goto (-16), 3) := by decide +kernel
theorem dX6_forms_104 : decode cX6_forms 104 = .ok (.aload_n 0, 1) := by decide +kernel
theorem dX6_forms_105 : decode cX6_forms 105 = .ok (.getfield 7, 3) := by decide +kernel
theorem dX6_forms_108 : decode cX6_forms 108 = .ok (.sipush 457, 3) := by decide +kernel
theorem dX6_forms_111 : decode cX6_forms 111 = .ok (.iload_n 2, 1) := by decide +kernel
theorem dX6_forms_112 : decode cX6_forms 112 = .ok (.iadd, 1) := by decide +kernel
theorem dX6_forms_113 : decode cX6_forms 113 = .ok (.aload_n 0, 1) := by decide +kernel
theorem dX6_forms_114 : decode cX6_forms 114 = .ok (.aload_n 0, 1) := by decide +kernel
theorem dX6_forms_115 : decode cX6_forms 115 = .ok (.iload_n 1, 1) := by decide +kernel
theorem dX6_forms_116 : decode cX6_forms 116 = .ok (.invokevirtual 45, 3) := by decide +kernel
theorem dX6_forms_119 : decode cX6_forms 119 = .ok (.invokevirtual 59, 3) := by decide +kernel
theorem dX6_forms_122 : decode cX6_forms 122 = .ok (.iastore, 1) := by decide +kernel
theorem dX6_forms_123 : decode cX6_forms 123 = .ok (.aload_n 0, 1) := by decide +kernel
theorem dX6_forms_124 : decode cX6_forms 124 = .ok (.getfield 7, 3) := by decide +kernel
theorem dX6_forms_127 : decode cX6_forms 127 = .ok (.bipush 49, 2) := by decide +kernel
theorem dX6_forms_129 : decode cX6_forms 129 = .ok (.iload_n 1, 1) := by decide +kernel
theorem dX6_forms_130 : decode cX6_forms 130 = .ok (.iadd, 1) := by decide +kernel
theorem dX6_forms_131 : decode cX6_forms 131 = .ok (.aload_n 0, 1) := by decide +kernel
theorem dX6_forms_132 : decode cX6_forms 132 = .ok (.iload_n 1, 1) := by decide +kernel
theorem dX6_forms_133 : decode cX6_forms 133 = .ok (.invokevirtual 45, 3) := by decide +kernel
theorem dX6_forms_136 : decode cX6_forms 136 = .ok (.ifCond .ne 7, 3) := by decide +kernel
theorem dX6_forms_139 : decode cX6_forms 139 = .ok (.iconst (-1), 1) := by decide +kernel
theorem dX6_forms_140 : decode cX6_forms 140 = .ok (.goto 4, 3) := by decide +kernel
theorem dX6_forms_143 : decode cX6_forms 143 = .ok (.iload_n 2, 1) := by decide +kernel
theorem dX6_forms_144 : decode cX6_forms 144 = .ok (.iastore, 1) := by decide +kernel
theorem dX6_forms_145 : decode cX6_forms 145 = .ok (.return_, 1) := by decide +kernel
set_option maxRecDepth 20000 in
theorem ggX6_leaves_X6_sharers : GoodIn wsX6_leaves wsX6_sharers := goodIn_r _ [6, 1, 7, 8, 9, 10, 11, 12, 13, 14, 15, 16, 17] (by decide +kernel) (by decide +kernel)
set_option maxRecDepth 20000 in
theorem gX6_leaves_X6_sharers : GoodIn wsX6_leaves (wsV RX6 62 RX6 yX6_sharers wsX6_sharers) := goodIn_app (goodIn_of _ (by decide +kernel)) ggX6_leaves_X6_sharers
theorem dX6_leaves_0 : decode cX6_leaves 0 = .ok (.aload_n 0, 1) := by decide +kernel
theorem dX6_leaves_1 : decode cX6_leaves 1 = .ok (.getfield 7, 3) := by decide +kernel
theorem dX6_leaves_4 : decode cX6_leaves 4 = .ok (.bipush 49, 2) := by decide +kernel
theorem dX6_leaves_6 : decode cX6_leaves 6 = .ok (.iload_n 1, 1) := by decide +kernel
theorem dX6_leaves_7 : decode cX6_leaves 7 = .ok (.iadd, 1) := by decide +kernel
theorem dX6_leaves_8 : decode cX6_leaves 8 = .ok (.iaload, 1) := by decide +kernel
theorem dX6_leaves_9 : decode cX6_leaves 9 = .ok (.istore_n 2, 1) := by decide +kernel
theorem dX6_leaves_10 : decode cX6_leaves 10 = .ok (.aload_n 0, 1) := by decide +kernel
theorem dX6_leaves_11 : decode cX6_leaves 11 = .ok (.getfield 7, 3) := by decide +kernel
theorem dX6_leaves_14 : decode cX6_leaves 14 = .ok (.bipush 49, 2) := by decide +kernel
theorem dX6_leaves_16 : decode cX6_leaves 16 = .ok (.iload_n 1, 1) := by decide +kernel
theorem dX6_leaves_17 : decode cX6_leaves 17 = .ok (.iadd, 1) := by decide +kernel
theorem dX6_leaves_18 : decode cX6_leaves 18 = .ok (.iconst (-1), 1) := by decide +kernel
theorem dX6_leaves_19 : decode cX6_leaves 19 = .ok (.iastore, 1) := by decide +kernel
theorem dX6_leaves_20 : decode cX6_leaves 20 = .ok (.iload_n 2, 1) := by decide +kernel
theorem dX6_leaves_21 : decode cX6_leaves 21 = .ok (.ifCond .lt 22, 3) := by decide +kernel
theorem dX6_leaves_24 : decode cX6_leaves 24 = .ok (.aload_n 0, 1) := by decide +kernel
theorem dX6_leaves_25 : decode cX6_leaves 25 = .ok (.iload_n 2, 1) := by decide +kernel
theorem dX6_leaves_26 : decode cX6_leaves 26 = .ok (.invokevirtual 62, 3) := by decide +kernel
theorem dX6_leaves_29 : decode cX6_leaves 29 = .ok (.ifCond .ne 14, 3) := by decide +kernel
theorem dX6_leaves_32 : decode cX6_leaves 32 = .ok (.aload_n 0, 1) := by decide +kernel
theorem dX6_leaves_33 : decode cX6_leaves 33 = .ok (.getfield 7, 3) := by decide +kernel
theorem dX6_leaves_36 : decode cX6_leaves 36 = .ok (.sipush 457, 3) := by decide +kernel
theorem dX6_leaves_39 : decode cX6_leaves 39 = .ok (.iload_n 2, 1) := by decide +kernel
theorem dX6_leaves_40 : decode cX6_leaves 40 = .ok (.iadd, 1) := by decide +kernel
theorem dX6_leaves_41 : decode cX6_leaves 41 = .ok (.iconst (-1), 1) := by decide +kernel
theorem dX6_leaves_42 : decode cX6_leaves 42 = .ok (.iastore, 1) := by decide +kernel
theorem dX6_leaves_43 : decode cX6_leaves 43 = .ok (.return_, 1) := by decide +kernel
theorem dX6_adds_0 : decode cX6_adds 0 = .ok (.aload_n 0, 1) := by decide +kernel
theorem dX6_adds_1 : decode cX6_adds 1 = .ok (.getfield 7, 3) := by decide +kernel
theorem dX6_adds_4 : decode cX6_adds 4 = .ok (.iconst 0, 1) := by decide +kernel
theorem dX6_adds_5 : decode cX6_adds 5 = .ok (.iaload, 1) := by decide +kernel
theorem dX6_adds_6 : decode cX6_adds 6 = .ok (.istore_n 2, 1) := by decide +kernel
theorem dX6_adds_7 : decode cX6_adds 7 = .ok (.aload_n 0, 1) := by decide +kernel
theorem dX6_adds_8 : decode cX6_adds 8 = .ok (.getfield 7, 3) := by decide +kernel
theorem dX6_adds_11 : decode cX6_adds 11 = .ok (.iconst 1, 1) := by decide +kernel
theorem dX6_adds_12 : decode cX6_adds 12 = .ok (.iload_n 2, 1) := by decide +kernel
theorem dX6_adds_13 : decode cX6_adds 13 = .ok (.iadd, 1) := by decide +kernel
theorem dX6_adds_14 : decode cX6_adds 14 = .ok (.iload_n 1, 1) := by decide +kernel
theorem dX6_adds_15 : decode cX6_adds 15 = .ok (.iastore, 1) := by decide +kernel
theorem dX6_adds_16 : decode cX6_adds 16 = .ok (.aload_n 0, 1) := by decide +kernel
theorem dX6_adds_17 : decode cX6_adds 17 = .ok (.getfield 7, 3) := by decide +kernel
theorem dX6_adds_20 : decode cX6_adds 20 = .ok (.bipush 25, 2) := by decide +kernel
theorem dX6_adds_22 : decode cX6_adds 22 = .ok (.iload_n 2, 1) := by decide +kernel
theorem dX6_adds_23 : decode cX6_adds 23 = .ok (.iadd, 1) := by decide +kernel
theorem dX6_adds_24 : decode cX6_adds 24 = .ok (.iconst 0, 1) := by decide +kernel
theorem dX6_adds_25 : decode cX6_adds 25 = .ok (.iastore, 1) := by decide +kernel
theorem dX6_adds_26 : decode cX6_adds 26 = .ok (.aload_n 0, 1) := by decide +kernel
theorem dX6_adds_27 : decode cX6_adds 27 = .ok (.getfield 7, 3) := by decide +kernel
theorem dX6_adds_30 : decode cX6_adds 30 = .ok (.bipush 49, 2) := by decide +kernel
theorem dX6_adds_32 : decode cX6_adds 32 = .ok (.iload_n 2, 1) := by decide +kernel
theorem dX6_adds_33 : decode cX6_adds 33 = .ok (.iadd, 1) := by decide +kernel
theorem dX6_adds_34 : decode cX6_adds 34 = .ok (.iconst (-1), 1) := by decide +kernel
theorem dX6_adds_35 : decode cX6_adds 35 = .ok (.iastore, 1) := by decide +kernel
theorem dX6_adds_36 : decode cX6_adds 36 = .ok (.aload_n 0, 1) := by decide +kernel
theorem dX6_adds_37 : decode cX6_adds 37 = .ok (.getfield 7, 3) := by decide +kernel
theorem dX6_adds_40 : decode cX6_adds 40 = .ok (.iconst 0, 1) := by decide +kernel
theorem dX6_adds_41 : decode cX6_adds 41 = .ok (.dup2, 1) := by decide +kernel
theorem dX6_adds_42 : decode cX6_adds 42 = .ok (.iaload, 1) := by decide +kernel
theorem dX6_adds_43 : decode cX6_adds 43 = .ok (.iconst 1, 1) := by decide +kernel
theorem dX6_adds_44 : decode cX6_adds 44 = .ok (.iadd, 1) := by decide +kernel
theorem dX6_adds_45 : decode cX6_adds 45 = .ok (.iastore, 1) := by decide +kernel
theorem dX6_adds_46 : decode cX6_adds 46 = .ok (.return_, 1) := by decide +kernel
set_option maxRecDepth 20000 in
theorem ggX6_add_X6_in : GoodIn wsX6_add wsX6_in := goodIn_r _ [5] (by decide +kernel) (by decide +kernel)
set_option maxRecDepth 20000 in
theorem gX6_add_X6_in : GoodIn wsX6_add (va_wsS RX6 28 yX6_in wsX6_in) := goodIn_app (goodIn_of _ (by decide +kernel)) ggX6_add_X6_in
set_option maxRecDepth 20000 in
theorem ggX6_add_X6_remember : GoodIn wsX6_add wsX6_remember := goodIn_r _ [9, 10, 11, 12, 4, 13, 14, 1, 15, 16, 17, 18, 19, 20, 21, 26, 27, 28, 29, 30, 31, 32, 33, 34, 35, 36] (by decide +kernel) (by decide +kernel)
set_option maxRecDepth 20000 in
theorem gX6_add_X6_remember : GoodIn wsX6_add (wsV RX6 65 RX6 yX6_remember wsX6_remember) := goodIn_app (goodIn_of _ (by decide +kernel)) ggX6_add_X6_remember
set_option maxRecDepth 20000 in
theorem ggX6_add_X6_adds : GoodIn wsX6_add wsX6_adds := goodIn_r _ [25, 1, 26, 27, 28, 29, 30, 31, 32, 33, 34, 35, 36] (by decide +kernel) (by decide +kernel)
set_option maxRecDepth 20000 in
theorem gX6_add_X6_adds : GoodIn wsX6_add (wsV RX6 68 RX6 yX6_adds wsX6_adds) := goodIn_app (goodIn_of _ (by decide +kernel)) ggX6_add_X6_adds
theorem dX6_add_0 : decode cX6_add 0 = .ok (.iload_n 1, 1) := by decide +kernel
theorem dX6_add_1 : decode cX6_add 1 = .ok (.iconst 0, 1) := by decide +kernel
theorem dX6_add_2 : decode cX6_add 2 = .ok (.bipush 99, 2) := by decide +kernel
theorem dX6_add_4 : decode cX6_add 4 = .ok (.invokestatic 28, 3) := by decide +kernel
theorem dX6_add_7 : decode cX6_add 7 = .ok (.ifCond .ne 5, 3) := by decide +kernel
theorem dX6_add_10 : decode cX6_add 10 = .ok (.iconst (-1), 1) := by decide +kernel
theorem dX6_add_11 : decode cX6_add 11 = .ok (.ireturn, 1) := by decide +kernel
theorem dX6_add_12 : decode cX6_add 12 = .ok (.aload_n 0, 1) := by decide +kernel
theorem dX6_add_13 : decode cX6_add 13 = .ok (.getfield 7, 3) := by decide +kernel
theorem dX6_add_16 : decode cX6_add 16 = .ok (.iconst 0, 1) := by decide +kernel
theorem dX6_add_17 : decode cX6_add 17 = .ok (.iaload, 1) := by decide +kernel
theorem dX6_add_18 : decode cX6_add 18 = .ok (.bipush 24, 2) := by decide +kernel
theorem dX6_add_20 : decode cX6_add 20 = .ok (.if_icmp .ne 6, 3) := by decide +kernel
theorem dX6_add_23 : decode cX6_add 23 = .ok (.bipush (-3), 2) := by decide +kernel
theorem dX6_add_25 : decode cX6_add 25 = .ok (.ireturn, 1) := by decide +kernel
theorem dX6_add_26 : decode cX6_add 26 = .ok (.aload_n 0, 1) := by decide +kernel
theorem dX6_add_27 : decode cX6_add 27 = .ok (.invokevirtual 65, 3) := by decide +kernel
theorem dX6_add_30 : decode cX6_add 30 = .ok (.aload_n 0, 1) := by decide +kernel
theorem dX6_add_31 : decode cX6_add 31 = .ok (.iload_n 1, 1) := by decide +kernel
theorem dX6_add_32 : decode cX6_add 32 = .ok (.invokevirtual 68, 3) := by decide +kernel
theorem dX6_add_35 : decode cX6_add 35 = .ok (.aload_n 0, 1) := by decide +kernel
theorem dX6_add_36 : decode cX6_add 36 = .ok (.getfield 7, 3) := by decide +kernel
theorem dX6_add_39 : decode cX6_add 39 = .ok (.iconst 0, 1) := by decide +kernel
theorem dX6_add_40 : decode cX6_add 40 = .ok (.iaload, 1) := by decide +kernel
theorem dX6_add_41 : decode cX6_add 41 = .ok (.iconst 1, 1) := by decide +kernel
theorem dX6_add_42 : decode cX6_add 42 = .ok (.isub, 1) := by decide +kernel
theorem dX6_add_43 : decode cX6_add 43 = .ok (.ireturn, 1) := by decide +kernel
set_option maxRecDepth 20000 in
theorem ggX6_set_X6_isRow : GoodIn wsX6_set wsX6_isRow := goodIn_r _ [6, 1, 7, 8, 5, 9, 71, 72, 73, 74, 75, 76, 77, 78, 79, 80, 81] (by decide +kernel) (by decide +kernel)
set_option maxRecDepth 20000 in
theorem gX6_set_X6_isRow : GoodIn wsX6_set (wsV RX6 72 RX6 yX6_isRow wsX6_isRow) := goodIn_app (goodIn_of _ (by decide +kernel)) ggX6_set_X6_isRow
set_option maxRecDepth 20000 in
theorem ggX6_set_X6_in : GoodIn wsX6_set wsX6_in := goodIn_r _ [9] (by decide +kernel) (by decide +kernel)
set_option maxRecDepth 20000 in
theorem gX6_set_X6_in : GoodIn wsX6_set (va_wsS RX6 28 yX6_in wsX6_in) := goodIn_app (goodIn_of _ (by decide +kernel)) ggX6_set_X6_in
set_option maxRecDepth 20000 in
theorem ggX6_set_X6_remember : GoodIn wsX6_set wsX6_remember := goodIn_r _ [13, 14, 15, 16, 5, 17, 18, 1, 19, 20, 21, 22, 23, 24, 25, 71, 72, 73, 74, 75, 76, 77, 78, 79, 80, 81] (by decide +kernel) (by decide +kernel)
set_option maxRecDepth 20000 in
theorem gX6_set_X6_remember : GoodIn wsX6_set (wsV RX6 65 RX6 yX6_remember wsX6_remember) := goodIn_app (goodIn_of _ (by decide +kernel)) ggX6_set_X6_remember
set_option maxRecDepth 20000 in
theorem ggX6_set_X6_valueOf : GoodIn wsX6_set wsX6_valueOf := goodIn_r _ [29, 1, 30, 31, 32, 5, 33, 34, 35, 36, 71, 72, 73, 74, 75, 76, 77, 78, 79, 80, 81] (by decide +kernel) (by decide +kernel)
set_option maxRecDepth 20000 in
theorem gX6_set_X6_valueOf : GoodIn wsX6_set (wsV RX6 76 RX6 yX6_valueOf wsX6_valueOf) := goodIn_app (goodIn_of _ (by decide +kernel)) ggX6_set_X6_valueOf
set_option maxRecDepth 20000 in
theorem ggX6_set_X6_leavesFor : GoodIn wsX6_set wsX6_leavesFor := goodIn_r _ [40, 41, 42, 43, 5, 44, 1, 45, 46, 47, 48, 71, 72, 73, 74, 75, 76, 77, 78, 79, 80, 81] (by decide +kernel) (by decide +kernel)
set_option maxRecDepth 20000 in
theorem gX6_set_X6_leavesFor : GoodIn wsX6_set (wsV RX6 80 RX6 yX6_leavesFor wsX6_leavesFor) := goodIn_app (goodIn_of _ (by decide +kernel)) ggX6_set_X6_leavesFor
set_option maxRecDepth 20000 in
theorem ggX6_set_X6_entries : GoodIn wsX6_set wsX6_entries := goodIn_r _ [33, 1, 71, 72, 73, 74, 75, 76, 77, 78, 79, 80, 81] (by decide +kernel) (by decide +kernel)
set_option maxRecDepth 20000 in
theorem gX6_set_X6_entries : GoodIn wsX6_set (wsV RX6 45 RX6 yX6_entries wsX6_entries) := goodIn_app (goodIn_of _ (by decide +kernel)) ggX6_set_X6_entries
set_option maxRecDepth 20000 in
theorem ggX6_set_X6_formsFor : GoodIn wsX6_set wsX6_formsFor := goodIn_r _ [52, 53, 54, 55, 5, 56, 1, 57, 58, 59, 60, 30, 31, 32, 33, 34, 35, 36, 61, 62, 63, 64, 65, 66, 67, 68, 69, 70, 71, 72, 73, 74, 75, 76, 77, 78, 79, 80, 81] (by decide +kernel) (by decide +kernel)
set_option maxRecDepth 20000 in
theorem gX6_set_X6_formsFor : GoodIn wsX6_set (wsV RX6 84 RX6 yX6_formsFor wsX6_formsFor) := goodIn_app (goodIn_of _ (by decide +kernel)) ggX6_set_X6_formsFor
theorem dX6_set_0 : decode cX6_set 0 = .ok (.aload_n 0, 1) := by decide +kernel
theorem dX6_set_1 : decode cX6_set 1 = .ok (.iload_n 1, 1) := by decide +kernel
theorem dX6_set_2 : decode cX6_set 2 = .ok (.invokevirtual 72, 3) := by decide +kernel
theorem dX6_set_5 : decode cX6_set 5 = .ok (.ifCond .eq 23, 3) := by decide +kernel
theorem dX6_set_8 : decode cX6_set 8 = .ok (.iload_n 2, 1) := by decide +kernel
theorem dX6_set_9 : decode cX6_set 9 = .ok (.iconst 0, 1) := by decide +kernel
theorem dX6_set_10 : decode cX6_set 10 = .ok (.bipush 15, 2) := by decide +kernel
theorem dX6_set_12 : decode cX6_set 12 = .ok (.invokestatic 28, 3) := by decide +kernel
theorem dX6_set_15 : decode cX6_set 15 = .ok (.ifCond .eq 13, 3) := by decide +kernel
theorem dX6_set_18 : decode cX6_set 18 = .ok (.iload_n 3, 1) := by decide +kernel
theorem dX6_set_19 : decode cX6_set 19 = .ok (.iconst 0, 1) := by decide +kernel
theorem dX6_set_20 : decode cX6_set 20 = .ok (.bipush 99, 2) := by decide +kernel
theorem dX6_set_22 : decode cX6_set 22 = .ok (.invokestatic 28, 3) := by decide +kernel
theorem dX6_set_25 : decode cX6_set 25 = .ok (.ifCond .ne 5, 3) := by decide +kernel
theorem dX6_set_28 : decode cX6_set 28 = .ok (.iconst (-1), 1) := by decide +kernel
theorem dX6_set_29 : decode cX6_set 29 = .ok (.ireturn, 1) := by decide +kernel
theorem dX6_set_30 : decode cX6_set 30 = .ok (.aload_n 0, 1) := by decide +kernel
theorem dX6_set_31 : decode cX6_set 31 = .ok (.invokevirtual 65, 3) := by decide +kernel
theorem dX6_set_34 : decode cX6_set 34 = .ok (.aload_n 0, 1) := by decide +kernel
theorem dX6_set_35 : decode cX6_set 35 = .ok (.iload_n 1, 1) := by decide +kernel
theorem dX6_set_36 : decode cX6_set 36 = .ok (.iload_n 2, 1) := by decide +kernel
theorem dX6_set_37 : decode cX6_set 37 = .ok (.invokevirtual 76, 3) := by decide +kernel
theorem dX6_set_40 : decode cX6_set 40 = .ok (.istore 4, 2) := by decide +kernel
theorem dX6_set_42 : decode cX6_set 42 = .ok (.aload_n 0, 1) := by decide +kernel
theorem dX6_set_43 : decode cX6_set 43 = .ok (.iload_n 1, 1) := by decide +kernel
theorem dX6_set_44 : decode cX6_set 44 = .ok (.iload 4, 2) := by decide +kernel
theorem dX6_set_46 : decode cX6_set 46 = .ok (.iload_n 3, 1) := by decide +kernel
theorem dX6_set_47 : decode cX6_set 47 = .ok (.if_icmp .eq 7, 3) := by decide +kernel
theorem dX6_set_50 : decode cX6_set 50 = .ok (.iconst 1, 1) := by decide +kernel
theorem dX6_set_51 : decode cX6_set 51 = .ok (.goto 4, 3) := by decide +kernel
theorem dX6_set_54 : decode cX6_set 54 = .ok (.iconst 0, 1) := by decide +kernel
theorem dX6_set_55 : decode cX6_set 55 = .ok (.invokevirtual 80, 3) := by decide +kernel
theorem dX6_set_58 : decode cX6_set 58 = .ok (.aload_n 0, 1) := by decide +kernel
theorem dX6_set_59 : decode cX6_set 59 = .ok (.getfield 7, 3) := by decide +kernel
theorem dX6_set_62 : decode cX6_set 62 = .ok (.bipush 25, 2) := by decide +kernel
theorem dX6_set_64 : decode cX6_set 64 = .ok (.iload_n 1, 1) := by decide +kernel
theorem dX6_set_65 : decode cX6_set 65 = .ok (.iadd, 1) := by decide +kernel
theorem dX6_set_66 : decode cX6_set 66 = .ok (.aload_n 0, 1) := by decide +kernel
theorem dX6_set_67 : decode cX6_set 67 = .ok (.iload_n 1, 1) := by decide +kernel
theorem dX6_set_68 : decode cX6_set 68 = .ok (.invokevirtual 45, 3) := by decide +kernel
theorem dX6_set_71 : decode cX6_set 71 = .ok (.iconst 1, 1) := by decide +kernel
theorem dX6_set_72 : decode cX6_set 72 = .ok (.iload_n 2, 1) := by decide +kernel
theorem dX6_set_73 : decode cX6_set 73 = .ok (.ishl, 1) := by decide +kernel
theorem dX6_set_74 : decode cX6_set 74 = .ok (.iconst (-1), 1) := by decide +kernel
theorem dX6_set_75 : decode cX6_set 75 = .ok (.ixor, 1) := by decide +kernel
theorem dX6_set_76 : decode cX6_set 76 = .ok (.iand, 1) := by decide +kernel
theorem dX6_set_77 : decode cX6_set 77 = .ok (.iload_n 3, 1) := by decide +kernel
theorem dX6_set_78 : decode cX6_set 78 = .ok (.aload_n 0, 1) := by decide +kernel
theorem dX6_set_79 : decode cX6_set 79 = .ok (.getfield 7, 3) := by decide +kernel
theorem dX6_set_82 : decode cX6_set 82 = .ok (.iconst 1, 1) := by decide +kernel
theorem dX6_set_83 : decode cX6_set 83 = .ok (.iload_n 1, 1) := by decide +kernel
theorem dX6_set_84 : decode cX6_set 84 = .ok (.iadd, 1) := by decide +kernel
theorem dX6_set_85 : decode cX6_set 85 = .ok (.iaload, 1) := by decide +kernel
theorem dX6_set_86 : decode cX6_set 86 = .ok (.if_icmp .ne 7, 3) := by decide +kernel
theorem dX6_set_89 : decode cX6_set 89 = .ok (.iconst 0, 1) := by decide +kernel
theorem dX6_set_90 : decode cX6_set 90 = .ok (.goto 6, 3) := by decide +kernel
theorem dX6_set_93 : decode cX6_set 93 = .ok (.iconst 1, 1) := by decide +kernel
theorem dX6_set_94 : decode cX6_set 94 = .ok (.iload_n 2, 1) := by decide +kernel
theorem dX6_set_95 : decode cX6_set 95 = .ok (.ishl, 1) := by decide +kernel
theorem dX6_set_96 : decode cX6_set 96 = .ok (.ior, 1) := by decide +kernel
theorem dX6_set_97 : decode cX6_set 97 = .ok (.iastore, 1) := by decide +kernel
theorem dX6_set_98 : decode cX6_set 98 = .ok (.aload_n 0, 1) := by decide +kernel
theorem dX6_set_99 : decode cX6_set 99 = .ok (.getfield 7, 3) := by decide +kernel
theorem dX6_set_102 : decode cX6_set 102 = .ok (.bipush 73, 2) := by decide +kernel
theorem dX6_set_104 : decode cX6_set 104 = .ok (.bipush 16, 2) := by decide +kernel
theorem dX6_set_106 : decode cX6_set 106 = .ok (.iload_n 1, 1) := by decide +kernel
theorem dX6_set_107 : decode cX6_set 107 = .ok (.imul, 1) := by decide +kernel
theorem dX6_set_108 : decode cX6_set 108 = .ok (.iadd, 1) := by decide +kernel
theorem dX6_set_109 : decode cX6_set 109 = .ok (.iload_n 2, 1) := by decide +kernel
theorem dX6_set_110 : decode cX6_set 110 = .ok (.iadd, 1) := by decide +kernel
theorem dX6_set_111 : decode cX6_set 111 = .ok (.iload_n 3, 1) := by decide +kernel
theorem dX6_set_112 : decode cX6_set 112 = .ok (.iastore, 1) := by decide +kernel
theorem dX6_set_113 : decode cX6_set 113 = .ok (.aload_n 0, 1) := by decide +kernel
theorem dX6_set_114 : decode cX6_set 114 = .ok (.iload_n 1, 1) := by decide +kernel
theorem dX6_set_115 : decode cX6_set 115 = .ok (.iload 4, 2) := by decide +kernel
theorem dX6_set_117 : decode cX6_set 117 = .ok (.iload_n 3, 1) := by decide +kernel
theorem dX6_set_118 : decode cX6_set 118 = .ok (.if_icmp .eq 7, 3) := by decide +kernel
theorem dX6_set_121 : decode cX6_set 121 = .ok (.iconst 1, 1) := by decide +kernel
theorem dX6_set_122 : decode cX6_set 122 = .ok (.goto 4, 3) := by decide +kernel
theorem dX6_set_125 : decode cX6_set 125 = .ok (.iconst 0, 1) := by decide +kernel
theorem dX6_set_126 : decode cX6_set 126 = .ok (.invokevirtual 84, 3) := by decide +kernel
theorem dX6_set_129 : decode cX6_set 129 = .ok (.iload 4, 2) := by decide +kernel
theorem dX6_set_131 : decode cX6_set 131 = .ok (.ireturn, 1) := by decide +kernel
set_option maxRecDepth 20000 in
theorem ggX6_leavesFor_X6_leaves : GoodIn wsX6_leavesFor wsX6_leaves := goodIn_r _ [5, 6, 7, 8, 9, 4, 10, 11, 12, 13, 14, 15, 16, 17, 18, 19, 20, 21] (by decide +kernel) (by decide +kernel)
set_option maxRecDepth 20000 in
theorem gX6_leavesFor_X6_leaves : GoodIn wsX6_leavesFor (wsV RX6 87 RX6 yX6_leaves wsX6_leaves) := goodIn_app (goodIn_of _ (by decide +kernel)) ggX6_leavesFor_X6_leaves
theorem dX6_leavesFor_0 : decode cX6_leavesFor 0 = .ok (.iload_n 2, 1) := by decide +kernel
theorem dX6_leavesFor_1 : decode cX6_leavesFor 1 = .ok (.ifCond .eq 8, 3) := by decide +kernel
theorem dX6_leavesFor_4 : decode cX6_leavesFor 4 = .ok (.aload_n 0, 1) := by decide +kernel
theorem dX6_leavesFor_5 : decode cX6_leavesFor 5 = .ok (.iload_n 1, 1) := by decide +kernel
theorem dX6_leavesFor_6 : decode cX6_leavesFor 6 = .ok (.invokevirtual 87, 3) := by decide +kernel
theorem dX6_leavesFor_9 : decode cX6_leavesFor 9 = .ok (.return_, 1) := by decide +kernel
set_option maxRecDepth 20000 in
theorem ggX6_formsFor_X6_forms : GoodIn wsX6_formsFor wsX6_forms := goodIn_r _ [5, 6, 7, 8, 9, 4, 10, 11, 12, 13, 14, 15, 16, 17, 18, 19, 20, 21, 22, 23, 24, 25, 26, 27, 28, 29, 30, 31, 32, 33, 34, 35, 36, 37, 38] (by decide +kernel) (by decide +kernel)
set_option maxRecDepth 20000 in
theorem gX6_formsFor_X6_forms : GoodIn wsX6_formsFor (wsV RX6 90 RX6 yX6_forms wsX6_forms) := goodIn_app (goodIn_of _ (by decide +kernel)) ggX6_formsFor_X6_forms
theorem dX6_formsFor_0 : decode cX6_formsFor 0 = .ok (.iload_n 2, 1) := by decide +kernel
theorem dX6_formsFor_1 : decode cX6_formsFor 1 = .ok (.ifCond .eq 8, 3) := by decide +kernel
theorem dX6_formsFor_4 : decode cX6_formsFor 4 = .ok (.aload_n 0, 1) := by decide +kernel
theorem dX6_formsFor_5 : decode cX6_formsFor 5 = .ok (.iload_n 1, 1) := by decide +kernel
theorem dX6_formsFor_6 : decode cX6_formsFor 6 = .ok (.invokevirtual 90, 3) := by decide +kernel
theorem dX6_formsFor_9 : decode cX6_formsFor 9 = .ok (.return_, 1) := by decide +kernel
set_option maxRecDepth 20000 in
theorem ggX6_entriesBy_X6_entries : GoodIn wsX6_entriesBy wsX6_entries := goodIn_r _ [5, 6, 14, 15, 16, 17, 18, 19, 20, 21, 22, 23, 24] (by decide +kernel) (by decide +kernel)
set_option maxRecDepth 20000 in
theorem gX6_entriesBy_X6_entries : GoodIn wsX6_entriesBy (wsV RX6 45 RX6 yX6_entries wsX6_entries) := goodIn_app (goodIn_of _ (by decide +kernel)) ggX6_entriesBy_X6_entries
set_option maxRecDepth 20000 in
theorem ggX6_entriesBy_X6_has : GoodIn wsX6_entriesBy wsX6_has := goodIn_r _ [9] (by decide +kernel) (by decide +kernel)
set_option maxRecDepth 20000 in
theorem gX6_entriesBy_X6_has : GoodIn wsX6_entriesBy (va_wsS RX6 49 yX6_has wsX6_has) := goodIn_app (goodIn_of _ (by decide +kernel)) ggX6_entriesBy_X6_has
set_option maxRecDepth 20000 in
theorem ggX6_entriesBy_X6_valueOf : GoodIn wsX6_entriesBy wsX6_valueOf := goodIn_r _ [13, 6, 1, 2, 3, 4, 5, 7, 8, 9, 14, 15, 16, 17, 18, 19, 20, 21, 22, 23, 24] (by decide +kernel) (by decide +kernel)
set_option maxRecDepth 20000 in
theorem gX6_entriesBy_X6_valueOf : GoodIn wsX6_entriesBy (wsV RX6 76 RX6 yX6_valueOf wsX6_valueOf) := goodIn_app (goodIn_of _ (by decide +kernel)) ggX6_entriesBy_X6_valueOf
theorem dX6_entriesBy_0 : decode cX6_entriesBy 0 = .ok (.iconst 0, 1) := by decide +kernel
theorem dX6_entriesBy_1 : decode cX6_entriesBy 1 = .ok (.istore 4, 2) := by decide +kernel
theorem dX6_entriesBy_3 : decode cX6_entriesBy 3 = .ok (.iconst 0, 1) := by decide +kernel
theorem dX6_entriesBy_4 : decode cX6_entriesBy 4 = .ok (.istore 5, 2) := by decide +kernel
theorem dX6_entriesBy_6 : decode cX6_entriesBy 6 = .ok (.iload 5, 2) := by decide +kernel
theorem dX6_entriesBy_8 : decode cX6_entriesBy 8 = .ok (.bipush 16, 2) := by decide +kernel
theorem dX6_entriesBy_10 : decode cX6_entriesBy 10 = .ok (.if_icmp .ge 50, 3) := by decide +kernel
theorem dX6_entriesBy_13 : decode cX6_entriesBy 13 = .ok (.iload 4, 2) := by decide +kernel
theorem dX6_entriesBy_15 : decode cX6_entriesBy 15 = .ok (.iload_n 3, 1) := by decide +kernel
theorem dX6_entriesBy_16 : decode cX6_entriesBy 16 = .ok (.ifCond .ne 16, 3) := by decide +kernel
theorem dX6_entriesBy_19 : decode cX6_entriesBy 19 = .ok (.aload_n 0, 1) := by decide +kernel
theorem dX6_entriesBy_20 : decode cX6_entriesBy 20 = .ok (.iload_n 1, 1) := by decide +kernel
theorem dX6_entriesBy_21 : decode cX6_entriesBy 21 = .ok (.invokevirtual 45, 3) := by decide +kernel
theorem dX6_entriesBy_24 : decode cX6_entriesBy 24 = .ok (.iload 5, 2) := by decide +kernel
theorem dX6_entriesBy_26 : decode cX6_entriesBy 26 = .ok (.invokestatic 49, 3) := by decide +kernel
theorem dX6_entriesBy_29 : decode cX6_entriesBy 29 = .ok (.ifCond .eq 21, 3) := by decide +kernel
theorem dX6_entriesBy_32 : decode cX6_entriesBy 32 = .ok (.aload_n 0, 1) := by decide +kernel
theorem dX6_entriesBy_33 : decode cX6_entriesBy 33 = .ok (.iload_n 1, 1) := by decide +kernel
theorem dX6_entriesBy_34 : decode cX6_entriesBy 34 = .ok (.iload 5, 2) := by decide +kernel
theorem dX6_entriesBy_36 : decode cX6_entriesBy 36 = .ok (.invokevirtual 76, 3) := by decide +kernel
theorem dX6_entriesBy_39 : decode cX6_entriesBy 39 = .ok (.iload_n 2, 1) := by decide +kernel
theorem dX6_entriesBy_40 : decode cX6_entriesBy 40 = .ok (.if_icmp .eq 10, 3) := by decide +kernel
theorem dX6_entriesBy_43 : decode cX6_entriesBy 43 = .ok (.iconst 1, 1) := by decide +kernel
theorem dX6_entriesBy_44 : decode cX6_entriesBy 44 = .ok (.iload 5, 2) := by decide +kernel
theorem dX6_entriesBy_46 : decode cX6_entriesBy 46 = .ok (.ishl, 1) := by decide +kernel
theorem dX6_entriesBy_47 : decode cX6_entriesBy 47 = .ok (.goto 4, 3) := by decide +kernel
theorem dX6_entriesBy_50 : decode cX6_entriesBy 50 = .ok (.iconst 0, 1) := by decide +kernel
theorem dX6_entriesBy_51 : decode cX6_entriesBy 51 = .ok (.ior, 1) := by decide +kernel
theorem dX6_entriesBy_52 : decode cX6_entriesBy 52 = .ok (.istore 4, 2) := by decide +kernel
theorem dX6_entriesBy_54 : decode cX6_entriesBy 54 = .ok (.iinc 5 1, 3) := by decide +kernel
theorem dX6_entriesBy_57 : decode cX6_entriesBy 57 = .ok (.goto (-51), 3) := by decide +kernel
theorem dX6_entriesBy_60 : decode cX6_entriesBy 60 = .ok (.iload 4, 2) := by decide +kernel
theorem dX6_entriesBy_62 : decode cX6_entriesBy 62 = .ok (.ireturn, 1) := by decide +kernel
set_option maxRecDepth 20000 in
theorem ggX6_setDefault_X6_isRow : GoodIn wsX6_setDefault wsX6_isRow := goodIn_r _ [6, 1, 7, 8, 5, 9, 78, 79, 80, 81, 82, 83, 84, 85, 86, 87, 88] (by decide +kernel) (by decide +kernel)
set_option maxRecDepth 20000 in
theorem gX6_setDefault_X6_isRow : GoodIn wsX6_setDefault (wsV RX6 72 RX6 yX6_isRow wsX6_isRow) := goodIn_app (goodIn_of _ (by decide +kernel)) ggX6_setDefault_X6_isRow
set_option maxRecDepth 20000 in
theorem ggX6_setDefault_X6_in : GoodIn wsX6_setDefault wsX6_in := goodIn_r _ [9] (by decide +kernel) (by decide +kernel)
set_option maxRecDepth 20000 in
theorem gX6_setDefault_X6_in : GoodIn wsX6_setDefault (va_wsS RX6 28 yX6_in wsX6_in) := goodIn_app (goodIn_of _ (by decide +kernel)) ggX6_setDefault_X6_in
set_option maxRecDepth 20000 in
theorem ggX6_setDefault_X6_remember : GoodIn wsX6_setDefault wsX6_remember := goodIn_r _ [13, 14, 15, 16, 5, 17, 18, 1, 19, 20, 21, 22, 23, 24, 25, 78, 79, 80, 81, 82, 83, 84, 85, 86, 87, 88] (by decide +kernel) (by decide +kernel)
set_option maxRecDepth 20000 in
theorem gX6_setDefault_X6_remember : GoodIn wsX6_setDefault (wsV RX6 65 RX6 yX6_remember wsX6_remember) := goodIn_app (goodIn_of _ (by decide +kernel)) ggX6_setDefault_X6_remember
set_option maxRecDepth 20000 in
theorem ggX6_setDefault_X6_entriesBy : GoodIn wsX6_setDefault wsX6_entriesBy := goodIn_r _ [29, 30, 31, 32, 5, 33, 1, 34, 35, 36, 37, 38, 39, 40, 78, 79, 80, 81, 82, 83, 84, 85, 86, 87, 88] (by decide +kernel) (by decide +kernel)
set_option maxRecDepth 20000 in
theorem gX6_setDefault_X6_entriesBy : GoodIn wsX6_setDefault (wsV RX6 93 RX6 yX6_entriesBy wsX6_entriesBy) := goodIn_app (goodIn_of _ (by decide +kernel)) ggX6_setDefault_X6_entriesBy
set_option maxRecDepth 20000 in
theorem ggX6_setDefault_X6_entries : GoodIn wsX6_setDefault wsX6_entries := goodIn_r _ [33, 1, 78, 79, 80, 81, 82, 83, 84, 85, 86, 87, 88] (by decide +kernel) (by decide +kernel)
set_option maxRecDepth 20000 in
theorem gX6_setDefault_X6_entries : GoodIn wsX6_setDefault (wsV RX6 45 RX6 yX6_entries wsX6_entries) := goodIn_app (goodIn_of _ (by decide +kernel)) ggX6_setDefault_X6_entries
set_option maxRecDepth 20000 in
theorem ggX6_setDefault_X6_leavesFor : GoodIn wsX6_setDefault wsX6_leavesFor := goodIn_r _ [44, 45, 46, 47, 5, 48, 1, 49, 50, 51, 52, 78, 79, 80, 81, 82, 83, 84, 85, 86, 87, 88] (by decide +kernel) (by decide +kernel)
set_option maxRecDepth 20000 in
theorem gX6_setDefault_X6_leavesFor : GoodIn wsX6_setDefault (wsV RX6 80 RX6 yX6_leavesFor wsX6_leavesFor) := goodIn_app (goodIn_of _ (by decide +kernel)) ggX6_setDefault_X6_leavesFor
set_option maxRecDepth 20000 in
theorem ggX6_setDefault_X6_formsFor : GoodIn wsX6_setDefault wsX6_formsFor := goodIn_r _ [56, 57, 58, 59, 5, 60, 1, 61, 62, 63, 64, 30, 31, 32, 33, 34, 35, 36, 65, 66, 67, 68, 69, 70, 71, 72, 73, 74, 78, 79, 80, 81, 82, 83, 84, 85, 86, 87, 88] (by decide +kernel) (by decide +kernel)
set_option maxRecDepth 20000 in
theorem gX6_setDefault_X6_formsFor : GoodIn wsX6_setDefault (wsV RX6 84 RX6 yX6_formsFor wsX6_formsFor) := goodIn_app (goodIn_of _ (by decide +kernel)) ggX6_setDefault_X6_formsFor
set_option maxRecDepth 20000 in
theorem ggX6_setDefault_X6_bits : GoodIn wsX6_setDefault wsX6_bits := goodIn_r _ [77] (by decide +kernel) (by decide +kernel)
set_option maxRecDepth 20000 in
theorem gX6_setDefault_X6_bits : GoodIn wsX6_setDefault (va_wsS RX6 97 yX6_bits wsX6_bits) := goodIn_app (goodIn_of _ (by decide +kernel)) ggX6_setDefault_X6_bits
theorem dX6_setDefault_0 : decode cX6_setDefault 0 = .ok (.aload_n 0, 1) := by decide +kernel
theorem dX6_setDefault_1 : decode cX6_setDefault 1 = .ok (.iload_n 1, 1) := by decide +kernel
theorem dX6_setDefault_2 : decode cX6_setDefault 2 = .ok (.invokevirtual 72, 3) := by decide +kernel
theorem dX6_setDefault_5 : decode cX6_setDefault 5 = .ok (.ifCond .eq 13, 3) := by decide +kernel
theorem dX6_setDefault_8 : decode cX6_setDefault 8 = .ok (.iload_n 2, 1) := by decide +kernel
theorem dX6_setDefault_9 : decode cX6_setDefault 9 = .ok (.iconst 0, 1) := by decide +kernel
theorem dX6_setDefault_10 : decode cX6_setDefault 10 = .ok (.bipush 99, 2) := by decide +kernel
theorem dX6_setDefault_12 : decode cX6_setDefault 12 = .ok (.invokestatic 28, 3) := by decide +kernel
theorem dX6_setDefault_15 : decode cX6_setDefault 15 = .ok (.ifCond .ne 5, 3) := by decide +kernel
theorem dX6_setDefault_18 : decode cX6_setDefault 18 = .ok (.iconst (-1), 1) := by decide +kernel
theorem dX6_setDefault_19 : decode cX6_setDefault 19 = .ok (.ireturn, 1) := by decide +kernel
theorem dX6_setDefault_20 : decode cX6_setDefault 20 = .ok (.aload_n 0, 1) := by decide +kernel
theorem dX6_setDefault_21 : decode cX6_setDefault 21 = .ok (.invokevirtual 65, 3) := by decide +kernel
theorem dX6_setDefault_24 : decode cX6_setDefault 24 = .ok (.aload_n 0, 1) := by decide +kernel
theorem dX6_setDefault_25 : decode cX6_setDefault 25 = .ok (.iload_n 1, 1) := by decide +kernel
theorem dX6_setDefault_26 : decode cX6_setDefault 26 = .ok (.iload_n 2, 1) := by decide +kernel
theorem dX6_setDefault_27 : decode cX6_setDefault 27 = .ok (.iconst 0, 1) := by decide +kernel
theorem dX6_setDefault_28 : decode cX6_setDefault 28 = .ok (.invokevirtual 93, 3) := by decide +kernel
theorem dX6_setDefault_31 : decode cX6_setDefault 31 = .ok (.istore_n 3, 1) := by decide +kernel
theorem dX6_setDefault_32 : decode cX6_setDefault 32 = .ok (.iload_n 3, 1) := by decide +kernel
theorem dX6_setDefault_33 : decode cX6_setDefault 33 = .ok (.aload_n 0, 1) := by decide +kernel
theorem dX6_setDefault_34 : decode cX6_setDefault 34 = .ok (.iload_n 1, 1) := by decide +kernel
theorem dX6_setDefault_35 : decode cX6_setDefault 35 = .ok (.invokevirtual 45, 3) := by decide +kernel
theorem dX6_setDefault_38 : decode cX6_setDefault 38 = .ok (.if_icmp .eq 7, 3) := by decide +kernel
theorem dX6_setDefault_41 : decode cX6_setDefault 41 = .ok (.iconst 1, 1) := by decide +kernel
theorem dX6_setDefault_42 : decode cX6_setDefault 42 = .ok (.goto 4, 3) := by decide +kernel
theorem dX6_setDefault_45 : decode cX6_setDefault 45 = .ok (.iconst 0, 1) := by decide +kernel
theorem dX6_setDefault_46 : decode cX6_setDefault 46 = .ok (.istore 4, 2) := by decide +kernel
theorem dX6_setDefault_48 : decode cX6_setDefault 48 = .ok (.aload_n 0, 1) := by decide +kernel
theorem dX6_setDefault_49 : decode cX6_setDefault 49 = .ok (.iload_n 1, 1) := by decide +kernel
theorem dX6_setDefault_50 : decode cX6_setDefault 50 = .ok (.iload 4, 2) := by decide +kernel
theorem dX6_setDefault_52 : decode cX6_setDefault 52 = .ok (.invokevirtual 80, 3) := by decide +kernel
theorem dX6_setDefault_55 : decode cX6_setDefault 55 = .ok (.aload_n 0, 1) := by decide +kernel
theorem dX6_setDefault_56 : decode cX6_setDefault 56 = .ok (.getfield 7, 3) := by decide +kernel
theorem dX6_setDefault_59 : decode cX6_setDefault 59 = .ok (.bipush 25, 2) := by decide +kernel
theorem dX6_setDefault_61 : decode cX6_setDefault 61 = .ok (.iload_n 1, 1) := by decide +kernel
theorem dX6_setDefault_62 : decode cX6_setDefault 62 = .ok (.iadd, 1) := by decide +kernel
theorem dX6_setDefault_63 : decode cX6_setDefault 63 = .ok (.iload_n 3, 1) := by decide +kernel
theorem dX6_setDefault_64 : decode cX6_setDefault 64 = .ok (.iastore, 1) := by decide +kernel
theorem dX6_setDefault_65 : decode cX6_setDefault 65 = .ok (.aload_n 0, 1) := by decide +kernel
theorem dX6_setDefault_66 : decode cX6_setDefault 66 = .ok (.getfield 7, 3) := by decide +kernel
theorem dX6_setDefault_69 : decode cX6_setDefault 69 = .ok (.iconst 1, 1) := by decide +kernel
theorem dX6_setDefault_70 : decode cX6_setDefault 70 = .ok (.iload_n 1, 1) := by decide +kernel
theorem dX6_setDefault_71 : decode cX6_setDefault 71 = .ok (.iadd, 1) := by decide +kernel
theorem dX6_setDefault_72 : decode cX6_setDefault 72 = .ok (.iload_n 2, 1) := by decide +kernel
theorem dX6_setDefault_73 : decode cX6_setDefault 73 = .ok (.iastore, 1) := by decide +kernel
theorem dX6_setDefault_74 : decode cX6_setDefault 74 = .ok (.aload_n 0, 1) := by decide +kernel
theorem dX6_setDefault_75 : decode cX6_setDefault 75 = .ok (.iload_n 1, 1) := by decide +kernel
theorem dX6_setDefault_76 : decode cX6_setDefault 76 = .ok (.iload 4, 2) := by decide +kernel
theorem dX6_setDefault_78 : decode cX6_setDefault 78 = .ok (.invokevirtual 84, 3) := by decide +kernel
theorem dX6_setDefault_81 : decode cX6_setDefault 81 = .ok (.iload_n 3, 1) := by decide +kernel
theorem dX6_setDefault_82 : decode cX6_setDefault 82 = .ok (.invokestatic 97, 3) := by decide +kernel
theorem dX6_setDefault_85 : decode cX6_setDefault 85 = .ok (.ireturn, 1) := by decide +kernel
set_option maxRecDepth 20000 in
theorem ggX6_removeLast_X6_remember : GoodIn wsX6_removeLast wsX6_remember := goodIn_r _ [6, 7, 8, 9, 5, 10, 11, 1, 12, 13, 14, 15, 16, 17, 18, 27, 28, 29, 30, 31, 32, 33, 34, 35, 36, 37] (by decide +kernel) (by decide +kernel)
set_option maxRecDepth 20000 in
theorem gX6_removeLast_X6_remember : GoodIn wsX6_removeLast (wsV RX6 65 RX6 yX6_remember wsX6_remember) := goodIn_app (goodIn_of _ (by decide +kernel)) ggX6_removeLast_X6_remember
set_option maxRecDepth 20000 in
theorem ggX6_removeLast_X6_leaves : GoodIn wsX6_removeLast wsX6_leaves := goodIn_r _ [22, 1, 23, 24, 25, 5, 26, 27, 28, 29, 30, 31, 32, 33, 34, 35, 36, 37] (by decide +kernel) (by decide +kernel)
set_option maxRecDepth 20000 in
theorem gX6_removeLast_X6_leaves : GoodIn wsX6_removeLast (wsV RX6 87 RX6 yX6_leaves wsX6_leaves) := goodIn_app (goodIn_of _ (by decide +kernel)) ggX6_removeLast_X6_leaves
theorem dX6_removeLast_0 : decode cX6_removeLast 0 = .ok (.aload_n 0, 1) := by decide +kernel
theorem dX6_removeLast_1 : decode cX6_removeLast 1 = .ok (.getfield 7, 3) := by decide +kernel
theorem dX6_removeLast_4 : decode cX6_removeLast 4 = .ok (.iconst 0, 1) := by decide +kernel
theorem dX6_removeLast_5 : decode cX6_removeLast 5 = .ok (.iaload, 1) := by decide +kernel
theorem dX6_removeLast_6 : decode cX6_removeLast 6 = .ok (.ifCond .ne 6, 3) := by decide +kernel
theorem dX6_removeLast_9 : decode cX6_removeLast 9 = .ok (.bipush (-2), 2) := by decide +kernel
theorem dX6_removeLast_11 : decode cX6_removeLast 11 = .ok (.ireturn, 1) := by decide +kernel
theorem dX6_removeLast_12 : decode cX6_removeLast 12 = .ok (.aload_n 0, 1) := by decide +kernel
theorem dX6_removeLast_13 : decode cX6_removeLast 13 = .ok (.invokevirtual 65, 3) := by decide +kernel
theorem dX6_removeLast_16 : decode cX6_removeLast 16 = .ok (.aload_n 0, 1) := by decide +kernel
theorem dX6_removeLast_17 : decode cX6_removeLast 17 = .ok (.aload_n 0, 1) := by decide +kernel
theorem dX6_removeLast_18 : decode cX6_removeLast 18 = .ok (.getfield 7, 3) := by decide +kernel
theorem dX6_removeLast_21 : decode cX6_removeLast 21 = .ok (.iconst 0, 1) := by decide +kernel
theorem dX6_removeLast_22 : decode cX6_removeLast 22 = .ok (.iaload, 1) := by decide +kernel
theorem dX6_removeLast_23 : decode cX6_removeLast 23 = .ok (.iconst 1, 1) := by decide +kernel
theorem dX6_removeLast_24 : decode cX6_removeLast 24 = .ok (.isub, 1) := by decide +kernel
theorem dX6_removeLast_25 : decode cX6_removeLast 25 = .ok (.invokevirtual 87, 3) := by decide +kernel
theorem dX6_removeLast_28 : decode cX6_removeLast 28 = .ok (.aload_n 0, 1) := by decide +kernel
theorem dX6_removeLast_29 : decode cX6_removeLast 29 = .ok (.getfield 7, 3) := by decide +kernel
theorem dX6_removeLast_32 : decode cX6_removeLast 32 = .ok (.iconst 0, 1) := by decide +kernel
theorem dX6_removeLast_33 : decode cX6_removeLast 33 = .ok (.dup2, 1) := by decide +kernel
theorem dX6_removeLast_34 : decode cX6_removeLast 34 = .ok (.iaload, 1) := by decide +kernel
theorem dX6_removeLast_35 : decode cX6_removeLast 35 = .ok (.iconst 1, 1) := by decide +kernel
theorem dX6_removeLast_36 : decode cX6_removeLast 36 = .ok (.isub, 1) := by decide +kernel
theorem dX6_removeLast_37 : decode cX6_removeLast 37 = .ok (.iastore, 1) := by decide +kernel
theorem dX6_removeLast_38 : decode cX6_removeLast 38 = .ok (.aload_n 0, 1) := by decide +kernel
theorem dX6_removeLast_39 : decode cX6_removeLast 39 = .ok (.getfield 7, 3) := by decide +kernel
theorem dX6_removeLast_42 : decode cX6_removeLast 42 = .ok (.iconst 0, 1) := by decide +kernel
theorem dX6_removeLast_43 : decode cX6_removeLast 43 = .ok (.iaload, 1) := by decide +kernel
theorem dX6_removeLast_44 : decode cX6_removeLast 44 = .ok (.ireturn, 1) := by decide +kernel
set_option maxRecDepth 20000 in
theorem ggX6_most_X6_valueOf : GoodIn wsX6_most wsX6_valueOf := goodIn_r _ [5, 6, 7, 8, 9, 4, 10, 11, 12, 13, 14, 15, 16, 17, 18, 19, 20, 21, 22, 23, 24] (by decide +kernel) (by decide +kernel)
set_option maxRecDepth 20000 in
theorem gX6_most_X6_valueOf : GoodIn wsX6_most (wsV RX6 76 RX6 yX6_valueOf wsX6_valueOf) := goodIn_app (goodIn_of _ (by decide +kernel)) ggX6_most_X6_valueOf
theorem dX6_most_0 : decode cX6_most 0 = .ok (.iconst 0, 1) := by decide +kernel
theorem dX6_most_1 : decode cX6_most 1 = .ok (.istore_n 2, 1) := by decide +kernel
theorem dX6_most_2 : decode cX6_most 2 = .ok (.iconst 0, 1) := by decide +kernel
theorem dX6_most_3 : decode cX6_most 3 = .ok (.istore_n 3, 1) := by decide +kernel
theorem dX6_most_4 : decode cX6_most 4 = .ok (.iconst 0, 1) := by decide +kernel
theorem dX6_most_5 : decode cX6_most 5 = .ok (.istore 4, 2) := by decide +kernel
theorem dX6_most_7 : decode cX6_most 7 = .ok (.iload 4, 2) := by decide +kernel
theorem dX6_most_9 : decode cX6_most 9 = .ok (.bipush 99, 2) := by decide +kernel
theorem dX6_most_11 : decode cX6_most 11 = .ok (.if_icmp .gt 76, 3) := by decide +kernel
theorem dX6_most_14 : decode cX6_most 14 = .ok (.iconst 0, 1) := by decide +kernel
theorem dX6_most_15 : decode cX6_most 15 = .ok (.istore 5, 2) := by decide +kernel
theorem dX6_most_17 : decode cX6_most 17 = .ok (.iconst 0, 1) := by decide +kernel
theorem dX6_most_18 : decode cX6_most 18 = .ok (.istore 6, 2) := by decide +kernel
theorem dX6_most_20 : decode cX6_most 20 = .ok (.iload 6, 2) := by decide +kernel
theorem dX6_most_22 : decode cX6_most 22 = .ok (.bipush 16, 2) := by decide +kernel
theorem dX6_most_24 : decode cX6_most 24 = .ok (.if_icmp .ge 31, 3) := by decide +kernel
theorem dX6_most_27 : decode cX6_most 27 = .ok (.iload 5, 2) := by decide +kernel
theorem dX6_most_29 : decode cX6_most 29 = .ok (.aload_n 0, 1) := by decide +kernel
theorem dX6_most_30 : decode cX6_most 30 = .ok (.iload_n 1, 1) := by decide +kernel
theorem dX6_most_31 : decode cX6_most 31 = .ok (.iload 6, 2) := by decide +kernel
theorem dX6_most_33 : decode cX6_most 33 = .ok (.invokevirtual 76, 3) := by decide +kernel
theorem dX6_most_36 : decode cX6_most 36 = .ok (.iload 4, 2) := by decide +kernel
theorem dX6_most_38 : decode cX6_most 38 = .ok (.if_icmp .ne 7, 3) := by decide +kernel
theorem dX6_most_41 : decode cX6_most 41 = .ok (.iconst 1, 1) := by decide +kernel
theorem dX6_most_42 : decode cX6_most 42 = .ok (.goto 4, 3) := by decide +kernel
theorem dX6_most_45 : decode cX6_most 45 = .ok (.iconst 0, 1) := by decide +kernel
theorem dX6_most_46 : decode cX6_most 46 = .ok (.iadd, 1) := by decide +kernel
theorem dX6_most_47 : decode cX6_most 47 = .ok (.istore 5, 2) := by decide +kernel
theorem dX6_most_49 : decode cX6_most 49 = .ok (.iinc 6 1, 3) := by decide +kernel
theorem dX6_most_52 : decode cX6_most 52 = .ok (.goto (-32), 3) := by decide +kernel
theorem dX6_most_55 : decode cX6_most 55 = .ok (.iload 5, 2) := by decide +kernel
theorem dX6_most_57 : decode cX6_most 57 = .ok (.iload_n 3, 1) := by decide +kernel
theorem dX6_most_58 : decode cX6_most 58 = .ok (.if_icmp .le 8, 3) := by decide +kernel
theorem dX6_most_61 : decode cX6_most 61 = .ok (.iload 4, 2) := by decide +kernel
theorem dX6_most_63 : decode cX6_most 63 = .ok (.goto 4, 3) := by decide +kernel
theorem dX6_most_66 : decode cX6_most 66 = .ok (.iload_n 2, 1) := by decide +kernel
theorem dX6_most_67 : decode cX6_most 67 = .ok (.istore_n 2, 1) := by decide +kernel
theorem dX6_most_68 : decode cX6_most 68 = .ok (.iload 5, 2) := by decide +kernel
theorem dX6_most_70 : decode cX6_most 70 = .ok (.iload_n 3, 1) := by decide +kernel
theorem dX6_most_71 : decode cX6_most 71 = .ok (.if_icmp .le 8, 3) := by decide +kernel
theorem dX6_most_74 : decode cX6_most 74 = .ok (.iload 5, 2) := by decide +kernel
theorem dX6_most_76 : decode cX6_most 76 = .ok (.goto 4, 3) := by decide +kernel
theorem dX6_most_79 : decode cX6_most 79 = .ok (.iload_n 3, 1) := by decide +kernel
theorem dX6_most_80 : decode cX6_most 80 = .ok (.istore_n 3, 1) := by decide +kernel
theorem dX6_most_81 : decode cX6_most 81 = .ok (.iinc 4 1, 3) := by decide +kernel
theorem dX6_most_84 : decode cX6_most 84 = .ok (.goto (-77), 3) := by decide +kernel
theorem dX6_most_87 : decode cX6_most 87 = .ok (.iload_n 2, 1) := by decide +kernel
theorem dX6_most_88 : decode cX6_most 88 = .ok (.ireturn, 1) := by decide +kernel
set_option maxRecDepth 20000 in
theorem ggX6_slim_X6_isRow : GoodIn wsX6_slim wsX6_isRow := goodIn_r _ [6, 1, 7, 8, 5, 9, 79, 80, 81, 82, 83, 84, 85, 86, 87, 88, 89] (by decide +kernel) (by decide +kernel)
set_option maxRecDepth 20000 in
theorem gX6_slim_X6_isRow : GoodIn wsX6_slim (wsV RX6 72 RX6 yX6_isRow wsX6_isRow) := goodIn_app (goodIn_of _ (by decide +kernel)) ggX6_slim_X6_isRow
set_option maxRecDepth 20000 in
theorem ggX6_slim_X6_remember : GoodIn wsX6_slim wsX6_remember := goodIn_r _ [13, 14, 15, 16, 5, 17, 18, 1, 19, 20, 21, 22, 23, 24, 25, 79, 80, 81, 82, 83, 84, 85, 86, 87, 88, 89] (by decide +kernel) (by decide +kernel)
set_option maxRecDepth 20000 in
theorem gX6_slim_X6_remember : GoodIn wsX6_slim (wsV RX6 65 RX6 yX6_remember wsX6_remember) := goodIn_app (goodIn_of _ (by decide +kernel)) ggX6_slim_X6_remember
set_option maxRecDepth 20000 in
theorem ggX6_slim_X6_most : GoodIn wsX6_slim wsX6_most := goodIn_r _ [29, 30, 31, 32, 5, 33, 1, 34, 35, 36, 37, 38, 39, 40, 79, 80, 81, 82, 83, 84, 85, 86, 87, 88, 89] (by decide +kernel) (by decide +kernel)
set_option maxRecDepth 20000 in
theorem gX6_slim_X6_most : GoodIn wsX6_slim (wsV RX6 100 RX6 yX6_most wsX6_most) := goodIn_app (goodIn_of _ (by decide +kernel)) ggX6_slim_X6_most
set_option maxRecDepth 20000 in
theorem ggX6_slim_X6_entriesBy : GoodIn wsX6_slim wsX6_entriesBy := goodIn_r _ [44, 34, 35, 36, 5, 37, 1, 38, 39, 40, 30, 31, 32, 33, 79, 80, 81, 82, 83, 84, 85, 86, 87, 88, 89] (by decide +kernel) (by decide +kernel)
set_option maxRecDepth 20000 in
theorem gX6_slim_X6_entriesBy : GoodIn wsX6_slim (wsV RX6 93 RX6 yX6_entriesBy wsX6_entriesBy) := goodIn_app (goodIn_of _ (by decide +kernel)) ggX6_slim_X6_entriesBy
set_option maxRecDepth 20000 in
theorem ggX6_slim_X6_entries : GoodIn wsX6_slim wsX6_entries := goodIn_r _ [37, 1, 79, 80, 81, 82, 83, 84, 85, 86, 87, 88, 89] (by decide +kernel) (by decide +kernel)
set_option maxRecDepth 20000 in
theorem gX6_slim_X6_entries : GoodIn wsX6_slim (wsV RX6 45 RX6 yX6_entries wsX6_entries) := goodIn_app (goodIn_of _ (by decide +kernel)) ggX6_slim_X6_entries
set_option maxRecDepth 20000 in
theorem ggX6_slim_X6_leavesFor : GoodIn wsX6_slim wsX6_leavesFor := goodIn_r _ [48, 49, 50, 51, 5, 52, 1, 53, 54, 55, 56, 79, 80, 81, 82, 83, 84, 85, 86, 87, 88, 89] (by decide +kernel) (by decide +kernel)
set_option maxRecDepth 20000 in
theorem gX6_slim_X6_leavesFor : GoodIn wsX6_slim (wsV RX6 80 RX6 yX6_leavesFor wsX6_leavesFor) := goodIn_app (goodIn_of _ (by decide +kernel)) ggX6_slim_X6_leavesFor
set_option maxRecDepth 20000 in
theorem ggX6_slim_X6_valueOf : GoodIn wsX6_slim wsX6_valueOf := goodIn_r _ [33, 1, 34, 35, 36, 5, 37, 38, 39, 40, 79, 80, 81, 82, 83, 84, 85, 86, 87, 88, 89] (by decide +kernel) (by decide +kernel)
set_option maxRecDepth 20000 in
theorem gX6_slim_X6_valueOf : GoodIn wsX6_slim (wsV RX6 76 RX6 yX6_valueOf wsX6_valueOf) := goodIn_app (goodIn_of _ (by decide +kernel)) ggX6_slim_X6_valueOf
set_option maxRecDepth 20000 in
theorem ggX6_slim_X6_formsFor : GoodIn wsX6_slim wsX6_formsFor := goodIn_r _ [60, 61, 62, 63, 5, 64, 1, 65, 66, 67, 68, 34, 35, 36, 37, 38, 39, 40, 69, 70, 71, 72, 73, 74, 75, 76, 77, 78, 79, 80, 81, 82, 83, 84, 85, 86, 87, 88, 89] (by decide +kernel) (by decide +kernel)
set_option maxRecDepth 20000 in
theorem gX6_slim_X6_formsFor : GoodIn wsX6_slim (wsV RX6 84 RX6 yX6_formsFor wsX6_formsFor) := goodIn_app (goodIn_of _ (by decide +kernel)) ggX6_slim_X6_formsFor
theorem dX6_slim_0 : decode cX6_slim 0 = .ok (.aload_n 0, 1) := by decide +kernel
theorem dX6_slim_1 : decode cX6_slim 1 = .ok (.iload_n 1, 1) := by decide +kernel
theorem dX6_slim_2 : decode cX6_slim 2 = .ok (.invokevirtual 72, 3) := by decide +kernel
theorem dX6_slim_5 : decode cX6_slim 5 = .ok (.ifCond .ne 5, 3) := by decide +kernel
theorem dX6_slim_8 : decode cX6_slim 8 = .ok (.iconst (-1), 1) := by decide +kernel
theorem dX6_slim_9 : decode cX6_slim 9 = .ok (.ireturn, 1) := by decide +kernel
theorem dX6_slim_10 : decode cX6_slim 10 = .ok (.aload_n 0, 1) := by decide +kernel
theorem dX6_slim_11 : decode cX6_slim 11 = .ok (.invokevirtual 65, 3) := by decide +kernel
theorem dX6_slim_14 : decode cX6_slim 14 = .ok (.aload_n 0, 1) := by decide +kernel
theorem dX6_slim_15 : decode cX6_slim 15 = .ok (.iload_n 1, 1) := by decide +kernel
theorem dX6_slim_16 : decode cX6_slim 16 = .ok (.invokevirtual 100, 3) := by decide +kernel
theorem dX6_slim_19 : decode cX6_slim 19 = .ok (.istore_n 2, 1) := by decide +kernel
theorem dX6_slim_20 : decode cX6_slim 20 = .ok (.aload_n 0, 1) := by decide +kernel
theorem dX6_slim_21 : decode cX6_slim 21 = .ok (.iload_n 1, 1) := by decide +kernel
theorem dX6_slim_22 : decode cX6_slim 22 = .ok (.iload_n 2, 1) := by decide +kernel
theorem dX6_slim_23 : decode cX6_slim 23 = .ok (.iconst 1, 1) := by decide +kernel
theorem dX6_slim_24 : decode cX6_slim 24 = .ok (.invokevirtual 93, 3) := by decide +kernel
theorem dX6_slim_27 : decode cX6_slim 27 = .ok (.istore_n 3, 1) := by decide +kernel
theorem dX6_slim_28 : decode cX6_slim 28 = .ok (.iload_n 3, 1) := by decide +kernel
theorem dX6_slim_29 : decode cX6_slim 29 = .ok (.aload_n 0, 1) := by decide +kernel
theorem dX6_slim_30 : decode cX6_slim 30 = .ok (.iload_n 1, 1) := by decide +kernel
theorem dX6_slim_31 : decode cX6_slim 31 = .ok (.invokevirtual 45, 3) := by decide +kernel
theorem dX6_slim_34 : decode cX6_slim 34 = .ok (.if_icmp .eq 7, 3) := by decide +kernel
theorem dX6_slim_37 : decode cX6_slim 37 = .ok (.iconst 1, 1) := by decide +kernel
theorem dX6_slim_38 : decode cX6_slim 38 = .ok (.goto 4, 3) := by decide +kernel
theorem dX6_slim_41 : decode cX6_slim 41 = .ok (.iconst 0, 1) := by decide +kernel
theorem dX6_slim_42 : decode cX6_slim 42 = .ok (.istore 4, 2) := by decide +kernel
theorem dX6_slim_44 : decode cX6_slim 44 = .ok (.aload_n 0, 1) := by decide +kernel
theorem dX6_slim_45 : decode cX6_slim 45 = .ok (.iload_n 1, 1) := by decide +kernel
theorem dX6_slim_46 : decode cX6_slim 46 = .ok (.iload 4, 2) := by decide +kernel
theorem dX6_slim_48 : decode cX6_slim 48 = .ok (.invokevirtual 80, 3) := by decide +kernel
theorem dX6_slim_51 : decode cX6_slim 51 = .ok (.iconst 0, 1) := by decide +kernel
theorem dX6_slim_52 : decode cX6_slim 52 = .ok (.istore 5, 2) := by decide +kernel
theorem dX6_slim_54 : decode cX6_slim 54 = .ok (.iload 5, 2) := by decide +kernel
theorem dX6_slim_56 : decode cX6_slim 56 = .ok (.bipush 16, 2) := by decide +kernel
theorem dX6_slim_58 : decode cX6_slim 58 = .ok (.if_icmp .ge 31, 3) := by decide +kernel
theorem dX6_slim_61 : decode cX6_slim 61 = .ok (.aload_n 0, 1) := by decide +kernel
theorem dX6_slim_62 : decode cX6_slim 62 = .ok (.getfield 7, 3) := by decide +kernel
theorem dX6_slim_65 : decode cX6_slim 65 = .ok (.bipush 73, 2) := by decide +kernel
theorem dX6_slim_67 : decode cX6_slim 67 = .ok (.bipush 16, 2) := by decide +kernel
theorem dX6_slim_69 : decode cX6_slim 69 = .ok (.iload_n 1, 1) := by decide +kernel
theorem dX6_slim_70 : decode cX6_slim 70 = .ok (.imul, 1) := by decide +kernel
theorem dX6_slim_71 : decode cX6_slim 71 = .ok (.iadd, 1) := by decide +kernel
theorem dX6_slim_72 : decode cX6_slim 72 = .ok (.iload 5, 2) := by decide +kernel
theorem dX6_slim_74 : decode cX6_slim 74 = .ok (.iadd, 1) := by decide +kernel
theorem dX6_slim_75 : decode cX6_slim 75 = .ok (.aload_n 0, 1) := by decide +kernel
theorem dX6_slim_76 : decode cX6_slim 76 = .ok (.iload_n 1, 1) := by decide +kernel
theorem dX6_slim_77 : decode cX6_slim 77 = .ok (.iload 5, 2) := by decide +kernel
theorem dX6_slim_79 : decode cX6_slim 79 = .ok (.invokevirtual 76, 3) := by decide +kernel
theorem dX6_slim_82 : decode cX6_slim 82 = .ok (.iastore, 1) := by decide +kernel
theorem dX6_slim_83 : decode cX6_slim 83 = .ok (.iinc 5 1, 3) := by decide +kernel
theorem dX6_slim_86 : decode cX6_slim 86 = .ok (.goto (-32), 3) := by decide +kernel
theorem dX6_slim_89 : decode cX6_slim 89 = .ok (.aload_n 0, 1) := by decide +kernel
theorem dX6_slim_90 : decode cX6_slim 90 = .ok (.getfield 7, 3) := by decide +kernel
theorem dX6_slim_93 : decode cX6_slim 93 = .ok (.bipush 25, 2) := by decide +kernel
theorem dX6_slim_95 : decode cX6_slim 95 = .ok (.iload_n 1, 1) := by decide +kernel
theorem dX6_slim_96 : decode cX6_slim 96 = .ok (.iadd, 1) := by decide +kernel
theorem dX6_slim_97 : decode cX6_slim 97 = .ok (.iload_n 3, 1) := by decide +kernel
theorem dX6_slim_98 : decode cX6_slim 98 = .ok (.iastore, 1) := by decide +kernel
theorem dX6_slim_99 : decode cX6_slim 99 = .ok (.aload_n 0, 1) := by decide +kernel
theorem dX6_slim_100 : decode cX6_slim 100 = .ok (.getfield 7, 3) := by decide +kernel
theorem dX6_slim_103 : decode cX6_slim 103 = .ok (.iconst 1, 1) := by decide +kernel
theorem dX6_slim_104 : decode cX6_slim 104 = .ok (.iload_n 1, 1) := by decide +kernel
theorem dX6_slim_105 : decode cX6_slim 105 = .ok (.iadd, 1) := by decide +kernel
theorem dX6_slim_106 : decode cX6_slim 106 = .ok (.iload_n 2, 1) := by decide +kernel
theorem dX6_slim_107 : decode cX6_slim 107 = .ok (.iastore, 1) := by decide +kernel
theorem dX6_slim_108 : decode cX6_slim 108 = .ok (.aload_n 0, 1) := by decide +kernel
theorem dX6_slim_109 : decode cX6_slim 109 = .ok (.iload_n 1, 1) := by decide +kernel
theorem dX6_slim_110 : decode cX6_slim 110 = .ok (.iload 4, 2) := by decide +kernel
theorem dX6_slim_112 : decode cX6_slim 112 = .ok (.invokevirtual 84, 3) := by decide +kernel
theorem dX6_slim_115 : decode cX6_slim 115 = .ok (.iload_n 2, 1) := by decide +kernel
theorem dX6_slim_116 : decode cX6_slim 116 = .ok (.ireturn, 1) := by decide +kernel
set_option maxRecDepth 20000 in
theorem ggX6_pushes_X6_entries : GoodIn wsX6_pushes wsX6_entries := goodIn_r _ [6, 1, 31, 32, 33, 34, 35, 36, 37, 38, 39, 40, 41] (by decide +kernel) (by decide +kernel)
