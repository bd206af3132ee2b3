set_option maxRecDepth 20000 in
theorem gX6_pushes_X6_entries : GoodIn wsX6_pushes (wsV RX6 45 RX6 yX6_entries wsX6_entries) := goodIn_app (goodIn_of _ (by decide +kernel)) ggX6_pushes_X6_entries
set_option maxRecDepth 20000 in
theorem ggX6_pushes_X6_bits : GoodIn wsX6_pushes wsX6_bits := goodIn_r _ [9] (by decide +kernel) (by decide +kernel)
set_option maxRecDepth 20000 in
theorem gX6_pushes_X6_bits : GoodIn wsX6_pushes (va_wsS RX6 97 yX6_bits wsX6_bits) := goodIn_app (goodIn_of _ (by decide +kernel)) ggX6_pushes_X6_bits
set_option maxRecDepth 20000 in
theorem ggX6_pushes_X6_forms : GoodIn wsX6_pushes wsX6_forms := goodIn_r _ [13, 1, 14, 15, 16, 5, 17, 2, 3, 4, 6, 18, 19, 20, 21, 22, 23, 24, 25, 26, 27, 28, 29, 30, 31, 32, 33, 34, 35, 36, 37, 38, 39, 40, 41] (by decide +kernel) (by decide +kernel)
set_option maxRecDepth 20000 in
theorem gX6_pushes_X6_forms : GoodIn wsX6_pushes (wsV RX6 90 RX6 yX6_forms wsX6_forms) := goodIn_app (goodIn_of _ (by decide +kernel)) ggX6_pushes_X6_forms
theorem dX6_pushes_0 : decode cX6_pushes 0 = .ok (.iconst 0, 1) := by decide +kernel
theorem dX6_pushes_1 : decode cX6_pushes 1 = .ok (.istore_n 2, 1) := by decide +kernel
theorem dX6_pushes_2 : decode cX6_pushes 2 = .ok (.iload_n 2, 1) := by decide +kernel
theorem dX6_pushes_3 : decode cX6_pushes 3 = .ok (.bipush 24, 2) := by decide +kernel
theorem dX6_pushes_5 : decode cX6_pushes 5 = .ok (.if_icmp .ge 30, 3) := by decide +kernel
theorem dX6_pushes_8 : decode cX6_pushes 8 = .ok (.aload_n 0, 1) := by decide +kernel
theorem dX6_pushes_9 : decode cX6_pushes 9 = .ok (.getfield 7, 3) := by decide +kernel
theorem dX6_pushes_12 : decode cX6_pushes 12 = .ok (.sipush 457, 3) := by decide +kernel
theorem dX6_pushes_15 : decode cX6_pushes 15 = .ok (.iload_n 2, 1) := by decide +kernel
theorem dX6_pushes_16 : decode cX6_pushes 16 = .ok (.iadd, 1) := by decide +kernel
theorem dX6_pushes_17 : decode cX6_pushes 17 = .ok (.iconst (-1), 1) := by decide +kernel
theorem dX6_pushes_18 : decode cX6_pushes 18 = .ok (.iastore, 1) := by decide +kernel
theorem dX6_pushes_19 : decode cX6_pushes 19 = .ok (.aload_n 0, 1) := by decide +kernel
theorem dX6_pushes_20 : decode cX6_pushes 20 = .ok (.getfield 7, 3) := by decide +kernel
theorem dX6_pushes_23 : decode cX6_pushes 23 = .ok (.bipush 49, 2) := by decide +kernel
theorem dX6_pushes_25 : decode cX6_pushes 25 = .ok (.iload_n 2, 1) := by decide +kernel
theorem dX6_pushes_26 : decode cX6_pushes 26 = .ok (.iadd, 1) := by decide +kernel
theorem dX6_pushes_27 : decode cX6_pushes 27 = .ok (.iconst (-1), 1) := by decide +kernel
theorem dX6_pushes_28 : decode cX6_pushes 28 = .ok (.iastore, 1) := by decide +kernel
theorem dX6_pushes_29 : decode cX6_pushes 29 = .ok (.iinc 2 1, 3) := by decide +kernel
theorem dX6_pushes_32 : decode cX6_pushes 32 = .ok (.goto (-30), 3) := by decide +kernel
theorem dX6_pushes_35 : decode cX6_pushes 35 = .ok (.bipush 16, 2) := by decide +kernel
theorem dX6_pushes_37 : decode cX6_pushes 37 = .ok (.istore_n 2, 1) := by decide +kernel
theorem dX6_pushes_38 : decode cX6_pushes 38 = .ok (.iload_n 2, 1) := by decide +kernel
theorem dX6_pushes_39 : decode cX6_pushes 39 = .ok (.ifCond .le 57, 3) := by decide +kernel
theorem dX6_pushes_42 : decode cX6_pushes 42 = .ok (.iconst 0, 1) := by decide +kernel
theorem dX6_pushes_43 : decode cX6_pushes 43 = .ok (.istore_n 3, 1) := by decide +kernel
theorem dX6_pushes_44 : decode cX6_pushes 44 = .ok (.iload_n 3, 1) := by decide +kernel
theorem dX6_pushes_45 : decode cX6_pushes 45 = .ok (.aload_n 0, 1) := by decide +kernel
theorem dX6_pushes_46 : decode cX6_pushes 46 = .ok (.getfield 7, 3) := by decide +kernel
theorem dX6_pushes_49 : decode cX6_pushes 49 = .ok (.iconst 0, 1) := by decide +kernel
theorem dX6_pushes_50 : decode cX6_pushes 50 = .ok (.iaload, 1) := by decide +kernel
theorem dX6_pushes_51 : decode cX6_pushes 51 = .ok (.if_icmp .ge 39, 3) := by decide +kernel
theorem dX6_pushes_54 : decode cX6_pushes 54 = .ok (.iload_n 1, 1) := by decide +kernel
theorem dX6_pushes_55 : decode cX6_pushes 55 = .ok (.ifCond .eq 18, 3) := by decide +kernel
theorem dX6_pushes_58 : decode cX6_pushes 58 = .ok (.aload_n 0, 1) := by decide +kernel
theorem dX6_pushes_59 : decode cX6_pushes 59 = .ok (.iload_n 3, 1) := by decide +kernel
theorem dX6_pushes_60 : decode cX6_pushes 60 = .ok (.invokevirtual 45, 3) := by decide +kernel
theorem dX6_pushes_63 : decode cX6_pushes 63 = .ok (.invokestatic 97, 3) := by decide +kernel
theorem dX6_pushes_66 : decode cX6_pushes 66 = .ok (.iload_n 2, 1) := by decide +kernel
theorem dX6_pushes_67 : decode cX6_pushes 67 = .ok (.if_icmp .ne 17, 3) := by decide +kernel
theorem dX6_pushes_70 : decode cX6_pushes 70 = .ok (.goto 9, 3) := by decide +kernel
theorem dX6_pushes_73 : decode cX6_pushes 73 = .ok (.iload_n 2, 1) := by decide +kernel
theorem dX6_pushes_74 : decode cX6_pushes 74 = .ok (.bipush 16, 2) := by decide +kernel
theorem dX6_pushes_76 : decode cX6_pushes 76 = .ok (.if_icmp .ne 8, 3) := by decide +kernel
theorem dX6_pushes_79 : decode cX6_pushes 79 = .ok (.aload_n 0, 1) := by decide +kernel
theorem dX6_pushes_80 : decode cX6_pushes 80 = .ok (.iload_n 3, 1) := by decide +kernel
theorem dX6_pushes_81 : decode cX6_pushes 81 = .ok (.invokevirtual 90, 3) := by decide +kernel
theorem dX6_pushes_84 : decode cX6_pushes 84 = .ok (.iinc 3 1, 3) := by decide +kernel
theorem dX6_pushes_87 : decode cX6_pushes 87 = .ok (.goto (-43), 3) := by decide +kernel
theorem dX6_pushes_90 : decode cX6_pushes 90 = .ok (.iinc 2 (-1), 3) := by decide +kernel
theorem dX6_pushes_93 : decode cX6_pushes 93 = .ok (.goto (-55), 3) := by decide +kernel
theorem dX6_pushes_96 : decode cX6_pushes 96 = .ok (.return_, 1) := by decide +kernel
set_option maxRecDepth 20000 in
theorem ggX6_end_X6_layStore : GoodIn wsX6_end wsX6_layStore := goodIn_r _ [6, 1, 7, 8, 9, 10, 11, 5, 12, 13, 14, 15, 16, 17, 18, 19, 20, 21, 22, 23, 24, 25, 26] (by decide +kernel) (by decide +kernel)
set_option maxRecDepth 20000 in
theorem gX6_end_X6_layStore : GoodIn wsX6_end (wsV RX6 56 RX6 yX6_layStore wsX6_layStore) := goodIn_app (goodIn_of _ (by decide +kernel)) ggX6_end_X6_layStore
theorem dX6_end_0 : decode cX6_end 0 = .ok (.aload_n 0, 1) := by decide +kernel
theorem dX6_end_1 : decode cX6_end 1 = .ok (.invokevirtual 56, 3) := by decide +kernel
theorem dX6_end_4 : decode cX6_end 4 = .ok (.iconst 0, 1) := by decide +kernel
theorem dX6_end_5 : decode cX6_end 5 = .ok (.istore_n 1, 1) := by decide +kernel
theorem dX6_end_6 : decode cX6_end 6 = .ok (.iconst 0, 1) := by decide +kernel
theorem dX6_end_7 : decode cX6_end 7 = .ok (.istore_n 2, 1) := by decide +kernel
theorem dX6_end_8 : decode cX6_end 8 = .ok (.iload_n 2, 1) := by decide +kernel
theorem dX6_end_9 : decode cX6_end 9 = .ok (.sipush 800, 3) := by decide +kernel
theorem dX6_end_12 : decode cX6_end 12 = .ok (.if_icmp .ge 27, 3) := by decide +kernel
theorem dX6_end_15 : decode cX6_end 15 = .ok (.aload_n 0, 1) := by decide +kernel
theorem dX6_end_16 : decode cX6_end 16 = .ok (.getfield 19, 3) := by decide +kernel
theorem dX6_end_19 : decode cX6_end 19 = .ok (.iload_n 2, 1) := by decide +kernel
theorem dX6_end_20 : decode cX6_end 20 = .ok (.iaload, 1) := by decide +kernel
theorem dX6_end_21 : decode cX6_end 21 = .ok (.iconst (-1), 1) := by decide +kernel
theorem dX6_end_22 : decode cX6_end 22 = .ok (.if_icmp .ne 7, 3) := by decide +kernel
theorem dX6_end_25 : decode cX6_end 25 = .ok (.iload_n 1, 1) := by decide +kernel
theorem dX6_end_26 : decode cX6_end 26 = .ok (.goto 6, 3) := by decide +kernel
theorem dX6_end_29 : decode cX6_end 29 = .ok (.iload_n 2, 1) := by decide +kernel
theorem dX6_end_30 : decode cX6_end 30 = .ok (.iconst 1, 1) := by decide +kernel
theorem dX6_end_31 : decode cX6_end 31 = .ok (.iadd, 1) := by decide +kernel
theorem dX6_end_32 : decode cX6_end 32 = .ok (.istore_n 1, 1) := by decide +kernel
theorem dX6_end_33 : decode cX6_end 33 = .ok (.iinc 2 1, 3) := by decide +kernel
theorem dX6_end_36 : decode cX6_end 36 = .ok (.goto (-28), 3) := by decide +kernel
theorem dX6_end_39 : decode cX6_end 39 = .ok (.iload_n 1, 1) := by decide +kernel
theorem dX6_end_40 : decode cX6_end 40 = .ok (.ireturn, 1) := by decide +kernel
set_option maxRecDepth 20000 in
theorem ggX6_push_X6_remember : GoodIn wsX6_push wsX6_remember := goodIn_r _ [5, 6, 7, 8, 4, 9, 10, 11, 12, 13, 14, 15, 16, 17, 18, 55, 56, 57, 58, 59, 60, 61, 62, 63, 64, 65] (by decide +kernel) (by decide +kernel)
set_option maxRecDepth 20000 in
theorem gX6_push_X6_remember : GoodIn wsX6_push (wsV RX6 65 RX6 yX6_remember wsX6_remember) := goodIn_app (goodIn_of _ (by decide +kernel)) ggX6_push_X6_remember
set_option maxRecDepth 20000 in
theorem ggX6_push_X6_pushes : GoodIn wsX6_push wsX6_pushes := goodIn_r _ [22, 11, 23, 24, 25, 4, 26, 27, 28, 29, 30, 31, 32, 33, 34, 35, 36, 37, 38, 39, 40, 41, 42, 43, 44, 45, 46, 47, 48, 49, 50, 55, 56, 57, 58, 59, 60, 61, 62, 63, 64, 65] (by decide +kernel) (by decide +kernel)
set_option maxRecDepth 20000 in
theorem gX6_push_X6_pushes : GoodIn wsX6_push (wsV RX6 103 RX6 yX6_pushes wsX6_pushes) := goodIn_app (goodIn_of _ (by decide +kernel)) ggX6_push_X6_pushes
set_option maxRecDepth 20000 in
theorem ggX6_push_X6_end : GoodIn wsX6_push wsX6_end := goodIn_r _ [54, 45, 41, 42, 43, 4, 44, 11, 46, 23, 24, 25, 26, 38, 39, 40, 55, 56, 57, 58, 59, 60, 61, 62, 63, 64, 65] (by decide +kernel) (by decide +kernel)
set_option maxRecDepth 20000 in
theorem gX6_push_X6_end : GoodIn wsX6_push (wsV RX6 107 RX6 yX6_end wsX6_end) := goodIn_app (goodIn_of _ (by decide +kernel)) ggX6_push_X6_end
theorem dX6_push_0 : decode cX6_push 0 = .ok (.aload_n 0, 1) := by decide +kernel
theorem dX6_push_1 : decode cX6_push 1 = .ok (.invokevirtual 65, 3) := by decide +kernel
theorem dX6_push_4 : decode cX6_push 4 = .ok (.aload_n 0, 1) := by decide +kernel
theorem dX6_push_5 : decode cX6_push 5 = .ok (.iconst 1, 1) := by decide +kernel
theorem dX6_push_6 : decode cX6_push 6 = .ok (.invokevirtual 103, 3) := by decide +kernel
theorem dX6_push_9 : decode cX6_push 9 = .ok (.aload_n 0, 1) := by decide +kernel
theorem dX6_push_10 : decode cX6_push 10 = .ok (.invokevirtual 107, 3) := by decide +kernel
theorem dX6_push_13 : decode cX6_push 13 = .ok (.ireturn, 1) := by decide +kernel
set_option maxRecDepth 20000 in
theorem ggX6_append_X6_in : GoodIn wsX6_append wsX6_in := goodIn_r _ [6] (by decide +kernel) (by decide +kernel)
set_option maxRecDepth 20000 in
theorem gX6_append_X6_in : GoodIn wsX6_append (va_wsS RX6 28 yX6_in wsX6_in) := goodIn_app (goodIn_of _ (by decide +kernel)) ggX6_append_X6_in
theorem dX6_append_0 : decode cX6_append 0 = .ok (.iload_n 1, 1) := by decide +kernel
theorem dX6_append_1 : decode cX6_append 1 = .ok (.iconst 1, 1) := by decide +kernel
theorem dX6_append_2 : decode cX6_append 2 = .ok (.sipush 255, 3) := by decide +kernel
theorem dX6_append_5 : decode cX6_append 5 = .ok (.invokestatic 28, 3) := by decide +kernel
theorem dX6_append_8 : decode cX6_append 8 = .ok (.ifCond .ne 5, 3) := by decide +kernel
theorem dX6_append_11 : decode cX6_append 11 = .ok (.iconst (-1), 1) := by decide +kernel
theorem dX6_append_12 : decode cX6_append 12 = .ok (.ireturn, 1) := by decide +kernel
theorem dX6_append_13 : decode cX6_append 13 = .ok (.aload_n 0, 1) := by decide +kernel
theorem dX6_append_14 : decode cX6_append 14 = .ok (.getfield 111, 3) := by decide +kernel
theorem dX6_append_17 : decode cX6_append 17 = .ok (.bipush 100, 2) := by decide +kernel
theorem dX6_append_19 : decode cX6_append 19 = .ok (.if_icmp .ne 6, 3) := by decide +kernel
theorem dX6_append_22 : decode cX6_append 22 = .ok (.bipush (-3), 2) := by decide +kernel
theorem dX6_append_24 : decode cX6_append 24 = .ok (.ireturn, 1) := by decide +kernel
theorem dX6_append_25 : decode cX6_append 25 = .ok (.aload_n 0, 1) := by decide +kernel
theorem dX6_append_26 : decode cX6_append 26 = .ok (.getfield 25, 3) := by decide +kernel
theorem dX6_append_29 : decode cX6_append 29 = .ok (.aload_n 0, 1) := by decide +kernel
theorem dX6_append_30 : decode cX6_append 30 = .ok (.getfield 111, 3) := by decide +kernel
theorem dX6_append_33 : decode cX6_append 33 = .ok (.iload_n 1, 1) := by decide +kernel
theorem dX6_append_34 : decode cX6_append 34 = .ok (.iastore, 1) := by decide +kernel
theorem dX6_append_35 : decode cX6_append 35 = .ok (.aload_n 0, 1) := by decide +kernel
theorem dX6_append_36 : decode cX6_append 36 = .ok (.dup, 1) := by decide +kernel
theorem dX6_append_37 : decode cX6_append 37 = .ok (.getfield 111, 3) := by decide +kernel
theorem dX6_append_40 : decode cX6_append 40 = .ok (.iconst 1, 1) := by decide +kernel
theorem dX6_append_41 : decode cX6_append 41 = .ok (.iadd, 1) := by decide +kernel
theorem dX6_append_42 : decode cX6_append 42 = .ok (.putfield 111, 3) := by decide +kernel
theorem dX6_append_45 : decode cX6_append 45 = .ok (.aload_n 0, 1) := by decide +kernel
theorem dX6_append_46 : decode cX6_append 46 = .ok (.getfield 111, 3) := by decide +kernel
theorem dX6_append_49 : decode cX6_append 49 = .ok (.ireturn, 1) := by decide +kernel
theorem dX6_clearText_0 : decode cX6_clearText 0 = .ok (.aload_n 0, 1) := by decide +kernel
theorem dX6_clearText_1 : decode cX6_clearText 1 = .ok (.getfield 111, 3) := by decide +kernel
theorem dX6_clearText_4 : decode cX6_clearText 4 = .ok (.istore_n 1, 1) := by decide +kernel
theorem dX6_clearText_5 : decode cX6_clearText 5 = .ok (.aload_n 0, 1) := by decide +kernel
theorem dX6_clearText_6 : decode cX6_clearText 6 = .ok (.iconst 0, 1) := by decide +kernel
theorem dX6_clearText_7 : decode cX6_clearText 7 = .ok (.putfield 111, 3) := by decide +kernel
theorem dX6_clearText_10 : decode cX6_clearText 10 = .ok (.iload_n 1, 1) := by decide +kernel
theorem dX6_clearText_11 : decode cX6_clearText 11 = .ok (.ireturn, 1) := by decide +kernel
theorem dX6_here_0 : decode cX6_here 0 = .ok (.aload_n 0, 1) := by decide +kernel
theorem dX6_here_1 : decode cX6_here 1 = .ok (.getfield 114, 3) := by decide +kernel
theorem dX6_here_4 : decode cX6_here 4 = .ok (.aload_n 0, 1) := by decide +kernel
theorem dX6_here_5 : decode cX6_here 5 = .ok (.getfield 111, 3) := by decide +kernel
theorem dX6_here_8 : decode cX6_here 8 = .ok (.if_icmp .ge 30, 3) := by decide +kernel
theorem dX6_here_11 : decode cX6_here 11 = .ok (.aload_n 0, 1) := by decide +kernel
theorem dX6_here_12 : decode cX6_here 12 = .ok (.getfield 25, 3) := by decide +kernel
theorem dX6_here_15 : decode cX6_here 15 = .ok (.aload_n 0, 1) := by decide +kernel
theorem dX6_here_16 : decode cX6_here 16 = .ok (.getfield 114, 3) := by decide +kernel
theorem dX6_here_19 : decode cX6_here 19 = .ok (.iaload, 1) := by decide +kernel
theorem dX6_here_20 : decode cX6_here 20 = .ok (.bipush 32, 2) := by decide +kernel
theorem dX6_here_22 : decode cX6_here 22 = .ok (.if_icmp .ne 16, 3) := by decide +kernel
theorem dX6_here_25 : decode cX6_here 25 = .ok (.aload_n 0, 1) := by decide +kernel
theorem dX6_here_26 : decode cX6_here 26 = .ok (.dup, 1) := by decide +kernel
theorem dX6_here_27 : decode cX6_here 27 = .ok (.getfield 114, 3) := by decide +kernel
theorem dX6_here_30 : decode cX6_here 30 = .ok (.iconst 1, 1) := by decide +kernel
theorem dX6_here_31 : decode cX6_here 31 = .ok (.iadd, 1) := by decide +kernel
theorem dX6_here_32 : decode cX6_here 32 = .ok (.putfield 114, 3) := by decide +kernel
theorem dX6_here_35 : decode cX6_here 35 = .ok (.goto (-35), 3) := by decide +kernel
theorem dX6_here_38 : decode cX6_here 38 = .ok (.aload_n 0, 1) := by decide +kernel
theorem dX6_here_39 : decode cX6_here 39 = .ok (.getfield 114, 3) := by decide +kernel
theorem dX6_here_42 : decode cX6_here 42 = .ok (.aload_n 0, 1) := by decide +kernel
theorem dX6_here_43 : decode cX6_here 43 = .ok (.getfield 111, 3) := by decide +kernel
theorem dX6_here_46 : decode cX6_here 46 = .ok (.if_icmp .ge 15, 3) := by decide +kernel
theorem dX6_here_49 : decode cX6_here 49 = .ok (.aload_n 0, 1) := by decide +kernel
theorem dX6_here_50 : decode cX6_here 50 = .ok (.getfield 25, 3) := by decide +kernel
theorem dX6_here_53 : decode cX6_here 53 = .ok (.aload_n 0, 1) := by decide +kernel
theorem dX6_here_54 : decode cX6_here 54 = .ok (.getfield 114, 3) := by decide +kernel
theorem dX6_here_57 : decode cX6_here 57 = .ok (.iaload, 1) := by decide +kernel
theorem dX6_here_58 : decode cX6_here 58 = .ok (.goto 4, 3) := by decide +kernel
theorem dX6_here_61 : decode cX6_here 61 = .ok (.iconst 0, 1) := by decide +kernel
theorem dX6_here_62 : decode cX6_here 62 = .ok (.ireturn, 1) := by decide +kernel
set_option maxRecDepth 20000 in
theorem ggX6_isDigit_X6_in : GoodIn wsX6_isDigit wsX6_in := goodIn_r _ [6] (by decide +kernel) (by decide +kernel)
set_option maxRecDepth 20000 in
theorem gX6_isDigit_X6_in : GoodIn wsX6_isDigit (va_wsS RX6 28 yX6_in wsX6_in) := goodIn_app (goodIn_of _ (by decide +kernel)) ggX6_isDigit_X6_in
theorem dX6_isDigit_0 : decode cX6_isDigit 0 = .ok (.iload_n 1, 1) := by decide +kernel
theorem dX6_isDigit_1 : decode cX6_isDigit 1 = .ok (.aload_n 0, 1) := by decide +kernel
theorem dX6_isDigit_2 : decode cX6_isDigit 2 = .ok (.getfield 111, 3) := by decide +kernel
theorem dX6_isDigit_5 : decode cX6_isDigit 5 = .ok (.if_icmp .ge 23, 3) := by decide +kernel
theorem dX6_isDigit_8 : decode cX6_isDigit 8 = .ok (.aload_n 0, 1) := by decide +kernel
theorem dX6_isDigit_9 : decode cX6_isDigit 9 = .ok (.getfield 25, 3) := by decide +kernel
theorem dX6_isDigit_12 : decode cX6_isDigit 12 = .ok (.iload_n 1, 1) := by decide +kernel
theorem dX6_isDigit_13 : decode cX6_isDigit 13 = .ok (.iaload, 1) := by decide +kernel
theorem dX6_isDigit_14 : decode cX6_isDigit 14 = .ok (.bipush 48, 2) := by decide +kernel
theorem dX6_isDigit_16 : decode cX6_isDigit 16 = .ok (.bipush 57, 2) := by decide +kernel
theorem dX6_isDigit_18 : decode cX6_isDigit 18 = .ok (.invokestatic 28, 3) := by decide +kernel
theorem dX6_isDigit_21 : decode cX6_isDigit 21 = .ok (.ifCond .eq 7, 3) := by decide +kernel
theorem dX6_isDigit_24 : decode cX6_isDigit 24 = .ok (.iconst 1, 1) := by decide +kernel
theorem dX6_isDigit_25 : decode cX6_isDigit 25 = .ok (.goto 4, 3) := by decide +kernel
theorem dX6_isDigit_28 : decode cX6_isDigit 28 = .ok (.iconst 0, 1) := by decide +kernel
theorem dX6_isDigit_29 : decode cX6_isDigit 29 = .ok (.ireturn, 1) := by decide +kernel
theorem dX6_fails_0 : decode cX6_fails 0 = .ok (.aload_n 0, 1) := by decide +kernel
theorem dX6_fails_1 : decode cX6_fails 1 = .ok (.iload_n 1, 1) := by decide +kernel
theorem dX6_fails_2 : decode cX6_fails 2 = .ok (.putfield 117, 3) := by decide +kernel
theorem dX6_fails_5 : decode cX6_fails 5 = .ok (.bipush (-9), 2) := by decide +kernel
theorem dX6_fails_7 : decode cX6_fails 7 = .ok (.ireturn, 1) := by decide +kernel
set_option maxRecDepth 20000 in
theorem ggX6_number_X6_here : GoodIn wsX6_number wsX6_here := goodIn_r _ [7, 1, 8, 2, 21, 22, 23, 24, 25, 26, 27, 28, 29, 30, 31] (by decide +kernel) (by decide +kernel)
set_option maxRecDepth 20000 in
theorem gX6_number_X6_here : GoodIn wsX6_number (wsV RX6 120 RX6 yX6_here wsX6_here) := goodIn_app (goodIn_of _ (by decide +kernel)) ggX6_number_X6_here
set_option maxRecDepth 20000 in
theorem ggX6_number_X6_isDigit : GoodIn wsX6_number wsX6_isDigit := goodIn_r _ [12, 8, 2, 13, 14, 6, 15, 21, 22, 23, 24, 25, 26, 27, 28, 29, 30, 31] (by decide +kernel) (by decide +kernel)
set_option maxRecDepth 20000 in
theorem gX6_number_X6_isDigit : GoodIn wsX6_number (wsV RX6 123 RX6 yX6_isDigit wsX6_isDigit) := goodIn_app (goodIn_of _ (by decide +kernel)) ggX6_number_X6_isDigit
set_option maxRecDepth 20000 in
theorem ggX6_number_X6_fails : GoodIn wsX6_number wsX6_fails := goodIn_r _ [19, 20, 21, 22, 23, 24, 25, 26, 27, 28, 29, 30, 31] (by decide +kernel) (by decide +kernel)
set_option maxRecDepth 20000 in
theorem gX6_number_X6_fails : GoodIn wsX6_number (wsV RX6 126 RX6 yX6_fails wsX6_fails) := goodIn_app (goodIn_of _ (by decide +kernel)) ggX6_number_X6_fails
theorem dX6_number_0 : decode cX6_number 0 = .ok (.aload_n 0, 1) := by decide +kernel
theorem dX6_number_1 : decode cX6_number 1 = .ok (.invokevirtual 120, 3) := by decide +kernel
theorem dX6_number_4 : decode cX6_number 4 = .ok (.pop, 1) := by decide +kernel
theorem dX6_number_5 : decode cX6_number 5 = .ok (.aload_n 0, 1) := by decide +kernel
theorem dX6_number_6 : decode cX6_number 6 = .ok (.aload_n 0, 1) := by decide +kernel
theorem dX6_number_7 : decode cX6_number 7 = .ok (.getfield 114, 3) := by decide +kernel
theorem dX6_number_10 : decode cX6_number 10 = .ok (.invokevirtual 123, 3) := by decide +kernel
theorem dX6_number_13 : decode cX6_number 13 = .ok (.ifCond .ne 12, 3) := by decide +kernel
theorem dX6_number_16 : decode cX6_number 16 = .ok (.aload_n 0, 1) := by decide +kernel
theorem dX6_number_17 : decode cX6_number 17 = .ok (.aload_n 0, 1) := by decide +kernel
theorem dX6_number_18 : decode cX6_number 18 = .ok (.getfield 114, 3) := by decide +kernel
theorem dX6_number_21 : decode cX6_number 21 = .ok (.invokevirtual 126, 3) := by decide +kernel
theorem dX6_number_24 : decode cX6_number 24 = .ok (.ireturn, 1) := by decide +kernel
theorem dX6_number_25 : decode cX6_number 25 = .ok (.aload_n 0, 1) := by decide +kernel
theorem dX6_number_26 : decode cX6_number 26 = .ok (.getfield 25, 3) := by decide +kernel
theorem dX6_number_29 : decode cX6_number 29 = .ok (.aload_n 0, 1) := by decide +kernel
theorem dX6_number_30 : decode cX6_number 30 = .ok (.getfield 114, 3) := by decide +kernel
theorem dX6_number_33 : decode cX6_number 33 = .ok (.iaload, 1) := by decide +kernel
theorem dX6_number_34 : decode cX6_number 34 = .ok (.bipush 48, 2) := by decide +kernel
theorem dX6_number_36 : decode cX6_number 36 = .ok (.isub, 1) := by decide +kernel
theorem dX6_number_37 : decode cX6_number 37 = .ok (.istore_n 1, 1) := by decide +kernel
theorem dX6_number_38 : decode cX6_number 38 = .ok (.aload_n 0, 1) := by decide +kernel
theorem dX6_number_39 : decode cX6_number 39 = .ok (.dup, 1) := by decide +kernel
theorem dX6_number_40 : decode cX6_number 40 = .ok (.getfield 114, 3) := by decide +kernel
theorem dX6_number_43 : decode cX6_number 43 = .ok (.iconst 1, 1) := by decide +kernel
theorem dX6_number_44 : decode cX6_number 44 = .ok (.iadd, 1) := by decide +kernel
theorem dX6_number_45 : decode cX6_number 45 = .ok (.putfield 114, 3) := by decide +kernel
theorem dX6_number_48 : decode cX6_number 48 = .ok (.iload_n 1, 1) := by decide +kernel
theorem dX6_number_49 : decode cX6_number 49 = .ok (.ifCond .le 42, 3) := by decide +kernel
theorem dX6_number_52 : decode cX6_number 52 = .ok (.aload_n 0, 1) := by decide +kernel
theorem dX6_number_53 : decode cX6_number 53 = .ok (.aload_n 0, 1) := by decide +kernel
theorem dX6_number_54 : decode cX6_number 54 = .ok (.getfield 114, 3) := by decide +kernel
theorem dX6_number_57 : decode cX6_number 57 = .ok (.invokevirtual 123, 3) := by decide +kernel
theorem dX6_number_60 : decode cX6_number 60 = .ok (.ifCond .eq 31, 3) := by decide +kernel
theorem dX6_number_63 : decode cX6_number 63 = .ok (.bipush 10, 2) := by decide +kernel
theorem dX6_number_65 : decode cX6_number 65 = .ok (.iload_n 1, 1) := by decide +kernel
theorem dX6_number_66 : decode cX6_number 66 = .ok (.imul, 1) := by decide +kernel
theorem dX6_number_67 : decode cX6_number 67 = .ok (.aload_n 0, 1) := by decide +kernel
theorem dX6_number_68 : decode cX6_number 68 = .ok (.getfield 25, 3) := by decide +kernel
theorem dX6_number_71 : decode cX6_number 71 = .ok (.aload_n 0, 1) := by decide +kernel
theorem dX6_number_72 : decode cX6_number 72 = .ok (.getfield 114, 3) := by decide +kernel
theorem dX6_number_75 : decode cX6_number 75 = .ok (.iaload, 1) := by decide +kernel
theorem dX6_number_76 : decode cX6_number 76 = .ok (.iadd, 1) := by decide +kernel
theorem dX6_number_77 : decode cX6_number 77 = .ok (.bipush 48, 2) := by decide +kernel
theorem dX6_number_79 : decode cX6_number 79 = .ok (.isub, 1) := by decide +kernel
theorem dX6_number_80 : decode cX6_number 80 = .ok (.istore_n 1, 1) := by decide +kernel
theorem dX6_number_81 : decode cX6_number 81 = .ok (.aload_n 0, 1) := by decide +kernel
theorem dX6_number_82 : decode cX6_number 82 = .ok (.dup, 1) := by decide +kernel
theorem dX6_number_83 : decode cX6_number 83 = .ok (.getfield 114, 3) := by decide +kernel
theorem dX6_number_86 : decode cX6_number 86 = .ok (.iconst 1, 1) := by decide +kernel
theorem dX6_number_87 : decode cX6_number 87 = .ok (.iadd, 1) := by decide +kernel
theorem dX6_number_88 : decode cX6_number 88 = .ok (.putfield 114, 3) := by decide +kernel
theorem dX6_number_91 : decode cX6_number 91 = .ok (.aload_n 0, 1) := by decide +kernel
theorem dX6_number_92 : decode cX6_number 92 = .ok (.aload_n 0, 1) := by decide +kernel
theorem dX6_number_93 : decode cX6_number 93 = .ok (.getfield 114, 3) := by decide +kernel
theorem dX6_number_96 : decode cX6_number 96 = .ok (.invokevirtual 123, 3) := by decide +kernel
theorem dX6_number_99 : decode cX6_number 99 = .ok (.ifCond .eq 14, 3) := by decide +kernel
theorem dX6_number_102 : decode cX6_number 102 = .ok (.aload_n 0, 1) := by decide +kernel
theorem dX6_number_103 : decode cX6_number 103 = .ok (.aload_n 0, 1) := by decide +kernel
theorem dX6_number_104 : decode cX6_number 104 = .ok (.getfield 114, 3) := by decide +kernel
theorem dX6_number_107 : decode cX6_number 107 = .ok (.invokevirtual 126, 3) := by decide +kernel
theorem dX6_number_110 : decode cX6_number 110 = .ok (.goto 4, 3) := by decide +kernel
theorem dX6_number_113 : decode cX6_number 113 = .ok (.iload_n 1, 1) := by decide +kernel
theorem dX6_number_114 : decode cX6_number 114 = .ok (.ireturn, 1) := by decide +kernel
set_option maxRecDepth 20000 in
theorem ggX6_sign_X6_here : GoodIn wsX6_sign wsX6_here := goodIn_r _ [6, 1, 7, 8, 14, 15, 16, 17, 18, 19, 20, 21, 22, 23, 24] (by decide +kernel) (by decide +kernel)
set_option maxRecDepth 20000 in
theorem gX6_sign_X6_here : GoodIn wsX6_sign (wsV RX6 120 RX6 yX6_here wsX6_here) := goodIn_app (goodIn_of _ (by decide +kernel)) ggX6_sign_X6_here
set_option maxRecDepth 20000 in
theorem ggX6_sign_X6_fails : GoodIn wsX6_sign wsX6_fails := goodIn_r _ [12, 13, 14, 15, 16, 17, 18, 19, 20, 21, 22, 23, 24] (by decide +kernel) (by decide +kernel)
set_option maxRecDepth 20000 in
theorem gX6_sign_X6_fails : GoodIn wsX6_sign (wsV RX6 126 RX6 yX6_fails wsX6_fails) := goodIn_app (goodIn_of _ (by decide +kernel)) ggX6_sign_X6_fails
theorem dX6_sign_0 : decode cX6_sign 0 = .ok (.aload_n 0, 1) := by decide +kernel
theorem dX6_sign_1 : decode cX6_sign 1 = .ok (.invokevirtual 120, 3) := by decide +kernel
theorem dX6_sign_4 : decode cX6_sign 4 = .ok (.iload_n 1, 1) := by decide +kernel
theorem dX6_sign_5 : decode cX6_sign 5 = .ok (.if_icmp .eq 14, 3) := by decide +kernel
theorem dX6_sign_8 : decode cX6_sign 8 = .ok (.aload_n 0, 1) := by decide +kernel
theorem dX6_sign_9 : decode cX6_sign 9 = .ok (.aload_n 0, 1) := by decide +kernel
theorem dX6_sign_10 : decode cX6_sign 10 = .ok (.getfield 114, 3) := by decide +kernel
theorem dX6_sign_13 : decode cX6_sign 13 = .ok (.invokevirtual 126, 3) := by decide +kernel
theorem dX6_sign_16 : decode cX6_sign 16 = .ok (.pop, 1) := by decide +kernel
theorem dX6_sign_17 : decode cX6_sign 17 = .ok (.iconst 0, 1) := by decide +kernel
theorem dX6_sign_18 : decode cX6_sign 18 = .ok (.ireturn, 1) := by decide +kernel
theorem dX6_sign_19 : decode cX6_sign 19 = .ok (.aload_n 0, 1) := by decide +kernel
theorem dX6_sign_20 : decode cX6_sign 20 = .ok (.dup, 1) := by decide +kernel
theorem dX6_sign_21 : decode cX6_sign 21 = .ok (.getfield 114, 3) := by decide +kernel
theorem dX6_sign_24 : decode cX6_sign 24 = .ok (.iconst 1, 1) := by decide +kernel
theorem dX6_sign_25 : decode cX6_sign 25 = .ok (.iadd, 1) := by decide +kernel
theorem dX6_sign_26 : decode cX6_sign 26 = .ok (.putfield 114, 3) := by decide +kernel
theorem dX6_sign_29 : decode cX6_sign 29 = .ok (.iconst 1, 1) := by decide +kernel
theorem dX6_sign_30 : decode cX6_sign 30 = .ok (.ireturn, 1) := by decide +kernel
set_option maxRecDepth 20000 in
theorem ggX6_entry_X6_here : GoodIn wsX6_entry wsX6_here := goodIn_r _ [7, 1, 8, 9, 30, 31, 32, 33, 34, 35, 36, 37, 38, 39, 40] (by decide +kernel) (by decide +kernel)
set_option maxRecDepth 20000 in
theorem gX6_entry_X6_here : GoodIn wsX6_entry (wsV RX6 120 RX6 yX6_here wsX6_here) := goodIn_app (goodIn_of _ (by decide +kernel)) ggX6_entry_X6_here
set_option maxRecDepth 20000 in
theorem ggX6_entry_X6_number : GoodIn wsX6_entry wsX6_number := goodIn_r _ [13, 1, 9, 3, 4, 5, 6, 7, 8, 14, 15, 16, 17, 18, 19, 20, 21, 22, 23, 24, 25, 30, 31, 32, 33, 34, 35, 36, 37, 38, 39, 40] (by decide +kernel) (by decide +kernel)
set_option maxRecDepth 20000 in
theorem gX6_entry_X6_number : GoodIn wsX6_entry (wsV RX6 129 RX6 yX6_number wsX6_number) := goodIn_app (goodIn_of _ (by decide +kernel)) ggX6_entry_X6_number
set_option maxRecDepth 20000 in
theorem ggX6_entry_X6_fails : GoodIn wsX6_entry wsX6_fails := goodIn_r _ [24, 25, 30, 31, 32, 33, 34, 35, 36, 37, 38, 39, 40] (by decide +kernel) (by decide +kernel)
set_option maxRecDepth 20000 in
theorem gX6_entry_X6_fails : GoodIn wsX6_entry (wsV RX6 126 RX6 yX6_fails wsX6_fails) := goodIn_app (goodIn_of _ (by decide +kernel)) ggX6_entry_X6_fails
set_option maxRecDepth 20000 in
theorem ggX6_entry_X6_sign : GoodIn wsX6_entry wsX6_sign := goodIn_r _ [29, 1, 3, 4, 5, 6, 7, 8, 9, 21, 22, 23, 24, 25, 30, 31, 32, 33, 34, 35, 36, 37, 38, 39, 40] (by decide +kernel) (by decide +kernel)
set_option maxRecDepth 20000 in
theorem gX6_entry_X6_sign : GoodIn wsX6_entry (wsV RX6 132 RX6 yX6_sign wsX6_sign) := goodIn_app (goodIn_of _ (by decide +kernel)) ggX6_entry_X6_sign
theorem dX6_entry_0 : decode cX6_entry 0 = .ok (.aload_n 0, 1) := by decide +kernel
theorem dX6_entry_1 : decode cX6_entry 1 = .ok (.invokevirtual 120, 3) := by decide +kernel
theorem dX6_entry_4 : decode cX6_entry 4 = .ok (.pop, 1) := by decide +kernel
theorem dX6_entry_5 : decode cX6_entry 5 = .ok (.aload_n 0, 1) := by decide +kernel
theorem dX6_entry_6 : decode cX6_entry 6 = .ok (.getfield 114, 3) := by decide +kernel
theorem dX6_entry_9 : decode cX6_entry 9 = .ok (.istore_n 3, 1) := by decide +kernel
theorem dX6_entry_10 : decode cX6_entry 10 = .ok (.aload_n 0, 1) := by decide +kernel
theorem dX6_entry_11 : decode cX6_entry 11 = .ok (.invokevirtual 129, 3) := by decide +kernel
theorem dX6_entry_14 : decode cX6_entry 14 = .ok (.istore 4, 2) := by decide +kernel
theorem dX6_entry_16 : decode cX6_entry 16 = .ok (.iload 4, 2) := by decide +kernel
theorem dX6_entry_18 : decode cX6_entry 18 = .ok (.bipush (-9), 2) := by decide +kernel
theorem dX6_entry_20 : decode cX6_entry 20 = .ok (.if_icmp .ne 6, 3) := by decide +kernel
theorem dX6_entry_23 : decode cX6_entry 23 = .ok (.bipush (-9), 2) := by decide +kernel
theorem dX6_entry_25 : decode cX6_entry 25 = .ok (.ireturn, 1) := by decide +kernel
theorem dX6_entry_26 : decode cX6_entry 26 = .ok (.iload 4, 2) := by decide +kernel
theorem dX6_entry_28 : decode cX6_entry 28 = .ok (.iload_n 2, 1) := by decide +kernel
theorem dX6_entry_29 : decode cX6_entry 29 = .ok (.if_icmp .le 10, 3) := by decide +kernel
theorem dX6_entry_32 : decode cX6_entry 32 = .ok (.iload 4, 2) := by decide +kernel
theorem dX6_entry_34 : decode cX6_entry 34 = .ok (.bipush 16, 2) := by decide +kernel
theorem dX6_entry_36 : decode cX6_entry 36 = .ok (.if_icmp .lt 9, 3) := by decide +kernel
theorem dX6_entry_39 : decode cX6_entry 39 = .ok (.aload_n 0, 1) := by decide +kernel
theorem dX6_entry_40 : decode cX6_entry 40 = .ok (.iload_n 3, 1) := by decide +kernel
theorem dX6_entry_41 : decode cX6_entry 41 = .ok (.invokevirtual 126, 3) := by decide +kernel
theorem dX6_entry_44 : decode cX6_entry 44 = .ok (.ireturn, 1) := by decide +kernel
theorem dX6_entry_45 : decode cX6_entry 45 = .ok (.aload_n 0, 1) := by decide +kernel
theorem dX6_entry_46 : decode cX6_entry 46 = .ok (.bipush 61, 2) := by decide +kernel
theorem dX6_entry_48 : decode cX6_entry 48 = .ok (.invokevirtual 132, 3) := by decide +kernel
theorem dX6_entry_51 : decode cX6_entry 51 = .ok (.ifCond .ne 6, 3) := by decide +kernel
theorem dX6_entry_54 : decode cX6_entry 54 = .ok (.bipush (-9), 2) := by decide +kernel
theorem dX6_entry_56 : decode cX6_entry 56 = .ok (.ireturn, 1) := by decide +kernel
theorem dX6_entry_57 : decode cX6_entry 57 = .ok (.aload_n 0, 1) := by decide +kernel
theorem dX6_entry_58 : decode cX6_entry 58 = .ok (.invokevirtual 120, 3) := by decide +kernel
theorem dX6_entry_61 : decode cX6_entry 61 = .ok (.pop, 1) := by decide +kernel
theorem dX6_entry_62 : decode cX6_entry 62 = .ok (.aload_n 0, 1) := by decide +kernel
theorem dX6_entry_63 : decode cX6_entry 63 = .ok (.getfield 114, 3) := by decide +kernel
theorem dX6_entry_66 : decode cX6_entry 66 = .ok (.istore_n 3, 1) := by decide +kernel
theorem dX6_entry_67 : decode cX6_entry 67 = .ok (.aload_n 0, 1) := by decide +kernel
theorem dX6_entry_68 : decode cX6_entry 68 = .ok (.invokevirtual 129, 3) := by decide +kernel
theorem dX6_entry_71 : decode cX6_entry 71 = .ok (.istore 5, 2) := by decide +kernel
theorem dX6_entry_73 : decode cX6_entry 73 = .ok (.iload 5, 2) := by decide +kernel
theorem dX6_entry_75 : decode cX6_entry 75 = .ok (.bipush (-9), 2) := by decide +kernel
theorem dX6_entry_77 : decode cX6_entry 77 = .ok (.if_icmp .ne 6, 3) := by decide +kernel
theorem dX6_entry_80 : decode cX6_entry 80 = .ok (.bipush (-9), 2) := by decide +kernel
theorem dX6_entry_82 : decode cX6_entry 82 = .ok (.ireturn, 1) := by decide +kernel
theorem dX6_entry_83 : decode cX6_entry 83 = .ok (.iload 5, 2) := by decide +kernel
theorem dX6_entry_85 : decode cX6_entry 85 = .ok (.aload_n 0, 1) := by decide +kernel
theorem dX6_entry_86 : decode cX6_entry 86 = .ok (.getfield 7, 3) := by decide +kernel
theorem dX6_entry_89 : decode cX6_entry 89 = .ok (.iconst 1, 1) := by decide +kernel
theorem dX6_entry_90 : decode cX6_entry 90 = .ok (.iload_n 1, 1) := by decide +kernel
theorem dX6_entry_91 : decode cX6_entry 91 = .ok (.iadd, 1) := by decide +kernel
theorem dX6_entry_92 : decode cX6_entry 92 = .ok (.iaload, 1) := by decide +kernel
theorem dX6_entry_93 : decode cX6_entry 93 = .ok (.if_icmp .ne 9, 3) := by decide +kernel
theorem dX6_entry_96 : decode cX6_entry 96 = .ok (.aload_n 0, 1) := by decide +kernel
theorem dX6_entry_97 : decode cX6_entry 97 = .ok (.iload_n 3, 1) := by decide +kernel
theorem dX6_entry_98 : decode cX6_entry 98 = .ok (.invokevirtual 126, 3) := by decide +kernel
theorem dX6_entry_101 : decode cX6_entry 101 = .ok (.ireturn, 1) := by decide +kernel
theorem dX6_entry_102 : decode cX6_entry 102 = .ok (.aload_n 0, 1) := by decide +kernel
theorem dX6_entry_103 : decode cX6_entry 103 = .ok (.getfield 7, 3) := by decide +kernel
theorem dX6_entry_106 : decode cX6_entry 106 = .ok (.bipush 25, 2) := by decide +kernel
theorem dX6_entry_108 : decode cX6_entry 108 = .ok (.iload_n 1, 1) := by decide +kernel
theorem dX6_entry_109 : decode cX6_entry 109 = .ok (.iadd, 1) := by decide +kernel
theorem dX6_entry_110 : decode cX6_entry 110 = .ok (.dup2, 1) := by decide +kernel
theorem dX6_entry_111 : decode cX6_entry 111 = .ok (.iaload, 1) := by decide +kernel
theorem dX6_entry_112 : decode cX6_entry 112 = .ok (.iconst 1, 1) := by decide +kernel
theorem dX6_entry_113 : decode cX6_entry 113 = .ok (.iload 4, 2) := by decide +kernel
theorem dX6_entry_115 : decode cX6_entry 115 = .ok (.ishl, 1) := by decide +kernel
theorem dX6_entry_116 : decode cX6_entry 116 = .ok (.ior, 1) := by decide +kernel
theorem dX6_entry_117 : decode cX6_entry 117 = .ok (.iastore, 1) := by decide +kernel
theorem dX6_entry_118 : decode cX6_entry 118 = .ok (.aload_n 0, 1) := by decide +kernel
theorem dX6_entry_119 : decode cX6_entry 119 = .ok (.getfield 7, 3) := by decide +kernel
theorem dX6_entry_122 : decode cX6_entry 122 = .ok (.bipush 73, 2) := by decide +kernel
theorem dX6_entry_124 : decode cX6_entry 124 = .ok (.bipush 16, 2) := by decide +kernel
theorem dX6_entry_126 : decode cX6_entry 126 = .ok (.iload_n 1, 1) := by decide +kernel
theorem dX6_entry_127 : decode cX6_entry 127 = .ok (.imul, 1) := by decide +kernel
theorem dX6_entry_128 : decode cX6_entry 128 = .ok (.iadd, 1) := by decide +kernel
theorem dX6_entry_129 : decode cX6_entry 129 = .ok (.iload 4, 2) := by decide +kernel
theorem dX6_entry_131 : decode cX6_entry 131 = .ok (.iadd, 1) := by decide +kernel
theorem dX6_entry_132 : decode cX6_entry 132 = .ok (.iload 5, 2) := by decide +kernel
theorem dX6_entry_134 : decode cX6_entry 134 = .ok (.iastore, 1) := by decide +kernel
theorem dX6_entry_135 : decode cX6_entry 135 = .ok (.iload 4, 2) := by decide +kernel
theorem dX6_entry_137 : decode cX6_entry 137 = .ok (.ireturn, 1) := by decide +kernel
set_option maxRecDepth 20000 in
theorem ggX6_rowRead_X6_fails : GoodIn wsX6_rowRead wsX6_fails := goodIn_r _ [7, 8, 63, 64, 65, 66, 67, 68, 69, 70, 71, 72, 73] (by decide +kernel) (by decide +kernel)
set_option maxRecDepth 20000 in
theorem gX6_rowRead_X6_fails : GoodIn wsX6_rowRead (wsV RX6 126 RX6 yX6_fails wsX6_fails) := goodIn_app (goodIn_of _ (by decide +kernel)) ggX6_rowRead_X6_fails
set_option maxRecDepth 20000 in
theorem ggX6_rowRead_X6_isDigit : GoodIn wsX6_rowRead wsX6_isDigit := goodIn_r _ [12, 13, 14, 15, 16, 6, 17, 63, 64, 65, 66, 67, 68, 69, 70, 71, 72, 73] (by decide +kernel) (by decide +kernel)
set_option maxRecDepth 20000 in
theorem gX6_rowRead_X6_isDigit : GoodIn wsX6_rowRead (wsV RX6 123 RX6 yX6_isDigit wsX6_isDigit) := goodIn_app (goodIn_of _ (by decide +kernel)) ggX6_rowRead_X6_isDigit
set_option maxRecDepth 20000 in
theorem ggX6_rowRead_X6_number : GoodIn wsX6_rowRead wsX6_number := goodIn_r _ [21, 2, 14, 22, 23, 24, 6, 25, 13, 9, 10, 11, 12, 15, 16, 17, 3, 4, 5, 7, 8, 63, 64, 65, 66, 67, 68, 69, 70, 71, 72, 73] (by decide +kernel) (by decide +kernel)
set_option maxRecDepth 20000 in
theorem gX6_rowRead_X6_number : GoodIn wsX6_rowRead (wsV RX6 129 RX6 yX6_number wsX6_number) := goodIn_app (goodIn_of _ (by decide +kernel)) ggX6_rowRead_X6_number
set_option maxRecDepth 20000 in
theorem ggX6_rowRead_X6_sign : GoodIn wsX6_rowRead wsX6_sign := goodIn_r _ [29, 2, 22, 23, 24, 6, 25, 13, 14, 3, 4, 5, 7, 8, 63, 64, 65, 66, 67, 68, 69, 70, 71, 72, 73] (by decide +kernel) (by decide +kernel)
set_option maxRecDepth 20000 in
theorem gX6_rowRead_X6_sign : GoodIn wsX6_rowRead (wsV RX6 132 RX6 yX6_sign wsX6_sign) := goodIn_app (goodIn_of _ (by decide +kernel)) ggX6_rowRead_X6_sign
set_option maxRecDepth 20000 in
theorem ggX6_rowRead_X6_adds : GoodIn wsX6_rowRead wsX6_adds := goodIn_r _ [33, 1, 63, 64, 65, 66, 67, 68, 69, 70, 71, 72, 73] (by decide +kernel) (by decide +kernel)
set_option maxRecDepth 20000 in
theorem gX6_rowRead_X6_adds : GoodIn wsX6_rowRead (wsV RX6 68 RX6 yX6_adds wsX6_adds) := goodIn_app (goodIn_of _ (by decide +kernel)) ggX6_rowRead_X6_adds
set_option maxRecDepth 20000 in
theorem ggX6_rowRead_X6_here : GoodIn wsX6_rowRead wsX6_here := goodIn_r _ [25, 2, 13, 14, 63, 64, 65, 66, 67, 68, 69, 70, 71, 72, 73] (by decide +kernel) (by decide +kernel)
set_option maxRecDepth 20000 in
theorem gX6_rowRead_X6_here : GoodIn wsX6_rowRead (wsV RX6 120 RX6 yX6_here wsX6_here) := goodIn_app (goodIn_of _ (by decide +kernel)) ggX6_rowRead_X6_here
set_option maxRecDepth 20000 in
theorem ggX6_rowRead_X6_entry : GoodIn wsX6_rowRead wsX6_entry := goodIn_r _ [37, 2, 1, 22, 23, 24, 6, 25, 13, 14, 18, 19, 20, 21, 9, 10, 11, 12, 15, 16, 17, 3, 4, 5, 7, 8, 26, 27, 28, 29, 63, 64, 65, 66, 67, 68, 69, 70, 71, 72, 73] (by decide +kernel) (by decide +kernel)
set_option maxRecDepth 20000 in
theorem gX6_rowRead_X6_entry : GoodIn wsX6_rowRead (wsV RX6 135 RX6 yX6_entry wsX6_entry) := goodIn_app (goodIn_of _ (by decide +kernel)) ggX6_rowRead_X6_entry
set_option maxRecDepth 20000 in
theorem ggX6_rowRead_X6_forms : GoodIn wsX6_rowRead wsX6_forms := goodIn_r _ [41, 1, 42, 43, 44, 6, 45, 46, 47, 48, 49, 50, 51, 52, 53, 54, 55, 56, 57, 58, 59, 60, 61, 62, 63, 64, 65, 66, 67, 68, 69, 70, 71, 72, 73] (by decide +kernel) (by decide +kernel)
set_option maxRecDepth 20000 in
theorem gX6_rowRead_X6_forms : GoodIn wsX6_rowRead (wsV RX6 90 RX6 yX6_forms wsX6_forms) := goodIn_app (goodIn_of _ (by decide +kernel)) ggX6_rowRead_X6_forms
theorem dX6_rowRead_0 : decode cX6_rowRead 0 = .ok (.aload_n 0, 1) := by decide +kernel
theorem dX6_rowRead_1 : decode cX6_rowRead 1 = .ok (.getfield 7, 3) := by decide +kernel
theorem dX6_rowRead_4 : decode cX6_rowRead 4 = .ok (.iconst 0, 1) := by decide +kernel
theorem dX6_rowRead_5 : decode cX6_rowRead 5 = .ok (.iaload, 1) := by decide +kernel
theorem dX6_rowRead_6 : decode cX6_rowRead 6 = .ok (.bipush 24, 2) := by decide +kernel
theorem dX6_rowRead_8 : decode cX6_rowRead 8 = .ok (.if_icmp .ne 14, 3) := by decide +kernel
theorem dX6_rowRead_11 : decode cX6_rowRead 11 = .ok (.aload_n 0, 1) := by decide +kernel
theorem dX6_rowRead_12 : decode cX6_rowRead 12 = .ok (.aload_n 0, 1) := by decide +kernel
theorem dX6_rowRead_13 : decode cX6_rowRead 13 = .ok (.getfield 114, 3) := by decide +kernel
theorem dX6_rowRead_16 : decode cX6_rowRead 16 = .ok (.invokevirtual 126, 3) := by decide +kernel
theorem dX6_rowRead_19 : decode cX6_rowRead 19 = .ok (.pop, 1) := by decide +kernel
theorem dX6_rowRead_20 : decode cX6_rowRead 20 = .ok (.iconst 0, 1) := by decide +kernel
theorem dX6_rowRead_21 : decode cX6_rowRead 21 = .ok (.ireturn, 1) := by decide +kernel
theorem dX6_rowRead_22 : decode cX6_rowRead 22 = .ok (.aload_n 0, 1) := by decide +kernel
theorem dX6_rowRead_23 : decode cX6_rowRead 23 = .ok (.aload_n 0, 1) := by decide +kernel
theorem dX6_rowRead_24 : decode cX6_rowRead 24 = .ok (.getfield 114, 3) := by decide +kernel
theorem dX6_rowRead_27 : decode cX6_rowRead 27 = .ok (.invokevirtual 123, 3) := by decide +kernel
theorem dX6_rowRead_30 : decode cX6_rowRead 30 = .ok (.ifCond .eq 10, 3) := by decide +kernel
theorem dX6_rowRead_33 : decode cX6_rowRead 33 = .ok (.aload_n 0, 1) := by decide +kernel
theorem dX6_rowRead_34 : decode cX6_rowRead 34 = .ok (.invokevirtual 129, 3) := by decide +kernel
theorem dX6_rowRead_37 : decode cX6_rowRead 37 = .ok (.goto 4, 3) := by decide +kernel
theorem dX6_rowRead_40 : decode cX6_rowRead 40 = .ok (.iconst 0, 1) := by decide +kernel
theorem dX6_rowRead_41 : decode cX6_rowRead 41 = .ok (.istore_n 1, 1) := by decide +kernel
theorem dX6_rowRead_42 : decode cX6_rowRead 42 = .ok (.iload_n 1, 1) := by decide +kernel
theorem dX6_rowRead_43 : decode cX6_rowRead 43 = .ok (.bipush (-9), 2) := by decide +kernel
theorem dX6_rowRead_45 : decode cX6_rowRead 45 = .ok (.if_icmp .eq 12, 3) := by decide +kernel
theorem dX6_rowRead_48 : decode cX6_rowRead 48 = .ok (.aload_n 0, 1) := by decide +kernel
theorem dX6_rowRead_49 : decode cX6_rowRead 49 = .ok (.bipush 58, 2) := by decide +kernel
theorem dX6_rowRead_51 : decode cX6_rowRead 51 = .ok (.invokevirtual 132, 3) := by decide +kernel
theorem dX6_rowRead_54 : decode cX6_rowRead 54 = .ok (.ifCond .ne 5, 3) := by decide +kernel
theorem dX6_rowRead_57 : decode cX6_rowRead 57 = .ok (.iconst 0, 1) := by decide +kernel
theorem dX6_rowRead_58 : decode cX6_rowRead 58 = .ok (.ireturn, 1) := by decide +kernel
theorem dX6_rowRead_59 : decode cX6_rowRead 59 = .ok (.aload_n 0, 1) := by decide +kernel
theorem dX6_rowRead_60 : decode cX6_rowRead 60 = .ok (.getfield 7, 3) := by decide +kernel
theorem dX6_rowRead_63 : decode cX6_rowRead 63 = .ok (.iconst 0, 1) := by decide +kernel
theorem dX6_rowRead_64 : decode cX6_rowRead 64 = .ok (.iaload, 1) := by decide +kernel
theorem dX6_rowRead_65 : decode cX6_rowRead 65 = .ok (.istore_n 2, 1) := by decide +kernel
theorem dX6_rowRead_66 : decode cX6_rowRead 66 = .ok (.aload_n 0, 1) := by decide +kernel
theorem dX6_rowRead_67 : decode cX6_rowRead 67 = .ok (.iload_n 1, 1) := by decide +kernel
theorem dX6_rowRead_68 : decode cX6_rowRead 68 = .ok (.invokevirtual 68, 3) := by decide +kernel
theorem dX6_rowRead_71 : decode cX6_rowRead 71 = .ok (.iconst (-1), 1) := by decide +kernel
theorem dX6_rowRead_72 : decode cX6_rowRead 72 = .ok (.istore_n 3, 1) := by decide +kernel
theorem dX6_rowRead_73 : decode cX6_rowRead 73 = .ok (.aload_n 0, 1) := by decide +kernel
theorem dX6_rowRead_74 : decode cX6_rowRead 74 = .ok (.invokevirtual 120, 3) := by decide +kernel
theorem dX6_rowRead_77 : decode cX6_rowRead 77 = .ok (.bipush 59, 2) := by decide +kernel
theorem dX6_rowRead_79 : decode cX6_rowRead 79 = .ok (.if_icmp .eq 7, 3) := by decide +kernel
theorem dX6_rowRead_82 : decode cX6_rowRead 82 = .ok (.iconst 1, 1) := by decide +kernel
theorem dX6_rowRead_83 : decode cX6_rowRead 83 = .ok (.goto 4, 3) := by decide +kernel
theorem dX6_rowRead_86 : decode cX6_rowRead 86 = .ok (.iconst 0, 1) := by decide +kernel
theorem dX6_rowRead_87 : decode cX6_rowRead 87 = .ok (.istore 4, 2) := by decide +kernel
theorem dX6_rowRead_89 : decode cX6_rowRead 89 = .ok (.iload 4, 2) := by decide +kernel
theorem dX6_rowRead_91 : decode cX6_rowRead 91 = .ok (.ifCond .eq 56, 3) := by decide +kernel
theorem dX6_rowRead_94 : decode cX6_rowRead 94 = .ok (.aload_n 0, 1) := by decide +kernel
theorem dX6_rowRead_95 : decode cX6_rowRead 95 = .ok (.iload_n 2, 1) := by decide +kernel
theorem dX6_rowRead_96 : decode cX6_rowRead 96 = .ok (.iload_n 3, 1) := by decide +kernel
theorem dX6_rowRead_97 : decode cX6_rowRead 97 = .ok (.invokevirtual 135, 3) := by decide +kernel
theorem dX6_rowRead_100 : decode cX6_rowRead 100 = .ok (.istore_n 3, 1) := by decide +kernel
theorem dX6_rowRead_101 : decode cX6_rowRead 101 = .ok (.iload_n 3, 1) := by decide +kernel
theorem dX6_rowRead_102 : decode cX6_rowRead 102 = .ok (.bipush (-9), 2) := by decide +kernel
theorem dX6_rowRead_104 : decode cX6_rowRead 104 = .ok (.if_icmp .ne 5, 3) := by decide +kernel
theorem dX6_rowRead_107 : decode cX6_rowRead 107 = .ok (.iconst 0, 1) := by decide +kernel
theorem dX6_rowRead_108 : decode cX6_rowRead 108 = .ok (.ireturn, 1) := by decide +kernel
theorem dX6_rowRead_109 : decode cX6_rowRead 109 = .ok (.aload_n 0, 1) := by decide +kernel
theorem dX6_rowRead_110 : decode cX6_rowRead 110 = .ok (.invokevirtual 120, 3) := by decide +kernel
theorem dX6_rowRead_113 : decode cX6_rowRead 113 = .ok (.bipush 44, 2) := by decide +kernel
theorem dX6_rowRead_115 : decode cX6_rowRead 115 = .ok (.if_icmp .ne 7, 3) := by decide +kernel
theorem dX6_rowRead_118 : decode cX6_rowRead 118 = .ok (.iconst 1, 1) := by decide +kernel
theorem dX6_rowRead_119 : decode cX6_rowRead 119 = .ok (.goto 4, 3) := by decide +kernel
theorem dX6_rowRead_122 : decode cX6_rowRead 122 = .ok (.iconst 0, 1) := by decide +kernel
theorem dX6_rowRead_123 : decode cX6_rowRead 123 = .ok (.istore 4, 2) := by decide +kernel
theorem dX6_rowRead_125 : decode cX6_rowRead 125 = .ok (.aload_n 0, 1) := by decide +kernel
theorem dX6_rowRead_126 : decode cX6_rowRead 126 = .ok (.dup, 1) := by decide +kernel
theorem dX6_rowRead_127 : decode cX6_rowRead 127 = .ok (.getfield 114, 3) := by decide +kernel
theorem dX6_rowRead_130 : decode cX6_rowRead 130 = .ok (.iload 4, 2) := by decide +kernel
theorem dX6_rowRead_132 : decode cX6_rowRead 132 = .ok (.ifCond .eq 7, 3) := by decide +kernel
theorem dX6_rowRead_135 : decode cX6_rowRead 135 = .ok (.iconst 1, 1) := by decide +kernel
theorem dX6_rowRead_136 : decode cX6_rowRead 136 = .ok (.goto 4, 3) := by decide +kernel
theorem dX6_rowRead_139 : decode cX6_rowRead 139 = .ok (.iconst 0, 1) := by decide +kernel
theorem dX6_rowRead_140 : decode cX6_rowRead 140 = .ok (.iadd, 1) := by decide +kernel
theorem dX6_rowRead_141 : decode cX6_rowRead 141 = .ok (.putfield 114, 3) := by decide +kernel
theorem dX6_rowRead_144 : decode cX6_rowRead 144 = .ok (.goto (-55), 3) := by decide +kernel
theorem dX6_rowRead_147 : decode cX6_rowRead 147 = .ok (.aload_n 0, 1) := by decide +kernel
theorem dX6_rowRead_148 : decode cX6_rowRead 148 = .ok (.bipush 59, 2) := by decide +kernel
theorem dX6_rowRead_150 : decode cX6_rowRead 150 = .ok (.invokevirtual 132, 3) := by decide +kernel
theorem dX6_rowRead_153 : decode cX6_rowRead 153 = .ok (.ifCond .ne 5, 3) := by decide +kernel
theorem dX6_rowRead_156 : decode cX6_rowRead 156 = .ok (.iconst 0, 1) := by decide +kernel
theorem dX6_rowRead_157 : decode cX6_rowRead 157 = .ok (.ireturn, 1) := by decide +kernel
theorem dX6_rowRead_158 : decode cX6_rowRead 158 = .ok (.aload_n 0, 1) := by decide +kernel
theorem dX6_rowRead_159 : decode cX6_rowRead 159 = .ok (.iload_n 2, 1) := by decide +kernel
theorem dX6_rowRead_160 : decode cX6_rowRead 160 = .ok (.invokevirtual 90, 3) := by decide +kernel
theorem dX6_rowRead_163 : decode cX6_rowRead 163 = .ok (.iconst 1, 1) := by decide +kernel
theorem dX6_rowRead_164 : decode cX6_rowRead 164 = .ok (.ireturn, 1) := by decide +kernel
set_option maxRecDepth 20000 in
theorem ggX6_read_X6_copy : GoodIn wsX6_read wsX6_copy := goodIn_r _ [8, 9, 10, 83, 84, 85, 86, 87, 88, 89, 90, 91, 92, 93] (by decide +kernel) (by decide +kernel)
set_option maxRecDepth 20000 in
theorem gX6_read_X6_copy : GoodIn wsX6_read (wsV RX6 39 RX6 yX6_copy wsX6_copy) := goodIn_app (goodIn_of _ (by decide +kernel)) ggX6_read_X6_copy
set_option maxRecDepth 20000 in
theorem ggX6_read_X6_here : GoodIn wsX6_read wsX6_here := goodIn_r _ [14, 1, 3, 15, 83, 84, 85, 86, 87, 88, 89, 90, 91, 92, 93] (by decide +kernel) (by decide +kernel)
set_option maxRecDepth 20000 in
theorem gX6_read_X6_here : GoodIn wsX6_read (wsV RX6 120 RX6 yX6_here wsX6_here) := goodIn_app (goodIn_of _ (by decide +kernel)) ggX6_read_X6_here
set_option maxRecDepth 20000 in
theorem ggX6_read_X6_rowRead : GoodIn wsX6_read wsX6_rowRead := goodIn_r _ [19, 10, 1, 20, 21, 22, 7, 23, 2, 24, 25, 26, 27, 3, 15, 28, 29, 30, 31, 32, 33, 34, 11, 12, 13, 14, 35, 36, 37, 38, 39, 40, 41, 42, 43, 44, 45, 46, 47, 48, 49, 50, 51, 52, 53, 54, 55, 56, 57, 58, 59, 60, 61, 62, 63, 64, 65, 66, 67, 68, 69, 70, 71, 83, 84, 85, 86, 87, 88, 89, 90, 91, 92, 93] (by decide +kernel) (by decide +kernel)
set_option maxRecDepth 20000 in
theorem gX6_read_X6_rowRead : GoodIn wsX6_read (wsV RX6 138 RX6 yX6_rowRead wsX6_rowRead) := goodIn_app (goodIn_of _ (by decide +kernel)) ggX6_read_X6_rowRead
set_option maxRecDepth 20000 in
theorem ggX6_read_X6_back : GoodIn wsX6_read wsX6_back := goodIn_r _ [75, 10, 9, 83, 84, 85, 86, 87, 88, 89, 90, 91, 92, 93] (by decide +kernel) (by decide +kernel)
set_option maxRecDepth 20000 in
theorem gX6_read_X6_back : GoodIn wsX6_read (wsV RX6 142 RX6 yX6_back wsX6_back) := goodIn_app (goodIn_of _ (by decide +kernel)) ggX6_read_X6_back
set_option maxRecDepth 20000 in
theorem ggX6_read_X6_record : GoodIn wsX6_read wsX6_record := goodIn_r _ [79, 80, 81, 9, 82, 83, 84, 85, 86, 87, 88, 89, 90, 91, 92, 93] (by decide +kernel) (by decide +kernel)
set_option maxRecDepth 20000 in
theorem gX6_read_X6_record : GoodIn wsX6_read (wsV RX6 42 RX6 yX6_record wsX6_record) := goodIn_app (goodIn_of _ (by decide +kernel)) ggX6_read_X6_record
theorem dX6_read_0 : decode cX6_read 0 = .ok (.aload_n 0, 1) := by decide +kernel
theorem dX6_read_1 : decode cX6_read 1 = .ok (.invokevirtual 39, 3) := by decide +kernel
theorem dX6_read_4 : decode cX6_read 4 = .ok (.aload_n 0, 1) := by decide +kernel
theorem dX6_read_5 : decode cX6_read 5 = .ok (.iconst 0, 1) := by decide +kernel
theorem dX6_read_6 : decode cX6_read 6 = .ok (.putfield 114, 3) := by decide +kernel
theorem dX6_read_9 : decode cX6_read 9 = .ok (.iconst 0, 1) := by decide +kernel
theorem dX6_read_10 : decode cX6_read 10 = .ok (.istore_n 1, 1) := by decide +kernel
theorem dX6_read_11 : decode cX6_read 11 = .ok (.aload_n 0, 1) := by decide +kernel
theorem dX6_read_12 : decode cX6_read 12 = .ok (.invokevirtual 120, 3) := by decide +kernel
theorem dX6_read_15 : decode cX6_read 15 = .ok (.ifCond .eq 29, 3) := by decide +kernel
theorem dX6_read_18 : decode cX6_read 18 = .ok (.aload_n 0, 1) := by decide +kernel
theorem dX6_read_19 : decode cX6_read 19 = .ok (.invokevirtual 138, 3) := by decide +kernel
theorem dX6_read_22 : decode cX6_read 22 = .ok (.ifCond .ne 16, 3) := by decide +kernel
theorem dX6_read_25 : decode cX6_read 25 = .ok (.aload_n 0, 1) := by decide +kernel
theorem dX6_read_26 : decode cX6_read 26 = .ok (.invokevirtual 142, 3) := by decide +kernel
theorem dX6_read_29 : decode cX6_read 29 = .ok (.sipush (-1000), 3) := by decide +kernel
theorem dX6_read_32 : decode cX6_read 32 = .ok (.aload_n 0, 1) := by decide +kernel
theorem dX6_read_33 : decode cX6_read 33 = .ok (.getfield 117, 3) := by decide +kernel
theorem dX6_read_36 : decode cX6_read 36 = .ok (.isub, 1) := by decide +kernel
theorem dX6_read_37 : decode cX6_read 37 = .ok (.ireturn, 1) := by decide +kernel
theorem dX6_read_38 : decode cX6_read 38 = .ok (.iinc 1 1, 3) := by decide +kernel
theorem dX6_read_41 : decode cX6_read 41 = .ok (.goto (-30), 3) := by decide +kernel
theorem dX6_read_44 : decode cX6_read 44 = .ok (.aload_n 0, 1) := by decide +kernel
theorem dX6_read_45 : decode cX6_read 45 = .ok (.invokevirtual 42, 3) := by decide +kernel
theorem dX6_read_48 : decode cX6_read 48 = .ok (.aload_n 0, 1) := by decide +kernel
theorem dX6_read_49 : decode cX6_read 49 = .ok (.iconst 0, 1) := by decide +kernel
theorem dX6_read_50 : decode cX6_read 50 = .ok (.putfield 111, 3) := by decide +kernel
theorem dX6_read_53 : decode cX6_read 53 = .ok (.iload_n 1, 1) := by decide +kernel
theorem dX6_read_54 : decode cX6_read 54 = .ok (.ireturn, 1) := by decide +kernel
