theorem dX6_init_0 : decode cX6_init 0 = .ok (.aload_n 0, 1) := by decide +kernel
theorem dX6_init_1 : decode cX6_init 1 = .ok (.invokespecial 1, 3) := by decide +kernel
theorem dX6_init_4 : decode cX6_init 4 = .ok (.aload_n 0, 1) := by decide +kernel
theorem dX6_init_5 : decode cX6_init 5 = .ok (.sipush 481, 3) := by decide +kernel
theorem dX6_init_8 : decode cX6_init 8 = .ok (.newarray .int, 2) := by decide +kernel
theorem dX6_init_10 : decode cX6_init 10 = .ok (.putfield 7, 3) := by decide +kernel
theorem dX6_init_13 : decode cX6_init 13 = .ok (.aload_n 0, 1) := by decide +kernel
theorem dX6_init_14 : decode cX6_init 14 = .ok (.sipush 481, 3) := by decide +kernel
theorem dX6_init_17 : decode cX6_init 17 = .ok (.newarray .int, 2) := by decide +kernel
theorem dX6_init_19 : decode cX6_init 19 = .ok (.putfield 13, 3) := by decide +kernel
theorem dX6_init_22 : decode cX6_init 22 = .ok (.aload_n 0, 1) := by decide +kernel
theorem dX6_init_23 : decode cX6_init 23 = .ok (.sipush 2405, 3) := by decide +kernel
theorem dX6_init_26 : decode cX6_init 26 = .ok (.newarray .int, 2) := by decide +kernel
theorem dX6_init_28 : decode cX6_init 28 = .ok (.putfield 16, 3) := by decide +kernel
theorem dX6_init_31 : decode cX6_init 31 = .ok (.aload_n 0, 1) := by decide +kernel
theorem dX6_init_32 : decode cX6_init 32 = .ok (.sipush 800, 3) := by decide +kernel
theorem dX6_init_35 : decode cX6_init 35 = .ok (.newarray .int, 2) := by decide +kernel
theorem dX6_init_37 : decode cX6_init 37 = .ok (.putfield 19, 3) := by decide +kernel
theorem dX6_init_40 : decode cX6_init 40 = .ok (.aload_n 0, 1) := by decide +kernel
theorem dX6_init_41 : decode cX6_init 41 = .ok (.sipush 800, 3) := by decide +kernel
theorem dX6_init_44 : decode cX6_init 44 = .ok (.newarray .int, 2) := by decide +kernel
theorem dX6_init_46 : decode cX6_init 46 = .ok (.putfield 22, 3) := by decide +kernel
theorem dX6_init_49 : decode cX6_init 49 = .ok (.aload_n 0, 1) := by decide +kernel
theorem dX6_init_50 : decode cX6_init 50 = .ok (.bipush 100, 2) := by decide +kernel
theorem dX6_init_52 : decode cX6_init 52 = .ok (.newarray .int, 2) := by decide +kernel
theorem dX6_init_54 : decode cX6_init 54 = .ok (.putfield 25, 3) := by decide +kernel
theorem dX6_init_57 : decode cX6_init 57 = .ok (.iconst 0, 1) := by decide +kernel
theorem dX6_init_58 : decode cX6_init 58 = .ok (.istore_n 1, 1) := by decide +kernel
theorem dX6_init_59 : decode cX6_init 59 = .ok (.iload_n 1, 1) := by decide +kernel
theorem dX6_init_60 : decode cX6_init 60 = .ok (.bipush 24, 2) := by decide +kernel
theorem dX6_init_62 : decode cX6_init 62 = .ok (.if_icmp .ge 20, 3) := by decide +kernel
theorem dX6_init_65 : decode cX6_init 65 = .ok (.aload_n 0, 1) := by decide +kernel
theorem dX6_init_66 : decode cX6_init 66 = .ok (.getfield 7, 3) := by decide +kernel
theorem dX6_init_69 : decode cX6_init 69 = .ok (.sipush 457, 3) := by decide +kernel
theorem dX6_init_72 : decode cX6_init 72 = .ok (.iload_n 1, 1) := by decide +kernel
theorem dX6_init_73 : decode cX6_init 73 = .ok (.iadd, 1) := by decide +kernel
theorem dX6_init_74 : decode cX6_init 74 = .ok (.iconst (-1), 1) := by decide +kernel
theorem dX6_init_75 : decode cX6_init 75 = .ok (.iastore, 1) := by decide +kernel
theorem dX6_init_76 : decode cX6_init 76 = .ok (.iinc 1 1, 3) := by decide +kernel
theorem dX6_init_79 : decode cX6_init 79 = .ok (.goto (-20), 3) := by decide +kernel
theorem dX6_init_82 : decode cX6_init 82 = .ok (.return_, 1) := by decide +kernel
theorem dX6_in_0 : decode cX6_in 0 = .ok (.iload_n 0, 1) := by decide +kernel
theorem dX6_in_1 : decode cX6_in 1 = .ok (.iload_n 1, 1) := by decide +kernel
theorem dX6_in_2 : decode cX6_in 2 = .ok (.if_icmp .lt 12, 3) := by decide +kernel
theorem dX6_in_5 : decode cX6_in 5 = .ok (.iload_n 0, 1) := by decide +kernel
theorem dX6_in_6 : decode cX6_in 6 = .ok (.iload_n 2, 1) := by decide +kernel
theorem dX6_in_7 : decode cX6_in 7 = .ok (.if_icmp .gt 7, 3) := by decide +kernel
theorem dX6_in_10 : decode cX6_in 10 = .ok (.iconst 1, 1) := by decide +kernel
theorem dX6_in_11 : decode cX6_in 11 = .ok (.goto 4, 3) := by decide +kernel
theorem dX6_in_14 : decode cX6_in 14 = .ok (.iconst 0, 1) := by decide +kernel
theorem dX6_in_15 : decode cX6_in 15 = .ok (.ireturn, 1) := by decide +kernel
theorem dX6_bits_0 : decode cX6_bits 0 = .ok (.iconst 0, 1) := by decide +kernel
theorem dX6_bits_1 : decode cX6_bits 1 = .ok (.istore_n 1, 1) := by decide +kernel
theorem dX6_bits_2 : decode cX6_bits 2 = .ok (.iload_n 0, 1) := by decide +kernel
theorem dX6_bits_3 : decode cX6_bits 3 = .ok (.istore_n 2, 1) := by decide +kernel
theorem dX6_bits_4 : decode cX6_bits 4 = .ok (.iload_n 2, 1) := by decide +kernel
theorem dX6_bits_5 : decode cX6_bits 5 = .ok (.ifCond .eq 15, 3) := by decide +kernel
theorem dX6_bits_8 : decode cX6_bits 8 = .ok (.iinc 1 1, 3) := by decide +kernel
theorem dX6_bits_11 : decode cX6_bits 11 = .ok (.iload_n 2, 1) := by decide +kernel
theorem dX6_bits_12 : decode cX6_bits 12 = .ok (.iload_n 2, 1) := by decide +kernel
theorem dX6_bits_13 : decode cX6_bits 13 = .ok (.iconst 1, 1) := by decide +kernel
theorem dX6_bits_14 : decode cX6_bits 14 = .ok (.isub, 1) := by decide +kernel
theorem dX6_bits_15 : decode cX6_bits 15 = .ok (.iand, 1) := by decide +kernel
theorem dX6_bits_16 : decode cX6_bits 16 = .ok (.istore_n 2, 1) := by decide +kernel
theorem dX6_bits_17 : decode cX6_bits 17 = .ok (.goto (-13), 3) := by decide +kernel
theorem dX6_bits_20 : decode cX6_bits 20 = .ok (.iload_n 1, 1) := by decide +kernel
theorem dX6_bits_21 : decode cX6_bits 21 = .ok (.ireturn, 1) := by decide +kernel
theorem dX6_has_0 : decode cX6_has 0 = .ok (.iload_n 0, 1) := by decide +kernel
theorem dX6_has_1 : decode cX6_has 1 = .ok (.iload_n 1, 1) := by decide +kernel
theorem dX6_has_2 : decode cX6_has 2 = .ok (.ishr, 1) := by decide +kernel
theorem dX6_has_3 : decode cX6_has 3 = .ok (.iconst 1, 1) := by decide +kernel
theorem dX6_has_4 : decode cX6_has 4 = .ok (.iand, 1) := by decide +kernel
theorem dX6_has_5 : decode cX6_has 5 = .ok (.iconst 1, 1) := by decide +kernel
theorem dX6_has_6 : decode cX6_has 6 = .ok (.if_icmp .ne 7, 3) := by decide +kernel
theorem dX6_has_9 : decode cX6_has 9 = .ok (.iconst 1, 1) := by decide +kernel
theorem dX6_has_10 : decode cX6_has 10 = .ok (.goto 4, 3) := by decide +kernel
theorem dX6_has_13 : decode cX6_has 13 = .ok (.iconst 0, 1) := by decide +kernel
theorem dX6_has_14 : decode cX6_has 14 = .ok (.ireturn, 1) := by decide +kernel
set_option maxRecDepth 20000 in
theorem ggX6_isRow_X6_in : GoodIn wsX6_isRow wsX6_in := goodIn_r _ [5] (by decide +kernel) (by decide +kernel)
set_option maxRecDepth 20000 in
theorem gX6_isRow_X6_in : GoodIn wsX6_isRow (va_wsS RX6 28 yX6_in wsX6_in) := goodIn_app (goodIn_of _ (by decide +kernel)) ggX6_isRow_X6_in
theorem dX6_isRow_0 : decode cX6_isRow 0 = .ok (.iload_n 1, 1) := by decide +kernel
theorem dX6_isRow_1 : decode cX6_isRow 1 = .ok (.iconst 0, 1) := by decide +kernel
theorem dX6_isRow_2 : decode cX6_isRow 2 = .ok (.aload_n 0, 1) := by decide +kernel
theorem dX6_isRow_3 : decode cX6_isRow 3 = .ok (.getfield 7, 3) := by decide +kernel
theorem dX6_isRow_6 : decode cX6_isRow 6 = .ok (.iconst 0, 1) := by decide +kernel
theorem dX6_isRow_7 : decode cX6_isRow 7 = .ok (.iaload, 1) := by decide +kernel
theorem dX6_isRow_8 : decode cX6_isRow 8 = .ok (.iconst 1, 1) := by decide +kernel
theorem dX6_isRow_9 : decode cX6_isRow 9 = .ok (.isub, 1) := by decide +kernel
theorem dX6_isRow_10 : decode cX6_isRow 10 = .ok (.invokestatic 28, 3) := by decide +kernel
theorem dX6_isRow_13 : decode cX6_isRow 13 = .ok (.ireturn, 1) := by decide +kernel
theorem dX6_copy_0 : decode cX6_copy 0 = .ok (.iconst 0, 1) := by decide +kernel
theorem dX6_copy_1 : decode cX6_copy 1 = .ok (.istore_n 1, 1) := by decide +kernel
theorem dX6_copy_2 : decode cX6_copy 2 = .ok (.iload_n 1, 1) := by decide +kernel
theorem dX6_copy_3 : decode cX6_copy 3 = .ok (.sipush 481, 3) := by decide +kernel
theorem dX6_copy_6 : decode cX6_copy 6 = .ok (.if_icmp .ge 21, 3) := by decide +kernel
theorem dX6_copy_9 : decode cX6_copy 9 = .ok (.aload_n 0, 1) := by decide +kernel
theorem dX6_copy_10 : decode cX6_copy 10 = .ok (.getfield 13, 3) := by decide +kernel
theorem dX6_copy_13 : decode cX6_copy 13 = .ok (.iload_n 1, 1) := by decide +kernel
theorem dX6_copy_14 : decode cX6_copy 14 = .ok (.aload_n 0, 1) := by decide +kernel
theorem dX6_copy_15 : decode cX6_copy 15 = .ok (.getfield 7, 3) := by decide +kernel
theorem dX6_copy_18 : decode cX6_copy 18 = .ok (.iload_n 1, 1) := by decide +kernel
theorem dX6_copy_19 : decode cX6_copy 19 = .ok (.iaload, 1) := by decide +kernel
theorem dX6_copy_20 : decode cX6_copy 20 = .ok (.iastore, 1) := by decide +kernel
theorem dX6_copy_21 : decode cX6_copy 21 = .ok (.iinc 1 1, 3) := by decide +kernel
theorem dX6_copy_24 : decode cX6_copy 24 = .ok (.goto (-22), 3) := by decide +kernel
theorem dX6_copy_27 : decode cX6_copy 27 = .ok (.return_, 1) := by decide +kernel
theorem dX6_back_0 : decode cX6_back 0 = .ok (.iconst 0, 1) := by decide +kernel
theorem dX6_back_1 : decode cX6_back 1 = .ok (.istore_n 1, 1) := by decide +kernel
theorem dX6_back_2 : decode cX6_back 2 = .ok (.iload_n 1, 1) := by decide +kernel
theorem dX6_back_3 : decode cX6_back 3 = .ok (.sipush 481, 3) := by decide +kernel
theorem dX6_back_6 : decode cX6_back 6 = .ok (.if_icmp .ge 21, 3) := by decide +kernel
theorem dX6_back_9 : decode cX6_back 9 = .ok (.aload_n 0, 1) := by decide +kernel
theorem dX6_back_10 : decode cX6_back 10 = .ok (.getfield 7, 3) := by decide +kernel
theorem dX6_back_13 : decode cX6_back 13 = .ok (.iload_n 1, 1) := by decide +kernel
theorem dX6_back_14 : decode cX6_back 14 = .ok (.aload_n 0, 1) := by decide +kernel
theorem dX6_back_15 : decode cX6_back 15 = .ok (.getfield 13, 3) := by decide +kernel
theorem dX6_back_18 : decode cX6_back 18 = .ok (.iload_n 1, 1) := by decide +kernel
theorem dX6_back_19 : decode cX6_back 19 = .ok (.iaload, 1) := by decide +kernel
theorem dX6_back_20 : decode cX6_back 20 = .ok (.iastore, 1) := by decide +kernel
theorem dX6_back_21 : decode cX6_back 21 = .ok (.iinc 1 1, 3) := by decide +kernel
theorem dX6_back_24 : decode cX6_back 24 = .ok (.goto (-22), 3) := by decide +kernel
theorem dX6_back_27 : decode cX6_back 27 = .ok (.return_, 1) := by decide +kernel
theorem dX6_record_0 : decode cX6_record 0 = .ok (.iconst 0, 1) := by decide +kernel
theorem dX6_record_1 : decode cX6_record 1 = .ok (.istore_n 1, 1) := by decide +kernel
theorem dX6_record_2 : decode cX6_record 2 = .ok (.iload_n 1, 1) := by decide +kernel
theorem dX6_record_3 : decode cX6_record 3 = .ok (.sipush 481, 3) := by decide +kernel
theorem dX6_record_6 : decode cX6_record 6 = .ok (.if_icmp .ge 30, 3) := by decide +kernel
theorem dX6_record_9 : decode cX6_record 9 = .ok (.aload_n 0, 1) := by decide +kernel
theorem dX6_record_10 : decode cX6_record 10 = .ok (.getfield 16, 3) := by decide +kernel
theorem dX6_record_13 : decode cX6_record 13 = .ok (.sipush 481, 3) := by decide +kernel
theorem dX6_record_16 : decode cX6_record 16 = .ok (.aload_n 0, 1) := by decide +kernel
theorem dX6_record_17 : decode cX6_record 17 = .ok (.getfield 32, 3) := by decide +kernel
theorem dX6_record_20 : decode cX6_record 20 = .ok (.imul, 1) := by decide +kernel
theorem dX6_record_21 : decode cX6_record 21 = .ok (.iload_n 1, 1) := by decide +kernel
theorem dX6_record_22 : decode cX6_record 22 = .ok (.iadd, 1) := by decide +kernel
theorem dX6_record_23 : decode cX6_record 23 = .ok (.aload_n 0, 1) := by decide +kernel
theorem dX6_record_24 : decode cX6_record 24 = .ok (.getfield 13, 3) := by decide +kernel
theorem dX6_record_27 : decode cX6_record 27 = .ok (.iload_n 1, 1) := by decide +kernel
theorem dX6_record_28 : decode cX6_record 28 = .ok (.iaload, 1) := by decide +kernel
theorem dX6_record_29 : decode cX6_record 29 = .ok (.iastore, 1) := by decide +kernel
theorem dX6_record_30 : decode cX6_record 30 = .ok (.iinc 1 1, 3) := by decide +kernel
theorem dX6_record_33 : decode cX6_record 33 = .ok (.goto (-31), 3) := by decide +kernel
theorem dX6_record_36 : decode cX6_record 36 = .ok (.aload_n 0, 1) := by decide +kernel
theorem dX6_record_37 : decode cX6_record 37 = .ok (.aload_n 0, 1) := by decide +kernel
theorem dX6_record_38 : decode cX6_record 38 = .ok (.getfield 32, 3) := by decide +kernel
theorem dX6_record_41 : decode cX6_record 41 = .ok (.iconst 1, 1) := by decide +kernel
theorem dX6_record_42 : decode cX6_record 42 = .ok (.iadd, 1) := by decide +kernel
theorem dX6_record_43 : decode cX6_record 43 = .ok (.iconst 5, 1) := by decide +kernel
theorem dX6_record_44 : decode cX6_record 44 = .ok (.irem, 1) := by decide +kernel
theorem dX6_record_45 : decode cX6_record 45 = .ok (.putfield 32, 3) := by decide +kernel
theorem dX6_record_48 : decode cX6_record 48 = .ok (.aload_n 0, 1) := by decide +kernel
theorem dX6_record_49 : decode cX6_record 49 = .ok (.aload_n 0, 1) := by decide +kernel
theorem dX6_record_50 : decode cX6_record 50 = .ok (.getfield 36, 3) := by decide +kernel
theorem dX6_record_53 : decode cX6_record 53 = .ok (.iconst 5, 1) := by decide +kernel
theorem dX6_record_54 : decode cX6_record 54 = .ok (.if_icmp .ge 12, 3) := by decide +kernel
theorem dX6_record_57 : decode cX6_record 57 = .ok (.aload_n 0, 1) := by decide +kernel
theorem dX6_record_58 : decode cX6_record 58 = .ok (.getfield 36, 3) := by decide +kernel
theorem dX6_record_61 : decode cX6_record 61 = .ok (.iconst 1, 1) := by decide +kernel
theorem dX6_record_62 : decode cX6_record 62 = .ok (.iadd, 1) := by decide +kernel
theorem dX6_record_63 : decode cX6_record 63 = .ok (.goto 4, 3) := by decide +kernel
theorem dX6_record_66 : decode cX6_record 66 = .ok (.iconst 5, 1) := by decide +kernel
theorem dX6_record_67 : decode cX6_record 67 = .ok (.putfield 36, 3) := by decide +kernel
theorem dX6_record_70 : decode cX6_record 70 = .ok (.return_, 1) := by decide +kernel
set_option maxRecDepth 20000 in
theorem ggX6_remember_X6_copy : GoodIn wsX6_remember wsX6_copy := goodIn_r _ [5, 6, 7, 15, 16, 17, 18, 19, 20, 21, 22, 23, 24, 25] (by decide +kernel) (by decide +kernel)
set_option maxRecDepth 20000 in
theorem gX6_remember_X6_copy : GoodIn wsX6_remember (wsV RX6 39 RX6 yX6_copy wsX6_copy) := goodIn_app (goodIn_of _ (by decide +kernel)) ggX6_remember_X6_copy
set_option maxRecDepth 20000 in
theorem ggX6_remember_X6_record : GoodIn wsX6_remember wsX6_record := goodIn_r _ [11, 12, 13, 6, 14, 15, 16, 17, 18, 19, 20, 21, 22, 23, 24, 25] (by decide +kernel) (by decide +kernel)
set_option maxRecDepth 20000 in
theorem gX6_remember_X6_record : GoodIn wsX6_remember (wsV RX6 42 RX6 yX6_record wsX6_record) := goodIn_app (goodIn_of _ (by decide +kernel)) ggX6_remember_X6_record
theorem dX6_remember_0 : decode cX6_remember 0 = .ok (.aload_n 0, 1) := by decide +kernel
theorem dX6_remember_1 : decode cX6_remember 1 = .ok (.invokevirtual 39, 3) := by decide +kernel
theorem dX6_remember_4 : decode cX6_remember 4 = .ok (.aload_n 0, 1) := by decide +kernel
theorem dX6_remember_5 : decode cX6_remember 5 = .ok (.invokevirtual 42, 3) := by decide +kernel
theorem dX6_remember_8 : decode cX6_remember 8 = .ok (.return_, 1) := by decide +kernel
theorem dX6_undo_0 : decode cX6_undo 0 = .ok (.aload_n 0, 1) := by decide +kernel
theorem dX6_undo_1 : decode cX6_undo 1 = .ok (.getfield 36, 3) := by decide +kernel
theorem dX6_undo_4 : decode cX6_undo 4 = .ok (.ifCond .ne 6, 3) := by decide +kernel
theorem dX6_undo_7 : decode cX6_undo 7 = .ok (.bipush (-2), 2) := by decide +kernel
theorem dX6_undo_9 : decode cX6_undo 9 = .ok (.ireturn, 1) := by decide +kernel
theorem dX6_undo_10 : decode cX6_undo 10 = .ok (.aload_n 0, 1) := by decide +kernel
theorem dX6_undo_11 : decode cX6_undo 11 = .ok (.aload_n 0, 1) := by decide +kernel
theorem dX6_undo_12 : decode cX6_undo 12 = .ok (.getfield 32, 3) := by decide +kernel
theorem dX6_undo_15 : decode cX6_undo 15 = .ok (.iconst 5, 1) := by decide +kernel
theorem dX6_undo_16 : decode cX6_undo 16 = .ok (.iadd, 1) := by decide +kernel
theorem dX6_undo_17 : decode cX6_undo 17 = .ok (.iconst 1, 1) := by decide +kernel
theorem dX6_undo_18 : decode cX6_undo 18 = .ok (.isub, 1) := by decide +kernel
theorem dX6_undo_19 : decode cX6_undo 19 = .ok (.iconst 5, 1) := by decide +kernel
theorem dX6_undo_20 : decode cX6_undo 20 = .ok (.irem, 1) := by decide +kernel
theorem dX6_undo_21 : decode cX6_undo 21 = .ok (.putfield 32, 3) := by decide +kernel
theorem dX6_undo_24 : decode cX6_undo 24 = .ok (.aload_n 0, 1) := by decide +kernel
theorem dX6_undo_25 : decode cX6_undo 25 = .ok (.dup, 1) := by decide +kernel
theorem dX6_undo_26 : decode cX6_undo 26 = .ok (.getfield 36, 3) := by decide +kernel
theorem dX6_undo_29 : decode cX6_undo 29 = .ok (.iconst 1, 1) := by decide +kernel
theorem dX6_undo_30 : decode cX6_undo 30 = .ok (.isub, 1) := by decide +kernel
theorem dX6_undo_31 : decode cX6_undo 31 = .ok (.putfield 36, 3) := by decide +kernel
theorem dX6_undo_34 : decode cX6_undo 34 = .ok (.iconst 0, 1) := by decide +kernel
theorem dX6_undo_35 : decode cX6_undo 35 = .ok (.istore_n 1, 1) := by decide +kernel
theorem dX6_undo_36 : decode cX6_undo 36 = .ok (.iload_n 1, 1) := by decide +kernel
theorem dX6_undo_37 : decode cX6_undo 37 = .ok (.sipush 481, 3) := by decide +kernel
theorem dX6_undo_40 : decode cX6_undo 40 = .ok (.if_icmp .ge 30, 3) := by decide +kernel
theorem dX6_undo_43 : decode cX6_undo 43 = .ok (.aload_n 0, 1) := by decide +kernel
theorem dX6_undo_44 : decode cX6_undo 44 = .ok (.getfield 7, 3) := by decide +kernel
theorem dX6_undo_47 : decode cX6_undo 47 = .ok (.iload_n 1, 1) := by decide +kernel
theorem dX6_undo_48 : decode cX6_undo 48 = .ok (.aload_n 0, 1) := by decide +kernel
theorem dX6_undo_49 : decode cX6_undo 49 = .ok (.getfield 16, 3) := by decide +kernel
theorem dX6_undo_52 : decode cX6_undo 52 = .ok (.sipush 481, 3) := by decide +kernel
theorem dX6_undo_55 : decode cX6_undo 55 = .ok (.aload_n 0, 1) := by decide +kernel
theorem dX6_undo_56 : decode cX6_undo 56 = .ok (.getfield 32, 3) := by decide +kernel
theorem dX6_undo_59 : decode cX6_undo 59 = .ok (.imul, 1) := by decide +kernel
theorem dX6_undo_60 : decode cX6_undo 60 = .ok (.iload_n 1, 1) := by decide +kernel
theorem dX6_undo_61 : decode cX6_undo 61 = .ok (.iadd, 1) := by decide +kernel
theorem dX6_undo_62 : decode cX6_undo 62 = .ok (.iaload, 1) := by decide +kernel
theorem dX6_undo_63 : decode cX6_undo 63 = .ok (.iastore, 1) := by decide +kernel
theorem dX6_undo_64 : decode cX6_undo 64 = .ok (.iinc 1 1, 3) := by decide +kernel
theorem dX6_undo_67 : decode cX6_undo 67 = .ok (.goto (-31), 3) := by decide +kernel
theorem dX6_undo_70 : decode cX6_undo 70 = .ok (.aload_n 0, 1) := by decide +kernel
theorem dX6_undo_71 : decode cX6_undo 71 = .ok (.getfield 36, 3) := by decide +kernel
theorem dX6_undo_74 : decode cX6_undo 74 = .ok (.ireturn, 1) := by decide +kernel
theorem dX6_entries_0 : decode cX6_entries 0 = .ok (.aload_n 0, 1) := by decide +kernel
theorem dX6_entries_1 : decode cX6_entries 1 = .ok (.getfield 7, 3) := by decide +kernel
theorem dX6_entries_4 : decode cX6_entries 4 = .ok (.bipush 25, 2) := by decide +kernel
theorem dX6_entries_6 : decode cX6_entries 6 = .ok (.iload_n 1, 1) := by decide +kernel
theorem dX6_entries_7 : decode cX6_entries 7 = .ok (.iadd, 1) := by decide +kernel
theorem dX6_entries_8 : decode cX6_entries 8 = .ok (.iaload, 1) := by decide +kernel
theorem dX6_entries_9 : decode cX6_entries 9 = .ok (.ireturn, 1) := by decide +kernel
set_option maxRecDepth 20000 in
theorem ggX6_valueOf_X6_entries : GoodIn wsX6_valueOf wsX6_entries := goodIn_r _ [6, 1, 10, 11, 12, 13, 14, 15, 16, 17, 18, 19, 20] (by decide +kernel) (by decide +kernel)
set_option maxRecDepth 20000 in
theorem gX6_valueOf_X6_entries : GoodIn wsX6_valueOf (wsV RX6 45 RX6 yX6_entries wsX6_entries) := goodIn_app (goodIn_of _ (by decide +kernel)) ggX6_valueOf_X6_entries
set_option maxRecDepth 20000 in
theorem ggX6_valueOf_X6_has : GoodIn wsX6_valueOf wsX6_has := goodIn_r _ [9] (by decide +kernel) (by decide +kernel)
set_option maxRecDepth 20000 in
theorem gX6_valueOf_X6_has : GoodIn wsX6_valueOf (va_wsS RX6 49 yX6_has wsX6_has) := goodIn_app (goodIn_of _ (by decide +kernel)) ggX6_valueOf_X6_has
theorem dX6_valueOf_0 : decode cX6_valueOf 0 = .ok (.aload_n 0, 1) := by decide +kernel
theorem dX6_valueOf_1 : decode cX6_valueOf 1 = .ok (.iload_n 1, 1) := by decide +kernel
theorem dX6_valueOf_2 : decode cX6_valueOf 2 = .ok (.invokevirtual 45, 3) := by decide +kernel
theorem dX6_valueOf_5 : decode cX6_valueOf 5 = .ok (.iload_n 2, 1) := by decide +kernel
theorem dX6_valueOf_6 : decode cX6_valueOf 6 = .ok (.invokestatic 49, 3) := by decide +kernel
theorem dX6_valueOf_9 : decode cX6_valueOf 9 = .ok (.ifCond .eq 20, 3) := by decide +kernel
theorem dX6_valueOf_12 : decode cX6_valueOf 12 = .ok (.aload_n 0, 1) := by decide +kernel
theorem dX6_valueOf_13 : decode cX6_valueOf 13 = .ok (.getfield 7, 3) := by decide +kernel
theorem dX6_valueOf_16 : decode cX6_valueOf 16 = .ok (.bipush 73, 2) := by decide +kernel
theorem dX6_valueOf_18 : decode cX6_valueOf 18 = .ok (.bipush 16, 2) := by decide +kernel
theorem dX6_valueOf_20 : decode cX6_valueOf 20 = .ok (.iload_n 1, 1) := by decide +kernel
theorem dX6_valueOf_21 : decode cX6_valueOf 21 = .ok (.imul, 1) := by decide +kernel
theorem dX6_valueOf_22 : decode cX6_valueOf 22 = .ok (.iadd, 1) := by decide +kernel
theorem dX6_valueOf_23 : decode cX6_valueOf 23 = .ok (.iload_n 2, 1) := by decide +kernel
theorem dX6_valueOf_24 : decode cX6_valueOf 24 = .ok (.iadd, 1) := by decide +kernel
theorem dX6_valueOf_25 : decode cX6_valueOf 25 = .ok (.iaload, 1) := by decide +kernel
theorem dX6_valueOf_26 : decode cX6_valueOf 26 = .ok (.goto 11, 3) := by decide +kernel
theorem dX6_valueOf_29 : decode cX6_valueOf 29 = .ok (.aload_n 0, 1) := by decide +kernel
theorem dX6_valueOf_30 : decode cX6_valueOf 30 = .ok (.getfield 7, 3) := by decide +kernel
theorem dX6_valueOf_33 : decode cX6_valueOf 33 = .ok (.iconst 1, 1) := by decide +kernel
theorem dX6_valueOf_34 : decode cX6_valueOf 34 = .ok (.iload_n 1, 1) := by decide +kernel
theorem dX6_valueOf_35 : decode cX6_valueOf 35 = .ok (.iadd, 1) := by decide +kernel
theorem dX6_valueOf_36 : decode cX6_valueOf 36 = .ok (.iaload, 1) := by decide +kernel
theorem dX6_valueOf_37 : decode cX6_valueOf 37 = .ok (.ireturn, 1) := by decide +kernel
set_option maxRecDepth 20000 in
theorem ggX6_areAlike_X6_entries : GoodIn wsX6_areAlike wsX6_entries := goodIn_r _ [6, 1, 10, 11, 12, 13, 14, 15, 16, 17, 18, 19, 20] (by decide +kernel) (by decide +kernel)
set_option maxRecDepth 20000 in
theorem gX6_areAlike_X6_entries : GoodIn wsX6_areAlike (wsV RX6 45 RX6 yX6_entries wsX6_entries) := goodIn_app (goodIn_of _ (by decide +kernel)) ggX6_areAlike_X6_entries
set_option maxRecDepth 20000 in
theorem ggX6_areAlike_X6_has : GoodIn wsX6_areAlike wsX6_has := goodIn_r _ [9] (by decide +kernel) (by decide +kernel)
set_option maxRecDepth 20000 in
theorem gX6_areAlike_X6_has : GoodIn wsX6_areAlike (va_wsS RX6 49 yX6_has wsX6_has) := goodIn_app (goodIn_of _ (by decide +kernel)) ggX6_areAlike_X6_has
theorem dX6_areAlike_0 : decode cX6_areAlike 0 = .ok (.aload_n 0, 1) := by decide +kernel
theorem dX6_areAlike_1 : decode cX6_areAlike 1 = .ok (.iload_n 1, 1) := by decide +kernel
theorem dX6_areAlike_2 : decode cX6_areAlike 2 = .ok (.invokevirtual 45, 3) := by decide +kernel
theorem dX6_areAlike_5 : decode cX6_areAlike 5 = .ok (.aload_n 0, 1) := by decide +kernel
theorem dX6_areAlike_6 : decode cX6_areAlike 6 = .ok (.iload_n 2, 1) := by decide +kernel
theorem dX6_areAlike_7 : decode cX6_areAlike 7 = .ok (.invokevirtual 45, 3) := by decide +kernel
theorem dX6_areAlike_10 : decode cX6_areAlike 10 = .ok (.if_icmp .ne 7, 3) := by decide +kernel
theorem dX6_areAlike_13 : decode cX6_areAlike 13 = .ok (.iconst 1, 1) := by decide +kernel
theorem dX6_areAlike_14 : decode cX6_areAlike 14 = .ok (.goto 4, 3) := by decide +kernel
theorem dX6_areAlike_17 : decode cX6_areAlike 17 = .ok (.iconst 0, 1) := by decide +kernel
theorem dX6_areAlike_18 : decode cX6_areAlike 18 = .ok (.istore_n 3, 1) := by decide +kernel
theorem dX6_areAlike_19 : decode cX6_areAlike 19 = .ok (.iconst 0, 1) := by decide +kernel
theorem dX6_areAlike_20 : decode cX6_areAlike 20 = .ok (.istore 4, 2) := by decide +kernel
theorem dX6_areAlike_22 : decode cX6_areAlike 22 = .ok (.iload 4, 2) := by decide +kernel
theorem dX6_areAlike_24 : decode cX6_areAlike 24 = .ok (.bipush 16, 2) := by decide +kernel
theorem dX6_areAlike_26 : decode cX6_areAlike 26 = .ok (.if_icmp .ge 65, 3) := by decide +kernel
theorem dX6_areAlike_29 : decode cX6_areAlike 29 = .ok (.iload_n 3, 1) := by decide +kernel
theorem dX6_areAlike_30 : decode cX6_areAlike 30 = .ok (.ifCond .eq 61, 3) := by decide +kernel
theorem dX6_areAlike_33 : decode cX6_areAlike 33 = .ok (.aload_n 0, 1) := by decide +kernel
theorem dX6_areAlike_34 : decode cX6_areAlike 34 = .ok (.iload_n 1, 1) := by decide +kernel
theorem dX6_areAlike_35 : decode cX6_areAlike 35 = .ok (.invokevirtual 45, 3) := by decide +kernel
theorem dX6_areAlike_38 : decode cX6_areAlike 38 = .ok (.iload 4, 2) := by decide +kernel
theorem dX6_areAlike_40 : decode cX6_areAlike 40 = .ok (.invokestatic 49, 3) := by decide +kernel
theorem dX6_areAlike_43 : decode cX6_areAlike 43 = .ok (.ifCond .eq 36, 3) := by decide +kernel
theorem dX6_areAlike_46 : decode cX6_areAlike 46 = .ok (.aload_n 0, 1) := by decide +kernel
theorem dX6_areAlike_47 : decode cX6_areAlike 47 = .ok (.getfield 7, 3) := by decide +kernel
theorem dX6_areAlike_50 : decode cX6_areAlike 50 = .ok (.bipush 73, 2) := by decide +kernel
theorem dX6_areAlike_52 : decode cX6_areAlike 52 = .ok (.bipush 16, 2) := by decide +kernel
theorem dX6_areAlike_54 : decode cX6_areAlike 54 = .ok (.iload_n 1, 1) := by decide +kernel
theorem dX6_areAlike_55 : decode cX6_areAlike 55 = .ok (.imul, 1) := by decide +kernel
theorem dX6_areAlike_56 : decode cX6_areAlike 56 = .ok (.iadd, 1) := by decide +kernel
theorem dX6_areAlike_57 : decode cX6_areAlike 57 = .ok (.iload 4, 2) := by decide +kernel
theorem dX6_areAlike_59 : decode cX6_areAlike 59 = .ok (.iadd, 1) := by decide +kernel
theorem dX6_areAlike_60 : decode cX6_areAlike 60 = .ok (.iaload, 1) := by decide +kernel
theorem dX6_areAlike_61 : decode cX6_areAlike 61 = .ok (.aload_n 0, 1) := by decide +kernel
theorem dX6_areAlike_62 : decode cX6_areAlike 62 = .ok (.getfield 7, 3) := by decide +kernel
theorem dX6_areAlike_65 : decode cX6_areAlike 65 = .ok (.bipush 73, 2) := by decide +kernel
theorem dX6_areAlike_67 : decode cX6_areAlike 67 = .ok (.bipush 16, 2) := by decide +kernel
theorem dX6_areAlike_69 : decode cX6_areAlike 69 = .ok (.iload_n 2, 1) := by decide +kernel
theorem dX6_areAlike_70 : decode cX6_areAlike 70 = .ok (.imul, 1) := by decide +kernel
theorem dX6_areAlike_71 : decode cX6_areAlike 71 = .ok (.iadd, 1) := by decide +kernel
theorem dX6_areAlike_72 : decode cX6_areAlike 72 = .ok (.iload 4, 2) := by decide +kernel
theorem dX6_areAlike_74 : decode cX6_areAlike 74 = .ok (.iadd, 1) := by decide +kernel
theorem dX6_areAlike_75 : decode cX6_areAlike 75 = .ok (.iaload, 1) := by decide +kernel
theorem dX6_areAlike_76 : decode cX6_areAlike 76 = .ok (.if_icmp .ne 7, 3) := by decide +kernel
theorem dX6_areAlike_79 : decode cX6_areAlike 79 = .ok (.iconst 1, 1) := by decide +kernel
theorem dX6_areAlike_80 : decode cX6_areAlike 80 = .ok (.goto 4, 3) := by decide +kernel
theorem dX6_areAlike_83 : decode cX6_areAlike 83 = .ok (.iconst 0, 1) := by decide +kernel
theorem dX6_areAlike_84 : decode cX6_areAlike 84 = .ok (.istore_n 3, 1) := by decide +kernel
theorem dX6_areAlike_85 : decode cX6_areAlike 85 = .ok (.iinc 4 1, 3) := by decide +kernel
theorem dX6_areAlike_88 : decode cX6_areAlike 88 = .ok (.goto (-66), 3) := by decide +kernel
theorem dX6_areAlike_91 : decode cX6_areAlike 91 = .ok (.iload_n 3, 1) := by decide +kernel
theorem dX6_areAlike_92 : decode cX6_areAlike 92 = .ok (.ireturn, 1) := by decide +kernel
theorem dX6_sharers_0 : decode cX6_sharers 0 = .ok (.iconst 0, 1) := by decide +kernel
theorem dX6_sharers_1 : decode cX6_sharers 1 = .ok (.istore_n 2, 1) := by decide +kernel
theorem dX6_sharers_2 : decode cX6_sharers 2 = .ok (.iconst 0, 1) := by decide +kernel
theorem dX6_sharers_3 : decode cX6_sharers 3 = .ok (.istore_n 3, 1) := by decide +kernel
theorem dX6_sharers_4 : decode cX6_sharers 4 = .ok (.iload_n 3, 1) := by decide +kernel
theorem dX6_sharers_5 : decode cX6_sharers 5 = .ok (.aload_n 0, 1) := by decide +kernel
theorem dX6_sharers_6 : decode cX6_sharers 6 = .ok (.getfield 7, 3) := by decide +kernel
theorem dX6_sharers_9 : decode cX6_sharers 9 = .ok (.iconst 0, 1) := by decide +kernel
theorem dX6_sharers_10 : decode cX6_sharers 10 = .ok (.iaload, 1) := by decide +kernel
theorem dX6_sharers_11 : decode cX6_sharers 11 = .ok (.if_icmp .ge 30, 3) := by decide +kernel
theorem dX6_sharers_14 : decode cX6_sharers 14 = .ok (.iload_n 2, 1) := by decide +kernel
theorem dX6_sharers_15 : decode cX6_sharers 15 = .ok (.aload_n 0, 1) := by decide +kernel
theorem dX6_sharers_16 : decode cX6_sharers 16 = .ok (.getfield 7, 3) := by decide +kernel
theorem dX6_sharers_19 : decode cX6_sharers 19 = .ok (.bipush 49, 2) := by decide +kernel
theorem dX6_sharers_21 : decode cX6_sharers 21 = .ok (.iload_n 3, 1) := by decide +kernel
theorem dX6_sharers_22 : decode cX6_sharers 22 = .ok (.iadd, 1) := by decide +kernel
theorem dX6_sharers_23 : decode cX6_sharers 23 = .ok (.iaload, 1) := by decide +kernel
theorem dX6_sharers_24 : decode cX6_sharers 24 = .ok (.iload_n 1, 1) := by decide +kernel
theorem dX6_sharers_25 : decode cX6_sharers 25 = .ok (.if_icmp .ne 7, 3) := by decide +kernel
theorem dX6_sharers_28 : decode cX6_sharers 28 = .ok (.iconst 1, 1) := by decide +kernel
theorem dX6_sharers_29 : decode cX6_sharers 29 = .ok (.goto 4, 3) := by decide +kernel
theorem dX6_sharers_32 : decode cX6_sharers 32 = .ok (.iconst 0, 1) := by decide +kernel
theorem dX6_sharers_33 : decode cX6_sharers 33 = .ok (.iadd, 1) := by decide +kernel
theorem dX6_sharers_34 : decode cX6_sharers 34 = .ok (.istore_n 2, 1) := by decide +kernel
theorem dX6_sharers_35 : decode cX6_sharers 35 = .ok (.iinc 3 1, 3) := by decide +kernel
theorem dX6_sharers_38 : decode cX6_sharers 38 = .ok (.goto (-34), 3) := by decide +kernel
theorem dX6_sharers_41 : decode cX6_sharers 41 = .ok (.iload_n 2, 1) := by decide +kernel
theorem dX6_sharers_42 : decode cX6_sharers 42 = .ok (.ireturn, 1) := by decide +kernel
set_option maxRecDepth 20000 in
theorem ggX6_layStore_X6_entries : GoodIn wsX6_layStore wsX6_entries := goodIn_r _ [8, 2, 12, 13, 14, 15, 16, 17, 18, 19, 20, 21, 22] (by decide +kernel) (by decide +kernel)
set_option maxRecDepth 20000 in
theorem gX6_layStore_X6_entries : GoodIn wsX6_layStore (wsV RX6 45 RX6 yX6_entries wsX6_entries) := goodIn_app (goodIn_of _ (by decide +kernel)) ggX6_layStore_X6_entries
set_option maxRecDepth 20000 in
theorem ggX6_layStore_X6_has : GoodIn wsX6_layStore wsX6_has := goodIn_r _ [11] (by decide +kernel) (by decide +kernel)
set_option maxRecDepth 20000 in
theorem gX6_layStore_X6_has : GoodIn wsX6_layStore (va_wsS RX6 49 yX6_has wsX6_has) := goodIn_app (goodIn_of _ (by decide +kernel)) ggX6_layStore_X6_has
theorem dX6_layStore_0 : decode cX6_layStore 0 = .ok (.iconst 0, 1) := by decide +kernel
theorem dX6_layStore_1 : decode cX6_layStore 1 = .ok (.istore_n 1, 1) := by decide +kernel
theorem dX6_layStore_2 : decode cX6_layStore 2 = .ok (.iload_n 1, 1) := by decide +kernel
theorem dX6_layStore_3 : decode cX6_layStore 3 = .ok (.sipush 800, 3) := by decide +kernel
theorem dX6_layStore_6 : decode cX6_layStore 6 = .ok (.if_icmp .ge 16, 3) := by decide +kernel
theorem dX6_layStore_9 : decode cX6_layStore 9 = .ok (.aload_n 0, 1) := by decide +kernel
theorem dX6_layStore_10 : decode cX6_layStore 10 = .ok (.getfield 19, 3) := by decide +kernel
theorem dX6_layStore_13 : decode cX6_layStore 13 = .ok (.iload_n 1, 1) := by decide +kernel
theorem dX6_layStore_14 : decode cX6_layStore 14 = .ok (.iconst (-1), 1) := by decide +kernel
theorem dX6_layStore_15 : decode cX6_layStore 15 = .ok (.iastore, 1) := by decide +kernel
theorem dX6_layStore_16 : decode cX6_layStore 16 = .ok (.iinc 1 1, 3) := by decide +kernel
theorem dX6_layStore_19 : decode cX6_layStore 19 = .ok (.goto (-17), 3) := by decide +kernel
theorem dX6_layStore_22 : decode cX6_layStore 22 = .ok (.iconst 0, 1) := by decide +kernel
theorem dX6_layStore_23 : decode cX6_layStore 23 = .ok (.istore_n 1, 1) := by decide +kernel
theorem dX6_layStore_24 : decode cX6_layStore 24 = .ok (.iload_n 1, 1) := by decide +kernel
theorem dX6_layStore_25 : decode cX6_layStore 25 = .ok (.aload_n 0, 1) := by decide +kernel
theorem dX6_layStore_26 : decode cX6_layStore 26 = .ok (.getfield 7, 3) := by decide +kernel
theorem dX6_layStore_29 : decode cX6_layStore 29 = .ok (.iconst 0, 1) := by decide +kernel
theorem dX6_layStore_30 : decode cX6_layStore 30 = .ok (.iaload, 1) := by decide +kernel
theorem dX6_layStore_31 : decode cX6_layStore 31 = .ok (.if_icmp .ge 98, 3) := by decide +kernel
theorem dX6_layStore_34 : decode cX6_layStore 34 = .ok (.aload_n 0, 1) := by decide +kernel
theorem dX6_layStore_35 : decode cX6_layStore 35 = .ok (.getfield 7, 3) := by decide +kernel
theorem dX6_layStore_38 : decode cX6_layStore 38 = .ok (.bipush 49, 2) := by decide +kernel
theorem dX6_layStore_40 : decode cX6_layStore 40 = .ok (.iload_n 1, 1) := by decide +kernel
theorem dX6_layStore_41 : decode cX6_layStore 41 = .ok (.iadd, 1) := by decide +kernel
theorem dX6_layStore_42 : decode cX6_layStore 42 = .ok (.iaload, 1) := by decide +kernel
theorem dX6_layStore_43 : decode cX6_layStore 43 = .ok (.istore_n 2, 1) := by decide +kernel
theorem dX6_layStore_44 : decode cX6_layStore 44 = .ok (.iconst 0, 1) := by decide +kernel
theorem dX6_layStore_45 : decode cX6_layStore 45 = .ok (.istore_n 3, 1) := by decide +kernel
theorem dX6_layStore_46 : decode cX6_layStore 46 = .ok (.iload_n 3, 1) := by decide +kernel
theorem dX6_layStore_47 : decode cX6_layStore 47 = .ok (.bipush 16, 2) := by decide +kernel
theorem dX6_layStore_49 : decode cX6_layStore 49 = .ok (.if_icmp .ge 74, 3) := by decide +kernel
theorem dX6_layStore_52 : decode cX6_layStore 52 = .ok (.iload_n 2, 1) := by decide +kernel
theorem dX6_layStore_53 : decode cX6_layStore 53 = .ok (.ifCond .lt 70, 3) := by decide +kernel
theorem dX6_layStore_56 : decode cX6_layStore 56 = .ok (.aload_n 0, 1) := by decide +kernel
theorem dX6_layStore_57 : decode cX6_layStore 57 = .ok (.iload_n 1, 1) := by decide +kernel
theorem dX6_layStore_58 : decode cX6_layStore 58 = .ok (.invokevirtual 45, 3) := by decide +kernel
theorem dX6_layStore_61 : decode cX6_layStore 61 = .ok (.iload_n 3, 1) := by decide +kernel
theorem dX6_layStore_62 : decode cX6_layStore 62 = .ok (.invokestatic 49, 3) := by decide +kernel
theorem dX6_layStore_65 : decode cX6_layStore 65 = .ok (.ifCond .eq 52, 3) := by decide +kernel
theorem dX6_layStore_68 : decode cX6_layStore 68 = .ok (.aload_n 0, 1) := by decide +kernel
theorem dX6_layStore_69 : decode cX6_layStore 69 = .ok (.getfield 19, 3) := by decide +kernel
theorem dX6_layStore_72 : decode cX6_layStore 72 = .ok (.aload_n 0, 1) := by decide +kernel
theorem dX6_layStore_73 : decode cX6_layStore 73 = .ok (.getfield 7, 3) := by decide +kernel
theorem dX6_layStore_76 : decode cX6_layStore 76 = .ok (.sipush 457, 3) := by decide +kernel
theorem dX6_layStore_79 : decode cX6_layStore 79 = .ok (.iload_n 2, 1) := by decide +kernel
theorem dX6_layStore_80 : decode cX6_layStore 80 = .ok (.iadd, 1) := by decide +kernel
theorem dX6_layStore_81 : decode cX6_layStore 81 = .ok (.iaload, 1) := by decide +kernel
theorem dX6_layStore_82 : decode cX6_layStore 82 = .ok (.iload_n 3, 1) := by decide +kernel
theorem dX6_layStore_83 : decode cX6_layStore 83 = .ok (.iadd, 1) := by decide +kernel
theorem dX6_layStore_84 : decode cX6_layStore 84 = .ok (.iload_n 2, 1) := by decide +kernel
theorem dX6_layStore_85 : decode cX6_layStore 85 = .ok (.iastore, 1) := by decide +kernel
theorem dX6_layStore_86 : decode cX6_layStore 86 = .ok (.aload_n 0, 1) := by decide +kernel
theorem dX6_layStore_87 : decode cX6_layStore 87 = .ok (.getfield 22, 3) := by decide +kernel
theorem dX6_layStore_90 : decode cX6_layStore 90 = .ok (.aload_n 0, 1) := by decide +kernel
theorem dX6_layStore_91 : decode cX6_layStore 91 = .ok (.getfield 7, 3) := by decide +kernel
theorem dX6_layStore_94 : decode cX6_layStore 94 = .ok (.sipush 457, 3) := by decide +kernel
theorem dX6_layStore_97 : decode cX6_layStore 97 = .ok (.iload_n 2, 1) := by decide +kernel
theorem dX6_layStore_98 : decode cX6_layStore 98 = .ok (.iadd, 1) := by decide +kernel
theorem dX6_layStore_99 : decode cX6_layStore 99 = .ok (.iaload, 1) := by decide +kernel
theorem dX6_layStore_100 : decode cX6_layStore 100 = .ok (.iload_n 3, 1) := by decide +kernel
theorem dX6_layStore_101 : decode cX6_layStore 101 = .ok (.iadd, 1) := by decide +kernel
theorem dX6_layStore_102 : decode cX6_layStore 102 = .ok (.aload_n 0, 1) := by decide +kernel
theorem dX6_layStore_103 : decode cX6_layStore 103 = .ok (.getfield 7, 3) := by decide +kernel
theorem dX6_layStore_106 : decode cX6_layStore 106 = .ok (.bipush 73, 2) := by decide +kernel
theorem dX6_layStore_108 : decode cX6_layStore 108 = .ok (.bipush 16, 2) := by decide +kernel
theorem dX6_layStore_110 : decode cX6_layStore 110 = .ok (.iload_n 1, 1) := by decide +kernel
theorem dX6_layStore_111 : decode cX6_layStore 111 = .ok (.imul, 1) := by decide +kernel
theorem dX6_layStore_112 : decode cX6_layStore 112 = .ok (.iadd, 1) := by decide +kernel
theorem dX6_layStore_113 : decode cX6_layStore 113 = .ok (.iload_n 3, 1) := by decide +kernel
theorem dX6_layStore_114 : decode cX6_layStore 114 = .ok (.iadd, 1) := by decide +kernel
theorem dX6_layStore_115 : decode cX6_layStore 115 = .ok (.iaload, 1) := by decide +kernel
theorem dX6_layStore_116 : decode cX6_layStore 116 = .ok (.iastore, 1) := by decide +kernel
theorem dX6_layStore_117 : decode cX6_layStore 117 = .ok (.iinc 3 1, 3) := by decide +kernel
theorem dX6_layStore_120 : decode cX6_layStore 120 = .ok (.goto (-74), 3) := by decide +kernel
theorem dX6_layStore_123 : decode cX6_layStore 123 = .ok (.iinc 1 1, 3) := by decide +kernel
theorem dX6_layStore_126 : decode cX6_layStore 126 = .ok (.goto (-102), 3) := by decide +kernel
theorem dX6_layStore_129 : decode cX6_layStore 129 = .ok (.return_, 1) := by decide +kernel
set_option maxRecDepth 20000 in
theorem ggX6_fits_X6_has : GoodIn wsX6_fits wsX6_has := goodIn_r _ [5] (by decide +kernel) (by decide +kernel)
set_option maxRecDepth 20000 in
theorem gX6_fits_X6_has : GoodIn wsX6_fits (va_wsS RX6 49 yX6_has wsX6_has) := goodIn_app (goodIn_of _ (by decide +kernel)) ggX6_fits_X6_has
theorem dX6_fits_0 : decode cX6_fits 0 = .ok (.iconst 0, 1) := by decide +kernel
theorem dX6_fits_1 : decode cX6_fits 1 = .ok (.istore_n 2, 1) := by decide +kernel
theorem dX6_fits_2 : decode cX6_fits 2 = .ok (.iload_n 2, 1) := by decide +kernel
theorem dX6_fits_3 : decode cX6_fits 3 = .ok (.sipush 784, 3) := by decide +kernel
theorem dX6_fits_6 : decode cX6_fits 6 = .ok (.if_icmp .gt 65, 3) := by decide +kernel
theorem dX6_fits_9 : decode cX6_fits 9 = .ok (.iconst 1, 1) := by decide +kernel
theorem dX6_fits_10 : decode cX6_fits 10 = .ok (.istore_n 3, 1) := by decide +kernel
theorem dX6_fits_11 : decode cX6_fits 11 = .ok (.iconst 0, 1) := by decide +kernel
theorem dX6_fits_12 : decode cX6_fits 12 = .ok (.istore 4, 2) := by decide +kernel
theorem dX6_fits_14 : decode cX6_fits 14 = .ok (.iload 4, 2) := by decide +kernel
theorem dX6_fits_16 : decode cX6_fits 16 = .ok (.bipush 16, 2) := by decide +kernel
theorem dX6_fits_18 : decode cX6_fits 18 = .ok (.if_icmp .ge 41, 3) := by decide +kernel
theorem dX6_fits_21 : decode cX6_fits 21 = .ok (.iload_n 3, 1) := by decide +kernel
theorem dX6_fits_22 : decode cX6_fits 22 = .ok (.ifCond .eq 37, 3) := by decide +kernel
theorem dX6_fits_25 : decode cX6_fits 25 = .ok (.iload_n 1, 1) := by decide +kernel
theorem dX6_fits_26 : decode cX6_fits 26 = .ok (.iload 4, 2) := by decide +kernel
theorem dX6_fits_28 : decode cX6_fits 28 = .ok (.invokestatic 49, 3) := by decide +kernel
theorem dX6_fits_31 : decode cX6_fits 31 = .ok (.ifCond .eq 16, 3) := by decide +kernel
theorem dX6_fits_34 : decode cX6_fits 34 = .ok (.aload_n 0, 1) := by decide +kernel
theorem dX6_fits_35 : decode cX6_fits 35 = .ok (.getfield 19, 3) := by decide +kernel
theorem dX6_fits_38 : decode cX6_fits 38 = .ok (.iload_n 2, 1) := by decide +kernel
theorem dX6_fits_39 : decode cX6_fits 39 = .ok (.iload 4, 2) := by decide +kernel
theorem dX6_fits_41 : decode cX6_fits 41 = .ok (.iadd, 1) := by decide +kernel
theorem dX6_fits_42 : decode cX6_fits 42 = .ok (.iaload, 1) := by decide +kernel
theorem dX6_fits_43 : decode cX6_fits 43 = .ok (.iconst (-1), 1) := by decide +kernel
theorem dX6_fits_44 : decode cX6_fits 44 = .ok (.if_icmp .ne 7, 3) := by decide +kernel
theorem dX6_fits_47 : decode cX6_fits 47 = .ok (.iconst 1, 1) := by decide +kernel
theorem dX6_fits_48 : decode cX6_fits 48 = .ok (.goto 4, 3) := by decide +kernel
theorem dX6_fits_51 : decode cX6_fits 51 = .ok (.iconst 0, 1) := by decide +kernel
theorem dX6_fits_52 : decode cX6_fits 52 = .ok (.istore_n 3, 1) := by decide +kernel
theorem dX6_fits_53 : decode cX6_fits 53 = .ok (.iinc 4 1, 3) := by decide +kernel
theorem dX6_fits_56 : decode cX6_fits 56 = .ok (.goto (-42), 3) := by decide +kernel
theorem dX6_fits_59 : decode cX6_fits 59 = .ok (.iload_n 3, 1) := by decide +kernel
theorem dX6_fits_60 : decode cX6_fits 60 = .ok (.ifCond .eq 5, 3) := by decide +kernel
theorem dX6_fits_63 : decode cX6_fits 63 = .ok (.iload_n 2, 1) := by decide +kernel
theorem dX6_fits_64 : decode cX6_fits 64 = .ok (.ireturn, 1) := by decide +kernel
theorem dX6_fits_65 : decode cX6_fits 65 = .ok (.iinc 2 1, 3) := by decide +kernel
theorem dX6_fits_68 : decode cX6_fits 68 = .ok (.goto (-66), 3) := by decide +kernel
theorem dX6_fits_71 : decode cX6_fits 71 = .ok (.sipush 784, 3) := by decide +kernel
theorem dX6_fits_74 : decode cX6_fits 74 = .ok (.ireturn, 1) := by decide +kernel
set_option maxRecDepth 20000 in
theorem ggX6_forms_X6_areAlike : GoodIn wsX6_forms wsX6_areAlike := goodIn_r _ [6, 1, 7, 8, 9, 5, 10, 11, 12, 13, 24, 25, 26, 27, 28, 29, 30, 31, 32, 33, 34] (by decide +kernel) (by decide +kernel)
set_option maxRecDepth 20000 in
theorem gX6_forms_X6_areAlike : GoodIn wsX6_forms (wsV RX6 53 RX6 yX6_areAlike wsX6_areAlike) := goodIn_app (goodIn_of _ (by decide +kernel)) ggX6_forms_X6_areAlike
set_option maxRecDepth 20000 in
theorem ggX6_forms_X6_entries : GoodIn wsX6_forms wsX6_entries := goodIn_r _ [10, 1, 24, 25, 26, 27, 28, 29, 30, 31, 32, 33, 34] (by decide +kernel) (by decide +kernel)
set_option maxRecDepth 20000 in
theorem gX6_forms_X6_entries : GoodIn wsX6_forms (wsV RX6 45 RX6 yX6_entries wsX6_entries) := goodIn_app (goodIn_of _ (by decide +kernel)) ggX6_forms_X6_entries
set_option maxRecDepth 20000 in
theorem ggX6_forms_X6_layStore : GoodIn wsX6_forms wsX6_layStore := goodIn_r _ [17, 18, 1, 19, 7, 8, 9, 5, 10, 11, 12, 13, 24, 25, 26, 27, 28, 29, 30, 31, 32, 33, 34] (by decide +kernel) (by decide +kernel)
set_option maxRecDepth 20000 in
theorem gX6_forms_X6_layStore : GoodIn wsX6_forms (wsV RX6 56 RX6 yX6_layStore wsX6_layStore) := goodIn_app (goodIn_of _ (by decide +kernel)) ggX6_forms_X6_layStore
set_option maxRecDepth 20000 in
theorem ggX6_forms_X6_fits : GoodIn wsX6_forms wsX6_fits := goodIn_r _ [23, 18, 11, 12, 5, 13, 24, 25, 26, 27, 28, 29, 30, 31, 32, 33, 34] (by decide +kernel) (by decide +kernel)
set_option maxRecDepth 20000 in
theorem gX6_forms_X6_fits : GoodIn wsX6_forms (wsV RX6 59 RX6 yX6_fits wsX6_fits) := goodIn_app (goodIn_of _ (by decide +kernel)) ggX6_forms_X6_fits
theorem dX6_forms_0 : decode cX6_forms 0 = .ok (.iconst (-1), 1) := by decide +kernel
theorem dX6_forms_1 : decode cX6_forms 1 = .ok (.istore_n 2, 1) := by decide +kernel
theorem dX6_forms_2 : decode cX6_forms 2 = .ok (.iconst 0, 1) := by decide +kernel
theorem dX6_forms_3 : decode cX6_forms 3 = .ok (.istore_n 3, 1) := by decide +kernel
theorem dX6_forms_4 : decode cX6_forms 4 = .ok (.iload_n 3, 1) := by decide +kernel
theorem dX6_forms_5 : decode cX6_forms 5 = .ok (.aload_n 0, 1) := by decide +kernel
theorem dX6_forms_6 : decode cX6_forms 6 = .ok (.getfield 7, 3) := by decide +kernel
theorem dX6_forms_9 : decode cX6_forms 9 = .ok (.iconst 0, 1) := by decide +kernel
theorem dX6_forms_10 : decode cX6_forms 10 = .ok (.iaload, 1) := by decide +kernel
theorem dX6_forms_11 : decode cX6_forms 11 = .ok (.if_icmp .ge 56, 3) := by decide +kernel
theorem dX6_forms_14 : decode cX6_forms 14 = .ok (.aload_n 0, 1) := by decide +kernel
theorem dX6_forms_15 : decode cX6_forms 15 = .ok (.getfield 7, 3) := by decide +kernel
theorem dX6_forms_18 : decode cX6_forms 18 = .ok (.bipush 49, 2) := by decide +kernel
theorem dX6_forms_20 : decode cX6_forms 20 = .ok (.iload_n 3, 1) := by decide +kernel
theorem dX6_forms_21 : decode cX6_forms 21 = .ok (.iadd, 1) := by decide +kernel
theorem dX6_forms_22 : decode cX6_forms 22 = .ok (.iaload, 1) := by decide +kernel
theorem dX6_forms_23 : decode cX6_forms 23 = .ok (.istore 4, 2) := by decide +kernel
theorem dX6_forms_25 : decode cX6_forms 25 = .ok (.iload_n 3, 1) := by decide +kernel
theorem dX6_forms_26 : decode cX6_forms 26 = .ok (.iload_n 1, 1) := by decide +kernel
theorem dX6_forms_27 : decode cX6_forms 27 = .ok (.if_icmp .eq 32, 3) := by decide +kernel
theorem dX6_forms_30 : decode cX6_forms 30 = .ok (.iload 4, 2) := by decide +kernel
theorem dX6_forms_32 : decode cX6_forms 32 = .ok (.ifCond .lt 27, 3) := by decide +kernel
theorem dX6_forms_35 : decode cX6_forms 35 = .ok (.aload_n 0, 1) := by decide +kernel
theorem dX6_forms_36 : decode cX6_forms 36 = .ok (.iload_n 3, 1) := by decide +kernel
theorem dX6_forms_37 : decode cX6_forms 37 = .ok (.iload_n 1, 1) := by decide +kernel
theorem dX6_forms_38 : decode cX6_forms 38 = .ok (.invokevirtual 53, 3) := by decide +kernel
theorem dX6_forms_41 : decode cX6_forms 41 = .ok (.ifCond .eq 18, 3) := by decide +kernel
theorem dX6_forms_44 : decode cX6_forms 44 = .ok (.iload_n 2, 1) := by decide +kernel
theorem dX6_forms_45 : decode cX6_forms 45 = .ok (.ifCond .lt 9, 3) := by decide +kernel
theorem dX6_forms_48 : decode cX6_forms 48 = .ok (.iload 4, 2) := by decide +kernel
theorem dX6_forms_50 : decode cX6_forms 50 = .ok (.iload_n 2, 1) := by decide +kernel
theorem dX6_forms_51 : decode cX6_forms 51 = .ok (.if_icmp .ge 8, 3) := by decide +kernel
theorem dX6_forms_54 : decode cX6_forms 54 = .ok (.iload 4, 2) := by decide +kernel
theorem dX6_forms_56 : decode cX6_forms 56 = .ok (.goto 4, 3) := by decide +kernel
theorem dX6_forms_59 : decode cX6_forms 59 = .ok (.iload_n 2, 1) := by decide +kernel
theorem dX6_forms_60 : decode cX6_forms 60 = .ok (.istore_n 2, 1) := by decide +kernel
theorem dX6_forms_61 : decode cX6_forms 61 = .ok (.iinc 3 1, 3) := by decide +kernel
theorem dX6_forms_64 : decode cX6_forms 64 = .ok (.goto (-60), 3) := by decide +kernel
theorem dX6_forms_67 : decode cX6_forms 67 = .ok (.iload_n 2, 1) := by decide +kernel
theorem dX6_forms_68 : decode cX6_forms 68 = .ok (.ifCond .ge 55, 3) := by decide +kernel
theorem dX6_forms_71 : decode cX6_forms 71 = .ok (.aload_n 0, 1) := by decide +kernel
theorem dX6_forms_72 : decode cX6_forms 72 = .ok (.iload_n 1, 1) := by decide +kernel
theorem dX6_forms_73 : decode cX6_forms 73 = .ok (.invokevirtual 45, 3) := by decide +kernel
theorem dX6_forms_76 : decode cX6_forms 76 = .ok (.ifCond .eq 47, 3) := by decide +kernel
theorem dX6_forms_79 : decode cX6_forms 79 = .ok (.aload_n 0, 1) := by decide +kernel
theorem dX6_forms_80 : decode cX6_forms 80 = .ok (.invokevirtual 56, 3) := by decide +kernel
theorem dX6_forms_83 : decode cX6_forms 83 = .ok (.iconst 0, 1) := by decide +kernel
theorem dX6_forms_84 : decode cX6_forms 84 = .ok (.istore_n 2, 1) := by decide +kernel
theorem dX6_forms_85 : decode cX6_forms 85 = .ok (.aload_n 0, 1) := by decide +kernel
theorem dX6_forms_86 : decode cX6_forms 86 = .ok (.getfield 7, 3) := by decide +kernel
theorem dX6_forms_89 : decode cX6_forms 89 = .ok (.sipush 457, 3) := by decide +kernel
theorem dX6_forms_92 : decode cX6_forms 92 = .ok (.iload_n 2, 1) := by decide +kernel
theorem dX6_forms_93 : decode cX6_forms 93 = .ok (.iadd, 1) := by decide +kernel
