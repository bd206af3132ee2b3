theorem dX4_init_0 : decode cX4_init 0 = .ok (.aload_n 0, 1) := by decide +kernel
theorem dX4_init_1 : decode cX4_init 1 = .ok (.invokespecial 3, 3) := by decide +kernel
theorem dX4_init_4 : decode cX4_init 4 = .ok (.aload_n 0, 1) := by decide +kernel
theorem dX4_init_5 : decode cX4_init 5 = .ok (.iconst 0, 1) := by decide +kernel
theorem dX4_init_6 : decode cX4_init 6 = .ok (.putfield 9, 3) := by decide +kernel
theorem dX4_init_9 : decode cX4_init 9 = .ok (.aload_n 0, 1) := by decide +kernel
theorem dX4_init_10 : decode cX4_init 10 = .ok (.bipush 100, 2) := by decide +kernel
theorem dX4_init_12 : decode cX4_init 12 = .ok (.newarray .char, 2) := by decide +kernel
theorem dX4_init_14 : decode cX4_init 14 = .ok (.putfield 15, 3) := by decide +kernel
theorem dX4_init_17 : decode cX4_init 17 = .ok (.aload_n 0, 1) := by decide +kernel
theorem dX4_init_18 : decode cX4_init 18 = .ok (.iconst 0, 1) := by decide +kernel
theorem dX4_init_19 : decode cX4_init 19 = .ok (.putfield 19, 3) := by decide +kernel
theorem dX4_init_22 : decode cX4_init 22 = .ok (.aload_n 0, 1) := by decide +kernel
theorem dX4_init_23 : decode cX4_init 23 = .ok (.iconst 0, 1) := by decide +kernel
theorem dX4_init_24 : decode cX4_init 24 = .ok (.putfield 22, 3) := by decide +kernel
theorem dX4_init_27 : decode cX4_init 27 = .ok (.aload_n 0, 1) := by decide +kernel
theorem dX4_init_28 : decode cX4_init 28 = .ok (.iconst 0, 1) := by decide +kernel
theorem dX4_init_29 : decode cX4_init 29 = .ok (.putfield 25, 3) := by decide +kernel
theorem dX4_init_32 : decode cX4_init 32 = .ok (.aload_n 0, 1) := by decide +kernel
theorem dX4_init_33 : decode cX4_init 33 = .ok (.iconst 0, 1) := by decide +kernel
theorem dX4_init_34 : decode cX4_init 34 = .ok (.putfield 28, 3) := by decide +kernel
theorem dX4_init_37 : decode cX4_init 37 = .ok (.aload_n 0, 1) := by decide +kernel
theorem dX4_init_38 : decode cX4_init 38 = .ok (.bipush 24, 2) := by decide +kernel
theorem dX4_init_40 : decode cX4_init 40 = .ok (.newarray .int, 2) := by decide +kernel
theorem dX4_init_42 : decode cX4_init 42 = .ok (.putfield 31, 3) := by decide +kernel
theorem dX4_init_45 : decode cX4_init 45 = .ok (.aload_n 0, 1) := by decide +kernel
theorem dX4_init_46 : decode cX4_init 46 = .ok (.sipush 384, 3) := by decide +kernel
theorem dX4_init_49 : decode cX4_init 49 = .ok (.newarray .int, 2) := by decide +kernel
theorem dX4_init_51 : decode cX4_init 51 = .ok (.putfield 35, 3) := by decide +kernel
theorem dX4_init_54 : decode cX4_init 54 = .ok (.return_, 1) := by decide +kernel
theorem dX4_appendSign_0 : decode cX4_appendSign 0 = .ok (.aload_n 0, 1) := by decide +kernel
theorem dX4_appendSign_1 : decode cX4_appendSign 1 = .ok (.getfield 9, 3) := by decide +kernel
theorem dX4_appendSign_4 : decode cX4_appendSign 4 = .ok (.bipush 100, 2) := by decide +kernel
theorem dX4_appendSign_6 : decode cX4_appendSign 6 = .ok (.if_icmp .ge 23, 3) := by decide +kernel
theorem dX4_appendSign_9 : decode cX4_appendSign 9 = .ok (.aload_n 0, 1) := by decide +kernel
theorem dX4_appendSign_10 : decode cX4_appendSign 10 = .ok (.getfield 15, 3) := by decide +kernel
theorem dX4_appendSign_13 : decode cX4_appendSign 13 = .ok (.aload_n 0, 1) := by decide +kernel
theorem dX4_appendSign_14 : decode cX4_appendSign 14 = .ok (.getfield 9, 3) := by decide +kernel
theorem dX4_appendSign_17 : decode cX4_appendSign 17 = .ok (.iload_n 1, 1) := by decide +kernel
theorem dX4_appendSign_18 : decode cX4_appendSign 18 = .ok (.castore, 1) := by decide +kernel
theorem dX4_appendSign_19 : decode cX4_appendSign 19 = .ok (.aload_n 0, 1) := by decide +kernel
theorem dX4_appendSign_20 : decode cX4_appendSign 20 = .ok (.dup, 1) := by decide +kernel
theorem dX4_appendSign_21 : decode cX4_appendSign 21 = .ok (.getfield 9, 3) := by decide +kernel
theorem dX4_appendSign_24 : decode cX4_appendSign 24 = .ok (.iconst 1, 1) := by decide +kernel
theorem dX4_appendSign_25 : decode cX4_appendSign 25 = .ok (.iadd, 1) := by decide +kernel
theorem dX4_appendSign_26 : decode cX4_appendSign 26 = .ok (.putfield 9, 3) := by decide +kernel
theorem dX4_appendSign_29 : decode cX4_appendSign 29 = .ok (.return_, 1) := by decide +kernel
set_option maxRecDepth 20000 in
theorem ggX4_defaultRead_X5_numberAt : GoodIn wsX4_defaultRead wsX5_numberAt := goodIn_r _ [4] (by decide +kernel) (by decide +kernel)
set_option maxRecDepth 20000 in
theorem gX4_defaultRead_X5_numberAt_n38 : GoodIn wsX4_defaultRead (wsX5_numberAt) := ggX4_defaultRead_X5_numberAt
theorem dX4_defaultRead_0 : decode cX4_defaultRead 0 = .ok (.aload_n 0, 1) := by decide +kernel
theorem dX4_defaultRead_1 : decode cX4_defaultRead 1 = .ok (.getfield 31, 3) := by decide +kernel
theorem dX4_defaultRead_4 : decode cX4_defaultRead 4 = .ok (.iload_n 1, 1) := by decide +kernel
theorem dX4_defaultRead_5 : decode cX4_defaultRead 5 = .ok (.invokestatic 38, 3) := by decide +kernel
theorem dX4_defaultRead_8 : decode cX4_defaultRead 8 = .ok (.ireturn, 1) := by decide +kernel
set_option maxRecDepth 20000 in
theorem ggX4_valueRead_X5_numberAt : GoodIn wsX4_valueRead wsX5_numberAt := goodIn_r _ [4] (by decide +kernel) (by decide +kernel)
set_option maxRecDepth 20000 in
theorem gX4_valueRead_X5_numberAt_n38 : GoodIn wsX4_valueRead (wsX5_numberAt) := ggX4_valueRead_X5_numberAt
theorem dX4_valueRead_0 : decode cX4_valueRead 0 = .ok (.aload_n 0, 1) := by decide +kernel
theorem dX4_valueRead_1 : decode cX4_valueRead 1 = .ok (.getfield 35, 3) := by decide +kernel
theorem dX4_valueRead_4 : decode cX4_valueRead 4 = .ok (.iload_n 1, 1) := by decide +kernel
theorem dX4_valueRead_5 : decode cX4_valueRead 5 = .ok (.bipush 16, 2) := by decide +kernel
theorem dX4_valueRead_7 : decode cX4_valueRead 7 = .ok (.imul, 1) := by decide +kernel
theorem dX4_valueRead_8 : decode cX4_valueRead 8 = .ok (.iload_n 2, 1) := by decide +kernel
theorem dX4_valueRead_9 : decode cX4_valueRead 9 = .ok (.iadd, 1) := by decide +kernel
theorem dX4_valueRead_10 : decode cX4_valueRead 10 = .ok (.invokestatic 38, 3) := by decide +kernel
theorem dX4_valueRead_13 : decode cX4_valueRead 13 = .ok (.ireturn, 1) := by decide +kernel
set_option maxRecDepth 20000 in
theorem ggX4_beginRow_X5_putAt : GoodIn wsX4_beginRow wsX5_putAt := goodIn_r _ [5] (by decide +kernel) (by decide +kernel)
set_option maxRecDepth 20000 in
theorem gX4_beginRow_X5_putAt_n42 : GoodIn wsX4_beginRow (wsX5_putAt) := ggX4_beginRow_X5_putAt
theorem dX4_beginRow_0 : decode cX4_beginRow 0 = .ok (.aload_n 0, 1) := by decide +kernel
theorem dX4_beginRow_1 : decode cX4_beginRow 1 = .ok (.getfield 31, 3) := by decide +kernel
theorem dX4_beginRow_4 : decode cX4_beginRow 4 = .ok (.iload_n 1, 1) := by decide +kernel
theorem dX4_beginRow_5 : decode cX4_beginRow 5 = .ok (.iload_n 2, 1) := by decide +kernel
theorem dX4_beginRow_6 : decode cX4_beginRow 6 = .ok (.invokestatic 42, 3) := by decide +kernel
theorem dX4_beginRow_9 : decode cX4_beginRow 9 = .ok (.iconst 0, 1) := by decide +kernel
theorem dX4_beginRow_10 : decode cX4_beginRow 10 = .ok (.istore_n 3, 1) := by decide +kernel
theorem dX4_beginRow_11 : decode cX4_beginRow 11 = .ok (.iload_n 3, 1) := by decide +kernel
theorem dX4_beginRow_12 : decode cX4_beginRow 12 = .ok (.bipush 16, 2) := by decide +kernel
theorem dX4_beginRow_14 : decode cX4_beginRow 14 = .ok (.if_icmp .ge 23, 3) := by decide +kernel
theorem dX4_beginRow_17 : decode cX4_beginRow 17 = .ok (.aload_n 0, 1) := by decide +kernel
theorem dX4_beginRow_18 : decode cX4_beginRow 18 = .ok (.getfield 35, 3) := by decide +kernel
theorem dX4_beginRow_21 : decode cX4_beginRow 21 = .ok (.iload_n 1, 1) := by decide +kernel
theorem dX4_beginRow_22 : decode cX4_beginRow 22 = .ok (.bipush 16, 2) := by decide +kernel
theorem dX4_beginRow_24 : decode cX4_beginRow 24 = .ok (.imul, 1) := by decide +kernel
theorem dX4_beginRow_25 : decode cX4_beginRow 25 = .ok (.iload_n 3, 1) := by decide +kernel
theorem dX4_beginRow_26 : decode cX4_beginRow 26 = .ok (.iadd, 1) := by decide +kernel
theorem dX4_beginRow_27 : decode cX4_beginRow 27 = .ok (.iload_n 2, 1) := by decide +kernel
theorem dX4_beginRow_28 : decode cX4_beginRow 28 = .ok (.invokestatic 42, 3) := by decide +kernel
theorem dX4_beginRow_31 : decode cX4_beginRow 31 = .ok (.iinc 3 1, 3) := by decide +kernel
theorem dX4_beginRow_34 : decode cX4_beginRow 34 = .ok (.goto (-23), 3) := by decide +kernel
theorem dX4_beginRow_37 : decode cX4_beginRow 37 = .ok (.return_, 1) := by decide +kernel
set_option maxRecDepth 20000 in
theorem ggX4_readTable_X4_skipSpaces : GoodIn wsX4_readTable wsX4_skipSpaces := goodIn_r _ [8, 1, 2, 9, 10, 11, 7, 12, 13, 55, 56, 57, 58, 59, 60, 61, 62] (by decide +kernel) (by decide +kernel)
set_option maxRecDepth 20000 in
theorem gX4_readTable_X4_skipSpaces : GoodIn wsX4_readTable (wsV RX4 46 RX4 yX4_skipSpaces wsX4_skipSpaces) := goodIn_app (goodIn_of _ (by decide +kernel)) ggX4_readTable_X4_skipSpaces
set_option maxRecDepth 20000 in
theorem ggX4_readTable_X4_readRow : GoodIn wsX4_readTable wsX4_readRow := goodIn_r _ [17, 18, 19, 20, 21, 7, 22, 9, 10, 11, 12, 1, 2, 13, 23, 24, 25, 26, 27, 4, 5, 6, 8, 28, 29, 30, 31, 32, 33, 34, 35, 36, 37, 38, 39, 40, 41, 42, 43, 44, 45, 46, 47, 48, 49, 50, 51, 52, 53, 54, 55, 56, 57, 58, 59, 60, 61, 62] (by decide +kernel) (by decide +kernel)
set_option maxRecDepth 20000 in
theorem gX4_readTable_X4_readRow : GoodIn wsX4_readTable (wsV RX4 49 RX4 yX4_readRow wsX4_readRow) := goodIn_app (goodIn_of _ (by decide +kernel)) ggX4_readTable_X4_readRow
theorem dX4_readTable_0 : decode cX4_readTable 0 = .ok (.aload_n 0, 1) := by decide +kernel
theorem dX4_readTable_1 : decode cX4_readTable 1 = .ok (.iconst 0, 1) := by decide +kernel
theorem dX4_readTable_2 : decode cX4_readTable 2 = .ok (.putfield 19, 3) := by decide +kernel
theorem dX4_readTable_5 : decode cX4_readTable 5 = .ok (.iconst 0, 1) := by decide +kernel
theorem dX4_readTable_6 : decode cX4_readTable 6 = .ok (.istore_n 2, 1) := by decide +kernel
theorem dX4_readTable_7 : decode cX4_readTable 7 = .ok (.iload_n 2, 1) := by decide +kernel
theorem dX4_readTable_8 : decode cX4_readTable 8 = .ok (.iload_n 1, 1) := by decide +kernel
theorem dX4_readTable_9 : decode cX4_readTable 9 = .ok (.if_icmp .gt 46, 3) := by decide +kernel
theorem dX4_readTable_12 : decode cX4_readTable 12 = .ok (.aload_n 0, 1) := by decide +kernel
theorem dX4_readTable_13 : decode cX4_readTable 13 = .ok (.invokevirtual 46, 3) := by decide +kernel
theorem dX4_readTable_16 : decode cX4_readTable 16 = .ok (.aload_n 0, 1) := by decide +kernel
theorem dX4_readTable_17 : decode cX4_readTable 17 = .ok (.getfield 19, 3) := by decide +kernel
theorem dX4_readTable_20 : decode cX4_readTable 20 = .ok (.aload_n 0, 1) := by decide +kernel
theorem dX4_readTable_21 : decode cX4_readTable 21 = .ok (.getfield 9, 3) := by decide +kernel
theorem dX4_readTable_24 : decode cX4_readTable 24 = .ok (.if_icmp .lt 10, 3) := by decide +kernel
theorem dX4_readTable_27 : decode cX4_readTable 27 = .ok (.aload_n 0, 1) := by decide +kernel
theorem dX4_readTable_28 : decode cX4_readTable 28 = .ok (.iload_n 2, 1) := by decide +kernel
theorem dX4_readTable_29 : decode cX4_readTable 29 = .ok (.putfield 28, 3) := by decide +kernel
theorem dX4_readTable_32 : decode cX4_readTable 32 = .ok (.iconst 1, 1) := by decide +kernel
theorem dX4_readTable_33 : decode cX4_readTable 33 = .ok (.ireturn, 1) := by decide +kernel
theorem dX4_readTable_34 : decode cX4_readTable 34 = .ok (.iload_n 2, 1) := by decide +kernel
theorem dX4_readTable_35 : decode cX4_readTable 35 = .ok (.iload_n 1, 1) := by decide +kernel
theorem dX4_readTable_36 : decode cX4_readTable 36 = .ok (.if_icmp .eq 11, 3) := by decide +kernel
theorem dX4_readTable_39 : decode cX4_readTable 39 = .ok (.aload_n 0, 1) := by decide +kernel
theorem dX4_readTable_40 : decode cX4_readTable 40 = .ok (.iload_n 2, 1) := by decide +kernel
theorem dX4_readTable_41 : decode cX4_readTable 41 = .ok (.invokevirtual 49, 3) := by decide +kernel
theorem dX4_readTable_44 : decode cX4_readTable 44 = .ok (.ifCond .ne 5, 3) := by decide +kernel
theorem dX4_readTable_47 : decode cX4_readTable 47 = .ok (.iconst 0, 1) := by decide +kernel
theorem dX4_readTable_48 : decode cX4_readTable 48 = .ok (.ireturn, 1) := by decide +kernel
theorem dX4_readTable_49 : decode cX4_readTable 49 = .ok (.iinc 2 1, 3) := by decide +kernel
theorem dX4_readTable_52 : decode cX4_readTable 52 = .ok (.goto (-45), 3) := by decide +kernel
theorem dX4_readTable_55 : decode cX4_readTable 55 = .ok (.iconst 0, 1) := by decide +kernel
theorem dX4_readTable_56 : decode cX4_readTable 56 = .ok (.ireturn, 1) := by decide +kernel
set_option maxRecDepth 20000 in
theorem ggX4_readRow_X4_isDigitHere : GoodIn wsX4_readRow wsX4_isDigitHere := goodIn_r _ [6, 7, 8, 9, 5, 10, 11, 12, 13, 50, 51, 52, 53, 54, 55, 56, 57] (by decide +kernel) (by decide +kernel)
set_option maxRecDepth 20000 in
theorem gX4_readRow_X4_isDigitHere : GoodIn wsX4_readRow (wsV RX4 53 RX4 yX4_isDigitHere wsX4_isDigitHere) := goodIn_app (goodIn_of _ (by decide +kernel)) ggX4_readRow_X4_isDigitHere
set_option maxRecDepth 20000 in
theorem ggX4_readRow_X4_readNumber : GoodIn wsX4_readRow wsX4_readNumber := goodIn_r _ [17, 11, 18, 1, 19, 20, 21, 5, 22, 12, 7, 8, 9, 10, 13, 2, 3, 4, 6, 23, 24, 25, 26, 50, 51, 52, 53, 54, 55, 56, 57] (by decide +kernel) (by decide +kernel)
set_option maxRecDepth 20000 in
theorem gX4_readRow_X4_readNumber : GoodIn wsX4_readRow (wsV RX4 57 RX4 yX4_readNumber wsX4_readNumber) := goodIn_app (goodIn_of _ (by decide +kernel)) ggX4_readRow_X4_readNumber
set_option maxRecDepth 20000 in
theorem ggX4_readRow_X4_beginRow : GoodIn wsX4_readRow wsX4_beginRow := goodIn_r _ [30, 31, 32, 33, 34, 35, 50, 51, 52, 53, 54, 55, 56, 57] (by decide +kernel) (by decide +kernel)
set_option maxRecDepth 20000 in
theorem gX4_readRow_X4_beginRow : GoodIn wsX4_readRow (wsV RX4 60 RX4 yX4_beginRow wsX4_beginRow) := goodIn_app (goodIn_of _ (by decide +kernel)) ggX4_readRow_X4_beginRow
set_option maxRecDepth 20000 in
theorem ggX4_readRow_X4_takeSign : GoodIn wsX4_readRow wsX4_takeSign := goodIn_r _ [39, 11, 19, 20, 21, 5, 22, 12, 7, 8, 9, 10, 13, 50, 51, 52, 53, 54, 55, 56, 57] (by decide +kernel) (by decide +kernel)
set_option maxRecDepth 20000 in
theorem gX4_readRow_X4_takeSign : GoodIn wsX4_readRow (wsV RX4 64 RX4 yX4_takeSign wsX4_takeSign) := goodIn_app (goodIn_of _ (by decide +kernel)) ggX4_readRow_X4_takeSign
set_option maxRecDepth 20000 in
theorem ggX4_readRow_X4_readEntries : GoodIn wsX4_readRow wsX4_readEntries := goodIn_r _ [43, 1, 32, 36, 37, 38, 5, 39, 11, 19, 20, 21, 22, 12, 7, 8, 9, 10, 13, 14, 15, 16, 17, 18, 2, 3, 4, 6, 23, 24, 25, 26, 44, 34, 45, 46, 47, 48, 49, 33, 35, 50, 51, 52, 53, 54, 55, 56, 57] (by decide +kernel) (by decide +kernel)
set_option maxRecDepth 20000 in
theorem gX4_readRow_X4_readEntries : GoodIn wsX4_readRow (wsV RX4 68 RX4 yX4_readEntries wsX4_readEntries) := goodIn_app (goodIn_of _ (by decide +kernel)) ggX4_readRow_X4_readEntries
theorem dX4_readRow_0 : decode cX4_readRow 0 = .ok (.iconst 0, 1) := by decide +kernel
theorem dX4_readRow_1 : decode cX4_readRow 1 = .ok (.istore_n 2, 1) := by decide +kernel
theorem dX4_readRow_2 : decode cX4_readRow 2 = .ok (.aload_n 0, 1) := by decide +kernel
theorem dX4_readRow_3 : decode cX4_readRow 3 = .ok (.invokevirtual 53, 3) := by decide +kernel
theorem dX4_readRow_6 : decode cX4_readRow 6 = .ok (.ifCond .eq 17, 3) := by decide +kernel
theorem dX4_readRow_9 : decode cX4_readRow 9 = .ok (.aload_n 0, 1) := by decide +kernel
theorem dX4_readRow_10 : decode cX4_readRow 10 = .ok (.invokevirtual 57, 3) := by decide +kernel
theorem dX4_readRow_13 : decode cX4_readRow 13 = .ok (.ifCond .ne 5, 3) := by decide +kernel
theorem dX4_readRow_16 : decode cX4_readRow 16 = .ok (.iconst 0, 1) := by decide +kernel
theorem dX4_readRow_17 : decode cX4_readRow 17 = .ok (.ireturn, 1) := by decide +kernel
theorem dX4_readRow_18 : decode cX4_readRow 18 = .ok (.aload_n 0, 1) := by decide +kernel
theorem dX4_readRow_19 : decode cX4_readRow 19 = .ok (.getfield 22, 3) := by decide +kernel
theorem dX4_readRow_22 : decode cX4_readRow 22 = .ok (.istore_n 2, 1) := by decide +kernel
theorem dX4_readRow_23 : decode cX4_readRow 23 = .ok (.aload_n 0, 1) := by decide +kernel
theorem dX4_readRow_24 : decode cX4_readRow 24 = .ok (.iload_n 1, 1) := by decide +kernel
theorem dX4_readRow_25 : decode cX4_readRow 25 = .ok (.iload_n 2, 1) := by decide +kernel
theorem dX4_readRow_26 : decode cX4_readRow 26 = .ok (.invokevirtual 60, 3) := by decide +kernel
theorem dX4_readRow_29 : decode cX4_readRow 29 = .ok (.aload_n 0, 1) := by decide +kernel
theorem dX4_readRow_30 : decode cX4_readRow 30 = .ok (.bipush 58, 2) := by decide +kernel
theorem dX4_readRow_32 : decode cX4_readRow 32 = .ok (.invokevirtual 64, 3) := by decide +kernel
theorem dX4_readRow_35 : decode cX4_readRow 35 = .ok (.ifCond .eq 16, 3) := by decide +kernel
theorem dX4_readRow_38 : decode cX4_readRow 38 = .ok (.aload_n 0, 1) := by decide +kernel
theorem dX4_readRow_39 : decode cX4_readRow 39 = .ok (.iload_n 1, 1) := by decide +kernel
theorem dX4_readRow_40 : decode cX4_readRow 40 = .ok (.iload_n 2, 1) := by decide +kernel
theorem dX4_readRow_41 : decode cX4_readRow 41 = .ok (.invokevirtual 68, 3) := by decide +kernel
theorem dX4_readRow_44 : decode cX4_readRow 44 = .ok (.ifCond .eq 7, 3) := by decide +kernel
theorem dX4_readRow_47 : decode cX4_readRow 47 = .ok (.iconst 1, 1) := by decide +kernel
theorem dX4_readRow_48 : decode cX4_readRow 48 = .ok (.goto 4, 3) := by decide +kernel
theorem dX4_readRow_51 : decode cX4_readRow 51 = .ok (.iconst 0, 1) := by decide +kernel
theorem dX4_readRow_52 : decode cX4_readRow 52 = .ok (.ireturn, 1) := by decide +kernel
set_option maxRecDepth 20000 in
theorem ggX4_readEntries_X4_takeSign : GoodIn wsX4_readEntries wsX4_takeSign := goodIn_r _ [7, 8, 9, 10, 11, 6, 12, 13, 14, 15, 16, 17, 18, 41, 42, 43, 44, 45, 46, 47, 48] (by decide +kernel) (by decide +kernel)
set_option maxRecDepth 20000 in
theorem gX4_readEntries_X4_takeSign : GoodIn wsX4_readEntries (wsV RX4 64 RX4 yX4_takeSign wsX4_takeSign) := goodIn_app (goodIn_of _ (by decide +kernel)) ggX4_readEntries_X4_takeSign
set_option maxRecDepth 20000 in
theorem ggX4_readEntries_X4_readNumber : GoodIn wsX4_readEntries wsX4_readNumber := goodIn_r _ [22, 8, 23, 1, 9, 10, 11, 6, 12, 13, 14, 15, 16, 17, 18, 24, 25, 26, 27, 28, 29, 30, 31, 41, 42, 43, 44, 45, 46, 47, 48] (by decide +kernel) (by decide +kernel)
set_option maxRecDepth 20000 in
theorem gX4_readEntries_X4_readNumber : GoodIn wsX4_readEntries (wsV RX4 57 RX4 yX4_readNumber wsX4_readNumber) := goodIn_app (goodIn_of _ (by decide +kernel)) ggX4_readEntries_X4_readNumber
set_option maxRecDepth 20000 in
theorem ggX4_readEntries_X5_isColumn : GoodIn wsX4_readEntries wsX5_isColumn := goodIn_r _ [34] (by decide +kernel) (by decide +kernel)
set_option maxRecDepth 20000 in
theorem gX4_readEntries_X5_isColumn_n72 : GoodIn wsX4_readEntries (wsX5_isColumn) := ggX4_readEntries_X5_isColumn
set_option maxRecDepth 20000 in
theorem ggX4_readEntries_X4_allowNumber : GoodIn wsX4_readEntries wsX4_allowNumber := goodIn_r _ [38, 23, 8, 41, 42, 43, 44, 45, 46, 47, 48] (by decide +kernel) (by decide +kernel)
set_option maxRecDepth 20000 in
theorem gX4_readEntries_X4_allowNumber : GoodIn wsX4_readEntries (wsV RX4 75 RX4 yX4_allowNumber wsX4_allowNumber) := goodIn_app (goodIn_of _ (by decide +kernel)) ggX4_readEntries_X4_allowNumber
set_option maxRecDepth 20000 in
theorem ggX4_readEntries_X5_putAt : GoodIn wsX4_readEntries wsX5_putAt := goodIn_r _ [40] (by decide +kernel) (by decide +kernel)
set_option maxRecDepth 20000 in
theorem gX4_readEntries_X5_putAt_n42 : GoodIn wsX4_readEntries (wsX5_putAt) := ggX4_readEntries_X5_putAt
theorem dX4_readEntries_0 : decode cX4_readEntries 0 = .ok (.aload_n 0, 1) := by decide +kernel
theorem dX4_readEntries_1 : decode cX4_readEntries 1 = .ok (.bipush 59, 2) := by decide +kernel
theorem dX4_readEntries_3 : decode cX4_readEntries 3 = .ok (.invokevirtual 64, 3) := by decide +kernel
theorem dX4_readEntries_6 : decode cX4_readEntries 6 = .ok (.ifCond .eq 5, 3) := by decide +kernel
theorem dX4_readEntries_9 : decode cX4_readEntries 9 = .ok (.iconst 1, 1) := by decide +kernel
theorem dX4_readEntries_10 : decode cX4_readEntries 10 = .ok (.ireturn, 1) := by decide +kernel
theorem dX4_readEntries_11 : decode cX4_readEntries 11 = .ok (.iconst (-1), 1) := by decide +kernel
theorem dX4_readEntries_12 : decode cX4_readEntries 12 = .ok (.istore_n 3, 1) := by decide +kernel
theorem dX4_readEntries_13 : decode cX4_readEntries 13 = .ok (.iconst 0, 1) := by decide +kernel
theorem dX4_readEntries_14 : decode cX4_readEntries 14 = .ok (.istore 4, 2) := by decide +kernel
theorem dX4_readEntries_16 : decode cX4_readEntries 16 = .ok (.iload 4, 2) := by decide +kernel
theorem dX4_readEntries_18 : decode cX4_readEntries 18 = .ok (.bipush 16, 2) := by decide +kernel
theorem dX4_readEntries_20 : decode cX4_readEntries 20 = .ok (.if_icmp .gt 135, 3) := by decide +kernel
theorem dX4_readEntries_23 : decode cX4_readEntries 23 = .ok (.aload_n 0, 1) := by decide +kernel
theorem dX4_readEntries_24 : decode cX4_readEntries 24 = .ok (.invokevirtual 57, 3) := by decide +kernel
theorem dX4_readEntries_27 : decode cX4_readEntries 27 = .ok (.ifCond .eq 33, 3) := by decide +kernel
theorem dX4_readEntries_30 : decode cX4_readEntries 30 = .ok (.aload_n 0, 1) := by decide +kernel
theorem dX4_readEntries_31 : decode cX4_readEntries 31 = .ok (.aload_n 0, 1) := by decide +kernel
theorem dX4_readEntries_32 : decode cX4_readEntries 32 = .ok (.getfield 22, 3) := by decide +kernel
theorem dX4_readEntries_35 : decode cX4_readEntries 35 = .ok (.invokestatic 72, 3) := by decide +kernel
theorem dX4_readEntries_38 : decode cX4_readEntries 38 = .ok (.ifCond .eq 15, 3) := by decide +kernel
theorem dX4_readEntries_41 : decode cX4_readEntries 41 = .ok (.aload_n 0, 1) := by decide +kernel
theorem dX4_readEntries_42 : decode cX4_readEntries 42 = .ok (.getfield 22, 3) := by decide +kernel
theorem dX4_readEntries_45 : decode cX4_readEntries 45 = .ok (.iload_n 3, 1) := by decide +kernel
theorem dX4_readEntries_46 : decode cX4_readEntries 46 = .ok (.if_icmp .le 7, 3) := by decide +kernel
theorem dX4_readEntries_49 : decode cX4_readEntries 49 = .ok (.iconst 1, 1) := by decide +kernel
theorem dX4_readEntries_50 : decode cX4_readEntries 50 = .ok (.goto 4, 3) := by decide +kernel
theorem dX4_readEntries_53 : decode cX4_readEntries 53 = .ok (.iconst 0, 1) := by decide +kernel
theorem dX4_readEntries_54 : decode cX4_readEntries 54 = .ok (.invokevirtual 75, 3) := by decide +kernel
theorem dX4_readEntries_57 : decode cX4_readEntries 57 = .ok (.ifCond .ne 5, 3) := by decide +kernel
theorem dX4_readEntries_60 : decode cX4_readEntries 60 = .ok (.iconst 0, 1) := by decide +kernel
theorem dX4_readEntries_61 : decode cX4_readEntries 61 = .ok (.ireturn, 1) := by decide +kernel
theorem dX4_readEntries_62 : decode cX4_readEntries 62 = .ok (.aload_n 0, 1) := by decide +kernel
theorem dX4_readEntries_63 : decode cX4_readEntries 63 = .ok (.getfield 22, 3) := by decide +kernel
theorem dX4_readEntries_66 : decode cX4_readEntries 66 = .ok (.istore 5, 2) := by decide +kernel
theorem dX4_readEntries_68 : decode cX4_readEntries 68 = .ok (.aload_n 0, 1) := by decide +kernel
theorem dX4_readEntries_69 : decode cX4_readEntries 69 = .ok (.bipush 61, 2) := by decide +kernel
theorem dX4_readEntries_71 : decode cX4_readEntries 71 = .ok (.invokevirtual 64, 3) := by decide +kernel
theorem dX4_readEntries_74 : decode cX4_readEntries 74 = .ok (.ifCond .eq 30, 3) := by decide +kernel
theorem dX4_readEntries_77 : decode cX4_readEntries 77 = .ok (.aload_n 0, 1) := by decide +kernel
theorem dX4_readEntries_78 : decode cX4_readEntries 78 = .ok (.invokevirtual 57, 3) := by decide +kernel
theorem dX4_readEntries_81 : decode cX4_readEntries 81 = .ok (.ifCond .eq 23, 3) := by decide +kernel
theorem dX4_readEntries_84 : decode cX4_readEntries 84 = .ok (.aload_n 0, 1) := by decide +kernel
theorem dX4_readEntries_85 : decode cX4_readEntries 85 = .ok (.aload_n 0, 1) := by decide +kernel
theorem dX4_readEntries_86 : decode cX4_readEntries 86 = .ok (.getfield 22, 3) := by decide +kernel
theorem dX4_readEntries_89 : decode cX4_readEntries 89 = .ok (.iload_n 2, 1) := by decide +kernel
theorem dX4_readEntries_90 : decode cX4_readEntries 90 = .ok (.if_icmp .eq 7, 3) := by decide +kernel
theorem dX4_readEntries_93 : decode cX4_readEntries 93 = .ok (.iconst 1, 1) := by decide +kernel
theorem dX4_readEntries_94 : decode cX4_readEntries 94 = .ok (.goto 4, 3) := by decide +kernel
theorem dX4_readEntries_97 : decode cX4_readEntries 97 = .ok (.iconst 0, 1) := by decide +kernel
theorem dX4_readEntries_98 : decode cX4_readEntries 98 = .ok (.invokevirtual 75, 3) := by decide +kernel
theorem dX4_readEntries_101 : decode cX4_readEntries 101 = .ok (.ifCond .ne 5, 3) := by decide +kernel
theorem dX4_readEntries_104 : decode cX4_readEntries 104 = .ok (.iconst 0, 1) := by decide +kernel
theorem dX4_readEntries_105 : decode cX4_readEntries 105 = .ok (.ireturn, 1) := by decide +kernel
theorem dX4_readEntries_106 : decode cX4_readEntries 106 = .ok (.aload_n 0, 1) := by decide +kernel
theorem dX4_readEntries_107 : decode cX4_readEntries 107 = .ok (.getfield 35, 3) := by decide +kernel
theorem dX4_readEntries_110 : decode cX4_readEntries 110 = .ok (.iload_n 1, 1) := by decide +kernel
theorem dX4_readEntries_111 : decode cX4_readEntries 111 = .ok (.bipush 16, 2) := by decide +kernel
theorem dX4_readEntries_113 : decode cX4_readEntries 113 = .ok (.imul, 1) := by decide +kernel
theorem dX4_readEntries_114 : decode cX4_readEntries 114 = .ok (.iload 5, 2) := by decide +kernel
theorem dX4_readEntries_116 : decode cX4_readEntries 116 = .ok (.iadd, 1) := by decide +kernel
theorem dX4_readEntries_117 : decode cX4_readEntries 117 = .ok (.aload_n 0, 1) := by decide +kernel
theorem dX4_readEntries_118 : decode cX4_readEntries 118 = .ok (.getfield 22, 3) := by decide +kernel
theorem dX4_readEntries_121 : decode cX4_readEntries 121 = .ok (.invokestatic 42, 3) := by decide +kernel
theorem dX4_readEntries_124 : decode cX4_readEntries 124 = .ok (.aload_n 0, 1) := by decide +kernel
theorem dX4_readEntries_125 : decode cX4_readEntries 125 = .ok (.bipush 59, 2) := by decide +kernel
theorem dX4_readEntries_127 : decode cX4_readEntries 127 = .ok (.invokevirtual 64, 3) := by decide +kernel
theorem dX4_readEntries_130 : decode cX4_readEntries 130 = .ok (.ifCond .eq 5, 3) := by decide +kernel
theorem dX4_readEntries_133 : decode cX4_readEntries 133 = .ok (.iconst 1, 1) := by decide +kernel
theorem dX4_readEntries_134 : decode cX4_readEntries 134 = .ok (.ireturn, 1) := by decide +kernel
theorem dX4_readEntries_135 : decode cX4_readEntries 135 = .ok (.aload_n 0, 1) := by decide +kernel
theorem dX4_readEntries_136 : decode cX4_readEntries 136 = .ok (.bipush 44, 2) := by decide +kernel
theorem dX4_readEntries_138 : decode cX4_readEntries 138 = .ok (.invokevirtual 64, 3) := by decide +kernel
theorem dX4_readEntries_141 : decode cX4_readEntries 141 = .ok (.ifCond .ne 5, 3) := by decide +kernel
theorem dX4_readEntries_144 : decode cX4_readEntries 144 = .ok (.iconst 0, 1) := by decide +kernel
theorem dX4_readEntries_145 : decode cX4_readEntries 145 = .ok (.ireturn, 1) := by decide +kernel
theorem dX4_readEntries_146 : decode cX4_readEntries 146 = .ok (.iload 5, 2) := by decide +kernel
theorem dX4_readEntries_148 : decode cX4_readEntries 148 = .ok (.istore_n 3, 1) := by decide +kernel
theorem dX4_readEntries_149 : decode cX4_readEntries 149 = .ok (.iinc 4 1, 3) := by decide +kernel
theorem dX4_readEntries_152 : decode cX4_readEntries 152 = .ok (.goto (-136), 3) := by decide +kernel
theorem dX4_readEntries_155 : decode cX4_readEntries 155 = .ok (.iconst 0, 1) := by decide +kernel
theorem dX4_readEntries_156 : decode cX4_readEntries 156 = .ok (.ireturn, 1) := by decide +kernel
theorem dX4_allowNumber_0 : decode cX4_allowNumber 0 = .ok (.iload_n 1, 1) := by decide +kernel
theorem dX4_allowNumber_1 : decode cX4_allowNumber 1 = .ok (.ifCond .ne 11, 3) := by decide +kernel
theorem dX4_allowNumber_4 : decode cX4_allowNumber 4 = .ok (.aload_n 0, 1) := by decide +kernel
theorem dX4_allowNumber_5 : decode cX4_allowNumber 5 = .ok (.aload_n 0, 1) := by decide +kernel
theorem dX4_allowNumber_6 : decode cX4_allowNumber 6 = .ok (.getfield 25, 3) := by decide +kernel
theorem dX4_allowNumber_9 : decode cX4_allowNumber 9 = .ok (.putfield 19, 3) := by decide +kernel
theorem dX4_allowNumber_12 : decode cX4_allowNumber 12 = .ok (.iload_n 1, 1) := by decide +kernel
theorem dX4_allowNumber_13 : decode cX4_allowNumber 13 = .ok (.ireturn, 1) := by decide +kernel
set_option maxRecDepth 20000 in
theorem ggX4_readNumber_X4_skipSpaces : GoodIn wsX4_readNumber wsX4_skipSpaces := goodIn_r _ [8, 1, 9, 10, 11, 12, 7, 13, 14, 23, 24, 25, 26, 27, 28, 29, 30] (by decide +kernel) (by decide +kernel)
set_option maxRecDepth 20000 in
theorem gX4_readNumber_X4_skipSpaces : GoodIn wsX4_readNumber (wsV RX4 46 RX4 yX4_skipSpaces wsX4_skipSpaces) := goodIn_app (goodIn_of _ (by decide +kernel)) ggX4_readNumber_X4_skipSpaces
set_option maxRecDepth 20000 in
theorem ggX4_readNumber_X4_isDigitHere : GoodIn wsX4_readNumber wsX4_isDigitHere := goodIn_r _ [18, 10, 11, 12, 7, 13, 1, 9, 14, 23, 24, 25, 26, 27, 28, 29, 30] (by decide +kernel) (by decide +kernel)
set_option maxRecDepth 20000 in
theorem gX4_readNumber_X4_isDigitHere : GoodIn wsX4_readNumber (wsV RX4 53 RX4 yX4_isDigitHere wsX4_isDigitHere) := goodIn_app (goodIn_of _ (by decide +kernel)) ggX4_readNumber_X4_isDigitHere
set_option maxRecDepth 20000 in
theorem ggX4_readNumber_X4_takeDigit : GoodIn wsX4_readNumber wsX4_takeDigit := goodIn_r _ [22, 1, 10, 11, 12, 7, 13, 9, 14, 23, 24, 25, 26, 27, 28, 29, 30] (by decide +kernel) (by decide +kernel)
set_option maxRecDepth 20000 in
theorem gX4_readNumber_X4_takeDigit : GoodIn wsX4_readNumber (wsV RX4 79 RX4 yX4_takeDigit wsX4_takeDigit) := goodIn_app (goodIn_of _ (by decide +kernel)) ggX4_readNumber_X4_takeDigit
theorem dX4_readNumber_0 : decode cX4_readNumber 0 = .ok (.aload_n 0, 1) := by decide +kernel
theorem dX4_readNumber_1 : decode cX4_readNumber 1 = .ok (.invokevirtual 46, 3) := by decide +kernel
theorem dX4_readNumber_4 : decode cX4_readNumber 4 = .ok (.aload_n 0, 1) := by decide +kernel
theorem dX4_readNumber_5 : decode cX4_readNumber 5 = .ok (.invokevirtual 53, 3) := by decide +kernel
theorem dX4_readNumber_8 : decode cX4_readNumber 8 = .ok (.ifCond .ne 5, 3) := by decide +kernel
theorem dX4_readNumber_11 : decode cX4_readNumber 11 = .ok (.iconst 0, 1) := by decide +kernel
theorem dX4_readNumber_12 : decode cX4_readNumber 12 = .ok (.ireturn, 1) := by decide +kernel
theorem dX4_readNumber_13 : decode cX4_readNumber 13 = .ok (.aload_n 0, 1) := by decide +kernel
theorem dX4_readNumber_14 : decode cX4_readNumber 14 = .ok (.aload_n 0, 1) := by decide +kernel
theorem dX4_readNumber_15 : decode cX4_readNumber 15 = .ok (.getfield 19, 3) := by decide +kernel
theorem dX4_readNumber_18 : decode cX4_readNumber 18 = .ok (.putfield 25, 3) := by decide +kernel
theorem dX4_readNumber_21 : decode cX4_readNumber 21 = .ok (.aload_n 0, 1) := by decide +kernel
theorem dX4_readNumber_22 : decode cX4_readNumber 22 = .ok (.aload_n 0, 1) := by decide +kernel
theorem dX4_readNumber_23 : decode cX4_readNumber 23 = .ok (.invokevirtual 79, 3) := by decide +kernel
theorem dX4_readNumber_26 : decode cX4_readNumber 26 = .ok (.putfield 22, 3) := by decide +kernel
theorem dX4_readNumber_29 : decode cX4_readNumber 29 = .ok (.aload_n 0, 1) := by decide +kernel
theorem dX4_readNumber_30 : decode cX4_readNumber 30 = .ok (.getfield 22, 3) := by decide +kernel
theorem dX4_readNumber_33 : decode cX4_readNumber 33 = .ok (.ifCond .eq 26, 3) := by decide +kernel
theorem dX4_readNumber_36 : decode cX4_readNumber 36 = .ok (.aload_n 0, 1) := by decide +kernel
theorem dX4_readNumber_37 : decode cX4_readNumber 37 = .ok (.invokevirtual 53, 3) := by decide +kernel
theorem dX4_readNumber_40 : decode cX4_readNumber 40 = .ok (.ifCond .eq 19, 3) := by decide +kernel
theorem dX4_readNumber_43 : decode cX4_readNumber 43 = .ok (.aload_n 0, 1) := by decide +kernel
theorem dX4_readNumber_44 : decode cX4_readNumber 44 = .ok (.aload_n 0, 1) := by decide +kernel
theorem dX4_readNumber_45 : decode cX4_readNumber 45 = .ok (.getfield 22, 3) := by decide +kernel
theorem dX4_readNumber_48 : decode cX4_readNumber 48 = .ok (.bipush 10, 2) := by decide +kernel
theorem dX4_readNumber_50 : decode cX4_readNumber 50 = .ok (.imul, 1) := by decide +kernel
theorem dX4_readNumber_51 : decode cX4_readNumber 51 = .ok (.aload_n 0, 1) := by decide +kernel
theorem dX4_readNumber_52 : decode cX4_readNumber 52 = .ok (.invokevirtual 79, 3) := by decide +kernel
theorem dX4_readNumber_55 : decode cX4_readNumber 55 = .ok (.iadd, 1) := by decide +kernel
theorem dX4_readNumber_56 : decode cX4_readNumber 56 = .ok (.putfield 22, 3) := by decide +kernel
theorem dX4_readNumber_59 : decode cX4_readNumber 59 = .ok (.aload_n 0, 1) := by decide +kernel
theorem dX4_readNumber_60 : decode cX4_readNumber 60 = .ok (.invokevirtual 53, 3) := by decide +kernel
theorem dX4_readNumber_63 : decode cX4_readNumber 63 = .ok (.ifCond .ne 7, 3) := by decide +kernel
theorem dX4_readNumber_66 : decode cX4_readNumber 66 = .ok (.iconst 1, 1) := by decide +kernel
theorem dX4_readNumber_67 : decode cX4_readNumber 67 = .ok (.goto 4, 3) := by decide +kernel
theorem dX4_readNumber_70 : decode cX4_readNumber 70 = .ok (.iconst 0, 1) := by decide +kernel
theorem dX4_readNumber_71 : decode cX4_readNumber 71 = .ok (.ireturn, 1) := by decide +kernel
set_option maxRecDepth 20000 in
theorem ggX4_takeDigit_X4_signHere : GoodIn wsX4_takeDigit wsX4_signHere := goodIn_r _ [6, 1, 7, 8, 9, 10, 11, 12, 13, 14, 15, 16] (by decide +kernel) (by decide +kernel)
set_option maxRecDepth 20000 in
theorem gX4_takeDigit_X4_signHere : GoodIn wsX4_takeDigit (wsV RX4 83 RX4 yX4_signHere wsX4_signHere) := goodIn_app (goodIn_of _ (by decide +kernel)) ggX4_takeDigit_X4_signHere
theorem dX4_takeDigit_0 : decode cX4_takeDigit 0 = .ok (.aload_n 0, 1) := by decide +kernel
theorem dX4_takeDigit_1 : decode cX4_takeDigit 1 = .ok (.invokevirtual 83, 3) := by decide +kernel
theorem dX4_takeDigit_4 : decode cX4_takeDigit 4 = .ok (.bipush 48, 2) := by decide +kernel
theorem dX4_takeDigit_6 : decode cX4_takeDigit 6 = .ok (.isub, 1) := by decide +kernel
theorem dX4_takeDigit_7 : decode cX4_takeDigit 7 = .ok (.istore_n 1, 1) := by decide +kernel
theorem dX4_takeDigit_8 : decode cX4_takeDigit 8 = .ok (.aload_n 0, 1) := by decide +kernel
theorem dX4_takeDigit_9 : decode cX4_takeDigit 9 = .ok (.dup, 1) := by decide +kernel
theorem dX4_takeDigit_10 : decode cX4_takeDigit 10 = .ok (.getfield 19, 3) := by decide +kernel
theorem dX4_takeDigit_13 : decode cX4_takeDigit 13 = .ok (.iconst 1, 1) := by decide +kernel
theorem dX4_takeDigit_14 : decode cX4_takeDigit 14 = .ok (.iadd, 1) := by decide +kernel
theorem dX4_takeDigit_15 : decode cX4_takeDigit 15 = .ok (.putfield 19, 3) := by decide +kernel
theorem dX4_takeDigit_18 : decode cX4_takeDigit 18 = .ok (.iload_n 1, 1) := by decide +kernel
theorem dX4_takeDigit_19 : decode cX4_takeDigit 19 = .ok (.ireturn, 1) := by decide +kernel
set_option maxRecDepth 20000 in
theorem ggX4_takeSign_X4_skipSpaces : GoodIn wsX4_takeSign wsX4_skipSpaces := goodIn_r _ [6, 1, 7, 8, 9, 10, 5, 11, 12, 13, 14, 15, 16, 17, 18, 19, 20] (by decide +kernel) (by decide +kernel)
set_option maxRecDepth 20000 in
theorem gX4_takeSign_X4_skipSpaces : GoodIn wsX4_takeSign (wsV RX4 46 RX4 yX4_skipSpaces wsX4_skipSpaces) := goodIn_app (goodIn_of _ (by decide +kernel)) ggX4_takeSign_X4_skipSpaces
set_option maxRecDepth 20000 in
theorem ggX4_takeSign_X4_signHere : GoodIn wsX4_takeSign wsX4_signHere := goodIn_r _ [11, 1, 7, 12, 13, 14, 15, 16, 17, 18, 19, 20] (by decide +kernel) (by decide +kernel)
set_option maxRecDepth 20000 in
theorem gX4_takeSign_X4_signHere : GoodIn wsX4_takeSign (wsV RX4 83 RX4 yX4_signHere wsX4_signHere) := goodIn_app (goodIn_of _ (by decide +kernel)) ggX4_takeSign_X4_signHere
theorem dX4_takeSign_0 : decode cX4_takeSign 0 = .ok (.aload_n 0, 1) := by decide +kernel
theorem dX4_takeSign_1 : decode cX4_takeSign 1 = .ok (.invokevirtual 46, 3) := by decide +kernel
theorem dX4_takeSign_4 : decode cX4_takeSign 4 = .ok (.aload_n 0, 1) := by decide +kernel
theorem dX4_takeSign_5 : decode cX4_takeSign 5 = .ok (.invokevirtual 83, 3) := by decide +kernel
theorem dX4_takeSign_8 : decode cX4_takeSign 8 = .ok (.iload_n 1, 1) := by decide +kernel
theorem dX4_takeSign_9 : decode cX4_takeSign 9 = .ok (.if_icmp .eq 5, 3) := by decide +kernel
theorem dX4_takeSign_12 : decode cX4_takeSign 12 = .ok (.iconst 0, 1) := by decide +kernel
theorem dX4_takeSign_13 : decode cX4_takeSign 13 = .ok (.ireturn, 1) := by decide +kernel
theorem dX4_takeSign_14 : decode cX4_takeSign 14 = .ok (.aload_n 0, 1) := by decide +kernel
theorem dX4_takeSign_15 : decode cX4_takeSign 15 = .ok (.dup, 1) := by decide +kernel
theorem dX4_takeSign_16 : decode cX4_takeSign 16 = .ok (.getfield 19, 3) := by decide +kernel
theorem dX4_takeSign_19 : decode cX4_takeSign 19 = .ok (.iconst 1, 1) := by decide +kernel
theorem dX4_takeSign_20 : decode cX4_takeSign 20 = .ok (.iadd, 1) := by decide +kernel
theorem dX4_takeSign_21 : decode cX4_takeSign 21 = .ok (.putfield 19, 3) := by decide +kernel
theorem dX4_takeSign_24 : decode cX4_takeSign 24 = .ok (.iconst 1, 1) := by decide +kernel
theorem dX4_takeSign_25 : decode cX4_takeSign 25 = .ok (.ireturn, 1) := by decide +kernel
set_option maxRecDepth 20000 in
theorem ggX4_skipSpaces_X4_signHere : GoodIn wsX4_skipSpaces wsX4_signHere := goodIn_r _ [7, 1, 2, 8, 9, 10, 11, 12, 13, 14, 15, 16] (by decide +kernel) (by decide +kernel)
set_option maxRecDepth 20000 in
theorem gX4_skipSpaces_X4_signHere : GoodIn wsX4_skipSpaces (wsV RX4 83 RX4 yX4_signHere wsX4_signHere) := goodIn_app (goodIn_of _ (by decide +kernel)) ggX4_skipSpaces_X4_signHere
theorem dX4_skipSpaces_0 : decode cX4_skipSpaces 0 = .ok (.aload_n 0, 1) := by decide +kernel
theorem dX4_skipSpaces_1 : decode cX4_skipSpaces 1 = .ok (.getfield 19, 3) := by decide +kernel
theorem dX4_skipSpaces_4 : decode cX4_skipSpaces 4 = .ok (.aload_n 0, 1) := by decide +kernel
theorem dX4_skipSpaces_5 : decode cX4_skipSpaces 5 = .ok (.getfield 9, 3) := by decide +kernel
theorem dX4_skipSpaces_8 : decode cX4_skipSpaces 8 = .ok (.if_icmp .ge 25, 3) := by decide +kernel
theorem dX4_skipSpaces_11 : decode cX4_skipSpaces 11 = .ok (.aload_n 0, 1) := by decide +kernel
theorem dX4_skipSpaces_12 : decode cX4_skipSpaces 12 = .ok (.invokevirtual 83, 3) := by decide +kernel
theorem dX4_skipSpaces_15 : decode cX4_skipSpaces 15 = .ok (.bipush 32, 2) := by decide +kernel
theorem dX4_skipSpaces_17 : decode cX4_skipSpaces 17 = .ok (.if_icmp .ne 16, 3) := by decide +kernel
theorem dX4_skipSpaces_20 : decode cX4_skipSpaces 20 = .ok (.aload_n 0, 1) := by decide +kernel
theorem dX4_skipSpaces_21 : decode cX4_skipSpaces 21 = .ok (.dup, 1) := by decide +kernel
theorem dX4_skipSpaces_22 : decode cX4_skipSpaces 22 = .ok (.getfield 19, 3) := by decide +kernel
theorem dX4_skipSpaces_25 : decode cX4_skipSpaces 25 = .ok (.iconst 1, 1) := by decide +kernel
theorem dX4_skipSpaces_26 : decode cX4_skipSpaces 26 = .ok (.iadd, 1) := by decide +kernel
theorem dX4_skipSpaces_27 : decode cX4_skipSpaces 27 = .ok (.putfield 19, 3) := by decide +kernel
theorem dX4_skipSpaces_30 : decode cX4_skipSpaces 30 = .ok (.goto (-30), 3) := by decide +kernel
theorem dX4_skipSpaces_33 : decode cX4_skipSpaces 33 = .ok (.return_, 1) := by decide +kernel
set_option maxRecDepth 20000 in
theorem ggX4_isDigitHere_X4_signHere : GoodIn wsX4_isDigitHere wsX4_signHere := goodIn_r _ [5, 6, 7, 8, 9, 10, 11, 12, 13, 14, 15, 16] (by decide +kernel) (by decide +kernel)
set_option maxRecDepth 20000 in
theorem gX4_isDigitHere_X4_signHere : GoodIn wsX4_isDigitHere (wsV RX4 83 RX4 yX4_signHere wsX4_signHere) := goodIn_app (goodIn_of _ (by decide +kernel)) ggX4_isDigitHere_X4_signHere
theorem dX4_isDigitHere_0 : decode cX4_isDigitHere 0 = .ok (.aload_n 0, 1) := by decide +kernel
theorem dX4_isDigitHere_1 : decode cX4_isDigitHere 1 = .ok (.invokevirtual 83, 3) := by decide +kernel
theorem dX4_isDigitHere_4 : decode cX4_isDigitHere 4 = .ok (.bipush 48, 2) := by decide +kernel
theorem dX4_isDigitHere_6 : decode cX4_isDigitHere 6 = .ok (.if_icmp .lt 16, 3) := by decide +kernel
theorem dX4_isDigitHere_9 : decode cX4_isDigitHere 9 = .ok (.aload_n 0, 1) := by decide +kernel
theorem dX4_isDigitHere_10 : decode cX4_isDigitHere 10 = .ok (.invokevirtual 83, 3) := by decide +kernel
theorem dX4_isDigitHere_13 : decode cX4_isDigitHere 13 = .ok (.bipush 57, 2) := by decide +kernel
theorem dX4_isDigitHere_15 : decode cX4_isDigitHere 15 = .ok (.if_icmp .gt 7, 3) := by decide +kernel
theorem dX4_isDigitHere_18 : decode cX4_isDigitHere 18 = .ok (.iconst 1, 1) := by decide +kernel
theorem dX4_isDigitHere_19 : decode cX4_isDigitHere 19 = .ok (.goto 4, 3) := by decide +kernel
theorem dX4_isDigitHere_22 : decode cX4_isDigitHere 22 = .ok (.iconst 0, 1) := by decide +kernel
theorem dX4_isDigitHere_23 : decode cX4_isDigitHere 23 = .ok (.ireturn, 1) := by decide +kernel
theorem dX4_signHere_0 : decode cX4_signHere 0 = .ok (.aload_n 0, 1) := by decide +kernel
theorem dX4_signHere_1 : decode cX4_signHere 1 = .ok (.getfield 19, 3) := by decide +kernel
theorem dX4_signHere_4 : decode cX4_signHere 4 = .ok (.ifCond .lt 26, 3) := by decide +kernel
theorem dX4_signHere_7 : decode cX4_signHere 7 = .ok (.aload_n 0, 1) := by decide +kernel
theorem dX4_signHere_8 : decode cX4_signHere 8 = .ok (.getfield 19, 3) := by decide +kernel
theorem dX4_signHere_11 : decode cX4_signHere 11 = .ok (.aload_n 0, 1) := by decide +kernel
theorem dX4_signHere_12 : decode cX4_signHere 12 = .ok (.getfield 9, 3) := by decide +kernel
theorem dX4_signHere_15 : decode cX4_signHere 15 = .ok (.if_icmp .ge 15, 3) := by decide +kernel
theorem dX4_signHere_18 : decode cX4_signHere 18 = .ok (.aload_n 0, 1) := by decide +kernel
theorem dX4_signHere_19 : decode cX4_signHere 19 = .ok (.getfield 15, 3) := by decide +kernel
theorem dX4_signHere_22 : decode cX4_signHere 22 = .ok (.aload_n 0, 1) := by decide +kernel
theorem dX4_signHere_23 : decode cX4_signHere 23 = .ok (.getfield 19, 3) := by decide +kernel
theorem dX4_signHere_26 : decode cX4_signHere 26 = .ok (.caload, 1) := by decide +kernel
theorem dX4_signHere_27 : decode cX4_signHere 27 = .ok (.goto 4, 3) := by decide +kernel
theorem dX4_signHere_30 : decode cX4_signHere 30 = .ok (.iconst 0, 1) := by decide +kernel
theorem dX4_signHere_31 : decode cX4_signHere 31 = .ok (.ireturn, 1) := by decide +kernel
