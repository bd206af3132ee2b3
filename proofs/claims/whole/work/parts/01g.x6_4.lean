set_option maxRecDepth 20000 in
theorem ggX6_get_X6_isRow : GoodIn wsX6_get wsX6_isRow := goodIn_r _ [5, 6, 7, 8, 4, 9, 21, 22, 23, 24, 25, 26, 27, 28, 29, 30, 31] (by decide +kernel) (by decide +kernel)
set_option maxRecDepth 20000 in
theorem gX6_get_X6_isRow : GoodIn wsX6_get (wsV RX6 72 RX6 yX6_isRow wsX6_isRow) := goodIn_app (goodIn_of _ (by decide +kernel)) ggX6_get_X6_isRow
set_option maxRecDepth 20000 in
theorem ggX6_get_X6_in : GoodIn wsX6_get wsX6_in := goodIn_r _ [9] (by decide +kernel) (by decide +kernel)
set_option maxRecDepth 20000 in
theorem gX6_get_X6_in : GoodIn wsX6_get (va_wsS RX6 28 yX6_in wsX6_in) := goodIn_app (goodIn_of _ (by decide +kernel)) ggX6_get_X6_in
set_option maxRecDepth 20000 in
theorem ggX6_get_X6_valueOf : GoodIn wsX6_get wsX6_valueOf := goodIn_r _ [13, 6, 14, 15, 16, 4, 17, 18, 19, 20, 21, 22, 23, 24, 25, 26, 27, 28, 29, 30, 31] (by decide +kernel) (by decide +kernel)
set_option maxRecDepth 20000 in
theorem gX6_get_X6_valueOf : GoodIn wsX6_get (wsV RX6 76 RX6 yX6_valueOf wsX6_valueOf) := goodIn_app (goodIn_of _ (by decide +kernel)) ggX6_get_X6_valueOf
theorem dX6_get_0 : decode cX6_get 0 = .ok (.aload_n 0, 1) := by decide +kernel
theorem dX6_get_1 : decode cX6_get 1 = .ok (.iload_n 1, 1) := by decide +kernel
theorem dX6_get_2 : decode cX6_get 2 = .ok (.invokevirtual 72, 3) := by decide +kernel
theorem dX6_get_5 : decode cX6_get 5 = .ok (.ifCond .eq 22, 3) := by decide +kernel
theorem dX6_get_8 : decode cX6_get 8 = .ok (.iload_n 2, 1) := by decide +kernel
theorem dX6_get_9 : decode cX6_get 9 = .ok (.iconst 0, 1) := by decide +kernel
theorem dX6_get_10 : decode cX6_get 10 = .ok (.bipush 15, 2) := by decide +kernel
theorem dX6_get_12 : decode cX6_get 12 = .ok (.invokestatic 28, 3) := by decide +kernel
theorem dX6_get_15 : decode cX6_get 15 = .ok (.ifCond .eq 12, 3) := by decide +kernel
theorem dX6_get_18 : decode cX6_get 18 = .ok (.aload_n 0, 1) := by decide +kernel
theorem dX6_get_19 : decode cX6_get 19 = .ok (.iload_n 1, 1) := by decide +kernel
theorem dX6_get_20 : decode cX6_get 20 = .ok (.iload_n 2, 1) := by decide +kernel
theorem dX6_get_21 : decode cX6_get 21 = .ok (.invokevirtual 76, 3) := by decide +kernel
theorem dX6_get_24 : decode cX6_get 24 = .ok (.goto 4, 3) := by decide +kernel
theorem dX6_get_27 : decode cX6_get 27 = .ok (.iconst (-1), 1) := by decide +kernel
theorem dX6_get_28 : decode cX6_get 28 = .ok (.ireturn, 1) := by decide +kernel
theorem dX6_formMany_0 : decode cX6_formMany 0 = .ok (.iconst 0, 1) := by decide +kernel
theorem dX6_formMany_1 : decode cX6_formMany 1 = .ok (.istore_n 1, 1) := by decide +kernel
theorem dX6_formMany_2 : decode cX6_formMany 2 = .ok (.iconst 0, 1) := by decide +kernel
theorem dX6_formMany_3 : decode cX6_formMany 3 = .ok (.istore_n 2, 1) := by decide +kernel
theorem dX6_formMany_4 : decode cX6_formMany 4 = .ok (.iload_n 2, 1) := by decide +kernel
theorem dX6_formMany_5 : decode cX6_formMany 5 = .ok (.bipush 24, 2) := by decide +kernel
theorem dX6_formMany_7 : decode cX6_formMany 7 = .ok (.if_icmp .ge 30, 3) := by decide +kernel
theorem dX6_formMany_10 : decode cX6_formMany 10 = .ok (.iload_n 1, 1) := by decide +kernel
theorem dX6_formMany_11 : decode cX6_formMany 11 = .ok (.aload_n 0, 1) := by decide +kernel
theorem dX6_formMany_12 : decode cX6_formMany 12 = .ok (.getfield 7, 3) := by decide +kernel
theorem dX6_formMany_15 : decode cX6_formMany 15 = .ok (.sipush 457, 3) := by decide +kernel
theorem dX6_formMany_18 : decode cX6_formMany 18 = .ok (.iload_n 2, 1) := by decide +kernel
theorem dX6_formMany_19 : decode cX6_formMany 19 = .ok (.iadd, 1) := by decide +kernel
theorem dX6_formMany_20 : decode cX6_formMany 20 = .ok (.iaload, 1) := by decide +kernel
theorem dX6_formMany_21 : decode cX6_formMany 21 = .ok (.ifCond .lt 7, 3) := by decide +kernel
theorem dX6_formMany_24 : decode cX6_formMany 24 = .ok (.iconst 1, 1) := by decide +kernel
theorem dX6_formMany_25 : decode cX6_formMany 25 = .ok (.goto 4, 3) := by decide +kernel
theorem dX6_formMany_28 : decode cX6_formMany 28 = .ok (.iconst 0, 1) := by decide +kernel
theorem dX6_formMany_29 : decode cX6_formMany 29 = .ok (.iadd, 1) := by decide +kernel
theorem dX6_formMany_30 : decode cX6_formMany 30 = .ok (.istore_n 1, 1) := by decide +kernel
theorem dX6_formMany_31 : decode cX6_formMany 31 = .ok (.iinc 2 1, 3) := by decide +kernel
theorem dX6_formMany_34 : decode cX6_formMany 34 = .ok (.goto (-30), 3) := by decide +kernel
theorem dX6_formMany_37 : decode cX6_formMany 37 = .ok (.iload_n 1, 1) := by decide +kernel
theorem dX6_formMany_38 : decode cX6_formMany 38 = .ok (.ireturn, 1) := by decide +kernel
set_option maxRecDepth 20000 in
theorem ggX6_full_X6_layStore : GoodIn wsX6_full wsX6_layStore := goodIn_r _ [6, 1, 7, 8, 9, 10, 11, 5, 12, 13, 14, 15, 16, 17, 18, 19, 20, 21, 22, 23, 24, 25, 26] (by decide +kernel) (by decide +kernel)
set_option maxRecDepth 20000 in
theorem gX6_full_X6_layStore : GoodIn wsX6_full (wsV RX6 56 RX6 yX6_layStore wsX6_layStore) := goodIn_app (goodIn_of _ (by decide +kernel)) ggX6_full_X6_layStore
theorem dX6_full_0 : decode cX6_full 0 = .ok (.aload_n 0, 1) := by decide +kernel
theorem dX6_full_1 : decode cX6_full 1 = .ok (.invokevirtual 56, 3) := by decide +kernel
theorem dX6_full_4 : decode cX6_full 4 = .ok (.iconst 0, 1) := by decide +kernel
theorem dX6_full_5 : decode cX6_full 5 = .ok (.istore_n 1, 1) := by decide +kernel
theorem dX6_full_6 : decode cX6_full 6 = .ok (.iconst 0, 1) := by decide +kernel
theorem dX6_full_7 : decode cX6_full 7 = .ok (.istore_n 2, 1) := by decide +kernel
theorem dX6_full_8 : decode cX6_full 8 = .ok (.iload_n 2, 1) := by decide +kernel
theorem dX6_full_9 : decode cX6_full 9 = .ok (.sipush 800, 3) := by decide +kernel
theorem dX6_full_12 : decode cX6_full 12 = .ok (.if_icmp .ge 27, 3) := by decide +kernel
theorem dX6_full_15 : decode cX6_full 15 = .ok (.iload_n 1, 1) := by decide +kernel
theorem dX6_full_16 : decode cX6_full 16 = .ok (.aload_n 0, 1) := by decide +kernel
theorem dX6_full_17 : decode cX6_full 17 = .ok (.getfield 19, 3) := by decide +kernel
theorem dX6_full_20 : decode cX6_full 20 = .ok (.iload_n 2, 1) := by decide +kernel
theorem dX6_full_21 : decode cX6_full 21 = .ok (.iaload, 1) := by decide +kernel
theorem dX6_full_22 : decode cX6_full 22 = .ok (.iconst (-1), 1) := by decide +kernel
theorem dX6_full_23 : decode cX6_full 23 = .ok (.if_icmp .ne 7, 3) := by decide +kernel
theorem dX6_full_26 : decode cX6_full 26 = .ok (.iconst 0, 1) := by decide +kernel
theorem dX6_full_27 : decode cX6_full 27 = .ok (.goto 4, 3) := by decide +kernel
theorem dX6_full_30 : decode cX6_full 30 = .ok (.iconst 1, 1) := by decide +kernel
theorem dX6_full_31 : decode cX6_full 31 = .ok (.iadd, 1) := by decide +kernel
theorem dX6_full_32 : decode cX6_full 32 = .ok (.istore_n 1, 1) := by decide +kernel
theorem dX6_full_33 : decode cX6_full 33 = .ok (.iinc 2 1, 3) := by decide +kernel
theorem dX6_full_36 : decode cX6_full 36 = .ok (.goto (-28), 3) := by decide +kernel
theorem dX6_full_39 : decode cX6_full 39 = .ok (.iload_n 1, 1) := by decide +kernel
theorem dX6_full_40 : decode cX6_full 40 = .ok (.ireturn, 1) := by decide +kernel
set_option maxRecDepth 20000 in
theorem ggX6_strangers_X6_layStore : GoodIn wsX6_strangers wsX6_layStore := goodIn_r _ [7, 2, 1, 8, 9, 10, 11, 6, 12, 13, 14, 15, 16, 17, 18, 19, 20, 21, 22, 23, 24, 25, 26] (by decide +kernel) (by decide +kernel)
set_option maxRecDepth 20000 in
theorem gX6_strangers_X6_layStore : GoodIn wsX6_strangers (wsV RX6 56 RX6 yX6_layStore wsX6_layStore) := goodIn_app (goodIn_of _ (by decide +kernel)) ggX6_strangers_X6_layStore
theorem dX6_strangers_0 : decode cX6_strangers 0 = .ok (.aload_n 0, 1) := by decide +kernel
theorem dX6_strangers_1 : decode cX6_strangers 1 = .ok (.invokevirtual 56, 3) := by decide +kernel
theorem dX6_strangers_4 : decode cX6_strangers 4 = .ok (.iconst 0, 1) := by decide +kernel
theorem dX6_strangers_5 : decode cX6_strangers 5 = .ok (.istore_n 1, 1) := by decide +kernel
theorem dX6_strangers_6 : decode cX6_strangers 6 = .ok (.iconst 0, 1) := by decide +kernel
theorem dX6_strangers_7 : decode cX6_strangers 7 = .ok (.istore_n 2, 1) := by decide +kernel
theorem dX6_strangers_8 : decode cX6_strangers 8 = .ok (.iload_n 2, 1) := by decide +kernel
theorem dX6_strangers_9 : decode cX6_strangers 9 = .ok (.aload_n 0, 1) := by decide +kernel
theorem dX6_strangers_10 : decode cX6_strangers 10 = .ok (.getfield 7, 3) := by decide +kernel
theorem dX6_strangers_13 : decode cX6_strangers 13 = .ok (.iconst 0, 1) := by decide +kernel
theorem dX6_strangers_14 : decode cX6_strangers 14 = .ok (.iaload, 1) := by decide +kernel
theorem dX6_strangers_15 : decode cX6_strangers 15 = .ok (.if_icmp .ge 79, 3) := by decide +kernel
theorem dX6_strangers_18 : decode cX6_strangers 18 = .ok (.aload_n 0, 1) := by decide +kernel
theorem dX6_strangers_19 : decode cX6_strangers 19 = .ok (.getfield 7, 3) := by decide +kernel
theorem dX6_strangers_22 : decode cX6_strangers 22 = .ok (.bipush 49, 2) := by decide +kernel
theorem dX6_strangers_24 : decode cX6_strangers 24 = .ok (.iload_n 2, 1) := by decide +kernel
theorem dX6_strangers_25 : decode cX6_strangers 25 = .ok (.iadd, 1) := by decide +kernel
theorem dX6_strangers_26 : decode cX6_strangers 26 = .ok (.iaload, 1) := by decide +kernel
theorem dX6_strangers_27 : decode cX6_strangers 27 = .ok (.istore_n 3, 1) := by decide +kernel
theorem dX6_strangers_28 : decode cX6_strangers 28 = .ok (.iconst 0, 1) := by decide +kernel
theorem dX6_strangers_29 : decode cX6_strangers 29 = .ok (.istore 4, 2) := by decide +kernel
theorem dX6_strangers_31 : decode cX6_strangers 31 = .ok (.iload 4, 2) := by decide +kernel
theorem dX6_strangers_33 : decode cX6_strangers 33 = .ok (.bipush 16, 2) := by decide +kernel
theorem dX6_strangers_35 : decode cX6_strangers 35 = .ok (.if_icmp .ge 53, 3) := by decide +kernel
theorem dX6_strangers_38 : decode cX6_strangers 38 = .ok (.iload_n 3, 1) := by decide +kernel
theorem dX6_strangers_39 : decode cX6_strangers 39 = .ok (.ifCond .lt 49, 3) := by decide +kernel
theorem dX6_strangers_42 : decode cX6_strangers 42 = .ok (.aload_n 0, 1) := by decide +kernel
theorem dX6_strangers_43 : decode cX6_strangers 43 = .ok (.getfield 19, 3) := by decide +kernel
theorem dX6_strangers_46 : decode cX6_strangers 46 = .ok (.aload_n 0, 1) := by decide +kernel
theorem dX6_strangers_47 : decode cX6_strangers 47 = .ok (.getfield 7, 3) := by decide +kernel
theorem dX6_strangers_50 : decode cX6_strangers 50 = .ok (.sipush 457, 3) := by decide +kernel
theorem dX6_strangers_53 : decode cX6_strangers 53 = .ok (.iload_n 3, 1) := by decide +kernel
theorem dX6_strangers_54 : decode cX6_strangers 54 = .ok (.iadd, 1) := by decide +kernel
theorem dX6_strangers_55 : decode cX6_strangers 55 = .ok (.iaload, 1) := by decide +kernel
theorem dX6_strangers_56 : decode cX6_strangers 56 = .ok (.iload 4, 2) := by decide +kernel
theorem dX6_strangers_58 : decode cX6_strangers 58 = .ok (.iadd, 1) := by decide +kernel
theorem dX6_strangers_59 : decode cX6_strangers 59 = .ok (.iaload, 1) := by decide +kernel
theorem dX6_strangers_60 : decode cX6_strangers 60 = .ok (.istore 5, 2) := by decide +kernel
theorem dX6_strangers_62 : decode cX6_strangers 62 = .ok (.iload_n 1, 1) := by decide +kernel
theorem dX6_strangers_63 : decode cX6_strangers 63 = .ok (.iload 5, 2) := by decide +kernel
theorem dX6_strangers_65 : decode cX6_strangers 65 = .ok (.iconst (-1), 1) := by decide +kernel
theorem dX6_strangers_66 : decode cX6_strangers 66 = .ok (.if_icmp .eq 13, 3) := by decide +kernel
theorem dX6_strangers_69 : decode cX6_strangers 69 = .ok (.iload 5, 2) := by decide +kernel
theorem dX6_strangers_71 : decode cX6_strangers 71 = .ok (.iload_n 3, 1) := by decide +kernel
theorem dX6_strangers_72 : decode cX6_strangers 72 = .ok (.if_icmp .eq 7, 3) := by decide +kernel
theorem dX6_strangers_75 : decode cX6_strangers 75 = .ok (.iconst 1, 1) := by decide +kernel
theorem dX6_strangers_76 : decode cX6_strangers 76 = .ok (.goto 4, 3) := by decide +kernel
theorem dX6_strangers_79 : decode cX6_strangers 79 = .ok (.iconst 0, 1) := by decide +kernel
theorem dX6_strangers_80 : decode cX6_strangers 80 = .ok (.iadd, 1) := by decide +kernel
theorem dX6_strangers_81 : decode cX6_strangers 81 = .ok (.istore_n 1, 1) := by decide +kernel
theorem dX6_strangers_82 : decode cX6_strangers 82 = .ok (.iinc 4 1, 3) := by decide +kernel
theorem dX6_strangers_85 : decode cX6_strangers 85 = .ok (.goto (-54), 3) := by decide +kernel
theorem dX6_strangers_88 : decode cX6_strangers 88 = .ok (.iinc 2 1, 3) := by decide +kernel
theorem dX6_strangers_91 : decode cX6_strangers 91 = .ok (.goto (-83), 3) := by decide +kernel
theorem dX6_strangers_94 : decode cX6_strangers 94 = .ok (.iload_n 1, 1) := by decide +kernel
theorem dX6_strangers_95 : decode cX6_strangers 95 = .ok (.ireturn, 1) := by decide +kernel
set_option maxRecDepth 20000 in
theorem ggX6_count_X6_formMany : GoodIn wsX6_count wsX6_formMany := goodIn_r _ [8, 1, 37, 38, 39, 40, 41, 42, 43, 44, 45, 46, 47] (by decide +kernel) (by decide +kernel)
set_option maxRecDepth 20000 in
theorem gX6_count_X6_formMany : GoodIn wsX6_count (wsV RX6 145 RX6 yX6_formMany wsX6_formMany) := goodIn_app (goodIn_of _ (by decide +kernel)) ggX6_count_X6_formMany
set_option maxRecDepth 20000 in
theorem ggX6_count_X6_entries : GoodIn wsX6_count wsX6_entries := goodIn_r _ [12, 1, 37, 38, 39, 40, 41, 42, 43, 44, 45, 46, 47] (by decide +kernel) (by decide +kernel)
set_option maxRecDepth 20000 in
theorem gX6_count_X6_entries : GoodIn wsX6_count (wsV RX6 45 RX6 yX6_entries wsX6_entries) := goodIn_app (goodIn_of _ (by decide +kernel)) ggX6_count_X6_entries
set_option maxRecDepth 20000 in
theorem ggX6_count_X6_bits : GoodIn wsX6_count wsX6_bits := goodIn_r _ [15] (by decide +kernel) (by decide +kernel)
set_option maxRecDepth 20000 in
theorem gX6_count_X6_bits : GoodIn wsX6_count (va_wsS RX6 97 yX6_bits wsX6_bits) := goodIn_app (goodIn_of _ (by decide +kernel)) ggX6_count_X6_bits
set_option maxRecDepth 20000 in
theorem ggX6_count_X6_full : GoodIn wsX6_count wsX6_full := goodIn_r _ [19, 20, 21, 22, 23, 7, 24, 1, 25, 9, 10, 11, 12, 26, 27, 28, 37, 38, 39, 40, 41, 42, 43, 44, 45, 46, 47] (by decide +kernel) (by decide +kernel)
set_option maxRecDepth 20000 in
theorem gX6_count_X6_full : GoodIn wsX6_count (wsV RX6 148 RX6 yX6_full wsX6_full) := goodIn_app (goodIn_of _ (by decide +kernel)) ggX6_count_X6_full
set_option maxRecDepth 20000 in
theorem ggX6_count_X6_end : GoodIn wsX6_count wsX6_end := goodIn_r _ [32, 20, 21, 22, 23, 7, 24, 1, 25, 9, 10, 11, 12, 26, 27, 28, 37, 38, 39, 40, 41, 42, 43, 44, 45, 46, 47] (by decide +kernel) (by decide +kernel)
set_option maxRecDepth 20000 in
theorem gX6_count_X6_end : GoodIn wsX6_count (wsV RX6 107 RX6 yX6_end wsX6_end) := goodIn_app (goodIn_of _ (by decide +kernel)) ggX6_count_X6_end
set_option maxRecDepth 20000 in
theorem ggX6_count_X6_strangers : GoodIn wsX6_count wsX6_strangers := goodIn_r _ [36, 1, 20, 21, 22, 23, 7, 24, 25, 9, 10, 11, 12, 26, 27, 28, 37, 38, 39, 40, 41, 42, 43, 44, 45, 46, 47] (by decide +kernel) (by decide +kernel)
set_option maxRecDepth 20000 in
theorem gX6_count_X6_strangers : GoodIn wsX6_count (wsV RX6 151 RX6 yX6_strangers wsX6_strangers) := goodIn_app (goodIn_of _ (by decide +kernel)) ggX6_count_X6_strangers
theorem dX6_count_0 : decode cX6_count 0 = .ok (.iload_n 1, 1) := by decide +kernel
theorem dX6_count_1 : decode cX6_count 1 = .ok (.tableswitch 131 0 8 #[51, 58, 63, 96, 101, 106, 116, 121, 126], 51) := by decide +kernel
theorem dX6_count_52 : decode cX6_count 52 = .ok (.aload_n 0, 1) := by decide +kernel
theorem dX6_count_53 : decode cX6_count 53 = .ok (.getfield 7, 3) := by decide +kernel
theorem dX6_count_56 : decode cX6_count 56 = .ok (.iconst 0, 1) := by decide +kernel
theorem dX6_count_57 : decode cX6_count 57 = .ok (.iaload, 1) := by decide +kernel
theorem dX6_count_58 : decode cX6_count 58 = .ok (.ireturn, 1) := by decide +kernel
theorem dX6_count_59 : decode cX6_count 59 = .ok (.aload_n 0, 1) := by decide +kernel
theorem dX6_count_60 : decode cX6_count 60 = .ok (.invokevirtual 145, 3) := by decide +kernel
theorem dX6_count_63 : decode cX6_count 63 = .ok (.ireturn, 1) := by decide +kernel
theorem dX6_count_64 : decode cX6_count 64 = .ok (.iconst 0, 1) := by decide +kernel
theorem dX6_count_65 : decode cX6_count 65 = .ok (.istore_n 2, 1) := by decide +kernel
theorem dX6_count_66 : decode cX6_count 66 = .ok (.iconst 0, 1) := by decide +kernel
theorem dX6_count_67 : decode cX6_count 67 = .ok (.istore_n 3, 1) := by decide +kernel
theorem dX6_count_68 : decode cX6_count 68 = .ok (.iload_n 3, 1) := by decide +kernel
theorem dX6_count_69 : decode cX6_count 69 = .ok (.aload_n 0, 1) := by decide +kernel
theorem dX6_count_70 : decode cX6_count 70 = .ok (.getfield 7, 3) := by decide +kernel
theorem dX6_count_73 : decode cX6_count 73 = .ok (.iconst 0, 1) := by decide +kernel
theorem dX6_count_74 : decode cX6_count 74 = .ok (.iaload, 1) := by decide +kernel
theorem dX6_count_75 : decode cX6_count 75 = .ok (.if_icmp .ge 20, 3) := by decide +kernel
theorem dX6_count_78 : decode cX6_count 78 = .ok (.iload_n 2, 1) := by decide +kernel
theorem dX6_count_79 : decode cX6_count 79 = .ok (.aload_n 0, 1) := by decide +kernel
theorem dX6_count_80 : decode cX6_count 80 = .ok (.iload_n 3, 1) := by decide +kernel
theorem dX6_count_81 : decode cX6_count 81 = .ok (.invokevirtual 45, 3) := by decide +kernel
theorem dX6_count_84 : decode cX6_count 84 = .ok (.invokestatic 97, 3) := by decide +kernel
theorem dX6_count_87 : decode cX6_count 87 = .ok (.iadd, 1) := by decide +kernel
theorem dX6_count_88 : decode cX6_count 88 = .ok (.istore_n 2, 1) := by decide +kernel
theorem dX6_count_89 : decode cX6_count 89 = .ok (.iinc 3 1, 3) := by decide +kernel
theorem dX6_count_92 : decode cX6_count 92 = .ok (.goto (-24), 3) := by decide +kernel
theorem dX6_count_95 : decode cX6_count 95 = .ok (.iload_n 2, 1) := by decide +kernel
theorem dX6_count_96 : decode cX6_count 96 = .ok (.ireturn, 1) := by decide +kernel
theorem dX6_count_97 : decode cX6_count 97 = .ok (.aload_n 0, 1) := by decide +kernel
theorem dX6_count_98 : decode cX6_count 98 = .ok (.invokevirtual 148, 3) := by decide +kernel
theorem dX6_count_101 : decode cX6_count 101 = .ok (.ireturn, 1) := by decide +kernel
theorem dX6_count_102 : decode cX6_count 102 = .ok (.aload_n 0, 1) := by decide +kernel
theorem dX6_count_103 : decode cX6_count 103 = .ok (.invokevirtual 107, 3) := by decide +kernel
theorem dX6_count_106 : decode cX6_count 106 = .ok (.ireturn, 1) := by decide +kernel
theorem dX6_count_107 : decode cX6_count 107 = .ok (.aload_n 0, 1) := by decide +kernel
theorem dX6_count_108 : decode cX6_count 108 = .ok (.invokevirtual 107, 3) := by decide +kernel
theorem dX6_count_111 : decode cX6_count 111 = .ok (.aload_n 0, 1) := by decide +kernel
theorem dX6_count_112 : decode cX6_count 112 = .ok (.invokevirtual 148, 3) := by decide +kernel
theorem dX6_count_115 : decode cX6_count 115 = .ok (.isub, 1) := by decide +kernel
theorem dX6_count_116 : decode cX6_count 116 = .ok (.ireturn, 1) := by decide +kernel
theorem dX6_count_117 : decode cX6_count 117 = .ok (.aload_n 0, 1) := by decide +kernel
theorem dX6_count_118 : decode cX6_count 118 = .ok (.invokevirtual 151, 3) := by decide +kernel
theorem dX6_count_121 : decode cX6_count 121 = .ok (.ireturn, 1) := by decide +kernel
theorem dX6_count_122 : decode cX6_count 122 = .ok (.aload_n 0, 1) := by decide +kernel
theorem dX6_count_123 : decode cX6_count 123 = .ok (.getfield 36, 3) := by decide +kernel
theorem dX6_count_126 : decode cX6_count 126 = .ok (.ireturn, 1) := by decide +kernel
theorem dX6_count_127 : decode cX6_count 127 = .ok (.aload_n 0, 1) := by decide +kernel
theorem dX6_count_128 : decode cX6_count 128 = .ok (.getfield 111, 3) := by decide +kernel
theorem dX6_count_131 : decode cX6_count 131 = .ok (.ireturn, 1) := by decide +kernel
theorem dX6_count_132 : decode cX6_count 132 = .ok (.iconst (-1), 1) := by decide +kernel
theorem dX6_count_133 : decode cX6_count 133 = .ok (.ireturn, 1) := by decide +kernel
set_option maxRecDepth 20000 in
theorem ggX6_row_X6_isRow : GoodIn wsX6_row wsX6_isRow := goodIn_r _ [6, 1, 7, 8, 5, 9, 17, 18, 19, 20, 21, 22, 23, 24, 25, 26, 27] (by decide +kernel) (by decide +kernel)
set_option maxRecDepth 20000 in
theorem gX6_row_X6_isRow : GoodIn wsX6_row (wsV RX6 72 RX6 yX6_isRow wsX6_isRow) := goodIn_app (goodIn_of _ (by decide +kernel)) ggX6_row_X6_isRow
set_option maxRecDepth 20000 in
theorem ggX6_row_X6_in : GoodIn wsX6_row wsX6_in := goodIn_r _ [9] (by decide +kernel) (by decide +kernel)
set_option maxRecDepth 20000 in
theorem gX6_row_X6_in : GoodIn wsX6_row (va_wsS RX6 28 yX6_in wsX6_in) := goodIn_app (goodIn_of _ (by decide +kernel)) ggX6_row_X6_in
set_option maxRecDepth 20000 in
theorem ggX6_row_X6_entries : GoodIn wsX6_row wsX6_entries := goodIn_r _ [13, 1, 17, 18, 19, 20, 21, 22, 23, 24, 25, 26, 27] (by decide +kernel) (by decide +kernel)
set_option maxRecDepth 20000 in
theorem gX6_row_X6_entries : GoodIn wsX6_row (wsV RX6 45 RX6 yX6_entries wsX6_entries) := goodIn_app (goodIn_of _ (by decide +kernel)) ggX6_row_X6_entries
set_option maxRecDepth 20000 in
theorem ggX6_row_X6_bits : GoodIn wsX6_row wsX6_bits := goodIn_r _ [16] (by decide +kernel) (by decide +kernel)
set_option maxRecDepth 20000 in
theorem gX6_row_X6_bits : GoodIn wsX6_row (va_wsS RX6 97 yX6_bits wsX6_bits) := goodIn_app (goodIn_of _ (by decide +kernel)) ggX6_row_X6_bits
theorem dX6_row_0 : decode cX6_row 0 = .ok (.aload_n 0, 1) := by decide +kernel
theorem dX6_row_1 : decode cX6_row 1 = .ok (.iload_n 1, 1) := by decide +kernel
theorem dX6_row_2 : decode cX6_row 2 = .ok (.invokevirtual 72, 3) := by decide +kernel
theorem dX6_row_5 : decode cX6_row 5 = .ok (.ifCond .eq 12, 3) := by decide +kernel
theorem dX6_row_8 : decode cX6_row 8 = .ok (.iload_n 2, 1) := by decide +kernel
theorem dX6_row_9 : decode cX6_row 9 = .ok (.iconst 0, 1) := by decide +kernel
theorem dX6_row_10 : decode cX6_row 10 = .ok (.iconst 4, 1) := by decide +kernel
theorem dX6_row_11 : decode cX6_row 11 = .ok (.invokestatic 28, 3) := by decide +kernel
theorem dX6_row_14 : decode cX6_row 14 = .ok (.ifCond .ne 5, 3) := by decide +kernel
theorem dX6_row_17 : decode cX6_row 17 = .ok (.iconst (-1), 1) := by decide +kernel
theorem dX6_row_18 : decode cX6_row 18 = .ok (.ireturn, 1) := by decide +kernel
theorem dX6_row_19 : decode cX6_row 19 = .ok (.aload_n 0, 1) := by decide +kernel
theorem dX6_row_20 : decode cX6_row 20 = .ok (.getfield 7, 3) := by decide +kernel
theorem dX6_row_23 : decode cX6_row 23 = .ok (.bipush 49, 2) := by decide +kernel
theorem dX6_row_25 : decode cX6_row 25 = .ok (.iload_n 1, 1) := by decide +kernel
theorem dX6_row_26 : decode cX6_row 26 = .ok (.iadd, 1) := by decide +kernel
theorem dX6_row_27 : decode cX6_row 27 = .ok (.iaload, 1) := by decide +kernel
theorem dX6_row_28 : decode cX6_row 28 = .ok (.istore_n 3, 1) := by decide +kernel
theorem dX6_row_29 : decode cX6_row 29 = .ok (.iload_n 2, 1) := by decide +kernel
theorem dX6_row_30 : decode cX6_row 30 = .ok (.tableswitch 79 0 3 #[30, 39, 48, 59], 30) := by decide +kernel
theorem dX6_row_60 : decode cX6_row 60 = .ok (.aload_n 0, 1) := by decide +kernel
theorem dX6_row_61 : decode cX6_row 61 = .ok (.getfield 7, 3) := by decide +kernel
theorem dX6_row_64 : decode cX6_row 64 = .ok (.iconst 1, 1) := by decide +kernel
theorem dX6_row_65 : decode cX6_row 65 = .ok (.iload_n 1, 1) := by decide +kernel
theorem dX6_row_66 : decode cX6_row 66 = .ok (.iadd, 1) := by decide +kernel
theorem dX6_row_67 : decode cX6_row 67 = .ok (.iaload, 1) := by decide +kernel
theorem dX6_row_68 : decode cX6_row 68 = .ok (.ireturn, 1) := by decide +kernel
theorem dX6_row_69 : decode cX6_row 69 = .ok (.aload_n 0, 1) := by decide +kernel
theorem dX6_row_70 : decode cX6_row 70 = .ok (.iload_n 1, 1) := by decide +kernel
theorem dX6_row_71 : decode cX6_row 71 = .ok (.invokevirtual 45, 3) := by decide +kernel
theorem dX6_row_74 : decode cX6_row 74 = .ok (.invokestatic 97, 3) := by decide +kernel
theorem dX6_row_77 : decode cX6_row 77 = .ok (.ireturn, 1) := by decide +kernel
theorem dX6_row_78 : decode cX6_row 78 = .ok (.iload_n 3, 1) := by decide +kernel
theorem dX6_row_79 : decode cX6_row 79 = .ok (.ifCond .ge 8, 3) := by decide +kernel
theorem dX6_row_82 : decode cX6_row 82 = .ok (.bipush (-9), 2) := by decide +kernel
theorem dX6_row_84 : decode cX6_row 84 = .ok (.goto 4, 3) := by decide +kernel
theorem dX6_row_87 : decode cX6_row 87 = .ok (.iload_n 3, 1) := by decide +kernel
theorem dX6_row_88 : decode cX6_row 88 = .ok (.ireturn, 1) := by decide +kernel
theorem dX6_row_89 : decode cX6_row 89 = .ok (.iload_n 3, 1) := by decide +kernel
theorem dX6_row_90 : decode cX6_row 90 = .ok (.ifCond .ge 8, 3) := by decide +kernel
theorem dX6_row_93 : decode cX6_row 93 = .ok (.bipush (-9), 2) := by decide +kernel
theorem dX6_row_95 : decode cX6_row 95 = .ok (.goto 13, 3) := by decide +kernel
theorem dX6_row_98 : decode cX6_row 98 = .ok (.aload_n 0, 1) := by decide +kernel
theorem dX6_row_99 : decode cX6_row 99 = .ok (.getfield 7, 3) := by decide +kernel
theorem dX6_row_102 : decode cX6_row 102 = .ok (.sipush 457, 3) := by decide +kernel
theorem dX6_row_105 : decode cX6_row 105 = .ok (.iload_n 3, 1) := by decide +kernel
theorem dX6_row_106 : decode cX6_row 106 = .ok (.iadd, 1) := by decide +kernel
theorem dX6_row_107 : decode cX6_row 107 = .ok (.iaload, 1) := by decide +kernel
theorem dX6_row_108 : decode cX6_row 108 = .ok (.ireturn, 1) := by decide +kernel
theorem dX6_row_109 : decode cX6_row 109 = .ok (.aload_n 0, 1) := by decide +kernel
theorem dX6_row_110 : decode cX6_row 110 = .ok (.iload_n 1, 1) := by decide +kernel
theorem dX6_row_111 : decode cX6_row 111 = .ok (.invokevirtual 45, 3) := by decide +kernel
theorem dX6_row_114 : decode cX6_row 114 = .ok (.ireturn, 1) := by decide +kernel
set_option maxRecDepth 20000 in
theorem ggX6_form_X6_in : GoodIn wsX6_form wsX6_in := goodIn_r _ [5] (by decide +kernel) (by decide +kernel)
set_option maxRecDepth 20000 in
theorem gX6_form_X6_in : GoodIn wsX6_form (va_wsS RX6 28 yX6_in wsX6_in) := goodIn_app (goodIn_of _ (by decide +kernel)) ggX6_form_X6_in
set_option maxRecDepth 20000 in
theorem ggX6_form_X6_entries : GoodIn wsX6_form wsX6_entries := goodIn_r _ [9, 1, 17, 18, 19, 20, 21, 22, 23, 24, 25, 26, 27] (by decide +kernel) (by decide +kernel)
set_option maxRecDepth 20000 in
theorem gX6_form_X6_entries : GoodIn wsX6_form (wsV RX6 45 RX6 yX6_entries wsX6_entries) := goodIn_app (goodIn_of _ (by decide +kernel)) ggX6_form_X6_entries
set_option maxRecDepth 20000 in
theorem ggX6_form_X6_bits : GoodIn wsX6_form wsX6_bits := goodIn_r _ [12] (by decide +kernel) (by decide +kernel)
set_option maxRecDepth 20000 in
theorem gX6_form_X6_bits : GoodIn wsX6_form (va_wsS RX6 97 yX6_bits wsX6_bits) := goodIn_app (goodIn_of _ (by decide +kernel)) ggX6_form_X6_bits
set_option maxRecDepth 20000 in
theorem ggX6_form_X6_sharers : GoodIn wsX6_form wsX6_sharers := goodIn_r _ [16, 1, 17, 18, 19, 20, 21, 22, 23, 24, 25, 26, 27] (by decide +kernel) (by decide +kernel)
set_option maxRecDepth 20000 in
theorem gX6_form_X6_sharers : GoodIn wsX6_form (wsV RX6 62 RX6 yX6_sharers wsX6_sharers) := goodIn_app (goodIn_of _ (by decide +kernel)) ggX6_form_X6_sharers
theorem dX6_form_0 : decode cX6_form 0 = .ok (.iload_n 1, 1) := by decide +kernel
theorem dX6_form_1 : decode cX6_form 1 = .ok (.iconst 0, 1) := by decide +kernel
theorem dX6_form_2 : decode cX6_form 2 = .ok (.bipush 23, 2) := by decide +kernel
theorem dX6_form_4 : decode cX6_form 4 = .ok (.invokestatic 28, 3) := by decide +kernel
theorem dX6_form_7 : decode cX6_form 7 = .ok (.ifCond .eq 12, 3) := by decide +kernel
theorem dX6_form_10 : decode cX6_form 10 = .ok (.iload_n 2, 1) := by decide +kernel
theorem dX6_form_11 : decode cX6_form 11 = .ok (.iconst 0, 1) := by decide +kernel
theorem dX6_form_12 : decode cX6_form 12 = .ok (.iconst 2, 1) := by decide +kernel
theorem dX6_form_13 : decode cX6_form 13 = .ok (.invokestatic 28, 3) := by decide +kernel
theorem dX6_form_16 : decode cX6_form 16 = .ok (.ifCond .ne 5, 3) := by decide +kernel
theorem dX6_form_19 : decode cX6_form 19 = .ok (.iconst (-1), 1) := by decide +kernel
theorem dX6_form_20 : decode cX6_form 20 = .ok (.ireturn, 1) := by decide +kernel
theorem dX6_form_21 : decode cX6_form 21 = .ok (.aload_n 0, 1) := by decide +kernel
theorem dX6_form_22 : decode cX6_form 22 = .ok (.getfield 7, 3) := by decide +kernel
theorem dX6_form_25 : decode cX6_form 25 = .ok (.sipush 457, 3) := by decide +kernel
theorem dX6_form_28 : decode cX6_form 28 = .ok (.iload_n 1, 1) := by decide +kernel
theorem dX6_form_29 : decode cX6_form 29 = .ok (.iadd, 1) := by decide +kernel
theorem dX6_form_30 : decode cX6_form 30 = .ok (.iaload, 1) := by decide +kernel
theorem dX6_form_31 : decode cX6_form 31 = .ok (.ifCond .ge 6, 3) := by decide +kernel
theorem dX6_form_34 : decode cX6_form 34 = .ok (.bipush (-9), 2) := by decide +kernel
theorem dX6_form_36 : decode cX6_form 36 = .ok (.ireturn, 1) := by decide +kernel
theorem dX6_form_37 : decode cX6_form 37 = .ok (.iconst 0, 1) := by decide +kernel
theorem dX6_form_38 : decode cX6_form 38 = .ok (.istore_n 3, 1) := by decide +kernel
theorem dX6_form_39 : decode cX6_form 39 = .ok (.iconst 0, 1) := by decide +kernel
theorem dX6_form_40 : decode cX6_form 40 = .ok (.istore 4, 2) := by decide +kernel
theorem dX6_form_42 : decode cX6_form 42 = .ok (.iload 4, 2) := by decide +kernel
theorem dX6_form_44 : decode cX6_form 44 = .ok (.aload_n 0, 1) := by decide +kernel
theorem dX6_form_45 : decode cX6_form 45 = .ok (.getfield 7, 3) := by decide +kernel
theorem dX6_form_48 : decode cX6_form 48 = .ok (.iconst 0, 1) := by decide +kernel
theorem dX6_form_49 : decode cX6_form 49 = .ok (.iaload, 1) := by decide +kernel
theorem dX6_form_50 : decode cX6_form 50 = .ok (.if_icmp .ge 37, 3) := by decide +kernel
theorem dX6_form_53 : decode cX6_form 53 = .ok (.aload_n 0, 1) := by decide +kernel
theorem dX6_form_54 : decode cX6_form 54 = .ok (.getfield 7, 3) := by decide +kernel
theorem dX6_form_57 : decode cX6_form 57 = .ok (.bipush 49, 2) := by decide +kernel
theorem dX6_form_59 : decode cX6_form 59 = .ok (.iload 4, 2) := by decide +kernel
theorem dX6_form_61 : decode cX6_form 61 = .ok (.iadd, 1) := by decide +kernel
theorem dX6_form_62 : decode cX6_form 62 = .ok (.iaload, 1) := by decide +kernel
theorem dX6_form_63 : decode cX6_form 63 = .ok (.iload_n 1, 1) := by decide +kernel
theorem dX6_form_64 : decode cX6_form 64 = .ok (.if_icmp .ne 15, 3) := by decide +kernel
theorem dX6_form_67 : decode cX6_form 67 = .ok (.aload_n 0, 1) := by decide +kernel
theorem dX6_form_68 : decode cX6_form 68 = .ok (.iload 4, 2) := by decide +kernel
theorem dX6_form_70 : decode cX6_form 70 = .ok (.invokevirtual 45, 3) := by decide +kernel
theorem dX6_form_73 : decode cX6_form 73 = .ok (.invokestatic 97, 3) := by decide +kernel
theorem dX6_form_76 : decode cX6_form 76 = .ok (.goto 4, 3) := by decide +kernel
theorem dX6_form_79 : decode cX6_form 79 = .ok (.iload_n 3, 1) := by decide +kernel
theorem dX6_form_80 : decode cX6_form 80 = .ok (.istore_n 3, 1) := by decide +kernel
theorem dX6_form_81 : decode cX6_form 81 = .ok (.iinc 4 1, 3) := by decide +kernel
theorem dX6_form_84 : decode cX6_form 84 = .ok (.goto (-42), 3) := by decide +kernel
theorem dX6_form_87 : decode cX6_form 87 = .ok (.iload_n 2, 1) := by decide +kernel
theorem dX6_form_88 : decode cX6_form 88 = .ok (.ifCond .ne 16, 3) := by decide +kernel
theorem dX6_form_91 : decode cX6_form 91 = .ok (.aload_n 0, 1) := by decide +kernel
theorem dX6_form_92 : decode cX6_form 92 = .ok (.getfield 7, 3) := by decide +kernel
theorem dX6_form_95 : decode cX6_form 95 = .ok (.sipush 457, 3) := by decide +kernel
theorem dX6_form_98 : decode cX6_form 98 = .ok (.iload_n 1, 1) := by decide +kernel
theorem dX6_form_99 : decode cX6_form 99 = .ok (.iadd, 1) := by decide +kernel
theorem dX6_form_100 : decode cX6_form 100 = .ok (.iaload, 1) := by decide +kernel
theorem dX6_form_101 : decode cX6_form 101 = .ok (.goto 17, 3) := by decide +kernel
theorem dX6_form_104 : decode cX6_form 104 = .ok (.iload_n 2, 1) := by decide +kernel
theorem dX6_form_105 : decode cX6_form 105 = .ok (.iconst 1, 1) := by decide +kernel
theorem dX6_form_106 : decode cX6_form 106 = .ok (.if_icmp .ne 11, 3) := by decide +kernel
theorem dX6_form_109 : decode cX6_form 109 = .ok (.aload_n 0, 1) := by decide +kernel
theorem dX6_form_110 : decode cX6_form 110 = .ok (.iload_n 1, 1) := by decide +kernel
theorem dX6_form_111 : decode cX6_form 111 = .ok (.invokevirtual 62, 3) := by decide +kernel
theorem dX6_form_114 : decode cX6_form 114 = .ok (.goto 4, 3) := by decide +kernel
theorem dX6_form_117 : decode cX6_form 117 = .ok (.iload_n 3, 1) := by decide +kernel
theorem dX6_form_118 : decode cX6_form 118 = .ok (.ireturn, 1) := by decide +kernel
set_option maxRecDepth 20000 in
theorem ggX6_cell_X6_in : GoodIn wsX6_cell wsX6_in := goodIn_r _ [6] (by decide +kernel) (by decide +kernel)
set_option maxRecDepth 20000 in
theorem gX6_cell_X6_in : GoodIn wsX6_cell (va_wsS RX6 28 yX6_in wsX6_in) := goodIn_app (goodIn_of _ (by decide +kernel)) ggX6_cell_X6_in
set_option maxRecDepth 20000 in
theorem ggX6_cell_X6_layStore : GoodIn wsX6_cell wsX6_layStore := goodIn_r _ [10, 1, 11, 2, 12, 13, 14, 5, 15, 16, 17, 18, 19, 20, 21, 22, 23, 24, 25, 26, 27, 28, 29] (by decide +kernel) (by decide +kernel)
set_option maxRecDepth 20000 in
theorem gX6_cell_X6_layStore : GoodIn wsX6_cell (wsV RX6 56 RX6 yX6_layStore wsX6_layStore) := goodIn_app (goodIn_of _ (by decide +kernel)) ggX6_cell_X6_layStore
theorem dX6_cell_0 : decode cX6_cell 0 = .ok (.iload_n 1, 1) := by decide +kernel
theorem dX6_cell_1 : decode cX6_cell 1 = .ok (.iconst 0, 1) := by decide +kernel
theorem dX6_cell_2 : decode cX6_cell 2 = .ok (.sipush 799, 3) := by decide +kernel
theorem dX6_cell_5 : decode cX6_cell 5 = .ok (.invokestatic 28, 3) := by decide +kernel
theorem dX6_cell_8 : decode cX6_cell 8 = .ok (.ifCond .eq 12, 3) := by decide +kernel
theorem dX6_cell_11 : decode cX6_cell 11 = .ok (.iload_n 2, 1) := by decide +kernel
theorem dX6_cell_12 : decode cX6_cell 12 = .ok (.iconst 0, 1) := by decide +kernel
theorem dX6_cell_13 : decode cX6_cell 13 = .ok (.iconst 1, 1) := by decide +kernel
theorem dX6_cell_14 : decode cX6_cell 14 = .ok (.invokestatic 28, 3) := by decide +kernel
theorem dX6_cell_17 : decode cX6_cell 17 = .ok (.ifCond .ne 5, 3) := by decide +kernel
theorem dX6_cell_20 : decode cX6_cell 20 = .ok (.iconst (-1), 1) := by decide +kernel
theorem dX6_cell_21 : decode cX6_cell 21 = .ok (.ireturn, 1) := by decide +kernel
theorem dX6_cell_22 : decode cX6_cell 22 = .ok (.aload_n 0, 1) := by decide +kernel
theorem dX6_cell_23 : decode cX6_cell 23 = .ok (.invokevirtual 56, 3) := by decide +kernel
theorem dX6_cell_26 : decode cX6_cell 26 = .ok (.aload_n 0, 1) := by decide +kernel
theorem dX6_cell_27 : decode cX6_cell 27 = .ok (.getfield 19, 3) := by decide +kernel
theorem dX6_cell_30 : decode cX6_cell 30 = .ok (.iload_n 1, 1) := by decide +kernel
theorem dX6_cell_31 : decode cX6_cell 31 = .ok (.iaload, 1) := by decide +kernel
theorem dX6_cell_32 : decode cX6_cell 32 = .ok (.iconst (-1), 1) := by decide +kernel
theorem dX6_cell_33 : decode cX6_cell 33 = .ok (.if_icmp .ne 8, 3) := by decide +kernel
theorem dX6_cell_36 : decode cX6_cell 36 = .ok (.bipush (-9), 2) := by decide +kernel
theorem dX6_cell_38 : decode cX6_cell 38 = .ok (.goto 22, 3) := by decide +kernel
theorem dX6_cell_41 : decode cX6_cell 41 = .ok (.iload_n 2, 1) := by decide +kernel
theorem dX6_cell_42 : decode cX6_cell 42 = .ok (.ifCond .ne 12, 3) := by decide +kernel
theorem dX6_cell_45 : decode cX6_cell 45 = .ok (.aload_n 0, 1) := by decide +kernel
theorem dX6_cell_46 : decode cX6_cell 46 = .ok (.getfield 22, 3) := by decide +kernel
theorem dX6_cell_49 : decode cX6_cell 49 = .ok (.iload_n 1, 1) := by decide +kernel
theorem dX6_cell_50 : decode cX6_cell 50 = .ok (.iaload, 1) := by decide +kernel
theorem dX6_cell_51 : decode cX6_cell 51 = .ok (.goto 9, 3) := by decide +kernel
theorem dX6_cell_54 : decode cX6_cell 54 = .ok (.aload_n 0, 1) := by decide +kernel
theorem dX6_cell_55 : decode cX6_cell 55 = .ok (.getfield 19, 3) := by decide +kernel
theorem dX6_cell_58 : decode cX6_cell 58 = .ok (.iload_n 1, 1) := by decide +kernel
theorem dX6_cell_59 : decode cX6_cell 59 = .ok (.iaload, 1) := by decide +kernel
theorem dX6_cell_60 : decode cX6_cell 60 = .ok (.ireturn, 1) := by decide +kernel
set_option maxRecDepth 20000 in
theorem ggX6_fit_X6_in : GoodIn wsX6_fit wsX6_in := goodIn_r _ [5] (by decide +kernel) (by decide +kernel)
set_option maxRecDepth 20000 in
theorem gX6_fit_X6_in : GoodIn wsX6_fit (va_wsS RX6 28 yX6_in wsX6_in) := goodIn_app (goodIn_of _ (by decide +kernel)) ggX6_fit_X6_in
set_option maxRecDepth 20000 in
theorem ggX6_fit_X6_layStore : GoodIn wsX6_fit wsX6_layStore := goodIn_r _ [9, 10, 11, 12, 13, 14, 15, 4, 16, 17, 18, 19, 24, 25, 26, 27, 28, 29, 30, 31, 32, 33, 34] (by decide +kernel) (by decide +kernel)
set_option maxRecDepth 20000 in
theorem gX6_fit_X6_layStore : GoodIn wsX6_fit (wsV RX6 56 RX6 yX6_layStore wsX6_layStore) := goodIn_app (goodIn_of _ (by decide +kernel)) ggX6_fit_X6_layStore
set_option maxRecDepth 20000 in
theorem ggX6_fit_X6_fits : GoodIn wsX6_fit wsX6_fits := goodIn_r _ [23, 10, 17, 18, 4, 19, 24, 25, 26, 27, 28, 29, 30, 31, 32, 33, 34] (by decide +kernel) (by decide +kernel)
set_option maxRecDepth 20000 in
theorem gX6_fit_X6_fits : GoodIn wsX6_fit (wsV RX6 59 RX6 yX6_fits wsX6_fits) := goodIn_app (goodIn_of _ (by decide +kernel)) ggX6_fit_X6_fits
theorem dX6_fit_0 : decode cX6_fit 0 = .ok (.iload_n 1, 1) := by decide +kernel
theorem dX6_fit_1 : decode cX6_fit 1 = .ok (.iconst 1, 1) := by decide +kernel
theorem dX6_fit_2 : decode cX6_fit 2 = .ok (.ldc 154, 2) := by decide +kernel
theorem dX6_fit_4 : decode cX6_fit 4 = .ok (.invokestatic 28, 3) := by decide +kernel
theorem dX6_fit_7 : decode cX6_fit 7 = .ok (.ifCond .ne 5, 3) := by decide +kernel
theorem dX6_fit_10 : decode cX6_fit 10 = .ok (.iconst (-1), 1) := by decide +kernel
theorem dX6_fit_11 : decode cX6_fit 11 = .ok (.ireturn, 1) := by decide +kernel
theorem dX6_fit_12 : decode cX6_fit 12 = .ok (.aload_n 0, 1) := by decide +kernel
theorem dX6_fit_13 : decode cX6_fit 13 = .ok (.invokevirtual 56, 3) := by decide +kernel
theorem dX6_fit_16 : decode cX6_fit 16 = .ok (.aload_n 0, 1) := by decide +kernel
theorem dX6_fit_17 : decode cX6_fit 17 = .ok (.iload_n 1, 1) := by decide +kernel
theorem dX6_fit_18 : decode cX6_fit 18 = .ok (.invokevirtual 59, 3) := by decide +kernel
theorem dX6_fit_21 : decode cX6_fit 21 = .ok (.ireturn, 1) := by decide +kernel
set_option maxRecDepth 20000 in
theorem ggX6_endBy_X6_in : GoodIn wsX6_endBy wsX6_in := goodIn_r _ [4] (by decide +kernel) (by decide +kernel)
set_option maxRecDepth 20000 in
theorem gX6_endBy_X6_in : GoodIn wsX6_endBy (va_wsS RX6 28 yX6_in wsX6_in) := goodIn_app (goodIn_of _ (by decide +kernel)) ggX6_endBy_X6_in
set_option maxRecDepth 20000 in
theorem ggX6_endBy_X6_copy : GoodIn wsX6_endBy wsX6_copy := goodIn_r _ [8, 9, 10, 51, 52, 53, 54, 55, 56, 57, 58, 59, 60, 61] (by decide +kernel) (by decide +kernel)
set_option maxRecDepth 20000 in
theorem gX6_endBy_X6_copy : GoodIn wsX6_endBy (wsV RX6 39 RX6 yX6_copy wsX6_copy) := goodIn_app (goodIn_of _ (by decide +kernel)) ggX6_endBy_X6_copy
set_option maxRecDepth 20000 in
theorem ggX6_endBy_X6_pushes : GoodIn wsX6_endBy wsX6_pushes := goodIn_r _ [14, 10, 15, 16, 17, 3, 18, 19, 20, 21, 22, 23, 24, 25, 26, 27, 28, 29, 30, 31, 32, 33, 34, 35, 36, 37, 38, 39, 40, 41, 42, 51, 52, 53, 54, 55, 56, 57, 58, 59, 60, 61] (by decide +kernel) (by decide +kernel)
set_option maxRecDepth 20000 in
theorem gX6_endBy_X6_pushes : GoodIn wsX6_endBy (wsV RX6 103 RX6 yX6_pushes wsX6_pushes) := goodIn_app (goodIn_of _ (by decide +kernel)) ggX6_endBy_X6_pushes
set_option maxRecDepth 20000 in
theorem ggX6_endBy_X6_end : GoodIn wsX6_endBy wsX6_end := goodIn_r _ [46, 37, 33, 34, 35, 3, 36, 10, 38, 15, 16, 17, 18, 30, 31, 32, 51, 52, 53, 54, 55, 56, 57, 58, 59, 60, 61] (by decide +kernel) (by decide +kernel)
set_option maxRecDepth 20000 in
theorem gX6_endBy_X6_end : GoodIn wsX6_endBy (wsV RX6 107 RX6 yX6_end wsX6_end) := goodIn_app (goodIn_of _ (by decide +kernel)) ggX6_endBy_X6_end
set_option maxRecDepth 20000 in
theorem ggX6_endBy_X6_back : GoodIn wsX6_endBy wsX6_back := goodIn_r _ [50, 10, 9, 51, 52, 53, 54, 55, 56, 57, 58, 59, 60, 61] (by decide +kernel) (by decide +kernel)
set_option maxRecDepth 20000 in
theorem gX6_endBy_X6_back : GoodIn wsX6_endBy (wsV RX6 142 RX6 yX6_back wsX6_back) := goodIn_app (goodIn_of _ (by decide +kernel)) ggX6_endBy_X6_back
theorem dX6_endBy_0 : decode cX6_endBy 0 = .ok (.iload_n 1, 1) := by decide +kernel
theorem dX6_endBy_1 : decode cX6_endBy 1 = .ok (.iconst 0, 1) := by decide +kernel
theorem dX6_endBy_2 : decode cX6_endBy 2 = .ok (.iconst 1, 1) := by decide +kernel
theorem dX6_endBy_3 : decode cX6_endBy 3 = .ok (.invokestatic 28, 3) := by decide +kernel
theorem dX6_endBy_6 : decode cX6_endBy 6 = .ok (.ifCond .ne 5, 3) := by decide +kernel
theorem dX6_endBy_9 : decode cX6_endBy 9 = .ok (.iconst (-1), 1) := by decide +kernel
theorem dX6_endBy_10 : decode cX6_endBy 10 = .ok (.ireturn, 1) := by decide +kernel
theorem dX6_endBy_11 : decode cX6_endBy 11 = .ok (.aload_n 0, 1) := by decide +kernel
theorem dX6_endBy_12 : decode cX6_endBy 12 = .ok (.invokevirtual 39, 3) := by decide +kernel
theorem dX6_endBy_15 : decode cX6_endBy 15 = .ok (.aload_n 0, 1) := by decide +kernel
theorem dX6_endBy_16 : decode cX6_endBy 16 = .ok (.iload_n 1, 1) := by decide +kernel
theorem dX6_endBy_17 : decode cX6_endBy 17 = .ok (.ifCond .ne 7, 3) := by decide +kernel
theorem dX6_endBy_20 : decode cX6_endBy 20 = .ok (.iconst 1, 1) := by decide +kernel
theorem dX6_endBy_21 : decode cX6_endBy 21 = .ok (.goto 4, 3) := by decide +kernel
theorem dX6_endBy_24 : decode cX6_endBy 24 = .ok (.iconst 0, 1) := by decide +kernel
theorem dX6_endBy_25 : decode cX6_endBy 25 = .ok (.invokevirtual 103, 3) := by decide +kernel
theorem dX6_endBy_28 : decode cX6_endBy 28 = .ok (.aload_n 0, 1) := by decide +kernel
theorem dX6_endBy_29 : decode cX6_endBy 29 = .ok (.invokevirtual 107, 3) := by decide +kernel
theorem dX6_endBy_32 : decode cX6_endBy 32 = .ok (.istore_n 2, 1) := by decide +kernel
theorem dX6_endBy_33 : decode cX6_endBy 33 = .ok (.aload_n 0, 1) := by decide +kernel
theorem dX6_endBy_34 : decode cX6_endBy 34 = .ok (.invokevirtual 142, 3) := by decide +kernel
theorem dX6_endBy_37 : decode cX6_endBy 37 = .ok (.iload_n 2, 1) := by decide +kernel
theorem dX6_endBy_38 : decode cX6_endBy 38 = .ok (.ireturn, 1) := by decide +kernel
set_option maxRecDepth 20000 in
theorem ggX6_slimmer_X6_entries : GoodIn wsX6_slimmer wsX6_entries := goodIn_r _ [6, 1, 25, 26, 27, 28, 29, 30, 31, 32, 33, 34, 35] (by decide +kernel) (by decide +kernel)
set_option maxRecDepth 20000 in
theorem gX6_slimmer_X6_entries : GoodIn wsX6_slimmer (wsV RX6 45 RX6 yX6_entries wsX6_entries) := goodIn_app (goodIn_of _ (by decide +kernel)) ggX6_slimmer_X6_entries
set_option maxRecDepth 20000 in
theorem ggX6_slimmer_X6_bits : GoodIn wsX6_slimmer wsX6_bits := goodIn_r _ [9] (by decide +kernel) (by decide +kernel)
set_option maxRecDepth 20000 in
theorem gX6_slimmer_X6_bits : GoodIn wsX6_slimmer (va_wsS RX6 97 yX6_bits wsX6_bits) := goodIn_app (goodIn_of _ (by decide +kernel)) ggX6_slimmer_X6_bits
set_option maxRecDepth 20000 in
theorem ggX6_slimmer_X6_most : GoodIn wsX6_slimmer wsX6_most := goodIn_r _ [13, 14, 15, 16, 5, 17, 1, 2, 3, 4, 6, 18, 19, 20, 25, 26, 27, 28, 29, 30, 31, 32, 33, 34, 35] (by decide +kernel) (by decide +kernel)
set_option maxRecDepth 20000 in
theorem gX6_slimmer_X6_most : GoodIn wsX6_slimmer (wsV RX6 100 RX6 yX6_most wsX6_most) := goodIn_app (goodIn_of _ (by decide +kernel)) ggX6_slimmer_X6_most
set_option maxRecDepth 20000 in
theorem ggX6_slimmer_X6_entriesBy : GoodIn wsX6_slimmer wsX6_entriesBy := goodIn_r _ [24, 2, 3, 4, 5, 6, 1, 18, 19, 20, 14, 15, 16, 17, 25, 26, 27, 28, 29, 30, 31, 32, 33, 34, 35] (by decide +kernel) (by decide +kernel)
set_option maxRecDepth 20000 in
theorem gX6_slimmer_X6_entriesBy : GoodIn wsX6_slimmer (wsV RX6 93 RX6 yX6_entriesBy wsX6_entriesBy) := goodIn_app (goodIn_of _ (by decide +kernel)) ggX6_slimmer_X6_entriesBy
theorem dX6_slimmer_0 : decode cX6_slimmer 0 = .ok (.iconst 0, 1) := by decide +kernel
theorem dX6_slimmer_1 : decode cX6_slimmer 1 = .ok (.istore_n 1, 1) := by decide +kernel
theorem dX6_slimmer_2 : decode cX6_slimmer 2 = .ok (.iconst 0, 1) := by decide +kernel
theorem dX6_slimmer_3 : decode cX6_slimmer 3 = .ok (.istore_n 2, 1) := by decide +kernel
theorem dX6_slimmer_4 : decode cX6_slimmer 4 = .ok (.iload_n 2, 1) := by decide +kernel
theorem dX6_slimmer_5 : decode cX6_slimmer 5 = .ok (.aload_n 0, 1) := by decide +kernel
theorem dX6_slimmer_6 : decode cX6_slimmer 6 = .ok (.getfield 7, 3) := by decide +kernel
theorem dX6_slimmer_9 : decode cX6_slimmer 9 = .ok (.iconst 0, 1) := by decide +kernel
theorem dX6_slimmer_10 : decode cX6_slimmer 10 = .ok (.iaload, 1) := by decide +kernel
theorem dX6_slimmer_11 : decode cX6_slimmer 11 = .ok (.if_icmp .ge 35, 3) := by decide +kernel
theorem dX6_slimmer_14 : decode cX6_slimmer 14 = .ok (.iload_n 1, 1) := by decide +kernel
theorem dX6_slimmer_15 : decode cX6_slimmer 15 = .ok (.aload_n 0, 1) := by decide +kernel
theorem dX6_slimmer_16 : decode cX6_slimmer 16 = .ok (.iload_n 2, 1) := by decide +kernel
theorem dX6_slimmer_17 : decode cX6_slimmer 17 = .ok (.invokevirtual 45, 3) := by decide +kernel
theorem dX6_slimmer_20 : decode cX6_slimmer 20 = .ok (.invokestatic 97, 3) := by decide +kernel
theorem dX6_slimmer_23 : decode cX6_slimmer 23 = .ok (.aload_n 0, 1) := by decide +kernel
theorem dX6_slimmer_24 : decode cX6_slimmer 24 = .ok (.iload_n 2, 1) := by decide +kernel
theorem dX6_slimmer_25 : decode cX6_slimmer 25 = .ok (.aload_n 0, 1) := by decide +kernel
theorem dX6_slimmer_26 : decode cX6_slimmer 26 = .ok (.iload_n 2, 1) := by decide +kernel
theorem dX6_slimmer_27 : decode cX6_slimmer 27 = .ok (.invokevirtual 100, 3) := by decide +kernel
theorem dX6_slimmer_30 : decode cX6_slimmer 30 = .ok (.iconst 1, 1) := by decide +kernel
theorem dX6_slimmer_31 : decode cX6_slimmer 31 = .ok (.invokevirtual 93, 3) := by decide +kernel
theorem dX6_slimmer_34 : decode cX6_slimmer 34 = .ok (.invokestatic 97, 3) := by decide +kernel
theorem dX6_slimmer_37 : decode cX6_slimmer 37 = .ok (.isub, 1) := by decide +kernel
theorem dX6_slimmer_38 : decode cX6_slimmer 38 = .ok (.iadd, 1) := by decide +kernel
theorem dX6_slimmer_39 : decode cX6_slimmer 39 = .ok (.istore_n 1, 1) := by decide +kernel
theorem dX6_slimmer_40 : decode cX6_slimmer 40 = .ok (.iinc 2 1, 3) := by decide +kernel
theorem dX6_slimmer_43 : decode cX6_slimmer 43 = .ok (.goto (-39), 3) := by decide +kernel
theorem dX6_slimmer_46 : decode cX6_slimmer 46 = .ok (.iload_n 1, 1) := by decide +kernel
theorem dX6_slimmer_47 : decode cX6_slimmer 47 = .ok (.ireturn, 1) := by decide +kernel
set_option maxRecDepth 20000 in
theorem ggX6_like_X6_isRow : GoodIn wsX6_like wsX6_isRow := goodIn_r _ [6, 1, 7, 8, 5, 9, 21, 22, 23, 24, 25, 26, 27, 28, 29, 30, 31] (by decide +kernel) (by decide +kernel)
set_option maxRecDepth 20000 in
theorem gX6_like_X6_isRow : GoodIn wsX6_like (wsV RX6 72 RX6 yX6_isRow wsX6_isRow) := goodIn_app (goodIn_of _ (by decide +kernel)) ggX6_like_X6_isRow
set_option maxRecDepth 20000 in
theorem ggX6_like_X6_valueOf : GoodIn wsX6_like wsX6_valueOf := goodIn_r _ [13, 1, 14, 15, 16, 5, 17, 18, 19, 20, 21, 22, 23, 24, 25, 26, 27, 28, 29, 30, 31] (by decide +kernel) (by decide +kernel)
set_option maxRecDepth 20000 in
theorem gX6_like_X6_valueOf : GoodIn wsX6_like (wsV RX6 76 RX6 yX6_valueOf wsX6_valueOf) := goodIn_app (goodIn_of _ (by decide +kernel)) ggX6_like_X6_valueOf
theorem dX6_like_0 : decode cX6_like 0 = .ok (.aload_n 0, 1) := by decide +kernel
theorem dX6_like_1 : decode cX6_like 1 = .ok (.iload_n 1, 1) := by decide +kernel
theorem dX6_like_2 : decode cX6_like 2 = .ok (.invokevirtual 72, 3) := by decide +kernel
theorem dX6_like_5 : decode cX6_like 5 = .ok (.ifCond .ne 5, 3) := by decide +kernel
theorem dX6_like_8 : decode cX6_like 8 = .ok (.iconst (-1), 1) := by decide +kernel
theorem dX6_like_9 : decode cX6_like 9 = .ok (.ireturn, 1) := by decide +kernel
theorem dX6_like_10 : decode cX6_like 10 = .ok (.bipush (-9), 2) := by decide +kernel
theorem dX6_like_12 : decode cX6_like 12 = .ok (.istore_n 2, 1) := by decide +kernel
theorem dX6_like_13 : decode cX6_like 13 = .ok (.iconst (-1), 1) := by decide +kernel
theorem dX6_like_14 : decode cX6_like 14 = .ok (.istore_n 3, 1) := by decide +kernel
theorem dX6_like_15 : decode cX6_like 15 = .ok (.iconst 0, 1) := by decide +kernel
theorem dX6_like_16 : decode cX6_like 16 = .ok (.istore 4, 2) := by decide +kernel
theorem dX6_like_18 : decode cX6_like 18 = .ok (.iload 4, 2) := by decide +kernel
theorem dX6_like_20 : decode cX6_like 20 = .ok (.aload_n 0, 1) := by decide +kernel
theorem dX6_like_21 : decode cX6_like 21 = .ok (.getfield 7, 3) := by decide +kernel
theorem dX6_like_24 : decode cX6_like 24 = .ok (.iconst 0, 1) := by decide +kernel
theorem dX6_like_25 : decode cX6_like 25 = .ok (.iaload, 1) := by decide +kernel
theorem dX6_like_26 : decode cX6_like 26 = .ok (.if_icmp .ge 74, 3) := by decide +kernel
theorem dX6_like_29 : decode cX6_like 29 = .ok (.iconst 0, 1) := by decide +kernel
theorem dX6_like_30 : decode cX6_like 30 = .ok (.istore 5, 2) := by decide +kernel
theorem dX6_like_32 : decode cX6_like 32 = .ok (.iconst 0, 1) := by decide +kernel
theorem dX6_like_33 : decode cX6_like 33 = .ok (.istore 6, 2) := by decide +kernel
theorem dX6_like_35 : decode cX6_like 35 = .ok (.iload 6, 2) := by decide +kernel
theorem dX6_like_37 : decode cX6_like 37 = .ok (.bipush 16, 2) := by decide +kernel
theorem dX6_like_39 : decode cX6_like 39 = .ok (.if_icmp .ge 37, 3) := by decide +kernel
theorem dX6_like_42 : decode cX6_like 42 = .ok (.iload 5, 2) := by decide +kernel
theorem dX6_like_44 : decode cX6_like 44 = .ok (.aload_n 0, 1) := by decide +kernel
theorem dX6_like_45 : decode cX6_like 45 = .ok (.iload 4, 2) := by decide +kernel
theorem dX6_like_47 : decode cX6_like 47 = .ok (.iload 6, 2) := by decide +kernel
theorem dX6_like_49 : decode cX6_like 49 = .ok (.invokevirtual 76, 3) := by decide +kernel
theorem dX6_like_52 : decode cX6_like 52 = .ok (.aload_n 0, 1) := by decide +kernel
theorem dX6_like_53 : decode cX6_like 53 = .ok (.iload_n 1, 1) := by decide +kernel
theorem dX6_like_54 : decode cX6_like 54 = .ok (.iload 6, 2) := by decide +kernel
theorem dX6_like_56 : decode cX6_like 56 = .ok (.invokevirtual 76, 3) := by decide +kernel
theorem dX6_like_59 : decode cX6_like 59 = .ok (.if_icmp .ne 7, 3) := by decide +kernel
theorem dX6_like_62 : decode cX6_like 62 = .ok (.iconst 1, 1) := by decide +kernel
theorem dX6_like_63 : decode cX6_like 63 = .ok (.goto 4, 3) := by decide +kernel
theorem dX6_like_66 : decode cX6_like 66 = .ok (.iconst 0, 1) := by decide +kernel
theorem dX6_like_67 : decode cX6_like 67 = .ok (.iadd, 1) := by decide +kernel
theorem dX6_like_68 : decode cX6_like 68 = .ok (.istore 5, 2) := by decide +kernel
theorem dX6_like_70 : decode cX6_like 70 = .ok (.iinc 6 1, 3) := by decide +kernel
theorem dX6_like_73 : decode cX6_like 73 = .ok (.goto (-38), 3) := by decide +kernel
theorem dX6_like_76 : decode cX6_like 76 = .ok (.iload 4, 2) := by decide +kernel
theorem dX6_like_78 : decode cX6_like 78 = .ok (.iload_n 1, 1) := by decide +kernel
theorem dX6_like_79 : decode cX6_like 79 = .ok (.if_icmp .eq 15, 3) := by decide +kernel
theorem dX6_like_82 : decode cX6_like 82 = .ok (.iload 5, 2) := by decide +kernel
theorem dX6_like_84 : decode cX6_like 84 = .ok (.iload_n 3, 1) := by decide +kernel
theorem dX6_like_85 : decode cX6_like 85 = .ok (.if_icmp .le 9, 3) := by decide +kernel
theorem dX6_like_88 : decode cX6_like 88 = .ok (.iload 4, 2) := by decide +kernel
theorem dX6_like_90 : decode cX6_like 90 = .ok (.istore_n 2, 1) := by decide +kernel
theorem dX6_like_91 : decode cX6_like 91 = .ok (.iload 5, 2) := by decide +kernel
theorem dX6_like_93 : decode cX6_like 93 = .ok (.istore_n 3, 1) := by decide +kernel
theorem dX6_like_94 : decode cX6_like 94 = .ok (.iinc 4 1, 3) := by decide +kernel
theorem dX6_like_97 : decode cX6_like 97 = .ok (.goto (-79), 3) := by decide +kernel
theorem dX6_like_100 : decode cX6_like 100 = .ok (.iload_n 2, 1) := by decide +kernel
theorem dX6_like_101 : decode cX6_like 101 = .ok (.ireturn, 1) := by decide +kernel
