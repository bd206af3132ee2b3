set_option maxRecDepth 20000 in
theorem ggX1_init_X1_forgetForms : GoodIn wsX1_init wsX1_forgetForms := goodIn_r _ [14, 8, 9, 15, 16, 17, 18, 19, 20, 21, 22, 23] (by decide +kernel) (by decide +kernel)
set_option maxRecDepth 20000 in
theorem gX1_init_X1_forgetForms : GoodIn wsX1_init (wsV RX1 28 RX1 yX1_forgetForms wsX1_forgetForms) := goodIn_app (goodIn_of _ (by decide +kernel)) ggX1_init_X1_forgetForms
theorem dX1_init_0 : decode cX1_init 0 = .ok (.aload_n 0, 1) := by decide +kernel
theorem dX1_init_1 : decode cX1_init 1 = .ok (.invokespecial 3, 3) := by decide +kernel
theorem dX1_init_4 : decode cX1_init 4 = .ok (.aload_n 0, 1) := by decide +kernel
theorem dX1_init_5 : decode cX1_init 5 = .ok (.iconst 0, 1) := by decide +kernel
theorem dX1_init_6 : decode cX1_init 6 = .ok (.putfield 9, 3) := by decide +kernel
theorem dX1_init_9 : decode cX1_init 9 = .ok (.aload_n 0, 1) := by decide +kernel
theorem dX1_init_10 : decode cX1_init 10 = .ok (.bipush 24, 2) := by decide +kernel
theorem dX1_init_12 : decode cX1_init 12 = .ok (.newarray .int, 2) := by decide +kernel
theorem dX1_init_14 : decode cX1_init 14 = .ok (.putfield 15, 3) := by decide +kernel
theorem dX1_init_17 : decode cX1_init 17 = .ok (.aload_n 0, 1) := by decide +kernel
theorem dX1_init_18 : decode cX1_init 18 = .ok (.sipush 384, 3) := by decide +kernel
theorem dX1_init_21 : decode cX1_init 21 = .ok (.newarray .int, 2) := by decide +kernel
theorem dX1_init_23 : decode cX1_init 23 = .ok (.putfield 19, 3) := by decide +kernel
theorem dX1_init_26 : decode cX1_init 26 = .ok (.aload_n 0, 1) := by decide +kernel
theorem dX1_init_27 : decode cX1_init 27 = .ok (.bipush 24, 2) := by decide +kernel
theorem dX1_init_29 : decode cX1_init 29 = .ok (.newarray .int, 2) := by decide +kernel
theorem dX1_init_31 : decode cX1_init 31 = .ok (.putfield 22, 3) := by decide +kernel
theorem dX1_init_34 : decode cX1_init 34 = .ok (.aload_n 0, 1) := by decide +kernel
theorem dX1_init_35 : decode cX1_init 35 = .ok (.bipush 24, 2) := by decide +kernel
theorem dX1_init_37 : decode cX1_init 37 = .ok (.newarray .int, 2) := by decide +kernel
theorem dX1_init_39 : decode cX1_init 39 = .ok (.putfield 25, 3) := by decide +kernel
theorem dX1_init_42 : decode cX1_init 42 = .ok (.aload_n 0, 1) := by decide +kernel
theorem dX1_init_43 : decode cX1_init 43 = .ok (.invokevirtual 28, 3) := by decide +kernel
theorem dX1_init_46 : decode cX1_init 46 = .ok (.return_, 1) := by decide +kernel
theorem dX1_copyFrom_0 : decode cX1_copyFrom 0 = .ok (.aload_n 0, 1) := by decide +kernel
theorem dX1_copyFrom_1 : decode cX1_copyFrom 1 = .ok (.aload_n 1, 1) := by decide +kernel
theorem dX1_copyFrom_2 : decode cX1_copyFrom 2 = .ok (.getfield 9, 3) := by decide +kernel
theorem dX1_copyFrom_5 : decode cX1_copyFrom 5 = .ok (.putfield 9, 3) := by decide +kernel
theorem dX1_copyFrom_8 : decode cX1_copyFrom 8 = .ok (.aload_n 1, 1) := by decide +kernel
theorem dX1_copyFrom_9 : decode cX1_copyFrom 9 = .ok (.getfield 15, 3) := by decide +kernel
theorem dX1_copyFrom_12 : decode cX1_copyFrom 12 = .ok (.iconst 0, 1) := by decide +kernel
theorem dX1_copyFrom_13 : decode cX1_copyFrom 13 = .ok (.aload_n 0, 1) := by decide +kernel
theorem dX1_copyFrom_14 : decode cX1_copyFrom 14 = .ok (.getfield 15, 3) := by decide +kernel
theorem dX1_copyFrom_17 : decode cX1_copyFrom 17 = .ok (.iconst 0, 1) := by decide +kernel
theorem dX1_copyFrom_18 : decode cX1_copyFrom 18 = .ok (.bipush 24, 2) := by decide +kernel
theorem dX1_copyFrom_20 : decode cX1_copyFrom 20 = .ok (.invokestatic 31, 3) := by decide +kernel
theorem dX1_copyFrom_23 : decode cX1_copyFrom 23 = .ok (.aload_n 1, 1) := by decide +kernel
theorem dX1_copyFrom_24 : decode cX1_copyFrom 24 = .ok (.getfield 19, 3) := by decide +kernel
theorem dX1_copyFrom_27 : decode cX1_copyFrom 27 = .ok (.iconst 0, 1) := by decide +kernel
theorem dX1_copyFrom_28 : decode cX1_copyFrom 28 = .ok (.aload_n 0, 1) := by decide +kernel
theorem dX1_copyFrom_29 : decode cX1_copyFrom 29 = .ok (.getfield 19, 3) := by decide +kernel
theorem dX1_copyFrom_32 : decode cX1_copyFrom 32 = .ok (.iconst 0, 1) := by decide +kernel
theorem dX1_copyFrom_33 : decode cX1_copyFrom 33 = .ok (.sipush 384, 3) := by decide +kernel
theorem dX1_copyFrom_36 : decode cX1_copyFrom 36 = .ok (.invokestatic 31, 3) := by decide +kernel
theorem dX1_copyFrom_39 : decode cX1_copyFrom 39 = .ok (.aload_n 1, 1) := by decide +kernel
theorem dX1_copyFrom_40 : decode cX1_copyFrom 40 = .ok (.getfield 22, 3) := by decide +kernel
theorem dX1_copyFrom_43 : decode cX1_copyFrom 43 = .ok (.iconst 0, 1) := by decide +kernel
theorem dX1_copyFrom_44 : decode cX1_copyFrom 44 = .ok (.aload_n 0, 1) := by decide +kernel
theorem dX1_copyFrom_45 : decode cX1_copyFrom 45 = .ok (.getfield 22, 3) := by decide +kernel
theorem dX1_copyFrom_48 : decode cX1_copyFrom 48 = .ok (.iconst 0, 1) := by decide +kernel
theorem dX1_copyFrom_49 : decode cX1_copyFrom 49 = .ok (.bipush 24, 2) := by decide +kernel
theorem dX1_copyFrom_51 : decode cX1_copyFrom 51 = .ok (.invokestatic 31, 3) := by decide +kernel
theorem dX1_copyFrom_54 : decode cX1_copyFrom 54 = .ok (.aload_n 1, 1) := by decide +kernel
theorem dX1_copyFrom_55 : decode cX1_copyFrom 55 = .ok (.getfield 25, 3) := by decide +kernel
theorem dX1_copyFrom_58 : decode cX1_copyFrom 58 = .ok (.iconst 0, 1) := by decide +kernel
theorem dX1_copyFrom_59 : decode cX1_copyFrom 59 = .ok (.aload_n 0, 1) := by decide +kernel
theorem dX1_copyFrom_60 : decode cX1_copyFrom 60 = .ok (.getfield 25, 3) := by decide +kernel
theorem dX1_copyFrom_63 : decode cX1_copyFrom 63 = .ok (.iconst 0, 1) := by decide +kernel
theorem dX1_copyFrom_64 : decode cX1_copyFrom 64 = .ok (.bipush 24, 2) := by decide +kernel
theorem dX1_copyFrom_66 : decode cX1_copyFrom 66 = .ok (.invokestatic 31, 3) := by decide +kernel
theorem dX1_copyFrom_69 : decode cX1_copyFrom 69 = .ok (.return_, 1) := by decide +kernel
set_option maxRecDepth 20000 in
theorem ggX1_forgetForms_J7_fill_53178 : GoodIn wsX1_forgetForms wsJ7_fill_53178 := goodIn_r _ [6] (by decide +kernel) (by decide +kernel)
set_option maxRecDepth 20000 in
theorem gX1_forgetForms_J7_fill_53178 : GoodIn wsX1_forgetForms (va_wsS RX1 37 yJ7_fill_53178 wsJ7_fill_53178) := goodIn_app (goodIn_of _ (by decide +kernel)) ggX1_forgetForms_J7_fill_53178
theorem dX1_forgetForms_0 : decode cX1_forgetForms 0 = .ok (.aload_n 0, 1) := by decide +kernel
theorem dX1_forgetForms_1 : decode cX1_forgetForms 1 = .ok (.getfield 22, 3) := by decide +kernel
theorem dX1_forgetForms_4 : decode cX1_forgetForms 4 = .ok (.bipush (-9), 2) := by decide +kernel
theorem dX1_forgetForms_6 : decode cX1_forgetForms 6 = .ok (.invokestatic 37, 3) := by decide +kernel
theorem dX1_forgetForms_9 : decode cX1_forgetForms 9 = .ok (.aload_n 0, 1) := by decide +kernel
theorem dX1_forgetForms_10 : decode cX1_forgetForms 10 = .ok (.getfield 25, 3) := by decide +kernel
theorem dX1_forgetForms_13 : decode cX1_forgetForms 13 = .ok (.bipush (-9), 2) := by decide +kernel
theorem dX1_forgetForms_15 : decode cX1_forgetForms 15 = .ok (.invokestatic 37, 3) := by decide +kernel
theorem dX1_forgetForms_18 : decode cX1_forgetForms 18 = .ok (.return_, 1) := by decide +kernel
set_option maxRecDepth 20000 in
theorem ggX1_addRow_J7_fill_fda19 : GoodIn wsX1_addRow wsJ7_fill_fda19 := goodIn_r _ [8, 9, 10, 7, 11] (by decide +kernel) (by decide +kernel)
set_option maxRecDepth 20000 in
theorem gX1_addRow_J7_fill_fda19 : GoodIn wsX1_addRow (va_wsS RX1 43 yJ7_fill_fda19 wsJ7_fill_fda19) := goodIn_app (goodIn_of _ (by decide +kernel)) ggX1_addRow_J7_fill_fda19
theorem dX1_addRow_0 : decode cX1_addRow 0 = .ok (.aload_n 0, 1) := by decide +kernel
theorem dX1_addRow_1 : decode cX1_addRow 1 = .ok (.getfield 9, 3) := by decide +kernel
theorem dX1_addRow_4 : decode cX1_addRow 4 = .ok (.ifCond .lt 12, 3) := by decide +kernel
theorem dX1_addRow_7 : decode cX1_addRow 7 = .ok (.aload_n 0, 1) := by decide +kernel
theorem dX1_addRow_8 : decode cX1_addRow 8 = .ok (.getfield 9, 3) := by decide +kernel
theorem dX1_addRow_11 : decode cX1_addRow 11 = .ok (.bipush 24, 2) := by decide +kernel
theorem dX1_addRow_13 : decode cX1_addRow 13 = .ok (.if_icmp .lt 6, 3) := by decide +kernel
theorem dX1_addRow_16 : decode cX1_addRow 16 = .ok (.bipush (-9), 2) := by decide +kernel
theorem dX1_addRow_18 : decode cX1_addRow 18 = .ok (.ireturn, 1) := by decide +kernel
theorem dX1_addRow_19 : decode cX1_addRow 19 = .ok (.aload_n 0, 1) := by decide +kernel
theorem dX1_addRow_20 : decode cX1_addRow 20 = .ok (.getfield 9, 3) := by decide +kernel
theorem dX1_addRow_23 : decode cX1_addRow 23 = .ok (.istore_n 2, 1) := by decide +kernel
theorem dX1_addRow_24 : decode cX1_addRow 24 = .ok (.aload_n 0, 1) := by decide +kernel
theorem dX1_addRow_25 : decode cX1_addRow 25 = .ok (.getfield 15, 3) := by decide +kernel
theorem dX1_addRow_28 : decode cX1_addRow 28 = .ok (.iload_n 2, 1) := by decide +kernel
theorem dX1_addRow_29 : decode cX1_addRow 29 = .ok (.iload_n 1, 1) := by decide +kernel
theorem dX1_addRow_30 : decode cX1_addRow 30 = .ok (.iastore, 1) := by decide +kernel
theorem dX1_addRow_31 : decode cX1_addRow 31 = .ok (.aload_n 0, 1) := by decide +kernel
theorem dX1_addRow_32 : decode cX1_addRow 32 = .ok (.getfield 19, 3) := by decide +kernel
theorem dX1_addRow_35 : decode cX1_addRow 35 = .ok (.iload_n 2, 1) := by decide +kernel
theorem dX1_addRow_36 : decode cX1_addRow 36 = .ok (.bipush 16, 2) := by decide +kernel
theorem dX1_addRow_38 : decode cX1_addRow 38 = .ok (.imul, 1) := by decide +kernel
theorem dX1_addRow_39 : decode cX1_addRow 39 = .ok (.iload_n 2, 1) := by decide +kernel
theorem dX1_addRow_40 : decode cX1_addRow 40 = .ok (.iconst 1, 1) := by decide +kernel
theorem dX1_addRow_41 : decode cX1_addRow 41 = .ok (.iadd, 1) := by decide +kernel
theorem dX1_addRow_42 : decode cX1_addRow 42 = .ok (.bipush 16, 2) := by decide +kernel
theorem dX1_addRow_44 : decode cX1_addRow 44 = .ok (.imul, 1) := by decide +kernel
theorem dX1_addRow_45 : decode cX1_addRow 45 = .ok (.iload_n 1, 1) := by decide +kernel
theorem dX1_addRow_46 : decode cX1_addRow 46 = .ok (.invokestatic 43, 3) := by decide +kernel
theorem dX1_addRow_49 : decode cX1_addRow 49 = .ok (.aload_n 0, 1) := by decide +kernel
theorem dX1_addRow_50 : decode cX1_addRow 50 = .ok (.getfield 22, 3) := by decide +kernel
theorem dX1_addRow_53 : decode cX1_addRow 53 = .ok (.iload_n 2, 1) := by decide +kernel
theorem dX1_addRow_54 : decode cX1_addRow 54 = .ok (.bipush (-9), 2) := by decide +kernel
theorem dX1_addRow_56 : decode cX1_addRow 56 = .ok (.iastore, 1) := by decide +kernel
theorem dX1_addRow_57 : decode cX1_addRow 57 = .ok (.aload_n 0, 1) := by decide +kernel
theorem dX1_addRow_58 : decode cX1_addRow 58 = .ok (.dup, 1) := by decide +kernel
theorem dX1_addRow_59 : decode cX1_addRow 59 = .ok (.getfield 9, 3) := by decide +kernel
theorem dX1_addRow_62 : decode cX1_addRow 62 = .ok (.iconst 1, 1) := by decide +kernel
theorem dX1_addRow_63 : decode cX1_addRow 63 = .ok (.iadd, 1) := by decide +kernel
theorem dX1_addRow_64 : decode cX1_addRow 64 = .ok (.putfield 9, 3) := by decide +kernel
theorem dX1_addRow_67 : decode cX1_addRow 67 = .ok (.iload_n 2, 1) := by decide +kernel
theorem dX1_addRow_68 : decode cX1_addRow 68 = .ok (.ireturn, 1) := by decide +kernel
set_option maxRecDepth 20000 in
theorem ggX1_defaultOf_X5_numberAt : GoodIn wsX1_defaultOf wsX5_numberAt := goodIn_r _ [4] (by decide +kernel) (by decide +kernel)
set_option maxRecDepth 20000 in
theorem gX1_defaultOf_X5_numberAt_n46 : GoodIn wsX1_defaultOf (wsX5_numberAt) := ggX1_defaultOf_X5_numberAt
theorem dX1_defaultOf_0 : decode cX1_defaultOf 0 = .ok (.aload_n 0, 1) := by decide +kernel
theorem dX1_defaultOf_1 : decode cX1_defaultOf 1 = .ok (.getfield 15, 3) := by decide +kernel
theorem dX1_defaultOf_4 : decode cX1_defaultOf 4 = .ok (.iload_n 1, 1) := by decide +kernel
theorem dX1_defaultOf_5 : decode cX1_defaultOf 5 = .ok (.invokestatic 46, 3) := by decide +kernel
theorem dX1_defaultOf_8 : decode cX1_defaultOf 8 = .ok (.ireturn, 1) := by decide +kernel
set_option maxRecDepth 20000 in
theorem ggX1_valueAt_X5_numberAt : GoodIn wsX1_valueAt wsX5_numberAt := goodIn_r _ [4] (by decide +kernel) (by decide +kernel)
set_option maxRecDepth 20000 in
theorem gX1_valueAt_X5_numberAt_n46 : GoodIn wsX1_valueAt (wsX5_numberAt) := ggX1_valueAt_X5_numberAt
theorem dX1_valueAt_0 : decode cX1_valueAt 0 = .ok (.aload_n 0, 1) := by decide +kernel
theorem dX1_valueAt_1 : decode cX1_valueAt 1 = .ok (.getfield 19, 3) := by decide +kernel
theorem dX1_valueAt_4 : decode cX1_valueAt 4 = .ok (.iload_n 1, 1) := by decide +kernel
theorem dX1_valueAt_5 : decode cX1_valueAt 5 = .ok (.bipush 16, 2) := by decide +kernel
theorem dX1_valueAt_7 : decode cX1_valueAt 7 = .ok (.imul, 1) := by decide +kernel
theorem dX1_valueAt_8 : decode cX1_valueAt 8 = .ok (.iload_n 2, 1) := by decide +kernel
theorem dX1_valueAt_9 : decode cX1_valueAt 9 = .ok (.iadd, 1) := by decide +kernel
theorem dX1_valueAt_10 : decode cX1_valueAt 10 = .ok (.invokestatic 46, 3) := by decide +kernel
theorem dX1_valueAt_13 : decode cX1_valueAt 13 = .ok (.ireturn, 1) := by decide +kernel
set_option maxRecDepth 20000 in
theorem ggX1_changeValue_X5_putAt : GoodIn wsX1_changeValue wsX5_putAt := goodIn_r _ [4] (by decide +kernel) (by decide +kernel)
set_option maxRecDepth 20000 in
theorem gX1_changeValue_X5_putAt_n50 : GoodIn wsX1_changeValue (wsX5_putAt) := ggX1_changeValue_X5_putAt
theorem dX1_changeValue_0 : decode cX1_changeValue 0 = .ok (.aload_n 0, 1) := by decide +kernel
theorem dX1_changeValue_1 : decode cX1_changeValue 1 = .ok (.getfield 19, 3) := by decide +kernel
theorem dX1_changeValue_4 : decode cX1_changeValue 4 = .ok (.iload_n 1, 1) := by decide +kernel
theorem dX1_changeValue_5 : decode cX1_changeValue 5 = .ok (.bipush 16, 2) := by decide +kernel
theorem dX1_changeValue_7 : decode cX1_changeValue 7 = .ok (.imul, 1) := by decide +kernel
theorem dX1_changeValue_8 : decode cX1_changeValue 8 = .ok (.iload_n 2, 1) := by decide +kernel
theorem dX1_changeValue_9 : decode cX1_changeValue 9 = .ok (.iadd, 1) := by decide +kernel
theorem dX1_changeValue_10 : decode cX1_changeValue 10 = .ok (.iload_n 3, 1) := by decide +kernel
theorem dX1_changeValue_11 : decode cX1_changeValue 11 = .ok (.invokestatic 50, 3) := by decide +kernel
theorem dX1_changeValue_14 : decode cX1_changeValue 14 = .ok (.return_, 1) := by decide +kernel
set_option maxRecDepth 20000 in
theorem ggX1_changeDefault_X1_isEntry : GoodIn wsX1_changeDefault wsX1_isEntry := goodIn_r _ [6, 7, 1, 8, 9, 10, 17, 18, 19, 20, 21] (by decide +kernel) (by decide +kernel)
set_option maxRecDepth 20000 in
theorem gX1_changeDefault_X1_isEntry : GoodIn wsX1_changeDefault (wsV RX1 54 RX1 yX1_isEntry wsX1_isEntry) := goodIn_app (goodIn_of _ (by decide +kernel)) ggX1_changeDefault_X1_isEntry
set_option maxRecDepth 20000 in
theorem ggX1_changeDefault_X1_changeValue : GoodIn wsX1_changeDefault wsX1_changeValue := goodIn_r _ [14, 7, 15, 9, 16, 17, 18, 19, 20, 21] (by decide +kernel) (by decide +kernel)
set_option maxRecDepth 20000 in
theorem gX1_changeDefault_X1_changeValue : GoodIn wsX1_changeDefault (wsV RX1 58 RX1 yX1_changeValue wsX1_changeValue) := goodIn_app (goodIn_of _ (by decide +kernel)) ggX1_changeDefault_X1_changeValue
set_option maxRecDepth 20000 in
theorem ggX1_changeDefault_X5_putAt : GoodIn wsX1_changeDefault wsX5_putAt := goodIn_r _ [16] (by decide +kernel) (by decide +kernel)
set_option maxRecDepth 20000 in
theorem gX1_changeDefault_X5_putAt_n50 : GoodIn wsX1_changeDefault (wsX5_putAt) := ggX1_changeDefault_X5_putAt
theorem dX1_changeDefault_0 : decode cX1_changeDefault 0 = .ok (.iconst 0, 1) := by decide +kernel
theorem dX1_changeDefault_1 : decode cX1_changeDefault 1 = .ok (.istore_n 3, 1) := by decide +kernel
theorem dX1_changeDefault_2 : decode cX1_changeDefault 2 = .ok (.iload_n 3, 1) := by decide +kernel
theorem dX1_changeDefault_3 : decode cX1_changeDefault 3 = .ok (.bipush 16, 2) := by decide +kernel
theorem dX1_changeDefault_5 : decode cX1_changeDefault 5 = .ok (.if_icmp .ge 25, 3) := by decide +kernel
theorem dX1_changeDefault_8 : decode cX1_changeDefault 8 = .ok (.aload_n 0, 1) := by decide +kernel
theorem dX1_changeDefault_9 : decode cX1_changeDefault 9 = .ok (.iload_n 1, 1) := by decide +kernel
theorem dX1_changeDefault_10 : decode cX1_changeDefault 10 = .ok (.iload_n 3, 1) := by decide +kernel
theorem dX1_changeDefault_11 : decode cX1_changeDefault 11 = .ok (.invokevirtual 54, 3) := by decide +kernel
theorem dX1_changeDefault_14 : decode cX1_changeDefault 14 = .ok (.ifCond .ne 10, 3) := by decide +kernel
theorem dX1_changeDefault_17 : decode cX1_changeDefault 17 = .ok (.aload_n 0, 1) := by decide +kernel
theorem dX1_changeDefault_18 : decode cX1_changeDefault 18 = .ok (.iload_n 1, 1) := by decide +kernel
theorem dX1_changeDefault_19 : decode cX1_changeDefault 19 = .ok (.iload_n 3, 1) := by decide +kernel
theorem dX1_changeDefault_20 : decode cX1_changeDefault 20 = .ok (.iload_n 2, 1) := by decide +kernel
theorem dX1_changeDefault_21 : decode cX1_changeDefault 21 = .ok (.invokevirtual 58, 3) := by decide +kernel
theorem dX1_changeDefault_24 : decode cX1_changeDefault 24 = .ok (.iinc 3 1, 3) := by decide +kernel
theorem dX1_changeDefault_27 : decode cX1_changeDefault 27 = .ok (.goto (-25), 3) := by decide +kernel
theorem dX1_changeDefault_30 : decode cX1_changeDefault 30 = .ok (.aload_n 0, 1) := by decide +kernel
theorem dX1_changeDefault_31 : decode cX1_changeDefault 31 = .ok (.getfield 15, 3) := by decide +kernel
theorem dX1_changeDefault_34 : decode cX1_changeDefault 34 = .ok (.iload_n 1, 1) := by decide +kernel
theorem dX1_changeDefault_35 : decode cX1_changeDefault 35 = .ok (.iload_n 2, 1) := by decide +kernel
theorem dX1_changeDefault_36 : decode cX1_changeDefault 36 = .ok (.invokestatic 50, 3) := by decide +kernel
theorem dX1_changeDefault_39 : decode cX1_changeDefault 39 = .ok (.return_, 1) := by decide +kernel
set_option maxRecDepth 20000 in
theorem ggX1_slimDefault_X1_commonestValue : GoodIn wsX1_slimDefault wsX1_commonestValue := goodIn_r _ [6, 7, 8, 9, 5, 10, 11, 12, 13, 14, 15, 16, 17, 18, 21, 22, 23, 24, 25] (by decide +kernel) (by decide +kernel)
set_option maxRecDepth 20000 in
theorem gX1_slimDefault_X1_commonestValue : GoodIn wsX1_slimDefault (wsV RX1 62 RX1 yX1_commonestValue wsX1_commonestValue) := goodIn_app (goodIn_of _ (by decide +kernel)) ggX1_slimDefault_X1_commonestValue
set_option maxRecDepth 20000 in
theorem ggX1_slimDefault_X5_putAt : GoodIn wsX1_slimDefault wsX5_putAt := goodIn_r _ [20] (by decide +kernel) (by decide +kernel)
set_option maxRecDepth 20000 in
theorem gX1_slimDefault_X5_putAt_n50 : GoodIn wsX1_slimDefault (wsX5_putAt) := ggX1_slimDefault_X5_putAt
theorem dX1_slimDefault_0 : decode cX1_slimDefault 0 = .ok (.aload_n 0, 1) := by decide +kernel
theorem dX1_slimDefault_1 : decode cX1_slimDefault 1 = .ok (.getfield 15, 3) := by decide +kernel
theorem dX1_slimDefault_4 : decode cX1_slimDefault 4 = .ok (.iload_n 1, 1) := by decide +kernel
theorem dX1_slimDefault_5 : decode cX1_slimDefault 5 = .ok (.aload_n 0, 1) := by decide +kernel
theorem dX1_slimDefault_6 : decode cX1_slimDefault 6 = .ok (.iload_n 1, 1) := by decide +kernel
theorem dX1_slimDefault_7 : decode cX1_slimDefault 7 = .ok (.invokevirtual 62, 3) := by decide +kernel
theorem dX1_slimDefault_10 : decode cX1_slimDefault 10 = .ok (.invokestatic 50, 3) := by decide +kernel
theorem dX1_slimDefault_13 : decode cX1_slimDefault 13 = .ok (.return_, 1) := by decide +kernel
set_option maxRecDepth 20000 in
theorem ggX1_isEntry_X5_numberAt : GoodIn wsX1_isEntry wsX5_numberAt := goodIn_r _ [5] (by decide +kernel) (by decide +kernel)
set_option maxRecDepth 20000 in
theorem gX1_isEntry_X5_numberAt_n46 : GoodIn wsX1_isEntry (wsX5_numberAt) := ggX1_isEntry_X5_numberAt
theorem dX1_isEntry_0 : decode cX1_isEntry 0 = .ok (.aload_n 0, 1) := by decide +kernel
theorem dX1_isEntry_1 : decode cX1_isEntry 1 = .ok (.getfield 19, 3) := by decide +kernel
theorem dX1_isEntry_4 : decode cX1_isEntry 4 = .ok (.iload_n 1, 1) := by decide +kernel
theorem dX1_isEntry_5 : decode cX1_isEntry 5 = .ok (.bipush 16, 2) := by decide +kernel
theorem dX1_isEntry_7 : decode cX1_isEntry 7 = .ok (.imul, 1) := by decide +kernel
theorem dX1_isEntry_8 : decode cX1_isEntry 8 = .ok (.iload_n 2, 1) := by decide +kernel
theorem dX1_isEntry_9 : decode cX1_isEntry 9 = .ok (.iadd, 1) := by decide +kernel
theorem dX1_isEntry_10 : decode cX1_isEntry 10 = .ok (.invokestatic 46, 3) := by decide +kernel
theorem dX1_isEntry_13 : decode cX1_isEntry 13 = .ok (.aload_n 0, 1) := by decide +kernel
theorem dX1_isEntry_14 : decode cX1_isEntry 14 = .ok (.getfield 15, 3) := by decide +kernel
theorem dX1_isEntry_17 : decode cX1_isEntry 17 = .ok (.iload_n 1, 1) := by decide +kernel
theorem dX1_isEntry_18 : decode cX1_isEntry 18 = .ok (.invokestatic 46, 3) := by decide +kernel
theorem dX1_isEntry_21 : decode cX1_isEntry 21 = .ok (.if_icmp .eq 7, 3) := by decide +kernel
theorem dX1_isEntry_24 : decode cX1_isEntry 24 = .ok (.iconst 1, 1) := by decide +kernel
theorem dX1_isEntry_25 : decode cX1_isEntry 25 = .ok (.goto 4, 3) := by decide +kernel
theorem dX1_isEntry_28 : decode cX1_isEntry 28 = .ok (.iconst 0, 1) := by decide +kernel
theorem dX1_isEntry_29 : decode cX1_isEntry 29 = .ok (.ireturn, 1) := by decide +kernel
set_option maxRecDepth 20000 in
theorem ggX1_columnsOf_X1_isEntry : GoodIn wsX1_columnsOf wsX1_isEntry := goodIn_r _ [5, 6, 7, 8, 9, 10, 11, 12, 13, 14, 15] (by decide +kernel) (by decide +kernel)
set_option maxRecDepth 20000 in
theorem gX1_columnsOf_X1_isEntry : GoodIn wsX1_columnsOf (wsV RX1 54 RX1 yX1_isEntry wsX1_isEntry) := goodIn_app (goodIn_of _ (by decide +kernel)) ggX1_columnsOf_X1_isEntry
theorem dX1_columnsOf_0 : decode cX1_columnsOf 0 = .ok (.iconst 0, 1) := by decide +kernel
theorem dX1_columnsOf_1 : decode cX1_columnsOf 1 = .ok (.istore_n 2, 1) := by decide +kernel
theorem dX1_columnsOf_2 : decode cX1_columnsOf 2 = .ok (.iconst 0, 1) := by decide +kernel
theorem dX1_columnsOf_3 : decode cX1_columnsOf 3 = .ok (.istore_n 3, 1) := by decide +kernel
theorem dX1_columnsOf_4 : decode cX1_columnsOf 4 = .ok (.iload_n 3, 1) := by decide +kernel
theorem dX1_columnsOf_5 : decode cX1_columnsOf 5 = .ok (.bipush 16, 2) := by decide +kernel
theorem dX1_columnsOf_7 : decode cX1_columnsOf 7 = .ok (.if_icmp .ge 24, 3) := by decide +kernel
theorem dX1_columnsOf_10 : decode cX1_columnsOf 10 = .ok (.aload_n 0, 1) := by decide +kernel
theorem dX1_columnsOf_11 : decode cX1_columnsOf 11 = .ok (.iload_n 1, 1) := by decide +kernel
theorem dX1_columnsOf_12 : decode cX1_columnsOf 12 = .ok (.iload_n 3, 1) := by decide +kernel
theorem dX1_columnsOf_13 : decode cX1_columnsOf 13 = .ok (.invokevirtual 54, 3) := by decide +kernel
theorem dX1_columnsOf_16 : decode cX1_columnsOf 16 = .ok (.ifCond .eq 9, 3) := by decide +kernel
theorem dX1_columnsOf_19 : decode cX1_columnsOf 19 = .ok (.iload_n 2, 1) := by decide +kernel
theorem dX1_columnsOf_20 : decode cX1_columnsOf 20 = .ok (.iconst 1, 1) := by decide +kernel
theorem dX1_columnsOf_21 : decode cX1_columnsOf 21 = .ok (.iload_n 3, 1) := by decide +kernel
theorem dX1_columnsOf_22 : decode cX1_columnsOf 22 = .ok (.ishl, 1) := by decide +kernel
theorem dX1_columnsOf_23 : decode cX1_columnsOf 23 = .ok (.ior, 1) := by decide +kernel
theorem dX1_columnsOf_24 : decode cX1_columnsOf 24 = .ok (.istore_n 2, 1) := by decide +kernel
theorem dX1_columnsOf_25 : decode cX1_columnsOf 25 = .ok (.iinc 3 1, 3) := by decide +kernel
theorem dX1_columnsOf_28 : decode cX1_columnsOf 28 = .ok (.goto (-24), 3) := by decide +kernel
theorem dX1_columnsOf_31 : decode cX1_columnsOf 31 = .ok (.iload_n 2, 1) := by decide +kernel
theorem dX1_columnsOf_32 : decode cX1_columnsOf 32 = .ok (.ireturn, 1) := by decide +kernel
set_option maxRecDepth 20000 in
theorem ggX1_weightOf_X1_columnsOf : GoodIn wsX1_weightOf wsX1_columnsOf := goodIn_r _ [5, 6, 7, 8, 4, 9, 10, 11, 12, 13, 14, 22, 23, 24, 25, 26] (by decide +kernel) (by decide +kernel)
set_option maxRecDepth 20000 in
theorem gX1_weightOf_X1_columnsOf : GoodIn wsX1_weightOf (wsV RX1 66 RX1 yX1_columnsOf wsX1_columnsOf) := goodIn_app (goodIn_of _ (by decide +kernel)) ggX1_weightOf_X1_columnsOf
set_option maxRecDepth 20000 in
theorem ggX1_weightOf_J6_bitCount_0f7a4 : GoodIn wsX1_weightOf wsJ6_bitCount_0f7a4 := goodIn_r _ [18, 19, 20, 21] (by decide +kernel) (by decide +kernel)
set_option maxRecDepth 20000 in
theorem gX1_weightOf_J6_bitCount_0f7a4 : GoodIn wsX1_weightOf (va_wsS RX1 69 yJ6_bitCount_0f7a4 wsJ6_bitCount_0f7a4) := goodIn_app (goodIn_of _ (by decide +kernel)) ggX1_weightOf_J6_bitCount_0f7a4
theorem dX1_weightOf_0 : decode cX1_weightOf 0 = .ok (.aload_n 0, 1) := by decide +kernel
theorem dX1_weightOf_1 : decode cX1_weightOf 1 = .ok (.iload_n 1, 1) := by decide +kernel
theorem dX1_weightOf_2 : decode cX1_weightOf 2 = .ok (.invokevirtual 66, 3) := by decide +kernel
theorem dX1_weightOf_5 : decode cX1_weightOf 5 = .ok (.invokestatic 69, 3) := by decide +kernel
theorem dX1_weightOf_8 : decode cX1_weightOf 8 = .ok (.ireturn, 1) := by decide +kernel
set_option maxRecDepth 20000 in
theorem ggX1_weightSum_X1_weightOf : GoodIn wsX1_weightSum wsX1_weightOf := goodIn_r _ [6, 7, 8, 9, 5, 10, 11, 12, 13, 14, 15, 16, 17, 18, 19, 20, 21, 22, 23, 24, 25, 26, 27, 28, 29, 30, 31] (by decide +kernel) (by decide +kernel)
set_option maxRecDepth 20000 in
theorem gX1_weightSum_X1_weightOf : GoodIn wsX1_weightSum (wsV RX1 74 RX1 yX1_weightOf wsX1_weightOf) := goodIn_app (goodIn_of _ (by decide +kernel)) ggX1_weightSum_X1_weightOf
theorem dX1_weightSum_0 : decode cX1_weightSum 0 = .ok (.iconst 0, 1) := by decide +kernel
theorem dX1_weightSum_1 : decode cX1_weightSum 1 = .ok (.istore_n 1, 1) := by decide +kernel
theorem dX1_weightSum_2 : decode cX1_weightSum 2 = .ok (.iconst 0, 1) := by decide +kernel
theorem dX1_weightSum_3 : decode cX1_weightSum 3 = .ok (.istore_n 2, 1) := by decide +kernel
theorem dX1_weightSum_4 : decode cX1_weightSum 4 = .ok (.iload_n 2, 1) := by decide +kernel
theorem dX1_weightSum_5 : decode cX1_weightSum 5 = .ok (.aload_n 0, 1) := by decide +kernel
theorem dX1_weightSum_6 : decode cX1_weightSum 6 = .ok (.getfield 9, 3) := by decide +kernel
theorem dX1_weightSum_9 : decode cX1_weightSum 9 = .ok (.if_icmp .ge 17, 3) := by decide +kernel
theorem dX1_weightSum_12 : decode cX1_weightSum 12 = .ok (.iload_n 1, 1) := by decide +kernel
theorem dX1_weightSum_13 : decode cX1_weightSum 13 = .ok (.aload_n 0, 1) := by decide +kernel
theorem dX1_weightSum_14 : decode cX1_weightSum 14 = .ok (.iload_n 2, 1) := by decide +kernel
theorem dX1_weightSum_15 : decode cX1_weightSum 15 = .ok (.invokevirtual 74, 3) := by decide +kernel
theorem dX1_weightSum_18 : decode cX1_weightSum 18 = .ok (.iadd, 1) := by decide +kernel
theorem dX1_weightSum_19 : decode cX1_weightSum 19 = .ok (.istore_n 1, 1) := by decide +kernel
theorem dX1_weightSum_20 : decode cX1_weightSum 20 = .ok (.iinc 2 1, 3) := by decide +kernel
theorem dX1_weightSum_23 : decode cX1_weightSum 23 = .ok (.goto (-19), 3) := by decide +kernel
theorem dX1_weightSum_26 : decode cX1_weightSum 26 = .ok (.iload_n 1, 1) := by decide +kernel
theorem dX1_weightSum_27 : decode cX1_weightSum 27 = .ok (.ireturn, 1) := by decide +kernel
set_option maxRecDepth 20000 in
theorem ggX1_commonestValue_X1_valueAt : GoodIn wsX1_commonestValue wsX1_valueAt := goodIn_r _ [5, 6, 7, 8, 9, 14, 15, 16, 17, 18] (by decide +kernel) (by decide +kernel)
set_option maxRecDepth 20000 in
theorem gX1_commonestValue_X1_valueAt : GoodIn wsX1_commonestValue (wsV RX1 77 RX1 yX1_valueAt wsX1_valueAt) := goodIn_app (goodIn_of _ (by decide +kernel)) ggX1_commonestValue_X1_valueAt
set_option maxRecDepth 20000 in
theorem ggX1_commonestValue_X1_cellsWith : GoodIn wsX1_commonestValue wsX1_cellsWith := goodIn_r _ [13, 1, 2, 3, 4, 5, 6, 7, 8, 9, 14, 15, 16, 17, 18] (by decide +kernel) (by decide +kernel)
set_option maxRecDepth 20000 in
theorem gX1_commonestValue_X1_cellsWith : GoodIn wsX1_commonestValue (wsV RX1 81 RX1 yX1_cellsWith wsX1_cellsWith) := goodIn_app (goodIn_of _ (by decide +kernel)) ggX1_commonestValue_X1_cellsWith
theorem dX1_commonestValue_0 : decode cX1_commonestValue 0 = .ok (.aload_n 0, 1) := by decide +kernel
theorem dX1_commonestValue_1 : decode cX1_commonestValue 1 = .ok (.iload_n 1, 1) := by decide +kernel
theorem dX1_commonestValue_2 : decode cX1_commonestValue 2 = .ok (.iconst 0, 1) := by decide +kernel
theorem dX1_commonestValue_3 : decode cX1_commonestValue 3 = .ok (.invokevirtual 77, 3) := by decide +kernel
theorem dX1_commonestValue_6 : decode cX1_commonestValue 6 = .ok (.istore_n 2, 1) := by decide +kernel
theorem dX1_commonestValue_7 : decode cX1_commonestValue 7 = .ok (.aload_n 0, 1) := by decide +kernel
theorem dX1_commonestValue_8 : decode cX1_commonestValue 8 = .ok (.iload_n 1, 1) := by decide +kernel
theorem dX1_commonestValue_9 : decode cX1_commonestValue 9 = .ok (.iload_n 2, 1) := by decide +kernel
theorem dX1_commonestValue_10 : decode cX1_commonestValue 10 = .ok (.invokevirtual 81, 3) := by decide +kernel
theorem dX1_commonestValue_13 : decode cX1_commonestValue 13 = .ok (.istore_n 3, 1) := by decide +kernel
theorem dX1_commonestValue_14 : decode cX1_commonestValue 14 = .ok (.iconst 1, 1) := by decide +kernel
theorem dX1_commonestValue_15 : decode cX1_commonestValue 15 = .ok (.istore 4, 2) := by decide +kernel
theorem dX1_commonestValue_17 : decode cX1_commonestValue 17 = .ok (.iload 4, 2) := by decide +kernel
theorem dX1_commonestValue_19 : decode cX1_commonestValue 19 = .ok (.bipush 16, 2) := by decide +kernel
theorem dX1_commonestValue_21 : decode cX1_commonestValue 21 = .ok (.if_icmp .ge 51, 3) := by decide +kernel
theorem dX1_commonestValue_24 : decode cX1_commonestValue 24 = .ok (.aload_n 0, 1) := by decide +kernel
theorem dX1_commonestValue_25 : decode cX1_commonestValue 25 = .ok (.iload_n 1, 1) := by decide +kernel
theorem dX1_commonestValue_26 : decode cX1_commonestValue 26 = .ok (.iload 4, 2) := by decide +kernel
theorem dX1_commonestValue_28 : decode cX1_commonestValue 28 = .ok (.invokevirtual 77, 3) := by decide +kernel
theorem dX1_commonestValue_31 : decode cX1_commonestValue 31 = .ok (.istore 5, 2) := by decide +kernel
theorem dX1_commonestValue_33 : decode cX1_commonestValue 33 = .ok (.aload_n 0, 1) := by decide +kernel
theorem dX1_commonestValue_34 : decode cX1_commonestValue 34 = .ok (.iload_n 1, 1) := by decide +kernel
theorem dX1_commonestValue_35 : decode cX1_commonestValue 35 = .ok (.iload 5, 2) := by decide +kernel
theorem dX1_commonestValue_37 : decode cX1_commonestValue 37 = .ok (.invokevirtual 81, 3) := by decide +kernel
theorem dX1_commonestValue_40 : decode cX1_commonestValue 40 = .ok (.istore 6, 2) := by decide +kernel
theorem dX1_commonestValue_42 : decode cX1_commonestValue 42 = .ok (.iload 6, 2) := by decide +kernel
theorem dX1_commonestValue_44 : decode cX1_commonestValue 44 = .ok (.iload_n 3, 1) := by decide +kernel
theorem dX1_commonestValue_45 : decode cX1_commonestValue 45 = .ok (.if_icmp .gt 15, 3) := by decide +kernel
theorem dX1_commonestValue_48 : decode cX1_commonestValue 48 = .ok (.iload 6, 2) := by decide +kernel
theorem dX1_commonestValue_50 : decode cX1_commonestValue 50 = .ok (.iload_n 3, 1) := by decide +kernel
theorem dX1_commonestValue_51 : decode cX1_commonestValue 51 = .ok (.if_icmp .ne 15, 3) := by decide +kernel
theorem dX1_commonestValue_54 : decode cX1_commonestValue 54 = .ok (.iload 5, 2) := by decide +kernel
theorem dX1_commonestValue_56 : decode cX1_commonestValue 56 = .ok (.iload_n 2, 1) := by decide +kernel
theorem dX1_commonestValue_57 : decode cX1_commonestValue 57 = .ok (.if_icmp .ge 9, 3) := by decide +kernel
theorem dX1_commonestValue_60 : decode cX1_commonestValue 60 = .ok (.iload 5, 2) := by decide +kernel
theorem dX1_commonestValue_62 : decode cX1_commonestValue 62 = .ok (.istore_n 2, 1) := by decide +kernel
theorem dX1_commonestValue_63 : decode cX1_commonestValue 63 = .ok (.iload 6, 2) := by decide +kernel
theorem dX1_commonestValue_65 : decode cX1_commonestValue 65 = .ok (.istore_n 3, 1) := by decide +kernel
theorem dX1_commonestValue_66 : decode cX1_commonestValue 66 = .ok (.iinc 4 1, 3) := by decide +kernel
theorem dX1_commonestValue_69 : decode cX1_commonestValue 69 = .ok (.goto (-52), 3) := by decide +kernel
theorem dX1_commonestValue_72 : decode cX1_commonestValue 72 = .ok (.iload_n 2, 1) := by decide +kernel
theorem dX1_commonestValue_73 : decode cX1_commonestValue 73 = .ok (.ireturn, 1) := by decide +kernel
set_option maxRecDepth 20000 in
theorem ggX1_slimmerBy_X1_commonestValue : GoodIn wsX1_slimmerBy wsX1_commonestValue := goodIn_r _ [5, 6, 7, 8, 4, 9, 10, 11, 12, 13, 14, 15, 16, 17, 38, 39, 40, 41, 42] (by decide +kernel) (by decide +kernel)
set_option maxRecDepth 20000 in
theorem gX1_slimmerBy_X1_commonestValue : GoodIn wsX1_slimmerBy (wsV RX1 62 RX1 yX1_commonestValue wsX1_commonestValue) := goodIn_app (goodIn_of _ (by decide +kernel)) ggX1_slimmerBy_X1_commonestValue
set_option maxRecDepth 20000 in
theorem ggX1_slimmerBy_X1_cellsWith : GoodIn wsX1_slimmerBy wsX1_cellsWith := goodIn_r _ [17, 6, 7, 8, 4, 9, 10, 11, 12, 13, 38, 39, 40, 41, 42] (by decide +kernel) (by decide +kernel)
set_option maxRecDepth 20000 in
theorem gX1_slimmerBy_X1_cellsWith : GoodIn wsX1_slimmerBy (wsV RX1 81 RX1 yX1_cellsWith wsX1_cellsWith) := goodIn_app (goodIn_of _ (by decide +kernel)) ggX1_slimmerBy_X1_cellsWith
set_option maxRecDepth 20000 in
theorem ggX1_slimmerBy_X1_weightOf : GoodIn wsX1_slimmerBy wsX1_weightOf := goodIn_r _ [21, 22, 23, 24, 4, 25, 26, 27, 28, 29, 10, 30, 11, 12, 13, 31, 32, 33, 34, 35, 36, 37, 38, 39, 40, 41, 42] (by decide +kernel) (by decide +kernel)
set_option maxRecDepth 20000 in
theorem gX1_slimmerBy_X1_weightOf : GoodIn wsX1_slimmerBy (wsV RX1 74 RX1 yX1_weightOf wsX1_weightOf) := goodIn_app (goodIn_of _ (by decide +kernel)) ggX1_slimmerBy_X1_weightOf
theorem dX1_slimmerBy_0 : decode cX1_slimmerBy 0 = .ok (.bipush 16, 2) := by decide +kernel
theorem dX1_slimmerBy_2 : decode cX1_slimmerBy 2 = .ok (.aload_n 0, 1) := by decide +kernel
theorem dX1_slimmerBy_3 : decode cX1_slimmerBy 3 = .ok (.iload_n 1, 1) := by decide +kernel
theorem dX1_slimmerBy_4 : decode cX1_slimmerBy 4 = .ok (.aload_n 0, 1) := by decide +kernel
theorem dX1_slimmerBy_5 : decode cX1_slimmerBy 5 = .ok (.iload_n 1, 1) := by decide +kernel
theorem dX1_slimmerBy_6 : decode cX1_slimmerBy 6 = .ok (.invokevirtual 62, 3) := by decide +kernel
theorem dX1_slimmerBy_9 : decode cX1_slimmerBy 9 = .ok (.invokevirtual 81, 3) := by decide +kernel
theorem dX1_slimmerBy_12 : decode cX1_slimmerBy 12 = .ok (.isub, 1) := by decide +kernel
theorem dX1_slimmerBy_13 : decode cX1_slimmerBy 13 = .ok (.istore_n 2, 1) := by decide +kernel
theorem dX1_slimmerBy_14 : decode cX1_slimmerBy 14 = .ok (.aload_n 0, 1) := by decide +kernel
theorem dX1_slimmerBy_15 : decode cX1_slimmerBy 15 = .ok (.iload_n 1, 1) := by decide +kernel
theorem dX1_slimmerBy_16 : decode cX1_slimmerBy 16 = .ok (.invokevirtual 74, 3) := by decide +kernel
theorem dX1_slimmerBy_19 : decode cX1_slimmerBy 19 = .ok (.iload_n 2, 1) := by decide +kernel
theorem dX1_slimmerBy_20 : decode cX1_slimmerBy 20 = .ok (.isub, 1) := by decide +kernel
theorem dX1_slimmerBy_21 : decode cX1_slimmerBy 21 = .ok (.ireturn, 1) := by decide +kernel
set_option maxRecDepth 20000 in
theorem ggX1_cellsWith_X1_valueAt : GoodIn wsX1_cellsWith wsX1_valueAt := goodIn_r _ [5, 6, 7, 8, 9, 10, 11, 12, 13, 14] (by decide +kernel) (by decide +kernel)
set_option maxRecDepth 20000 in
theorem gX1_cellsWith_X1_valueAt : GoodIn wsX1_cellsWith (wsV RX1 77 RX1 yX1_valueAt wsX1_valueAt) := goodIn_app (goodIn_of _ (by decide +kernel)) ggX1_cellsWith_X1_valueAt
theorem dX1_cellsWith_0 : decode cX1_cellsWith 0 = .ok (.iconst 0, 1) := by decide +kernel
theorem dX1_cellsWith_1 : decode cX1_cellsWith 1 = .ok (.istore_n 3, 1) := by decide +kernel
theorem dX1_cellsWith_2 : decode cX1_cellsWith 2 = .ok (.iconst 0, 1) := by decide +kernel
theorem dX1_cellsWith_3 : decode cX1_cellsWith 3 = .ok (.istore 4, 2) := by decide +kernel
theorem dX1_cellsWith_5 : decode cX1_cellsWith 5 = .ok (.iload 4, 2) := by decide +kernel
theorem dX1_cellsWith_7 : decode cX1_cellsWith 7 = .ok (.bipush 16, 2) := by decide +kernel
theorem dX1_cellsWith_9 : decode cX1_cellsWith 9 = .ok (.if_icmp .ge 23, 3) := by decide +kernel
theorem dX1_cellsWith_12 : decode cX1_cellsWith 12 = .ok (.aload_n 0, 1) := by decide +kernel
theorem dX1_cellsWith_13 : decode cX1_cellsWith 13 = .ok (.iload_n 1, 1) := by decide +kernel
theorem dX1_cellsWith_14 : decode cX1_cellsWith 14 = .ok (.iload 4, 2) := by decide +kernel
theorem dX1_cellsWith_16 : decode cX1_cellsWith 16 = .ok (.invokevirtual 77, 3) := by decide +kernel
theorem dX1_cellsWith_19 : decode cX1_cellsWith 19 = .ok (.iload_n 2, 1) := by decide +kernel
theorem dX1_cellsWith_20 : decode cX1_cellsWith 20 = .ok (.if_icmp .ne 6, 3) := by decide +kernel
theorem dX1_cellsWith_23 : decode cX1_cellsWith 23 = .ok (.iinc 3 1, 3) := by decide +kernel
theorem dX1_cellsWith_26 : decode cX1_cellsWith 26 = .ok (.iinc 4 1, 3) := by decide +kernel
theorem dX1_cellsWith_29 : decode cX1_cellsWith 29 = .ok (.goto (-24), 3) := by decide +kernel
theorem dX1_cellsWith_32 : decode cX1_cellsWith 32 = .ok (.iload_n 3, 1) := by decide +kernel
theorem dX1_cellsWith_33 : decode cX1_cellsWith 33 = .ok (.ireturn, 1) := by decide +kernel
set_option maxRecDepth 20000 in
theorem ggX1_mostLike_X1_equalCells : GoodIn wsX1_mostLike wsX1_equalCells := goodIn_r _ [6, 7, 8, 9, 5, 10, 11, 12, 13, 14, 15, 16, 17, 18, 19] (by decide +kernel) (by decide +kernel)
set_option maxRecDepth 20000 in
theorem gX1_mostLike_X1_equalCells : GoodIn wsX1_mostLike (wsV RX1 84 RX1 yX1_equalCells wsX1_equalCells) := goodIn_app (goodIn_of _ (by decide +kernel)) ggX1_mostLike_X1_equalCells
theorem dX1_mostLike_0 : decode cX1_mostLike 0 = .ok (.bipush (-9), 2) := by decide +kernel
theorem dX1_mostLike_2 : decode cX1_mostLike 2 = .ok (.istore_n 2, 1) := by decide +kernel
theorem dX1_mostLike_3 : decode cX1_mostLike 3 = .ok (.iconst (-1), 1) := by decide +kernel
theorem dX1_mostLike_4 : decode cX1_mostLike 4 = .ok (.istore_n 3, 1) := by decide +kernel
theorem dX1_mostLike_5 : decode cX1_mostLike 5 = .ok (.iconst 0, 1) := by decide +kernel
theorem dX1_mostLike_6 : decode cX1_mostLike 6 = .ok (.istore 4, 2) := by decide +kernel
theorem dX1_mostLike_8 : decode cX1_mostLike 8 = .ok (.iload 4, 2) := by decide +kernel
theorem dX1_mostLike_10 : decode cX1_mostLike 10 = .ok (.aload_n 0, 1) := by decide +kernel
theorem dX1_mostLike_11 : decode cX1_mostLike 11 = .ok (.getfield 9, 3) := by decide +kernel
theorem dX1_mostLike_14 : decode cX1_mostLike 14 = .ok (.if_icmp .ge 36, 3) := by decide +kernel
theorem dX1_mostLike_17 : decode cX1_mostLike 17 = .ok (.aload_n 0, 1) := by decide +kernel
theorem dX1_mostLike_18 : decode cX1_mostLike 18 = .ok (.iload_n 1, 1) := by decide +kernel
theorem dX1_mostLike_19 : decode cX1_mostLike 19 = .ok (.iload 4, 2) := by decide +kernel
theorem dX1_mostLike_21 : decode cX1_mostLike 21 = .ok (.invokevirtual 84, 3) := by decide +kernel
theorem dX1_mostLike_24 : decode cX1_mostLike 24 = .ok (.istore 5, 2) := by decide +kernel
theorem dX1_mostLike_26 : decode cX1_mostLike 26 = .ok (.iload 4, 2) := by decide +kernel
theorem dX1_mostLike_28 : decode cX1_mostLike 28 = .ok (.iload_n 1, 1) := by decide +kernel
theorem dX1_mostLike_29 : decode cX1_mostLike 29 = .ok (.if_icmp .eq 15, 3) := by decide +kernel
theorem dX1_mostLike_32 : decode cX1_mostLike 32 = .ok (.iload 5, 2) := by decide +kernel
theorem dX1_mostLike_34 : decode cX1_mostLike 34 = .ok (.iload_n 3, 1) := by decide +kernel
theorem dX1_mostLike_35 : decode cX1_mostLike 35 = .ok (.if_icmp .le 9, 3) := by decide +kernel
theorem dX1_mostLike_38 : decode cX1_mostLike 38 = .ok (.iload 4, 2) := by decide +kernel
theorem dX1_mostLike_40 : decode cX1_mostLike 40 = .ok (.istore_n 2, 1) := by decide +kernel
theorem dX1_mostLike_41 : decode cX1_mostLike 41 = .ok (.iload 5, 2) := by decide +kernel
theorem dX1_mostLike_43 : decode cX1_mostLike 43 = .ok (.istore_n 3, 1) := by decide +kernel
theorem dX1_mostLike_44 : decode cX1_mostLike 44 = .ok (.iinc 4 1, 3) := by decide +kernel
theorem dX1_mostLike_47 : decode cX1_mostLike 47 = .ok (.goto (-39), 3) := by decide +kernel
theorem dX1_mostLike_50 : decode cX1_mostLike 50 = .ok (.iload_n 2, 1) := by decide +kernel
theorem dX1_mostLike_51 : decode cX1_mostLike 51 = .ok (.ireturn, 1) := by decide +kernel
set_option maxRecDepth 20000 in
theorem ggX1_equalCells_X1_valueAt : GoodIn wsX1_equalCells wsX1_valueAt := goodIn_r _ [5, 6, 7, 8, 9, 10, 11, 12, 13, 14] (by decide +kernel) (by decide +kernel)
set_option maxRecDepth 20000 in
theorem gX1_equalCells_X1_valueAt : GoodIn wsX1_equalCells (wsV RX1 77 RX1 yX1_valueAt wsX1_valueAt) := goodIn_app (goodIn_of _ (by decide +kernel)) ggX1_equalCells_X1_valueAt
theorem dX1_equalCells_0 : decode cX1_equalCells 0 = .ok (.iconst 0, 1) := by decide +kernel
theorem dX1_equalCells_1 : decode cX1_equalCells 1 = .ok (.istore_n 3, 1) := by decide +kernel
theorem dX1_equalCells_2 : decode cX1_equalCells 2 = .ok (.iconst 0, 1) := by decide +kernel
theorem dX1_equalCells_3 : decode cX1_equalCells 3 = .ok (.istore 4, 2) := by decide +kernel
theorem dX1_equalCells_5 : decode cX1_equalCells 5 = .ok (.iload 4, 2) := by decide +kernel
theorem dX1_equalCells_7 : decode cX1_equalCells 7 = .ok (.bipush 16, 2) := by decide +kernel
theorem dX1_equalCells_9 : decode cX1_equalCells 9 = .ok (.if_icmp .ge 29, 3) := by decide +kernel
theorem dX1_equalCells_12 : decode cX1_equalCells 12 = .ok (.aload_n 0, 1) := by decide +kernel
theorem dX1_equalCells_13 : decode cX1_equalCells 13 = .ok (.iload_n 1, 1) := by decide +kernel
theorem dX1_equalCells_14 : decode cX1_equalCells 14 = .ok (.iload 4, 2) := by decide +kernel
theorem dX1_equalCells_16 : decode cX1_equalCells 16 = .ok (.invokevirtual 77, 3) := by decide +kernel
theorem dX1_equalCells_19 : decode cX1_equalCells 19 = .ok (.aload_n 0, 1) := by decide +kernel
theorem dX1_equalCells_20 : decode cX1_equalCells 20 = .ok (.iload_n 2, 1) := by decide +kernel
theorem dX1_equalCells_21 : decode cX1_equalCells 21 = .ok (.iload 4, 2) := by decide +kernel
theorem dX1_equalCells_23 : decode cX1_equalCells 23 = .ok (.invokevirtual 77, 3) := by decide +kernel
theorem dX1_equalCells_26 : decode cX1_equalCells 26 = .ok (.if_icmp .ne 6, 3) := by decide +kernel
theorem dX1_equalCells_29 : decode cX1_equalCells 29 = .ok (.iinc 3 1, 3) := by decide +kernel
theorem dX1_equalCells_32 : decode cX1_equalCells 32 = .ok (.iinc 4 1, 3) := by decide +kernel
theorem dX1_equalCells_35 : decode cX1_equalCells 35 = .ok (.goto (-30), 3) := by decide +kernel
theorem dX1_equalCells_38 : decode cX1_equalCells 38 = .ok (.iload_n 3, 1) := by decide +kernel
theorem dX1_equalCells_39 : decode cX1_equalCells 39 = .ok (.ireturn, 1) := by decide +kernel
set_option maxRecDepth 20000 in
theorem ggX1_formOf_X5_numberAt : GoodIn wsX1_formOf wsX5_numberAt := goodIn_r _ [4] (by decide +kernel) (by decide +kernel)
set_option maxRecDepth 20000 in
theorem gX1_formOf_X5_numberAt_n46 : GoodIn wsX1_formOf (wsX5_numberAt) := ggX1_formOf_X5_numberAt
theorem dX1_formOf_0 : decode cX1_formOf 0 = .ok (.aload_n 0, 1) := by decide +kernel
theorem dX1_formOf_1 : decode cX1_formOf 1 = .ok (.getfield 22, 3) := by decide +kernel
theorem dX1_formOf_4 : decode cX1_formOf 4 = .ok (.iload_n 1, 1) := by decide +kernel
theorem dX1_formOf_5 : decode cX1_formOf 5 = .ok (.invokestatic 46, 3) := by decide +kernel
theorem dX1_formOf_8 : decode cX1_formOf 8 = .ok (.ireturn, 1) := by decide +kernel
set_option maxRecDepth 20000 in
theorem ggX1_giveForm_X5_putAt : GoodIn wsX1_giveForm wsX5_putAt := goodIn_r _ [4] (by decide +kernel) (by decide +kernel)
set_option maxRecDepth 20000 in
theorem gX1_giveForm_X5_putAt_n50 : GoodIn wsX1_giveForm (wsX5_putAt) := ggX1_giveForm_X5_putAt
theorem dX1_giveForm_0 : decode cX1_giveForm 0 = .ok (.aload_n 0, 1) := by decide +kernel
theorem dX1_giveForm_1 : decode cX1_giveForm 1 = .ok (.getfield 22, 3) := by decide +kernel
theorem dX1_giveForm_4 : decode cX1_giveForm 4 = .ok (.iload_n 1, 1) := by decide +kernel
theorem dX1_giveForm_5 : decode cX1_giveForm 5 = .ok (.iload_n 2, 1) := by decide +kernel
theorem dX1_giveForm_6 : decode cX1_giveForm 6 = .ok (.invokestatic 50, 3) := by decide +kernel
theorem dX1_giveForm_9 : decode cX1_giveForm 9 = .ok (.return_, 1) := by decide +kernel
set_option maxRecDepth 20000 in
theorem ggX1_shiftOf_X5_numberAt : GoodIn wsX1_shiftOf wsX5_numberAt := goodIn_r _ [4] (by decide +kernel) (by decide +kernel)
set_option maxRecDepth 20000 in
theorem gX1_shiftOf_X5_numberAt_n46 : GoodIn wsX1_shiftOf (wsX5_numberAt) := ggX1_shiftOf_X5_numberAt
theorem dX1_shiftOf_0 : decode cX1_shiftOf 0 = .ok (.aload_n 0, 1) := by decide +kernel
theorem dX1_shiftOf_1 : decode cX1_shiftOf 1 = .ok (.getfield 25, 3) := by decide +kernel
theorem dX1_shiftOf_4 : decode cX1_shiftOf 4 = .ok (.iload_n 1, 1) := by decide +kernel
theorem dX1_shiftOf_5 : decode cX1_shiftOf 5 = .ok (.invokestatic 46, 3) := by decide +kernel
theorem dX1_shiftOf_8 : decode cX1_shiftOf 8 = .ok (.ireturn, 1) := by decide +kernel
set_option maxRecDepth 20000 in
theorem ggX1_changeShift_X5_putAt : GoodIn wsX1_changeShift wsX5_putAt := goodIn_r _ [4] (by decide +kernel) (by decide +kernel)
set_option maxRecDepth 20000 in
theorem gX1_changeShift_X5_putAt_n50 : GoodIn wsX1_changeShift (wsX5_putAt) := ggX1_changeShift_X5_putAt
theorem dX1_changeShift_0 : decode cX1_changeShift 0 = .ok (.aload_n 0, 1) := by decide +kernel
theorem dX1_changeShift_1 : decode cX1_changeShift 1 = .ok (.getfield 25, 3) := by decide +kernel
theorem dX1_changeShift_4 : decode cX1_changeShift 4 = .ok (.iload_n 1, 1) := by decide +kernel
theorem dX1_changeShift_5 : decode cX1_changeShift 5 = .ok (.iload_n 2, 1) := by decide +kernel
theorem dX1_changeShift_6 : decode cX1_changeShift 6 = .ok (.invokestatic 50, 3) := by decide +kernel
theorem dX1_changeShift_9 : decode cX1_changeShift 9 = .ok (.return_, 1) := by decide +kernel
set_option maxRecDepth 20000 in
theorem ggX1_formCount_X1_shiftOf : GoodIn wsX1_formCount wsX1_shiftOf := goodIn_r _ [5, 6, 7, 8, 9, 10, 11, 12, 13, 14] (by decide +kernel) (by decide +kernel)
set_option maxRecDepth 20000 in
theorem gX1_formCount_X1_shiftOf : GoodIn wsX1_formCount (wsV RX1 87 RX1 yX1_shiftOf wsX1_shiftOf) := goodIn_app (goodIn_of _ (by decide +kernel)) ggX1_formCount_X1_shiftOf
theorem dX1_formCount_0 : decode cX1_formCount 0 = .ok (.iconst 0, 1) := by decide +kernel
theorem dX1_formCount_1 : decode cX1_formCount 1 = .ok (.istore_n 1, 1) := by decide +kernel
theorem dX1_formCount_2 : decode cX1_formCount 2 = .ok (.iconst 0, 1) := by decide +kernel
theorem dX1_formCount_3 : decode cX1_formCount 3 = .ok (.istore_n 2, 1) := by decide +kernel
theorem dX1_formCount_4 : decode cX1_formCount 4 = .ok (.iload_n 2, 1) := by decide +kernel
theorem dX1_formCount_5 : decode cX1_formCount 5 = .ok (.bipush 24, 2) := by decide +kernel
theorem dX1_formCount_7 : decode cX1_formCount 7 = .ok (.if_icmp .ge 22, 3) := by decide +kernel
theorem dX1_formCount_10 : decode cX1_formCount 10 = .ok (.aload_n 0, 1) := by decide +kernel
theorem dX1_formCount_11 : decode cX1_formCount 11 = .ok (.iload_n 2, 1) := by decide +kernel
theorem dX1_formCount_12 : decode cX1_formCount 12 = .ok (.invokevirtual 87, 3) := by decide +kernel
theorem dX1_formCount_15 : decode cX1_formCount 15 = .ok (.bipush (-9), 2) := by decide +kernel
theorem dX1_formCount_17 : decode cX1_formCount 17 = .ok (.if_icmp .eq 6, 3) := by decide +kernel
theorem dX1_formCount_20 : decode cX1_formCount 20 = .ok (.iinc 1 1, 3) := by decide +kernel
theorem dX1_formCount_23 : decode cX1_formCount 23 = .ok (.iinc 2 1, 3) := by decide +kernel
theorem dX1_formCount_26 : decode cX1_formCount 26 = .ok (.goto (-22), 3) := by decide +kernel
theorem dX1_formCount_29 : decode cX1_formCount 29 = .ok (.iload_n 1, 1) := by decide +kernel
theorem dX1_formCount_30 : decode cX1_formCount 30 = .ok (.ireturn, 1) := by decide +kernel
set_option maxRecDepth 20000 in
theorem ggX1_sharersOf_X1_formOf : GoodIn wsX1_sharersOf wsX1_formOf := goodIn_r _ [6, 7, 8, 9, 10, 11, 12, 13, 14, 15] (by decide +kernel) (by decide +kernel)
set_option maxRecDepth 20000 in
theorem gX1_sharersOf_X1_formOf : GoodIn wsX1_sharersOf (wsV RX1 90 RX1 yX1_formOf wsX1_formOf) := goodIn_app (goodIn_of _ (by decide +kernel)) ggX1_sharersOf_X1_formOf
theorem dX1_sharersOf_0 : decode cX1_sharersOf 0 = .ok (.iconst 0, 1) := by decide +kernel
theorem dX1_sharersOf_1 : decode cX1_sharersOf 1 = .ok (.istore_n 2, 1) := by decide +kernel
theorem dX1_sharersOf_2 : decode cX1_sharersOf 2 = .ok (.iconst 0, 1) := by decide +kernel
theorem dX1_sharersOf_3 : decode cX1_sharersOf 3 = .ok (.istore_n 3, 1) := by decide +kernel
theorem dX1_sharersOf_4 : decode cX1_sharersOf 4 = .ok (.iload_n 3, 1) := by decide +kernel
theorem dX1_sharersOf_5 : decode cX1_sharersOf 5 = .ok (.aload_n 0, 1) := by decide +kernel
theorem dX1_sharersOf_6 : decode cX1_sharersOf 6 = .ok (.getfield 9, 3) := by decide +kernel
theorem dX1_sharersOf_9 : decode cX1_sharersOf 9 = .ok (.if_icmp .ge 21, 3) := by decide +kernel
theorem dX1_sharersOf_12 : decode cX1_sharersOf 12 = .ok (.aload_n 0, 1) := by decide +kernel
theorem dX1_sharersOf_13 : decode cX1_sharersOf 13 = .ok (.iload_n 3, 1) := by decide +kernel
theorem dX1_sharersOf_14 : decode cX1_sharersOf 14 = .ok (.invokevirtual 90, 3) := by decide +kernel
theorem dX1_sharersOf_17 : decode cX1_sharersOf 17 = .ok (.iload_n 1, 1) := by decide +kernel
theorem dX1_sharersOf_18 : decode cX1_sharersOf 18 = .ok (.if_icmp .ne 6, 3) := by decide +kernel
theorem dX1_sharersOf_21 : decode cX1_sharersOf 21 = .ok (.iinc 2 1, 3) := by decide +kernel
theorem dX1_sharersOf_24 : decode cX1_sharersOf 24 = .ok (.iinc 3 1, 3) := by decide +kernel
theorem dX1_sharersOf_27 : decode cX1_sharersOf 27 = .ok (.goto (-23), 3) := by decide +kernel
theorem dX1_sharersOf_30 : decode cX1_sharersOf 30 = .ok (.iload_n 2, 1) := by decide +kernel
theorem dX1_sharersOf_31 : decode cX1_sharersOf 31 = .ok (.ireturn, 1) := by decide +kernel
set_option maxRecDepth 20000 in
theorem ggX1_freeForm_X1_shiftOf : GoodIn wsX1_freeForm wsX1_shiftOf := goodIn_r _ [5, 6, 7, 8, 9, 10, 11, 12, 13, 14] (by decide +kernel) (by decide +kernel)
set_option maxRecDepth 20000 in
theorem gX1_freeForm_X1_shiftOf : GoodIn wsX1_freeForm (wsV RX1 87 RX1 yX1_shiftOf wsX1_shiftOf) := goodIn_app (goodIn_of _ (by decide +kernel)) ggX1_freeForm_X1_shiftOf
theorem dX1_freeForm_0 : decode cX1_freeForm 0 = .ok (.iconst 0, 1) := by decide +kernel
theorem dX1_freeForm_1 : decode cX1_freeForm 1 = .ok (.istore_n 1, 1) := by decide +kernel
theorem dX1_freeForm_2 : decode cX1_freeForm 2 = .ok (.iload_n 1, 1) := by decide +kernel
theorem dX1_freeForm_3 : decode cX1_freeForm 3 = .ok (.bipush 24, 2) := by decide +kernel
theorem dX1_freeForm_5 : decode cX1_freeForm 5 = .ok (.if_icmp .ge 21, 3) := by decide +kernel
theorem dX1_freeForm_8 : decode cX1_freeForm 8 = .ok (.aload_n 0, 1) := by decide +kernel
theorem dX1_freeForm_9 : decode cX1_freeForm 9 = .ok (.iload_n 1, 1) := by decide +kernel
theorem dX1_freeForm_10 : decode cX1_freeForm 10 = .ok (.invokevirtual 87, 3) := by decide +kernel
theorem dX1_freeForm_13 : decode cX1_freeForm 13 = .ok (.bipush (-9), 2) := by decide +kernel
theorem dX1_freeForm_15 : decode cX1_freeForm 15 = .ok (.if_icmp .ne 5, 3) := by decide +kernel
theorem dX1_freeForm_18 : decode cX1_freeForm 18 = .ok (.iload_n 1, 1) := by decide +kernel
theorem dX1_freeForm_19 : decode cX1_freeForm 19 = .ok (.ireturn, 1) := by decide +kernel
theorem dX1_freeForm_20 : decode cX1_freeForm 20 = .ok (.iinc 1 1, 3) := by decide +kernel
theorem dX1_freeForm_23 : decode cX1_freeForm 23 = .ok (.goto (-21), 3) := by decide +kernel
theorem dX1_freeForm_26 : decode cX1_freeForm 26 = .ok (.bipush (-9), 2) := by decide +kernel
theorem dX1_freeForm_28 : decode cX1_freeForm 28 = .ok (.ireturn, 1) := by decide +kernel
