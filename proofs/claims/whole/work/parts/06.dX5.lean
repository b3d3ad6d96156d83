theorem dX5_init_0 : decode cX5_init 0 = .ok (.aload_n 0, 1) := by decide +kernel
theorem dX5_init_1 : decode cX5_init 1 = .ok (.invokespecial 1, 3) := by decide +kernel
theorem dX5_init_4 : decode cX5_init 4 = .ok (.aload_n 0, 1) := by decide +kernel
theorem dX5_init_5 : decode cX5_init 5 = .ok (.sipush 698, 3) := by decide +kernel
theorem dX5_init_8 : decode cX5_init 8 = .ok (.newarray .int, 2) := by decide +kernel
theorem dX5_init_10 : decode cX5_init 10 = .ok (.putfield 7, 3) := by decide +kernel
theorem dX5_init_13 : decode cX5_init 13 = .ok (.aload_n 0, 1) := by decide +kernel
theorem dX5_init_14 : decode cX5_init 14 = .ok (.sipush 698, 3) := by decide +kernel
theorem dX5_init_17 : decode cX5_init 17 = .ok (.newarray .int, 2) := by decide +kernel
theorem dX5_init_19 : decode cX5_init 19 = .ok (.putfield 13, 3) := by decide +kernel
theorem dX5_init_22 : decode cX5_init 22 = .ok (.aload_n 0, 1) := by decide +kernel
theorem dX5_init_23 : decode cX5_init 23 = .ok (.sipush 2792, 3) := by decide +kernel
theorem dX5_init_26 : decode cX5_init 26 = .ok (.newarray .int, 2) := by decide +kernel
theorem dX5_init_28 : decode cX5_init 28 = .ok (.putfield 16, 3) := by decide +kernel
theorem dX5_init_31 : decode cX5_init 31 = .ok (.aload_n 0, 1) := by decide +kernel
theorem dX5_init_32 : decode cX5_init 32 = .ok (.sipush 698, 3) := by decide +kernel
theorem dX5_init_35 : decode cX5_init 35 = .ok (.newarray .int, 2) := by decide +kernel
theorem dX5_init_37 : decode cX5_init 37 = .ok (.putfield 19, 3) := by decide +kernel
theorem dX5_init_40 : decode cX5_init 40 = .ok (.aload_n 0, 1) := by decide +kernel
theorem dX5_init_41 : decode cX5_init 41 = .ok (.bipush 80, 2) := by decide +kernel
theorem dX5_init_43 : decode cX5_init 43 = .ok (.newarray .int, 2) := by decide +kernel
theorem dX5_init_45 : decode cX5_init 45 = .ok (.putfield 22, 3) := by decide +kernel
theorem dX5_init_48 : decode cX5_init 48 = .ok (.aload_n 0, 1) := by decide +kernel
theorem dX5_init_49 : decode cX5_init 49 = .ok (.sipush (-10005), 3) := by decide +kernel
theorem dX5_init_52 : decode cX5_init 52 = .ok (.putfield 25, 3) := by decide +kernel
theorem dX5_init_55 : decode cX5_init 55 = .ok (.aload_n 0, 1) := by decide +kernel
theorem dX5_init_56 : decode cX5_init 56 = .ok (.sipush (-10005), 3) := by decide +kernel
theorem dX5_init_59 : decode cX5_init 59 = .ok (.putfield 29, 3) := by decide +kernel
theorem dX5_init_62 : decode cX5_init 62 = .ok (.aload_n 0, 1) := by decide +kernel
theorem dX5_init_63 : decode cX5_init 63 = .ok (.bipush 84, 2) := by decide +kernel
theorem dX5_init_65 : decode cX5_init 65 = .ok (.newarray .int, 2) := by decide +kernel
theorem dX5_init_67 : decode cX5_init 67 = .ok (.putfield 32, 3) := by decide +kernel
theorem dX5_init_70 : decode cX5_init 70 = .ok (.aload_n 0, 1) := by decide +kernel
theorem dX5_init_71 : decode cX5_init 71 = .ok (.getfield 7, 3) := by decide +kernel
theorem dX5_init_74 : decode cX5_init 74 = .ok (.iconst 0, 1) := by decide +kernel
theorem dX5_init_75 : decode cX5_init 75 = .ok (.iconst 1, 1) := by decide +kernel
theorem dX5_init_76 : decode cX5_init 76 = .ok (.iastore, 1) := by decide +kernel
theorem dX5_init_77 : decode cX5_init 77 = .ok (.return_, 1) := by decide +kernel
theorem dX5_in_0 : decode cX5_in 0 = .ok (.iload_n 0, 1) := by decide +kernel
theorem dX5_in_1 : decode cX5_in 1 = .ok (.iload_n 1, 1) := by decide +kernel
theorem dX5_in_2 : decode cX5_in 2 = .ok (.if_icmp .lt 12, 3) := by decide +kernel
theorem dX5_in_5 : decode cX5_in 5 = .ok (.iload_n 0, 1) := by decide +kernel
theorem dX5_in_6 : decode cX5_in 6 = .ok (.iload_n 2, 1) := by decide +kernel
theorem dX5_in_7 : decode cX5_in 7 = .ok (.if_icmp .gt 7, 3) := by decide +kernel
theorem dX5_in_10 : decode cX5_in 10 = .ok (.iconst 1, 1) := by decide +kernel
theorem dX5_in_11 : decode cX5_in 11 = .ok (.goto 4, 3) := by decide +kernel
theorem dX5_in_14 : decode cX5_in 14 = .ok (.iconst 0, 1) := by decide +kernel
theorem dX5_in_15 : decode cX5_in 15 = .ok (.ireturn, 1) := by decide +kernel
set_option maxRecDepth 20000 in
theorem ggX5_isName_X5_in : GoodIn wsX5_isName wsX5_in := goodIn_r _ [4] (by decide +kernel) (by decide +kernel)
set_option maxRecDepth 20000 in
theorem gX5_isName_X5_in : GoodIn wsX5_isName (va_wsS RX5 35 yX5_in wsX5_in) := goodIn_app (goodIn_of _ (by decide +kernel)) ggX5_isName_X5_in
theorem dX5_isName_0 : decode cX5_isName 0 = .ok (.iload_n 0, 1) := by decide +kernel
theorem dX5_isName_1 : decode cX5_isName 1 = .ok (.iconst 0, 1) := by decide +kernel
theorem dX5_isName_2 : decode cX5_isName 2 = .ok (.bipush 7, 2) := by decide +kernel
theorem dX5_isName_4 : decode cX5_isName 4 = .ok (.invokestatic 35, 3) := by decide +kernel
theorem dX5_isName_7 : decode cX5_isName 7 = .ok (.ireturn, 1) := by decide +kernel
set_option maxRecDepth 20000 in
theorem ggX5_isRow_X5_in : GoodIn wsX5_isRow wsX5_in := goodIn_r _ [4] (by decide +kernel) (by decide +kernel)
set_option maxRecDepth 20000 in
theorem gX5_isRow_X5_in : GoodIn wsX5_isRow (va_wsS RX5 35 yX5_in wsX5_in) := goodIn_app (goodIn_of _ (by decide +kernel)) ggX5_isRow_X5_in
theorem dX5_isRow_0 : decode cX5_isRow 0 = .ok (.iload_n 1, 1) := by decide +kernel
theorem dX5_isRow_1 : decode cX5_isRow 1 = .ok (.iconst 0, 1) := by decide +kernel
theorem dX5_isRow_2 : decode cX5_isRow 2 = .ok (.aload_n 0, 1) := by decide +kernel
theorem dX5_isRow_3 : decode cX5_isRow 3 = .ok (.iconst 1, 1) := by decide +kernel
theorem dX5_isRow_4 : decode cX5_isRow 4 = .ok (.iaload, 1) := by decide +kernel
theorem dX5_isRow_5 : decode cX5_isRow 5 = .ok (.iconst 1, 1) := by decide +kernel
theorem dX5_isRow_6 : decode cX5_isRow 6 = .ok (.isub, 1) := by decide +kernel
theorem dX5_isRow_7 : decode cX5_isRow 7 = .ok (.invokestatic 35, 3) := by decide +kernel
theorem dX5_isRow_10 : decode cX5_isRow 10 = .ok (.ireturn, 1) := by decide +kernel
set_option maxRecDepth 20000 in
theorem ggX5_isSeason_X5_in : GoodIn wsX5_isSeason wsX5_in := goodIn_r _ [5] (by decide +kernel) (by decide +kernel)
set_option maxRecDepth 20000 in
theorem gX5_isSeason_X5_in : GoodIn wsX5_isSeason (va_wsS RX5 35 yX5_in wsX5_in) := goodIn_app (goodIn_of _ (by decide +kernel)) ggX5_isSeason_X5_in
theorem dX5_isSeason_0 : decode cX5_isSeason 0 = .ok (.iload_n 1, 1) := by decide +kernel
theorem dX5_isSeason_1 : decode cX5_isSeason 1 = .ok (.iconst 0, 1) := by decide +kernel
theorem dX5_isSeason_2 : decode cX5_isSeason 2 = .ok (.aload_n 0, 1) := by decide +kernel
theorem dX5_isSeason_3 : decode cX5_isSeason 3 = .ok (.getfield 7, 3) := by decide +kernel
theorem dX5_isSeason_6 : decode cX5_isSeason 6 = .ok (.iconst 0, 1) := by decide +kernel
theorem dX5_isSeason_7 : decode cX5_isSeason 7 = .ok (.iaload, 1) := by decide +kernel
theorem dX5_isSeason_8 : decode cX5_isSeason 8 = .ok (.iconst 1, 1) := by decide +kernel
theorem dX5_isSeason_9 : decode cX5_isSeason 9 = .ok (.isub, 1) := by decide +kernel
theorem dX5_isSeason_10 : decode cX5_isSeason 10 = .ok (.invokestatic 35, 3) := by decide +kernel
theorem dX5_isSeason_13 : decode cX5_isSeason 13 = .ok (.ireturn, 1) := by decide +kernel
theorem dX5_copies_0 : decode cX5_copies 0 = .ok (.iconst 0, 1) := by decide +kernel
theorem dX5_copies_1 : decode cX5_copies 1 = .ok (.istore 4, 2) := by decide +kernel
theorem dX5_copies_3 : decode cX5_copies 3 = .ok (.iload 4, 2) := by decide +kernel
theorem dX5_copies_5 : decode cX5_copies 5 = .ok (.sipush 698, 3) := by decide +kernel
theorem dX5_copies_8 : decode cX5_copies 8 = .ok (.if_icmp .ge 21, 3) := by decide +kernel
theorem dX5_copies_11 : decode cX5_copies 11 = .ok (.aload_n 2, 1) := by decide +kernel
theorem dX5_copies_12 : decode cX5_copies 12 = .ok (.iload_n 3, 1) := by decide +kernel
theorem dX5_copies_13 : decode cX5_copies 13 = .ok (.iload 4, 2) := by decide +kernel
theorem dX5_copies_15 : decode cX5_copies 15 = .ok (.iadd, 1) := by decide +kernel
theorem dX5_copies_16 : decode cX5_copies 16 = .ok (.aload_n 0, 1) := by decide +kernel
theorem dX5_copies_17 : decode cX5_copies 17 = .ok (.iload_n 1, 1) := by decide +kernel
theorem dX5_copies_18 : decode cX5_copies 18 = .ok (.iload 4, 2) := by decide +kernel
theorem dX5_copies_20 : decode cX5_copies 20 = .ok (.iadd, 1) := by decide +kernel
theorem dX5_copies_21 : decode cX5_copies 21 = .ok (.iaload, 1) := by decide +kernel
theorem dX5_copies_22 : decode cX5_copies 22 = .ok (.iastore, 1) := by decide +kernel
theorem dX5_copies_23 : decode cX5_copies 23 = .ok (.iinc 4 1, 3) := by decide +kernel
theorem dX5_copies_26 : decode cX5_copies 26 = .ok (.goto (-23), 3) := by decide +kernel
theorem dX5_copies_29 : decode cX5_copies 29 = .ok (.return_, 1) := by decide +kernel
set_option maxRecDepth 20000 in
theorem ggX5_records_X5_copies : GoodIn wsX5_records wsX5_copies := goodIn_r _ [7] (by decide +kernel) (by decide +kernel)
set_option maxRecDepth 20000 in
theorem gX5_records_X5_copies : GoodIn wsX5_records (va_wsS RX5 42 yX5_copies wsX5_copies) := goodIn_app (goodIn_of _ (by decide +kernel)) ggX5_records_X5_copies
theorem dX5_records_0 : decode cX5_records 0 = .ok (.aload_n 0, 1) := by decide +kernel
theorem dX5_records_1 : decode cX5_records 1 = .ok (.getfield 39, 3) := by decide +kernel
theorem dX5_records_4 : decode cX5_records 4 = .ok (.iconst 4, 1) := by decide +kernel
theorem dX5_records_5 : decode cX5_records 5 = .ok (.if_icmp .ne 44, 3) := by decide +kernel
theorem dX5_records_8 : decode cX5_records 8 = .ok (.iconst 0, 1) := by decide +kernel
theorem dX5_records_9 : decode cX5_records 9 = .ok (.istore_n 1, 1) := by decide +kernel
theorem dX5_records_10 : decode cX5_records 10 = .ok (.iload_n 1, 1) := by decide +kernel
theorem dX5_records_11 : decode cX5_records 11 = .ok (.sipush 2094, 3) := by decide +kernel
theorem dX5_records_14 : decode cX5_records 14 = .ok (.if_icmp .ge 25, 3) := by decide +kernel
theorem dX5_records_17 : decode cX5_records 17 = .ok (.aload_n 0, 1) := by decide +kernel
theorem dX5_records_18 : decode cX5_records 18 = .ok (.getfield 16, 3) := by decide +kernel
theorem dX5_records_21 : decode cX5_records 21 = .ok (.iload_n 1, 1) := by decide +kernel
theorem dX5_records_22 : decode cX5_records 22 = .ok (.aload_n 0, 1) := by decide +kernel
theorem dX5_records_23 : decode cX5_records 23 = .ok (.getfield 16, 3) := by decide +kernel
theorem dX5_records_26 : decode cX5_records 26 = .ok (.iload_n 1, 1) := by decide +kernel
theorem dX5_records_27 : decode cX5_records 27 = .ok (.sipush 698, 3) := by decide +kernel
theorem dX5_records_30 : decode cX5_records 30 = .ok (.iadd, 1) := by decide +kernel
theorem dX5_records_31 : decode cX5_records 31 = .ok (.iaload, 1) := by decide +kernel
theorem dX5_records_32 : decode cX5_records 32 = .ok (.iastore, 1) := by decide +kernel
theorem dX5_records_33 : decode cX5_records 33 = .ok (.iinc 1 1, 3) := by decide +kernel
theorem dX5_records_36 : decode cX5_records 36 = .ok (.goto (-26), 3) := by decide +kernel
theorem dX5_records_39 : decode cX5_records 39 = .ok (.aload_n 0, 1) := by decide +kernel
theorem dX5_records_40 : decode cX5_records 40 = .ok (.dup, 1) := by decide +kernel
theorem dX5_records_41 : decode cX5_records 41 = .ok (.getfield 39, 3) := by decide +kernel
theorem dX5_records_44 : decode cX5_records 44 = .ok (.iconst 1, 1) := by decide +kernel
theorem dX5_records_45 : decode cX5_records 45 = .ok (.isub, 1) := by decide +kernel
theorem dX5_records_46 : decode cX5_records 46 = .ok (.putfield 39, 3) := by decide +kernel
theorem dX5_records_49 : decode cX5_records 49 = .ok (.aload_n 0, 1) := by decide +kernel
theorem dX5_records_50 : decode cX5_records 50 = .ok (.getfield 7, 3) := by decide +kernel
theorem dX5_records_53 : decode cX5_records 53 = .ok (.iconst 0, 1) := by decide +kernel
theorem dX5_records_54 : decode cX5_records 54 = .ok (.aload_n 0, 1) := by decide +kernel
theorem dX5_records_55 : decode cX5_records 55 = .ok (.getfield 16, 3) := by decide +kernel
theorem dX5_records_58 : decode cX5_records 58 = .ok (.sipush 698, 3) := by decide +kernel
theorem dX5_records_61 : decode cX5_records 61 = .ok (.aload_n 0, 1) := by decide +kernel
theorem dX5_records_62 : decode cX5_records 62 = .ok (.getfield 39, 3) := by decide +kernel
theorem dX5_records_65 : decode cX5_records 65 = .ok (.imul, 1) := by decide +kernel
theorem dX5_records_66 : decode cX5_records 66 = .ok (.invokestatic 42, 3) := by decide +kernel
theorem dX5_records_69 : decode cX5_records 69 = .ok (.aload_n 0, 1) := by decide +kernel
theorem dX5_records_70 : decode cX5_records 70 = .ok (.dup, 1) := by decide +kernel
theorem dX5_records_71 : decode cX5_records 71 = .ok (.getfield 39, 3) := by decide +kernel
theorem dX5_records_74 : decode cX5_records 74 = .ok (.iconst 1, 1) := by decide +kernel
theorem dX5_records_75 : decode cX5_records 75 = .ok (.iadd, 1) := by decide +kernel
theorem dX5_records_76 : decode cX5_records 76 = .ok (.putfield 39, 3) := by decide +kernel
theorem dX5_records_79 : decode cX5_records 79 = .ok (.return_, 1) := by decide +kernel
set_option maxRecDepth 20000 in
theorem ggX5_undo_X5_copies : GoodIn wsX5_undo wsX5_copies := goodIn_r _ [7] (by decide +kernel) (by decide +kernel)
set_option maxRecDepth 20000 in
theorem gX5_undo_X5_copies : GoodIn wsX5_undo (va_wsS RX5 42 yX5_copies wsX5_copies) := goodIn_app (goodIn_of _ (by decide +kernel)) ggX5_undo_X5_copies
theorem dX5_undo_0 : decode cX5_undo 0 = .ok (.aload_n 0, 1) := by decide +kernel
theorem dX5_undo_1 : decode cX5_undo 1 = .ok (.getfield 39, 3) := by decide +kernel
theorem dX5_undo_4 : decode cX5_undo 4 = .ok (.ifCond .ne 7, 3) := by decide +kernel
theorem dX5_undo_7 : decode cX5_undo 7 = .ok (.sipush (-10005), 3) := by decide +kernel
theorem dX5_undo_10 : decode cX5_undo 10 = .ok (.ireturn, 1) := by decide +kernel
theorem dX5_undo_11 : decode cX5_undo 11 = .ok (.aload_n 0, 1) := by decide +kernel
theorem dX5_undo_12 : decode cX5_undo 12 = .ok (.dup, 1) := by decide +kernel
theorem dX5_undo_13 : decode cX5_undo 13 = .ok (.getfield 39, 3) := by decide +kernel
theorem dX5_undo_16 : decode cX5_undo 16 = .ok (.iconst 1, 1) := by decide +kernel
theorem dX5_undo_17 : decode cX5_undo 17 = .ok (.isub, 1) := by decide +kernel
theorem dX5_undo_18 : decode cX5_undo 18 = .ok (.putfield 39, 3) := by decide +kernel
theorem dX5_undo_21 : decode cX5_undo 21 = .ok (.aload_n 0, 1) := by decide +kernel
theorem dX5_undo_22 : decode cX5_undo 22 = .ok (.getfield 16, 3) := by decide +kernel
theorem dX5_undo_25 : decode cX5_undo 25 = .ok (.sipush 698, 3) := by decide +kernel
theorem dX5_undo_28 : decode cX5_undo 28 = .ok (.aload_n 0, 1) := by decide +kernel
theorem dX5_undo_29 : decode cX5_undo 29 = .ok (.getfield 39, 3) := by decide +kernel
theorem dX5_undo_32 : decode cX5_undo 32 = .ok (.imul, 1) := by decide +kernel
theorem dX5_undo_33 : decode cX5_undo 33 = .ok (.aload_n 0, 1) := by decide +kernel
theorem dX5_undo_34 : decode cX5_undo 34 = .ok (.getfield 7, 3) := by decide +kernel
theorem dX5_undo_37 : decode cX5_undo 37 = .ok (.iconst 0, 1) := by decide +kernel
theorem dX5_undo_38 : decode cX5_undo 38 = .ok (.invokestatic 42, 3) := by decide +kernel
theorem dX5_undo_41 : decode cX5_undo 41 = .ok (.aload_n 0, 1) := by decide +kernel
theorem dX5_undo_42 : decode cX5_undo 42 = .ok (.getfield 39, 3) := by decide +kernel
theorem dX5_undo_45 : decode cX5_undo 45 = .ok (.ireturn, 1) := by decide +kernel
set_option maxRecDepth 20000 in
theorem ggX5_keep_X5_copies : GoodIn wsX5_keep wsX5_copies := goodIn_r _ [7] (by decide +kernel) (by decide +kernel)
set_option maxRecDepth 20000 in
theorem gX5_keep_X5_copies : GoodIn wsX5_keep (va_wsS RX5 42 yX5_copies wsX5_copies) := goodIn_app (goodIn_of _ (by decide +kernel)) ggX5_keep_X5_copies
theorem dX5_keep_0 : decode cX5_keep 0 = .ok (.aload_n 0, 1) := by decide +kernel
theorem dX5_keep_1 : decode cX5_keep 1 = .ok (.getfield 7, 3) := by decide +kernel
theorem dX5_keep_4 : decode cX5_keep 4 = .ok (.iconst 0, 1) := by decide +kernel
theorem dX5_keep_5 : decode cX5_keep 5 = .ok (.aload_n 0, 1) := by decide +kernel
theorem dX5_keep_6 : decode cX5_keep 6 = .ok (.getfield 19, 3) := by decide +kernel
theorem dX5_keep_9 : decode cX5_keep 9 = .ok (.iconst 0, 1) := by decide +kernel
theorem dX5_keep_10 : decode cX5_keep 10 = .ok (.invokestatic 42, 3) := by decide +kernel
theorem dX5_keep_13 : decode cX5_keep 13 = .ok (.aload_n 0, 1) := by decide +kernel
theorem dX5_keep_14 : decode cX5_keep 14 = .ok (.iconst 1, 1) := by decide +kernel
theorem dX5_keep_15 : decode cX5_keep 15 = .ok (.putfield 46, 3) := by decide +kernel
theorem dX5_keep_18 : decode cX5_keep 18 = .ok (.aload_n 0, 1) := by decide +kernel
theorem dX5_keep_19 : decode cX5_keep 19 = .ok (.getfield 7, 3) := by decide +kernel
theorem dX5_keep_22 : decode cX5_keep 22 = .ok (.iconst 1, 1) := by decide +kernel
theorem dX5_keep_23 : decode cX5_keep 23 = .ok (.iaload, 1) := by decide +kernel
theorem dX5_keep_24 : decode cX5_keep 24 = .ok (.ireturn, 1) := by decide +kernel
set_option maxRecDepth 20000 in
theorem ggX5_restore_X5_records : GoodIn wsX5_restore wsX5_records := goodIn_r _ [8, 9, 10, 3, 11, 12, 7, 13, 14, 15, 16, 17, 18, 19, 20, 21, 22, 23, 24, 25, 26, 27] (by decide +kernel) (by decide +kernel)
set_option maxRecDepth 20000 in
theorem gX5_restore_X5_records : GoodIn wsX5_restore (wsV RX5 50 RX5 yX5_records wsX5_records) := goodIn_app (goodIn_of _ (by decide +kernel)) ggX5_restore_X5_records
set_option maxRecDepth 20000 in
theorem ggX5_restore_X5_copies : GoodIn wsX5_restore wsX5_copies := goodIn_r _ [13] (by decide +kernel) (by decide +kernel)
set_option maxRecDepth 20000 in
theorem gX5_restore_X5_copies : GoodIn wsX5_restore (va_wsS RX5 42 yX5_copies wsX5_copies) := goodIn_app (goodIn_of _ (by decide +kernel)) ggX5_restore_X5_copies
theorem dX5_restore_0 : decode cX5_restore 0 = .ok (.aload_n 0, 1) := by decide +kernel
theorem dX5_restore_1 : decode cX5_restore 1 = .ok (.getfield 46, 3) := by decide +kernel
theorem dX5_restore_4 : decode cX5_restore 4 = .ok (.ifCond .ne 7, 3) := by decide +kernel
theorem dX5_restore_7 : decode cX5_restore 7 = .ok (.sipush (-10005), 3) := by decide +kernel
theorem dX5_restore_10 : decode cX5_restore 10 = .ok (.ireturn, 1) := by decide +kernel
theorem dX5_restore_11 : decode cX5_restore 11 = .ok (.aload_n 0, 1) := by decide +kernel
theorem dX5_restore_12 : decode cX5_restore 12 = .ok (.invokevirtual 50, 3) := by decide +kernel
theorem dX5_restore_15 : decode cX5_restore 15 = .ok (.aload_n 0, 1) := by decide +kernel
theorem dX5_restore_16 : decode cX5_restore 16 = .ok (.getfield 19, 3) := by decide +kernel
theorem dX5_restore_19 : decode cX5_restore 19 = .ok (.iconst 0, 1) := by decide +kernel
theorem dX5_restore_20 : decode cX5_restore 20 = .ok (.aload_n 0, 1) := by decide +kernel
theorem dX5_restore_21 : decode cX5_restore 21 = .ok (.getfield 7, 3) := by decide +kernel
theorem dX5_restore_24 : decode cX5_restore 24 = .ok (.iconst 0, 1) := by decide +kernel
theorem dX5_restore_25 : decode cX5_restore 25 = .ok (.invokestatic 42, 3) := by decide +kernel
theorem dX5_restore_28 : decode cX5_restore 28 = .ok (.aload_n 0, 1) := by decide +kernel
theorem dX5_restore_29 : decode cX5_restore 29 = .ok (.getfield 7, 3) := by decide +kernel
theorem dX5_restore_32 : decode cX5_restore 32 = .ok (.iconst 1, 1) := by decide +kernel
theorem dX5_restore_33 : decode cX5_restore 33 = .ok (.iaload, 1) := by decide +kernel
theorem dX5_restore_34 : decode cX5_restore 34 = .ok (.ireturn, 1) := by decide +kernel
theorem dX5_least_0 : decode cX5_least 0 = .ok (.iload_n 0, 1) := by decide +kernel
theorem dX5_least_1 : decode cX5_least 1 = .ok (.iconst 2, 1) := by decide +kernel
theorem dX5_least_2 : decode cX5_least 2 = .ok (.if_icmp .ne 9, 3) := by decide +kernel
theorem dX5_least_5 : decode cX5_least 5 = .ok (.sipush (-9999), 3) := by decide +kernel
theorem dX5_least_8 : decode cX5_least 8 = .ok (.goto 4, 3) := by decide +kernel
theorem dX5_least_11 : decode cX5_least 11 = .ok (.iconst 0, 1) := by decide +kernel
theorem dX5_least_12 : decode cX5_least 12 = .ok (.ireturn, 1) := by decide +kernel
theorem dX5_most_0 : decode cX5_most 0 = .ok (.iload_n 0, 1) := by decide +kernel
theorem dX5_most_1 : decode cX5_most 1 = .ok (.ifCond .ne 7, 3) := by decide +kernel
theorem dX5_most_4 : decode cX5_most 4 = .ok (.iconst 1, 1) := by decide +kernel
theorem dX5_most_5 : decode cX5_most 5 = .ok (.goto 16, 3) := by decide +kernel
theorem dX5_most_8 : decode cX5_most 8 = .ok (.iload_n 0, 1) := by decide +kernel
theorem dX5_most_9 : decode cX5_most 9 = .ok (.iconst 1, 1) := by decide +kernel
theorem dX5_most_10 : decode cX5_most 10 = .ok (.if_icmp .ne 8, 3) := by decide +kernel
theorem dX5_most_13 : decode cX5_most 13 = .ok (.bipush 9, 2) := by decide +kernel
theorem dX5_most_15 : decode cX5_most 15 = .ok (.goto 6, 3) := by decide +kernel
theorem dX5_most_18 : decode cX5_most 18 = .ok (.sipush 9999, 3) := by decide +kernel
theorem dX5_most_21 : decode cX5_most 21 = .ok (.ireturn, 1) := by decide +kernel
theorem dX5_cast_0 : decode cX5_cast 0 = .ok (.iload_n 1, 1) := by decide +kernel
theorem dX5_cast_1 : decode cX5_cast 1 = .ok (.iconst 2, 1) := by decide +kernel
theorem dX5_cast_2 : decode cX5_cast 2 = .ok (.if_icmp .ne 7, 3) := by decide +kernel
theorem dX5_cast_5 : decode cX5_cast 5 = .ok (.iload_n 0, 1) := by decide +kernel
theorem dX5_cast_6 : decode cX5_cast 6 = .ok (.goto 40, 3) := by decide +kernel
theorem dX5_cast_9 : decode cX5_cast 9 = .ok (.iload_n 1, 1) := by decide +kernel
theorem dX5_cast_10 : decode cX5_cast 10 = .ok (.iconst 1, 1) := by decide +kernel
theorem dX5_cast_11 : decode cX5_cast 11 = .ok (.if_icmp .ne 26, 3) := by decide +kernel
theorem dX5_cast_14 : decode cX5_cast 14 = .ok (.iload_n 0, 1) := by decide +kernel
theorem dX5_cast_15 : decode cX5_cast 15 = .ok (.ifCond .ge 7, 3) := by decide +kernel
theorem dX5_cast_18 : decode cX5_cast 18 = .ok (.iconst 0, 1) := by decide +kernel
theorem dX5_cast_19 : decode cX5_cast 19 = .ok (.goto 27, 3) := by decide +kernel
theorem dX5_cast_22 : decode cX5_cast 22 = .ok (.iload_n 0, 1) := by decide +kernel
theorem dX5_cast_23 : decode cX5_cast 23 = .ok (.bipush 9, 2) := by decide +kernel
theorem dX5_cast_25 : decode cX5_cast 25 = .ok (.if_icmp .le 8, 3) := by decide +kernel
theorem dX5_cast_28 : decode cX5_cast 28 = .ok (.bipush 9, 2) := by decide +kernel
theorem dX5_cast_30 : decode cX5_cast 30 = .ok (.goto 16, 3) := by decide +kernel
theorem dX5_cast_33 : decode cX5_cast 33 = .ok (.iload_n 0, 1) := by decide +kernel
theorem dX5_cast_34 : decode cX5_cast 34 = .ok (.goto 12, 3) := by decide +kernel
theorem dX5_cast_37 : decode cX5_cast 37 = .ok (.iload_n 0, 1) := by decide +kernel
theorem dX5_cast_38 : decode cX5_cast 38 = .ok (.ifCond .ne 7, 3) := by decide +kernel
theorem dX5_cast_41 : decode cX5_cast 41 = .ok (.iconst 0, 1) := by decide +kernel
theorem dX5_cast_42 : decode cX5_cast 42 = .ok (.goto 4, 3) := by decide +kernel
theorem dX5_cast_45 : decode cX5_cast 45 = .ok (.iconst 1, 1) := by decide +kernel
theorem dX5_cast_46 : decode cX5_cast 46 = .ok (.ireturn, 1) := by decide +kernel
set_option maxRecDepth 20000 in
theorem ggX5_loses_X5_cast : GoodIn wsX5_loses wsX5_cast := goodIn_r _ [4] (by decide +kernel) (by decide +kernel)
set_option maxRecDepth 20000 in
theorem gX5_loses_X5_cast : GoodIn wsX5_loses (va_wsS RX5 53 yX5_cast wsX5_cast) := goodIn_app (goodIn_of _ (by decide +kernel)) ggX5_loses_X5_cast
theorem dX5_loses_0 : decode cX5_loses 0 = .ok (.iload_n 0, 1) := by decide +kernel
theorem dX5_loses_1 : decode cX5_loses 1 = .ok (.iload_n 2, 1) := by decide +kernel
theorem dX5_loses_2 : decode cX5_loses 2 = .ok (.invokestatic 53, 3) := by decide +kernel
theorem dX5_loses_5 : decode cX5_loses 5 = .ok (.iload_n 1, 1) := by decide +kernel
theorem dX5_loses_6 : decode cX5_loses 6 = .ok (.invokestatic 53, 3) := by decide +kernel
theorem dX5_loses_9 : decode cX5_loses 9 = .ok (.iload_n 0, 1) := by decide +kernel
theorem dX5_loses_10 : decode cX5_loses 10 = .ok (.if_icmp .eq 7, 3) := by decide +kernel
theorem dX5_loses_13 : decode cX5_loses 13 = .ok (.iconst 1, 1) := by decide +kernel
theorem dX5_loses_14 : decode cX5_loses 14 = .ok (.goto 4, 3) := by decide +kernel
theorem dX5_loses_17 : decode cX5_loses 17 = .ok (.iconst 0, 1) := by decide +kernel
theorem dX5_loses_18 : decode cX5_loses 18 = .ok (.ireturn, 1) := by decide +kernel
theorem dX5_kindOf_0 : decode cX5_kindOf 0 = .ok (.aload_n 0, 1) := by decide +kernel
theorem dX5_kindOf_1 : decode cX5_kindOf 1 = .ok (.iconst 2, 1) := by decide +kernel
theorem dX5_kindOf_2 : decode cX5_kindOf 2 = .ok (.bipush 16, 2) := by decide +kernel
theorem dX5_kindOf_4 : decode cX5_kindOf 4 = .ok (.iload_n 1, 1) := by decide +kernel
theorem dX5_kindOf_5 : decode cX5_kindOf 5 = .ok (.imul, 1) := by decide +kernel
theorem dX5_kindOf_6 : decode cX5_kindOf 6 = .ok (.iadd, 1) := by decide +kernel
theorem dX5_kindOf_7 : decode cX5_kindOf 7 = .ok (.iload_n 2, 1) := by decide +kernel
theorem dX5_kindOf_8 : decode cX5_kindOf 8 = .ok (.iadd, 1) := by decide +kernel
theorem dX5_kindOf_9 : decode cX5_kindOf 9 = .ok (.iaload, 1) := by decide +kernel
theorem dX5_kindOf_10 : decode cX5_kindOf 10 = .ok (.iconst 1, 1) := by decide +kernel
theorem dX5_kindOf_11 : decode cX5_kindOf 11 = .ok (.isub, 1) := by decide +kernel
theorem dX5_kindOf_12 : decode cX5_kindOf 12 = .ok (.ireturn, 1) := by decide +kernel
theorem dX5_standard_0 : decode cX5_standard 0 = .ok (.aload_n 0, 1) := by decide +kernel
theorem dX5_standard_1 : decode cX5_standard 1 = .ok (.iconst 2, 1) := by decide +kernel
theorem dX5_standard_2 : decode cX5_standard 2 = .ok (.bipush 16, 2) := by decide +kernel
theorem dX5_standard_4 : decode cX5_standard 4 = .ok (.iload_n 1, 1) := by decide +kernel
theorem dX5_standard_5 : decode cX5_standard 5 = .ok (.imul, 1) := by decide +kernel
theorem dX5_standard_6 : decode cX5_standard 6 = .ok (.iadd, 1) := by decide +kernel
theorem dX5_standard_7 : decode cX5_standard 7 = .ok (.bipush 8, 2) := by decide +kernel
theorem dX5_standard_9 : decode cX5_standard 9 = .ok (.iadd, 1) := by decide +kernel
theorem dX5_standard_10 : decode cX5_standard 10 = .ok (.iload_n 2, 1) := by decide +kernel
theorem dX5_standard_11 : decode cX5_standard 11 = .ok (.iadd, 1) := by decide +kernel
theorem dX5_standard_12 : decode cX5_standard 12 = .ok (.iaload, 1) := by decide +kernel
theorem dX5_standard_13 : decode cX5_standard 13 = .ok (.ireturn, 1) := by decide +kernel
theorem dX5_begins_0 : decode cX5_begins 0 = .ok (.iconst 2, 1) := by decide +kernel
theorem dX5_begins_1 : decode cX5_begins 1 = .ok (.bipush 16, 2) := by decide +kernel
theorem dX5_begins_3 : decode cX5_begins 3 = .ok (.aload_n 0, 1) := by decide +kernel
theorem dX5_begins_4 : decode cX5_begins 4 = .ok (.iconst 0, 1) := by decide +kernel
theorem dX5_begins_5 : decode cX5_begins 5 = .ok (.iaload, 1) := by decide +kernel
theorem dX5_begins_6 : decode cX5_begins 6 = .ok (.imul, 1) := by decide +kernel
theorem dX5_begins_7 : decode cX5_begins 7 = .ok (.iadd, 1) := by decide +kernel
theorem dX5_begins_8 : decode cX5_begins 8 = .ok (.istore 4, 2) := by decide +kernel
theorem dX5_begins_10 : decode cX5_begins 10 = .ok (.iconst 0, 1) := by decide +kernel
theorem dX5_begins_11 : decode cX5_begins 11 = .ok (.istore 5, 2) := by decide +kernel
theorem dX5_begins_13 : decode cX5_begins 13 = .ok (.iload 5, 2) := by decide +kernel
theorem dX5_begins_15 : decode cX5_begins 15 = .ok (.bipush 16, 2) := by decide +kernel
theorem dX5_begins_17 : decode cX5_begins 17 = .ok (.if_icmp .ge 26, 3) := by decide +kernel
theorem dX5_begins_20 : decode cX5_begins 20 = .ok (.aload_n 0, 1) := by decide +kernel
theorem dX5_begins_21 : decode cX5_begins 21 = .ok (.iload 4, 2) := by decide +kernel
theorem dX5_begins_23 : decode cX5_begins 23 = .ok (.iload 5, 2) := by decide +kernel
theorem dX5_begins_25 : decode cX5_begins 25 = .ok (.iadd, 1) := by decide +kernel
theorem dX5_begins_26 : decode cX5_begins 26 = .ok (.aload_n 0, 1) := by decide +kernel
theorem dX5_begins_27 : decode cX5_begins 27 = .ok (.iload 4, 2) := by decide +kernel
theorem dX5_begins_29 : decode cX5_begins 29 = .ok (.iload 5, 2) := by decide +kernel
theorem dX5_begins_31 : decode cX5_begins 31 = .ok (.iadd, 1) := by decide +kernel
theorem dX5_begins_32 : decode cX5_begins 32 = .ok (.bipush 16, 2) := by decide +kernel
theorem dX5_begins_34 : decode cX5_begins 34 = .ok (.isub, 1) := by decide +kernel
theorem dX5_begins_35 : decode cX5_begins 35 = .ok (.iaload, 1) := by decide +kernel
theorem dX5_begins_36 : decode cX5_begins 36 = .ok (.iastore, 1) := by decide +kernel
theorem dX5_begins_37 : decode cX5_begins 37 = .ok (.iinc 5 1, 3) := by decide +kernel
theorem dX5_begins_40 : decode cX5_begins 40 = .ok (.goto (-27), 3) := by decide +kernel
theorem dX5_begins_43 : decode cX5_begins 43 = .ok (.aload_n 0, 1) := by decide +kernel
theorem dX5_begins_44 : decode cX5_begins 44 = .ok (.iload 4, 2) := by decide +kernel
theorem dX5_begins_46 : decode cX5_begins 46 = .ok (.iload_n 1, 1) := by decide +kernel
theorem dX5_begins_47 : decode cX5_begins 47 = .ok (.iadd, 1) := by decide +kernel
theorem dX5_begins_48 : decode cX5_begins 48 = .ok (.iload_n 2, 1) := by decide +kernel
theorem dX5_begins_49 : decode cX5_begins 49 = .ok (.iconst 1, 1) := by decide +kernel
theorem dX5_begins_50 : decode cX5_begins 50 = .ok (.iadd, 1) := by decide +kernel
theorem dX5_begins_51 : decode cX5_begins 51 = .ok (.iastore, 1) := by decide +kernel
theorem dX5_begins_52 : decode cX5_begins 52 = .ok (.aload_n 0, 1) := by decide +kernel
theorem dX5_begins_53 : decode cX5_begins 53 = .ok (.iload 4, 2) := by decide +kernel
theorem dX5_begins_55 : decode cX5_begins 55 = .ok (.bipush 8, 2) := by decide +kernel
theorem dX5_begins_57 : decode cX5_begins 57 = .ok (.iadd, 1) := by decide +kernel
theorem dX5_begins_58 : decode cX5_begins 58 = .ok (.iload_n 1, 1) := by decide +kernel
theorem dX5_begins_59 : decode cX5_begins 59 = .ok (.iadd, 1) := by decide +kernel
theorem dX5_begins_60 : decode cX5_begins 60 = .ok (.iload_n 3, 1) := by decide +kernel
theorem dX5_begins_61 : decode cX5_begins 61 = .ok (.iastore, 1) := by decide +kernel
theorem dX5_begins_62 : decode cX5_begins 62 = .ok (.aload_n 0, 1) := by decide +kernel
theorem dX5_begins_63 : decode cX5_begins 63 = .ok (.iconst 0, 1) := by decide +kernel
theorem dX5_begins_64 : decode cX5_begins 64 = .ok (.dup2, 1) := by decide +kernel
theorem dX5_begins_65 : decode cX5_begins 65 = .ok (.iaload, 1) := by decide +kernel
theorem dX5_begins_66 : decode cX5_begins 66 = .ok (.iconst 1, 1) := by decide +kernel
theorem dX5_begins_67 : decode cX5_begins 67 = .ok (.iadd, 1) := by decide +kernel
theorem dX5_begins_68 : decode cX5_begins 68 = .ok (.iastore, 1) := by decide +kernel
theorem dX5_begins_69 : decode cX5_begins 69 = .ok (.aload_n 0, 1) := by decide +kernel
theorem dX5_begins_70 : decode cX5_begins 70 = .ok (.iconst 0, 1) := by decide +kernel
theorem dX5_begins_71 : decode cX5_begins 71 = .ok (.iaload, 1) := by decide +kernel
theorem dX5_begins_72 : decode cX5_begins 72 = .ok (.iconst 1, 1) := by decide +kernel
theorem dX5_begins_73 : decode cX5_begins 73 = .ok (.isub, 1) := by decide +kernel
theorem dX5_begins_74 : decode cX5_begins 74 = .ok (.ireturn, 1) := by decide +kernel
theorem dX5_seasonOfRow_0 : decode cX5_seasonOfRow 0 = .ok (.aload_n 0, 1) := by decide +kernel
theorem dX5_seasonOfRow_1 : decode cX5_seasonOfRow 1 = .ok (.sipush 482, 3) := by decide +kernel
theorem dX5_seasonOfRow_4 : decode cX5_seasonOfRow 4 = .ok (.bipush 9, 2) := by decide +kernel
theorem dX5_seasonOfRow_6 : decode cX5_seasonOfRow 6 = .ok (.iload_n 1, 1) := by decide +kernel
theorem dX5_seasonOfRow_7 : decode cX5_seasonOfRow 7 = .ok (.imul, 1) := by decide +kernel
theorem dX5_seasonOfRow_8 : decode cX5_seasonOfRow 8 = .ok (.iadd, 1) := by decide +kernel
theorem dX5_seasonOfRow_9 : decode cX5_seasonOfRow 9 = .ok (.iaload, 1) := by decide +kernel
theorem dX5_seasonOfRow_10 : decode cX5_seasonOfRow 10 = .ok (.ireturn, 1) := by decide +kernel
theorem dX5_valueOf_0 : decode cX5_valueOf 0 = .ok (.aload_n 0, 1) := by decide +kernel
theorem dX5_valueOf_1 : decode cX5_valueOf 1 = .ok (.sipush 482, 3) := by decide +kernel
theorem dX5_valueOf_4 : decode cX5_valueOf 4 = .ok (.bipush 9, 2) := by decide +kernel
theorem dX5_valueOf_6 : decode cX5_valueOf 6 = .ok (.iload_n 1, 1) := by decide +kernel
theorem dX5_valueOf_7 : decode cX5_valueOf 7 = .ok (.imul, 1) := by decide +kernel
theorem dX5_valueOf_8 : decode cX5_valueOf 8 = .ok (.iadd, 1) := by decide +kernel
theorem dX5_valueOf_9 : decode cX5_valueOf 9 = .ok (.iconst 1, 1) := by decide +kernel
theorem dX5_valueOf_10 : decode cX5_valueOf 10 = .ok (.iadd, 1) := by decide +kernel
theorem dX5_valueOf_11 : decode cX5_valueOf 11 = .ok (.iload_n 2, 1) := by decide +kernel
theorem dX5_valueOf_12 : decode cX5_valueOf 12 = .ok (.iadd, 1) := by decide +kernel
theorem dX5_valueOf_13 : decode cX5_valueOf 13 = .ok (.iaload, 1) := by decide +kernel
theorem dX5_valueOf_14 : decode cX5_valueOf 14 = .ok (.ireturn, 1) := by decide +kernel
set_option maxRecDepth 20000 in
theorem ggX5_kindIn_X5_seasonOfRow : GoodIn wsX5_kindIn wsX5_seasonOfRow := goodIn_r _ [4] (by decide +kernel) (by decide +kernel)
set_option maxRecDepth 20000 in
theorem gX5_kindIn_X5_seasonOfRow : GoodIn wsX5_kindIn (va_wsS RX5 57 yX5_seasonOfRow wsX5_seasonOfRow) := goodIn_app (goodIn_of _ (by decide +kernel)) ggX5_kindIn_X5_seasonOfRow
set_option maxRecDepth 20000 in
theorem ggX5_kindIn_X5_kindOf : GoodIn wsX5_kindIn wsX5_kindOf := goodIn_r _ [7] (by decide +kernel) (by decide +kernel)
set_option maxRecDepth 20000 in
theorem gX5_kindIn_X5_kindOf : GoodIn wsX5_kindIn (va_wsS RX5 61 yX5_kindOf wsX5_kindOf) := goodIn_app (goodIn_of _ (by decide +kernel)) ggX5_kindIn_X5_kindOf
theorem dX5_kindIn_0 : decode cX5_kindIn 0 = .ok (.aload_n 0, 1) := by decide +kernel
theorem dX5_kindIn_1 : decode cX5_kindIn 1 = .ok (.aload_n 0, 1) := by decide +kernel
theorem dX5_kindIn_2 : decode cX5_kindIn 2 = .ok (.iload_n 1, 1) := by decide +kernel
theorem dX5_kindIn_3 : decode cX5_kindIn 3 = .ok (.invokestatic 57, 3) := by decide +kernel
theorem dX5_kindIn_6 : decode cX5_kindIn 6 = .ok (.iload_n 2, 1) := by decide +kernel
theorem dX5_kindIn_7 : decode cX5_kindIn 7 = .ok (.invokestatic 61, 3) := by decide +kernel
theorem dX5_kindIn_10 : decode cX5_kindIn 10 = .ok (.ireturn, 1) := by decide +kernel
set_option maxRecDepth 20000 in
theorem ggX5_isLost_X5_kindIn : GoodIn wsX5_isLost wsX5_kindIn := goodIn_r _ [4, 5, 6, 3, 7, 8, 9, 10] (by decide +kernel) (by decide +kernel)
set_option maxRecDepth 20000 in
theorem gX5_isLost_X5_kindIn : GoodIn wsX5_isLost (va_wsS RX5 65 yX5_kindIn wsX5_kindIn) := goodIn_app (goodIn_of _ (by decide +kernel)) ggX5_isLost_X5_kindIn
set_option maxRecDepth 20000 in
theorem ggX5_isLost_X5_kindOf : GoodIn wsX5_isLost wsX5_kindOf := goodIn_r _ [10] (by decide +kernel) (by decide +kernel)
set_option maxRecDepth 20000 in
theorem gX5_isLost_X5_kindOf : GoodIn wsX5_isLost (va_wsS RX5 61 yX5_kindOf wsX5_kindOf) := goodIn_app (goodIn_of _ (by decide +kernel)) ggX5_isLost_X5_kindOf
set_option maxRecDepth 20000 in
theorem ggX5_isLost_X5_valueOf : GoodIn wsX5_isLost wsX5_valueOf := goodIn_r _ [13] (by decide +kernel) (by decide +kernel)
set_option maxRecDepth 20000 in
theorem gX5_isLost_X5_valueOf : GoodIn wsX5_isLost (va_wsS RX5 68 yX5_valueOf wsX5_valueOf) := goodIn_app (goodIn_of _ (by decide +kernel)) ggX5_isLost_X5_valueOf
set_option maxRecDepth 20000 in
theorem ggX5_isLost_X5_loses : GoodIn wsX5_isLost wsX5_loses := goodIn_r _ [16, 17, 18, 3, 19] (by decide +kernel) (by decide +kernel)
set_option maxRecDepth 20000 in
theorem gX5_isLost_X5_loses : GoodIn wsX5_isLost (va_wsS RX5 71 yX5_loses wsX5_loses) := goodIn_app (goodIn_of _ (by decide +kernel)) ggX5_isLost_X5_loses
theorem dX5_isLost_0 : decode cX5_isLost 0 = .ok (.aload_n 0, 1) := by decide +kernel
theorem dX5_isLost_1 : decode cX5_isLost 1 = .ok (.iload_n 1, 1) := by decide +kernel
theorem dX5_isLost_2 : decode cX5_isLost 2 = .ok (.iload_n 3, 1) := by decide +kernel
theorem dX5_isLost_3 : decode cX5_isLost 3 = .ok (.invokestatic 65, 3) := by decide +kernel
theorem dX5_isLost_6 : decode cX5_isLost 6 = .ok (.istore 4, 2) := by decide +kernel
theorem dX5_isLost_8 : decode cX5_isLost 8 = .ok (.aload_n 0, 1) := by decide +kernel
theorem dX5_isLost_9 : decode cX5_isLost 9 = .ok (.iload_n 2, 1) := by decide +kernel
theorem dX5_isLost_10 : decode cX5_isLost 10 = .ok (.iload_n 3, 1) := by decide +kernel
theorem dX5_isLost_11 : decode cX5_isLost 11 = .ok (.invokestatic 61, 3) := by decide +kernel
theorem dX5_isLost_14 : decode cX5_isLost 14 = .ok (.istore 5, 2) := by decide +kernel
theorem dX5_isLost_16 : decode cX5_isLost 16 = .ok (.iload 4, 2) := by decide +kernel
theorem dX5_isLost_18 : decode cX5_isLost 18 = .ok (.ifCond .lt 28, 3) := by decide +kernel
theorem dX5_isLost_21 : decode cX5_isLost 21 = .ok (.iload 5, 2) := by decide +kernel
theorem dX5_isLost_23 : decode cX5_isLost 23 = .ok (.ifCond .lt 19, 3) := by decide +kernel
theorem dX5_isLost_26 : decode cX5_isLost 26 = .ok (.aload_n 0, 1) := by decide +kernel
theorem dX5_isLost_27 : decode cX5_isLost 27 = .ok (.iload_n 1, 1) := by decide +kernel
theorem dX5_isLost_28 : decode cX5_isLost 28 = .ok (.iload_n 3, 1) := by decide +kernel
theorem dX5_isLost_29 : decode cX5_isLost 29 = .ok (.invokestatic 68, 3) := by decide +kernel
theorem dX5_isLost_32 : decode cX5_isLost 32 = .ok (.iload 4, 2) := by decide +kernel
theorem dX5_isLost_34 : decode cX5_isLost 34 = .ok (.iload 5, 2) := by decide +kernel
theorem dX5_isLost_36 : decode cX5_isLost 36 = .ok (.invokestatic 71, 3) := by decide +kernel
theorem dX5_isLost_39 : decode cX5_isLost 39 = .ok (.ifCond .eq 7, 3) := by decide +kernel
theorem dX5_isLost_42 : decode cX5_isLost 42 = .ok (.iconst 1, 1) := by decide +kernel
theorem dX5_isLost_43 : decode cX5_isLost 43 = .ok (.goto 4, 3) := by decide +kernel
theorem dX5_isLost_46 : decode cX5_isLost 46 = .ok (.iconst 0, 1) := by decide +kernel
theorem dX5_isLost_47 : decode cX5_isLost 47 = .ok (.ireturn, 1) := by decide +kernel
set_option maxRecDepth 20000 in
theorem ggX5_losses_X5_isLost : GoodIn wsX5_losses wsX5_isLost := goodIn_r _ [4, 5, 6, 3, 7, 8, 9, 10, 11, 12, 13, 14, 15, 16, 17, 18, 19, 20, 21, 22] (by decide +kernel) (by decide +kernel)
set_option maxRecDepth 20000 in
theorem gX5_losses_X5_isLost : GoodIn wsX5_losses (va_wsS RX5 74 yX5_isLost wsX5_isLost) := goodIn_app (goodIn_of _ (by decide +kernel)) ggX5_losses_X5_isLost
theorem dX5_losses_0 : decode cX5_losses 0 = .ok (.iconst 0, 1) := by decide +kernel
theorem dX5_losses_1 : decode cX5_losses 1 = .ok (.istore_n 3, 1) := by decide +kernel
theorem dX5_losses_2 : decode cX5_losses 2 = .ok (.iconst 0, 1) := by decide +kernel
theorem dX5_losses_3 : decode cX5_losses 3 = .ok (.istore 4, 2) := by decide +kernel
theorem dX5_losses_5 : decode cX5_losses 5 = .ok (.iload 4, 2) := by decide +kernel
theorem dX5_losses_7 : decode cX5_losses 7 = .ok (.bipush 8, 2) := by decide +kernel
theorem dX5_losses_9 : decode cX5_losses 9 = .ok (.if_icmp .ge 28, 3) := by decide +kernel
theorem dX5_losses_12 : decode cX5_losses 12 = .ok (.iload_n 3, 1) := by decide +kernel
theorem dX5_losses_13 : decode cX5_losses 13 = .ok (.aload_n 0, 1) := by decide +kernel
theorem dX5_losses_14 : decode cX5_losses 14 = .ok (.iload_n 1, 1) := by decide +kernel
theorem dX5_losses_15 : decode cX5_losses 15 = .ok (.iload_n 2, 1) := by decide +kernel
theorem dX5_losses_16 : decode cX5_losses 16 = .ok (.iload 4, 2) := by decide +kernel
theorem dX5_losses_18 : decode cX5_losses 18 = .ok (.invokestatic 74, 3) := by decide +kernel
theorem dX5_losses_21 : decode cX5_losses 21 = .ok (.ifCond .eq 7, 3) := by decide +kernel
theorem dX5_losses_24 : decode cX5_losses 24 = .ok (.iconst 1, 1) := by decide +kernel
theorem dX5_losses_25 : decode cX5_losses 25 = .ok (.goto 4, 3) := by decide +kernel
theorem dX5_losses_28 : decode cX5_losses 28 = .ok (.iconst 0, 1) := by decide +kernel
theorem dX5_losses_29 : decode cX5_losses 29 = .ok (.iadd, 1) := by decide +kernel
theorem dX5_losses_30 : decode cX5_losses 30 = .ok (.istore_n 3, 1) := by decide +kernel
theorem dX5_losses_31 : decode cX5_losses 31 = .ok (.iinc 4 1, 3) := by decide +kernel
theorem dX5_losses_34 : decode cX5_losses 34 = .ok (.goto (-29), 3) := by decide +kernel
theorem dX5_losses_37 : decode cX5_losses 37 = .ok (.iload_n 3, 1) := by decide +kernel
theorem dX5_losses_38 : decode cX5_losses 38 = .ok (.ireturn, 1) := by decide +kernel
set_option maxRecDepth 20000 in
theorem ggX5_reads_X5_kindIn : GoodIn wsX5_reads wsX5_kindIn := goodIn_r _ [4, 5, 6, 3, 7, 8, 9, 10] (by decide +kernel) (by decide +kernel)
set_option maxRecDepth 20000 in
theorem gX5_reads_X5_kindIn : GoodIn wsX5_reads (va_wsS RX5 65 yX5_kindIn wsX5_kindIn) := goodIn_app (goodIn_of _ (by decide +kernel)) ggX5_reads_X5_kindIn
set_option maxRecDepth 20000 in
theorem ggX5_reads_X5_standard : GoodIn wsX5_reads wsX5_standard := goodIn_r _ [13] (by decide +kernel) (by decide +kernel)
set_option maxRecDepth 20000 in
theorem gX5_reads_X5_standard : GoodIn wsX5_reads (va_wsS RX5 78 yX5_standard wsX5_standard) := goodIn_app (goodIn_of _ (by decide +kernel)) ggX5_reads_X5_standard
set_option maxRecDepth 20000 in
theorem ggX5_reads_X5_valueOf : GoodIn wsX5_reads wsX5_valueOf := goodIn_r _ [16] (by decide +kernel) (by decide +kernel)
set_option maxRecDepth 20000 in
theorem gX5_reads_X5_valueOf : GoodIn wsX5_reads (va_wsS RX5 68 yX5_valueOf wsX5_valueOf) := goodIn_app (goodIn_of _ (by decide +kernel)) ggX5_reads_X5_valueOf
set_option maxRecDepth 20000 in
theorem ggX5_reads_X5_kindOf : GoodIn wsX5_reads wsX5_kindOf := goodIn_r _ [10] (by decide +kernel) (by decide +kernel)
set_option maxRecDepth 20000 in
theorem gX5_reads_X5_kindOf : GoodIn wsX5_reads (va_wsS RX5 61 yX5_kindOf wsX5_kindOf) := goodIn_app (goodIn_of _ (by decide +kernel)) ggX5_reads_X5_kindOf
set_option maxRecDepth 20000 in
theorem ggX5_reads_X5_cast : GoodIn wsX5_reads wsX5_cast := goodIn_r _ [19] (by decide +kernel) (by decide +kernel)
set_option maxRecDepth 20000 in
theorem gX5_reads_X5_cast : GoodIn wsX5_reads (va_wsS RX5 53 yX5_cast wsX5_cast) := goodIn_app (goodIn_of _ (by decide +kernel)) ggX5_reads_X5_cast
theorem dX5_reads_0 : decode cX5_reads 0 = .ok (.aload_n 0, 1) := by decide +kernel
theorem dX5_reads_1 : decode cX5_reads 1 = .ok (.iload_n 1, 1) := by decide +kernel
theorem dX5_reads_2 : decode cX5_reads 2 = .ok (.iload_n 3, 1) := by decide +kernel
theorem dX5_reads_3 : decode cX5_reads 3 = .ok (.invokestatic 65, 3) := by decide +kernel
theorem dX5_reads_6 : decode cX5_reads 6 = .ok (.ifCond .ge 12, 3) := by decide +kernel
theorem dX5_reads_9 : decode cX5_reads 9 = .ok (.aload_n 0, 1) := by decide +kernel
theorem dX5_reads_10 : decode cX5_reads 10 = .ok (.iload_n 2, 1) := by decide +kernel
theorem dX5_reads_11 : decode cX5_reads 11 = .ok (.iload_n 3, 1) := by decide +kernel
theorem dX5_reads_12 : decode cX5_reads 12 = .ok (.invokestatic 78, 3) := by decide +kernel
theorem dX5_reads_15 : decode cX5_reads 15 = .ok (.goto 18, 3) := by decide +kernel
theorem dX5_reads_18 : decode cX5_reads 18 = .ok (.aload_n 0, 1) := by decide +kernel
theorem dX5_reads_19 : decode cX5_reads 19 = .ok (.iload_n 1, 1) := by decide +kernel
theorem dX5_reads_20 : decode cX5_reads 20 = .ok (.iload_n 3, 1) := by decide +kernel
theorem dX5_reads_21 : decode cX5_reads 21 = .ok (.invokestatic 68, 3) := by decide +kernel
theorem dX5_reads_24 : decode cX5_reads 24 = .ok (.aload_n 0, 1) := by decide +kernel
theorem dX5_reads_25 : decode cX5_reads 25 = .ok (.iload_n 2, 1) := by decide +kernel
theorem dX5_reads_26 : decode cX5_reads 26 = .ok (.iload_n 3, 1) := by decide +kernel
theorem dX5_reads_27 : decode cX5_reads 27 = .ok (.invokestatic 61, 3) := by decide +kernel
theorem dX5_reads_30 : decode cX5_reads 30 = .ok (.invokestatic 53, 3) := by decide +kernel
theorem dX5_reads_33 : decode cX5_reads 33 = .ok (.ireturn, 1) := by decide +kernel
set_option maxRecDepth 20000 in
theorem ggX5_adds_X5_kindOf : GoodIn wsX5_adds wsX5_kindOf := goodIn_r _ [4] (by decide +kernel) (by decide +kernel)
set_option maxRecDepth 20000 in
theorem gX5_adds_X5_kindOf : GoodIn wsX5_adds (va_wsS RX5 61 yX5_kindOf wsX5_kindOf) := goodIn_app (goodIn_of _ (by decide +kernel)) ggX5_adds_X5_kindOf
set_option maxRecDepth 20000 in
theorem ggX5_adds_X5_begins : GoodIn wsX5_adds wsX5_begins := goodIn_r _ [7] (by decide +kernel) (by decide +kernel)
set_option maxRecDepth 20000 in
theorem gX5_adds_X5_begins : GoodIn wsX5_adds (va_wsS RX5 81 yX5_begins wsX5_begins) := goodIn_app (goodIn_of _ (by decide +kernel)) ggX5_adds_X5_begins
theorem dX5_adds_0 : decode cX5_adds 0 = .ok (.aload_n 0, 1) := by decide +kernel
theorem dX5_adds_1 : decode cX5_adds 1 = .ok (.aload_n 0, 1) := by decide +kernel
theorem dX5_adds_2 : decode cX5_adds 2 = .ok (.iconst 0, 1) := by decide +kernel
theorem dX5_adds_3 : decode cX5_adds 3 = .ok (.iaload, 1) := by decide +kernel
theorem dX5_adds_4 : decode cX5_adds 4 = .ok (.iconst 1, 1) := by decide +kernel
theorem dX5_adds_5 : decode cX5_adds 5 = .ok (.isub, 1) := by decide +kernel
theorem dX5_adds_6 : decode cX5_adds 6 = .ok (.iload_n 1, 1) := by decide +kernel
theorem dX5_adds_7 : decode cX5_adds 7 = .ok (.invokestatic 61, 3) := by decide +kernel
theorem dX5_adds_10 : decode cX5_adds 10 = .ok (.ifCond .lt 7, 3) := by decide +kernel
theorem dX5_adds_13 : decode cX5_adds 13 = .ok (.sipush (-10004), 3) := by decide +kernel
theorem dX5_adds_16 : decode cX5_adds 16 = .ok (.ireturn, 1) := by decide +kernel
theorem dX5_adds_17 : decode cX5_adds 17 = .ok (.aload_n 0, 1) := by decide +kernel
theorem dX5_adds_18 : decode cX5_adds 18 = .ok (.iconst 0, 1) := by decide +kernel
theorem dX5_adds_19 : decode cX5_adds 19 = .ok (.iaload, 1) := by decide +kernel
theorem dX5_adds_20 : decode cX5_adds 20 = .ok (.bipush 30, 2) := by decide +kernel
theorem dX5_adds_22 : decode cX5_adds 22 = .ok (.if_icmp .ne 9, 3) := by decide +kernel
theorem dX5_adds_25 : decode cX5_adds 25 = .ok (.sipush (-10003), 3) := by decide +kernel
theorem dX5_adds_28 : decode cX5_adds 28 = .ok (.goto 10, 3) := by decide +kernel
theorem dX5_adds_31 : decode cX5_adds 31 = .ok (.aload_n 0, 1) := by decide +kernel
theorem dX5_adds_32 : decode cX5_adds 32 = .ok (.iload_n 1, 1) := by decide +kernel
theorem dX5_adds_33 : decode cX5_adds 33 = .ok (.iload_n 2, 1) := by decide +kernel
theorem dX5_adds_34 : decode cX5_adds 34 = .ok (.iload_n 3, 1) := by decide +kernel
theorem dX5_adds_35 : decode cX5_adds 35 = .ok (.invokestatic 81, 3) := by decide +kernel
theorem dX5_adds_38 : decode cX5_adds 38 = .ok (.ireturn, 1) := by decide +kernel
set_option maxRecDepth 20000 in
theorem ggX5_drops_X5_kindOf : GoodIn wsX5_drops wsX5_kindOf := goodIn_r _ [4] (by decide +kernel) (by decide +kernel)
set_option maxRecDepth 20000 in
theorem gX5_drops_X5_kindOf : GoodIn wsX5_drops (va_wsS RX5 61 yX5_kindOf wsX5_kindOf) := goodIn_app (goodIn_of _ (by decide +kernel)) ggX5_drops_X5_kindOf
set_option maxRecDepth 20000 in
theorem ggX5_drops_X5_begins : GoodIn wsX5_drops wsX5_begins := goodIn_r _ [7] (by decide +kernel) (by decide +kernel)
set_option maxRecDepth 20000 in
theorem gX5_drops_X5_begins : GoodIn wsX5_drops (va_wsS RX5 81 yX5_begins wsX5_begins) := goodIn_app (goodIn_of _ (by decide +kernel)) ggX5_drops_X5_begins
theorem dX5_drops_0 : decode cX5_drops 0 = .ok (.aload_n 0, 1) := by decide +kernel
theorem dX5_drops_1 : decode cX5_drops 1 = .ok (.aload_n 0, 1) := by decide +kernel
theorem dX5_drops_2 : decode cX5_drops 2 = .ok (.iconst 0, 1) := by decide +kernel
theorem dX5_drops_3 : decode cX5_drops 3 = .ok (.iaload, 1) := by decide +kernel
theorem dX5_drops_4 : decode cX5_drops 4 = .ok (.iconst 1, 1) := by decide +kernel
theorem dX5_drops_5 : decode cX5_drops 5 = .ok (.isub, 1) := by decide +kernel
theorem dX5_drops_6 : decode cX5_drops 6 = .ok (.iload_n 1, 1) := by decide +kernel
theorem dX5_drops_7 : decode cX5_drops 7 = .ok (.invokestatic 61, 3) := by decide +kernel
theorem dX5_drops_10 : decode cX5_drops 10 = .ok (.ifCond .ge 7, 3) := by decide +kernel
theorem dX5_drops_13 : decode cX5_drops 13 = .ok (.sipush (-10001), 3) := by decide +kernel
theorem dX5_drops_16 : decode cX5_drops 16 = .ok (.ireturn, 1) := by decide +kernel
theorem dX5_drops_17 : decode cX5_drops 17 = .ok (.aload_n 0, 1) := by decide +kernel
theorem dX5_drops_18 : decode cX5_drops 18 = .ok (.iconst 0, 1) := by decide +kernel
theorem dX5_drops_19 : decode cX5_drops 19 = .ok (.iaload, 1) := by decide +kernel
theorem dX5_drops_20 : decode cX5_drops 20 = .ok (.bipush 30, 2) := by decide +kernel
theorem dX5_drops_22 : decode cX5_drops 22 = .ok (.if_icmp .ne 9, 3) := by decide +kernel
theorem dX5_drops_25 : decode cX5_drops 25 = .ok (.sipush (-10003), 3) := by decide +kernel
theorem dX5_drops_28 : decode cX5_drops 28 = .ok (.goto 10, 3) := by decide +kernel
theorem dX5_drops_31 : decode cX5_drops 31 = .ok (.aload_n 0, 1) := by decide +kernel
theorem dX5_drops_32 : decode cX5_drops 32 = .ok (.iload_n 1, 1) := by decide +kernel
theorem dX5_drops_33 : decode cX5_drops 33 = .ok (.iconst (-1), 1) := by decide +kernel
theorem dX5_drops_34 : decode cX5_drops 34 = .ok (.iconst 0, 1) := by decide +kernel
theorem dX5_drops_35 : decode cX5_drops 35 = .ok (.invokestatic 81, 3) := by decide +kernel
theorem dX5_drops_38 : decode cX5_drops 38 = .ok (.ireturn, 1) := by decide +kernel
set_option maxRecDepth 20000 in
theorem ggX5_turns_X5_kindOf : GoodIn wsX5_turns wsX5_kindOf := goodIn_r _ [4] (by decide +kernel) (by decide +kernel)
set_option maxRecDepth 20000 in
theorem gX5_turns_X5_kindOf : GoodIn wsX5_turns (va_wsS RX5 61 yX5_kindOf wsX5_kindOf) := goodIn_app (goodIn_of _ (by decide +kernel)) ggX5_turns_X5_kindOf
set_option maxRecDepth 20000 in
theorem ggX5_turns_X5_standard : GoodIn wsX5_turns wsX5_standard := goodIn_r _ [7] (by decide +kernel) (by decide +kernel)
set_option maxRecDepth 20000 in
theorem gX5_turns_X5_standard : GoodIn wsX5_turns (va_wsS RX5 78 yX5_standard wsX5_standard) := goodIn_app (goodIn_of _ (by decide +kernel)) ggX5_turns_X5_standard
set_option maxRecDepth 20000 in
theorem ggX5_turns_X5_cast : GoodIn wsX5_turns wsX5_cast := goodIn_r _ [10] (by decide +kernel) (by decide +kernel)
set_option maxRecDepth 20000 in
theorem gX5_turns_X5_cast : GoodIn wsX5_turns (va_wsS RX5 53 yX5_cast wsX5_cast) := goodIn_app (goodIn_of _ (by decide +kernel)) ggX5_turns_X5_cast
set_option maxRecDepth 20000 in
theorem ggX5_turns_X5_begins : GoodIn wsX5_turns wsX5_begins := goodIn_r _ [13] (by decide +kernel) (by decide +kernel)
set_option maxRecDepth 20000 in
theorem gX5_turns_X5_begins : GoodIn wsX5_turns (va_wsS RX5 81 yX5_begins wsX5_begins) := goodIn_app (goodIn_of _ (by decide +kernel)) ggX5_turns_X5_begins
theorem dX5_turns_0 : decode cX5_turns 0 = .ok (.aload_n 0, 1) := by decide +kernel
theorem dX5_turns_1 : decode cX5_turns 1 = .ok (.iconst 0, 1) := by decide +kernel
theorem dX5_turns_2 : decode cX5_turns 2 = .ok (.iaload, 1) := by decide +kernel
theorem dX5_turns_3 : decode cX5_turns 3 = .ok (.iconst 1, 1) := by decide +kernel
theorem dX5_turns_4 : decode cX5_turns 4 = .ok (.isub, 1) := by decide +kernel
theorem dX5_turns_5 : decode cX5_turns 5 = .ok (.istore_n 3, 1) := by decide +kernel
theorem dX5_turns_6 : decode cX5_turns 6 = .ok (.aload_n 0, 1) := by decide +kernel
theorem dX5_turns_7 : decode cX5_turns 7 = .ok (.iload_n 3, 1) := by decide +kernel
theorem dX5_turns_8 : decode cX5_turns 8 = .ok (.iload_n 1, 1) := by decide +kernel
theorem dX5_turns_9 : decode cX5_turns 9 = .ok (.invokestatic 61, 3) := by decide +kernel
theorem dX5_turns_12 : decode cX5_turns 12 = .ok (.ifCond .ge 7, 3) := by decide +kernel
theorem dX5_turns_15 : decode cX5_turns 15 = .ok (.sipush (-10001), 3) := by decide +kernel
theorem dX5_turns_18 : decode cX5_turns 18 = .ok (.ireturn, 1) := by decide +kernel
theorem dX5_turns_19 : decode cX5_turns 19 = .ok (.aload_n 0, 1) := by decide +kernel
theorem dX5_turns_20 : decode cX5_turns 20 = .ok (.iconst 0, 1) := by decide +kernel
theorem dX5_turns_21 : decode cX5_turns 21 = .ok (.iaload, 1) := by decide +kernel
theorem dX5_turns_22 : decode cX5_turns 22 = .ok (.bipush 30, 2) := by decide +kernel
theorem dX5_turns_24 : decode cX5_turns 24 = .ok (.if_icmp .ne 7, 3) := by decide +kernel
theorem dX5_turns_27 : decode cX5_turns 27 = .ok (.sipush (-10003), 3) := by decide +kernel
theorem dX5_turns_30 : decode cX5_turns 30 = .ok (.ireturn, 1) := by decide +kernel
theorem dX5_turns_31 : decode cX5_turns 31 = .ok (.aload_n 0, 1) := by decide +kernel
theorem dX5_turns_32 : decode cX5_turns 32 = .ok (.iload_n 3, 1) := by decide +kernel
theorem dX5_turns_33 : decode cX5_turns 33 = .ok (.iload_n 1, 1) := by decide +kernel
theorem dX5_turns_34 : decode cX5_turns 34 = .ok (.invokestatic 61, 3) := by decide +kernel
theorem dX5_turns_37 : decode cX5_turns 37 = .ok (.iload_n 2, 1) := by decide +kernel
theorem dX5_turns_38 : decode cX5_turns 38 = .ok (.if_icmp .ne 9, 3) := by decide +kernel
theorem dX5_turns_41 : decode cX5_turns 41 = .ok (.sipush (-10005), 3) := by decide +kernel
theorem dX5_turns_44 : decode cX5_turns 44 = .ok (.goto 19, 3) := by decide +kernel
theorem dX5_turns_47 : decode cX5_turns 47 = .ok (.aload_n 0, 1) := by decide +kernel
theorem dX5_turns_48 : decode cX5_turns 48 = .ok (.iload_n 1, 1) := by decide +kernel
theorem dX5_turns_49 : decode cX5_turns 49 = .ok (.iload_n 2, 1) := by decide +kernel
theorem dX5_turns_50 : decode cX5_turns 50 = .ok (.aload_n 0, 1) := by decide +kernel
theorem dX5_turns_51 : decode cX5_turns 51 = .ok (.iload_n 3, 1) := by decide +kernel
theorem dX5_turns_52 : decode cX5_turns 52 = .ok (.iload_n 1, 1) := by decide +kernel
theorem dX5_turns_53 : decode cX5_turns 53 = .ok (.invokestatic 78, 3) := by decide +kernel
theorem dX5_turns_56 : decode cX5_turns 56 = .ok (.iload_n 2, 1) := by decide +kernel
theorem dX5_turns_57 : decode cX5_turns 57 = .ok (.invokestatic 53, 3) := by decide +kernel
theorem dX5_turns_60 : decode cX5_turns 60 = .ok (.invokestatic 81, 3) := by decide +kernel
theorem dX5_turns_63 : decode cX5_turns 63 = .ok (.ireturn, 1) := by decide +kernel
set_option maxRecDepth 20000 in
theorem ggX5_writes_X5_kindOf : GoodIn wsX5_writes wsX5_kindOf := goodIn_r _ [4] (by decide +kernel) (by decide +kernel)
set_option maxRecDepth 20000 in
theorem gX5_writes_X5_kindOf : GoodIn wsX5_writes (va_wsS RX5 61 yX5_kindOf wsX5_kindOf) := goodIn_app (goodIn_of _ (by decide +kernel)) ggX5_writes_X5_kindOf
set_option maxRecDepth 20000 in
theorem ggX5_writes_X5_standard : GoodIn wsX5_writes wsX5_standard := goodIn_r _ [7] (by decide +kernel) (by decide +kernel)
set_option maxRecDepth 20000 in
theorem gX5_writes_X5_standard : GoodIn wsX5_writes (va_wsS RX5 78 yX5_standard wsX5_standard) := goodIn_app (goodIn_of _ (by decide +kernel)) ggX5_writes_X5_standard
theorem dX5_writes_0 : decode cX5_writes 0 = .ok (.aload_n 0, 1) := by decide +kernel
theorem dX5_writes_1 : decode cX5_writes 1 = .ok (.iconst 1, 1) := by decide +kernel
theorem dX5_writes_2 : decode cX5_writes 2 = .ok (.iaload, 1) := by decide +kernel
theorem dX5_writes_3 : decode cX5_writes 3 = .ok (.bipush 24, 2) := by decide +kernel
theorem dX5_writes_5 : decode cX5_writes 5 = .ok (.if_icmp .ne 7, 3) := by decide +kernel
theorem dX5_writes_8 : decode cX5_writes 8 = .ok (.sipush (-10003), 3) := by decide +kernel
theorem dX5_writes_11 : decode cX5_writes 11 = .ok (.ireturn, 1) := by decide +kernel
theorem dX5_writes_12 : decode cX5_writes 12 = .ok (.sipush 482, 3) := by decide +kernel
theorem dX5_writes_15 : decode cX5_writes 15 = .ok (.bipush 9, 2) := by decide +kernel
theorem dX5_writes_17 : decode cX5_writes 17 = .ok (.aload_n 0, 1) := by decide +kernel
theorem dX5_writes_18 : decode cX5_writes 18 = .ok (.iconst 1, 1) := by decide +kernel
theorem dX5_writes_19 : decode cX5_writes 19 = .ok (.iaload, 1) := by decide +kernel
theorem dX5_writes_20 : decode cX5_writes 20 = .ok (.imul, 1) := by decide +kernel
theorem dX5_writes_21 : decode cX5_writes 21 = .ok (.iadd, 1) := by decide +kernel
theorem dX5_writes_22 : decode cX5_writes 22 = .ok (.istore_n 1, 1) := by decide +kernel
theorem dX5_writes_23 : decode cX5_writes 23 = .ok (.aload_n 0, 1) := by decide +kernel
theorem dX5_writes_24 : decode cX5_writes 24 = .ok (.iload_n 1, 1) := by decide +kernel
theorem dX5_writes_25 : decode cX5_writes 25 = .ok (.aload_n 0, 1) := by decide +kernel
theorem dX5_writes_26 : decode cX5_writes 26 = .ok (.iconst 0, 1) := by decide +kernel
theorem dX5_writes_27 : decode cX5_writes 27 = .ok (.iaload, 1) := by decide +kernel
theorem dX5_writes_28 : decode cX5_writes 28 = .ok (.iconst 1, 1) := by decide +kernel
theorem dX5_writes_29 : decode cX5_writes 29 = .ok (.isub, 1) := by decide +kernel
theorem dX5_writes_30 : decode cX5_writes 30 = .ok (.iastore, 1) := by decide +kernel
theorem dX5_writes_31 : decode cX5_writes 31 = .ok (.iconst 0, 1) := by decide +kernel
theorem dX5_writes_32 : decode cX5_writes 32 = .ok (.istore_n 2, 1) := by decide +kernel
theorem dX5_writes_33 : decode cX5_writes 33 = .ok (.iload_n 2, 1) := by decide +kernel
theorem dX5_writes_34 : decode cX5_writes 34 = .ok (.bipush 8, 2) := by decide +kernel
theorem dX5_writes_36 : decode cX5_writes 36 = .ok (.if_icmp .ge 43, 3) := by decide +kernel
theorem dX5_writes_39 : decode cX5_writes 39 = .ok (.aload_n 0, 1) := by decide +kernel
theorem dX5_writes_40 : decode cX5_writes 40 = .ok (.iload_n 1, 1) := by decide +kernel
theorem dX5_writes_41 : decode cX5_writes 41 = .ok (.iconst 1, 1) := by decide +kernel
theorem dX5_writes_42 : decode cX5_writes 42 = .ok (.iadd, 1) := by decide +kernel
theorem dX5_writes_43 : decode cX5_writes 43 = .ok (.iload_n 2, 1) := by decide +kernel
theorem dX5_writes_44 : decode cX5_writes 44 = .ok (.iadd, 1) := by decide +kernel
theorem dX5_writes_45 : decode cX5_writes 45 = .ok (.aload_n 0, 1) := by decide +kernel
theorem dX5_writes_46 : decode cX5_writes 46 = .ok (.aload_n 0, 1) := by decide +kernel
theorem dX5_writes_47 : decode cX5_writes 47 = .ok (.iconst 0, 1) := by decide +kernel
theorem dX5_writes_48 : decode cX5_writes 48 = .ok (.iaload, 1) := by decide +kernel
theorem dX5_writes_49 : decode cX5_writes 49 = .ok (.iconst 1, 1) := by decide +kernel
theorem dX5_writes_50 : decode cX5_writes 50 = .ok (.isub, 1) := by decide +kernel
theorem dX5_writes_51 : decode cX5_writes 51 = .ok (.iload_n 2, 1) := by decide +kernel
theorem dX5_writes_52 : decode cX5_writes 52 = .ok (.invokestatic 61, 3) := by decide +kernel
theorem dX5_writes_55 : decode cX5_writes 55 = .ok (.ifCond .ge 7, 3) := by decide +kernel
theorem dX5_writes_58 : decode cX5_writes 58 = .ok (.iconst 0, 1) := by decide +kernel
theorem dX5_writes_59 : decode cX5_writes 59 = .ok (.goto 13, 3) := by decide +kernel
theorem dX5_writes_62 : decode cX5_writes 62 = .ok (.aload_n 0, 1) := by decide +kernel
theorem dX5_writes_63 : decode cX5_writes 63 = .ok (.aload_n 0, 1) := by decide +kernel
theorem dX5_writes_64 : decode cX5_writes 64 = .ok (.iconst 0, 1) := by decide +kernel
theorem dX5_writes_65 : decode cX5_writes 65 = .ok (.iaload, 1) := by decide +kernel
theorem dX5_writes_66 : decode cX5_writes 66 = .ok (.iconst 1, 1) := by decide +kernel
theorem dX5_writes_67 : decode cX5_writes 67 = .ok (.isub, 1) := by decide +kernel
theorem dX5_writes_68 : decode cX5_writes 68 = .ok (.iload_n 2, 1) := by decide +kernel
theorem dX5_writes_69 : decode cX5_writes 69 = .ok (.invokestatic 78, 3) := by decide +kernel
theorem dX5_writes_72 : decode cX5_writes 72 = .ok (.iastore, 1) := by decide +kernel
theorem dX5_writes_73 : decode cX5_writes 73 = .ok (.iinc 2 1, 3) := by decide +kernel
theorem dX5_writes_76 : decode cX5_writes 76 = .ok (.goto (-43), 3) := by decide +kernel
theorem dX5_writes_79 : decode cX5_writes 79 = .ok (.aload_n 0, 1) := by decide +kernel
theorem dX5_writes_80 : decode cX5_writes 80 = .ok (.iconst 1, 1) := by decide +kernel
theorem dX5_writes_81 : decode cX5_writes 81 = .ok (.dup2, 1) := by decide +kernel
theorem dX5_writes_82 : decode cX5_writes 82 = .ok (.iaload, 1) := by decide +kernel
theorem dX5_writes_83 : decode cX5_writes 83 = .ok (.iconst 1, 1) := by decide +kernel
theorem dX5_writes_84 : decode cX5_writes 84 = .ok (.iadd, 1) := by decide +kernel
theorem dX5_writes_85 : decode cX5_writes 85 = .ok (.iastore, 1) := by decide +kernel
theorem dX5_writes_86 : decode cX5_writes 86 = .ok (.aload_n 0, 1) := by decide +kernel
theorem dX5_writes_87 : decode cX5_writes 87 = .ok (.iconst 1, 1) := by decide +kernel
theorem dX5_writes_88 : decode cX5_writes 88 = .ok (.iaload, 1) := by decide +kernel
theorem dX5_writes_89 : decode cX5_writes 89 = .ok (.iconst 1, 1) := by decide +kernel
theorem dX5_writes_90 : decode cX5_writes 90 = .ok (.isub, 1) := by decide +kernel
theorem dX5_writes_91 : decode cX5_writes 91 = .ok (.ireturn, 1) := by decide +kernel
set_option maxRecDepth 20000 in
theorem ggX5_sets_X5_isRow : GoodIn wsX5_sets wsX5_isRow := goodIn_r _ [4, 5, 6, 3, 7] (by decide +kernel) (by decide +kernel)
set_option maxRecDepth 20000 in
theorem gX5_sets_X5_isRow : GoodIn wsX5_sets (va_wsS RX5 85 yX5_isRow wsX5_isRow) := goodIn_app (goodIn_of _ (by decide +kernel)) ggX5_sets_X5_isRow
set_option maxRecDepth 20000 in
theorem ggX5_sets_X5_isName : GoodIn wsX5_sets wsX5_isName := goodIn_r _ [10, 5, 6, 3, 7] (by decide +kernel) (by decide +kernel)
set_option maxRecDepth 20000 in
theorem gX5_sets_X5_isName : GoodIn wsX5_sets (va_wsS RX5 89 yX5_isName wsX5_isName) := goodIn_app (goodIn_of _ (by decide +kernel)) ggX5_sets_X5_isName
set_option maxRecDepth 20000 in
theorem ggX5_sets_X5_kindIn : GoodIn wsX5_sets wsX5_kindIn := goodIn_r _ [13, 14, 15, 3, 16, 17, 18, 19] (by decide +kernel) (by decide +kernel)
set_option maxRecDepth 20000 in
theorem gX5_sets_X5_kindIn : GoodIn wsX5_sets (va_wsS RX5 65 yX5_kindIn wsX5_kindIn) := goodIn_app (goodIn_of _ (by decide +kernel)) ggX5_sets_X5_kindIn
set_option maxRecDepth 20000 in
theorem ggX5_sets_X5_least : GoodIn wsX5_sets wsX5_least := goodIn_r _ [22] (by decide +kernel) (by decide +kernel)
set_option maxRecDepth 20000 in
theorem gX5_sets_X5_least : GoodIn wsX5_sets (va_wsS RX5 93 yX5_least wsX5_least) := goodIn_app (goodIn_of _ (by decide +kernel)) ggX5_sets_X5_least
set_option maxRecDepth 20000 in
theorem ggX5_sets_X5_most : GoodIn wsX5_sets wsX5_most := goodIn_r _ [25] (by decide +kernel) (by decide +kernel)
set_option maxRecDepth 20000 in
theorem gX5_sets_X5_most : GoodIn wsX5_sets (va_wsS RX5 97 yX5_most wsX5_most) := goodIn_app (goodIn_of _ (by decide +kernel)) ggX5_sets_X5_most
set_option maxRecDepth 20000 in
theorem ggX5_sets_X5_in : GoodIn wsX5_sets wsX5_in := goodIn_r _ [7] (by decide +kernel) (by decide +kernel)
set_option maxRecDepth 20000 in
theorem gX5_sets_X5_in : GoodIn wsX5_sets (va_wsS RX5 35 yX5_in wsX5_in) := goodIn_app (goodIn_of _ (by decide +kernel)) ggX5_sets_X5_in
set_option maxRecDepth 20000 in
theorem ggX5_sets_X5_valueOf : GoodIn wsX5_sets wsX5_valueOf := goodIn_r _ [28] (by decide +kernel) (by decide +kernel)
set_option maxRecDepth 20000 in
theorem gX5_sets_X5_valueOf : GoodIn wsX5_sets (va_wsS RX5 68 yX5_valueOf wsX5_valueOf) := goodIn_app (goodIn_of _ (by decide +kernel)) ggX5_sets_X5_valueOf
theorem dX5_sets_0 : decode cX5_sets 0 = .ok (.aload_n 0, 1) := by decide +kernel
theorem dX5_sets_1 : decode cX5_sets 1 = .ok (.iload_n 1, 1) := by decide +kernel
theorem dX5_sets_2 : decode cX5_sets 2 = .ok (.invokestatic 85, 3) := by decide +kernel
theorem dX5_sets_5 : decode cX5_sets 5 = .ok (.ifCond .eq 19, 3) := by decide +kernel
theorem dX5_sets_8 : decode cX5_sets 8 = .ok (.iload_n 2, 1) := by decide +kernel
theorem dX5_sets_9 : decode cX5_sets 9 = .ok (.invokestatic 89, 3) := by decide +kernel
theorem dX5_sets_12 : decode cX5_sets 12 = .ok (.ifCond .eq 12, 3) := by decide +kernel
theorem dX5_sets_15 : decode cX5_sets 15 = .ok (.aload_n 0, 1) := by decide +kernel
theorem dX5_sets_16 : decode cX5_sets 16 = .ok (.iload_n 1, 1) := by decide +kernel
theorem dX5_sets_17 : decode cX5_sets 17 = .ok (.iload_n 2, 1) := by decide +kernel
theorem dX5_sets_18 : decode cX5_sets 18 = .ok (.invokestatic 65, 3) := by decide +kernel
theorem dX5_sets_21 : decode cX5_sets 21 = .ok (.goto 4, 3) := by decide +kernel
theorem dX5_sets_24 : decode cX5_sets 24 = .ok (.iconst (-1), 1) := by decide +kernel
theorem dX5_sets_25 : decode cX5_sets 25 = .ok (.istore 4, 2) := by decide +kernel
theorem dX5_sets_27 : decode cX5_sets 27 = .ok (.iload 4, 2) := by decide +kernel
theorem dX5_sets_29 : decode cX5_sets 29 = .ok (.ifCond .ge 7, 3) := by decide +kernel
theorem dX5_sets_32 : decode cX5_sets 32 = .ok (.sipush (-10001), 3) := by decide +kernel
theorem dX5_sets_35 : decode cX5_sets 35 = .ok (.ireturn, 1) := by decide +kernel
theorem dX5_sets_36 : decode cX5_sets 36 = .ok (.iload_n 3, 1) := by decide +kernel
theorem dX5_sets_37 : decode cX5_sets 37 = .ok (.iload 4, 2) := by decide +kernel
theorem dX5_sets_39 : decode cX5_sets 39 = .ok (.invokestatic 93, 3) := by decide +kernel
theorem dX5_sets_42 : decode cX5_sets 42 = .ok (.iload 4, 2) := by decide +kernel
theorem dX5_sets_44 : decode cX5_sets 44 = .ok (.invokestatic 97, 3) := by decide +kernel
theorem dX5_sets_47 : decode cX5_sets 47 = .ok (.invokestatic 35, 3) := by decide +kernel
theorem dX5_sets_50 : decode cX5_sets 50 = .ok (.ifCond .ne 7, 3) := by decide +kernel
theorem dX5_sets_53 : decode cX5_sets 53 = .ok (.sipush (-10002), 3) := by decide +kernel
theorem dX5_sets_56 : decode cX5_sets 56 = .ok (.ireturn, 1) := by decide +kernel
theorem dX5_sets_57 : decode cX5_sets 57 = .ok (.aload_n 0, 1) := by decide +kernel
theorem dX5_sets_58 : decode cX5_sets 58 = .ok (.iload_n 1, 1) := by decide +kernel
theorem dX5_sets_59 : decode cX5_sets 59 = .ok (.iload_n 2, 1) := by decide +kernel
theorem dX5_sets_60 : decode cX5_sets 60 = .ok (.invokestatic 68, 3) := by decide +kernel
theorem dX5_sets_63 : decode cX5_sets 63 = .ok (.istore 5, 2) := by decide +kernel
theorem dX5_sets_65 : decode cX5_sets 65 = .ok (.aload_n 0, 1) := by decide +kernel
theorem dX5_sets_66 : decode cX5_sets 66 = .ok (.sipush 482, 3) := by decide +kernel
theorem dX5_sets_69 : decode cX5_sets 69 = .ok (.bipush 9, 2) := by decide +kernel
theorem dX5_sets_71 : decode cX5_sets 71 = .ok (.iload_n 1, 1) := by decide +kernel
theorem dX5_sets_72 : decode cX5_sets 72 = .ok (.imul, 1) := by decide +kernel
theorem dX5_sets_73 : decode cX5_sets 73 = .ok (.iadd, 1) := by decide +kernel
theorem dX5_sets_74 : decode cX5_sets 74 = .ok (.iconst 1, 1) := by decide +kernel
theorem dX5_sets_75 : decode cX5_sets 75 = .ok (.iadd, 1) := by decide +kernel
theorem dX5_sets_76 : decode cX5_sets 76 = .ok (.iload_n 2, 1) := by decide +kernel
theorem dX5_sets_77 : decode cX5_sets 77 = .ok (.iadd, 1) := by decide +kernel
theorem dX5_sets_78 : decode cX5_sets 78 = .ok (.iload_n 3, 1) := by decide +kernel
theorem dX5_sets_79 : decode cX5_sets 79 = .ok (.iastore, 1) := by decide +kernel
theorem dX5_sets_80 : decode cX5_sets 80 = .ok (.iload 5, 2) := by decide +kernel
theorem dX5_sets_82 : decode cX5_sets 82 = .ok (.iload_n 3, 1) := by decide +kernel
theorem dX5_sets_83 : decode cX5_sets 83 = .ok (.if_icmp .ne 9, 3) := by decide +kernel
theorem dX5_sets_86 : decode cX5_sets 86 = .ok (.sipush (-10005), 3) := by decide +kernel
theorem dX5_sets_89 : decode cX5_sets 89 = .ok (.goto 5, 3) := by decide +kernel
theorem dX5_sets_92 : decode cX5_sets 92 = .ok (.iload 5, 2) := by decide +kernel
theorem dX5_sets_94 : decode cX5_sets 94 = .ok (.ireturn, 1) := by decide +kernel
set_option maxRecDepth 20000 in
theorem ggX5_done_X5_records : GoodIn wsX5_done wsX5_records := goodIn_r _ [7, 8, 9, 2, 10, 11, 6, 12, 13, 14, 15, 16, 17, 18, 19, 20, 21, 22, 23, 24, 25, 26] (by decide +kernel) (by decide +kernel)
set_option maxRecDepth 20000 in
theorem gX5_done_X5_records : GoodIn wsX5_done (wsV RX5 50 RX5 yX5_records wsX5_records) := goodIn_app (goodIn_of _ (by decide +kernel)) ggX5_done_X5_records
set_option maxRecDepth 20000 in
theorem ggX5_done_X5_copies : GoodIn wsX5_done wsX5_copies := goodIn_r _ [12] (by decide +kernel) (by decide +kernel)
set_option maxRecDepth 20000 in
theorem gX5_done_X5_copies : GoodIn wsX5_done (va_wsS RX5 42 yX5_copies wsX5_copies) := goodIn_app (goodIn_of _ (by decide +kernel)) ggX5_done_X5_copies
theorem dX5_done_0 : decode cX5_done 0 = .ok (.iload_n 1, 1) := by decide +kernel
theorem dX5_done_1 : decode cX5_done 1 = .ok (.sipush (-10001), 3) := by decide +kernel
theorem dX5_done_4 : decode cX5_done 4 = .ok (.if_icmp .le 20, 3) := by decide +kernel
theorem dX5_done_7 : decode cX5_done 7 = .ok (.aload_n 0, 1) := by decide +kernel
theorem dX5_done_8 : decode cX5_done 8 = .ok (.invokevirtual 50, 3) := by decide +kernel
theorem dX5_done_11 : decode cX5_done 11 = .ok (.aload_n 0, 1) := by decide +kernel
theorem dX5_done_12 : decode cX5_done 12 = .ok (.getfield 13, 3) := by decide +kernel
theorem dX5_done_15 : decode cX5_done 15 = .ok (.iconst 0, 1) := by decide +kernel
theorem dX5_done_16 : decode cX5_done 16 = .ok (.aload_n 0, 1) := by decide +kernel
theorem dX5_done_17 : decode cX5_done 17 = .ok (.getfield 7, 3) := by decide +kernel
theorem dX5_done_20 : decode cX5_done 20 = .ok (.iconst 0, 1) := by decide +kernel
theorem dX5_done_21 : decode cX5_done 21 = .ok (.invokestatic 42, 3) := by decide +kernel
theorem dX5_done_24 : decode cX5_done 24 = .ok (.iload_n 1, 1) := by decide +kernel
theorem dX5_done_25 : decode cX5_done 25 = .ok (.ireturn, 1) := by decide +kernel
set_option maxRecDepth 20000 in
theorem ggX5_add_X5_isName : GoodIn wsX5_add wsX5_isName := goodIn_r _ [6, 7, 8, 5, 9] (by decide +kernel) (by decide +kernel)
set_option maxRecDepth 20000 in
theorem gX5_add_X5_isName : GoodIn wsX5_add (va_wsS RX5 89 yX5_isName wsX5_isName) := goodIn_app (goodIn_of _ (by decide +kernel)) ggX5_add_X5_isName
set_option maxRecDepth 20000 in
theorem ggX5_add_X5_in : GoodIn wsX5_add wsX5_in := goodIn_r _ [9] (by decide +kernel) (by decide +kernel)
set_option maxRecDepth 20000 in
theorem gX5_add_X5_in : GoodIn wsX5_add (va_wsS RX5 35 yX5_in wsX5_in) := goodIn_app (goodIn_of _ (by decide +kernel)) ggX5_add_X5_in
set_option maxRecDepth 20000 in
theorem ggX5_add_X5_least : GoodIn wsX5_add wsX5_least := goodIn_r _ [12] (by decide +kernel) (by decide +kernel)
set_option maxRecDepth 20000 in
theorem gX5_add_X5_least : GoodIn wsX5_add (va_wsS RX5 93 yX5_least wsX5_least) := goodIn_app (goodIn_of _ (by decide +kernel)) ggX5_add_X5_least
set_option maxRecDepth 20000 in
theorem ggX5_add_X5_most : GoodIn wsX5_add wsX5_most := goodIn_r _ [15] (by decide +kernel) (by decide +kernel)
set_option maxRecDepth 20000 in
theorem gX5_add_X5_most : GoodIn wsX5_add (va_wsS RX5 97 yX5_most wsX5_most) := goodIn_app (goodIn_of _ (by decide +kernel)) ggX5_add_X5_most
set_option maxRecDepth 20000 in
theorem ggX5_add_X5_copies : GoodIn wsX5_add wsX5_copies := goodIn_r _ [18] (by decide +kernel) (by decide +kernel)
set_option maxRecDepth 20000 in
theorem gX5_add_X5_copies : GoodIn wsX5_add (va_wsS RX5 42 yX5_copies wsX5_copies) := goodIn_app (goodIn_of _ (by decide +kernel)) ggX5_add_X5_copies
set_option maxRecDepth 20000 in
theorem ggX5_add_X5_adds : GoodIn wsX5_add wsX5_adds := goodIn_r _ [21, 22, 23, 5, 24, 25, 26, 27] (by decide +kernel) (by decide +kernel)
set_option maxRecDepth 20000 in
theorem gX5_add_X5_adds : GoodIn wsX5_add (va_wsS RX5 100 yX5_adds wsX5_adds) := goodIn_app (goodIn_of _ (by decide +kernel)) ggX5_add_X5_adds
set_option maxRecDepth 20000 in
theorem ggX5_add_X5_done : GoodIn wsX5_add wsX5_done := goodIn_r _ [31, 2, 1, 32, 33, 34, 5, 35, 36, 37, 16, 17, 18, 38, 39, 40, 41, 42, 43, 44, 45, 46, 47, 48, 49, 50, 51] (by decide +kernel) (by decide +kernel)
set_option maxRecDepth 20000 in
theorem gX5_add_X5_done : GoodIn wsX5_add (wsV RX5 103 RX5 yX5_done wsX5_done) := goodIn_app (goodIn_of _ (by decide +kernel)) ggX5_add_X5_done
theorem dX5_add_0 : decode cX5_add 0 = .ok (.iload_n 1, 1) := by decide +kernel
theorem dX5_add_1 : decode cX5_add 1 = .ok (.invokestatic 89, 3) := by decide +kernel
theorem dX5_add_4 : decode cX5_add 4 = .ok (.ifCond .ne 7, 3) := by decide +kernel
theorem dX5_add_7 : decode cX5_add 7 = .ok (.sipush (-10001), 3) := by decide +kernel
theorem dX5_add_10 : decode cX5_add 10 = .ok (.ireturn, 1) := by decide +kernel
theorem dX5_add_11 : decode cX5_add 11 = .ok (.iload_n 2, 1) := by decide +kernel
theorem dX5_add_12 : decode cX5_add 12 = .ok (.iconst 0, 1) := by decide +kernel
theorem dX5_add_13 : decode cX5_add 13 = .ok (.iconst 2, 1) := by decide +kernel
theorem dX5_add_14 : decode cX5_add 14 = .ok (.invokestatic 35, 3) := by decide +kernel
theorem dX5_add_17 : decode cX5_add 17 = .ok (.ifCond .eq 18, 3) := by decide +kernel
theorem dX5_add_20 : decode cX5_add 20 = .ok (.iload_n 3, 1) := by decide +kernel
theorem dX5_add_21 : decode cX5_add 21 = .ok (.iload_n 2, 1) := by decide +kernel
theorem dX5_add_22 : decode cX5_add 22 = .ok (.invokestatic 93, 3) := by decide +kernel
theorem dX5_add_25 : decode cX5_add 25 = .ok (.iload_n 2, 1) := by decide +kernel
theorem dX5_add_26 : decode cX5_add 26 = .ok (.invokestatic 97, 3) := by decide +kernel
theorem dX5_add_29 : decode cX5_add 29 = .ok (.invokestatic 35, 3) := by decide +kernel
theorem dX5_add_32 : decode cX5_add 32 = .ok (.ifCond .ne 7, 3) := by decide +kernel
theorem dX5_add_35 : decode cX5_add 35 = .ok (.sipush (-10002), 3) := by decide +kernel
theorem dX5_add_38 : decode cX5_add 38 = .ok (.ireturn, 1) := by decide +kernel
theorem dX5_add_39 : decode cX5_add 39 = .ok (.aload_n 0, 1) := by decide +kernel
theorem dX5_add_40 : decode cX5_add 40 = .ok (.getfield 7, 3) := by decide +kernel
theorem dX5_add_43 : decode cX5_add 43 = .ok (.iconst 0, 1) := by decide +kernel
theorem dX5_add_44 : decode cX5_add 44 = .ok (.aload_n 0, 1) := by decide +kernel
theorem dX5_add_45 : decode cX5_add 45 = .ok (.getfield 13, 3) := by decide +kernel
theorem dX5_add_48 : decode cX5_add 48 = .ok (.iconst 0, 1) := by decide +kernel
theorem dX5_add_49 : decode cX5_add 49 = .ok (.invokestatic 42, 3) := by decide +kernel
theorem dX5_add_52 : decode cX5_add 52 = .ok (.aload_n 0, 1) := by decide +kernel
theorem dX5_add_53 : decode cX5_add 53 = .ok (.aload_n 0, 1) := by decide +kernel
theorem dX5_add_54 : decode cX5_add 54 = .ok (.getfield 13, 3) := by decide +kernel
theorem dX5_add_57 : decode cX5_add 57 = .ok (.iload_n 1, 1) := by decide +kernel
theorem dX5_add_58 : decode cX5_add 58 = .ok (.iload_n 2, 1) := by decide +kernel
theorem dX5_add_59 : decode cX5_add 59 = .ok (.iload_n 3, 1) := by decide +kernel
theorem dX5_add_60 : decode cX5_add 60 = .ok (.invokestatic 100, 3) := by decide +kernel
theorem dX5_add_63 : decode cX5_add 63 = .ok (.invokevirtual 103, 3) := by decide +kernel
theorem dX5_add_66 : decode cX5_add 66 = .ok (.ireturn, 1) := by decide +kernel
set_option maxRecDepth 20000 in
theorem ggX5_drop_X5_copies : GoodIn wsX5_drop wsX5_copies := goodIn_r _ [6] (by decide +kernel) (by decide +kernel)
set_option maxRecDepth 20000 in
theorem gX5_drop_X5_copies : GoodIn wsX5_drop (va_wsS RX5 42 yX5_copies wsX5_copies) := goodIn_app (goodIn_of _ (by decide +kernel)) ggX5_drop_X5_copies
set_option maxRecDepth 20000 in
theorem ggX5_drop_X5_isName : GoodIn wsX5_drop wsX5_isName := goodIn_r _ [9, 10, 11, 5, 12] (by decide +kernel) (by decide +kernel)
set_option maxRecDepth 20000 in
theorem gX5_drop_X5_isName : GoodIn wsX5_drop (va_wsS RX5 89 yX5_isName wsX5_isName) := goodIn_app (goodIn_of _ (by decide +kernel)) ggX5_drop_X5_isName
set_option maxRecDepth 20000 in
theorem ggX5_drop_X5_drops : GoodIn wsX5_drop wsX5_drops := goodIn_r _ [15, 16, 17, 5, 18, 19, 20, 21] (by decide +kernel) (by decide +kernel)
set_option maxRecDepth 20000 in
theorem gX5_drop_X5_drops : GoodIn wsX5_drop (va_wsS RX5 106 yX5_drops wsX5_drops) := goodIn_app (goodIn_of _ (by decide +kernel)) ggX5_drop_X5_drops
set_option maxRecDepth 20000 in
theorem ggX5_drop_X5_done : GoodIn wsX5_drop wsX5_done := goodIn_r _ [25, 2, 1, 26, 27, 28, 5, 29, 30, 31, 3, 4, 6, 32, 33, 34, 35, 36, 37, 38, 39, 40, 41, 42, 43, 44, 45] (by decide +kernel) (by decide +kernel)
set_option maxRecDepth 20000 in
theorem gX5_drop_X5_done : GoodIn wsX5_drop (wsV RX5 103 RX5 yX5_done wsX5_done) := goodIn_app (goodIn_of _ (by decide +kernel)) ggX5_drop_X5_done
theorem dX5_drop_0 : decode cX5_drop 0 = .ok (.aload_n 0, 1) := by decide +kernel
theorem dX5_drop_1 : decode cX5_drop 1 = .ok (.getfield 7, 3) := by decide +kernel
theorem dX5_drop_4 : decode cX5_drop 4 = .ok (.iconst 0, 1) := by decide +kernel
theorem dX5_drop_5 : decode cX5_drop 5 = .ok (.aload_n 0, 1) := by decide +kernel
theorem dX5_drop_6 : decode cX5_drop 6 = .ok (.getfield 13, 3) := by decide +kernel
theorem dX5_drop_9 : decode cX5_drop 9 = .ok (.iconst 0, 1) := by decide +kernel
theorem dX5_drop_10 : decode cX5_drop 10 = .ok (.invokestatic 42, 3) := by decide +kernel
theorem dX5_drop_13 : decode cX5_drop 13 = .ok (.iload_n 1, 1) := by decide +kernel
theorem dX5_drop_14 : decode cX5_drop 14 = .ok (.invokestatic 89, 3) := by decide +kernel
theorem dX5_drop_17 : decode cX5_drop 17 = .ok (.ifCond .eq 18, 3) := by decide +kernel
theorem dX5_drop_20 : decode cX5_drop 20 = .ok (.aload_n 0, 1) := by decide +kernel
theorem dX5_drop_21 : decode cX5_drop 21 = .ok (.aload_n 0, 1) := by decide +kernel
theorem dX5_drop_22 : decode cX5_drop 22 = .ok (.getfield 13, 3) := by decide +kernel
theorem dX5_drop_25 : decode cX5_drop 25 = .ok (.iload_n 1, 1) := by decide +kernel
theorem dX5_drop_26 : decode cX5_drop 26 = .ok (.invokestatic 106, 3) := by decide +kernel
theorem dX5_drop_29 : decode cX5_drop 29 = .ok (.invokevirtual 103, 3) := by decide +kernel
theorem dX5_drop_32 : decode cX5_drop 32 = .ok (.goto 6, 3) := by decide +kernel
theorem dX5_drop_35 : decode cX5_drop 35 = .ok (.sipush (-10001), 3) := by decide +kernel
theorem dX5_drop_38 : decode cX5_drop 38 = .ok (.ireturn, 1) := by decide +kernel
set_option maxRecDepth 20000 in
theorem ggX5_kind_X5_isName : GoodIn wsX5_kind wsX5_isName := goodIn_r _ [6, 7, 8, 5, 9] (by decide +kernel) (by decide +kernel)
set_option maxRecDepth 20000 in
theorem gX5_kind_X5_isName : GoodIn wsX5_kind (va_wsS RX5 89 yX5_isName wsX5_isName) := goodIn_app (goodIn_of _ (by decide +kernel)) ggX5_kind_X5_isName
set_option maxRecDepth 20000 in
theorem ggX5_kind_X5_kindOf : GoodIn wsX5_kind wsX5_kindOf := goodIn_r _ [12] (by decide +kernel) (by decide +kernel)
set_option maxRecDepth 20000 in
theorem gX5_kind_X5_kindOf : GoodIn wsX5_kind (va_wsS RX5 61 yX5_kindOf wsX5_kindOf) := goodIn_app (goodIn_of _ (by decide +kernel)) ggX5_kind_X5_kindOf
set_option maxRecDepth 20000 in
theorem ggX5_kind_X5_copies : GoodIn wsX5_kind wsX5_copies := goodIn_r _ [15] (by decide +kernel) (by decide +kernel)
set_option maxRecDepth 20000 in
theorem gX5_kind_X5_copies : GoodIn wsX5_kind (va_wsS RX5 42 yX5_copies wsX5_copies) := goodIn_app (goodIn_of _ (by decide +kernel)) ggX5_kind_X5_copies
set_option maxRecDepth 20000 in
theorem ggX5_kind_X5_in : GoodIn wsX5_kind wsX5_in := goodIn_r _ [9] (by decide +kernel) (by decide +kernel)
set_option maxRecDepth 20000 in
theorem gX5_kind_X5_in : GoodIn wsX5_kind (va_wsS RX5 35 yX5_in wsX5_in) := goodIn_app (goodIn_of _ (by decide +kernel)) ggX5_kind_X5_in
set_option maxRecDepth 20000 in
theorem ggX5_kind_X5_turns : GoodIn wsX5_kind wsX5_turns := goodIn_r _ [18, 10, 11, 5, 12, 19, 20, 21, 22, 23, 24, 25, 26, 27] (by decide +kernel) (by decide +kernel)
set_option maxRecDepth 20000 in
theorem gX5_kind_X5_turns : GoodIn wsX5_kind (va_wsS RX5 109 yX5_turns wsX5_turns) := goodIn_app (goodIn_of _ (by decide +kernel)) ggX5_kind_X5_turns
set_option maxRecDepth 20000 in
theorem ggX5_kind_X5_done : GoodIn wsX5_kind wsX5_done := goodIn_r _ [31, 2, 1, 32, 33, 34, 5, 35, 36, 37, 13, 14, 15, 38, 39, 40, 41, 42, 43, 44, 45, 46, 47, 48, 49, 50, 51] (by decide +kernel) (by decide +kernel)
set_option maxRecDepth 20000 in
theorem gX5_kind_X5_done : GoodIn wsX5_kind (wsV RX5 103 RX5 yX5_done wsX5_done) := goodIn_app (goodIn_of _ (by decide +kernel)) ggX5_kind_X5_done
theorem dX5_kind_0 : decode cX5_kind 0 = .ok (.iload_n 1, 1) := by decide +kernel
theorem dX5_kind_1 : decode cX5_kind 1 = .ok (.invokestatic 89, 3) := by decide +kernel
theorem dX5_kind_4 : decode cX5_kind 4 = .ok (.ifCond .eq 22, 3) := by decide +kernel
theorem dX5_kind_7 : decode cX5_kind 7 = .ok (.aload_n 0, 1) := by decide +kernel
theorem dX5_kind_8 : decode cX5_kind 8 = .ok (.getfield 7, 3) := by decide +kernel
theorem dX5_kind_11 : decode cX5_kind 11 = .ok (.aload_n 0, 1) := by decide +kernel
theorem dX5_kind_12 : decode cX5_kind 12 = .ok (.getfield 7, 3) := by decide +kernel
theorem dX5_kind_15 : decode cX5_kind 15 = .ok (.iconst 0, 1) := by decide +kernel
theorem dX5_kind_16 : decode cX5_kind 16 = .ok (.iaload, 1) := by decide +kernel
theorem dX5_kind_17 : decode cX5_kind 17 = .ok (.iconst 1, 1) := by decide +kernel
theorem dX5_kind_18 : decode cX5_kind 18 = .ok (.isub, 1) := by decide +kernel
theorem dX5_kind_19 : decode cX5_kind 19 = .ok (.iload_n 1, 1) := by decide +kernel
theorem dX5_kind_20 : decode cX5_kind 20 = .ok (.invokestatic 61, 3) := by decide +kernel
theorem dX5_kind_23 : decode cX5_kind 23 = .ok (.ifCond .ge 7, 3) := by decide +kernel
theorem dX5_kind_26 : decode cX5_kind 26 = .ok (.sipush (-10001), 3) := by decide +kernel
theorem dX5_kind_29 : decode cX5_kind 29 = .ok (.ireturn, 1) := by decide +kernel
theorem dX5_kind_30 : decode cX5_kind 30 = .ok (.aload_n 0, 1) := by decide +kernel
theorem dX5_kind_31 : decode cX5_kind 31 = .ok (.getfield 7, 3) := by decide +kernel
theorem dX5_kind_34 : decode cX5_kind 34 = .ok (.iconst 0, 1) := by decide +kernel
theorem dX5_kind_35 : decode cX5_kind 35 = .ok (.aload_n 0, 1) := by decide +kernel
theorem dX5_kind_36 : decode cX5_kind 36 = .ok (.getfield 13, 3) := by decide +kernel
theorem dX5_kind_39 : decode cX5_kind 39 = .ok (.iconst 0, 1) := by decide +kernel
theorem dX5_kind_40 : decode cX5_kind 40 = .ok (.invokestatic 42, 3) := by decide +kernel
theorem dX5_kind_43 : decode cX5_kind 43 = .ok (.iload_n 2, 1) := by decide +kernel
theorem dX5_kind_44 : decode cX5_kind 44 = .ok (.iconst 0, 1) := by decide +kernel
theorem dX5_kind_45 : decode cX5_kind 45 = .ok (.iconst 2, 1) := by decide +kernel
theorem dX5_kind_46 : decode cX5_kind 46 = .ok (.invokestatic 35, 3) := by decide +kernel
theorem dX5_kind_49 : decode cX5_kind 49 = .ok (.ifCond .eq 19, 3) := by decide +kernel
theorem dX5_kind_52 : decode cX5_kind 52 = .ok (.aload_n 0, 1) := by decide +kernel
theorem dX5_kind_53 : decode cX5_kind 53 = .ok (.aload_n 0, 1) := by decide +kernel
theorem dX5_kind_54 : decode cX5_kind 54 = .ok (.getfield 13, 3) := by decide +kernel
theorem dX5_kind_57 : decode cX5_kind 57 = .ok (.iload_n 1, 1) := by decide +kernel
theorem dX5_kind_58 : decode cX5_kind 58 = .ok (.iload_n 2, 1) := by decide +kernel
theorem dX5_kind_59 : decode cX5_kind 59 = .ok (.invokestatic 109, 3) := by decide +kernel
theorem dX5_kind_62 : decode cX5_kind 62 = .ok (.invokevirtual 103, 3) := by decide +kernel
theorem dX5_kind_65 : decode cX5_kind 65 = .ok (.goto 6, 3) := by decide +kernel
theorem dX5_kind_68 : decode cX5_kind 68 = .ok (.sipush (-10002), 3) := by decide +kernel
theorem dX5_kind_71 : decode cX5_kind 71 = .ok (.ireturn, 1) := by decide +kernel
set_option maxRecDepth 20000 in
theorem ggX5_row_X5_copies : GoodIn wsX5_row wsX5_copies := goodIn_r _ [6] (by decide +kernel) (by decide +kernel)
set_option maxRecDepth 20000 in
theorem gX5_row_X5_copies : GoodIn wsX5_row (va_wsS RX5 42 yX5_copies wsX5_copies) := goodIn_app (goodIn_of _ (by decide +kernel)) ggX5_row_X5_copies
set_option maxRecDepth 20000 in
theorem ggX5_row_X5_writes : GoodIn wsX5_row wsX5_writes := goodIn_r _ [9, 10, 11, 5, 12, 13, 14, 15] (by decide +kernel) (by decide +kernel)
set_option maxRecDepth 20000 in
theorem gX5_row_X5_writes : GoodIn wsX5_row (va_wsS RX5 112 yX5_writes wsX5_writes) := goodIn_app (goodIn_of _ (by decide +kernel)) ggX5_row_X5_writes
set_option maxRecDepth 20000 in
theorem ggX5_row_X5_done : GoodIn wsX5_row wsX5_done := goodIn_r _ [19, 2, 1, 20, 21, 22, 5, 23, 24, 25, 3, 4, 6, 26, 27, 28, 29, 30, 31, 32, 33, 34, 35, 36, 37, 38, 39] (by decide +kernel) (by decide +kernel)
set_option maxRecDepth 20000 in
theorem gX5_row_X5_done : GoodIn wsX5_row (wsV RX5 103 RX5 yX5_done wsX5_done) := goodIn_app (goodIn_of _ (by decide +kernel)) ggX5_row_X5_done
theorem dX5_row_0 : decode cX5_row 0 = .ok (.aload_n 0, 1) := by decide +kernel
theorem dX5_row_1 : decode cX5_row 1 = .ok (.getfield 7, 3) := by decide +kernel
theorem dX5_row_4 : decode cX5_row 4 = .ok (.iconst 0, 1) := by decide +kernel
theorem dX5_row_5 : decode cX5_row 5 = .ok (.aload_n 0, 1) := by decide +kernel
theorem dX5_row_6 : decode cX5_row 6 = .ok (.getfield 13, 3) := by decide +kernel
theorem dX5_row_9 : decode cX5_row 9 = .ok (.iconst 0, 1) := by decide +kernel
theorem dX5_row_10 : decode cX5_row 10 = .ok (.invokestatic 42, 3) := by decide +kernel
theorem dX5_row_13 : decode cX5_row 13 = .ok (.aload_n 0, 1) := by decide +kernel
theorem dX5_row_14 : decode cX5_row 14 = .ok (.aload_n 0, 1) := by decide +kernel
theorem dX5_row_15 : decode cX5_row 15 = .ok (.getfield 13, 3) := by decide +kernel
theorem dX5_row_18 : decode cX5_row 18 = .ok (.invokestatic 112, 3) := by decide +kernel
theorem dX5_row_21 : decode cX5_row 21 = .ok (.invokevirtual 103, 3) := by decide +kernel
theorem dX5_row_24 : decode cX5_row 24 = .ok (.ireturn, 1) := by decide +kernel
set_option maxRecDepth 20000 in
theorem ggX5_set_X5_copies : GoodIn wsX5_set wsX5_copies := goodIn_r _ [6] (by decide +kernel) (by decide +kernel)
set_option maxRecDepth 20000 in
theorem gX5_set_X5_copies : GoodIn wsX5_set (va_wsS RX5 42 yX5_copies wsX5_copies) := goodIn_app (goodIn_of _ (by decide +kernel)) ggX5_set_X5_copies
set_option maxRecDepth 20000 in
theorem ggX5_set_X5_sets : GoodIn wsX5_set wsX5_sets := goodIn_r _ [9, 10, 11, 5, 12, 13, 14, 15, 16, 17, 18, 19, 20, 21, 22, 23, 24, 25, 26, 27, 28, 29, 30, 31, 32, 33, 34, 35, 36] (by decide +kernel) (by decide +kernel)
set_option maxRecDepth 20000 in
theorem gX5_set_X5_sets : GoodIn wsX5_set (va_wsS RX5 116 yX5_sets wsX5_sets) := goodIn_app (goodIn_of _ (by decide +kernel)) ggX5_set_X5_sets
set_option maxRecDepth 20000 in
theorem ggX5_set_X5_done : GoodIn wsX5_set wsX5_done := goodIn_r _ [40, 2, 1, 41, 42, 43, 5, 44, 45, 46, 3, 4, 6, 47, 48, 49, 50, 51, 52, 53, 54, 55, 56, 57, 58, 59, 60] (by decide +kernel) (by decide +kernel)
set_option maxRecDepth 20000 in
theorem gX5_set_X5_done : GoodIn wsX5_set (wsV RX5 103 RX5 yX5_done wsX5_done) := goodIn_app (goodIn_of _ (by decide +kernel)) ggX5_set_X5_done
theorem dX5_set_0 : decode cX5_set 0 = .ok (.aload_n 0, 1) := by decide +kernel
theorem dX5_set_1 : decode cX5_set 1 = .ok (.getfield 7, 3) := by decide +kernel
theorem dX5_set_4 : decode cX5_set 4 = .ok (.iconst 0, 1) := by decide +kernel
theorem dX5_set_5 : decode cX5_set 5 = .ok (.aload_n 0, 1) := by decide +kernel
theorem dX5_set_6 : decode cX5_set 6 = .ok (.getfield 13, 3) := by decide +kernel
theorem dX5_set_9 : decode cX5_set 9 = .ok (.iconst 0, 1) := by decide +kernel
theorem dX5_set_10 : decode cX5_set 10 = .ok (.invokestatic 42, 3) := by decide +kernel
theorem dX5_set_13 : decode cX5_set 13 = .ok (.aload_n 0, 1) := by decide +kernel
theorem dX5_set_14 : decode cX5_set 14 = .ok (.aload_n 0, 1) := by decide +kernel
theorem dX5_set_15 : decode cX5_set 15 = .ok (.getfield 13, 3) := by decide +kernel
theorem dX5_set_18 : decode cX5_set 18 = .ok (.iload_n 1, 1) := by decide +kernel
theorem dX5_set_19 : decode cX5_set 19 = .ok (.iload_n 2, 1) := by decide +kernel
theorem dX5_set_20 : decode cX5_set 20 = .ok (.iload_n 3, 1) := by decide +kernel
theorem dX5_set_21 : decode cX5_set 21 = .ok (.invokestatic 116, 3) := by decide +kernel
theorem dX5_set_24 : decode cX5_set 24 = .ok (.invokevirtual 103, 3) := by decide +kernel
theorem dX5_set_27 : decode cX5_set 27 = .ok (.ireturn, 1) := by decide +kernel
set_option maxRecDepth 20000 in
theorem ggX5_remove_X5_isRow : GoodIn wsX5_remove wsX5_isRow := goodIn_r _ [5, 6, 7, 4, 8] (by decide +kernel) (by decide +kernel)
set_option maxRecDepth 20000 in
theorem gX5_remove_X5_isRow : GoodIn wsX5_remove (va_wsS RX5 85 yX5_isRow wsX5_isRow) := goodIn_app (goodIn_of _ (by decide +kernel)) ggX5_remove_X5_isRow
set_option maxRecDepth 20000 in
theorem ggX5_remove_X5_records : GoodIn wsX5_remove wsX5_records := goodIn_r _ [12, 13, 14, 1, 15, 16, 4, 17, 18, 19, 20, 21, 22, 23, 24, 25, 26, 27, 28, 29, 30, 31] (by decide +kernel) (by decide +kernel)
set_option maxRecDepth 20000 in
theorem gX5_remove_X5_records : GoodIn wsX5_remove (wsV RX5 50 RX5 yX5_records wsX5_records) := goodIn_app (goodIn_of _ (by decide +kernel)) ggX5_remove_X5_records
theorem dX5_remove_0 : decode cX5_remove 0 = .ok (.aload_n 0, 1) := by decide +kernel
theorem dX5_remove_1 : decode cX5_remove 1 = .ok (.getfield 7, 3) := by decide +kernel
theorem dX5_remove_4 : decode cX5_remove 4 = .ok (.iload_n 1, 1) := by decide +kernel
theorem dX5_remove_5 : decode cX5_remove 5 = .ok (.invokestatic 85, 3) := by decide +kernel
theorem dX5_remove_8 : decode cX5_remove 8 = .ok (.ifCond .ne 7, 3) := by decide +kernel
theorem dX5_remove_11 : decode cX5_remove 11 = .ok (.sipush (-10001), 3) := by decide +kernel
theorem dX5_remove_14 : decode cX5_remove 14 = .ok (.ireturn, 1) := by decide +kernel
theorem dX5_remove_15 : decode cX5_remove 15 = .ok (.aload_n 0, 1) := by decide +kernel
theorem dX5_remove_16 : decode cX5_remove 16 = .ok (.invokevirtual 50, 3) := by decide +kernel
theorem dX5_remove_19 : decode cX5_remove 19 = .ok (.aload_n 0, 1) := by decide +kernel
theorem dX5_remove_20 : decode cX5_remove 20 = .ok (.getfield 7, 3) := by decide +kernel
theorem dX5_remove_23 : decode cX5_remove 23 = .ok (.iconst 1, 1) := by decide +kernel
theorem dX5_remove_24 : decode cX5_remove 24 = .ok (.dup2, 1) := by decide +kernel
theorem dX5_remove_25 : decode cX5_remove 25 = .ok (.iaload, 1) := by decide +kernel
theorem dX5_remove_26 : decode cX5_remove 26 = .ok (.iconst 1, 1) := by decide +kernel
theorem dX5_remove_27 : decode cX5_remove 27 = .ok (.isub, 1) := by decide +kernel
theorem dX5_remove_28 : decode cX5_remove 28 = .ok (.iastore, 1) := by decide +kernel
theorem dX5_remove_29 : decode cX5_remove 29 = .ok (.sipush 482, 3) := by decide +kernel
theorem dX5_remove_32 : decode cX5_remove 32 = .ok (.bipush 9, 2) := by decide +kernel
theorem dX5_remove_34 : decode cX5_remove 34 = .ok (.iload_n 1, 1) := by decide +kernel
theorem dX5_remove_35 : decode cX5_remove 35 = .ok (.imul, 1) := by decide +kernel
theorem dX5_remove_36 : decode cX5_remove 36 = .ok (.iadd, 1) := by decide +kernel
theorem dX5_remove_37 : decode cX5_remove 37 = .ok (.istore_n 2, 1) := by decide +kernel
theorem dX5_remove_38 : decode cX5_remove 38 = .ok (.iload_n 2, 1) := by decide +kernel
theorem dX5_remove_39 : decode cX5_remove 39 = .ok (.sipush 482, 3) := by decide +kernel
theorem dX5_remove_42 : decode cX5_remove 42 = .ok (.bipush 9, 2) := by decide +kernel
theorem dX5_remove_44 : decode cX5_remove 44 = .ok (.aload_n 0, 1) := by decide +kernel
theorem dX5_remove_45 : decode cX5_remove 45 = .ok (.getfield 7, 3) := by decide +kernel
theorem dX5_remove_48 : decode cX5_remove 48 = .ok (.iconst 1, 1) := by decide +kernel
theorem dX5_remove_49 : decode cX5_remove 49 = .ok (.iaload, 1) := by decide +kernel
theorem dX5_remove_50 : decode cX5_remove 50 = .ok (.imul, 1) := by decide +kernel
theorem dX5_remove_51 : decode cX5_remove 51 = .ok (.iadd, 1) := by decide +kernel
theorem dX5_remove_52 : decode cX5_remove 52 = .ok (.if_icmp .ge 24, 3) := by decide +kernel
theorem dX5_remove_55 : decode cX5_remove 55 = .ok (.aload_n 0, 1) := by decide +kernel
theorem dX5_remove_56 : decode cX5_remove 56 = .ok (.getfield 7, 3) := by decide +kernel
theorem dX5_remove_59 : decode cX5_remove 59 = .ok (.iload_n 2, 1) := by decide +kernel
theorem dX5_remove_60 : decode cX5_remove 60 = .ok (.aload_n 0, 1) := by decide +kernel
theorem dX5_remove_61 : decode cX5_remove 61 = .ok (.getfield 7, 3) := by decide +kernel
theorem dX5_remove_64 : decode cX5_remove 64 = .ok (.iload_n 2, 1) := by decide +kernel
theorem dX5_remove_65 : decode cX5_remove 65 = .ok (.bipush 9, 2) := by decide +kernel
theorem dX5_remove_67 : decode cX5_remove 67 = .ok (.iadd, 1) := by decide +kernel
theorem dX5_remove_68 : decode cX5_remove 68 = .ok (.iaload, 1) := by decide +kernel
theorem dX5_remove_69 : decode cX5_remove 69 = .ok (.iastore, 1) := by decide +kernel
theorem dX5_remove_70 : decode cX5_remove 70 = .ok (.iinc 2 1, 3) := by decide +kernel
theorem dX5_remove_73 : decode cX5_remove 73 = .ok (.goto (-35), 3) := by decide +kernel
theorem dX5_remove_76 : decode cX5_remove 76 = .ok (.aload_n 0, 1) := by decide +kernel
theorem dX5_remove_77 : decode cX5_remove 77 = .ok (.getfield 7, 3) := by decide +kernel
theorem dX5_remove_80 : decode cX5_remove 80 = .ok (.iconst 1, 1) := by decide +kernel
theorem dX5_remove_81 : decode cX5_remove 81 = .ok (.iaload, 1) := by decide +kernel
theorem dX5_remove_82 : decode cX5_remove 82 = .ok (.ireturn, 1) := by decide +kernel
set_option maxRecDepth 20000 in
theorem ggX5_makeOver_X5_isRow : GoodIn wsX5_makeOver wsX5_isRow := goodIn_r _ [6, 7, 8, 5, 9] (by decide +kernel) (by decide +kernel)
set_option maxRecDepth 20000 in
theorem gX5_makeOver_X5_isRow : GoodIn wsX5_makeOver (va_wsS RX5 85 yX5_isRow wsX5_isRow) := goodIn_app (goodIn_of _ (by decide +kernel)) ggX5_makeOver_X5_isRow
set_option maxRecDepth 20000 in
theorem ggX5_makeOver_X5_seasonOfRow : GoodIn wsX5_makeOver wsX5_seasonOfRow := goodIn_r _ [12] (by decide +kernel) (by decide +kernel)
set_option maxRecDepth 20000 in
theorem gX5_makeOver_X5_seasonOfRow : GoodIn wsX5_makeOver (va_wsS RX5 57 yX5_seasonOfRow wsX5_seasonOfRow) := goodIn_app (goodIn_of _ (by decide +kernel)) ggX5_makeOver_X5_seasonOfRow
set_option maxRecDepth 20000 in
theorem ggX5_makeOver_X5_losses : GoodIn wsX5_makeOver wsX5_losses := goodIn_r _ [15, 16, 17, 5, 18, 19, 20, 21, 10, 11, 12, 22, 23, 24, 25, 26, 27, 28, 29, 30, 31, 32, 33] (by decide +kernel) (by decide +kernel)
set_option maxRecDepth 20000 in
theorem gX5_makeOver_X5_losses : GoodIn wsX5_makeOver (va_wsS RX5 119 yX5_losses wsX5_losses) := goodIn_app (goodIn_of _ (by decide +kernel)) ggX5_makeOver_X5_losses
set_option maxRecDepth 20000 in
theorem ggX5_makeOver_X5_records : GoodIn wsX5_makeOver wsX5_records := goodIn_r _ [37, 38, 39, 1, 40, 41, 5, 42, 49, 50, 51, 52, 53, 54, 55, 56, 57, 58, 59, 60, 61, 62] (by decide +kernel) (by decide +kernel)
set_option maxRecDepth 20000 in
theorem gX5_makeOver_X5_records : GoodIn wsX5_makeOver (wsV RX5 50 RX5 yX5_records wsX5_records) := goodIn_app (goodIn_of _ (by decide +kernel)) ggX5_makeOver_X5_records
set_option maxRecDepth 20000 in
theorem ggX5_makeOver_X5_copies : GoodIn wsX5_makeOver wsX5_copies := goodIn_r _ [42] (by decide +kernel) (by decide +kernel)
set_option maxRecDepth 20000 in
theorem gX5_makeOver_X5_copies : GoodIn wsX5_makeOver (va_wsS RX5 42 yX5_copies wsX5_copies) := goodIn_app (goodIn_of _ (by decide +kernel)) ggX5_makeOver_X5_copies
set_option maxRecDepth 20000 in
theorem ggX5_makeOver_X5_kindOf : GoodIn wsX5_makeOver wsX5_kindOf := goodIn_r _ [24] (by decide +kernel) (by decide +kernel)
set_option maxRecDepth 20000 in
theorem gX5_makeOver_X5_kindOf : GoodIn wsX5_makeOver (va_wsS RX5 61 yX5_kindOf wsX5_kindOf) := goodIn_app (goodIn_of _ (by decide +kernel)) ggX5_makeOver_X5_kindOf
set_option maxRecDepth 20000 in
theorem ggX5_makeOver_X5_reads : GoodIn wsX5_makeOver wsX5_reads := goodIn_r _ [45, 19, 20, 5, 21, 10, 11, 12, 22, 23, 24, 46, 47, 48, 25, 26, 27, 31, 32, 33] (by decide +kernel) (by decide +kernel)
set_option maxRecDepth 20000 in
theorem gX5_makeOver_X5_reads : GoodIn wsX5_makeOver (va_wsS RX5 122 yX5_reads wsX5_reads) := goodIn_app (goodIn_of _ (by decide +kernel)) ggX5_makeOver_X5_reads
theorem dX5_makeOver_0 : decode cX5_makeOver 0 = .ok (.aload_n 0, 1) := by decide +kernel
theorem dX5_makeOver_1 : decode cX5_makeOver 1 = .ok (.getfield 7, 3) := by decide +kernel
theorem dX5_makeOver_4 : decode cX5_makeOver 4 = .ok (.iload_n 1, 1) := by decide +kernel
theorem dX5_makeOver_5 : decode cX5_makeOver 5 = .ok (.invokestatic 85, 3) := by decide +kernel
theorem dX5_makeOver_8 : decode cX5_makeOver 8 = .ok (.ifCond .eq 14, 3) := by decide +kernel
theorem dX5_makeOver_11 : decode cX5_makeOver 11 = .ok (.aload_n 0, 1) := by decide +kernel
theorem dX5_makeOver_12 : decode cX5_makeOver 12 = .ok (.getfield 7, 3) := by decide +kernel
theorem dX5_makeOver_15 : decode cX5_makeOver 15 = .ok (.iload_n 2, 1) := by decide +kernel
theorem dX5_makeOver_16 : decode cX5_makeOver 16 = .ok (.invokestatic 85, 3) := by decide +kernel
theorem dX5_makeOver_19 : decode cX5_makeOver 19 = .ok (.ifCond .ne 7, 3) := by decide +kernel
theorem dX5_makeOver_22 : decode cX5_makeOver 22 = .ok (.sipush (-10001), 3) := by decide +kernel
theorem dX5_makeOver_25 : decode cX5_makeOver 25 = .ok (.ireturn, 1) := by decide +kernel
theorem dX5_makeOver_26 : decode cX5_makeOver 26 = .ok (.iload_n 2, 1) := by decide +kernel
theorem dX5_makeOver_27 : decode cX5_makeOver 27 = .ok (.iload_n 1, 1) := by decide +kernel
theorem dX5_makeOver_28 : decode cX5_makeOver 28 = .ok (.if_icmp .ge 7, 3) := by decide +kernel
theorem dX5_makeOver_31 : decode cX5_makeOver 31 = .ok (.sipush (-10002), 3) := by decide +kernel
theorem dX5_makeOver_34 : decode cX5_makeOver 34 = .ok (.ireturn, 1) := by decide +kernel
theorem dX5_makeOver_35 : decode cX5_makeOver 35 = .ok (.aload_n 0, 1) := by decide +kernel
theorem dX5_makeOver_36 : decode cX5_makeOver 36 = .ok (.getfield 7, 3) := by decide +kernel
theorem dX5_makeOver_39 : decode cX5_makeOver 39 = .ok (.iconst 0, 1) := by decide +kernel
theorem dX5_makeOver_40 : decode cX5_makeOver 40 = .ok (.iaload, 1) := by decide +kernel
theorem dX5_makeOver_41 : decode cX5_makeOver 41 = .ok (.iconst 1, 1) := by decide +kernel
theorem dX5_makeOver_42 : decode cX5_makeOver 42 = .ok (.isub, 1) := by decide +kernel
theorem dX5_makeOver_43 : decode cX5_makeOver 43 = .ok (.istore_n 3, 1) := by decide +kernel
theorem dX5_makeOver_44 : decode cX5_makeOver 44 = .ok (.iconst 1, 1) := by decide +kernel
theorem dX5_makeOver_45 : decode cX5_makeOver 45 = .ok (.istore 4, 2) := by decide +kernel
theorem dX5_makeOver_47 : decode cX5_makeOver 47 = .ok (.iconst 0, 1) := by decide +kernel
theorem dX5_makeOver_48 : decode cX5_makeOver 48 = .ok (.istore 5, 2) := by decide +kernel
theorem dX5_makeOver_50 : decode cX5_makeOver 50 = .ok (.iload_n 1, 1) := by decide +kernel
theorem dX5_makeOver_51 : decode cX5_makeOver 51 = .ok (.istore 6, 2) := by decide +kernel
theorem dX5_makeOver_53 : decode cX5_makeOver 53 = .ok (.iload 6, 2) := by decide +kernel
theorem dX5_makeOver_55 : decode cX5_makeOver 55 = .ok (.iload_n 2, 1) := by decide +kernel
theorem dX5_makeOver_56 : decode cX5_makeOver 56 = .ok (.if_icmp .gt 49, 3) := by decide +kernel
theorem dX5_makeOver_59 : decode cX5_makeOver 59 = .ok (.iload 4, 2) := by decide +kernel
theorem dX5_makeOver_61 : decode cX5_makeOver 61 = .ok (.ifCond .eq 20, 3) := by decide +kernel
theorem dX5_makeOver_64 : decode cX5_makeOver 64 = .ok (.aload_n 0, 1) := by decide +kernel
theorem dX5_makeOver_65 : decode cX5_makeOver 65 = .ok (.getfield 7, 3) := by decide +kernel
theorem dX5_makeOver_68 : decode cX5_makeOver 68 = .ok (.iload 6, 2) := by decide +kernel
theorem dX5_makeOver_70 : decode cX5_makeOver 70 = .ok (.invokestatic 57, 3) := by decide +kernel
theorem dX5_makeOver_73 : decode cX5_makeOver 73 = .ok (.iload_n 3, 1) := by decide +kernel
theorem dX5_makeOver_74 : decode cX5_makeOver 74 = .ok (.if_icmp .ne 7, 3) := by decide +kernel
theorem dX5_makeOver_77 : decode cX5_makeOver 77 = .ok (.iconst 1, 1) := by decide +kernel
theorem dX5_makeOver_78 : decode cX5_makeOver 78 = .ok (.goto 4, 3) := by decide +kernel
theorem dX5_makeOver_81 : decode cX5_makeOver 81 = .ok (.iconst 0, 1) := by decide +kernel
theorem dX5_makeOver_82 : decode cX5_makeOver 82 = .ok (.istore 4, 2) := by decide +kernel
theorem dX5_makeOver_84 : decode cX5_makeOver 84 = .ok (.iload 5, 2) := by decide +kernel
theorem dX5_makeOver_86 : decode cX5_makeOver 86 = .ok (.aload_n 0, 1) := by decide +kernel
theorem dX5_makeOver_87 : decode cX5_makeOver 87 = .ok (.getfield 7, 3) := by decide +kernel
theorem dX5_makeOver_90 : decode cX5_makeOver 90 = .ok (.iload 6, 2) := by decide +kernel
theorem dX5_makeOver_92 : decode cX5_makeOver 92 = .ok (.iload_n 3, 1) := by decide +kernel
theorem dX5_makeOver_93 : decode cX5_makeOver 93 = .ok (.invokestatic 119, 3) := by decide +kernel
theorem dX5_makeOver_96 : decode cX5_makeOver 96 = .ok (.iadd, 1) := by decide +kernel
theorem dX5_makeOver_97 : decode cX5_makeOver 97 = .ok (.istore 5, 2) := by decide +kernel
theorem dX5_makeOver_99 : decode cX5_makeOver 99 = .ok (.iinc 6 1, 3) := by decide +kernel
theorem dX5_makeOver_102 : decode cX5_makeOver 102 = .ok (.goto (-49), 3) := by decide +kernel
theorem dX5_makeOver_105 : decode cX5_makeOver 105 = .ok (.iload 4, 2) := by decide +kernel
theorem dX5_makeOver_107 : decode cX5_makeOver 107 = .ok (.ifCond .eq 7, 3) := by decide +kernel
theorem dX5_makeOver_110 : decode cX5_makeOver 110 = .ok (.sipush (-10005), 3) := by decide +kernel
theorem dX5_makeOver_113 : decode cX5_makeOver 113 = .ok (.ireturn, 1) := by decide +kernel
theorem dX5_makeOver_114 : decode cX5_makeOver 114 = .ok (.aload_n 0, 1) := by decide +kernel
theorem dX5_makeOver_115 : decode cX5_makeOver 115 = .ok (.invokevirtual 50, 3) := by decide +kernel
theorem dX5_makeOver_118 : decode cX5_makeOver 118 = .ok (.aload_n 0, 1) := by decide +kernel
theorem dX5_makeOver_119 : decode cX5_makeOver 119 = .ok (.getfield 7, 3) := by decide +kernel
theorem dX5_makeOver_122 : decode cX5_makeOver 122 = .ok (.iconst 0, 1) := by decide +kernel
theorem dX5_makeOver_123 : decode cX5_makeOver 123 = .ok (.aload_n 0, 1) := by decide +kernel
theorem dX5_makeOver_124 : decode cX5_makeOver 124 = .ok (.getfield 13, 3) := by decide +kernel
theorem dX5_makeOver_127 : decode cX5_makeOver 127 = .ok (.iconst 0, 1) := by decide +kernel
theorem dX5_makeOver_128 : decode cX5_makeOver 128 = .ok (.invokestatic 42, 3) := by decide +kernel
theorem dX5_makeOver_131 : decode cX5_makeOver 131 = .ok (.iload_n 1, 1) := by decide +kernel
theorem dX5_makeOver_132 : decode cX5_makeOver 132 = .ok (.istore 6, 2) := by decide +kernel
theorem dX5_makeOver_134 : decode cX5_makeOver 134 = .ok (.iload 6, 2) := by decide +kernel
theorem dX5_makeOver_136 : decode cX5_makeOver 136 = .ok (.iload_n 2, 1) := by decide +kernel
theorem dX5_makeOver_137 : decode cX5_makeOver 137 = .ok (.if_icmp .gt 85, 3) := by decide +kernel
theorem dX5_makeOver_140 : decode cX5_makeOver 140 = .ok (.sipush 482, 3) := by decide +kernel
theorem dX5_makeOver_143 : decode cX5_makeOver 143 = .ok (.bipush 9, 2) := by decide +kernel
theorem dX5_makeOver_145 : decode cX5_makeOver 145 = .ok (.iload 6, 2) := by decide +kernel
theorem dX5_makeOver_147 : decode cX5_makeOver 147 = .ok (.imul, 1) := by decide +kernel
theorem dX5_makeOver_148 : decode cX5_makeOver 148 = .ok (.iadd, 1) := by decide +kernel
theorem dX5_makeOver_149 : decode cX5_makeOver 149 = .ok (.istore 7, 2) := by decide +kernel
theorem dX5_makeOver_151 : decode cX5_makeOver 151 = .ok (.aload_n 0, 1) := by decide +kernel
theorem dX5_makeOver_152 : decode cX5_makeOver 152 = .ok (.getfield 7, 3) := by decide +kernel
theorem dX5_makeOver_155 : decode cX5_makeOver 155 = .ok (.iload 7, 2) := by decide +kernel
theorem dX5_makeOver_157 : decode cX5_makeOver 157 = .ok (.iload_n 3, 1) := by decide +kernel
theorem dX5_makeOver_158 : decode cX5_makeOver 158 = .ok (.iastore, 1) := by decide +kernel
theorem dX5_makeOver_159 : decode cX5_makeOver 159 = .ok (.iconst 0, 1) := by decide +kernel
theorem dX5_makeOver_160 : decode cX5_makeOver 160 = .ok (.istore 8, 2) := by decide +kernel
theorem dX5_makeOver_162 : decode cX5_makeOver 162 = .ok (.iload 8, 2) := by decide +kernel
theorem dX5_makeOver_164 : decode cX5_makeOver 164 = .ok (.bipush 8, 2) := by decide +kernel
theorem dX5_makeOver_166 : decode cX5_makeOver 166 = .ok (.if_icmp .ge 50, 3) := by decide +kernel
theorem dX5_makeOver_169 : decode cX5_makeOver 169 = .ok (.aload_n 0, 1) := by decide +kernel
theorem dX5_makeOver_170 : decode cX5_makeOver 170 = .ok (.getfield 7, 3) := by decide +kernel
theorem dX5_makeOver_173 : decode cX5_makeOver 173 = .ok (.iload 7, 2) := by decide +kernel
theorem dX5_makeOver_175 : decode cX5_makeOver 175 = .ok (.iconst 1, 1) := by decide +kernel
theorem dX5_makeOver_176 : decode cX5_makeOver 176 = .ok (.iadd, 1) := by decide +kernel
theorem dX5_makeOver_177 : decode cX5_makeOver 177 = .ok (.iload 8, 2) := by decide +kernel
theorem dX5_makeOver_179 : decode cX5_makeOver 179 = .ok (.iadd, 1) := by decide +kernel
theorem dX5_makeOver_180 : decode cX5_makeOver 180 = .ok (.aload_n 0, 1) := by decide +kernel
theorem dX5_makeOver_181 : decode cX5_makeOver 181 = .ok (.getfield 13, 3) := by decide +kernel
theorem dX5_makeOver_184 : decode cX5_makeOver 184 = .ok (.iload_n 3, 1) := by decide +kernel
theorem dX5_makeOver_185 : decode cX5_makeOver 185 = .ok (.iload 8, 2) := by decide +kernel
theorem dX5_makeOver_187 : decode cX5_makeOver 187 = .ok (.invokestatic 61, 3) := by decide +kernel
theorem dX5_makeOver_190 : decode cX5_makeOver 190 = .ok (.ifCond .ge 7, 3) := by decide +kernel
theorem dX5_makeOver_193 : decode cX5_makeOver 193 = .ok (.iconst 0, 1) := by decide +kernel
theorem dX5_makeOver_194 : decode cX5_makeOver 194 = .ok (.goto 15, 3) := by decide +kernel
theorem dX5_makeOver_197 : decode cX5_makeOver 197 = .ok (.aload_n 0, 1) := by decide +kernel
theorem dX5_makeOver_198 : decode cX5_makeOver 198 = .ok (.getfield 13, 3) := by decide +kernel
theorem dX5_makeOver_201 : decode cX5_makeOver 201 = .ok (.iload 6, 2) := by decide +kernel
theorem dX5_makeOver_203 : decode cX5_makeOver 203 = .ok (.iload_n 3, 1) := by decide +kernel
theorem dX5_makeOver_204 : decode cX5_makeOver 204 = .ok (.iload 8, 2) := by decide +kernel
theorem dX5_makeOver_206 : decode cX5_makeOver 206 = .ok (.invokestatic 122, 3) := by decide +kernel
theorem dX5_makeOver_209 : decode cX5_makeOver 209 = .ok (.iastore, 1) := by decide +kernel
theorem dX5_makeOver_210 : decode cX5_makeOver 210 = .ok (.iinc 8 1, 3) := by decide +kernel
theorem dX5_makeOver_213 : decode cX5_makeOver 213 = .ok (.goto (-51), 3) := by decide +kernel
theorem dX5_makeOver_216 : decode cX5_makeOver 216 = .ok (.iinc 6 1, 3) := by decide +kernel
theorem dX5_makeOver_219 : decode cX5_makeOver 219 = .ok (.goto (-85), 3) := by decide +kernel
theorem dX5_makeOver_222 : decode cX5_makeOver 222 = .ok (.iload 5, 2) := by decide +kernel
theorem dX5_makeOver_224 : decode cX5_makeOver 224 = .ok (.ireturn, 1) := by decide +kernel
set_option maxRecDepth 20000 in
theorem ggX5_wearers_X5_seasonOfRow : GoodIn wsX5_wearers wsX5_seasonOfRow := goodIn_r _ [5] (by decide +kernel) (by decide +kernel)
set_option maxRecDepth 20000 in
theorem gX5_wearers_X5_seasonOfRow : GoodIn wsX5_wearers (va_wsS RX5 57 yX5_seasonOfRow wsX5_seasonOfRow) := goodIn_app (goodIn_of _ (by decide +kernel)) ggX5_wearers_X5_seasonOfRow
theorem dX5_wearers_0 : decode cX5_wearers 0 = .ok (.iconst 0, 1) := by decide +kernel
theorem dX5_wearers_1 : decode cX5_wearers 1 = .ok (.istore_n 2, 1) := by decide +kernel
theorem dX5_wearers_2 : decode cX5_wearers 2 = .ok (.iconst 0, 1) := by decide +kernel
theorem dX5_wearers_3 : decode cX5_wearers 3 = .ok (.istore_n 3, 1) := by decide +kernel
theorem dX5_wearers_4 : decode cX5_wearers 4 = .ok (.iload_n 3, 1) := by decide +kernel
theorem dX5_wearers_5 : decode cX5_wearers 5 = .ok (.aload_n 0, 1) := by decide +kernel
theorem dX5_wearers_6 : decode cX5_wearers 6 = .ok (.getfield 7, 3) := by decide +kernel
theorem dX5_wearers_9 : decode cX5_wearers 9 = .ok (.iconst 1, 1) := by decide +kernel
theorem dX5_wearers_10 : decode cX5_wearers 10 = .ok (.iaload, 1) := by decide +kernel
theorem dX5_wearers_11 : decode cX5_wearers 11 = .ok (.if_icmp .ge 29, 3) := by decide +kernel
theorem dX5_wearers_14 : decode cX5_wearers 14 = .ok (.iload_n 2, 1) := by decide +kernel
theorem dX5_wearers_15 : decode cX5_wearers 15 = .ok (.aload_n 0, 1) := by decide +kernel
theorem dX5_wearers_16 : decode cX5_wearers 16 = .ok (.getfield 7, 3) := by decide +kernel
theorem dX5_wearers_19 : decode cX5_wearers 19 = .ok (.iload_n 3, 1) := by decide +kernel
theorem dX5_wearers_20 : decode cX5_wearers 20 = .ok (.invokestatic 57, 3) := by decide +kernel
theorem dX5_wearers_23 : decode cX5_wearers 23 = .ok (.iload_n 1, 1) := by decide +kernel
theorem dX5_wearers_24 : decode cX5_wearers 24 = .ok (.if_icmp .ne 7, 3) := by decide +kernel
theorem dX5_wearers_27 : decode cX5_wearers 27 = .ok (.iconst 1, 1) := by decide +kernel
theorem dX5_wearers_28 : decode cX5_wearers 28 = .ok (.goto 4, 3) := by decide +kernel
theorem dX5_wearers_31 : decode cX5_wearers 31 = .ok (.iconst 0, 1) := by decide +kernel
theorem dX5_wearers_32 : decode cX5_wearers 32 = .ok (.iadd, 1) := by decide +kernel
theorem dX5_wearers_33 : decode cX5_wearers 33 = .ok (.istore_n 2, 1) := by decide +kernel
theorem dX5_wearers_34 : decode cX5_wearers 34 = .ok (.iinc 3 1, 3) := by decide +kernel
theorem dX5_wearers_37 : decode cX5_wearers 37 = .ok (.goto (-33), 3) := by decide +kernel
theorem dX5_wearers_40 : decode cX5_wearers 40 = .ok (.iload_n 2, 1) := by decide +kernel
theorem dX5_wearers_41 : decode cX5_wearers 41 = .ok (.ireturn, 1) := by decide +kernel
set_option maxRecDepth 20000 in
theorem ggX5_forget_X5_wearers : GoodIn wsX5_forget wsX5_wearers := goodIn_r _ [6, 1, 7, 8, 5, 9, 19, 20, 21, 22, 23, 24, 25, 26, 27, 28, 29, 30, 31, 32] (by decide +kernel) (by decide +kernel)
set_option maxRecDepth 20000 in
theorem gX5_forget_X5_wearers : GoodIn wsX5_forget (wsV RX5 125 RX5 yX5_wearers wsX5_wearers) := goodIn_app (goodIn_of _ (by decide +kernel)) ggX5_forget_X5_wearers
set_option maxRecDepth 20000 in
theorem ggX5_forget_X5_records : GoodIn wsX5_forget wsX5_records := goodIn_r _ [13, 14, 15, 1, 16, 17, 5, 18, 19, 20, 21, 22, 23, 24, 25, 26, 27, 28, 29, 30, 31, 32] (by decide +kernel) (by decide +kernel)
set_option maxRecDepth 20000 in
theorem gX5_forget_X5_records : GoodIn wsX5_forget (wsV RX5 50 RX5 yX5_records wsX5_records) := goodIn_app (goodIn_of _ (by decide +kernel)) ggX5_forget_X5_records
theorem dX5_forget_0 : decode cX5_forget 0 = .ok (.iconst 0, 1) := by decide +kernel
theorem dX5_forget_1 : decode cX5_forget 1 = .ok (.istore_n 1, 1) := by decide +kernel
theorem dX5_forget_2 : decode cX5_forget 2 = .ok (.iload_n 1, 1) := by decide +kernel
theorem dX5_forget_3 : decode cX5_forget 3 = .ok (.aload_n 0, 1) := by decide +kernel
theorem dX5_forget_4 : decode cX5_forget 4 = .ok (.getfield 7, 3) := by decide +kernel
theorem dX5_forget_7 : decode cX5_forget 7 = .ok (.iconst 0, 1) := by decide +kernel
theorem dX5_forget_8 : decode cX5_forget 8 = .ok (.iaload, 1) := by decide +kernel
theorem dX5_forget_9 : decode cX5_forget 9 = .ok (.iconst 1, 1) := by decide +kernel
theorem dX5_forget_10 : decode cX5_forget 10 = .ok (.isub, 1) := by decide +kernel
theorem dX5_forget_11 : decode cX5_forget 11 = .ok (.if_icmp .ge 17, 3) := by decide +kernel
theorem dX5_forget_14 : decode cX5_forget 14 = .ok (.aload_n 0, 1) := by decide +kernel
theorem dX5_forget_15 : decode cX5_forget 15 = .ok (.iload_n 1, 1) := by decide +kernel
theorem dX5_forget_16 : decode cX5_forget 16 = .ok (.invokevirtual 125, 3) := by decide +kernel
theorem dX5_forget_19 : decode cX5_forget 19 = .ok (.ifCond .ne 9, 3) := by decide +kernel
theorem dX5_forget_22 : decode cX5_forget 22 = .ok (.iinc 1 1, 3) := by decide +kernel
theorem dX5_forget_25 : decode cX5_forget 25 = .ok (.goto (-23), 3) := by decide +kernel
theorem dX5_forget_28 : decode cX5_forget 28 = .ok (.iload_n 1, 1) := by decide +kernel
theorem dX5_forget_29 : decode cX5_forget 29 = .ok (.ifCond .ne 7, 3) := by decide +kernel
theorem dX5_forget_32 : decode cX5_forget 32 = .ok (.sipush (-10005), 3) := by decide +kernel
theorem dX5_forget_35 : decode cX5_forget 35 = .ok (.ireturn, 1) := by decide +kernel
theorem dX5_forget_36 : decode cX5_forget 36 = .ok (.aload_n 0, 1) := by decide +kernel
theorem dX5_forget_37 : decode cX5_forget 37 = .ok (.invokevirtual 50, 3) := by decide +kernel
theorem dX5_forget_40 : decode cX5_forget 40 = .ok (.aload_n 0, 1) := by decide +kernel
theorem dX5_forget_41 : decode cX5_forget 41 = .ok (.getfield 7, 3) := by decide +kernel
theorem dX5_forget_44 : decode cX5_forget 44 = .ok (.iconst 0, 1) := by decide +kernel
theorem dX5_forget_45 : decode cX5_forget 45 = .ok (.dup2, 1) := by decide +kernel
theorem dX5_forget_46 : decode cX5_forget 46 = .ok (.iaload, 1) := by decide +kernel
theorem dX5_forget_47 : decode cX5_forget 47 = .ok (.iload_n 1, 1) := by decide +kernel
theorem dX5_forget_48 : decode cX5_forget 48 = .ok (.isub, 1) := by decide +kernel
theorem dX5_forget_49 : decode cX5_forget 49 = .ok (.iastore, 1) := by decide +kernel
theorem dX5_forget_50 : decode cX5_forget 50 = .ok (.iconst 2, 1) := by decide +kernel
theorem dX5_forget_51 : decode cX5_forget 51 = .ok (.istore_n 2, 1) := by decide +kernel
theorem dX5_forget_52 : decode cX5_forget 52 = .ok (.iload_n 2, 1) := by decide +kernel
theorem dX5_forget_53 : decode cX5_forget 53 = .ok (.iconst 2, 1) := by decide +kernel
theorem dX5_forget_54 : decode cX5_forget 54 = .ok (.bipush 16, 2) := by decide +kernel
theorem dX5_forget_56 : decode cX5_forget 56 = .ok (.aload_n 0, 1) := by decide +kernel
theorem dX5_forget_57 : decode cX5_forget 57 = .ok (.getfield 7, 3) := by decide +kernel
theorem dX5_forget_60 : decode cX5_forget 60 = .ok (.iconst 0, 1) := by decide +kernel
theorem dX5_forget_61 : decode cX5_forget 61 = .ok (.iaload, 1) := by decide +kernel
theorem dX5_forget_62 : decode cX5_forget 62 = .ok (.imul, 1) := by decide +kernel
theorem dX5_forget_63 : decode cX5_forget 63 = .ok (.iadd, 1) := by decide +kernel
theorem dX5_forget_64 : decode cX5_forget 64 = .ok (.if_icmp .ge 26, 3) := by decide +kernel
theorem dX5_forget_67 : decode cX5_forget 67 = .ok (.aload_n 0, 1) := by decide +kernel
theorem dX5_forget_68 : decode cX5_forget 68 = .ok (.getfield 7, 3) := by decide +kernel
theorem dX5_forget_71 : decode cX5_forget 71 = .ok (.iload_n 2, 1) := by decide +kernel
theorem dX5_forget_72 : decode cX5_forget 72 = .ok (.aload_n 0, 1) := by decide +kernel
theorem dX5_forget_73 : decode cX5_forget 73 = .ok (.getfield 7, 3) := by decide +kernel
theorem dX5_forget_76 : decode cX5_forget 76 = .ok (.iload_n 2, 1) := by decide +kernel
theorem dX5_forget_77 : decode cX5_forget 77 = .ok (.bipush 16, 2) := by decide +kernel
theorem dX5_forget_79 : decode cX5_forget 79 = .ok (.iload_n 1, 1) := by decide +kernel
theorem dX5_forget_80 : decode cX5_forget 80 = .ok (.imul, 1) := by decide +kernel
theorem dX5_forget_81 : decode cX5_forget 81 = .ok (.iadd, 1) := by decide +kernel
theorem dX5_forget_82 : decode cX5_forget 82 = .ok (.iaload, 1) := by decide +kernel
theorem dX5_forget_83 : decode cX5_forget 83 = .ok (.iastore, 1) := by decide +kernel
theorem dX5_forget_84 : decode cX5_forget 84 = .ok (.iinc 2 1, 3) := by decide +kernel
theorem dX5_forget_87 : decode cX5_forget 87 = .ok (.goto (-35), 3) := by decide +kernel
theorem dX5_forget_90 : decode cX5_forget 90 = .ok (.iconst 0, 1) := by decide +kernel
theorem dX5_forget_91 : decode cX5_forget 91 = .ok (.istore_n 2, 1) := by decide +kernel
theorem dX5_forget_92 : decode cX5_forget 92 = .ok (.iload_n 2, 1) := by decide +kernel
theorem dX5_forget_93 : decode cX5_forget 93 = .ok (.aload_n 0, 1) := by decide +kernel
theorem dX5_forget_94 : decode cX5_forget 94 = .ok (.getfield 7, 3) := by decide +kernel
theorem dX5_forget_97 : decode cX5_forget 97 = .ok (.iconst 1, 1) := by decide +kernel
theorem dX5_forget_98 : decode cX5_forget 98 = .ok (.iaload, 1) := by decide +kernel
theorem dX5_forget_99 : decode cX5_forget 99 = .ok (.if_icmp .ge 26, 3) := by decide +kernel
theorem dX5_forget_102 : decode cX5_forget 102 = .ok (.aload_n 0, 1) := by decide +kernel
theorem dX5_forget_103 : decode cX5_forget 103 = .ok (.getfield 7, 3) := by decide +kernel
theorem dX5_forget_106 : decode cX5_forget 106 = .ok (.sipush 482, 3) := by decide +kernel
theorem dX5_forget_109 : decode cX5_forget 109 = .ok (.bipush 9, 2) := by decide +kernel
theorem dX5_forget_111 : decode cX5_forget 111 = .ok (.iload_n 2, 1) := by decide +kernel
theorem dX5_forget_112 : decode cX5_forget 112 = .ok (.imul, 1) := by decide +kernel
theorem dX5_forget_113 : decode cX5_forget 113 = .ok (.iadd, 1) := by decide +kernel
theorem dX5_forget_114 : decode cX5_forget 114 = .ok (.dup2, 1) := by decide +kernel
theorem dX5_forget_115 : decode cX5_forget 115 = .ok (.iaload, 1) := by decide +kernel
theorem dX5_forget_116 : decode cX5_forget 116 = .ok (.iload_n 1, 1) := by decide +kernel
theorem dX5_forget_117 : decode cX5_forget 117 = .ok (.isub, 1) := by decide +kernel
theorem dX5_forget_118 : decode cX5_forget 118 = .ok (.iastore, 1) := by decide +kernel
theorem dX5_forget_119 : decode cX5_forget 119 = .ok (.iinc 2 1, 3) := by decide +kernel
theorem dX5_forget_122 : decode cX5_forget 122 = .ok (.goto (-30), 3) := by decide +kernel
theorem dX5_forget_125 : decode cX5_forget 125 = .ok (.iload_n 1, 1) := by decide +kernel
theorem dX5_forget_126 : decode cX5_forget 126 = .ok (.ireturn, 1) := by decide +kernel
theorem dX5_type_0 : decode cX5_type 0 = .ok (.aload_n 0, 1) := by decide +kernel
theorem dX5_type_1 : decode cX5_type 1 = .ok (.getfield 128, 3) := by decide +kernel
theorem dX5_type_4 : decode cX5_type 4 = .ok (.bipush 80, 2) := by decide +kernel
theorem dX5_type_6 : decode cX5_type 6 = .ok (.if_icmp .ne 7, 3) := by decide +kernel
theorem dX5_type_9 : decode cX5_type 9 = .ok (.sipush (-10003), 3) := by decide +kernel
theorem dX5_type_12 : decode cX5_type 12 = .ok (.ireturn, 1) := by decide +kernel
theorem dX5_type_13 : decode cX5_type 13 = .ok (.aload_n 0, 1) := by decide +kernel
theorem dX5_type_14 : decode cX5_type 14 = .ok (.getfield 22, 3) := by decide +kernel
theorem dX5_type_17 : decode cX5_type 17 = .ok (.aload_n 0, 1) := by decide +kernel
theorem dX5_type_18 : decode cX5_type 18 = .ok (.getfield 128, 3) := by decide +kernel
theorem dX5_type_21 : decode cX5_type 21 = .ok (.iload_n 1, 1) := by decide +kernel
theorem dX5_type_22 : decode cX5_type 22 = .ok (.iastore, 1) := by decide +kernel
theorem dX5_type_23 : decode cX5_type 23 = .ok (.aload_n 0, 1) := by decide +kernel
theorem dX5_type_24 : decode cX5_type 24 = .ok (.dup, 1) := by decide +kernel
theorem dX5_type_25 : decode cX5_type 25 = .ok (.getfield 128, 3) := by decide +kernel
theorem dX5_type_28 : decode cX5_type 28 = .ok (.iconst 1, 1) := by decide +kernel
theorem dX5_type_29 : decode cX5_type 29 = .ok (.iadd, 1) := by decide +kernel
theorem dX5_type_30 : decode cX5_type 30 = .ok (.putfield 128, 3) := by decide +kernel
theorem dX5_type_33 : decode cX5_type 33 = .ok (.aload_n 0, 1) := by decide +kernel
theorem dX5_type_34 : decode cX5_type 34 = .ok (.getfield 128, 3) := by decide +kernel
theorem dX5_type_37 : decode cX5_type 37 = .ok (.ireturn, 1) := by decide +kernel
theorem dX5_clearText_0 : decode cX5_clearText 0 = .ok (.aload_n 0, 1) := by decide +kernel
theorem dX5_clearText_1 : decode cX5_clearText 1 = .ok (.getfield 128, 3) := by decide +kernel
theorem dX5_clearText_4 : decode cX5_clearText 4 = .ok (.istore_n 1, 1) := by decide +kernel
theorem dX5_clearText_5 : decode cX5_clearText 5 = .ok (.aload_n 0, 1) := by decide +kernel
theorem dX5_clearText_6 : decode cX5_clearText 6 = .ok (.iconst 0, 1) := by decide +kernel
theorem dX5_clearText_7 : decode cX5_clearText 7 = .ok (.putfield 128, 3) := by decide +kernel
theorem dX5_clearText_10 : decode cX5_clearText 10 = .ok (.iload_n 1, 1) := by decide +kernel
theorem dX5_clearText_11 : decode cX5_clearText 11 = .ok (.ireturn, 1) := by decide +kernel
set_option maxRecDepth 20000 in
theorem ggX5_isAt_X5_in : GoodIn wsX5_isAt wsX5_in := goodIn_r _ [7] (by decide +kernel) (by decide +kernel)
set_option maxRecDepth 20000 in
theorem gX5_isAt_X5_in : GoodIn wsX5_isAt (va_wsS RX5 35 yX5_in wsX5_in) := goodIn_app (goodIn_of _ (by decide +kernel)) ggX5_isAt_X5_in
theorem dX5_isAt_0 : decode cX5_isAt 0 = .ok (.aload_n 0, 1) := by decide +kernel
theorem dX5_isAt_1 : decode cX5_isAt 1 = .ok (.getfield 131, 3) := by decide +kernel
theorem dX5_isAt_4 : decode cX5_isAt 4 = .ok (.aload_n 0, 1) := by decide +kernel
theorem dX5_isAt_5 : decode cX5_isAt 5 = .ok (.getfield 128, 3) := by decide +kernel
theorem dX5_isAt_8 : decode cX5_isAt 8 = .ok (.if_icmp .ge 24, 3) := by decide +kernel
theorem dX5_isAt_11 : decode cX5_isAt 11 = .ok (.aload_n 0, 1) := by decide +kernel
theorem dX5_isAt_12 : decode cX5_isAt 12 = .ok (.getfield 22, 3) := by decide +kernel
theorem dX5_isAt_15 : decode cX5_isAt 15 = .ok (.aload_n 0, 1) := by decide +kernel
theorem dX5_isAt_16 : decode cX5_isAt 16 = .ok (.getfield 131, 3) := by decide +kernel
theorem dX5_isAt_19 : decode cX5_isAt 19 = .ok (.iaload, 1) := by decide +kernel
theorem dX5_isAt_20 : decode cX5_isAt 20 = .ok (.iload_n 1, 1) := by decide +kernel
theorem dX5_isAt_21 : decode cX5_isAt 21 = .ok (.iload_n 2, 1) := by decide +kernel
theorem dX5_isAt_22 : decode cX5_isAt 22 = .ok (.invokestatic 35, 3) := by decide +kernel
theorem dX5_isAt_25 : decode cX5_isAt 25 = .ok (.ifCond .eq 7, 3) := by decide +kernel
theorem dX5_isAt_28 : decode cX5_isAt 28 = .ok (.iconst 1, 1) := by decide +kernel
theorem dX5_isAt_29 : decode cX5_isAt 29 = .ok (.goto 4, 3) := by decide +kernel
theorem dX5_isAt_32 : decode cX5_isAt 32 = .ok (.iconst 0, 1) := by decide +kernel
theorem dX5_isAt_33 : decode cX5_isAt 33 = .ok (.ireturn, 1) := by decide +kernel
set_option maxRecDepth 20000 in
theorem ggX5_sign_X5_isAt : GoodIn wsX5_sign wsX5_isAt := goodIn_r _ [6, 1, 7, 8, 9, 10, 5, 11, 12, 13, 14, 15, 16, 17, 18, 19, 20, 21, 22, 23, 24, 25] (by decide +kernel) (by decide +kernel)
set_option maxRecDepth 20000 in
theorem gX5_sign_X5_isAt : GoodIn wsX5_sign (wsV RX5 134 RX5 yX5_isAt wsX5_isAt) := goodIn_app (goodIn_of _ (by decide +kernel)) ggX5_sign_X5_isAt
theorem dX5_sign_0 : decode cX5_sign 0 = .ok (.aload_n 0, 1) := by decide +kernel
theorem dX5_sign_1 : decode cX5_sign 1 = .ok (.iload_n 1, 1) := by decide +kernel
theorem dX5_sign_2 : decode cX5_sign 2 = .ok (.iload_n 1, 1) := by decide +kernel
theorem dX5_sign_3 : decode cX5_sign 3 = .ok (.invokevirtual 134, 3) := by decide +kernel
theorem dX5_sign_6 : decode cX5_sign 6 = .ok (.istore_n 2, 1) := by decide +kernel
theorem dX5_sign_7 : decode cX5_sign 7 = .ok (.aload_n 0, 1) := by decide +kernel
theorem dX5_sign_8 : decode cX5_sign 8 = .ok (.dup, 1) := by decide +kernel
theorem dX5_sign_9 : decode cX5_sign 9 = .ok (.getfield 131, 3) := by decide +kernel
theorem dX5_sign_12 : decode cX5_sign 12 = .ok (.iload_n 2, 1) := by decide +kernel
theorem dX5_sign_13 : decode cX5_sign 13 = .ok (.ifCond .eq 7, 3) := by decide +kernel
theorem dX5_sign_16 : decode cX5_sign 16 = .ok (.iconst 1, 1) := by decide +kernel
theorem dX5_sign_17 : decode cX5_sign 17 = .ok (.goto 4, 3) := by decide +kernel
theorem dX5_sign_20 : decode cX5_sign 20 = .ok (.iconst 0, 1) := by decide +kernel
theorem dX5_sign_21 : decode cX5_sign 21 = .ok (.iadd, 1) := by decide +kernel
theorem dX5_sign_22 : decode cX5_sign 22 = .ok (.putfield 131, 3) := by decide +kernel
theorem dX5_sign_25 : decode cX5_sign 25 = .ok (.iload_n 2, 1) := by decide +kernel
theorem dX5_sign_26 : decode cX5_sign 26 = .ok (.ireturn, 1) := by decide +kernel
set_option maxRecDepth 20000 in
theorem ggX5_isNumber_X5_sign : GoodIn wsX5_isNumber wsX5_sign := goodIn_r _ [8, 2, 9, 10, 11, 7, 12, 13, 1, 14, 15, 16, 17, 18, 19, 20, 21, 22, 23, 24, 25, 26, 27, 28, 29, 30] (by decide +kernel) (by decide +kernel)
set_option maxRecDepth 20000 in
theorem gX5_isNumber_X5_sign : GoodIn wsX5_isNumber (wsV RX5 138 RX5 yX5_sign wsX5_sign) := goodIn_app (goodIn_of _ (by decide +kernel)) ggX5_isNumber_X5_sign
set_option maxRecDepth 20000 in
theorem ggX5_isNumber_X5_isAt : GoodIn wsX5_isNumber wsX5_isAt := goodIn_r _ [12, 2, 13, 1, 14, 15, 7, 16, 17, 18, 19, 20, 21, 22, 23, 24, 25, 26, 27, 28, 29, 30] (by decide +kernel) (by decide +kernel)
set_option maxRecDepth 20000 in
theorem gX5_isNumber_X5_isAt : GoodIn wsX5_isNumber (wsV RX5 134 RX5 yX5_isAt wsX5_isAt) := goodIn_app (goodIn_of _ (by decide +kernel)) ggX5_isNumber_X5_isAt
theorem dX5_isNumber_0 : decode cX5_isNumber 0 = .ok (.iload_n 1, 1) := by decide +kernel
theorem dX5_isNumber_1 : decode cX5_isNumber 1 = .ok (.ifCond .ge 16, 3) := by decide +kernel
theorem dX5_isNumber_4 : decode cX5_isNumber 4 = .ok (.aload_n 0, 1) := by decide +kernel
theorem dX5_isNumber_5 : decode cX5_isNumber 5 = .ok (.bipush 45, 2) := by decide +kernel
theorem dX5_isNumber_7 : decode cX5_isNumber 7 = .ok (.invokevirtual 138, 3) := by decide +kernel
theorem dX5_isNumber_10 : decode cX5_isNumber 10 = .ok (.ifCond .eq 7, 3) := by decide +kernel
theorem dX5_isNumber_13 : decode cX5_isNumber 13 = .ok (.iconst 1, 1) := by decide +kernel
theorem dX5_isNumber_14 : decode cX5_isNumber 14 = .ok (.goto 4, 3) := by decide +kernel
theorem dX5_isNumber_17 : decode cX5_isNumber 17 = .ok (.iconst 0, 1) := by decide +kernel
theorem dX5_isNumber_18 : decode cX5_isNumber 18 = .ok (.istore_n 3, 1) := by decide +kernel
theorem dX5_isNumber_19 : decode cX5_isNumber 19 = .ok (.aload_n 0, 1) := by decide +kernel
theorem dX5_isNumber_20 : decode cX5_isNumber 20 = .ok (.iload_n 3, 1) := by decide +kernel
theorem dX5_isNumber_21 : decode cX5_isNumber 21 = .ok (.ifCond .eq 8, 3) := by decide +kernel
theorem dX5_isNumber_24 : decode cX5_isNumber 24 = .ok (.bipush 49, 2) := by decide +kernel
theorem dX5_isNumber_26 : decode cX5_isNumber 26 = .ok (.goto 5, 3) := by decide +kernel
theorem dX5_isNumber_29 : decode cX5_isNumber 29 = .ok (.bipush 48, 2) := by decide +kernel
theorem dX5_isNumber_31 : decode cX5_isNumber 31 = .ok (.bipush 57, 2) := by decide +kernel
theorem dX5_isNumber_33 : decode cX5_isNumber 33 = .ok (.invokevirtual 134, 3) := by decide +kernel
theorem dX5_isNumber_36 : decode cX5_isNumber 36 = .ok (.ifCond .eq 19, 3) := by decide +kernel
theorem dX5_isNumber_39 : decode cX5_isNumber 39 = .ok (.aload_n 0, 1) := by decide +kernel
theorem dX5_isNumber_40 : decode cX5_isNumber 40 = .ok (.getfield 22, 3) := by decide +kernel
theorem dX5_isNumber_43 : decode cX5_isNumber 43 = .ok (.aload_n 0, 1) := by decide +kernel
theorem dX5_isNumber_44 : decode cX5_isNumber 44 = .ok (.getfield 131, 3) := by decide +kernel
theorem dX5_isNumber_47 : decode cX5_isNumber 47 = .ok (.iaload, 1) := by decide +kernel
theorem dX5_isNumber_48 : decode cX5_isNumber 48 = .ok (.bipush 48, 2) := by decide +kernel
theorem dX5_isNumber_50 : decode cX5_isNumber 50 = .ok (.isub, 1) := by decide +kernel
theorem dX5_isNumber_51 : decode cX5_isNumber 51 = .ok (.iload_n 2, 1) := by decide +kernel
theorem dX5_isNumber_52 : decode cX5_isNumber 52 = .ok (.if_icmp .le 5, 3) := by decide +kernel
theorem dX5_isNumber_55 : decode cX5_isNumber 55 = .ok (.iconst 0, 1) := by decide +kernel
theorem dX5_isNumber_56 : decode cX5_isNumber 56 = .ok (.ireturn, 1) := by decide +kernel
theorem dX5_isNumber_57 : decode cX5_isNumber 57 = .ok (.aload_n 0, 1) := by decide +kernel
theorem dX5_isNumber_58 : decode cX5_isNumber 58 = .ok (.aload_n 0, 1) := by decide +kernel
theorem dX5_isNumber_59 : decode cX5_isNumber 59 = .ok (.getfield 22, 3) := by decide +kernel
theorem dX5_isNumber_62 : decode cX5_isNumber 62 = .ok (.aload_n 0, 1) := by decide +kernel
theorem dX5_isNumber_63 : decode cX5_isNumber 63 = .ok (.getfield 131, 3) := by decide +kernel
theorem dX5_isNumber_66 : decode cX5_isNumber 66 = .ok (.iaload, 1) := by decide +kernel
theorem dX5_isNumber_67 : decode cX5_isNumber 67 = .ok (.bipush 48, 2) := by decide +kernel
theorem dX5_isNumber_69 : decode cX5_isNumber 69 = .ok (.isub, 1) := by decide +kernel
theorem dX5_isNumber_70 : decode cX5_isNumber 70 = .ok (.putfield 141, 3) := by decide +kernel
theorem dX5_isNumber_73 : decode cX5_isNumber 73 = .ok (.aload_n 0, 1) := by decide +kernel
theorem dX5_isNumber_74 : decode cX5_isNumber 74 = .ok (.dup, 1) := by decide +kernel
theorem dX5_isNumber_75 : decode cX5_isNumber 75 = .ok (.getfield 131, 3) := by decide +kernel
theorem dX5_isNumber_78 : decode cX5_isNumber 78 = .ok (.iconst 1, 1) := by decide +kernel
theorem dX5_isNumber_79 : decode cX5_isNumber 79 = .ok (.iadd, 1) := by decide +kernel
theorem dX5_isNumber_80 : decode cX5_isNumber 80 = .ok (.putfield 131, 3) := by decide +kernel
theorem dX5_isNumber_83 : decode cX5_isNumber 83 = .ok (.aload_n 0, 1) := by decide +kernel
theorem dX5_isNumber_84 : decode cX5_isNumber 84 = .ok (.getfield 141, 3) := by decide +kernel
theorem dX5_isNumber_87 : decode cX5_isNumber 87 = .ok (.ifCond .le 75, 3) := by decide +kernel
theorem dX5_isNumber_90 : decode cX5_isNumber 90 = .ok (.aload_n 0, 1) := by decide +kernel
theorem dX5_isNumber_91 : decode cX5_isNumber 91 = .ok (.bipush 48, 2) := by decide +kernel
theorem dX5_isNumber_93 : decode cX5_isNumber 93 = .ok (.bipush 57, 2) := by decide +kernel
theorem dX5_isNumber_95 : decode cX5_isNumber 95 = .ok (.invokevirtual 134, 3) := by decide +kernel
theorem dX5_isNumber_98 : decode cX5_isNumber 98 = .ok (.ifCond .eq 64, 3) := by decide +kernel
theorem dX5_isNumber_101 : decode cX5_isNumber 101 = .ok (.bipush 10, 2) := by decide +kernel
theorem dX5_isNumber_103 : decode cX5_isNumber 103 = .ok (.aload_n 0, 1) := by decide +kernel
theorem dX5_isNumber_104 : decode cX5_isNumber 104 = .ok (.getfield 141, 3) := by decide +kernel
theorem dX5_isNumber_107 : decode cX5_isNumber 107 = .ok (.imul, 1) := by decide +kernel
theorem dX5_isNumber_108 : decode cX5_isNumber 108 = .ok (.aload_n 0, 1) := by decide +kernel
theorem dX5_isNumber_109 : decode cX5_isNumber 109 = .ok (.getfield 22, 3) := by decide +kernel
theorem dX5_isNumber_112 : decode cX5_isNumber 112 = .ok (.aload_n 0, 1) := by decide +kernel
theorem dX5_isNumber_113 : decode cX5_isNumber 113 = .ok (.getfield 131, 3) := by decide +kernel
theorem dX5_isNumber_116 : decode cX5_isNumber 116 = .ok (.iaload, 1) := by decide +kernel
theorem dX5_isNumber_117 : decode cX5_isNumber 117 = .ok (.iadd, 1) := by decide +kernel
theorem dX5_isNumber_118 : decode cX5_isNumber 118 = .ok (.bipush 48, 2) := by decide +kernel
theorem dX5_isNumber_120 : decode cX5_isNumber 120 = .ok (.isub, 1) := by decide +kernel
theorem dX5_isNumber_121 : decode cX5_isNumber 121 = .ok (.iload_n 2, 1) := by decide +kernel
theorem dX5_isNumber_122 : decode cX5_isNumber 122 = .ok (.if_icmp .gt 40, 3) := by decide +kernel
theorem dX5_isNumber_125 : decode cX5_isNumber 125 = .ok (.aload_n 0, 1) := by decide +kernel
theorem dX5_isNumber_126 : decode cX5_isNumber 126 = .ok (.bipush 10, 2) := by decide +kernel
theorem dX5_isNumber_128 : decode cX5_isNumber 128 = .ok (.aload_n 0, 1) := by decide +kernel
theorem dX5_isNumber_129 : decode cX5_isNumber 129 = .ok (.getfield 141, 3) := by decide +kernel
theorem dX5_isNumber_132 : decode cX5_isNumber 132 = .ok (.imul, 1) := by decide +kernel
theorem dX5_isNumber_133 : decode cX5_isNumber 133 = .ok (.aload_n 0, 1) := by decide +kernel
theorem dX5_isNumber_134 : decode cX5_isNumber 134 = .ok (.getfield 22, 3) := by decide +kernel
theorem dX5_isNumber_137 : decode cX5_isNumber 137 = .ok (.aload_n 0, 1) := by decide +kernel
theorem dX5_isNumber_138 : decode cX5_isNumber 138 = .ok (.getfield 131, 3) := by decide +kernel
theorem dX5_isNumber_141 : decode cX5_isNumber 141 = .ok (.iaload, 1) := by decide +kernel
theorem dX5_isNumber_142 : decode cX5_isNumber 142 = .ok (.iadd, 1) := by decide +kernel
theorem dX5_isNumber_143 : decode cX5_isNumber 143 = .ok (.bipush 48, 2) := by decide +kernel
theorem dX5_isNumber_145 : decode cX5_isNumber 145 = .ok (.isub, 1) := by decide +kernel
theorem dX5_isNumber_146 : decode cX5_isNumber 146 = .ok (.putfield 141, 3) := by decide +kernel
theorem dX5_isNumber_149 : decode cX5_isNumber 149 = .ok (.aload_n 0, 1) := by decide +kernel
theorem dX5_isNumber_150 : decode cX5_isNumber 150 = .ok (.dup, 1) := by decide +kernel
theorem dX5_isNumber_151 : decode cX5_isNumber 151 = .ok (.getfield 131, 3) := by decide +kernel
theorem dX5_isNumber_154 : decode cX5_isNumber 154 = .ok (.iconst 1, 1) := by decide +kernel
theorem dX5_isNumber_155 : decode cX5_isNumber 155 = .ok (.iadd, 1) := by decide +kernel
theorem dX5_isNumber_156 : decode cX5_isNumber 156 = .ok (.putfield 131, 3) := by decide +kernel
theorem dX5_isNumber_159 : decode cX5_isNumber 159 = .ok (.goto (-76), 3) := by decide +kernel
theorem dX5_isNumber_162 : decode cX5_isNumber 162 = .ok (.aload_n 0, 1) := by decide +kernel
theorem dX5_isNumber_163 : decode cX5_isNumber 163 = .ok (.iload_n 3, 1) := by decide +kernel
theorem dX5_isNumber_164 : decode cX5_isNumber 164 = .ok (.ifCond .eq 11, 3) := by decide +kernel
theorem dX5_isNumber_167 : decode cX5_isNumber 167 = .ok (.aload_n 0, 1) := by decide +kernel
theorem dX5_isNumber_168 : decode cX5_isNumber 168 = .ok (.getfield 141, 3) := by decide +kernel
theorem dX5_isNumber_171 : decode cX5_isNumber 171 = .ok (.ineg, 1) := by decide +kernel
theorem dX5_isNumber_172 : decode cX5_isNumber 172 = .ok (.goto 7, 3) := by decide +kernel
theorem dX5_isNumber_175 : decode cX5_isNumber 175 = .ok (.aload_n 0, 1) := by decide +kernel
theorem dX5_isNumber_176 : decode cX5_isNumber 176 = .ok (.getfield 141, 3) := by decide +kernel
theorem dX5_isNumber_179 : decode cX5_isNumber 179 = .ok (.putfield 141, 3) := by decide +kernel
theorem dX5_isNumber_182 : decode cX5_isNumber 182 = .ok (.iconst 1, 1) := by decide +kernel
theorem dX5_isNumber_183 : decode cX5_isNumber 183 = .ok (.ireturn, 1) := by decide +kernel
set_option maxRecDepth 20000 in
theorem ggX5_isNext_X5_sign : GoodIn wsX5_isNext wsX5_sign := goodIn_r _ [5, 6, 7, 8, 9, 4, 10, 11, 12, 13, 14, 15, 21, 22, 23, 24, 25, 26, 27, 28, 29, 30, 31, 32, 33, 34] (by decide +kernel) (by decide +kernel)
set_option maxRecDepth 20000 in
theorem gX5_isNext_X5_sign : GoodIn wsX5_isNext (wsV RX5 138 RX5 yX5_sign wsX5_sign) := goodIn_app (goodIn_of _ (by decide +kernel)) ggX5_isNext_X5_sign
set_option maxRecDepth 20000 in
theorem ggX5_isNext_X5_isNumber : GoodIn wsX5_isNext wsX5_isNumber := goodIn_r _ [19, 12, 6, 20, 1, 2, 3, 4, 5, 7, 8, 9, 10, 11, 13, 14, 15, 21, 22, 23, 24, 25, 26, 27, 28, 29, 30, 31, 32, 33, 34] (by decide +kernel) (by decide +kernel)
set_option maxRecDepth 20000 in
theorem gX5_isNext_X5_isNumber : GoodIn wsX5_isNext (wsV RX5 144 RX5 yX5_isNumber wsX5_isNumber) := goodIn_app (goodIn_of _ (by decide +kernel)) ggX5_isNext_X5_isNumber
theorem dX5_isNext_0 : decode cX5_isNext 0 = .ok (.aload_n 0, 1) := by decide +kernel
theorem dX5_isNext_1 : decode cX5_isNext 1 = .ok (.bipush 32, 2) := by decide +kernel
theorem dX5_isNext_3 : decode cX5_isNext 3 = .ok (.invokevirtual 138, 3) := by decide +kernel
theorem dX5_isNext_6 : decode cX5_isNext 6 = .ok (.ifCond .eq 16, 3) := by decide +kernel
theorem dX5_isNext_9 : decode cX5_isNext 9 = .ok (.aload_n 0, 1) := by decide +kernel
theorem dX5_isNext_10 : decode cX5_isNext 10 = .ok (.iload_n 1, 1) := by decide +kernel
theorem dX5_isNext_11 : decode cX5_isNext 11 = .ok (.iload_n 2, 1) := by decide +kernel
theorem dX5_isNext_12 : decode cX5_isNext 12 = .ok (.invokevirtual 144, 3) := by decide +kernel
theorem dX5_isNext_15 : decode cX5_isNext 15 = .ok (.ifCond .eq 7, 3) := by decide +kernel
theorem dX5_isNext_18 : decode cX5_isNext 18 = .ok (.iconst 1, 1) := by decide +kernel
theorem dX5_isNext_19 : decode cX5_isNext 19 = .ok (.goto 4, 3) := by decide +kernel
theorem dX5_isNext_22 : decode cX5_isNext 22 = .ok (.iconst 0, 1) := by decide +kernel
theorem dX5_isNext_23 : decode cX5_isNext 23 = .ok (.ireturn, 1) := by decide +kernel
set_option maxRecDepth 20000 in
theorem ggX5_isWord_X5_sign : GoodIn wsX5_isWord wsX5_sign := goodIn_r _ [5, 6, 7, 8, 9, 4, 10, 11, 12, 13, 14, 15, 16, 17, 18, 19, 20, 21, 22, 23, 24, 25, 26, 27, 28, 29] (by decide +kernel) (by decide +kernel)
set_option maxRecDepth 20000 in
theorem gX5_isWord_X5_sign : GoodIn wsX5_isWord (wsV RX5 138 RX5 yX5_sign wsX5_sign) := goodIn_app (goodIn_of _ (by decide +kernel)) ggX5_isWord_X5_sign
theorem dX5_isWord_0 : decode cX5_isWord 0 = .ok (.aload_n 0, 1) := by decide +kernel
theorem dX5_isWord_1 : decode cX5_isWord 1 = .ok (.iload_n 1, 1) := by decide +kernel
theorem dX5_isWord_2 : decode cX5_isWord 2 = .ok (.invokevirtual 138, 3) := by decide +kernel
theorem dX5_isWord_5 : decode cX5_isWord 5 = .ok (.ifCond .eq 55, 3) := by decide +kernel
theorem dX5_isWord_8 : decode cX5_isWord 8 = .ok (.aload_n 0, 1) := by decide +kernel
theorem dX5_isWord_9 : decode cX5_isWord 9 = .ok (.iload_n 2, 1) := by decide +kernel
theorem dX5_isWord_10 : decode cX5_isWord 10 = .ok (.invokevirtual 138, 3) := by decide +kernel
theorem dX5_isWord_13 : decode cX5_isWord 13 = .ok (.ifCond .eq 47, 3) := by decide +kernel
theorem dX5_isWord_16 : decode cX5_isWord 16 = .ok (.iload_n 3, 1) := by decide +kernel
theorem dX5_isWord_17 : decode cX5_isWord 17 = .ok (.ifCond .eq 11, 3) := by decide +kernel
theorem dX5_isWord_20 : decode cX5_isWord 20 = .ok (.aload_n 0, 1) := by decide +kernel
theorem dX5_isWord_21 : decode cX5_isWord 21 = .ok (.iload_n 3, 1) := by decide +kernel
theorem dX5_isWord_22 : decode cX5_isWord 22 = .ok (.invokevirtual 138, 3) := by decide +kernel
theorem dX5_isWord_25 : decode cX5_isWord 25 = .ok (.ifCond .eq 35, 3) := by decide +kernel
theorem dX5_isWord_28 : decode cX5_isWord 28 = .ok (.iload 4, 2) := by decide +kernel
theorem dX5_isWord_30 : decode cX5_isWord 30 = .ok (.ifCond .eq 12, 3) := by decide +kernel
theorem dX5_isWord_33 : decode cX5_isWord 33 = .ok (.aload_n 0, 1) := by decide +kernel
theorem dX5_isWord_34 : decode cX5_isWord 34 = .ok (.iload 4, 2) := by decide +kernel
theorem dX5_isWord_36 : decode cX5_isWord 36 = .ok (.invokevirtual 138, 3) := by decide +kernel
theorem dX5_isWord_39 : decode cX5_isWord 39 = .ok (.ifCond .eq 21, 3) := by decide +kernel
theorem dX5_isWord_42 : decode cX5_isWord 42 = .ok (.iload 5, 2) := by decide +kernel
theorem dX5_isWord_44 : decode cX5_isWord 44 = .ok (.ifCond .eq 12, 3) := by decide +kernel
theorem dX5_isWord_47 : decode cX5_isWord 47 = .ok (.aload_n 0, 1) := by decide +kernel
theorem dX5_isWord_48 : decode cX5_isWord 48 = .ok (.iload 5, 2) := by decide +kernel
theorem dX5_isWord_50 : decode cX5_isWord 50 = .ok (.invokevirtual 138, 3) := by decide +kernel
theorem dX5_isWord_53 : decode cX5_isWord 53 = .ok (.ifCond .eq 7, 3) := by decide +kernel
theorem dX5_isWord_56 : decode cX5_isWord 56 = .ok (.iconst 1, 1) := by decide +kernel
theorem dX5_isWord_57 : decode cX5_isWord 57 = .ok (.goto 4, 3) := by decide +kernel
theorem dX5_isWord_60 : decode cX5_isWord 60 = .ok (.iconst 0, 1) := by decide +kernel
theorem dX5_isWord_61 : decode cX5_isWord 61 = .ok (.ireturn, 1) := by decide +kernel
set_option maxRecDepth 20000 in
theorem ggX5_isKind_X5_sign : GoodIn wsX5_isKind wsX5_sign := goodIn_r _ [6, 7, 8, 9, 10, 5, 11, 12, 13, 14, 15, 16, 21, 22, 23, 24, 25, 26, 27, 28, 29, 30, 31, 32, 33, 34] (by decide +kernel) (by decide +kernel)
set_option maxRecDepth 20000 in
theorem gX5_isKind_X5_sign : GoodIn wsX5_isKind (wsV RX5 138 RX5 yX5_sign wsX5_sign) := goodIn_app (goodIn_of _ (by decide +kernel)) ggX5_isKind_X5_sign
set_option maxRecDepth 20000 in
theorem ggX5_isKind_X5_isAt : GoodIn wsX5_isKind wsX5_isAt := goodIn_r _ [11, 7, 12, 13, 14, 15, 5, 16, 21, 22, 23, 24, 25, 26, 27, 28, 29, 30, 31, 32, 33, 34] (by decide +kernel) (by decide +kernel)
set_option maxRecDepth 20000 in
theorem gX5_isKind_X5_isAt : GoodIn wsX5_isKind (wsV RX5 134 RX5 yX5_isAt wsX5_isAt) := goodIn_app (goodIn_of _ (by decide +kernel)) ggX5_isKind_X5_isAt
set_option maxRecDepth 20000 in
theorem ggX5_isKind_X5_isWord : GoodIn wsX5_isKind wsX5_isWord := goodIn_r _ [20, 2, 3, 4, 5, 6, 7, 8, 9, 10, 11, 12, 13, 14, 15, 16, 21, 22, 23, 24, 25, 26, 27, 28, 29, 30, 31, 32, 33, 34] (by decide +kernel) (by decide +kernel)
set_option maxRecDepth 20000 in
theorem gX5_isKind_X5_isWord : GoodIn wsX5_isKind (wsV RX5 147 RX5 yX5_isWord wsX5_isWord) := goodIn_app (goodIn_of _ (by decide +kernel)) ggX5_isKind_X5_isWord
theorem dX5_isKind_0 : decode cX5_isKind 0 = .ok (.aload_n 0, 1) := by decide +kernel
theorem dX5_isKind_1 : decode cX5_isKind 1 = .ok (.bipush 32, 2) := by decide +kernel
theorem dX5_isKind_3 : decode cX5_isKind 3 = .ok (.invokevirtual 138, 3) := by decide +kernel
theorem dX5_isKind_6 : decode cX5_isKind 6 = .ok (.ifCond .ne 5, 3) := by decide +kernel
theorem dX5_isKind_9 : decode cX5_isKind 9 = .ok (.iconst 0, 1) := by decide +kernel
theorem dX5_isKind_10 : decode cX5_isKind 10 = .ok (.ireturn, 1) := by decide +kernel
theorem dX5_isKind_11 : decode cX5_isKind 11 = .ok (.aload_n 0, 1) := by decide +kernel
theorem dX5_isKind_12 : decode cX5_isKind 12 = .ok (.aload_n 0, 1) := by decide +kernel
theorem dX5_isKind_13 : decode cX5_isKind 13 = .ok (.bipush 102, 2) := by decide +kernel
theorem dX5_isKind_15 : decode cX5_isKind 15 = .ok (.bipush 102, 2) := by decide +kernel
theorem dX5_isKind_17 : decode cX5_isKind 17 = .ok (.invokevirtual 134, 3) := by decide +kernel
theorem dX5_isKind_20 : decode cX5_isKind 20 = .ok (.ifCond .eq 7, 3) := by decide +kernel
theorem dX5_isKind_23 : decode cX5_isKind 23 = .ok (.iconst 0, 1) := by decide +kernel
theorem dX5_isKind_24 : decode cX5_isKind 24 = .ok (.goto 19, 3) := by decide +kernel
theorem dX5_isKind_27 : decode cX5_isKind 27 = .ok (.aload_n 0, 1) := by decide +kernel
theorem dX5_isKind_28 : decode cX5_isKind 28 = .ok (.bipush 100, 2) := by decide +kernel
theorem dX5_isKind_30 : decode cX5_isKind 30 = .ok (.bipush 100, 2) := by decide +kernel
theorem dX5_isKind_32 : decode cX5_isKind 32 = .ok (.invokevirtual 134, 3) := by decide +kernel
theorem dX5_isKind_35 : decode cX5_isKind 35 = .ok (.ifCond .eq 7, 3) := by decide +kernel
theorem dX5_isKind_38 : decode cX5_isKind 38 = .ok (.iconst 1, 1) := by decide +kernel
theorem dX5_isKind_39 : decode cX5_isKind 39 = .ok (.goto 4, 3) := by decide +kernel
theorem dX5_isKind_42 : decode cX5_isKind 42 = .ok (.iconst 2, 1) := by decide +kernel
theorem dX5_isKind_43 : decode cX5_isKind 43 = .ok (.putfield 141, 3) := by decide +kernel
theorem dX5_isKind_46 : decode cX5_isKind 46 = .ok (.aload_n 0, 1) := by decide +kernel
theorem dX5_isKind_47 : decode cX5_isKind 47 = .ok (.getfield 141, 3) := by decide +kernel
theorem dX5_isKind_50 : decode cX5_isKind 50 = .ok (.ifCond .ne 19, 3) := by decide +kernel
theorem dX5_isKind_53 : decode cX5_isKind 53 = .ok (.aload_n 0, 1) := by decide +kernel
theorem dX5_isKind_54 : decode cX5_isKind 54 = .ok (.bipush 102, 2) := by decide +kernel
theorem dX5_isKind_56 : decode cX5_isKind 56 = .ok (.bipush 108, 2) := by decide +kernel
theorem dX5_isKind_58 : decode cX5_isKind 58 = .ok (.bipush 97, 2) := by decide +kernel
theorem dX5_isKind_60 : decode cX5_isKind 60 = .ok (.bipush 103, 2) := by decide +kernel
theorem dX5_isKind_62 : decode cX5_isKind 62 = .ok (.iconst 0, 1) := by decide +kernel
theorem dX5_isKind_63 : decode cX5_isKind 63 = .ok (.invokevirtual 147, 3) := by decide +kernel
theorem dX5_isKind_66 : decode cX5_isKind 66 = .ok (.goto 59, 3) := by decide +kernel
theorem dX5_isKind_69 : decode cX5_isKind 69 = .ok (.aload_n 0, 1) := by decide +kernel
theorem dX5_isKind_70 : decode cX5_isKind 70 = .ok (.getfield 141, 3) := by decide +kernel
theorem dX5_isKind_73 : decode cX5_isKind 73 = .ok (.iconst 1, 1) := by decide +kernel
theorem dX5_isKind_74 : decode cX5_isKind 74 = .ok (.if_icmp .ne 20, 3) := by decide +kernel
theorem dX5_isKind_77 : decode cX5_isKind 77 = .ok (.aload_n 0, 1) := by decide +kernel
theorem dX5_isKind_78 : decode cX5_isKind 78 = .ok (.bipush 100, 2) := by decide +kernel
theorem dX5_isKind_80 : decode cX5_isKind 80 = .ok (.bipush 105, 2) := by decide +kernel
theorem dX5_isKind_82 : decode cX5_isKind 82 = .ok (.bipush 103, 2) := by decide +kernel
theorem dX5_isKind_84 : decode cX5_isKind 84 = .ok (.bipush 105, 2) := by decide +kernel
theorem dX5_isKind_86 : decode cX5_isKind 86 = .ok (.bipush 116, 2) := by decide +kernel
theorem dX5_isKind_88 : decode cX5_isKind 88 = .ok (.invokevirtual 147, 3) := by decide +kernel
theorem dX5_isKind_91 : decode cX5_isKind 91 = .ok (.goto 34, 3) := by decide +kernel
theorem dX5_isKind_94 : decode cX5_isKind 94 = .ok (.aload_n 0, 1) := by decide +kernel
theorem dX5_isKind_95 : decode cX5_isKind 95 = .ok (.bipush 110, 2) := by decide +kernel
theorem dX5_isKind_97 : decode cX5_isKind 97 = .ok (.bipush 117, 2) := by decide +kernel
theorem dX5_isKind_99 : decode cX5_isKind 99 = .ok (.bipush 109, 2) := by decide +kernel
theorem dX5_isKind_101 : decode cX5_isKind 101 = .ok (.bipush 98, 2) := by decide +kernel
theorem dX5_isKind_103 : decode cX5_isKind 103 = .ok (.bipush 101, 2) := by decide +kernel
theorem dX5_isKind_105 : decode cX5_isKind 105 = .ok (.invokevirtual 147, 3) := by decide +kernel
theorem dX5_isKind_108 : decode cX5_isKind 108 = .ok (.ifCond .eq 16, 3) := by decide +kernel
theorem dX5_isKind_111 : decode cX5_isKind 111 = .ok (.aload_n 0, 1) := by decide +kernel
theorem dX5_isKind_112 : decode cX5_isKind 112 = .ok (.bipush 114, 2) := by decide +kernel
theorem dX5_isKind_114 : decode cX5_isKind 114 = .ok (.invokevirtual 138, 3) := by decide +kernel
theorem dX5_isKind_117 : decode cX5_isKind 117 = .ok (.ifCond .eq 7, 3) := by decide +kernel
theorem dX5_isKind_120 : decode cX5_isKind 120 = .ok (.iconst 1, 1) := by decide +kernel
theorem dX5_isKind_121 : decode cX5_isKind 121 = .ok (.goto 4, 3) := by decide +kernel
theorem dX5_isKind_124 : decode cX5_isKind 124 = .ok (.iconst 0, 1) := by decide +kernel
theorem dX5_isKind_125 : decode cX5_isKind 125 = .ok (.ireturn, 1) := by decide +kernel
set_option maxRecDepth 20000 in
theorem ggX5_isPart_X5_isWord : GoodIn wsX5_isPart wsX5_isWord := goodIn_r _ [10, 11, 12, 13, 9, 14, 3, 15, 16, 17, 18, 4, 5, 19, 20, 21, 57, 58, 59, 60, 61, 62, 63, 64, 65, 66, 67, 68, 69, 70] (by decide +kernel) (by decide +kernel)
set_option maxRecDepth 20000 in
theorem gX5_isPart_X5_isWord : GoodIn wsX5_isPart (wsV RX5 147 RX5 yX5_isWord wsX5_isWord) := goodIn_app (goodIn_of _ (by decide +kernel)) ggX5_isPart_X5_isWord
set_option maxRecDepth 20000 in
theorem ggX5_isPart_X5_isColumn : GoodIn wsX5_isPart wsX5_isColumn := goodIn_r _ [25, 2, 26, 27, 28, 29, 9, 30, 31, 32, 33, 34, 11, 12, 13, 14, 3, 15, 16, 17, 18, 4, 5, 19, 20, 21, 35, 36, 37, 38, 39, 40, 41, 42, 6, 7, 8, 10, 57, 58, 59, 60, 61, 62, 63, 64, 65, 66, 67, 68, 69, 70] (by decide +kernel) (by decide +kernel)
set_option maxRecDepth 20000 in
theorem gX5_isPart_X5_isColumn : GoodIn wsX5_isPart (wsV RX5 154 RX5 yX5_isColumn wsX5_isColumn) := goodIn_app (goodIn_of _ (by decide +kernel)) ggX5_isPart_X5_isColumn
set_option maxRecDepth 20000 in
theorem ggX5_isPart_X5_isDefault : GoodIn wsX5_isPart wsX5_isDefault := goodIn_r _ [46, 2, 26, 15, 16, 17, 9, 18, 3, 4, 5, 19, 20, 21, 47, 48, 49, 50, 51, 52, 31, 32, 33, 34, 11, 12, 13, 14, 35, 36, 37, 38, 57, 58, 59, 60, 61, 62, 63, 64, 65, 66, 67, 68, 69, 70] (by decide +kernel) (by decide +kernel)
set_option maxRecDepth 20000 in
theorem gX5_isPart_X5_isDefault : GoodIn wsX5_isPart (wsV RX5 157 RX5 yX5_isDefault wsX5_isDefault) := goodIn_app (goodIn_of _ (by decide +kernel)) ggX5_isPart_X5_isDefault
set_option maxRecDepth 20000 in
theorem ggX5_isPart_X5_isFirst : GoodIn wsX5_isPart wsX5_isFirst := goodIn_r _ [30, 2, 26, 31, 32, 33, 9, 34, 11, 12, 13, 14, 3, 15, 16, 17, 18, 4, 5, 19, 20, 21, 35, 36, 37, 38, 57, 58, 59, 60, 61, 62, 63, 64, 65, 66, 67, 68, 69, 70] (by decide +kernel) (by decide +kernel)
set_option maxRecDepth 20000 in
theorem gX5_isPart_X5_isFirst : GoodIn wsX5_isPart (wsV RX5 160 RX5 yX5_isFirst wsX5_isFirst) := goodIn_app (goodIn_of _ (by decide +kernel)) ggX5_isPart_X5_isFirst
set_option maxRecDepth 20000 in
theorem ggX5_isPart_X5_isSetting : GoodIn wsX5_isPart wsX5_isSetting := goodIn_r _ [56, 2, 26, 31, 32, 33, 9, 34, 11, 12, 13, 14, 3, 15, 16, 17, 18, 4, 5, 19, 20, 21, 35, 36, 37, 38, 57, 58, 59, 60, 61, 62, 63, 64, 65, 66, 67, 68, 69, 70] (by decide +kernel) (by decide +kernel)
set_option maxRecDepth 20000 in
theorem gX5_isPart_X5_isSetting : GoodIn wsX5_isPart (wsV RX5 163 RX5 yX5_isSetting wsX5_isSetting) := goodIn_app (goodIn_of _ (by decide +kernel)) ggX5_isPart_X5_isSetting
theorem dX5_isPart_0 : decode cX5_isPart 0 = .ok (.iconst 4, 1) := by decide +kernel
theorem dX5_isPart_1 : decode cX5_isPart 1 = .ok (.aload_n 0, 1) := by decide +kernel
theorem dX5_isPart_2 : decode cX5_isPart 2 = .ok (.getfield 151, 3) := by decide +kernel
theorem dX5_isPart_5 : decode cX5_isPart 5 = .ok (.imul, 1) := by decide +kernel
theorem dX5_isPart_6 : decode cX5_isPart 6 = .ok (.istore_n 1, 1) := by decide +kernel
theorem dX5_isPart_7 : decode cX5_isPart 7 = .ok (.aload_n 0, 1) := by decide +kernel
theorem dX5_isPart_8 : decode cX5_isPart 8 = .ok (.getfield 32, 3) := by decide +kernel
theorem dX5_isPart_11 : decode cX5_isPart 11 = .ok (.iload_n 1, 1) := by decide +kernel
theorem dX5_isPart_12 : decode cX5_isPart 12 = .ok (.aload_n 0, 1) := by decide +kernel
theorem dX5_isPart_13 : decode cX5_isPart 13 = .ok (.getfield 131, 3) := by decide +kernel
theorem dX5_isPart_16 : decode cX5_isPart 16 = .ok (.aload_n 0, 1) := by decide +kernel
theorem dX5_isPart_17 : decode cX5_isPart 17 = .ok (.getfield 128, 3) := by decide +kernel
theorem dX5_isPart_20 : decode cX5_isPart 20 = .ok (.if_icmp .ge 15, 3) := by decide +kernel
theorem dX5_isPart_23 : decode cX5_isPart 23 = .ok (.aload_n 0, 1) := by decide +kernel
theorem dX5_isPart_24 : decode cX5_isPart 24 = .ok (.getfield 22, 3) := by decide +kernel
theorem dX5_isPart_27 : decode cX5_isPart 27 = .ok (.aload_n 0, 1) := by decide +kernel
theorem dX5_isPart_28 : decode cX5_isPart 28 = .ok (.getfield 131, 3) := by decide +kernel
theorem dX5_isPart_31 : decode cX5_isPart 31 = .ok (.iaload, 1) := by decide +kernel
theorem dX5_isPart_32 : decode cX5_isPart 32 = .ok (.goto 4, 3) := by decide +kernel
theorem dX5_isPart_35 : decode cX5_isPart 35 = .ok (.iconst 0, 1) := by decide +kernel
theorem dX5_isPart_36 : decode cX5_isPart 36 = .ok (.iastore, 1) := by decide +kernel
theorem dX5_isPart_37 : decode cX5_isPart 37 = .ok (.aload_n 0, 1) := by decide +kernel
theorem dX5_isPart_38 : decode cX5_isPart 38 = .ok (.getfield 32, 3) := by decide +kernel
theorem dX5_isPart_41 : decode cX5_isPart 41 = .ok (.iload_n 1, 1) := by decide +kernel
theorem dX5_isPart_42 : decode cX5_isPart 42 = .ok (.iaload, 1) := by decide +kernel
theorem dX5_isPart_43 : decode cX5_isPart 43 = .ok (.lookupswitch 200 #[(97, 49), (100, 116), (107, 86), (114, 148), (115, 161)], 49) := by decide +kernel
theorem dX5_isPart_92 : decode cX5_isPart 92 = .ok (.aload_n 0, 1) := by decide +kernel
theorem dX5_isPart_93 : decode cX5_isPart 93 = .ok (.bipush 97, 2) := by decide +kernel
theorem dX5_isPart_95 : decode cX5_isPart 95 = .ok (.bipush 100, 2) := by decide +kernel
theorem dX5_isPart_97 : decode cX5_isPart 97 = .ok (.bipush 100, 2) := by decide +kernel
theorem dX5_isPart_99 : decode cX5_isPart 99 = .ok (.iconst 0, 1) := by decide +kernel
theorem dX5_isPart_100 : decode cX5_isPart 100 = .ok (.iconst 0, 1) := by decide +kernel
theorem dX5_isPart_101 : decode cX5_isPart 101 = .ok (.invokevirtual 147, 3) := by decide +kernel
theorem dX5_isPart_104 : decode cX5_isPart 104 = .ok (.ifCond .eq 23, 3) := by decide +kernel
theorem dX5_isPart_107 : decode cX5_isPart 107 = .ok (.aload_n 0, 1) := by decide +kernel
theorem dX5_isPart_108 : decode cX5_isPart 108 = .ok (.iload_n 1, 1) := by decide +kernel
theorem dX5_isPart_109 : decode cX5_isPart 109 = .ok (.invokevirtual 154, 3) := by decide +kernel
theorem dX5_isPart_112 : decode cX5_isPart 112 = .ok (.ifCond .eq 15, 3) := by decide +kernel
theorem dX5_isPart_115 : decode cX5_isPart 115 = .ok (.aload_n 0, 1) := by decide +kernel
theorem dX5_isPart_116 : decode cX5_isPart 116 = .ok (.iload_n 1, 1) := by decide +kernel
theorem dX5_isPart_117 : decode cX5_isPart 117 = .ok (.invokevirtual 157, 3) := by decide +kernel
theorem dX5_isPart_120 : decode cX5_isPart 120 = .ok (.ifCond .eq 7, 3) := by decide +kernel
theorem dX5_isPart_123 : decode cX5_isPart 123 = .ok (.iconst 1, 1) := by decide +kernel
theorem dX5_isPart_124 : decode cX5_isPart 124 = .ok (.goto 4, 3) := by decide +kernel
theorem dX5_isPart_127 : decode cX5_isPart 127 = .ok (.iconst 0, 1) := by decide +kernel
theorem dX5_isPart_128 : decode cX5_isPart 128 = .ok (.ireturn, 1) := by decide +kernel
theorem dX5_isPart_129 : decode cX5_isPart 129 = .ok (.aload_n 0, 1) := by decide +kernel
theorem dX5_isPart_130 : decode cX5_isPart 130 = .ok (.bipush 107, 2) := by decide +kernel
theorem dX5_isPart_132 : decode cX5_isPart 132 = .ok (.bipush 105, 2) := by decide +kernel
theorem dX5_isPart_134 : decode cX5_isPart 134 = .ok (.bipush 110, 2) := by decide +kernel
theorem dX5_isPart_136 : decode cX5_isPart 136 = .ok (.bipush 100, 2) := by decide +kernel
theorem dX5_isPart_138 : decode cX5_isPart 138 = .ok (.iconst 0, 1) := by decide +kernel
theorem dX5_isPart_139 : decode cX5_isPart 139 = .ok (.invokevirtual 147, 3) := by decide +kernel
theorem dX5_isPart_142 : decode cX5_isPart 142 = .ok (.ifCond .eq 15, 3) := by decide +kernel
theorem dX5_isPart_145 : decode cX5_isPart 145 = .ok (.aload_n 0, 1) := by decide +kernel
theorem dX5_isPart_146 : decode cX5_isPart 146 = .ok (.iload_n 1, 1) := by decide +kernel
theorem dX5_isPart_147 : decode cX5_isPart 147 = .ok (.invokevirtual 154, 3) := by decide +kernel
theorem dX5_isPart_150 : decode cX5_isPart 150 = .ok (.ifCond .eq 7, 3) := by decide +kernel
theorem dX5_isPart_153 : decode cX5_isPart 153 = .ok (.iconst 1, 1) := by decide +kernel
theorem dX5_isPart_154 : decode cX5_isPart 154 = .ok (.goto 4, 3) := by decide +kernel
theorem dX5_isPart_157 : decode cX5_isPart 157 = .ok (.iconst 0, 1) := by decide +kernel
theorem dX5_isPart_158 : decode cX5_isPart 158 = .ok (.ireturn, 1) := by decide +kernel
theorem dX5_isPart_159 : decode cX5_isPart 159 = .ok (.aload_n 0, 1) := by decide +kernel
theorem dX5_isPart_160 : decode cX5_isPart 160 = .ok (.bipush 100, 2) := by decide +kernel
theorem dX5_isPart_162 : decode cX5_isPart 162 = .ok (.bipush 114, 2) := by decide +kernel
theorem dX5_isPart_164 : decode cX5_isPart 164 = .ok (.bipush 111, 2) := by decide +kernel
theorem dX5_isPart_166 : decode cX5_isPart 166 = .ok (.bipush 112, 2) := by decide +kernel
theorem dX5_isPart_168 : decode cX5_isPart 168 = .ok (.iconst 0, 1) := by decide +kernel
theorem dX5_isPart_169 : decode cX5_isPart 169 = .ok (.invokevirtual 147, 3) := by decide +kernel
theorem dX5_isPart_172 : decode cX5_isPart 172 = .ok (.ifCond .eq 17, 3) := by decide +kernel
theorem dX5_isPart_175 : decode cX5_isPart 175 = .ok (.aload_n 0, 1) := by decide +kernel
theorem dX5_isPart_176 : decode cX5_isPart 176 = .ok (.iload_n 1, 1) := by decide +kernel
theorem dX5_isPart_177 : decode cX5_isPart 177 = .ok (.bipush 7, 2) := by decide +kernel
theorem dX5_isPart_179 : decode cX5_isPart 179 = .ok (.invokevirtual 160, 3) := by decide +kernel
theorem dX5_isPart_182 : decode cX5_isPart 182 = .ok (.ifCond .eq 7, 3) := by decide +kernel
theorem dX5_isPart_185 : decode cX5_isPart 185 = .ok (.iconst 1, 1) := by decide +kernel
theorem dX5_isPart_186 : decode cX5_isPart 186 = .ok (.goto 4, 3) := by decide +kernel
theorem dX5_isPart_189 : decode cX5_isPart 189 = .ok (.iconst 0, 1) := by decide +kernel
theorem dX5_isPart_190 : decode cX5_isPart 190 = .ok (.ireturn, 1) := by decide +kernel
theorem dX5_isPart_191 : decode cX5_isPart 191 = .ok (.aload_n 0, 1) := by decide +kernel
theorem dX5_isPart_192 : decode cX5_isPart 192 = .ok (.bipush 114, 2) := by decide +kernel
theorem dX5_isPart_194 : decode cX5_isPart 194 = .ok (.bipush 111, 2) := by decide +kernel
theorem dX5_isPart_196 : decode cX5_isPart 196 = .ok (.bipush 119, 2) := by decide +kernel
theorem dX5_isPart_198 : decode cX5_isPart 198 = .ok (.iconst 0, 1) := by decide +kernel
theorem dX5_isPart_199 : decode cX5_isPart 199 = .ok (.iconst 0, 1) := by decide +kernel
theorem dX5_isPart_200 : decode cX5_isPart 200 = .ok (.invokevirtual 147, 3) := by decide +kernel
theorem dX5_isPart_203 : decode cX5_isPart 203 = .ok (.ireturn, 1) := by decide +kernel
theorem dX5_isPart_204 : decode cX5_isPart 204 = .ok (.aload_n 0, 1) := by decide +kernel
theorem dX5_isPart_205 : decode cX5_isPart 205 = .ok (.bipush 115, 2) := by decide +kernel
theorem dX5_isPart_207 : decode cX5_isPart 207 = .ok (.bipush 101, 2) := by decide +kernel
theorem dX5_isPart_209 : decode cX5_isPart 209 = .ok (.bipush 116, 2) := by decide +kernel
theorem dX5_isPart_211 : decode cX5_isPart 211 = .ok (.iconst 0, 1) := by decide +kernel
theorem dX5_isPart_212 : decode cX5_isPart 212 = .ok (.iconst 0, 1) := by decide +kernel
theorem dX5_isPart_213 : decode cX5_isPart 213 = .ok (.invokevirtual 147, 3) := by decide +kernel
theorem dX5_isPart_216 : decode cX5_isPart 216 = .ok (.ifCond .eq 25, 3) := by decide +kernel
theorem dX5_isPart_219 : decode cX5_isPart 219 = .ok (.aload_n 0, 1) := by decide +kernel
theorem dX5_isPart_220 : decode cX5_isPart 220 = .ok (.iload_n 1, 1) := by decide +kernel
theorem dX5_isPart_221 : decode cX5_isPart 221 = .ok (.bipush 23, 2) := by decide +kernel
theorem dX5_isPart_223 : decode cX5_isPart 223 = .ok (.invokevirtual 160, 3) := by decide +kernel
theorem dX5_isPart_226 : decode cX5_isPart 226 = .ok (.ifCond .eq 15, 3) := by decide +kernel
theorem dX5_isPart_229 : decode cX5_isPart 229 = .ok (.aload_n 0, 1) := by decide +kernel
theorem dX5_isPart_230 : decode cX5_isPart 230 = .ok (.iload_n 1, 1) := by decide +kernel
theorem dX5_isPart_231 : decode cX5_isPart 231 = .ok (.invokevirtual 163, 3) := by decide +kernel
theorem dX5_isPart_234 : decode cX5_isPart 234 = .ok (.ifCond .eq 7, 3) := by decide +kernel
theorem dX5_isPart_237 : decode cX5_isPart 237 = .ok (.iconst 1, 1) := by decide +kernel
theorem dX5_isPart_238 : decode cX5_isPart 238 = .ok (.goto 4, 3) := by decide +kernel
theorem dX5_isPart_241 : decode cX5_isPart 241 = .ok (.iconst 0, 1) := by decide +kernel
theorem dX5_isPart_242 : decode cX5_isPart 242 = .ok (.ireturn, 1) := by decide +kernel
theorem dX5_isPart_243 : decode cX5_isPart 243 = .ok (.iconst 0, 1) := by decide +kernel
theorem dX5_isPart_244 : decode cX5_isPart 244 = .ok (.ireturn, 1) := by decide +kernel
set_option maxRecDepth 20000 in
theorem ggX5_isFirst_X5_isNext : GoodIn wsX5_isFirst wsX5_isNext := goodIn_r _ [7, 8, 9, 10, 6, 11, 12, 13, 14, 15, 16, 17, 18, 19, 20, 21, 22, 23, 24, 25, 2, 26, 27, 28, 29, 30, 31, 32, 33, 34, 35, 36, 37, 38, 39] (by decide +kernel) (by decide +kernel)
set_option maxRecDepth 20000 in
theorem gX5_isFirst_X5_isNext : GoodIn wsX5_isFirst (wsV RX5 166 RX5 yX5_isNext wsX5_isNext) := goodIn_app (goodIn_of _ (by decide +kernel)) ggX5_isFirst_X5_isNext
theorem dX5_isFirst_0 : decode cX5_isFirst 0 = .ok (.aload_n 0, 1) := by decide +kernel
theorem dX5_isFirst_1 : decode cX5_isFirst 1 = .ok (.iconst 0, 1) := by decide +kernel
theorem dX5_isFirst_2 : decode cX5_isFirst 2 = .ok (.iload_n 2, 1) := by decide +kernel
theorem dX5_isFirst_3 : decode cX5_isFirst 3 = .ok (.invokevirtual 166, 3) := by decide +kernel
theorem dX5_isFirst_6 : decode cX5_isFirst 6 = .ok (.istore_n 3, 1) := by decide +kernel
theorem dX5_isFirst_7 : decode cX5_isFirst 7 = .ok (.aload_n 0, 1) := by decide +kernel
theorem dX5_isFirst_8 : decode cX5_isFirst 8 = .ok (.getfield 32, 3) := by decide +kernel
theorem dX5_isFirst_11 : decode cX5_isFirst 11 = .ok (.iload_n 1, 1) := by decide +kernel
theorem dX5_isFirst_12 : decode cX5_isFirst 12 = .ok (.iconst 1, 1) := by decide +kernel
theorem dX5_isFirst_13 : decode cX5_isFirst 13 = .ok (.iadd, 1) := by decide +kernel
theorem dX5_isFirst_14 : decode cX5_isFirst 14 = .ok (.aload_n 0, 1) := by decide +kernel
theorem dX5_isFirst_15 : decode cX5_isFirst 15 = .ok (.getfield 141, 3) := by decide +kernel
theorem dX5_isFirst_18 : decode cX5_isFirst 18 = .ok (.iastore, 1) := by decide +kernel
theorem dX5_isFirst_19 : decode cX5_isFirst 19 = .ok (.iload_n 3, 1) := by decide +kernel
theorem dX5_isFirst_20 : decode cX5_isFirst 20 = .ok (.ireturn, 1) := by decide +kernel
set_option maxRecDepth 20000 in
theorem ggX5_isColumn_X5_isFirst : GoodIn wsX5_isColumn wsX5_isFirst := goodIn_r _ [7, 1, 2, 8, 9, 10, 6, 11, 12, 13, 14, 15, 16, 17, 18, 19, 20, 21, 22, 23, 24, 25, 26, 27, 28, 29, 38, 39, 40, 41, 42, 43, 44, 45, 46, 47, 48, 49, 50, 51] (by decide +kernel) (by decide +kernel)
set_option maxRecDepth 20000 in
theorem gX5_isColumn_X5_isFirst : GoodIn wsX5_isColumn (wsV RX5 160 RX5 yX5_isFirst wsX5_isFirst) := goodIn_app (goodIn_of _ (by decide +kernel)) ggX5_isColumn_X5_isFirst
set_option maxRecDepth 20000 in
theorem ggX5_isColumn_X5_isKind : GoodIn wsX5_isColumn wsX5_isKind := goodIn_r _ [33, 2, 12, 13, 14, 6, 15, 16, 17, 18, 19, 20, 21, 22, 23, 24, 25, 34, 35, 36, 37, 38, 39, 40, 41, 42, 43, 44, 45, 46, 47, 48, 49, 50, 51] (by decide +kernel) (by decide +kernel)
set_option maxRecDepth 20000 in
theorem gX5_isColumn_X5_isKind : GoodIn wsX5_isColumn (wsV RX5 169 RX5 yX5_isKind wsX5_isKind) := goodIn_app (goodIn_of _ (by decide +kernel)) ggX5_isColumn_X5_isKind
theorem dX5_isColumn_0 : decode cX5_isColumn 0 = .ok (.aload_n 0, 1) := by decide +kernel
theorem dX5_isColumn_1 : decode cX5_isColumn 1 = .ok (.iload_n 1, 1) := by decide +kernel
theorem dX5_isColumn_2 : decode cX5_isColumn 2 = .ok (.bipush 7, 2) := by decide +kernel
theorem dX5_isColumn_4 : decode cX5_isColumn 4 = .ok (.invokevirtual 160, 3) := by decide +kernel
theorem dX5_isColumn_7 : decode cX5_isColumn 7 = .ok (.ifCond .eq 10, 3) := by decide +kernel
theorem dX5_isColumn_10 : decode cX5_isColumn 10 = .ok (.aload_n 0, 1) := by decide +kernel
theorem dX5_isColumn_11 : decode cX5_isColumn 11 = .ok (.invokevirtual 169, 3) := by decide +kernel
theorem dX5_isColumn_14 : decode cX5_isColumn 14 = .ok (.ifCond .ne 5, 3) := by decide +kernel
theorem dX5_isColumn_17 : decode cX5_isColumn 17 = .ok (.iconst 0, 1) := by decide +kernel
theorem dX5_isColumn_18 : decode cX5_isColumn 18 = .ok (.ireturn, 1) := by decide +kernel
theorem dX5_isColumn_19 : decode cX5_isColumn 19 = .ok (.aload_n 0, 1) := by decide +kernel
theorem dX5_isColumn_20 : decode cX5_isColumn 20 = .ok (.getfield 32, 3) := by decide +kernel
theorem dX5_isColumn_23 : decode cX5_isColumn 23 = .ok (.iload_n 1, 1) := by decide +kernel
theorem dX5_isColumn_24 : decode cX5_isColumn 24 = .ok (.iconst 2, 1) := by decide +kernel
theorem dX5_isColumn_25 : decode cX5_isColumn 25 = .ok (.iadd, 1) := by decide +kernel
theorem dX5_isColumn_26 : decode cX5_isColumn 26 = .ok (.aload_n 0, 1) := by decide +kernel
theorem dX5_isColumn_27 : decode cX5_isColumn 27 = .ok (.getfield 141, 3) := by decide +kernel
theorem dX5_isColumn_30 : decode cX5_isColumn 30 = .ok (.iastore, 1) := by decide +kernel
theorem dX5_isColumn_31 : decode cX5_isColumn 31 = .ok (.iconst 1, 1) := by decide +kernel
theorem dX5_isColumn_32 : decode cX5_isColumn 32 = .ok (.ireturn, 1) := by decide +kernel
set_option maxRecDepth 20000 in
theorem ggX5_isDefault_X5_isAt : GoodIn wsX5_isDefault wsX5_isAt := goodIn_r _ [7, 8, 9, 10, 11, 12, 6, 13, 32, 33, 34, 35, 36, 37, 38, 39, 40, 41, 42, 43, 44, 45] (by decide +kernel) (by decide +kernel)
set_option maxRecDepth 20000 in
theorem gX5_isDefault_X5_isAt : GoodIn wsX5_isDefault (wsV RX5 134 RX5 yX5_isAt wsX5_isAt) := goodIn_app (goodIn_of _ (by decide +kernel)) ggX5_isDefault_X5_isAt
set_option maxRecDepth 20000 in
theorem ggX5_isDefault_X5_least : GoodIn wsX5_isDefault wsX5_least := goodIn_r _ [16] (by decide +kernel) (by decide +kernel)
set_option maxRecDepth 20000 in
theorem gX5_isDefault_X5_least : GoodIn wsX5_isDefault (va_wsS RX5 93 yX5_least wsX5_least) := goodIn_app (goodIn_of _ (by decide +kernel)) ggX5_isDefault_X5_least
set_option maxRecDepth 20000 in
theorem ggX5_isDefault_X5_most : GoodIn wsX5_isDefault wsX5_most := goodIn_r _ [19] (by decide +kernel) (by decide +kernel)
set_option maxRecDepth 20000 in
theorem gX5_isDefault_X5_most : GoodIn wsX5_isDefault (va_wsS RX5 97 yX5_most wsX5_most) := goodIn_app (goodIn_of _ (by decide +kernel)) ggX5_isDefault_X5_most
set_option maxRecDepth 20000 in
theorem ggX5_isDefault_X5_isNext : GoodIn wsX5_isDefault wsX5_isNext := goodIn_r _ [23, 24, 25, 26, 6, 27, 8, 3, 4, 5, 7, 9, 10, 11, 12, 13, 28, 29, 30, 31, 2, 32, 33, 34, 35, 36, 37, 38, 39, 40, 41, 42, 43, 44, 45] (by decide +kernel) (by decide +kernel)
set_option maxRecDepth 20000 in
theorem gX5_isDefault_X5_isNext : GoodIn wsX5_isDefault (wsV RX5 166 RX5 yX5_isNext wsX5_isNext) := goodIn_app (goodIn_of _ (by decide +kernel)) ggX5_isDefault_X5_isNext
theorem dX5_isDefault_0 : decode cX5_isDefault 0 = .ok (.aload_n 0, 1) := by decide +kernel
theorem dX5_isDefault_1 : decode cX5_isDefault 1 = .ok (.getfield 32, 3) := by decide +kernel
theorem dX5_isDefault_4 : decode cX5_isDefault 4 = .ok (.iload_n 1, 1) := by decide +kernel
theorem dX5_isDefault_5 : decode cX5_isDefault 5 = .ok (.iconst 3, 1) := by decide +kernel
theorem dX5_isDefault_6 : decode cX5_isDefault 6 = .ok (.iadd, 1) := by decide +kernel
theorem dX5_isDefault_7 : decode cX5_isDefault 7 = .ok (.iconst 0, 1) := by decide +kernel
theorem dX5_isDefault_8 : decode cX5_isDefault 8 = .ok (.iastore, 1) := by decide +kernel
theorem dX5_isDefault_9 : decode cX5_isDefault 9 = .ok (.aload_n 0, 1) := by decide +kernel
theorem dX5_isDefault_10 : decode cX5_isDefault 10 = .ok (.bipush 32, 2) := by decide +kernel
theorem dX5_isDefault_12 : decode cX5_isDefault 12 = .ok (.bipush 32, 2) := by decide +kernel
theorem dX5_isDefault_14 : decode cX5_isDefault 14 = .ok (.invokevirtual 134, 3) := by decide +kernel
theorem dX5_isDefault_17 : decode cX5_isDefault 17 = .ok (.ifCond .ne 5, 3) := by decide +kernel
theorem dX5_isDefault_20 : decode cX5_isDefault 20 = .ok (.iconst 1, 1) := by decide +kernel
theorem dX5_isDefault_21 : decode cX5_isDefault 21 = .ok (.ireturn, 1) := by decide +kernel
theorem dX5_isDefault_22 : decode cX5_isDefault 22 = .ok (.aload_n 0, 1) := by decide +kernel
theorem dX5_isDefault_23 : decode cX5_isDefault 23 = .ok (.getfield 32, 3) := by decide +kernel
theorem dX5_isDefault_26 : decode cX5_isDefault 26 = .ok (.iload_n 1, 1) := by decide +kernel
theorem dX5_isDefault_27 : decode cX5_isDefault 27 = .ok (.iconst 2, 1) := by decide +kernel
theorem dX5_isDefault_28 : decode cX5_isDefault 28 = .ok (.iadd, 1) := by decide +kernel
theorem dX5_isDefault_29 : decode cX5_isDefault 29 = .ok (.iaload, 1) := by decide +kernel
theorem dX5_isDefault_30 : decode cX5_isDefault 30 = .ok (.istore_n 2, 1) := by decide +kernel
theorem dX5_isDefault_31 : decode cX5_isDefault 31 = .ok (.aload_n 0, 1) := by decide +kernel
theorem dX5_isDefault_32 : decode cX5_isDefault 32 = .ok (.iload_n 2, 1) := by decide +kernel
theorem dX5_isDefault_33 : decode cX5_isDefault 33 = .ok (.invokestatic 93, 3) := by decide +kernel
theorem dX5_isDefault_36 : decode cX5_isDefault 36 = .ok (.iload_n 2, 1) := by decide +kernel
theorem dX5_isDefault_37 : decode cX5_isDefault 37 = .ok (.invokestatic 97, 3) := by decide +kernel
theorem dX5_isDefault_40 : decode cX5_isDefault 40 = .ok (.invokevirtual 166, 3) := by decide +kernel
theorem dX5_isDefault_43 : decode cX5_isDefault 43 = .ok (.istore_n 3, 1) := by decide +kernel
theorem dX5_isDefault_44 : decode cX5_isDefault 44 = .ok (.aload_n 0, 1) := by decide +kernel
theorem dX5_isDefault_45 : decode cX5_isDefault 45 = .ok (.getfield 32, 3) := by decide +kernel
theorem dX5_isDefault_48 : decode cX5_isDefault 48 = .ok (.iload_n 1, 1) := by decide +kernel
theorem dX5_isDefault_49 : decode cX5_isDefault 49 = .ok (.iconst 3, 1) := by decide +kernel
theorem dX5_isDefault_50 : decode cX5_isDefault 50 = .ok (.iadd, 1) := by decide +kernel
theorem dX5_isDefault_51 : decode cX5_isDefault 51 = .ok (.aload_n 0, 1) := by decide +kernel
theorem dX5_isDefault_52 : decode cX5_isDefault 52 = .ok (.getfield 141, 3) := by decide +kernel
theorem dX5_isDefault_55 : decode cX5_isDefault 55 = .ok (.iastore, 1) := by decide +kernel
theorem dX5_isDefault_56 : decode cX5_isDefault 56 = .ok (.iload_n 3, 1) := by decide +kernel
theorem dX5_isDefault_57 : decode cX5_isDefault 57 = .ok (.ireturn, 1) := by decide +kernel
set_option maxRecDepth 20000 in
theorem ggX5_isSetting_X5_isNext : GoodIn wsX5_isSetting wsX5_isNext := goodIn_r _ [7, 8, 9, 10, 6, 11, 12, 13, 14, 15, 16, 17, 18, 19, 20, 21, 22, 23, 24, 25, 2, 26, 27, 28, 29, 30, 31, 32, 33, 34, 35, 36, 37, 38, 39] (by decide +kernel) (by decide +kernel)
set_option maxRecDepth 20000 in
theorem gX5_isSetting_X5_isNext : GoodIn wsX5_isSetting (wsV RX5 166 RX5 yX5_isNext wsX5_isNext) := goodIn_app (goodIn_of _ (by decide +kernel)) ggX5_isSetting_X5_isNext
theorem dX5_isSetting_0 : decode cX5_isSetting 0 = .ok (.aload_n 0, 1) := by decide +kernel
theorem dX5_isSetting_1 : decode cX5_isSetting 1 = .ok (.iconst 0, 1) := by decide +kernel
theorem dX5_isSetting_2 : decode cX5_isSetting 2 = .ok (.bipush 7, 2) := by decide +kernel
theorem dX5_isSetting_4 : decode cX5_isSetting 4 = .ok (.invokevirtual 166, 3) := by decide +kernel
theorem dX5_isSetting_7 : decode cX5_isSetting 7 = .ok (.ifCond .ne 5, 3) := by decide +kernel
theorem dX5_isSetting_10 : decode cX5_isSetting 10 = .ok (.iconst 0, 1) := by decide +kernel
theorem dX5_isSetting_11 : decode cX5_isSetting 11 = .ok (.ireturn, 1) := by decide +kernel
theorem dX5_isSetting_12 : decode cX5_isSetting 12 = .ok (.aload_n 0, 1) := by decide +kernel
theorem dX5_isSetting_13 : decode cX5_isSetting 13 = .ok (.getfield 32, 3) := by decide +kernel
theorem dX5_isSetting_16 : decode cX5_isSetting 16 = .ok (.iload_n 1, 1) := by decide +kernel
theorem dX5_isSetting_17 : decode cX5_isSetting 17 = .ok (.iconst 2, 1) := by decide +kernel
theorem dX5_isSetting_18 : decode cX5_isSetting 18 = .ok (.iadd, 1) := by decide +kernel
theorem dX5_isSetting_19 : decode cX5_isSetting 19 = .ok (.aload_n 0, 1) := by decide +kernel
theorem dX5_isSetting_20 : decode cX5_isSetting 20 = .ok (.getfield 141, 3) := by decide +kernel
theorem dX5_isSetting_23 : decode cX5_isSetting 23 = .ok (.iastore, 1) := by decide +kernel
theorem dX5_isSetting_24 : decode cX5_isSetting 24 = .ok (.aload_n 0, 1) := by decide +kernel
theorem dX5_isSetting_25 : decode cX5_isSetting 25 = .ok (.sipush (-9999), 3) := by decide +kernel
theorem dX5_isSetting_28 : decode cX5_isSetting 28 = .ok (.sipush 9999, 3) := by decide +kernel
theorem dX5_isSetting_31 : decode cX5_isSetting 31 = .ok (.invokevirtual 166, 3) := by decide +kernel
theorem dX5_isSetting_34 : decode cX5_isSetting 34 = .ok (.istore_n 2, 1) := by decide +kernel
theorem dX5_isSetting_35 : decode cX5_isSetting 35 = .ok (.aload_n 0, 1) := by decide +kernel
theorem dX5_isSetting_36 : decode cX5_isSetting 36 = .ok (.getfield 32, 3) := by decide +kernel
theorem dX5_isSetting_39 : decode cX5_isSetting 39 = .ok (.iload_n 1, 1) := by decide +kernel
theorem dX5_isSetting_40 : decode cX5_isSetting 40 = .ok (.iconst 3, 1) := by decide +kernel
theorem dX5_isSetting_41 : decode cX5_isSetting 41 = .ok (.iadd, 1) := by decide +kernel
theorem dX5_isSetting_42 : decode cX5_isSetting 42 = .ok (.aload_n 0, 1) := by decide +kernel
theorem dX5_isSetting_43 : decode cX5_isSetting 43 = .ok (.getfield 141, 3) := by decide +kernel
theorem dX5_isSetting_46 : decode cX5_isSetting 46 = .ok (.iastore, 1) := by decide +kernel
theorem dX5_isSetting_47 : decode cX5_isSetting 47 = .ok (.iload_n 2, 1) := by decide +kernel
theorem dX5_isSetting_48 : decode cX5_isSetting 48 = .ok (.ireturn, 1) := by decide +kernel
set_option maxRecDepth 20000 in
theorem ggX5_isText_X5_isPart : GoodIn wsX5_isText wsX5_isPart := goodIn_r _ [8, 2, 9, 1, 3, 10, 11, 12, 13, 7, 14, 15, 16, 17, 18, 19, 20, 21, 22, 23, 24, 25, 26, 27, 28, 29, 30, 31, 32, 33, 34, 35, 36, 37, 38, 39, 40, 41, 42, 43, 44, 45, 46, 47, 48, 49, 50, 51, 52, 53, 54, 55, 56, 57, 58, 59, 60, 61, 62, 63, 64, 65, 66, 67, 68, 69, 70, 71, 72, 73, 74] (by decide +kernel) (by decide +kernel)
set_option maxRecDepth 20000 in
theorem gX5_isText_X5_isPart : GoodIn wsX5_isText (wsV RX5 173 RX5 yX5_isPart wsX5_isPart) := goodIn_app (goodIn_of _ (by decide +kernel)) ggX5_isText_X5_isPart
set_option maxRecDepth 20000 in
theorem ggX5_isText_X5_sign : GoodIn wsX5_isText wsX5_sign := goodIn_r _ [18, 1, 19, 20, 21, 7, 22, 3, 10, 23, 24, 25, 61, 62, 63, 64, 65, 66, 67, 68, 69, 70, 71, 72, 73, 74] (by decide +kernel) (by decide +kernel)
set_option maxRecDepth 20000 in
theorem gX5_isText_X5_sign : GoodIn wsX5_isText (wsV RX5 138 RX5 yX5_sign wsX5_sign) := goodIn_app (goodIn_of _ (by decide +kernel)) ggX5_isText_X5_sign
theorem dX5_isText_0 : decode cX5_isText 0 = .ok (.aload_n 0, 1) := by decide +kernel
theorem dX5_isText_1 : decode cX5_isText 1 = .ok (.iconst 0, 1) := by decide +kernel
theorem dX5_isText_2 : decode cX5_isText 2 = .ok (.putfield 131, 3) := by decide +kernel
theorem dX5_isText_5 : decode cX5_isText 5 = .ok (.aload_n 0, 1) := by decide +kernel
theorem dX5_isText_6 : decode cX5_isText 6 = .ok (.iconst 0, 1) := by decide +kernel
theorem dX5_isText_7 : decode cX5_isText 7 = .ok (.putfield 151, 3) := by decide +kernel
theorem dX5_isText_10 : decode cX5_isText 10 = .ok (.iconst 1, 1) := by decide +kernel
theorem dX5_isText_11 : decode cX5_isText 11 = .ok (.istore_n 1, 1) := by decide +kernel
theorem dX5_isText_12 : decode cX5_isText 12 = .ok (.iload_n 1, 1) := by decide +kernel
theorem dX5_isText_13 : decode cX5_isText 13 = .ok (.ifCond .eq 32, 3) := by decide +kernel
theorem dX5_isText_16 : decode cX5_isText 16 = .ok (.aload_n 0, 1) := by decide +kernel
theorem dX5_isText_17 : decode cX5_isText 17 = .ok (.invokevirtual 173, 3) := by decide +kernel
theorem dX5_isText_20 : decode cX5_isText 20 = .ok (.ifCond .ne 5, 3) := by decide +kernel
theorem dX5_isText_23 : decode cX5_isText 23 = .ok (.iconst 0, 1) := by decide +kernel
theorem dX5_isText_24 : decode cX5_isText 24 = .ok (.ireturn, 1) := by decide +kernel
theorem dX5_isText_25 : decode cX5_isText 25 = .ok (.aload_n 0, 1) := by decide +kernel
theorem dX5_isText_26 : decode cX5_isText 26 = .ok (.dup, 1) := by decide +kernel
theorem dX5_isText_27 : decode cX5_isText 27 = .ok (.getfield 151, 3) := by decide +kernel
theorem dX5_isText_30 : decode cX5_isText 30 = .ok (.iconst 1, 1) := by decide +kernel
theorem dX5_isText_31 : decode cX5_isText 31 = .ok (.iadd, 1) := by decide +kernel
theorem dX5_isText_32 : decode cX5_isText 32 = .ok (.putfield 151, 3) := by decide +kernel
theorem dX5_isText_35 : decode cX5_isText 35 = .ok (.aload_n 0, 1) := by decide +kernel
theorem dX5_isText_36 : decode cX5_isText 36 = .ok (.bipush 59, 2) := by decide +kernel
theorem dX5_isText_38 : decode cX5_isText 38 = .ok (.invokevirtual 138, 3) := by decide +kernel
theorem dX5_isText_41 : decode cX5_isText 41 = .ok (.istore_n 1, 1) := by decide +kernel
theorem dX5_isText_42 : decode cX5_isText 42 = .ok (.goto (-30), 3) := by decide +kernel
theorem dX5_isText_45 : decode cX5_isText 45 = .ok (.aload_n 0, 1) := by decide +kernel
theorem dX5_isText_46 : decode cX5_isText 46 = .ok (.getfield 131, 3) := by decide +kernel
theorem dX5_isText_49 : decode cX5_isText 49 = .ok (.aload_n 0, 1) := by decide +kernel
theorem dX5_isText_50 : decode cX5_isText 50 = .ok (.getfield 128, 3) := by decide +kernel
theorem dX5_isText_53 : decode cX5_isText 53 = .ok (.if_icmp .ne 7, 3) := by decide +kernel
theorem dX5_isText_56 : decode cX5_isText 56 = .ok (.iconst 1, 1) := by decide +kernel
theorem dX5_isText_57 : decode cX5_isText 57 = .ok (.goto 4, 3) := by decide +kernel
theorem dX5_isText_60 : decode cX5_isText 60 = .ok (.iconst 0, 1) := by decide +kernel
theorem dX5_isText_61 : decode cX5_isText 61 = .ok (.ireturn, 1) := by decide +kernel
set_option maxRecDepth 20000 in
theorem ggX5_does_X5_adds : GoodIn wsX5_does wsX5_adds := goodIn_r _ [4, 5, 6, 3, 7, 8, 9, 10] (by decide +kernel) (by decide +kernel)
set_option maxRecDepth 20000 in
theorem gX5_does_X5_adds : GoodIn wsX5_does (va_wsS RX5 100 yX5_adds wsX5_adds) := goodIn_app (goodIn_of _ (by decide +kernel)) ggX5_does_X5_adds
set_option maxRecDepth 20000 in
theorem ggX5_does_X5_turns : GoodIn wsX5_does wsX5_turns := goodIn_r _ [13, 5, 6, 3, 7, 14, 15, 16, 17, 18, 19, 8, 9, 10] (by decide +kernel) (by decide +kernel)
set_option maxRecDepth 20000 in
theorem gX5_does_X5_turns : GoodIn wsX5_does (va_wsS RX5 109 yX5_turns wsX5_turns) := goodIn_app (goodIn_of _ (by decide +kernel)) ggX5_does_X5_turns
set_option maxRecDepth 20000 in
theorem ggX5_does_X5_drops : GoodIn wsX5_does wsX5_drops := goodIn_r _ [22, 5, 6, 3, 7, 8, 9, 10] (by decide +kernel) (by decide +kernel)
set_option maxRecDepth 20000 in
theorem gX5_does_X5_drops : GoodIn wsX5_does (va_wsS RX5 106 yX5_drops wsX5_drops) := goodIn_app (goodIn_of _ (by decide +kernel)) ggX5_does_X5_drops
set_option maxRecDepth 20000 in
theorem ggX5_does_X5_writes : GoodIn wsX5_does wsX5_writes := goodIn_r _ [25, 5, 6, 3, 7, 14, 15, 16] (by decide +kernel) (by decide +kernel)
set_option maxRecDepth 20000 in
theorem gX5_does_X5_writes : GoodIn wsX5_does (va_wsS RX5 112 yX5_writes wsX5_writes) := goodIn_app (goodIn_of _ (by decide +kernel)) ggX5_does_X5_writes
set_option maxRecDepth 20000 in
theorem ggX5_does_X5_sets : GoodIn wsX5_does wsX5_sets := goodIn_r _ [28, 29, 30, 3, 31, 32, 33, 34, 35, 36, 37, 38, 39, 40, 41, 42, 43, 5, 6, 7, 44, 45, 46, 47, 48, 49, 50, 51, 52] (by decide +kernel) (by decide +kernel)
set_option maxRecDepth 20000 in
theorem gX5_does_X5_sets : GoodIn wsX5_does (va_wsS RX5 116 yX5_sets wsX5_sets) := goodIn_app (goodIn_of _ (by decide +kernel)) ggX5_does_X5_sets
theorem dX5_does_0 : decode cX5_does 0 = .ok (.iload_n 1, 1) := by decide +kernel
theorem dX5_does_1 : decode cX5_does 1 = .ok (.lookupswitch 70 #[(97, 43), (100, 59), (107, 52), (114, 65)], 43) := by decide +kernel
theorem dX5_does_44 : decode cX5_does 44 = .ok (.aload_n 0, 1) := by decide +kernel
theorem dX5_does_45 : decode cX5_does 45 = .ok (.iload_n 2, 1) := by decide +kernel
theorem dX5_does_46 : decode cX5_does 46 = .ok (.iload_n 3, 1) := by decide +kernel
theorem dX5_does_47 : decode cX5_does 47 = .ok (.iload 4, 2) := by decide +kernel
theorem dX5_does_49 : decode cX5_does 49 = .ok (.invokestatic 100, 3) := by decide +kernel
theorem dX5_does_52 : decode cX5_does 52 = .ok (.ireturn, 1) := by decide +kernel
theorem dX5_does_53 : decode cX5_does 53 = .ok (.aload_n 0, 1) := by decide +kernel
theorem dX5_does_54 : decode cX5_does 54 = .ok (.iload_n 2, 1) := by decide +kernel
theorem dX5_does_55 : decode cX5_does 55 = .ok (.iload_n 3, 1) := by decide +kernel
theorem dX5_does_56 : decode cX5_does 56 = .ok (.invokestatic 109, 3) := by decide +kernel
theorem dX5_does_59 : decode cX5_does 59 = .ok (.ireturn, 1) := by decide +kernel
theorem dX5_does_60 : decode cX5_does 60 = .ok (.aload_n 0, 1) := by decide +kernel
theorem dX5_does_61 : decode cX5_does 61 = .ok (.iload_n 2, 1) := by decide +kernel
theorem dX5_does_62 : decode cX5_does 62 = .ok (.invokestatic 106, 3) := by decide +kernel
theorem dX5_does_65 : decode cX5_does 65 = .ok (.ireturn, 1) := by decide +kernel
theorem dX5_does_66 : decode cX5_does 66 = .ok (.aload_n 0, 1) := by decide +kernel
theorem dX5_does_67 : decode cX5_does 67 = .ok (.invokestatic 112, 3) := by decide +kernel
theorem dX5_does_70 : decode cX5_does 70 = .ok (.ireturn, 1) := by decide +kernel
theorem dX5_does_71 : decode cX5_does 71 = .ok (.aload_n 0, 1) := by decide +kernel
theorem dX5_does_72 : decode cX5_does 72 = .ok (.iload_n 2, 1) := by decide +kernel
theorem dX5_does_73 : decode cX5_does 73 = .ok (.iload_n 3, 1) := by decide +kernel
theorem dX5_does_74 : decode cX5_does 74 = .ok (.iload 4, 2) := by decide +kernel
theorem dX5_does_76 : decode cX5_does 76 = .ok (.invokestatic 116, 3) := by decide +kernel
theorem dX5_does_79 : decode cX5_does 79 = .ok (.ireturn, 1) := by decide +kernel
set_option maxRecDepth 20000 in
theorem ggX5_perform_X5_isText : GoodIn wsX5_perform wsX5_isText := goodIn_r _ [12, 1, 4, 13, 14, 15, 16, 11, 17, 5, 18, 19, 20, 21, 22, 23, 24, 25, 26, 27, 28, 29, 30, 31, 32, 33, 34, 35, 36, 37, 38, 39, 40, 41, 42, 43, 44, 45, 46, 47, 48, 49, 50, 51, 52, 53, 54, 55, 56, 57, 58, 59, 60, 61, 62, 63, 64, 65, 66, 67, 68, 127, 128, 129, 130, 131, 132, 133, 134, 135, 136, 137, 138, 139, 140] (by decide +kernel) (by decide +kernel)
set_option maxRecDepth 20000 in
theorem gX5_perform_X5_isText : GoodIn wsX5_perform (wsV RX5 176 RX5 yX5_isText wsX5_isText) := goodIn_app (goodIn_of _ (by decide +kernel)) ggX5_perform_X5_isText
set_option maxRecDepth 20000 in
theorem ggX5_perform_X5_copies : GoodIn wsX5_perform wsX5_copies := goodIn_r _ [71] (by decide +kernel) (by decide +kernel)
set_option maxRecDepth 20000 in
theorem gX5_perform_X5_copies : GoodIn wsX5_perform (va_wsS RX5 42 yX5_copies wsX5_copies) := goodIn_app (goodIn_of _ (by decide +kernel)) ggX5_perform_X5_copies
set_option maxRecDepth 20000 in
theorem ggX5_perform_X5_does : GoodIn wsX5_perform wsX5_does := goodIn_r _ [74, 75, 76, 11, 77, 78, 79, 80, 81, 82, 83, 84, 85, 86, 87, 88, 89, 90, 91, 92, 93, 94, 95, 96, 97, 98, 99, 100, 101, 102, 103, 104, 31, 32, 33, 105, 106, 107, 108, 109, 110, 111, 112, 113, 59, 60, 61, 62, 63, 64, 114, 115, 116] (by decide +kernel) (by decide +kernel)
set_option maxRecDepth 20000 in
theorem gX5_perform_X5_does : GoodIn wsX5_perform (va_wsS RX5 179 yX5_does wsX5_does) := goodIn_app (goodIn_of _ (by decide +kernel)) ggX5_perform_X5_does
set_option maxRecDepth 20000 in
theorem ggX5_perform_X5_done : GoodIn wsX5_perform wsX5_done := goodIn_r _ [120, 3, 2, 121, 122, 123, 11, 124, 125, 126, 69, 70, 71, 127, 128, 129, 130, 131, 132, 133, 134, 135, 136, 137, 138, 139, 140] (by decide +kernel) (by decide +kernel)
set_option maxRecDepth 20000 in
theorem gX5_perform_X5_done : GoodIn wsX5_perform (wsV RX5 103 RX5 yX5_done wsX5_done) := goodIn_app (goodIn_of _ (by decide +kernel)) ggX5_perform_X5_done
theorem dX5_perform_0 : decode cX5_perform 0 = .ok (.aload_n 0, 1) := by decide +kernel
theorem dX5_perform_1 : decode cX5_perform 1 = .ok (.invokevirtual 176, 3) := by decide +kernel
theorem dX5_perform_4 : decode cX5_perform 4 = .ok (.ifCond .ne 12, 3) := by decide +kernel
theorem dX5_perform_7 : decode cX5_perform 7 = .ok (.sipush (-10100), 3) := by decide +kernel
theorem dX5_perform_10 : decode cX5_perform 10 = .ok (.aload_n 0, 1) := by decide +kernel
theorem dX5_perform_11 : decode cX5_perform 11 = .ok (.getfield 131, 3) := by decide +kernel
theorem dX5_perform_14 : decode cX5_perform 14 = .ok (.isub, 1) := by decide +kernel
theorem dX5_perform_15 : decode cX5_perform 15 = .ok (.ireturn, 1) := by decide +kernel
theorem dX5_perform_16 : decode cX5_perform 16 = .ok (.aload_n 0, 1) := by decide +kernel
theorem dX5_perform_17 : decode cX5_perform 17 = .ok (.getfield 7, 3) := by decide +kernel
theorem dX5_perform_20 : decode cX5_perform 20 = .ok (.iconst 0, 1) := by decide +kernel
theorem dX5_perform_21 : decode cX5_perform 21 = .ok (.aload_n 0, 1) := by decide +kernel
theorem dX5_perform_22 : decode cX5_perform 22 = .ok (.getfield 13, 3) := by decide +kernel
theorem dX5_perform_25 : decode cX5_perform 25 = .ok (.iconst 0, 1) := by decide +kernel
theorem dX5_perform_26 : decode cX5_perform 26 = .ok (.invokestatic 42, 3) := by decide +kernel
theorem dX5_perform_29 : decode cX5_perform 29 = .ok (.iconst 0, 1) := by decide +kernel
theorem dX5_perform_30 : decode cX5_perform 30 = .ok (.istore_n 1, 1) := by decide +kernel
theorem dX5_perform_31 : decode cX5_perform 31 = .ok (.iload_n 1, 1) := by decide +kernel
theorem dX5_perform_32 : decode cX5_perform 32 = .ok (.aload_n 0, 1) := by decide +kernel
theorem dX5_perform_33 : decode cX5_perform 33 = .ok (.getfield 151, 3) := by decide +kernel
theorem dX5_perform_36 : decode cX5_perform 36 = .ok (.if_icmp .ge 83, 3) := by decide +kernel
theorem dX5_perform_39 : decode cX5_perform 39 = .ok (.aload_n 0, 1) := by decide +kernel
theorem dX5_perform_40 : decode cX5_perform 40 = .ok (.getfield 13, 3) := by decide +kernel
theorem dX5_perform_43 : decode cX5_perform 43 = .ok (.aload_n 0, 1) := by decide +kernel
theorem dX5_perform_44 : decode cX5_perform 44 = .ok (.getfield 32, 3) := by decide +kernel
theorem dX5_perform_47 : decode cX5_perform 47 = .ok (.iconst 4, 1) := by decide +kernel
theorem dX5_perform_48 : decode cX5_perform 48 = .ok (.iload_n 1, 1) := by decide +kernel
theorem dX5_perform_49 : decode cX5_perform 49 = .ok (.imul, 1) := by decide +kernel
theorem dX5_perform_50 : decode cX5_perform 50 = .ok (.iaload, 1) := by decide +kernel
theorem dX5_perform_51 : decode cX5_perform 51 = .ok (.aload_n 0, 1) := by decide +kernel
theorem dX5_perform_52 : decode cX5_perform 52 = .ok (.getfield 32, 3) := by decide +kernel
theorem dX5_perform_55 : decode cX5_perform 55 = .ok (.iconst 4, 1) := by decide +kernel
theorem dX5_perform_56 : decode cX5_perform 56 = .ok (.iload_n 1, 1) := by decide +kernel
theorem dX5_perform_57 : decode cX5_perform 57 = .ok (.imul, 1) := by decide +kernel
theorem dX5_perform_58 : decode cX5_perform 58 = .ok (.iconst 1, 1) := by decide +kernel
theorem dX5_perform_59 : decode cX5_perform 59 = .ok (.iadd, 1) := by decide +kernel
theorem dX5_perform_60 : decode cX5_perform 60 = .ok (.iaload, 1) := by decide +kernel
theorem dX5_perform_61 : decode cX5_perform 61 = .ok (.aload_n 0, 1) := by decide +kernel
theorem dX5_perform_62 : decode cX5_perform 62 = .ok (.getfield 32, 3) := by decide +kernel
theorem dX5_perform_65 : decode cX5_perform 65 = .ok (.iconst 4, 1) := by decide +kernel
theorem dX5_perform_66 : decode cX5_perform 66 = .ok (.iload_n 1, 1) := by decide +kernel
theorem dX5_perform_67 : decode cX5_perform 67 = .ok (.imul, 1) := by decide +kernel
theorem dX5_perform_68 : decode cX5_perform 68 = .ok (.iconst 2, 1) := by decide +kernel
theorem dX5_perform_69 : decode cX5_perform 69 = .ok (.iadd, 1) := by decide +kernel
theorem dX5_perform_70 : decode cX5_perform 70 = .ok (.iaload, 1) := by decide +kernel
theorem dX5_perform_71 : decode cX5_perform 71 = .ok (.aload_n 0, 1) := by decide +kernel
theorem dX5_perform_72 : decode cX5_perform 72 = .ok (.getfield 32, 3) := by decide +kernel
theorem dX5_perform_75 : decode cX5_perform 75 = .ok (.iconst 4, 1) := by decide +kernel
theorem dX5_perform_76 : decode cX5_perform 76 = .ok (.iload_n 1, 1) := by decide +kernel
theorem dX5_perform_77 : decode cX5_perform 77 = .ok (.imul, 1) := by decide +kernel
theorem dX5_perform_78 : decode cX5_perform 78 = .ok (.iconst 3, 1) := by decide +kernel
theorem dX5_perform_79 : decode cX5_perform 79 = .ok (.iadd, 1) := by decide +kernel
theorem dX5_perform_80 : decode cX5_perform 80 = .ok (.iaload, 1) := by decide +kernel
theorem dX5_perform_81 : decode cX5_perform 81 = .ok (.invokestatic 179, 3) := by decide +kernel
theorem dX5_perform_84 : decode cX5_perform 84 = .ok (.istore_n 2, 1) := by decide +kernel
theorem dX5_perform_85 : decode cX5_perform 85 = .ok (.iload_n 2, 1) := by decide +kernel
theorem dX5_perform_86 : decode cX5_perform 86 = .ok (.sipush (-10001), 3) := by decide +kernel
theorem dX5_perform_89 : decode cX5_perform 89 = .ok (.if_icmp .gt 24, 3) := by decide +kernel
theorem dX5_perform_92 : decode cX5_perform 92 = .ok (.iload_n 2, 1) := by decide +kernel
theorem dX5_perform_93 : decode cX5_perform 93 = .ok (.sipush (-10005), 3) := by decide +kernel
theorem dX5_perform_96 : decode cX5_perform 96 = .ok (.if_icmp .eq 17, 3) := by decide +kernel
theorem dX5_perform_99 : decode cX5_perform 99 = .ok (.aload_n 0, 1) := by decide +kernel
theorem dX5_perform_100 : decode cX5_perform 100 = .ok (.iload_n 1, 1) := by decide +kernel
theorem dX5_perform_101 : decode cX5_perform 101 = .ok (.putfield 25, 3) := by decide +kernel
theorem dX5_perform_104 : decode cX5_perform 104 = .ok (.aload_n 0, 1) := by decide +kernel
theorem dX5_perform_105 : decode cX5_perform 105 = .ok (.iload_n 2, 1) := by decide +kernel
theorem dX5_perform_106 : decode cX5_perform 106 = .ok (.putfield 29, 3) := by decide +kernel
theorem dX5_perform_109 : decode cX5_perform 109 = .ok (.sipush (-10004), 3) := by decide +kernel
theorem dX5_perform_112 : decode cX5_perform 112 = .ok (.ireturn, 1) := by decide +kernel
theorem dX5_perform_113 : decode cX5_perform 113 = .ok (.iinc 1 1, 3) := by decide +kernel
theorem dX5_perform_116 : decode cX5_perform 116 = .ok (.goto (-85), 3) := by decide +kernel
theorem dX5_perform_119 : decode cX5_perform 119 = .ok (.aload_n 0, 1) := by decide +kernel
theorem dX5_perform_120 : decode cX5_perform 120 = .ok (.aload_n 0, 1) := by decide +kernel
theorem dX5_perform_121 : decode cX5_perform 121 = .ok (.getfield 151, 3) := by decide +kernel
theorem dX5_perform_124 : decode cX5_perform 124 = .ok (.invokevirtual 103, 3) := by decide +kernel
theorem dX5_perform_127 : decode cX5_perform 127 = .ok (.ireturn, 1) := by decide +kernel
theorem dX5_stopped_0 : decode cX5_stopped 0 = .ok (.iload_n 1, 1) := by decide +kernel
theorem dX5_stopped_1 : decode cX5_stopped 1 = .ok (.ifCond .ne 10, 3) := by decide +kernel
theorem dX5_stopped_4 : decode cX5_stopped 4 = .ok (.aload_n 0, 1) := by decide +kernel
theorem dX5_stopped_5 : decode cX5_stopped 5 = .ok (.getfield 25, 3) := by decide +kernel
theorem dX5_stopped_8 : decode cX5_stopped 8 = .ok (.goto 18, 3) := by decide +kernel
theorem dX5_stopped_11 : decode cX5_stopped 11 = .ok (.iload_n 1, 1) := by decide +kernel
theorem dX5_stopped_12 : decode cX5_stopped 12 = .ok (.iconst 1, 1) := by decide +kernel
theorem dX5_stopped_13 : decode cX5_stopped 13 = .ok (.if_icmp .ne 10, 3) := by decide +kernel
theorem dX5_stopped_16 : decode cX5_stopped 16 = .ok (.aload_n 0, 1) := by decide +kernel
theorem dX5_stopped_17 : decode cX5_stopped 17 = .ok (.getfield 29, 3) := by decide +kernel
theorem dX5_stopped_20 : decode cX5_stopped 20 = .ok (.goto 6, 3) := by decide +kernel
theorem dX5_stopped_23 : decode cX5_stopped 23 = .ok (.sipush (-10002), 3) := by decide +kernel
theorem dX5_stopped_26 : decode cX5_stopped 26 = .ok (.ireturn, 1) := by decide +kernel
set_option maxRecDepth 20000 in
theorem ggX5_column_X5_isSeason : GoodIn wsX5_column wsX5_isSeason := goodIn_r _ [6, 1, 7, 8, 5, 9, 19, 20, 21, 22, 23, 24, 25, 26, 27, 28, 29, 30, 31, 32] (by decide +kernel) (by decide +kernel)
set_option maxRecDepth 20000 in
theorem gX5_column_X5_isSeason : GoodIn wsX5_column (wsV RX5 183 RX5 yX5_isSeason wsX5_isSeason) := goodIn_app (goodIn_of _ (by decide +kernel)) ggX5_column_X5_isSeason
set_option maxRecDepth 20000 in
theorem ggX5_column_X5_isName : GoodIn wsX5_column wsX5_isName := goodIn_r _ [12, 7, 8, 5, 9] (by decide +kernel) (by decide +kernel)
set_option maxRecDepth 20000 in
theorem gX5_column_X5_isName : GoodIn wsX5_column (va_wsS RX5 89 yX5_isName wsX5_isName) := goodIn_app (goodIn_of _ (by decide +kernel)) ggX5_column_X5_isName
set_option maxRecDepth 20000 in
theorem ggX5_column_X5_in : GoodIn wsX5_column wsX5_in := goodIn_r _ [9] (by decide +kernel) (by decide +kernel)
set_option maxRecDepth 20000 in
theorem gX5_column_X5_in : GoodIn wsX5_column (va_wsS RX5 35 yX5_in wsX5_in) := goodIn_app (goodIn_of _ (by decide +kernel)) ggX5_column_X5_in
set_option maxRecDepth 20000 in
theorem ggX5_column_X5_kindOf : GoodIn wsX5_column wsX5_kindOf := goodIn_r _ [15] (by decide +kernel) (by decide +kernel)
set_option maxRecDepth 20000 in
theorem gX5_column_X5_kindOf : GoodIn wsX5_column (va_wsS RX5 61 yX5_kindOf wsX5_kindOf) := goodIn_app (goodIn_of _ (by decide +kernel)) ggX5_column_X5_kindOf
set_option maxRecDepth 20000 in
theorem ggX5_column_X5_standard : GoodIn wsX5_column wsX5_standard := goodIn_r _ [18] (by decide +kernel) (by decide +kernel)
set_option maxRecDepth 20000 in
theorem gX5_column_X5_standard : GoodIn wsX5_column (va_wsS RX5 78 yX5_standard wsX5_standard) := goodIn_app (goodIn_of _ (by decide +kernel)) ggX5_column_X5_standard
theorem dX5_column_0 : decode cX5_column 0 = .ok (.aload_n 0, 1) := by decide +kernel
theorem dX5_column_1 : decode cX5_column 1 = .ok (.iload_n 1, 1) := by decide +kernel
theorem dX5_column_2 : decode cX5_column 2 = .ok (.invokevirtual 183, 3) := by decide +kernel
theorem dX5_column_5 : decode cX5_column 5 = .ok (.ifCond .eq 10, 3) := by decide +kernel
theorem dX5_column_8 : decode cX5_column 8 = .ok (.iload_n 2, 1) := by decide +kernel
theorem dX5_column_9 : decode cX5_column 9 = .ok (.invokestatic 89, 3) := by decide +kernel
theorem dX5_column_12 : decode cX5_column 12 = .ok (.ifCond .ne 7, 3) := by decide +kernel
theorem dX5_column_15 : decode cX5_column 15 = .ok (.sipush (-10001), 3) := by decide +kernel
theorem dX5_column_18 : decode cX5_column 18 = .ok (.ireturn, 1) := by decide +kernel
theorem dX5_column_19 : decode cX5_column 19 = .ok (.iload_n 3, 1) := by decide +kernel
theorem dX5_column_20 : decode cX5_column 20 = .ok (.iconst 0, 1) := by decide +kernel
theorem dX5_column_21 : decode cX5_column 21 = .ok (.iconst 1, 1) := by decide +kernel
theorem dX5_column_22 : decode cX5_column 22 = .ok (.invokestatic 35, 3) := by decide +kernel
theorem dX5_column_25 : decode cX5_column 25 = .ok (.ifCond .ne 7, 3) := by decide +kernel
theorem dX5_column_28 : decode cX5_column 28 = .ok (.sipush (-10002), 3) := by decide +kernel
theorem dX5_column_31 : decode cX5_column 31 = .ok (.ireturn, 1) := by decide +kernel
theorem dX5_column_32 : decode cX5_column 32 = .ok (.aload_n 0, 1) := by decide +kernel
theorem dX5_column_33 : decode cX5_column 33 = .ok (.getfield 7, 3) := by decide +kernel
theorem dX5_column_36 : decode cX5_column 36 = .ok (.iload_n 1, 1) := by decide +kernel
theorem dX5_column_37 : decode cX5_column 37 = .ok (.iload_n 2, 1) := by decide +kernel
theorem dX5_column_38 : decode cX5_column 38 = .ok (.invokestatic 61, 3) := by decide +kernel
theorem dX5_column_41 : decode cX5_column 41 = .ok (.istore 4, 2) := by decide +kernel
theorem dX5_column_43 : decode cX5_column 43 = .ok (.iload 4, 2) := by decide +kernel
theorem dX5_column_45 : decode cX5_column 45 = .ok (.ifCond .ge 9, 3) := by decide +kernel
theorem dX5_column_48 : decode cX5_column 48 = .ok (.sipush (-10005), 3) := by decide +kernel
theorem dX5_column_51 : decode cX5_column 51 = .ok (.goto 21, 3) := by decide +kernel
theorem dX5_column_54 : decode cX5_column 54 = .ok (.iload_n 3, 1) := by decide +kernel
theorem dX5_column_55 : decode cX5_column 55 = .ok (.ifCond .ne 8, 3) := by decide +kernel
theorem dX5_column_58 : decode cX5_column 58 = .ok (.iload 4, 2) := by decide +kernel
theorem dX5_column_60 : decode cX5_column 60 = .ok (.goto 12, 3) := by decide +kernel
theorem dX5_column_63 : decode cX5_column 63 = .ok (.aload_n 0, 1) := by decide +kernel
theorem dX5_column_64 : decode cX5_column 64 = .ok (.getfield 7, 3) := by decide +kernel
theorem dX5_column_67 : decode cX5_column 67 = .ok (.iload_n 1, 1) := by decide +kernel
theorem dX5_column_68 : decode cX5_column 68 = .ok (.iload_n 2, 1) := by decide +kernel
theorem dX5_column_69 : decode cX5_column 69 = .ok (.invokestatic 78, 3) := by decide +kernel
theorem dX5_column_72 : decode cX5_column 72 = .ok (.ireturn, 1) := by decide +kernel
set_option maxRecDepth 20000 in
theorem ggX5_names_X5_kindOf : GoodIn wsX5_names wsX5_kindOf := goodIn_r _ [4] (by decide +kernel) (by decide +kernel)
set_option maxRecDepth 20000 in
theorem gX5_names_X5_kindOf : GoodIn wsX5_names (va_wsS RX5 61 yX5_kindOf wsX5_kindOf) := goodIn_app (goodIn_of _ (by decide +kernel)) ggX5_names_X5_kindOf
theorem dX5_names_0 : decode cX5_names 0 = .ok (.iconst 0, 1) := by decide +kernel
theorem dX5_names_1 : decode cX5_names 1 = .ok (.istore_n 2, 1) := by decide +kernel
theorem dX5_names_2 : decode cX5_names 2 = .ok (.iconst 0, 1) := by decide +kernel
theorem dX5_names_3 : decode cX5_names 3 = .ok (.istore_n 3, 1) := by decide +kernel
theorem dX5_names_4 : decode cX5_names 4 = .ok (.iload_n 3, 1) := by decide +kernel
theorem dX5_names_5 : decode cX5_names 5 = .ok (.bipush 8, 2) := by decide +kernel
theorem dX5_names_7 : decode cX5_names 7 = .ok (.if_icmp .ge 28, 3) := by decide +kernel
theorem dX5_names_10 : decode cX5_names 10 = .ok (.iload_n 2, 1) := by decide +kernel
theorem dX5_names_11 : decode cX5_names 11 = .ok (.aload_n 0, 1) := by decide +kernel
theorem dX5_names_12 : decode cX5_names 12 = .ok (.iload_n 1, 1) := by decide +kernel
theorem dX5_names_13 : decode cX5_names 13 = .ok (.iload_n 3, 1) := by decide +kernel
theorem dX5_names_14 : decode cX5_names 14 = .ok (.invokestatic 61, 3) := by decide +kernel
theorem dX5_names_17 : decode cX5_names 17 = .ok (.ifCond .ge 7, 3) := by decide +kernel
theorem dX5_names_20 : decode cX5_names 20 = .ok (.iconst 0, 1) := by decide +kernel
theorem dX5_names_21 : decode cX5_names 21 = .ok (.goto 6, 3) := by decide +kernel
theorem dX5_names_24 : decode cX5_names 24 = .ok (.iconst 1, 1) := by decide +kernel
theorem dX5_names_25 : decode cX5_names 25 = .ok (.iload_n 3, 1) := by decide +kernel
theorem dX5_names_26 : decode cX5_names 26 = .ok (.ishl, 1) := by decide +kernel
theorem dX5_names_27 : decode cX5_names 27 = .ok (.ior, 1) := by decide +kernel
theorem dX5_names_28 : decode cX5_names 28 = .ok (.istore_n 2, 1) := by decide +kernel
theorem dX5_names_29 : decode cX5_names 29 = .ok (.iinc 3 1, 3) := by decide +kernel
theorem dX5_names_32 : decode cX5_names 32 = .ok (.goto (-28), 3) := by decide +kernel
theorem dX5_names_35 : decode cX5_names 35 = .ok (.iload_n 2, 1) := by decide +kernel
theorem dX5_names_36 : decode cX5_names 36 = .ok (.ireturn, 1) := by decide +kernel
theorem dX5_ones_0 : decode cX5_ones 0 = .ok (.iconst 0, 1) := by decide +kernel
theorem dX5_ones_1 : decode cX5_ones 1 = .ok (.istore_n 1, 1) := by decide +kernel
theorem dX5_ones_2 : decode cX5_ones 2 = .ok (.iload_n 0, 1) := by decide +kernel
theorem dX5_ones_3 : decode cX5_ones 3 = .ok (.istore_n 2, 1) := by decide +kernel
theorem dX5_ones_4 : decode cX5_ones 4 = .ok (.iload_n 2, 1) := by decide +kernel
theorem dX5_ones_5 : decode cX5_ones 5 = .ok (.ifCond .eq 15, 3) := by decide +kernel
theorem dX5_ones_8 : decode cX5_ones 8 = .ok (.iinc 1 1, 3) := by decide +kernel
theorem dX5_ones_11 : decode cX5_ones 11 = .ok (.iload_n 2, 1) := by decide +kernel
theorem dX5_ones_12 : decode cX5_ones 12 = .ok (.iload_n 2, 1) := by decide +kernel
theorem dX5_ones_13 : decode cX5_ones 13 = .ok (.iconst 1, 1) := by decide +kernel
theorem dX5_ones_14 : decode cX5_ones 14 = .ok (.isub, 1) := by decide +kernel
theorem dX5_ones_15 : decode cX5_ones 15 = .ok (.iand, 1) := by decide +kernel
theorem dX5_ones_16 : decode cX5_ones 16 = .ok (.istore_n 2, 1) := by decide +kernel
theorem dX5_ones_17 : decode cX5_ones 17 = .ok (.goto (-13), 3) := by decide +kernel
theorem dX5_ones_20 : decode cX5_ones 20 = .ok (.iload_n 1, 1) := by decide +kernel
theorem dX5_ones_21 : decode cX5_ones 21 = .ok (.ireturn, 1) := by decide +kernel
set_option maxRecDepth 20000 in
theorem ggX5_news_X5_kindOf : GoodIn wsX5_news wsX5_kindOf := goodIn_r _ [5] (by decide +kernel) (by decide +kernel)
set_option maxRecDepth 20000 in
theorem gX5_news_X5_kindOf : GoodIn wsX5_news (va_wsS RX5 61 yX5_kindOf wsX5_kindOf) := goodIn_app (goodIn_of _ (by decide +kernel)) ggX5_news_X5_kindOf
theorem dX5_news_0 : decode cX5_news 0 = .ok (.iconst 0, 1) := by decide +kernel
theorem dX5_news_1 : decode cX5_news 1 = .ok (.istore_n 2, 1) := by decide +kernel
theorem dX5_news_2 : decode cX5_news 2 = .ok (.iconst 0, 1) := by decide +kernel
theorem dX5_news_3 : decode cX5_news 3 = .ok (.istore_n 3, 1) := by decide +kernel
theorem dX5_news_4 : decode cX5_news 4 = .ok (.iload_n 3, 1) := by decide +kernel
theorem dX5_news_5 : decode cX5_news 5 = .ok (.bipush 8, 2) := by decide +kernel
theorem dX5_news_7 : decode cX5_news 7 = .ok (.if_icmp .ge 53, 3) := by decide +kernel
theorem dX5_news_10 : decode cX5_news 10 = .ok (.iload_n 1, 1) := by decide +kernel
theorem dX5_news_11 : decode cX5_news 11 = .ok (.ifCond .le 49, 3) := by decide +kernel
theorem dX5_news_14 : decode cX5_news 14 = .ok (.aload_n 0, 1) := by decide +kernel
theorem dX5_news_15 : decode cX5_news 15 = .ok (.getfield 7, 3) := by decide +kernel
theorem dX5_news_18 : decode cX5_news 18 = .ok (.iload_n 1, 1) := by decide +kernel
theorem dX5_news_19 : decode cX5_news 19 = .ok (.iload_n 3, 1) := by decide +kernel
theorem dX5_news_20 : decode cX5_news 20 = .ok (.invokestatic 61, 3) := by decide +kernel
theorem dX5_news_23 : decode cX5_news 23 = .ok (.istore 4, 2) := by decide +kernel
theorem dX5_news_25 : decode cX5_news 25 = .ok (.iload_n 2, 1) := by decide +kernel
theorem dX5_news_26 : decode cX5_news 26 = .ok (.iload 4, 2) := by decide +kernel
theorem dX5_news_28 : decode cX5_news 28 = .ok (.ifCond .lt 23, 3) := by decide +kernel
theorem dX5_news_31 : decode cX5_news 31 = .ok (.iload 4, 2) := by decide +kernel
theorem dX5_news_33 : decode cX5_news 33 = .ok (.aload_n 0, 1) := by decide +kernel
theorem dX5_news_34 : decode cX5_news 34 = .ok (.getfield 7, 3) := by decide +kernel
theorem dX5_news_37 : decode cX5_news 37 = .ok (.iload_n 1, 1) := by decide +kernel
theorem dX5_news_38 : decode cX5_news 38 = .ok (.iconst 1, 1) := by decide +kernel
theorem dX5_news_39 : decode cX5_news 39 = .ok (.isub, 1) := by decide +kernel
theorem dX5_news_40 : decode cX5_news 40 = .ok (.iload_n 3, 1) := by decide +kernel
theorem dX5_news_41 : decode cX5_news 41 = .ok (.invokestatic 61, 3) := by decide +kernel
theorem dX5_news_44 : decode cX5_news 44 = .ok (.if_icmp .eq 7, 3) := by decide +kernel
theorem dX5_news_47 : decode cX5_news 47 = .ok (.iconst 1, 1) := by decide +kernel
theorem dX5_news_48 : decode cX5_news 48 = .ok (.goto 4, 3) := by decide +kernel
theorem dX5_news_51 : decode cX5_news 51 = .ok (.iconst 0, 1) := by decide +kernel
theorem dX5_news_52 : decode cX5_news 52 = .ok (.iadd, 1) := by decide +kernel
theorem dX5_news_53 : decode cX5_news 53 = .ok (.istore_n 2, 1) := by decide +kernel
theorem dX5_news_54 : decode cX5_news 54 = .ok (.iinc 3 1, 3) := by decide +kernel
theorem dX5_news_57 : decode cX5_news 57 = .ok (.goto (-53), 3) := by decide +kernel
theorem dX5_news_60 : decode cX5_news 60 = .ok (.iload_n 2, 1) := by decide +kernel
theorem dX5_news_61 : decode cX5_news 61 = .ok (.ireturn, 1) := by decide +kernel
set_option maxRecDepth 20000 in
theorem ggX5_season_X5_isSeason : GoodIn wsX5_season wsX5_isSeason := goodIn_r _ [6, 1, 7, 8, 5, 9, 30, 31, 32, 33, 34, 35, 36, 37, 38, 39, 40, 41, 42, 43] (by decide +kernel) (by decide +kernel)
set_option maxRecDepth 20000 in
theorem gX5_season_X5_isSeason : GoodIn wsX5_season (wsV RX5 183 RX5 yX5_isSeason wsX5_isSeason) := goodIn_app (goodIn_of _ (by decide +kernel)) ggX5_season_X5_isSeason
set_option maxRecDepth 20000 in
theorem ggX5_season_X5_names : GoodIn wsX5_season wsX5_names := goodIn_r _ [12, 13, 14, 5, 15] (by decide +kernel) (by decide +kernel)
set_option maxRecDepth 20000 in
theorem gX5_season_X5_names : GoodIn wsX5_season (va_wsS RX5 186 yX5_names wsX5_names) := goodIn_app (goodIn_of _ (by decide +kernel)) ggX5_season_X5_names
set_option maxRecDepth 20000 in
theorem ggX5_season_X5_ones : GoodIn wsX5_season wsX5_ones := goodIn_r _ [18] (by decide +kernel) (by decide +kernel)
set_option maxRecDepth 20000 in
theorem gX5_season_X5_ones : GoodIn wsX5_season (va_wsS RX5 189 yX5_ones wsX5_ones) := goodIn_app (goodIn_of _ (by decide +kernel)) ggX5_season_X5_ones
set_option maxRecDepth 20000 in
theorem ggX5_season_X5_wearers : GoodIn wsX5_season wsX5_wearers := goodIn_r _ [22, 1, 23, 24, 5, 25, 30, 31, 32, 33, 34, 35, 36, 37, 38, 39, 40, 41, 42, 43] (by decide +kernel) (by decide +kernel)
set_option maxRecDepth 20000 in
theorem gX5_season_X5_wearers : GoodIn wsX5_season (wsV RX5 125 RX5 yX5_wearers wsX5_wearers) := goodIn_app (goodIn_of _ (by decide +kernel)) ggX5_season_X5_wearers
set_option maxRecDepth 20000 in
theorem ggX5_season_X5_news : GoodIn wsX5_season wsX5_news := goodIn_r _ [29, 1, 13, 14, 5, 15, 30, 31, 32, 33, 34, 35, 36, 37, 38, 39, 40, 41, 42, 43] (by decide +kernel) (by decide +kernel)
set_option maxRecDepth 20000 in
theorem gX5_season_X5_news : GoodIn wsX5_season (wsV RX5 192 RX5 yX5_news wsX5_news) := goodIn_app (goodIn_of _ (by decide +kernel)) ggX5_season_X5_news
theorem dX5_season_0 : decode cX5_season 0 = .ok (.aload_n 0, 1) := by decide +kernel
theorem dX5_season_1 : decode cX5_season 1 = .ok (.iload_n 1, 1) := by decide +kernel
theorem dX5_season_2 : decode cX5_season 2 = .ok (.invokevirtual 183, 3) := by decide +kernel
theorem dX5_season_5 : decode cX5_season 5 = .ok (.ifCond .ne 7, 3) := by decide +kernel
theorem dX5_season_8 : decode cX5_season 8 = .ok (.sipush (-10001), 3) := by decide +kernel
theorem dX5_season_11 : decode cX5_season 11 = .ok (.ireturn, 1) := by decide +kernel
theorem dX5_season_12 : decode cX5_season 12 = .ok (.iload_n 2, 1) := by decide +kernel
theorem dX5_season_13 : decode cX5_season 13 = .ok (.tableswitch 64 0 3 #[31, 43, 52, 58], 31) := by decide +kernel
theorem dX5_season_44 : decode cX5_season 44 = .ok (.aload_n 0, 1) := by decide +kernel
theorem dX5_season_45 : decode cX5_season 45 = .ok (.getfield 7, 3) := by decide +kernel
theorem dX5_season_48 : decode cX5_season 48 = .ok (.iload_n 1, 1) := by decide +kernel
theorem dX5_season_49 : decode cX5_season 49 = .ok (.invokestatic 186, 3) := by decide +kernel
theorem dX5_season_52 : decode cX5_season 52 = .ok (.invokestatic 189, 3) := by decide +kernel
theorem dX5_season_55 : decode cX5_season 55 = .ok (.ireturn, 1) := by decide +kernel
theorem dX5_season_56 : decode cX5_season 56 = .ok (.aload_n 0, 1) := by decide +kernel
theorem dX5_season_57 : decode cX5_season 57 = .ok (.getfield 7, 3) := by decide +kernel
theorem dX5_season_60 : decode cX5_season 60 = .ok (.iload_n 1, 1) := by decide +kernel
theorem dX5_season_61 : decode cX5_season 61 = .ok (.invokestatic 186, 3) := by decide +kernel
theorem dX5_season_64 : decode cX5_season 64 = .ok (.ireturn, 1) := by decide +kernel
theorem dX5_season_65 : decode cX5_season 65 = .ok (.aload_n 0, 1) := by decide +kernel
theorem dX5_season_66 : decode cX5_season 66 = .ok (.iload_n 1, 1) := by decide +kernel
theorem dX5_season_67 : decode cX5_season 67 = .ok (.invokevirtual 125, 3) := by decide +kernel
theorem dX5_season_70 : decode cX5_season 70 = .ok (.ireturn, 1) := by decide +kernel
theorem dX5_season_71 : decode cX5_season 71 = .ok (.aload_n 0, 1) := by decide +kernel
theorem dX5_season_72 : decode cX5_season 72 = .ok (.iload_n 1, 1) := by decide +kernel
theorem dX5_season_73 : decode cX5_season 73 = .ok (.invokevirtual 192, 3) := by decide +kernel
theorem dX5_season_76 : decode cX5_season 76 = .ok (.ireturn, 1) := by decide +kernel
theorem dX5_season_77 : decode cX5_season 77 = .ok (.sipush (-10002), 3) := by decide +kernel
theorem dX5_season_80 : decode cX5_season 80 = .ok (.ireturn, 1) := by decide +kernel
set_option maxRecDepth 20000 in
theorem ggX5_value_X5_isRow : GoodIn wsX5_value wsX5_isRow := goodIn_r _ [5, 6, 7, 4, 8] (by decide +kernel) (by decide +kernel)
set_option maxRecDepth 20000 in
theorem gX5_value_X5_isRow : GoodIn wsX5_value (va_wsS RX5 85 yX5_isRow wsX5_isRow) := goodIn_app (goodIn_of _ (by decide +kernel)) ggX5_value_X5_isRow
set_option maxRecDepth 20000 in
theorem ggX5_value_X5_isName : GoodIn wsX5_value wsX5_isName := goodIn_r _ [11, 6, 7, 4, 8] (by decide +kernel) (by decide +kernel)
set_option maxRecDepth 20000 in
theorem gX5_value_X5_isName : GoodIn wsX5_value (va_wsS RX5 89 yX5_isName wsX5_isName) := goodIn_app (goodIn_of _ (by decide +kernel)) ggX5_value_X5_isName
set_option maxRecDepth 20000 in
theorem ggX5_value_X5_kindIn : GoodIn wsX5_value wsX5_kindIn := goodIn_r _ [14, 15, 16, 4, 17, 18, 19, 20] (by decide +kernel) (by decide +kernel)
set_option maxRecDepth 20000 in
theorem gX5_value_X5_kindIn : GoodIn wsX5_value (va_wsS RX5 65 yX5_kindIn wsX5_kindIn) := goodIn_app (goodIn_of _ (by decide +kernel)) ggX5_value_X5_kindIn
set_option maxRecDepth 20000 in
theorem ggX5_value_X5_valueOf : GoodIn wsX5_value wsX5_valueOf := goodIn_r _ [23] (by decide +kernel) (by decide +kernel)
set_option maxRecDepth 20000 in
theorem gX5_value_X5_valueOf : GoodIn wsX5_value (va_wsS RX5 68 yX5_valueOf wsX5_valueOf) := goodIn_app (goodIn_of _ (by decide +kernel)) ggX5_value_X5_valueOf
theorem dX5_value_0 : decode cX5_value 0 = .ok (.aload_n 0, 1) := by decide +kernel
theorem dX5_value_1 : decode cX5_value 1 = .ok (.getfield 7, 3) := by decide +kernel
theorem dX5_value_4 : decode cX5_value 4 = .ok (.iload_n 1, 1) := by decide +kernel
theorem dX5_value_5 : decode cX5_value 5 = .ok (.invokestatic 85, 3) := by decide +kernel
theorem dX5_value_8 : decode cX5_value 8 = .ok (.ifCond .eq 10, 3) := by decide +kernel
theorem dX5_value_11 : decode cX5_value 11 = .ok (.iload_n 2, 1) := by decide +kernel
theorem dX5_value_12 : decode cX5_value 12 = .ok (.invokestatic 89, 3) := by decide +kernel
theorem dX5_value_15 : decode cX5_value 15 = .ok (.ifCond .ne 7, 3) := by decide +kernel
theorem dX5_value_18 : decode cX5_value 18 = .ok (.sipush (-10001), 3) := by decide +kernel
theorem dX5_value_21 : decode cX5_value 21 = .ok (.ireturn, 1) := by decide +kernel
theorem dX5_value_22 : decode cX5_value 22 = .ok (.aload_n 0, 1) := by decide +kernel
theorem dX5_value_23 : decode cX5_value 23 = .ok (.getfield 7, 3) := by decide +kernel
theorem dX5_value_26 : decode cX5_value 26 = .ok (.iload_n 1, 1) := by decide +kernel
theorem dX5_value_27 : decode cX5_value 27 = .ok (.iload_n 2, 1) := by decide +kernel
theorem dX5_value_28 : decode cX5_value 28 = .ok (.invokestatic 65, 3) := by decide +kernel
theorem dX5_value_31 : decode cX5_value 31 = .ok (.ifCond .ge 9, 3) := by decide +kernel
theorem dX5_value_34 : decode cX5_value 34 = .ok (.sipush (-10005), 3) := by decide +kernel
theorem dX5_value_37 : decode cX5_value 37 = .ok (.goto 12, 3) := by decide +kernel
theorem dX5_value_40 : decode cX5_value 40 = .ok (.aload_n 0, 1) := by decide +kernel
theorem dX5_value_41 : decode cX5_value 41 = .ok (.getfield 7, 3) := by decide +kernel
theorem dX5_value_44 : decode cX5_value 44 = .ok (.iload_n 1, 1) := by decide +kernel
theorem dX5_value_45 : decode cX5_value 45 = .ok (.iload_n 2, 1) := by decide +kernel
theorem dX5_value_46 : decode cX5_value 46 = .ok (.invokestatic 68, 3) := by decide +kernel
theorem dX5_value_49 : decode cX5_value 49 = .ok (.ireturn, 1) := by decide +kernel
set_option maxRecDepth 20000 in
theorem ggX5_how_X5_kindIn : GoodIn wsX5_how wsX5_kindIn := goodIn_r _ [5, 6, 7, 4, 8, 9, 10, 11] (by decide +kernel) (by decide +kernel)
set_option maxRecDepth 20000 in
theorem gX5_how_X5_kindIn : GoodIn wsX5_how (va_wsS RX5 65 yX5_kindIn wsX5_kindIn) := goodIn_app (goodIn_of _ (by decide +kernel)) ggX5_how_X5_kindIn
set_option maxRecDepth 20000 in
theorem ggX5_how_X5_kindOf : GoodIn wsX5_how wsX5_kindOf := goodIn_r _ [11] (by decide +kernel) (by decide +kernel)
set_option maxRecDepth 20000 in
theorem gX5_how_X5_kindOf : GoodIn wsX5_how (va_wsS RX5 61 yX5_kindOf wsX5_kindOf) := goodIn_app (goodIn_of _ (by decide +kernel)) ggX5_how_X5_kindOf
set_option maxRecDepth 20000 in
theorem ggX5_how_X5_isLost : GoodIn wsX5_how wsX5_isLost := goodIn_r _ [14, 2, 3, 4, 5, 6, 7, 8, 9, 10, 11, 15, 16, 17, 18, 19, 20, 21, 22, 23] (by decide +kernel) (by decide +kernel)
set_option maxRecDepth 20000 in
theorem gX5_how_X5_isLost : GoodIn wsX5_how (va_wsS RX5 74 yX5_isLost wsX5_isLost) := goodIn_app (goodIn_of _ (by decide +kernel)) ggX5_how_X5_isLost
theorem dX5_how_0 : decode cX5_how 0 = .ok (.aload_n 0, 1) := by decide +kernel
theorem dX5_how_1 : decode cX5_how 1 = .ok (.getfield 7, 3) := by decide +kernel
theorem dX5_how_4 : decode cX5_how 4 = .ok (.iload_n 1, 1) := by decide +kernel
theorem dX5_how_5 : decode cX5_how 5 = .ok (.iload_n 3, 1) := by decide +kernel
theorem dX5_how_6 : decode cX5_how 6 = .ok (.invokestatic 65, 3) := by decide +kernel
theorem dX5_how_9 : decode cX5_how 9 = .ok (.istore 4, 2) := by decide +kernel
theorem dX5_how_11 : decode cX5_how 11 = .ok (.iload 4, 2) := by decide +kernel
theorem dX5_how_13 : decode cX5_how 13 = .ok (.ifCond .ge 7, 3) := by decide +kernel
theorem dX5_how_16 : decode cX5_how 16 = .ok (.iconst 3, 1) := by decide +kernel
theorem dX5_how_17 : decode cX5_how 17 = .ok (.goto 39, 3) := by decide +kernel
theorem dX5_how_20 : decode cX5_how 20 = .ok (.iload 4, 2) := by decide +kernel
theorem dX5_how_22 : decode cX5_how 22 = .ok (.aload_n 0, 1) := by decide +kernel
theorem dX5_how_23 : decode cX5_how 23 = .ok (.getfield 7, 3) := by decide +kernel
theorem dX5_how_26 : decode cX5_how 26 = .ok (.iload_n 2, 1) := by decide +kernel
theorem dX5_how_27 : decode cX5_how 27 = .ok (.iload_n 3, 1) := by decide +kernel
theorem dX5_how_28 : decode cX5_how 28 = .ok (.invokestatic 61, 3) := by decide +kernel
theorem dX5_how_31 : decode cX5_how 31 = .ok (.if_icmp .ne 7, 3) := by decide +kernel
theorem dX5_how_34 : decode cX5_how 34 = .ok (.iconst 0, 1) := by decide +kernel
theorem dX5_how_35 : decode cX5_how 35 = .ok (.goto 21, 3) := by decide +kernel
theorem dX5_how_38 : decode cX5_how 38 = .ok (.aload_n 0, 1) := by decide +kernel
theorem dX5_how_39 : decode cX5_how 39 = .ok (.getfield 7, 3) := by decide +kernel
theorem dX5_how_42 : decode cX5_how 42 = .ok (.iload_n 1, 1) := by decide +kernel
theorem dX5_how_43 : decode cX5_how 43 = .ok (.iload_n 2, 1) := by decide +kernel
theorem dX5_how_44 : decode cX5_how 44 = .ok (.iload_n 3, 1) := by decide +kernel
theorem dX5_how_45 : decode cX5_how 45 = .ok (.invokestatic 74, 3) := by decide +kernel
theorem dX5_how_48 : decode cX5_how 48 = .ok (.ifCond .eq 7, 3) := by decide +kernel
theorem dX5_how_51 : decode cX5_how 51 = .ok (.iconst 2, 1) := by decide +kernel
theorem dX5_how_52 : decode cX5_how 52 = .ok (.goto 4, 3) := by decide +kernel
theorem dX5_how_55 : decode cX5_how 55 = .ok (.iconst 1, 1) := by decide +kernel
theorem dX5_how_56 : decode cX5_how 56 = .ok (.ireturn, 1) := by decide +kernel
set_option maxRecDepth 20000 in
theorem ggX5_read_X5_isRow : GoodIn wsX5_read wsX5_isRow := goodIn_r _ [5, 6, 7, 4, 8] (by decide +kernel) (by decide +kernel)
set_option maxRecDepth 20000 in
theorem gX5_read_X5_isRow : GoodIn wsX5_read (va_wsS RX5 85 yX5_isRow wsX5_isRow) := goodIn_app (goodIn_of _ (by decide +kernel)) ggX5_read_X5_isRow
set_option maxRecDepth 20000 in
theorem ggX5_read_X5_isSeason : GoodIn wsX5_read wsX5_isSeason := goodIn_r _ [12, 1, 6, 7, 4, 8, 47, 48, 49, 50, 51, 52, 53, 54, 55, 56, 57, 58, 59, 60] (by decide +kernel) (by decide +kernel)
set_option maxRecDepth 20000 in
theorem gX5_read_X5_isSeason : GoodIn wsX5_read (wsV RX5 183 RX5 yX5_isSeason wsX5_isSeason) := goodIn_app (goodIn_of _ (by decide +kernel)) ggX5_read_X5_isSeason
set_option maxRecDepth 20000 in
theorem ggX5_read_X5_isName : GoodIn wsX5_read wsX5_isName := goodIn_r _ [15, 6, 7, 4, 8] (by decide +kernel) (by decide +kernel)
set_option maxRecDepth 20000 in
theorem gX5_read_X5_isName : GoodIn wsX5_read (va_wsS RX5 89 yX5_isName wsX5_isName) := goodIn_app (goodIn_of _ (by decide +kernel)) ggX5_read_X5_isName
set_option maxRecDepth 20000 in
theorem ggX5_read_X5_in : GoodIn wsX5_read wsX5_in := goodIn_r _ [8] (by decide +kernel) (by decide +kernel)
set_option maxRecDepth 20000 in
theorem gX5_read_X5_in : GoodIn wsX5_read (va_wsS RX5 35 yX5_in wsX5_in) := goodIn_app (goodIn_of _ (by decide +kernel)) ggX5_read_X5_in
set_option maxRecDepth 20000 in
theorem ggX5_read_X5_kindOf : GoodIn wsX5_read wsX5_kindOf := goodIn_r _ [18] (by decide +kernel) (by decide +kernel)
set_option maxRecDepth 20000 in
theorem gX5_read_X5_kindOf : GoodIn wsX5_read (va_wsS RX5 61 yX5_kindOf wsX5_kindOf) := goodIn_app (goodIn_of _ (by decide +kernel)) ggX5_read_X5_kindOf
set_option maxRecDepth 20000 in
theorem ggX5_read_X5_reads : GoodIn wsX5_read wsX5_reads := goodIn_r _ [21, 22, 23, 4, 24, 25, 26, 27, 16, 17, 18, 28, 29, 30, 31, 32, 33, 34, 35, 36] (by decide +kernel) (by decide +kernel)
set_option maxRecDepth 20000 in
theorem gX5_read_X5_reads : GoodIn wsX5_read (va_wsS RX5 122 yX5_reads wsX5_reads) := goodIn_app (goodIn_of _ (by decide +kernel)) ggX5_read_X5_reads
set_option maxRecDepth 20000 in
theorem ggX5_read_X5_how : GoodIn wsX5_read wsX5_how := goodIn_r _ [40, 1, 22, 23, 4, 24, 25, 26, 27, 16, 17, 18, 41, 42, 43, 31, 32, 33, 44, 45, 46, 34, 35, 36, 47, 48, 49, 50, 51, 52, 53, 54, 55, 56, 57, 58, 59, 60] (by decide +kernel) (by decide +kernel)
set_option maxRecDepth 20000 in
theorem gX5_read_X5_how : GoodIn wsX5_read (wsV RX5 195 RX5 yX5_how wsX5_how) := goodIn_app (goodIn_of _ (by decide +kernel)) ggX5_read_X5_how
theorem dX5_read_0 : decode cX5_read 0 = .ok (.aload_n 0, 1) := by decide +kernel
theorem dX5_read_1 : decode cX5_read 1 = .ok (.getfield 7, 3) := by decide +kernel
theorem dX5_read_4 : decode cX5_read 4 = .ok (.iload_n 1, 1) := by decide +kernel
theorem dX5_read_5 : decode cX5_read 5 = .ok (.invokestatic 85, 3) := by decide +kernel
theorem dX5_read_8 : decode cX5_read 8 = .ok (.ifCond .eq 18, 3) := by decide +kernel
theorem dX5_read_11 : decode cX5_read 11 = .ok (.aload_n 0, 1) := by decide +kernel
theorem dX5_read_12 : decode cX5_read 12 = .ok (.iload_n 2, 1) := by decide +kernel
theorem dX5_read_13 : decode cX5_read 13 = .ok (.invokevirtual 183, 3) := by decide +kernel
theorem dX5_read_16 : decode cX5_read 16 = .ok (.ifCond .eq 10, 3) := by decide +kernel
theorem dX5_read_19 : decode cX5_read 19 = .ok (.iload_n 3, 1) := by decide +kernel
theorem dX5_read_20 : decode cX5_read 20 = .ok (.invokestatic 89, 3) := by decide +kernel
theorem dX5_read_23 : decode cX5_read 23 = .ok (.ifCond .ne 7, 3) := by decide +kernel
theorem dX5_read_26 : decode cX5_read 26 = .ok (.sipush (-10001), 3) := by decide +kernel
theorem dX5_read_29 : decode cX5_read 29 = .ok (.ireturn, 1) := by decide +kernel
theorem dX5_read_30 : decode cX5_read 30 = .ok (.iload 4, 2) := by decide +kernel
theorem dX5_read_32 : decode cX5_read 32 = .ok (.iconst 0, 1) := by decide +kernel
theorem dX5_read_33 : decode cX5_read 33 = .ok (.iconst 1, 1) := by decide +kernel
theorem dX5_read_34 : decode cX5_read 34 = .ok (.invokestatic 35, 3) := by decide +kernel
theorem dX5_read_37 : decode cX5_read 37 = .ok (.ifCond .ne 7, 3) := by decide +kernel
theorem dX5_read_40 : decode cX5_read 40 = .ok (.sipush (-10002), 3) := by decide +kernel
theorem dX5_read_43 : decode cX5_read 43 = .ok (.ireturn, 1) := by decide +kernel
theorem dX5_read_44 : decode cX5_read 44 = .ok (.aload_n 0, 1) := by decide +kernel
theorem dX5_read_45 : decode cX5_read 45 = .ok (.getfield 7, 3) := by decide +kernel
theorem dX5_read_48 : decode cX5_read 48 = .ok (.iload_n 2, 1) := by decide +kernel
theorem dX5_read_49 : decode cX5_read 49 = .ok (.iload_n 3, 1) := by decide +kernel
theorem dX5_read_50 : decode cX5_read 50 = .ok (.invokestatic 61, 3) := by decide +kernel
theorem dX5_read_53 : decode cX5_read 53 = .ok (.ifCond .ge 7, 3) := by decide +kernel
theorem dX5_read_56 : decode cX5_read 56 = .ok (.sipush (-10005), 3) := by decide +kernel
theorem dX5_read_59 : decode cX5_read 59 = .ok (.ireturn, 1) := by decide +kernel
theorem dX5_read_60 : decode cX5_read 60 = .ok (.iload 4, 2) := by decide +kernel
theorem dX5_read_62 : decode cX5_read 62 = .ok (.ifCond .ne 16, 3) := by decide +kernel
theorem dX5_read_65 : decode cX5_read 65 = .ok (.aload_n 0, 1) := by decide +kernel
theorem dX5_read_66 : decode cX5_read 66 = .ok (.getfield 7, 3) := by decide +kernel
theorem dX5_read_69 : decode cX5_read 69 = .ok (.iload_n 1, 1) := by decide +kernel
theorem dX5_read_70 : decode cX5_read 70 = .ok (.iload_n 2, 1) := by decide +kernel
theorem dX5_read_71 : decode cX5_read 71 = .ok (.iload_n 3, 1) := by decide +kernel
theorem dX5_read_72 : decode cX5_read 72 = .ok (.invokestatic 122, 3) := by decide +kernel
theorem dX5_read_75 : decode cX5_read 75 = .ok (.goto 10, 3) := by decide +kernel
theorem dX5_read_78 : decode cX5_read 78 = .ok (.aload_n 0, 1) := by decide +kernel
theorem dX5_read_79 : decode cX5_read 79 = .ok (.iload_n 1, 1) := by decide +kernel
theorem dX5_read_80 : decode cX5_read 80 = .ok (.iload_n 2, 1) := by decide +kernel
theorem dX5_read_81 : decode cX5_read 81 = .ok (.iload_n 3, 1) := by decide +kernel
theorem dX5_read_82 : decode cX5_read 82 = .ok (.invokevirtual 195, 3) := by decide +kernel
theorem dX5_read_85 : decode cX5_read 85 = .ok (.ireturn, 1) := by decide +kernel
set_option maxRecDepth 20000 in
theorem ggX5_seasonOf_X5_isRow : GoodIn wsX5_seasonOf wsX5_isRow := goodIn_r _ [5, 6, 7, 4, 8] (by decide +kernel) (by decide +kernel)
set_option maxRecDepth 20000 in
theorem gX5_seasonOf_X5_isRow : GoodIn wsX5_seasonOf (va_wsS RX5 85 yX5_isRow wsX5_isRow) := goodIn_app (goodIn_of _ (by decide +kernel)) ggX5_seasonOf_X5_isRow
set_option maxRecDepth 20000 in
theorem ggX5_seasonOf_X5_seasonOfRow : GoodIn wsX5_seasonOf wsX5_seasonOfRow := goodIn_r _ [11] (by decide +kernel) (by decide +kernel)
set_option maxRecDepth 20000 in
theorem gX5_seasonOf_X5_seasonOfRow : GoodIn wsX5_seasonOf (va_wsS RX5 57 yX5_seasonOfRow wsX5_seasonOfRow) := goodIn_app (goodIn_of _ (by decide +kernel)) ggX5_seasonOf_X5_seasonOfRow
theorem dX5_seasonOf_0 : decode cX5_seasonOf 0 = .ok (.aload_n 0, 1) := by decide +kernel
theorem dX5_seasonOf_1 : decode cX5_seasonOf 1 = .ok (.getfield 7, 3) := by decide +kernel
theorem dX5_seasonOf_4 : decode cX5_seasonOf 4 = .ok (.iload_n 1, 1) := by decide +kernel
theorem dX5_seasonOf_5 : decode cX5_seasonOf 5 = .ok (.invokestatic 85, 3) := by decide +kernel
theorem dX5_seasonOf_8 : decode cX5_seasonOf 8 = .ok (.ifCond .eq 14, 3) := by decide +kernel
theorem dX5_seasonOf_11 : decode cX5_seasonOf 11 = .ok (.aload_n 0, 1) := by decide +kernel
theorem dX5_seasonOf_12 : decode cX5_seasonOf 12 = .ok (.getfield 7, 3) := by decide +kernel
theorem dX5_seasonOf_15 : decode cX5_seasonOf 15 = .ok (.iload_n 1, 1) := by decide +kernel
theorem dX5_seasonOf_16 : decode cX5_seasonOf 16 = .ok (.invokestatic 57, 3) := by decide +kernel
theorem dX5_seasonOf_19 : decode cX5_seasonOf 19 = .ok (.goto 6, 3) := by decide +kernel
theorem dX5_seasonOf_22 : decode cX5_seasonOf 22 = .ok (.sipush (-10001), 3) := by decide +kernel
theorem dX5_seasonOf_25 : decode cX5_seasonOf 25 = .ok (.ireturn, 1) := by decide +kernel
set_option maxRecDepth 20000 in
theorem ggX5_common_X5_seasonOfRow : GoodIn wsX5_common wsX5_seasonOfRow := goodIn_r _ [5] (by decide +kernel) (by decide +kernel)
set_option maxRecDepth 20000 in
theorem gX5_common_X5_seasonOfRow : GoodIn wsX5_common (va_wsS RX5 57 yX5_seasonOfRow wsX5_seasonOfRow) := goodIn_app (goodIn_of _ (by decide +kernel)) ggX5_common_X5_seasonOfRow
set_option maxRecDepth 20000 in
theorem ggX5_common_X5_names : GoodIn wsX5_common wsX5_names := goodIn_r _ [8, 9, 10, 4, 11] (by decide +kernel) (by decide +kernel)
set_option maxRecDepth 20000 in
theorem gX5_common_X5_names : GoodIn wsX5_common (va_wsS RX5 186 yX5_names wsX5_names) := goodIn_app (goodIn_of _ (by decide +kernel)) ggX5_common_X5_names
theorem dX5_common_0 : decode cX5_common 0 = .ok (.iload_n 1, 1) := by decide +kernel
theorem dX5_common_1 : decode cX5_common 1 = .ok (.iload_n 2, 1) := by decide +kernel
theorem dX5_common_2 : decode cX5_common 2 = .ok (.if_icmp .le 7, 3) := by decide +kernel
theorem dX5_common_5 : decode cX5_common 5 = .ok (.iconst 0, 1) := by decide +kernel
theorem dX5_common_6 : decode cX5_common 6 = .ok (.goto 6, 3) := by decide +kernel
theorem dX5_common_9 : decode cX5_common 9 = .ok (.sipush 255, 3) := by decide +kernel
theorem dX5_common_12 : decode cX5_common 12 = .ok (.istore_n 3, 1) := by decide +kernel
theorem dX5_common_13 : decode cX5_common 13 = .ok (.iload_n 1, 1) := by decide +kernel
theorem dX5_common_14 : decode cX5_common 14 = .ok (.istore 4, 2) := by decide +kernel
theorem dX5_common_16 : decode cX5_common 16 = .ok (.iload 4, 2) := by decide +kernel
theorem dX5_common_18 : decode cX5_common 18 = .ok (.iload_n 2, 1) := by decide +kernel
theorem dX5_common_19 : decode cX5_common 19 = .ok (.if_icmp .gt 28, 3) := by decide +kernel
theorem dX5_common_22 : decode cX5_common 22 = .ok (.iload_n 3, 1) := by decide +kernel
theorem dX5_common_23 : decode cX5_common 23 = .ok (.aload_n 0, 1) := by decide +kernel
theorem dX5_common_24 : decode cX5_common 24 = .ok (.getfield 7, 3) := by decide +kernel
theorem dX5_common_27 : decode cX5_common 27 = .ok (.aload_n 0, 1) := by decide +kernel
theorem dX5_common_28 : decode cX5_common 28 = .ok (.getfield 7, 3) := by decide +kernel
theorem dX5_common_31 : decode cX5_common 31 = .ok (.iload 4, 2) := by decide +kernel
theorem dX5_common_33 : decode cX5_common 33 = .ok (.invokestatic 57, 3) := by decide +kernel
theorem dX5_common_36 : decode cX5_common 36 = .ok (.invokestatic 186, 3) := by decide +kernel
theorem dX5_common_39 : decode cX5_common 39 = .ok (.iand, 1) := by decide +kernel
theorem dX5_common_40 : decode cX5_common 40 = .ok (.istore_n 3, 1) := by decide +kernel
theorem dX5_common_41 : decode cX5_common 41 = .ok (.iinc 4 1, 3) := by decide +kernel
theorem dX5_common_44 : decode cX5_common 44 = .ok (.goto (-28), 3) := by decide +kernel
theorem dX5_common_47 : decode cX5_common 47 = .ok (.iload_n 3, 1) := by decide +kernel
theorem dX5_common_48 : decode cX5_common 48 = .ok (.ireturn, 1) := by decide +kernel
set_option maxRecDepth 20000 in
theorem ggX5_standards_X5_common : GoodIn wsX5_standards wsX5_common := goodIn_r _ [6, 1, 7, 8, 5, 9, 10, 11, 12, 13, 14, 15, 22, 23, 24, 25, 26, 27, 28, 29, 30, 31, 32, 33, 34, 35] (by decide +kernel) (by decide +kernel)
set_option maxRecDepth 20000 in
theorem gX5_standards_X5_common : GoodIn wsX5_standards (wsV RX5 199 RX5 yX5_common wsX5_common) := goodIn_app (goodIn_of _ (by decide +kernel)) ggX5_standards_X5_common
set_option maxRecDepth 20000 in
theorem ggX5_standards_X5_kindOf : GoodIn wsX5_standards wsX5_kindOf := goodIn_r _ [15] (by decide +kernel) (by decide +kernel)
set_option maxRecDepth 20000 in
theorem gX5_standards_X5_kindOf : GoodIn wsX5_standards (va_wsS RX5 61 yX5_kindOf wsX5_kindOf) := goodIn_app (goodIn_of _ (by decide +kernel)) ggX5_standards_X5_kindOf
set_option maxRecDepth 20000 in
theorem ggX5_standards_X5_valueOf : GoodIn wsX5_standards wsX5_valueOf := goodIn_r _ [18] (by decide +kernel) (by decide +kernel)
set_option maxRecDepth 20000 in
theorem gX5_standards_X5_valueOf : GoodIn wsX5_standards (va_wsS RX5 68 yX5_valueOf wsX5_valueOf) := goodIn_app (goodIn_of _ (by decide +kernel)) ggX5_standards_X5_valueOf
set_option maxRecDepth 20000 in
theorem ggX5_standards_X5_standard : GoodIn wsX5_standards wsX5_standard := goodIn_r _ [21] (by decide +kernel) (by decide +kernel)
set_option maxRecDepth 20000 in
theorem gX5_standards_X5_standard : GoodIn wsX5_standards (va_wsS RX5 78 yX5_standard wsX5_standard) := goodIn_app (goodIn_of _ (by decide +kernel)) ggX5_standards_X5_standard
theorem dX5_standards_0 : decode cX5_standards 0 = .ok (.aload_n 0, 1) := by decide +kernel
theorem dX5_standards_1 : decode cX5_standards 1 = .ok (.iload_n 1, 1) := by decide +kernel
theorem dX5_standards_2 : decode cX5_standards 2 = .ok (.iload_n 2, 1) := by decide +kernel
theorem dX5_standards_3 : decode cX5_standards 3 = .ok (.invokevirtual 199, 3) := by decide +kernel
theorem dX5_standards_6 : decode cX5_standards 6 = .ok (.istore_n 3, 1) := by decide +kernel
theorem dX5_standards_7 : decode cX5_standards 7 = .ok (.iconst 0, 1) := by decide +kernel
theorem dX5_standards_8 : decode cX5_standards 8 = .ok (.istore 4, 2) := by decide +kernel
theorem dX5_standards_10 : decode cX5_standards 10 = .ok (.iconst 0, 1) := by decide +kernel
theorem dX5_standards_11 : decode cX5_standards 11 = .ok (.istore 5, 2) := by decide +kernel
theorem dX5_standards_13 : decode cX5_standards 13 = .ok (.iload 5, 2) := by decide +kernel
theorem dX5_standards_15 : decode cX5_standards 15 = .ok (.bipush 8, 2) := by decide +kernel
theorem dX5_standards_17 : decode cX5_standards 17 = .ok (.if_icmp .ge 107, 3) := by decide +kernel
theorem dX5_standards_20 : decode cX5_standards 20 = .ok (.iload_n 3, 1) := by decide +kernel
theorem dX5_standards_21 : decode cX5_standards 21 = .ok (.iload 5, 2) := by decide +kernel
theorem dX5_standards_23 : decode cX5_standards 23 = .ok (.ishr, 1) := by decide +kernel
theorem dX5_standards_24 : decode cX5_standards 24 = .ok (.iconst 1, 1) := by decide +kernel
theorem dX5_standards_25 : decode cX5_standards 25 = .ok (.iand, 1) := by decide +kernel
theorem dX5_standards_26 : decode cX5_standards 26 = .ok (.iconst 1, 1) := by decide +kernel
theorem dX5_standards_27 : decode cX5_standards 27 = .ok (.if_icmp .ne 27, 3) := by decide +kernel
theorem dX5_standards_30 : decode cX5_standards 30 = .ok (.aload_n 0, 1) := by decide +kernel
theorem dX5_standards_31 : decode cX5_standards 31 = .ok (.getfield 7, 3) := by decide +kernel
theorem dX5_standards_34 : decode cX5_standards 34 = .ok (.aload_n 0, 1) := by decide +kernel
theorem dX5_standards_35 : decode cX5_standards 35 = .ok (.getfield 7, 3) := by decide +kernel
theorem dX5_standards_38 : decode cX5_standards 38 = .ok (.iconst 0, 1) := by decide +kernel
theorem dX5_standards_39 : decode cX5_standards 39 = .ok (.iaload, 1) := by decide +kernel
theorem dX5_standards_40 : decode cX5_standards 40 = .ok (.iconst 1, 1) := by decide +kernel
theorem dX5_standards_41 : decode cX5_standards 41 = .ok (.isub, 1) := by decide +kernel
theorem dX5_standards_42 : decode cX5_standards 42 = .ok (.iload 5, 2) := by decide +kernel
theorem dX5_standards_44 : decode cX5_standards 44 = .ok (.invokestatic 61, 3) := by decide +kernel
theorem dX5_standards_47 : decode cX5_standards 47 = .ok (.ifCond .lt 7, 3) := by decide +kernel
theorem dX5_standards_50 : decode cX5_standards 50 = .ok (.iconst 1, 1) := by decide +kernel
theorem dX5_standards_51 : decode cX5_standards 51 = .ok (.goto 4, 3) := by decide +kernel
theorem dX5_standards_54 : decode cX5_standards 54 = .ok (.iconst 0, 1) := by decide +kernel
theorem dX5_standards_55 : decode cX5_standards 55 = .ok (.istore 6, 2) := by decide +kernel
theorem dX5_standards_57 : decode cX5_standards 57 = .ok (.iload_n 1, 1) := by decide +kernel
theorem dX5_standards_58 : decode cX5_standards 58 = .ok (.istore 7, 2) := by decide +kernel
theorem dX5_standards_60 : decode cX5_standards 60 = .ok (.iload 7, 2) := by decide +kernel
theorem dX5_standards_62 : decode cX5_standards 62 = .ok (.iload_n 2, 1) := by decide +kernel
theorem dX5_standards_63 : decode cX5_standards 63 = .ok (.if_icmp .gt 55, 3) := by decide +kernel
theorem dX5_standards_66 : decode cX5_standards 66 = .ok (.iload 6, 2) := by decide +kernel
theorem dX5_standards_68 : decode cX5_standards 68 = .ok (.ifCond .eq 50, 3) := by decide +kernel
theorem dX5_standards_71 : decode cX5_standards 71 = .ok (.iload 4, 2) := by decide +kernel
theorem dX5_standards_73 : decode cX5_standards 73 = .ok (.aload_n 0, 1) := by decide +kernel
theorem dX5_standards_74 : decode cX5_standards 74 = .ok (.getfield 7, 3) := by decide +kernel
theorem dX5_standards_77 : decode cX5_standards 77 = .ok (.iload 7, 2) := by decide +kernel
theorem dX5_standards_79 : decode cX5_standards 79 = .ok (.iload 5, 2) := by decide +kernel
theorem dX5_standards_81 : decode cX5_standards 81 = .ok (.invokestatic 68, 3) := by decide +kernel
theorem dX5_standards_84 : decode cX5_standards 84 = .ok (.aload_n 0, 1) := by decide +kernel
theorem dX5_standards_85 : decode cX5_standards 85 = .ok (.getfield 7, 3) := by decide +kernel
theorem dX5_standards_88 : decode cX5_standards 88 = .ok (.aload_n 0, 1) := by decide +kernel
theorem dX5_standards_89 : decode cX5_standards 89 = .ok (.getfield 7, 3) := by decide +kernel
theorem dX5_standards_92 : decode cX5_standards 92 = .ok (.iconst 0, 1) := by decide +kernel
theorem dX5_standards_93 : decode cX5_standards 93 = .ok (.iaload, 1) := by decide +kernel
theorem dX5_standards_94 : decode cX5_standards 94 = .ok (.iconst 1, 1) := by decide +kernel
theorem dX5_standards_95 : decode cX5_standards 95 = .ok (.isub, 1) := by decide +kernel
theorem dX5_standards_96 : decode cX5_standards 96 = .ok (.iload 5, 2) := by decide +kernel
theorem dX5_standards_98 : decode cX5_standards 98 = .ok (.invokestatic 78, 3) := by decide +kernel
theorem dX5_standards_101 : decode cX5_standards 101 = .ok (.if_icmp .ne 7, 3) := by decide +kernel
theorem dX5_standards_104 : decode cX5_standards 104 = .ok (.iconst 1, 1) := by decide +kernel
theorem dX5_standards_105 : decode cX5_standards 105 = .ok (.goto 4, 3) := by decide +kernel
theorem dX5_standards_108 : decode cX5_standards 108 = .ok (.iconst 0, 1) := by decide +kernel
theorem dX5_standards_109 : decode cX5_standards 109 = .ok (.iadd, 1) := by decide +kernel
theorem dX5_standards_110 : decode cX5_standards 110 = .ok (.istore 4, 2) := by decide +kernel
theorem dX5_standards_112 : decode cX5_standards 112 = .ok (.iinc 7 1, 3) := by decide +kernel
theorem dX5_standards_115 : decode cX5_standards 115 = .ok (.goto (-55), 3) := by decide +kernel
theorem dX5_standards_118 : decode cX5_standards 118 = .ok (.iinc 5 1, 3) := by decide +kernel
theorem dX5_standards_121 : decode cX5_standards 121 = .ok (.goto (-108), 3) := by decide +kernel
theorem dX5_standards_124 : decode cX5_standards 124 = .ok (.iload 4, 2) := by decide +kernel
theorem dX5_standards_126 : decode cX5_standards 126 = .ok (.ireturn, 1) := by decide +kernel
set_option maxRecDepth 20000 in
theorem ggX5_view_X5_isRow : GoodIn wsX5_view wsX5_isRow := goodIn_r _ [5, 6, 7, 4, 8] (by decide +kernel) (by decide +kernel)
set_option maxRecDepth 20000 in
theorem gX5_view_X5_isRow : GoodIn wsX5_view (va_wsS RX5 85 yX5_isRow wsX5_isRow) := goodIn_app (goodIn_of _ (by decide +kernel)) ggX5_view_X5_isRow
set_option maxRecDepth 20000 in
theorem ggX5_view_X5_common : GoodIn wsX5_view wsX5_common := goodIn_r _ [12, 1, 13, 14, 4, 15, 16, 17, 18, 19, 20, 21, 32, 33, 34, 35, 36, 37, 38, 39, 40, 41, 42, 43, 44, 45] (by decide +kernel) (by decide +kernel)
set_option maxRecDepth 20000 in
theorem gX5_view_X5_common : GoodIn wsX5_view (wsV RX5 199 RX5 yX5_common wsX5_common) := goodIn_app (goodIn_of _ (by decide +kernel)) ggX5_view_X5_common
set_option maxRecDepth 20000 in
theorem ggX5_view_X5_standards : GoodIn wsX5_view wsX5_standards := goodIn_r _ [25, 1, 9, 10, 11, 4, 12, 13, 14, 15, 16, 17, 18, 19, 20, 21, 26, 27, 28, 29, 30, 31, 32, 33, 34, 35, 36, 37, 38, 39, 40, 41, 42, 43, 44, 45] (by decide +kernel) (by decide +kernel)
set_option maxRecDepth 20000 in
theorem gX5_view_X5_standards : GoodIn wsX5_view (wsV RX5 202 RX5 yX5_standards wsX5_standards) := goodIn_app (goodIn_of _ (by decide +kernel)) ggX5_view_X5_standards
theorem dX5_view_0 : decode cX5_view 0 = .ok (.aload_n 0, 1) := by decide +kernel
theorem dX5_view_1 : decode cX5_view 1 = .ok (.getfield 7, 3) := by decide +kernel
theorem dX5_view_4 : decode cX5_view 4 = .ok (.iload_n 1, 1) := by decide +kernel
theorem dX5_view_5 : decode cX5_view 5 = .ok (.invokestatic 85, 3) := by decide +kernel
theorem dX5_view_8 : decode cX5_view 8 = .ok (.ifCond .eq 14, 3) := by decide +kernel
theorem dX5_view_11 : decode cX5_view 11 = .ok (.aload_n 0, 1) := by decide +kernel
theorem dX5_view_12 : decode cX5_view 12 = .ok (.getfield 7, 3) := by decide +kernel
theorem dX5_view_15 : decode cX5_view 15 = .ok (.iload_n 2, 1) := by decide +kernel
theorem dX5_view_16 : decode cX5_view 16 = .ok (.invokestatic 85, 3) := by decide +kernel
theorem dX5_view_19 : decode cX5_view 19 = .ok (.ifCond .ne 7, 3) := by decide +kernel
theorem dX5_view_22 : decode cX5_view 22 = .ok (.sipush (-10001), 3) := by decide +kernel
theorem dX5_view_25 : decode cX5_view 25 = .ok (.ireturn, 1) := by decide +kernel
theorem dX5_view_26 : decode cX5_view 26 = .ok (.iload_n 3, 1) := by decide +kernel
theorem dX5_view_27 : decode cX5_view 27 = .ok (.tableswitch 54 0 2 #[25, 32, 47], 25) := by decide +kernel
theorem dX5_view_52 : decode cX5_view 52 = .ok (.aload_n 0, 1) := by decide +kernel
theorem dX5_view_53 : decode cX5_view 53 = .ok (.iload_n 1, 1) := by decide +kernel
theorem dX5_view_54 : decode cX5_view 54 = .ok (.iload_n 2, 1) := by decide +kernel
theorem dX5_view_55 : decode cX5_view 55 = .ok (.invokevirtual 199, 3) := by decide +kernel
theorem dX5_view_58 : decode cX5_view 58 = .ok (.ireturn, 1) := by decide +kernel
theorem dX5_view_59 : decode cX5_view 59 = .ok (.iload_n 2, 1) := by decide +kernel
theorem dX5_view_60 : decode cX5_view 60 = .ok (.iload_n 1, 1) := by decide +kernel
theorem dX5_view_61 : decode cX5_view 61 = .ok (.if_icmp .ge 7, 3) := by decide +kernel
theorem dX5_view_64 : decode cX5_view 64 = .ok (.iconst 0, 1) := by decide +kernel
theorem dX5_view_65 : decode cX5_view 65 = .ok (.goto 8, 3) := by decide +kernel
theorem dX5_view_68 : decode cX5_view 68 = .ok (.iload_n 2, 1) := by decide +kernel
theorem dX5_view_69 : decode cX5_view 69 = .ok (.iload_n 1, 1) := by decide +kernel
theorem dX5_view_70 : decode cX5_view 70 = .ok (.isub, 1) := by decide +kernel
theorem dX5_view_71 : decode cX5_view 71 = .ok (.iconst 1, 1) := by decide +kernel
theorem dX5_view_72 : decode cX5_view 72 = .ok (.iadd, 1) := by decide +kernel
theorem dX5_view_73 : decode cX5_view 73 = .ok (.ireturn, 1) := by decide +kernel
theorem dX5_view_74 : decode cX5_view 74 = .ok (.aload_n 0, 1) := by decide +kernel
theorem dX5_view_75 : decode cX5_view 75 = .ok (.iload_n 1, 1) := by decide +kernel
theorem dX5_view_76 : decode cX5_view 76 = .ok (.iload_n 2, 1) := by decide +kernel
theorem dX5_view_77 : decode cX5_view 77 = .ok (.invokevirtual 202, 3) := by decide +kernel
theorem dX5_view_80 : decode cX5_view 80 = .ok (.ireturn, 1) := by decide +kernel
theorem dX5_view_81 : decode cX5_view 81 = .ok (.sipush (-10002), 3) := by decide +kernel
theorem dX5_view_84 : decode cX5_view 84 = .ok (.ireturn, 1) := by decide +kernel
set_option maxRecDepth 20000 in
theorem ggX5_widest_X5_kindIn : GoodIn wsX5_widest wsX5_kindIn := goodIn_r _ [5, 6, 7, 4, 8, 9, 10, 11] (by decide +kernel) (by decide +kernel)
set_option maxRecDepth 20000 in
theorem gX5_widest_X5_kindIn : GoodIn wsX5_widest (va_wsS RX5 65 yX5_kindIn wsX5_kindIn) := goodIn_app (goodIn_of _ (by decide +kernel)) ggX5_widest_X5_kindIn
theorem dX5_widest_0 : decode cX5_widest 0 = .ok (.iconst 0, 1) := by decide +kernel
theorem dX5_widest_1 : decode cX5_widest 1 = .ok (.istore 4, 2) := by decide +kernel
theorem dX5_widest_3 : decode cX5_widest 3 = .ok (.iload_n 1, 1) := by decide +kernel
theorem dX5_widest_4 : decode cX5_widest 4 = .ok (.istore 5, 2) := by decide +kernel
theorem dX5_widest_6 : decode cX5_widest 6 = .ok (.iload 5, 2) := by decide +kernel
theorem dX5_widest_8 : decode cX5_widest 8 = .ok (.iload_n 2, 1) := by decide +kernel
theorem dX5_widest_9 : decode cX5_widest 9 = .ok (.if_icmp .gt 41, 3) := by decide +kernel
theorem dX5_widest_12 : decode cX5_widest 12 = .ok (.aload_n 0, 1) := by decide +kernel
theorem dX5_widest_13 : decode cX5_widest 13 = .ok (.getfield 7, 3) := by decide +kernel
theorem dX5_widest_16 : decode cX5_widest 16 = .ok (.iload 5, 2) := by decide +kernel
theorem dX5_widest_18 : decode cX5_widest 18 = .ok (.iload_n 3, 1) := by decide +kernel
theorem dX5_widest_19 : decode cX5_widest 19 = .ok (.invokestatic 65, 3) := by decide +kernel
theorem dX5_widest_22 : decode cX5_widest 22 = .ok (.iload 4, 2) := by decide +kernel
theorem dX5_widest_24 : decode cX5_widest 24 = .ok (.if_icmp .le 16, 3) := by decide +kernel
theorem dX5_widest_27 : decode cX5_widest 27 = .ok (.aload_n 0, 1) := by decide +kernel
theorem dX5_widest_28 : decode cX5_widest 28 = .ok (.getfield 7, 3) := by decide +kernel
theorem dX5_widest_31 : decode cX5_widest 31 = .ok (.iload 5, 2) := by decide +kernel
theorem dX5_widest_33 : decode cX5_widest 33 = .ok (.iload_n 3, 1) := by decide +kernel
theorem dX5_widest_34 : decode cX5_widest 34 = .ok (.invokestatic 65, 3) := by decide +kernel
theorem dX5_widest_37 : decode cX5_widest 37 = .ok (.goto 5, 3) := by decide +kernel
theorem dX5_widest_40 : decode cX5_widest 40 = .ok (.iload 4, 2) := by decide +kernel
theorem dX5_widest_42 : decode cX5_widest 42 = .ok (.istore 4, 2) := by decide +kernel
theorem dX5_widest_44 : decode cX5_widest 44 = .ok (.iinc 5 1, 3) := by decide +kernel
theorem dX5_widest_47 : decode cX5_widest 47 = .ok (.goto (-41), 3) := by decide +kernel
theorem dX5_widest_50 : decode cX5_widest 50 = .ok (.iload 4, 2) := by decide +kernel
theorem dX5_widest_52 : decode cX5_widest 52 = .ok (.ireturn, 1) := by decide +kernel
set_option maxRecDepth 20000 in
theorem ggX5_isOld_X5_valueOf : GoodIn wsX5_isOld wsX5_valueOf := goodIn_r _ [5] (by decide +kernel) (by decide +kernel)
set_option maxRecDepth 20000 in
theorem gX5_isOld_X5_valueOf : GoodIn wsX5_isOld (va_wsS RX5 68 yX5_valueOf wsX5_valueOf) := goodIn_app (goodIn_of _ (by decide +kernel)) ggX5_isOld_X5_valueOf
theorem dX5_isOld_0 : decode cX5_isOld 0 = .ok (.iconst 0, 1) := by decide +kernel
theorem dX5_isOld_1 : decode cX5_isOld 1 = .ok (.istore 4, 2) := by decide +kernel
theorem dX5_isOld_3 : decode cX5_isOld 3 = .ok (.iload_n 1, 1) := by decide +kernel
theorem dX5_isOld_4 : decode cX5_isOld 4 = .ok (.istore 5, 2) := by decide +kernel
theorem dX5_isOld_6 : decode cX5_isOld 6 = .ok (.iload 5, 2) := by decide +kernel
theorem dX5_isOld_8 : decode cX5_isOld 8 = .ok (.iload_n 2, 1) := by decide +kernel
theorem dX5_isOld_9 : decode cX5_isOld 9 = .ok (.if_icmp .ge 43, 3) := by decide +kernel
theorem dX5_isOld_12 : decode cX5_isOld 12 = .ok (.iload 4, 2) := by decide +kernel
theorem dX5_isOld_14 : decode cX5_isOld 14 = .ok (.ifCond .ne 25, 3) := by decide +kernel
theorem dX5_isOld_17 : decode cX5_isOld 17 = .ok (.aload_n 0, 1) := by decide +kernel
theorem dX5_isOld_18 : decode cX5_isOld 18 = .ok (.getfield 7, 3) := by decide +kernel
theorem dX5_isOld_21 : decode cX5_isOld 21 = .ok (.iload 5, 2) := by decide +kernel
theorem dX5_isOld_23 : decode cX5_isOld 23 = .ok (.iload_n 3, 1) := by decide +kernel
theorem dX5_isOld_24 : decode cX5_isOld 24 = .ok (.invokestatic 68, 3) := by decide +kernel
theorem dX5_isOld_27 : decode cX5_isOld 27 = .ok (.aload_n 0, 1) := by decide +kernel
theorem dX5_isOld_28 : decode cX5_isOld 28 = .ok (.getfield 7, 3) := by decide +kernel
theorem dX5_isOld_31 : decode cX5_isOld 31 = .ok (.iload_n 2, 1) := by decide +kernel
theorem dX5_isOld_32 : decode cX5_isOld 32 = .ok (.iload_n 3, 1) := by decide +kernel
theorem dX5_isOld_33 : decode cX5_isOld 33 = .ok (.invokestatic 68, 3) := by decide +kernel
theorem dX5_isOld_36 : decode cX5_isOld 36 = .ok (.if_icmp .ne 7, 3) := by decide +kernel
theorem dX5_isOld_39 : decode cX5_isOld 39 = .ok (.iconst 1, 1) := by decide +kernel
theorem dX5_isOld_40 : decode cX5_isOld 40 = .ok (.goto 4, 3) := by decide +kernel
theorem dX5_isOld_43 : decode cX5_isOld 43 = .ok (.iconst 0, 1) := by decide +kernel
theorem dX5_isOld_44 : decode cX5_isOld 44 = .ok (.istore 4, 2) := by decide +kernel
theorem dX5_isOld_46 : decode cX5_isOld 46 = .ok (.iinc 5 1, 3) := by decide +kernel
theorem dX5_isOld_49 : decode cX5_isOld 49 = .ok (.goto (-43), 3) := by decide +kernel
theorem dX5_isOld_52 : decode cX5_isOld 52 = .ok (.iload 4, 2) := by decide +kernel
theorem dX5_isOld_54 : decode cX5_isOld 54 = .ok (.ireturn, 1) := by decide +kernel
set_option maxRecDepth 20000 in
theorem ggX5_viewColumn_X5_isRow : GoodIn wsX5_viewColumn wsX5_isRow := goodIn_r _ [5, 6, 7, 4, 8] (by decide +kernel) (by decide +kernel)
set_option maxRecDepth 20000 in
theorem gX5_viewColumn_X5_isRow : GoodIn wsX5_viewColumn (va_wsS RX5 85 yX5_isRow wsX5_isRow) := goodIn_app (goodIn_of _ (by decide +kernel)) ggX5_viewColumn_X5_isRow
set_option maxRecDepth 20000 in
theorem ggX5_viewColumn_X5_isName : GoodIn wsX5_viewColumn wsX5_isName := goodIn_r _ [11, 6, 7, 4, 8] (by decide +kernel) (by decide +kernel)
set_option maxRecDepth 20000 in
theorem gX5_viewColumn_X5_isName : GoodIn wsX5_viewColumn (va_wsS RX5 89 yX5_isName wsX5_isName) := goodIn_app (goodIn_of _ (by decide +kernel)) ggX5_viewColumn_X5_isName
set_option maxRecDepth 20000 in
theorem ggX5_viewColumn_X5_in : GoodIn wsX5_viewColumn wsX5_in := goodIn_r _ [8] (by decide +kernel) (by decide +kernel)
set_option maxRecDepth 20000 in
theorem gX5_viewColumn_X5_in : GoodIn wsX5_viewColumn (va_wsS RX5 35 yX5_in wsX5_in) := goodIn_app (goodIn_of _ (by decide +kernel)) ggX5_viewColumn_X5_in
set_option maxRecDepth 20000 in
theorem ggX5_viewColumn_X5_common : GoodIn wsX5_viewColumn wsX5_common := goodIn_r _ [15, 1, 16, 17, 4, 18, 19, 20, 21, 22, 23, 24, 39, 40, 41, 42, 43, 44, 45, 46, 47, 48, 49, 50, 51, 52] (by decide +kernel) (by decide +kernel)
set_option maxRecDepth 20000 in
theorem gX5_viewColumn_X5_common : GoodIn wsX5_viewColumn (wsV RX5 199 RX5 yX5_common wsX5_common) := goodIn_app (goodIn_of _ (by decide +kernel)) ggX5_viewColumn_X5_common
set_option maxRecDepth 20000 in
theorem ggX5_viewColumn_X5_valueOf : GoodIn wsX5_viewColumn wsX5_valueOf := goodIn_r _ [27] (by decide +kernel) (by decide +kernel)
set_option maxRecDepth 20000 in
theorem gX5_viewColumn_X5_valueOf : GoodIn wsX5_viewColumn (va_wsS RX5 68 yX5_valueOf wsX5_valueOf) := goodIn_app (goodIn_of _ (by decide +kernel)) ggX5_viewColumn_X5_valueOf
set_option maxRecDepth 20000 in
theorem ggX5_viewColumn_X5_isOld : GoodIn wsX5_viewColumn wsX5_isOld := goodIn_r _ [31, 1, 25, 26, 4, 27, 39, 40, 41, 42, 43, 44, 45, 46, 47, 48, 49, 50, 51, 52] (by decide +kernel) (by decide +kernel)
set_option maxRecDepth 20000 in
theorem gX5_viewColumn_X5_isOld : GoodIn wsX5_viewColumn (wsV RX5 205 RX5 yX5_isOld wsX5_isOld) := goodIn_app (goodIn_of _ (by decide +kernel)) ggX5_viewColumn_X5_isOld
set_option maxRecDepth 20000 in
theorem ggX5_viewColumn_X5_widest : GoodIn wsX5_viewColumn wsX5_widest := goodIn_r _ [35, 1, 36, 37, 4, 38, 16, 17, 18, 22, 23, 24, 39, 40, 41, 42, 43, 44, 45, 46, 47, 48, 49, 50, 51, 52] (by decide +kernel) (by decide +kernel)
set_option maxRecDepth 20000 in
theorem gX5_viewColumn_X5_widest : GoodIn wsX5_viewColumn (wsV RX5 208 RX5 yX5_widest wsX5_widest) := goodIn_app (goodIn_of _ (by decide +kernel)) ggX5_viewColumn_X5_widest
theorem dX5_viewColumn_0 : decode cX5_viewColumn 0 = .ok (.aload_n 0, 1) := by decide +kernel
theorem dX5_viewColumn_1 : decode cX5_viewColumn 1 = .ok (.getfield 7, 3) := by decide +kernel
theorem dX5_viewColumn_4 : decode cX5_viewColumn 4 = .ok (.iload_n 1, 1) := by decide +kernel
theorem dX5_viewColumn_5 : decode cX5_viewColumn 5 = .ok (.invokestatic 85, 3) := by decide +kernel
theorem dX5_viewColumn_8 : decode cX5_viewColumn 8 = .ok (.ifCond .eq 21, 3) := by decide +kernel
theorem dX5_viewColumn_11 : decode cX5_viewColumn 11 = .ok (.aload_n 0, 1) := by decide +kernel
theorem dX5_viewColumn_12 : decode cX5_viewColumn 12 = .ok (.getfield 7, 3) := by decide +kernel
theorem dX5_viewColumn_15 : decode cX5_viewColumn 15 = .ok (.iload_n 2, 1) := by decide +kernel
theorem dX5_viewColumn_16 : decode cX5_viewColumn 16 = .ok (.invokestatic 85, 3) := by decide +kernel
theorem dX5_viewColumn_19 : decode cX5_viewColumn 19 = .ok (.ifCond .eq 10, 3) := by decide +kernel
theorem dX5_viewColumn_22 : decode cX5_viewColumn 22 = .ok (.iload_n 3, 1) := by decide +kernel
theorem dX5_viewColumn_23 : decode cX5_viewColumn 23 = .ok (.invokestatic 89, 3) := by decide +kernel
theorem dX5_viewColumn_26 : decode cX5_viewColumn 26 = .ok (.ifCond .ne 7, 3) := by decide +kernel
theorem dX5_viewColumn_29 : decode cX5_viewColumn 29 = .ok (.sipush (-10001), 3) := by decide +kernel
theorem dX5_viewColumn_32 : decode cX5_viewColumn 32 = .ok (.ireturn, 1) := by decide +kernel
theorem dX5_viewColumn_33 : decode cX5_viewColumn 33 = .ok (.iload 4, 2) := by decide +kernel
theorem dX5_viewColumn_35 : decode cX5_viewColumn 35 = .ok (.iconst 0, 1) := by decide +kernel
theorem dX5_viewColumn_36 : decode cX5_viewColumn 36 = .ok (.iconst 4, 1) := by decide +kernel
theorem dX5_viewColumn_37 : decode cX5_viewColumn 37 = .ok (.invokestatic 35, 3) := by decide +kernel
theorem dX5_viewColumn_40 : decode cX5_viewColumn 40 = .ok (.ifCond .ne 7, 3) := by decide +kernel
theorem dX5_viewColumn_43 : decode cX5_viewColumn 43 = .ok (.sipush (-10002), 3) := by decide +kernel
theorem dX5_viewColumn_46 : decode cX5_viewColumn 46 = .ok (.ireturn, 1) := by decide +kernel
theorem dX5_viewColumn_47 : decode cX5_viewColumn 47 = .ok (.aload_n 0, 1) := by decide +kernel
theorem dX5_viewColumn_48 : decode cX5_viewColumn 48 = .ok (.iload_n 1, 1) := by decide +kernel
theorem dX5_viewColumn_49 : decode cX5_viewColumn 49 = .ok (.iload_n 2, 1) := by decide +kernel
theorem dX5_viewColumn_50 : decode cX5_viewColumn 50 = .ok (.invokevirtual 199, 3) := by decide +kernel
theorem dX5_viewColumn_53 : decode cX5_viewColumn 53 = .ok (.iload_n 3, 1) := by decide +kernel
theorem dX5_viewColumn_54 : decode cX5_viewColumn 54 = .ok (.ishr, 1) := by decide +kernel
theorem dX5_viewColumn_55 : decode cX5_viewColumn 55 = .ok (.iconst 1, 1) := by decide +kernel
theorem dX5_viewColumn_56 : decode cX5_viewColumn 56 = .ok (.iand, 1) := by decide +kernel
theorem dX5_viewColumn_57 : decode cX5_viewColumn 57 = .ok (.ifCond .ne 7, 3) := by decide +kernel
theorem dX5_viewColumn_60 : decode cX5_viewColumn 60 = .ok (.sipush (-10005), 3) := by decide +kernel
theorem dX5_viewColumn_63 : decode cX5_viewColumn 63 = .ok (.ireturn, 1) := by decide +kernel
theorem dX5_viewColumn_64 : decode cX5_viewColumn 64 = .ok (.iconst 0, 1) := by decide +kernel
theorem dX5_viewColumn_65 : decode cX5_viewColumn 65 = .ok (.istore 5, 2) := by decide +kernel
theorem dX5_viewColumn_67 : decode cX5_viewColumn 67 = .ok (.aload_n 0, 1) := by decide +kernel
theorem dX5_viewColumn_68 : decode cX5_viewColumn 68 = .ok (.getfield 7, 3) := by decide +kernel
theorem dX5_viewColumn_71 : decode cX5_viewColumn 71 = .ok (.iload_n 1, 1) := by decide +kernel
theorem dX5_viewColumn_72 : decode cX5_viewColumn 72 = .ok (.iload_n 3, 1) := by decide +kernel
theorem dX5_viewColumn_73 : decode cX5_viewColumn 73 = .ok (.invokestatic 68, 3) := by decide +kernel
theorem dX5_viewColumn_76 : decode cX5_viewColumn 76 = .ok (.istore 6, 2) := by decide +kernel
theorem dX5_viewColumn_78 : decode cX5_viewColumn 78 = .ok (.iload 6, 2) := by decide +kernel
theorem dX5_viewColumn_80 : decode cX5_viewColumn 80 = .ok (.istore 7, 2) := by decide +kernel
theorem dX5_viewColumn_82 : decode cX5_viewColumn 82 = .ok (.iconst 0, 1) := by decide +kernel
theorem dX5_viewColumn_83 : decode cX5_viewColumn 83 = .ok (.istore 8, 2) := by decide +kernel
theorem dX5_viewColumn_85 : decode cX5_viewColumn 85 = .ok (.iload_n 1, 1) := by decide +kernel
theorem dX5_viewColumn_86 : decode cX5_viewColumn 86 = .ok (.istore 9, 2) := by decide +kernel
theorem dX5_viewColumn_88 : decode cX5_viewColumn 88 = .ok (.iload 9, 2) := by decide +kernel
theorem dX5_viewColumn_90 : decode cX5_viewColumn 90 = .ok (.iload_n 2, 1) := by decide +kernel
theorem dX5_viewColumn_91 : decode cX5_viewColumn 91 = .ok (.if_icmp .gt 81, 3) := by decide +kernel
theorem dX5_viewColumn_94 : decode cX5_viewColumn 94 = .ok (.aload_n 0, 1) := by decide +kernel
theorem dX5_viewColumn_95 : decode cX5_viewColumn 95 = .ok (.getfield 7, 3) := by decide +kernel
theorem dX5_viewColumn_98 : decode cX5_viewColumn 98 = .ok (.iload 9, 2) := by decide +kernel
theorem dX5_viewColumn_100 : decode cX5_viewColumn 100 = .ok (.iload_n 3, 1) := by decide +kernel
theorem dX5_viewColumn_101 : decode cX5_viewColumn 101 = .ok (.invokestatic 68, 3) := by decide +kernel
theorem dX5_viewColumn_104 : decode cX5_viewColumn 104 = .ok (.istore 10, 2) := by decide +kernel
theorem dX5_viewColumn_106 : decode cX5_viewColumn 106 = .ok (.iload 5, 2) := by decide +kernel
theorem dX5_viewColumn_108 : decode cX5_viewColumn 108 = .ok (.iload 10, 2) := by decide +kernel
theorem dX5_viewColumn_110 : decode cX5_viewColumn 110 = .ok (.iadd, 1) := by decide +kernel
theorem dX5_viewColumn_111 : decode cX5_viewColumn 111 = .ok (.istore 5, 2) := by decide +kernel
theorem dX5_viewColumn_113 : decode cX5_viewColumn 113 = .ok (.iload 10, 2) := by decide +kernel
theorem dX5_viewColumn_115 : decode cX5_viewColumn 115 = .ok (.iload 6, 2) := by decide +kernel
theorem dX5_viewColumn_117 : decode cX5_viewColumn 117 = .ok (.if_icmp .ge 8, 3) := by decide +kernel
theorem dX5_viewColumn_120 : decode cX5_viewColumn 120 = .ok (.iload 10, 2) := by decide +kernel
theorem dX5_viewColumn_122 : decode cX5_viewColumn 122 = .ok (.goto 5, 3) := by decide +kernel
theorem dX5_viewColumn_125 : decode cX5_viewColumn 125 = .ok (.iload 6, 2) := by decide +kernel
theorem dX5_viewColumn_127 : decode cX5_viewColumn 127 = .ok (.istore 6, 2) := by decide +kernel
theorem dX5_viewColumn_129 : decode cX5_viewColumn 129 = .ok (.iload 10, 2) := by decide +kernel
theorem dX5_viewColumn_131 : decode cX5_viewColumn 131 = .ok (.iload 7, 2) := by decide +kernel
theorem dX5_viewColumn_133 : decode cX5_viewColumn 133 = .ok (.if_icmp .le 8, 3) := by decide +kernel
theorem dX5_viewColumn_136 : decode cX5_viewColumn 136 = .ok (.iload 10, 2) := by decide +kernel
theorem dX5_viewColumn_138 : decode cX5_viewColumn 138 = .ok (.goto 5, 3) := by decide +kernel
theorem dX5_viewColumn_141 : decode cX5_viewColumn 141 = .ok (.iload 7, 2) := by decide +kernel
theorem dX5_viewColumn_143 : decode cX5_viewColumn 143 = .ok (.istore 7, 2) := by decide +kernel
theorem dX5_viewColumn_145 : decode cX5_viewColumn 145 = .ok (.iload 8, 2) := by decide +kernel
theorem dX5_viewColumn_147 : decode cX5_viewColumn 147 = .ok (.aload_n 0, 1) := by decide +kernel
theorem dX5_viewColumn_148 : decode cX5_viewColumn 148 = .ok (.iload_n 1, 1) := by decide +kernel
theorem dX5_viewColumn_149 : decode cX5_viewColumn 149 = .ok (.iload 9, 2) := by decide +kernel
theorem dX5_viewColumn_151 : decode cX5_viewColumn 151 = .ok (.iload_n 3, 1) := by decide +kernel
theorem dX5_viewColumn_152 : decode cX5_viewColumn 152 = .ok (.invokevirtual 205, 3) := by decide +kernel
theorem dX5_viewColumn_155 : decode cX5_viewColumn 155 = .ok (.ifCond .eq 7, 3) := by decide +kernel
theorem dX5_viewColumn_158 : decode cX5_viewColumn 158 = .ok (.iconst 0, 1) := by decide +kernel
theorem dX5_viewColumn_159 : decode cX5_viewColumn 159 = .ok (.goto 4, 3) := by decide +kernel
theorem dX5_viewColumn_162 : decode cX5_viewColumn 162 = .ok (.iconst 1, 1) := by decide +kernel
theorem dX5_viewColumn_163 : decode cX5_viewColumn 163 = .ok (.iadd, 1) := by decide +kernel
theorem dX5_viewColumn_164 : decode cX5_viewColumn 164 = .ok (.istore 8, 2) := by decide +kernel
theorem dX5_viewColumn_166 : decode cX5_viewColumn 166 = .ok (.iinc 9 1, 3) := by decide +kernel
theorem dX5_viewColumn_169 : decode cX5_viewColumn 169 = .ok (.goto (-81), 3) := by decide +kernel
theorem dX5_viewColumn_172 : decode cX5_viewColumn 172 = .ok (.iload 4, 2) := by decide +kernel
theorem dX5_viewColumn_174 : decode cX5_viewColumn 174 = .ok (.ifCond .ne 13, 3) := by decide +kernel
theorem dX5_viewColumn_177 : decode cX5_viewColumn 177 = .ok (.aload_n 0, 1) := by decide +kernel
theorem dX5_viewColumn_178 : decode cX5_viewColumn 178 = .ok (.iload_n 1, 1) := by decide +kernel
theorem dX5_viewColumn_179 : decode cX5_viewColumn 179 = .ok (.iload_n 2, 1) := by decide +kernel
theorem dX5_viewColumn_180 : decode cX5_viewColumn 180 = .ok (.iload_n 3, 1) := by decide +kernel
theorem dX5_viewColumn_181 : decode cX5_viewColumn 181 = .ok (.invokevirtual 208, 3) := by decide +kernel
theorem dX5_viewColumn_184 : decode cX5_viewColumn 184 = .ok (.goto 38, 3) := by decide +kernel
theorem dX5_viewColumn_187 : decode cX5_viewColumn 187 = .ok (.iload 4, 2) := by decide +kernel
theorem dX5_viewColumn_189 : decode cX5_viewColumn 189 = .ok (.iconst 1, 1) := by decide +kernel
theorem dX5_viewColumn_190 : decode cX5_viewColumn 190 = .ok (.if_icmp .ne 8, 3) := by decide +kernel
theorem dX5_viewColumn_193 : decode cX5_viewColumn 193 = .ok (.iload 5, 2) := by decide +kernel
theorem dX5_viewColumn_195 : decode cX5_viewColumn 195 = .ok (.goto 27, 3) := by decide +kernel
theorem dX5_viewColumn_198 : decode cX5_viewColumn 198 = .ok (.iload 4, 2) := by decide +kernel
theorem dX5_viewColumn_200 : decode cX5_viewColumn 200 = .ok (.iconst 2, 1) := by decide +kernel
theorem dX5_viewColumn_201 : decode cX5_viewColumn 201 = .ok (.if_icmp .ne 8, 3) := by decide +kernel
theorem dX5_viewColumn_204 : decode cX5_viewColumn 204 = .ok (.iload 6, 2) := by decide +kernel
theorem dX5_viewColumn_206 : decode cX5_viewColumn 206 = .ok (.goto 16, 3) := by decide +kernel
theorem dX5_viewColumn_209 : decode cX5_viewColumn 209 = .ok (.iload 4, 2) := by decide +kernel
theorem dX5_viewColumn_211 : decode cX5_viewColumn 211 = .ok (.iconst 3, 1) := by decide +kernel
theorem dX5_viewColumn_212 : decode cX5_viewColumn 212 = .ok (.if_icmp .ne 8, 3) := by decide +kernel
theorem dX5_viewColumn_215 : decode cX5_viewColumn 215 = .ok (.iload 7, 2) := by decide +kernel
theorem dX5_viewColumn_217 : decode cX5_viewColumn 217 = .ok (.goto 5, 3) := by decide +kernel
theorem dX5_viewColumn_220 : decode cX5_viewColumn 220 = .ok (.iload 8, 2) := by decide +kernel
theorem dX5_viewColumn_222 : decode cX5_viewColumn 222 = .ok (.ireturn, 1) := by decide +kernel
set_option maxRecDepth 20000 in
theorem ggX5_bestFrom_X5_common : GoodIn wsX5_bestFrom wsX5_common := goodIn_r _ [6, 1, 7, 8, 5, 9, 10, 11, 12, 13, 14, 15, 19, 20, 21, 22, 23, 24, 25, 26, 27, 28, 29, 30, 31, 32] (by decide +kernel) (by decide +kernel)
set_option maxRecDepth 20000 in
theorem gX5_bestFrom_X5_common : GoodIn wsX5_bestFrom (wsV RX5 199 RX5 yX5_common wsX5_common) := goodIn_app (goodIn_of _ (by decide +kernel)) ggX5_bestFrom_X5_common
set_option maxRecDepth 20000 in
theorem ggX5_bestFrom_X5_ones : GoodIn wsX5_bestFrom wsX5_ones := goodIn_r _ [18] (by decide +kernel) (by decide +kernel)
set_option maxRecDepth 20000 in
theorem gX5_bestFrom_X5_ones : GoodIn wsX5_bestFrom (va_wsS RX5 189 yX5_ones wsX5_ones) := goodIn_app (goodIn_of _ (by decide +kernel)) ggX5_bestFrom_X5_ones
theorem dX5_bestFrom_0 : decode cX5_bestFrom 0 = .ok (.sipush (-10005), 3) := by decide +kernel
theorem dX5_bestFrom_3 : decode cX5_bestFrom 3 = .ok (.istore_n 1, 1) := by decide +kernel
theorem dX5_bestFrom_4 : decode cX5_bestFrom 4 = .ok (.iconst (-1), 1) := by decide +kernel
theorem dX5_bestFrom_5 : decode cX5_bestFrom 5 = .ok (.istore_n 2, 1) := by decide +kernel
theorem dX5_bestFrom_6 : decode cX5_bestFrom 6 = .ok (.iconst 0, 1) := by decide +kernel
theorem dX5_bestFrom_7 : decode cX5_bestFrom 7 = .ok (.istore_n 3, 1) := by decide +kernel
theorem dX5_bestFrom_8 : decode cX5_bestFrom 8 = .ok (.iload_n 3, 1) := by decide +kernel
theorem dX5_bestFrom_9 : decode cX5_bestFrom 9 = .ok (.aload_n 0, 1) := by decide +kernel
theorem dX5_bestFrom_10 : decode cX5_bestFrom 10 = .ok (.getfield 7, 3) := by decide +kernel
theorem dX5_bestFrom_13 : decode cX5_bestFrom 13 = .ok (.iconst 1, 1) := by decide +kernel
theorem dX5_bestFrom_14 : decode cX5_bestFrom 14 = .ok (.iaload, 1) := by decide +kernel
theorem dX5_bestFrom_15 : decode cX5_bestFrom 15 = .ok (.if_icmp .ge 52, 3) := by decide +kernel
theorem dX5_bestFrom_18 : decode cX5_bestFrom 18 = .ok (.aload_n 0, 1) := by decide +kernel
theorem dX5_bestFrom_19 : decode cX5_bestFrom 19 = .ok (.iload_n 3, 1) := by decide +kernel
theorem dX5_bestFrom_20 : decode cX5_bestFrom 20 = .ok (.aload_n 0, 1) := by decide +kernel
theorem dX5_bestFrom_21 : decode cX5_bestFrom 21 = .ok (.getfield 7, 3) := by decide +kernel
theorem dX5_bestFrom_24 : decode cX5_bestFrom 24 = .ok (.iconst 1, 1) := by decide +kernel
theorem dX5_bestFrom_25 : decode cX5_bestFrom 25 = .ok (.iaload, 1) := by decide +kernel
theorem dX5_bestFrom_26 : decode cX5_bestFrom 26 = .ok (.iconst 1, 1) := by decide +kernel
theorem dX5_bestFrom_27 : decode cX5_bestFrom 27 = .ok (.isub, 1) := by decide +kernel
theorem dX5_bestFrom_28 : decode cX5_bestFrom 28 = .ok (.invokevirtual 199, 3) := by decide +kernel
theorem dX5_bestFrom_31 : decode cX5_bestFrom 31 = .ok (.invokestatic 189, 3) := by decide +kernel
theorem dX5_bestFrom_34 : decode cX5_bestFrom 34 = .ok (.istore 4, 2) := by decide +kernel
theorem dX5_bestFrom_36 : decode cX5_bestFrom 36 = .ok (.iload 4, 2) := by decide +kernel
theorem dX5_bestFrom_38 : decode cX5_bestFrom 38 = .ok (.iload_n 2, 1) := by decide +kernel
theorem dX5_bestFrom_39 : decode cX5_bestFrom 39 = .ok (.if_icmp .le 7, 3) := by decide +kernel
theorem dX5_bestFrom_42 : decode cX5_bestFrom 42 = .ok (.iload_n 3, 1) := by decide +kernel
theorem dX5_bestFrom_43 : decode cX5_bestFrom 43 = .ok (.goto 4, 3) := by decide +kernel
theorem dX5_bestFrom_46 : decode cX5_bestFrom 46 = .ok (.iload_n 1, 1) := by decide +kernel
theorem dX5_bestFrom_47 : decode cX5_bestFrom 47 = .ok (.istore_n 1, 1) := by decide +kernel
theorem dX5_bestFrom_48 : decode cX5_bestFrom 48 = .ok (.iload 4, 2) := by decide +kernel
theorem dX5_bestFrom_50 : decode cX5_bestFrom 50 = .ok (.iload_n 2, 1) := by decide +kernel
theorem dX5_bestFrom_51 : decode cX5_bestFrom 51 = .ok (.if_icmp .le 8, 3) := by decide +kernel
theorem dX5_bestFrom_54 : decode cX5_bestFrom 54 = .ok (.iload 4, 2) := by decide +kernel
theorem dX5_bestFrom_56 : decode cX5_bestFrom 56 = .ok (.goto 4, 3) := by decide +kernel
theorem dX5_bestFrom_59 : decode cX5_bestFrom 59 = .ok (.iload_n 2, 1) := by decide +kernel
theorem dX5_bestFrom_60 : decode cX5_bestFrom 60 = .ok (.istore_n 2, 1) := by decide +kernel
theorem dX5_bestFrom_61 : decode cX5_bestFrom 61 = .ok (.iinc 3 1, 3) := by decide +kernel
theorem dX5_bestFrom_64 : decode cX5_bestFrom 64 = .ok (.goto (-56), 3) := by decide +kernel
theorem dX5_bestFrom_67 : decode cX5_bestFrom 67 = .ok (.iload_n 1, 1) := by decide +kernel
theorem dX5_bestFrom_68 : decode cX5_bestFrom 68 = .ok (.ireturn, 1) := by decide +kernel
set_option maxRecDepth 20000 in
theorem ggX5_allLosses_X5_losses : GoodIn wsX5_allLosses wsX5_losses := goodIn_r _ [5, 6, 7, 4, 8, 9, 10, 11, 12, 13, 14, 15, 16, 17, 18, 19, 20, 21, 22, 23, 24, 25, 26] (by decide +kernel) (by decide +kernel)
set_option maxRecDepth 20000 in
theorem gX5_allLosses_X5_losses : GoodIn wsX5_allLosses (va_wsS RX5 119 yX5_losses wsX5_losses) := goodIn_app (goodIn_of _ (by decide +kernel)) ggX5_allLosses_X5_losses
theorem dX5_allLosses_0 : decode cX5_allLosses 0 = .ok (.iconst 0, 1) := by decide +kernel
theorem dX5_allLosses_1 : decode cX5_allLosses 1 = .ok (.istore_n 2, 1) := by decide +kernel
theorem dX5_allLosses_2 : decode cX5_allLosses 2 = .ok (.iconst 0, 1) := by decide +kernel
theorem dX5_allLosses_3 : decode cX5_allLosses 3 = .ok (.istore_n 3, 1) := by decide +kernel
theorem dX5_allLosses_4 : decode cX5_allLosses 4 = .ok (.iload_n 3, 1) := by decide +kernel
theorem dX5_allLosses_5 : decode cX5_allLosses 5 = .ok (.aload_n 0, 1) := by decide +kernel
theorem dX5_allLosses_6 : decode cX5_allLosses 6 = .ok (.getfield 7, 3) := by decide +kernel
theorem dX5_allLosses_9 : decode cX5_allLosses 9 = .ok (.iconst 1, 1) := by decide +kernel
theorem dX5_allLosses_10 : decode cX5_allLosses 10 = .ok (.iaload, 1) := by decide +kernel
theorem dX5_allLosses_11 : decode cX5_allLosses 11 = .ok (.if_icmp .ge 21, 3) := by decide +kernel
theorem dX5_allLosses_14 : decode cX5_allLosses 14 = .ok (.iload_n 2, 1) := by decide +kernel
theorem dX5_allLosses_15 : decode cX5_allLosses 15 = .ok (.aload_n 0, 1) := by decide +kernel
theorem dX5_allLosses_16 : decode cX5_allLosses 16 = .ok (.getfield 7, 3) := by decide +kernel
theorem dX5_allLosses_19 : decode cX5_allLosses 19 = .ok (.iload_n 3, 1) := by decide +kernel
theorem dX5_allLosses_20 : decode cX5_allLosses 20 = .ok (.iload_n 1, 1) := by decide +kernel
theorem dX5_allLosses_21 : decode cX5_allLosses 21 = .ok (.invokestatic 119, 3) := by decide +kernel
theorem dX5_allLosses_24 : decode cX5_allLosses 24 = .ok (.iadd, 1) := by decide +kernel
theorem dX5_allLosses_25 : decode cX5_allLosses 25 = .ok (.istore_n 2, 1) := by decide +kernel
theorem dX5_allLosses_26 : decode cX5_allLosses 26 = .ok (.iinc 3 1, 3) := by decide +kernel
theorem dX5_allLosses_29 : decode cX5_allLosses 29 = .ok (.goto (-25), 3) := by decide +kernel
theorem dX5_allLosses_32 : decode cX5_allLosses 32 = .ok (.iload_n 2, 1) := by decide +kernel
theorem dX5_allLosses_33 : decode cX5_allLosses 33 = .ok (.ireturn, 1) := by decide +kernel
set_option maxRecDepth 20000 in
theorem ggX5_bestSeason_X5_in : GoodIn wsX5_bestSeason wsX5_in := goodIn_r _ [5] (by decide +kernel) (by decide +kernel)
set_option maxRecDepth 20000 in
theorem gX5_bestSeason_X5_in : GoodIn wsX5_bestSeason (va_wsS RX5 35 yX5_in wsX5_in) := goodIn_app (goodIn_of _ (by decide +kernel)) ggX5_bestSeason_X5_in
set_option maxRecDepth 20000 in
theorem ggX5_bestSeason_X5_allLosses : GoodIn wsX5_bestSeason wsX5_allLosses := goodIn_r _ [9, 1, 10, 11, 4, 12, 13, 14, 15, 16, 17, 18, 19, 20, 21, 22, 23, 24, 25, 26, 27, 28, 29, 30, 31, 32, 33, 34, 35, 36, 37, 38, 39, 40, 41, 42, 43, 44, 45, 46, 47] (by decide +kernel) (by decide +kernel)
set_option maxRecDepth 20000 in
theorem gX5_bestSeason_X5_allLosses : GoodIn wsX5_bestSeason (wsV RX5 211 RX5 yX5_allLosses wsX5_allLosses) := goodIn_app (goodIn_of _ (by decide +kernel)) ggX5_bestSeason_X5_allLosses
theorem dX5_bestSeason_0 : decode cX5_bestSeason 0 = .ok (.iload_n 1, 1) := by decide +kernel
theorem dX5_bestSeason_1 : decode cX5_bestSeason 1 = .ok (.iconst 0, 1) := by decide +kernel
theorem dX5_bestSeason_2 : decode cX5_bestSeason 2 = .ok (.iconst 1, 1) := by decide +kernel
theorem dX5_bestSeason_3 : decode cX5_bestSeason 3 = .ok (.invokestatic 35, 3) := by decide +kernel
theorem dX5_bestSeason_6 : decode cX5_bestSeason 6 = .ok (.ifCond .ne 7, 3) := by decide +kernel
theorem dX5_bestSeason_9 : decode cX5_bestSeason 9 = .ok (.sipush (-10002), 3) := by decide +kernel
theorem dX5_bestSeason_12 : decode cX5_bestSeason 12 = .ok (.ireturn, 1) := by decide +kernel
theorem dX5_bestSeason_13 : decode cX5_bestSeason 13 = .ok (.iconst 0, 1) := by decide +kernel
theorem dX5_bestSeason_14 : decode cX5_bestSeason 14 = .ok (.istore_n 2, 1) := by decide +kernel
theorem dX5_bestSeason_15 : decode cX5_bestSeason 15 = .ok (.aload_n 0, 1) := by decide +kernel
theorem dX5_bestSeason_16 : decode cX5_bestSeason 16 = .ok (.iconst 0, 1) := by decide +kernel
theorem dX5_bestSeason_17 : decode cX5_bestSeason 17 = .ok (.invokevirtual 211, 3) := by decide +kernel
theorem dX5_bestSeason_20 : decode cX5_bestSeason 20 = .ok (.istore_n 3, 1) := by decide +kernel
theorem dX5_bestSeason_21 : decode cX5_bestSeason 21 = .ok (.iconst 1, 1) := by decide +kernel
theorem dX5_bestSeason_22 : decode cX5_bestSeason 22 = .ok (.istore 4, 2) := by decide +kernel
theorem dX5_bestSeason_24 : decode cX5_bestSeason 24 = .ok (.iload 4, 2) := by decide +kernel
theorem dX5_bestSeason_26 : decode cX5_bestSeason 26 = .ok (.aload_n 0, 1) := by decide +kernel
theorem dX5_bestSeason_27 : decode cX5_bestSeason 27 = .ok (.getfield 7, 3) := by decide +kernel
theorem dX5_bestSeason_30 : decode cX5_bestSeason 30 = .ok (.iconst 0, 1) := by decide +kernel
theorem dX5_bestSeason_31 : decode cX5_bestSeason 31 = .ok (.iaload, 1) := by decide +kernel
theorem dX5_bestSeason_32 : decode cX5_bestSeason 32 = .ok (.if_icmp .ge 43, 3) := by decide +kernel
theorem dX5_bestSeason_35 : decode cX5_bestSeason 35 = .ok (.aload_n 0, 1) := by decide +kernel
theorem dX5_bestSeason_36 : decode cX5_bestSeason 36 = .ok (.iload 4, 2) := by decide +kernel
theorem dX5_bestSeason_38 : decode cX5_bestSeason 38 = .ok (.invokevirtual 211, 3) := by decide +kernel
theorem dX5_bestSeason_41 : decode cX5_bestSeason 41 = .ok (.istore 5, 2) := by decide +kernel
theorem dX5_bestSeason_43 : decode cX5_bestSeason 43 = .ok (.iload 5, 2) := by decide +kernel
theorem dX5_bestSeason_45 : decode cX5_bestSeason 45 = .ok (.iload_n 3, 1) := by decide +kernel
theorem dX5_bestSeason_46 : decode cX5_bestSeason 46 = .ok (.if_icmp .gt 8, 3) := by decide +kernel
theorem dX5_bestSeason_49 : decode cX5_bestSeason 49 = .ok (.iload 4, 2) := by decide +kernel
theorem dX5_bestSeason_51 : decode cX5_bestSeason 51 = .ok (.goto 4, 3) := by decide +kernel
theorem dX5_bestSeason_54 : decode cX5_bestSeason 54 = .ok (.iload_n 2, 1) := by decide +kernel
theorem dX5_bestSeason_55 : decode cX5_bestSeason 55 = .ok (.istore_n 2, 1) := by decide +kernel
theorem dX5_bestSeason_56 : decode cX5_bestSeason 56 = .ok (.iload 5, 2) := by decide +kernel
theorem dX5_bestSeason_58 : decode cX5_bestSeason 58 = .ok (.iload_n 3, 1) := by decide +kernel
theorem dX5_bestSeason_59 : decode cX5_bestSeason 59 = .ok (.if_icmp .gt 8, 3) := by decide +kernel
theorem dX5_bestSeason_62 : decode cX5_bestSeason 62 = .ok (.iload 5, 2) := by decide +kernel
theorem dX5_bestSeason_64 : decode cX5_bestSeason 64 = .ok (.goto 4, 3) := by decide +kernel
theorem dX5_bestSeason_67 : decode cX5_bestSeason 67 = .ok (.iload_n 3, 1) := by decide +kernel
theorem dX5_bestSeason_68 : decode cX5_bestSeason 68 = .ok (.istore_n 3, 1) := by decide +kernel
theorem dX5_bestSeason_69 : decode cX5_bestSeason 69 = .ok (.iinc 4 1, 3) := by decide +kernel
theorem dX5_bestSeason_72 : decode cX5_bestSeason 72 = .ok (.goto (-48), 3) := by decide +kernel
theorem dX5_bestSeason_75 : decode cX5_bestSeason 75 = .ok (.iload_n 1, 1) := by decide +kernel
theorem dX5_bestSeason_76 : decode cX5_bestSeason 76 = .ok (.ifCond .ne 7, 3) := by decide +kernel
theorem dX5_bestSeason_79 : decode cX5_bestSeason 79 = .ok (.iload_n 2, 1) := by decide +kernel
theorem dX5_bestSeason_80 : decode cX5_bestSeason 80 = .ok (.goto 4, 3) := by decide +kernel
theorem dX5_bestSeason_83 : decode cX5_bestSeason 83 = .ok (.iload_n 3, 1) := by decide +kernel
theorem dX5_bestSeason_84 : decode cX5_bestSeason 84 = .ok (.ireturn, 1) := by decide +kernel
set_option maxRecDepth 20000 in
theorem ggX5_allValues_X5_seasonOfRow : GoodIn wsX5_allValues wsX5_seasonOfRow := goodIn_r _ [5] (by decide +kernel) (by decide +kernel)
set_option maxRecDepth 20000 in
theorem gX5_allValues_X5_seasonOfRow : GoodIn wsX5_allValues (va_wsS RX5 57 yX5_seasonOfRow wsX5_seasonOfRow) := goodIn_app (goodIn_of _ (by decide +kernel)) ggX5_allValues_X5_seasonOfRow
set_option maxRecDepth 20000 in
theorem ggX5_allValues_X5_names : GoodIn wsX5_allValues wsX5_names := goodIn_r _ [8, 9, 10, 4, 11] (by decide +kernel) (by decide +kernel)
set_option maxRecDepth 20000 in
theorem gX5_allValues_X5_names : GoodIn wsX5_allValues (va_wsS RX5 186 yX5_names wsX5_names) := goodIn_app (goodIn_of _ (by decide +kernel)) ggX5_allValues_X5_names
set_option maxRecDepth 20000 in
theorem ggX5_allValues_X5_ones : GoodIn wsX5_allValues wsX5_ones := goodIn_r _ [14] (by decide +kernel) (by decide +kernel)
set_option maxRecDepth 20000 in
theorem gX5_allValues_X5_ones : GoodIn wsX5_allValues (va_wsS RX5 189 yX5_ones wsX5_ones) := goodIn_app (goodIn_of _ (by decide +kernel)) ggX5_allValues_X5_ones
theorem dX5_allValues_0 : decode cX5_allValues 0 = .ok (.iconst 0, 1) := by decide +kernel
theorem dX5_allValues_1 : decode cX5_allValues 1 = .ok (.istore_n 1, 1) := by decide +kernel
theorem dX5_allValues_2 : decode cX5_allValues 2 = .ok (.iconst 0, 1) := by decide +kernel
theorem dX5_allValues_3 : decode cX5_allValues 3 = .ok (.istore_n 2, 1) := by decide +kernel
theorem dX5_allValues_4 : decode cX5_allValues 4 = .ok (.iload_n 2, 1) := by decide +kernel
theorem dX5_allValues_5 : decode cX5_allValues 5 = .ok (.aload_n 0, 1) := by decide +kernel
theorem dX5_allValues_6 : decode cX5_allValues 6 = .ok (.getfield 7, 3) := by decide +kernel
theorem dX5_allValues_9 : decode cX5_allValues 9 = .ok (.iconst 1, 1) := by decide +kernel
theorem dX5_allValues_10 : decode cX5_allValues 10 = .ok (.iaload, 1) := by decide +kernel
theorem dX5_allValues_11 : decode cX5_allValues 11 = .ok (.if_icmp .ge 30, 3) := by decide +kernel
theorem dX5_allValues_14 : decode cX5_allValues 14 = .ok (.iload_n 1, 1) := by decide +kernel
theorem dX5_allValues_15 : decode cX5_allValues 15 = .ok (.aload_n 0, 1) := by decide +kernel
theorem dX5_allValues_16 : decode cX5_allValues 16 = .ok (.getfield 7, 3) := by decide +kernel
theorem dX5_allValues_19 : decode cX5_allValues 19 = .ok (.aload_n 0, 1) := by decide +kernel
theorem dX5_allValues_20 : decode cX5_allValues 20 = .ok (.getfield 7, 3) := by decide +kernel
theorem dX5_allValues_23 : decode cX5_allValues 23 = .ok (.iload_n 2, 1) := by decide +kernel
theorem dX5_allValues_24 : decode cX5_allValues 24 = .ok (.invokestatic 57, 3) := by decide +kernel
theorem dX5_allValues_27 : decode cX5_allValues 27 = .ok (.invokestatic 186, 3) := by decide +kernel
theorem dX5_allValues_30 : decode cX5_allValues 30 = .ok (.invokestatic 189, 3) := by decide +kernel
theorem dX5_allValues_33 : decode cX5_allValues 33 = .ok (.iadd, 1) := by decide +kernel
theorem dX5_allValues_34 : decode cX5_allValues 34 = .ok (.istore_n 1, 1) := by decide +kernel
theorem dX5_allValues_35 : decode cX5_allValues 35 = .ok (.iinc 2 1, 3) := by decide +kernel
theorem dX5_allValues_38 : decode cX5_allValues 38 = .ok (.goto (-34), 3) := by decide +kernel
theorem dX5_allValues_41 : decode cX5_allValues 41 = .ok (.iload_n 1, 1) := by decide +kernel
theorem dX5_allValues_42 : decode cX5_allValues 42 = .ok (.ireturn, 1) := by decide +kernel
set_option maxRecDepth 20000 in
theorem ggX5_everNames_X5_names : GoodIn wsX5_everNames wsX5_names := goodIn_r _ [5, 6, 7, 4, 8] (by decide +kernel) (by decide +kernel)
set_option maxRecDepth 20000 in
theorem gX5_everNames_X5_names : GoodIn wsX5_everNames (va_wsS RX5 186 yX5_names wsX5_names) := goodIn_app (goodIn_of _ (by decide +kernel)) ggX5_everNames_X5_names
theorem dX5_everNames_0 : decode cX5_everNames 0 = .ok (.iconst 0, 1) := by decide +kernel
theorem dX5_everNames_1 : decode cX5_everNames 1 = .ok (.istore_n 1, 1) := by decide +kernel
theorem dX5_everNames_2 : decode cX5_everNames 2 = .ok (.iconst 0, 1) := by decide +kernel
theorem dX5_everNames_3 : decode cX5_everNames 3 = .ok (.istore_n 2, 1) := by decide +kernel
theorem dX5_everNames_4 : decode cX5_everNames 4 = .ok (.iload_n 2, 1) := by decide +kernel
theorem dX5_everNames_5 : decode cX5_everNames 5 = .ok (.aload_n 0, 1) := by decide +kernel
theorem dX5_everNames_6 : decode cX5_everNames 6 = .ok (.getfield 7, 3) := by decide +kernel
theorem dX5_everNames_9 : decode cX5_everNames 9 = .ok (.iconst 0, 1) := by decide +kernel
theorem dX5_everNames_10 : decode cX5_everNames 10 = .ok (.iaload, 1) := by decide +kernel
theorem dX5_everNames_11 : decode cX5_everNames 11 = .ok (.if_icmp .ge 20, 3) := by decide +kernel
theorem dX5_everNames_14 : decode cX5_everNames 14 = .ok (.iload_n 1, 1) := by decide +kernel
theorem dX5_everNames_15 : decode cX5_everNames 15 = .ok (.aload_n 0, 1) := by decide +kernel
theorem dX5_everNames_16 : decode cX5_everNames 16 = .ok (.getfield 7, 3) := by decide +kernel
theorem dX5_everNames_19 : decode cX5_everNames 19 = .ok (.iload_n 2, 1) := by decide +kernel
theorem dX5_everNames_20 : decode cX5_everNames 20 = .ok (.invokestatic 186, 3) := by decide +kernel
theorem dX5_everNames_23 : decode cX5_everNames 23 = .ok (.ior, 1) := by decide +kernel
theorem dX5_everNames_24 : decode cX5_everNames 24 = .ok (.istore_n 1, 1) := by decide +kernel
theorem dX5_everNames_25 : decode cX5_everNames 25 = .ok (.iinc 2 1, 3) := by decide +kernel
theorem dX5_everNames_28 : decode cX5_everNames 28 = .ok (.goto (-24), 3) := by decide +kernel
theorem dX5_everNames_31 : decode cX5_everNames 31 = .ok (.iload_n 1, 1) := by decide +kernel
theorem dX5_everNames_32 : decode cX5_everNames 32 = .ok (.ireturn, 1) := by decide +kernel
set_option maxRecDepth 20000 in
theorem ggX5_count_X5_names : GoodIn wsX5_count wsX5_names := goodIn_r _ [7, 8, 9, 6, 10] (by decide +kernel) (by decide +kernel)
set_option maxRecDepth 20000 in
theorem gX5_count_X5_names : GoodIn wsX5_count (va_wsS RX5 186 yX5_names wsX5_names) := goodIn_app (goodIn_of _ (by decide +kernel)) ggX5_count_X5_names
set_option maxRecDepth 20000 in
theorem ggX5_count_X5_ones : GoodIn wsX5_count wsX5_ones := goodIn_r _ [13] (by decide +kernel) (by decide +kernel)
set_option maxRecDepth 20000 in
theorem gX5_count_X5_ones : GoodIn wsX5_count (va_wsS RX5 189 yX5_ones wsX5_ones) := goodIn_app (goodIn_of _ (by decide +kernel)) ggX5_count_X5_ones
set_option maxRecDepth 20000 in
theorem ggX5_count_X5_wearers : GoodIn wsX5_count wsX5_wearers := goodIn_r _ [17, 1, 18, 19, 6, 20, 51, 52, 53, 54, 55, 56, 57, 58, 59, 60, 61, 62, 63, 64] (by decide +kernel) (by decide +kernel)
set_option maxRecDepth 20000 in
theorem gX5_count_X5_wearers : GoodIn wsX5_count (wsV RX5 125 RX5 yX5_wearers wsX5_wearers) := goodIn_app (goodIn_of _ (by decide +kernel)) ggX5_count_X5_wearers
set_option maxRecDepth 20000 in
theorem ggX5_count_X5_allValues : GoodIn wsX5_count wsX5_allValues := goodIn_r _ [24, 1, 18, 19, 6, 20, 4, 5, 7, 8, 9, 10, 11, 12, 13, 51, 52, 53, 54, 55, 56, 57, 58, 59, 60, 61, 62, 63, 64] (by decide +kernel) (by decide +kernel)
set_option maxRecDepth 20000 in
theorem gX5_count_X5_allValues : GoodIn wsX5_count (wsV RX5 214 RX5 yX5_allValues wsX5_allValues) := goodIn_app (goodIn_of _ (by decide +kernel)) ggX5_count_X5_allValues
set_option maxRecDepth 20000 in
theorem ggX5_count_X5_allLosses : GoodIn wsX5_count wsX5_allLosses := goodIn_r _ [28, 1, 29, 30, 6, 31, 32, 33, 34, 35, 36, 37, 18, 19, 20, 8, 9, 10, 38, 39, 40, 41, 42, 43, 44, 45, 46, 51, 52, 53, 54, 55, 56, 57, 58, 59, 60, 61, 62, 63, 64] (by decide +kernel) (by decide +kernel)
set_option maxRecDepth 20000 in
theorem gX5_count_X5_allLosses : GoodIn wsX5_count (wsV RX5 211 RX5 yX5_allLosses wsX5_allLosses) := goodIn_app (goodIn_of _ (by decide +kernel)) ggX5_count_X5_allLosses
set_option maxRecDepth 20000 in
theorem ggX5_count_X5_everNames : GoodIn wsX5_count wsX5_everNames := goodIn_r _ [50, 1, 4, 5, 6, 7, 8, 9, 10, 51, 52, 53, 54, 55, 56, 57, 58, 59, 60, 61, 62, 63, 64] (by decide +kernel) (by decide +kernel)
set_option maxRecDepth 20000 in
theorem gX5_count_X5_everNames : GoodIn wsX5_count (wsV RX5 218 RX5 yX5_everNames wsX5_everNames) := goodIn_app (goodIn_of _ (by decide +kernel)) ggX5_count_X5_everNames
theorem dX5_count_0 : decode cX5_count 0 = .ok (.iload_n 1, 1) := by decide +kernel
theorem dX5_count_1 : decode cX5_count 1 = .ok (.tableswitch 132 0 8 #[51, 60, 79, 86, 99, 104, 117, 122, 127], 51) := by decide +kernel
theorem dX5_count_52 : decode cX5_count 52 = .ok (.aload_n 0, 1) := by decide +kernel
theorem dX5_count_53 : decode cX5_count 53 = .ok (.getfield 7, 3) := by decide +kernel
theorem dX5_count_56 : decode cX5_count 56 = .ok (.iconst 0, 1) := by decide +kernel
theorem dX5_count_57 : decode cX5_count 57 = .ok (.iaload, 1) := by decide +kernel
theorem dX5_count_58 : decode cX5_count 58 = .ok (.iconst 1, 1) := by decide +kernel
theorem dX5_count_59 : decode cX5_count 59 = .ok (.isub, 1) := by decide +kernel
theorem dX5_count_60 : decode cX5_count 60 = .ok (.ireturn, 1) := by decide +kernel
theorem dX5_count_61 : decode cX5_count 61 = .ok (.aload_n 0, 1) := by decide +kernel
theorem dX5_count_62 : decode cX5_count 62 = .ok (.getfield 7, 3) := by decide +kernel
theorem dX5_count_65 : decode cX5_count 65 = .ok (.aload_n 0, 1) := by decide +kernel
theorem dX5_count_66 : decode cX5_count 66 = .ok (.getfield 7, 3) := by decide +kernel
theorem dX5_count_69 : decode cX5_count 69 = .ok (.iconst 0, 1) := by decide +kernel
theorem dX5_count_70 : decode cX5_count 70 = .ok (.iaload, 1) := by decide +kernel
theorem dX5_count_71 : decode cX5_count 71 = .ok (.iconst 1, 1) := by decide +kernel
theorem dX5_count_72 : decode cX5_count 72 = .ok (.isub, 1) := by decide +kernel
theorem dX5_count_73 : decode cX5_count 73 = .ok (.invokestatic 186, 3) := by decide +kernel
theorem dX5_count_76 : decode cX5_count 76 = .ok (.invokestatic 189, 3) := by decide +kernel
theorem dX5_count_79 : decode cX5_count 79 = .ok (.ireturn, 1) := by decide +kernel
theorem dX5_count_80 : decode cX5_count 80 = .ok (.aload_n 0, 1) := by decide +kernel
theorem dX5_count_81 : decode cX5_count 81 = .ok (.getfield 7, 3) := by decide +kernel
theorem dX5_count_84 : decode cX5_count 84 = .ok (.iconst 1, 1) := by decide +kernel
theorem dX5_count_85 : decode cX5_count 85 = .ok (.iaload, 1) := by decide +kernel
theorem dX5_count_86 : decode cX5_count 86 = .ok (.ireturn, 1) := by decide +kernel
theorem dX5_count_87 : decode cX5_count 87 = .ok (.aload_n 0, 1) := by decide +kernel
theorem dX5_count_88 : decode cX5_count 88 = .ok (.aload_n 0, 1) := by decide +kernel
theorem dX5_count_89 : decode cX5_count 89 = .ok (.getfield 7, 3) := by decide +kernel
theorem dX5_count_92 : decode cX5_count 92 = .ok (.iconst 0, 1) := by decide +kernel
theorem dX5_count_93 : decode cX5_count 93 = .ok (.iaload, 1) := by decide +kernel
theorem dX5_count_94 : decode cX5_count 94 = .ok (.iconst 1, 1) := by decide +kernel
theorem dX5_count_95 : decode cX5_count 95 = .ok (.isub, 1) := by decide +kernel
theorem dX5_count_96 : decode cX5_count 96 = .ok (.invokevirtual 125, 3) := by decide +kernel
theorem dX5_count_99 : decode cX5_count 99 = .ok (.ireturn, 1) := by decide +kernel
theorem dX5_count_100 : decode cX5_count 100 = .ok (.aload_n 0, 1) := by decide +kernel
theorem dX5_count_101 : decode cX5_count 101 = .ok (.invokevirtual 214, 3) := by decide +kernel
theorem dX5_count_104 : decode cX5_count 104 = .ok (.ireturn, 1) := by decide +kernel
theorem dX5_count_105 : decode cX5_count 105 = .ok (.aload_n 0, 1) := by decide +kernel
theorem dX5_count_106 : decode cX5_count 106 = .ok (.aload_n 0, 1) := by decide +kernel
theorem dX5_count_107 : decode cX5_count 107 = .ok (.getfield 7, 3) := by decide +kernel
theorem dX5_count_110 : decode cX5_count 110 = .ok (.iconst 0, 1) := by decide +kernel
theorem dX5_count_111 : decode cX5_count 111 = .ok (.iaload, 1) := by decide +kernel
theorem dX5_count_112 : decode cX5_count 112 = .ok (.iconst 1, 1) := by decide +kernel
theorem dX5_count_113 : decode cX5_count 113 = .ok (.isub, 1) := by decide +kernel
theorem dX5_count_114 : decode cX5_count 114 = .ok (.invokevirtual 211, 3) := by decide +kernel
theorem dX5_count_117 : decode cX5_count 117 = .ok (.ireturn, 1) := by decide +kernel
theorem dX5_count_118 : decode cX5_count 118 = .ok (.aload_n 0, 1) := by decide +kernel
theorem dX5_count_119 : decode cX5_count 119 = .ok (.invokevirtual 218, 3) := by decide +kernel
theorem dX5_count_122 : decode cX5_count 122 = .ok (.ireturn, 1) := by decide +kernel
theorem dX5_count_123 : decode cX5_count 123 = .ok (.aload_n 0, 1) := by decide +kernel
theorem dX5_count_124 : decode cX5_count 124 = .ok (.getfield 39, 3) := by decide +kernel
theorem dX5_count_127 : decode cX5_count 127 = .ok (.ireturn, 1) := by decide +kernel
theorem dX5_count_128 : decode cX5_count 128 = .ok (.aload_n 0, 1) := by decide +kernel
theorem dX5_count_129 : decode cX5_count 129 = .ok (.getfield 128, 3) := by decide +kernel
theorem dX5_count_132 : decode cX5_count 132 = .ok (.ireturn, 1) := by decide +kernel
theorem dX5_count_133 : decode cX5_count 133 = .ok (.sipush (-10002), 3) := by decide +kernel
theorem dX5_count_136 : decode cX5_count 136 = .ok (.ireturn, 1) := by decide +kernel
