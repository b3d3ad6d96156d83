theorem dX0_init_0 : decode cX0_init 0 = .ok (.aload_n 0, 1) := by decide +kernel
theorem dX0_init_1 : decode cX0_init 1 = .ok (.invokespecial 3, 3) := by decide +kernel
theorem dX0_init_4 : decode cX0_init 4 = .ok (.aload_n 0, 1) := by decide +kernel
theorem dX0_init_5 : decode cX0_init 5 = .ok (.iconst 3, 1) := by decide +kernel
theorem dX0_init_6 : decode cX0_init 6 = .ok (.putfield 11, 3) := by decide +kernel
theorem dX0_init_9 : decode cX0_init 9 = .ok (.aload_n 0, 1) := by decide +kernel
theorem dX0_init_10 : decode cX0_init 10 = .ok (.iconst 0, 1) := by decide +kernel
theorem dX0_init_11 : decode cX0_init 11 = .ok (.putfield 15, 3) := by decide +kernel
theorem dX0_init_14 : decode cX0_init 14 = .ok (.aload_n 0, 1) := by decide +kernel
theorem dX0_init_15 : decode cX0_init 15 = .ok (.iconst 0, 1) := by decide +kernel
theorem dX0_init_16 : decode cX0_init 16 = .ok (.putfield 18, 3) := by decide +kernel
theorem dX0_init_19 : decode cX0_init 19 = .ok (.aload_n 0, 1) := by decide +kernel
theorem dX0_init_20 : decode cX0_init 20 = .ok (.iconst 0, 1) := by decide +kernel
theorem dX0_init_21 : decode cX0_init 21 = .ok (.putfield 21, 3) := by decide +kernel
theorem dX0_init_24 : decode cX0_init 24 = .ok (.aload_n 0, 1) := by decide +kernel
theorem dX0_init_25 : decode cX0_init 25 = .ok (.iconst 0, 1) := by decide +kernel
theorem dX0_init_26 : decode cX0_init 26 = .ok (.putfield 24, 3) := by decide +kernel
theorem dX0_init_29 : decode cX0_init 29 = .ok (.return_, 1) := by decide +kernel
set_option maxRecDepth 20000 in
theorem ggX1_init_X3_init : GoodIn wsX1_init wsX3_init := goodIn_r _ [12, 13, 2, 3, 14, 15, 16, 17, 18, 19, 20, 21, 22, 23, 24, 28, 29, 30, 31, 32, 33] (by decide +kernel) (by decide +kernel)
set_option maxRecDepth 20000 in
theorem gX1_init_X3_init : GoodIn wsX1_init (wsX3_init) := ggX1_init_X3_init
theorem dX1_init_0 : decode cX1_init 0 = .ok (.aload_n 0, 1) := by decide +kernel
theorem dX1_init_1 : decode cX1_init 1 = .ok (.invokespecial 3, 3) := by decide +kernel
theorem dX1_init_4 : decode cX1_init 4 = .ok (.aload_n 0, 1) := by decide +kernel
theorem dX1_init_5 : decode cX1_init 5 = .ok (.iconst 5, 1) := by decide +kernel
theorem dX1_init_6 : decode cX1_init 6 = .ok (.anewarray 11, 3) := by decide +kernel
theorem dX1_init_9 : decode cX1_init 9 = .ok (.putfield 13, 3) := by decide +kernel
theorem dX1_init_12 : decode cX1_init 12 = .ok (.aload_n 0, 1) := by decide +kernel
theorem dX1_init_13 : decode cX1_init 13 = .ok (.iconst 0, 1) := by decide +kernel
theorem dX1_init_14 : decode cX1_init 14 = .ok (.putfield 17, 3) := by decide +kernel
theorem dX1_init_17 : decode cX1_init 17 = .ok (.aload_n 0, 1) := by decide +kernel
theorem dX1_init_18 : decode cX1_init 18 = .ok (.iconst 0, 1) := by decide +kernel
theorem dX1_init_19 : decode cX1_init 19 = .ok (.putfield 21, 3) := by decide +kernel
theorem dX1_init_22 : decode cX1_init 22 = .ok (.iconst 0, 1) := by decide +kernel
theorem dX1_init_23 : decode cX1_init 23 = .ok (.istore_n 1, 1) := by decide +kernel
theorem dX1_init_24 : decode cX1_init 24 = .ok (.iload_n 1, 1) := by decide +kernel
theorem dX1_init_25 : decode cX1_init 25 = .ok (.iconst 5, 1) := by decide +kernel
theorem dX1_init_26 : decode cX1_init 26 = .ok (.if_icmp .ge 22, 3) := by decide +kernel
theorem dX1_init_29 : decode cX1_init 29 = .ok (.aload_n 0, 1) := by decide +kernel
theorem dX1_init_30 : decode cX1_init 30 = .ok (.getfield 13, 3) := by decide +kernel
theorem dX1_init_33 : decode cX1_init 33 = .ok (.iload_n 1, 1) := by decide +kernel
theorem dX1_init_34 : decode cX1_init 34 = .ok (.new 11, 3) := by decide +kernel
theorem dX1_init_37 : decode cX1_init 37 = .ok (.dup, 1) := by decide +kernel
theorem dX1_init_38 : decode cX1_init 38 = .ok (.invokespecial 24, 3) := by decide +kernel
theorem dX1_init_41 : decode cX1_init 41 = .ok (.aastore, 1) := by decide +kernel
theorem dX1_init_42 : decode cX1_init 42 = .ok (.iinc 1 1, 3) := by decide +kernel
theorem dX1_init_45 : decode cX1_init 45 = .ok (.goto (-21), 3) := by decide +kernel
theorem dX1_init_48 : decode cX1_init 48 = .ok (.return_, 1) := by decide +kernel
theorem dX1_prepared_0 : decode cX1_prepared 0 = .ok (.aload_n 0, 1) := by decide +kernel
theorem dX1_prepared_1 : decode cX1_prepared 1 = .ok (.getfield 13, 3) := by decide +kernel
theorem dX1_prepared_4 : decode cX1_prepared 4 = .ok (.aload_n 0, 1) := by decide +kernel
theorem dX1_prepared_5 : decode cX1_prepared 5 = .ok (.getfield 17, 3) := by decide +kernel
theorem dX1_prepared_8 : decode cX1_prepared 8 = .ok (.aload_n 0, 1) := by decide +kernel
theorem dX1_prepared_9 : decode cX1_prepared 9 = .ok (.getfield 21, 3) := by decide +kernel
theorem dX1_prepared_12 : decode cX1_prepared 12 = .ok (.iadd, 1) := by decide +kernel
theorem dX1_prepared_13 : decode cX1_prepared 13 = .ok (.iconst 5, 1) := by decide +kernel
theorem dX1_prepared_14 : decode cX1_prepared 14 = .ok (.irem, 1) := by decide +kernel
theorem dX1_prepared_15 : decode cX1_prepared 15 = .ok (.aaload, 1) := by decide +kernel
theorem dX1_prepared_16 : decode cX1_prepared 16 = .ok (.areturn, 1) := by decide +kernel
set_option maxRecDepth 20000 in
theorem ggX1_prepare_X1_prepared : GoodIn wsX1_prepare wsX1_prepared := goodIn_r _ [5, 6, 7, 8, 24, 25, 26] (by decide +kernel) (by decide +kernel)
set_option maxRecDepth 20000 in
theorem gX1_prepare_X1_prepared : GoodIn wsX1_prepare (wsV RX1 25 RX1 yX1_prepared wsX1_prepared) := goodIn_app (goodIn_of _ (by decide +kernel)) ggX1_prepare_X1_prepared
set_option maxRecDepth 20000 in
theorem ggX1_prepare_X3_copyFrom : GoodIn wsX1_prepare wsX3_copyFrom := goodIn_r _ [13, 14, 15, 16, 17, 18, 19, 20, 21, 22, 23, 27, 28, 29, 30, 31, 32] (by decide +kernel) (by decide +kernel)
set_option maxRecDepth 20000 in
theorem gX1_prepare_X3_copyFrom : GoodIn wsX1_prepare (wsV RX1 29 RX3 yX3_copyFrom wsX3_copyFrom) := goodIn_app (goodIn_of _ (by decide +kernel)) ggX1_prepare_X3_copyFrom
theorem dX1_prepare_0 : decode cX1_prepare 0 = .ok (.aload_n 0, 1) := by decide +kernel
theorem dX1_prepare_1 : decode cX1_prepare 1 = .ok (.invokevirtual 25, 3) := by decide +kernel
theorem dX1_prepare_4 : decode cX1_prepare 4 = .ok (.aload_n 1, 1) := by decide +kernel
theorem dX1_prepare_5 : decode cX1_prepare 5 = .ok (.invokevirtual 29, 3) := by decide +kernel
theorem dX1_prepare_8 : decode cX1_prepare 8 = .ok (.return_, 1) := by decide +kernel
theorem dX1_record_0 : decode cX1_record 0 = .ok (.aload_n 0, 1) := by decide +kernel
theorem dX1_record_1 : decode cX1_record 1 = .ok (.getfield 21, 3) := by decide +kernel
theorem dX1_record_4 : decode cX1_record 4 = .ok (.iconst 4, 1) := by decide +kernel
theorem dX1_record_5 : decode cX1_record 5 = .ok (.if_icmp .ge 16, 3) := by decide +kernel
theorem dX1_record_8 : decode cX1_record 8 = .ok (.aload_n 0, 1) := by decide +kernel
theorem dX1_record_9 : decode cX1_record 9 = .ok (.dup, 1) := by decide +kernel
theorem dX1_record_10 : decode cX1_record 10 = .ok (.getfield 21, 3) := by decide +kernel
theorem dX1_record_13 : decode cX1_record 13 = .ok (.iconst 1, 1) := by decide +kernel
theorem dX1_record_14 : decode cX1_record 14 = .ok (.iadd, 1) := by decide +kernel
theorem dX1_record_15 : decode cX1_record 15 = .ok (.putfield 21, 3) := by decide +kernel
theorem dX1_record_18 : decode cX1_record 18 = .ok (.goto 15, 3) := by decide +kernel
theorem dX1_record_21 : decode cX1_record 21 = .ok (.aload_n 0, 1) := by decide +kernel
theorem dX1_record_22 : decode cX1_record 22 = .ok (.aload_n 0, 1) := by decide +kernel
theorem dX1_record_23 : decode cX1_record 23 = .ok (.getfield 17, 3) := by decide +kernel
theorem dX1_record_26 : decode cX1_record 26 = .ok (.iconst 1, 1) := by decide +kernel
theorem dX1_record_27 : decode cX1_record 27 = .ok (.iadd, 1) := by decide +kernel
theorem dX1_record_28 : decode cX1_record 28 = .ok (.iconst 5, 1) := by decide +kernel
theorem dX1_record_29 : decode cX1_record 29 = .ok (.irem, 1) := by decide +kernel
theorem dX1_record_30 : decode cX1_record 30 = .ok (.putfield 17, 3) := by decide +kernel
theorem dX1_record_33 : decode cX1_record 33 = .ok (.return_, 1) := by decide +kernel
set_option maxRecDepth 20000 in
theorem ggX1_takeLatestInto_X1_prepared : GoodIn wsX1_takeLatestInto wsX1_prepared := goodIn_r _ [6, 7, 8, 1, 24, 25, 26] (by decide +kernel) (by decide +kernel)
set_option maxRecDepth 20000 in
theorem gX1_takeLatestInto_X1_prepared : GoodIn wsX1_takeLatestInto (wsV RX1 25 RX1 yX1_prepared wsX1_prepared) := goodIn_app (goodIn_of _ (by decide +kernel)) ggX1_takeLatestInto_X1_prepared
set_option maxRecDepth 20000 in
theorem ggX1_takeLatestInto_X3_copyFrom : GoodIn wsX1_takeLatestInto wsX3_copyFrom := goodIn_r _ [13, 14, 15, 16, 17, 18, 19, 20, 21, 22, 23, 27, 28, 29, 30, 31, 32] (by decide +kernel) (by decide +kernel)
set_option maxRecDepth 20000 in
theorem gX1_takeLatestInto_X3_copyFrom : GoodIn wsX1_takeLatestInto (wsV RX1 29 RX3 yX3_copyFrom wsX3_copyFrom) := goodIn_app (goodIn_of _ (by decide +kernel)) ggX1_takeLatestInto_X3_copyFrom
theorem dX1_takeLatestInto_0 : decode cX1_takeLatestInto 0 = .ok (.aload_n 0, 1) := by decide +kernel
theorem dX1_takeLatestInto_1 : decode cX1_takeLatestInto 1 = .ok (.getfield 21, 3) := by decide +kernel
theorem dX1_takeLatestInto_4 : decode cX1_takeLatestInto 4 = .ok (.ifCond .le 21, 3) := by decide +kernel
theorem dX1_takeLatestInto_7 : decode cX1_takeLatestInto 7 = .ok (.aload_n 0, 1) := by decide +kernel
theorem dX1_takeLatestInto_8 : decode cX1_takeLatestInto 8 = .ok (.dup, 1) := by decide +kernel
theorem dX1_takeLatestInto_9 : decode cX1_takeLatestInto 9 = .ok (.getfield 21, 3) := by decide +kernel
theorem dX1_takeLatestInto_12 : decode cX1_takeLatestInto 12 = .ok (.iconst 1, 1) := by decide +kernel
theorem dX1_takeLatestInto_13 : decode cX1_takeLatestInto 13 = .ok (.isub, 1) := by decide +kernel
theorem dX1_takeLatestInto_14 : decode cX1_takeLatestInto 14 = .ok (.putfield 21, 3) := by decide +kernel
theorem dX1_takeLatestInto_17 : decode cX1_takeLatestInto 17 = .ok (.aload_n 1, 1) := by decide +kernel
theorem dX1_takeLatestInto_18 : decode cX1_takeLatestInto 18 = .ok (.aload_n 0, 1) := by decide +kernel
theorem dX1_takeLatestInto_19 : decode cX1_takeLatestInto 19 = .ok (.invokevirtual 25, 3) := by decide +kernel
theorem dX1_takeLatestInto_22 : decode cX1_takeLatestInto 22 = .ok (.invokevirtual 29, 3) := by decide +kernel
theorem dX1_takeLatestInto_25 : decode cX1_takeLatestInto 25 = .ok (.return_, 1) := by decide +kernel
set_option maxRecDepth 20000 in
theorem ggX2_init_X0_init : GoodIn wsX2_init wsX0_init := goodIn_r _ [16, 17, 2, 3, 18, 19, 20, 21, 22, 29, 30, 31, 32, 33] (by decide +kernel) (by decide +kernel)
set_option maxRecDepth 20000 in
theorem gX2_init_X0_init : GoodIn wsX2_init (wsX0_init) := ggX2_init_X0_init
theorem dX2_init_0 : decode cX2_init 0 = .ok (.aload_n 0, 1) := by decide +kernel
theorem dX2_init_1 : decode cX2_init 1 = .ok (.invokespecial 3, 3) := by decide +kernel
theorem dX2_init_4 : decode cX2_init 4 = .ok (.aload_n 0, 1) := by decide +kernel
theorem dX2_init_5 : decode cX2_init 5 = .ok (.bipush 80, 2) := by decide +kernel
theorem dX2_init_7 : decode cX2_init 7 = .ok (.newarray .char, 2) := by decide +kernel
theorem dX2_init_9 : decode cX2_init 9 = .ok (.putfield 9, 3) := by decide +kernel
theorem dX2_init_12 : decode cX2_init 12 = .ok (.aload_n 0, 1) := by decide +kernel
theorem dX2_init_13 : decode cX2_init 13 = .ok (.iconst 0, 1) := by decide +kernel
theorem dX2_init_14 : decode cX2_init 14 = .ok (.putfield 15, 3) := by decide +kernel
theorem dX2_init_17 : decode cX2_init 17 = .ok (.aload_n 0, 1) := by decide +kernel
theorem dX2_init_18 : decode cX2_init 18 = .ok (.bipush 20, 2) := by decide +kernel
theorem dX2_init_20 : decode cX2_init 20 = .ok (.anewarray 19, 3) := by decide +kernel
theorem dX2_init_23 : decode cX2_init 23 = .ok (.putfield 21, 3) := by decide +kernel
theorem dX2_init_26 : decode cX2_init 26 = .ok (.aload_n 0, 1) := by decide +kernel
theorem dX2_init_27 : decode cX2_init 27 = .ok (.iconst 0, 1) := by decide +kernel
theorem dX2_init_28 : decode cX2_init 28 = .ok (.putfield 25, 3) := by decide +kernel
theorem dX2_init_31 : decode cX2_init 31 = .ok (.aload_n 0, 1) := by decide +kernel
theorem dX2_init_32 : decode cX2_init 32 = .ok (.iconst 0, 1) := by decide +kernel
theorem dX2_init_33 : decode cX2_init 33 = .ok (.putfield 28, 3) := by decide +kernel
theorem dX2_init_36 : decode cX2_init 36 = .ok (.aload_n 0, 1) := by decide +kernel
theorem dX2_init_37 : decode cX2_init 37 = .ok (.iconst 0, 1) := by decide +kernel
theorem dX2_init_38 : decode cX2_init 38 = .ok (.putfield 31, 3) := by decide +kernel
theorem dX2_init_41 : decode cX2_init 41 = .ok (.iconst 0, 1) := by decide +kernel
theorem dX2_init_42 : decode cX2_init 42 = .ok (.istore_n 1, 1) := by decide +kernel
theorem dX2_init_43 : decode cX2_init 43 = .ok (.iload_n 1, 1) := by decide +kernel
theorem dX2_init_44 : decode cX2_init 44 = .ok (.bipush 20, 2) := by decide +kernel
theorem dX2_init_46 : decode cX2_init 46 = .ok (.if_icmp .ge 22, 3) := by decide +kernel
theorem dX2_init_49 : decode cX2_init 49 = .ok (.aload_n 0, 1) := by decide +kernel
theorem dX2_init_50 : decode cX2_init 50 = .ok (.getfield 21, 3) := by decide +kernel
theorem dX2_init_53 : decode cX2_init 53 = .ok (.iload_n 1, 1) := by decide +kernel
theorem dX2_init_54 : decode cX2_init 54 = .ok (.new 19, 3) := by decide +kernel
theorem dX2_init_57 : decode cX2_init 57 = .ok (.dup, 1) := by decide +kernel
theorem dX2_init_58 : decode cX2_init 58 = .ok (.invokespecial 34, 3) := by decide +kernel
theorem dX2_init_61 : decode cX2_init 61 = .ok (.aastore, 1) := by decide +kernel
theorem dX2_init_62 : decode cX2_init 62 = .ok (.iinc 1 1, 3) := by decide +kernel
theorem dX2_init_65 : decode cX2_init 65 = .ok (.goto (-22), 3) := by decide +kernel
theorem dX2_init_68 : decode cX2_init 68 = .ok (.return_, 1) := by decide +kernel
theorem dX2_append_0 : decode cX2_append 0 = .ok (.aload_n 0, 1) := by decide +kernel
theorem dX2_append_1 : decode cX2_append 1 = .ok (.getfield 15, 3) := by decide +kernel
theorem dX2_append_4 : decode cX2_append 4 = .ok (.bipush 80, 2) := by decide +kernel
theorem dX2_append_6 : decode cX2_append 6 = .ok (.if_icmp .lt 7, 3) := by decide +kernel
theorem dX2_append_9 : decode cX2_append 9 = .ok (.sipush (-10003), 3) := by decide +kernel
theorem dX2_append_12 : decode cX2_append 12 = .ok (.ireturn, 1) := by decide +kernel
theorem dX2_append_13 : decode cX2_append 13 = .ok (.aload_n 0, 1) := by decide +kernel
theorem dX2_append_14 : decode cX2_append 14 = .ok (.getfield 9, 3) := by decide +kernel
theorem dX2_append_17 : decode cX2_append 17 = .ok (.aload_n 0, 1) := by decide +kernel
theorem dX2_append_18 : decode cX2_append 18 = .ok (.getfield 15, 3) := by decide +kernel
theorem dX2_append_21 : decode cX2_append 21 = .ok (.iload_n 1, 1) := by decide +kernel
theorem dX2_append_22 : decode cX2_append 22 = .ok (.castore, 1) := by decide +kernel
theorem dX2_append_23 : decode cX2_append 23 = .ok (.aload_n 0, 1) := by decide +kernel
theorem dX2_append_24 : decode cX2_append 24 = .ok (.dup, 1) := by decide +kernel
theorem dX2_append_25 : decode cX2_append 25 = .ok (.getfield 15, 3) := by decide +kernel
theorem dX2_append_28 : decode cX2_append 28 = .ok (.iconst 1, 1) := by decide +kernel
theorem dX2_append_29 : decode cX2_append 29 = .ok (.iadd, 1) := by decide +kernel
theorem dX2_append_30 : decode cX2_append 30 = .ok (.putfield 15, 3) := by decide +kernel
theorem dX2_append_33 : decode cX2_append 33 = .ok (.aload_n 0, 1) := by decide +kernel
theorem dX2_append_34 : decode cX2_append 34 = .ok (.getfield 15, 3) := by decide +kernel
theorem dX2_append_37 : decode cX2_append 37 = .ok (.ireturn, 1) := by decide +kernel
set_option maxRecDepth 20000 in
theorem ggX2_findFault_X2_readCommand : GoodIn wsX2_findFault wsX2_readCommand := goodIn_r _ [9, 10, 11, 12, 8, 13, 1, 4, 14, 15, 16, 17, 18, 19, 20, 21, 22, 23, 24, 25, 26, 27, 28, 29, 30, 31, 32, 33, 34, 35, 36, 37, 38, 39, 40, 41, 42, 43, 44, 45, 46, 47, 48, 49, 50, 51, 52, 53, 54, 55, 56, 57, 58, 59, 60, 61, 62, 63, 64, 65, 66, 67, 68, 69, 70, 71, 72, 73, 74, 75, 76, 77, 78, 79, 80, 81, 82, 83, 84, 85, 86, 87, 88, 89, 90, 91, 92, 93, 94, 95, 96, 97, 98, 99, 100, 101, 102, 103, 104, 105, 106, 107, 108, 115, 116, 117, 118, 119, 109, 110, 111, 112, 113, 114] (by decide +kernel) (by decide +kernel)
set_option maxRecDepth 20000 in
theorem gX2_findFault_X2_readCommand : GoodIn wsX2_findFault (wsV RX2 35 RX2 yX2_readCommand wsX2_readCommand) := goodIn_app (goodIn_of _ (by decide +kernel)) ggX2_findFault_X2_readCommand
set_option maxRecDepth 20000 in
theorem ggX2_findFault_X2_readSign : GoodIn wsX2_findFault wsX2_readSign := goodIn_r _ [71, 1, 10, 11, 12, 8, 13, 4, 14, 109, 110, 111, 112, 113, 114] (by decide +kernel) (by decide +kernel)
set_option maxRecDepth 20000 in
theorem gX2_findFault_X2_readSign : GoodIn wsX2_findFault (wsV RX2 39 RX2 yX2_readSign wsX2_readSign) := goodIn_app (goodIn_of _ (by decide +kernel)) ggX2_findFault_X2_readSign
theorem dX2_findFault_0 : decode cX2_findFault 0 = .ok (.aload_n 0, 1) := by decide +kernel
theorem dX2_findFault_1 : decode cX2_findFault 1 = .ok (.iconst 0, 1) := by decide +kernel
theorem dX2_findFault_2 : decode cX2_findFault 2 = .ok (.putfield 28, 3) := by decide +kernel
theorem dX2_findFault_5 : decode cX2_findFault 5 = .ok (.aload_n 0, 1) := by decide +kernel
theorem dX2_findFault_6 : decode cX2_findFault 6 = .ok (.iconst 0, 1) := by decide +kernel
theorem dX2_findFault_7 : decode cX2_findFault 7 = .ok (.putfield 25, 3) := by decide +kernel
theorem dX2_findFault_10 : decode cX2_findFault 10 = .ok (.aload_n 0, 1) := by decide +kernel
theorem dX2_findFault_11 : decode cX2_findFault 11 = .ok (.getfield 25, 3) := by decide +kernel
theorem dX2_findFault_14 : decode cX2_findFault 14 = .ok (.bipush 20, 2) := by decide +kernel
theorem dX2_findFault_16 : decode cX2_findFault 16 = .ok (.if_icmp .ge 56, 3) := by decide +kernel
theorem dX2_findFault_19 : decode cX2_findFault 19 = .ok (.aload_n 0, 1) := by decide +kernel
theorem dX2_findFault_20 : decode cX2_findFault 20 = .ok (.aload_n 0, 1) := by decide +kernel
theorem dX2_findFault_21 : decode cX2_findFault 21 = .ok (.getfield 21, 3) := by decide +kernel
theorem dX2_findFault_24 : decode cX2_findFault 24 = .ok (.aload_n 0, 1) := by decide +kernel
theorem dX2_findFault_25 : decode cX2_findFault 25 = .ok (.getfield 25, 3) := by decide +kernel
theorem dX2_findFault_28 : decode cX2_findFault 28 = .ok (.aaload, 1) := by decide +kernel
theorem dX2_findFault_29 : decode cX2_findFault 29 = .ok (.invokevirtual 35, 3) := by decide +kernel
theorem dX2_findFault_32 : decode cX2_findFault 32 = .ok (.ifCond .eq 40, 3) := by decide +kernel
theorem dX2_findFault_35 : decode cX2_findFault 35 = .ok (.aload_n 0, 1) := by decide +kernel
theorem dX2_findFault_36 : decode cX2_findFault 36 = .ok (.dup, 1) := by decide +kernel
theorem dX2_findFault_37 : decode cX2_findFault 37 = .ok (.getfield 25, 3) := by decide +kernel
theorem dX2_findFault_40 : decode cX2_findFault 40 = .ok (.iconst 1, 1) := by decide +kernel
theorem dX2_findFault_41 : decode cX2_findFault 41 = .ok (.iadd, 1) := by decide +kernel
theorem dX2_findFault_42 : decode cX2_findFault 42 = .ok (.putfield 25, 3) := by decide +kernel
theorem dX2_findFault_45 : decode cX2_findFault 45 = .ok (.aload_n 0, 1) := by decide +kernel
theorem dX2_findFault_46 : decode cX2_findFault 46 = .ok (.getfield 28, 3) := by decide +kernel
theorem dX2_findFault_49 : decode cX2_findFault 49 = .ok (.aload_n 0, 1) := by decide +kernel
theorem dX2_findFault_50 : decode cX2_findFault 50 = .ok (.getfield 15, 3) := by decide +kernel
theorem dX2_findFault_53 : decode cX2_findFault 53 = .ok (.if_icmp .ne 5, 3) := by decide +kernel
theorem dX2_findFault_56 : decode cX2_findFault 56 = .ok (.iconst (-1), 1) := by decide +kernel
theorem dX2_findFault_57 : decode cX2_findFault 57 = .ok (.ireturn, 1) := by decide +kernel
theorem dX2_findFault_58 : decode cX2_findFault 58 = .ok (.aload_n 0, 1) := by decide +kernel
theorem dX2_findFault_59 : decode cX2_findFault 59 = .ok (.bipush 59, 2) := by decide +kernel
theorem dX2_findFault_61 : decode cX2_findFault 61 = .ok (.invokevirtual 39, 3) := by decide +kernel
theorem dX2_findFault_64 : decode cX2_findFault 64 = .ok (.ifCond .ne (-54), 3) := by decide +kernel
theorem dX2_findFault_67 : decode cX2_findFault 67 = .ok (.aload_n 0, 1) := by decide +kernel
theorem dX2_findFault_68 : decode cX2_findFault 68 = .ok (.getfield 28, 3) := by decide +kernel
theorem dX2_findFault_71 : decode cX2_findFault 71 = .ok (.ireturn, 1) := by decide +kernel
theorem dX2_findFault_72 : decode cX2_findFault 72 = .ok (.aload_n 0, 1) := by decide +kernel
theorem dX2_findFault_73 : decode cX2_findFault 73 = .ok (.getfield 28, 3) := by decide +kernel
theorem dX2_findFault_76 : decode cX2_findFault 76 = .ok (.ireturn, 1) := by decide +kernel
set_option maxRecDepth 20000 in
theorem ggX2_readCommand_X2_isNext : GoodIn wsX2_readCommand wsX2_isNext := goodIn_r _ [5, 6, 7, 8, 108, 109, 110, 111, 112, 113] (by decide +kernel) (by decide +kernel)
set_option maxRecDepth 20000 in
theorem gX2_readCommand_X2_isNext : GoodIn wsX2_readCommand (wsV RX2 43 RX2 yX2_isNext wsX2_isNext) := goodIn_app (goodIn_of _ (by decide +kernel)) ggX2_readCommand_X2_isNext
set_option maxRecDepth 20000 in
theorem ggX2_readCommand_X2_readWord : GoodIn wsX2_readCommand wsX2_readWord := goodIn_r _ [12, 13, 14, 15, 16, 17, 18, 19, 20, 21, 22, 23, 24, 25, 26, 27, 28, 29, 30, 31, 32, 33, 34, 35, 36, 37, 38, 39, 40, 41, 42, 43, 44, 45, 46, 47, 48, 49, 50, 51, 52, 53, 54, 55, 56, 57, 58, 59, 60, 61, 62, 63, 64, 4, 65, 6, 1, 2, 3, 5, 7, 8, 108, 109, 110, 111, 112, 113] (by decide +kernel) (by decide +kernel)
set_option maxRecDepth 20000 in
theorem gX2_readCommand_X2_readWord : GoodIn wsX2_readCommand (wsV RX2 51 RX2 yX2_readWord wsX2_readWord) := goodIn_app (goodIn_of _ (by decide +kernel)) ggX2_readCommand_X2_readWord
set_option maxRecDepth 20000 in
theorem ggX2_readCommand_X2_readName : GoodIn wsX2_readCommand wsX2_readName := goodIn_r _ [69, 70, 71, 72, 73, 4, 74, 62, 63, 64, 65, 6, 1, 2, 3, 5, 7, 8, 75, 76, 77, 78, 79, 80, 81, 108, 109, 110, 111, 112, 113, 103, 104, 105, 106, 107] (by decide +kernel) (by decide +kernel)
set_option maxRecDepth 20000 in
theorem gX2_readCommand_X2_readName : GoodIn wsX2_readCommand (wsV RX2 55 RX2 yX2_readName wsX2_readName) := goodIn_app (goodIn_of _ (by decide +kernel)) ggX2_readCommand_X2_readName
set_option maxRecDepth 20000 in
theorem ggX2_readCommand_X2_readKind : GoodIn wsX2_readCommand wsX2_readKind := goodIn_r _ [85, 62, 63, 64, 4, 65, 6, 1, 2, 3, 5, 7, 8, 9, 10, 11, 12, 13, 14, 15, 16, 17, 18, 19, 20, 21, 22, 23, 24, 25, 26, 27, 28, 29, 30, 31, 32, 33, 34, 35, 36, 37, 38, 39, 40, 41, 42, 43, 44, 45, 46, 47, 48, 49, 50, 51, 52, 53, 54, 55, 56, 57, 58, 59, 60, 61, 103, 104, 105, 106, 107, 108, 109, 110, 111, 112, 113] (by decide +kernel) (by decide +kernel)
set_option maxRecDepth 20000 in
theorem gX2_readCommand_X2_readKind : GoodIn wsX2_readCommand (wsV RX2 58 RX2 yX2_readKind wsX2_readKind) := goodIn_app (goodIn_of _ (by decide +kernel)) ggX2_readCommand_X2_readKind
set_option maxRecDepth 20000 in
theorem ggX2_readCommand_X2_readDefault : GoodIn wsX2_readCommand wsX2_readDefault := goodIn_r _ [89, 70, 1, 2, 3, 4, 5, 6, 7, 8, 90, 91, 92, 93, 94, 71, 72, 73, 74, 62, 63, 64, 65, 75, 76, 77, 78, 79, 80, 81, 103, 104, 105, 106, 107, 108, 109, 110, 111, 112, 113] (by decide +kernel) (by decide +kernel)
set_option maxRecDepth 20000 in
theorem gX2_readCommand_X2_readDefault : GoodIn wsX2_readCommand (wsV RX2 61 RX2 yX2_readDefault wsX2_readDefault) := goodIn_app (goodIn_of _ (by decide +kernel)) ggX2_readCommand_X2_readDefault
set_option maxRecDepth 20000 in
theorem ggX2_readCommand_X2_readRow : GoodIn wsX2_readCommand wsX2_readRow := goodIn_r _ [98, 70, 71, 72, 73, 4, 74, 62, 63, 64, 65, 6, 1, 2, 3, 5, 7, 8, 75, 76, 77, 78, 79, 80, 81, 108, 109, 110, 111, 112, 113, 103, 104, 105, 106, 107] (by decide +kernel) (by decide +kernel)
set_option maxRecDepth 20000 in
theorem gX2_readCommand_X2_readRow : GoodIn wsX2_readCommand (wsV RX2 72 RX2 yX2_readRow wsX2_readRow) := goodIn_app (goodIn_of _ (by decide +kernel)) ggX2_readCommand_X2_readRow
set_option maxRecDepth 20000 in
theorem ggX2_readCommand_X2_readNumber : GoodIn wsX2_readCommand wsX2_readNumber := goodIn_r _ [102, 70, 71, 72, 73, 4, 74, 62, 63, 64, 65, 6, 1, 2, 3, 5, 7, 8, 75, 76, 77, 78, 79, 80, 81, 108, 109, 110, 111, 112, 113, 103, 104, 105, 106, 107] (by decide +kernel) (by decide +kernel)
set_option maxRecDepth 20000 in
theorem gX2_readCommand_X2_readNumber : GoodIn wsX2_readCommand (wsV RX2 75 RX2 yX2_readNumber wsX2_readNumber) := goodIn_app (goodIn_of _ (by decide +kernel)) ggX2_readCommand_X2_readNumber
theorem dX2_readCommand_0 : decode cX2_readCommand 0 = .ok (.aload_n 0, 1) := by decide +kernel
theorem dX2_readCommand_1 : decode cX2_readCommand 1 = .ok (.bipush 97, 2) := by decide +kernel
theorem dX2_readCommand_3 : decode cX2_readCommand 3 = .ok (.invokevirtual 43, 3) := by decide +kernel
theorem dX2_readCommand_6 : decode cX2_readCommand 6 = .ok (.ifCond .eq 47, 3) := by decide +kernel
theorem dX2_readCommand_9 : decode cX2_readCommand 9 = .ok (.aload_n 1, 1) := by decide +kernel
theorem dX2_readCommand_10 : decode cX2_readCommand 10 = .ok (.iconst 0, 1) := by decide +kernel
theorem dX2_readCommand_11 : decode cX2_readCommand 11 = .ok (.putfield 46, 3) := by decide +kernel
theorem dX2_readCommand_14 : decode cX2_readCommand 14 = .ok (.aload_n 0, 1) := by decide +kernel
theorem dX2_readCommand_15 : decode cX2_readCommand 15 = .ok (.ldc 49, 2) := by decide +kernel
theorem dX2_readCommand_17 : decode cX2_readCommand 17 = .ok (.invokevirtual 51, 3) := by decide +kernel
theorem dX2_readCommand_20 : decode cX2_readCommand 20 = .ok (.ifCond .eq 31, 3) := by decide +kernel
theorem dX2_readCommand_23 : decode cX2_readCommand 23 = .ok (.aload_n 0, 1) := by decide +kernel
theorem dX2_readCommand_24 : decode cX2_readCommand 24 = .ok (.aload_n 1, 1) := by decide +kernel
theorem dX2_readCommand_25 : decode cX2_readCommand 25 = .ok (.invokevirtual 55, 3) := by decide +kernel
theorem dX2_readCommand_28 : decode cX2_readCommand 28 = .ok (.ifCond .eq 23, 3) := by decide +kernel
theorem dX2_readCommand_31 : decode cX2_readCommand 31 = .ok (.aload_n 0, 1) := by decide +kernel
theorem dX2_readCommand_32 : decode cX2_readCommand 32 = .ok (.aload_n 1, 1) := by decide +kernel
theorem dX2_readCommand_33 : decode cX2_readCommand 33 = .ok (.invokevirtual 58, 3) := by decide +kernel
theorem dX2_readCommand_36 : decode cX2_readCommand 36 = .ok (.ifCond .eq 15, 3) := by decide +kernel
theorem dX2_readCommand_39 : decode cX2_readCommand 39 = .ok (.aload_n 0, 1) := by decide +kernel
theorem dX2_readCommand_40 : decode cX2_readCommand 40 = .ok (.aload_n 1, 1) := by decide +kernel
theorem dX2_readCommand_41 : decode cX2_readCommand 41 = .ok (.invokevirtual 61, 3) := by decide +kernel
theorem dX2_readCommand_44 : decode cX2_readCommand 44 = .ok (.ifCond .eq 7, 3) := by decide +kernel
theorem dX2_readCommand_47 : decode cX2_readCommand 47 = .ok (.iconst 1, 1) := by decide +kernel
theorem dX2_readCommand_48 : decode cX2_readCommand 48 = .ok (.goto 4, 3) := by decide +kernel
theorem dX2_readCommand_51 : decode cX2_readCommand 51 = .ok (.iconst 0, 1) := by decide +kernel
theorem dX2_readCommand_52 : decode cX2_readCommand 52 = .ok (.ireturn, 1) := by decide +kernel
theorem dX2_readCommand_53 : decode cX2_readCommand 53 = .ok (.aload_n 0, 1) := by decide +kernel
theorem dX2_readCommand_54 : decode cX2_readCommand 54 = .ok (.bipush 100, 2) := by decide +kernel
theorem dX2_readCommand_56 : decode cX2_readCommand 56 = .ok (.invokevirtual 43, 3) := by decide +kernel
theorem dX2_readCommand_59 : decode cX2_readCommand 59 = .ok (.ifCond .eq 31, 3) := by decide +kernel
theorem dX2_readCommand_62 : decode cX2_readCommand 62 = .ok (.aload_n 1, 1) := by decide +kernel
theorem dX2_readCommand_63 : decode cX2_readCommand 63 = .ok (.iconst 1, 1) := by decide +kernel
theorem dX2_readCommand_64 : decode cX2_readCommand 64 = .ok (.putfield 46, 3) := by decide +kernel
theorem dX2_readCommand_67 : decode cX2_readCommand 67 = .ok (.aload_n 0, 1) := by decide +kernel
theorem dX2_readCommand_68 : decode cX2_readCommand 68 = .ok (.ldc 64, 2) := by decide +kernel
theorem dX2_readCommand_70 : decode cX2_readCommand 70 = .ok (.invokevirtual 51, 3) := by decide +kernel
theorem dX2_readCommand_73 : decode cX2_readCommand 73 = .ok (.ifCond .eq 15, 3) := by decide +kernel
theorem dX2_readCommand_76 : decode cX2_readCommand 76 = .ok (.aload_n 0, 1) := by decide +kernel
theorem dX2_readCommand_77 : decode cX2_readCommand 77 = .ok (.aload_n 1, 1) := by decide +kernel
theorem dX2_readCommand_78 : decode cX2_readCommand 78 = .ok (.invokevirtual 55, 3) := by decide +kernel
theorem dX2_readCommand_81 : decode cX2_readCommand 81 = .ok (.ifCond .eq 7, 3) := by decide +kernel
theorem dX2_readCommand_84 : decode cX2_readCommand 84 = .ok (.iconst 1, 1) := by decide +kernel
theorem dX2_readCommand_85 : decode cX2_readCommand 85 = .ok (.goto 4, 3) := by decide +kernel
theorem dX2_readCommand_88 : decode cX2_readCommand 88 = .ok (.iconst 0, 1) := by decide +kernel
theorem dX2_readCommand_89 : decode cX2_readCommand 89 = .ok (.ireturn, 1) := by decide +kernel
theorem dX2_readCommand_90 : decode cX2_readCommand 90 = .ok (.aload_n 0, 1) := by decide +kernel
theorem dX2_readCommand_91 : decode cX2_readCommand 91 = .ok (.bipush 107, 2) := by decide +kernel
theorem dX2_readCommand_93 : decode cX2_readCommand 93 = .ok (.invokevirtual 43, 3) := by decide +kernel
theorem dX2_readCommand_96 : decode cX2_readCommand 96 = .ok (.ifCond .eq 39, 3) := by decide +kernel
theorem dX2_readCommand_99 : decode cX2_readCommand 99 = .ok (.aload_n 1, 1) := by decide +kernel
theorem dX2_readCommand_100 : decode cX2_readCommand 100 = .ok (.iconst 2, 1) := by decide +kernel
theorem dX2_readCommand_101 : decode cX2_readCommand 101 = .ok (.putfield 46, 3) := by decide +kernel
theorem dX2_readCommand_104 : decode cX2_readCommand 104 = .ok (.aload_n 0, 1) := by decide +kernel
theorem dX2_readCommand_105 : decode cX2_readCommand 105 = .ok (.ldc 66, 2) := by decide +kernel
theorem dX2_readCommand_107 : decode cX2_readCommand 107 = .ok (.invokevirtual 51, 3) := by decide +kernel
theorem dX2_readCommand_110 : decode cX2_readCommand 110 = .ok (.ifCond .eq 23, 3) := by decide +kernel
theorem dX2_readCommand_113 : decode cX2_readCommand 113 = .ok (.aload_n 0, 1) := by decide +kernel
theorem dX2_readCommand_114 : decode cX2_readCommand 114 = .ok (.aload_n 1, 1) := by decide +kernel
theorem dX2_readCommand_115 : decode cX2_readCommand 115 = .ok (.invokevirtual 55, 3) := by decide +kernel
theorem dX2_readCommand_118 : decode cX2_readCommand 118 = .ok (.ifCond .eq 15, 3) := by decide +kernel
theorem dX2_readCommand_121 : decode cX2_readCommand 121 = .ok (.aload_n 0, 1) := by decide +kernel
theorem dX2_readCommand_122 : decode cX2_readCommand 122 = .ok (.aload_n 1, 1) := by decide +kernel
theorem dX2_readCommand_123 : decode cX2_readCommand 123 = .ok (.invokevirtual 58, 3) := by decide +kernel
theorem dX2_readCommand_126 : decode cX2_readCommand 126 = .ok (.ifCond .eq 7, 3) := by decide +kernel
theorem dX2_readCommand_129 : decode cX2_readCommand 129 = .ok (.iconst 1, 1) := by decide +kernel
theorem dX2_readCommand_130 : decode cX2_readCommand 130 = .ok (.goto 4, 3) := by decide +kernel
theorem dX2_readCommand_133 : decode cX2_readCommand 133 = .ok (.iconst 0, 1) := by decide +kernel
theorem dX2_readCommand_134 : decode cX2_readCommand 134 = .ok (.ireturn, 1) := by decide +kernel
theorem dX2_readCommand_135 : decode cX2_readCommand 135 = .ok (.aload_n 0, 1) := by decide +kernel
theorem dX2_readCommand_136 : decode cX2_readCommand 136 = .ok (.bipush 114, 2) := by decide +kernel
theorem dX2_readCommand_138 : decode cX2_readCommand 138 = .ok (.invokevirtual 43, 3) := by decide +kernel
theorem dX2_readCommand_141 : decode cX2_readCommand 141 = .ok (.ifCond .eq 15, 3) := by decide +kernel
theorem dX2_readCommand_144 : decode cX2_readCommand 144 = .ok (.aload_n 1, 1) := by decide +kernel
theorem dX2_readCommand_145 : decode cX2_readCommand 145 = .ok (.iconst 3, 1) := by decide +kernel
theorem dX2_readCommand_146 : decode cX2_readCommand 146 = .ok (.putfield 46, 3) := by decide +kernel
theorem dX2_readCommand_149 : decode cX2_readCommand 149 = .ok (.aload_n 0, 1) := by decide +kernel
theorem dX2_readCommand_150 : decode cX2_readCommand 150 = .ok (.ldc 68, 2) := by decide +kernel
theorem dX2_readCommand_152 : decode cX2_readCommand 152 = .ok (.invokevirtual 51, 3) := by decide +kernel
theorem dX2_readCommand_155 : decode cX2_readCommand 155 = .ok (.ireturn, 1) := by decide +kernel
theorem dX2_readCommand_156 : decode cX2_readCommand 156 = .ok (.aload_n 1, 1) := by decide +kernel
theorem dX2_readCommand_157 : decode cX2_readCommand 157 = .ok (.iconst 4, 1) := by decide +kernel
theorem dX2_readCommand_158 : decode cX2_readCommand 158 = .ok (.putfield 46, 3) := by decide +kernel
theorem dX2_readCommand_161 : decode cX2_readCommand 161 = .ok (.aload_n 0, 1) := by decide +kernel
theorem dX2_readCommand_162 : decode cX2_readCommand 162 = .ok (.ldc 70, 2) := by decide +kernel
theorem dX2_readCommand_164 : decode cX2_readCommand 164 = .ok (.invokevirtual 51, 3) := by decide +kernel
theorem dX2_readCommand_167 : decode cX2_readCommand 167 = .ok (.ifCond .eq 31, 3) := by decide +kernel
theorem dX2_readCommand_170 : decode cX2_readCommand 170 = .ok (.aload_n 0, 1) := by decide +kernel
theorem dX2_readCommand_171 : decode cX2_readCommand 171 = .ok (.aload_n 1, 1) := by decide +kernel
theorem dX2_readCommand_172 : decode cX2_readCommand 172 = .ok (.invokevirtual 72, 3) := by decide +kernel
theorem dX2_readCommand_175 : decode cX2_readCommand 175 = .ok (.ifCond .eq 23, 3) := by decide +kernel
theorem dX2_readCommand_178 : decode cX2_readCommand 178 = .ok (.aload_n 0, 1) := by decide +kernel
theorem dX2_readCommand_179 : decode cX2_readCommand 179 = .ok (.aload_n 1, 1) := by decide +kernel
theorem dX2_readCommand_180 : decode cX2_readCommand 180 = .ok (.invokevirtual 55, 3) := by decide +kernel
theorem dX2_readCommand_183 : decode cX2_readCommand 183 = .ok (.ifCond .eq 15, 3) := by decide +kernel
theorem dX2_readCommand_186 : decode cX2_readCommand 186 = .ok (.aload_n 0, 1) := by decide +kernel
theorem dX2_readCommand_187 : decode cX2_readCommand 187 = .ok (.aload_n 1, 1) := by decide +kernel
theorem dX2_readCommand_188 : decode cX2_readCommand 188 = .ok (.invokevirtual 75, 3) := by decide +kernel
theorem dX2_readCommand_191 : decode cX2_readCommand 191 = .ok (.ifCond .eq 7, 3) := by decide +kernel
theorem dX2_readCommand_194 : decode cX2_readCommand 194 = .ok (.iconst 1, 1) := by decide +kernel
theorem dX2_readCommand_195 : decode cX2_readCommand 195 = .ok (.goto 4, 3) := by decide +kernel
theorem dX2_readCommand_198 : decode cX2_readCommand 198 = .ok (.iconst 0, 1) := by decide +kernel
theorem dX2_readCommand_199 : decode cX2_readCommand 199 = .ok (.ireturn, 1) := by decide +kernel
set_option maxRecDepth 20000 in
theorem ggX2_readName_X2_readOperand : GoodIn wsX2_readName wsX2_readOperand := goodIn_r _ [6, 1, 7, 8, 9, 5, 10, 11, 12, 13, 14, 15, 16, 17, 18, 19, 20, 21, 22, 23, 24, 25, 26, 27, 28, 29, 30] (by decide +kernel) (by decide +kernel)
set_option maxRecDepth 20000 in
theorem gX2_readName_X2_readOperand : GoodIn wsX2_readName (wsV RX2 78 RX2 yX2_readOperand wsX2_readOperand) := goodIn_app (goodIn_of _ (by decide +kernel)) ggX2_readName_X2_readOperand
theorem dX2_readName_0 : decode cX2_readName 0 = .ok (.aload_n 0, 1) := by decide +kernel
theorem dX2_readName_1 : decode cX2_readName 1 = .ok (.iconst 0, 1) := by decide +kernel
theorem dX2_readName_2 : decode cX2_readName 2 = .ok (.bipush 7, 2) := by decide +kernel
theorem dX2_readName_4 : decode cX2_readName 4 = .ok (.invokevirtual 78, 3) := by decide +kernel
theorem dX2_readName_7 : decode cX2_readName 7 = .ok (.ifCond .ne 5, 3) := by decide +kernel
theorem dX2_readName_10 : decode cX2_readName 10 = .ok (.iconst 0, 1) := by decide +kernel
theorem dX2_readName_11 : decode cX2_readName 11 = .ok (.ireturn, 1) := by decide +kernel
theorem dX2_readName_12 : decode cX2_readName 12 = .ok (.aload_n 1, 1) := by decide +kernel
theorem dX2_readName_13 : decode cX2_readName 13 = .ok (.aload_n 0, 1) := by decide +kernel
theorem dX2_readName_14 : decode cX2_readName 14 = .ok (.getfield 31, 3) := by decide +kernel
theorem dX2_readName_17 : decode cX2_readName 17 = .ok (.putfield 82, 3) := by decide +kernel
theorem dX2_readName_20 : decode cX2_readName 20 = .ok (.iconst 1, 1) := by decide +kernel
theorem dX2_readName_21 : decode cX2_readName 21 = .ok (.ireturn, 1) := by decide +kernel
set_option maxRecDepth 20000 in
theorem ggX2_readRow_X2_readOperand : GoodIn wsX2_readRow wsX2_readOperand := goodIn_r _ [6, 1, 7, 8, 9, 5, 10, 11, 12, 13, 14, 15, 16, 17, 18, 19, 20, 21, 22, 23, 24, 25, 26, 27, 28, 29, 30] (by decide +kernel) (by decide +kernel)
set_option maxRecDepth 20000 in
theorem gX2_readRow_X2_readOperand : GoodIn wsX2_readRow (wsV RX2 78 RX2 yX2_readOperand wsX2_readOperand) := goodIn_app (goodIn_of _ (by decide +kernel)) ggX2_readRow_X2_readOperand
theorem dX2_readRow_0 : decode cX2_readRow 0 = .ok (.aload_n 0, 1) := by decide +kernel
theorem dX2_readRow_1 : decode cX2_readRow 1 = .ok (.iconst 0, 1) := by decide +kernel
theorem dX2_readRow_2 : decode cX2_readRow 2 = .ok (.bipush 23, 2) := by decide +kernel
theorem dX2_readRow_4 : decode cX2_readRow 4 = .ok (.invokevirtual 78, 3) := by decide +kernel
theorem dX2_readRow_7 : decode cX2_readRow 7 = .ok (.ifCond .ne 5, 3) := by decide +kernel
theorem dX2_readRow_10 : decode cX2_readRow 10 = .ok (.iconst 0, 1) := by decide +kernel
theorem dX2_readRow_11 : decode cX2_readRow 11 = .ok (.ireturn, 1) := by decide +kernel
theorem dX2_readRow_12 : decode cX2_readRow 12 = .ok (.aload_n 1, 1) := by decide +kernel
theorem dX2_readRow_13 : decode cX2_readRow 13 = .ok (.aload_n 0, 1) := by decide +kernel
theorem dX2_readRow_14 : decode cX2_readRow 14 = .ok (.getfield 31, 3) := by decide +kernel
theorem dX2_readRow_17 : decode cX2_readRow 17 = .ok (.putfield 85, 3) := by decide +kernel
theorem dX2_readRow_20 : decode cX2_readRow 20 = .ok (.iconst 1, 1) := by decide +kernel
theorem dX2_readRow_21 : decode cX2_readRow 21 = .ok (.ireturn, 1) := by decide +kernel
set_option maxRecDepth 20000 in
theorem ggX2_readNumber_X2_readOperand : GoodIn wsX2_readNumber wsX2_readOperand := goodIn_r _ [6, 1, 7, 8, 9, 5, 10, 11, 12, 13, 14, 15, 16, 17, 18, 19, 20, 21, 22, 23, 24, 25, 26, 27, 28, 29, 30] (by decide +kernel) (by decide +kernel)
set_option maxRecDepth 20000 in
theorem gX2_readNumber_X2_readOperand : GoodIn wsX2_readNumber (wsV RX2 78 RX2 yX2_readOperand wsX2_readOperand) := goodIn_app (goodIn_of _ (by decide +kernel)) ggX2_readNumber_X2_readOperand
theorem dX2_readNumber_0 : decode cX2_readNumber 0 = .ok (.aload_n 0, 1) := by decide +kernel
theorem dX2_readNumber_1 : decode cX2_readNumber 1 = .ok (.sipush (-9999), 3) := by decide +kernel
theorem dX2_readNumber_4 : decode cX2_readNumber 4 = .ok (.sipush 9999, 3) := by decide +kernel
theorem dX2_readNumber_7 : decode cX2_readNumber 7 = .ok (.invokevirtual 78, 3) := by decide +kernel
theorem dX2_readNumber_10 : decode cX2_readNumber 10 = .ok (.ifCond .ne 5, 3) := by decide +kernel
theorem dX2_readNumber_13 : decode cX2_readNumber 13 = .ok (.iconst 0, 1) := by decide +kernel
theorem dX2_readNumber_14 : decode cX2_readNumber 14 = .ok (.ireturn, 1) := by decide +kernel
theorem dX2_readNumber_15 : decode cX2_readNumber 15 = .ok (.aload_n 1, 1) := by decide +kernel
theorem dX2_readNumber_16 : decode cX2_readNumber 16 = .ok (.aload_n 0, 1) := by decide +kernel
theorem dX2_readNumber_17 : decode cX2_readNumber 17 = .ok (.getfield 31, 3) := by decide +kernel
theorem dX2_readNumber_20 : decode cX2_readNumber 20 = .ok (.putfield 87, 3) := by decide +kernel
theorem dX2_readNumber_23 : decode cX2_readNumber 23 = .ok (.iconst 1, 1) := by decide +kernel
theorem dX2_readNumber_24 : decode cX2_readNumber 24 = .ok (.ireturn, 1) := by decide +kernel
set_option maxRecDepth 20000 in
theorem ggX2_readDefault_X2_isNext : GoodIn wsX2_readDefault wsX2_isNext := goodIn_r _ [6, 7, 8, 9, 35, 36, 37, 38, 39, 40] (by decide +kernel) (by decide +kernel)
set_option maxRecDepth 20000 in
theorem gX2_readDefault_X2_isNext : GoodIn wsX2_readDefault (wsV RX2 43 RX2 yX2_isNext wsX2_isNext) := goodIn_app (goodIn_of _ (by decide +kernel)) ggX2_readDefault_X2_isNext
set_option maxRecDepth 20000 in
theorem ggX2_readDefault_X4_leastOfKind : GoodIn wsX2_readDefault wsX4_leastOfKind := goodIn_r _ [12] (by decide +kernel) (by decide +kernel)
set_option maxRecDepth 20000 in
theorem gX2_readDefault_X4_leastOfKind_n90 : GoodIn wsX2_readDefault (wsX4_leastOfKind) := ggX2_readDefault_X4_leastOfKind
set_option maxRecDepth 20000 in
theorem ggX2_readDefault_X4_greatestOfKind : GoodIn wsX2_readDefault wsX4_greatestOfKind := goodIn_r _ [14] (by decide +kernel) (by decide +kernel)
set_option maxRecDepth 20000 in
theorem gX2_readDefault_X4_greatestOfKind_n94 : GoodIn wsX2_readDefault (wsX4_greatestOfKind) := ggX2_readDefault_X4_greatestOfKind
set_option maxRecDepth 20000 in
theorem ggX2_readDefault_X2_readOperand : GoodIn wsX2_readDefault wsX2_readOperand := goodIn_r _ [18, 1, 19, 20, 21, 5, 22, 7, 2, 3, 4, 6, 8, 9, 23, 24, 25, 26, 27, 28, 29, 35, 36, 37, 38, 39, 40] (by decide +kernel) (by decide +kernel)
set_option maxRecDepth 20000 in
theorem gX2_readDefault_X2_readOperand : GoodIn wsX2_readDefault (wsV RX2 78 RX2 yX2_readOperand wsX2_readOperand) := goodIn_app (goodIn_of _ (by decide +kernel)) ggX2_readDefault_X2_readOperand
theorem dX2_readDefault_0 : decode cX2_readDefault 0 = .ok (.aload_n 1, 1) := by decide +kernel
theorem dX2_readDefault_1 : decode cX2_readDefault 1 = .ok (.iconst 0, 1) := by decide +kernel
theorem dX2_readDefault_2 : decode cX2_readDefault 2 = .ok (.putfield 87, 3) := by decide +kernel
theorem dX2_readDefault_5 : decode cX2_readDefault 5 = .ok (.aload_n 0, 1) := by decide +kernel
theorem dX2_readDefault_6 : decode cX2_readDefault 6 = .ok (.bipush 32, 2) := by decide +kernel
theorem dX2_readDefault_8 : decode cX2_readDefault 8 = .ok (.invokevirtual 43, 3) := by decide +kernel
theorem dX2_readDefault_11 : decode cX2_readDefault 11 = .ok (.ifCond .ne 5, 3) := by decide +kernel
theorem dX2_readDefault_14 : decode cX2_readDefault 14 = .ok (.iconst 1, 1) := by decide +kernel
theorem dX2_readDefault_15 : decode cX2_readDefault 15 = .ok (.ireturn, 1) := by decide +kernel
theorem dX2_readDefault_16 : decode cX2_readDefault 16 = .ok (.aload_n 0, 1) := by decide +kernel
theorem dX2_readDefault_17 : decode cX2_readDefault 17 = .ok (.aload_n 1, 1) := by decide +kernel
theorem dX2_readDefault_18 : decode cX2_readDefault 18 = .ok (.getfield 88, 3) := by decide +kernel
theorem dX2_readDefault_21 : decode cX2_readDefault 21 = .ok (.invokestatic 90, 3) := by decide +kernel
theorem dX2_readDefault_24 : decode cX2_readDefault 24 = .ok (.aload_n 1, 1) := by decide +kernel
theorem dX2_readDefault_25 : decode cX2_readDefault 25 = .ok (.getfield 88, 3) := by decide +kernel
theorem dX2_readDefault_28 : decode cX2_readDefault 28 = .ok (.invokestatic 94, 3) := by decide +kernel
theorem dX2_readDefault_31 : decode cX2_readDefault 31 = .ok (.invokevirtual 78, 3) := by decide +kernel
theorem dX2_readDefault_34 : decode cX2_readDefault 34 = .ok (.ifCond .ne 5, 3) := by decide +kernel
theorem dX2_readDefault_37 : decode cX2_readDefault 37 = .ok (.iconst 0, 1) := by decide +kernel
theorem dX2_readDefault_38 : decode cX2_readDefault 38 = .ok (.ireturn, 1) := by decide +kernel
theorem dX2_readDefault_39 : decode cX2_readDefault 39 = .ok (.aload_n 1, 1) := by decide +kernel
theorem dX2_readDefault_40 : decode cX2_readDefault 40 = .ok (.aload_n 0, 1) := by decide +kernel
theorem dX2_readDefault_41 : decode cX2_readDefault 41 = .ok (.getfield 31, 3) := by decide +kernel
theorem dX2_readDefault_44 : decode cX2_readDefault 44 = .ok (.putfield 87, 3) := by decide +kernel
theorem dX2_readDefault_47 : decode cX2_readDefault 47 = .ok (.iconst 1, 1) := by decide +kernel
theorem dX2_readDefault_48 : decode cX2_readDefault 48 = .ok (.ireturn, 1) := by decide +kernel
set_option maxRecDepth 20000 in
theorem ggX2_readKind_X2_readSign : GoodIn wsX2_readKind wsX2_readSign := goodIn_r _ [5, 6, 7, 8, 9, 4, 10, 11, 12, 71, 72, 73, 74, 75, 76] (by decide +kernel) (by decide +kernel)
set_option maxRecDepth 20000 in
theorem gX2_readKind_X2_readSign : GoodIn wsX2_readKind (wsV RX2 39 RX2 yX2_readSign wsX2_readSign) := goodIn_app (goodIn_of _ (by decide +kernel)) ggX2_readKind_X2_readSign
set_option maxRecDepth 20000 in
theorem ggX2_readKind_X2_isNext : GoodIn wsX2_readKind wsX2_isNext := goodIn_r _ [10, 6, 11, 12, 71, 72, 73, 74, 75, 76] (by decide +kernel) (by decide +kernel)
set_option maxRecDepth 20000 in
theorem gX2_readKind_X2_isNext : GoodIn wsX2_readKind (wsV RX2 43 RX2 yX2_isNext wsX2_isNext) := goodIn_app (goodIn_of _ (by decide +kernel)) ggX2_readKind_X2_isNext
set_option maxRecDepth 20000 in
theorem ggX2_readKind_X2_readWord : GoodIn wsX2_readKind wsX2_readWord := goodIn_r _ [16, 17, 18, 19, 20, 21, 22, 23, 24, 25, 26, 27, 28, 29, 30, 31, 32, 33, 34, 35, 36, 37, 38, 39, 40, 41, 42, 43, 44, 45, 46, 47, 48, 49, 50, 51, 52, 53, 54, 55, 56, 57, 58, 59, 60, 61, 62, 63, 64, 65, 1, 2, 3, 4, 5, 6, 7, 8, 9, 10, 11, 12, 71, 72, 73, 74, 75, 76] (by decide +kernel) (by decide +kernel)
set_option maxRecDepth 20000 in
theorem gX2_readKind_X2_readWord : GoodIn wsX2_readKind (wsV RX2 51 RX2 yX2_readWord wsX2_readWord) := goodIn_app (goodIn_of _ (by decide +kernel)) ggX2_readKind_X2_readWord
theorem dX2_readKind_0 : decode cX2_readKind 0 = .ok (.aload_n 0, 1) := by decide +kernel
theorem dX2_readKind_1 : decode cX2_readKind 1 = .ok (.bipush 32, 2) := by decide +kernel
theorem dX2_readKind_3 : decode cX2_readKind 3 = .ok (.invokevirtual 39, 3) := by decide +kernel
theorem dX2_readKind_6 : decode cX2_readKind 6 = .ok (.ifCond .ne 5, 3) := by decide +kernel
theorem dX2_readKind_9 : decode cX2_readKind 9 = .ok (.iconst 0, 1) := by decide +kernel
theorem dX2_readKind_10 : decode cX2_readKind 10 = .ok (.ireturn, 1) := by decide +kernel
theorem dX2_readKind_11 : decode cX2_readKind 11 = .ok (.aload_n 0, 1) := by decide +kernel
theorem dX2_readKind_12 : decode cX2_readKind 12 = .ok (.bipush 102, 2) := by decide +kernel
theorem dX2_readKind_14 : decode cX2_readKind 14 = .ok (.invokevirtual 43, 3) := by decide +kernel
theorem dX2_readKind_17 : decode cX2_readKind 17 = .ok (.ifCond .eq 15, 3) := by decide +kernel
theorem dX2_readKind_20 : decode cX2_readKind 20 = .ok (.aload_n 1, 1) := by decide +kernel
theorem dX2_readKind_21 : decode cX2_readKind 21 = .ok (.iconst 0, 1) := by decide +kernel
theorem dX2_readKind_22 : decode cX2_readKind 22 = .ok (.putfield 88, 3) := by decide +kernel
theorem dX2_readKind_25 : decode cX2_readKind 25 = .ok (.aload_n 0, 1) := by decide +kernel
theorem dX2_readKind_26 : decode cX2_readKind 26 = .ok (.ldc 97, 2) := by decide +kernel
theorem dX2_readKind_28 : decode cX2_readKind 28 = .ok (.invokevirtual 51, 3) := by decide +kernel
theorem dX2_readKind_31 : decode cX2_readKind 31 = .ok (.ireturn, 1) := by decide +kernel
theorem dX2_readKind_32 : decode cX2_readKind 32 = .ok (.aload_n 0, 1) := by decide +kernel
theorem dX2_readKind_33 : decode cX2_readKind 33 = .ok (.bipush 100, 2) := by decide +kernel
theorem dX2_readKind_35 : decode cX2_readKind 35 = .ok (.invokevirtual 43, 3) := by decide +kernel
theorem dX2_readKind_38 : decode cX2_readKind 38 = .ok (.ifCond .eq 15, 3) := by decide +kernel
theorem dX2_readKind_41 : decode cX2_readKind 41 = .ok (.aload_n 1, 1) := by decide +kernel
theorem dX2_readKind_42 : decode cX2_readKind 42 = .ok (.iconst 1, 1) := by decide +kernel
theorem dX2_readKind_43 : decode cX2_readKind 43 = .ok (.putfield 88, 3) := by decide +kernel
theorem dX2_readKind_46 : decode cX2_readKind 46 = .ok (.aload_n 0, 1) := by decide +kernel
theorem dX2_readKind_47 : decode cX2_readKind 47 = .ok (.ldc 99, 2) := by decide +kernel
theorem dX2_readKind_49 : decode cX2_readKind 49 = .ok (.invokevirtual 51, 3) := by decide +kernel
theorem dX2_readKind_52 : decode cX2_readKind 52 = .ok (.ireturn, 1) := by decide +kernel
theorem dX2_readKind_53 : decode cX2_readKind 53 = .ok (.aload_n 1, 1) := by decide +kernel
theorem dX2_readKind_54 : decode cX2_readKind 54 = .ok (.iconst 2, 1) := by decide +kernel
theorem dX2_readKind_55 : decode cX2_readKind 55 = .ok (.putfield 88, 3) := by decide +kernel
theorem dX2_readKind_58 : decode cX2_readKind 58 = .ok (.aload_n 0, 1) := by decide +kernel
theorem dX2_readKind_59 : decode cX2_readKind 59 = .ok (.ldc 101, 2) := by decide +kernel
theorem dX2_readKind_61 : decode cX2_readKind 61 = .ok (.invokevirtual 51, 3) := by decide +kernel
theorem dX2_readKind_64 : decode cX2_readKind 64 = .ok (.ireturn, 1) := by decide +kernel
set_option maxRecDepth 20000 in
theorem ggX2_readOperand_X2_readSign : GoodIn wsX2_readOperand wsX2_readSign := goodIn_r _ [6, 7, 8, 9, 10, 5, 11, 12, 13, 21, 22, 23, 24, 25, 26] (by decide +kernel) (by decide +kernel)
set_option maxRecDepth 20000 in
theorem gX2_readOperand_X2_readSign : GoodIn wsX2_readOperand (wsV RX2 39 RX2 yX2_readSign wsX2_readSign) := goodIn_app (goodIn_of _ (by decide +kernel)) ggX2_readOperand_X2_readSign
set_option maxRecDepth 20000 in
theorem ggX2_readOperand_X2_isNext : GoodIn wsX2_readOperand wsX2_isNext := goodIn_r _ [11, 7, 12, 13, 21, 22, 23, 24, 25, 26] (by decide +kernel) (by decide +kernel)
set_option maxRecDepth 20000 in
theorem gX2_readOperand_X2_isNext : GoodIn wsX2_readOperand (wsV RX2 43 RX2 yX2_isNext wsX2_isNext) := goodIn_app (goodIn_of _ (by decide +kernel)) ggX2_readOperand_X2_isNext
set_option maxRecDepth 20000 in
theorem ggX2_readOperand_X2_readDigits : GoodIn wsX2_readOperand wsX2_readDigits := goodIn_r _ [17, 7, 1, 12, 13, 18, 19, 5, 20, 21, 22, 23, 24, 25, 26] (by decide +kernel) (by decide +kernel)
set_option maxRecDepth 20000 in
theorem gX2_readOperand_X2_readDigits : GoodIn wsX2_readOperand (wsV RX2 102 RX2 yX2_readDigits wsX2_readDigits) := goodIn_app (goodIn_of _ (by decide +kernel)) ggX2_readOperand_X2_readDigits
theorem dX2_readOperand_0 : decode cX2_readOperand 0 = .ok (.aload_n 0, 1) := by decide +kernel
theorem dX2_readOperand_1 : decode cX2_readOperand 1 = .ok (.bipush 32, 2) := by decide +kernel
theorem dX2_readOperand_3 : decode cX2_readOperand 3 = .ok (.invokevirtual 39, 3) := by decide +kernel
theorem dX2_readOperand_6 : decode cX2_readOperand 6 = .ok (.ifCond .ne 5, 3) := by decide +kernel
theorem dX2_readOperand_9 : decode cX2_readOperand 9 = .ok (.iconst 0, 1) := by decide +kernel
theorem dX2_readOperand_10 : decode cX2_readOperand 10 = .ok (.ireturn, 1) := by decide +kernel
theorem dX2_readOperand_11 : decode cX2_readOperand 11 = .ok (.iload_n 1, 1) := by decide +kernel
theorem dX2_readOperand_12 : decode cX2_readOperand 12 = .ok (.ifCond .ge 47, 3) := by decide +kernel
theorem dX2_readOperand_15 : decode cX2_readOperand 15 = .ok (.aload_n 0, 1) := by decide +kernel
theorem dX2_readOperand_16 : decode cX2_readOperand 16 = .ok (.bipush 45, 2) := by decide +kernel
theorem dX2_readOperand_18 : decode cX2_readOperand 18 = .ok (.invokevirtual 39, 3) := by decide +kernel
theorem dX2_readOperand_21 : decode cX2_readOperand 21 = .ok (.ifCond .eq 38, 3) := by decide +kernel
theorem dX2_readOperand_24 : decode cX2_readOperand 24 = .ok (.aload_n 0, 1) := by decide +kernel
theorem dX2_readOperand_25 : decode cX2_readOperand 25 = .ok (.bipush 48, 2) := by decide +kernel
theorem dX2_readOperand_27 : decode cX2_readOperand 27 = .ok (.invokevirtual 43, 3) := by decide +kernel
theorem dX2_readOperand_30 : decode cX2_readOperand 30 = .ok (.ifCond .ne 16, 3) := by decide +kernel
theorem dX2_readOperand_33 : decode cX2_readOperand 33 = .ok (.aload_n 0, 1) := by decide +kernel
theorem dX2_readOperand_34 : decode cX2_readOperand 34 = .ok (.iload_n 1, 1) := by decide +kernel
theorem dX2_readOperand_35 : decode cX2_readOperand 35 = .ok (.ineg, 1) := by decide +kernel
theorem dX2_readOperand_36 : decode cX2_readOperand 36 = .ok (.invokevirtual 102, 3) := by decide +kernel
theorem dX2_readOperand_39 : decode cX2_readOperand 39 = .ok (.ifCond .eq 7, 3) := by decide +kernel
theorem dX2_readOperand_42 : decode cX2_readOperand 42 = .ok (.iconst 1, 1) := by decide +kernel
theorem dX2_readOperand_43 : decode cX2_readOperand 43 = .ok (.goto 4, 3) := by decide +kernel
theorem dX2_readOperand_46 : decode cX2_readOperand 46 = .ok (.iconst 0, 1) := by decide +kernel
theorem dX2_readOperand_47 : decode cX2_readOperand 47 = .ok (.istore_n 3, 1) := by decide +kernel
theorem dX2_readOperand_48 : decode cX2_readOperand 48 = .ok (.aload_n 0, 1) := by decide +kernel
theorem dX2_readOperand_49 : decode cX2_readOperand 49 = .ok (.aload_n 0, 1) := by decide +kernel
theorem dX2_readOperand_50 : decode cX2_readOperand 50 = .ok (.getfield 31, 3) := by decide +kernel
theorem dX2_readOperand_53 : decode cX2_readOperand 53 = .ok (.ineg, 1) := by decide +kernel
theorem dX2_readOperand_54 : decode cX2_readOperand 54 = .ok (.putfield 31, 3) := by decide +kernel
theorem dX2_readOperand_57 : decode cX2_readOperand 57 = .ok (.iload_n 3, 1) := by decide +kernel
theorem dX2_readOperand_58 : decode cX2_readOperand 58 = .ok (.ireturn, 1) := by decide +kernel
theorem dX2_readOperand_59 : decode cX2_readOperand 59 = .ok (.aload_n 0, 1) := by decide +kernel
theorem dX2_readOperand_60 : decode cX2_readOperand 60 = .ok (.iload_n 2, 1) := by decide +kernel
theorem dX2_readOperand_61 : decode cX2_readOperand 61 = .ok (.invokevirtual 102, 3) := by decide +kernel
theorem dX2_readOperand_64 : decode cX2_readOperand 64 = .ok (.ireturn, 1) := by decide +kernel
set_option maxRecDepth 20000 in
theorem ggX2_readDigits_X2_isDigit : GoodIn wsX2_readDigits wsX2_isDigit := goodIn_r _ [8] (by decide +kernel) (by decide +kernel)
set_option maxRecDepth 20000 in
theorem gX2_readDigits_X2_isDigit : GoodIn wsX2_readDigits (va_wsS RX2 106 yX2_isDigit wsX2_isDigit) := goodIn_app (goodIn_of _ (by decide +kernel)) ggX2_readDigits_X2_isDigit
theorem dX2_readDigits_0 : decode cX2_readDigits 0 = .ok (.aload_n 0, 1) := by decide +kernel
theorem dX2_readDigits_1 : decode cX2_readDigits 1 = .ok (.getfield 28, 3) := by decide +kernel
theorem dX2_readDigits_4 : decode cX2_readDigits 4 = .ok (.istore_n 2, 1) := by decide +kernel
theorem dX2_readDigits_5 : decode cX2_readDigits 5 = .ok (.aload_n 0, 1) := by decide +kernel
theorem dX2_readDigits_6 : decode cX2_readDigits 6 = .ok (.iconst 0, 1) := by decide +kernel
theorem dX2_readDigits_7 : decode cX2_readDigits 7 = .ok (.putfield 31, 3) := by decide +kernel
theorem dX2_readDigits_10 : decode cX2_readDigits 10 = .ok (.aload_n 0, 1) := by decide +kernel
theorem dX2_readDigits_11 : decode cX2_readDigits 11 = .ok (.getfield 28, 3) := by decide +kernel
theorem dX2_readDigits_14 : decode cX2_readDigits 14 = .ok (.aload_n 0, 1) := by decide +kernel
theorem dX2_readDigits_15 : decode cX2_readDigits 15 = .ok (.getfield 15, 3) := by decide +kernel
theorem dX2_readDigits_18 : decode cX2_readDigits 18 = .ok (.if_icmp .ge 94, 3) := by decide +kernel
theorem dX2_readDigits_21 : decode cX2_readDigits 21 = .ok (.aload_n 0, 1) := by decide +kernel
theorem dX2_readDigits_22 : decode cX2_readDigits 22 = .ok (.getfield 9, 3) := by decide +kernel
theorem dX2_readDigits_25 : decode cX2_readDigits 25 = .ok (.aload_n 0, 1) := by decide +kernel
theorem dX2_readDigits_26 : decode cX2_readDigits 26 = .ok (.getfield 28, 3) := by decide +kernel
theorem dX2_readDigits_29 : decode cX2_readDigits 29 = .ok (.caload, 1) := by decide +kernel
theorem dX2_readDigits_30 : decode cX2_readDigits 30 = .ok (.invokestatic 106, 3) := by decide +kernel
theorem dX2_readDigits_33 : decode cX2_readDigits 33 = .ok (.ifCond .eq 79, 3) := by decide +kernel
theorem dX2_readDigits_36 : decode cX2_readDigits 36 = .ok (.aload_n 0, 1) := by decide +kernel
theorem dX2_readDigits_37 : decode cX2_readDigits 37 = .ok (.getfield 28, 3) := by decide +kernel
theorem dX2_readDigits_40 : decode cX2_readDigits 40 = .ok (.iload_n 2, 1) := by decide +kernel
theorem dX2_readDigits_41 : decode cX2_readDigits 41 = .ok (.if_icmp .eq 10, 3) := by decide +kernel
theorem dX2_readDigits_44 : decode cX2_readDigits 44 = .ok (.aload_n 0, 1) := by decide +kernel
theorem dX2_readDigits_45 : decode cX2_readDigits 45 = .ok (.getfield 31, 3) := by decide +kernel
theorem dX2_readDigits_48 : decode cX2_readDigits 48 = .ok (.ifCond .eq 64, 3) := by decide +kernel
theorem dX2_readDigits_51 : decode cX2_readDigits 51 = .ok (.aload_n 0, 1) := by decide +kernel
theorem dX2_readDigits_52 : decode cX2_readDigits 52 = .ok (.getfield 31, 3) := by decide +kernel
theorem dX2_readDigits_55 : decode cX2_readDigits 55 = .ok (.bipush 10, 2) := by decide +kernel
theorem dX2_readDigits_57 : decode cX2_readDigits 57 = .ok (.imul, 1) := by decide +kernel
theorem dX2_readDigits_58 : decode cX2_readDigits 58 = .ok (.aload_n 0, 1) := by decide +kernel
theorem dX2_readDigits_59 : decode cX2_readDigits 59 = .ok (.getfield 9, 3) := by decide +kernel
theorem dX2_readDigits_62 : decode cX2_readDigits 62 = .ok (.aload_n 0, 1) := by decide +kernel
theorem dX2_readDigits_63 : decode cX2_readDigits 63 = .ok (.getfield 28, 3) := by decide +kernel
theorem dX2_readDigits_66 : decode cX2_readDigits 66 = .ok (.caload, 1) := by decide +kernel
theorem dX2_readDigits_67 : decode cX2_readDigits 67 = .ok (.bipush 48, 2) := by decide +kernel
theorem dX2_readDigits_69 : decode cX2_readDigits 69 = .ok (.isub, 1) := by decide +kernel
theorem dX2_readDigits_70 : decode cX2_readDigits 70 = .ok (.iadd, 1) := by decide +kernel
theorem dX2_readDigits_71 : decode cX2_readDigits 71 = .ok (.iload_n 1, 1) := by decide +kernel
theorem dX2_readDigits_72 : decode cX2_readDigits 72 = .ok (.if_icmp .gt 40, 3) := by decide +kernel
theorem dX2_readDigits_75 : decode cX2_readDigits 75 = .ok (.aload_n 0, 1) := by decide +kernel
theorem dX2_readDigits_76 : decode cX2_readDigits 76 = .ok (.aload_n 0, 1) := by decide +kernel
theorem dX2_readDigits_77 : decode cX2_readDigits 77 = .ok (.getfield 31, 3) := by decide +kernel
theorem dX2_readDigits_80 : decode cX2_readDigits 80 = .ok (.bipush 10, 2) := by decide +kernel
theorem dX2_readDigits_82 : decode cX2_readDigits 82 = .ok (.imul, 1) := by decide +kernel
theorem dX2_readDigits_83 : decode cX2_readDigits 83 = .ok (.aload_n 0, 1) := by decide +kernel
theorem dX2_readDigits_84 : decode cX2_readDigits 84 = .ok (.getfield 9, 3) := by decide +kernel
theorem dX2_readDigits_87 : decode cX2_readDigits 87 = .ok (.aload_n 0, 1) := by decide +kernel
theorem dX2_readDigits_88 : decode cX2_readDigits 88 = .ok (.getfield 28, 3) := by decide +kernel
theorem dX2_readDigits_91 : decode cX2_readDigits 91 = .ok (.caload, 1) := by decide +kernel
theorem dX2_readDigits_92 : decode cX2_readDigits 92 = .ok (.bipush 48, 2) := by decide +kernel
theorem dX2_readDigits_94 : decode cX2_readDigits 94 = .ok (.isub, 1) := by decide +kernel
theorem dX2_readDigits_95 : decode cX2_readDigits 95 = .ok (.iadd, 1) := by decide +kernel
theorem dX2_readDigits_96 : decode cX2_readDigits 96 = .ok (.putfield 31, 3) := by decide +kernel
theorem dX2_readDigits_99 : decode cX2_readDigits 99 = .ok (.aload_n 0, 1) := by decide +kernel
theorem dX2_readDigits_100 : decode cX2_readDigits 100 = .ok (.dup, 1) := by decide +kernel
theorem dX2_readDigits_101 : decode cX2_readDigits 101 = .ok (.getfield 28, 3) := by decide +kernel
theorem dX2_readDigits_104 : decode cX2_readDigits 104 = .ok (.iconst 1, 1) := by decide +kernel
theorem dX2_readDigits_105 : decode cX2_readDigits 105 = .ok (.iadd, 1) := by decide +kernel
theorem dX2_readDigits_106 : decode cX2_readDigits 106 = .ok (.putfield 28, 3) := by decide +kernel
theorem dX2_readDigits_109 : decode cX2_readDigits 109 = .ok (.goto (-99), 3) := by decide +kernel
theorem dX2_readDigits_112 : decode cX2_readDigits 112 = .ok (.aload_n 0, 1) := by decide +kernel
theorem dX2_readDigits_113 : decode cX2_readDigits 113 = .ok (.getfield 28, 3) := by decide +kernel
theorem dX2_readDigits_116 : decode cX2_readDigits 116 = .ok (.iload_n 2, 1) := by decide +kernel
theorem dX2_readDigits_117 : decode cX2_readDigits 117 = .ok (.if_icmp .le 7, 3) := by decide +kernel
theorem dX2_readDigits_120 : decode cX2_readDigits 120 = .ok (.iconst 1, 1) := by decide +kernel
theorem dX2_readDigits_121 : decode cX2_readDigits 121 = .ok (.goto 4, 3) := by decide +kernel
theorem dX2_readDigits_124 : decode cX2_readDigits 124 = .ok (.iconst 0, 1) := by decide +kernel
theorem dX2_readDigits_125 : decode cX2_readDigits 125 = .ok (.ireturn, 1) := by decide +kernel
set_option maxRecDepth 20000 in
theorem ggX2_readWord_J0_length_8abf5 : GoodIn wsX2_readWord wsJ0_length_8abf5 := goodIn_r _ [5, 6, 7, 8, 9, 4, 10, 11, 12] (by decide +kernel) (by decide +kernel)
set_option maxRecDepth 20000 in
theorem gX2_readWord_J0_length_8abf5 : GoodIn wsX2_readWord (wsV RX2 109 RJ0 yJ0_length_8abf5 wsJ0_length_8abf5) := goodIn_app (goodIn_of _ (by decide +kernel)) ggX2_readWord_J0_length_8abf5
set_option maxRecDepth 20000 in
theorem ggX2_readWord_J0_charAt_5068e : GoodIn wsX2_readWord wsJ0_charAt_5068e := goodIn_r _ [16, 6, 17, 18, 19, 4, 20, 11, 12, 21, 22, 23, 24, 25, 26, 27, 28, 29, 30, 31, 32, 33, 34, 35, 36, 37, 38, 39, 40, 41, 42, 43, 44, 45, 46, 47, 48, 49] (by decide +kernel) (by decide +kernel)
set_option maxRecDepth 20000 in
theorem gX2_readWord_J0_charAt_5068e : GoodIn wsX2_readWord (wsV RX2 114 RJ0 yJ0_charAt_5068e wsJ0_charAt_5068e) := goodIn_app (goodIn_of _ (by decide +kernel)) ggX2_readWord_J0_charAt_5068e
set_option maxRecDepth 20000 in
theorem ggX2_readWord_X2_readSign : GoodIn wsX2_readWord wsX2_readSign := goodIn_r _ [54, 55, 56, 57, 58, 53, 59, 60, 61, 62, 63, 64, 65, 66, 67] (by decide +kernel) (by decide +kernel)
set_option maxRecDepth 20000 in
theorem gX2_readWord_X2_readSign : GoodIn wsX2_readWord (wsV RX2 39 RX2 yX2_readSign wsX2_readSign) := goodIn_app (goodIn_of _ (by decide +kernel)) ggX2_readWord_X2_readSign
theorem dX2_readWord_0 : decode cX2_readWord 0 = .ok (.iconst 0, 1) := by decide +kernel
theorem dX2_readWord_1 : decode cX2_readWord 1 = .ok (.istore_n 2, 1) := by decide +kernel
theorem dX2_readWord_2 : decode cX2_readWord 2 = .ok (.iload_n 2, 1) := by decide +kernel
theorem dX2_readWord_3 : decode cX2_readWord 3 = .ok (.aload_n 1, 1) := by decide +kernel
theorem dX2_readWord_4 : decode cX2_readWord 4 = .ok (.invokevirtual 109, 3) := by decide +kernel
theorem dX2_readWord_7 : decode cX2_readWord 7 = .ok (.if_icmp .ge 23, 3) := by decide +kernel
theorem dX2_readWord_10 : decode cX2_readWord 10 = .ok (.aload_n 0, 1) := by decide +kernel
theorem dX2_readWord_11 : decode cX2_readWord 11 = .ok (.aload_n 1, 1) := by decide +kernel
theorem dX2_readWord_12 : decode cX2_readWord 12 = .ok (.iload_n 2, 1) := by decide +kernel
theorem dX2_readWord_13 : decode cX2_readWord 13 = .ok (.invokevirtual 114, 3) := by decide +kernel
theorem dX2_readWord_16 : decode cX2_readWord 16 = .ok (.invokevirtual 39, 3) := by decide +kernel
theorem dX2_readWord_19 : decode cX2_readWord 19 = .ok (.ifCond .ne 5, 3) := by decide +kernel
theorem dX2_readWord_22 : decode cX2_readWord 22 = .ok (.iconst 0, 1) := by decide +kernel
theorem dX2_readWord_23 : decode cX2_readWord 23 = .ok (.ireturn, 1) := by decide +kernel
theorem dX2_readWord_24 : decode cX2_readWord 24 = .ok (.iinc 2 1, 3) := by decide +kernel
theorem dX2_readWord_27 : decode cX2_readWord 27 = .ok (.goto (-25), 3) := by decide +kernel
theorem dX2_readWord_30 : decode cX2_readWord 30 = .ok (.iconst 1, 1) := by decide +kernel
theorem dX2_readWord_31 : decode cX2_readWord 31 = .ok (.ireturn, 1) := by decide +kernel
set_option maxRecDepth 20000 in
theorem ggX2_readSign_X2_isNext : GoodIn wsX2_readSign wsX2_isNext := goodIn_r _ [6, 1, 7, 8, 9, 10, 11, 12, 13, 14] (by decide +kernel) (by decide +kernel)
set_option maxRecDepth 20000 in
theorem gX2_readSign_X2_isNext : GoodIn wsX2_readSign (wsV RX2 43 RX2 yX2_isNext wsX2_isNext) := goodIn_app (goodIn_of _ (by decide +kernel)) ggX2_readSign_X2_isNext
theorem dX2_readSign_0 : decode cX2_readSign 0 = .ok (.aload_n 0, 1) := by decide +kernel
theorem dX2_readSign_1 : decode cX2_readSign 1 = .ok (.iload_n 1, 1) := by decide +kernel
theorem dX2_readSign_2 : decode cX2_readSign 2 = .ok (.invokevirtual 43, 3) := by decide +kernel
theorem dX2_readSign_5 : decode cX2_readSign 5 = .ok (.ifCond .ne 5, 3) := by decide +kernel
theorem dX2_readSign_8 : decode cX2_readSign 8 = .ok (.iconst 0, 1) := by decide +kernel
theorem dX2_readSign_9 : decode cX2_readSign 9 = .ok (.ireturn, 1) := by decide +kernel
theorem dX2_readSign_10 : decode cX2_readSign 10 = .ok (.aload_n 0, 1) := by decide +kernel
theorem dX2_readSign_11 : decode cX2_readSign 11 = .ok (.dup, 1) := by decide +kernel
theorem dX2_readSign_12 : decode cX2_readSign 12 = .ok (.getfield 28, 3) := by decide +kernel
theorem dX2_readSign_15 : decode cX2_readSign 15 = .ok (.iconst 1, 1) := by decide +kernel
theorem dX2_readSign_16 : decode cX2_readSign 16 = .ok (.iadd, 1) := by decide +kernel
theorem dX2_readSign_17 : decode cX2_readSign 17 = .ok (.putfield 28, 3) := by decide +kernel
theorem dX2_readSign_20 : decode cX2_readSign 20 = .ok (.iconst 1, 1) := by decide +kernel
theorem dX2_readSign_21 : decode cX2_readSign 21 = .ok (.ireturn, 1) := by decide +kernel
theorem dX2_isNext_0 : decode cX2_isNext 0 = .ok (.aload_n 0, 1) := by decide +kernel
theorem dX2_isNext_1 : decode cX2_isNext 1 = .ok (.getfield 28, 3) := by decide +kernel
theorem dX2_isNext_4 : decode cX2_isNext 4 = .ok (.aload_n 0, 1) := by decide +kernel
theorem dX2_isNext_5 : decode cX2_isNext 5 = .ok (.getfield 15, 3) := by decide +kernel
theorem dX2_isNext_8 : decode cX2_isNext 8 = .ok (.if_icmp .ge 20, 3) := by decide +kernel
theorem dX2_isNext_11 : decode cX2_isNext 11 = .ok (.aload_n 0, 1) := by decide +kernel
theorem dX2_isNext_12 : decode cX2_isNext 12 = .ok (.getfield 9, 3) := by decide +kernel
theorem dX2_isNext_15 : decode cX2_isNext 15 = .ok (.aload_n 0, 1) := by decide +kernel
theorem dX2_isNext_16 : decode cX2_isNext 16 = .ok (.getfield 28, 3) := by decide +kernel
theorem dX2_isNext_19 : decode cX2_isNext 19 = .ok (.caload, 1) := by decide +kernel
theorem dX2_isNext_20 : decode cX2_isNext 20 = .ok (.iload_n 1, 1) := by decide +kernel
theorem dX2_isNext_21 : decode cX2_isNext 21 = .ok (.if_icmp .ne 7, 3) := by decide +kernel
theorem dX2_isNext_24 : decode cX2_isNext 24 = .ok (.iconst 1, 1) := by decide +kernel
theorem dX2_isNext_25 : decode cX2_isNext 25 = .ok (.goto 4, 3) := by decide +kernel
theorem dX2_isNext_28 : decode cX2_isNext 28 = .ok (.iconst 0, 1) := by decide +kernel
theorem dX2_isNext_29 : decode cX2_isNext 29 = .ok (.ireturn, 1) := by decide +kernel
theorem dX2_isDigit_0 : decode cX2_isDigit 0 = .ok (.iload_n 0, 1) := by decide +kernel
theorem dX2_isDigit_1 : decode cX2_isDigit 1 = .ok (.bipush 48, 2) := by decide +kernel
theorem dX2_isDigit_3 : decode cX2_isDigit 3 = .ok (.if_icmp .lt 13, 3) := by decide +kernel
theorem dX2_isDigit_6 : decode cX2_isDigit 6 = .ok (.iload_n 0, 1) := by decide +kernel
theorem dX2_isDigit_7 : decode cX2_isDigit 7 = .ok (.bipush 57, 2) := by decide +kernel
theorem dX2_isDigit_9 : decode cX2_isDigit 9 = .ok (.if_icmp .gt 7, 3) := by decide +kernel
theorem dX2_isDigit_12 : decode cX2_isDigit 12 = .ok (.iconst 1, 1) := by decide +kernel
theorem dX2_isDigit_13 : decode cX2_isDigit 13 = .ok (.goto 4, 3) := by decide +kernel
theorem dX2_isDigit_16 : decode cX2_isDigit 16 = .ok (.iconst 0, 1) := by decide +kernel
theorem dX2_isDigit_17 : decode cX2_isDigit 17 = .ok (.ireturn, 1) := by decide +kernel
theorem dJ6_bitCount_0f7a4_0 : decode cJ6_bitCount_0f7a4 0 = .ok (.iload_n 0, 1) := by decide +kernel
theorem dJ6_bitCount_0f7a4_1 : decode cJ6_bitCount_0f7a4 1 = .ok (.iload_n 0, 1) := by decide +kernel
theorem dJ6_bitCount_0f7a4_2 : decode cJ6_bitCount_0f7a4 2 = .ok (.iconst 1, 1) := by decide +kernel
theorem dJ6_bitCount_0f7a4_3 : decode cJ6_bitCount_0f7a4 3 = .ok (.iushr, 1) := by decide +kernel
theorem dJ6_bitCount_0f7a4_4 : decode cJ6_bitCount_0f7a4 4 = .ok (.ldc_w 265, 3) := by decide +kernel
theorem dJ6_bitCount_0f7a4_7 : decode cJ6_bitCount_0f7a4 7 = .ok (.iand, 1) := by decide +kernel
theorem dJ6_bitCount_0f7a4_8 : decode cJ6_bitCount_0f7a4 8 = .ok (.isub, 1) := by decide +kernel
theorem dJ6_bitCount_0f7a4_9 : decode cJ6_bitCount_0f7a4 9 = .ok (.istore_n 0, 1) := by decide +kernel
theorem dJ6_bitCount_0f7a4_10 : decode cJ6_bitCount_0f7a4 10 = .ok (.iload_n 0, 1) := by decide +kernel
theorem dJ6_bitCount_0f7a4_11 : decode cJ6_bitCount_0f7a4 11 = .ok (.ldc_w 266, 3) := by decide +kernel
theorem dJ6_bitCount_0f7a4_14 : decode cJ6_bitCount_0f7a4 14 = .ok (.iand, 1) := by decide +kernel
theorem dJ6_bitCount_0f7a4_15 : decode cJ6_bitCount_0f7a4 15 = .ok (.iload_n 0, 1) := by decide +kernel
theorem dJ6_bitCount_0f7a4_16 : decode cJ6_bitCount_0f7a4 16 = .ok (.iconst 2, 1) := by decide +kernel
theorem dJ6_bitCount_0f7a4_17 : decode cJ6_bitCount_0f7a4 17 = .ok (.iushr, 1) := by decide +kernel
theorem dJ6_bitCount_0f7a4_18 : decode cJ6_bitCount_0f7a4 18 = .ok (.ldc_w 266, 3) := by decide +kernel
theorem dJ6_bitCount_0f7a4_21 : decode cJ6_bitCount_0f7a4 21 = .ok (.iand, 1) := by decide +kernel
theorem dJ6_bitCount_0f7a4_22 : decode cJ6_bitCount_0f7a4 22 = .ok (.iadd, 1) := by decide +kernel
theorem dJ6_bitCount_0f7a4_23 : decode cJ6_bitCount_0f7a4 23 = .ok (.istore_n 0, 1) := by decide +kernel
theorem dJ6_bitCount_0f7a4_24 : decode cJ6_bitCount_0f7a4 24 = .ok (.iload_n 0, 1) := by decide +kernel
theorem dJ6_bitCount_0f7a4_25 : decode cJ6_bitCount_0f7a4 25 = .ok (.iload_n 0, 1) := by decide +kernel
theorem dJ6_bitCount_0f7a4_26 : decode cJ6_bitCount_0f7a4 26 = .ok (.iconst 4, 1) := by decide +kernel
theorem dJ6_bitCount_0f7a4_27 : decode cJ6_bitCount_0f7a4 27 = .ok (.iushr, 1) := by decide +kernel
theorem dJ6_bitCount_0f7a4_28 : decode cJ6_bitCount_0f7a4 28 = .ok (.iadd, 1) := by decide +kernel
theorem dJ6_bitCount_0f7a4_29 : decode cJ6_bitCount_0f7a4 29 = .ok (.ldc_w 267, 3) := by decide +kernel
theorem dJ6_bitCount_0f7a4_32 : decode cJ6_bitCount_0f7a4 32 = .ok (.iand, 1) := by decide +kernel
theorem dJ6_bitCount_0f7a4_33 : decode cJ6_bitCount_0f7a4 33 = .ok (.istore_n 0, 1) := by decide +kernel
theorem dJ6_bitCount_0f7a4_34 : decode cJ6_bitCount_0f7a4 34 = .ok (.iload_n 0, 1) := by decide +kernel
theorem dJ6_bitCount_0f7a4_35 : decode cJ6_bitCount_0f7a4 35 = .ok (.iload_n 0, 1) := by decide +kernel
theorem dJ6_bitCount_0f7a4_36 : decode cJ6_bitCount_0f7a4 36 = .ok (.bipush 8, 2) := by decide +kernel
theorem dJ6_bitCount_0f7a4_38 : decode cJ6_bitCount_0f7a4 38 = .ok (.iushr, 1) := by decide +kernel
theorem dJ6_bitCount_0f7a4_39 : decode cJ6_bitCount_0f7a4 39 = .ok (.iadd, 1) := by decide +kernel
theorem dJ6_bitCount_0f7a4_40 : decode cJ6_bitCount_0f7a4 40 = .ok (.istore_n 0, 1) := by decide +kernel
theorem dJ6_bitCount_0f7a4_41 : decode cJ6_bitCount_0f7a4 41 = .ok (.iload_n 0, 1) := by decide +kernel
theorem dJ6_bitCount_0f7a4_42 : decode cJ6_bitCount_0f7a4 42 = .ok (.iload_n 0, 1) := by decide +kernel
theorem dJ6_bitCount_0f7a4_43 : decode cJ6_bitCount_0f7a4 43 = .ok (.bipush 16, 2) := by decide +kernel
theorem dJ6_bitCount_0f7a4_45 : decode cJ6_bitCount_0f7a4 45 = .ok (.iushr, 1) := by decide +kernel
theorem dJ6_bitCount_0f7a4_46 : decode cJ6_bitCount_0f7a4 46 = .ok (.iadd, 1) := by decide +kernel
theorem dJ6_bitCount_0f7a4_47 : decode cJ6_bitCount_0f7a4 47 = .ok (.istore_n 0, 1) := by decide +kernel
theorem dJ6_bitCount_0f7a4_48 : decode cJ6_bitCount_0f7a4 48 = .ok (.iload_n 0, 1) := by decide +kernel
theorem dJ6_bitCount_0f7a4_49 : decode cJ6_bitCount_0f7a4 49 = .ok (.bipush 63, 2) := by decide +kernel
theorem dJ6_bitCount_0f7a4_51 : decode cJ6_bitCount_0f7a4 51 = .ok (.iand, 1) := by decide +kernel
theorem dJ6_bitCount_0f7a4_52 : decode cJ6_bitCount_0f7a4 52 = .ok (.ireturn, 1) := by decide +kernel
theorem dJ9_max_7cf53_0 : decode cJ9_max_7cf53 0 = .ok (.iload_n 0, 1) := by decide +kernel
theorem dJ9_max_7cf53_1 : decode cJ9_max_7cf53 1 = .ok (.iload_n 1, 1) := by decide +kernel
theorem dJ9_max_7cf53_2 : decode cJ9_max_7cf53 2 = .ok (.if_icmp .lt 7, 3) := by decide +kernel
theorem dJ9_max_7cf53_5 : decode cJ9_max_7cf53 5 = .ok (.iload_n 0, 1) := by decide +kernel
theorem dJ9_max_7cf53_6 : decode cJ9_max_7cf53 6 = .ok (.goto 4, 3) := by decide +kernel
theorem dJ9_max_7cf53_9 : decode cJ9_max_7cf53 9 = .ok (.iload_n 1, 1) := by decide +kernel
theorem dJ9_max_7cf53_10 : decode cJ9_max_7cf53 10 = .ok (.ireturn, 1) := by decide +kernel
theorem dJ9_min_7cf53_0 : decode cJ9_min_7cf53 0 = .ok (.iload_n 0, 1) := by decide +kernel
theorem dJ9_min_7cf53_1 : decode cJ9_min_7cf53 1 = .ok (.iload_n 1, 1) := by decide +kernel
theorem dJ9_min_7cf53_2 : decode cJ9_min_7cf53 2 = .ok (.if_icmp .gt 7, 3) := by decide +kernel
theorem dJ9_min_7cf53_5 : decode cJ9_min_7cf53 5 = .ok (.iload_n 0, 1) := by decide +kernel
theorem dJ9_min_7cf53_6 : decode cJ9_min_7cf53 6 = .ok (.goto 4, 3) := by decide +kernel
theorem dJ9_min_7cf53_9 : decode cJ9_min_7cf53 9 = .ok (.iload_n 1, 1) := by decide +kernel
theorem dJ9_min_7cf53_10 : decode cJ9_min_7cf53 10 = .ok (.ireturn, 1) := by decide +kernel
set_option maxRecDepth 20000 in
theorem ggJ0_length_8abf5_J0_coder_7d493 : GoodIn wsJ0_length_8abf5 wsJ0_coder_7d493 := goodIn_r _ [6, 7, 8] (by decide +kernel) (by decide +kernel)
set_option maxRecDepth 20000 in
theorem gJ0_length_8abf5_J0_coder_7d493 : GoodIn wsJ0_length_8abf5 (wsV RJ0 335 RJ0 yJ0_coder_7d493 wsJ0_coder_7d493) := goodIn_app (goodIn_of _ (by decide +kernel)) ggJ0_length_8abf5_J0_coder_7d493
theorem dJ0_length_8abf5_0 : decode cJ0_length_8abf5 0 = .ok (.aload_n 0, 1) := by decide +kernel
theorem dJ0_length_8abf5_1 : decode cJ0_length_8abf5 1 = .ok (.getfield 9, 3) := by decide +kernel
theorem dJ0_length_8abf5_4 : decode cJ0_length_8abf5 4 = .ok (.arraylength, 1) := by decide +kernel
theorem dJ0_length_8abf5_5 : decode cJ0_length_8abf5 5 = .ok (.aload_n 0, 1) := by decide +kernel
theorem dJ0_length_8abf5_6 : decode cJ0_length_8abf5 6 = .ok (.invokevirtual 335, 3) := by decide +kernel
theorem dJ0_length_8abf5_9 : decode cJ0_length_8abf5 9 = .ok (.ishr, 1) := by decide +kernel
theorem dJ0_length_8abf5_10 : decode cJ0_length_8abf5 10 = .ok (.ireturn, 1) := by decide +kernel
set_option maxRecDepth 20000 in
theorem ggJ0_charAt_5068e_J0_isLatin1_aae02 : GoodIn wsJ0_charAt_5068e wsJ0_isLatin1_aae02 := goodIn_r _ [6, 7, 8] (by decide +kernel) (by decide +kernel)
set_option maxRecDepth 20000 in
theorem gJ0_charAt_5068e_J0_isLatin1_aae02 : GoodIn wsJ0_charAt_5068e (wsV RJ0 492 RJ0 yJ0_isLatin1_aae02 wsJ0_isLatin1_aae02) := goodIn_app (goodIn_of _ (by decide +kernel)) ggJ0_charAt_5068e_J0_isLatin1_aae02
set_option maxRecDepth 20000 in
theorem ggJ0_charAt_5068e_J1_charAt_3b067 : GoodIn wsJ0_charAt_5068e wsJ1_charAt_3b067 := goodIn_r _ [12, 13, 14, 5, 15, 16, 17, 18, 19, 20] (by decide +kernel) (by decide +kernel)
set_option maxRecDepth 20000 in
theorem gJ0_charAt_5068e_J1_charAt_3b067 : GoodIn wsJ0_charAt_5068e (va_wsS RJ0 495 yJ1_charAt_3b067 wsJ1_charAt_3b067) := goodIn_app (goodIn_of _ (by decide +kernel)) ggJ0_charAt_5068e_J1_charAt_3b067
set_option maxRecDepth 20000 in
theorem ggJ0_charAt_5068e_J2_charAt_3b067 : GoodIn wsJ0_charAt_5068e wsJ2_charAt_3b067 := goodIn_r _ [24, 25, 26, 23, 27, 28, 29, 30, 31, 14, 5, 15, 16, 17, 18, 19, 20, 32, 33, 34, 35, 36, 37] (by decide +kernel) (by decide +kernel)
set_option maxRecDepth 20000 in
theorem gJ0_charAt_5068e_J2_charAt_3b067 : GoodIn wsJ0_charAt_5068e (va_wsS RJ0 498 yJ2_charAt_3b067 wsJ2_charAt_3b067) := goodIn_app (goodIn_of _ (by decide +kernel)) ggJ0_charAt_5068e_J2_charAt_3b067
theorem dJ0_charAt_5068e_0 : decode cJ0_charAt_5068e 0 = .ok (.aload_n 0, 1) := by decide +kernel
theorem dJ0_charAt_5068e_1 : decode cJ0_charAt_5068e 1 = .ok (.invokevirtual 492, 3) := by decide +kernel
theorem dJ0_charAt_5068e_4 : decode cJ0_charAt_5068e 4 = .ok (.ifCond .eq 12, 3) := by decide +kernel
theorem dJ0_charAt_5068e_7 : decode cJ0_charAt_5068e 7 = .ok (.aload_n 0, 1) := by decide +kernel
theorem dJ0_charAt_5068e_8 : decode cJ0_charAt_5068e 8 = .ok (.getfield 9, 3) := by decide +kernel
theorem dJ0_charAt_5068e_11 : decode cJ0_charAt_5068e 11 = .ok (.iload_n 1, 1) := by decide +kernel
theorem dJ0_charAt_5068e_12 : decode cJ0_charAt_5068e 12 = .ok (.invokestatic 495, 3) := by decide +kernel
theorem dJ0_charAt_5068e_15 : decode cJ0_charAt_5068e 15 = .ok (.ireturn, 1) := by decide +kernel
theorem dJ0_charAt_5068e_16 : decode cJ0_charAt_5068e 16 = .ok (.aload_n 0, 1) := by decide +kernel
theorem dJ0_charAt_5068e_17 : decode cJ0_charAt_5068e 17 = .ok (.getfield 9, 3) := by decide +kernel
theorem dJ0_charAt_5068e_20 : decode cJ0_charAt_5068e 20 = .ok (.iload_n 1, 1) := by decide +kernel
theorem dJ0_charAt_5068e_21 : decode cJ0_charAt_5068e 21 = .ok (.invokestatic 498, 3) := by decide +kernel
theorem dJ0_charAt_5068e_24 : decode cJ0_charAt_5068e 24 = .ok (.ireturn, 1) := by decide +kernel
theorem dJ0_coder_7d493_0 : decode cJ0_coder_7d493 0 = .ok (.getstatic 38, 3) := by decide +kernel
theorem dJ0_coder_7d493_3 : decode cJ0_coder_7d493 3 = .ok (.ifCond .eq 10, 3) := by decide +kernel
theorem dJ0_coder_7d493_6 : decode cJ0_coder_7d493 6 = .ok (.aload_n 0, 1) := by decide +kernel
theorem dJ0_coder_7d493_7 : decode cJ0_coder_7d493 7 = .ok (.getfield 15, 3) := by decide +kernel
theorem dJ0_coder_7d493_10 : decode cJ0_coder_7d493 10 = .ok (.goto 4, 3) := by decide +kernel
theorem dJ0_coder_7d493_13 : decode cJ0_coder_7d493 13 = .ok (.iconst 1, 1) := by decide +kernel
theorem dJ0_coder_7d493_14 : decode cJ0_coder_7d493 14 = .ok (.ireturn, 1) := by decide +kernel
theorem dJ0_isLatin1_aae02_0 : decode cJ0_isLatin1_aae02 0 = .ok (.getstatic 38, 3) := by decide +kernel
theorem dJ0_isLatin1_aae02_3 : decode cJ0_isLatin1_aae02 3 = .ok (.ifCond .eq 14, 3) := by decide +kernel
theorem dJ0_isLatin1_aae02_6 : decode cJ0_isLatin1_aae02 6 = .ok (.aload_n 0, 1) := by decide +kernel
theorem dJ0_isLatin1_aae02_7 : decode cJ0_isLatin1_aae02 7 = .ok (.getfield 15, 3) := by decide +kernel
theorem dJ0_isLatin1_aae02_10 : decode cJ0_isLatin1_aae02 10 = .ok (.ifCond .ne 7, 3) := by decide +kernel
theorem dJ0_isLatin1_aae02_13 : decode cJ0_isLatin1_aae02 13 = .ok (.iconst 1, 1) := by decide +kernel
theorem dJ0_isLatin1_aae02_14 : decode cJ0_isLatin1_aae02 14 = .ok (.goto 4, 3) := by decide +kernel
theorem dJ0_isLatin1_aae02_17 : decode cJ0_isLatin1_aae02 17 = .ok (.iconst 0, 1) := by decide +kernel
theorem dJ0_isLatin1_aae02_18 : decode cJ0_isLatin1_aae02 18 = .ok (.ireturn, 1) := by decide +kernel
set_option maxRecDepth 20000 in
theorem ggJ0_checkIndex_df160_J3_checkIndex_8e157 : GoodIn wsJ0_checkIndex_df160 wsJ3_checkIndex_8e157 := goodIn_r _ [5] (by decide +kernel) (by decide +kernel)
set_option maxRecDepth 20000 in
theorem gJ0_checkIndex_df160_J3_checkIndex_8e157 : GoodIn wsJ0_checkIndex_df160 (va_wsS RJ0 1059 yJ3_checkIndex_8e157 wsJ3_checkIndex_8e157) := goodIn_app (goodIn_of _ (by decide +kernel)) ggJ0_checkIndex_df160_J3_checkIndex_8e157
theorem dJ0_checkIndex_df160_0 : decode cJ0_checkIndex_df160 0 = .ok (.iload_n 0, 1) := by decide +kernel
theorem dJ0_checkIndex_df160_1 : decode cJ0_checkIndex_df160 1 = .ok (.iload_n 1, 1) := by decide +kernel
theorem dJ0_checkIndex_df160_2 : decode cJ0_checkIndex_df160 2 = .ok (.getstatic 1053, 3) := by decide +kernel
theorem dJ0_checkIndex_df160_5 : decode cJ0_checkIndex_df160 5 = .ok (.invokestatic 1059, 3) := by decide +kernel
theorem dJ0_checkIndex_df160_8 : decode cJ0_checkIndex_df160 8 = .ok (.pop, 1) := by decide +kernel
theorem dJ0_checkIndex_df160_9 : decode cJ0_checkIndex_df160 9 = .ok (.return_, 1) := by decide +kernel
set_option maxRecDepth 20000 in
theorem ggJ1_charAt_3b067_J0_checkIndex_df160 : GoodIn wsJ1_charAt_3b067 wsJ0_checkIndex_df160 := goodIn_r _ [4, 5, 6, 7, 8, 9] (by decide +kernel) (by decide +kernel)
set_option maxRecDepth 20000 in
theorem gJ1_charAt_3b067_J0_checkIndex_df160 : GoodIn wsJ1_charAt_3b067 (va_wsS RJ1 9 yJ0_checkIndex_df160 wsJ0_checkIndex_df160) := goodIn_app (goodIn_of _ (by decide +kernel)) ggJ1_charAt_3b067_J0_checkIndex_df160
theorem dJ1_charAt_3b067_0 : decode cJ1_charAt_3b067 0 = .ok (.iload_n 1, 1) := by decide +kernel
theorem dJ1_charAt_3b067_1 : decode cJ1_charAt_3b067 1 = .ok (.aload_n 0, 1) := by decide +kernel
theorem dJ1_charAt_3b067_2 : decode cJ1_charAt_3b067 2 = .ok (.arraylength, 1) := by decide +kernel
theorem dJ1_charAt_3b067_3 : decode cJ1_charAt_3b067 3 = .ok (.invokestatic 9, 3) := by decide +kernel
theorem dJ1_charAt_3b067_6 : decode cJ1_charAt_3b067 6 = .ok (.aload_n 0, 1) := by decide +kernel
theorem dJ1_charAt_3b067_7 : decode cJ1_charAt_3b067 7 = .ok (.iload_n 1, 1) := by decide +kernel
theorem dJ1_charAt_3b067_8 : decode cJ1_charAt_3b067 8 = .ok (.baload, 1) := by decide +kernel
theorem dJ1_charAt_3b067_9 : decode cJ1_charAt_3b067 9 = .ok (.sipush 255, 3) := by decide +kernel
theorem dJ1_charAt_3b067_12 : decode cJ1_charAt_3b067 12 = .ok (.iand, 1) := by decide +kernel
theorem dJ1_charAt_3b067_13 : decode cJ1_charAt_3b067 13 = .ok (.i2c, 1) := by decide +kernel
theorem dJ1_charAt_3b067_14 : decode cJ1_charAt_3b067 14 = .ok (.ireturn, 1) := by decide +kernel
set_option maxRecDepth 20000 in
theorem ggJ2_getChar_3b067_J2_length_9d52b : GoodIn wsJ2_getChar_3b067 wsJ2_length_9d52b := goodIn_r _ [7] (by decide +kernel) (by decide +kernel)
set_option maxRecDepth 20000 in
theorem gJ2_getChar_3b067_J2_length_9d52b : GoodIn wsJ2_getChar_3b067 (va_wsS RJ2 48 yJ2_length_9d52b wsJ2_length_9d52b) := goodIn_app (goodIn_of _ (by decide +kernel)) ggJ2_getChar_3b067_J2_length_9d52b
theorem dJ2_getChar_3b067_0 : decode cJ2_getChar_3b067 0 = .ok (.getstatic 44, 3) := by decide +kernel
theorem dJ2_getChar_3b067_3 : decode cJ2_getChar_3b067 3 = .ok (.ifCond .ne 25, 3) := by decide +kernel
theorem dJ2_getChar_3b067_6 : decode cJ2_getChar_3b067 6 = .ok (.iload_n 1, 1) := by decide +kernel
theorem dJ2_getChar_3b067_7 : decode cJ2_getChar_3b067 7 = .ok (.ifCond .lt 11, 3) := by decide +kernel
theorem dJ2_getChar_3b067_10 : decode cJ2_getChar_3b067 10 = .ok (.iload_n 1, 1) := by decide +kernel
theorem dJ2_getChar_3b067_11 : decode cJ2_getChar_3b067 11 = .ok (.aload_n 0, 1) := by decide +kernel
theorem dJ2_getChar_3b067_12 : decode cJ2_getChar_3b067 12 = .ok (.invokestatic 48, 3) := by decide +kernel
theorem dJ2_getChar_3b067_15 : decode cJ2_getChar_3b067 15 = .ok (.if_icmp .lt 13, 3) := by decide +kernel
theorem dJ2_getChar_3b067_18 : decode cJ2_getChar_3b067 18 = .ok (.new 52, 3) := by decide +kernel
theorem dJ2_getChar_3b067_21 : decode cJ2_getChar_3b067 21 = .ok (.dup, 1) := by decide +kernel
theorem dJ2_getChar_3b067_22 : decode cJ2_getChar_3b067 22 = .ok (.ldc 54, 2) := by decide +kernel
theorem dJ2_getChar_3b067_24 : decode cJ2_getChar_3b067 24 = .ok (.invokespecial 56, 3) := by decide +kernel
theorem dJ2_getChar_3b067_27 : decode cJ2_getChar_3b067 27 = .ok (.athrow, 1) := by decide +kernel
theorem dJ2_getChar_3b067_28 : decode cJ2_getChar_3b067 28 = .ok (.iload_n 1, 1) := by decide +kernel
theorem dJ2_getChar_3b067_29 : decode cJ2_getChar_3b067 29 = .ok (.iconst 1, 1) := by decide +kernel
theorem dJ2_getChar_3b067_30 : decode cJ2_getChar_3b067 30 = .ok (.ishl, 1) := by decide +kernel
theorem dJ2_getChar_3b067_31 : decode cJ2_getChar_3b067 31 = .ok (.istore_n 1, 1) := by decide +kernel
theorem dJ2_getChar_3b067_32 : decode cJ2_getChar_3b067 32 = .ok (.aload_n 0, 1) := by decide +kernel
theorem dJ2_getChar_3b067_33 : decode cJ2_getChar_3b067 33 = .ok (.iload_n 1, 1) := by decide +kernel
theorem dJ2_getChar_3b067_34 : decode cJ2_getChar_3b067 34 = .ok (.iinc 1 1, 3) := by decide +kernel
theorem dJ2_getChar_3b067_37 : decode cJ2_getChar_3b067 37 = .ok (.baload, 1) := by decide +kernel
theorem dJ2_getChar_3b067_38 : decode cJ2_getChar_3b067 38 = .ok (.sipush 255, 3) := by decide +kernel
theorem dJ2_getChar_3b067_41 : decode cJ2_getChar_3b067 41 = .ok (.iand, 1) := by decide +kernel
theorem dJ2_getChar_3b067_42 : decode cJ2_getChar_3b067 42 = .ok (.getstatic 59, 3) := by decide +kernel
theorem dJ2_getChar_3b067_45 : decode cJ2_getChar_3b067 45 = .ok (.ishl, 1) := by decide +kernel
theorem dJ2_getChar_3b067_46 : decode cJ2_getChar_3b067 46 = .ok (.aload_n 0, 1) := by decide +kernel
theorem dJ2_getChar_3b067_47 : decode cJ2_getChar_3b067 47 = .ok (.iload_n 1, 1) := by decide +kernel
theorem dJ2_getChar_3b067_48 : decode cJ2_getChar_3b067 48 = .ok (.baload, 1) := by decide +kernel
theorem dJ2_getChar_3b067_49 : decode cJ2_getChar_3b067 49 = .ok (.sipush 255, 3) := by decide +kernel
theorem dJ2_getChar_3b067_52 : decode cJ2_getChar_3b067 52 = .ok (.iand, 1) := by decide +kernel
theorem dJ2_getChar_3b067_53 : decode cJ2_getChar_3b067 53 = .ok (.getstatic 63, 3) := by decide +kernel
theorem dJ2_getChar_3b067_56 : decode cJ2_getChar_3b067 56 = .ok (.ishl, 1) := by decide +kernel
theorem dJ2_getChar_3b067_57 : decode cJ2_getChar_3b067 57 = .ok (.ior, 1) := by decide +kernel
theorem dJ2_getChar_3b067_58 : decode cJ2_getChar_3b067 58 = .ok (.i2c, 1) := by decide +kernel
theorem dJ2_getChar_3b067_59 : decode cJ2_getChar_3b067 59 = .ok (.ireturn, 1) := by decide +kernel
theorem dJ2_length_9d52b_0 : decode cJ2_length_9d52b 0 = .ok (.aload_n 0, 1) := by decide +kernel
theorem dJ2_length_9d52b_1 : decode cJ2_length_9d52b 1 = .ok (.arraylength, 1) := by decide +kernel
theorem dJ2_length_9d52b_2 : decode cJ2_length_9d52b 2 = .ok (.iconst 1, 1) := by decide +kernel
theorem dJ2_length_9d52b_3 : decode cJ2_length_9d52b 3 = .ok (.ishr, 1) := by decide +kernel
theorem dJ2_length_9d52b_4 : decode cJ2_length_9d52b 4 = .ok (.ireturn, 1) := by decide +kernel
set_option maxRecDepth 20000 in
theorem ggJ2_charAt_3b067_J2_checkIndex_2214a : GoodIn wsJ2_charAt_3b067 wsJ2_checkIndex_2214a := goodIn_r _ [4, 5, 6, 3, 7, 8, 9, 10, 11, 12, 13, 14, 15, 16] (by decide +kernel) (by decide +kernel)
set_option maxRecDepth 20000 in
theorem gJ2_charAt_3b067_J2_checkIndex_2214a : GoodIn wsJ2_charAt_3b067 (va_wsS RJ2 67 yJ2_checkIndex_2214a wsJ2_checkIndex_2214a) := goodIn_app (goodIn_of _ (by decide +kernel)) ggJ2_charAt_3b067_J2_checkIndex_2214a
set_option maxRecDepth 20000 in
theorem ggJ2_charAt_3b067_J2_getChar_3b067 : GoodIn wsJ2_charAt_3b067 wsJ2_getChar_3b067 := goodIn_r _ [19, 20, 21, 22, 5, 6, 3, 7] (by decide +kernel) (by decide +kernel)
set_option maxRecDepth 20000 in
theorem gJ2_charAt_3b067_J2_getChar_3b067 : GoodIn wsJ2_charAt_3b067 (va_wsS RJ2 71 yJ2_getChar_3b067 wsJ2_getChar_3b067) := goodIn_app (goodIn_of _ (by decide +kernel)) ggJ2_charAt_3b067_J2_getChar_3b067
theorem dJ2_charAt_3b067_0 : decode cJ2_charAt_3b067 0 = .ok (.iload_n 1, 1) := by decide +kernel
theorem dJ2_charAt_3b067_1 : decode cJ2_charAt_3b067 1 = .ok (.aload_n 0, 1) := by decide +kernel
theorem dJ2_charAt_3b067_2 : decode cJ2_charAt_3b067 2 = .ok (.invokestatic 67, 3) := by decide +kernel
theorem dJ2_charAt_3b067_5 : decode cJ2_charAt_3b067 5 = .ok (.aload_n 0, 1) := by decide +kernel
theorem dJ2_charAt_3b067_6 : decode cJ2_charAt_3b067 6 = .ok (.iload_n 1, 1) := by decide +kernel
theorem dJ2_charAt_3b067_7 : decode cJ2_charAt_3b067 7 = .ok (.invokestatic 71, 3) := by decide +kernel
theorem dJ2_charAt_3b067_10 : decode cJ2_charAt_3b067 10 = .ok (.ireturn, 1) := by decide +kernel
set_option maxRecDepth 20000 in
theorem ggJ2_checkIndex_2214a_J2_length_9d52b : GoodIn wsJ2_checkIndex_2214a wsJ2_length_9d52b := goodIn_r _ [4] (by decide +kernel) (by decide +kernel)
set_option maxRecDepth 20000 in
theorem gJ2_checkIndex_2214a_J2_length_9d52b : GoodIn wsJ2_checkIndex_2214a (va_wsS RJ2 48 yJ2_length_9d52b wsJ2_length_9d52b) := goodIn_app (goodIn_of _ (by decide +kernel)) ggJ2_checkIndex_2214a_J2_length_9d52b
set_option maxRecDepth 20000 in
theorem ggJ2_checkIndex_2214a_J0_checkIndex_df160 : GoodIn wsJ2_checkIndex_2214a wsJ0_checkIndex_df160 := goodIn_r _ [8, 9, 10, 11, 12, 13] (by decide +kernel) (by decide +kernel)
set_option maxRecDepth 20000 in
theorem gJ2_checkIndex_2214a_J0_checkIndex_df160 : GoodIn wsJ2_checkIndex_2214a (va_wsS RJ2 414 yJ0_checkIndex_df160 wsJ0_checkIndex_df160) := goodIn_app (goodIn_of _ (by decide +kernel)) ggJ2_checkIndex_2214a_J0_checkIndex_df160
theorem dJ2_checkIndex_2214a_0 : decode cJ2_checkIndex_2214a 0 = .ok (.iload_n 0, 1) := by decide +kernel
theorem dJ2_checkIndex_2214a_1 : decode cJ2_checkIndex_2214a 1 = .ok (.aload_n 1, 1) := by decide +kernel
theorem dJ2_checkIndex_2214a_2 : decode cJ2_checkIndex_2214a 2 = .ok (.invokestatic 48, 3) := by decide +kernel
theorem dJ2_checkIndex_2214a_5 : decode cJ2_checkIndex_2214a 5 = .ok (.invokestatic 414, 3) := by decide +kernel
theorem dJ2_checkIndex_2214a_8 : decode cJ2_checkIndex_2214a 8 = .ok (.return_, 1) := by decide +kernel
theorem dJ7_fill_53178_0 : decode cJ7_fill_53178 0 = .ok (.iconst 0, 1) := by decide +kernel
theorem dJ7_fill_53178_1 : decode cJ7_fill_53178 1 = .ok (.istore_n 2, 1) := by decide +kernel
theorem dJ7_fill_53178_2 : decode cJ7_fill_53178 2 = .ok (.aload_n 0, 1) := by decide +kernel
theorem dJ7_fill_53178_3 : decode cJ7_fill_53178 3 = .ok (.arraylength, 1) := by decide +kernel
theorem dJ7_fill_53178_4 : decode cJ7_fill_53178 4 = .ok (.istore_n 3, 1) := by decide +kernel
theorem dJ7_fill_53178_5 : decode cJ7_fill_53178 5 = .ok (.iload_n 2, 1) := by decide +kernel
theorem dJ7_fill_53178_6 : decode cJ7_fill_53178 6 = .ok (.iload_n 3, 1) := by decide +kernel
theorem dJ7_fill_53178_7 : decode cJ7_fill_53178 7 = .ok (.if_icmp .ge 13, 3) := by decide +kernel
theorem dJ7_fill_53178_10 : decode cJ7_fill_53178 10 = .ok (.aload_n 0, 1) := by decide +kernel
theorem dJ7_fill_53178_11 : decode cJ7_fill_53178 11 = .ok (.iload_n 2, 1) := by decide +kernel
theorem dJ7_fill_53178_12 : decode cJ7_fill_53178 12 = .ok (.iload_n 1, 1) := by decide +kernel
theorem dJ7_fill_53178_13 : decode cJ7_fill_53178 13 = .ok (.iastore, 1) := by decide +kernel
theorem dJ7_fill_53178_14 : decode cJ7_fill_53178 14 = .ok (.iinc 2 1, 3) := by decide +kernel
theorem dJ7_fill_53178_17 : decode cJ7_fill_53178 17 = .ok (.goto (-12), 3) := by decide +kernel
theorem dJ7_fill_53178_20 : decode cJ7_fill_53178 20 = .ok (.return_, 1) := by decide +kernel
theorem dJ3_checkIndex_8e157_0 : decode cJ3_checkIndex_8e157 0 = .ok (.iload_n 0, 1) := by decide +kernel
theorem dJ3_checkIndex_8e157_1 : decode cJ3_checkIndex_8e157 1 = .ok (.ifCond .lt 8, 3) := by decide +kernel
theorem dJ3_checkIndex_8e157_4 : decode cJ3_checkIndex_8e157 4 = .ok (.iload_n 0, 1) := by decide +kernel
theorem dJ3_checkIndex_8e157_5 : decode cJ3_checkIndex_8e157 5 = .ok (.iload_n 1, 1) := by decide +kernel
theorem dJ3_checkIndex_8e157_6 : decode cJ3_checkIndex_8e157 6 = .ok (.if_icmp .lt 10, 3) := by decide +kernel
theorem dJ3_checkIndex_8e157_9 : decode cJ3_checkIndex_8e157 9 = .ok (.aload_n 2, 1) := by decide +kernel
theorem dJ3_checkIndex_8e157_10 : decode cJ3_checkIndex_8e157 10 = .ok (.iload_n 0, 1) := by decide +kernel
theorem dJ3_checkIndex_8e157_11 : decode cJ3_checkIndex_8e157 11 = .ok (.iload_n 1, 1) := by decide +kernel
theorem dJ3_checkIndex_8e157_12 : decode cJ3_checkIndex_8e157 12 = .ok (.invokestatic 95, 3) := by decide +kernel
theorem dJ3_checkIndex_8e157_15 : decode cJ3_checkIndex_8e157 15 = .ok (.athrow, 1) := by decide +kernel
theorem dJ3_checkIndex_8e157_16 : decode cJ3_checkIndex_8e157 16 = .ok (.iload_n 0, 1) := by decide +kernel
theorem dJ3_checkIndex_8e157_17 : decode cJ3_checkIndex_8e157 17 = .ok (.ireturn, 1) := by decide +kernel
