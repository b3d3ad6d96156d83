set_option maxRecDepth 20000 in
theorem ggX3_init_J7_fill_53178 : GoodIn wsX3_init wsJ7_fill_53178 := goodIn_r _ [14] (by decide +kernel) (by decide +kernel)
set_option maxRecDepth 20000 in
theorem gX3_init_J7_fill_53178 : GoodIn wsX3_init (va_wsS RX3 31 yJ7_fill_53178 wsJ7_fill_53178) := goodIn_app (goodIn_of _ (by decide +kernel)) ggX3_init_J7_fill_53178
theorem dX3_init_0 : decode cX3_init 0 = .ok (.aload_n 0, 1) := by decide +kernel
theorem dX3_init_1 : decode cX3_init 1 = .ok (.invokespecial 3, 3) := by decide +kernel
theorem dX3_init_4 : decode cX3_init 4 = .ok (.aload_n 0, 1) := by decide +kernel
theorem dX3_init_5 : decode cX3_init 5 = .ok (.iconst 1, 1) := by decide +kernel
theorem dX3_init_6 : decode cX3_init 6 = .ok (.putfield 9, 3) := by decide +kernel
theorem dX3_init_9 : decode cX3_init 9 = .ok (.aload_n 0, 1) := by decide +kernel
theorem dX3_init_10 : decode cX3_init 10 = .ok (.sipush 240, 3) := by decide +kernel
theorem dX3_init_13 : decode cX3_init 13 = .ok (.newarray .int, 2) := by decide +kernel
theorem dX3_init_15 : decode cX3_init 15 = .ok (.putfield 15, 3) := by decide +kernel
theorem dX3_init_18 : decode cX3_init 18 = .ok (.aload_n 0, 1) := by decide +kernel
theorem dX3_init_19 : decode cX3_init 19 = .ok (.sipush 240, 3) := by decide +kernel
theorem dX3_init_22 : decode cX3_init 22 = .ok (.newarray .int, 2) := by decide +kernel
theorem dX3_init_24 : decode cX3_init 24 = .ok (.putfield 19, 3) := by decide +kernel
theorem dX3_init_27 : decode cX3_init 27 = .ok (.aload_n 0, 1) := by decide +kernel
theorem dX3_init_28 : decode cX3_init 28 = .ok (.iconst 0, 1) := by decide +kernel
theorem dX3_init_29 : decode cX3_init 29 = .ok (.putfield 22, 3) := by decide +kernel
theorem dX3_init_32 : decode cX3_init 32 = .ok (.aload_n 0, 1) := by decide +kernel
theorem dX3_init_33 : decode cX3_init 33 = .ok (.bipush 24, 2) := by decide +kernel
theorem dX3_init_35 : decode cX3_init 35 = .ok (.newarray .int, 2) := by decide +kernel
theorem dX3_init_37 : decode cX3_init 37 = .ok (.putfield 25, 3) := by decide +kernel
theorem dX3_init_40 : decode cX3_init 40 = .ok (.aload_n 0, 1) := by decide +kernel
theorem dX3_init_41 : decode cX3_init 41 = .ok (.sipush 192, 3) := by decide +kernel
theorem dX3_init_44 : decode cX3_init 44 = .ok (.newarray .int, 2) := by decide +kernel
theorem dX3_init_46 : decode cX3_init 46 = .ok (.putfield 28, 3) := by decide +kernel
theorem dX3_init_49 : decode cX3_init 49 = .ok (.aload_n 0, 1) := by decide +kernel
theorem dX3_init_50 : decode cX3_init 50 = .ok (.getfield 15, 3) := by decide +kernel
theorem dX3_init_53 : decode cX3_init 53 = .ok (.iconst (-1), 1) := by decide +kernel
theorem dX3_init_54 : decode cX3_init 54 = .ok (.invokestatic 31, 3) := by decide +kernel
theorem dX3_init_57 : decode cX3_init 57 = .ok (.return_, 1) := by decide +kernel
theorem dX3_copyFrom_0 : decode cX3_copyFrom 0 = .ok (.aload_n 0, 1) := by decide +kernel
theorem dX3_copyFrom_1 : decode cX3_copyFrom 1 = .ok (.aload_n 1, 1) := by decide +kernel
theorem dX3_copyFrom_2 : decode cX3_copyFrom 2 = .ok (.getfield 9, 3) := by decide +kernel
theorem dX3_copyFrom_5 : decode cX3_copyFrom 5 = .ok (.putfield 9, 3) := by decide +kernel
theorem dX3_copyFrom_8 : decode cX3_copyFrom 8 = .ok (.aload_n 1, 1) := by decide +kernel
theorem dX3_copyFrom_9 : decode cX3_copyFrom 9 = .ok (.getfield 15, 3) := by decide +kernel
theorem dX3_copyFrom_12 : decode cX3_copyFrom 12 = .ok (.iconst 0, 1) := by decide +kernel
theorem dX3_copyFrom_13 : decode cX3_copyFrom 13 = .ok (.aload_n 0, 1) := by decide +kernel
theorem dX3_copyFrom_14 : decode cX3_copyFrom 14 = .ok (.getfield 15, 3) := by decide +kernel
theorem dX3_copyFrom_17 : decode cX3_copyFrom 17 = .ok (.iconst 0, 1) := by decide +kernel
theorem dX3_copyFrom_18 : decode cX3_copyFrom 18 = .ok (.aload_n 0, 1) := by decide +kernel
theorem dX3_copyFrom_19 : decode cX3_copyFrom 19 = .ok (.getfield 15, 3) := by decide +kernel
theorem dX3_copyFrom_22 : decode cX3_copyFrom 22 = .ok (.arraylength, 1) := by decide +kernel
theorem dX3_copyFrom_23 : decode cX3_copyFrom 23 = .ok (.invokestatic 37, 3) := by decide +kernel
theorem dX3_copyFrom_26 : decode cX3_copyFrom 26 = .ok (.aload_n 1, 1) := by decide +kernel
theorem dX3_copyFrom_27 : decode cX3_copyFrom 27 = .ok (.getfield 19, 3) := by decide +kernel
theorem dX3_copyFrom_30 : decode cX3_copyFrom 30 = .ok (.iconst 0, 1) := by decide +kernel
theorem dX3_copyFrom_31 : decode cX3_copyFrom 31 = .ok (.aload_n 0, 1) := by decide +kernel
theorem dX3_copyFrom_32 : decode cX3_copyFrom 32 = .ok (.getfield 19, 3) := by decide +kernel
theorem dX3_copyFrom_35 : decode cX3_copyFrom 35 = .ok (.iconst 0, 1) := by decide +kernel
theorem dX3_copyFrom_36 : decode cX3_copyFrom 36 = .ok (.aload_n 0, 1) := by decide +kernel
theorem dX3_copyFrom_37 : decode cX3_copyFrom 37 = .ok (.getfield 19, 3) := by decide +kernel
theorem dX3_copyFrom_40 : decode cX3_copyFrom 40 = .ok (.arraylength, 1) := by decide +kernel
theorem dX3_copyFrom_41 : decode cX3_copyFrom 41 = .ok (.invokestatic 37, 3) := by decide +kernel
theorem dX3_copyFrom_44 : decode cX3_copyFrom 44 = .ok (.aload_n 0, 1) := by decide +kernel
theorem dX3_copyFrom_45 : decode cX3_copyFrom 45 = .ok (.aload_n 1, 1) := by decide +kernel
theorem dX3_copyFrom_46 : decode cX3_copyFrom 46 = .ok (.getfield 22, 3) := by decide +kernel
theorem dX3_copyFrom_49 : decode cX3_copyFrom 49 = .ok (.putfield 22, 3) := by decide +kernel
theorem dX3_copyFrom_52 : decode cX3_copyFrom 52 = .ok (.aload_n 1, 1) := by decide +kernel
theorem dX3_copyFrom_53 : decode cX3_copyFrom 53 = .ok (.getfield 25, 3) := by decide +kernel
theorem dX3_copyFrom_56 : decode cX3_copyFrom 56 = .ok (.iconst 0, 1) := by decide +kernel
theorem dX3_copyFrom_57 : decode cX3_copyFrom 57 = .ok (.aload_n 0, 1) := by decide +kernel
theorem dX3_copyFrom_58 : decode cX3_copyFrom 58 = .ok (.getfield 25, 3) := by decide +kernel
theorem dX3_copyFrom_61 : decode cX3_copyFrom 61 = .ok (.iconst 0, 1) := by decide +kernel
theorem dX3_copyFrom_62 : decode cX3_copyFrom 62 = .ok (.aload_n 0, 1) := by decide +kernel
theorem dX3_copyFrom_63 : decode cX3_copyFrom 63 = .ok (.getfield 25, 3) := by decide +kernel
theorem dX3_copyFrom_66 : decode cX3_copyFrom 66 = .ok (.arraylength, 1) := by decide +kernel
theorem dX3_copyFrom_67 : decode cX3_copyFrom 67 = .ok (.invokestatic 37, 3) := by decide +kernel
theorem dX3_copyFrom_70 : decode cX3_copyFrom 70 = .ok (.aload_n 1, 1) := by decide +kernel
theorem dX3_copyFrom_71 : decode cX3_copyFrom 71 = .ok (.getfield 28, 3) := by decide +kernel
theorem dX3_copyFrom_74 : decode cX3_copyFrom 74 = .ok (.iconst 0, 1) := by decide +kernel
theorem dX3_copyFrom_75 : decode cX3_copyFrom 75 = .ok (.aload_n 0, 1) := by decide +kernel
theorem dX3_copyFrom_76 : decode cX3_copyFrom 76 = .ok (.getfield 28, 3) := by decide +kernel
theorem dX3_copyFrom_79 : decode cX3_copyFrom 79 = .ok (.iconst 0, 1) := by decide +kernel
theorem dX3_copyFrom_80 : decode cX3_copyFrom 80 = .ok (.aload_n 0, 1) := by decide +kernel
theorem dX3_copyFrom_81 : decode cX3_copyFrom 81 = .ok (.getfield 28, 3) := by decide +kernel
theorem dX3_copyFrom_84 : decode cX3_copyFrom 84 = .ok (.arraylength, 1) := by decide +kernel
theorem dX3_copyFrom_85 : decode cX3_copyFrom 85 = .ok (.invokestatic 37, 3) := by decide +kernel
theorem dX3_copyFrom_88 : decode cX3_copyFrom 88 = .ok (.return_, 1) := by decide +kernel
set_option maxRecDepth 20000 in
theorem ggX3_addColumn_X4_isName : GoodIn wsX3_addColumn wsX4_isName := goodIn_r _ [4] (by decide +kernel) (by decide +kernel)
set_option maxRecDepth 20000 in
theorem gX3_addColumn_X4_isName_n43 : GoodIn wsX3_addColumn (wsX4_isName) := ggX3_addColumn_X4_isName
set_option maxRecDepth 20000 in
theorem ggX3_addColumn_X4_isKind : GoodIn wsX3_addColumn wsX4_isKind := goodIn_r _ [6] (by decide +kernel) (by decide +kernel)
set_option maxRecDepth 20000 in
theorem gX3_addColumn_X4_isKind_n47 : GoodIn wsX3_addColumn (wsX4_isKind) := ggX3_addColumn_X4_isKind
set_option maxRecDepth 20000 in
theorem ggX3_addColumn_X4_isOfKind : GoodIn wsX3_addColumn wsX4_isOfKind := goodIn_r _ [8, 9, 10, 3, 11, 12, 13, 14] (by decide +kernel) (by decide +kernel)
set_option maxRecDepth 20000 in
theorem gX3_addColumn_X4_isOfKind_n50 : GoodIn wsX3_addColumn (wsX4_isOfKind) := ggX3_addColumn_X4_isOfKind
set_option maxRecDepth 20000 in
theorem ggX3_addColumn_X3_now : GoodIn wsX3_addColumn wsX3_now := goodIn_r _ [19, 1, 34, 35, 36, 37, 38, 39] (by decide +kernel) (by decide +kernel)
set_option maxRecDepth 20000 in
theorem gX3_addColumn_X3_now : GoodIn wsX3_addColumn (wsV RX3 54 RX3 yX3_now wsX3_now) := goodIn_app (goodIn_of _ (by decide +kernel)) ggX3_addColumn_X3_now
set_option maxRecDepth 20000 in
theorem ggX3_addColumn_X3_kindIn : GoodIn wsX3_addColumn wsX3_kindIn := goodIn_r _ [23, 24, 34, 35, 36, 37, 38, 39] (by decide +kernel) (by decide +kernel)
set_option maxRecDepth 20000 in
theorem gX3_addColumn_X3_kindIn : GoodIn wsX3_addColumn (wsV RX3 58 RX3 yX3_kindIn wsX3_kindIn) := goodIn_app (goodIn_of _ (by decide +kernel)) ggX3_addColumn_X3_kindIn
set_option maxRecDepth 20000 in
theorem ggX3_addColumn_X3_beginSeasonWith : GoodIn wsX3_addColumn wsX3_beginSeasonWith := goodIn_r _ [28, 24, 29, 30, 31, 32, 33, 1, 15, 16, 17, 18, 19, 34, 35, 36, 37, 38, 39] (by decide +kernel) (by decide +kernel)
set_option maxRecDepth 20000 in
theorem gX3_addColumn_X3_beginSeasonWith : GoodIn wsX3_addColumn (wsV RX3 62 RX3 yX3_beginSeasonWith wsX3_beginSeasonWith) := goodIn_app (goodIn_of _ (by decide +kernel)) ggX3_addColumn_X3_beginSeasonWith
theorem dX3_addColumn_0 : decode cX3_addColumn 0 = .ok (.iload_n 1, 1) := by decide +kernel
theorem dX3_addColumn_1 : decode cX3_addColumn 1 = .ok (.invokestatic 43, 3) := by decide +kernel
theorem dX3_addColumn_4 : decode cX3_addColumn 4 = .ok (.ifCond .ne 7, 3) := by decide +kernel
theorem dX3_addColumn_7 : decode cX3_addColumn 7 = .ok (.sipush (-10001), 3) := by decide +kernel
theorem dX3_addColumn_10 : decode cX3_addColumn 10 = .ok (.ireturn, 1) := by decide +kernel
theorem dX3_addColumn_11 : decode cX3_addColumn 11 = .ok (.iload_n 2, 1) := by decide +kernel
theorem dX3_addColumn_12 : decode cX3_addColumn 12 = .ok (.invokestatic 47, 3) := by decide +kernel
theorem dX3_addColumn_15 : decode cX3_addColumn 15 = .ok (.ifCond .eq 11, 3) := by decide +kernel
theorem dX3_addColumn_18 : decode cX3_addColumn 18 = .ok (.iload_n 3, 1) := by decide +kernel
theorem dX3_addColumn_19 : decode cX3_addColumn 19 = .ok (.iload_n 2, 1) := by decide +kernel
theorem dX3_addColumn_20 : decode cX3_addColumn 20 = .ok (.invokestatic 50, 3) := by decide +kernel
theorem dX3_addColumn_23 : decode cX3_addColumn 23 = .ok (.ifCond .ne 7, 3) := by decide +kernel
theorem dX3_addColumn_26 : decode cX3_addColumn 26 = .ok (.sipush (-10002), 3) := by decide +kernel
theorem dX3_addColumn_29 : decode cX3_addColumn 29 = .ok (.ireturn, 1) := by decide +kernel
theorem dX3_addColumn_30 : decode cX3_addColumn 30 = .ok (.aload_n 0, 1) := by decide +kernel
theorem dX3_addColumn_31 : decode cX3_addColumn 31 = .ok (.aload_n 0, 1) := by decide +kernel
theorem dX3_addColumn_32 : decode cX3_addColumn 32 = .ok (.invokevirtual 54, 3) := by decide +kernel
theorem dX3_addColumn_35 : decode cX3_addColumn 35 = .ok (.iload_n 1, 1) := by decide +kernel
theorem dX3_addColumn_36 : decode cX3_addColumn 36 = .ok (.invokevirtual 58, 3) := by decide +kernel
theorem dX3_addColumn_39 : decode cX3_addColumn 39 = .ok (.iconst (-1), 1) := by decide +kernel
theorem dX3_addColumn_40 : decode cX3_addColumn 40 = .ok (.if_icmp .eq 7, 3) := by decide +kernel
theorem dX3_addColumn_43 : decode cX3_addColumn 43 = .ok (.sipush (-10004), 3) := by decide +kernel
theorem dX3_addColumn_46 : decode cX3_addColumn 46 = .ok (.ireturn, 1) := by decide +kernel
theorem dX3_addColumn_47 : decode cX3_addColumn 47 = .ok (.aload_n 0, 1) := by decide +kernel
theorem dX3_addColumn_48 : decode cX3_addColumn 48 = .ok (.getfield 9, 3) := by decide +kernel
theorem dX3_addColumn_51 : decode cX3_addColumn 51 = .ok (.bipush 30, 2) := by decide +kernel
theorem dX3_addColumn_53 : decode cX3_addColumn 53 = .ok (.if_icmp .lt 7, 3) := by decide +kernel
theorem dX3_addColumn_56 : decode cX3_addColumn 56 = .ok (.sipush (-10003), 3) := by decide +kernel
theorem dX3_addColumn_59 : decode cX3_addColumn 59 = .ok (.ireturn, 1) := by decide +kernel
theorem dX3_addColumn_60 : decode cX3_addColumn 60 = .ok (.aload_n 0, 1) := by decide +kernel
theorem dX3_addColumn_61 : decode cX3_addColumn 61 = .ok (.iload_n 1, 1) := by decide +kernel
theorem dX3_addColumn_62 : decode cX3_addColumn 62 = .ok (.iload_n 2, 1) := by decide +kernel
theorem dX3_addColumn_63 : decode cX3_addColumn 63 = .ok (.iload_n 3, 1) := by decide +kernel
theorem dX3_addColumn_64 : decode cX3_addColumn 64 = .ok (.invokevirtual 62, 3) := by decide +kernel
theorem dX3_addColumn_67 : decode cX3_addColumn 67 = .ok (.ireturn, 1) := by decide +kernel
set_option maxRecDepth 20000 in
theorem ggX3_dropColumn_X4_isName : GoodIn wsX3_dropColumn wsX4_isName := goodIn_r _ [4] (by decide +kernel) (by decide +kernel)
set_option maxRecDepth 20000 in
theorem gX3_dropColumn_X4_isName_n43 : GoodIn wsX3_dropColumn (wsX4_isName) := ggX3_dropColumn_X4_isName
set_option maxRecDepth 20000 in
theorem ggX3_dropColumn_X3_now : GoodIn wsX3_dropColumn wsX3_now := goodIn_r _ [9, 1, 24, 25, 26, 27, 28, 29] (by decide +kernel) (by decide +kernel)
set_option maxRecDepth 20000 in
theorem gX3_dropColumn_X3_now : GoodIn wsX3_dropColumn (wsV RX3 54 RX3 yX3_now wsX3_now) := goodIn_app (goodIn_of _ (by decide +kernel)) ggX3_dropColumn_X3_now
set_option maxRecDepth 20000 in
theorem ggX3_dropColumn_X3_kindIn : GoodIn wsX3_dropColumn wsX3_kindIn := goodIn_r _ [13, 14, 24, 25, 26, 27, 28, 29] (by decide +kernel) (by decide +kernel)
set_option maxRecDepth 20000 in
theorem gX3_dropColumn_X3_kindIn : GoodIn wsX3_dropColumn (wsV RX3 58 RX3 yX3_kindIn wsX3_kindIn) := goodIn_app (goodIn_of _ (by decide +kernel)) ggX3_dropColumn_X3_kindIn
set_option maxRecDepth 20000 in
theorem ggX3_dropColumn_X3_beginSeasonWith : GoodIn wsX3_dropColumn wsX3_beginSeasonWith := goodIn_r _ [18, 14, 19, 20, 21, 22, 23, 1, 5, 6, 7, 8, 9, 24, 25, 26, 27, 28, 29] (by decide +kernel) (by decide +kernel)
set_option maxRecDepth 20000 in
theorem gX3_dropColumn_X3_beginSeasonWith : GoodIn wsX3_dropColumn (wsV RX3 62 RX3 yX3_beginSeasonWith wsX3_beginSeasonWith) := goodIn_app (goodIn_of _ (by decide +kernel)) ggX3_dropColumn_X3_beginSeasonWith
theorem dX3_dropColumn_0 : decode cX3_dropColumn 0 = .ok (.iload_n 1, 1) := by decide +kernel
theorem dX3_dropColumn_1 : decode cX3_dropColumn 1 = .ok (.invokestatic 43, 3) := by decide +kernel
theorem dX3_dropColumn_4 : decode cX3_dropColumn 4 = .ok (.ifCond .eq 16, 3) := by decide +kernel
theorem dX3_dropColumn_7 : decode cX3_dropColumn 7 = .ok (.aload_n 0, 1) := by decide +kernel
theorem dX3_dropColumn_8 : decode cX3_dropColumn 8 = .ok (.aload_n 0, 1) := by decide +kernel
theorem dX3_dropColumn_9 : decode cX3_dropColumn 9 = .ok (.invokevirtual 54, 3) := by decide +kernel
theorem dX3_dropColumn_12 : decode cX3_dropColumn 12 = .ok (.iload_n 1, 1) := by decide +kernel
theorem dX3_dropColumn_13 : decode cX3_dropColumn 13 = .ok (.invokevirtual 58, 3) := by decide +kernel
theorem dX3_dropColumn_16 : decode cX3_dropColumn 16 = .ok (.iconst (-1), 1) := by decide +kernel
theorem dX3_dropColumn_17 : decode cX3_dropColumn 17 = .ok (.if_icmp .ne 7, 3) := by decide +kernel
theorem dX3_dropColumn_20 : decode cX3_dropColumn 20 = .ok (.sipush (-10001), 3) := by decide +kernel
theorem dX3_dropColumn_23 : decode cX3_dropColumn 23 = .ok (.ireturn, 1) := by decide +kernel
theorem dX3_dropColumn_24 : decode cX3_dropColumn 24 = .ok (.aload_n 0, 1) := by decide +kernel
theorem dX3_dropColumn_25 : decode cX3_dropColumn 25 = .ok (.getfield 9, 3) := by decide +kernel
theorem dX3_dropColumn_28 : decode cX3_dropColumn 28 = .ok (.bipush 30, 2) := by decide +kernel
theorem dX3_dropColumn_30 : decode cX3_dropColumn 30 = .ok (.if_icmp .lt 7, 3) := by decide +kernel
theorem dX3_dropColumn_33 : decode cX3_dropColumn 33 = .ok (.sipush (-10003), 3) := by decide +kernel
theorem dX3_dropColumn_36 : decode cX3_dropColumn 36 = .ok (.ireturn, 1) := by decide +kernel
theorem dX3_dropColumn_37 : decode cX3_dropColumn 37 = .ok (.aload_n 0, 1) := by decide +kernel
theorem dX3_dropColumn_38 : decode cX3_dropColumn 38 = .ok (.iload_n 1, 1) := by decide +kernel
theorem dX3_dropColumn_39 : decode cX3_dropColumn 39 = .ok (.iconst (-1), 1) := by decide +kernel
theorem dX3_dropColumn_40 : decode cX3_dropColumn 40 = .ok (.iconst 0, 1) := by decide +kernel
theorem dX3_dropColumn_41 : decode cX3_dropColumn 41 = .ok (.invokevirtual 62, 3) := by decide +kernel
theorem dX3_dropColumn_44 : decode cX3_dropColumn 44 = .ok (.ireturn, 1) := by decide +kernel
set_option maxRecDepth 20000 in
theorem ggX3_changeKind_X4_isName : GoodIn wsX3_changeKind wsX4_isName := goodIn_r _ [4] (by decide +kernel) (by decide +kernel)
set_option maxRecDepth 20000 in
theorem gX3_changeKind_X4_isName_n43 : GoodIn wsX3_changeKind (wsX4_isName) := ggX3_changeKind_X4_isName
set_option maxRecDepth 20000 in
theorem ggX3_changeKind_X3_now : GoodIn wsX3_changeKind wsX3_now := goodIn_r _ [9, 1, 45, 46, 47, 48, 49, 50] (by decide +kernel) (by decide +kernel)
set_option maxRecDepth 20000 in
theorem gX3_changeKind_X3_now : GoodIn wsX3_changeKind (wsV RX3 54 RX3 yX3_now wsX3_now) := goodIn_app (goodIn_of _ (by decide +kernel)) ggX3_changeKind_X3_now
set_option maxRecDepth 20000 in
theorem ggX3_changeKind_X3_kindIn : GoodIn wsX3_changeKind wsX3_kindIn := goodIn_r _ [13, 14, 45, 46, 47, 48, 49, 50] (by decide +kernel) (by decide +kernel)
set_option maxRecDepth 20000 in
theorem gX3_changeKind_X3_kindIn : GoodIn wsX3_changeKind (wsV RX3 58 RX3 yX3_kindIn wsX3_kindIn) := goodIn_app (goodIn_of _ (by decide +kernel)) ggX3_changeKind_X3_kindIn
set_option maxRecDepth 20000 in
theorem ggX3_changeKind_X4_isKind : GoodIn wsX3_changeKind wsX4_isKind := goodIn_r _ [16] (by decide +kernel) (by decide +kernel)
set_option maxRecDepth 20000 in
theorem gX3_changeKind_X4_isKind_n47 : GoodIn wsX3_changeKind (wsX4_isKind) := ggX3_changeKind_X4_isKind
set_option maxRecDepth 20000 in
theorem ggX3_changeKind_X3_standardIn : GoodIn wsX3_changeKind wsX3_standardIn := goodIn_r _ [20, 21, 45, 46, 47, 48, 49, 50] (by decide +kernel) (by decide +kernel)
set_option maxRecDepth 20000 in
theorem gX3_changeKind_X3_standardIn : GoodIn wsX3_changeKind (wsV RX3 66 RX3 yX3_standardIn wsX3_standardIn) := goodIn_app (goodIn_of _ (by decide +kernel)) ggX3_changeKind_X3_standardIn
set_option maxRecDepth 20000 in
theorem ggX3_changeKind_X4_castTo : GoodIn wsX3_changeKind wsX4_castTo := goodIn_r _ [23, 24, 25, 26, 27, 28, 29, 30, 31, 32, 3, 33, 34, 35, 36] (by decide +kernel) (by decide +kernel)
set_option maxRecDepth 20000 in
theorem gX3_changeKind_X4_castTo_n69 : GoodIn wsX3_changeKind (wsX4_castTo) := ggX3_changeKind_X4_castTo
set_option maxRecDepth 20000 in
theorem ggX3_changeKind_X3_beginSeasonWith : GoodIn wsX3_changeKind wsX3_beginSeasonWith := goodIn_r _ [40, 14, 41, 42, 43, 44, 21, 1, 5, 6, 7, 8, 9, 45, 46, 47, 48, 49, 50] (by decide +kernel) (by decide +kernel)
set_option maxRecDepth 20000 in
theorem gX3_changeKind_X3_beginSeasonWith : GoodIn wsX3_changeKind (wsV RX3 62 RX3 yX3_beginSeasonWith wsX3_beginSeasonWith) := goodIn_app (goodIn_of _ (by decide +kernel)) ggX3_changeKind_X3_beginSeasonWith
theorem dX3_changeKind_0 : decode cX3_changeKind 0 = .ok (.iload_n 1, 1) := by decide +kernel
theorem dX3_changeKind_1 : decode cX3_changeKind 1 = .ok (.invokestatic 43, 3) := by decide +kernel
theorem dX3_changeKind_4 : decode cX3_changeKind 4 = .ok (.ifCond .eq 16, 3) := by decide +kernel
theorem dX3_changeKind_7 : decode cX3_changeKind 7 = .ok (.aload_n 0, 1) := by decide +kernel
theorem dX3_changeKind_8 : decode cX3_changeKind 8 = .ok (.aload_n 0, 1) := by decide +kernel
theorem dX3_changeKind_9 : decode cX3_changeKind 9 = .ok (.invokevirtual 54, 3) := by decide +kernel
theorem dX3_changeKind_12 : decode cX3_changeKind 12 = .ok (.iload_n 1, 1) := by decide +kernel
theorem dX3_changeKind_13 : decode cX3_changeKind 13 = .ok (.invokevirtual 58, 3) := by decide +kernel
theorem dX3_changeKind_16 : decode cX3_changeKind 16 = .ok (.iconst (-1), 1) := by decide +kernel
theorem dX3_changeKind_17 : decode cX3_changeKind 17 = .ok (.if_icmp .ne 7, 3) := by decide +kernel
theorem dX3_changeKind_20 : decode cX3_changeKind 20 = .ok (.sipush (-10001), 3) := by decide +kernel
theorem dX3_changeKind_23 : decode cX3_changeKind 23 = .ok (.ireturn, 1) := by decide +kernel
theorem dX3_changeKind_24 : decode cX3_changeKind 24 = .ok (.iload_n 2, 1) := by decide +kernel
theorem dX3_changeKind_25 : decode cX3_changeKind 25 = .ok (.invokestatic 47, 3) := by decide +kernel
theorem dX3_changeKind_28 : decode cX3_changeKind 28 = .ok (.ifCond .ne 7, 3) := by decide +kernel
theorem dX3_changeKind_31 : decode cX3_changeKind 31 = .ok (.sipush (-10002), 3) := by decide +kernel
theorem dX3_changeKind_34 : decode cX3_changeKind 34 = .ok (.ireturn, 1) := by decide +kernel
theorem dX3_changeKind_35 : decode cX3_changeKind 35 = .ok (.aload_n 0, 1) := by decide +kernel
theorem dX3_changeKind_36 : decode cX3_changeKind 36 = .ok (.getfield 9, 3) := by decide +kernel
theorem dX3_changeKind_39 : decode cX3_changeKind 39 = .ok (.bipush 30, 2) := by decide +kernel
theorem dX3_changeKind_41 : decode cX3_changeKind 41 = .ok (.if_icmp .lt 7, 3) := by decide +kernel
theorem dX3_changeKind_44 : decode cX3_changeKind 44 = .ok (.sipush (-10003), 3) := by decide +kernel
theorem dX3_changeKind_47 : decode cX3_changeKind 47 = .ok (.ireturn, 1) := by decide +kernel
theorem dX3_changeKind_48 : decode cX3_changeKind 48 = .ok (.aload_n 0, 1) := by decide +kernel
theorem dX3_changeKind_49 : decode cX3_changeKind 49 = .ok (.aload_n 0, 1) := by decide +kernel
theorem dX3_changeKind_50 : decode cX3_changeKind 50 = .ok (.invokevirtual 54, 3) := by decide +kernel
theorem dX3_changeKind_53 : decode cX3_changeKind 53 = .ok (.iload_n 1, 1) := by decide +kernel
theorem dX3_changeKind_54 : decode cX3_changeKind 54 = .ok (.invokevirtual 58, 3) := by decide +kernel
theorem dX3_changeKind_57 : decode cX3_changeKind 57 = .ok (.iload_n 2, 1) := by decide +kernel
theorem dX3_changeKind_58 : decode cX3_changeKind 58 = .ok (.if_icmp .ne 7, 3) := by decide +kernel
theorem dX3_changeKind_61 : decode cX3_changeKind 61 = .ok (.sipush (-10005), 3) := by decide +kernel
theorem dX3_changeKind_64 : decode cX3_changeKind 64 = .ok (.ireturn, 1) := by decide +kernel
theorem dX3_changeKind_65 : decode cX3_changeKind 65 = .ok (.aload_n 0, 1) := by decide +kernel
theorem dX3_changeKind_66 : decode cX3_changeKind 66 = .ok (.iload_n 1, 1) := by decide +kernel
theorem dX3_changeKind_67 : decode cX3_changeKind 67 = .ok (.iload_n 2, 1) := by decide +kernel
theorem dX3_changeKind_68 : decode cX3_changeKind 68 = .ok (.iload_n 2, 1) := by decide +kernel
theorem dX3_changeKind_69 : decode cX3_changeKind 69 = .ok (.aload_n 0, 1) := by decide +kernel
theorem dX3_changeKind_70 : decode cX3_changeKind 70 = .ok (.aload_n 0, 1) := by decide +kernel
theorem dX3_changeKind_71 : decode cX3_changeKind 71 = .ok (.invokevirtual 54, 3) := by decide +kernel
theorem dX3_changeKind_74 : decode cX3_changeKind 74 = .ok (.iload_n 1, 1) := by decide +kernel
theorem dX3_changeKind_75 : decode cX3_changeKind 75 = .ok (.invokevirtual 66, 3) := by decide +kernel
theorem dX3_changeKind_78 : decode cX3_changeKind 78 = .ok (.invokestatic 69, 3) := by decide +kernel
theorem dX3_changeKind_81 : decode cX3_changeKind 81 = .ok (.invokevirtual 62, 3) := by decide +kernel
theorem dX3_changeKind_84 : decode cX3_changeKind 84 = .ok (.ireturn, 1) := by decide +kernel
set_option maxRecDepth 20000 in
theorem ggX3_beginSeasonWith_X3_now : GoodIn wsX3_beginSeasonWith wsX3_now := goodIn_r _ [12, 7, 13, 14, 15, 16, 17, 18] (by decide +kernel) (by decide +kernel)
set_option maxRecDepth 20000 in
theorem gX3_beginSeasonWith_X3_now : GoodIn wsX3_beginSeasonWith (wsV RX3 54 RX3 yX3_now wsX3_now) := goodIn_app (goodIn_of _ (by decide +kernel)) ggX3_beginSeasonWith_X3_now
theorem dX3_beginSeasonWith_0 : decode cX3_beginSeasonWith 0 = .ok (.aload_n 0, 1) := by decide +kernel
theorem dX3_beginSeasonWith_1 : decode cX3_beginSeasonWith 1 = .ok (.invokevirtual 54, 3) := by decide +kernel
theorem dX3_beginSeasonWith_4 : decode cX3_beginSeasonWith 4 = .ok (.bipush 8, 2) := by decide +kernel
theorem dX3_beginSeasonWith_6 : decode cX3_beginSeasonWith 6 = .ok (.imul, 1) := by decide +kernel
theorem dX3_beginSeasonWith_7 : decode cX3_beginSeasonWith 7 = .ok (.istore 4, 2) := by decide +kernel
theorem dX3_beginSeasonWith_9 : decode cX3_beginSeasonWith 9 = .ok (.iload 4, 2) := by decide +kernel
theorem dX3_beginSeasonWith_11 : decode cX3_beginSeasonWith 11 = .ok (.bipush 8, 2) := by decide +kernel
theorem dX3_beginSeasonWith_13 : decode cX3_beginSeasonWith 13 = .ok (.iadd, 1) := by decide +kernel
theorem dX3_beginSeasonWith_14 : decode cX3_beginSeasonWith 14 = .ok (.istore 5, 2) := by decide +kernel
theorem dX3_beginSeasonWith_16 : decode cX3_beginSeasonWith 16 = .ok (.aload_n 0, 1) := by decide +kernel
theorem dX3_beginSeasonWith_17 : decode cX3_beginSeasonWith 17 = .ok (.getfield 15, 3) := by decide +kernel
theorem dX3_beginSeasonWith_20 : decode cX3_beginSeasonWith 20 = .ok (.iload 4, 2) := by decide +kernel
theorem dX3_beginSeasonWith_22 : decode cX3_beginSeasonWith 22 = .ok (.aload_n 0, 1) := by decide +kernel
theorem dX3_beginSeasonWith_23 : decode cX3_beginSeasonWith 23 = .ok (.getfield 15, 3) := by decide +kernel
theorem dX3_beginSeasonWith_26 : decode cX3_beginSeasonWith 26 = .ok (.iload 5, 2) := by decide +kernel
theorem dX3_beginSeasonWith_28 : decode cX3_beginSeasonWith 28 = .ok (.bipush 8, 2) := by decide +kernel
theorem dX3_beginSeasonWith_30 : decode cX3_beginSeasonWith 30 = .ok (.invokestatic 37, 3) := by decide +kernel
theorem dX3_beginSeasonWith_33 : decode cX3_beginSeasonWith 33 = .ok (.aload_n 0, 1) := by decide +kernel
theorem dX3_beginSeasonWith_34 : decode cX3_beginSeasonWith 34 = .ok (.getfield 19, 3) := by decide +kernel
theorem dX3_beginSeasonWith_37 : decode cX3_beginSeasonWith 37 = .ok (.iload 4, 2) := by decide +kernel
theorem dX3_beginSeasonWith_39 : decode cX3_beginSeasonWith 39 = .ok (.aload_n 0, 1) := by decide +kernel
theorem dX3_beginSeasonWith_40 : decode cX3_beginSeasonWith 40 = .ok (.getfield 19, 3) := by decide +kernel
theorem dX3_beginSeasonWith_43 : decode cX3_beginSeasonWith 43 = .ok (.iload 5, 2) := by decide +kernel
theorem dX3_beginSeasonWith_45 : decode cX3_beginSeasonWith 45 = .ok (.bipush 8, 2) := by decide +kernel
theorem dX3_beginSeasonWith_47 : decode cX3_beginSeasonWith 47 = .ok (.invokestatic 37, 3) := by decide +kernel
theorem dX3_beginSeasonWith_50 : decode cX3_beginSeasonWith 50 = .ok (.aload_n 0, 1) := by decide +kernel
theorem dX3_beginSeasonWith_51 : decode cX3_beginSeasonWith 51 = .ok (.getfield 15, 3) := by decide +kernel
theorem dX3_beginSeasonWith_54 : decode cX3_beginSeasonWith 54 = .ok (.iload 5, 2) := by decide +kernel
theorem dX3_beginSeasonWith_56 : decode cX3_beginSeasonWith 56 = .ok (.iload_n 1, 1) := by decide +kernel
theorem dX3_beginSeasonWith_57 : decode cX3_beginSeasonWith 57 = .ok (.iadd, 1) := by decide +kernel
theorem dX3_beginSeasonWith_58 : decode cX3_beginSeasonWith 58 = .ok (.iload_n 2, 1) := by decide +kernel
theorem dX3_beginSeasonWith_59 : decode cX3_beginSeasonWith 59 = .ok (.iastore, 1) := by decide +kernel
theorem dX3_beginSeasonWith_60 : decode cX3_beginSeasonWith 60 = .ok (.aload_n 0, 1) := by decide +kernel
theorem dX3_beginSeasonWith_61 : decode cX3_beginSeasonWith 61 = .ok (.getfield 19, 3) := by decide +kernel
theorem dX3_beginSeasonWith_64 : decode cX3_beginSeasonWith 64 = .ok (.iload 5, 2) := by decide +kernel
theorem dX3_beginSeasonWith_66 : decode cX3_beginSeasonWith 66 = .ok (.iload_n 1, 1) := by decide +kernel
theorem dX3_beginSeasonWith_67 : decode cX3_beginSeasonWith 67 = .ok (.iadd, 1) := by decide +kernel
theorem dX3_beginSeasonWith_68 : decode cX3_beginSeasonWith 68 = .ok (.iload_n 3, 1) := by decide +kernel
theorem dX3_beginSeasonWith_69 : decode cX3_beginSeasonWith 69 = .ok (.iastore, 1) := by decide +kernel
theorem dX3_beginSeasonWith_70 : decode cX3_beginSeasonWith 70 = .ok (.aload_n 0, 1) := by decide +kernel
theorem dX3_beginSeasonWith_71 : decode cX3_beginSeasonWith 71 = .ok (.dup, 1) := by decide +kernel
theorem dX3_beginSeasonWith_72 : decode cX3_beginSeasonWith 72 = .ok (.getfield 9, 3) := by decide +kernel
theorem dX3_beginSeasonWith_75 : decode cX3_beginSeasonWith 75 = .ok (.iconst 1, 1) := by decide +kernel
theorem dX3_beginSeasonWith_76 : decode cX3_beginSeasonWith 76 = .ok (.iadd, 1) := by decide +kernel
theorem dX3_beginSeasonWith_77 : decode cX3_beginSeasonWith 77 = .ok (.putfield 9, 3) := by decide +kernel
theorem dX3_beginSeasonWith_80 : decode cX3_beginSeasonWith 80 = .ok (.aload_n 0, 1) := by decide +kernel
theorem dX3_beginSeasonWith_81 : decode cX3_beginSeasonWith 81 = .ok (.invokevirtual 54, 3) := by decide +kernel
theorem dX3_beginSeasonWith_84 : decode cX3_beginSeasonWith 84 = .ok (.ireturn, 1) := by decide +kernel
set_option maxRecDepth 20000 in
theorem ggX3_writeRow_X3_now : GoodIn wsX3_writeRow wsX3_now := goodIn_r _ [13, 14, 15, 16, 17, 18, 19, 20] (by decide +kernel) (by decide +kernel)
set_option maxRecDepth 20000 in
theorem gX3_writeRow_X3_now : GoodIn wsX3_writeRow (wsV RX3 54 RX3 yX3_now wsX3_now) := goodIn_app (goodIn_of _ (by decide +kernel)) ggX3_writeRow_X3_now
theorem dX3_writeRow_0 : decode cX3_writeRow 0 = .ok (.aload_n 0, 1) := by decide +kernel
theorem dX3_writeRow_1 : decode cX3_writeRow 1 = .ok (.getfield 22, 3) := by decide +kernel
theorem dX3_writeRow_4 : decode cX3_writeRow 4 = .ok (.bipush 24, 2) := by decide +kernel
theorem dX3_writeRow_6 : decode cX3_writeRow 6 = .ok (.if_icmp .lt 7, 3) := by decide +kernel
theorem dX3_writeRow_9 : decode cX3_writeRow 9 = .ok (.sipush (-10003), 3) := by decide +kernel
theorem dX3_writeRow_12 : decode cX3_writeRow 12 = .ok (.ireturn, 1) := by decide +kernel
theorem dX3_writeRow_13 : decode cX3_writeRow 13 = .ok (.aload_n 0, 1) := by decide +kernel
theorem dX3_writeRow_14 : decode cX3_writeRow 14 = .ok (.getfield 19, 3) := by decide +kernel
theorem dX3_writeRow_17 : decode cX3_writeRow 17 = .ok (.aload_n 0, 1) := by decide +kernel
theorem dX3_writeRow_18 : decode cX3_writeRow 18 = .ok (.invokevirtual 54, 3) := by decide +kernel
theorem dX3_writeRow_21 : decode cX3_writeRow 21 = .ok (.bipush 8, 2) := by decide +kernel
theorem dX3_writeRow_23 : decode cX3_writeRow 23 = .ok (.imul, 1) := by decide +kernel
theorem dX3_writeRow_24 : decode cX3_writeRow 24 = .ok (.aload_n 0, 1) := by decide +kernel
theorem dX3_writeRow_25 : decode cX3_writeRow 25 = .ok (.getfield 28, 3) := by decide +kernel
theorem dX3_writeRow_28 : decode cX3_writeRow 28 = .ok (.aload_n 0, 1) := by decide +kernel
theorem dX3_writeRow_29 : decode cX3_writeRow 29 = .ok (.getfield 22, 3) := by decide +kernel
theorem dX3_writeRow_32 : decode cX3_writeRow 32 = .ok (.bipush 8, 2) := by decide +kernel
theorem dX3_writeRow_34 : decode cX3_writeRow 34 = .ok (.imul, 1) := by decide +kernel
theorem dX3_writeRow_35 : decode cX3_writeRow 35 = .ok (.bipush 8, 2) := by decide +kernel
theorem dX3_writeRow_37 : decode cX3_writeRow 37 = .ok (.invokestatic 37, 3) := by decide +kernel
theorem dX3_writeRow_40 : decode cX3_writeRow 40 = .ok (.aload_n 0, 1) := by decide +kernel
theorem dX3_writeRow_41 : decode cX3_writeRow 41 = .ok (.getfield 25, 3) := by decide +kernel
theorem dX3_writeRow_44 : decode cX3_writeRow 44 = .ok (.aload_n 0, 1) := by decide +kernel
theorem dX3_writeRow_45 : decode cX3_writeRow 45 = .ok (.getfield 22, 3) := by decide +kernel
theorem dX3_writeRow_48 : decode cX3_writeRow 48 = .ok (.aload_n 0, 1) := by decide +kernel
theorem dX3_writeRow_49 : decode cX3_writeRow 49 = .ok (.invokevirtual 54, 3) := by decide +kernel
theorem dX3_writeRow_52 : decode cX3_writeRow 52 = .ok (.iastore, 1) := by decide +kernel
theorem dX3_writeRow_53 : decode cX3_writeRow 53 = .ok (.aload_n 0, 1) := by decide +kernel
theorem dX3_writeRow_54 : decode cX3_writeRow 54 = .ok (.dup, 1) := by decide +kernel
theorem dX3_writeRow_55 : decode cX3_writeRow 55 = .ok (.getfield 22, 3) := by decide +kernel
theorem dX3_writeRow_58 : decode cX3_writeRow 58 = .ok (.iconst 1, 1) := by decide +kernel
theorem dX3_writeRow_59 : decode cX3_writeRow 59 = .ok (.iadd, 1) := by decide +kernel
theorem dX3_writeRow_60 : decode cX3_writeRow 60 = .ok (.putfield 22, 3) := by decide +kernel
theorem dX3_writeRow_63 : decode cX3_writeRow 63 = .ok (.aload_n 0, 1) := by decide +kernel
theorem dX3_writeRow_64 : decode cX3_writeRow 64 = .ok (.getfield 22, 3) := by decide +kernel
theorem dX3_writeRow_67 : decode cX3_writeRow 67 = .ok (.iconst 1, 1) := by decide +kernel
theorem dX3_writeRow_68 : decode cX3_writeRow 68 = .ok (.isub, 1) := by decide +kernel
theorem dX3_writeRow_69 : decode cX3_writeRow 69 = .ok (.ireturn, 1) := by decide +kernel
set_option maxRecDepth 20000 in
theorem ggX3_changeValue_X3_isRow : GoodIn wsX3_changeValue wsX3_isRow := goodIn_r _ [6, 7, 33, 34, 35, 36, 37, 38] (by decide +kernel) (by decide +kernel)
set_option maxRecDepth 20000 in
theorem gX3_changeValue_X3_isRow : GoodIn wsX3_changeValue (wsV RX3 72 RX3 yX3_isRow wsX3_isRow) := goodIn_app (goodIn_of _ (by decide +kernel)) ggX3_changeValue_X3_isRow
set_option maxRecDepth 20000 in
theorem ggX3_changeValue_X4_isName : GoodIn wsX3_changeValue wsX4_isName := goodIn_r _ [10] (by decide +kernel) (by decide +kernel)
set_option maxRecDepth 20000 in
theorem gX3_changeValue_X4_isName_n43 : GoodIn wsX3_changeValue (wsX4_isName) := ggX3_changeValue_X4_isName
set_option maxRecDepth 20000 in
theorem ggX3_changeValue_X3_kindInRow : GoodIn wsX3_changeValue wsX3_kindInRow := goodIn_r _ [14, 15, 16, 17, 18, 5, 19, 20, 33, 34, 35, 36, 37, 38] (by decide +kernel) (by decide +kernel)
set_option maxRecDepth 20000 in
theorem gX3_changeValue_X3_kindInRow : GoodIn wsX3_changeValue (wsV RX3 75 RX3 yX3_kindInRow wsX3_kindInRow) := goodIn_app (goodIn_of _ (by decide +kernel)) ggX3_changeValue_X3_kindInRow
set_option maxRecDepth 20000 in
theorem ggX3_changeValue_X4_isOfKind : GoodIn wsX3_changeValue wsX4_isOfKind := goodIn_r _ [22, 23, 24, 9, 25, 26, 27, 28] (by decide +kernel) (by decide +kernel)
set_option maxRecDepth 20000 in
theorem gX3_changeValue_X4_isOfKind_n50 : GoodIn wsX3_changeValue (wsX4_isOfKind) := ggX3_changeValue_X4_isOfKind
set_option maxRecDepth 20000 in
theorem ggX3_changeValue_X3_valueAt : GoodIn wsX3_changeValue wsX3_valueAt := goodIn_r _ [32, 1, 33, 34, 35, 36, 37, 38] (by decide +kernel) (by decide +kernel)
set_option maxRecDepth 20000 in
theorem gX3_changeValue_X3_valueAt : GoodIn wsX3_changeValue (wsV RX3 78 RX3 yX3_valueAt wsX3_valueAt) := goodIn_app (goodIn_of _ (by decide +kernel)) ggX3_changeValue_X3_valueAt
theorem dX3_changeValue_0 : decode cX3_changeValue 0 = .ok (.aload_n 0, 1) := by decide +kernel
theorem dX3_changeValue_1 : decode cX3_changeValue 1 = .ok (.iload_n 1, 1) := by decide +kernel
theorem dX3_changeValue_2 : decode cX3_changeValue 2 = .ok (.invokevirtual 72, 3) := by decide +kernel
theorem dX3_changeValue_5 : decode cX3_changeValue 5 = .ok (.ifCond .eq 20, 3) := by decide +kernel
theorem dX3_changeValue_8 : decode cX3_changeValue 8 = .ok (.iload_n 2, 1) := by decide +kernel
theorem dX3_changeValue_9 : decode cX3_changeValue 9 = .ok (.invokestatic 43, 3) := by decide +kernel
theorem dX3_changeValue_12 : decode cX3_changeValue 12 = .ok (.ifCond .eq 13, 3) := by decide +kernel
theorem dX3_changeValue_15 : decode cX3_changeValue 15 = .ok (.aload_n 0, 1) := by decide +kernel
theorem dX3_changeValue_16 : decode cX3_changeValue 16 = .ok (.iload_n 1, 1) := by decide +kernel
theorem dX3_changeValue_17 : decode cX3_changeValue 17 = .ok (.iload_n 2, 1) := by decide +kernel
theorem dX3_changeValue_18 : decode cX3_changeValue 18 = .ok (.invokevirtual 75, 3) := by decide +kernel
theorem dX3_changeValue_21 : decode cX3_changeValue 21 = .ok (.iconst (-1), 1) := by decide +kernel
theorem dX3_changeValue_22 : decode cX3_changeValue 22 = .ok (.if_icmp .ne 7, 3) := by decide +kernel
theorem dX3_changeValue_25 : decode cX3_changeValue 25 = .ok (.sipush (-10001), 3) := by decide +kernel
theorem dX3_changeValue_28 : decode cX3_changeValue 28 = .ok (.ireturn, 1) := by decide +kernel
theorem dX3_changeValue_29 : decode cX3_changeValue 29 = .ok (.iload_n 3, 1) := by decide +kernel
theorem dX3_changeValue_30 : decode cX3_changeValue 30 = .ok (.aload_n 0, 1) := by decide +kernel
theorem dX3_changeValue_31 : decode cX3_changeValue 31 = .ok (.iload_n 1, 1) := by decide +kernel
theorem dX3_changeValue_32 : decode cX3_changeValue 32 = .ok (.iload_n 2, 1) := by decide +kernel
theorem dX3_changeValue_33 : decode cX3_changeValue 33 = .ok (.invokevirtual 75, 3) := by decide +kernel
theorem dX3_changeValue_36 : decode cX3_changeValue 36 = .ok (.invokestatic 50, 3) := by decide +kernel
theorem dX3_changeValue_39 : decode cX3_changeValue 39 = .ok (.ifCond .ne 7, 3) := by decide +kernel
theorem dX3_changeValue_42 : decode cX3_changeValue 42 = .ok (.sipush (-10002), 3) := by decide +kernel
theorem dX3_changeValue_45 : decode cX3_changeValue 45 = .ok (.ireturn, 1) := by decide +kernel
theorem dX3_changeValue_46 : decode cX3_changeValue 46 = .ok (.aload_n 0, 1) := by decide +kernel
theorem dX3_changeValue_47 : decode cX3_changeValue 47 = .ok (.iload_n 1, 1) := by decide +kernel
theorem dX3_changeValue_48 : decode cX3_changeValue 48 = .ok (.iload_n 2, 1) := by decide +kernel
theorem dX3_changeValue_49 : decode cX3_changeValue 49 = .ok (.invokevirtual 78, 3) := by decide +kernel
theorem dX3_changeValue_52 : decode cX3_changeValue 52 = .ok (.istore 4, 2) := by decide +kernel
theorem dX3_changeValue_54 : decode cX3_changeValue 54 = .ok (.iload 4, 2) := by decide +kernel
theorem dX3_changeValue_56 : decode cX3_changeValue 56 = .ok (.iload_n 3, 1) := by decide +kernel
theorem dX3_changeValue_57 : decode cX3_changeValue 57 = .ok (.if_icmp .ne 7, 3) := by decide +kernel
theorem dX3_changeValue_60 : decode cX3_changeValue 60 = .ok (.sipush (-10005), 3) := by decide +kernel
theorem dX3_changeValue_63 : decode cX3_changeValue 63 = .ok (.ireturn, 1) := by decide +kernel
theorem dX3_changeValue_64 : decode cX3_changeValue 64 = .ok (.aload_n 0, 1) := by decide +kernel
theorem dX3_changeValue_65 : decode cX3_changeValue 65 = .ok (.getfield 28, 3) := by decide +kernel
theorem dX3_changeValue_68 : decode cX3_changeValue 68 = .ok (.iload_n 1, 1) := by decide +kernel
theorem dX3_changeValue_69 : decode cX3_changeValue 69 = .ok (.bipush 8, 2) := by decide +kernel
theorem dX3_changeValue_71 : decode cX3_changeValue 71 = .ok (.imul, 1) := by decide +kernel
theorem dX3_changeValue_72 : decode cX3_changeValue 72 = .ok (.iload_n 2, 1) := by decide +kernel
theorem dX3_changeValue_73 : decode cX3_changeValue 73 = .ok (.iadd, 1) := by decide +kernel
theorem dX3_changeValue_74 : decode cX3_changeValue 74 = .ok (.iload_n 3, 1) := by decide +kernel
theorem dX3_changeValue_75 : decode cX3_changeValue 75 = .ok (.iastore, 1) := by decide +kernel
theorem dX3_changeValue_76 : decode cX3_changeValue 76 = .ok (.iload 4, 2) := by decide +kernel
theorem dX3_changeValue_78 : decode cX3_changeValue 78 = .ok (.ireturn, 1) := by decide +kernel
set_option maxRecDepth 20000 in
theorem ggX3_removeRow_X3_isRow : GoodIn wsX3_removeRow wsX3_isRow := goodIn_r _ [12, 1, 13, 14, 15, 16, 17, 18] (by decide +kernel) (by decide +kernel)
set_option maxRecDepth 20000 in
theorem gX3_removeRow_X3_isRow : GoodIn wsX3_removeRow (wsV RX3 72 RX3 yX3_isRow wsX3_isRow) := goodIn_app (goodIn_of _ (by decide +kernel)) ggX3_removeRow_X3_isRow
theorem dX3_removeRow_0 : decode cX3_removeRow 0 = .ok (.aload_n 0, 1) := by decide +kernel
theorem dX3_removeRow_1 : decode cX3_removeRow 1 = .ok (.iload_n 1, 1) := by decide +kernel
theorem dX3_removeRow_2 : decode cX3_removeRow 2 = .ok (.invokevirtual 72, 3) := by decide +kernel
theorem dX3_removeRow_5 : decode cX3_removeRow 5 = .ok (.ifCond .ne 7, 3) := by decide +kernel
theorem dX3_removeRow_8 : decode cX3_removeRow 8 = .ok (.sipush (-10001), 3) := by decide +kernel
theorem dX3_removeRow_11 : decode cX3_removeRow 11 = .ok (.ireturn, 1) := by decide +kernel
theorem dX3_removeRow_12 : decode cX3_removeRow 12 = .ok (.aload_n 0, 1) := by decide +kernel
theorem dX3_removeRow_13 : decode cX3_removeRow 13 = .ok (.getfield 22, 3) := by decide +kernel
theorem dX3_removeRow_16 : decode cX3_removeRow 16 = .ok (.iload_n 1, 1) := by decide +kernel
theorem dX3_removeRow_17 : decode cX3_removeRow 17 = .ok (.isub, 1) := by decide +kernel
theorem dX3_removeRow_18 : decode cX3_removeRow 18 = .ok (.iconst 1, 1) := by decide +kernel
theorem dX3_removeRow_19 : decode cX3_removeRow 19 = .ok (.isub, 1) := by decide +kernel
theorem dX3_removeRow_20 : decode cX3_removeRow 20 = .ok (.istore_n 2, 1) := by decide +kernel
theorem dX3_removeRow_21 : decode cX3_removeRow 21 = .ok (.aload_n 0, 1) := by decide +kernel
theorem dX3_removeRow_22 : decode cX3_removeRow 22 = .ok (.getfield 25, 3) := by decide +kernel
theorem dX3_removeRow_25 : decode cX3_removeRow 25 = .ok (.iload_n 1, 1) := by decide +kernel
theorem dX3_removeRow_26 : decode cX3_removeRow 26 = .ok (.iconst 1, 1) := by decide +kernel
theorem dX3_removeRow_27 : decode cX3_removeRow 27 = .ok (.iadd, 1) := by decide +kernel
theorem dX3_removeRow_28 : decode cX3_removeRow 28 = .ok (.aload_n 0, 1) := by decide +kernel
theorem dX3_removeRow_29 : decode cX3_removeRow 29 = .ok (.getfield 25, 3) := by decide +kernel
theorem dX3_removeRow_32 : decode cX3_removeRow 32 = .ok (.iload_n 1, 1) := by decide +kernel
theorem dX3_removeRow_33 : decode cX3_removeRow 33 = .ok (.iload_n 2, 1) := by decide +kernel
theorem dX3_removeRow_34 : decode cX3_removeRow 34 = .ok (.invokestatic 37, 3) := by decide +kernel
theorem dX3_removeRow_37 : decode cX3_removeRow 37 = .ok (.aload_n 0, 1) := by decide +kernel
theorem dX3_removeRow_38 : decode cX3_removeRow 38 = .ok (.getfield 28, 3) := by decide +kernel
theorem dX3_removeRow_41 : decode cX3_removeRow 41 = .ok (.iload_n 1, 1) := by decide +kernel
theorem dX3_removeRow_42 : decode cX3_removeRow 42 = .ok (.iconst 1, 1) := by decide +kernel
theorem dX3_removeRow_43 : decode cX3_removeRow 43 = .ok (.iadd, 1) := by decide +kernel
theorem dX3_removeRow_44 : decode cX3_removeRow 44 = .ok (.bipush 8, 2) := by decide +kernel
theorem dX3_removeRow_46 : decode cX3_removeRow 46 = .ok (.imul, 1) := by decide +kernel
theorem dX3_removeRow_47 : decode cX3_removeRow 47 = .ok (.aload_n 0, 1) := by decide +kernel
theorem dX3_removeRow_48 : decode cX3_removeRow 48 = .ok (.getfield 28, 3) := by decide +kernel
theorem dX3_removeRow_51 : decode cX3_removeRow 51 = .ok (.iload_n 1, 1) := by decide +kernel
theorem dX3_removeRow_52 : decode cX3_removeRow 52 = .ok (.bipush 8, 2) := by decide +kernel
theorem dX3_removeRow_54 : decode cX3_removeRow 54 = .ok (.imul, 1) := by decide +kernel
theorem dX3_removeRow_55 : decode cX3_removeRow 55 = .ok (.iload_n 2, 1) := by decide +kernel
theorem dX3_removeRow_56 : decode cX3_removeRow 56 = .ok (.bipush 8, 2) := by decide +kernel
theorem dX3_removeRow_58 : decode cX3_removeRow 58 = .ok (.imul, 1) := by decide +kernel
theorem dX3_removeRow_59 : decode cX3_removeRow 59 = .ok (.invokestatic 37, 3) := by decide +kernel
theorem dX3_removeRow_62 : decode cX3_removeRow 62 = .ok (.aload_n 0, 1) := by decide +kernel
theorem dX3_removeRow_63 : decode cX3_removeRow 63 = .ok (.dup, 1) := by decide +kernel
theorem dX3_removeRow_64 : decode cX3_removeRow 64 = .ok (.getfield 22, 3) := by decide +kernel
theorem dX3_removeRow_67 : decode cX3_removeRow 67 = .ok (.iconst 1, 1) := by decide +kernel
theorem dX3_removeRow_68 : decode cX3_removeRow 68 = .ok (.isub, 1) := by decide +kernel
theorem dX3_removeRow_69 : decode cX3_removeRow 69 = .ok (.putfield 22, 3) := by decide +kernel
theorem dX3_removeRow_72 : decode cX3_removeRow 72 = .ok (.aload_n 0, 1) := by decide +kernel
theorem dX3_removeRow_73 : decode cX3_removeRow 73 = .ok (.getfield 22, 3) := by decide +kernel
theorem dX3_removeRow_76 : decode cX3_removeRow 76 = .ok (.ireturn, 1) := by decide +kernel
set_option maxRecDepth 20000 in
theorem ggX3_makeRowsOver_X3_isRow : GoodIn wsX3_makeRowsOver wsX3_isRow := goodIn_r _ [6, 7, 63, 64, 65, 66, 67, 68] (by decide +kernel) (by decide +kernel)
set_option maxRecDepth 20000 in
theorem gX3_makeRowsOver_X3_isRow : GoodIn wsX3_makeRowsOver (wsV RX3 72 RX3 yX3_isRow wsX3_isRow) := goodIn_app (goodIn_of _ (by decide +kernel)) ggX3_makeRowsOver_X3_isRow
set_option maxRecDepth 20000 in
theorem ggX3_makeRowsOver_X3_now : GoodIn wsX3_makeRowsOver wsX3_now := goodIn_r _ [11, 12, 63, 64, 65, 66, 67, 68] (by decide +kernel) (by decide +kernel)
set_option maxRecDepth 20000 in
theorem gX3_makeRowsOver_X3_now : GoodIn wsX3_makeRowsOver (wsV RX3 54 RX3 yX3_now wsX3_now) := goodIn_app (goodIn_of _ (by decide +kernel)) ggX3_makeRowsOver_X3_now
set_option maxRecDepth 20000 in
theorem ggX3_makeRowsOver_X3_lossesOfRowIn : GoodIn wsX3_makeRowsOver wsX3_lossesOfRowIn := goodIn_r _ [16, 17, 18, 19, 5, 20, 1, 21, 22, 23, 24, 25, 26, 27, 28, 29, 30, 31, 32, 33, 34, 35, 36, 37, 38, 39, 40, 41, 42, 43, 44, 45, 46, 47, 48, 49, 63, 64, 65, 66, 67, 68] (by decide +kernel) (by decide +kernel)
set_option maxRecDepth 20000 in
theorem gX3_makeRowsOver_X3_lossesOfRowIn : GoodIn wsX3_makeRowsOver (wsV RX3 81 RX3 yX3_lossesOfRowIn wsX3_lossesOfRowIn) := goodIn_app (goodIn_of _ (by decide +kernel)) ggX3_makeRowsOver_X3_lossesOfRowIn
set_option maxRecDepth 20000 in
theorem ggX3_makeRowsOver_X3_dressRowInNow : GoodIn wsX3_makeRowsOver wsX3_dressRowInNow := goodIn_r _ [53, 30, 1, 8, 9, 10, 5, 11, 12, 21, 22, 23, 24, 25, 54, 55, 56, 57, 17, 18, 19, 20, 58, 59, 60, 61, 62, 26, 27, 28, 29, 35, 32, 36, 37, 38, 39, 40, 41, 42, 43, 44, 45, 46, 47, 48, 49, 63, 64, 65, 66, 67, 68] (by decide +kernel) (by decide +kernel)
set_option maxRecDepth 20000 in
theorem gX3_makeRowsOver_X3_dressRowInNow : GoodIn wsX3_makeRowsOver (wsV RX3 84 RX3 yX3_dressRowInNow wsX3_dressRowInNow) := goodIn_app (goodIn_of _ (by decide +kernel)) ggX3_makeRowsOver_X3_dressRowInNow
theorem dX3_makeRowsOver_0 : decode cX3_makeRowsOver 0 = .ok (.aload_n 0, 1) := by decide +kernel
theorem dX3_makeRowsOver_1 : decode cX3_makeRowsOver 1 = .ok (.iload_n 1, 1) := by decide +kernel
theorem dX3_makeRowsOver_2 : decode cX3_makeRowsOver 2 = .ok (.invokevirtual 72, 3) := by decide +kernel
theorem dX3_makeRowsOver_5 : decode cX3_makeRowsOver 5 = .ok (.ifCond .eq 11, 3) := by decide +kernel
theorem dX3_makeRowsOver_8 : decode cX3_makeRowsOver 8 = .ok (.aload_n 0, 1) := by decide +kernel
theorem dX3_makeRowsOver_9 : decode cX3_makeRowsOver 9 = .ok (.iload_n 2, 1) := by decide +kernel
theorem dX3_makeRowsOver_10 : decode cX3_makeRowsOver 10 = .ok (.invokevirtual 72, 3) := by decide +kernel
theorem dX3_makeRowsOver_13 : decode cX3_makeRowsOver 13 = .ok (.ifCond .ne 7, 3) := by decide +kernel
theorem dX3_makeRowsOver_16 : decode cX3_makeRowsOver 16 = .ok (.sipush (-10001), 3) := by decide +kernel
theorem dX3_makeRowsOver_19 : decode cX3_makeRowsOver 19 = .ok (.ireturn, 1) := by decide +kernel
theorem dX3_makeRowsOver_20 : decode cX3_makeRowsOver 20 = .ok (.iload_n 2, 1) := by decide +kernel
theorem dX3_makeRowsOver_21 : decode cX3_makeRowsOver 21 = .ok (.iload_n 1, 1) := by decide +kernel
theorem dX3_makeRowsOver_22 : decode cX3_makeRowsOver 22 = .ok (.if_icmp .ge 7, 3) := by decide +kernel
theorem dX3_makeRowsOver_25 : decode cX3_makeRowsOver 25 = .ok (.sipush (-10002), 3) := by decide +kernel
theorem dX3_makeRowsOver_28 : decode cX3_makeRowsOver 28 = .ok (.ireturn, 1) := by decide +kernel
theorem dX3_makeRowsOver_29 : decode cX3_makeRowsOver 29 = .ok (.iconst 0, 1) := by decide +kernel
theorem dX3_makeRowsOver_30 : decode cX3_makeRowsOver 30 = .ok (.istore_n 3, 1) := by decide +kernel
theorem dX3_makeRowsOver_31 : decode cX3_makeRowsOver 31 = .ok (.iconst 0, 1) := by decide +kernel
theorem dX3_makeRowsOver_32 : decode cX3_makeRowsOver 32 = .ok (.istore 4, 2) := by decide +kernel
theorem dX3_makeRowsOver_34 : decode cX3_makeRowsOver 34 = .ok (.iload_n 1, 1) := by decide +kernel
theorem dX3_makeRowsOver_35 : decode cX3_makeRowsOver 35 = .ok (.istore 5, 2) := by decide +kernel
theorem dX3_makeRowsOver_37 : decode cX3_makeRowsOver 37 = .ok (.iload 5, 2) := by decide +kernel
theorem dX3_makeRowsOver_39 : decode cX3_makeRowsOver 39 = .ok (.iload_n 2, 1) := by decide +kernel
theorem dX3_makeRowsOver_40 : decode cX3_makeRowsOver 40 = .ok (.if_icmp .gt 46, 3) := by decide +kernel
theorem dX3_makeRowsOver_43 : decode cX3_makeRowsOver 43 = .ok (.aload_n 0, 1) := by decide +kernel
theorem dX3_makeRowsOver_44 : decode cX3_makeRowsOver 44 = .ok (.getfield 25, 3) := by decide +kernel
theorem dX3_makeRowsOver_47 : decode cX3_makeRowsOver 47 = .ok (.iload 5, 2) := by decide +kernel
theorem dX3_makeRowsOver_49 : decode cX3_makeRowsOver 49 = .ok (.iaload, 1) := by decide +kernel
theorem dX3_makeRowsOver_50 : decode cX3_makeRowsOver 50 = .ok (.aload_n 0, 1) := by decide +kernel
theorem dX3_makeRowsOver_51 : decode cX3_makeRowsOver 51 = .ok (.invokevirtual 54, 3) := by decide +kernel
theorem dX3_makeRowsOver_54 : decode cX3_makeRowsOver 54 = .ok (.if_icmp .eq 26, 3) := by decide +kernel
theorem dX3_makeRowsOver_57 : decode cX3_makeRowsOver 57 = .ok (.iconst 1, 1) := by decide +kernel
theorem dX3_makeRowsOver_58 : decode cX3_makeRowsOver 58 = .ok (.istore_n 3, 1) := by decide +kernel
theorem dX3_makeRowsOver_59 : decode cX3_makeRowsOver 59 = .ok (.iload 4, 2) := by decide +kernel
theorem dX3_makeRowsOver_61 : decode cX3_makeRowsOver 61 = .ok (.aload_n 0, 1) := by decide +kernel
theorem dX3_makeRowsOver_62 : decode cX3_makeRowsOver 62 = .ok (.aload_n 0, 1) := by decide +kernel
theorem dX3_makeRowsOver_63 : decode cX3_makeRowsOver 63 = .ok (.invokevirtual 54, 3) := by decide +kernel
theorem dX3_makeRowsOver_66 : decode cX3_makeRowsOver 66 = .ok (.iload 5, 2) := by decide +kernel
theorem dX3_makeRowsOver_68 : decode cX3_makeRowsOver 68 = .ok (.invokevirtual 81, 3) := by decide +kernel
theorem dX3_makeRowsOver_71 : decode cX3_makeRowsOver 71 = .ok (.iadd, 1) := by decide +kernel
theorem dX3_makeRowsOver_72 : decode cX3_makeRowsOver 72 = .ok (.istore 4, 2) := by decide +kernel
theorem dX3_makeRowsOver_74 : decode cX3_makeRowsOver 74 = .ok (.aload_n 0, 1) := by decide +kernel
theorem dX3_makeRowsOver_75 : decode cX3_makeRowsOver 75 = .ok (.iload 5, 2) := by decide +kernel
theorem dX3_makeRowsOver_77 : decode cX3_makeRowsOver 77 = .ok (.invokevirtual 84, 3) := by decide +kernel
theorem dX3_makeRowsOver_80 : decode cX3_makeRowsOver 80 = .ok (.iinc 5 1, 3) := by decide +kernel
theorem dX3_makeRowsOver_83 : decode cX3_makeRowsOver 83 = .ok (.goto (-46), 3) := by decide +kernel
theorem dX3_makeRowsOver_86 : decode cX3_makeRowsOver 86 = .ok (.iload_n 3, 1) := by decide +kernel
theorem dX3_makeRowsOver_87 : decode cX3_makeRowsOver 87 = .ok (.ifCond .eq 8, 3) := by decide +kernel
theorem dX3_makeRowsOver_90 : decode cX3_makeRowsOver 90 = .ok (.iload 4, 2) := by decide +kernel
theorem dX3_makeRowsOver_92 : decode cX3_makeRowsOver 92 = .ok (.goto 6, 3) := by decide +kernel
theorem dX3_makeRowsOver_95 : decode cX3_makeRowsOver 95 = .ok (.sipush (-10005), 3) := by decide +kernel
theorem dX3_makeRowsOver_98 : decode cX3_makeRowsOver 98 = .ok (.ireturn, 1) := by decide +kernel
set_option maxRecDepth 20000 in
theorem ggX3_dressRowInNow_X3_now : GoodIn wsX3_dressRowInNow wsX3_now := goodIn_r _ [7, 8, 47, 48, 49, 50, 51, 52] (by decide +kernel) (by decide +kernel)
set_option maxRecDepth 20000 in
theorem gX3_dressRowInNow_X3_now : GoodIn wsX3_dressRowInNow (wsV RX3 54 RX3 yX3_now wsX3_now) := goodIn_app (goodIn_of _ (by decide +kernel)) ggX3_dressRowInNow_X3_now
set_option maxRecDepth 20000 in
theorem ggX3_dressRowInNow_X3_kindIn : GoodIn wsX3_dressRowInNow wsX3_kindIn := goodIn_r _ [12, 13, 47, 48, 49, 50, 51, 52] (by decide +kernel) (by decide +kernel)
set_option maxRecDepth 20000 in
theorem gX3_dressRowInNow_X3_kindIn : GoodIn wsX3_dressRowInNow (wsV RX3 58 RX3 yX3_kindIn wsX3_kindIn) := goodIn_app (goodIn_of _ (by decide +kernel)) ggX3_dressRowInNow_X3_kindIn
set_option maxRecDepth 20000 in
theorem ggX3_dressRowInNow_X3_readIn : GoodIn wsX3_dressRowInNow wsX3_readIn := goodIn_r _ [17, 18, 19, 20, 6, 21, 2, 9, 10, 11, 12, 13, 22, 23, 24, 25, 26, 27, 28, 29, 30, 1, 31, 32, 33, 34, 35, 36, 37, 38, 39, 40, 41, 42, 43, 44, 45, 46, 47, 48, 49, 50, 51, 52] (by decide +kernel) (by decide +kernel)
set_option maxRecDepth 20000 in
theorem gX3_dressRowInNow_X3_readIn : GoodIn wsX3_dressRowInNow (wsV RX3 88 RX3 yX3_readIn wsX3_readIn) := goodIn_app (goodIn_of _ (by decide +kernel)) ggX3_dressRowInNow_X3_readIn
theorem dX3_dressRowInNow_0 : decode cX3_dressRowInNow 0 = .ok (.iconst 0, 1) := by decide +kernel
theorem dX3_dressRowInNow_1 : decode cX3_dressRowInNow 1 = .ok (.istore_n 2, 1) := by decide +kernel
theorem dX3_dressRowInNow_2 : decode cX3_dressRowInNow 2 = .ok (.iload_n 2, 1) := by decide +kernel
theorem dX3_dressRowInNow_3 : decode cX3_dressRowInNow 3 = .ok (.bipush 8, 2) := by decide +kernel
theorem dX3_dressRowInNow_5 : decode cX3_dressRowInNow 5 = .ok (.if_icmp .ge 43, 3) := by decide +kernel
theorem dX3_dressRowInNow_8 : decode cX3_dressRowInNow 8 = .ok (.aload_n 0, 1) := by decide +kernel
theorem dX3_dressRowInNow_9 : decode cX3_dressRowInNow 9 = .ok (.aload_n 0, 1) := by decide +kernel
theorem dX3_dressRowInNow_10 : decode cX3_dressRowInNow 10 = .ok (.invokevirtual 54, 3) := by decide +kernel
theorem dX3_dressRowInNow_13 : decode cX3_dressRowInNow 13 = .ok (.iload_n 2, 1) := by decide +kernel
theorem dX3_dressRowInNow_14 : decode cX3_dressRowInNow 14 = .ok (.invokevirtual 58, 3) := by decide +kernel
theorem dX3_dressRowInNow_17 : decode cX3_dressRowInNow 17 = .ok (.iconst (-1), 1) := by decide +kernel
theorem dX3_dressRowInNow_18 : decode cX3_dressRowInNow 18 = .ok (.if_icmp .eq 24, 3) := by decide +kernel
theorem dX3_dressRowInNow_21 : decode cX3_dressRowInNow 21 = .ok (.aload_n 0, 1) := by decide +kernel
theorem dX3_dressRowInNow_22 : decode cX3_dressRowInNow 22 = .ok (.getfield 28, 3) := by decide +kernel
theorem dX3_dressRowInNow_25 : decode cX3_dressRowInNow 25 = .ok (.iload_n 1, 1) := by decide +kernel
theorem dX3_dressRowInNow_26 : decode cX3_dressRowInNow 26 = .ok (.bipush 8, 2) := by decide +kernel
theorem dX3_dressRowInNow_28 : decode cX3_dressRowInNow 28 = .ok (.imul, 1) := by decide +kernel
theorem dX3_dressRowInNow_29 : decode cX3_dressRowInNow 29 = .ok (.iload_n 2, 1) := by decide +kernel
theorem dX3_dressRowInNow_30 : decode cX3_dressRowInNow 30 = .ok (.iadd, 1) := by decide +kernel
theorem dX3_dressRowInNow_31 : decode cX3_dressRowInNow 31 = .ok (.aload_n 0, 1) := by decide +kernel
theorem dX3_dressRowInNow_32 : decode cX3_dressRowInNow 32 = .ok (.aload_n 0, 1) := by decide +kernel
theorem dX3_dressRowInNow_33 : decode cX3_dressRowInNow 33 = .ok (.invokevirtual 54, 3) := by decide +kernel
theorem dX3_dressRowInNow_36 : decode cX3_dressRowInNow 36 = .ok (.iload_n 1, 1) := by decide +kernel
theorem dX3_dressRowInNow_37 : decode cX3_dressRowInNow 37 = .ok (.iload_n 2, 1) := by decide +kernel
theorem dX3_dressRowInNow_38 : decode cX3_dressRowInNow 38 = .ok (.invokevirtual 88, 3) := by decide +kernel
theorem dX3_dressRowInNow_41 : decode cX3_dressRowInNow 41 = .ok (.iastore, 1) := by decide +kernel
theorem dX3_dressRowInNow_42 : decode cX3_dressRowInNow 42 = .ok (.iinc 2 1, 3) := by decide +kernel
theorem dX3_dressRowInNow_45 : decode cX3_dressRowInNow 45 = .ok (.goto (-43), 3) := by decide +kernel
theorem dX3_dressRowInNow_48 : decode cX3_dressRowInNow 48 = .ok (.aload_n 0, 1) := by decide +kernel
theorem dX3_dressRowInNow_49 : decode cX3_dressRowInNow 49 = .ok (.getfield 25, 3) := by decide +kernel
theorem dX3_dressRowInNow_52 : decode cX3_dressRowInNow 52 = .ok (.iload_n 1, 1) := by decide +kernel
theorem dX3_dressRowInNow_53 : decode cX3_dressRowInNow 53 = .ok (.aload_n 0, 1) := by decide +kernel
theorem dX3_dressRowInNow_54 : decode cX3_dressRowInNow 54 = .ok (.invokevirtual 54, 3) := by decide +kernel
theorem dX3_dressRowInNow_57 : decode cX3_dressRowInNow 57 = .ok (.iastore, 1) := by decide +kernel
theorem dX3_dressRowInNow_58 : decode cX3_dressRowInNow 58 = .ok (.return_, 1) := by decide +kernel
set_option maxRecDepth 20000 in
theorem ggX3_forgetSeasons_X3_now : GoodIn wsX3_forgetSeasons wsX3_now := goodIn_r _ [18, 7, 19, 20, 21, 22, 23, 24] (by decide +kernel) (by decide +kernel)
set_option maxRecDepth 20000 in
theorem gX3_forgetSeasons_X3_now : GoodIn wsX3_forgetSeasons (wsV RX3 54 RX3 yX3_now wsX3_now) := goodIn_app (goodIn_of _ (by decide +kernel)) ggX3_forgetSeasons_X3_now
theorem dX3_forgetSeasons_0 : decode cX3_forgetSeasons 0 = .ok (.aload_n 0, 1) := by decide +kernel
theorem dX3_forgetSeasons_1 : decode cX3_forgetSeasons 1 = .ok (.invokevirtual 54, 3) := by decide +kernel
theorem dX3_forgetSeasons_4 : decode cX3_forgetSeasons 4 = .ok (.istore_n 1, 1) := by decide +kernel
theorem dX3_forgetSeasons_5 : decode cX3_forgetSeasons 5 = .ok (.iconst 0, 1) := by decide +kernel
theorem dX3_forgetSeasons_6 : decode cX3_forgetSeasons 6 = .ok (.istore_n 2, 1) := by decide +kernel
theorem dX3_forgetSeasons_7 : decode cX3_forgetSeasons 7 = .ok (.iload_n 2, 1) := by decide +kernel
theorem dX3_forgetSeasons_8 : decode cX3_forgetSeasons 8 = .ok (.aload_n 0, 1) := by decide +kernel
theorem dX3_forgetSeasons_9 : decode cX3_forgetSeasons 9 = .ok (.getfield 22, 3) := by decide +kernel
theorem dX3_forgetSeasons_12 : decode cX3_forgetSeasons 12 = .ok (.if_icmp .ge 20, 3) := by decide +kernel
theorem dX3_forgetSeasons_15 : decode cX3_forgetSeasons 15 = .ok (.iload_n 1, 1) := by decide +kernel
theorem dX3_forgetSeasons_16 : decode cX3_forgetSeasons 16 = .ok (.aload_n 0, 1) := by decide +kernel
theorem dX3_forgetSeasons_17 : decode cX3_forgetSeasons 17 = .ok (.getfield 25, 3) := by decide +kernel
theorem dX3_forgetSeasons_20 : decode cX3_forgetSeasons 20 = .ok (.iload_n 2, 1) := by decide +kernel
theorem dX3_forgetSeasons_21 : decode cX3_forgetSeasons 21 = .ok (.iaload, 1) := by decide +kernel
theorem dX3_forgetSeasons_22 : decode cX3_forgetSeasons 22 = .ok (.invokestatic 91, 3) := by decide +kernel
theorem dX3_forgetSeasons_25 : decode cX3_forgetSeasons 25 = .ok (.istore_n 1, 1) := by decide +kernel
theorem dX3_forgetSeasons_26 : decode cX3_forgetSeasons 26 = .ok (.iinc 2 1, 3) := by decide +kernel
theorem dX3_forgetSeasons_29 : decode cX3_forgetSeasons 29 = .ok (.goto (-22), 3) := by decide +kernel
theorem dX3_forgetSeasons_32 : decode cX3_forgetSeasons 32 = .ok (.iload_n 1, 1) := by decide +kernel
theorem dX3_forgetSeasons_33 : decode cX3_forgetSeasons 33 = .ok (.ifCond .ne 7, 3) := by decide +kernel
theorem dX3_forgetSeasons_36 : decode cX3_forgetSeasons 36 = .ok (.sipush (-10005), 3) := by decide +kernel
theorem dX3_forgetSeasons_39 : decode cX3_forgetSeasons 39 = .ok (.ireturn, 1) := by decide +kernel
theorem dX3_forgetSeasons_40 : decode cX3_forgetSeasons 40 = .ok (.aload_n 0, 1) := by decide +kernel
theorem dX3_forgetSeasons_41 : decode cX3_forgetSeasons 41 = .ok (.dup, 1) := by decide +kernel
theorem dX3_forgetSeasons_42 : decode cX3_forgetSeasons 42 = .ok (.getfield 9, 3) := by decide +kernel
theorem dX3_forgetSeasons_45 : decode cX3_forgetSeasons 45 = .ok (.iload_n 1, 1) := by decide +kernel
theorem dX3_forgetSeasons_46 : decode cX3_forgetSeasons 46 = .ok (.isub, 1) := by decide +kernel
theorem dX3_forgetSeasons_47 : decode cX3_forgetSeasons 47 = .ok (.putfield 9, 3) := by decide +kernel
theorem dX3_forgetSeasons_50 : decode cX3_forgetSeasons 50 = .ok (.aload_n 0, 1) := by decide +kernel
theorem dX3_forgetSeasons_51 : decode cX3_forgetSeasons 51 = .ok (.getfield 15, 3) := by decide +kernel
theorem dX3_forgetSeasons_54 : decode cX3_forgetSeasons 54 = .ok (.iload_n 1, 1) := by decide +kernel
theorem dX3_forgetSeasons_55 : decode cX3_forgetSeasons 55 = .ok (.bipush 8, 2) := by decide +kernel
theorem dX3_forgetSeasons_57 : decode cX3_forgetSeasons 57 = .ok (.imul, 1) := by decide +kernel
theorem dX3_forgetSeasons_58 : decode cX3_forgetSeasons 58 = .ok (.aload_n 0, 1) := by decide +kernel
theorem dX3_forgetSeasons_59 : decode cX3_forgetSeasons 59 = .ok (.getfield 15, 3) := by decide +kernel
theorem dX3_forgetSeasons_62 : decode cX3_forgetSeasons 62 = .ok (.iconst 0, 1) := by decide +kernel
theorem dX3_forgetSeasons_63 : decode cX3_forgetSeasons 63 = .ok (.aload_n 0, 1) := by decide +kernel
theorem dX3_forgetSeasons_64 : decode cX3_forgetSeasons 64 = .ok (.getfield 9, 3) := by decide +kernel
theorem dX3_forgetSeasons_67 : decode cX3_forgetSeasons 67 = .ok (.bipush 8, 2) := by decide +kernel
theorem dX3_forgetSeasons_69 : decode cX3_forgetSeasons 69 = .ok (.imul, 1) := by decide +kernel
theorem dX3_forgetSeasons_70 : decode cX3_forgetSeasons 70 = .ok (.invokestatic 37, 3) := by decide +kernel
theorem dX3_forgetSeasons_73 : decode cX3_forgetSeasons 73 = .ok (.aload_n 0, 1) := by decide +kernel
theorem dX3_forgetSeasons_74 : decode cX3_forgetSeasons 74 = .ok (.getfield 19, 3) := by decide +kernel
theorem dX3_forgetSeasons_77 : decode cX3_forgetSeasons 77 = .ok (.iload_n 1, 1) := by decide +kernel
theorem dX3_forgetSeasons_78 : decode cX3_forgetSeasons 78 = .ok (.bipush 8, 2) := by decide +kernel
theorem dX3_forgetSeasons_80 : decode cX3_forgetSeasons 80 = .ok (.imul, 1) := by decide +kernel
theorem dX3_forgetSeasons_81 : decode cX3_forgetSeasons 81 = .ok (.aload_n 0, 1) := by decide +kernel
theorem dX3_forgetSeasons_82 : decode cX3_forgetSeasons 82 = .ok (.getfield 19, 3) := by decide +kernel
theorem dX3_forgetSeasons_85 : decode cX3_forgetSeasons 85 = .ok (.iconst 0, 1) := by decide +kernel
theorem dX3_forgetSeasons_86 : decode cX3_forgetSeasons 86 = .ok (.aload_n 0, 1) := by decide +kernel
theorem dX3_forgetSeasons_87 : decode cX3_forgetSeasons 87 = .ok (.getfield 9, 3) := by decide +kernel
theorem dX3_forgetSeasons_90 : decode cX3_forgetSeasons 90 = .ok (.bipush 8, 2) := by decide +kernel
theorem dX3_forgetSeasons_92 : decode cX3_forgetSeasons 92 = .ok (.imul, 1) := by decide +kernel
theorem dX3_forgetSeasons_93 : decode cX3_forgetSeasons 93 = .ok (.invokestatic 37, 3) := by decide +kernel
theorem dX3_forgetSeasons_96 : decode cX3_forgetSeasons 96 = .ok (.iconst 0, 1) := by decide +kernel
theorem dX3_forgetSeasons_97 : decode cX3_forgetSeasons 97 = .ok (.istore_n 2, 1) := by decide +kernel
theorem dX3_forgetSeasons_98 : decode cX3_forgetSeasons 98 = .ok (.iload_n 2, 1) := by decide +kernel
theorem dX3_forgetSeasons_99 : decode cX3_forgetSeasons 99 = .ok (.aload_n 0, 1) := by decide +kernel
theorem dX3_forgetSeasons_100 : decode cX3_forgetSeasons 100 = .ok (.getfield 22, 3) := by decide +kernel
theorem dX3_forgetSeasons_103 : decode cX3_forgetSeasons 103 = .ok (.if_icmp .ge 19, 3) := by decide +kernel
theorem dX3_forgetSeasons_106 : decode cX3_forgetSeasons 106 = .ok (.aload_n 0, 1) := by decide +kernel
theorem dX3_forgetSeasons_107 : decode cX3_forgetSeasons 107 = .ok (.getfield 25, 3) := by decide +kernel
theorem dX3_forgetSeasons_110 : decode cX3_forgetSeasons 110 = .ok (.iload_n 2, 1) := by decide +kernel
theorem dX3_forgetSeasons_111 : decode cX3_forgetSeasons 111 = .ok (.dup2, 1) := by decide +kernel
theorem dX3_forgetSeasons_112 : decode cX3_forgetSeasons 112 = .ok (.iaload, 1) := by decide +kernel
theorem dX3_forgetSeasons_113 : decode cX3_forgetSeasons 113 = .ok (.iload_n 1, 1) := by decide +kernel
theorem dX3_forgetSeasons_114 : decode cX3_forgetSeasons 114 = .ok (.isub, 1) := by decide +kernel
theorem dX3_forgetSeasons_115 : decode cX3_forgetSeasons 115 = .ok (.iastore, 1) := by decide +kernel
theorem dX3_forgetSeasons_116 : decode cX3_forgetSeasons 116 = .ok (.iinc 2 1, 3) := by decide +kernel
theorem dX3_forgetSeasons_119 : decode cX3_forgetSeasons 119 = .ok (.goto (-21), 3) := by decide +kernel
theorem dX3_forgetSeasons_122 : decode cX3_forgetSeasons 122 = .ok (.iload_n 1, 1) := by decide +kernel
theorem dX3_forgetSeasons_123 : decode cX3_forgetSeasons 123 = .ok (.ireturn, 1) := by decide +kernel
theorem dX3_now_0 : decode cX3_now 0 = .ok (.aload_n 0, 1) := by decide +kernel
theorem dX3_now_1 : decode cX3_now 1 = .ok (.getfield 9, 3) := by decide +kernel
theorem dX3_now_4 : decode cX3_now 4 = .ok (.iconst 1, 1) := by decide +kernel
theorem dX3_now_5 : decode cX3_now 5 = .ok (.isub, 1) := by decide +kernel
theorem dX3_now_6 : decode cX3_now 6 = .ok (.ireturn, 1) := by decide +kernel
theorem dX3_isSeason_0 : decode cX3_isSeason 0 = .ok (.iload_n 1, 1) := by decide +kernel
theorem dX3_isSeason_1 : decode cX3_isSeason 1 = .ok (.ifCond .lt 15, 3) := by decide +kernel
theorem dX3_isSeason_4 : decode cX3_isSeason 4 = .ok (.iload_n 1, 1) := by decide +kernel
theorem dX3_isSeason_5 : decode cX3_isSeason 5 = .ok (.aload_n 0, 1) := by decide +kernel
theorem dX3_isSeason_6 : decode cX3_isSeason 6 = .ok (.getfield 9, 3) := by decide +kernel
theorem dX3_isSeason_9 : decode cX3_isSeason 9 = .ok (.if_icmp .ge 7, 3) := by decide +kernel
theorem dX3_isSeason_12 : decode cX3_isSeason 12 = .ok (.iconst 1, 1) := by decide +kernel
theorem dX3_isSeason_13 : decode cX3_isSeason 13 = .ok (.goto 4, 3) := by decide +kernel
theorem dX3_isSeason_16 : decode cX3_isSeason 16 = .ok (.iconst 0, 1) := by decide +kernel
theorem dX3_isSeason_17 : decode cX3_isSeason 17 = .ok (.ireturn, 1) := by decide +kernel
theorem dX3_kindIn_0 : decode cX3_kindIn 0 = .ok (.aload_n 0, 1) := by decide +kernel
theorem dX3_kindIn_1 : decode cX3_kindIn 1 = .ok (.getfield 15, 3) := by decide +kernel
theorem dX3_kindIn_4 : decode cX3_kindIn 4 = .ok (.iload_n 1, 1) := by decide +kernel
theorem dX3_kindIn_5 : decode cX3_kindIn 5 = .ok (.bipush 8, 2) := by decide +kernel
theorem dX3_kindIn_7 : decode cX3_kindIn 7 = .ok (.imul, 1) := by decide +kernel
theorem dX3_kindIn_8 : decode cX3_kindIn 8 = .ok (.iload_n 2, 1) := by decide +kernel
theorem dX3_kindIn_9 : decode cX3_kindIn 9 = .ok (.iadd, 1) := by decide +kernel
theorem dX3_kindIn_10 : decode cX3_kindIn 10 = .ok (.iaload, 1) := by decide +kernel
theorem dX3_kindIn_11 : decode cX3_kindIn 11 = .ok (.ireturn, 1) := by decide +kernel
theorem dX3_standardIn_0 : decode cX3_standardIn 0 = .ok (.aload_n 0, 1) := by decide +kernel
theorem dX3_standardIn_1 : decode cX3_standardIn 1 = .ok (.getfield 19, 3) := by decide +kernel
theorem dX3_standardIn_4 : decode cX3_standardIn 4 = .ok (.iload_n 1, 1) := by decide +kernel
theorem dX3_standardIn_5 : decode cX3_standardIn 5 = .ok (.bipush 8, 2) := by decide +kernel
theorem dX3_standardIn_7 : decode cX3_standardIn 7 = .ok (.imul, 1) := by decide +kernel
theorem dX3_standardIn_8 : decode cX3_standardIn 8 = .ok (.iload_n 2, 1) := by decide +kernel
theorem dX3_standardIn_9 : decode cX3_standardIn 9 = .ok (.iadd, 1) := by decide +kernel
theorem dX3_standardIn_10 : decode cX3_standardIn 10 = .ok (.iaload, 1) := by decide +kernel
theorem dX3_standardIn_11 : decode cX3_standardIn 11 = .ok (.ireturn, 1) := by decide +kernel
set_option maxRecDepth 20000 in
theorem ggX3_namesIn_X3_kindIn : GoodIn wsX3_namesIn wsX3_kindIn := goodIn_r _ [5, 6, 7, 8, 9, 10, 11, 12] (by decide +kernel) (by decide +kernel)
set_option maxRecDepth 20000 in
theorem gX3_namesIn_X3_kindIn : GoodIn wsX3_namesIn (wsV RX3 58 RX3 yX3_kindIn wsX3_kindIn) := goodIn_app (goodIn_of _ (by decide +kernel)) ggX3_namesIn_X3_kindIn
theorem dX3_namesIn_0 : decode cX3_namesIn 0 = .ok (.iconst 0, 1) := by decide +kernel
theorem dX3_namesIn_1 : decode cX3_namesIn 1 = .ok (.istore_n 2, 1) := by decide +kernel
theorem dX3_namesIn_2 : decode cX3_namesIn 2 = .ok (.iconst 0, 1) := by decide +kernel
theorem dX3_namesIn_3 : decode cX3_namesIn 3 = .ok (.istore_n 3, 1) := by decide +kernel
theorem dX3_namesIn_4 : decode cX3_namesIn 4 = .ok (.iload_n 3, 1) := by decide +kernel
theorem dX3_namesIn_5 : decode cX3_namesIn 5 = .ok (.bipush 8, 2) := by decide +kernel
theorem dX3_namesIn_7 : decode cX3_namesIn 7 = .ok (.if_icmp .ge 25, 3) := by decide +kernel
theorem dX3_namesIn_10 : decode cX3_namesIn 10 = .ok (.aload_n 0, 1) := by decide +kernel
theorem dX3_namesIn_11 : decode cX3_namesIn 11 = .ok (.iload_n 1, 1) := by decide +kernel
theorem dX3_namesIn_12 : decode cX3_namesIn 12 = .ok (.iload_n 3, 1) := by decide +kernel
theorem dX3_namesIn_13 : decode cX3_namesIn 13 = .ok (.invokevirtual 58, 3) := by decide +kernel
theorem dX3_namesIn_16 : decode cX3_namesIn 16 = .ok (.iconst (-1), 1) := by decide +kernel
theorem dX3_namesIn_17 : decode cX3_namesIn 17 = .ok (.if_icmp .eq 9, 3) := by decide +kernel
theorem dX3_namesIn_20 : decode cX3_namesIn 20 = .ok (.iload_n 2, 1) := by decide +kernel
theorem dX3_namesIn_21 : decode cX3_namesIn 21 = .ok (.iconst 1, 1) := by decide +kernel
theorem dX3_namesIn_22 : decode cX3_namesIn 22 = .ok (.iload_n 3, 1) := by decide +kernel
theorem dX3_namesIn_23 : decode cX3_namesIn 23 = .ok (.ishl, 1) := by decide +kernel
theorem dX3_namesIn_24 : decode cX3_namesIn 24 = .ok (.ior, 1) := by decide +kernel
theorem dX3_namesIn_25 : decode cX3_namesIn 25 = .ok (.istore_n 2, 1) := by decide +kernel
theorem dX3_namesIn_26 : decode cX3_namesIn 26 = .ok (.iinc 3 1, 3) := by decide +kernel
theorem dX3_namesIn_29 : decode cX3_namesIn 29 = .ok (.goto (-25), 3) := by decide +kernel
theorem dX3_namesIn_32 : decode cX3_namesIn 32 = .ok (.iload_n 2, 1) := by decide +kernel
theorem dX3_namesIn_33 : decode cX3_namesIn 33 = .ok (.ireturn, 1) := by decide +kernel
set_option maxRecDepth 20000 in
theorem ggX3_namesOfAllSeasons_X3_namesIn : GoodIn wsX3_namesOfAllSeasons wsX3_namesIn := goodIn_r _ [6, 7, 8, 9, 5, 10, 11, 12, 13, 14, 15, 16, 17] (by decide +kernel) (by decide +kernel)
set_option maxRecDepth 20000 in
theorem gX3_namesOfAllSeasons_X3_namesIn : GoodIn wsX3_namesOfAllSeasons (wsV RX3 96 RX3 yX3_namesIn wsX3_namesIn) := goodIn_app (goodIn_of _ (by decide +kernel)) ggX3_namesOfAllSeasons_X3_namesIn
theorem dX3_namesOfAllSeasons_0 : decode cX3_namesOfAllSeasons 0 = .ok (.iconst 0, 1) := by decide +kernel
theorem dX3_namesOfAllSeasons_1 : decode cX3_namesOfAllSeasons 1 = .ok (.istore_n 1, 1) := by decide +kernel
theorem dX3_namesOfAllSeasons_2 : decode cX3_namesOfAllSeasons 2 = .ok (.iconst 0, 1) := by decide +kernel
theorem dX3_namesOfAllSeasons_3 : decode cX3_namesOfAllSeasons 3 = .ok (.istore_n 2, 1) := by decide +kernel
theorem dX3_namesOfAllSeasons_4 : decode cX3_namesOfAllSeasons 4 = .ok (.iload_n 2, 1) := by decide +kernel
theorem dX3_namesOfAllSeasons_5 : decode cX3_namesOfAllSeasons 5 = .ok (.aload_n 0, 1) := by decide +kernel
theorem dX3_namesOfAllSeasons_6 : decode cX3_namesOfAllSeasons 6 = .ok (.getfield 9, 3) := by decide +kernel
theorem dX3_namesOfAllSeasons_9 : decode cX3_namesOfAllSeasons 9 = .ok (.if_icmp .ge 17, 3) := by decide +kernel
theorem dX3_namesOfAllSeasons_12 : decode cX3_namesOfAllSeasons 12 = .ok (.iload_n 1, 1) := by decide +kernel
theorem dX3_namesOfAllSeasons_13 : decode cX3_namesOfAllSeasons 13 = .ok (.aload_n 0, 1) := by decide +kernel
theorem dX3_namesOfAllSeasons_14 : decode cX3_namesOfAllSeasons 14 = .ok (.iload_n 2, 1) := by decide +kernel
theorem dX3_namesOfAllSeasons_15 : decode cX3_namesOfAllSeasons 15 = .ok (.invokevirtual 96, 3) := by decide +kernel
theorem dX3_namesOfAllSeasons_18 : decode cX3_namesOfAllSeasons 18 = .ok (.ior, 1) := by decide +kernel
theorem dX3_namesOfAllSeasons_19 : decode cX3_namesOfAllSeasons 19 = .ok (.istore_n 1, 1) := by decide +kernel
theorem dX3_namesOfAllSeasons_20 : decode cX3_namesOfAllSeasons 20 = .ok (.iinc 2 1, 3) := by decide +kernel
theorem dX3_namesOfAllSeasons_23 : decode cX3_namesOfAllSeasons 23 = .ok (.goto (-19), 3) := by decide +kernel
theorem dX3_namesOfAllSeasons_26 : decode cX3_namesOfAllSeasons 26 = .ok (.iload_n 1, 1) := by decide +kernel
theorem dX3_namesOfAllSeasons_27 : decode cX3_namesOfAllSeasons 27 = .ok (.ireturn, 1) := by decide +kernel
set_option maxRecDepth 20000 in
theorem ggX3_newColumnsIn_X3_kindIn : GoodIn wsX3_newColumnsIn wsX3_kindIn := goodIn_r _ [5, 6, 7, 8, 9, 10, 11, 12] (by decide +kernel) (by decide +kernel)
set_option maxRecDepth 20000 in
theorem gX3_newColumnsIn_X3_kindIn : GoodIn wsX3_newColumnsIn (wsV RX3 58 RX3 yX3_kindIn wsX3_kindIn) := goodIn_app (goodIn_of _ (by decide +kernel)) ggX3_newColumnsIn_X3_kindIn
theorem dX3_newColumnsIn_0 : decode cX3_newColumnsIn 0 = .ok (.iload_n 1, 1) := by decide +kernel
theorem dX3_newColumnsIn_1 : decode cX3_newColumnsIn 1 = .ok (.ifCond .ne 5, 3) := by decide +kernel
theorem dX3_newColumnsIn_4 : decode cX3_newColumnsIn 4 = .ok (.iconst 0, 1) := by decide +kernel
theorem dX3_newColumnsIn_5 : decode cX3_newColumnsIn 5 = .ok (.ireturn, 1) := by decide +kernel
theorem dX3_newColumnsIn_6 : decode cX3_newColumnsIn 6 = .ok (.iconst 0, 1) := by decide +kernel
theorem dX3_newColumnsIn_7 : decode cX3_newColumnsIn 7 = .ok (.istore_n 2, 1) := by decide +kernel
theorem dX3_newColumnsIn_8 : decode cX3_newColumnsIn 8 = .ok (.iconst 0, 1) := by decide +kernel
theorem dX3_newColumnsIn_9 : decode cX3_newColumnsIn 9 = .ok (.istore_n 3, 1) := by decide +kernel
theorem dX3_newColumnsIn_10 : decode cX3_newColumnsIn 10 = .ok (.iload_n 3, 1) := by decide +kernel
theorem dX3_newColumnsIn_11 : decode cX3_newColumnsIn 11 = .ok (.bipush 8, 2) := by decide +kernel
theorem dX3_newColumnsIn_13 : decode cX3_newColumnsIn 13 = .ok (.if_icmp .ge 39, 3) := by decide +kernel
theorem dX3_newColumnsIn_16 : decode cX3_newColumnsIn 16 = .ok (.aload_n 0, 1) := by decide +kernel
theorem dX3_newColumnsIn_17 : decode cX3_newColumnsIn 17 = .ok (.iload_n 1, 1) := by decide +kernel
theorem dX3_newColumnsIn_18 : decode cX3_newColumnsIn 18 = .ok (.iload_n 3, 1) := by decide +kernel
theorem dX3_newColumnsIn_19 : decode cX3_newColumnsIn 19 = .ok (.invokevirtual 58, 3) := by decide +kernel
theorem dX3_newColumnsIn_22 : decode cX3_newColumnsIn 22 = .ok (.istore 4, 2) := by decide +kernel
theorem dX3_newColumnsIn_24 : decode cX3_newColumnsIn 24 = .ok (.iload 4, 2) := by decide +kernel
theorem dX3_newColumnsIn_26 : decode cX3_newColumnsIn 26 = .ok (.iconst (-1), 1) := by decide +kernel
theorem dX3_newColumnsIn_27 : decode cX3_newColumnsIn 27 = .ok (.if_icmp .eq 19, 3) := by decide +kernel
theorem dX3_newColumnsIn_30 : decode cX3_newColumnsIn 30 = .ok (.iload 4, 2) := by decide +kernel
theorem dX3_newColumnsIn_32 : decode cX3_newColumnsIn 32 = .ok (.aload_n 0, 1) := by decide +kernel
theorem dX3_newColumnsIn_33 : decode cX3_newColumnsIn 33 = .ok (.iload_n 1, 1) := by decide +kernel
theorem dX3_newColumnsIn_34 : decode cX3_newColumnsIn 34 = .ok (.iconst 1, 1) := by decide +kernel
theorem dX3_newColumnsIn_35 : decode cX3_newColumnsIn 35 = .ok (.isub, 1) := by decide +kernel
theorem dX3_newColumnsIn_36 : decode cX3_newColumnsIn 36 = .ok (.iload_n 3, 1) := by decide +kernel
theorem dX3_newColumnsIn_37 : decode cX3_newColumnsIn 37 = .ok (.invokevirtual 58, 3) := by decide +kernel
theorem dX3_newColumnsIn_40 : decode cX3_newColumnsIn 40 = .ok (.if_icmp .eq 6, 3) := by decide +kernel
theorem dX3_newColumnsIn_43 : decode cX3_newColumnsIn 43 = .ok (.iinc 2 1, 3) := by decide +kernel
theorem dX3_newColumnsIn_46 : decode cX3_newColumnsIn 46 = .ok (.iinc 3 1, 3) := by decide +kernel
theorem dX3_newColumnsIn_49 : decode cX3_newColumnsIn 49 = .ok (.goto (-39), 3) := by decide +kernel
theorem dX3_newColumnsIn_52 : decode cX3_newColumnsIn 52 = .ok (.iload_n 2, 1) := by decide +kernel
theorem dX3_newColumnsIn_53 : decode cX3_newColumnsIn 53 = .ok (.ireturn, 1) := by decide +kernel
theorem dX3_rowsOfSeason_0 : decode cX3_rowsOfSeason 0 = .ok (.iconst 0, 1) := by decide +kernel
theorem dX3_rowsOfSeason_1 : decode cX3_rowsOfSeason 1 = .ok (.istore_n 2, 1) := by decide +kernel
theorem dX3_rowsOfSeason_2 : decode cX3_rowsOfSeason 2 = .ok (.iconst 0, 1) := by decide +kernel
theorem dX3_rowsOfSeason_3 : decode cX3_rowsOfSeason 3 = .ok (.istore_n 3, 1) := by decide +kernel
theorem dX3_rowsOfSeason_4 : decode cX3_rowsOfSeason 4 = .ok (.iload_n 3, 1) := by decide +kernel
theorem dX3_rowsOfSeason_5 : decode cX3_rowsOfSeason 5 = .ok (.aload_n 0, 1) := by decide +kernel
theorem dX3_rowsOfSeason_6 : decode cX3_rowsOfSeason 6 = .ok (.getfield 22, 3) := by decide +kernel
theorem dX3_rowsOfSeason_9 : decode cX3_rowsOfSeason 9 = .ok (.if_icmp .ge 22, 3) := by decide +kernel
theorem dX3_rowsOfSeason_12 : decode cX3_rowsOfSeason 12 = .ok (.aload_n 0, 1) := by decide +kernel
theorem dX3_rowsOfSeason_13 : decode cX3_rowsOfSeason 13 = .ok (.getfield 25, 3) := by decide +kernel
theorem dX3_rowsOfSeason_16 : decode cX3_rowsOfSeason 16 = .ok (.iload_n 3, 1) := by decide +kernel
theorem dX3_rowsOfSeason_17 : decode cX3_rowsOfSeason 17 = .ok (.iaload, 1) := by decide +kernel
theorem dX3_rowsOfSeason_18 : decode cX3_rowsOfSeason 18 = .ok (.iload_n 1, 1) := by decide +kernel
theorem dX3_rowsOfSeason_19 : decode cX3_rowsOfSeason 19 = .ok (.if_icmp .ne 6, 3) := by decide +kernel
theorem dX3_rowsOfSeason_22 : decode cX3_rowsOfSeason 22 = .ok (.iinc 2 1, 3) := by decide +kernel
theorem dX3_rowsOfSeason_25 : decode cX3_rowsOfSeason 25 = .ok (.iinc 3 1, 3) := by decide +kernel
theorem dX3_rowsOfSeason_28 : decode cX3_rowsOfSeason 28 = .ok (.goto (-24), 3) := by decide +kernel
theorem dX3_rowsOfSeason_31 : decode cX3_rowsOfSeason 31 = .ok (.iload_n 2, 1) := by decide +kernel
theorem dX3_rowsOfSeason_32 : decode cX3_rowsOfSeason 32 = .ok (.ireturn, 1) := by decide +kernel
theorem dX3_isRow_0 : decode cX3_isRow 0 = .ok (.iload_n 1, 1) := by decide +kernel
theorem dX3_isRow_1 : decode cX3_isRow 1 = .ok (.ifCond .lt 15, 3) := by decide +kernel
theorem dX3_isRow_4 : decode cX3_isRow 4 = .ok (.iload_n 1, 1) := by decide +kernel
theorem dX3_isRow_5 : decode cX3_isRow 5 = .ok (.aload_n 0, 1) := by decide +kernel
theorem dX3_isRow_6 : decode cX3_isRow 6 = .ok (.getfield 22, 3) := by decide +kernel
theorem dX3_isRow_9 : decode cX3_isRow 9 = .ok (.if_icmp .ge 7, 3) := by decide +kernel
theorem dX3_isRow_12 : decode cX3_isRow 12 = .ok (.iconst 1, 1) := by decide +kernel
theorem dX3_isRow_13 : decode cX3_isRow 13 = .ok (.goto 4, 3) := by decide +kernel
theorem dX3_isRow_16 : decode cX3_isRow 16 = .ok (.iconst 0, 1) := by decide +kernel
theorem dX3_isRow_17 : decode cX3_isRow 17 = .ok (.ireturn, 1) := by decide +kernel
theorem dX3_seasonOfRow_0 : decode cX3_seasonOfRow 0 = .ok (.aload_n 0, 1) := by decide +kernel
theorem dX3_seasonOfRow_1 : decode cX3_seasonOfRow 1 = .ok (.getfield 25, 3) := by decide +kernel
theorem dX3_seasonOfRow_4 : decode cX3_seasonOfRow 4 = .ok (.iload_n 1, 1) := by decide +kernel
theorem dX3_seasonOfRow_5 : decode cX3_seasonOfRow 5 = .ok (.iaload, 1) := by decide +kernel
theorem dX3_seasonOfRow_6 : decode cX3_seasonOfRow 6 = .ok (.ireturn, 1) := by decide +kernel
set_option maxRecDepth 20000 in
theorem ggX3_kindInRow_X3_kindIn : GoodIn wsX3_kindInRow wsX3_kindIn := goodIn_r _ [6, 7, 8, 9, 10, 11, 12, 13] (by decide +kernel) (by decide +kernel)
set_option maxRecDepth 20000 in
theorem gX3_kindInRow_X3_kindIn : GoodIn wsX3_kindInRow (wsV RX3 58 RX3 yX3_kindIn wsX3_kindIn) := goodIn_app (goodIn_of _ (by decide +kernel)) ggX3_kindInRow_X3_kindIn
theorem dX3_kindInRow_0 : decode cX3_kindInRow 0 = .ok (.aload_n 0, 1) := by decide +kernel
theorem dX3_kindInRow_1 : decode cX3_kindInRow 1 = .ok (.aload_n 0, 1) := by decide +kernel
theorem dX3_kindInRow_2 : decode cX3_kindInRow 2 = .ok (.getfield 25, 3) := by decide +kernel
theorem dX3_kindInRow_5 : decode cX3_kindInRow 5 = .ok (.iload_n 1, 1) := by decide +kernel
theorem dX3_kindInRow_6 : decode cX3_kindInRow 6 = .ok (.iaload, 1) := by decide +kernel
theorem dX3_kindInRow_7 : decode cX3_kindInRow 7 = .ok (.iload_n 2, 1) := by decide +kernel
theorem dX3_kindInRow_8 : decode cX3_kindInRow 8 = .ok (.invokevirtual 58, 3) := by decide +kernel
theorem dX3_kindInRow_11 : decode cX3_kindInRow 11 = .ok (.ireturn, 1) := by decide +kernel
theorem dX3_valueAt_0 : decode cX3_valueAt 0 = .ok (.aload_n 0, 1) := by decide +kernel
theorem dX3_valueAt_1 : decode cX3_valueAt 1 = .ok (.getfield 28, 3) := by decide +kernel
theorem dX3_valueAt_4 : decode cX3_valueAt 4 = .ok (.iload_n 1, 1) := by decide +kernel
theorem dX3_valueAt_5 : decode cX3_valueAt 5 = .ok (.bipush 8, 2) := by decide +kernel
theorem dX3_valueAt_7 : decode cX3_valueAt 7 = .ok (.imul, 1) := by decide +kernel
theorem dX3_valueAt_8 : decode cX3_valueAt 8 = .ok (.iload_n 2, 1) := by decide +kernel
theorem dX3_valueAt_9 : decode cX3_valueAt 9 = .ok (.iadd, 1) := by decide +kernel
theorem dX3_valueAt_10 : decode cX3_valueAt 10 = .ok (.iaload, 1) := by decide +kernel
theorem dX3_valueAt_11 : decode cX3_valueAt 11 = .ok (.ireturn, 1) := by decide +kernel
set_option maxRecDepth 20000 in
theorem ggX3_valuesOfAllRows_X3_namesIn : GoodIn wsX3_valuesOfAllRows wsX3_namesIn := goodIn_r _ [7, 8, 9, 10, 6, 11, 12, 20, 21, 22, 23, 24, 25] (by decide +kernel) (by decide +kernel)
set_option maxRecDepth 20000 in
theorem gX3_valuesOfAllRows_X3_namesIn : GoodIn wsX3_valuesOfAllRows (wsV RX3 96 RX3 yX3_namesIn wsX3_namesIn) := goodIn_app (goodIn_of _ (by decide +kernel)) ggX3_valuesOfAllRows_X3_namesIn
set_option maxRecDepth 20000 in
theorem ggX3_valuesOfAllRows_J6_bitCount_0f7a4 : GoodIn wsX3_valuesOfAllRows wsJ6_bitCount_0f7a4 := goodIn_r _ [16, 17, 18, 19] (by decide +kernel) (by decide +kernel)
set_option maxRecDepth 20000 in
theorem gX3_valuesOfAllRows_J6_bitCount_0f7a4 : GoodIn wsX3_valuesOfAllRows (va_wsS RX3 100 yJ6_bitCount_0f7a4 wsJ6_bitCount_0f7a4) := goodIn_app (goodIn_of _ (by decide +kernel)) ggX3_valuesOfAllRows_J6_bitCount_0f7a4
theorem dX3_valuesOfAllRows_0 : decode cX3_valuesOfAllRows 0 = .ok (.iconst 0, 1) := by decide +kernel
theorem dX3_valuesOfAllRows_1 : decode cX3_valuesOfAllRows 1 = .ok (.istore_n 1, 1) := by decide +kernel
theorem dX3_valuesOfAllRows_2 : decode cX3_valuesOfAllRows 2 = .ok (.iconst 0, 1) := by decide +kernel
theorem dX3_valuesOfAllRows_3 : decode cX3_valuesOfAllRows 3 = .ok (.istore_n 2, 1) := by decide +kernel
theorem dX3_valuesOfAllRows_4 : decode cX3_valuesOfAllRows 4 = .ok (.iload_n 2, 1) := by decide +kernel
theorem dX3_valuesOfAllRows_5 : decode cX3_valuesOfAllRows 5 = .ok (.aload_n 0, 1) := by decide +kernel
theorem dX3_valuesOfAllRows_6 : decode cX3_valuesOfAllRows 6 = .ok (.getfield 22, 3) := by decide +kernel
theorem dX3_valuesOfAllRows_9 : decode cX3_valuesOfAllRows 9 = .ok (.if_icmp .ge 25, 3) := by decide +kernel
theorem dX3_valuesOfAllRows_12 : decode cX3_valuesOfAllRows 12 = .ok (.iload_n 1, 1) := by decide +kernel
theorem dX3_valuesOfAllRows_13 : decode cX3_valuesOfAllRows 13 = .ok (.aload_n 0, 1) := by decide +kernel
theorem dX3_valuesOfAllRows_14 : decode cX3_valuesOfAllRows 14 = .ok (.aload_n 0, 1) := by decide +kernel
theorem dX3_valuesOfAllRows_15 : decode cX3_valuesOfAllRows 15 = .ok (.getfield 25, 3) := by decide +kernel
theorem dX3_valuesOfAllRows_18 : decode cX3_valuesOfAllRows 18 = .ok (.iload_n 2, 1) := by decide +kernel
theorem dX3_valuesOfAllRows_19 : decode cX3_valuesOfAllRows 19 = .ok (.iaload, 1) := by decide +kernel
theorem dX3_valuesOfAllRows_20 : decode cX3_valuesOfAllRows 20 = .ok (.invokevirtual 96, 3) := by decide +kernel
theorem dX3_valuesOfAllRows_23 : decode cX3_valuesOfAllRows 23 = .ok (.invokestatic 100, 3) := by decide +kernel
theorem dX3_valuesOfAllRows_26 : decode cX3_valuesOfAllRows 26 = .ok (.iadd, 1) := by decide +kernel
theorem dX3_valuesOfAllRows_27 : decode cX3_valuesOfAllRows 27 = .ok (.istore_n 1, 1) := by decide +kernel
theorem dX3_valuesOfAllRows_28 : decode cX3_valuesOfAllRows 28 = .ok (.iinc 2 1, 3) := by decide +kernel
theorem dX3_valuesOfAllRows_31 : decode cX3_valuesOfAllRows 31 = .ok (.goto (-27), 3) := by decide +kernel
theorem dX3_valuesOfAllRows_34 : decode cX3_valuesOfAllRows 34 = .ok (.iload_n 1, 1) := by decide +kernel
theorem dX3_valuesOfAllRows_35 : decode cX3_valuesOfAllRows 35 = .ok (.ireturn, 1) := by decide +kernel
set_option maxRecDepth 20000 in
theorem ggX3_readIn_X3_kindInRow : GoodIn wsX3_readIn wsX3_kindInRow := goodIn_r _ [5, 6, 7, 8, 9, 4, 10, 11, 38, 39, 40, 41, 42, 43] (by decide +kernel) (by decide +kernel)
set_option maxRecDepth 20000 in
theorem gX3_readIn_X3_kindInRow : GoodIn wsX3_readIn (wsV RX3 75 RX3 yX3_kindInRow wsX3_kindInRow) := goodIn_app (goodIn_of _ (by decide +kernel)) ggX3_readIn_X3_kindInRow
set_option maxRecDepth 20000 in
theorem ggX3_readIn_X3_standardIn : GoodIn wsX3_readIn wsX3_standardIn := goodIn_r _ [15, 16, 38, 39, 40, 41, 42, 43] (by decide +kernel) (by decide +kernel)
set_option maxRecDepth 20000 in
theorem gX3_readIn_X3_standardIn : GoodIn wsX3_readIn (wsV RX3 66 RX3 yX3_standardIn wsX3_standardIn) := goodIn_app (goodIn_of _ (by decide +kernel)) ggX3_readIn_X3_standardIn
set_option maxRecDepth 20000 in
theorem ggX3_readIn_X3_kindIn : GoodIn wsX3_readIn wsX3_kindIn := goodIn_r _ [10, 11, 38, 39, 40, 41, 42, 43] (by decide +kernel) (by decide +kernel)
set_option maxRecDepth 20000 in
theorem gX3_readIn_X3_kindIn : GoodIn wsX3_readIn (wsV RX3 58 RX3 yX3_kindIn wsX3_kindIn) := goodIn_app (goodIn_of _ (by decide +kernel)) ggX3_readIn_X3_kindIn
set_option maxRecDepth 20000 in
theorem ggX3_readIn_X3_valueAt : GoodIn wsX3_readIn wsX3_valueAt := goodIn_r _ [20, 21, 38, 39, 40, 41, 42, 43] (by decide +kernel) (by decide +kernel)
set_option maxRecDepth 20000 in
theorem gX3_readIn_X3_valueAt : GoodIn wsX3_readIn (wsV RX3 78 RX3 yX3_valueAt wsX3_valueAt) := goodIn_app (goodIn_of _ (by decide +kernel)) ggX3_readIn_X3_valueAt
set_option maxRecDepth 20000 in
theorem ggX3_readIn_X4_castTo : GoodIn wsX3_readIn wsX4_castTo := goodIn_r _ [24, 25, 26, 27, 28, 29, 30, 31, 32, 33, 23, 34, 35, 36, 37] (by decide +kernel) (by decide +kernel)
set_option maxRecDepth 20000 in
theorem gX3_readIn_X4_castTo_n69 : GoodIn wsX3_readIn (wsX4_castTo) := ggX3_readIn_X4_castTo
theorem dX3_readIn_0 : decode cX3_readIn 0 = .ok (.aload_n 0, 1) := by decide +kernel
theorem dX3_readIn_1 : decode cX3_readIn 1 = .ok (.iload_n 2, 1) := by decide +kernel
theorem dX3_readIn_2 : decode cX3_readIn 2 = .ok (.iload_n 3, 1) := by decide +kernel
theorem dX3_readIn_3 : decode cX3_readIn 3 = .ok (.invokevirtual 75, 3) := by decide +kernel
theorem dX3_readIn_6 : decode cX3_readIn 6 = .ok (.iconst (-1), 1) := by decide +kernel
theorem dX3_readIn_7 : decode cX3_readIn 7 = .ok (.if_icmp .ne 10, 3) := by decide +kernel
theorem dX3_readIn_10 : decode cX3_readIn 10 = .ok (.aload_n 0, 1) := by decide +kernel
theorem dX3_readIn_11 : decode cX3_readIn 11 = .ok (.iload_n 1, 1) := by decide +kernel
theorem dX3_readIn_12 : decode cX3_readIn 12 = .ok (.iload_n 3, 1) := by decide +kernel
theorem dX3_readIn_13 : decode cX3_readIn 13 = .ok (.invokevirtual 66, 3) := by decide +kernel
theorem dX3_readIn_16 : decode cX3_readIn 16 = .ok (.ireturn, 1) := by decide +kernel
theorem dX3_readIn_17 : decode cX3_readIn 17 = .ok (.aload_n 0, 1) := by decide +kernel
theorem dX3_readIn_18 : decode cX3_readIn 18 = .ok (.iload_n 1, 1) := by decide +kernel
theorem dX3_readIn_19 : decode cX3_readIn 19 = .ok (.iload_n 3, 1) := by decide +kernel
theorem dX3_readIn_20 : decode cX3_readIn 20 = .ok (.invokevirtual 58, 3) := by decide +kernel
theorem dX3_readIn_23 : decode cX3_readIn 23 = .ok (.aload_n 0, 1) := by decide +kernel
theorem dX3_readIn_24 : decode cX3_readIn 24 = .ok (.iload_n 2, 1) := by decide +kernel
theorem dX3_readIn_25 : decode cX3_readIn 25 = .ok (.iload_n 3, 1) := by decide +kernel
theorem dX3_readIn_26 : decode cX3_readIn 26 = .ok (.invokevirtual 78, 3) := by decide +kernel
theorem dX3_readIn_29 : decode cX3_readIn 29 = .ok (.invokestatic 69, 3) := by decide +kernel
theorem dX3_readIn_32 : decode cX3_readIn 32 = .ok (.ireturn, 1) := by decide +kernel
set_option maxRecDepth 20000 in
theorem ggX3_howReadIn_X3_kindInRow : GoodIn wsX3_howReadIn wsX3_kindInRow := goodIn_r _ [5, 6, 7, 8, 9, 4, 10, 11, 36, 37, 38, 39, 40, 41] (by decide +kernel) (by decide +kernel)
set_option maxRecDepth 20000 in
theorem gX3_howReadIn_X3_kindInRow : GoodIn wsX3_howReadIn (wsV RX3 75 RX3 yX3_kindInRow wsX3_kindInRow) := goodIn_app (goodIn_of _ (by decide +kernel)) ggX3_howReadIn_X3_kindInRow
set_option maxRecDepth 20000 in
theorem ggX3_howReadIn_X3_kindIn : GoodIn wsX3_howReadIn wsX3_kindIn := goodIn_r _ [10, 11, 36, 37, 38, 39, 40, 41] (by decide +kernel) (by decide +kernel)
set_option maxRecDepth 20000 in
theorem gX3_howReadIn_X3_kindIn : GoodIn wsX3_howReadIn (wsV RX3 58 RX3 yX3_kindIn wsX3_kindIn) := goodIn_app (goodIn_of _ (by decide +kernel)) ggX3_howReadIn_X3_kindIn
set_option maxRecDepth 20000 in
theorem ggX3_howReadIn_X3_valueAt : GoodIn wsX3_howReadIn wsX3_valueAt := goodIn_r _ [15, 16, 36, 37, 38, 39, 40, 41] (by decide +kernel) (by decide +kernel)
set_option maxRecDepth 20000 in
theorem gX3_howReadIn_X3_valueAt : GoodIn wsX3_howReadIn (wsV RX3 78 RX3 yX3_valueAt wsX3_valueAt) := goodIn_app (goodIn_of _ (by decide +kernel)) ggX3_howReadIn_X3_valueAt
set_option maxRecDepth 20000 in
theorem ggX3_howReadIn_X4_castLoses : GoodIn wsX3_howReadIn wsX4_castLoses := goodIn_r _ [19, 20, 21, 18, 22, 23, 24, 25, 26, 27, 28, 29, 30, 31, 32, 33, 34, 35] (by decide +kernel) (by decide +kernel)
set_option maxRecDepth 20000 in
theorem gX3_howReadIn_X4_castLoses_n105 : GoodIn wsX3_howReadIn (wsX4_castLoses) := ggX3_howReadIn_X4_castLoses
theorem dX3_howReadIn_0 : decode cX3_howReadIn 0 = .ok (.aload_n 0, 1) := by decide +kernel
theorem dX3_howReadIn_1 : decode cX3_howReadIn 1 = .ok (.iload_n 2, 1) := by decide +kernel
theorem dX3_howReadIn_2 : decode cX3_howReadIn 2 = .ok (.iload_n 3, 1) := by decide +kernel
theorem dX3_howReadIn_3 : decode cX3_howReadIn 3 = .ok (.invokevirtual 75, 3) := by decide +kernel
theorem dX3_howReadIn_6 : decode cX3_howReadIn 6 = .ok (.istore 4, 2) := by decide +kernel
theorem dX3_howReadIn_8 : decode cX3_howReadIn 8 = .ok (.aload_n 0, 1) := by decide +kernel
theorem dX3_howReadIn_9 : decode cX3_howReadIn 9 = .ok (.iload_n 1, 1) := by decide +kernel
theorem dX3_howReadIn_10 : decode cX3_howReadIn 10 = .ok (.iload_n 3, 1) := by decide +kernel
theorem dX3_howReadIn_11 : decode cX3_howReadIn 11 = .ok (.invokevirtual 58, 3) := by decide +kernel
theorem dX3_howReadIn_14 : decode cX3_howReadIn 14 = .ok (.istore 5, 2) := by decide +kernel
theorem dX3_howReadIn_16 : decode cX3_howReadIn 16 = .ok (.iload 4, 2) := by decide +kernel
theorem dX3_howReadIn_18 : decode cX3_howReadIn 18 = .ok (.iconst (-1), 1) := by decide +kernel
theorem dX3_howReadIn_19 : decode cX3_howReadIn 19 = .ok (.if_icmp .ne 5, 3) := by decide +kernel
theorem dX3_howReadIn_22 : decode cX3_howReadIn 22 = .ok (.iconst 3, 1) := by decide +kernel
theorem dX3_howReadIn_23 : decode cX3_howReadIn 23 = .ok (.ireturn, 1) := by decide +kernel
theorem dX3_howReadIn_24 : decode cX3_howReadIn 24 = .ok (.iload 4, 2) := by decide +kernel
theorem dX3_howReadIn_26 : decode cX3_howReadIn 26 = .ok (.iload 5, 2) := by decide +kernel
theorem dX3_howReadIn_28 : decode cX3_howReadIn 28 = .ok (.if_icmp .ne 5, 3) := by decide +kernel
theorem dX3_howReadIn_31 : decode cX3_howReadIn 31 = .ok (.iconst 0, 1) := by decide +kernel
theorem dX3_howReadIn_32 : decode cX3_howReadIn 32 = .ok (.ireturn, 1) := by decide +kernel
theorem dX3_howReadIn_33 : decode cX3_howReadIn 33 = .ok (.aload_n 0, 1) := by decide +kernel
theorem dX3_howReadIn_34 : decode cX3_howReadIn 34 = .ok (.iload_n 2, 1) := by decide +kernel
theorem dX3_howReadIn_35 : decode cX3_howReadIn 35 = .ok (.iload_n 3, 1) := by decide +kernel
theorem dX3_howReadIn_36 : decode cX3_howReadIn 36 = .ok (.invokevirtual 78, 3) := by decide +kernel
theorem dX3_howReadIn_39 : decode cX3_howReadIn 39 = .ok (.iload 4, 2) := by decide +kernel
theorem dX3_howReadIn_41 : decode cX3_howReadIn 41 = .ok (.iload 5, 2) := by decide +kernel
theorem dX3_howReadIn_43 : decode cX3_howReadIn 43 = .ok (.invokestatic 105, 3) := by decide +kernel
theorem dX3_howReadIn_46 : decode cX3_howReadIn 46 = .ok (.ifCond .eq 7, 3) := by decide +kernel
theorem dX3_howReadIn_49 : decode cX3_howReadIn 49 = .ok (.iconst 2, 1) := by decide +kernel
theorem dX3_howReadIn_50 : decode cX3_howReadIn 50 = .ok (.goto 4, 3) := by decide +kernel
theorem dX3_howReadIn_53 : decode cX3_howReadIn 53 = .ok (.iconst 1, 1) := by decide +kernel
theorem dX3_howReadIn_54 : decode cX3_howReadIn 54 = .ok (.ireturn, 1) := by decide +kernel
set_option maxRecDepth 20000 in
theorem ggX3_lossesOfRowIn_X3_kindInRow : GoodIn wsX3_lossesOfRowIn wsX3_kindInRow := goodIn_r _ [5, 6, 7, 8, 9, 4, 10, 11, 36, 37, 38, 39, 40, 41] (by decide +kernel) (by decide +kernel)
set_option maxRecDepth 20000 in
theorem gX3_lossesOfRowIn_X3_kindInRow : GoodIn wsX3_lossesOfRowIn (wsV RX3 75 RX3 yX3_kindInRow wsX3_kindInRow) := goodIn_app (goodIn_of _ (by decide +kernel)) ggX3_lossesOfRowIn_X3_kindInRow
set_option maxRecDepth 20000 in
theorem ggX3_lossesOfRowIn_X3_kindIn : GoodIn wsX3_lossesOfRowIn wsX3_kindIn := goodIn_r _ [10, 11, 36, 37, 38, 39, 40, 41] (by decide +kernel) (by decide +kernel)
set_option maxRecDepth 20000 in
theorem gX3_lossesOfRowIn_X3_kindIn : GoodIn wsX3_lossesOfRowIn (wsV RX3 58 RX3 yX3_kindIn wsX3_kindIn) := goodIn_app (goodIn_of _ (by decide +kernel)) ggX3_lossesOfRowIn_X3_kindIn
set_option maxRecDepth 20000 in
theorem ggX3_lossesOfRowIn_X3_valueAt : GoodIn wsX3_lossesOfRowIn wsX3_valueAt := goodIn_r _ [15, 16, 36, 37, 38, 39, 40, 41] (by decide +kernel) (by decide +kernel)
set_option maxRecDepth 20000 in
theorem gX3_lossesOfRowIn_X3_valueAt : GoodIn wsX3_lossesOfRowIn (wsV RX3 78 RX3 yX3_valueAt wsX3_valueAt) := goodIn_app (goodIn_of _ (by decide +kernel)) ggX3_lossesOfRowIn_X3_valueAt
set_option maxRecDepth 20000 in
theorem ggX3_lossesOfRowIn_X4_castLoses : GoodIn wsX3_lossesOfRowIn wsX4_castLoses := goodIn_r _ [19, 20, 21, 18, 22, 23, 24, 25, 26, 27, 28, 29, 30, 31, 32, 33, 34, 35] (by decide +kernel) (by decide +kernel)
set_option maxRecDepth 20000 in
theorem gX3_lossesOfRowIn_X4_castLoses_n105 : GoodIn wsX3_lossesOfRowIn (wsX4_castLoses) := ggX3_lossesOfRowIn_X4_castLoses
theorem dX3_lossesOfRowIn_0 : decode cX3_lossesOfRowIn 0 = .ok (.iconst 0, 1) := by decide +kernel
theorem dX3_lossesOfRowIn_1 : decode cX3_lossesOfRowIn 1 = .ok (.istore_n 3, 1) := by decide +kernel
theorem dX3_lossesOfRowIn_2 : decode cX3_lossesOfRowIn 2 = .ok (.iconst 0, 1) := by decide +kernel
theorem dX3_lossesOfRowIn_3 : decode cX3_lossesOfRowIn 3 = .ok (.istore 4, 2) := by decide +kernel
theorem dX3_lossesOfRowIn_5 : decode cX3_lossesOfRowIn 5 = .ok (.iload 4, 2) := by decide +kernel
theorem dX3_lossesOfRowIn_7 : decode cX3_lossesOfRowIn 7 = .ok (.bipush 8, 2) := by decide +kernel
theorem dX3_lossesOfRowIn_9 : decode cX3_lossesOfRowIn 9 = .ok (.if_icmp .ge 59, 3) := by decide +kernel
theorem dX3_lossesOfRowIn_12 : decode cX3_lossesOfRowIn 12 = .ok (.aload_n 0, 1) := by decide +kernel
theorem dX3_lossesOfRowIn_13 : decode cX3_lossesOfRowIn 13 = .ok (.iload_n 2, 1) := by decide +kernel
theorem dX3_lossesOfRowIn_14 : decode cX3_lossesOfRowIn 14 = .ok (.iload 4, 2) := by decide +kernel
theorem dX3_lossesOfRowIn_16 : decode cX3_lossesOfRowIn 16 = .ok (.invokevirtual 75, 3) := by decide +kernel
theorem dX3_lossesOfRowIn_19 : decode cX3_lossesOfRowIn 19 = .ok (.istore 5, 2) := by decide +kernel
theorem dX3_lossesOfRowIn_21 : decode cX3_lossesOfRowIn 21 = .ok (.aload_n 0, 1) := by decide +kernel
theorem dX3_lossesOfRowIn_22 : decode cX3_lossesOfRowIn 22 = .ok (.iload_n 1, 1) := by decide +kernel
theorem dX3_lossesOfRowIn_23 : decode cX3_lossesOfRowIn 23 = .ok (.iload 4, 2) := by decide +kernel
theorem dX3_lossesOfRowIn_25 : decode cX3_lossesOfRowIn 25 = .ok (.invokevirtual 58, 3) := by decide +kernel
theorem dX3_lossesOfRowIn_28 : decode cX3_lossesOfRowIn 28 = .ok (.istore 6, 2) := by decide +kernel
theorem dX3_lossesOfRowIn_30 : decode cX3_lossesOfRowIn 30 = .ok (.iload 5, 2) := by decide +kernel
theorem dX3_lossesOfRowIn_32 : decode cX3_lossesOfRowIn 32 = .ok (.iconst (-1), 1) := by decide +kernel
theorem dX3_lossesOfRowIn_33 : decode cX3_lossesOfRowIn 33 = .ok (.if_icmp .eq 29, 3) := by decide +kernel
theorem dX3_lossesOfRowIn_36 : decode cX3_lossesOfRowIn 36 = .ok (.iload 6, 2) := by decide +kernel
theorem dX3_lossesOfRowIn_38 : decode cX3_lossesOfRowIn 38 = .ok (.iconst (-1), 1) := by decide +kernel
theorem dX3_lossesOfRowIn_39 : decode cX3_lossesOfRowIn 39 = .ok (.if_icmp .eq 20, 3) := by decide +kernel
theorem dX3_lossesOfRowIn_42 : decode cX3_lossesOfRowIn 42 = .ok (.aload_n 0, 1) := by decide +kernel
theorem dX3_lossesOfRowIn_43 : decode cX3_lossesOfRowIn 43 = .ok (.iload_n 2, 1) := by decide +kernel
theorem dX3_lossesOfRowIn_44 : decode cX3_lossesOfRowIn 44 = .ok (.iload 4, 2) := by decide +kernel
theorem dX3_lossesOfRowIn_46 : decode cX3_lossesOfRowIn 46 = .ok (.invokevirtual 78, 3) := by decide +kernel
theorem dX3_lossesOfRowIn_49 : decode cX3_lossesOfRowIn 49 = .ok (.iload 5, 2) := by decide +kernel
theorem dX3_lossesOfRowIn_51 : decode cX3_lossesOfRowIn 51 = .ok (.iload 6, 2) := by decide +kernel
theorem dX3_lossesOfRowIn_53 : decode cX3_lossesOfRowIn 53 = .ok (.invokestatic 105, 3) := by decide +kernel
theorem dX3_lossesOfRowIn_56 : decode cX3_lossesOfRowIn 56 = .ok (.ifCond .eq 6, 3) := by decide +kernel
theorem dX3_lossesOfRowIn_59 : decode cX3_lossesOfRowIn 59 = .ok (.iinc 3 1, 3) := by decide +kernel
theorem dX3_lossesOfRowIn_62 : decode cX3_lossesOfRowIn 62 = .ok (.iinc 4 1, 3) := by decide +kernel
theorem dX3_lossesOfRowIn_65 : decode cX3_lossesOfRowIn 65 = .ok (.goto (-60), 3) := by decide +kernel
theorem dX3_lossesOfRowIn_68 : decode cX3_lossesOfRowIn 68 = .ok (.iload_n 3, 1) := by decide +kernel
theorem dX3_lossesOfRowIn_69 : decode cX3_lossesOfRowIn 69 = .ok (.ireturn, 1) := by decide +kernel
set_option maxRecDepth 20000 in
theorem ggX3_lossesIn_X3_lossesOfRowIn : GoodIn wsX3_lossesIn wsX3_lossesOfRowIn := goodIn_r _ [6, 7, 8, 9, 5, 10, 11, 12, 13, 14, 15, 16, 17, 18, 19, 20, 21, 22, 23, 24, 25, 26, 27, 28, 29, 30, 31, 32, 33, 34, 35, 36, 37, 38, 39, 40, 41, 42, 43, 44, 45, 46] (by decide +kernel) (by decide +kernel)
set_option maxRecDepth 20000 in
theorem gX3_lossesIn_X3_lossesOfRowIn : GoodIn wsX3_lossesIn (wsV RX3 81 RX3 yX3_lossesOfRowIn wsX3_lossesOfRowIn) := goodIn_app (goodIn_of _ (by decide +kernel)) ggX3_lossesIn_X3_lossesOfRowIn
theorem dX3_lossesIn_0 : decode cX3_lossesIn 0 = .ok (.iconst 0, 1) := by decide +kernel
theorem dX3_lossesIn_1 : decode cX3_lossesIn 1 = .ok (.istore_n 2, 1) := by decide +kernel
theorem dX3_lossesIn_2 : decode cX3_lossesIn 2 = .ok (.iconst 0, 1) := by decide +kernel
theorem dX3_lossesIn_3 : decode cX3_lossesIn 3 = .ok (.istore_n 3, 1) := by decide +kernel
theorem dX3_lossesIn_4 : decode cX3_lossesIn 4 = .ok (.iload_n 3, 1) := by decide +kernel
theorem dX3_lossesIn_5 : decode cX3_lossesIn 5 = .ok (.aload_n 0, 1) := by decide +kernel
theorem dX3_lossesIn_6 : decode cX3_lossesIn 6 = .ok (.getfield 22, 3) := by decide +kernel
theorem dX3_lossesIn_9 : decode cX3_lossesIn 9 = .ok (.if_icmp .ge 18, 3) := by decide +kernel
theorem dX3_lossesIn_12 : decode cX3_lossesIn 12 = .ok (.iload_n 2, 1) := by decide +kernel
theorem dX3_lossesIn_13 : decode cX3_lossesIn 13 = .ok (.aload_n 0, 1) := by decide +kernel
theorem dX3_lossesIn_14 : decode cX3_lossesIn 14 = .ok (.iload_n 1, 1) := by decide +kernel
theorem dX3_lossesIn_15 : decode cX3_lossesIn 15 = .ok (.iload_n 3, 1) := by decide +kernel
theorem dX3_lossesIn_16 : decode cX3_lossesIn 16 = .ok (.invokevirtual 81, 3) := by decide +kernel
theorem dX3_lossesIn_19 : decode cX3_lossesIn 19 = .ok (.iadd, 1) := by decide +kernel
theorem dX3_lossesIn_20 : decode cX3_lossesIn 20 = .ok (.istore_n 2, 1) := by decide +kernel
theorem dX3_lossesIn_21 : decode cX3_lossesIn 21 = .ok (.iinc 3 1, 3) := by decide +kernel
theorem dX3_lossesIn_24 : decode cX3_lossesIn 24 = .ok (.goto (-20), 3) := by decide +kernel
theorem dX3_lossesIn_27 : decode cX3_lossesIn 27 = .ok (.iload_n 2, 1) := by decide +kernel
theorem dX3_lossesIn_28 : decode cX3_lossesIn 28 = .ok (.ireturn, 1) := by decide +kernel
set_option maxRecDepth 20000 in
theorem ggX3_seasonOfFewestLosses_X3_now : GoodIn wsX3_seasonOfFewestLosses wsX3_now := goodIn_r _ [5, 6, 50, 51, 52, 53, 54, 55] (by decide +kernel) (by decide +kernel)
set_option maxRecDepth 20000 in
theorem gX3_seasonOfFewestLosses_X3_now : GoodIn wsX3_seasonOfFewestLosses (wsV RX3 54 RX3 yX3_now wsX3_now) := goodIn_app (goodIn_of _ (by decide +kernel)) ggX3_seasonOfFewestLosses_X3_now
set_option maxRecDepth 20000 in
theorem ggX3_seasonOfFewestLosses_X3_lossesIn : GoodIn wsX3_seasonOfFewestLosses wsX3_lossesIn := goodIn_r _ [10, 11, 12, 13, 14, 4, 15, 16, 17, 18, 19, 20, 21, 22, 23, 24, 25, 26, 27, 28, 29, 30, 31, 32, 33, 34, 35, 36, 37, 38, 39, 40, 41, 42, 43, 44, 45, 46, 47, 48, 49, 50, 51, 52, 53, 54, 55] (by decide +kernel) (by decide +kernel)
set_option maxRecDepth 20000 in
theorem gX3_seasonOfFewestLosses_X3_lossesIn : GoodIn wsX3_seasonOfFewestLosses (wsV RX3 109 RX3 yX3_lossesIn wsX3_lossesIn) := goodIn_app (goodIn_of _ (by decide +kernel)) ggX3_seasonOfFewestLosses_X3_lossesIn
theorem dX3_seasonOfFewestLosses_0 : decode cX3_seasonOfFewestLosses 0 = .ok (.aload_n 0, 1) := by decide +kernel
theorem dX3_seasonOfFewestLosses_1 : decode cX3_seasonOfFewestLosses 1 = .ok (.invokevirtual 54, 3) := by decide +kernel
theorem dX3_seasonOfFewestLosses_4 : decode cX3_seasonOfFewestLosses 4 = .ok (.istore_n 1, 1) := by decide +kernel
theorem dX3_seasonOfFewestLosses_5 : decode cX3_seasonOfFewestLosses 5 = .ok (.aload_n 0, 1) := by decide +kernel
theorem dX3_seasonOfFewestLosses_6 : decode cX3_seasonOfFewestLosses 6 = .ok (.iload_n 1, 1) := by decide +kernel
theorem dX3_seasonOfFewestLosses_7 : decode cX3_seasonOfFewestLosses 7 = .ok (.invokevirtual 109, 3) := by decide +kernel
theorem dX3_seasonOfFewestLosses_10 : decode cX3_seasonOfFewestLosses 10 = .ok (.istore_n 2, 1) := by decide +kernel
theorem dX3_seasonOfFewestLosses_11 : decode cX3_seasonOfFewestLosses 11 = .ok (.iload_n 1, 1) := by decide +kernel
theorem dX3_seasonOfFewestLosses_12 : decode cX3_seasonOfFewestLosses 12 = .ok (.iconst 1, 1) := by decide +kernel
theorem dX3_seasonOfFewestLosses_13 : decode cX3_seasonOfFewestLosses 13 = .ok (.isub, 1) := by decide +kernel
theorem dX3_seasonOfFewestLosses_14 : decode cX3_seasonOfFewestLosses 14 = .ok (.istore_n 3, 1) := by decide +kernel
theorem dX3_seasonOfFewestLosses_15 : decode cX3_seasonOfFewestLosses 15 = .ok (.iload_n 3, 1) := by decide +kernel
theorem dX3_seasonOfFewestLosses_16 : decode cX3_seasonOfFewestLosses 16 = .ok (.ifCond .lt 27, 3) := by decide +kernel
theorem dX3_seasonOfFewestLosses_19 : decode cX3_seasonOfFewestLosses 19 = .ok (.aload_n 0, 1) := by decide +kernel
theorem dX3_seasonOfFewestLosses_20 : decode cX3_seasonOfFewestLosses 20 = .ok (.iload_n 3, 1) := by decide +kernel
theorem dX3_seasonOfFewestLosses_21 : decode cX3_seasonOfFewestLosses 21 = .ok (.invokevirtual 109, 3) := by decide +kernel
theorem dX3_seasonOfFewestLosses_24 : decode cX3_seasonOfFewestLosses 24 = .ok (.istore 4, 2) := by decide +kernel
theorem dX3_seasonOfFewestLosses_26 : decode cX3_seasonOfFewestLosses 26 = .ok (.iload 4, 2) := by decide +kernel
theorem dX3_seasonOfFewestLosses_28 : decode cX3_seasonOfFewestLosses 28 = .ok (.iload_n 2, 1) := by decide +kernel
theorem dX3_seasonOfFewestLosses_29 : decode cX3_seasonOfFewestLosses 29 = .ok (.if_icmp .ge 8, 3) := by decide +kernel
theorem dX3_seasonOfFewestLosses_32 : decode cX3_seasonOfFewestLosses 32 = .ok (.iload_n 3, 1) := by decide +kernel
theorem dX3_seasonOfFewestLosses_33 : decode cX3_seasonOfFewestLosses 33 = .ok (.istore_n 1, 1) := by decide +kernel
theorem dX3_seasonOfFewestLosses_34 : decode cX3_seasonOfFewestLosses 34 = .ok (.iload 4, 2) := by decide +kernel
theorem dX3_seasonOfFewestLosses_36 : decode cX3_seasonOfFewestLosses 36 = .ok (.istore_n 2, 1) := by decide +kernel
theorem dX3_seasonOfFewestLosses_37 : decode cX3_seasonOfFewestLosses 37 = .ok (.iinc 3 (-1), 3) := by decide +kernel
theorem dX3_seasonOfFewestLosses_40 : decode cX3_seasonOfFewestLosses 40 = .ok (.goto (-25), 3) := by decide +kernel
theorem dX3_seasonOfFewestLosses_43 : decode cX3_seasonOfFewestLosses 43 = .ok (.iload_n 1, 1) := by decide +kernel
theorem dX3_seasonOfFewestLosses_44 : decode cX3_seasonOfFewestLosses 44 = .ok (.ireturn, 1) := by decide +kernel
set_option maxRecDepth 20000 in
theorem ggX3_sharedNames_X3_namesIn : GoodIn wsX3_sharedNames wsX3_namesIn := goodIn_r _ [6, 7, 8, 9, 5, 10, 11, 12, 13, 14, 15, 16, 17] (by decide +kernel) (by decide +kernel)
set_option maxRecDepth 20000 in
theorem gX3_sharedNames_X3_namesIn : GoodIn wsX3_sharedNames (wsV RX3 96 RX3 yX3_namesIn wsX3_namesIn) := goodIn_app (goodIn_of _ (by decide +kernel)) ggX3_sharedNames_X3_namesIn
theorem dX3_sharedNames_0 : decode cX3_sharedNames 0 = .ok (.iload_n 2, 1) := by decide +kernel
theorem dX3_sharedNames_1 : decode cX3_sharedNames 1 = .ok (.iload_n 1, 1) := by decide +kernel
theorem dX3_sharedNames_2 : decode cX3_sharedNames 2 = .ok (.if_icmp .ge 5, 3) := by decide +kernel
theorem dX3_sharedNames_5 : decode cX3_sharedNames 5 = .ok (.iconst 0, 1) := by decide +kernel
theorem dX3_sharedNames_6 : decode cX3_sharedNames 6 = .ok (.ireturn, 1) := by decide +kernel
theorem dX3_sharedNames_7 : decode cX3_sharedNames 7 = .ok (.aload_n 0, 1) := by decide +kernel
theorem dX3_sharedNames_8 : decode cX3_sharedNames 8 = .ok (.aload_n 0, 1) := by decide +kernel
theorem dX3_sharedNames_9 : decode cX3_sharedNames 9 = .ok (.getfield 25, 3) := by decide +kernel
theorem dX3_sharedNames_12 : decode cX3_sharedNames 12 = .ok (.iload_n 1, 1) := by decide +kernel
theorem dX3_sharedNames_13 : decode cX3_sharedNames 13 = .ok (.iaload, 1) := by decide +kernel
theorem dX3_sharedNames_14 : decode cX3_sharedNames 14 = .ok (.invokevirtual 96, 3) := by decide +kernel
theorem dX3_sharedNames_17 : decode cX3_sharedNames 17 = .ok (.istore_n 3, 1) := by decide +kernel
theorem dX3_sharedNames_18 : decode cX3_sharedNames 18 = .ok (.iload_n 1, 1) := by decide +kernel
theorem dX3_sharedNames_19 : decode cX3_sharedNames 19 = .ok (.iconst 1, 1) := by decide +kernel
theorem dX3_sharedNames_20 : decode cX3_sharedNames 20 = .ok (.iadd, 1) := by decide +kernel
theorem dX3_sharedNames_21 : decode cX3_sharedNames 21 = .ok (.istore 4, 2) := by decide +kernel
theorem dX3_sharedNames_23 : decode cX3_sharedNames 23 = .ok (.iload 4, 2) := by decide +kernel
theorem dX3_sharedNames_25 : decode cX3_sharedNames 25 = .ok (.iload_n 2, 1) := by decide +kernel
theorem dX3_sharedNames_26 : decode cX3_sharedNames 26 = .ok (.if_icmp .gt 23, 3) := by decide +kernel
theorem dX3_sharedNames_29 : decode cX3_sharedNames 29 = .ok (.iload_n 3, 1) := by decide +kernel
theorem dX3_sharedNames_30 : decode cX3_sharedNames 30 = .ok (.aload_n 0, 1) := by decide +kernel
theorem dX3_sharedNames_31 : decode cX3_sharedNames 31 = .ok (.aload_n 0, 1) := by decide +kernel
theorem dX3_sharedNames_32 : decode cX3_sharedNames 32 = .ok (.getfield 25, 3) := by decide +kernel
theorem dX3_sharedNames_35 : decode cX3_sharedNames 35 = .ok (.iload 4, 2) := by decide +kernel
theorem dX3_sharedNames_37 : decode cX3_sharedNames 37 = .ok (.iaload, 1) := by decide +kernel
theorem dX3_sharedNames_38 : decode cX3_sharedNames 38 = .ok (.invokevirtual 96, 3) := by decide +kernel
theorem dX3_sharedNames_41 : decode cX3_sharedNames 41 = .ok (.iand, 1) := by decide +kernel
theorem dX3_sharedNames_42 : decode cX3_sharedNames 42 = .ok (.istore_n 3, 1) := by decide +kernel
theorem dX3_sharedNames_43 : decode cX3_sharedNames 43 = .ok (.iinc 4 1, 3) := by decide +kernel
theorem dX3_sharedNames_46 : decode cX3_sharedNames 46 = .ok (.goto (-23), 3) := by decide +kernel
theorem dX3_sharedNames_49 : decode cX3_sharedNames 49 = .ok (.iload_n 3, 1) := by decide +kernel
theorem dX3_sharedNames_50 : decode cX3_sharedNames 50 = .ok (.ireturn, 1) := by decide +kernel
set_option maxRecDepth 20000 in
theorem ggX3_defaultsInView_X3_sharedNames : GoodIn wsX3_defaultsInView wsX3_sharedNames := goodIn_r _ [5, 6, 7, 8, 9, 4, 10, 11, 12, 13, 14, 15, 34, 35, 36, 37, 38, 39] (by decide +kernel) (by decide +kernel)
set_option maxRecDepth 20000 in
theorem gX3_defaultsInView_X3_sharedNames : GoodIn wsX3_defaultsInView (wsV RX3 112 RX3 yX3_sharedNames wsX3_sharedNames) := goodIn_app (goodIn_of _ (by decide +kernel)) ggX3_defaultsInView_X3_sharedNames
set_option maxRecDepth 20000 in
theorem ggX3_defaultsInView_X3_now : GoodIn wsX3_defaultsInView wsX3_now := goodIn_r _ [19, 20, 34, 35, 36, 37, 38, 39] (by decide +kernel) (by decide +kernel)
set_option maxRecDepth 20000 in
theorem gX3_defaultsInView_X3_now : GoodIn wsX3_defaultsInView (wsV RX3 54 RX3 yX3_now wsX3_now) := goodIn_app (goodIn_of _ (by decide +kernel)) ggX3_defaultsInView_X3_now
set_option maxRecDepth 20000 in
theorem ggX3_defaultsInView_X3_namesIn : GoodIn wsX3_defaultsInView wsX3_namesIn := goodIn_r _ [10, 11, 12, 13, 4, 14, 15, 34, 35, 36, 37, 38, 39] (by decide +kernel) (by decide +kernel)
set_option maxRecDepth 20000 in
theorem gX3_defaultsInView_X3_namesIn : GoodIn wsX3_defaultsInView (wsV RX3 96 RX3 yX3_namesIn wsX3_namesIn) := goodIn_app (goodIn_of _ (by decide +kernel)) ggX3_defaultsInView_X3_namesIn
set_option maxRecDepth 20000 in
theorem ggX3_defaultsInView_X4_hasName : GoodIn wsX3_defaultsInView wsX4_hasName := goodIn_r _ [23] (by decide +kernel) (by decide +kernel)
set_option maxRecDepth 20000 in
theorem gX3_defaultsInView_X4_hasName_n115 : GoodIn wsX3_defaultsInView (wsX4_hasName) := ggX3_defaultsInView_X4_hasName
set_option maxRecDepth 20000 in
theorem ggX3_defaultsInView_X3_valueAt : GoodIn wsX3_defaultsInView wsX3_valueAt := goodIn_r _ [27, 28, 34, 35, 36, 37, 38, 39] (by decide +kernel) (by decide +kernel)
set_option maxRecDepth 20000 in
theorem gX3_defaultsInView_X3_valueAt : GoodIn wsX3_defaultsInView (wsV RX3 78 RX3 yX3_valueAt wsX3_valueAt) := goodIn_app (goodIn_of _ (by decide +kernel)) ggX3_defaultsInView_X3_valueAt
set_option maxRecDepth 20000 in
theorem ggX3_defaultsInView_X3_standardIn : GoodIn wsX3_defaultsInView wsX3_standardIn := goodIn_r _ [32, 33, 34, 35, 36, 37, 38, 39] (by decide +kernel) (by decide +kernel)
set_option maxRecDepth 20000 in
theorem gX3_defaultsInView_X3_standardIn : GoodIn wsX3_defaultsInView (wsV RX3 66 RX3 yX3_standardIn wsX3_standardIn) := goodIn_app (goodIn_of _ (by decide +kernel)) ggX3_defaultsInView_X3_standardIn
theorem dX3_defaultsInView_0 : decode cX3_defaultsInView 0 = .ok (.aload_n 0, 1) := by decide +kernel
theorem dX3_defaultsInView_1 : decode cX3_defaultsInView 1 = .ok (.iload_n 1, 1) := by decide +kernel
theorem dX3_defaultsInView_2 : decode cX3_defaultsInView 2 = .ok (.iload_n 2, 1) := by decide +kernel
theorem dX3_defaultsInView_3 : decode cX3_defaultsInView 3 = .ok (.invokevirtual 112, 3) := by decide +kernel
theorem dX3_defaultsInView_6 : decode cX3_defaultsInView 6 = .ok (.aload_n 0, 1) := by decide +kernel
theorem dX3_defaultsInView_7 : decode cX3_defaultsInView 7 = .ok (.aload_n 0, 1) := by decide +kernel
theorem dX3_defaultsInView_8 : decode cX3_defaultsInView 8 = .ok (.invokevirtual 54, 3) := by decide +kernel
theorem dX3_defaultsInView_11 : decode cX3_defaultsInView 11 = .ok (.invokevirtual 96, 3) := by decide +kernel
theorem dX3_defaultsInView_14 : decode cX3_defaultsInView 14 = .ok (.iand, 1) := by decide +kernel
theorem dX3_defaultsInView_15 : decode cX3_defaultsInView 15 = .ok (.istore_n 3, 1) := by decide +kernel
theorem dX3_defaultsInView_16 : decode cX3_defaultsInView 16 = .ok (.iconst 0, 1) := by decide +kernel
theorem dX3_defaultsInView_17 : decode cX3_defaultsInView 17 = .ok (.istore 4, 2) := by decide +kernel
theorem dX3_defaultsInView_19 : decode cX3_defaultsInView 19 = .ok (.iload_n 1, 1) := by decide +kernel
theorem dX3_defaultsInView_20 : decode cX3_defaultsInView 20 = .ok (.istore 5, 2) := by decide +kernel
theorem dX3_defaultsInView_22 : decode cX3_defaultsInView 22 = .ok (.iload 5, 2) := by decide +kernel
theorem dX3_defaultsInView_24 : decode cX3_defaultsInView 24 = .ok (.iload_n 2, 1) := by decide +kernel
theorem dX3_defaultsInView_25 : decode cX3_defaultsInView 25 = .ok (.if_icmp .gt 58, 3) := by decide +kernel
theorem dX3_defaultsInView_28 : decode cX3_defaultsInView 28 = .ok (.iconst 0, 1) := by decide +kernel
theorem dX3_defaultsInView_29 : decode cX3_defaultsInView 29 = .ok (.istore 6, 2) := by decide +kernel
theorem dX3_defaultsInView_31 : decode cX3_defaultsInView 31 = .ok (.iload 6, 2) := by decide +kernel
theorem dX3_defaultsInView_33 : decode cX3_defaultsInView 33 = .ok (.bipush 8, 2) := by decide +kernel
theorem dX3_defaultsInView_35 : decode cX3_defaultsInView 35 = .ok (.if_icmp .ge 42, 3) := by decide +kernel
theorem dX3_defaultsInView_38 : decode cX3_defaultsInView 38 = .ok (.iload_n 3, 1) := by decide +kernel
theorem dX3_defaultsInView_39 : decode cX3_defaultsInView 39 = .ok (.iload 6, 2) := by decide +kernel
theorem dX3_defaultsInView_41 : decode cX3_defaultsInView 41 = .ok (.invokestatic 115, 3) := by decide +kernel
theorem dX3_defaultsInView_44 : decode cX3_defaultsInView 44 = .ok (.ifCond .eq 27, 3) := by decide +kernel
theorem dX3_defaultsInView_47 : decode cX3_defaultsInView 47 = .ok (.aload_n 0, 1) := by decide +kernel
theorem dX3_defaultsInView_48 : decode cX3_defaultsInView 48 = .ok (.iload 5, 2) := by decide +kernel
theorem dX3_defaultsInView_50 : decode cX3_defaultsInView 50 = .ok (.iload 6, 2) := by decide +kernel
theorem dX3_defaultsInView_52 : decode cX3_defaultsInView 52 = .ok (.invokevirtual 78, 3) := by decide +kernel
theorem dX3_defaultsInView_55 : decode cX3_defaultsInView 55 = .ok (.aload_n 0, 1) := by decide +kernel
theorem dX3_defaultsInView_56 : decode cX3_defaultsInView 56 = .ok (.aload_n 0, 1) := by decide +kernel
theorem dX3_defaultsInView_57 : decode cX3_defaultsInView 57 = .ok (.invokevirtual 54, 3) := by decide +kernel
theorem dX3_defaultsInView_60 : decode cX3_defaultsInView 60 = .ok (.iload 6, 2) := by decide +kernel
theorem dX3_defaultsInView_62 : decode cX3_defaultsInView 62 = .ok (.invokevirtual 66, 3) := by decide +kernel
theorem dX3_defaultsInView_65 : decode cX3_defaultsInView 65 = .ok (.if_icmp .ne 6, 3) := by decide +kernel
theorem dX3_defaultsInView_68 : decode cX3_defaultsInView 68 = .ok (.iinc 4 1, 3) := by decide +kernel
theorem dX3_defaultsInView_71 : decode cX3_defaultsInView 71 = .ok (.iinc 6 1, 3) := by decide +kernel
theorem dX3_defaultsInView_74 : decode cX3_defaultsInView 74 = .ok (.goto (-43), 3) := by decide +kernel
theorem dX3_defaultsInView_77 : decode cX3_defaultsInView 77 = .ok (.iinc 5 1, 3) := by decide +kernel
theorem dX3_defaultsInView_80 : decode cX3_defaultsInView 80 = .ok (.goto (-58), 3) := by decide +kernel
theorem dX3_defaultsInView_83 : decode cX3_defaultsInView 83 = .ok (.iload 4, 2) := by decide +kernel
theorem dX3_defaultsInView_85 : decode cX3_defaultsInView 85 = .ok (.ireturn, 1) := by decide +kernel
set_option maxRecDepth 20000 in
theorem ggX3_widestKind_X3_kindInRow : GoodIn wsX3_widestKind wsX3_kindInRow := goodIn_r _ [9, 10, 11, 12, 13, 8, 14, 15, 16, 17, 18, 19, 20, 21] (by decide +kernel) (by decide +kernel)
set_option maxRecDepth 20000 in
theorem gX3_widestKind_X3_kindInRow : GoodIn wsX3_widestKind (wsV RX3 75 RX3 yX3_kindInRow wsX3_kindInRow) := goodIn_app (goodIn_of _ (by decide +kernel)) ggX3_widestKind_X3_kindInRow
theorem dX3_widestKind_0 : decode cX3_widestKind 0 = .ok (.iconst 0, 1) := by decide +kernel
theorem dX3_widestKind_1 : decode cX3_widestKind 1 = .ok (.istore 4, 2) := by decide +kernel
theorem dX3_widestKind_3 : decode cX3_widestKind 3 = .ok (.iload_n 1, 1) := by decide +kernel
theorem dX3_widestKind_4 : decode cX3_widestKind 4 = .ok (.istore 5, 2) := by decide +kernel
theorem dX3_widestKind_6 : decode cX3_widestKind 6 = .ok (.iload 5, 2) := by decide +kernel
theorem dX3_widestKind_8 : decode cX3_widestKind 8 = .ok (.iload_n 2, 1) := by decide +kernel
theorem dX3_widestKind_9 : decode cX3_widestKind 9 = .ok (.if_icmp .gt 23, 3) := by decide +kernel
theorem dX3_widestKind_12 : decode cX3_widestKind 12 = .ok (.iload 4, 2) := by decide +kernel
theorem dX3_widestKind_14 : decode cX3_widestKind 14 = .ok (.aload_n 0, 1) := by decide +kernel
theorem dX3_widestKind_15 : decode cX3_widestKind 15 = .ok (.iload 5, 2) := by decide +kernel
theorem dX3_widestKind_17 : decode cX3_widestKind 17 = .ok (.iload_n 3, 1) := by decide +kernel
theorem dX3_widestKind_18 : decode cX3_widestKind 18 = .ok (.invokevirtual 75, 3) := by decide +kernel
theorem dX3_widestKind_21 : decode cX3_widestKind 21 = .ok (.invokestatic 118, 3) := by decide +kernel
theorem dX3_widestKind_24 : decode cX3_widestKind 24 = .ok (.istore 4, 2) := by decide +kernel
theorem dX3_widestKind_26 : decode cX3_widestKind 26 = .ok (.iinc 5 1, 3) := by decide +kernel
theorem dX3_widestKind_29 : decode cX3_widestKind 29 = .ok (.goto (-23), 3) := by decide +kernel
theorem dX3_widestKind_32 : decode cX3_widestKind 32 = .ok (.iload 4, 2) := by decide +kernel
theorem dX3_widestKind_34 : decode cX3_widestKind 34 = .ok (.ireturn, 1) := by decide +kernel
set_option maxRecDepth 20000 in
theorem ggX3_sumOfValues_X3_valueAt : GoodIn wsX3_sumOfValues wsX3_valueAt := goodIn_r _ [5, 6, 7, 8, 9, 10, 11, 12] (by decide +kernel) (by decide +kernel)
set_option maxRecDepth 20000 in
theorem gX3_sumOfValues_X3_valueAt : GoodIn wsX3_sumOfValues (wsV RX3 78 RX3 yX3_valueAt wsX3_valueAt) := goodIn_app (goodIn_of _ (by decide +kernel)) ggX3_sumOfValues_X3_valueAt
theorem dX3_sumOfValues_0 : decode cX3_sumOfValues 0 = .ok (.iconst 0, 1) := by decide +kernel
theorem dX3_sumOfValues_1 : decode cX3_sumOfValues 1 = .ok (.istore 4, 2) := by decide +kernel
theorem dX3_sumOfValues_3 : decode cX3_sumOfValues 3 = .ok (.iload_n 1, 1) := by decide +kernel
theorem dX3_sumOfValues_4 : decode cX3_sumOfValues 4 = .ok (.istore 5, 2) := by decide +kernel
theorem dX3_sumOfValues_6 : decode cX3_sumOfValues 6 = .ok (.iload 5, 2) := by decide +kernel
theorem dX3_sumOfValues_8 : decode cX3_sumOfValues 8 = .ok (.iload_n 2, 1) := by decide +kernel
theorem dX3_sumOfValues_9 : decode cX3_sumOfValues 9 = .ok (.if_icmp .gt 21, 3) := by decide +kernel
theorem dX3_sumOfValues_12 : decode cX3_sumOfValues 12 = .ok (.iload 4, 2) := by decide +kernel
theorem dX3_sumOfValues_14 : decode cX3_sumOfValues 14 = .ok (.aload_n 0, 1) := by decide +kernel
theorem dX3_sumOfValues_15 : decode cX3_sumOfValues 15 = .ok (.iload 5, 2) := by decide +kernel
theorem dX3_sumOfValues_17 : decode cX3_sumOfValues 17 = .ok (.iload_n 3, 1) := by decide +kernel
theorem dX3_sumOfValues_18 : decode cX3_sumOfValues 18 = .ok (.invokevirtual 78, 3) := by decide +kernel
theorem dX3_sumOfValues_21 : decode cX3_sumOfValues 21 = .ok (.iadd, 1) := by decide +kernel
theorem dX3_sumOfValues_22 : decode cX3_sumOfValues 22 = .ok (.istore 4, 2) := by decide +kernel
theorem dX3_sumOfValues_24 : decode cX3_sumOfValues 24 = .ok (.iinc 5 1, 3) := by decide +kernel
theorem dX3_sumOfValues_27 : decode cX3_sumOfValues 27 = .ok (.goto (-21), 3) := by decide +kernel
theorem dX3_sumOfValues_30 : decode cX3_sumOfValues 30 = .ok (.iload 4, 2) := by decide +kernel
theorem dX3_sumOfValues_32 : decode cX3_sumOfValues 32 = .ok (.ireturn, 1) := by decide +kernel
set_option maxRecDepth 20000 in
theorem ggX3_leastValue_X3_valueAt : GoodIn wsX3_leastValue wsX3_valueAt := goodIn_r _ [9, 10, 11, 12, 13, 14, 15, 16] (by decide +kernel) (by decide +kernel)
set_option maxRecDepth 20000 in
theorem gX3_leastValue_X3_valueAt : GoodIn wsX3_leastValue (wsV RX3 78 RX3 yX3_valueAt wsX3_valueAt) := goodIn_app (goodIn_of _ (by decide +kernel)) ggX3_leastValue_X3_valueAt
theorem dX3_leastValue_0 : decode cX3_leastValue 0 = .ok (.sipush 9999, 3) := by decide +kernel
theorem dX3_leastValue_3 : decode cX3_leastValue 3 = .ok (.istore 4, 2) := by decide +kernel
theorem dX3_leastValue_5 : decode cX3_leastValue 5 = .ok (.iload_n 1, 1) := by decide +kernel
theorem dX3_leastValue_6 : decode cX3_leastValue 6 = .ok (.istore 5, 2) := by decide +kernel
theorem dX3_leastValue_8 : decode cX3_leastValue 8 = .ok (.iload 5, 2) := by decide +kernel
theorem dX3_leastValue_10 : decode cX3_leastValue 10 = .ok (.iload_n 2, 1) := by decide +kernel
theorem dX3_leastValue_11 : decode cX3_leastValue 11 = .ok (.if_icmp .gt 23, 3) := by decide +kernel
theorem dX3_leastValue_14 : decode cX3_leastValue 14 = .ok (.iload 4, 2) := by decide +kernel
theorem dX3_leastValue_16 : decode cX3_leastValue 16 = .ok (.aload_n 0, 1) := by decide +kernel
theorem dX3_leastValue_17 : decode cX3_leastValue 17 = .ok (.iload 5, 2) := by decide +kernel
theorem dX3_leastValue_19 : decode cX3_leastValue 19 = .ok (.iload_n 3, 1) := by decide +kernel
theorem dX3_leastValue_20 : decode cX3_leastValue 20 = .ok (.invokevirtual 78, 3) := by decide +kernel
theorem dX3_leastValue_23 : decode cX3_leastValue 23 = .ok (.invokestatic 91, 3) := by decide +kernel
theorem dX3_leastValue_26 : decode cX3_leastValue 26 = .ok (.istore 4, 2) := by decide +kernel
theorem dX3_leastValue_28 : decode cX3_leastValue 28 = .ok (.iinc 5 1, 3) := by decide +kernel
theorem dX3_leastValue_31 : decode cX3_leastValue 31 = .ok (.goto (-23), 3) := by decide +kernel
theorem dX3_leastValue_34 : decode cX3_leastValue 34 = .ok (.iload 4, 2) := by decide +kernel
theorem dX3_leastValue_36 : decode cX3_leastValue 36 = .ok (.ireturn, 1) := by decide +kernel
set_option maxRecDepth 20000 in
theorem ggX3_greatestValue_X3_valueAt : GoodIn wsX3_greatestValue wsX3_valueAt := goodIn_r _ [9, 10, 11, 12, 13, 14, 15, 16] (by decide +kernel) (by decide +kernel)
set_option maxRecDepth 20000 in
theorem gX3_greatestValue_X3_valueAt : GoodIn wsX3_greatestValue (wsV RX3 78 RX3 yX3_valueAt wsX3_valueAt) := goodIn_app (goodIn_of _ (by decide +kernel)) ggX3_greatestValue_X3_valueAt
theorem dX3_greatestValue_0 : decode cX3_greatestValue 0 = .ok (.sipush (-9999), 3) := by decide +kernel
theorem dX3_greatestValue_3 : decode cX3_greatestValue 3 = .ok (.istore 4, 2) := by decide +kernel
theorem dX3_greatestValue_5 : decode cX3_greatestValue 5 = .ok (.iload_n 1, 1) := by decide +kernel
theorem dX3_greatestValue_6 : decode cX3_greatestValue 6 = .ok (.istore 5, 2) := by decide +kernel
theorem dX3_greatestValue_8 : decode cX3_greatestValue 8 = .ok (.iload 5, 2) := by decide +kernel
theorem dX3_greatestValue_10 : decode cX3_greatestValue 10 = .ok (.iload_n 2, 1) := by decide +kernel
theorem dX3_greatestValue_11 : decode cX3_greatestValue 11 = .ok (.if_icmp .gt 23, 3) := by decide +kernel
theorem dX3_greatestValue_14 : decode cX3_greatestValue 14 = .ok (.iload 4, 2) := by decide +kernel
theorem dX3_greatestValue_16 : decode cX3_greatestValue 16 = .ok (.aload_n 0, 1) := by decide +kernel
theorem dX3_greatestValue_17 : decode cX3_greatestValue 17 = .ok (.iload 5, 2) := by decide +kernel
theorem dX3_greatestValue_19 : decode cX3_greatestValue 19 = .ok (.iload_n 3, 1) := by decide +kernel
theorem dX3_greatestValue_20 : decode cX3_greatestValue 20 = .ok (.invokevirtual 78, 3) := by decide +kernel
theorem dX3_greatestValue_23 : decode cX3_greatestValue 23 = .ok (.invokestatic 118, 3) := by decide +kernel
theorem dX3_greatestValue_26 : decode cX3_greatestValue 26 = .ok (.istore 4, 2) := by decide +kernel
theorem dX3_greatestValue_28 : decode cX3_greatestValue 28 = .ok (.iinc 5 1, 3) := by decide +kernel
theorem dX3_greatestValue_31 : decode cX3_greatestValue 31 = .ok (.goto (-23), 3) := by decide +kernel
theorem dX3_greatestValue_34 : decode cX3_greatestValue 34 = .ok (.iload 4, 2) := by decide +kernel
theorem dX3_greatestValue_36 : decode cX3_greatestValue 36 = .ok (.ireturn, 1) := by decide +kernel
set_option maxRecDepth 20000 in
theorem ggX3_unlikeValues_X3_isFirstOfItsValue : GoodIn wsX3_unlikeValues wsX3_isFirstOfItsValue := goodIn_r _ [5, 6, 7, 8, 4, 9, 10, 11, 12, 13, 14, 15, 16] (by decide +kernel) (by decide +kernel)
set_option maxRecDepth 20000 in
theorem gX3_unlikeValues_X3_isFirstOfItsValue : GoodIn wsX3_unlikeValues (wsV RX3 121 RX3 yX3_isFirstOfItsValue wsX3_isFirstOfItsValue) := goodIn_app (goodIn_of _ (by decide +kernel)) ggX3_unlikeValues_X3_isFirstOfItsValue
theorem dX3_unlikeValues_0 : decode cX3_unlikeValues 0 = .ok (.iconst 0, 1) := by decide +kernel
theorem dX3_unlikeValues_1 : decode cX3_unlikeValues 1 = .ok (.istore 4, 2) := by decide +kernel
theorem dX3_unlikeValues_3 : decode cX3_unlikeValues 3 = .ok (.iload_n 1, 1) := by decide +kernel
theorem dX3_unlikeValues_4 : decode cX3_unlikeValues 4 = .ok (.istore 5, 2) := by decide +kernel
theorem dX3_unlikeValues_6 : decode cX3_unlikeValues 6 = .ok (.iload 5, 2) := by decide +kernel
theorem dX3_unlikeValues_8 : decode cX3_unlikeValues 8 = .ok (.iload_n 2, 1) := by decide +kernel
theorem dX3_unlikeValues_9 : decode cX3_unlikeValues 9 = .ok (.if_icmp .gt 23, 3) := by decide +kernel
theorem dX3_unlikeValues_12 : decode cX3_unlikeValues 12 = .ok (.aload_n 0, 1) := by decide +kernel
theorem dX3_unlikeValues_13 : decode cX3_unlikeValues 13 = .ok (.iload_n 1, 1) := by decide +kernel
theorem dX3_unlikeValues_14 : decode cX3_unlikeValues 14 = .ok (.iload 5, 2) := by decide +kernel
theorem dX3_unlikeValues_16 : decode cX3_unlikeValues 16 = .ok (.iload_n 3, 1) := by decide +kernel
theorem dX3_unlikeValues_17 : decode cX3_unlikeValues 17 = .ok (.invokevirtual 121, 3) := by decide +kernel
theorem dX3_unlikeValues_20 : decode cX3_unlikeValues 20 = .ok (.ifCond .eq 6, 3) := by decide +kernel
theorem dX3_unlikeValues_23 : decode cX3_unlikeValues 23 = .ok (.iinc 4 1, 3) := by decide +kernel
theorem dX3_unlikeValues_26 : decode cX3_unlikeValues 26 = .ok (.iinc 5 1, 3) := by decide +kernel
theorem dX3_unlikeValues_29 : decode cX3_unlikeValues 29 = .ok (.goto (-23), 3) := by decide +kernel
theorem dX3_unlikeValues_32 : decode cX3_unlikeValues 32 = .ok (.iload 4, 2) := by decide +kernel
theorem dX3_unlikeValues_34 : decode cX3_unlikeValues 34 = .ok (.ireturn, 1) := by decide +kernel
set_option maxRecDepth 20000 in
theorem ggX3_isFirstOfItsValue_X3_valueAt : GoodIn wsX3_isFirstOfItsValue wsX3_valueAt := goodIn_r _ [5, 6, 7, 8, 9, 10, 11, 12] (by decide +kernel) (by decide +kernel)
set_option maxRecDepth 20000 in
theorem gX3_isFirstOfItsValue_X3_valueAt : GoodIn wsX3_isFirstOfItsValue (wsV RX3 78 RX3 yX3_valueAt wsX3_valueAt) := goodIn_app (goodIn_of _ (by decide +kernel)) ggX3_isFirstOfItsValue_X3_valueAt
theorem dX3_isFirstOfItsValue_0 : decode cX3_isFirstOfItsValue 0 = .ok (.iload_n 1, 1) := by decide +kernel
theorem dX3_isFirstOfItsValue_1 : decode cX3_isFirstOfItsValue 1 = .ok (.istore 4, 2) := by decide +kernel
theorem dX3_isFirstOfItsValue_3 : decode cX3_isFirstOfItsValue 3 = .ok (.iload 4, 2) := by decide +kernel
theorem dX3_isFirstOfItsValue_5 : decode cX3_isFirstOfItsValue 5 = .ok (.iload_n 2, 1) := by decide +kernel
theorem dX3_isFirstOfItsValue_6 : decode cX3_isFirstOfItsValue 6 = .ok (.if_icmp .ge 27, 3) := by decide +kernel
theorem dX3_isFirstOfItsValue_9 : decode cX3_isFirstOfItsValue 9 = .ok (.aload_n 0, 1) := by decide +kernel
theorem dX3_isFirstOfItsValue_10 : decode cX3_isFirstOfItsValue 10 = .ok (.iload 4, 2) := by decide +kernel
theorem dX3_isFirstOfItsValue_12 : decode cX3_isFirstOfItsValue 12 = .ok (.iload_n 3, 1) := by decide +kernel
theorem dX3_isFirstOfItsValue_13 : decode cX3_isFirstOfItsValue 13 = .ok (.invokevirtual 78, 3) := by decide +kernel
theorem dX3_isFirstOfItsValue_16 : decode cX3_isFirstOfItsValue 16 = .ok (.aload_n 0, 1) := by decide +kernel
theorem dX3_isFirstOfItsValue_17 : decode cX3_isFirstOfItsValue 17 = .ok (.iload_n 2, 1) := by decide +kernel
theorem dX3_isFirstOfItsValue_18 : decode cX3_isFirstOfItsValue 18 = .ok (.iload_n 3, 1) := by decide +kernel
theorem dX3_isFirstOfItsValue_19 : decode cX3_isFirstOfItsValue 19 = .ok (.invokevirtual 78, 3) := by decide +kernel
theorem dX3_isFirstOfItsValue_22 : decode cX3_isFirstOfItsValue 22 = .ok (.if_icmp .ne 5, 3) := by decide +kernel
theorem dX3_isFirstOfItsValue_25 : decode cX3_isFirstOfItsValue 25 = .ok (.iconst 0, 1) := by decide +kernel
theorem dX3_isFirstOfItsValue_26 : decode cX3_isFirstOfItsValue 26 = .ok (.ireturn, 1) := by decide +kernel
theorem dX3_isFirstOfItsValue_27 : decode cX3_isFirstOfItsValue 27 = .ok (.iinc 4 1, 3) := by decide +kernel
theorem dX3_isFirstOfItsValue_30 : decode cX3_isFirstOfItsValue 30 = .ok (.goto (-27), 3) := by decide +kernel
theorem dX3_isFirstOfItsValue_33 : decode cX3_isFirstOfItsValue 33 = .ok (.iconst 1, 1) := by decide +kernel
theorem dX3_isFirstOfItsValue_34 : decode cX3_isFirstOfItsValue 34 = .ok (.ireturn, 1) := by decide +kernel
