set_option maxRecDepth 20000 in
theorem ggX4_init_X3_init : GoodIn wsX4_init wsX3_init := goodIn_r _ [22, 23, 2, 3, 24, 25, 26, 27, 28, 29, 30, 31, 32, 33, 34, 67, 68, 69, 70, 71, 72] (by decide +kernel) (by decide +kernel)
set_option maxRecDepth 20000 in
theorem gX4_init_X3_init : GoodIn wsX4_init (wsX3_init) := ggX4_init_X3_init
set_option maxRecDepth 20000 in
theorem ggX4_init_X1_init : GoodIn wsX4_init wsX1_init := goodIn_r _ [37, 38, 2, 3, 39, 40, 41, 42, 5, 6, 43, 21, 22, 23, 24, 25, 26, 27, 28, 29, 30, 31, 32, 33, 34, 80, 81, 82, 67, 68, 69, 70, 71, 72] (by decide +kernel) (by decide +kernel)
set_option maxRecDepth 20000 in
theorem gX4_init_X1_init : GoodIn wsX4_init (wsX1_init) := ggX4_init_X1_init
set_option maxRecDepth 20000 in
theorem ggX4_init_X2_init : GoodIn wsX4_init wsX2_init := goodIn_r _ [46, 47, 2, 3, 48, 49, 50, 51, 52, 53, 54, 55, 56, 57, 58, 59, 60, 61, 62, 63, 64, 65, 66, 83, 84, 85, 86, 87, 88, 89, 90, 91, 92, 93] (by decide +kernel) (by decide +kernel)
set_option maxRecDepth 20000 in
theorem gX4_init_X2_init : GoodIn wsX4_init (wsX2_init) := ggX4_init_X2_init
theorem dX4_init_0 : decode cX4_init 0 = .ok (.aload_n 0, 1) := by decide +kernel
theorem dX4_init_1 : decode cX4_init 1 = .ok (.invokespecial 1, 3) := by decide +kernel
theorem dX4_init_4 : decode cX4_init 4 = .ok (.aload_n 0, 1) := by decide +kernel
theorem dX4_init_5 : decode cX4_init 5 = .ok (.new 7, 3) := by decide +kernel
theorem dX4_init_8 : decode cX4_init 8 = .ok (.dup, 1) := by decide +kernel
theorem dX4_init_9 : decode cX4_init 9 = .ok (.invokespecial 9, 3) := by decide +kernel
theorem dX4_init_12 : decode cX4_init 12 = .ok (.putfield 10, 3) := by decide +kernel
theorem dX4_init_15 : decode cX4_init 15 = .ok (.aload_n 0, 1) := by decide +kernel
theorem dX4_init_16 : decode cX4_init 16 = .ok (.new 16, 3) := by decide +kernel
theorem dX4_init_19 : decode cX4_init 19 = .ok (.dup, 1) := by decide +kernel
theorem dX4_init_20 : decode cX4_init 20 = .ok (.invokespecial 18, 3) := by decide +kernel
theorem dX4_init_23 : decode cX4_init 23 = .ok (.putfield 19, 3) := by decide +kernel
theorem dX4_init_26 : decode cX4_init 26 = .ok (.aload_n 0, 1) := by decide +kernel
theorem dX4_init_27 : decode cX4_init 27 = .ok (.new 7, 3) := by decide +kernel
theorem dX4_init_30 : decode cX4_init 30 = .ok (.dup, 1) := by decide +kernel
theorem dX4_init_31 : decode cX4_init 31 = .ok (.invokespecial 9, 3) := by decide +kernel
theorem dX4_init_34 : decode cX4_init 34 = .ok (.putfield 23, 3) := by decide +kernel
theorem dX4_init_37 : decode cX4_init 37 = .ok (.aload_n 0, 1) := by decide +kernel
theorem dX4_init_38 : decode cX4_init 38 = .ok (.iconst 0, 1) := by decide +kernel
theorem dX4_init_39 : decode cX4_init 39 = .ok (.putfield 26, 3) := by decide +kernel
theorem dX4_init_42 : decode cX4_init 42 = .ok (.aload_n 0, 1) := by decide +kernel
theorem dX4_init_43 : decode cX4_init 43 = .ok (.new 30, 3) := by decide +kernel
theorem dX4_init_46 : decode cX4_init 46 = .ok (.dup, 1) := by decide +kernel
theorem dX4_init_47 : decode cX4_init 47 = .ok (.invokespecial 32, 3) := by decide +kernel
theorem dX4_init_50 : decode cX4_init 50 = .ok (.putfield 33, 3) := by decide +kernel
theorem dX4_init_53 : decode cX4_init 53 = .ok (.aload_n 0, 1) := by decide +kernel
theorem dX4_init_54 : decode cX4_init 54 = .ok (.iconst (-1), 1) := by decide +kernel
theorem dX4_init_55 : decode cX4_init 55 = .ok (.putfield 37, 3) := by decide +kernel
theorem dX4_init_58 : decode cX4_init 58 = .ok (.aload_n 0, 1) := by decide +kernel
theorem dX4_init_59 : decode cX4_init 59 = .ok (.iconst (-1), 1) := by decide +kernel
theorem dX4_init_60 : decode cX4_init 60 = .ok (.putfield 41, 3) := by decide +kernel
theorem dX4_init_63 : decode cX4_init 63 = .ok (.return_, 1) := by decide +kernel
set_option maxRecDepth 20000 in
theorem ggX4_add_X1_prepare : GoodIn wsX4_add wsX1_prepare := goodIn_r _ [7, 8, 9, 10, 6, 11, 12, 13, 14, 15, 16, 17, 18, 19, 20, 21, 22, 23, 24, 25, 26, 27, 28, 29, 77, 78, 79, 80, 81, 82, 83, 84, 85] (by decide +kernel) (by decide +kernel)
set_option maxRecDepth 20000 in
theorem gX4_add_X1_prepare : GoodIn wsX4_add (wsV RX4 44 RX1 yX1_prepare wsX1_prepare) := goodIn_app (goodIn_of _ (by decide +kernel)) ggX4_add_X1_prepare
set_option maxRecDepth 20000 in
theorem ggX4_add_X3_addColumn : GoodIn wsX4_add wsX3_addColumn := goodIn_r _ [33, 20, 34, 35, 36, 37, 38, 39, 40, 41, 42, 43, 44, 45, 46, 47, 48, 49, 18, 50, 51, 52, 53, 54, 21, 55, 56, 57, 58, 22, 23, 24, 25, 26, 80, 81, 82, 83, 84, 85] (by decide +kernel) (by decide +kernel)
set_option maxRecDepth 20000 in
theorem gX4_add_X3_addColumn : GoodIn wsX4_add (wsV RX4 48 RX3 yX3_addColumn wsX3_addColumn) := goodIn_app (goodIn_of _ (by decide +kernel)) ggX4_add_X3_addColumn
set_option maxRecDepth 20000 in
theorem ggX4_add_X4_recordIfDone : GoodIn wsX4_add wsX4_recordIfDone := goodIn_r _ [62, 1, 63, 64, 35, 65, 66, 67, 68, 6, 69, 14, 13, 70, 71, 72, 73, 74, 75, 76, 77, 78, 79] (by decide +kernel) (by decide +kernel)
set_option maxRecDepth 20000 in
theorem gX4_add_X4_recordIfDone : GoodIn wsX4_add (wsV RX4 52 RX4 yX4_recordIfDone wsX4_recordIfDone) := goodIn_app (goodIn_of _ (by decide +kernel)) ggX4_add_X4_recordIfDone
theorem dX4_add_0 : decode cX4_add 0 = .ok (.aload_n 0, 1) := by decide +kernel
theorem dX4_add_1 : decode cX4_add 1 = .ok (.getfield 19, 3) := by decide +kernel
theorem dX4_add_4 : decode cX4_add 4 = .ok (.aload_n 0, 1) := by decide +kernel
theorem dX4_add_5 : decode cX4_add 5 = .ok (.getfield 10, 3) := by decide +kernel
theorem dX4_add_8 : decode cX4_add 8 = .ok (.invokevirtual 44, 3) := by decide +kernel
theorem dX4_add_11 : decode cX4_add 11 = .ok (.aload_n 0, 1) := by decide +kernel
theorem dX4_add_12 : decode cX4_add 12 = .ok (.aload_n 0, 1) := by decide +kernel
theorem dX4_add_13 : decode cX4_add 13 = .ok (.getfield 10, 3) := by decide +kernel
theorem dX4_add_16 : decode cX4_add 16 = .ok (.iload_n 1, 1) := by decide +kernel
theorem dX4_add_17 : decode cX4_add 17 = .ok (.iload_n 2, 1) := by decide +kernel
theorem dX4_add_18 : decode cX4_add 18 = .ok (.iload_n 3, 1) := by decide +kernel
theorem dX4_add_19 : decode cX4_add 19 = .ok (.invokevirtual 48, 3) := by decide +kernel
theorem dX4_add_22 : decode cX4_add 22 = .ok (.invokevirtual 52, 3) := by decide +kernel
theorem dX4_add_25 : decode cX4_add 25 = .ok (.ireturn, 1) := by decide +kernel
set_option maxRecDepth 20000 in
theorem ggX4_drop_X1_prepare : GoodIn wsX4_drop wsX1_prepare := goodIn_r _ [7, 8, 9, 10, 6, 11, 12, 13, 14, 15, 16, 17, 18, 19, 20, 21, 22, 23, 24, 25, 26, 27, 28, 29, 67, 68, 69, 70, 71, 72, 73, 74, 75] (by decide +kernel) (by decide +kernel)
set_option maxRecDepth 20000 in
theorem gX4_drop_X1_prepare : GoodIn wsX4_drop (wsV RX4 44 RX1 yX1_prepare wsX1_prepare) := goodIn_app (goodIn_of _ (by decide +kernel)) ggX4_drop_X1_prepare
set_option maxRecDepth 20000 in
theorem ggX4_drop_X3_dropColumn : GoodIn wsX4_drop wsX3_dropColumn := goodIn_r _ [33, 20, 34, 35, 36, 37, 38, 39, 18, 40, 41, 42, 43, 44, 21, 45, 46, 47, 48, 22, 23, 24, 25, 26, 70, 71, 72, 73, 74, 75] (by decide +kernel) (by decide +kernel)
set_option maxRecDepth 20000 in
theorem gX4_drop_X3_dropColumn : GoodIn wsX4_drop (wsV RX4 56 RX3 yX3_dropColumn wsX3_dropColumn) := goodIn_app (goodIn_of _ (by decide +kernel)) ggX4_drop_X3_dropColumn
set_option maxRecDepth 20000 in
theorem ggX4_drop_X4_recordIfDone : GoodIn wsX4_drop wsX4_recordIfDone := goodIn_r _ [52, 1, 53, 54, 35, 55, 56, 57, 58, 6, 59, 14, 13, 60, 61, 62, 63, 64, 65, 66, 67, 68, 69] (by decide +kernel) (by decide +kernel)
set_option maxRecDepth 20000 in
theorem gX4_drop_X4_recordIfDone : GoodIn wsX4_drop (wsV RX4 52 RX4 yX4_recordIfDone wsX4_recordIfDone) := goodIn_app (goodIn_of _ (by decide +kernel)) ggX4_drop_X4_recordIfDone
theorem dX4_drop_0 : decode cX4_drop 0 = .ok (.aload_n 0, 1) := by decide +kernel
theorem dX4_drop_1 : decode cX4_drop 1 = .ok (.getfield 19, 3) := by decide +kernel
theorem dX4_drop_4 : decode cX4_drop 4 = .ok (.aload_n 0, 1) := by decide +kernel
theorem dX4_drop_5 : decode cX4_drop 5 = .ok (.getfield 10, 3) := by decide +kernel
theorem dX4_drop_8 : decode cX4_drop 8 = .ok (.invokevirtual 44, 3) := by decide +kernel
theorem dX4_drop_11 : decode cX4_drop 11 = .ok (.aload_n 0, 1) := by decide +kernel
theorem dX4_drop_12 : decode cX4_drop 12 = .ok (.aload_n 0, 1) := by decide +kernel
theorem dX4_drop_13 : decode cX4_drop 13 = .ok (.getfield 10, 3) := by decide +kernel
theorem dX4_drop_16 : decode cX4_drop 16 = .ok (.iload_n 1, 1) := by decide +kernel
theorem dX4_drop_17 : decode cX4_drop 17 = .ok (.invokevirtual 56, 3) := by decide +kernel
theorem dX4_drop_20 : decode cX4_drop 20 = .ok (.invokevirtual 52, 3) := by decide +kernel
theorem dX4_drop_23 : decode cX4_drop 23 = .ok (.ireturn, 1) := by decide +kernel
set_option maxRecDepth 20000 in
theorem ggX4_kind_X1_prepare : GoodIn wsX4_kind wsX1_prepare := goodIn_r _ [7, 8, 9, 10, 6, 11, 12, 13, 14, 15, 16, 17, 18, 19, 20, 21, 22, 23, 24, 25, 26, 27, 28, 29, 88, 89, 90, 91, 92, 93, 94, 95, 96] (by decide +kernel) (by decide +kernel)
set_option maxRecDepth 20000 in
theorem gX4_kind_X1_prepare : GoodIn wsX4_kind (wsV RX4 44 RX1 yX1_prepare wsX1_prepare) := goodIn_app (goodIn_of _ (by decide +kernel)) ggX4_kind_X1_prepare
set_option maxRecDepth 20000 in
theorem ggX4_kind_X3_changeKind : GoodIn wsX4_kind wsX3_changeKind := goodIn_r _ [33, 20, 34, 35, 36, 37, 38, 39, 18, 40, 41, 42, 43, 44, 21, 45, 46, 47, 48, 49, 50, 26, 51, 52, 53, 54, 55, 56, 57, 58, 59, 60, 61, 62, 63, 64, 65, 66, 67, 68, 69, 22, 23, 24, 25, 91, 92, 93, 94, 95, 96] (by decide +kernel) (by decide +kernel)
set_option maxRecDepth 20000 in
theorem gX4_kind_X3_changeKind : GoodIn wsX4_kind (wsV RX4 59 RX3 yX3_changeKind wsX3_changeKind) := goodIn_app (goodIn_of _ (by decide +kernel)) ggX4_kind_X3_changeKind
set_option maxRecDepth 20000 in
theorem ggX4_kind_X4_recordIfDone : GoodIn wsX4_kind wsX4_recordIfDone := goodIn_r _ [73, 1, 74, 75, 35, 76, 77, 78, 79, 6, 80, 14, 13, 81, 82, 83, 84, 85, 86, 87, 88, 89, 90] (by decide +kernel) (by decide +kernel)
set_option maxRecDepth 20000 in
theorem gX4_kind_X4_recordIfDone : GoodIn wsX4_kind (wsV RX4 52 RX4 yX4_recordIfDone wsX4_recordIfDone) := goodIn_app (goodIn_of _ (by decide +kernel)) ggX4_kind_X4_recordIfDone
theorem dX4_kind_0 : decode cX4_kind 0 = .ok (.aload_n 0, 1) := by decide +kernel
theorem dX4_kind_1 : decode cX4_kind 1 = .ok (.getfield 19, 3) := by decide +kernel
theorem dX4_kind_4 : decode cX4_kind 4 = .ok (.aload_n 0, 1) := by decide +kernel
theorem dX4_kind_5 : decode cX4_kind 5 = .ok (.getfield 10, 3) := by decide +kernel
theorem dX4_kind_8 : decode cX4_kind 8 = .ok (.invokevirtual 44, 3) := by decide +kernel
theorem dX4_kind_11 : decode cX4_kind 11 = .ok (.aload_n 0, 1) := by decide +kernel
theorem dX4_kind_12 : decode cX4_kind 12 = .ok (.aload_n 0, 1) := by decide +kernel
theorem dX4_kind_13 : decode cX4_kind 13 = .ok (.getfield 10, 3) := by decide +kernel
theorem dX4_kind_16 : decode cX4_kind 16 = .ok (.iload_n 1, 1) := by decide +kernel
theorem dX4_kind_17 : decode cX4_kind 17 = .ok (.iload_n 2, 1) := by decide +kernel
theorem dX4_kind_18 : decode cX4_kind 18 = .ok (.invokevirtual 59, 3) := by decide +kernel
theorem dX4_kind_21 : decode cX4_kind 21 = .ok (.invokevirtual 52, 3) := by decide +kernel
theorem dX4_kind_24 : decode cX4_kind 24 = .ok (.ireturn, 1) := by decide +kernel
set_option maxRecDepth 20000 in
theorem ggX4_row_X1_prepare : GoodIn wsX4_row wsX1_prepare := goodIn_r _ [7, 8, 9, 10, 6, 11, 12, 13, 14, 15, 16, 17, 18, 19, 20, 21, 22, 23, 24, 25, 26, 27, 28, 29, 57, 58, 59, 60, 61, 62, 63, 64, 65] (by decide +kernel) (by decide +kernel)
set_option maxRecDepth 20000 in
theorem gX4_row_X1_prepare : GoodIn wsX4_row (wsV RX4 44 RX1 yX1_prepare wsX1_prepare) := goodIn_app (goodIn_of _ (by decide +kernel)) ggX4_row_X1_prepare
set_option maxRecDepth 20000 in
theorem ggX4_row_X3_writeRow : GoodIn wsX4_row wsX3_writeRow := goodIn_r _ [33, 27, 26, 29, 22, 23, 24, 25, 28, 34, 35, 36, 18, 37, 20, 60, 61, 62, 63, 64, 65] (by decide +kernel) (by decide +kernel)
set_option maxRecDepth 20000 in
theorem gX4_row_X3_writeRow : GoodIn wsX4_row (wsV RX4 63 RX3 yX3_writeRow wsX3_writeRow) := goodIn_app (goodIn_of _ (by decide +kernel)) ggX4_row_X3_writeRow
set_option maxRecDepth 20000 in
theorem ggX4_row_X4_recordIfDone : GoodIn wsX4_row wsX4_recordIfDone := goodIn_r _ [42, 1, 43, 44, 41, 45, 46, 47, 48, 6, 49, 14, 13, 50, 51, 52, 53, 54, 55, 56, 57, 58, 59] (by decide +kernel) (by decide +kernel)
set_option maxRecDepth 20000 in
theorem gX4_row_X4_recordIfDone : GoodIn wsX4_row (wsV RX4 52 RX4 yX4_recordIfDone wsX4_recordIfDone) := goodIn_app (goodIn_of _ (by decide +kernel)) ggX4_row_X4_recordIfDone
theorem dX4_row_0 : decode cX4_row 0 = .ok (.aload_n 0, 1) := by decide +kernel
theorem dX4_row_1 : decode cX4_row 1 = .ok (.getfield 19, 3) := by decide +kernel
theorem dX4_row_4 : decode cX4_row 4 = .ok (.aload_n 0, 1) := by decide +kernel
theorem dX4_row_5 : decode cX4_row 5 = .ok (.getfield 10, 3) := by decide +kernel
theorem dX4_row_8 : decode cX4_row 8 = .ok (.invokevirtual 44, 3) := by decide +kernel
theorem dX4_row_11 : decode cX4_row 11 = .ok (.aload_n 0, 1) := by decide +kernel
theorem dX4_row_12 : decode cX4_row 12 = .ok (.aload_n 0, 1) := by decide +kernel
theorem dX4_row_13 : decode cX4_row 13 = .ok (.getfield 10, 3) := by decide +kernel
theorem dX4_row_16 : decode cX4_row 16 = .ok (.invokevirtual 63, 3) := by decide +kernel
theorem dX4_row_19 : decode cX4_row 19 = .ok (.invokevirtual 52, 3) := by decide +kernel
theorem dX4_row_22 : decode cX4_row 22 = .ok (.ireturn, 1) := by decide +kernel
set_option maxRecDepth 20000 in
theorem ggX4_set_X1_prepare : GoodIn wsX4_set wsX1_prepare := goodIn_r _ [7, 8, 9, 10, 6, 11, 12, 13, 14, 15, 16, 17, 18, 19, 20, 21, 22, 23, 24, 25, 26, 27, 28, 29, 79, 80, 81, 82, 83, 84, 85, 86, 87] (by decide +kernel) (by decide +kernel)
set_option maxRecDepth 20000 in
theorem gX4_set_X1_prepare : GoodIn wsX4_set (wsV RX4 44 RX1 yX1_prepare wsX1_prepare) := goodIn_app (goodIn_of _ (by decide +kernel)) ggX4_set_X1_prepare
set_option maxRecDepth 20000 in
theorem ggX4_set_X3_changeValue : GoodIn wsX4_set wsX3_changeValue := goodIn_r _ [33, 29, 34, 35, 36, 18, 37, 27, 38, 39, 40, 41, 42, 43, 44, 28, 45, 46, 47, 48, 21, 49, 50, 51, 52, 53, 54, 55, 56, 57, 58, 59, 60, 82, 83, 84, 85, 86, 87] (by decide +kernel) (by decide +kernel)
set_option maxRecDepth 20000 in
theorem gX4_set_X3_changeValue : GoodIn wsX4_set (wsV RX4 67 RX3 yX3_changeValue wsX3_changeValue) := goodIn_app (goodIn_of _ (by decide +kernel)) ggX4_set_X3_changeValue
set_option maxRecDepth 20000 in
theorem ggX4_set_X4_recordIfDone : GoodIn wsX4_set wsX4_recordIfDone := goodIn_r _ [64, 1, 65, 66, 39, 67, 68, 69, 70, 6, 71, 14, 13, 72, 73, 74, 75, 76, 77, 78, 79, 80, 81] (by decide +kernel) (by decide +kernel)
set_option maxRecDepth 20000 in
theorem gX4_set_X4_recordIfDone : GoodIn wsX4_set (wsV RX4 52 RX4 yX4_recordIfDone wsX4_recordIfDone) := goodIn_app (goodIn_of _ (by decide +kernel)) ggX4_set_X4_recordIfDone
theorem dX4_set_0 : decode cX4_set 0 = .ok (.aload_n 0, 1) := by decide +kernel
theorem dX4_set_1 : decode cX4_set 1 = .ok (.getfield 19, 3) := by decide +kernel
theorem dX4_set_4 : decode cX4_set 4 = .ok (.aload_n 0, 1) := by decide +kernel
theorem dX4_set_5 : decode cX4_set 5 = .ok (.getfield 10, 3) := by decide +kernel
theorem dX4_set_8 : decode cX4_set 8 = .ok (.invokevirtual 44, 3) := by decide +kernel
theorem dX4_set_11 : decode cX4_set 11 = .ok (.aload_n 0, 1) := by decide +kernel
theorem dX4_set_12 : decode cX4_set 12 = .ok (.aload_n 0, 1) := by decide +kernel
theorem dX4_set_13 : decode cX4_set 13 = .ok (.getfield 10, 3) := by decide +kernel
theorem dX4_set_16 : decode cX4_set 16 = .ok (.iload_n 1, 1) := by decide +kernel
theorem dX4_set_17 : decode cX4_set 17 = .ok (.iload_n 2, 1) := by decide +kernel
theorem dX4_set_18 : decode cX4_set 18 = .ok (.iload_n 3, 1) := by decide +kernel
theorem dX4_set_19 : decode cX4_set 19 = .ok (.invokevirtual 67, 3) := by decide +kernel
theorem dX4_set_22 : decode cX4_set 22 = .ok (.invokevirtual 52, 3) := by decide +kernel
theorem dX4_set_25 : decode cX4_set 25 = .ok (.ireturn, 1) := by decide +kernel
set_option maxRecDepth 20000 in
theorem ggX4_remove_X1_prepare : GoodIn wsX4_remove wsX1_prepare := goodIn_r _ [7, 8, 9, 10, 6, 11, 12, 13, 14, 15, 16, 17, 18, 19, 20, 21, 22, 23, 24, 25, 26, 27, 28, 29, 57, 58, 59, 60, 61, 62, 63, 64, 65] (by decide +kernel) (by decide +kernel)
set_option maxRecDepth 20000 in
theorem gX4_remove_X1_prepare : GoodIn wsX4_remove (wsV RX4 44 RX1 yX1_prepare wsX1_prepare) := goodIn_app (goodIn_of _ (by decide +kernel)) ggX4_remove_X1_prepare
set_option maxRecDepth 20000 in
theorem ggX4_remove_X3_removeRow : GoodIn wsX4_remove wsX3_removeRow := goodIn_r _ [33, 27, 28, 22, 23, 24, 25, 29, 34, 35, 36, 18, 37, 60, 61, 62, 63, 64, 65] (by decide +kernel) (by decide +kernel)
set_option maxRecDepth 20000 in
theorem gX4_remove_X3_removeRow : GoodIn wsX4_remove (wsV RX4 70 RX3 yX3_removeRow wsX3_removeRow) := goodIn_app (goodIn_of _ (by decide +kernel)) ggX4_remove_X3_removeRow
set_option maxRecDepth 20000 in
theorem ggX4_remove_X4_recordIfDone : GoodIn wsX4_remove wsX4_recordIfDone := goodIn_r _ [42, 1, 43, 44, 41, 45, 46, 47, 48, 6, 49, 14, 13, 50, 51, 52, 53, 54, 55, 56, 57, 58, 59] (by decide +kernel) (by decide +kernel)
set_option maxRecDepth 20000 in
theorem gX4_remove_X4_recordIfDone : GoodIn wsX4_remove (wsV RX4 52 RX4 yX4_recordIfDone wsX4_recordIfDone) := goodIn_app (goodIn_of _ (by decide +kernel)) ggX4_remove_X4_recordIfDone
theorem dX4_remove_0 : decode cX4_remove 0 = .ok (.aload_n 0, 1) := by decide +kernel
theorem dX4_remove_1 : decode cX4_remove 1 = .ok (.getfield 19, 3) := by decide +kernel
theorem dX4_remove_4 : decode cX4_remove 4 = .ok (.aload_n 0, 1) := by decide +kernel
theorem dX4_remove_5 : decode cX4_remove 5 = .ok (.getfield 10, 3) := by decide +kernel
theorem dX4_remove_8 : decode cX4_remove 8 = .ok (.invokevirtual 44, 3) := by decide +kernel
theorem dX4_remove_11 : decode cX4_remove 11 = .ok (.aload_n 0, 1) := by decide +kernel
theorem dX4_remove_12 : decode cX4_remove 12 = .ok (.aload_n 0, 1) := by decide +kernel
theorem dX4_remove_13 : decode cX4_remove 13 = .ok (.getfield 10, 3) := by decide +kernel
theorem dX4_remove_16 : decode cX4_remove 16 = .ok (.iload_n 1, 1) := by decide +kernel
theorem dX4_remove_17 : decode cX4_remove 17 = .ok (.invokevirtual 70, 3) := by decide +kernel
theorem dX4_remove_20 : decode cX4_remove 20 = .ok (.invokevirtual 52, 3) := by decide +kernel
theorem dX4_remove_23 : decode cX4_remove 23 = .ok (.ireturn, 1) := by decide +kernel
set_option maxRecDepth 20000 in
theorem ggX4_makeOver_X1_prepare : GoodIn wsX4_makeOver wsX1_prepare := goodIn_r _ [7, 8, 9, 10, 6, 11, 12, 13, 14, 15, 16, 17, 18, 19, 20, 21, 22, 23, 24, 25, 26, 27, 28, 29, 107, 108, 109, 110, 111, 112, 113, 114, 115] (by decide +kernel) (by decide +kernel)
set_option maxRecDepth 20000 in
theorem gX4_makeOver_X1_prepare : GoodIn wsX4_makeOver (wsV RX4 44 RX1 yX1_prepare wsX1_prepare) := goodIn_app (goodIn_of _ (by decide +kernel)) ggX4_makeOver_X1_prepare
set_option maxRecDepth 20000 in
theorem ggX4_makeOver_X3_makeRowsOver : GoodIn wsX4_makeOver wsX3_makeRowsOver := goodIn_r _ [33, 28, 34, 35, 36, 18, 37, 27, 38, 39, 40, 41, 20, 42, 43, 44, 45, 46, 47, 48, 49, 50, 51, 52, 53, 21, 54, 55, 56, 57, 29, 58, 59, 60, 61, 62, 63, 64, 65, 66, 67, 68, 69, 70, 71, 72, 73, 74, 75, 76, 77, 78, 79, 80, 81, 82, 83, 84, 85, 86, 87, 88, 26, 110, 111, 112, 113, 114, 115] (by decide +kernel) (by decide +kernel)
set_option maxRecDepth 20000 in
theorem gX4_makeOver_X3_makeRowsOver : GoodIn wsX4_makeOver (wsV RX4 73 RX3 yX3_makeRowsOver wsX3_makeRowsOver) := goodIn_app (goodIn_of _ (by decide +kernel)) ggX4_makeOver_X3_makeRowsOver
set_option maxRecDepth 20000 in
theorem ggX4_makeOver_X4_recordIfDone : GoodIn wsX4_makeOver wsX4_recordIfDone := goodIn_r _ [92, 1, 93, 94, 59, 95, 96, 97, 98, 6, 99, 14, 13, 100, 101, 102, 103, 104, 105, 106, 107, 108, 109] (by decide +kernel) (by decide +kernel)
set_option maxRecDepth 20000 in
theorem gX4_makeOver_X4_recordIfDone : GoodIn wsX4_makeOver (wsV RX4 52 RX4 yX4_recordIfDone wsX4_recordIfDone) := goodIn_app (goodIn_of _ (by decide +kernel)) ggX4_makeOver_X4_recordIfDone
theorem dX4_makeOver_0 : decode cX4_makeOver 0 = .ok (.aload_n 0, 1) := by decide +kernel
theorem dX4_makeOver_1 : decode cX4_makeOver 1 = .ok (.getfield 19, 3) := by decide +kernel
theorem dX4_makeOver_4 : decode cX4_makeOver 4 = .ok (.aload_n 0, 1) := by decide +kernel
theorem dX4_makeOver_5 : decode cX4_makeOver 5 = .ok (.getfield 10, 3) := by decide +kernel
theorem dX4_makeOver_8 : decode cX4_makeOver 8 = .ok (.invokevirtual 44, 3) := by decide +kernel
theorem dX4_makeOver_11 : decode cX4_makeOver 11 = .ok (.aload_n 0, 1) := by decide +kernel
theorem dX4_makeOver_12 : decode cX4_makeOver 12 = .ok (.aload_n 0, 1) := by decide +kernel
theorem dX4_makeOver_13 : decode cX4_makeOver 13 = .ok (.getfield 10, 3) := by decide +kernel
theorem dX4_makeOver_16 : decode cX4_makeOver 16 = .ok (.iload_n 1, 1) := by decide +kernel
theorem dX4_makeOver_17 : decode cX4_makeOver 17 = .ok (.iload_n 2, 1) := by decide +kernel
theorem dX4_makeOver_18 : decode cX4_makeOver 18 = .ok (.invokevirtual 73, 3) := by decide +kernel
theorem dX4_makeOver_21 : decode cX4_makeOver 21 = .ok (.invokevirtual 52, 3) := by decide +kernel
theorem dX4_makeOver_24 : decode cX4_makeOver 24 = .ok (.ireturn, 1) := by decide +kernel
set_option maxRecDepth 20000 in
theorem ggX4_forget_X1_prepare : GoodIn wsX4_forget wsX1_prepare := goodIn_r _ [7, 8, 9, 10, 6, 11, 12, 13, 14, 15, 16, 17, 18, 19, 20, 21, 22, 23, 24, 25, 26, 27, 28, 29, 61, 62, 63, 64, 65, 66, 67, 68, 69] (by decide +kernel) (by decide +kernel)
set_option maxRecDepth 20000 in
theorem gX4_forget_X1_prepare : GoodIn wsX4_forget (wsV RX4 44 RX1 yX1_prepare wsX1_prepare) := goodIn_app (goodIn_of _ (by decide +kernel)) ggX4_forget_X1_prepare
set_option maxRecDepth 20000 in
theorem ggX4_forget_X3_forgetSeasons : GoodIn wsX4_forget wsX3_forgetSeasons := goodIn_r _ [33, 27, 28, 34, 35, 36, 37, 20, 21, 22, 23, 24, 25, 26, 38, 39, 40, 18, 41, 64, 65, 66, 67, 68, 69] (by decide +kernel) (by decide +kernel)
set_option maxRecDepth 20000 in
theorem gX4_forget_X3_forgetSeasons : GoodIn wsX4_forget (wsV RX4 76 RX3 yX3_forgetSeasons wsX3_forgetSeasons) := goodIn_app (goodIn_of _ (by decide +kernel)) ggX4_forget_X3_forgetSeasons
set_option maxRecDepth 20000 in
theorem ggX4_forget_X4_recordIfDone : GoodIn wsX4_forget wsX4_recordIfDone := goodIn_r _ [46, 1, 47, 48, 45, 49, 50, 51, 52, 6, 53, 14, 13, 54, 55, 56, 57, 58, 59, 60, 61, 62, 63] (by decide +kernel) (by decide +kernel)
set_option maxRecDepth 20000 in
theorem gX4_forget_X4_recordIfDone : GoodIn wsX4_forget (wsV RX4 52 RX4 yX4_recordIfDone wsX4_recordIfDone) := goodIn_app (goodIn_of _ (by decide +kernel)) ggX4_forget_X4_recordIfDone
theorem dX4_forget_0 : decode cX4_forget 0 = .ok (.aload_n 0, 1) := by decide +kernel
theorem dX4_forget_1 : decode cX4_forget 1 = .ok (.getfield 19, 3) := by decide +kernel
theorem dX4_forget_4 : decode cX4_forget 4 = .ok (.aload_n 0, 1) := by decide +kernel
theorem dX4_forget_5 : decode cX4_forget 5 = .ok (.getfield 10, 3) := by decide +kernel
theorem dX4_forget_8 : decode cX4_forget 8 = .ok (.invokevirtual 44, 3) := by decide +kernel
theorem dX4_forget_11 : decode cX4_forget 11 = .ok (.aload_n 0, 1) := by decide +kernel
theorem dX4_forget_12 : decode cX4_forget 12 = .ok (.aload_n 0, 1) := by decide +kernel
theorem dX4_forget_13 : decode cX4_forget 13 = .ok (.getfield 10, 3) := by decide +kernel
theorem dX4_forget_16 : decode cX4_forget 16 = .ok (.invokevirtual 76, 3) := by decide +kernel
theorem dX4_forget_19 : decode cX4_forget 19 = .ok (.invokevirtual 52, 3) := by decide +kernel
theorem dX4_forget_22 : decode cX4_forget 22 = .ok (.ireturn, 1) := by decide +kernel
set_option maxRecDepth 20000 in
theorem ggX4_column_X3_isSeason : GoodIn wsX4_column wsX3_isSeason := goodIn_r _ [6, 7, 29, 30, 31, 32, 33, 34] (by decide +kernel) (by decide +kernel)
set_option maxRecDepth 20000 in
theorem gX4_column_X3_isSeason : GoodIn wsX4_column (wsV RX4 121 RX3 yX3_isSeason wsX3_isSeason) := goodIn_app (goodIn_of _ (by decide +kernel)) ggX4_column_X3_isSeason
set_option maxRecDepth 20000 in
theorem ggX4_column_X4_isName : GoodIn wsX4_column wsX4_isName := goodIn_r _ [11] (by decide +kernel) (by decide +kernel)
set_option maxRecDepth 20000 in
theorem gX4_column_X4_isName : GoodIn wsX4_column (va_wsS RX4 124 yX4_isName wsX4_isName) := goodIn_app (goodIn_of _ (by decide +kernel)) ggX4_column_X4_isName
set_option maxRecDepth 20000 in
theorem ggX4_column_X3_kindIn : GoodIn wsX4_column wsX3_kindIn := goodIn_r _ [15, 16, 29, 30, 31, 32, 33, 34] (by decide +kernel) (by decide +kernel)
set_option maxRecDepth 20000 in
theorem gX4_column_X3_kindIn : GoodIn wsX4_column (wsV RX4 127 RX3 yX3_kindIn wsX3_kindIn) := goodIn_app (goodIn_of _ (by decide +kernel)) ggX4_column_X3_kindIn
set_option maxRecDepth 20000 in
theorem ggX4_column_X3_standardIn : GoodIn wsX4_column wsX3_standardIn := goodIn_r _ [20, 21, 29, 30, 31, 32, 33, 34] (by decide +kernel) (by decide +kernel)
set_option maxRecDepth 20000 in
theorem gX4_column_X3_standardIn : GoodIn wsX4_column (wsV RX4 130 RX3 yX3_standardIn wsX3_standardIn) := goodIn_app (goodIn_of _ (by decide +kernel)) ggX4_column_X3_standardIn
theorem dX4_column_0 : decode cX4_column 0 = .ok (.aload_n 0, 1) := by decide +kernel
theorem dX4_column_1 : decode cX4_column 1 = .ok (.getfield 10, 3) := by decide +kernel
theorem dX4_column_4 : decode cX4_column 4 = .ok (.iload_n 1, 1) := by decide +kernel
theorem dX4_column_5 : decode cX4_column 5 = .ok (.invokevirtual 121, 3) := by decide +kernel
theorem dX4_column_8 : decode cX4_column 8 = .ok (.ifCond .eq 10, 3) := by decide +kernel
theorem dX4_column_11 : decode cX4_column 11 = .ok (.iload_n 2, 1) := by decide +kernel
theorem dX4_column_12 : decode cX4_column 12 = .ok (.invokestatic 124, 3) := by decide +kernel
theorem dX4_column_15 : decode cX4_column 15 = .ok (.ifCond .ne 7, 3) := by decide +kernel
theorem dX4_column_18 : decode cX4_column 18 = .ok (.sipush (-10001), 3) := by decide +kernel
theorem dX4_column_21 : decode cX4_column 21 = .ok (.ireturn, 1) := by decide +kernel
theorem dX4_column_22 : decode cX4_column 22 = .ok (.iload_n 3, 1) := by decide +kernel
theorem dX4_column_23 : decode cX4_column 23 = .ok (.ifCond .lt 8, 3) := by decide +kernel
theorem dX4_column_26 : decode cX4_column 26 = .ok (.iload_n 3, 1) := by decide +kernel
theorem dX4_column_27 : decode cX4_column 27 = .ok (.iconst 1, 1) := by decide +kernel
theorem dX4_column_28 : decode cX4_column 28 = .ok (.if_icmp .le 7, 3) := by decide +kernel
theorem dX4_column_31 : decode cX4_column 31 = .ok (.sipush (-10002), 3) := by decide +kernel
theorem dX4_column_34 : decode cX4_column 34 = .ok (.ireturn, 1) := by decide +kernel
theorem dX4_column_35 : decode cX4_column 35 = .ok (.aload_n 0, 1) := by decide +kernel
theorem dX4_column_36 : decode cX4_column 36 = .ok (.getfield 10, 3) := by decide +kernel
theorem dX4_column_39 : decode cX4_column 39 = .ok (.iload_n 1, 1) := by decide +kernel
theorem dX4_column_40 : decode cX4_column 40 = .ok (.iload_n 2, 1) := by decide +kernel
theorem dX4_column_41 : decode cX4_column 41 = .ok (.invokevirtual 127, 3) := by decide +kernel
theorem dX4_column_44 : decode cX4_column 44 = .ok (.istore 4, 2) := by decide +kernel
theorem dX4_column_46 : decode cX4_column 46 = .ok (.iload 4, 2) := by decide +kernel
theorem dX4_column_48 : decode cX4_column 48 = .ok (.iconst (-1), 1) := by decide +kernel
theorem dX4_column_49 : decode cX4_column 49 = .ok (.if_icmp .ne 7, 3) := by decide +kernel
theorem dX4_column_52 : decode cX4_column 52 = .ok (.sipush (-10005), 3) := by decide +kernel
theorem dX4_column_55 : decode cX4_column 55 = .ok (.ireturn, 1) := by decide +kernel
theorem dX4_column_56 : decode cX4_column 56 = .ok (.iload_n 3, 1) := by decide +kernel
theorem dX4_column_57 : decode cX4_column 57 = .ok (.ifCond .ne 8, 3) := by decide +kernel
theorem dX4_column_60 : decode cX4_column 60 = .ok (.iload 4, 2) := by decide +kernel
theorem dX4_column_62 : decode cX4_column 62 = .ok (.goto 12, 3) := by decide +kernel
theorem dX4_column_65 : decode cX4_column 65 = .ok (.aload_n 0, 1) := by decide +kernel
theorem dX4_column_66 : decode cX4_column 66 = .ok (.getfield 10, 3) := by decide +kernel
theorem dX4_column_69 : decode cX4_column 69 = .ok (.iload_n 1, 1) := by decide +kernel
theorem dX4_column_70 : decode cX4_column 70 = .ok (.iload_n 2, 1) := by decide +kernel
theorem dX4_column_71 : decode cX4_column 71 = .ok (.invokevirtual 130, 3) := by decide +kernel
theorem dX4_column_74 : decode cX4_column 74 = .ok (.ireturn, 1) := by decide +kernel
set_option maxRecDepth 20000 in
theorem ggX4_season_X3_isSeason : GoodIn wsX4_season wsX3_isSeason := goodIn_r _ [6, 7, 41, 42, 43, 44, 45, 46] (by decide +kernel) (by decide +kernel)
set_option maxRecDepth 20000 in
theorem gX4_season_X3_isSeason : GoodIn wsX4_season (wsV RX4 121 RX3 yX3_isSeason wsX3_isSeason) := goodIn_app (goodIn_of _ (by decide +kernel)) ggX4_season_X3_isSeason
set_option maxRecDepth 20000 in
theorem ggX4_season_X3_namesIn : GoodIn wsX4_season wsX3_namesIn := goodIn_r _ [11, 12, 13, 14, 5, 15, 16, 41, 42, 43, 44, 45, 46] (by decide +kernel) (by decide +kernel)
set_option maxRecDepth 20000 in
theorem gX4_season_X3_namesIn : GoodIn wsX4_season (wsV RX4 133 RX3 yX3_namesIn wsX3_namesIn) := goodIn_app (goodIn_of _ (by decide +kernel)) ggX4_season_X3_namesIn
set_option maxRecDepth 20000 in
theorem ggX4_season_J6_bitCount_0f7a4 : GoodIn wsX4_season wsJ6_bitCount_0f7a4 := goodIn_r _ [20, 21, 22, 23] (by decide +kernel) (by decide +kernel)
set_option maxRecDepth 20000 in
theorem gX4_season_J6_bitCount_0f7a4 : GoodIn wsX4_season (va_wsS RX4 136 yJ6_bitCount_0f7a4 wsJ6_bitCount_0f7a4) := goodIn_app (goodIn_of _ (by decide +kernel)) ggX4_season_J6_bitCount_0f7a4
set_option maxRecDepth 20000 in
theorem ggX4_season_X3_rowsOfSeason : GoodIn wsX4_season wsX3_rowsOfSeason := goodIn_r _ [27, 28, 29, 41, 42, 43, 44, 45, 46] (by decide +kernel) (by decide +kernel)
set_option maxRecDepth 20000 in
theorem gX4_season_X3_rowsOfSeason : GoodIn wsX4_season (wsV RX4 141 RX3 yX3_rowsOfSeason wsX3_rowsOfSeason) := goodIn_app (goodIn_of _ (by decide +kernel)) ggX4_season_X3_rowsOfSeason
set_option maxRecDepth 20000 in
theorem ggX4_season_X3_newColumnsIn : GoodIn wsX4_season wsX3_newColumnsIn := goodIn_r _ [33, 12, 13, 14, 5, 15, 16, 41, 42, 43, 44, 45, 46] (by decide +kernel) (by decide +kernel)
set_option maxRecDepth 20000 in
theorem gX4_season_X3_newColumnsIn : GoodIn wsX4_season (wsV RX4 144 RX3 yX3_newColumnsIn wsX3_newColumnsIn) := goodIn_app (goodIn_of _ (by decide +kernel)) ggX4_season_X3_newColumnsIn
theorem dX4_season_0 : decode cX4_season 0 = .ok (.aload_n 0, 1) := by decide +kernel
theorem dX4_season_1 : decode cX4_season 1 = .ok (.getfield 10, 3) := by decide +kernel
theorem dX4_season_4 : decode cX4_season 4 = .ok (.iload_n 1, 1) := by decide +kernel
theorem dX4_season_5 : decode cX4_season 5 = .ok (.invokevirtual 121, 3) := by decide +kernel
theorem dX4_season_8 : decode cX4_season 8 = .ok (.ifCond .ne 7, 3) := by decide +kernel
theorem dX4_season_11 : decode cX4_season 11 = .ok (.sipush (-10001), 3) := by decide +kernel
theorem dX4_season_14 : decode cX4_season 14 = .ok (.ireturn, 1) := by decide +kernel
theorem dX4_season_15 : decode cX4_season 15 = .ok (.iload_n 2, 1) := by decide +kernel
theorem dX4_season_16 : decode cX4_season 16 = .ok (.tableswitch 71 0 3 #[32, 44, 53, 62], 32) := by decide +kernel
theorem dX4_season_48 : decode cX4_season 48 = .ok (.aload_n 0, 1) := by decide +kernel
theorem dX4_season_49 : decode cX4_season 49 = .ok (.getfield 10, 3) := by decide +kernel
theorem dX4_season_52 : decode cX4_season 52 = .ok (.iload_n 1, 1) := by decide +kernel
theorem dX4_season_53 : decode cX4_season 53 = .ok (.invokevirtual 133, 3) := by decide +kernel
theorem dX4_season_56 : decode cX4_season 56 = .ok (.invokestatic 136, 3) := by decide +kernel
theorem dX4_season_59 : decode cX4_season 59 = .ok (.ireturn, 1) := by decide +kernel
theorem dX4_season_60 : decode cX4_season 60 = .ok (.aload_n 0, 1) := by decide +kernel
theorem dX4_season_61 : decode cX4_season 61 = .ok (.getfield 10, 3) := by decide +kernel
theorem dX4_season_64 : decode cX4_season 64 = .ok (.iload_n 1, 1) := by decide +kernel
theorem dX4_season_65 : decode cX4_season 65 = .ok (.invokevirtual 133, 3) := by decide +kernel
theorem dX4_season_68 : decode cX4_season 68 = .ok (.ireturn, 1) := by decide +kernel
theorem dX4_season_69 : decode cX4_season 69 = .ok (.aload_n 0, 1) := by decide +kernel
theorem dX4_season_70 : decode cX4_season 70 = .ok (.getfield 10, 3) := by decide +kernel
theorem dX4_season_73 : decode cX4_season 73 = .ok (.iload_n 1, 1) := by decide +kernel
theorem dX4_season_74 : decode cX4_season 74 = .ok (.invokevirtual 141, 3) := by decide +kernel
theorem dX4_season_77 : decode cX4_season 77 = .ok (.ireturn, 1) := by decide +kernel
theorem dX4_season_78 : decode cX4_season 78 = .ok (.aload_n 0, 1) := by decide +kernel
theorem dX4_season_79 : decode cX4_season 79 = .ok (.getfield 10, 3) := by decide +kernel
theorem dX4_season_82 : decode cX4_season 82 = .ok (.iload_n 1, 1) := by decide +kernel
theorem dX4_season_83 : decode cX4_season 83 = .ok (.invokevirtual 144, 3) := by decide +kernel
theorem dX4_season_86 : decode cX4_season 86 = .ok (.ireturn, 1) := by decide +kernel
theorem dX4_season_87 : decode cX4_season 87 = .ok (.sipush (-10002), 3) := by decide +kernel
theorem dX4_season_90 : decode cX4_season 90 = .ok (.ireturn, 1) := by decide +kernel
set_option maxRecDepth 20000 in
theorem ggX4_value_X3_isRow : GoodIn wsX4_value wsX3_isRow := goodIn_r _ [6, 7, 34, 35, 36, 37, 38, 39] (by decide +kernel) (by decide +kernel)
set_option maxRecDepth 20000 in
theorem gX4_value_X3_isRow : GoodIn wsX4_value (wsV RX4 147 RX3 yX3_isRow wsX3_isRow) := goodIn_app (goodIn_of _ (by decide +kernel)) ggX4_value_X3_isRow
set_option maxRecDepth 20000 in
theorem ggX4_value_X4_isName : GoodIn wsX4_value wsX4_isName := goodIn_r _ [11] (by decide +kernel) (by decide +kernel)
set_option maxRecDepth 20000 in
theorem gX4_value_X4_isName : GoodIn wsX4_value (va_wsS RX4 124 yX4_isName wsX4_isName) := goodIn_app (goodIn_of _ (by decide +kernel)) ggX4_value_X4_isName
set_option maxRecDepth 20000 in
theorem ggX4_value_X3_kindInRow : GoodIn wsX4_value wsX3_kindInRow := goodIn_r _ [15, 16, 17, 18, 19, 5, 20, 21, 34, 35, 36, 37, 38, 39] (by decide +kernel) (by decide +kernel)
set_option maxRecDepth 20000 in
theorem gX4_value_X3_kindInRow : GoodIn wsX4_value (wsV RX4 150 RX3 yX3_kindInRow wsX3_kindInRow) := goodIn_app (goodIn_of _ (by decide +kernel)) ggX4_value_X3_kindInRow
set_option maxRecDepth 20000 in
theorem ggX4_value_X3_valueAt : GoodIn wsX4_value wsX3_valueAt := goodIn_r _ [25, 26, 34, 35, 36, 37, 38, 39] (by decide +kernel) (by decide +kernel)
set_option maxRecDepth 20000 in
theorem gX4_value_X3_valueAt : GoodIn wsX4_value (wsV RX4 153 RX3 yX3_valueAt wsX3_valueAt) := goodIn_app (goodIn_of _ (by decide +kernel)) ggX4_value_X3_valueAt
theorem dX4_value_0 : decode cX4_value 0 = .ok (.aload_n 0, 1) := by decide +kernel
theorem dX4_value_1 : decode cX4_value 1 = .ok (.getfield 10, 3) := by decide +kernel
theorem dX4_value_4 : decode cX4_value 4 = .ok (.iload_n 1, 1) := by decide +kernel
theorem dX4_value_5 : decode cX4_value 5 = .ok (.invokevirtual 147, 3) := by decide +kernel
theorem dX4_value_8 : decode cX4_value 8 = .ok (.ifCond .eq 10, 3) := by decide +kernel
theorem dX4_value_11 : decode cX4_value 11 = .ok (.iload_n 2, 1) := by decide +kernel
theorem dX4_value_12 : decode cX4_value 12 = .ok (.invokestatic 124, 3) := by decide +kernel
theorem dX4_value_15 : decode cX4_value 15 = .ok (.ifCond .ne 7, 3) := by decide +kernel
theorem dX4_value_18 : decode cX4_value 18 = .ok (.sipush (-10001), 3) := by decide +kernel
theorem dX4_value_21 : decode cX4_value 21 = .ok (.ireturn, 1) := by decide +kernel
theorem dX4_value_22 : decode cX4_value 22 = .ok (.aload_n 0, 1) := by decide +kernel
theorem dX4_value_23 : decode cX4_value 23 = .ok (.getfield 10, 3) := by decide +kernel
theorem dX4_value_26 : decode cX4_value 26 = .ok (.iload_n 1, 1) := by decide +kernel
theorem dX4_value_27 : decode cX4_value 27 = .ok (.iload_n 2, 1) := by decide +kernel
theorem dX4_value_28 : decode cX4_value 28 = .ok (.invokevirtual 150, 3) := by decide +kernel
theorem dX4_value_31 : decode cX4_value 31 = .ok (.iconst (-1), 1) := by decide +kernel
theorem dX4_value_32 : decode cX4_value 32 = .ok (.if_icmp .ne 9, 3) := by decide +kernel
theorem dX4_value_35 : decode cX4_value 35 = .ok (.sipush (-10005), 3) := by decide +kernel
theorem dX4_value_38 : decode cX4_value 38 = .ok (.goto 12, 3) := by decide +kernel
theorem dX4_value_41 : decode cX4_value 41 = .ok (.aload_n 0, 1) := by decide +kernel
theorem dX4_value_42 : decode cX4_value 42 = .ok (.getfield 10, 3) := by decide +kernel
theorem dX4_value_45 : decode cX4_value 45 = .ok (.iload_n 1, 1) := by decide +kernel
theorem dX4_value_46 : decode cX4_value 46 = .ok (.iload_n 2, 1) := by decide +kernel
theorem dX4_value_47 : decode cX4_value 47 = .ok (.invokevirtual 153, 3) := by decide +kernel
theorem dX4_value_50 : decode cX4_value 50 = .ok (.ireturn, 1) := by decide +kernel
set_option maxRecDepth 20000 in
theorem ggX4_read_X3_isRow : GoodIn wsX4_read wsX3_isRow := goodIn_r _ [6, 7, 71, 72, 73, 74, 75, 76] (by decide +kernel) (by decide +kernel)
set_option maxRecDepth 20000 in
theorem gX4_read_X3_isRow : GoodIn wsX4_read (wsV RX4 147 RX3 yX3_isRow wsX3_isRow) := goodIn_app (goodIn_of _ (by decide +kernel)) ggX4_read_X3_isRow
set_option maxRecDepth 20000 in
theorem ggX4_read_X3_isSeason : GoodIn wsX4_read wsX3_isSeason := goodIn_r _ [11, 12, 71, 72, 73, 74, 75, 76] (by decide +kernel) (by decide +kernel)
set_option maxRecDepth 20000 in
theorem gX4_read_X3_isSeason : GoodIn wsX4_read (wsV RX4 121 RX3 yX3_isSeason wsX3_isSeason) := goodIn_app (goodIn_of _ (by decide +kernel)) ggX4_read_X3_isSeason
set_option maxRecDepth 20000 in
theorem ggX4_read_X4_isName : GoodIn wsX4_read wsX4_isName := goodIn_r _ [16] (by decide +kernel) (by decide +kernel)
set_option maxRecDepth 20000 in
theorem gX4_read_X4_isName : GoodIn wsX4_read (va_wsS RX4 124 yX4_isName wsX4_isName) := goodIn_app (goodIn_of _ (by decide +kernel)) ggX4_read_X4_isName
set_option maxRecDepth 20000 in
theorem ggX4_read_X3_kindIn : GoodIn wsX4_read wsX3_kindIn := goodIn_r _ [20, 21, 71, 72, 73, 74, 75, 76] (by decide +kernel) (by decide +kernel)
set_option maxRecDepth 20000 in
theorem gX4_read_X3_kindIn : GoodIn wsX4_read (wsV RX4 127 RX3 yX3_kindIn wsX3_kindIn) := goodIn_app (goodIn_of _ (by decide +kernel)) ggX4_read_X3_kindIn
set_option maxRecDepth 20000 in
theorem ggX4_read_X3_readIn : GoodIn wsX4_read wsX3_readIn := goodIn_r _ [25, 26, 27, 28, 5, 29, 30, 31, 18, 19, 20, 21, 32, 33, 34, 35, 36, 37, 38, 39, 40, 41, 42, 15, 43, 44, 45, 46, 47, 48, 49, 50, 51, 52, 53, 54, 55, 56, 71, 72, 73, 74, 75, 76] (by decide +kernel) (by decide +kernel)
set_option maxRecDepth 20000 in
theorem gX4_read_X3_readIn : GoodIn wsX4_read (wsV RX4 156 RX3 yX3_readIn wsX3_readIn) := goodIn_app (goodIn_of _ (by decide +kernel)) ggX4_read_X3_readIn
set_option maxRecDepth 20000 in
theorem ggX4_read_X3_howReadIn : GoodIn wsX4_read wsX3_howReadIn := goodIn_r _ [60, 26, 27, 28, 5, 29, 30, 31, 18, 19, 20, 21, 37, 38, 39, 40, 41, 61, 15, 62, 63, 42, 43, 44, 45, 46, 47, 48, 49, 50, 51, 52, 53, 54, 55, 56, 71, 72, 73, 74, 75, 76] (by decide +kernel) (by decide +kernel)
set_option maxRecDepth 20000 in
theorem gX4_read_X3_howReadIn : GoodIn wsX4_read (wsV RX4 159 RX3 yX3_howReadIn wsX3_howReadIn) := goodIn_app (goodIn_of _ (by decide +kernel)) ggX4_read_X3_howReadIn
theorem dX4_read_0 : decode cX4_read 0 = .ok (.aload_n 0, 1) := by decide +kernel
theorem dX4_read_1 : decode cX4_read 1 = .ok (.getfield 10, 3) := by decide +kernel
theorem dX4_read_4 : decode cX4_read 4 = .ok (.iload_n 1, 1) := by decide +kernel
theorem dX4_read_5 : decode cX4_read 5 = .ok (.invokevirtual 147, 3) := by decide +kernel
theorem dX4_read_8 : decode cX4_read 8 = .ok (.ifCond .eq 21, 3) := by decide +kernel
theorem dX4_read_11 : decode cX4_read 11 = .ok (.aload_n 0, 1) := by decide +kernel
theorem dX4_read_12 : decode cX4_read 12 = .ok (.getfield 10, 3) := by decide +kernel
theorem dX4_read_15 : decode cX4_read 15 = .ok (.iload_n 2, 1) := by decide +kernel
theorem dX4_read_16 : decode cX4_read 16 = .ok (.invokevirtual 121, 3) := by decide +kernel
theorem dX4_read_19 : decode cX4_read 19 = .ok (.ifCond .eq 10, 3) := by decide +kernel
theorem dX4_read_22 : decode cX4_read 22 = .ok (.iload_n 3, 1) := by decide +kernel
theorem dX4_read_23 : decode cX4_read 23 = .ok (.invokestatic 124, 3) := by decide +kernel
theorem dX4_read_26 : decode cX4_read 26 = .ok (.ifCond .ne 7, 3) := by decide +kernel
theorem dX4_read_29 : decode cX4_read 29 = .ok (.sipush (-10001), 3) := by decide +kernel
theorem dX4_read_32 : decode cX4_read 32 = .ok (.ireturn, 1) := by decide +kernel
theorem dX4_read_33 : decode cX4_read 33 = .ok (.iload 4, 2) := by decide +kernel
theorem dX4_read_35 : decode cX4_read 35 = .ok (.ifCond .lt 9, 3) := by decide +kernel
theorem dX4_read_38 : decode cX4_read 38 = .ok (.iload 4, 2) := by decide +kernel
theorem dX4_read_40 : decode cX4_read 40 = .ok (.iconst 1, 1) := by decide +kernel
theorem dX4_read_41 : decode cX4_read 41 = .ok (.if_icmp .le 7, 3) := by decide +kernel
theorem dX4_read_44 : decode cX4_read 44 = .ok (.sipush (-10002), 3) := by decide +kernel
theorem dX4_read_47 : decode cX4_read 47 = .ok (.ireturn, 1) := by decide +kernel
theorem dX4_read_48 : decode cX4_read 48 = .ok (.aload_n 0, 1) := by decide +kernel
theorem dX4_read_49 : decode cX4_read 49 = .ok (.getfield 10, 3) := by decide +kernel
theorem dX4_read_52 : decode cX4_read 52 = .ok (.iload_n 2, 1) := by decide +kernel
theorem dX4_read_53 : decode cX4_read 53 = .ok (.iload_n 3, 1) := by decide +kernel
theorem dX4_read_54 : decode cX4_read 54 = .ok (.invokevirtual 127, 3) := by decide +kernel
theorem dX4_read_57 : decode cX4_read 57 = .ok (.iconst (-1), 1) := by decide +kernel
theorem dX4_read_58 : decode cX4_read 58 = .ok (.if_icmp .ne 7, 3) := by decide +kernel
theorem dX4_read_61 : decode cX4_read 61 = .ok (.sipush (-10005), 3) := by decide +kernel
theorem dX4_read_64 : decode cX4_read 64 = .ok (.ireturn, 1) := by decide +kernel
theorem dX4_read_65 : decode cX4_read 65 = .ok (.iload 4, 2) := by decide +kernel
theorem dX4_read_67 : decode cX4_read 67 = .ok (.ifCond .ne 16, 3) := by decide +kernel
theorem dX4_read_70 : decode cX4_read 70 = .ok (.aload_n 0, 1) := by decide +kernel
theorem dX4_read_71 : decode cX4_read 71 = .ok (.getfield 10, 3) := by decide +kernel
theorem dX4_read_74 : decode cX4_read 74 = .ok (.iload_n 2, 1) := by decide +kernel
theorem dX4_read_75 : decode cX4_read 75 = .ok (.iload_n 1, 1) := by decide +kernel
theorem dX4_read_76 : decode cX4_read 76 = .ok (.iload_n 3, 1) := by decide +kernel
theorem dX4_read_77 : decode cX4_read 77 = .ok (.invokevirtual 156, 3) := by decide +kernel
theorem dX4_read_80 : decode cX4_read 80 = .ok (.goto 13, 3) := by decide +kernel
theorem dX4_read_83 : decode cX4_read 83 = .ok (.aload_n 0, 1) := by decide +kernel
theorem dX4_read_84 : decode cX4_read 84 = .ok (.getfield 10, 3) := by decide +kernel
theorem dX4_read_87 : decode cX4_read 87 = .ok (.iload_n 2, 1) := by decide +kernel
theorem dX4_read_88 : decode cX4_read 88 = .ok (.iload_n 1, 1) := by decide +kernel
theorem dX4_read_89 : decode cX4_read 89 = .ok (.iload_n 3, 1) := by decide +kernel
theorem dX4_read_90 : decode cX4_read 90 = .ok (.invokevirtual 159, 3) := by decide +kernel
theorem dX4_read_93 : decode cX4_read 93 = .ok (.ireturn, 1) := by decide +kernel
set_option maxRecDepth 20000 in
theorem ggX4_seasonOf_X3_isRow : GoodIn wsX4_seasonOf wsX3_isRow := goodIn_r _ [6, 7, 20, 21, 22, 23, 24, 25] (by decide +kernel) (by decide +kernel)
set_option maxRecDepth 20000 in
theorem gX4_seasonOf_X3_isRow : GoodIn wsX4_seasonOf (wsV RX4 147 RX3 yX3_isRow wsX3_isRow) := goodIn_app (goodIn_of _ (by decide +kernel)) ggX4_seasonOf_X3_isRow
set_option maxRecDepth 20000 in
theorem ggX4_seasonOf_X3_seasonOfRow : GoodIn wsX4_seasonOf wsX3_seasonOfRow := goodIn_r _ [11, 12, 20, 21, 22, 23, 24, 25] (by decide +kernel) (by decide +kernel)
set_option maxRecDepth 20000 in
theorem gX4_seasonOf_X3_seasonOfRow : GoodIn wsX4_seasonOf (wsV RX4 162 RX3 yX3_seasonOfRow wsX3_seasonOfRow) := goodIn_app (goodIn_of _ (by decide +kernel)) ggX4_seasonOf_X3_seasonOfRow
theorem dX4_seasonOf_0 : decode cX4_seasonOf 0 = .ok (.aload_n 0, 1) := by decide +kernel
theorem dX4_seasonOf_1 : decode cX4_seasonOf 1 = .ok (.getfield 10, 3) := by decide +kernel
theorem dX4_seasonOf_4 : decode cX4_seasonOf 4 = .ok (.iload_n 1, 1) := by decide +kernel
theorem dX4_seasonOf_5 : decode cX4_seasonOf 5 = .ok (.invokevirtual 147, 3) := by decide +kernel
theorem dX4_seasonOf_8 : decode cX4_seasonOf 8 = .ok (.ifCond .eq 14, 3) := by decide +kernel
theorem dX4_seasonOf_11 : decode cX4_seasonOf 11 = .ok (.aload_n 0, 1) := by decide +kernel
theorem dX4_seasonOf_12 : decode cX4_seasonOf 12 = .ok (.getfield 10, 3) := by decide +kernel
theorem dX4_seasonOf_15 : decode cX4_seasonOf 15 = .ok (.iload_n 1, 1) := by decide +kernel
theorem dX4_seasonOf_16 : decode cX4_seasonOf 16 = .ok (.invokevirtual 162, 3) := by decide +kernel
theorem dX4_seasonOf_19 : decode cX4_seasonOf 19 = .ok (.goto 6, 3) := by decide +kernel
theorem dX4_seasonOf_22 : decode cX4_seasonOf 22 = .ok (.sipush (-10001), 3) := by decide +kernel
theorem dX4_seasonOf_25 : decode cX4_seasonOf 25 = .ok (.ireturn, 1) := by decide +kernel
set_option maxRecDepth 20000 in
theorem ggX4_view_X3_isRow : GoodIn wsX4_view wsX3_isRow := goodIn_r _ [10, 11, 56, 57, 58, 59, 60, 61] (by decide +kernel) (by decide +kernel)
set_option maxRecDepth 20000 in
theorem gX4_view_X3_isRow : GoodIn wsX4_view (wsV RX4 147 RX3 yX3_isRow wsX3_isRow) := goodIn_app (goodIn_of _ (by decide +kernel)) ggX4_view_X3_isRow
set_option maxRecDepth 20000 in
theorem ggX4_view_X3_sharedNames : GoodIn wsX4_view wsX3_sharedNames := goodIn_r _ [15, 16, 17, 18, 19, 9, 20, 21, 22, 23, 24, 25, 56, 57, 58, 59, 60, 61] (by decide +kernel) (by decide +kernel)
set_option maxRecDepth 20000 in
theorem gX4_view_X3_sharedNames : GoodIn wsX4_view (wsV RX4 165 RX3 yX3_sharedNames wsX3_sharedNames) := goodIn_app (goodIn_of _ (by decide +kernel)) ggX4_view_X3_sharedNames
set_option maxRecDepth 20000 in
theorem ggX4_view_X3_defaultsInView : GoodIn wsX4_view wsX3_defaultsInView := goodIn_r _ [29, 30, 13, 14, 9, 15, 16, 17, 18, 19, 20, 21, 22, 23, 24, 25, 31, 32, 33, 34, 35, 36, 37, 38, 39, 40, 41, 42, 43, 44, 45, 46, 47, 48, 56, 57, 58, 59, 60, 61] (by decide +kernel) (by decide +kernel)
set_option maxRecDepth 20000 in
theorem gX4_view_X3_defaultsInView : GoodIn wsX4_view (wsV RX4 173 RX3 yX3_defaultsInView wsX3_defaultsInView) := goodIn_app (goodIn_of _ (by decide +kernel)) ggX4_view_X3_defaultsInView
theorem dX4_view_0 : decode cX4_view 0 = .ok (.aload_n 0, 1) := by decide +kernel
theorem dX4_view_1 : decode cX4_view 1 = .ok (.getfield 10, 3) := by decide +kernel
theorem dX4_view_4 : decode cX4_view 4 = .ok (.iload_n 1, 1) := by decide +kernel
theorem dX4_view_5 : decode cX4_view 5 = .ok (.invokevirtual 147, 3) := by decide +kernel
theorem dX4_view_8 : decode cX4_view 8 = .ok (.ifCond .eq 14, 3) := by decide +kernel
theorem dX4_view_11 : decode cX4_view 11 = .ok (.aload_n 0, 1) := by decide +kernel
theorem dX4_view_12 : decode cX4_view 12 = .ok (.getfield 10, 3) := by decide +kernel
theorem dX4_view_15 : decode cX4_view 15 = .ok (.iload_n 2, 1) := by decide +kernel
theorem dX4_view_16 : decode cX4_view 16 = .ok (.invokevirtual 147, 3) := by decide +kernel
theorem dX4_view_19 : decode cX4_view 19 = .ok (.ifCond .ne 7, 3) := by decide +kernel
theorem dX4_view_22 : decode cX4_view 22 = .ok (.sipush (-10001), 3) := by decide +kernel
theorem dX4_view_25 : decode cX4_view 25 = .ok (.ireturn, 1) := by decide +kernel
theorem dX4_view_26 : decode cX4_view 26 = .ok (.iload_n 3, 1) := by decide +kernel
theorem dX4_view_27 : decode cX4_view 27 = .ok (.tableswitch 55 0 2 #[25, 35, 45], 25) := by decide +kernel
theorem dX4_view_52 : decode cX4_view 52 = .ok (.aload_n 0, 1) := by decide +kernel
theorem dX4_view_53 : decode cX4_view 53 = .ok (.getfield 10, 3) := by decide +kernel
theorem dX4_view_56 : decode cX4_view 56 = .ok (.iload_n 1, 1) := by decide +kernel
theorem dX4_view_57 : decode cX4_view 57 = .ok (.iload_n 2, 1) := by decide +kernel
theorem dX4_view_58 : decode cX4_view 58 = .ok (.invokevirtual 165, 3) := by decide +kernel
theorem dX4_view_61 : decode cX4_view 61 = .ok (.ireturn, 1) := by decide +kernel
theorem dX4_view_62 : decode cX4_view 62 = .ok (.iconst 0, 1) := by decide +kernel
theorem dX4_view_63 : decode cX4_view 63 = .ok (.iload_n 2, 1) := by decide +kernel
theorem dX4_view_64 : decode cX4_view 64 = .ok (.iload_n 1, 1) := by decide +kernel
theorem dX4_view_65 : decode cX4_view 65 = .ok (.isub, 1) := by decide +kernel
theorem dX4_view_66 : decode cX4_view 66 = .ok (.iconst 1, 1) := by decide +kernel
theorem dX4_view_67 : decode cX4_view 67 = .ok (.iadd, 1) := by decide +kernel
theorem dX4_view_68 : decode cX4_view 68 = .ok (.invokestatic 168, 3) := by decide +kernel
theorem dX4_view_71 : decode cX4_view 71 = .ok (.ireturn, 1) := by decide +kernel
theorem dX4_view_72 : decode cX4_view 72 = .ok (.aload_n 0, 1) := by decide +kernel
theorem dX4_view_73 : decode cX4_view 73 = .ok (.getfield 10, 3) := by decide +kernel
theorem dX4_view_76 : decode cX4_view 76 = .ok (.iload_n 1, 1) := by decide +kernel
theorem dX4_view_77 : decode cX4_view 77 = .ok (.iload_n 2, 1) := by decide +kernel
theorem dX4_view_78 : decode cX4_view 78 = .ok (.invokevirtual 173, 3) := by decide +kernel
theorem dX4_view_81 : decode cX4_view 81 = .ok (.ireturn, 1) := by decide +kernel
theorem dX4_view_82 : decode cX4_view 82 = .ok (.sipush (-10002), 3) := by decide +kernel
theorem dX4_view_85 : decode cX4_view 85 = .ok (.ireturn, 1) := by decide +kernel
set_option maxRecDepth 20000 in
theorem ggX4_viewColumn_X3_isRow : GoodIn wsX4_viewColumn wsX3_isRow := goodIn_r _ [6, 7, 76, 77, 78, 79, 80, 81] (by decide +kernel) (by decide +kernel)
set_option maxRecDepth 20000 in
theorem gX4_viewColumn_X3_isRow : GoodIn wsX4_viewColumn (wsV RX4 147 RX3 yX3_isRow wsX3_isRow) := goodIn_app (goodIn_of _ (by decide +kernel)) ggX4_viewColumn_X3_isRow
set_option maxRecDepth 20000 in
theorem ggX4_viewColumn_X4_isName : GoodIn wsX4_viewColumn wsX4_isName := goodIn_r _ [11] (by decide +kernel) (by decide +kernel)
set_option maxRecDepth 20000 in
theorem gX4_viewColumn_X4_isName : GoodIn wsX4_viewColumn (va_wsS RX4 124 yX4_isName wsX4_isName) := goodIn_app (goodIn_of _ (by decide +kernel)) ggX4_viewColumn_X4_isName
set_option maxRecDepth 20000 in
theorem ggX4_viewColumn_X3_sharedNames : GoodIn wsX4_viewColumn wsX3_sharedNames := goodIn_r _ [15, 16, 17, 18, 19, 5, 20, 21, 22, 23, 24, 25, 76, 77, 78, 79, 80, 81] (by decide +kernel) (by decide +kernel)
set_option maxRecDepth 20000 in
theorem gX4_viewColumn_X3_sharedNames : GoodIn wsX4_viewColumn (wsV RX4 165 RX3 yX3_sharedNames wsX3_sharedNames) := goodIn_app (goodIn_of _ (by decide +kernel)) ggX4_viewColumn_X3_sharedNames
set_option maxRecDepth 20000 in
theorem ggX4_viewColumn_X4_hasName : GoodIn wsX4_viewColumn wsX4_hasName := goodIn_r _ [28] (by decide +kernel) (by decide +kernel)
set_option maxRecDepth 20000 in
theorem gX4_viewColumn_X4_hasName : GoodIn wsX4_viewColumn (va_wsS RX4 176 yX4_hasName wsX4_hasName) := goodIn_app (goodIn_of _ (by decide +kernel)) ggX4_viewColumn_X4_hasName
set_option maxRecDepth 20000 in
theorem ggX4_viewColumn_X3_widestKind : GoodIn wsX4_viewColumn wsX3_widestKind := goodIn_r _ [32, 33, 34, 35, 36, 37, 38, 39, 5, 40, 16, 21, 22, 23, 24, 25, 76, 77, 78, 79, 80, 81] (by decide +kernel) (by decide +kernel)
set_option maxRecDepth 20000 in
theorem gX4_viewColumn_X3_widestKind : GoodIn wsX4_viewColumn (wsV RX4 180 RX3 yX3_widestKind wsX3_widestKind) := goodIn_app (goodIn_of _ (by decide +kernel)) ggX4_viewColumn_X3_widestKind
set_option maxRecDepth 20000 in
theorem ggX4_viewColumn_X3_sumOfValues : GoodIn wsX4_viewColumn wsX3_sumOfValues := goodIn_r _ [44, 45, 46, 47, 5, 48, 49, 76, 77, 78, 79, 80, 81] (by decide +kernel) (by decide +kernel)
set_option maxRecDepth 20000 in
theorem gX4_viewColumn_X3_sumOfValues : GoodIn wsX4_viewColumn (wsV RX4 183 RX3 yX3_sumOfValues wsX3_sumOfValues) := goodIn_app (goodIn_of _ (by decide +kernel)) ggX4_viewColumn_X3_sumOfValues
set_option maxRecDepth 20000 in
theorem ggX4_viewColumn_X3_leastValue : GoodIn wsX4_viewColumn wsX3_leastValue := goodIn_r _ [53, 54, 55, 35, 56, 45, 46, 47, 5, 48, 49, 76, 77, 78, 79, 80, 81] (by decide +kernel) (by decide +kernel)
set_option maxRecDepth 20000 in
theorem gX4_viewColumn_X3_leastValue : GoodIn wsX4_viewColumn (wsV RX4 186 RX3 yX3_leastValue wsX3_leastValue) := goodIn_app (goodIn_of _ (by decide +kernel)) ggX4_viewColumn_X3_leastValue
set_option maxRecDepth 20000 in
theorem ggX4_viewColumn_X3_greatestValue : GoodIn wsX4_viewColumn wsX3_greatestValue := goodIn_r _ [60, 33, 34, 35, 36, 45, 46, 47, 5, 48, 49, 76, 77, 78, 79, 80, 81] (by decide +kernel) (by decide +kernel)
set_option maxRecDepth 20000 in
theorem gX4_viewColumn_X3_greatestValue : GoodIn wsX4_viewColumn (wsV RX4 189 RX3 yX3_greatestValue wsX3_greatestValue) := goodIn_app (goodIn_of _ (by decide +kernel)) ggX4_viewColumn_X3_greatestValue
set_option maxRecDepth 20000 in
theorem ggX4_viewColumn_X3_unlikeValues : GoodIn wsX4_viewColumn wsX3_unlikeValues := goodIn_r _ [64, 65, 66, 67, 5, 68, 45, 46, 47, 48, 49, 76, 77, 78, 79, 80, 81] (by decide +kernel) (by decide +kernel)
set_option maxRecDepth 20000 in
theorem gX4_viewColumn_X3_unlikeValues : GoodIn wsX4_viewColumn (wsV RX4 192 RX3 yX3_unlikeValues wsX3_unlikeValues) := goodIn_app (goodIn_of _ (by decide +kernel)) ggX4_viewColumn_X3_unlikeValues
theorem dX4_viewColumn_0 : decode cX4_viewColumn 0 = .ok (.aload_n 0, 1) := by decide +kernel
theorem dX4_viewColumn_1 : decode cX4_viewColumn 1 = .ok (.getfield 10, 3) := by decide +kernel
theorem dX4_viewColumn_4 : decode cX4_viewColumn 4 = .ok (.iload_n 1, 1) := by decide +kernel
theorem dX4_viewColumn_5 : decode cX4_viewColumn 5 = .ok (.invokevirtual 147, 3) := by decide +kernel
theorem dX4_viewColumn_8 : decode cX4_viewColumn 8 = .ok (.ifCond .eq 21, 3) := by decide +kernel
theorem dX4_viewColumn_11 : decode cX4_viewColumn 11 = .ok (.aload_n 0, 1) := by decide +kernel
theorem dX4_viewColumn_12 : decode cX4_viewColumn 12 = .ok (.getfield 10, 3) := by decide +kernel
theorem dX4_viewColumn_15 : decode cX4_viewColumn 15 = .ok (.iload_n 2, 1) := by decide +kernel
theorem dX4_viewColumn_16 : decode cX4_viewColumn 16 = .ok (.invokevirtual 147, 3) := by decide +kernel
theorem dX4_viewColumn_19 : decode cX4_viewColumn 19 = .ok (.ifCond .eq 10, 3) := by decide +kernel
theorem dX4_viewColumn_22 : decode cX4_viewColumn 22 = .ok (.iload_n 3, 1) := by decide +kernel
theorem dX4_viewColumn_23 : decode cX4_viewColumn 23 = .ok (.invokestatic 124, 3) := by decide +kernel
theorem dX4_viewColumn_26 : decode cX4_viewColumn 26 = .ok (.ifCond .ne 7, 3) := by decide +kernel
theorem dX4_viewColumn_29 : decode cX4_viewColumn 29 = .ok (.sipush (-10001), 3) := by decide +kernel
theorem dX4_viewColumn_32 : decode cX4_viewColumn 32 = .ok (.ireturn, 1) := by decide +kernel
theorem dX4_viewColumn_33 : decode cX4_viewColumn 33 = .ok (.iload 4, 2) := by decide +kernel
theorem dX4_viewColumn_35 : decode cX4_viewColumn 35 = .ok (.ifCond .lt 9, 3) := by decide +kernel
theorem dX4_viewColumn_38 : decode cX4_viewColumn 38 = .ok (.iload 4, 2) := by decide +kernel
theorem dX4_viewColumn_40 : decode cX4_viewColumn 40 = .ok (.iconst 4, 1) := by decide +kernel
theorem dX4_viewColumn_41 : decode cX4_viewColumn 41 = .ok (.if_icmp .le 7, 3) := by decide +kernel
theorem dX4_viewColumn_44 : decode cX4_viewColumn 44 = .ok (.sipush (-10002), 3) := by decide +kernel
theorem dX4_viewColumn_47 : decode cX4_viewColumn 47 = .ok (.ireturn, 1) := by decide +kernel
theorem dX4_viewColumn_48 : decode cX4_viewColumn 48 = .ok (.aload_n 0, 1) := by decide +kernel
theorem dX4_viewColumn_49 : decode cX4_viewColumn 49 = .ok (.getfield 10, 3) := by decide +kernel
theorem dX4_viewColumn_52 : decode cX4_viewColumn 52 = .ok (.iload_n 1, 1) := by decide +kernel
theorem dX4_viewColumn_53 : decode cX4_viewColumn 53 = .ok (.iload_n 2, 1) := by decide +kernel
theorem dX4_viewColumn_54 : decode cX4_viewColumn 54 = .ok (.invokevirtual 165, 3) := by decide +kernel
theorem dX4_viewColumn_57 : decode cX4_viewColumn 57 = .ok (.iload_n 3, 1) := by decide +kernel
theorem dX4_viewColumn_58 : decode cX4_viewColumn 58 = .ok (.invokestatic 176, 3) := by decide +kernel
theorem dX4_viewColumn_61 : decode cX4_viewColumn 61 = .ok (.ifCond .ne 7, 3) := by decide +kernel
theorem dX4_viewColumn_64 : decode cX4_viewColumn 64 = .ok (.sipush (-10005), 3) := by decide +kernel
theorem dX4_viewColumn_67 : decode cX4_viewColumn 67 = .ok (.ireturn, 1) := by decide +kernel
theorem dX4_viewColumn_68 : decode cX4_viewColumn 68 = .ok (.iload 4, 2) := by decide +kernel
theorem dX4_viewColumn_70 : decode cX4_viewColumn 70 = .ok (.tableswitch 74 0 3 #[30, 41, 52, 63], 30) := by decide +kernel
theorem dX4_viewColumn_100 : decode cX4_viewColumn 100 = .ok (.aload_n 0, 1) := by decide +kernel
theorem dX4_viewColumn_101 : decode cX4_viewColumn 101 = .ok (.getfield 10, 3) := by decide +kernel
theorem dX4_viewColumn_104 : decode cX4_viewColumn 104 = .ok (.iload_n 1, 1) := by decide +kernel
theorem dX4_viewColumn_105 : decode cX4_viewColumn 105 = .ok (.iload_n 2, 1) := by decide +kernel
theorem dX4_viewColumn_106 : decode cX4_viewColumn 106 = .ok (.iload_n 3, 1) := by decide +kernel
theorem dX4_viewColumn_107 : decode cX4_viewColumn 107 = .ok (.invokevirtual 180, 3) := by decide +kernel
theorem dX4_viewColumn_110 : decode cX4_viewColumn 110 = .ok (.ireturn, 1) := by decide +kernel
theorem dX4_viewColumn_111 : decode cX4_viewColumn 111 = .ok (.aload_n 0, 1) := by decide +kernel
theorem dX4_viewColumn_112 : decode cX4_viewColumn 112 = .ok (.getfield 10, 3) := by decide +kernel
theorem dX4_viewColumn_115 : decode cX4_viewColumn 115 = .ok (.iload_n 1, 1) := by decide +kernel
theorem dX4_viewColumn_116 : decode cX4_viewColumn 116 = .ok (.iload_n 2, 1) := by decide +kernel
theorem dX4_viewColumn_117 : decode cX4_viewColumn 117 = .ok (.iload_n 3, 1) := by decide +kernel
theorem dX4_viewColumn_118 : decode cX4_viewColumn 118 = .ok (.invokevirtual 183, 3) := by decide +kernel
theorem dX4_viewColumn_121 : decode cX4_viewColumn 121 = .ok (.ireturn, 1) := by decide +kernel
theorem dX4_viewColumn_122 : decode cX4_viewColumn 122 = .ok (.aload_n 0, 1) := by decide +kernel
theorem dX4_viewColumn_123 : decode cX4_viewColumn 123 = .ok (.getfield 10, 3) := by decide +kernel
theorem dX4_viewColumn_126 : decode cX4_viewColumn 126 = .ok (.iload_n 1, 1) := by decide +kernel
theorem dX4_viewColumn_127 : decode cX4_viewColumn 127 = .ok (.iload_n 2, 1) := by decide +kernel
theorem dX4_viewColumn_128 : decode cX4_viewColumn 128 = .ok (.iload_n 3, 1) := by decide +kernel
theorem dX4_viewColumn_129 : decode cX4_viewColumn 129 = .ok (.invokevirtual 186, 3) := by decide +kernel
theorem dX4_viewColumn_132 : decode cX4_viewColumn 132 = .ok (.ireturn, 1) := by decide +kernel
theorem dX4_viewColumn_133 : decode cX4_viewColumn 133 = .ok (.aload_n 0, 1) := by decide +kernel
theorem dX4_viewColumn_134 : decode cX4_viewColumn 134 = .ok (.getfield 10, 3) := by decide +kernel
theorem dX4_viewColumn_137 : decode cX4_viewColumn 137 = .ok (.iload_n 1, 1) := by decide +kernel
theorem dX4_viewColumn_138 : decode cX4_viewColumn 138 = .ok (.iload_n 2, 1) := by decide +kernel
theorem dX4_viewColumn_139 : decode cX4_viewColumn 139 = .ok (.iload_n 3, 1) := by decide +kernel
theorem dX4_viewColumn_140 : decode cX4_viewColumn 140 = .ok (.invokevirtual 189, 3) := by decide +kernel
theorem dX4_viewColumn_143 : decode cX4_viewColumn 143 = .ok (.ireturn, 1) := by decide +kernel
theorem dX4_viewColumn_144 : decode cX4_viewColumn 144 = .ok (.aload_n 0, 1) := by decide +kernel
theorem dX4_viewColumn_145 : decode cX4_viewColumn 145 = .ok (.getfield 10, 3) := by decide +kernel
theorem dX4_viewColumn_148 : decode cX4_viewColumn 148 = .ok (.iload_n 1, 1) := by decide +kernel
theorem dX4_viewColumn_149 : decode cX4_viewColumn 149 = .ok (.iload_n 2, 1) := by decide +kernel
theorem dX4_viewColumn_150 : decode cX4_viewColumn 150 = .ok (.iload_n 3, 1) := by decide +kernel
theorem dX4_viewColumn_151 : decode cX4_viewColumn 151 = .ok (.invokevirtual 192, 3) := by decide +kernel
theorem dX4_viewColumn_154 : decode cX4_viewColumn 154 = .ok (.ireturn, 1) := by decide +kernel
set_option maxRecDepth 20000 in
theorem ggX4_bestSeason_X3_seasonOfFewestLosses : GoodIn wsX4_bestSeason wsX3_seasonOfFewestLosses := goodIn_r _ [6, 7, 8, 9, 5, 10, 11, 12, 13, 14, 15, 16, 17, 18, 19, 20, 21, 22, 23, 24, 25, 26, 27, 28, 29, 30, 31, 32, 33, 34, 35, 36, 37, 38, 39, 40, 41, 42, 43, 44, 45, 46, 47, 48, 49, 50, 51, 52, 53, 54, 63, 64, 65, 66, 67, 68] (by decide +kernel) (by decide +kernel)
set_option maxRecDepth 20000 in
theorem gX4_bestSeason_X3_seasonOfFewestLosses : GoodIn wsX4_bestSeason (wsV RX4 198 RX3 yX3_seasonOfFewestLosses wsX3_seasonOfFewestLosses) := goodIn_app (goodIn_of _ (by decide +kernel)) ggX4_bestSeason_X3_seasonOfFewestLosses
set_option maxRecDepth 20000 in
theorem ggX4_bestSeason_X3_lossesIn : GoodIn wsX4_bestSeason wsX3_lossesIn := goodIn_r _ [15, 16, 17, 18, 19, 5, 20, 21, 22, 23, 24, 25, 26, 27, 28, 29, 30, 31, 32, 33, 34, 35, 36, 37, 38, 39, 40, 41, 42, 43, 44, 45, 46, 47, 48, 49, 50, 51, 52, 53, 54, 63, 64, 65, 66, 67, 68] (by decide +kernel) (by decide +kernel)
set_option maxRecDepth 20000 in
theorem gX4_bestSeason_X3_lossesIn : GoodIn wsX4_bestSeason (wsV RX4 201 RX3 yX3_lossesIn wsX3_lossesIn) := goodIn_app (goodIn_of _ (by decide +kernel)) ggX4_bestSeason_X3_lossesIn
theorem dX4_bestSeason_0 : decode cX4_bestSeason 0 = .ok (.iload_n 1, 1) := by decide +kernel
theorem dX4_bestSeason_1 : decode cX4_bestSeason 1 = .ok (.ifCond .lt 8, 3) := by decide +kernel
theorem dX4_bestSeason_4 : decode cX4_bestSeason 4 = .ok (.iload_n 1, 1) := by decide +kernel
theorem dX4_bestSeason_5 : decode cX4_bestSeason 5 = .ok (.iconst 1, 1) := by decide +kernel
theorem dX4_bestSeason_6 : decode cX4_bestSeason 6 = .ok (.if_icmp .le 7, 3) := by decide +kernel
theorem dX4_bestSeason_9 : decode cX4_bestSeason 9 = .ok (.sipush (-10002), 3) := by decide +kernel
theorem dX4_bestSeason_12 : decode cX4_bestSeason 12 = .ok (.ireturn, 1) := by decide +kernel
theorem dX4_bestSeason_13 : decode cX4_bestSeason 13 = .ok (.aload_n 0, 1) := by decide +kernel
theorem dX4_bestSeason_14 : decode cX4_bestSeason 14 = .ok (.getfield 10, 3) := by decide +kernel
theorem dX4_bestSeason_17 : decode cX4_bestSeason 17 = .ok (.invokevirtual 198, 3) := by decide +kernel
theorem dX4_bestSeason_20 : decode cX4_bestSeason 20 = .ok (.istore_n 2, 1) := by decide +kernel
theorem dX4_bestSeason_21 : decode cX4_bestSeason 21 = .ok (.iload_n 1, 1) := by decide +kernel
theorem dX4_bestSeason_22 : decode cX4_bestSeason 22 = .ok (.ifCond .ne 7, 3) := by decide +kernel
theorem dX4_bestSeason_25 : decode cX4_bestSeason 25 = .ok (.iload_n 2, 1) := by decide +kernel
theorem dX4_bestSeason_26 : decode cX4_bestSeason 26 = .ok (.goto 11, 3) := by decide +kernel
theorem dX4_bestSeason_29 : decode cX4_bestSeason 29 = .ok (.aload_n 0, 1) := by decide +kernel
theorem dX4_bestSeason_30 : decode cX4_bestSeason 30 = .ok (.getfield 10, 3) := by decide +kernel
theorem dX4_bestSeason_33 : decode cX4_bestSeason 33 = .ok (.iload_n 2, 1) := by decide +kernel
theorem dX4_bestSeason_34 : decode cX4_bestSeason 34 = .ok (.invokevirtual 201, 3) := by decide +kernel
theorem dX4_bestSeason_37 : decode cX4_bestSeason 37 = .ok (.ireturn, 1) := by decide +kernel
set_option maxRecDepth 20000 in
theorem ggX4_count_X3_now : GoodIn wsX4_count wsX3_now := goodIn_r _ [8, 9, 85, 86, 87, 88, 89, 90] (by decide +kernel) (by decide +kernel)
set_option maxRecDepth 20000 in
theorem gX4_count_X3_now : GoodIn wsX4_count (wsV RX4 204 RX3 yX3_now wsX3_now) := goodIn_app (goodIn_of _ (by decide +kernel)) ggX4_count_X3_now
set_option maxRecDepth 20000 in
theorem ggX4_count_X3_namesIn : GoodIn wsX4_count wsX3_namesIn := goodIn_r _ [13, 14, 15, 16, 7, 17, 18, 85, 86, 87, 88, 89, 90] (by decide +kernel) (by decide +kernel)
set_option maxRecDepth 20000 in
theorem gX4_count_X3_namesIn : GoodIn wsX4_count (wsV RX4 133 RX3 yX3_namesIn wsX3_namesIn) := goodIn_app (goodIn_of _ (by decide +kernel)) ggX4_count_X3_namesIn
set_option maxRecDepth 20000 in
theorem ggX4_count_J6_bitCount_0f7a4 : GoodIn wsX4_count wsJ6_bitCount_0f7a4 := goodIn_r _ [22, 23, 24, 25] (by decide +kernel) (by decide +kernel)
set_option maxRecDepth 20000 in
theorem gX4_count_J6_bitCount_0f7a4 : GoodIn wsX4_count (va_wsS RX4 136 yJ6_bitCount_0f7a4 wsJ6_bitCount_0f7a4) := goodIn_app (goodIn_of _ (by decide +kernel)) ggX4_count_J6_bitCount_0f7a4
set_option maxRecDepth 20000 in
theorem ggX4_count_X3_rowsOfSeason : GoodIn wsX4_count wsX3_rowsOfSeason := goodIn_r _ [29, 30, 31, 85, 86, 87, 88, 89, 90] (by decide +kernel) (by decide +kernel)
set_option maxRecDepth 20000 in
theorem gX4_count_X3_rowsOfSeason : GoodIn wsX4_count (wsV RX4 141 RX3 yX3_rowsOfSeason wsX3_rowsOfSeason) := goodIn_app (goodIn_of _ (by decide +kernel)) ggX4_count_X3_rowsOfSeason
set_option maxRecDepth 20000 in
theorem ggX4_count_X3_valuesOfAllRows : GoodIn wsX4_count wsX3_valuesOfAllRows := goodIn_r _ [35, 30, 31, 36, 11, 12, 7, 13, 14, 15, 16, 17, 18, 37, 20, 21, 22, 23, 24, 25, 85, 86, 87, 88, 89, 90] (by decide +kernel) (by decide +kernel)
set_option maxRecDepth 20000 in
theorem gX4_count_X3_valuesOfAllRows : GoodIn wsX4_count (wsV RX4 207 RX3 yX3_valuesOfAllRows wsX3_valuesOfAllRows) := goodIn_app (goodIn_of _ (by decide +kernel)) ggX4_count_X3_valuesOfAllRows
set_option maxRecDepth 20000 in
theorem ggX4_count_X3_lossesIn : GoodIn wsX4_count wsX3_lossesIn := goodIn_r _ [41, 30, 42, 43, 44, 7, 45, 46, 47, 48, 49, 31, 14, 15, 16, 17, 18, 50, 51, 52, 53, 54, 55, 56, 57, 58, 59, 60, 61, 62, 63, 64, 65, 66, 67, 68, 69, 70, 71, 72, 73, 85, 86, 87, 88, 89, 90] (by decide +kernel) (by decide +kernel)
set_option maxRecDepth 20000 in
theorem gX4_count_X3_lossesIn : GoodIn wsX4_count (wsV RX4 201 RX3 yX3_lossesIn wsX3_lossesIn) := goodIn_app (goodIn_of _ (by decide +kernel)) ggX4_count_X3_lossesIn
set_option maxRecDepth 20000 in
theorem ggX4_count_X3_namesOfAllSeasons : GoodIn wsX4_count wsX3_namesOfAllSeasons := goodIn_r _ [77, 9, 36, 11, 12, 7, 13, 14, 15, 16, 17, 18, 85, 86, 87, 88, 89, 90] (by decide +kernel) (by decide +kernel)
set_option maxRecDepth 20000 in
theorem gX4_count_X3_namesOfAllSeasons : GoodIn wsX4_count (wsV RX4 210 RX3 yX3_namesOfAllSeasons wsX3_namesOfAllSeasons) := goodIn_app (goodIn_of _ (by decide +kernel)) ggX4_count_X3_namesOfAllSeasons
theorem dX4_count_0 : decode cX4_count 0 = .ok (.iload_n 1, 1) := by decide +kernel
theorem dX4_count_1 : decode cX4_count 1 = .ok (.tableswitch 147 0 8 #[51, 59, 77, 85, 100, 108, 123, 131, 139], 51) := by decide +kernel
theorem dX4_count_52 : decode cX4_count 52 = .ok (.aload_n 0, 1) := by decide +kernel
theorem dX4_count_53 : decode cX4_count 53 = .ok (.getfield 10, 3) := by decide +kernel
theorem dX4_count_56 : decode cX4_count 56 = .ok (.invokevirtual 204, 3) := by decide +kernel
theorem dX4_count_59 : decode cX4_count 59 = .ok (.ireturn, 1) := by decide +kernel
theorem dX4_count_60 : decode cX4_count 60 = .ok (.aload_n 0, 1) := by decide +kernel
theorem dX4_count_61 : decode cX4_count 61 = .ok (.getfield 10, 3) := by decide +kernel
theorem dX4_count_64 : decode cX4_count 64 = .ok (.aload_n 0, 1) := by decide +kernel
theorem dX4_count_65 : decode cX4_count 65 = .ok (.getfield 10, 3) := by decide +kernel
theorem dX4_count_68 : decode cX4_count 68 = .ok (.invokevirtual 204, 3) := by decide +kernel
theorem dX4_count_71 : decode cX4_count 71 = .ok (.invokevirtual 133, 3) := by decide +kernel
theorem dX4_count_74 : decode cX4_count 74 = .ok (.invokestatic 136, 3) := by decide +kernel
theorem dX4_count_77 : decode cX4_count 77 = .ok (.ireturn, 1) := by decide +kernel
theorem dX4_count_78 : decode cX4_count 78 = .ok (.aload_n 0, 1) := by decide +kernel
theorem dX4_count_79 : decode cX4_count 79 = .ok (.getfield 10, 3) := by decide +kernel
theorem dX4_count_82 : decode cX4_count 82 = .ok (.getfield 118, 3) := by decide +kernel
theorem dX4_count_85 : decode cX4_count 85 = .ok (.ireturn, 1) := by decide +kernel
theorem dX4_count_86 : decode cX4_count 86 = .ok (.aload_n 0, 1) := by decide +kernel
theorem dX4_count_87 : decode cX4_count 87 = .ok (.getfield 10, 3) := by decide +kernel
theorem dX4_count_90 : decode cX4_count 90 = .ok (.aload_n 0, 1) := by decide +kernel
theorem dX4_count_91 : decode cX4_count 91 = .ok (.getfield 10, 3) := by decide +kernel
theorem dX4_count_94 : decode cX4_count 94 = .ok (.invokevirtual 204, 3) := by decide +kernel
theorem dX4_count_97 : decode cX4_count 97 = .ok (.invokevirtual 141, 3) := by decide +kernel
theorem dX4_count_100 : decode cX4_count 100 = .ok (.ireturn, 1) := by decide +kernel
theorem dX4_count_101 : decode cX4_count 101 = .ok (.aload_n 0, 1) := by decide +kernel
theorem dX4_count_102 : decode cX4_count 102 = .ok (.getfield 10, 3) := by decide +kernel
theorem dX4_count_105 : decode cX4_count 105 = .ok (.invokevirtual 207, 3) := by decide +kernel
theorem dX4_count_108 : decode cX4_count 108 = .ok (.ireturn, 1) := by decide +kernel
theorem dX4_count_109 : decode cX4_count 109 = .ok (.aload_n 0, 1) := by decide +kernel
theorem dX4_count_110 : decode cX4_count 110 = .ok (.getfield 10, 3) := by decide +kernel
theorem dX4_count_113 : decode cX4_count 113 = .ok (.aload_n 0, 1) := by decide +kernel
theorem dX4_count_114 : decode cX4_count 114 = .ok (.getfield 10, 3) := by decide +kernel
theorem dX4_count_117 : decode cX4_count 117 = .ok (.invokevirtual 204, 3) := by decide +kernel
theorem dX4_count_120 : decode cX4_count 120 = .ok (.invokevirtual 201, 3) := by decide +kernel
theorem dX4_count_123 : decode cX4_count 123 = .ok (.ireturn, 1) := by decide +kernel
theorem dX4_count_124 : decode cX4_count 124 = .ok (.aload_n 0, 1) := by decide +kernel
theorem dX4_count_125 : decode cX4_count 125 = .ok (.getfield 10, 3) := by decide +kernel
theorem dX4_count_128 : decode cX4_count 128 = .ok (.invokevirtual 210, 3) := by decide +kernel
theorem dX4_count_131 : decode cX4_count 131 = .ok (.ireturn, 1) := by decide +kernel
theorem dX4_count_132 : decode cX4_count 132 = .ok (.aload_n 0, 1) := by decide +kernel
theorem dX4_count_133 : decode cX4_count 133 = .ok (.getfield 19, 3) := by decide +kernel
theorem dX4_count_136 : decode cX4_count 136 = .ok (.getfield 114, 3) := by decide +kernel
theorem dX4_count_139 : decode cX4_count 139 = .ok (.ireturn, 1) := by decide +kernel
theorem dX4_count_140 : decode cX4_count 140 = .ok (.aload_n 0, 1) := by decide +kernel
theorem dX4_count_141 : decode cX4_count 141 = .ok (.getfield 33, 3) := by decide +kernel
theorem dX4_count_144 : decode cX4_count 144 = .ok (.getfield 83, 3) := by decide +kernel
theorem dX4_count_147 : decode cX4_count 147 = .ok (.ireturn, 1) := by decide +kernel
theorem dX4_count_148 : decode cX4_count 148 = .ok (.sipush (-10002), 3) := by decide +kernel
theorem dX4_count_151 : decode cX4_count 151 = .ok (.ireturn, 1) := by decide +kernel
set_option maxRecDepth 20000 in
theorem ggX4_recordIfDone_X4_isError : GoodIn wsX4_recordIfDone wsX4_isError := goodIn_r _ [5] (by decide +kernel) (by decide +kernel)
set_option maxRecDepth 20000 in
theorem gX4_recordIfDone_X4_isError : GoodIn wsX4_recordIfDone (va_wsS RX4 100 yX4_isError wsX4_isError) := goodIn_app (goodIn_of _ (by decide +kernel)) ggX4_recordIfDone_X4_isError
set_option maxRecDepth 20000 in
theorem ggX4_recordIfDone_X1_record : GoodIn wsX4_recordIfDone wsX1_record := goodIn_r _ [10, 11, 12, 20, 21, 22] (by decide +kernel) (by decide +kernel)
set_option maxRecDepth 20000 in
theorem gX4_recordIfDone_X1_record : GoodIn wsX4_recordIfDone (wsV RX4 111 RX1 yX1_record wsX1_record) := goodIn_app (goodIn_of _ (by decide +kernel)) ggX4_recordIfDone_X1_record
theorem dX4_recordIfDone_0 : decode cX4_recordIfDone 0 = .ok (.iload_n 1, 1) := by decide +kernel
theorem dX4_recordIfDone_1 : decode cX4_recordIfDone 1 = .ok (.invokestatic 100, 3) := by decide +kernel
theorem dX4_recordIfDone_4 : decode cX4_recordIfDone 4 = .ok (.ifCond .ne 17, 3) := by decide +kernel
theorem dX4_recordIfDone_7 : decode cX4_recordIfDone 7 = .ok (.iload_n 1, 1) := by decide +kernel
theorem dX4_recordIfDone_8 : decode cX4_recordIfDone 8 = .ok (.sipush (-10005), 3) := by decide +kernel
theorem dX4_recordIfDone_11 : decode cX4_recordIfDone 11 = .ok (.if_icmp .eq 10, 3) := by decide +kernel
theorem dX4_recordIfDone_14 : decode cX4_recordIfDone 14 = .ok (.aload_n 0, 1) := by decide +kernel
theorem dX4_recordIfDone_15 : decode cX4_recordIfDone 15 = .ok (.getfield 19, 3) := by decide +kernel
theorem dX4_recordIfDone_18 : decode cX4_recordIfDone 18 = .ok (.invokevirtual 111, 3) := by decide +kernel
theorem dX4_recordIfDone_21 : decode cX4_recordIfDone 21 = .ok (.iload_n 1, 1) := by decide +kernel
theorem dX4_recordIfDone_22 : decode cX4_recordIfDone 22 = .ok (.ireturn, 1) := by decide +kernel
theorem dX4_isError_0 : decode cX4_isError 0 = .ok (.iload_n 0, 1) := by decide +kernel
theorem dX4_isError_1 : decode cX4_isError 1 = .ok (.sipush (-10001), 3) := by decide +kernel
theorem dX4_isError_4 : decode cX4_isError 4 = .ok (.if_icmp .gt 14, 3) := by decide +kernel
theorem dX4_isError_7 : decode cX4_isError 7 = .ok (.iload_n 0, 1) := by decide +kernel
theorem dX4_isError_8 : decode cX4_isError 8 = .ok (.sipush (-10005), 3) := by decide +kernel
theorem dX4_isError_11 : decode cX4_isError 11 = .ok (.if_icmp .eq 7, 3) := by decide +kernel
theorem dX4_isError_14 : decode cX4_isError 14 = .ok (.iconst 1, 1) := by decide +kernel
theorem dX4_isError_15 : decode cX4_isError 15 = .ok (.goto 4, 3) := by decide +kernel
theorem dX4_isError_18 : decode cX4_isError 18 = .ok (.iconst 0, 1) := by decide +kernel
theorem dX4_isError_19 : decode cX4_isError 19 = .ok (.ireturn, 1) := by decide +kernel
theorem dX4_isName_0 : decode cX4_isName 0 = .ok (.iload_n 0, 1) := by decide +kernel
theorem dX4_isName_1 : decode cX4_isName 1 = .ok (.ifCond .lt 13, 3) := by decide +kernel
theorem dX4_isName_4 : decode cX4_isName 4 = .ok (.iload_n 0, 1) := by decide +kernel
theorem dX4_isName_5 : decode cX4_isName 5 = .ok (.bipush 8, 2) := by decide +kernel
theorem dX4_isName_7 : decode cX4_isName 7 = .ok (.if_icmp .ge 7, 3) := by decide +kernel
theorem dX4_isName_10 : decode cX4_isName 10 = .ok (.iconst 1, 1) := by decide +kernel
theorem dX4_isName_11 : decode cX4_isName 11 = .ok (.goto 4, 3) := by decide +kernel
theorem dX4_isName_14 : decode cX4_isName 14 = .ok (.iconst 0, 1) := by decide +kernel
theorem dX4_isName_15 : decode cX4_isName 15 = .ok (.ireturn, 1) := by decide +kernel
theorem dX4_isKind_0 : decode cX4_isKind 0 = .ok (.iload_n 0, 1) := by decide +kernel
theorem dX4_isKind_1 : decode cX4_isKind 1 = .ok (.ifCond .lt 12, 3) := by decide +kernel
theorem dX4_isKind_4 : decode cX4_isKind 4 = .ok (.iload_n 0, 1) := by decide +kernel
theorem dX4_isKind_5 : decode cX4_isKind 5 = .ok (.iconst 2, 1) := by decide +kernel
theorem dX4_isKind_6 : decode cX4_isKind 6 = .ok (.if_icmp .gt 7, 3) := by decide +kernel
theorem dX4_isKind_9 : decode cX4_isKind 9 = .ok (.iconst 1, 1) := by decide +kernel
theorem dX4_isKind_10 : decode cX4_isKind 10 = .ok (.goto 4, 3) := by decide +kernel
theorem dX4_isKind_13 : decode cX4_isKind 13 = .ok (.iconst 0, 1) := by decide +kernel
theorem dX4_isKind_14 : decode cX4_isKind 14 = .ok (.ireturn, 1) := by decide +kernel
theorem dX4_hasName_0 : decode cX4_hasName 0 = .ok (.iload_n 0, 1) := by decide +kernel
theorem dX4_hasName_1 : decode cX4_hasName 1 = .ok (.iconst 1, 1) := by decide +kernel
theorem dX4_hasName_2 : decode cX4_hasName 2 = .ok (.iload_n 1, 1) := by decide +kernel
theorem dX4_hasName_3 : decode cX4_hasName 3 = .ok (.ishl, 1) := by decide +kernel
theorem dX4_hasName_4 : decode cX4_hasName 4 = .ok (.iand, 1) := by decide +kernel
theorem dX4_hasName_5 : decode cX4_hasName 5 = .ok (.ifCond .eq 7, 3) := by decide +kernel
theorem dX4_hasName_8 : decode cX4_hasName 8 = .ok (.iconst 1, 1) := by decide +kernel
theorem dX4_hasName_9 : decode cX4_hasName 9 = .ok (.goto 4, 3) := by decide +kernel
theorem dX4_hasName_12 : decode cX4_hasName 12 = .ok (.iconst 0, 1) := by decide +kernel
theorem dX4_hasName_13 : decode cX4_hasName 13 = .ok (.ireturn, 1) := by decide +kernel
theorem dX4_leastOfKind_0 : decode cX4_leastOfKind 0 = .ok (.iload_n 0, 1) := by decide +kernel
theorem dX4_leastOfKind_1 : decode cX4_leastOfKind 1 = .ok (.iconst 2, 1) := by decide +kernel
theorem dX4_leastOfKind_2 : decode cX4_leastOfKind 2 = .ok (.if_icmp .ne 9, 3) := by decide +kernel
theorem dX4_leastOfKind_5 : decode cX4_leastOfKind 5 = .ok (.sipush (-9999), 3) := by decide +kernel
theorem dX4_leastOfKind_8 : decode cX4_leastOfKind 8 = .ok (.goto 4, 3) := by decide +kernel
theorem dX4_leastOfKind_11 : decode cX4_leastOfKind 11 = .ok (.iconst 0, 1) := by decide +kernel
theorem dX4_leastOfKind_12 : decode cX4_leastOfKind 12 = .ok (.ireturn, 1) := by decide +kernel
theorem dX4_greatestOfKind_0 : decode cX4_greatestOfKind 0 = .ok (.iload_n 0, 1) := by decide +kernel
theorem dX4_greatestOfKind_1 : decode cX4_greatestOfKind 1 = .ok (.ifCond .ne 5, 3) := by decide +kernel
theorem dX4_greatestOfKind_4 : decode cX4_greatestOfKind 4 = .ok (.iconst 1, 1) := by decide +kernel
theorem dX4_greatestOfKind_5 : decode cX4_greatestOfKind 5 = .ok (.ireturn, 1) := by decide +kernel
theorem dX4_greatestOfKind_6 : decode cX4_greatestOfKind 6 = .ok (.iload_n 0, 1) := by decide +kernel
theorem dX4_greatestOfKind_7 : decode cX4_greatestOfKind 7 = .ok (.iconst 1, 1) := by decide +kernel
theorem dX4_greatestOfKind_8 : decode cX4_greatestOfKind 8 = .ok (.if_icmp .ne 8, 3) := by decide +kernel
theorem dX4_greatestOfKind_11 : decode cX4_greatestOfKind 11 = .ok (.bipush 9, 2) := by decide +kernel
theorem dX4_greatestOfKind_13 : decode cX4_greatestOfKind 13 = .ok (.goto 6, 3) := by decide +kernel
theorem dX4_greatestOfKind_16 : decode cX4_greatestOfKind 16 = .ok (.sipush 9999, 3) := by decide +kernel
theorem dX4_greatestOfKind_19 : decode cX4_greatestOfKind 19 = .ok (.ireturn, 1) := by decide +kernel
set_option maxRecDepth 20000 in
theorem ggX4_isOfKind_X4_leastOfKind : GoodIn wsX4_isOfKind wsX4_leastOfKind := goodIn_r _ [4] (by decide +kernel) (by decide +kernel)
set_option maxRecDepth 20000 in
theorem gX4_isOfKind_X4_leastOfKind : GoodIn wsX4_isOfKind (va_wsS RX4 230 yX4_leastOfKind wsX4_leastOfKind) := goodIn_app (goodIn_of _ (by decide +kernel)) ggX4_isOfKind_X4_leastOfKind
set_option maxRecDepth 20000 in
theorem ggX4_isOfKind_X4_greatestOfKind : GoodIn wsX4_isOfKind wsX4_greatestOfKind := goodIn_r _ [7] (by decide +kernel) (by decide +kernel)
set_option maxRecDepth 20000 in
theorem gX4_isOfKind_X4_greatestOfKind : GoodIn wsX4_isOfKind (va_wsS RX4 233 yX4_greatestOfKind wsX4_greatestOfKind) := goodIn_app (goodIn_of _ (by decide +kernel)) ggX4_isOfKind_X4_greatestOfKind
theorem dX4_isOfKind_0 : decode cX4_isOfKind 0 = .ok (.iload_n 0, 1) := by decide +kernel
theorem dX4_isOfKind_1 : decode cX4_isOfKind 1 = .ok (.iload_n 1, 1) := by decide +kernel
theorem dX4_isOfKind_2 : decode cX4_isOfKind 2 = .ok (.invokestatic 230, 3) := by decide +kernel
theorem dX4_isOfKind_5 : decode cX4_isOfKind 5 = .ok (.if_icmp .lt 15, 3) := by decide +kernel
theorem dX4_isOfKind_8 : decode cX4_isOfKind 8 = .ok (.iload_n 0, 1) := by decide +kernel
theorem dX4_isOfKind_9 : decode cX4_isOfKind 9 = .ok (.iload_n 1, 1) := by decide +kernel
theorem dX4_isOfKind_10 : decode cX4_isOfKind 10 = .ok (.invokestatic 233, 3) := by decide +kernel
theorem dX4_isOfKind_13 : decode cX4_isOfKind 13 = .ok (.if_icmp .gt 7, 3) := by decide +kernel
theorem dX4_isOfKind_16 : decode cX4_isOfKind 16 = .ok (.iconst 1, 1) := by decide +kernel
theorem dX4_isOfKind_17 : decode cX4_isOfKind 17 = .ok (.goto 4, 3) := by decide +kernel
theorem dX4_isOfKind_20 : decode cX4_isOfKind 20 = .ok (.iconst 0, 1) := by decide +kernel
theorem dX4_isOfKind_21 : decode cX4_isOfKind 21 = .ok (.ireturn, 1) := by decide +kernel
set_option maxRecDepth 20000 in
theorem ggX4_castTo_X4_leastOfKind : GoodIn wsX4_castTo wsX4_leastOfKind := goodIn_r _ [11] (by decide +kernel) (by decide +kernel)
set_option maxRecDepth 20000 in
theorem gX4_castTo_X4_leastOfKind : GoodIn wsX4_castTo (va_wsS RX4 230 yX4_leastOfKind wsX4_leastOfKind) := goodIn_app (goodIn_of _ (by decide +kernel)) ggX4_castTo_X4_leastOfKind
set_option maxRecDepth 20000 in
theorem ggX4_castTo_X4_greatestOfKind : GoodIn wsX4_castTo wsX4_greatestOfKind := goodIn_r _ [14] (by decide +kernel) (by decide +kernel)
set_option maxRecDepth 20000 in
theorem gX4_castTo_X4_greatestOfKind : GoodIn wsX4_castTo (va_wsS RX4 233 yX4_greatestOfKind wsX4_greatestOfKind) := goodIn_app (goodIn_of _ (by decide +kernel)) ggX4_castTo_X4_greatestOfKind
theorem dX4_castTo_0 : decode cX4_castTo 0 = .ok (.iload_n 0, 1) := by decide +kernel
theorem dX4_castTo_1 : decode cX4_castTo 1 = .ok (.ifCond .ne 13, 3) := by decide +kernel
theorem dX4_castTo_4 : decode cX4_castTo 4 = .ok (.iload_n 1, 1) := by decide +kernel
theorem dX4_castTo_5 : decode cX4_castTo 5 = .ok (.ifCond .ne 7, 3) := by decide +kernel
theorem dX4_castTo_8 : decode cX4_castTo 8 = .ok (.iconst 0, 1) := by decide +kernel
theorem dX4_castTo_9 : decode cX4_castTo 9 = .ok (.goto 4, 3) := by decide +kernel
theorem dX4_castTo_12 : decode cX4_castTo 12 = .ok (.iconst 1, 1) := by decide +kernel
theorem dX4_castTo_13 : decode cX4_castTo 13 = .ok (.ireturn, 1) := by decide +kernel
theorem dX4_castTo_14 : decode cX4_castTo 14 = .ok (.iload_n 0, 1) := by decide +kernel
theorem dX4_castTo_15 : decode cX4_castTo 15 = .ok (.invokestatic 230, 3) := by decide +kernel
theorem dX4_castTo_18 : decode cX4_castTo 18 = .ok (.iload_n 0, 1) := by decide +kernel
theorem dX4_castTo_19 : decode cX4_castTo 19 = .ok (.invokestatic 233, 3) := by decide +kernel
theorem dX4_castTo_22 : decode cX4_castTo 22 = .ok (.iload_n 1, 1) := by decide +kernel
theorem dX4_castTo_23 : decode cX4_castTo 23 = .ok (.invokestatic 236, 3) := by decide +kernel
theorem dX4_castTo_26 : decode cX4_castTo 26 = .ok (.invokestatic 168, 3) := by decide +kernel
theorem dX4_castTo_29 : decode cX4_castTo 29 = .ok (.ireturn, 1) := by decide +kernel
set_option maxRecDepth 20000 in
theorem ggX4_castLoses_X4_castTo : GoodIn wsX4_castLoses wsX4_castTo := goodIn_r _ [4, 5, 6, 7, 8, 9, 10, 11, 12, 13, 3, 14, 15, 16, 17] (by decide +kernel) (by decide +kernel)
set_option maxRecDepth 20000 in
theorem gX4_castLoses_X4_castTo : GoodIn wsX4_castLoses (va_wsS RX4 239 yX4_castTo wsX4_castTo) := goodIn_app (goodIn_of _ (by decide +kernel)) ggX4_castLoses_X4_castTo
theorem dX4_castLoses_0 : decode cX4_castLoses 0 = .ok (.iload_n 1, 1) := by decide +kernel
theorem dX4_castLoses_1 : decode cX4_castLoses 1 = .ok (.iload_n 2, 1) := by decide +kernel
theorem dX4_castLoses_2 : decode cX4_castLoses 2 = .ok (.iload_n 0, 1) := by decide +kernel
theorem dX4_castLoses_3 : decode cX4_castLoses 3 = .ok (.invokestatic 239, 3) := by decide +kernel
theorem dX4_castLoses_6 : decode cX4_castLoses 6 = .ok (.invokestatic 239, 3) := by decide +kernel
theorem dX4_castLoses_9 : decode cX4_castLoses 9 = .ok (.iload_n 0, 1) := by decide +kernel
theorem dX4_castLoses_10 : decode cX4_castLoses 10 = .ok (.if_icmp .eq 7, 3) := by decide +kernel
theorem dX4_castLoses_13 : decode cX4_castLoses 13 = .ok (.iconst 1, 1) := by decide +kernel
theorem dX4_castLoses_14 : decode cX4_castLoses 14 = .ok (.goto 4, 3) := by decide +kernel
theorem dX4_castLoses_17 : decode cX4_castLoses 17 = .ok (.iconst 0, 1) := by decide +kernel
theorem dX4_castLoses_18 : decode cX4_castLoses 18 = .ok (.ireturn, 1) := by decide +kernel
