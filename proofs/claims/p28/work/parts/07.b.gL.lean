set_option maxRecDepth 20000 in
theorem ggL_act_L_cell : GoodIn wsL_act wsL_cell := goodIn_r _ [4, 5] (by decide +kernel) (by decide +kernel)
set_option maxRecDepth 20000 in
theorem gL_act_L_cell : GoodIn wsL_act (va_wsS RL 56 yL_cell wsL_cell) := goodIn_app (goodIn_of _ (by decide +kernel)) ggL_act_L_cell
set_option maxRecDepth 20000 in
theorem ggL_act_X4_count : GoodIn wsL_act wsX4_count := goodIn_r _ [10, 11, 12, 13, 14, 15, 16, 17, 18, 19, 20, 21, 22, 23, 24, 25, 26, 27, 28, 29, 30, 31, 32, 33, 34, 35, 36, 37, 38, 39, 40, 41, 42, 43, 44, 45, 46, 47, 48, 49, 50, 51, 52, 53, 54, 55, 56, 57, 58, 59, 60, 61, 62, 63, 64, 65, 9, 66, 67, 68, 69, 70, 71, 72, 73, 74, 75, 76, 77, 78, 79, 80, 81, 82, 83, 84, 85, 86, 244, 245, 246, 247, 248, 249, 250, 251, 252, 253, 254, 255, 256, 257, 258, 259, 260, 261, 262, 263, 264, 265] (by decide +kernel) (by decide +kernel)
set_option maxRecDepth 20000 in
theorem gL_act_X4_count : GoodIn wsL_act (wsV RL 22 RX4 yX4_count wsX4_count) := goodIn_app (goodIn_of _ (by decide +kernel)) ggL_act_X4_count
set_option maxRecDepth 20000 in
theorem ggL_act_L_low : GoodIn wsL_act wsL_low := goodIn_r _ [89, 90] (by decide +kernel) (by decide +kernel)
set_option maxRecDepth 20000 in
theorem gL_act_L_low : GoodIn wsL_act (va_wsS RL 9 yL_low wsL_low) := goodIn_app (goodIn_of _ (by decide +kernel)) ggL_act_L_low
set_option maxRecDepth 20000 in
theorem ggL_act_L_valued : GoodIn wsL_act wsL_valued := goodIn_r _ [93, 87, 88, 3, 89, 90, 94, 95, 96, 97, 98, 99] (by decide +kernel) (by decide +kernel)
set_option maxRecDepth 20000 in
theorem gL_act_L_valued : GoodIn wsL_act (va_wsS RL 60 yL_valued wsL_valued) := goodIn_app (goodIn_of _ (by decide +kernel)) ggL_act_L_valued
set_option maxRecDepth 20000 in
theorem ggL_act_X4_add : GoodIn wsL_act wsX4_add := goodIn_r _ [103, 12, 11, 104, 105, 106, 107, 108, 109, 110, 111, 112, 113, 114, 115, 116, 117, 118, 17, 119, 19, 28, 120, 121, 122, 123, 124, 40, 41, 64, 125, 126, 127, 128, 129, 9, 130, 131, 132, 133, 134, 77, 78, 79, 80, 81, 82, 135, 15, 16, 18, 24, 25, 26, 27, 136, 137, 138, 139, 140, 141, 142, 143, 144, 145, 146, 147, 148, 149, 150, 244, 245, 246, 247, 248, 249, 250, 257, 258, 259, 251, 252, 253, 254, 255, 256] (by decide +kernel) (by decide +kernel)
set_option maxRecDepth 20000 in
theorem gL_act_X4_add : GoodIn wsL_act (wsV RL 63 RX4 yX4_add wsX4_add) := goodIn_app (goodIn_of _ (by decide +kernel)) ggL_act_X4_add
set_option maxRecDepth 20000 in
theorem ggL_act_X4_drop : GoodIn wsL_act wsX4_drop := goodIn_r _ [154, 12, 11, 104, 105, 106, 107, 108, 109, 110, 111, 112, 113, 114, 115, 116, 117, 118, 17, 119, 19, 28, 120, 121, 122, 123, 124, 40, 41, 64, 155, 156, 157, 158, 129, 9, 130, 135, 15, 16, 18, 24, 25, 26, 27, 136, 137, 138, 139, 140, 141, 142, 143, 144, 145, 146, 147, 148, 149, 150, 244, 245, 246, 247, 248, 249, 250, 257, 258, 259, 251, 252, 253, 254, 255, 256] (by decide +kernel) (by decide +kernel)
set_option maxRecDepth 20000 in
theorem gL_act_X4_drop : GoodIn wsL_act (wsV RL 66 RX4 yX4_drop wsX4_drop) := goodIn_app (goodIn_of _ (by decide +kernel)) ggL_act_X4_drop
set_option maxRecDepth 20000 in
theorem ggL_act_X4_kind : GoodIn wsL_act wsX4_kind := goodIn_r _ [162, 12, 11, 104, 105, 106, 107, 108, 109, 110, 111, 112, 113, 114, 115, 116, 117, 118, 17, 119, 19, 28, 120, 121, 122, 123, 124, 40, 41, 64, 163, 164, 165, 166, 129, 9, 130, 135, 15, 16, 18, 24, 25, 26, 27, 131, 132, 167, 168, 169, 170, 68, 69, 70, 71, 72, 73, 74, 75, 76, 77, 78, 79, 80, 81, 82, 136, 137, 138, 139, 140, 141, 142, 143, 144, 145, 146, 147, 148, 149, 150, 244, 245, 246, 247, 248, 249, 250, 257, 258, 259, 251, 252, 253, 254, 255, 256] (by decide +kernel) (by decide +kernel)
set_option maxRecDepth 20000 in
theorem gL_act_X4_kind : GoodIn wsL_act (wsV RL 69 RX4 yX4_kind wsX4_kind) := goodIn_app (goodIn_of _ (by decide +kernel)) ggL_act_X4_kind
set_option maxRecDepth 20000 in
theorem ggL_act_X4_row : GoodIn wsL_act wsX4_row := goodIn_r _ [174, 12, 11, 104, 105, 106, 107, 108, 109, 110, 111, 112, 113, 114, 115, 116, 117, 118, 17, 119, 19, 28, 120, 121, 122, 123, 124, 40, 41, 64, 175, 176, 177, 178, 135, 15, 16, 18, 140, 141, 142, 9, 143, 144, 145, 146, 147, 148, 149, 150, 244, 245, 246, 247, 248, 249, 250, 257, 258, 259, 251, 252, 253, 254, 255, 256] (by decide +kernel) (by decide +kernel)
set_option maxRecDepth 20000 in
theorem gL_act_X4_row : GoodIn wsL_act (wsV RL 72 RX4 yX4_row wsX4_row) := goodIn_app (goodIn_of _ (by decide +kernel)) ggL_act_X4_row
set_option maxRecDepth 20000 in
theorem ggL_act_X4_seasonOf : GoodIn wsL_act wsX4_seasonOf := goodIn_r _ [182, 11, 183, 184, 185, 17, 186, 40, 187, 188, 189, 190, 41, 244, 245, 246, 247, 248, 249, 250, 251, 252, 253, 254, 255, 256] (by decide +kernel) (by decide +kernel)
set_option maxRecDepth 20000 in
theorem gL_act_X4_seasonOf : GoodIn wsL_act (wsV RL 43 RX4 yX4_seasonOf wsX4_seasonOf) := goodIn_app (goodIn_of _ (by decide +kernel)) ggL_act_X4_seasonOf
set_option maxRecDepth 20000 in
theorem ggL_act_X4_column : GoodIn wsL_act wsX4_column := goodIn_r _ [194, 11, 195, 196, 197, 17, 198, 19, 199, 129, 9, 130, 200, 25, 26, 27, 28, 201, 168, 169, 170, 124, 244, 245, 246, 247, 248, 249, 250, 251, 252, 253, 254, 255, 256] (by decide +kernel) (by decide +kernel)
set_option maxRecDepth 20000 in
theorem gL_act_X4_column : GoodIn wsL_act (wsV RL 30 RX4 yX4_column wsX4_column) := goodIn_app (goodIn_of _ (by decide +kernel)) ggL_act_X4_column
set_option maxRecDepth 20000 in
theorem ggL_act_X4_set : GoodIn wsL_act wsX4_set := goodIn_r _ [205, 12, 11, 104, 105, 106, 107, 108, 109, 110, 111, 112, 113, 114, 115, 116, 117, 118, 17, 119, 19, 28, 120, 121, 122, 123, 124, 40, 41, 64, 206, 207, 208, 209, 210, 184, 185, 186, 129, 9, 130, 56, 57, 58, 59, 24, 25, 26, 27, 133, 134, 77, 78, 79, 80, 81, 82, 60, 61, 62, 63, 140, 141, 142, 143, 144, 145, 146, 147, 148, 149, 150, 244, 245, 246, 247, 248, 249, 250, 257, 258, 259, 251, 252, 253, 254, 255, 256] (by decide +kernel) (by decide +kernel)
set_option maxRecDepth 20000 in
theorem gL_act_X4_set : GoodIn wsL_act (wsV RL 76 RX4 yX4_set wsX4_set) := goodIn_app (goodIn_of _ (by decide +kernel)) ggL_act_X4_set
set_option maxRecDepth 20000 in
theorem ggL_act_X4_remove : GoodIn wsL_act wsX4_remove := goodIn_r _ [214, 12, 11, 104, 105, 106, 107, 108, 109, 110, 111, 112, 113, 114, 115, 116, 117, 118, 17, 119, 19, 28, 120, 121, 122, 123, 124, 40, 41, 64, 215, 216, 217, 218, 210, 184, 185, 186, 140, 141, 142, 9, 143, 144, 145, 146, 147, 148, 149, 150, 244, 245, 246, 247, 248, 249, 250, 257, 258, 259, 251, 252, 253, 254, 255, 256] (by decide +kernel) (by decide +kernel)
set_option maxRecDepth 20000 in
theorem gL_act_X4_remove : GoodIn wsL_act (wsV RL 79 RX4 yX4_remove wsX4_remove) := goodIn_app (goodIn_of _ (by decide +kernel)) ggL_act_X4_remove
set_option maxRecDepth 20000 in
theorem ggL_act_X4_makeOver : GoodIn wsL_act wsX4_makeOver := goodIn_r _ [222, 12, 11, 104, 105, 106, 107, 108, 109, 110, 111, 112, 113, 114, 115, 116, 117, 118, 17, 119, 19, 28, 120, 121, 122, 123, 124, 40, 41, 64, 223, 224, 225, 226, 210, 184, 185, 186, 135, 15, 16, 18, 52, 53, 54, 55, 56, 57, 58, 59, 24, 25, 26, 27, 60, 61, 62, 63, 65, 9, 66, 67, 68, 69, 70, 71, 72, 73, 74, 75, 76, 77, 78, 79, 80, 81, 82, 227, 228, 229, 230, 231, 232, 233, 234, 167, 168, 169, 170, 140, 141, 142, 143, 144, 145, 146, 147, 148, 149, 150, 244, 245, 246, 247, 248, 249, 250, 257, 258, 259, 251, 252, 253, 254, 255, 256] (by decide +kernel) (by decide +kernel)
set_option maxRecDepth 20000 in
theorem gL_act_X4_makeOver : GoodIn wsL_act (wsV RL 82 RX4 yX4_makeOver wsX4_makeOver) := goodIn_app (goodIn_of _ (by decide +kernel)) ggL_act_X4_makeOver
set_option maxRecDepth 20000 in
theorem ggL_act_X4_forget : GoodIn wsL_act wsX4_forget := goodIn_r _ [238, 12, 11, 104, 105, 106, 107, 108, 109, 110, 111, 112, 113, 114, 115, 116, 117, 118, 17, 119, 19, 28, 120, 121, 122, 123, 124, 40, 41, 64, 239, 240, 241, 242, 243, 71, 72, 73, 135, 15, 16, 18, 140, 141, 142, 9, 143, 144, 145, 146, 147, 148, 149, 150, 244, 245, 246, 247, 248, 249, 250, 257, 258, 259, 251, 252, 253, 254, 255, 256] (by decide +kernel) (by decide +kernel)
set_option maxRecDepth 20000 in
theorem gL_act_X4_forget : GoodIn wsL_act (wsV RL 85 RX4 yX4_forget wsX4_forget) := goodIn_app (goodIn_of _ (by decide +kernel)) ggL_act_X4_forget
