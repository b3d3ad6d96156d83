set_option maxRecDepth 20000 in
theorem ggL_valued_L_low : GoodIn wsL_valued wsL_low := goodIn_r _ [4, 5] (by decide +kernel) (by decide +kernel)
set_option maxRecDepth 20000 in
theorem gL_valued_L_low : GoodIn wsL_valued (va_wsS RL 9 yL_low wsL_low) := goodIn_app (goodIn_of _ (by decide +kernel)) ggL_valued_L_low
set_option maxRecDepth 20000 in
theorem ggL_valued_L_least : GoodIn wsL_valued wsL_least := goodIn_r _ [8] (by decide +kernel) (by decide +kernel)
set_option maxRecDepth 20000 in
theorem gL_valued_L_least : GoodIn wsL_valued (va_wsS RL 15 yL_least wsL_least) := goodIn_app (goodIn_of _ (by decide +kernel)) ggL_valued_L_least
set_option maxRecDepth 20000 in
theorem ggL_valued_L_most : GoodIn wsL_valued wsL_most := goodIn_r _ [11] (by decide +kernel) (by decide +kernel)
set_option maxRecDepth 20000 in
theorem gL_valued_L_most : GoodIn wsL_valued (va_wsS RL 19 yL_most wsL_most) := goodIn_app (goodIn_of _ (by decide +kernel)) ggL_valued_L_most
set_option maxRecDepth 20000 in
theorem ggL_table_X4_count : GoodIn wsL_table wsX4_count := goodIn_r _ [5, 6, 7, 8, 9, 10, 11, 12, 13, 14, 15, 16, 17, 18, 19, 20, 21, 22, 23, 24, 25, 26, 27, 28, 29, 30, 31, 32, 33, 34, 35, 36, 37, 38, 39, 40, 41, 42, 43, 44, 45, 46, 47, 48, 49, 50, 51, 52, 53, 54, 55, 56, 57, 58, 59, 60, 4, 61, 62, 63, 64, 65, 66, 67, 68, 69, 70, 71, 72, 73, 74, 75, 76, 77, 78, 79, 80, 81, 204, 205, 206, 207, 208, 209, 210, 211, 212, 213, 214, 215, 216, 217, 218, 219, 220, 221, 222, 223, 224, 225] (by decide +kernel) (by decide +kernel)
set_option maxRecDepth 20000 in
theorem gL_table_X4_count : GoodIn wsL_table (wsV RL 22 RX4 yX4_count wsX4_count) := goodIn_app (goodIn_of _ (by decide +kernel)) ggL_table_X4_count
set_option maxRecDepth 20000 in
theorem ggL_table_X4_bestSeason : GoodIn wsL_table wsX4_bestSeason := goodIn_r _ [85, 6, 86, 87, 88, 12, 89, 90, 10, 11, 13, 14, 91, 44, 45, 46, 35, 47, 48, 49, 50, 51, 52, 53, 54, 36, 19, 20, 21, 22, 23, 55, 56, 57, 58, 59, 60, 4, 61, 62, 63, 64, 65, 66, 67, 68, 69, 70, 71, 72, 73, 74, 75, 76, 77, 43, 204, 205, 206, 207, 208, 209, 210, 211, 212, 213, 214, 215, 216] (by decide +kernel) (by decide +kernel)
set_option maxRecDepth 20000 in
theorem gL_table_X4_bestSeason : GoodIn wsL_table (wsV RL 27 RX4 yX4_bestSeason wsX4_bestSeason) := goodIn_app (goodIn_of _ (by decide +kernel)) ggL_table_X4_bestSeason
set_option maxRecDepth 20000 in
theorem ggL_table_X4_column : GoodIn wsL_table wsX4_column := goodIn_r _ [95, 6, 96, 97, 98, 12, 99, 14, 100, 101, 4, 102, 103, 20, 21, 22, 23, 104, 105, 106, 107, 108, 204, 205, 206, 207, 208, 209, 210, 211, 212, 213, 214, 215, 216] (by decide +kernel) (by decide +kernel)
set_option maxRecDepth 20000 in
theorem gL_table_X4_column : GoodIn wsL_table (wsV RL 30 RX4 yX4_column wsX4_column) := goodIn_app (goodIn_of _ (by decide +kernel)) ggL_table_X4_column
set_option maxRecDepth 20000 in
theorem ggL_table_X4_season : GoodIn wsL_table wsX4_season := goodIn_r _ [112, 6, 96, 97, 98, 12, 99, 14, 15, 16, 17, 18, 19, 20, 21, 22, 23, 24, 25, 26, 27, 28, 29, 30, 31, 32, 33, 34, 35, 36, 113, 114, 115, 116, 204, 205, 206, 207, 208, 209, 210, 211, 212, 213, 214, 215, 216] (by decide +kernel) (by decide +kernel)
set_option maxRecDepth 20000 in
theorem gL_table_X4_season : GoodIn wsL_table (wsV RL 34 RX4 yX4_season wsX4_season) := goodIn_app (goodIn_of _ (by decide +kernel)) ggL_table_X4_season
set_option maxRecDepth 20000 in
theorem ggL_table_X4_view : GoodIn wsL_table wsX4_view := goodIn_r _ [120, 6, 69, 70, 67, 71, 121, 122, 123, 12, 124, 35, 125, 126, 127, 128, 36, 41, 16, 17, 18, 19, 20, 21, 22, 23, 129, 130, 131, 132, 133, 90, 10, 11, 13, 14, 134, 4, 135, 55, 56, 57, 58, 59, 136, 105, 106, 107, 108, 204, 205, 206, 207, 208, 209, 210, 211, 212, 213, 214, 215, 216] (by decide +kernel) (by decide +kernel)
set_option maxRecDepth 20000 in
theorem gL_table_X4_view : GoodIn wsL_table (wsV RL 37 RX4 yX4_view wsX4_view) := goodIn_app (goodIn_of _ (by decide +kernel)) ggL_table_X4_view
set_option maxRecDepth 20000 in
theorem ggL_table_X4_value : GoodIn wsL_table wsX4_value := goodIn_r _ [140, 6, 121, 122, 123, 12, 124, 35, 100, 101, 4, 102, 141, 52, 53, 54, 36, 19, 20, 21, 22, 23, 142, 56, 57, 58, 59, 204, 205, 206, 207, 208, 209, 210, 211, 212, 213, 214, 215, 216] (by decide +kernel) (by decide +kernel)
set_option maxRecDepth 20000 in
theorem gL_table_X4_value : GoodIn wsL_table (wsV RL 40 RX4 yX4_value wsX4_value) := goodIn_app (goodIn_of _ (by decide +kernel)) ggL_table_X4_value
set_option maxRecDepth 20000 in
theorem ggL_table_X4_seasonOf : GoodIn wsL_table wsX4_seasonOf := goodIn_r _ [146, 6, 121, 122, 123, 12, 124, 35, 147, 148, 149, 150, 36, 204, 205, 206, 207, 208, 209, 210, 211, 212, 213, 214, 215, 216] (by decide +kernel) (by decide +kernel)
set_option maxRecDepth 20000 in
theorem gL_table_X4_seasonOf : GoodIn wsL_table (wsV RL 43 RX4 yX4_seasonOf wsX4_seasonOf) := goodIn_app (goodIn_of _ (by decide +kernel)) ggL_table_X4_seasonOf
set_option maxRecDepth 20000 in
theorem ggL_table_L_least : GoodIn wsL_table wsL_least := goodIn_r _ [154] (by decide +kernel) (by decide +kernel)
set_option maxRecDepth 20000 in
theorem gL_table_L_least : GoodIn wsL_table (va_wsS RL 15 yL_least wsL_least) := goodIn_app (goodIn_of _ (by decide +kernel)) ggL_table_L_least
set_option maxRecDepth 20000 in
theorem ggL_table_L_most : GoodIn wsL_table wsL_most := goodIn_r _ [157] (by decide +kernel) (by decide +kernel)
set_option maxRecDepth 20000 in
theorem gL_table_L_most : GoodIn wsL_table (va_wsS RL 19 yL_most wsL_most) := goodIn_app (goodIn_of _ (by decide +kernel)) ggL_table_L_most
set_option maxRecDepth 20000 in
theorem ggL_table_X4_read : GoodIn wsL_table wsX4_read := goodIn_r _ [161, 6, 121, 122, 123, 12, 124, 35, 96, 97, 98, 99, 14, 100, 101, 4, 102, 103, 20, 21, 22, 23, 162, 163, 164, 165, 51, 52, 53, 54, 36, 19, 136, 105, 106, 107, 108, 55, 56, 57, 58, 59, 63, 64, 65, 66, 67, 68, 69, 70, 71, 72, 73, 74, 75, 76, 77, 166, 167, 168, 169, 60, 61, 62, 204, 205, 206, 207, 208, 209, 210, 211, 212, 213, 214, 215, 216] (by decide +kernel) (by decide +kernel)
set_option maxRecDepth 20000 in
theorem gL_table_X4_read : GoodIn wsL_table (wsV RL 46 RX4 yX4_read wsX4_read) := goodIn_app (goodIn_of _ (by decide +kernel)) ggL_table_X4_read
set_option maxRecDepth 20000 in
theorem ggL_table_L_cast : GoodIn wsL_table wsL_cast := goodIn_r _ [172] (by decide +kernel) (by decide +kernel)
set_option maxRecDepth 20000 in
theorem gL_table_L_cast : GoodIn wsL_table (va_wsS RL 50 yL_cast wsL_cast) := goodIn_app (goodIn_of _ (by decide +kernel)) ggL_table_L_cast
set_option maxRecDepth 20000 in
theorem ggL_table_X4_viewColumn : GoodIn wsL_table wsX4_viewColumn := goodIn_r _ [176, 6, 121, 122, 123, 12, 124, 35, 100, 101, 4, 102, 125, 126, 127, 128, 36, 41, 16, 17, 18, 19, 20, 21, 22, 23, 177, 134, 135, 178, 179, 180, 181, 182, 70, 67, 71, 51, 52, 53, 54, 183, 184, 185, 186, 55, 56, 57, 58, 59, 187, 188, 189, 190, 191, 66, 68, 192, 193, 194, 195, 196, 197, 198, 199, 200, 201, 202, 203, 204, 205, 206, 207, 208, 209, 210, 211, 212, 213, 214, 215, 216] (by decide +kernel) (by decide +kernel)
set_option maxRecDepth 20000 in
theorem gL_table_X4_viewColumn : GoodIn wsL_table (wsV RL 53 RX4 yX4_viewColumn wsX4_viewColumn) := goodIn_app (goodIn_of _ (by decide +kernel)) ggL_table_X4_viewColumn
