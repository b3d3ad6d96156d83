set_option maxRecDepth 20000 in
theorem ggL_law_X4_init : GoodIn wsL_law wsX4_init := goodIn_r _ [8, 9, 10, 11, 12, 13, 14, 15, 16, 17, 18, 19, 20, 21, 22, 23, 24, 25, 26, 27, 28, 29, 30, 31, 32, 33, 34, 35, 36, 37, 38, 39, 40, 41, 42, 43, 44, 45, 46, 47, 48, 49, 50, 51, 52, 53, 54, 55, 56, 57, 58, 59, 60, 61, 62, 63, 64, 65, 66, 67, 68, 69, 70, 71, 72, 73, 74, 826, 827, 828, 829, 830, 831, 805, 806, 807, 808, 809, 810, 811, 832, 833, 834, 835, 836, 837, 838, 839, 840, 841, 842, 843, 844, 845] (by decide +kernel) (by decide +kernel)
set_option maxRecDepth 20000 in
theorem gL_law_X4_init : GoodIn wsL_law (wsX4_init) := ggL_law_X4_init
set_option maxRecDepth 20000 in
theorem ggL_law_X5_init : GoodIn wsL_law wsX5_init := goodIn_r _ [77, 78, 10, 11, 33, 79, 80, 81, 82, 83, 84, 85, 86, 812, 813, 814, 815, 816, 817, 818, 819, 820, 821, 822, 823, 824, 825] (by decide +kernel) (by decide +kernel)
set_option maxRecDepth 20000 in
theorem gL_law_X5_init : GoodIn wsL_law (wsX5_init) := ggL_law_X5_init
set_option maxRecDepth 20000 in
theorem ggL_law_X4_add : GoodIn wsL_law wsX4_add := goodIn_r _ [90, 19, 15, 91, 92, 93, 18, 94, 95, 96, 97, 98, 48, 49, 50, 99, 100, 101, 14, 102, 32, 34, 103, 104, 105, 106, 35, 36, 37, 38, 107, 108, 109, 110, 111, 2, 112, 113, 114, 115, 116, 117, 118, 119, 120, 121, 122, 123, 124, 125, 126, 127, 128, 129, 130, 131, 132, 133, 134, 135, 136, 137, 138, 139, 140, 141, 142, 143, 144, 145, 805, 806, 807, 808, 809, 810, 811, 832, 833, 834, 826, 827, 828, 829, 830, 831] (by decide +kernel) (by decide +kernel)
set_option maxRecDepth 20000 in
theorem gL_law_X4_add : GoodIn wsL_law (wsV RL 13 RX4 yX4_add wsX4_add) := goodIn_app (goodIn_of _ (by decide +kernel)) ggL_law_X4_add
set_option maxRecDepth 20000 in
theorem ggL_law_X5_add : GoodIn wsL_law wsX5_add := goodIn_r _ [149, 79, 80, 150, 151, 5, 152, 153, 154, 155, 156, 157, 158, 159, 160, 161, 162, 163, 164, 165, 166, 167, 168, 169, 170, 171, 172, 173, 174, 175, 176, 177, 178, 179, 180, 181, 182, 81, 812, 813, 814, 815, 816, 817, 818, 819, 820, 821, 822, 823, 824, 825] (by decide +kernel) (by decide +kernel)
set_option maxRecDepth 20000 in
theorem gL_law_X5_add : GoodIn wsL_law (wsV RL 17 RX5 yX5_add wsX5_add) := goodIn_app (goodIn_of _ (by decide +kernel)) ggL_law_X5_add
set_option maxRecDepth 20000 in
theorem ggL_law_X4_drop : GoodIn wsL_law wsX4_drop := goodIn_r _ [186, 19, 15, 91, 92, 93, 18, 94, 95, 96, 97, 98, 48, 49, 50, 99, 100, 101, 14, 102, 32, 34, 103, 104, 105, 106, 35, 36, 37, 38, 187, 188, 189, 190, 111, 2, 112, 123, 124, 125, 126, 127, 128, 129, 130, 131, 132, 133, 134, 135, 136, 137, 138, 139, 140, 141, 142, 143, 144, 145, 805, 806, 807, 808, 809, 810, 811, 832, 833, 834, 826, 827, 828, 829, 830, 831] (by decide +kernel) (by decide +kernel)
set_option maxRecDepth 20000 in
theorem gL_law_X4_drop : GoodIn wsL_law (wsV RL 18 RX4 yX4_drop wsX4_drop) := goodIn_app (goodIn_of _ (by decide +kernel)) ggL_law_X4_drop
set_option maxRecDepth 20000 in
theorem ggL_law_X5_drop : GoodIn wsL_law wsX5_drop := goodIn_r _ [194, 79, 80, 162, 163, 5, 164, 150, 151, 152, 153, 154, 155, 195, 196, 197, 168, 169, 170, 171, 172, 173, 174, 175, 176, 177, 178, 179, 180, 181, 182, 81, 812, 813, 814, 815, 816, 817, 818, 819, 820, 821, 822, 823, 824, 825] (by decide +kernel) (by decide +kernel)
set_option maxRecDepth 20000 in
theorem gL_law_X5_drop : GoodIn wsL_law (wsV RL 22 RX5 yX5_drop wsX5_drop) := goodIn_app (goodIn_of _ (by decide +kernel)) ggL_law_X5_drop
set_option maxRecDepth 20000 in
theorem ggL_law_X4_kind : GoodIn wsL_law wsX4_kind := goodIn_r _ [201, 19, 15, 91, 92, 93, 18, 94, 95, 96, 97, 98, 48, 49, 50, 99, 100, 101, 14, 102, 32, 34, 103, 104, 105, 106, 35, 36, 37, 38, 202, 203, 204, 205, 111, 2, 112, 123, 124, 125, 126, 127, 128, 129, 130, 113, 114, 206, 207, 208, 209, 210, 211, 212, 213, 214, 215, 216, 217, 218, 117, 118, 119, 120, 121, 122, 131, 132, 133, 134, 135, 136, 137, 138, 139, 140, 141, 142, 143, 144, 145, 805, 806, 807, 808, 809, 810, 811, 832, 833, 834, 826, 827, 828, 829, 830, 831] (by decide +kernel) (by decide +kernel)
set_option maxRecDepth 20000 in
theorem gL_law_X4_kind : GoodIn wsL_law (wsV RL 23 RX4 yX4_kind wsX4_kind) := goodIn_app (goodIn_of _ (by decide +kernel)) ggL_law_X4_kind
set_option maxRecDepth 20000 in
theorem ggL_law_X5_kind : GoodIn wsL_law wsX5_kind := goodIn_r _ [222, 79, 80, 150, 151, 5, 152, 153, 154, 155, 168, 169, 170, 162, 163, 164, 223, 224, 225, 226, 227, 228, 229, 230, 231, 171, 172, 173, 174, 175, 176, 177, 178, 179, 180, 181, 182, 81, 812, 813, 814, 815, 816, 817, 818, 819, 820, 821, 822, 823, 824, 825] (by decide +kernel) (by decide +kernel)
set_option maxRecDepth 20000 in
theorem gL_law_X5_kind : GoodIn wsL_law (wsV RL 27 RX5 yX5_kind wsX5_kind) := goodIn_app (goodIn_of _ (by decide +kernel)) ggL_law_X5_kind
set_option maxRecDepth 20000 in
theorem ggL_law_X4_row : GoodIn wsL_law wsX4_row := goodIn_r _ [235, 19, 15, 91, 92, 93, 18, 94, 95, 96, 97, 98, 48, 49, 50, 99, 100, 101, 14, 102, 32, 34, 103, 104, 105, 106, 35, 36, 37, 38, 236, 237, 238, 239, 123, 124, 125, 126, 135, 136, 137, 2, 138, 139, 140, 141, 142, 143, 144, 145, 805, 806, 807, 808, 809, 810, 811, 832, 833, 834, 826, 827, 828, 829, 830, 831] (by decide +kernel) (by decide +kernel)
set_option maxRecDepth 20000 in
theorem gL_law_X4_row : GoodIn wsL_law (wsV RL 28 RX4 yX4_row wsX4_row) := goodIn_app (goodIn_of _ (by decide +kernel)) ggL_law_X4_row
set_option maxRecDepth 20000 in
theorem ggL_law_X5_row : GoodIn wsL_law wsX5_row := goodIn_r _ [243, 79, 80, 162, 163, 5, 164, 244, 245, 246, 168, 169, 170, 226, 227, 228, 174, 175, 176, 177, 178, 179, 180, 181, 182, 81, 812, 813, 814, 815, 816, 817, 818, 819, 820, 821, 822, 823, 824, 825] (by decide +kernel) (by decide +kernel)
set_option maxRecDepth 20000 in
theorem gL_law_X5_row : GoodIn wsL_law (wsV RL 32 RX5 yX5_row wsX5_row) := goodIn_app (goodIn_of _ (by decide +kernel)) ggL_law_X5_row
set_option maxRecDepth 20000 in
theorem ggL_law_X4_set : GoodIn wsL_law wsX4_set := goodIn_r _ [250, 19, 15, 91, 92, 93, 18, 94, 95, 96, 97, 98, 48, 49, 50, 99, 100, 101, 14, 102, 32, 34, 103, 104, 105, 106, 35, 36, 37, 38, 251, 252, 253, 254, 255, 256, 257, 258, 111, 2, 112, 259, 260, 261, 262, 127, 128, 129, 130, 115, 116, 117, 118, 119, 120, 121, 122, 263, 264, 265, 266, 135, 136, 137, 138, 139, 140, 141, 142, 143, 144, 145, 805, 806, 807, 808, 809, 810, 811, 832, 833, 834, 826, 827, 828, 829, 830, 831] (by decide +kernel) (by decide +kernel)
set_option maxRecDepth 20000 in
theorem gL_law_X4_set : GoodIn wsL_law (wsV RL 33 RX4 yX4_set wsX4_set) := goodIn_app (goodIn_of _ (by decide +kernel)) ggL_law_X4_set
set_option maxRecDepth 20000 in
theorem ggL_law_X5_set : GoodIn wsL_law wsX5_set := goodIn_r _ [270, 79, 80, 162, 163, 5, 164, 271, 272, 273, 274, 275, 276, 153, 154, 155, 150, 151, 152, 277, 278, 279, 280, 281, 282, 168, 169, 170, 156, 157, 158, 159, 160, 161, 283, 284, 285, 174, 175, 176, 177, 178, 179, 180, 181, 182, 81, 812, 813, 814, 815, 816, 817, 818, 819, 820, 821, 822, 823, 824, 825] (by decide +kernel) (by decide +kernel)
set_option maxRecDepth 20000 in
theorem gL_law_X5_set : GoodIn wsL_law (wsV RL 36 RX5 yX5_set wsX5_set) := goodIn_app (goodIn_of _ (by decide +kernel)) ggL_law_X5_set
set_option maxRecDepth 20000 in
theorem ggL_law_X4_remove : GoodIn wsL_law wsX4_remove := goodIn_r _ [289, 19, 15, 91, 92, 93, 18, 94, 95, 96, 97, 98, 48, 49, 50, 99, 100, 101, 14, 102, 32, 34, 103, 104, 105, 106, 35, 36, 37, 38, 290, 291, 292, 293, 255, 256, 257, 258, 135, 136, 137, 2, 138, 139, 140, 141, 142, 143, 144, 145, 805, 806, 807, 808, 809, 810, 811, 832, 833, 834, 826, 827, 828, 829, 830, 831] (by decide +kernel) (by decide +kernel)
set_option maxRecDepth 20000 in
theorem gL_law_X4_remove : GoodIn wsL_law (wsV RL 37 RX4 yX4_remove wsX4_remove) := goodIn_app (goodIn_of _ (by decide +kernel)) ggL_law_X4_remove
