set_option maxRecDepth 20000 in
theorem ggL_law_X5_remove : GoodIn wsL_law wsX5_remove := goodIn_r _ [297, 79, 274, 275, 5, 276, 153, 154, 155, 178, 179, 180, 181, 182, 81, 162, 163, 164, 812, 813, 814, 815, 816, 817, 818, 819, 820, 821, 822, 823, 824, 825] (by decide +kernel) (by decide +kernel)
set_option maxRecDepth 20000 in
theorem gL_law_X5_remove : GoodIn wsL_law (wsV RL 40 RX5 yX5_remove wsX5_remove) := goodIn_app (goodIn_of _ (by decide +kernel)) ggL_law_X5_remove
set_option maxRecDepth 20000 in
theorem ggL_law_X4_makeOver : GoodIn wsL_law wsX4_makeOver := goodIn_r _ [301, 19, 15, 91, 92, 93, 18, 94, 95, 96, 97, 98, 48, 49, 50, 99, 100, 101, 14, 102, 32, 34, 103, 104, 105, 106, 35, 36, 37, 38, 302, 303, 304, 305, 255, 256, 257, 258, 123, 124, 125, 126, 306, 307, 308, 309, 259, 260, 261, 262, 127, 128, 129, 130, 263, 264, 265, 266, 310, 2, 311, 312, 210, 211, 212, 213, 214, 215, 216, 217, 218, 117, 118, 119, 120, 121, 122, 313, 314, 315, 316, 317, 318, 319, 320, 206, 207, 208, 209, 135, 136, 137, 138, 139, 140, 141, 142, 143, 144, 145, 805, 806, 807, 808, 809, 810, 811, 832, 833, 834, 826, 827, 828, 829, 830, 831] (by decide +kernel) (by decide +kernel)
set_option maxRecDepth 20000 in
theorem gL_law_X4_makeOver : GoodIn wsL_law (wsV RL 41 RX4 yX4_makeOver wsX4_makeOver) := goodIn_app (goodIn_of _ (by decide +kernel)) ggL_law_X4_makeOver
set_option maxRecDepth 20000 in
theorem ggL_law_X5_makeOver : GoodIn wsL_law wsX5_makeOver := goodIn_r _ [324, 79, 80, 274, 275, 5, 276, 153, 154, 155, 280, 281, 282, 325, 326, 327, 328, 329, 330, 277, 278, 279, 168, 169, 170, 283, 284, 285, 331, 332, 333, 229, 230, 231, 178, 179, 180, 181, 182, 81, 162, 163, 164, 334, 335, 336, 226, 227, 228, 812, 813, 814, 815, 816, 817, 818, 819, 820, 821, 822, 823, 824, 825] (by decide +kernel) (by decide +kernel)
set_option maxRecDepth 20000 in
theorem gL_law_X5_makeOver : GoodIn wsL_law (wsV RL 44 RX5 yX5_makeOver wsX5_makeOver) := goodIn_app (goodIn_of _ (by decide +kernel)) ggL_law_X5_makeOver
set_option maxRecDepth 20000 in
theorem ggL_law_X4_forget : GoodIn wsL_law wsX4_forget := goodIn_r _ [340, 19, 15, 91, 92, 93, 18, 94, 95, 96, 97, 98, 48, 49, 50, 99, 100, 101, 14, 102, 32, 34, 103, 104, 105, 106, 35, 36, 37, 38, 341, 342, 343, 344, 345, 213, 214, 215, 123, 124, 125, 126, 135, 136, 137, 2, 138, 139, 140, 141, 142, 143, 144, 145, 805, 806, 807, 808, 809, 810, 811, 832, 833, 834, 826, 827, 828, 829, 830, 831] (by decide +kernel) (by decide +kernel)
set_option maxRecDepth 20000 in
theorem gL_law_X4_forget : GoodIn wsL_law (wsV RL 45 RX4 yX4_forget wsX4_forget) := goodIn_app (goodIn_of _ (by decide +kernel)) ggL_law_X4_forget
set_option maxRecDepth 20000 in
theorem ggL_law_X5_forget : GoodIn wsL_law wsX5_forget := goodIn_r _ [349, 79, 350, 351, 352, 5, 353, 280, 281, 282, 178, 179, 180, 181, 182, 81, 162, 163, 164, 812, 813, 814, 815, 816, 817, 818, 819, 820, 821, 822, 823, 824, 825] (by decide +kernel) (by decide +kernel)
set_option maxRecDepth 20000 in
theorem gL_law_X5_forget : GoodIn wsL_law (wsV RL 48 RX5 yX5_forget wsX5_forget) := goodIn_app (goodIn_of _ (by decide +kernel)) ggL_law_X5_forget
set_option maxRecDepth 20000 in
theorem ggL_law_X4_type : GoodIn wsL_law wsX4_type := goodIn_r _ [357, 25, 358, 359, 360, 24, 361, 58, 57, 805, 806, 807, 808, 809, 810, 811, 835, 836, 837, 838, 839, 840] (by decide +kernel) (by decide +kernel)
set_option maxRecDepth 20000 in
theorem gL_law_X4_type : GoodIn wsL_law (wsV RL 49 RX4 yX4_type wsX4_type) := goodIn_app (goodIn_of _ (by decide +kernel)) ggL_law_X4_type
set_option maxRecDepth 20000 in
theorem ggL_law_X5_type : GoodIn wsL_law wsX5_type := goodIn_r _ [365, 366, 83, 812, 813, 814, 815, 816, 817, 818, 819, 820, 821, 822, 823, 824, 825] (by decide +kernel) (by decide +kernel)
set_option maxRecDepth 20000 in
theorem gL_law_X5_type : GoodIn wsL_law (wsV RL 53 RX5 yX5_type wsX5_type) := goodIn_app (goodIn_of _ (by decide +kernel)) ggL_law_X5_type
set_option maxRecDepth 20000 in
theorem ggL_law_X4_clearText : GoodIn wsL_law wsX4_clearText := goodIn_r _ [370, 25, 805, 806, 807, 808, 809, 810, 811, 835, 836, 837, 838, 839, 840] (by decide +kernel) (by decide +kernel)
set_option maxRecDepth 20000 in
theorem gL_law_X4_clearText : GoodIn wsL_law (wsV RL 54 RX4 yX4_clearText wsX4_clearText) := goodIn_app (goodIn_of _ (by decide +kernel)) ggL_law_X4_clearText
set_option maxRecDepth 20000 in
theorem ggL_law_X5_clearText : GoodIn wsL_law wsX5_clearText := goodIn_r _ [374, 366, 812, 813, 814, 815, 816, 817, 818, 819, 820, 821, 822, 823, 824, 825] (by decide +kernel) (by decide +kernel)
set_option maxRecDepth 20000 in
theorem gL_law_X5_clearText : GoodIn wsL_law (wsV RL 57 RX5 yX5_clearText wsX5_clearText) := goodIn_app (goodIn_of _ (by decide +kernel)) ggL_law_X5_clearText
set_option maxRecDepth 20000 in
theorem ggL_law_X4_perform : GoodIn wsL_law wsX4_perform := goodIn_r _ [378, 25, 19, 15, 26, 27, 379, 380, 381, 24, 382, 62, 61, 60, 58, 383, 384, 385, 386, 387, 388, 389, 390, 57, 391, 392, 393, 394, 395, 396, 397, 398, 399, 400, 401, 402, 403, 404, 405, 406, 407, 408, 409, 410, 411, 412, 413, 414, 415, 416, 417, 418, 419, 420, 421, 422, 423, 424, 425, 426, 427, 428, 429, 430, 431, 432, 433, 434, 435, 436, 437, 438, 439, 440, 441, 442, 443, 444, 445, 446, 447, 448, 449, 450, 451, 63, 452, 453, 454, 455, 456, 457, 458, 459, 460, 461, 462, 463, 464, 465, 466, 467, 468, 469, 470, 118, 2, 119, 121, 122, 471, 472, 473, 474, 475, 476, 477, 478, 91, 92, 93, 18, 94, 95, 96, 97, 98, 48, 49, 50, 99, 100, 101, 14, 102, 32, 34, 103, 104, 105, 106, 35, 36, 37, 38, 479, 480, 481, 482, 107, 108, 109, 110, 111, 112, 113, 114, 115, 116, 117, 120, 123, 124, 125, 126, 127, 128, 129, 130, 131, 132, 133, 134, 187, 188, 189, 190, 202, 203, 204, 205, 206, 207, 208, 209, 210, 211, 212, 213, 214, 215, 216, 217, 218, 236, 237, 238, 239, 251, 252, 253, 254, 255, 256, 257, 258, 259, 260, 261, 262, 263, 264, 265, 266, 139, 140, 141, 483, 484, 142, 143, 144, 145, 805, 806, 807, 808, 809, 810, 811, 835, 836, 837, 838, 839, 840, 841, 842, 843, 844, 845, 832, 833, 834, 826, 827, 828, 829, 830, 831] (by decide +kernel) (by decide +kernel)
set_option maxRecDepth 20000 in
theorem gL_law_X4_perform : GoodIn wsL_law (wsV RL 58 RX4 yX4_perform wsX4_perform) := goodIn_app (goodIn_of _ (by decide +kernel)) ggL_law_X4_perform
set_option maxRecDepth 20000 in
theorem ggL_law_X5_perform : GoodIn wsL_law wsX5_perform := goodIn_r _ [488, 489, 79, 80, 490, 86, 84, 85, 491, 492, 493, 5, 494, 366, 495, 496, 497, 498, 83, 499, 500, 501, 502, 503, 504, 505, 506, 507, 508, 509, 510, 153, 154, 155, 511, 512, 513, 514, 515, 516, 517, 518, 519, 520, 521, 522, 523, 524, 525, 526, 527, 528, 529, 530, 531, 532, 533, 534, 535, 156, 157, 158, 159, 160, 161, 536, 537, 538, 539, 162, 163, 164, 540, 541, 542, 165, 166, 167, 168, 169, 170, 171, 172, 173, 223, 224, 225, 226, 227, 228, 229, 230, 231, 195, 196, 197, 244, 245, 246, 271, 272, 273, 274, 275, 276, 150, 151, 152, 277, 278, 279, 280, 281, 282, 283, 284, 285, 174, 175, 176, 177, 178, 179, 180, 181, 182, 81, 812, 813, 814, 815, 816, 817, 818, 819, 820, 821, 822, 823, 824, 825] (by decide +kernel) (by decide +kernel)
set_option maxRecDepth 20000 in
theorem gL_law_X5_perform : GoodIn wsL_law (wsV RL 61 RX5 yX5_perform wsX5_perform) := goodIn_app (goodIn_of _ (by decide +kernel)) ggL_law_X5_perform
set_option maxRecDepth 20000 in
theorem ggL_law_X4_stopped : GoodIn wsL_law wsX4_stopped := goodIn_r _ [546, 26, 27, 805, 806, 807, 808, 809, 810, 811] (by decide +kernel) (by decide +kernel)
set_option maxRecDepth 20000 in
theorem gL_law_X4_stopped : GoodIn wsL_law (wsV RL 62 RX4 yX4_stopped wsX4_stopped) := goodIn_app (goodIn_of _ (by decide +kernel)) ggL_law_X4_stopped
set_option maxRecDepth 20000 in
theorem ggL_law_X5_stopped : GoodIn wsL_law wsX5_stopped := goodIn_r _ [550, 84, 85, 812, 813, 814, 815, 816, 817, 818, 819, 820, 821, 822, 823, 824, 825] (by decide +kernel) (by decide +kernel)
set_option maxRecDepth 20000 in
theorem gL_law_X5_stopped : GoodIn wsL_law (wsV RL 65 RX5 yX5_stopped wsX5_stopped) := goodIn_app (goodIn_of _ (by decide +kernel)) ggL_law_X5_stopped
