theorem goodIn_cons {big l : List Cond} {c : Cond} (hc : GoodIn big [c]) (hl : GoodIn big l) : GoodIn big (c :: l) := fun w h => (List.mem_cons.mp h).elim (fun e => hc w (List.mem_cons.mpr (Or.inl e))) (hl w)
set_option maxRecDepth 20000 in
theorem ggL_law_act_c : GoodIn wsL_law [.code yL_act cL_act 9 (some .int)] := goodIn_r _ [154] (by decide +kernel) (by decide +kernel)
set_option maxRecDepth 20000 in
theorem ggL_law_act_r1 : GoodIn wsL_law wsL_act_r1 := goodIn_r _ [143, 144, 145, 146, 147, 72, 73, 74, 2, 75, 12, 16, 22, 76, 77, 78, 11, 79, 29, 80, 81, 82, 83, 84] (by decide +kernel) (by decide +kernel)
set_option maxRecDepth 20000 in
theorem ggL_law_act_r2 : GoodIn wsL_law wsL_act_r2 := goodIn_r _ [85, 86, 87, 31, 88, 89, 90, 91, 92, 93, 94, 95, 96, 97, 98, 33, 34, 99, 100, 101, 102, 103, 104, 105] (by decide +kernel) (by decide +kernel)
set_option maxRecDepth 20000 in
theorem ggL_law_act_r3 : GoodIn wsL_law wsL_act_r3 := goodIn_r _ [106, 107, 108, 109, 110, 111, 112, 113, 114, 115, 116, 117, 118, 119, 120, 35, 121, 122, 123, 124, 125, 126, 127, 128] (by decide +kernel) (by decide +kernel)
set_option maxRecDepth 20000 in
theorem ggL_law_act_r4 : GoodIn wsL_law wsL_act_r4 := goodIn_r _ [129, 130, 131, 132, 133, 134, 135, 136, 137, 138, 139, 140, 141, 142, 148, 149, 150, 151, 155, 156, 157, 158, 159, 160] (by decide +kernel) (by decide +kernel)
set_option maxRecDepth 20000 in
theorem ggL_law_act_r5 : GoodIn wsL_law wsL_act_r5 := goodIn_r _ [161, 162, 163, 164, 165, 166, 167, 168, 169, 170, 15, 171, 172, 173, 174, 175, 45, 46, 47, 176, 177, 178, 179, 180] (by decide +kernel) (by decide +kernel)
set_option maxRecDepth 20000 in
theorem ggL_law_act_r6 : GoodIn wsL_law wsL_act_r6 := goodIn_r _ [181, 182, 183, 32, 184, 185, 186, 187, 188, 189, 190, 191, 192, 193, 194, 195, 196, 197, 198, 199, 200, 201, 202, 203] (by decide +kernel) (by decide +kernel)
set_option maxRecDepth 20000 in
theorem ggL_law_act_r7 : GoodIn wsL_law wsL_act_r7 := goodIn_r _ [204, 205, 206, 207, 208, 209, 210, 211, 212, 213, 214, 215, 216, 217, 218, 219, 220, 221, 222, 223, 224, 225, 226, 227] (by decide +kernel) (by decide +kernel)
set_option maxRecDepth 20000 in
theorem ggL_law_act_r8 : GoodIn wsL_law wsL_act_r8 := goodIn_r _ [228, 229, 230, 231, 232, 233, 234, 235, 236, 237, 238, 239, 240, 241, 242, 243, 244, 245, 246, 247, 248, 249, 250, 251] (by decide +kernel) (by decide +kernel)
set_option maxRecDepth 20000 in
theorem ggL_law_act_r9 : GoodIn wsL_law wsL_act_r9 := goodIn_r _ [252, 253, 254, 255, 256, 257, 258, 259, 260, 261, 262, 263, 264, 265, 266, 267, 268, 269, 270, 271, 272, 273, 274, 275] (by decide +kernel) (by decide +kernel)
set_option maxRecDepth 20000 in
theorem ggL_law_act_r10 : GoodIn wsL_law wsL_act_r10 := goodIn_r _ [276, 277, 278, 279, 280, 281, 282, 283, 284, 285, 286, 287, 288, 289, 290, 291, 292, 293, 294, 295, 296, 297, 298, 299] (by decide +kernel) (by decide +kernel)
set_option maxRecDepth 20000 in
theorem ggL_law_act_r11 : GoodIn wsL_law wsL_act_r11 := goodIn_r _ [300, 301, 302] (by decide +kernel) (by decide +kernel)
set_option maxRecDepth 20000 in
theorem ggL_law_act_wsX40 : GoodIn wsL_law wsX40 := goodIn_r _ [386, 387, 388, 389, 390, 391, 392] (by decide +kernel) (by decide +kernel)
set_option maxRecDepth 20000 in
theorem ggL_law_act_wsX30 : GoodIn wsL_law wsX30 := goodIn_r _ [393, 394, 395, 396, 397, 398] (by decide +kernel) (by decide +kernel)
set_option maxRecDepth 20000 in
theorem ggL_law_act_wsX10 : GoodIn wsL_law wsX10 := goodIn_r _ [399, 400, 401] (by decide +kernel) (by decide +kernel)
set_option maxRecDepth 20000 in
theorem ggL_law_act_wsX20 : GoodIn wsL_law wsX20 := goodIn_r _ [402, 403, 404, 405, 406, 407] (by decide +kernel) (by decide +kernel)
set_option maxRecDepth 20000 in
theorem ggL_law_L_act : GoodIn wsL_law wsL_act := goodIn_cons ggL_law_act_c (goodIn_app (goodIn_app (goodIn_app (goodIn_app (goodIn_app ggL_law_act_r1 (goodIn_app ggL_law_act_r2 (goodIn_app ggL_law_act_r3 (goodIn_app ggL_law_act_r4 (goodIn_app ggL_law_act_r5 (goodIn_app ggL_law_act_r6 (goodIn_app ggL_law_act_r7 (goodIn_app ggL_law_act_r8 (goodIn_app ggL_law_act_r9 (goodIn_app ggL_law_act_r10 (ggL_law_act_r11))))))))))) ggL_law_act_wsX40) ggL_law_act_wsX30) ggL_law_act_wsX10) ggL_law_act_wsX20)
set_option maxRecDepth 20000 in
theorem gL_law_L_act : GoodIn wsL_law (va_wsS RL 89 yL_act wsL_act) := goodIn_app (goodIn_of _ (by decide +kernel)) ggL_law_L_act
set_option maxRecDepth 20000 in
theorem ggL_law_table_c : GoodIn wsL_law [.code yL_table cL_table 14 (some .boolean)] := goodIn_r _ [305] (by decide +kernel) (by decide +kernel)
set_option maxRecDepth 20000 in
theorem ggL_law_table_r1 : GoodIn wsL_law wsL_table_r1 := goodIn_r _ [72, 73, 74, 2, 75, 12, 16, 22, 76, 77, 78, 11, 79, 29, 80, 81, 82, 83, 84, 85, 86, 87, 31, 88] (by decide +kernel) (by decide +kernel)
set_option maxRecDepth 20000 in
theorem ggL_law_table_r2 : GoodIn wsL_law wsL_table_r2 := goodIn_r _ [89, 90, 91, 92, 93, 94, 95, 96, 97, 98, 33, 34, 99, 100, 101, 102, 103, 104, 105, 106, 107, 108, 109, 110] (by decide +kernel) (by decide +kernel)
set_option maxRecDepth 20000 in
theorem ggL_law_table_r3 : GoodIn wsL_law wsL_table_r3 := goodIn_r _ [111, 112, 113, 114, 115, 116, 117, 118, 119, 120, 35, 121, 122, 123, 124, 125, 126, 127, 128, 129, 130, 131, 132, 133] (by decide +kernel) (by decide +kernel)
set_option maxRecDepth 20000 in
theorem ggL_law_table_r4 : GoodIn wsL_law wsL_table_r4 := goodIn_r _ [134, 135, 136, 137, 138, 139, 140, 141, 142, 306, 307, 308, 309, 310, 311, 312, 313, 194, 314, 250, 251, 252, 253, 254] (by decide +kernel) (by decide +kernel)
set_option maxRecDepth 20000 in
theorem ggL_law_table_r5 : GoodIn wsL_law wsL_table_r5 := goodIn_r _ [255, 256, 257, 258, 188, 189, 259, 260, 227, 228, 229, 32, 315, 316, 317, 318, 319, 320, 321, 322, 323, 324, 325, 326] (by decide +kernel) (by decide +kernel)
set_option maxRecDepth 20000 in
theorem ggL_law_table_r6 : GoodIn wsL_law wsL_table_r6 := goodIn_r _ [242, 243, 244, 245, 327, 328, 329, 330, 331, 332, 333, 334, 335, 336, 337, 226, 338, 339, 340, 341, 342, 343, 238, 239] (by decide +kernel) (by decide +kernel)
set_option maxRecDepth 20000 in
theorem ggL_law_table_r7 : GoodIn wsL_law wsL_table_r7 := goodIn_r _ [240, 241, 246, 247, 248, 249, 158, 159, 145, 160, 161, 162, 163, 344, 345, 346, 347, 348, 291, 292, 293, 349, 350, 351] (by decide +kernel) (by decide +kernel)
set_option maxRecDepth 20000 in
theorem ggL_law_table_r8 : GoodIn wsL_law wsL_table_r8 := goodIn_r _ [352, 353, 354, 355, 356, 357, 358, 359, 360, 361, 362, 363, 364, 365, 366, 367, 368, 369, 370, 371, 372, 373, 302, 374] (by decide +kernel) (by decide +kernel)
set_option maxRecDepth 20000 in
theorem ggL_law_table_r9 : GoodIn wsL_law wsL_table_r9 := goodIn_r _ [375, 376, 377, 378, 379, 380, 381, 382, 383, 384, 385] (by decide +kernel) (by decide +kernel)
set_option maxRecDepth 20000 in
theorem ggL_law_table_wsX40 : GoodIn wsL_law wsX40 := goodIn_r _ [386, 387, 388, 389, 390, 391, 392] (by decide +kernel) (by decide +kernel)
set_option maxRecDepth 20000 in
theorem ggL_law_table_wsX30 : GoodIn wsL_law wsX30 := goodIn_r _ [393, 394, 395, 396, 397, 398] (by decide +kernel) (by decide +kernel)
set_option maxRecDepth 20000 in
theorem ggL_law_table_wsX10 : GoodIn wsL_law wsX10 := goodIn_r _ [399, 400, 401] (by decide +kernel) (by decide +kernel)
set_option maxRecDepth 20000 in
theorem ggL_law_table_wsX20 : GoodIn wsL_law wsX20 := goodIn_r _ [402, 403, 404, 405, 406, 407] (by decide +kernel) (by decide +kernel)
set_option maxRecDepth 20000 in
theorem ggL_law_L_table : GoodIn wsL_law wsL_table := goodIn_cons ggL_law_table_c (goodIn_app (goodIn_app (goodIn_app (goodIn_app (goodIn_app ggL_law_table_r1 (goodIn_app ggL_law_table_r2 (goodIn_app ggL_law_table_r3 (goodIn_app ggL_law_table_r4 (goodIn_app ggL_law_table_r5 (goodIn_app ggL_law_table_r6 (goodIn_app ggL_law_table_r7 (goodIn_app ggL_law_table_r8 (ggL_law_table_r9))))))))) ggL_law_table_wsX40) ggL_law_table_wsX30) ggL_law_table_wsX10) ggL_law_table_wsX20)
set_option maxRecDepth 20000 in
theorem gL_law_L_table : GoodIn wsL_law (va_wsS RL 93 yL_table wsL_table) := goodIn_app (goodIn_of _ (by decide +kernel)) ggL_law_L_table
