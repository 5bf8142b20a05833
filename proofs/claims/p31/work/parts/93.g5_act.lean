/-! the law: words of its call of act -/
set_option maxRecDepth 20000 in
theorem gp_act_0 : GoodIn wsL_law [.code yL_act cL_act 3 (some .int)] := goodIn_r _ [444] (by decide +kernel) (by decide +kernel)
set_option maxRecDepth 20000 in
theorem gp_act_r1 : GoodIn wsL_law wsL_act_r1 := goodIn_r _ [201, 202, 81, 203, 145, 3, 204, 205, 206, 2, 207, 150, 151, 17, 208, 209, 210, 211, 19, 153, 152, 123, 124, 125] (by decide +kernel) (by decide +kernel)
set_option maxRecDepth 20000 in
theorem gp_act_r2 : GoodIn wsL_law wsL_act_r2 := goodIn_r _ [126, 154, 155, 156, 157, 16, 158, 159, 31, 32, 33, 34, 35, 97, 36, 98, 99, 101, 102, 103, 38, 51, 100, 42] (by decide +kernel) (by decide +kernel)
set_option maxRecDepth 20000 in
theorem gp_act_r3 : GoodIn wsL_law wsL_act_r3 := goodIn_r _ [160, 41, 161, 162, 163, 164, 46, 212, 213, 214, 215, 216, 217, 218, 219, 186, 187, 188, 134, 135, 189, 136, 137, 138] (by decide +kernel) (by decide +kernel)
set_option maxRecDepth 20000 in
theorem gp_act_r4 : GoodIn wsL_law wsL_act_r4 := goodIn_r _ [220, 190, 191, 192, 221, 197, 198, 199, 200, 104, 105, 106, 107, 108, 109, 110, 111, 222, 223, 224, 225, 226, 227, 228] (by decide +kernel) (by decide +kernel)
set_option maxRecDepth 20000 in
theorem gp_act_r5 : GoodIn wsL_law wsL_act_r5 := goodIn_r _ [229, 230, 231, 232, 233, 234, 235, 236, 237, 238, 239, 251, 252, 253, 83, 84, 254, 255, 256, 257, 89, 90, 91, 92] (by decide +kernel) (by decide +kernel)
set_option maxRecDepth 20000 in
theorem gp_act_r6 : GoodIn wsL_law wsL_act_r6 := goodIn_r _ [93, 258, 259, 260, 261, 262, 263, 264, 265, 266, 267, 268, 269, 270, 271, 272, 94, 95, 96, 273, 274, 275, 79, 80] (by decide +kernel) (by decide +kernel)
set_option maxRecDepth 20000 in
theorem gp_act_r7 : GoodIn wsL_law wsL_act_r7 := goodIn_r _ [82, 85, 86, 87, 88, 276, 277, 278, 115, 116, 279, 280, 281, 282, 121, 122, 130, 131, 132, 283, 284, 285, 286, 287] (by decide +kernel) (by decide +kernel)
set_option maxRecDepth 20000 in
theorem gp_act_r8 : GoodIn wsL_law wsL_act_r8 := goodIn_r _ [288, 289, 48, 49, 50, 445, 446, 447, 448, 369, 370, 371, 372, 240, 241, 242, 243, 244, 245, 246, 247, 248, 249, 250] (by decide +kernel) (by decide +kernel)
set_option maxRecDepth 20000 in
theorem gp_act_r9 : GoodIn wsL_law wsL_act_r9 := goodIn_r _ [142, 143, 144, 146, 147, 148, 149, 373, 374, 375, 376, 377, 378, 379, 22, 20, 380, 381, 382, 383, 384, 385, 386, 387] (by decide +kernel) (by decide +kernel)
set_option maxRecDepth 20000 in
theorem gp_act_r10 : GoodIn wsL_law wsL_act_r10 := goodIn_r _ [388, 389, 390] (by decide +kernel) (by decide +kernel)
set_option maxRecDepth 20000 in
theorem ggL_law_L_act : GoodIn wsL_law wsL_act := goodIn_cons gp_act_0 (goodIn_app (goodIn_app (goodIn_app (goodIn_app (goodIn_app (goodIn_app (goodIn_app (gp_act_r1) (goodIn_app (gp_act_r2) (goodIn_app (gp_act_r3) (goodIn_app (gp_act_r4) (goodIn_app (gp_act_r5) (goodIn_app (gp_act_r6) (goodIn_app (gp_act_r7) (goodIn_app (gp_act_r8) (goodIn_app (gp_act_r9) (gp_act_r10)))))))))) (gp_wsX30)) (gp_wsX10)) (gp_wsX00)) (gx_56)) (gx_45)) (gx_152))
set_option maxRecDepth 20000 in
theorem gL_law_L_act : GoodIn wsL_law (va_wsS RL 273 yL_act wsL_act) := goodIn_app (goodIn_of _ (by decide +kernel)) ggL_law_L_act
