/-! the law: words of its call of values -/
set_option maxRecDepth 200000 in
theorem gp_values_0 : GoodIn wsL_law [.code yL_values cL_values 15 (some .boolean)] := goodIn_r _ [479] rfl (by decide +kernel)
set_option maxRecDepth 20000 in
theorem gp_values_r1 : GoodIn wsL_law wsL_values_r1 := goodIn_r _ [3, 79, 80, 81, 82, 83, 84, 85, 86, 87, 2, 88, 89, 90, 17, 91, 92, 93, 94, 16, 95, 96, 31, 32] (by decide +kernel) (by decide +kernel)
set_option maxRecDepth 20000 in
theorem gp_values_r2 : GoodIn wsL_law wsL_values_r2 := goodIn_r _ [33, 34, 35, 97, 36, 98, 99, 51, 100, 101, 42, 102, 103, 104, 105, 106, 107, 108, 109, 110, 111, 373, 374, 375] (by decide +kernel) (by decide +kernel)
set_option maxRecDepth 20000 in
theorem gp_values_r3 : GoodIn wsL_law wsL_values_r3 := goodIn_r _ [115, 116, 376, 377, 378, 379, 121, 122, 22, 20, 154, 155, 156, 157, 158, 159, 38, 160, 41, 161, 162, 163, 164, 46] (by decide +kernel) (by decide +kernel)
set_option maxRecDepth 20000 in
theorem gp_values_r4 : GoodIn wsL_law wsL_values_r4 := goodIn_r _ [179, 180, 181, 182, 183, 184, 185, 186, 187, 188, 134, 135, 189, 136, 137, 138, 190, 191, 192, 193, 194, 195, 196, 197] (by decide +kernel) (by decide +kernel)
set_option maxRecDepth 20000 in
theorem gp_values_r5 : GoodIn wsL_law wsL_values_r5 := goodIn_r _ [198, 199, 200, 290, 291, 292, 293, 294, 295, 296, 133, 139, 140, 141, 480, 481, 482, 264, 265, 266, 267, 268, 269, 270] (by decide +kernel) (by decide +kernel)
set_option maxRecDepth 20000 in
theorem gp_values_r6 : GoodIn wsL_law wsL_values_r6 := goodIn_r _ [271, 272, 208, 209, 210, 211, 19, 153, 152, 123, 124, 125, 126, 273, 274, 275, 112, 113, 114, 117, 118, 119, 120, 127] (by decide +kernel) (by decide +kernel)
set_option maxRecDepth 20000 in
theorem gp_values_r7 : GoodIn wsL_law wsL_values_r7 := goodIn_r _ [128, 129, 130, 131, 132, 474, 475, 476, 380, 381, 382, 145, 383, 384, 385, 386, 150, 151, 387, 388, 389, 390, 483, 484] (by decide +kernel) (by decide +kernel)
set_option maxRecDepth 20000 in
theorem gp_values_r8 : GoodIn wsL_law wsL_values_r8 := goodIn_r _ [485, 486, 487, 217, 218, 488, 489, 490, 491, 492, 493, 494, 297, 298, 299, 300, 301, 302, 303, 142, 143, 144, 146, 147] (by decide +kernel) (by decide +kernel)
set_option maxRecDepth 20000 in
theorem gp_values_r9 : GoodIn wsL_law wsL_values_r9 := goodIn_r _ [148, 149] (by decide +kernel) (by decide +kernel)
set_option maxRecDepth 20000 in
theorem ggL_law_L_values : GoodIn wsL_law wsL_values := goodIn_cons gp_values_0 (goodIn_app (goodIn_app (goodIn_app (goodIn_app (goodIn_app (goodIn_app (goodIn_app (gp_values_r1) (goodIn_app (gp_values_r2) (goodIn_app (gp_values_r3) (goodIn_app (gp_values_r4) (goodIn_app (gp_values_r5) (goodIn_app (gp_values_r6) (goodIn_app (gp_values_r7) (goodIn_app (gp_values_r8) (gp_values_r9))))))))) (gp_wsX30)) (gp_wsX10)) (gp_wsX00)) (gx_45)) (gx_152)) (gx_56))
set_option maxRecDepth 20000 in
theorem gL_law_L_values : GoodIn wsL_law (va_wsS RL 280 yL_values wsL_values) := goodIn_app (goodIn_of _ (by decide +kernel)) ggL_law_L_values
