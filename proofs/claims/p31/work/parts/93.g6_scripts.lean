/-! the law: words of its call of scripts -/
set_option maxRecDepth 20000 in
theorem gp_scripts_0 : GoodIn wsL_law [.code yL_scripts cL_scripts 9 (some .boolean)] := goodIn_r _ [451] (by decide +kernel) (by decide +kernel)
set_option maxRecDepth 20000 in
theorem gp_scripts_r1 : GoodIn wsL_law wsL_scripts_r1 := goodIn_r _ [452, 453, 454, 455, 456, 457, 458, 459, 460, 461, 462, 463, 464, 465, 466, 467, 468, 469, 470, 471, 472, 473, 79, 80] (by decide +kernel) (by decide +kernel)
set_option maxRecDepth 20000 in
theorem gp_scripts_r2 : GoodIn wsL_law wsL_scripts_r2 := goodIn_r _ [81, 82, 83, 84, 85, 86, 87, 2, 88, 89, 90, 17, 91, 92, 93, 94, 16, 95, 96, 31, 32, 33, 34, 35] (by decide +kernel) (by decide +kernel)
set_option maxRecDepth 20000 in
theorem gp_scripts_r3 : GoodIn wsL_law wsL_scripts_r3 := goodIn_r _ [97, 36, 98, 99, 51, 100, 101, 42, 102, 103, 104, 105, 106, 107, 108, 109, 110, 111, 169, 170, 171, 172, 173, 174] (by decide +kernel) (by decide +kernel)
set_option maxRecDepth 20000 in
theorem gp_scripts_r4 : GoodIn wsL_law wsL_scripts_r4 := goodIn_r _ [175, 176, 41, 177, 178, 163, 164, 46, 356, 357, 358, 359, 360, 361, 362, 18, 363, 364, 157, 158, 159, 38, 160, 161] (by decide +kernel) (by decide +kernel)
set_option maxRecDepth 20000 in
theorem gp_scripts_r5 : GoodIn wsL_law wsL_scripts_r5 := goodIn_r _ [162, 365, 366, 367, 368, 258, 259, 260, 261, 262, 263, 216, 217, 125, 218, 369, 370, 371, 372, 212, 213, 214, 215, 124] (by decide +kernel) (by decide +kernel)
set_option maxRecDepth 20000 in
theorem gp_scripts_r6 : GoodIn wsL_law wsL_scripts_r6 := goodIn_r _ [126, 219, 186, 187, 188, 134, 135, 189, 136, 137, 138, 220, 190, 191, 192, 221, 197, 198, 199, 200, 222, 223, 224, 225] (by decide +kernel) (by decide +kernel)
set_option maxRecDepth 20000 in
theorem gp_scripts_r7 : GoodIn wsL_law wsL_scripts_r7 := goodIn_r _ [226, 227, 228, 325, 326, 327, 328, 329, 330, 331, 332, 333, 334, 335, 336, 337, 338, 339, 340, 341, 342, 343, 344, 345] (by decide +kernel) (by decide +kernel)
set_option maxRecDepth 20000 in
theorem gp_scripts_r8 : GoodIn wsL_law wsL_scripts_r8 := goodIn_r _ [346, 347, 348, 349, 350, 351, 271, 272, 273, 274, 275, 352, 353, 354, 355, 130, 131, 132, 247, 248, 249, 250, 236, 237] (by decide +kernel) (by decide +kernel)
set_option maxRecDepth 20000 in
theorem gp_scripts_r9 : GoodIn wsL_law wsL_scripts_r9 := goodIn_r _ [238, 239, 474, 475, 476] (by decide +kernel) (by decide +kernel)
set_option maxRecDepth 20000 in
theorem ggL_law_L_scripts : GoodIn wsL_law wsL_scripts := goodIn_cons gp_scripts_0 (goodIn_app (goodIn_app (goodIn_app (goodIn_app (goodIn_app (gp_scripts_r1) (goodIn_app (gp_scripts_r2) (goodIn_app (gp_scripts_r3) (goodIn_app (gp_scripts_r4) (goodIn_app (gp_scripts_r5) (goodIn_app (gp_scripts_r6) (goodIn_app (gp_scripts_r7) (goodIn_app (gp_scripts_r8) (gp_scripts_r9))))))))) (gp_wsX30)) (gp_wsX10)) (gp_wsX00)) (gx_45))
set_option maxRecDepth 20000 in
theorem gL_law_L_scripts : GoodIn wsL_law (va_wsS RL 276 yL_scripts wsL_scripts) := goodIn_app (goodIn_of _ (by decide +kernel)) ggL_law_L_scripts
