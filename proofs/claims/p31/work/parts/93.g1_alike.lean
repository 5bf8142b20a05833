/-! the law: words of its call of alike -/
set_option maxRecDepth 20000 in
theorem gp_alike_0 : GoodIn wsL_law [.code yL_alike cL_alike 4 (some .boolean)] := goodIn_r _ [403] (by decide +kernel) (by decide +kernel)
set_option maxRecDepth 20000 in
theorem gp_alike_r1 : GoodIn wsL_law wsL_alike_r1 := goodIn_r _ [79, 80, 81, 82, 83, 84, 85, 86, 87, 2, 88, 89, 90, 17, 91, 92, 93, 94, 16, 95, 96, 31, 32, 33] (by decide +kernel) (by decide +kernel)
set_option maxRecDepth 20000 in
theorem gp_alike_r2 : GoodIn wsL_law wsL_alike_r2 := goodIn_r _ [34, 35, 97, 36, 98, 99, 51, 100, 101, 42, 102, 103, 104, 105, 106, 107, 108, 109, 110, 111, 179, 180, 181, 182] (by decide +kernel) (by decide +kernel)
set_option maxRecDepth 20000 in
theorem gp_alike_r3 : GoodIn wsL_law wsL_alike_r3 := goodIn_r _ [183, 184, 185, 186, 187, 188, 134, 135, 189, 136, 137, 138, 38, 190, 191, 192, 193, 194, 195, 196, 197, 198, 199, 200] (by decide +kernel) (by decide +kernel)
set_option maxRecDepth 20000 in
theorem gp_alike_r4 : GoodIn wsL_law wsL_alike_r4 := goodIn_r _ [169, 170, 171, 172, 173, 174, 175, 176, 41, 177, 178, 163, 164, 46] (by decide +kernel) (by decide +kernel)
set_option maxRecDepth 20000 in
theorem gp_wsX30 : GoodIn wsL_law wsX30 := goodIn_r _ [504, 505, 506, 507, 508, 509, 510, 511] (by decide +kernel) (by decide +kernel)
set_option maxRecDepth 20000 in
theorem gp_wsX10 : GoodIn wsL_law wsX10 := goodIn_r _ [514, 515, 516, 517, 518, 519, 520, 521, 522, 523, 524, 525, 526, 527, 528, 529] (by decide +kernel) (by decide +kernel)
set_option maxRecDepth 20000 in
theorem gp_wsX00 : GoodIn wsL_law wsX00 := goodIn_r _ [530, 531, 532] (by decide +kernel) (by decide +kernel)
set_option maxRecDepth 20000 in
theorem ggL_law_L_alike : GoodIn wsL_law wsL_alike := goodIn_cons gp_alike_0 (goodIn_app (goodIn_app (goodIn_app (goodIn_app (goodIn_app (gp_alike_r1) (goodIn_app (gp_alike_r2) (goodIn_app (gp_alike_r3) (gp_alike_r4)))) (gp_wsX30)) (gp_wsX10)) (gp_wsX00)) (gx_45))
set_option maxRecDepth 20000 in
theorem gL_law_L_alike : GoodIn wsL_law (va_wsS RL 266 yL_alike wsL_alike) := goodIn_app (goodIn_of _ (by decide +kernel)) ggL_law_L_alike
