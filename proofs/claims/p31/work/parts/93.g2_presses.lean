/-! the law: words of its call of presses -/
set_option maxRecDepth 20000 in
theorem gp_presses_0 : GoodIn wsL_law [.code yL_presses cL_presses 10 (some .boolean)] := goodIn_r _ [500] (by decide +kernel) (by decide +kernel)
set_option maxRecDepth 20000 in
theorem gp_presses_r1 : GoodIn wsL_law wsL_presses_r1 := goodIn_r _ [3, 79, 80, 81, 82, 83, 84, 85, 86, 87, 2, 88, 89, 90, 17, 91, 92, 93, 94, 16, 95, 96, 31, 32] (by decide +kernel) (by decide +kernel)
set_option maxRecDepth 20000 in
theorem gp_presses_r2 : GoodIn wsL_law wsL_presses_r2 := goodIn_r _ [33, 34, 35, 97, 36, 98, 99, 51, 100, 101, 42, 102, 103, 104, 105, 106, 107, 108, 109, 110, 111, 201, 202, 203] (by decide +kernel) (by decide +kernel)
set_option maxRecDepth 20000 in
theorem gp_presses_r3 : GoodIn wsL_law wsL_presses_r3 := goodIn_r _ [145, 204, 205, 206, 207, 150, 151, 208, 209, 210, 211, 19, 153, 152, 123, 124, 125, 126, 154, 155, 156, 157, 158, 159] (by decide +kernel) (by decide +kernel)
set_option maxRecDepth 20000 in
theorem gp_presses_r4 : GoodIn wsL_law wsL_presses_r4 := goodIn_r _ [38, 160, 41, 161, 162, 163, 164, 46, 212, 213, 214, 215, 216, 217, 218, 219, 186, 187, 188, 134, 135, 189, 136, 137] (by decide +kernel) (by decide +kernel)
set_option maxRecDepth 20000 in
theorem gp_presses_r5 : GoodIn wsL_law wsL_presses_r5 := goodIn_r _ [138, 220, 190, 191, 192, 221, 197, 198, 199, 200, 222, 223, 224, 225, 226, 227, 228, 179, 180, 181, 182, 183, 184, 185] (by decide +kernel) (by decide +kernel)
set_option maxRecDepth 20000 in
theorem gp_presses_r6 : GoodIn wsL_law wsL_presses_r6 := goodIn_r _ [193, 194, 195, 196, 169, 170, 171, 172, 173, 174, 175, 176, 177, 178, 501, 502, 503] (by decide +kernel) (by decide +kernel)
set_option maxRecDepth 20000 in
theorem ggL_law_L_presses : GoodIn wsL_law wsL_presses := goodIn_cons gp_presses_0 (goodIn_app (goodIn_app (goodIn_app (goodIn_app (goodIn_app (goodIn_app (gp_presses_r1) (goodIn_app (gp_presses_r2) (goodIn_app (gp_presses_r3) (goodIn_app (gp_presses_r4) (goodIn_app (gp_presses_r5) (gp_presses_r6)))))) (gp_wsX30)) (gp_wsX10)) (gp_wsX00)) (gx_45)) (gx_56))
set_option maxRecDepth 20000 in
theorem gL_law_L_presses : GoodIn wsL_law (va_wsS RL 213 yL_presses wsL_presses) := goodIn_app (goodIn_of _ (by decide +kernel)) ggL_law_L_presses
