/-! the law: words of its call of told -/
set_option maxRecDepth 20000 in
theorem gp_told_0 : GoodIn wsL_law [.code yL_told cL_told 13 (some .boolean)] := goodIn_r _ [406] (by decide +kernel) (by decide +kernel)
set_option maxRecDepth 20000 in
theorem gp_told_r1 : GoodIn wsL_law wsL_told_r1 := goodIn_r _ [407, 3, 408, 409, 81, 410, 411, 412, 413, 414, 415, 2, 416, 13, 417, 418, 419, 391, 392, 393, 83, 145, 84, 394] (by decide +kernel) (by decide +kernel)
set_option maxRecDepth 20000 in
theorem gp_told_r2 : GoodIn wsL_law wsL_told_r2 := goodIn_r _ [395, 396, 397, 89, 90, 150, 151, 91, 92, 93, 398, 12, 399, 400, 59, 27, 52, 53, 54, 55, 56, 57, 58, 60] (by decide +kernel) (by decide +kernel)
set_option maxRecDepth 20000 in
theorem gp_told_r3 : GoodIn wsL_law wsL_told_r3 := goodIn_r _ [61, 62, 63, 64, 65, 66, 67, 68, 69, 70, 71, 72, 73, 74, 75, 76, 77, 78, 420, 421, 422, 423, 424, 425] (by decide +kernel) (by decide +kernel)
set_option maxRecDepth 20000 in
theorem gp_told_r4 : GoodIn wsL_law wsL_told_r4 := goodIn_r _ [426, 427, 428, 429, 17, 22, 430, 16, 431, 432, 31, 32, 33, 34, 35, 97, 36, 98, 99, 101, 102, 103, 51, 100] (by decide +kernel) (by decide +kernel)
set_option maxRecDepth 20000 in
theorem gp_told_r5 : GoodIn wsL_law wsL_told_r5 := goodIn_r _ [42, 433, 434, 435, 436, 437, 438, 47, 48, 49, 50, 38, 439, 41, 440, 441, 163, 164, 387, 388, 389, 390, 152, 153] (by decide +kernel) (by decide +kernel)
set_option maxRecDepth 20000 in
theorem gp_told_r6 : GoodIn wsL_law wsL_told_r6 := goodIn_r _ [79, 80, 82, 85, 86, 87, 88, 94, 95, 96, 104, 105, 106, 107, 108, 109, 110, 111, 142, 143, 144, 146, 147, 148] (by decide +kernel) (by decide +kernel)
set_option maxRecDepth 20000 in
theorem gp_told_r7 : GoodIn wsL_law wsL_told_r7 := goodIn_r _ [149, 19, 154, 155, 156, 157, 158, 159, 160, 161, 162, 46, 380, 381, 382, 115, 116, 383, 384, 385, 386, 121, 122, 20] (by decide +kernel) (by decide +kernel)
set_option maxRecDepth 20000 in
theorem ggL_law_L_told : GoodIn wsL_law wsL_told := goodIn_cons gp_told_0 (goodIn_app (goodIn_app (goodIn_app (goodIn_app (goodIn_app (goodIn_app (goodIn_app (goodIn_app (gp_told_r1) (goodIn_app (gp_told_r2) (goodIn_app (gp_told_r3) (goodIn_app (gp_told_r4) (goodIn_app (gp_told_r5) (goodIn_app (gp_told_r6) (gp_told_r7))))))) (gp_wsX30)) (gp_wsX20)) (gp_wsX10)) (gp_wsX00)) (gx_45)) (gx_56)) (gx_152))
set_option maxRecDepth 20000 in
theorem gL_law_L_told : GoodIn wsL_law (va_wsS RL 270 yL_told wsL_told) := goodIn_app (goodIn_of _ (by decide +kernel)) ggL_law_L_told
