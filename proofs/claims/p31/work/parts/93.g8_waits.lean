/-! the law: words of its call of waits -/
set_option maxRecDepth 200000 in
theorem gp_waits_0 : GoodIn wsL_law [.code yL_waits cL_waits 17 (some .boolean)] := goodIn_r _ [497] rfl (by decide +kernel)
set_option maxRecDepth 20000 in
theorem gp_waits_r1 : GoodIn wsL_law wsL_waits_r1 := goodIn_r _ [3, 79, 80, 81, 82, 83, 84, 85, 86, 87, 2, 88, 89, 90, 17, 91, 92, 93, 94, 16, 95, 96, 31, 32] (by decide +kernel) (by decide +kernel)
set_option maxRecDepth 20000 in
theorem gp_waits_r2 : GoodIn wsL_law wsL_waits_r2 := goodIn_r _ [33, 34, 35, 97, 36, 98, 99, 51, 100, 101, 42, 102, 103, 104, 105, 106, 107, 108, 109, 110, 111, 373, 374, 375] (by decide +kernel) (by decide +kernel)
set_option maxRecDepth 20000 in
theorem gp_waits_r3 : GoodIn wsL_law wsL_waits_r3 := goodIn_r _ [115, 116, 376, 377, 378, 379, 121, 122, 22, 20, 154, 155, 156, 157, 158, 159, 38, 160, 41, 161, 162, 163, 164, 46] (by decide +kernel) (by decide +kernel)
set_option maxRecDepth 20000 in
theorem gp_waits_r4 : GoodIn wsL_law wsL_waits_r4 := goodIn_r _ [304, 305, 306, 307, 308, 309, 310, 227, 228, 215, 124, 125, 126, 262, 263, 216, 217, 218, 251, 252, 253, 254, 255, 256] (by decide +kernel) (by decide +kernel)
set_option maxRecDepth 20000 in
theorem gp_waits_r5 : GoodIn wsL_law wsL_waits_r5 := goodIn_r _ [257, 208, 209, 210, 211, 19, 153, 152, 123, 258, 259, 260, 261, 380, 381, 382, 145, 383, 384, 385, 386, 150, 151, 387] (by decide +kernel) (by decide +kernel)
set_option maxRecDepth 20000 in
theorem gp_waits_r6 : GoodIn wsL_law wsL_waits_r6 := goodIn_r _ [388, 389, 390, 311, 312, 313, 314, 315, 316, 317, 445, 446, 447, 448, 369, 370, 371, 372, 318, 319, 320, 321, 322, 323] (by decide +kernel) (by decide +kernel)
set_option maxRecDepth 20000 in
theorem gp_waits_r7 : GoodIn wsL_law wsL_waits_r7 := goodIn_r _ [324, 18, 247, 248, 249, 134, 135, 250, 236, 237, 238, 239, 212, 213, 214, 219, 186, 187, 188, 189, 136, 137, 138, 220] (by decide +kernel) (by decide +kernel)
set_option maxRecDepth 20000 in
theorem gp_waits_r8 : GoodIn wsL_law wsL_waits_r8 := goodIn_r _ [190, 191, 192, 221, 197, 198, 199, 200, 222, 223, 224, 225, 226, 240, 241, 242, 243, 244, 245, 246, 142, 143, 144, 146] (by decide +kernel) (by decide +kernel)
set_option maxRecDepth 20000 in
theorem gp_waits_r9 : GoodIn wsL_law wsL_waits_r9 := goodIn_r _ [147, 148, 149, 498, 499, 500, 201, 202, 203, 204, 205, 206, 207, 179, 180, 181, 182, 183, 184, 185, 193, 194, 195, 196] (by decide +kernel) (by decide +kernel)
set_option maxRecDepth 20000 in
theorem gp_waits_r10 : GoodIn wsL_law wsL_waits_r10 := goodIn_r _ [169, 170, 171, 172, 173, 174, 175, 176, 177, 178, 501, 502, 503, 229, 230, 231, 232, 233, 234, 235] (by decide +kernel) (by decide +kernel)
set_option maxRecDepth 20000 in
theorem ggL_law_L_waits : GoodIn wsL_law wsL_waits := goodIn_cons gp_waits_0 (goodIn_app (goodIn_app (goodIn_app (goodIn_app (goodIn_app (goodIn_app (goodIn_app (gp_waits_r1) (goodIn_app (gp_waits_r2) (goodIn_app (gp_waits_r3) (goodIn_app (gp_waits_r4) (goodIn_app (gp_waits_r5) (goodIn_app (gp_waits_r6) (goodIn_app (gp_waits_r7) (goodIn_app (gp_waits_r8) (goodIn_app (gp_waits_r9) (gp_waits_r10)))))))))) (gp_wsX30)) (gp_wsX10)) (gp_wsX00)) (gx_45)) (gx_152)) (gx_56))
set_option maxRecDepth 20000 in
theorem gL_law_L_waits : GoodIn wsL_law (va_wsS RL 283 yL_waits wsL_waits) := goodIn_app (goodIn_of _ (by decide +kernel)) ggL_law_L_waits
