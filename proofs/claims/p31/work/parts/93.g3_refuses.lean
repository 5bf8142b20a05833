/-! the law: words of its call of refuses -/
set_option maxRecDepth 20000 in
theorem gp_refuses_0 : GoodIn wsL_law [.code yL_refuses cL_refuses 4 (some .boolean)] := goodIn_r _ [167] (by decide +kernel) (by decide +kernel)
set_option maxRecDepth 20000 in
theorem gp_refuses_r1 : GoodIn wsL_law wsL_refuses_r1 := goodIn_r _ [84, 3, 116, 168, 79, 80, 81, 82, 83, 85, 86, 87, 2, 88, 89, 90, 17, 91, 92, 93, 94, 16, 95, 96] (by decide +kernel) (by decide +kernel)
set_option maxRecDepth 20000 in
theorem gp_refuses_r2 : GoodIn wsL_law wsL_refuses_r2 := goodIn_r _ [31, 32, 33, 34, 35, 97, 36, 98, 99, 51, 100, 101, 42, 102, 103, 104, 105, 106, 107, 108, 109, 110, 111, 169] (by decide +kernel) (by decide +kernel)
set_option maxRecDepth 20000 in
theorem gp_refuses_r3 : GoodIn wsL_law wsL_refuses_r3 := goodIn_r _ [170, 171, 172, 173, 174, 175, 176, 41, 177, 178, 163, 164, 46, 179, 180, 181, 182, 183, 184, 185, 186, 187, 188, 134] (by decide +kernel) (by decide +kernel)
set_option maxRecDepth 20000 in
theorem gp_refuses_r4 : GoodIn wsL_law wsL_refuses_r4 := goodIn_r _ [135, 189, 136, 137, 138, 38, 190, 191, 192, 193, 194, 195, 196, 197, 198, 199, 200, 201, 202, 203, 145, 204, 205, 206] (by decide +kernel) (by decide +kernel)
set_option maxRecDepth 20000 in
theorem gp_refuses_r5 : GoodIn wsL_law wsL_refuses_r5 := goodIn_r _ [207, 150, 151, 208, 209, 210, 211, 19, 153, 152, 123, 124, 125, 126, 154, 155, 156, 157, 158, 159, 160, 161, 162, 212] (by decide +kernel) (by decide +kernel)
set_option maxRecDepth 20000 in
theorem gp_refuses_r6 : GoodIn wsL_law wsL_refuses_r6 := goodIn_r _ [213, 214, 215, 216, 217, 218, 219, 220, 221, 222, 223, 224, 225, 226, 227, 228, 229, 230, 231, 232, 233, 234, 235, 236] (by decide +kernel) (by decide +kernel)
set_option maxRecDepth 20000 in
theorem gp_refuses_r7 : GoodIn wsL_law wsL_refuses_r7 := goodIn_r _ [237, 238, 239, 240, 241, 242, 243, 244, 245, 246, 247, 248, 249, 250, 251, 252, 253, 254, 255, 256, 257, 258, 259, 260] (by decide +kernel) (by decide +kernel)
set_option maxRecDepth 20000 in
theorem gp_refuses_r8 : GoodIn wsL_law wsL_refuses_r8 := goodIn_r _ [261, 262, 263, 264, 265, 266, 267, 268, 269, 270, 271, 272, 273, 274, 275, 276, 277, 278, 115, 279, 280, 281, 282, 121] (by decide +kernel) (by decide +kernel)
set_option maxRecDepth 20000 in
theorem gp_refuses_r9 : GoodIn wsL_law wsL_refuses_r9 := goodIn_r _ [122, 130, 131, 132, 283, 284, 285, 286, 287, 288, 289, 48, 49, 50, 290, 291, 292, 293, 294, 295, 296, 133, 139, 140] (by decide +kernel) (by decide +kernel)
set_option maxRecDepth 20000 in
theorem gp_refuses_r10 : GoodIn wsL_law wsL_refuses_r10 := goodIn_r _ [141, 112, 113, 114, 117, 118, 119, 120, 127, 128, 129, 297, 298, 299, 300, 301, 302, 303, 304, 305, 306, 307, 308, 309] (by decide +kernel) (by decide +kernel)
set_option maxRecDepth 20000 in
theorem gp_refuses_r11 : GoodIn wsL_law wsL_refuses_r11 := goodIn_r _ [310, 311, 312, 313, 314, 315, 316, 317, 318, 319, 320, 321, 322, 323, 324, 18, 325, 326, 327, 328, 329, 330, 331, 332] (by decide +kernel) (by decide +kernel)
set_option maxRecDepth 20000 in
theorem gp_refuses_r12 : GoodIn wsL_law wsL_refuses_r12 := goodIn_r _ [333, 334, 335, 336, 337, 338, 339, 340, 341, 342, 343, 344, 345, 346, 347, 348, 349, 350, 351, 352, 353, 354, 355, 356] (by decide +kernel) (by decide +kernel)
set_option maxRecDepth 20000 in
theorem gp_refuses_r13 : GoodIn wsL_law wsL_refuses_r13 := goodIn_r _ [357, 358, 359, 360, 361, 362, 363, 364, 365, 366, 367, 368, 369, 370, 371, 372, 373, 374, 375, 376, 377, 378, 379, 22] (by decide +kernel) (by decide +kernel)
set_option maxRecDepth 20000 in
theorem gp_refuses_r14 : GoodIn wsL_law wsL_refuses_r14 := goodIn_r _ [20, 380, 381, 382, 383, 384, 385, 386, 387, 388, 389, 390, 391, 392, 393, 394, 395, 396, 397, 13, 398, 12, 399, 400] (by decide +kernel) (by decide +kernel)
set_option maxRecDepth 20000 in
theorem gp_refuses_r15 : GoodIn wsL_law wsL_refuses_r15 := goodIn_r _ [59, 27] (by decide +kernel) (by decide +kernel)
set_option maxRecDepth 20000 in
theorem gp_wsX20 : GoodIn wsL_law wsX20 := goodIn_r _ [512, 513] (by decide +kernel) (by decide +kernel)
set_option maxRecDepth 20000 in
theorem ggL_law_L_refuses : GoodIn wsL_law wsL_refuses := goodIn_cons gp_refuses_0 (goodIn_app (goodIn_app (goodIn_app (goodIn_app (goodIn_app (goodIn_app (goodIn_app (goodIn_app (gp_refuses_r1) (goodIn_app (gp_refuses_r2) (goodIn_app (gp_refuses_r3) (goodIn_app (gp_refuses_r4) (goodIn_app (gp_refuses_r5) (goodIn_app (gp_refuses_r6) (goodIn_app (gp_refuses_r7) (goodIn_app (gp_refuses_r8) (goodIn_app (gp_refuses_r9) (goodIn_app (gp_refuses_r10) (goodIn_app (gp_refuses_r11) (goodIn_app (gp_refuses_r12) (goodIn_app (gp_refuses_r13) (goodIn_app (gp_refuses_r14) (gp_refuses_r15))))))))))))))) (gp_wsX30)) (gp_wsX10)) (gp_wsX00)) (gp_wsX20)) (gx_45)) (gx_56)) (gx_152))
set_option maxRecDepth 20000 in
theorem gL_law_L_refuses : GoodIn wsL_law (va_wsS RL 262 yL_refuses wsL_refuses) := goodIn_app (goodIn_of _ (by decide +kernel)) ggL_law_L_refuses
