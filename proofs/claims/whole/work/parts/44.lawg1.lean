/-! the law: words of its calls -/
set_option maxRecDepth 20000 in
theorem ggL_law_L_bridge : GoodIn wsL_law wsL_bridge := goodIn_ca (goodIn_r _ [247, 71, 248, 249, 250, 2, 251, 77, 78, 21, 81, 82, 83, 252, 20, 253, 254, 36, 178, 35, 255, 256, 257, 258, 259, 260, 42, 261, 262, 263, 264, 265, 266, 267, 268, 269, 270, 271, 38, 215, 216, 217, 173, 218, 219, 220, 221, 172, 40, 663, 664, 665, 666, 667, 668, 669, 670, 684, 685, 686, 687, 688, 689, 690, 691, 692, 693, 694, 695, 696, 697, 698, 699] (by decide +kernel) (by decide +kernel)) (goodIn_sub (fun _ h => List.mem_append_left _ (List.mem_append_left _ (List.mem_append_right _ h))) (by decide +kernel))
set_option maxRecDepth 20000 in
theorem gL_law_L_bridge : GoodIn wsL_law (va_wsS RL 122 yL_bridge wsL_bridge) := goodIn_app (goodIn_of _ (by decide +kernel)) ggL_law_L_bridge
set_option maxRecDepth 20000 in
theorem ggL_law_X4_bridge : GoodIn wsL_law wsX4_bridge := goodIn_r _ [275, 276, 62, 94, 95, 5, 96, 97, 98, 99, 100, 101, 277, 278, 279, 280, 281, 282, 283, 284, 285, 286, 287, 288, 289, 290, 291, 292, 293, 294, 295, 227, 228, 229, 671, 672, 673, 674, 675, 676, 677, 678, 679, 680, 681] (by decide +kernel) (by decide +kernel)
set_option maxRecDepth 20000 in
theorem gL_law_X4_bridge : GoodIn wsL_law (wsV RL 124 RX4 yX4_bridge wsX4_bridge) := goodIn_app (goodIn_of _ (by decide +kernel)) ggL_law_X4_bridge
set_option maxRecDepth 20000 in
theorem ggL_law_L_press : GoodIn wsL_law wsL_press := goodIn_ca (goodIn_r _ [298, 72, 299, 300, 301, 2, 302, 79, 80, 21, 303, 304, 305, 306, 23, 195, 194, 307, 308, 309, 310, 311, 312, 313, 314, 20, 315, 316, 35, 36, 37, 38, 39, 172, 40, 173, 174, 175, 176, 177, 42, 55, 178, 46, 317, 45, 318, 319, 188, 189, 50, 320, 321, 322, 323, 324, 325, 326, 327, 252, 253, 254, 255, 256, 257, 258, 259, 260, 328, 261, 262, 263, 329, 268, 269, 270, 271, 214, 215, 216, 217, 218, 219, 220, 221, 330, 331, 332, 333, 334, 335, 336, 663, 664, 665, 666, 667, 668, 669, 670, 684, 685, 686, 687, 688, 689, 690, 691, 692, 693, 694, 695, 696, 697, 698, 699, 700, 701, 702] (by decide +kernel) (by decide +kernel)) (goodIn_sub (fun _ h => List.mem_append_left _ (List.mem_append_right _ h)) (by decide +kernel))
set_option maxRecDepth 20000 in
theorem gL_law_L_press : GoodIn wsL_law (va_wsS RL 125 yL_press wsL_press) := goodIn_app (goodIn_of _ (by decide +kernel)) ggL_law_L_press
set_option maxRecDepth 20000 in
theorem ggL_law_X4_press : GoodIn wsL_law wsX4_press := goodIn_r _ [340, 62, 97, 98, 99, 5, 100, 101, 341, 342, 343, 344, 200, 64, 201, 202, 203, 345, 346, 347, 293, 294, 295, 289, 290, 291, 292, 277, 278, 279, 280, 281, 282, 283, 284, 285, 286, 287, 288, 227, 228, 229, 671, 672, 673, 674, 675, 676, 677, 678, 679, 680, 681] (by decide +kernel) (by decide +kernel)
set_option maxRecDepth 20000 in
theorem gL_law_X4_press : GoodIn wsL_law (wsV RL 128 RX4 yX4_press wsX4_press) := goodIn_app (goodIn_of _ (by decide +kernel)) ggL_law_X4_press
set_option maxRecDepth 20000 in
theorem ggL_law_L_pair : GoodIn wsL_law wsL_pair := goodIn_ca (goodIn_r _ [350, 72, 351, 352, 353, 2, 354, 79, 80, 21, 303, 304, 305, 306, 23, 195, 194, 307, 308, 309, 310, 311, 312, 313, 314, 20, 315, 316, 35, 36, 37, 38, 39, 172, 40, 173, 174, 175, 176, 177, 42, 55, 178, 46, 317, 45, 318, 319, 188, 189, 50, 355, 356, 357, 358, 320, 321, 322, 323, 324, 325, 326, 327, 252, 253, 254, 255, 256, 257, 258, 259, 260, 328, 261, 262, 263, 329, 268, 269, 270, 271, 214, 215, 216, 217, 218, 219, 220, 221, 330, 331, 332, 333, 334, 335, 336, 663, 664, 665, 666, 667, 668, 669, 670, 684, 685, 686, 687, 688, 689, 690, 691, 692, 693, 694, 695, 696, 697, 698, 699, 700, 701, 702] (by decide +kernel) (by decide +kernel)) (goodIn_sub (fun _ h => List.mem_append_left _ (List.mem_append_right _ h)) (by decide +kernel))
set_option maxRecDepth 20000 in
theorem gL_law_L_pair : GoodIn wsL_law (va_wsS RL 129 yL_pair wsL_pair) := goodIn_app (goodIn_of _ (by decide +kernel)) ggL_law_L_pair
set_option maxRecDepth 20000 in
theorem ggL_law_X4_pair : GoodIn wsL_law wsX4_pair := goodIn_r _ [362, 62, 97, 98, 99, 5, 100, 101, 341, 342, 343, 344, 200, 64, 201, 202, 203, 363, 364, 365, 345, 346, 347, 293, 294, 295, 289, 290, 291, 292, 277, 278, 279, 280, 281, 282, 283, 284, 285, 286, 287, 288, 227, 228, 229, 671, 672, 673, 674, 675, 676, 677, 678, 679, 680, 681] (by decide +kernel) (by decide +kernel)
set_option maxRecDepth 20000 in
theorem gL_law_X4_pair : GoodIn wsL_law (wsV RL 131 RX4 yX4_pair wsX4_pair) := goodIn_app (goodIn_of _ (by decide +kernel)) ggL_law_X4_pair
set_option maxRecDepth 20000 in
theorem ggL_law_L_pause : GoodIn wsL_law wsL_pause := goodIn_ca (goodIn_r _ [368, 71, 369, 370, 371, 2, 372, 77, 78, 21, 81, 82, 83, 303, 304, 305, 306, 23, 195, 194, 307, 308, 309, 310, 311, 312, 313, 314, 20, 315, 316, 35, 36, 37, 38, 39, 172, 40, 173, 174, 175, 176, 177, 42, 55, 178, 46, 317, 45, 318, 319, 188, 189, 50, 373, 374, 375, 376, 377, 378, 324, 325, 326, 215, 216, 217, 218, 219, 220, 221, 663, 664, 665, 666, 667, 668, 669, 670, 684, 685, 686, 687, 688, 689, 690, 691, 692, 693, 694, 695, 696, 697, 698, 699, 700, 701, 702] (by decide +kernel) (by decide +kernel)) (goodIn_sub (fun _ h => List.mem_append_left _ (List.mem_append_left _ (List.mem_append_right _ h))) (by decide +kernel))
set_option maxRecDepth 20000 in
theorem gL_law_L_pause : GoodIn wsL_law (va_wsS RL 132 yL_pause wsL_pause) := goodIn_app (goodIn_of _ (by decide +kernel)) ggL_law_L_pause
set_option maxRecDepth 20000 in
theorem ggL_law_X4_pause : GoodIn wsL_law wsX4_pause := goodIn_r _ [382, 383, 62, 94, 95, 5, 96, 97, 98, 99, 100, 101, 341, 342, 343, 344, 200, 64, 201, 202, 203, 384, 385, 386, 227, 228, 229, 671, 672, 673, 674, 675, 676, 677, 678, 679, 680, 681] (by decide +kernel) (by decide +kernel)
set_option maxRecDepth 20000 in
theorem gL_law_X4_pause : GoodIn wsL_law (wsV RL 134 RX4 yX4_pause wsX4_pause) := goodIn_app (goodIn_of _ (by decide +kernel)) ggL_law_X4_pause
set_option maxRecDepth 20000 in
theorem ggL_law_L_set : GoodIn wsL_law wsL_set := goodIn_ca (goodIn_r _ [389, 71, 390, 391, 392, 2, 393, 77, 78, 21, 394, 20, 395, 303, 304, 305, 306, 23, 195, 194, 307, 308, 309, 310, 311, 312, 313, 314, 315, 316, 35, 36, 37, 38, 39, 172, 40, 173, 174, 175, 176, 177, 42, 55, 178, 46, 317, 45, 318, 319, 188, 189, 50, 211, 212, 213, 214, 215, 216, 217, 218, 219, 220, 221, 396, 397, 398, 663, 664, 665, 666, 667, 668, 669, 670, 684, 685, 686, 687, 688, 689, 690, 691, 692, 693, 694, 695, 696, 697, 698, 699, 700, 701, 702] (by decide +kernel) (by decide +kernel)) (goodIn_sub (fun _ h => List.mem_append_left _ (List.mem_append_left _ (List.mem_append_right _ h))) (by decide +kernel))
set_option maxRecDepth 20000 in
theorem gL_law_L_set : GoodIn wsL_law (va_wsS RL 135 yL_set wsL_set) := goodIn_app (goodIn_of _ (by decide +kernel)) ggL_law_L_set
set_option maxRecDepth 20000 in
theorem ggL_law_X4_set : GoodIn wsL_law wsX4_set := goodIn_r _ [402, 62, 403, 404, 5, 405, 244, 406, 407, 408, 409, 410, 94, 95, 96, 97, 98, 99, 100, 101, 341, 342, 343, 344, 200, 64, 201, 202, 203, 671, 672, 673, 674, 675, 676, 677, 678, 679, 680, 681] (by decide +kernel) (by decide +kernel)
set_option maxRecDepth 20000 in
theorem gL_law_X4_set : GoodIn wsL_law (wsV RL 137 RX4 yX4_set wsX4_set) := goodIn_app (goodIn_of _ (by decide +kernel)) ggL_law_X4_set
set_option maxRecDepth 20000 in
theorem ggL_law_L_choose : GoodIn wsL_law wsL_choose := goodIn_ca (goodIn_r _ [413, 414, 415, 416, 417, 2, 418, 419, 420, 21, 421, 20, 422, 423, 55, 303, 304, 305, 306, 23, 195, 194, 307, 308, 309, 310, 311, 312, 313, 314, 315, 316, 35, 36, 37, 38, 39, 172, 40, 173, 174, 175, 176, 177, 42, 178, 46, 317, 45, 318, 319, 188, 189, 50, 663, 664, 665, 666, 667, 668, 669, 670, 684, 685, 686, 687, 688, 689, 690, 691, 692, 693, 694, 695, 696, 697, 698, 699, 700, 701, 702] (by decide +kernel) (by decide +kernel)) (goodIn_sub (fun _ h => List.mem_append_right _ h) (by decide +kernel))
set_option maxRecDepth 20000 in
theorem gL_law_L_choose : GoodIn wsL_law (va_wsS RL 138 yL_choose wsL_choose) := goodIn_app (goodIn_of _ (by decide +kernel)) ggL_law_L_choose
set_option maxRecDepth 20000 in
theorem ggL_law_X4_choose : GoodIn wsL_law wsX4_choose := goodIn_r _ [427, 62, 428, 429, 5, 430, 94, 95, 96, 97, 98, 99, 100, 101, 341, 342, 343, 344, 200, 64, 201, 202, 203, 671, 672, 673, 674, 675, 676, 677, 678, 679, 680, 681] (by decide +kernel) (by decide +kernel)
set_option maxRecDepth 20000 in
theorem gL_law_X4_choose : GoodIn wsL_law (wsV RL 140 RX4 yX4_choose wsX4_choose) := goodIn_app (goodIn_of _ (by decide +kernel)) ggL_law_X4_choose
set_option maxRecDepth 20000 in
theorem ggL_law_L_add : GoodIn wsL_law wsL_add := goodIn_ca (goodIn_ca (goodIn_r _ [433, 71, 72, 434, 435, 436, 2, 437, 77, 78, 79, 80, 21, 81, 82, 83, 303, 304, 305, 306, 23, 195, 194, 307, 308, 309, 310, 311, 312, 313, 314, 20, 315, 316, 35, 36, 37, 38, 39, 172, 40, 173, 174, 175, 176, 177, 42, 55, 178, 46, 317, 45, 318, 319, 188, 189, 50, 52, 53, 54, 663, 664, 665, 666, 667, 668, 669, 670, 684, 685, 686, 687, 688, 689, 690, 691, 692, 693, 694, 695, 696, 697, 698, 699, 700, 701, 702] (by decide +kernel) (by decide +kernel)) (goodIn_sub (fun _ h => List.mem_append_left _ (List.mem_append_left _ (List.mem_append_right _ h))) (by decide +kernel))) (goodIn_sub (fun _ h => List.mem_append_left _ (List.mem_append_right _ h)) (by decide +kernel))
set_option maxRecDepth 20000 in
theorem gL_law_L_add : GoodIn wsL_law (va_wsS RL 141 yL_add wsL_add) := goodIn_app (goodIn_of _ (by decide +kernel)) ggL_law_L_add
set_option maxRecDepth 20000 in
theorem ggL_law_X4_add : GoodIn wsL_law wsX4_add := goodIn_r _ [441, 406, 62, 94, 95, 5, 96, 97, 98, 99, 100, 101, 341, 342, 343, 344, 200, 64, 201, 202, 203, 671, 672, 673, 674, 675, 676, 677, 678, 679, 680, 681] (by decide +kernel) (by decide +kernel)
set_option maxRecDepth 20000 in
theorem gL_law_X4_add : GoodIn wsL_law (wsV RL 143 RX4 yX4_add wsX4_add) := goodIn_app (goodIn_of _ (by decide +kernel)) ggL_law_X4_add
set_option maxRecDepth 20000 in
theorem ggL_law_X3_free : GoodIn wsL_law wsX3_free := goodIn_r _ [445, 21, 303, 304, 305, 2, 306, 23, 195, 194, 307, 308, 309, 310, 311, 312, 313, 314, 20, 315, 316, 35, 36, 37, 38, 39, 172, 40, 173, 174, 175, 176, 177, 42, 55, 178, 46, 317, 45, 318, 319, 188, 189, 50, 446, 447, 448, 449, 373, 374, 375, 376, 377, 378, 324, 325, 326, 663, 664, 665, 666, 667, 668, 669, 670, 684, 685, 686, 687, 688, 689, 690, 691, 692, 693, 694, 695, 696, 697, 698, 699, 700, 701, 702] (by decide +kernel) (by decide +kernel)
set_option maxRecDepth 20000 in
theorem gL_law_X3_free : GoodIn wsL_law (wsV RL 144 RX3 yX3_free wsX3_free) := goodIn_app (goodIn_of _ (by decide +kernel)) ggL_law_X3_free
