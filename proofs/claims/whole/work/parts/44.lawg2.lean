/-! the law: words of its calls -/
set_option maxRecDepth 20000 in
theorem ggL_law_X4_free : GoodIn wsL_law wsX4_free := goodIn_r _ [453, 101, 62, 341, 342, 343, 5, 344, 200, 64, 201, 202, 203, 454, 455, 456, 384, 385, 386, 671, 672, 673, 674, 675, 676, 677, 678, 679, 680, 681] (by decide +kernel) (by decide +kernel)
set_option maxRecDepth 20000 in
theorem gL_law_X4_free : GoodIn wsL_law (wsV RL 147 RX4 yX4_free wsX4_free) := goodIn_app (goodIn_of _ (by decide +kernel)) ggL_law_X4_free
set_option maxRecDepth 20000 in
theorem ggL_law_L_balance : GoodIn wsL_law wsL_balance := goodIn_ca (goodIn_r _ [459, 72, 460, 461, 462, 2, 463, 79, 80, 21, 303, 304, 305, 306, 23, 195, 194, 307, 308, 309, 310, 311, 312, 313, 314, 20, 315, 316, 35, 36, 37, 38, 39, 172, 40, 173, 174, 175, 176, 177, 42, 55, 178, 46, 317, 45, 318, 319, 188, 189, 50, 464, 465, 466, 255, 256, 467, 355, 356, 357, 358, 320, 321, 322, 323, 324, 325, 326, 327, 252, 253, 254, 257, 258, 259, 260, 328, 261, 262, 263, 329, 268, 269, 270, 271, 214, 215, 216, 217, 218, 219, 220, 221, 330, 331, 332, 333, 334, 335, 336, 663, 664, 665, 666, 667, 668, 669, 670, 684, 685, 686, 687, 688, 689, 690, 691, 692, 693, 694, 695, 696, 697, 698, 699, 700, 701, 702] (by decide +kernel) (by decide +kernel)) (goodIn_sub (fun _ h => List.mem_append_left _ (List.mem_append_right _ h)) (by decide +kernel))
set_option maxRecDepth 20000 in
theorem gL_law_L_balance : GoodIn wsL_law (va_wsS RL 148 yL_balance wsL_balance) := goodIn_app (goodIn_of _ (by decide +kernel)) ggL_law_L_balance
set_option maxRecDepth 20000 in
theorem ggL_law_X4_balance : GoodIn wsL_law wsX4_balance := goodIn_r _ [471, 62, 97, 98, 99, 5, 100, 101, 341, 342, 343, 344, 200, 64, 201, 202, 203, 472, 473, 474, 363, 364, 365, 345, 346, 347, 293, 294, 295, 289, 290, 291, 292, 277, 278, 279, 280, 281, 282, 283, 284, 285, 286, 287, 288, 227, 228, 229, 671, 672, 673, 674, 675, 676, 677, 678, 679, 680, 681] (by decide +kernel) (by decide +kernel)
set_option maxRecDepth 20000 in
theorem gL_law_X4_balance : GoodIn wsL_law (wsV RL 150 RX4 yX4_balance wsX4_balance) := goodIn_app (goodIn_of _ (by decide +kernel)) ggL_law_X4_balance
set_option maxRecDepth 20000 in
theorem ggL_law_L_undo : GoodIn wsL_law wsL_undo := goodIn_ca (goodIn_r _ [477, 72, 478, 479, 480, 2, 481, 79, 80, 194, 195, 21, 23, 311, 312, 313, 314, 20, 315, 316, 35, 36, 37, 38, 39, 172, 40, 173, 174, 175, 176, 177, 42, 55, 178, 46, 317, 45, 318, 319, 188, 189, 50, 663, 664, 665, 666, 667, 668, 669, 670, 684, 685, 686, 687, 688, 689, 690, 691, 692, 693, 694, 695, 696, 697, 698, 699, 700, 701, 702] (by decide +kernel) (by decide +kernel)) (goodIn_sub (fun _ h => List.mem_append_left _ (List.mem_append_right _ h)) (by decide +kernel))
set_option maxRecDepth 20000 in
theorem gL_law_L_undo : GoodIn wsL_law (va_wsS RL 151 yL_undo wsL_undo) := goodIn_app (goodIn_of _ (by decide +kernel)) ggL_law_L_undo
set_option maxRecDepth 20000 in
theorem ggL_law_X4_undo : GoodIn wsL_law wsX4_undo := goodIn_r _ [485, 200, 64, 62, 97, 98, 99, 5, 100, 101, 201, 202, 203, 671, 672, 673, 674, 675, 676, 677, 678, 679, 680, 681] (by decide +kernel) (by decide +kernel)
set_option maxRecDepth 20000 in
theorem gL_law_X4_undo : GoodIn wsL_law (wsV RL 153 RX4 yX4_undo wsX4_undo) := goodIn_app (goodIn_of _ (by decide +kernel)) ggL_law_X4_undo
set_option maxRecDepth 20000 in
theorem ggL_law_L_value : GoodIn wsL_law wsL_value := goodIn_ca (goodIn_r _ [488, 71, 489, 490, 491, 2, 492, 77, 78, 21, 81, 82, 83, 493, 255, 256, 494, 495, 496, 663, 664, 665, 666, 667, 668, 669, 670, 684, 685, 686, 687, 688, 689, 690, 691, 692, 693, 694, 695, 696, 697, 698, 699] (by decide +kernel) (by decide +kernel)) (goodIn_sub (fun _ h => List.mem_append_left _ (List.mem_append_left _ (List.mem_append_right _ h))) (by decide +kernel))
set_option maxRecDepth 20000 in
theorem gL_law_L_value : GoodIn wsL_law (va_wsS RL 154 yL_value wsL_value) := goodIn_app (goodIn_of _ (by decide +kernel)) ggL_law_L_value
set_option maxRecDepth 20000 in
theorem ggL_law_X4_value : GoodIn wsL_law wsX4_value := goodIn_r _ [500, 501, 62, 94, 95, 5, 96, 97, 98, 99, 100, 101, 283, 284, 285, 671, 672, 673, 674, 675, 676, 677, 678, 679, 680, 681] (by decide +kernel) (by decide +kernel)
set_option maxRecDepth 20000 in
theorem gL_law_X4_value : GoodIn wsL_law (wsV RL 156 RX4 yX4_value wsX4_value) := goodIn_app (goodIn_of _ (by decide +kernel)) ggL_law_X4_value
set_option maxRecDepth 20000 in
theorem ggL_law_L_bestR : GoodIn wsL_law wsL_bestR := goodIn_ca (goodIn_r _ [504, 414, 505, 506, 507, 2, 508, 419, 420, 21, 307, 308, 309, 310, 509, 510, 511, 421, 20, 422, 423, 55, 493, 255, 256, 258, 259, 260, 42, 494, 495, 496, 663, 664, 665, 666, 667, 668, 669, 670, 684, 685, 686, 687, 688, 689, 690, 691, 692, 693, 694, 695, 696, 697, 698, 699] (by decide +kernel) (by decide +kernel)) (goodIn_sub (fun _ h => List.mem_append_right _ h) (by decide +kernel))
set_option maxRecDepth 20000 in
theorem gL_law_L_bestR : GoodIn wsL_law (va_wsS RL 157 yL_bestR wsL_bestR) := goodIn_app (goodIn_of _ (by decide +kernel)) ggL_law_L_bestR
set_option maxRecDepth 20000 in
theorem ggL_law_X4_bestR : GoodIn wsL_law wsX4_bestR := goodIn_r _ [515, 62, 428, 429, 5, 430, 94, 95, 96, 97, 98, 99, 100, 101, 280, 281, 282, 283, 284, 285, 516, 517, 518, 671, 672, 673, 674, 675, 676, 677, 678, 679, 680, 681] (by decide +kernel) (by decide +kernel)
set_option maxRecDepth 20000 in
theorem gL_law_X4_bestR : GoodIn wsL_law (wsV RL 159 RX4 yX4_bestR wsX4_bestR) := goodIn_app (goodIn_of _ (by decide +kernel)) ggL_law_X4_bestR
set_option maxRecDepth 20000 in
theorem ggL_law_L_bestArms : GoodIn wsL_law wsL_bestArms := goodIn_ca (goodIn_r _ [521, 414, 522, 523, 524, 2, 525, 419, 420, 21, 421, 20, 422, 423, 55, 258, 259, 260, 42, 493, 255, 256, 663, 664, 665, 666, 667, 668, 669, 670, 684, 685, 686, 687, 688, 689, 690, 691, 692, 693, 694, 695, 696, 697, 698, 699] (by decide +kernel) (by decide +kernel)) (goodIn_sub (fun _ h => List.mem_append_right _ h) (by decide +kernel))
set_option maxRecDepth 20000 in
theorem gL_law_L_bestArms : GoodIn wsL_law (va_wsS RL 160 yL_bestArms wsL_bestArms) := goodIn_app (goodIn_of _ (by decide +kernel)) ggL_law_L_bestArms
set_option maxRecDepth 20000 in
theorem ggL_law_X4_bestArms : GoodIn wsL_law wsX4_bestArms := goodIn_r _ [529, 62, 428, 429, 5, 430, 94, 95, 96, 97, 98, 99, 100, 101, 283, 284, 285, 671, 672, 673, 674, 675, 676, 677, 678, 679, 680, 681] (by decide +kernel) (by decide +kernel)
set_option maxRecDepth 20000 in
theorem gL_law_X4_bestArms : GoodIn wsL_law (wsV RL 162 RX4 yX4_bestArms wsX4_bestArms) := goodIn_app (goodIn_of _ (by decide +kernel)) ggL_law_X4_bestArms
set_option maxRecDepth 20000 in
theorem ggL_law_X3_enoughShunt : GoodIn wsL_law wsX3_enoughShunt := goodIn_r _ [533, 21, 252, 20, 253, 254, 36, 178, 35, 255, 2, 256, 257, 258, 259, 260, 42, 261, 262, 263, 215, 216, 217, 173, 218, 219, 220, 221, 172, 40, 268, 269, 270, 271, 38, 81, 82, 83, 663, 664, 665, 666, 667, 668, 669, 670, 684, 685, 686, 687, 688, 689, 690, 691, 692, 693, 694, 695, 696, 697, 698, 699] (by decide +kernel) (by decide +kernel)
set_option maxRecDepth 20000 in
theorem gL_law_X3_enoughShunt : GoodIn wsL_law (wsV RL 163 RX3 yX3_enoughShunt wsX3_enoughShunt) := goodIn_app (goodIn_of _ (by decide +kernel)) ggL_law_X3_enoughShunt
set_option maxRecDepth 20000 in
theorem ggL_law_X4_enoughShunt : GoodIn wsL_law wsX4_enoughShunt := goodIn_r _ [537, 101, 62, 293, 294, 5, 295, 289, 290, 291, 292, 277, 278, 279, 280, 281, 282, 283, 284, 285, 286, 287, 288, 227, 228, 229, 516, 517, 518, 671, 672, 673, 674, 675, 676, 677, 678, 679, 680, 681] (by decide +kernel) (by decide +kernel)
set_option maxRecDepth 20000 in
theorem gL_law_X4_enoughShunt : GoodIn wsL_law (wsV RL 166 RX4 yX4_enoughShunt wsX4_enoughShunt) := goodIn_app (goodIn_of _ (by decide +kernel)) ggL_law_X4_enoughShunt
set_option maxRecDepth 20000 in
theorem ggL_law_X3_sensitivity : GoodIn wsL_law wsX3_sensitivity := goodIn_r _ [541, 21, 509, 510, 309, 511, 542, 325, 326, 264, 265, 266, 2, 267, 252, 20, 253, 254, 36, 178, 35, 255, 256, 257, 258, 259, 260, 42, 261, 262, 263, 268, 269, 270, 271, 38, 663, 664, 665, 666, 667, 668, 669, 670, 684, 685, 686, 687, 688, 689, 690, 691, 692, 693, 694, 695, 696, 697, 698, 699] (by decide +kernel) (by decide +kernel)
set_option maxRecDepth 20000 in
theorem gL_law_X3_sensitivity : GoodIn wsL_law (wsV RL 167 RX3 yX3_sensitivity wsX3_sensitivity) := goodIn_app (goodIn_of _ (by decide +kernel)) ggL_law_X3_sensitivity
set_option maxRecDepth 20000 in
theorem ggL_law_X4_sensitivity : GoodIn wsL_law wsX4_sensitivity := goodIn_r _ [546, 101, 62, 289, 290, 5, 291, 292, 277, 278, 279, 280, 281, 282, 283, 284, 285, 286, 287, 288, 516, 517, 518, 671, 672, 673, 674, 675, 676, 677, 678, 679, 680, 681] (by decide +kernel) (by decide +kernel)
set_option maxRecDepth 20000 in
theorem gL_law_X4_sensitivity : GoodIn wsL_law (wsV RL 170 RX4 yX4_sensitivity wsX4_sensitivity) := goodIn_app (goodIn_of _ (by decide +kernel)) ggL_law_X4_sensitivity
