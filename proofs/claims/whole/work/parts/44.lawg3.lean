/-! the law: words of its calls -/
set_option maxRecDepth 20000 in
theorem ggL_law_L_offsetAfter : GoodIn wsL_law wsL_offsetAfter := goodIn_ca (goodIn_r _ [549, 71, 550, 551, 552, 2, 553, 77, 78, 21, 81, 82, 83, 335, 20, 336, 323, 308, 309, 310, 377, 378, 324, 325, 326, 219, 220, 221, 172, 40, 663, 664, 665, 666, 667, 668, 669, 670, 684, 685, 686, 687, 688, 689, 690, 691, 692, 693, 694, 695, 696, 697, 698, 699] (by decide +kernel) (by decide +kernel)) (goodIn_sub (fun _ h => List.mem_append_left _ (List.mem_append_left _ (List.mem_append_right _ h))) (by decide +kernel))
set_option maxRecDepth 20000 in
theorem gL_law_L_offsetAfter : GoodIn wsL_law (va_wsS RL 171 yL_offsetAfter wsL_offsetAfter) := goodIn_app (goodIn_of _ (by decide +kernel)) ggL_law_L_offsetAfter
set_option maxRecDepth 20000 in
theorem ggL_law_X4_offsetAfter : GoodIn wsL_law wsX4_offsetAfter := goodIn_r _ [557, 407, 383, 62, 63, 94, 95, 5, 96, 97, 98, 99, 100, 101, 201, 202, 203, 384, 385, 386, 227, 228, 229, 671, 672, 673, 674, 675, 676, 677, 678, 679, 680, 681] (by decide +kernel) (by decide +kernel)
set_option maxRecDepth 20000 in
theorem gL_law_X4_offsetAfter : GoodIn wsL_law (wsV RL 173 RX4 yX4_offsetAfter wsX4_offsetAfter) := goodIn_app (goodIn_of _ (by decide +kernel)) ggL_law_X4_offsetAfter
set_option maxRecDepth 20000 in
theorem ggL_law_L_waitFor : GoodIn wsL_law wsL_waitFor := goodIn_ca (goodIn_r _ [560, 71, 561, 562, 563, 2, 564, 77, 78, 21, 81, 82, 83, 219, 20, 220, 221, 172, 40, 377, 378, 324, 325, 309, 326, 663, 664, 665, 666, 667, 668, 669, 670, 684, 685, 686, 687, 688, 689, 690, 691, 692, 693, 694, 695, 696, 697, 698, 699] (by decide +kernel) (by decide +kernel)) (goodIn_sub (fun _ h => List.mem_append_left _ (List.mem_append_left _ (List.mem_append_right _ h))) (by decide +kernel))
set_option maxRecDepth 20000 in
theorem gL_law_L_waitFor : GoodIn wsL_law (va_wsS RL 174 yL_waitFor wsL_waitFor) := goodIn_app (goodIn_of _ (by decide +kernel)) ggL_law_L_waitFor
set_option maxRecDepth 20000 in
theorem ggL_law_X4_waitFor : GoodIn wsL_law wsX4_waitFor := goodIn_r _ [568, 408, 569, 62, 63, 94, 95, 5, 96, 97, 98, 99, 100, 101, 201, 202, 203, 227, 228, 229, 384, 385, 386, 671, 672, 673, 674, 675, 676, 677, 678, 679, 680, 681] (by decide +kernel) (by decide +kernel)
set_option maxRecDepth 20000 in
theorem gL_law_X4_waitFor : GoodIn wsL_law (wsV RL 176 RX4 yX4_waitFor wsX4_waitFor) := goodIn_app (goodIn_of _ (by decide +kernel)) ggL_law_X4_waitFor
set_option maxRecDepth 20000 in
theorem ggL_law_L_balanced : GoodIn wsL_law wsL_balanced := goodIn_ca (goodIn_r _ [572, 71, 573, 574, 575, 2, 576, 77, 78, 22, 21, 81, 82, 83, 314, 20, 315, 316, 35, 36, 37, 38, 39, 172, 40, 173, 174, 175, 176, 177, 42, 55, 178, 46, 317, 45, 318, 319, 188, 189, 50, 464, 465, 466, 255, 256, 467, 355, 356, 357, 358, 320, 321, 322, 323, 308, 309, 310, 324, 325, 326, 327, 252, 253, 254, 257, 258, 259, 260, 328, 261, 262, 263, 329, 268, 269, 270, 271, 214, 215, 216, 217, 218, 219, 220, 221, 330, 331, 332, 333, 334, 335, 336, 663, 664, 665, 666, 667, 668, 669, 670, 684, 685, 686, 687, 688, 689, 690, 691, 692, 693, 694, 695, 696, 697, 698, 699, 700, 701, 702] (by decide +kernel) (by decide +kernel)) (goodIn_sub (fun _ h => List.mem_append_left _ (List.mem_append_left _ (List.mem_append_right _ h))) (by decide +kernel))
set_option maxRecDepth 20000 in
theorem gL_law_L_balanced : GoodIn wsL_law (va_wsS RL 177 yL_balanced wsL_balanced) := goodIn_app (goodIn_of _ (by decide +kernel)) ggL_law_L_balanced
set_option maxRecDepth 20000 in
theorem ggL_law_X4_balanced : GoodIn wsL_law wsX4_balanced := goodIn_r _ [580, 244, 62, 63, 94, 95, 5, 96, 97, 98, 99, 100, 101, 201, 202, 203, 472, 473, 474, 363, 364, 365, 345, 346, 347, 293, 294, 295, 289, 290, 291, 292, 277, 278, 279, 280, 281, 282, 283, 284, 285, 286, 287, 288, 227, 228, 229, 671, 672, 673, 674, 675, 676, 677, 678, 679, 680, 681] (by decide +kernel) (by decide +kernel)
set_option maxRecDepth 20000 in
theorem gL_law_X4_balanced : GoodIn wsL_law (wsV RL 179 RX4 yX4_balanced wsX4_balanced) := goodIn_app (goodIn_of _ (by decide +kernel)) ggL_law_X4_balanced
set_option maxRecDepth 20000 in
theorem ggL_law_L_runScript : GoodIn wsL_law wsL_runScript := goodIn_ca (goodIn_r _ [583, 71, 584, 585, 586, 2, 587, 77, 78, 22, 21, 588, 81, 82, 83, 589, 590, 591, 314, 20, 315, 316, 35, 36, 37, 38, 39, 172, 40, 173, 174, 175, 176, 177, 42, 55, 178, 46, 317, 45, 318, 319, 188, 189, 50, 592, 593, 594, 595, 596, 597, 598, 599, 320, 321, 322, 323, 308, 309, 310, 324, 325, 326, 327, 252, 253, 254, 255, 256, 257, 258, 259, 260, 328, 261, 262, 263, 329, 268, 269, 270, 271, 214, 215, 216, 217, 218, 219, 220, 221, 330, 331, 332, 333, 334, 335, 336, 600, 601, 602, 603, 373, 374, 375, 376, 377, 378, 604, 605, 606, 607, 394, 395, 396, 397, 398, 608, 609, 610, 611, 421, 422, 423, 464, 465, 466, 467, 355, 356, 357, 358, 237, 238, 239, 663, 664, 665, 666, 667, 668, 669, 670, 684, 685, 686, 687, 688, 689, 690, 691, 692, 693, 694, 695, 696, 697, 698, 699, 700, 701, 702] (by decide +kernel) (by decide +kernel)) (goodIn_sub (fun _ h => List.mem_append_left _ (List.mem_append_left _ (List.mem_append_right _ h))) (by decide +kernel))
set_option maxRecDepth 20000 in
theorem gL_law_L_runScript : GoodIn wsL_law (va_wsS RL 182 yL_runScript wsL_runScript) := goodIn_app (goodIn_of _ (by decide +kernel)) ggL_law_L_runScript
set_option maxRecDepth 20000 in
theorem ggL_law_X4_runScript : GoodIn wsL_law wsX4_runScript := goodIn_r _ [615, 292, 616, 617, 244, 62, 63, 94, 95, 5, 96, 97, 98, 99, 100, 101, 201, 202, 203, 618, 619, 620, 621, 407, 383, 345, 346, 347, 293, 294, 295, 289, 290, 291, 277, 278, 279, 280, 281, 282, 283, 284, 285, 286, 287, 288, 227, 228, 229, 384, 385, 386, 403, 404, 405, 406, 408, 409, 410, 428, 429, 430, 472, 473, 474, 363, 364, 365, 671, 672, 673, 674, 675, 676, 677, 678, 679, 680, 681] (by decide +kernel) (by decide +kernel)
set_option maxRecDepth 20000 in
theorem gL_law_X4_runScript : GoodIn wsL_law (wsV RL 185 RX4 yX4_runScript wsX4_runScript) := goodIn_app (goodIn_of _ (by decide +kernel)) ggL_law_X4_runScript
set_option maxRecDepth 20000 in
theorem ggL_law_L_simulate : GoodIn wsL_law wsL_simulate := goodIn_ca (goodIn_r _ [624, 71, 625, 626, 627, 2, 628, 77, 78, 22, 21, 629, 630, 81, 82, 83, 314, 20, 315, 316, 35, 36, 37, 38, 39, 172, 40, 173, 174, 175, 176, 177, 42, 55, 178, 46, 317, 45, 318, 319, 188, 189, 50, 631, 632, 633, 634, 373, 374, 375, 376, 377, 378, 324, 325, 309, 326, 446, 447, 448, 449, 320, 321, 322, 323, 308, 310, 327, 252, 253, 254, 255, 256, 257, 258, 259, 260, 328, 261, 262, 263, 329, 268, 269, 270, 271, 214, 215, 216, 217, 218, 219, 220, 221, 330, 331, 332, 333, 334, 335, 336, 663, 664, 665, 666, 667, 668, 669, 670, 684, 685, 686, 687, 688, 689, 690, 691, 692, 693, 694, 695, 696, 697, 698, 699, 700, 701, 702] (by decide +kernel) (by decide +kernel)) (goodIn_sub (fun _ h => List.mem_append_left _ (List.mem_append_left _ (List.mem_append_right _ h))) (by decide +kernel))
set_option maxRecDepth 20000 in
theorem gL_law_L_simulate : GoodIn wsL_law (va_wsS RL 186 yL_simulate wsL_simulate) := goodIn_app (goodIn_of _ (by decide +kernel)) ggL_law_L_simulate
set_option maxRecDepth 20000 in
theorem ggL_law_X4_simulate : GoodIn wsL_law wsX4_simulate := goodIn_r _ [638, 407, 62, 63, 639, 640, 94, 95, 5, 96, 97, 98, 99, 100, 101, 201, 202, 203, 384, 385, 386, 454, 455, 456, 345, 346, 347, 293, 294, 295, 289, 290, 291, 292, 277, 278, 279, 280, 281, 282, 283, 284, 285, 286, 287, 288, 227, 228, 229, 671, 672, 673, 674, 675, 676, 677, 678, 679, 680, 681] (by decide +kernel) (by decide +kernel)
set_option maxRecDepth 20000 in
theorem gL_law_X4_simulate : GoodIn wsL_law (wsV RL 189 RX4 yX4_simulate wsX4_simulate) := goodIn_app (goodIn_of _ (by decide +kernel)) ggL_law_X4_simulate
set_option maxRecDepth 20000 in
theorem ggL_law_L_save : GoodIn wsL_law wsL_save := goodIn_ca (goodIn_r _ [643, 414, 644, 645, 646, 2, 647, 419, 420, 26, 24, 21, 81, 82, 83, 311, 312, 313, 314, 20, 315, 316, 35, 36, 37, 38, 39, 172, 40, 173, 174, 175, 176, 177, 42, 55, 178, 46, 317, 45, 318, 319, 188, 189, 50, 663, 664, 665, 666, 667, 668, 669, 670, 684, 685, 686, 687, 688, 689, 690, 691, 692, 693, 694, 695, 696, 697, 698, 699, 700, 701, 702] (by decide +kernel) (by decide +kernel)) (goodIn_sub (fun _ h => List.mem_append_right _ h) (by decide +kernel))
set_option maxRecDepth 20000 in
theorem gL_law_L_save : GoodIn wsL_law (va_wsS RL 190 yL_save wsL_save) := goodIn_app (goodIn_of _ (by decide +kernel)) ggL_law_L_save
set_option maxRecDepth 20000 in
theorem ggL_law_X4_save : GoodIn wsL_law wsX4_save := goodIn_r _ [651, 66, 62, 65, 94, 95, 5, 96, 97, 98, 99, 100, 101, 201, 202, 203, 671, 672, 673, 674, 675, 676, 677, 678, 679, 680, 681] (by decide +kernel) (by decide +kernel)
set_option maxRecDepth 20000 in
theorem gL_law_X4_save : GoodIn wsL_law (wsV RL 192 RX4 yX4_save wsX4_save) := goodIn_app (goodIn_of _ (by decide +kernel)) ggL_law_X4_save
set_option maxRecDepth 20000 in
theorem ggL_law_L_restore : GoodIn wsL_law wsL_restore := goodIn_ca (goodIn_ca (goodIn_r _ [654, 414, 72, 655, 656, 657, 2, 658, 419, 420, 79, 80, 26, 21, 24, 81, 82, 83, 311, 312, 313, 314, 20, 315, 316, 35, 36, 37, 38, 39, 172, 40, 173, 174, 175, 176, 177, 42, 55, 178, 46, 317, 45, 318, 319, 188, 189, 50, 190, 191, 192, 193, 194, 195, 663, 664, 665, 666, 667, 668, 669, 670, 684, 685, 686, 687, 688, 689, 690, 691, 692, 693, 694, 695, 696, 697, 698, 699, 700, 701, 702] (by decide +kernel) (by decide +kernel)) (goodIn_sub (fun _ h => List.mem_append_right _ h) (by decide +kernel))) (goodIn_sub (fun _ h => List.mem_append_left _ (List.mem_append_right _ h)) (by decide +kernel))
set_option maxRecDepth 20000 in
theorem gL_law_L_restore : GoodIn wsL_law (va_wsS RL 193 yL_restore wsL_restore) := goodIn_app (goodIn_of _ (by decide +kernel)) ggL_law_L_restore
set_option maxRecDepth 20000 in
theorem ggL_law_X4_restore : GoodIn wsL_law wsX4_restore := goodIn_r _ [662, 66, 65, 62, 200, 94, 95, 5, 96, 97, 98, 99, 100, 101, 201, 202, 203, 671, 672, 673, 674, 675, 676, 677, 678, 679, 680, 681] (by decide +kernel) (by decide +kernel)
set_option maxRecDepth 20000 in
theorem gL_law_X4_restore : GoodIn wsL_law (wsV RL 195 RX4 yX4_restore wsX4_restore) := goodIn_app (goodIn_of _ (by decide +kernel)) ggL_law_X4_restore
