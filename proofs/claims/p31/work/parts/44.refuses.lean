/-! the law's method refuses: its rows and words of its calls -/
set_option maxRecDepth 20000 in
theorem ggL_refuses_L_tryAbout : GoodIn wsL_refuses wsL_tryAbout := goodIn_ca (goodIn_r _ [8, 9, 1, 10, 11, 12, 13, 14, 15, 16, 17, 18, 19, 20, 21, 22, 23, 24, 25, 26, 27, 28, 29, 30, 31, 32, 33, 34, 35, 36, 37, 38, 39, 40, 41, 42, 43, 44, 45, 46, 47, 339, 340, 341, 342, 343, 344, 345, 346, 347, 348, 349, 350, 351, 352, 353, 354, 355, 356, 357, 358, 359, 360, 361, 362, 363, 364, 365] (by decide +kernel) (by decide +kernel)) (goodIn_sub (fun _ h => List.mem_cons_of_mem _ (List.mem_append_left _ (List.mem_append_left _ (List.mem_append_right _ h)))) (by decide +kernel))
set_option maxRecDepth 20000 in
theorem gL_refuses_L_tryAbout : GoodIn wsL_refuses (va_wsS RL 123 yL_tryAbout wsL_tryAbout) := goodIn_app (goodIn_of _ (by decide +kernel)) ggL_refuses_L_tryAbout
set_option maxRecDepth 20000 in
theorem ggL_refuses_L_tryTold : GoodIn wsL_refuses wsL_tryTold := goodIn_ca (goodIn_r _ [50, 9, 1, 51, 52, 53, 13, 54, 15, 16, 17, 18, 19, 20, 55, 56, 57, 58, 59, 60, 61, 339, 340, 341, 342, 343, 344, 345, 346, 347, 348, 349, 350, 351, 352, 353, 354, 355, 356, 357, 358, 359, 360, 361, 362, 363, 364, 365] (by decide +kernel) (by decide +kernel)) (goodIn_sub (fun _ h => List.mem_cons_of_mem _ (List.mem_append_left _ (List.mem_append_left _ (List.mem_append_right _ h)))) (by decide +kernel))
set_option maxRecDepth 20000 in
theorem gL_refuses_L_tryTold : GoodIn wsL_refuses (va_wsS RL 135 yL_tryTold wsL_tryTold) := goodIn_app (goodIn_of _ (by decide +kernel)) ggL_refuses_L_tryTold
set_option maxRecDepth 20000 in
theorem ggL_refuses_L_tryBridge : GoodIn wsL_refuses wsL_tryBridge := goodIn_ca (goodIn_r _ [64, 9, 1, 65, 66, 67, 13, 68, 15, 16, 17, 18, 19, 20, 69, 22, 70, 71, 26, 35, 25, 72, 73, 74, 75, 76, 77, 78, 79, 80, 81, 82, 83, 84, 85, 86, 87, 88, 89, 28, 41, 42, 43, 32, 44, 45, 46, 47, 30, 31, 339, 340, 341, 342, 343, 344, 345, 346, 347, 348, 349, 350, 351, 352, 353, 354, 355, 356, 357, 358, 359, 360, 361, 362] (by decide +kernel) (by decide +kernel)) (goodIn_sub (fun _ h => List.mem_cons_of_mem _ (List.mem_append_left _ (List.mem_append_left _ (List.mem_append_right _ h)))) (by decide +kernel))
set_option maxRecDepth 20000 in
theorem gL_refuses_L_tryBridge : GoodIn wsL_refuses (va_wsS RL 132 yL_tryBridge wsL_tryBridge) := goodIn_app (goodIn_of _ (by decide +kernel)) ggL_refuses_L_tryBridge
set_option maxRecDepth 20000 in
theorem ggL_refuses_L_tryPress : GoodIn wsL_refuses wsL_tryPress := goodIn_ca (goodIn_r _ [92, 93, 2, 94, 95, 96, 13, 97, 98, 99, 17, 100, 101, 102, 103, 104, 105, 106, 107, 108, 109, 110, 111, 112, 113, 114, 22, 115, 116, 25, 26, 27, 28, 29, 30, 31, 32, 33, 36, 38, 39, 78, 34, 35, 37, 117, 56, 118, 119, 59, 60, 61, 120, 121, 122, 123, 124, 125, 126, 127, 69, 70, 71, 72, 73, 74, 75, 76, 77, 128, 79, 80, 81, 129, 86, 87, 88, 89, 40, 41, 42, 43, 44, 45, 46, 47, 130, 131, 132, 133, 134, 135, 136, 339, 340, 341, 342, 343, 344, 345, 346, 347, 348, 349, 350, 351, 352, 353, 354, 355, 356, 357, 358, 359, 360, 361, 362, 363, 364, 365] (by decide +kernel) (by decide +kernel)) (goodIn_sub (fun _ h => List.mem_cons_of_mem _ (List.mem_append_left _ (List.mem_append_right _ h))) (by decide +kernel))
set_option maxRecDepth 20000 in
theorem gL_refuses_L_tryPress : GoodIn wsL_refuses (va_wsS RL 139 yL_tryPress wsL_tryPress) := goodIn_app (goodIn_of _ (by decide +kernel)) ggL_refuses_L_tryPress
set_option maxRecDepth 20000 in
theorem ggL_refuses_L_tryPair : GoodIn wsL_refuses wsL_tryPair := goodIn_ca (goodIn_r _ [139, 93, 2, 140, 141, 142, 13, 143, 98, 99, 17, 100, 101, 102, 103, 104, 105, 106, 107, 108, 109, 110, 111, 112, 113, 114, 22, 115, 116, 25, 26, 27, 28, 29, 30, 31, 32, 33, 36, 38, 39, 78, 34, 35, 37, 117, 56, 118, 119, 59, 60, 61, 144, 145, 146, 147, 120, 121, 122, 123, 124, 125, 126, 127, 69, 70, 71, 72, 73, 74, 75, 76, 77, 128, 79, 80, 81, 129, 86, 87, 88, 89, 40, 41, 42, 43, 44, 45, 46, 47, 130, 131, 132, 133, 134, 135, 136, 339, 340, 341, 342, 343, 344, 345, 346, 347, 348, 349, 350, 351, 352, 353, 354, 355, 356, 357, 358, 359, 360, 361, 362, 363, 364, 365] (by decide +kernel) (by decide +kernel)) (goodIn_sub (fun _ h => List.mem_cons_of_mem _ (List.mem_append_left _ (List.mem_append_right _ h))) (by decide +kernel))
set_option maxRecDepth 20000 in
theorem gL_refuses_L_tryPair : GoodIn wsL_refuses (va_wsS RL 143 yL_tryPair wsL_tryPair) := goodIn_app (goodIn_of _ (by decide +kernel)) ggL_refuses_L_tryPair
set_option maxRecDepth 20000 in
theorem ggL_refuses_L_tryBalance : GoodIn wsL_refuses wsL_tryBalance := goodIn_ca (goodIn_r _ [150, 93, 2, 151, 152, 153, 13, 154, 98, 99, 17, 100, 101, 102, 103, 104, 105, 106, 107, 108, 109, 110, 111, 112, 113, 114, 22, 115, 116, 25, 26, 27, 28, 29, 30, 31, 32, 33, 36, 38, 39, 78, 34, 35, 37, 117, 56, 118, 119, 59, 60, 61, 155, 156, 157, 72, 73, 158, 144, 145, 146, 147, 120, 121, 122, 123, 124, 125, 126, 127, 69, 70, 71, 74, 75, 76, 77, 128, 79, 80, 81, 129, 86, 87, 88, 89, 40, 41, 42, 43, 44, 45, 46, 47, 130, 131, 132, 133, 134, 135, 136, 339, 340, 341, 342, 343, 344, 345, 346, 347, 348, 349, 350, 351, 352, 353, 354, 355, 356, 357, 358, 359, 360, 361, 362, 363, 364, 365] (by decide +kernel) (by decide +kernel)) (goodIn_sub (fun _ h => List.mem_cons_of_mem _ (List.mem_append_left _ (List.mem_append_right _ h))) (by decide +kernel))
set_option maxRecDepth 20000 in
theorem gL_refuses_L_tryBalance : GoodIn wsL_refuses (va_wsS RL 146 yL_tryBalance wsL_tryBalance) := goodIn_app (goodIn_of _ (by decide +kernel)) ggL_refuses_L_tryBalance
set_option maxRecDepth 20000 in
theorem ggL_refuses_L_tryPause : GoodIn wsL_refuses wsL_tryPause := goodIn_ca (goodIn_r _ [161, 9, 1, 162, 163, 164, 13, 165, 15, 16, 17, 18, 19, 20, 100, 101, 102, 103, 104, 105, 106, 107, 108, 109, 110, 111, 112, 113, 114, 22, 115, 116, 25, 26, 27, 28, 29, 30, 31, 32, 33, 36, 38, 39, 78, 34, 35, 37, 117, 56, 118, 119, 59, 60, 61, 166, 167, 168, 169, 170, 171, 124, 125, 126, 41, 42, 43, 44, 45, 46, 47, 339, 340, 341, 342, 343, 344, 345, 346, 347, 348, 349, 350, 351, 352, 353, 354, 355, 356, 357, 358, 359, 360, 361, 362, 363, 364, 365] (by decide +kernel) (by decide +kernel)) (goodIn_sub (fun _ h => List.mem_cons_of_mem _ (List.mem_append_left _ (List.mem_append_left _ (List.mem_append_right _ h)))) (by decide +kernel))
set_option maxRecDepth 20000 in
theorem gL_refuses_L_tryPause : GoodIn wsL_refuses (va_wsS RL 149 yL_tryPause wsL_tryPause) := goodIn_app (goodIn_of _ (by decide +kernel)) ggL_refuses_L_tryPause
set_option maxRecDepth 20000 in
theorem ggL_refuses_L_trySet : GoodIn wsL_refuses wsL_trySet := goodIn_ca (goodIn_r _ [174, 9, 1, 175, 176, 177, 13, 178, 15, 16, 17, 179, 22, 180, 100, 101, 102, 103, 104, 105, 106, 107, 108, 109, 110, 111, 112, 113, 114, 115, 116, 25, 26, 27, 28, 29, 30, 31, 32, 33, 36, 38, 39, 78, 34, 35, 37, 117, 56, 118, 119, 59, 60, 61, 21, 23, 24, 40, 41, 42, 43, 44, 45, 46, 47, 181, 182, 183, 339, 340, 341, 342, 343, 344, 345, 346, 347, 348, 349, 350, 351, 352, 353, 354, 355, 356, 357, 358, 359, 360, 361, 362, 363, 364, 365] (by decide +kernel) (by decide +kernel)) (goodIn_sub (fun _ h => List.mem_cons_of_mem _ (List.mem_append_left _ (List.mem_append_left _ (List.mem_append_right _ h)))) (by decide +kernel))
set_option maxRecDepth 20000 in
theorem gL_refuses_L_trySet : GoodIn wsL_refuses (va_wsS RL 152 yL_trySet wsL_trySet) := goodIn_app (goodIn_of _ (by decide +kernel)) ggL_refuses_L_trySet
set_option maxRecDepth 20000 in
theorem ggL_refuses_L_tryChoose : GoodIn wsL_refuses wsL_tryChoose := goodIn_ca (goodIn_r _ [186, 187, 3, 188, 189, 190, 13, 191, 192, 193, 17, 194, 22, 195, 196, 34, 100, 101, 102, 103, 104, 105, 106, 107, 108, 109, 110, 111, 112, 113, 114, 115, 116, 25, 26, 27, 28, 29, 30, 31, 32, 33, 36, 38, 39, 78, 35, 37, 117, 56, 118, 119, 59, 60, 61, 339, 340, 341, 342, 343, 344, 345, 346, 347, 348, 349, 350, 351, 352, 353, 354, 355, 356, 357, 358, 359, 360, 361, 362, 363, 364, 365] (by decide +kernel) (by decide +kernel)) (goodIn_sub (fun _ h => List.mem_cons_of_mem _ (List.mem_append_right _ h)) (by decide +kernel))
set_option maxRecDepth 20000 in
theorem gL_refuses_L_tryChoose : GoodIn wsL_refuses (va_wsS RL 155 yL_tryChoose wsL_tryChoose) := goodIn_app (goodIn_of _ (by decide +kernel)) ggL_refuses_L_tryChoose
set_option maxRecDepth 20000 in
theorem ggL_refuses_L_tryAdd : GoodIn wsL_refuses wsL_tryAdd := goodIn_ca (goodIn_ca (goodIn_r _ [199, 9, 93, 1, 2, 200, 201, 202, 13, 203, 15, 16, 98, 99, 17, 18, 19, 20, 100, 101, 102, 103, 104, 105, 106, 107, 108, 109, 110, 111, 112, 113, 114, 22, 115, 116, 25, 26, 27, 28, 29, 30, 31, 32, 33, 36, 38, 39, 78, 34, 35, 37, 117, 56, 118, 119, 59, 60, 61, 204, 205, 206, 339, 340, 341, 342, 343, 344, 345, 346, 347, 348, 349, 350, 351, 352, 353, 354, 355, 356, 357, 358, 359, 360, 361, 362, 363, 364, 365] (by decide +kernel) (by decide +kernel)) (goodIn_sub (fun _ h => List.mem_cons_of_mem _ (List.mem_append_left _ (List.mem_append_left _ (List.mem_append_right _ h)))) (by decide +kernel))) (goodIn_sub (fun _ h => List.mem_cons_of_mem _ (List.mem_append_left _ (List.mem_append_right _ h))) (by decide +kernel))
set_option maxRecDepth 20000 in
theorem gL_refuses_L_tryAdd : GoodIn wsL_refuses (va_wsS RL 158 yL_tryAdd wsL_tryAdd) := goodIn_app (goodIn_of _ (by decide +kernel)) ggL_refuses_L_tryAdd
set_option maxRecDepth 20000 in
theorem ggL_refuses_L_tryValue : GoodIn wsL_refuses wsL_tryValue := goodIn_ca (goodIn_r _ [209, 9, 1, 210, 211, 212, 13, 213, 15, 16, 17, 18, 19, 20, 214, 72, 73, 215, 216, 217, 339, 340, 341, 342, 343, 344, 345, 346, 347, 348, 349, 350, 351, 352, 353, 354, 355, 356, 357, 358, 359, 360, 361, 362] (by decide +kernel) (by decide +kernel)) (goodIn_sub (fun _ h => List.mem_cons_of_mem _ (List.mem_append_left _ (List.mem_append_left _ (List.mem_append_right _ h)))) (by decide +kernel))
set_option maxRecDepth 20000 in
theorem gL_refuses_L_tryValue : GoodIn wsL_refuses (va_wsS RL 161 yL_tryValue wsL_tryValue) := goodIn_app (goodIn_of _ (by decide +kernel)) ggL_refuses_L_tryValue
set_option maxRecDepth 20000 in
theorem ggL_refuses_L_tryBestR : GoodIn wsL_refuses wsL_tryBestR := goodIn_ca (goodIn_r _ [220, 187, 3, 221, 222, 223, 13, 224, 192, 193, 17, 107, 108, 109, 110, 225, 226, 227, 194, 22, 195, 196, 34, 214, 72, 73, 75, 76, 77, 78, 215, 216, 217, 339, 340, 341, 342, 343, 344, 345, 346, 347, 348, 349, 350, 351, 352, 353, 354, 355, 356, 357, 358, 359, 360, 361, 362] (by decide +kernel) (by decide +kernel)) (goodIn_sub (fun _ h => List.mem_cons_of_mem _ (List.mem_append_right _ h)) (by decide +kernel))
set_option maxRecDepth 20000 in
theorem gL_refuses_L_tryBestR : GoodIn wsL_refuses (va_wsS RL 164 yL_tryBestR wsL_tryBestR) := goodIn_app (goodIn_of _ (by decide +kernel)) ggL_refuses_L_tryBestR
set_option maxRecDepth 20000 in
theorem ggL_refuses_L_tryBestArms : GoodIn wsL_refuses wsL_tryBestArms := goodIn_ca (goodIn_r _ [230, 187, 3, 231, 232, 233, 13, 234, 192, 193, 17, 194, 22, 195, 196, 34, 75, 76, 77, 78, 214, 72, 73, 339, 340, 341, 342, 343, 344, 345, 346, 347, 348, 349, 350, 351, 352, 353, 354, 355, 356, 357, 358, 359, 360, 361, 362] (by decide +kernel) (by decide +kernel)) (goodIn_sub (fun _ h => List.mem_cons_of_mem _ (List.mem_append_right _ h)) (by decide +kernel))
set_option maxRecDepth 20000 in
theorem gL_refuses_L_tryBestArms : GoodIn wsL_refuses (va_wsS RL 167 yL_tryBestArms wsL_tryBestArms) := goodIn_app (goodIn_of _ (by decide +kernel)) ggL_refuses_L_tryBestArms
set_option maxRecDepth 20000 in
theorem ggL_refuses_L_tryOffsetAfter : GoodIn wsL_refuses wsL_tryOffsetAfter := goodIn_ca (goodIn_r _ [237, 9, 1, 238, 239, 240, 13, 241, 15, 16, 17, 18, 19, 20, 135, 22, 136, 123, 108, 109, 110, 170, 171, 124, 125, 126, 45, 46, 47, 30, 31, 339, 340, 341, 342, 343, 344, 345, 346, 347, 348, 349, 350, 351, 352, 353, 354, 355, 356, 357, 358, 359, 360, 361, 362] (by decide +kernel) (by decide +kernel)) (goodIn_sub (fun _ h => List.mem_cons_of_mem _ (List.mem_append_left _ (List.mem_append_left _ (List.mem_append_right _ h)))) (by decide +kernel))
set_option maxRecDepth 20000 in
theorem gL_refuses_L_tryOffsetAfter : GoodIn wsL_refuses (va_wsS RL 170 yL_tryOffsetAfter wsL_tryOffsetAfter) := goodIn_app (goodIn_of _ (by decide +kernel)) ggL_refuses_L_tryOffsetAfter
set_option maxRecDepth 20000 in
theorem ggL_refuses_L_tryWaitFor : GoodIn wsL_refuses wsL_tryWaitFor := goodIn_ca (goodIn_r _ [244, 9, 1, 245, 246, 247, 13, 248, 15, 16, 17, 18, 19, 20, 45, 22, 46, 47, 30, 31, 170, 171, 124, 125, 109, 126, 339, 340, 341, 342, 343, 344, 345, 346, 347, 348, 349, 350, 351, 352, 353, 354, 355, 356, 357, 358, 359, 360, 361, 362] (by decide +kernel) (by decide +kernel)) (goodIn_sub (fun _ h => List.mem_cons_of_mem _ (List.mem_append_left _ (List.mem_append_left _ (List.mem_append_right _ h)))) (by decide +kernel))
set_option maxRecDepth 20000 in
theorem gL_refuses_L_tryWaitFor : GoodIn wsL_refuses (va_wsS RL 173 yL_tryWaitFor wsL_tryWaitFor) := goodIn_app (goodIn_of _ (by decide +kernel)) ggL_refuses_L_tryWaitFor
set_option maxRecDepth 20000 in
theorem ggL_refuses_L_tryBalanced : GoodIn wsL_refuses wsL_tryBalanced := goodIn_ca (goodIn_r _ [251, 9, 1, 252, 253, 254, 13, 255, 15, 16, 256, 17, 18, 19, 20, 114, 22, 115, 116, 25, 26, 27, 28, 29, 30, 31, 32, 33, 36, 38, 39, 78, 34, 35, 37, 117, 56, 118, 119, 59, 60, 61, 155, 156, 157, 72, 73, 158, 144, 145, 146, 147, 120, 121, 122, 123, 108, 109, 110, 124, 125, 126, 127, 69, 70, 71, 74, 75, 76, 77, 128, 79, 80, 81, 129, 86, 87, 88, 89, 40, 41, 42, 43, 44, 45, 46, 47, 130, 131, 132, 133, 134, 135, 136, 339, 340, 341, 342, 343, 344, 345, 346, 347, 348, 349, 350, 351, 352, 353, 354, 355, 356, 357, 358, 359, 360, 361, 362, 363, 364, 365] (by decide +kernel) (by decide +kernel)) (goodIn_sub (fun _ h => List.mem_cons_of_mem _ (List.mem_append_left _ (List.mem_append_left _ (List.mem_append_right _ h)))) (by decide +kernel))
set_option maxRecDepth 20000 in
theorem gL_refuses_L_tryBalanced : GoodIn wsL_refuses (va_wsS RL 176 yL_tryBalanced wsL_tryBalanced) := goodIn_app (goodIn_of _ (by decide +kernel)) ggL_refuses_L_tryBalanced
set_option maxRecDepth 20000 in
theorem ggL_refuses_L_tryScript : GoodIn wsL_refuses wsL_tryScript := goodIn_ca (goodIn_r _ [259, 9, 1, 260, 261, 262, 13, 263, 15, 16, 256, 17, 264, 18, 19, 20, 265, 266, 267, 114, 22, 115, 116, 25, 26, 27, 28, 29, 30, 31, 32, 33, 36, 38, 39, 78, 34, 35, 37, 117, 56, 118, 119, 59, 60, 61, 268, 269, 270, 271, 272, 273, 274, 275, 120, 121, 122, 123, 108, 109, 110, 124, 125, 126, 127, 69, 70, 71, 72, 73, 74, 75, 76, 77, 128, 79, 80, 81, 129, 86, 87, 88, 89, 40, 41, 42, 43, 44, 45, 46, 47, 130, 131, 132, 133, 134, 135, 136, 276, 277, 278, 279, 166, 167, 168, 169, 170, 171, 280, 281, 282, 283, 179, 180, 181, 182, 183, 284, 285, 286, 287, 194, 195, 196, 155, 156, 157, 158, 144, 145, 146, 147, 55, 57, 58, 339, 340, 341, 342, 343, 344, 345, 346, 347, 348, 349, 350, 351, 352, 353, 354, 355, 356, 357, 358, 359, 360, 361, 362, 363, 364, 365] (by decide +kernel) (by decide +kernel)) (goodIn_sub (fun _ h => List.mem_cons_of_mem _ (List.mem_append_left _ (List.mem_append_left _ (List.mem_append_right _ h)))) (by decide +kernel))
set_option maxRecDepth 20000 in
theorem gL_refuses_L_tryScript : GoodIn wsL_refuses (va_wsS RL 179 yL_tryScript wsL_tryScript) := goodIn_app (goodIn_of _ (by decide +kernel)) ggL_refuses_L_tryScript
set_option maxRecDepth 20000 in
theorem ggL_refuses_L_trySimulate : GoodIn wsL_refuses wsL_trySimulate := goodIn_ca (goodIn_r _ [290, 9, 1, 291, 292, 293, 13, 294, 15, 16, 256, 17, 295, 296, 18, 19, 20, 114, 22, 115, 116, 25, 26, 27, 28, 29, 30, 31, 32, 33, 36, 38, 39, 78, 34, 35, 37, 117, 56, 118, 119, 59, 60, 61, 297, 298, 299, 300, 166, 167, 168, 169, 170, 171, 124, 125, 109, 126, 301, 302, 303, 304, 120, 121, 122, 123, 108, 110, 127, 69, 70, 71, 72, 73, 74, 75, 76, 77, 128, 79, 80, 81, 129, 86, 87, 88, 89, 40, 41, 42, 43, 44, 45, 46, 47, 130, 131, 132, 133, 134, 135, 136, 339, 340, 341, 342, 343, 344, 345, 346, 347, 348, 349, 350, 351, 352, 353, 354, 355, 356, 357, 358, 359, 360, 361, 362, 363, 364, 365] (by decide +kernel) (by decide +kernel)) (goodIn_sub (fun _ h => List.mem_cons_of_mem _ (List.mem_append_left _ (List.mem_append_left _ (List.mem_append_right _ h)))) (by decide +kernel))
set_option maxRecDepth 20000 in
theorem gL_refuses_L_trySimulate : GoodIn wsL_refuses (va_wsS RL 185 yL_trySimulate wsL_trySimulate) := goodIn_app (goodIn_of _ (by decide +kernel)) ggL_refuses_L_trySimulate
set_option maxRecDepth 20000 in
theorem ggL_refuses_L_trySave : GoodIn wsL_refuses wsL_trySave := goodIn_ca (goodIn_r _ [307, 187, 3, 308, 309, 310, 13, 311, 192, 193, 312, 313, 17, 18, 19, 20, 111, 112, 113, 114, 22, 115, 116, 25, 26, 27, 28, 29, 30, 31, 32, 33, 36, 38, 39, 78, 34, 35, 37, 117, 56, 118, 119, 59, 60, 61, 339, 340, 341, 342, 343, 344, 345, 346, 347, 348, 349, 350, 351, 352, 353, 354, 355, 356, 357, 358, 359, 360, 361, 362, 363, 364, 365] (by decide +kernel) (by decide +kernel)) (goodIn_sub (fun _ h => List.mem_cons_of_mem _ (List.mem_append_right _ h)) (by decide +kernel))
set_option maxRecDepth 20000 in
theorem gL_refuses_L_trySave : GoodIn wsL_refuses (va_wsS RL 189 yL_trySave wsL_trySave) := goodIn_app (goodIn_of _ (by decide +kernel)) ggL_refuses_L_trySave
set_option maxRecDepth 20000 in
theorem ggL_refuses_L_tryRestore : GoodIn wsL_refuses wsL_tryRestore := goodIn_ca (goodIn_ca (goodIn_r _ [316, 187, 93, 3, 2, 317, 318, 319, 13, 320, 192, 193, 98, 99, 312, 17, 313, 18, 19, 20, 111, 112, 113, 114, 22, 115, 116, 25, 26, 27, 28, 29, 30, 31, 32, 33, 36, 38, 39, 78, 34, 35, 37, 117, 56, 118, 119, 59, 60, 61, 321, 322, 323, 324, 106, 105, 339, 340, 341, 342, 343, 344, 345, 346, 347, 348, 349, 350, 351, 352, 353, 354, 355, 356, 357, 358, 359, 360, 361, 362, 363, 364, 365] (by decide +kernel) (by decide +kernel)) (goodIn_sub (fun _ h => List.mem_cons_of_mem _ (List.mem_append_right _ h)) (by decide +kernel))) (goodIn_sub (fun _ h => List.mem_cons_of_mem _ (List.mem_append_left _ (List.mem_append_right _ h))) (by decide +kernel))
set_option maxRecDepth 20000 in
theorem gL_refuses_L_tryRestore : GoodIn wsL_refuses (va_wsS RL 129 yL_tryRestore wsL_tryRestore) := goodIn_app (goodIn_of _ (by decide +kernel)) ggL_refuses_L_tryRestore
set_option maxRecDepth 20000 in
theorem ggL_refuses_L_tryAppend : GoodIn wsL_refuses wsL_tryAppend := goodIn_ca (goodIn_ca (goodIn_r _ [327, 9, 93, 1, 2, 328, 329, 330, 13, 331, 15, 16, 98, 99, 332, 18, 19, 20, 333, 334, 335, 336, 337, 338, 339, 340, 341, 342, 343, 344, 345, 346, 366, 367] (by decide +kernel) (by decide +kernel)) (goodIn_sub (fun _ h => List.mem_cons_of_mem _ (List.mem_append_left _ (List.mem_append_left _ (List.mem_append_right _ h)))) (by decide +kernel))) (goodIn_sub (fun _ h => List.mem_cons_of_mem _ (List.mem_append_left _ (List.mem_append_right _ h))) (by decide +kernel))
set_option maxRecDepth 20000 in
theorem gL_refuses_L_tryAppend : GoodIn wsL_refuses (va_wsS RL 95 yL_tryAppend wsL_tryAppend) := goodIn_app (goodIn_of _ (by decide +kernel)) ggL_refuses_L_tryAppend
theorem dL_refuses_0 : decode cL_refuses 0 = .ok (.aload_n 0, 1) := by decide +kernel
theorem dL_refuses_1 : decode cL_refuses 1 = .ok (.bipush 10, 2) := by decide +kernel
theorem dL_refuses_3 : decode cL_refuses 3 = .ok (.invokestatic 123, 3) := by decide +kernel
theorem dL_refuses_6 : decode cL_refuses 6 = .ok (.istore_n 1, 1) := by decide +kernel
theorem dL_refuses_7 : decode cL_refuses 7 = .ok (.aload_n 0, 1) := by decide +kernel
theorem dL_refuses_8 : decode cL_refuses 8 = .ok (.bipush 12, 2) := by decide +kernel
theorem dL_refuses_10 : decode cL_refuses 10 = .ok (.invokestatic 123, 3) := by decide +kernel
theorem dL_refuses_13 : decode cL_refuses 13 = .ok (.iconst 1, 1) := by decide +kernel
theorem dL_refuses_14 : decode cL_refuses 14 = .ok (.if_icmp .ne 7, 3) := by decide +kernel
theorem dL_refuses_17 : decode cL_refuses 17 = .ok (.iconst 1, 1) := by decide +kernel
theorem dL_refuses_18 : decode cL_refuses 18 = .ok (.goto 4, 3) := by decide +kernel
theorem dL_refuses_21 : decode cL_refuses 21 = .ok (.iconst 0, 1) := by decide +kernel
theorem dL_refuses_22 : decode cL_refuses 22 = .ok (.istore_n 2, 1) := by decide +kernel
theorem dL_refuses_23 : decode cL_refuses 23 = .ok (.aload_n 0, 1) := by decide +kernel
theorem dL_refuses_24 : decode cL_refuses 24 = .ok (.bipush 16, 2) := by decide +kernel
theorem dL_refuses_26 : decode cL_refuses 26 = .ok (.invokestatic 123, 3) := by decide +kernel
theorem dL_refuses_29 : decode cL_refuses 29 = .ok (.ldc 15, 2) := by decide +kernel
theorem dL_refuses_31 : decode cL_refuses 31 = .ok (.if_icmp .ne 223, 3) := by decide +kernel
theorem dL_refuses_34 : decode cL_refuses 34 = .ok (.aload_n 0, 1) := by decide +kernel
theorem dL_refuses_35 : decode cL_refuses 35 = .ok (.iconst (-1), 1) := by decide +kernel
theorem dL_refuses_36 : decode cL_refuses 36 = .ok (.iconst 0, 1) := by decide +kernel
theorem dL_refuses_37 : decode cL_refuses 37 = .ok (.invokestatic 135, 3) := by decide +kernel
theorem dL_refuses_40 : decode cL_refuses 40 = .ok (.ldc 15, 2) := by decide +kernel
theorem dL_refuses_42 : decode cL_refuses 42 = .ok (.if_icmp .ne 212, 3) := by decide +kernel
theorem dL_refuses_45 : decode cL_refuses 45 = .ok (.aload_n 0, 1) := by decide +kernel
theorem dL_refuses_46 : decode cL_refuses 46 = .ok (.iconst 0, 1) := by decide +kernel
theorem dL_refuses_47 : decode cL_refuses 47 = .ok (.iconst 4, 1) := by decide +kernel
theorem dL_refuses_48 : decode cL_refuses 48 = .ok (.invokestatic 135, 3) := by decide +kernel
theorem dL_refuses_51 : decode cL_refuses 51 = .ok (.ldc 15, 2) := by decide +kernel
theorem dL_refuses_53 : decode cL_refuses 53 = .ok (.if_icmp .ne 201, 3) := by decide +kernel
theorem dL_refuses_56 : decode cL_refuses 56 = .ok (.aload_n 0, 1) := by decide +kernel
theorem dL_refuses_57 : decode cL_refuses 57 = .ok (.iconst 5, 1) := by decide +kernel
theorem dL_refuses_58 : decode cL_refuses 58 = .ok (.invokestatic 132, 3) := by decide +kernel
theorem dL_refuses_61 : decode cL_refuses 61 = .ok (.ldc 15, 2) := by decide +kernel
theorem dL_refuses_63 : decode cL_refuses 63 = .ok (.if_icmp .ne 191, 3) := by decide +kernel
theorem dL_refuses_66 : decode cL_refuses 66 = .ok (.iload_n 2, 1) := by decide +kernel
theorem dL_refuses_67 : decode cL_refuses 67 = .ok (.ifCond .eq 31, 3) := by decide +kernel
theorem dL_refuses_70 : decode cL_refuses 70 = .ok (.aload_n 0, 1) := by decide +kernel
theorem dL_refuses_71 : decode cL_refuses 71 = .ok (.iconst 1, 1) := by decide +kernel
theorem dL_refuses_72 : decode cL_refuses 72 = .ok (.invokestatic 139, 3) := by decide +kernel
theorem dL_refuses_75 : decode cL_refuses 75 = .ok (.ldc 18, 2) := by decide +kernel
theorem dL_refuses_77 : decode cL_refuses 77 = .ok (.if_icmp .ne 177, 3) := by decide +kernel
theorem dL_refuses_80 : decode cL_refuses 80 = .ok (.aload_n 0, 1) := by decide +kernel
theorem dL_refuses_81 : decode cL_refuses 81 = .ok (.invokestatic 143, 3) := by decide +kernel
theorem dL_refuses_84 : decode cL_refuses 84 = .ok (.ldc 18, 2) := by decide +kernel
theorem dL_refuses_86 : decode cL_refuses 86 = .ok (.if_icmp .ne 168, 3) := by decide +kernel
theorem dL_refuses_89 : decode cL_refuses 89 = .ok (.aload_n 0, 1) := by decide +kernel
theorem dL_refuses_90 : decode cL_refuses 90 = .ok (.invokestatic 146, 3) := by decide +kernel
theorem dL_refuses_93 : decode cL_refuses 93 = .ok (.ldc 18, 2) := by decide +kernel
theorem dL_refuses_95 : decode cL_refuses 95 = .ok (.if_icmp .ne 159, 3) := by decide +kernel
theorem dL_refuses_98 : decode cL_refuses 98 = .ok (.aload_n 0, 1) := by decide +kernel
theorem dL_refuses_99 : decode cL_refuses 99 = .ok (.iconst 0, 1) := by decide +kernel
theorem dL_refuses_100 : decode cL_refuses 100 = .ok (.invokestatic 149, 3) := by decide +kernel
theorem dL_refuses_103 : decode cL_refuses 103 = .ok (.ldc 15, 2) := by decide +kernel
theorem dL_refuses_105 : decode cL_refuses 105 = .ok (.if_icmp .ne 149, 3) := by decide +kernel
theorem dL_refuses_108 : decode cL_refuses 108 = .ok (.aload_n 0, 1) := by decide +kernel
theorem dL_refuses_109 : decode cL_refuses 109 = .ok (.sipush 201, 3) := by decide +kernel
theorem dL_refuses_112 : decode cL_refuses 112 = .ok (.invokestatic 149, 3) := by decide +kernel
theorem dL_refuses_115 : decode cL_refuses 115 = .ok (.ldc 15, 2) := by decide +kernel
theorem dL_refuses_117 : decode cL_refuses 117 = .ok (.if_icmp .ne 137, 3) := by decide +kernel
theorem dL_refuses_120 : decode cL_refuses 120 = .ok (.aload_n 0, 1) := by decide +kernel
theorem dL_refuses_121 : decode cL_refuses 121 = .ok (.iconst 0, 1) := by decide +kernel
theorem dL_refuses_122 : decode cL_refuses 122 = .ok (.iconst 4, 1) := by decide +kernel
theorem dL_refuses_123 : decode cL_refuses 123 = .ok (.invokestatic 152, 3) := by decide +kernel
theorem dL_refuses_126 : decode cL_refuses 126 = .ok (.ldc 15, 2) := by decide +kernel
theorem dL_refuses_128 : decode cL_refuses 128 = .ok (.if_icmp .ne 126, 3) := by decide +kernel
theorem dL_refuses_131 : decode cL_refuses 131 = .ok (.aload_n 0, 1) := by decide +kernel
theorem dL_refuses_132 : decode cL_refuses 132 = .ok (.iconst 1, 1) := by decide +kernel
theorem dL_refuses_133 : decode cL_refuses 133 = .ok (.iconst (-1), 1) := by decide +kernel
theorem dL_refuses_134 : decode cL_refuses 134 = .ok (.invokestatic 152, 3) := by decide +kernel
theorem dL_refuses_137 : decode cL_refuses 137 = .ok (.ldc 15, 2) := by decide +kernel
theorem dL_refuses_139 : decode cL_refuses 139 = .ok (.if_icmp .ne 115, 3) := by decide +kernel
theorem dL_refuses_142 : decode cL_refuses 142 = .ok (.aload_n 0, 1) := by decide +kernel
theorem dL_refuses_143 : decode cL_refuses 143 = .ok (.iconst 2, 1) := by decide +kernel
theorem dL_refuses_144 : decode cL_refuses 144 = .ok (.sipush 10000, 3) := by decide +kernel
theorem dL_refuses_147 : decode cL_refuses 147 = .ok (.invokestatic 152, 3) := by decide +kernel
theorem dL_refuses_150 : decode cL_refuses 150 = .ok (.ldc 15, 2) := by decide +kernel
theorem dL_refuses_152 : decode cL_refuses 152 = .ok (.if_icmp .ne 102, 3) := by decide +kernel
theorem dL_refuses_155 : decode cL_refuses 155 = .ok (.aload_n 0, 1) := by decide +kernel
theorem dL_refuses_156 : decode cL_refuses 156 = .ok (.iconst 3, 1) := by decide +kernel
theorem dL_refuses_157 : decode cL_refuses 157 = .ok (.iconst 0, 1) := by decide +kernel
theorem dL_refuses_158 : decode cL_refuses 158 = .ok (.invokestatic 152, 3) := by decide +kernel
theorem dL_refuses_161 : decode cL_refuses 161 = .ok (.ldc 15, 2) := by decide +kernel
theorem dL_refuses_163 : decode cL_refuses 163 = .ok (.if_icmp .ne 91, 3) := by decide +kernel
theorem dL_refuses_166 : decode cL_refuses 166 = .ok (.aload_n 0, 1) := by decide +kernel
theorem dL_refuses_167 : decode cL_refuses 167 = .ok (.iconst 4, 1) := by decide +kernel
theorem dL_refuses_168 : decode cL_refuses 168 = .ok (.iconst 4, 1) := by decide +kernel
theorem dL_refuses_169 : decode cL_refuses 169 = .ok (.invokestatic 152, 3) := by decide +kernel
theorem dL_refuses_172 : decode cL_refuses 172 = .ok (.ldc 15, 2) := by decide +kernel
theorem dL_refuses_174 : decode cL_refuses 174 = .ok (.if_icmp .ne 80, 3) := by decide +kernel
theorem dL_refuses_177 : decode cL_refuses 177 = .ok (.aload_n 0, 1) := by decide +kernel
theorem dL_refuses_178 : decode cL_refuses 178 = .ok (.iconst 5, 1) := by decide +kernel
theorem dL_refuses_179 : decode cL_refuses 179 = .ok (.bipush 51, 2) := by decide +kernel
theorem dL_refuses_181 : decode cL_refuses 181 = .ok (.invokestatic 152, 3) := by decide +kernel
theorem dL_refuses_184 : decode cL_refuses 184 = .ok (.ldc 15, 2) := by decide +kernel
theorem dL_refuses_186 : decode cL_refuses 186 = .ok (.if_icmp .ne 68, 3) := by decide +kernel
theorem dL_refuses_189 : decode cL_refuses 189 = .ok (.aload_n 0, 1) := by decide +kernel
theorem dL_refuses_190 : decode cL_refuses 190 = .ok (.bipush 6, 2) := by decide +kernel
theorem dL_refuses_192 : decode cL_refuses 192 = .ok (.bipush 21, 2) := by decide +kernel
theorem dL_refuses_194 : decode cL_refuses 194 = .ok (.invokestatic 152, 3) := by decide +kernel
theorem dL_refuses_197 : decode cL_refuses 197 = .ok (.ldc 15, 2) := by decide +kernel
theorem dL_refuses_199 : decode cL_refuses 199 = .ok (.if_icmp .ne 55, 3) := by decide +kernel
theorem dL_refuses_202 : decode cL_refuses 202 = .ok (.aload_n 0, 1) := by decide +kernel
theorem dL_refuses_203 : decode cL_refuses 203 = .ok (.bipush 7, 2) := by decide +kernel
theorem dL_refuses_205 : decode cL_refuses 205 = .ok (.iconst 0, 1) := by decide +kernel
theorem dL_refuses_206 : decode cL_refuses 206 = .ok (.invokestatic 152, 3) := by decide +kernel
theorem dL_refuses_209 : decode cL_refuses 209 = .ok (.ldc 15, 2) := by decide +kernel
theorem dL_refuses_211 : decode cL_refuses 211 = .ok (.if_icmp .ne 43, 3) := by decide +kernel
theorem dL_refuses_214 : decode cL_refuses 214 = .ok (.aload_n 0, 1) := by decide +kernel
theorem dL_refuses_215 : decode cL_refuses 215 = .ok (.iload_n 1, 1) := by decide +kernel
theorem dL_refuses_216 : decode cL_refuses 216 = .ok (.invokestatic 155, 3) := by decide +kernel
theorem dL_refuses_219 : decode cL_refuses 219 = .ok (.ldc 51, 2) := by decide +kernel
theorem dL_refuses_221 : decode cL_refuses 221 = .ok (.if_icmp .ne 33, 3) := by decide +kernel
theorem dL_refuses_224 : decode cL_refuses 224 = .ok (.aload_n 0, 1) := by decide +kernel
theorem dL_refuses_225 : decode cL_refuses 225 = .ok (.iconst 0, 1) := by decide +kernel
theorem dL_refuses_226 : decode cL_refuses 226 = .ok (.invokestatic 158, 3) := by decide +kernel
theorem dL_refuses_229 : decode cL_refuses 229 = .ok (.ldc 15, 2) := by decide +kernel
theorem dL_refuses_231 : decode cL_refuses 231 = .ok (.if_icmp .ne 23, 3) := by decide +kernel
theorem dL_refuses_234 : decode cL_refuses 234 = .ok (.iload_n 1, 1) := by decide +kernel
theorem dL_refuses_235 : decode cL_refuses 235 = .ok (.bipush 6, 2) := by decide +kernel
theorem dL_refuses_237 : decode cL_refuses 237 = .ok (.if_icmp .lt 13, 3) := by decide +kernel
theorem dL_refuses_240 : decode cL_refuses 240 = .ok (.aload_n 0, 1) := by decide +kernel
theorem dL_refuses_241 : decode cL_refuses 241 = .ok (.iconst 1, 1) := by decide +kernel
theorem dL_refuses_242 : decode cL_refuses 242 = .ok (.invokestatic 158, 3) := by decide +kernel
theorem dL_refuses_245 : decode cL_refuses 245 = .ok (.ldc 18, 2) := by decide +kernel
theorem dL_refuses_247 : decode cL_refuses 247 = .ok (.if_icmp .ne 7, 3) := by decide +kernel
theorem dL_refuses_250 : decode cL_refuses 250 = .ok (.iconst 1, 1) := by decide +kernel
theorem dL_refuses_251 : decode cL_refuses 251 = .ok (.goto 4, 3) := by decide +kernel
theorem dL_refuses_254 : decode cL_refuses 254 = .ok (.iconst 0, 1) := by decide +kernel
theorem dL_refuses_255 : decode cL_refuses 255 = .ok (.istore_n 3, 1) := by decide +kernel
theorem dL_refuses_256 : decode cL_refuses 256 = .ok (.iload_n 3, 1) := by decide +kernel
theorem dL_refuses_257 : decode cL_refuses 257 = .ok (.ifCond .eq 163, 3) := by decide +kernel
theorem dL_refuses_260 : decode cL_refuses 260 = .ok (.aload_n 0, 1) := by decide +kernel
theorem dL_refuses_261 : decode cL_refuses 261 = .ok (.iconst 3, 1) := by decide +kernel
theorem dL_refuses_262 : decode cL_refuses 262 = .ok (.invokestatic 161, 3) := by decide +kernel
theorem dL_refuses_265 : decode cL_refuses 265 = .ok (.ldc 15, 2) := by decide +kernel
theorem dL_refuses_267 : decode cL_refuses 267 = .ok (.if_icmp .ne 153, 3) := by decide +kernel
theorem dL_refuses_270 : decode cL_refuses 270 = .ok (.aload_n 0, 1) := by decide +kernel
theorem dL_refuses_271 : decode cL_refuses 271 = .ok (.iload_n 1, 1) := by decide +kernel
theorem dL_refuses_272 : decode cL_refuses 272 = .ok (.invokestatic 164, 3) := by decide +kernel
theorem dL_refuses_275 : decode cL_refuses 275 = .ok (.ldc 51, 2) := by decide +kernel
theorem dL_refuses_277 : decode cL_refuses 277 = .ok (.if_icmp .ne 143, 3) := by decide +kernel
theorem dL_refuses_280 : decode cL_refuses 280 = .ok (.aload_n 0, 1) := by decide +kernel
theorem dL_refuses_281 : decode cL_refuses 281 = .ok (.iconst (-1), 1) := by decide +kernel
theorem dL_refuses_282 : decode cL_refuses 282 = .ok (.invokestatic 167, 3) := by decide +kernel
theorem dL_refuses_285 : decode cL_refuses 285 = .ok (.ldc 51, 2) := by decide +kernel
theorem dL_refuses_287 : decode cL_refuses 287 = .ok (.if_icmp .ne 133, 3) := by decide +kernel
theorem dL_refuses_290 : decode cL_refuses 290 = .ok (.aload_n 0, 1) := by decide +kernel
theorem dL_refuses_291 : decode cL_refuses 291 = .ok (.bipush 100, 2) := by decide +kernel
theorem dL_refuses_293 : decode cL_refuses 293 = .ok (.iconst 0, 1) := by decide +kernel
theorem dL_refuses_294 : decode cL_refuses 294 = .ok (.invokestatic 170, 3) := by decide +kernel
theorem dL_refuses_297 : decode cL_refuses 297 = .ok (.ldc 15, 2) := by decide +kernel
theorem dL_refuses_299 : decode cL_refuses 299 = .ok (.if_icmp .ne 121, 3) := by decide +kernel
theorem dL_refuses_302 : decode cL_refuses 302 = .ok (.aload_n 0, 1) := by decide +kernel
theorem dL_refuses_303 : decode cL_refuses 303 = .ok (.iconst 0, 1) := by decide +kernel
theorem dL_refuses_304 : decode cL_refuses 304 = .ok (.sipush 201, 3) := by decide +kernel
theorem dL_refuses_307 : decode cL_refuses 307 = .ok (.invokestatic 170, 3) := by decide +kernel
theorem dL_refuses_310 : decode cL_refuses 310 = .ok (.ldc 15, 2) := by decide +kernel
theorem dL_refuses_312 : decode cL_refuses 312 = .ok (.if_icmp .ne 108, 3) := by decide +kernel
theorem dL_refuses_315 : decode cL_refuses 315 = .ok (.aload_n 0, 1) := by decide +kernel
theorem dL_refuses_316 : decode cL_refuses 316 = .ok (.bipush (-51), 2) := by decide +kernel
theorem dL_refuses_318 : decode cL_refuses 318 = .ok (.invokestatic 173, 3) := by decide +kernel
theorem dL_refuses_321 : decode cL_refuses 321 = .ok (.ldc 15, 2) := by decide +kernel
theorem dL_refuses_323 : decode cL_refuses 323 = .ok (.if_icmp .ne 97, 3) := by decide +kernel
theorem dL_refuses_326 : decode cL_refuses 326 = .ok (.aload_n 0, 1) := by decide +kernel
theorem dL_refuses_327 : decode cL_refuses 327 = .ok (.sipush 301, 3) := by decide +kernel
theorem dL_refuses_330 : decode cL_refuses 330 = .ok (.invokestatic 173, 3) := by decide +kernel
theorem dL_refuses_333 : decode cL_refuses 333 = .ok (.ldc 15, 2) := by decide +kernel
theorem dL_refuses_335 : decode cL_refuses 335 = .ok (.if_icmp .ne 85, 3) := by decide +kernel
theorem dL_refuses_338 : decode cL_refuses 338 = .ok (.aload_n 0, 1) := by decide +kernel
theorem dL_refuses_339 : decode cL_refuses 339 = .ok (.iconst 4, 1) := by decide +kernel
theorem dL_refuses_340 : decode cL_refuses 340 = .ok (.invokestatic 176, 3) := by decide +kernel
theorem dL_refuses_343 : decode cL_refuses 343 = .ok (.ldc 15, 2) := by decide +kernel
theorem dL_refuses_345 : decode cL_refuses 345 = .ok (.if_icmp .ne 75, 3) := by decide +kernel
theorem dL_refuses_348 : decode cL_refuses 348 = .ok (.aload_n 0, 1) := by decide +kernel
theorem dL_refuses_349 : decode cL_refuses 349 = .ok (.iconst 4, 1) := by decide +kernel
theorem dL_refuses_350 : decode cL_refuses 350 = .ok (.lconst 0, 1) := by decide +kernel
theorem dL_refuses_351 : decode cL_refuses 351 = .ok (.invokestatic 179, 3) := by decide +kernel
theorem dL_refuses_354 : decode cL_refuses 354 = .ok (.ldc 15, 2) := by decide +kernel
theorem dL_refuses_356 : decode cL_refuses 356 = .ok (.if_icmp .ne 64, 3) := by decide +kernel
theorem dL_refuses_359 : decode cL_refuses 359 = .ok (.aload_n 0, 1) := by decide +kernel
theorem dL_refuses_360 : decode cL_refuses 360 = .ok (.iconst 1, 1) := by decide +kernel
theorem dL_refuses_361 : decode cL_refuses 361 = .ok (.ldc2_w 183, 3) := by decide +kernel
theorem dL_refuses_364 : decode cL_refuses 364 = .ok (.invokestatic 179, 3) := by decide +kernel
theorem dL_refuses_367 : decode cL_refuses 367 = .ok (.ldc 15, 2) := by decide +kernel
theorem dL_refuses_369 : decode cL_refuses 369 = .ok (.if_icmp .ne 51, 3) := by decide +kernel
theorem dL_refuses_372 : decode cL_refuses 372 = .ok (.aload_n 0, 1) := by decide +kernel
theorem dL_refuses_373 : decode cL_refuses 373 = .ok (.lconst 1, 1) := by decide +kernel
theorem dL_refuses_374 : decode cL_refuses 374 = .ok (.bipush 100, 2) := by decide +kernel
theorem dL_refuses_376 : decode cL_refuses 376 = .ok (.invokestatic 185, 3) := by decide +kernel
theorem dL_refuses_379 : decode cL_refuses 379 = .ok (.ldc 15, 2) := by decide +kernel
theorem dL_refuses_381 : decode cL_refuses 381 = .ok (.if_icmp .ne 39, 3) := by decide +kernel
theorem dL_refuses_384 : decode cL_refuses 384 = .ok (.aload_n 0, 1) := by decide +kernel
theorem dL_refuses_385 : decode cL_refuses 385 = .ok (.iconst 2, 1) := by decide +kernel
theorem dL_refuses_386 : decode cL_refuses 386 = .ok (.invokestatic 189, 3) := by decide +kernel
theorem dL_refuses_389 : decode cL_refuses 389 = .ok (.ldc 51, 2) := by decide +kernel
theorem dL_refuses_391 : decode cL_refuses 391 = .ok (.if_icmp .ne 29, 3) := by decide +kernel
theorem dL_refuses_394 : decode cL_refuses 394 = .ok (.aload_n 0, 1) := by decide +kernel
theorem dL_refuses_395 : decode cL_refuses 395 = .ok (.iconst (-1), 1) := by decide +kernel
theorem dL_refuses_396 : decode cL_refuses 396 = .ok (.invokestatic 129, 3) := by decide +kernel
theorem dL_refuses_399 : decode cL_refuses 399 = .ok (.ldc 51, 2) := by decide +kernel
theorem dL_refuses_401 : decode cL_refuses 401 = .ok (.if_icmp .ne 19, 3) := by decide +kernel
theorem dL_refuses_404 : decode cL_refuses 404 = .ok (.aload_n 0, 1) := by decide +kernel
theorem dL_refuses_405 : decode cL_refuses 405 = .ok (.sipush 256, 3) := by decide +kernel
theorem dL_refuses_408 : decode cL_refuses 408 = .ok (.invokestatic 95, 3) := by decide +kernel
theorem dL_refuses_411 : decode cL_refuses 411 = .ok (.ldc 15, 2) := by decide +kernel
theorem dL_refuses_413 : decode cL_refuses 413 = .ok (.if_icmp .ne 7, 3) := by decide +kernel
theorem dL_refuses_416 : decode cL_refuses 416 = .ok (.iconst 1, 1) := by decide +kernel
theorem dL_refuses_417 : decode cL_refuses 417 = .ok (.goto 4, 3) := by decide +kernel
theorem dL_refuses_420 : decode cL_refuses 420 = .ok (.iconst 0, 1) := by decide +kernel
theorem dL_refuses_421 : decode cL_refuses 421 = .ok (.ireturn, 1) := by decide +kernel
