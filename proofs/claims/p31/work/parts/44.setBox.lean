/-! the law's method setBox: its rows and words of its calls -/
set_option maxRecDepth 20000 in
theorem ggL_setBox_L_trySet : GoodIn wsL_setBox wsL_trySet := goodIn_ca (goodIn_r _ [4, 5, 6, 7, 8, 9, 10, 11, 12, 13, 14, 15, 16, 17, 18, 19, 20, 21, 22, 23, 24, 25, 26, 27, 28, 29, 30, 31, 32, 33, 34, 35, 36, 37, 38, 39, 40, 41, 42, 43, 44, 45, 46, 47, 48, 49, 50, 51, 52, 53, 54, 55, 56, 57, 58, 59, 60, 61, 62, 63, 64, 65, 66, 67, 68, 69, 70, 71, 102, 103, 104, 105, 106, 107, 108, 109, 110, 111, 112, 113, 114, 115, 116, 117, 118, 119, 120, 121, 122, 123, 124, 125, 126, 127, 128] (by decide +kernel) (by decide +kernel)) (goodIn_sub (fun _ h => List.mem_cons_of_mem _ (List.mem_append_right _ h)) (by decide +kernel))
set_option maxRecDepth 20000 in
theorem gL_setBox_L_trySet : GoodIn wsL_setBox (va_wsS RL 152 yL_trySet wsL_trySet) := goodIn_app (goodIn_of _ (by decide +kernel)) ggL_setBox_L_trySet
set_option maxRecDepth 20000 in
theorem ggL_setBox_L_tryBridge : GoodIn wsL_setBox wsL_tryBridge := goodIn_ca (goodIn_r _ [74, 5, 6, 75, 76, 77, 10, 78, 12, 13, 14, 79, 80, 81, 82, 16, 83, 84, 36, 49, 35, 85, 86, 87, 88, 89, 90, 47, 91, 92, 93, 94, 95, 96, 97, 98, 99, 100, 101, 38, 62, 63, 64, 42, 65, 66, 67, 68, 40, 41, 102, 103, 104, 105, 106, 107, 108, 109, 110, 111, 112, 113, 114, 115, 116, 117, 118, 119, 120, 121, 122, 123, 124, 125] (by decide +kernel) (by decide +kernel)) (goodIn_sub (fun _ h => List.mem_cons_of_mem _ (List.mem_append_right _ h)) (by decide +kernel))
set_option maxRecDepth 20000 in
theorem gL_setBox_L_tryBridge : GoodIn wsL_setBox (va_wsS RL 132 yL_tryBridge wsL_tryBridge) := goodIn_app (goodIn_of _ (by decide +kernel)) ggL_setBox_L_tryBridge
theorem dL_setBox_0 : decode cL_setBox 0 = .ok (.aload_n 0, 1) := by decide +kernel
theorem dL_setBox_1 : decode cL_setBox 1 = .ok (.iconst 2, 1) := by decide +kernel
theorem dL_setBox_2 : decode cL_setBox 2 = .ok (.iload_n 1, 1) := by decide +kernel
theorem dL_setBox_3 : decode cL_setBox 3 = .ok (.invokestatic 152, 3) := by decide +kernel
theorem dL_setBox_6 : decode cL_setBox 6 = .ok (.ifCond .lt 11, 3) := by decide +kernel
theorem dL_setBox_9 : decode cL_setBox 9 = .ok (.aload_n 0, 1) := by decide +kernel
theorem dL_setBox_10 : decode cL_setBox 10 = .ok (.iconst 2, 1) := by decide +kernel
theorem dL_setBox_11 : decode cL_setBox 11 = .ok (.invokestatic 132, 3) := by decide +kernel
theorem dL_setBox_14 : decode cL_setBox 14 = .ok (.goto 4, 3) := by decide +kernel
theorem dL_setBox_17 : decode cL_setBox 17 = .ok (.iconst 0, 1) := by decide +kernel
theorem dL_setBox_18 : decode cL_setBox 18 = .ok (.ireturn, 1) := by decide +kernel
