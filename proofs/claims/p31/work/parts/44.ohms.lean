/-! the law's method ohms: its rows and words of its calls -/
set_option maxRecDepth 20000 in
theorem ggL_ohms_L_tryAbout : GoodIn wsL_ohms wsL_tryAbout := goodIn_ca (goodIn_r _ [4, 5, 6, 7, 8, 9, 10, 11, 12, 13, 14, 15, 16, 17, 18, 19, 20, 21, 22, 23, 24, 25, 26, 27, 28, 29, 30, 31, 32, 33, 34, 35, 36, 37, 38, 39, 40, 41, 42, 43, 44, 109, 110, 111, 112, 113, 114, 115, 116, 117, 118, 119, 120, 121, 122, 123, 124, 125, 126, 127, 128, 129, 130, 131, 132, 133, 134, 135] (by decide +kernel) (by decide +kernel)) (goodIn_sub (fun _ h => List.mem_cons_of_mem _ (List.mem_append_right _ h)) (by decide +kernel))
set_option maxRecDepth 20000 in
theorem gL_ohms_L_tryAbout : GoodIn wsL_ohms (va_wsS RL 123 yL_tryAbout wsL_tryAbout) := goodIn_app (goodIn_of _ (by decide +kernel)) ggL_ohms_L_tryAbout
set_option maxRecDepth 20000 in
theorem ggL_ohms_L_trySet : GoodIn wsL_ohms wsL_trySet := goodIn_ca (goodIn_r _ [47, 5, 6, 48, 49, 50, 10, 51, 12, 13, 14, 52, 19, 53, 54, 55, 56, 57, 58, 59, 60, 61, 62, 63, 64, 65, 66, 67, 68, 69, 70, 22, 23, 24, 25, 26, 27, 28, 29, 30, 33, 35, 36, 71, 31, 32, 34, 72, 73, 74, 75, 76, 77, 78, 18, 20, 21, 37, 38, 39, 40, 41, 42, 43, 44, 79, 80, 81, 109, 110, 111, 112, 113, 114, 115, 116, 117, 118, 119, 120, 121, 122, 123, 124, 125, 126, 127, 128, 129, 130, 131, 132, 133, 134, 135] (by decide +kernel) (by decide +kernel)) (goodIn_sub (fun _ h => List.mem_cons_of_mem _ (List.mem_append_right _ h)) (by decide +kernel))
set_option maxRecDepth 20000 in
theorem gL_ohms_L_trySet : GoodIn wsL_ohms (va_wsS RL 152 yL_trySet wsL_trySet) := goodIn_app (goodIn_of _ (by decide +kernel)) ggL_ohms_L_trySet
set_option maxRecDepth 20000 in
theorem ggL_ohms_L_tryBridge : GoodIn wsL_ohms wsL_tryBridge := goodIn_ca (goodIn_r _ [84, 5, 6, 85, 86, 87, 10, 88, 12, 13, 14, 15, 16, 17, 89, 19, 90, 91, 23, 32, 22, 92, 93, 94, 95, 96, 97, 71, 98, 99, 100, 101, 102, 103, 104, 105, 106, 107, 108, 25, 38, 39, 40, 29, 41, 42, 43, 44, 27, 28, 109, 110, 111, 112, 113, 114, 115, 116, 117, 118, 119, 120, 121, 122, 123, 124, 125, 126, 127, 128, 129, 130, 131, 132] (by decide +kernel) (by decide +kernel)) (goodIn_sub (fun _ h => List.mem_cons_of_mem _ (List.mem_append_right _ h)) (by decide +kernel))
set_option maxRecDepth 20000 in
theorem gL_ohms_L_tryBridge : GoodIn wsL_ohms (va_wsS RL 132 yL_tryBridge wsL_tryBridge) := goodIn_app (goodIn_of _ (by decide +kernel)) ggL_ohms_L_tryBridge
theorem dL_ohms_0 : decode cL_ohms 0 = .ok (.aload_n 0, 1) := by decide +kernel
theorem dL_ohms_1 : decode cL_ohms 1 = .ok (.iconst 1, 1) := by decide +kernel
theorem dL_ohms_2 : decode cL_ohms 2 = .ok (.invokestatic 123, 3) := by decide +kernel
theorem dL_ohms_5 : decode cL_ohms 5 = .ok (.istore_n 1, 1) := by decide +kernel
theorem dL_ohms_6 : decode cL_ohms 6 = .ok (.iload_n 1, 1) := by decide +kernel
theorem dL_ohms_7 : decode cL_ohms 7 = .ok (.ifCond .ne 7, 3) := by decide +kernel
theorem dL_ohms_10 : decode cL_ohms 10 = .ok (.iconst 1, 1) := by decide +kernel
theorem dL_ohms_11 : decode cL_ohms 11 = .ok (.goto 26, 3) := by decide +kernel
theorem dL_ohms_14 : decode cL_ohms 14 = .ok (.iload_n 1, 1) := by decide +kernel
theorem dL_ohms_15 : decode cL_ohms 15 = .ok (.iconst 1, 1) := by decide +kernel
theorem dL_ohms_16 : decode cL_ohms 16 = .ok (.if_icmp .ne 8, 3) := by decide +kernel
theorem dL_ohms_19 : decode cL_ohms 19 = .ok (.bipush 10, 2) := by decide +kernel
theorem dL_ohms_21 : decode cL_ohms 21 = .ok (.goto 16, 3) := by decide +kernel
theorem dL_ohms_24 : decode cL_ohms 24 = .ok (.iload_n 1, 1) := by decide +kernel
theorem dL_ohms_25 : decode cL_ohms 25 = .ok (.iconst 2, 1) := by decide +kernel
theorem dL_ohms_26 : decode cL_ohms 26 = .ok (.if_icmp .ne 8, 3) := by decide +kernel
theorem dL_ohms_29 : decode cL_ohms 29 = .ok (.bipush 100, 2) := by decide +kernel
theorem dL_ohms_31 : decode cL_ohms 31 = .ok (.goto 6, 3) := by decide +kernel
theorem dL_ohms_34 : decode cL_ohms 34 = .ok (.sipush 1000, 3) := by decide +kernel
theorem dL_ohms_37 : decode cL_ohms 37 = .ok (.istore_n 2, 1) := by decide +kernel
theorem dL_ohms_38 : decode cL_ohms 38 = .ok (.aload_n 0, 1) := by decide +kernel
theorem dL_ohms_39 : decode cL_ohms 39 = .ok (.iconst 2, 1) := by decide +kernel
theorem dL_ohms_40 : decode cL_ohms 40 = .ok (.iconst 0, 1) := by decide +kernel
theorem dL_ohms_41 : decode cL_ohms 41 = .ok (.invokestatic 152, 3) := by decide +kernel
theorem dL_ohms_44 : decode cL_ohms 44 = .ok (.istore_n 3, 1) := by decide +kernel
theorem dL_ohms_45 : decode cL_ohms 45 = .ok (.aload_n 0, 1) := by decide +kernel
theorem dL_ohms_46 : decode cL_ohms 46 = .ok (.iconst 0, 1) := by decide +kernel
theorem dL_ohms_47 : decode cL_ohms 47 = .ok (.invokestatic 132, 3) := by decide +kernel
theorem dL_ohms_50 : decode cL_ohms 50 = .ok (.iload_n 2, 1) := by decide +kernel
theorem dL_ohms_51 : decode cL_ohms 51 = .ok (.idiv, 1) := by decide +kernel
theorem dL_ohms_52 : decode cL_ohms 52 = .ok (.istore 4, 2) := by decide +kernel
theorem dL_ohms_54 : decode cL_ohms 54 = .ok (.aload_n 0, 1) := by decide +kernel
theorem dL_ohms_55 : decode cL_ohms 55 = .ok (.iconst 2, 1) := by decide +kernel
theorem dL_ohms_56 : decode cL_ohms 56 = .ok (.iload_n 3, 1) := by decide +kernel
theorem dL_ohms_57 : decode cL_ohms 57 = .ok (.invokestatic 152, 3) := by decide +kernel
theorem dL_ohms_60 : decode cL_ohms 60 = .ok (.ifCond .ne 8, 3) := by decide +kernel
theorem dL_ohms_63 : decode cL_ohms 63 = .ok (.iload 4, 2) := by decide +kernel
theorem dL_ohms_65 : decode cL_ohms 65 = .ok (.goto 4, 3) := by decide +kernel
theorem dL_ohms_68 : decode cL_ohms 68 = .ok (.iconst 0, 1) := by decide +kernel
theorem dL_ohms_69 : decode cL_ohms 69 = .ok (.ireturn, 1) := by decide +kernel
