/-! the law's method alike: its rows and words of its calls -/
set_option maxRecDepth 20000 in
theorem ggL_alike_L_tryAbout : GoodIn wsL_alike wsL_tryAbout := goodIn_ca (goodIn_r _ [4, 5, 6, 7, 8, 9, 10, 11, 12, 13, 14, 15, 16, 17, 18, 19, 20, 21, 22, 23, 24, 25, 26, 27, 28, 29, 30, 31, 32, 33, 34, 35, 36, 37, 38, 39, 40, 41, 42, 43, 44, 87, 88, 89, 90, 91, 92, 93, 94, 95, 96, 97, 98, 99, 100, 101, 102, 103, 104, 105, 106, 107, 108, 109, 110, 111, 112, 113] (by decide +kernel) (by decide +kernel)) (goodIn_sub (fun _ h => List.mem_cons_of_mem _ (List.mem_append_right _ h)) (by decide +kernel))
set_option maxRecDepth 20000 in
theorem gL_alike_L_tryAbout : GoodIn wsL_alike (va_wsS RL 123 yL_tryAbout wsL_tryAbout) := goodIn_app (goodIn_of _ (by decide +kernel)) ggL_alike_L_tryAbout
set_option maxRecDepth 20000 in
theorem ggL_alike_L_tryBridge : GoodIn wsL_alike wsL_tryBridge := goodIn_ca (goodIn_r _ [47, 5, 6, 48, 49, 50, 10, 51, 12, 13, 14, 15, 16, 17, 52, 19, 53, 54, 23, 32, 22, 55, 56, 57, 58, 59, 60, 61, 62, 63, 64, 65, 66, 67, 68, 69, 70, 71, 72, 25, 38, 39, 40, 29, 41, 42, 43, 44, 27, 28, 87, 88, 89, 90, 91, 92, 93, 94, 95, 96, 97, 98, 99, 100, 101, 102, 103, 104, 105, 106, 107, 108, 109, 110] (by decide +kernel) (by decide +kernel)) (goodIn_sub (fun _ h => List.mem_cons_of_mem _ (List.mem_append_right _ h)) (by decide +kernel))
set_option maxRecDepth 20000 in
theorem gL_alike_L_tryBridge : GoodIn wsL_alike (va_wsS RL 132 yL_tryBridge wsL_tryBridge) := goodIn_app (goodIn_of _ (by decide +kernel)) ggL_alike_L_tryBridge
set_option maxRecDepth 20000 in
theorem ggL_alike_L_tryTold : GoodIn wsL_alike wsL_tryTold := goodIn_ca (goodIn_r _ [75, 5, 6, 76, 77, 78, 10, 79, 12, 13, 14, 15, 16, 17, 80, 81, 82, 83, 84, 85, 86, 87, 88, 89, 90, 91, 92, 93, 94, 95, 96, 97, 98, 99, 100, 101, 102, 103, 104, 105, 106, 107, 108, 109, 110, 111, 112, 113] (by decide +kernel) (by decide +kernel)) (goodIn_sub (fun _ h => List.mem_cons_of_mem _ (List.mem_append_right _ h)) (by decide +kernel))
set_option maxRecDepth 20000 in
theorem gL_alike_L_tryTold : GoodIn wsL_alike (va_wsS RL 135 yL_tryTold wsL_tryTold) := goodIn_app (goodIn_of _ (by decide +kernel)) ggL_alike_L_tryTold
theorem dL_alike_0 : decode cL_alike 0 = .ok (.iconst 1, 1) := by decide +kernel
theorem dL_alike_1 : decode cL_alike 1 = .ok (.istore_n 2, 1) := by decide +kernel
theorem dL_alike_2 : decode cL_alike 2 = .ok (.iconst 0, 1) := by decide +kernel
theorem dL_alike_3 : decode cL_alike 3 = .ok (.istore_n 3, 1) := by decide +kernel
theorem dL_alike_4 : decode cL_alike 4 = .ok (.iload_n 3, 1) := by decide +kernel
theorem dL_alike_5 : decode cL_alike 5 = .ok (.bipush 16, 2) := by decide +kernel
theorem dL_alike_7 : decode cL_alike 7 = .ok (.if_icmp .ge 50, 3) := by decide +kernel
theorem dL_alike_10 : decode cL_alike 10 = .ok (.iload_n 2, 1) := by decide +kernel
theorem dL_alike_11 : decode cL_alike 11 = .ok (.ifCond .eq 38, 3) := by decide +kernel
theorem dL_alike_14 : decode cL_alike 14 = .ok (.aload_n 0, 1) := by decide +kernel
theorem dL_alike_15 : decode cL_alike 15 = .ok (.iload_n 3, 1) := by decide +kernel
theorem dL_alike_16 : decode cL_alike 16 = .ok (.invokestatic 123, 3) := by decide +kernel
theorem dL_alike_19 : decode cL_alike 19 = .ok (.aload_n 1, 1) := by decide +kernel
theorem dL_alike_20 : decode cL_alike 20 = .ok (.iload_n 3, 1) := by decide +kernel
theorem dL_alike_21 : decode cL_alike 21 = .ok (.invokestatic 123, 3) := by decide +kernel
theorem dL_alike_24 : decode cL_alike 24 = .ok (.if_icmp .ne 25, 3) := by decide +kernel
theorem dL_alike_27 : decode cL_alike 27 = .ok (.iload_n 3, 1) := by decide +kernel
theorem dL_alike_28 : decode cL_alike 28 = .ok (.iconst 4, 1) := by decide +kernel
theorem dL_alike_29 : decode cL_alike 29 = .ok (.if_icmp .gt 16, 3) := by decide +kernel
theorem dL_alike_32 : decode cL_alike 32 = .ok (.aload_n 0, 1) := by decide +kernel
theorem dL_alike_33 : decode cL_alike 33 = .ok (.iload_n 3, 1) := by decide +kernel
theorem dL_alike_34 : decode cL_alike 34 = .ok (.invokestatic 132, 3) := by decide +kernel
theorem dL_alike_37 : decode cL_alike 37 = .ok (.aload_n 1, 1) := by decide +kernel
theorem dL_alike_38 : decode cL_alike 38 = .ok (.iload_n 3, 1) := by decide +kernel
theorem dL_alike_39 : decode cL_alike 39 = .ok (.invokestatic 132, 3) := by decide +kernel
theorem dL_alike_42 : decode cL_alike 42 = .ok (.if_icmp .ne 7, 3) := by decide +kernel
theorem dL_alike_45 : decode cL_alike 45 = .ok (.iconst 1, 1) := by decide +kernel
theorem dL_alike_46 : decode cL_alike 46 = .ok (.goto 4, 3) := by decide +kernel
theorem dL_alike_49 : decode cL_alike 49 = .ok (.iconst 0, 1) := by decide +kernel
theorem dL_alike_50 : decode cL_alike 50 = .ok (.istore_n 2, 1) := by decide +kernel
theorem dL_alike_51 : decode cL_alike 51 = .ok (.iinc 3 1, 3) := by decide +kernel
theorem dL_alike_54 : decode cL_alike 54 = .ok (.goto (-50), 3) := by decide +kernel
theorem dL_alike_57 : decode cL_alike 57 = .ok (.iconst 0, 1) := by decide +kernel
theorem dL_alike_58 : decode cL_alike 58 = .ok (.istore_n 3, 1) := by decide +kernel
theorem dL_alike_59 : decode cL_alike 59 = .ok (.iload_n 3, 1) := by decide +kernel
theorem dL_alike_60 : decode cL_alike 60 = .ok (.bipush 84, 2) := by decide +kernel
theorem dL_alike_62 : decode cL_alike 62 = .ok (.if_icmp .ge 42, 3) := by decide +kernel
theorem dL_alike_65 : decode cL_alike 65 = .ok (.iload_n 2, 1) := by decide +kernel
theorem dL_alike_66 : decode cL_alike 66 = .ok (.ifCond .eq 38, 3) := by decide +kernel
theorem dL_alike_69 : decode cL_alike 69 = .ok (.aload_n 0, 1) := by decide +kernel
theorem dL_alike_70 : decode cL_alike 70 = .ok (.iload_n 3, 1) := by decide +kernel
theorem dL_alike_71 : decode cL_alike 71 = .ok (.iconst 4, 1) := by decide +kernel
theorem dL_alike_72 : decode cL_alike 72 = .ok (.idiv, 1) := by decide +kernel
theorem dL_alike_73 : decode cL_alike 73 = .ok (.iload_n 3, 1) := by decide +kernel
theorem dL_alike_74 : decode cL_alike 74 = .ok (.iconst 4, 1) := by decide +kernel
theorem dL_alike_75 : decode cL_alike 75 = .ok (.irem, 1) := by decide +kernel
theorem dL_alike_76 : decode cL_alike 76 = .ok (.invokestatic 135, 3) := by decide +kernel
theorem dL_alike_79 : decode cL_alike 79 = .ok (.aload_n 1, 1) := by decide +kernel
theorem dL_alike_80 : decode cL_alike 80 = .ok (.iload_n 3, 1) := by decide +kernel
theorem dL_alike_81 : decode cL_alike 81 = .ok (.iconst 4, 1) := by decide +kernel
theorem dL_alike_82 : decode cL_alike 82 = .ok (.idiv, 1) := by decide +kernel
theorem dL_alike_83 : decode cL_alike 83 = .ok (.iload_n 3, 1) := by decide +kernel
theorem dL_alike_84 : decode cL_alike 84 = .ok (.iconst 4, 1) := by decide +kernel
theorem dL_alike_85 : decode cL_alike 85 = .ok (.irem, 1) := by decide +kernel
theorem dL_alike_86 : decode cL_alike 86 = .ok (.invokestatic 135, 3) := by decide +kernel
theorem dL_alike_89 : decode cL_alike 89 = .ok (.if_icmp .ne 7, 3) := by decide +kernel
theorem dL_alike_92 : decode cL_alike 92 = .ok (.iconst 1, 1) := by decide +kernel
theorem dL_alike_93 : decode cL_alike 93 = .ok (.goto 4, 3) := by decide +kernel
theorem dL_alike_96 : decode cL_alike 96 = .ok (.iconst 0, 1) := by decide +kernel
theorem dL_alike_97 : decode cL_alike 97 = .ok (.istore_n 2, 1) := by decide +kernel
theorem dL_alike_98 : decode cL_alike 98 = .ok (.iinc 3 1, 3) := by decide +kernel
theorem dL_alike_101 : decode cL_alike 101 = .ok (.goto (-42), 3) := by decide +kernel
theorem dL_alike_104 : decode cL_alike 104 = .ok (.iload_n 2, 1) := by decide +kernel
theorem dL_alike_105 : decode cL_alike 105 = .ok (.ireturn, 1) := by decide +kernel
