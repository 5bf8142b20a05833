/-! the law's method two: its rows and words of its calls -/
set_option maxRecDepth 20000 in
theorem ggL_two_L_put : GoodIn wsL_two wsL_put := goodIn_ca (goodIn_ca (goodIn_r _ [4, 5, 6, 3, 7, 8, 9, 10, 11, 12, 13, 14, 15, 16, 17, 18, 19, 20, 21, 22, 23, 24, 25, 26, 27, 28, 29, 30, 31, 32, 33, 34, 35, 36, 37, 38, 39, 40] (by decide +kernel) (by decide +kernel)) (goodIn_sub (fun _ h => List.mem_cons_of_mem _ (List.mem_append_left _ (List.mem_append_right _ h))) (by decide +kernel))) (goodIn_sub (fun _ h => List.mem_cons_of_mem _ (List.mem_append_right _ h)) (by decide +kernel))
set_option maxRecDepth 20000 in
theorem gL_two_L_put : GoodIn wsL_two (va_wsS RL 101 yL_put wsL_put) := goodIn_app (goodIn_of _ (by decide +kernel)) ggL_two_L_put
theorem dL_two_0 : decode cL_two 0 = .ok (.aload_n 0, 1) := by decide +kernel
theorem dL_two_1 : decode cL_two 1 = .ok (.aload_n 1, 1) := by decide +kernel
theorem dL_two_2 : decode cL_two 2 = .ok (.bipush 48, 2) := by decide +kernel
theorem dL_two_4 : decode cL_two 4 = .ok (.iload_n 2, 1) := by decide +kernel
theorem dL_two_5 : decode cL_two 5 = .ok (.bipush 10, 2) := by decide +kernel
theorem dL_two_7 : decode cL_two 7 = .ok (.idiv, 1) := by decide +kernel
theorem dL_two_8 : decode cL_two 8 = .ok (.iadd, 1) := by decide +kernel
theorem dL_two_9 : decode cL_two 9 = .ok (.invokestatic 101, 3) := by decide +kernel
theorem dL_two_12 : decode cL_two 12 = .ok (.ifCond .eq 22, 3) := by decide +kernel
theorem dL_two_15 : decode cL_two 15 = .ok (.aload_n 0, 1) := by decide +kernel
theorem dL_two_16 : decode cL_two 16 = .ok (.aload_n 1, 1) := by decide +kernel
theorem dL_two_17 : decode cL_two 17 = .ok (.bipush 48, 2) := by decide +kernel
theorem dL_two_19 : decode cL_two 19 = .ok (.iload_n 2, 1) := by decide +kernel
theorem dL_two_20 : decode cL_two 20 = .ok (.bipush 10, 2) := by decide +kernel
theorem dL_two_22 : decode cL_two 22 = .ok (.irem, 1) := by decide +kernel
theorem dL_two_23 : decode cL_two 23 = .ok (.iadd, 1) := by decide +kernel
theorem dL_two_24 : decode cL_two 24 = .ok (.invokestatic 101, 3) := by decide +kernel
theorem dL_two_27 : decode cL_two 27 = .ok (.ifCond .eq 7, 3) := by decide +kernel
theorem dL_two_30 : decode cL_two 30 = .ok (.iconst 1, 1) := by decide +kernel
theorem dL_two_31 : decode cL_two 31 = .ok (.goto 4, 3) := by decide +kernel
theorem dL_two_34 : decode cL_two 34 = .ok (.iconst 0, 1) := by decide +kernel
theorem dL_two_35 : decode cL_two 35 = .ok (.ireturn, 1) := by decide +kernel
