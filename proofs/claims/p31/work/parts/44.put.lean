/-! the law's method put: its rows and words of its calls -/
set_option maxRecDepth 20000 in
theorem ggL_put_L_tryAppend : GoodIn wsL_put wsL_tryAppend := goodIn_ca (goodIn_ca (goodIn_r _ [4, 5, 6, 7, 8, 9, 10, 11, 12, 13, 14, 15, 16, 17, 18, 19, 20, 21, 22, 23, 24, 25, 26, 27, 28, 29, 30, 31, 32, 33, 34, 35, 36, 37] (by decide +kernel) (by decide +kernel)) (goodIn_sub (fun _ h => List.mem_cons_of_mem _ (List.mem_append_left _ (List.mem_append_right _ h))) (by decide +kernel))) (goodIn_sub (fun _ h => List.mem_cons_of_mem _ (List.mem_append_right _ h)) (by decide +kernel))
set_option maxRecDepth 20000 in
theorem gL_put_L_tryAppend : GoodIn wsL_put (va_wsS RL 95 yL_tryAppend wsL_tryAppend) := goodIn_app (goodIn_of _ (by decide +kernel)) ggL_put_L_tryAppend
theorem dL_put_0 : decode cL_put 0 = .ok (.aload_n 0, 1) := by decide +kernel
theorem dL_put_1 : decode cL_put 1 = .ok (.iload_n 2, 1) := by decide +kernel
theorem dL_put_2 : decode cL_put 2 = .ok (.invokestatic 95, 3) := by decide +kernel
theorem dL_put_5 : decode cL_put 5 = .ok (.ifCond .le 15, 3) := by decide +kernel
theorem dL_put_8 : decode cL_put 8 = .ok (.aload_n 1, 1) := by decide +kernel
theorem dL_put_9 : decode cL_put 9 = .ok (.iload_n 2, 1) := by decide +kernel
theorem dL_put_10 : decode cL_put 10 = .ok (.invokestatic 95, 3) := by decide +kernel
theorem dL_put_13 : decode cL_put 13 = .ok (.ifCond .le 7, 3) := by decide +kernel
theorem dL_put_16 : decode cL_put 16 = .ok (.iconst 1, 1) := by decide +kernel
theorem dL_put_17 : decode cL_put 17 = .ok (.goto 4, 3) := by decide +kernel
theorem dL_put_20 : decode cL_put 20 = .ok (.iconst 0, 1) := by decide +kernel
theorem dL_put_21 : decode cL_put 21 = .ok (.ireturn, 1) := by decide +kernel
