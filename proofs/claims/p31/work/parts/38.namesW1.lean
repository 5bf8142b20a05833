/-! the law: rows of its wrappers -/
set_option maxRecDepth 20000 in
theorem ggL_tryPair_X3_pair : GoodIn wsL_tryPair wsX3_pair := goodIn_ca (goodIn_r _ [7, 8, 9, 10, 11, 12, 13, 6, 14, 15, 16, 17, 18, 19, 20, 21, 22, 23, 24, 25, 26, 27, 28, 29, 30, 31, 32, 33, 34, 35, 36, 37, 38, 39, 40, 41, 42, 43, 44, 45, 46, 47, 48, 49, 50, 51, 52, 53, 54, 55, 56, 57, 58, 59, 60, 61, 62, 63, 64, 65, 66, 67, 68, 69, 70, 71, 72, 73, 74, 75, 76, 77, 78, 79, 80, 81, 82, 83, 84, 85, 86, 87, 88, 89, 90, 91, 92, 93, 94, 95, 96, 97, 98, 99, 100, 101, 102, 103, 104, 105, 106, 107, 108, 109, 110, 111, 112, 113, 114, 115, 116, 117, 118, 119, 120, 121, 122, 123] (by decide +kernel) (by decide +kernel)) (goodIn_sub (fun _ h => List.mem_cons_of_mem _ (List.mem_append_right _ h)) (by decide +kernel))
set_option maxRecDepth 20000 in
theorem gL_tryPair_X3_pair : GoodIn wsL_tryPair (wsV RL 37 RX3 yX3_pair wsX3_pair) := goodIn_app (goodIn_of _ (by decide +kernel)) ggL_tryPair_X3_pair
theorem dL_tryPair_0 : decode cL_tryPair 0 = .ok (.aload_n 0, 1) := by decide +kernel
theorem dL_tryPair_1 : decode cL_tryPair 1 = .ok (.invokevirtual 37, 3) := by decide +kernel
theorem dL_tryPair_4 : decode cL_tryPair 4 = .ok (.ireturn, 1) := by decide +kernel
theorem dL_tryPair_5 : decode cL_tryPair 5 = .ok (.astore_n 1, 1) := by decide +kernel
theorem dL_tryPair_6 : decode cL_tryPair 6 = .ok (.ldc 18, 2) := by decide +kernel
theorem dL_tryPair_8 : decode cL_tryPair 8 = .ok (.ireturn, 1) := by decide +kernel
set_option maxRecDepth 20000 in
theorem ggL_tryPause_X3_pause : GoodIn wsL_tryPause wsX3_pause := goodIn_ca (goodIn_r _ [7, 8, 9, 10, 11, 12, 6, 13, 14, 15, 16, 17, 18, 19, 20, 21, 22, 23, 24, 25, 26, 27, 28, 29, 30, 31, 32, 33, 34, 35, 36, 37, 38, 39, 40, 41, 42, 43, 44, 45, 46, 47, 48, 49, 50, 51, 52, 53, 54, 55, 56, 57, 58, 59, 60, 61, 62, 63, 64, 65, 66, 67, 68, 69, 70, 71, 72, 73, 74, 75, 76, 77, 78, 79, 80, 81, 82, 83, 84, 85, 86, 87, 88, 89, 90, 91, 92, 93, 94, 95, 96, 97] (by decide +kernel) (by decide +kernel)) (goodIn_sub (fun _ h => List.mem_cons_of_mem _ (List.mem_append_right _ h)) (by decide +kernel))
set_option maxRecDepth 20000 in
theorem gL_tryPause_X3_pause : GoodIn wsL_tryPause (wsV RL 40 RX3 yX3_pause wsX3_pause) := goodIn_app (goodIn_of _ (by decide +kernel)) ggL_tryPause_X3_pause
theorem dL_tryPause_0 : decode cL_tryPause 0 = .ok (.aload_n 0, 1) := by decide +kernel
theorem dL_tryPause_1 : decode cL_tryPause 1 = .ok (.iload_n 1, 1) := by decide +kernel
theorem dL_tryPause_2 : decode cL_tryPause 2 = .ok (.invokevirtual 40, 3) := by decide +kernel
theorem dL_tryPause_5 : decode cL_tryPause 5 = .ok (.ireturn, 1) := by decide +kernel
theorem dL_tryPause_6 : decode cL_tryPause 6 = .ok (.astore_n 2, 1) := by decide +kernel
theorem dL_tryPause_7 : decode cL_tryPause 7 = .ok (.ldc 15, 2) := by decide +kernel
theorem dL_tryPause_9 : decode cL_tryPause 9 = .ok (.ireturn, 1) := by decide +kernel
set_option maxRecDepth 20000 in
theorem ggL_trySet_X3_set : GoodIn wsL_trySet wsX3_set := goodIn_ca (goodIn_r _ [7, 8, 9, 10, 11, 12, 13, 14, 15, 16, 6, 17, 18, 19, 20, 21, 22, 23, 24, 25, 26, 27, 28, 29, 30, 31, 32, 33, 34, 35, 36, 37, 38, 39, 40, 41, 42, 43, 44, 45, 46, 47, 48, 49, 50, 51, 52, 53, 54, 55, 56, 57, 58, 59, 60, 61, 62, 63, 64, 65, 66, 67, 68, 69, 70, 71, 72, 73, 74, 75, 76, 77, 78, 79, 80, 81, 82, 83, 84, 85, 86, 87, 88, 89, 90, 91, 92, 93, 94] (by decide +kernel) (by decide +kernel)) (goodIn_sub (fun _ h => List.mem_cons_of_mem _ (List.mem_append_right _ h)) (by decide +kernel))
set_option maxRecDepth 20000 in
theorem gL_trySet_X3_set : GoodIn wsL_trySet (wsV RL 43 RX3 yX3_set wsX3_set) := goodIn_app (goodIn_of _ (by decide +kernel)) ggL_trySet_X3_set
theorem dL_trySet_0 : decode cL_trySet 0 = .ok (.aload_n 0, 1) := by decide +kernel
theorem dL_trySet_1 : decode cL_trySet 1 = .ok (.iload_n 1, 1) := by decide +kernel
theorem dL_trySet_2 : decode cL_trySet 2 = .ok (.iload_n 2, 1) := by decide +kernel
theorem dL_trySet_3 : decode cL_trySet 3 = .ok (.invokevirtual 43, 3) := by decide +kernel
theorem dL_trySet_6 : decode cL_trySet 6 = .ok (.ireturn, 1) := by decide +kernel
theorem dL_trySet_7 : decode cL_trySet 7 = .ok (.astore_n 3, 1) := by decide +kernel
theorem dL_trySet_8 : decode cL_trySet 8 = .ok (.ldc 15, 2) := by decide +kernel
theorem dL_trySet_10 : decode cL_trySet 10 = .ok (.ireturn, 1) := by decide +kernel
set_option maxRecDepth 20000 in
theorem ggL_tryChoose_X3_choose : GoodIn wsL_tryChoose wsX3_choose := goodIn_ca (goodIn_r _ [7, 8, 9, 10, 11, 12, 13, 14, 15, 16, 17, 18, 6, 19, 20, 21, 22, 23, 24, 25, 26, 27, 28, 29, 30, 31, 32, 33, 34, 35, 36, 37, 38, 39, 40, 41, 42, 43, 44, 45, 46, 47, 48, 49, 50, 51, 52, 53, 54, 55, 56, 57, 58, 59, 60, 61, 62, 63, 64, 65, 66, 67, 68, 69, 70, 71, 72, 73, 74, 75, 76, 77, 78, 79, 80, 81] (by decide +kernel) (by decide +kernel)) (goodIn_sub (fun _ h => List.mem_cons_of_mem _ (List.mem_append_right _ h)) (by decide +kernel))
set_option maxRecDepth 20000 in
theorem gL_tryChoose_X3_choose : GoodIn wsL_tryChoose (wsV RL 46 RX3 yX3_choose wsX3_choose) := goodIn_app (goodIn_of _ (by decide +kernel)) ggL_tryChoose_X3_choose
theorem dL_tryChoose_0 : decode cL_tryChoose 0 = .ok (.aload_n 0, 1) := by decide +kernel
theorem dL_tryChoose_1 : decode cL_tryChoose 1 = .ok (.iload_n 1, 1) := by decide +kernel
theorem dL_tryChoose_2 : decode cL_tryChoose 2 = .ok (.invokevirtual 46, 3) := by decide +kernel
theorem dL_tryChoose_5 : decode cL_tryChoose 5 = .ok (.ireturn, 1) := by decide +kernel
theorem dL_tryChoose_6 : decode cL_tryChoose 6 = .ok (.astore_n 2, 1) := by decide +kernel
theorem dL_tryChoose_7 : decode cL_tryChoose 7 = .ok (.ldc 51, 2) := by decide +kernel
theorem dL_tryChoose_9 : decode cL_tryChoose 9 = .ok (.ireturn, 1) := by decide +kernel
set_option maxRecDepth 20000 in
theorem ggL_tryAdd_X3_add : GoodIn wsL_tryAdd wsX3_add := goodIn_ca (goodIn_ca (goodIn_r _ [9, 10, 11, 12, 13, 14, 15, 16, 8, 17, 18, 19, 20, 21, 22, 23, 24, 25, 26, 27, 28, 29, 30, 31, 32, 33, 34, 35, 36, 37, 38, 39, 40, 41, 42, 43, 44, 45, 46, 47, 48, 49, 50, 51, 52, 53, 54, 55, 56, 57, 58, 59, 60, 61, 62, 63, 64, 65, 66, 67, 68, 69, 70, 71, 72, 73, 74, 75, 76, 77, 78, 79, 80, 81, 82, 83, 84, 85, 86, 87, 88] (by decide +kernel) (by decide +kernel)) (goodIn_sub (fun _ h => List.mem_cons_of_mem _ (List.mem_append_left _ (List.mem_append_right _ h))) (by decide +kernel))) (goodIn_sub (fun _ h => List.mem_cons_of_mem _ (List.mem_append_right _ h)) (by decide +kernel))
set_option maxRecDepth 20000 in
theorem gL_tryAdd_X3_add : GoodIn wsL_tryAdd (wsV RL 52 RX3 yX3_add wsX3_add) := goodIn_app (goodIn_of _ (by decide +kernel)) ggL_tryAdd_X3_add
theorem dL_tryAdd_0 : decode cL_tryAdd 0 = .ok (.aload_n 0, 1) := by decide +kernel
theorem dL_tryAdd_1 : decode cL_tryAdd 1 = .ok (.iload_n 1, 1) := by decide +kernel
theorem dL_tryAdd_2 : decode cL_tryAdd 2 = .ok (.invokevirtual 52, 3) := by decide +kernel
theorem dL_tryAdd_5 : decode cL_tryAdd 5 = .ok (.ireturn, 1) := by decide +kernel
theorem dL_tryAdd_6 : decode cL_tryAdd 6 = .ok (.astore_n 2, 1) := by decide +kernel
theorem dL_tryAdd_7 : decode cL_tryAdd 7 = .ok (.ldc 15, 2) := by decide +kernel
theorem dL_tryAdd_9 : decode cL_tryAdd 9 = .ok (.ireturn, 1) := by decide +kernel
theorem dL_tryAdd_10 : decode cL_tryAdd 10 = .ok (.astore_n 2, 1) := by decide +kernel
theorem dL_tryAdd_11 : decode cL_tryAdd 11 = .ok (.ldc 18, 2) := by decide +kernel
theorem dL_tryAdd_13 : decode cL_tryAdd 13 = .ok (.ireturn, 1) := by decide +kernel
set_option maxRecDepth 20000 in
theorem ggL_tryBalance_X3_balance : GoodIn wsL_tryBalance wsX3_balance := goodIn_ca (goodIn_r _ [7, 8, 9, 10, 11, 12, 13, 6, 14, 15, 16, 17, 18, 19, 20, 21, 22, 23, 24, 25, 26, 27, 28, 29, 30, 31, 32, 33, 34, 35, 36, 37, 38, 39, 40, 41, 42, 43, 44, 45, 46, 47, 48, 49, 50, 51, 52, 53, 54, 55, 56, 57, 58, 59, 60, 61, 62, 63, 64, 65, 66, 67, 68, 69, 70, 71, 72, 73, 74, 75, 76, 77, 78, 79, 80, 81, 82, 83, 84, 85, 86, 87, 88, 89, 90, 91, 92, 93, 94, 95, 96, 97, 98, 99, 100, 101, 102, 103, 104, 105, 106, 107, 108, 109, 110, 111, 112, 113, 114, 115, 116, 117, 118, 119, 120, 121, 122, 123, 124, 125, 126, 127] (by decide +kernel) (by decide +kernel)) (goodIn_sub (fun _ h => List.mem_cons_of_mem _ (List.mem_append_right _ h)) (by decide +kernel))
set_option maxRecDepth 20000 in
theorem gL_tryBalance_X3_balance : GoodIn wsL_tryBalance (wsV RL 55 RX3 yX3_balance wsX3_balance) := goodIn_app (goodIn_of _ (by decide +kernel)) ggL_tryBalance_X3_balance
theorem dL_tryBalance_0 : decode cL_tryBalance 0 = .ok (.aload_n 0, 1) := by decide +kernel
theorem dL_tryBalance_1 : decode cL_tryBalance 1 = .ok (.invokevirtual 55, 3) := by decide +kernel
theorem dL_tryBalance_4 : decode cL_tryBalance 4 = .ok (.ireturn, 1) := by decide +kernel
theorem dL_tryBalance_5 : decode cL_tryBalance 5 = .ok (.astore_n 1, 1) := by decide +kernel
theorem dL_tryBalance_6 : decode cL_tryBalance 6 = .ok (.ldc 18, 2) := by decide +kernel
theorem dL_tryBalance_8 : decode cL_tryBalance 8 = .ok (.ireturn, 1) := by decide +kernel
