/-! the law: rows of its wrappers -/
set_option maxRecDepth 20000 in
theorem ggL_undo_X3_undo : GoodIn wsL_undo wsX3_undo := goodIn_ca (goodIn_r _ [6, 7, 8, 9, 10, 11, 12, 13, 14, 5, 15, 16, 17, 18, 19, 20, 21, 22, 23, 24, 25, 26, 27, 28, 29, 30, 31, 32, 33, 34, 35, 36, 37, 38, 39, 40, 41, 42, 43, 44, 45, 46, 47, 48, 49, 50, 51, 52, 53, 54, 55, 56, 57, 58, 59, 60, 61, 62, 63, 64, 65, 66, 67, 68, 69] (by decide +kernel) (by decide +kernel)) (goodIn_sub (fun _ h => List.mem_cons_of_mem _ (List.mem_append_right _ h)) (by decide +kernel))
set_option maxRecDepth 20000 in
theorem gL_undo_X3_undo : GoodIn wsL_undo (wsV RL 55 RX3 yX3_undo wsX3_undo) := goodIn_app (goodIn_of _ (by decide +kernel)) ggL_undo_X3_undo
theorem dL_undo_0 : decode cL_undo 0 = .ok (.aload_n 1, 1) := by decide +kernel
theorem dL_undo_1 : decode cL_undo 1 = .ok (.iconst 0, 1) := by decide +kernel
theorem dL_undo_2 : decode cL_undo 2 = .ok (.aload_n 0, 1) := by decide +kernel
theorem dL_undo_3 : decode cL_undo 3 = .ok (.invokevirtual 55, 3) := by decide +kernel
theorem dL_undo_6 : decode cL_undo 6 = .ok (.i2l, 1) := by decide +kernel
theorem dL_undo_7 : decode cL_undo 7 = .ok (.lastore, 1) := by decide +kernel
theorem dL_undo_8 : decode cL_undo 8 = .ok (.goto 6, 3) := by decide +kernel
theorem dL_undo_11 : decode cL_undo 11 = .ok (.astore_n 2, 1) := by decide +kernel
theorem dL_undo_12 : decode cL_undo 12 = .ok (.iconst 1, 1) := by decide +kernel
theorem dL_undo_13 : decode cL_undo 13 = .ok (.ireturn, 1) := by decide +kernel
theorem dL_undo_14 : decode cL_undo 14 = .ok (.iconst 0, 1) := by decide +kernel
theorem dL_undo_15 : decode cL_undo 15 = .ok (.ireturn, 1) := by decide +kernel
set_option maxRecDepth 20000 in
theorem ggL_value_X3_value : GoodIn wsL_value wsX3_value := goodIn_ca (goodIn_r _ [6, 7, 8, 9, 10, 11, 5, 12, 13, 14, 15, 16, 17, 18, 19, 20, 21, 22, 23, 24, 25, 26, 27, 28, 29, 30, 31, 32, 33, 34, 35, 36, 37, 38, 39, 40, 41, 42] (by decide +kernel) (by decide +kernel)) (goodIn_sub (fun _ h => List.mem_cons_of_mem _ (List.mem_append_right _ h)) (by decide +kernel))
set_option maxRecDepth 20000 in
theorem gL_value_X3_value : GoodIn wsL_value (wsV RL 58 RX3 yX3_value wsX3_value) := goodIn_app (goodIn_of _ (by decide +kernel)) ggL_value_X3_value
theorem dL_value_0 : decode cL_value 0 = .ok (.aload_n 2, 1) := by decide +kernel
theorem dL_value_1 : decode cL_value 1 = .ok (.iconst 0, 1) := by decide +kernel
theorem dL_value_2 : decode cL_value 2 = .ok (.aload_n 0, 1) := by decide +kernel
theorem dL_value_3 : decode cL_value 3 = .ok (.iload_n 1, 1) := by decide +kernel
theorem dL_value_4 : decode cL_value 4 = .ok (.invokevirtual 58, 3) := by decide +kernel
theorem dL_value_7 : decode cL_value 7 = .ok (.i2l, 1) := by decide +kernel
theorem dL_value_8 : decode cL_value 8 = .ok (.lastore, 1) := by decide +kernel
theorem dL_value_9 : decode cL_value 9 = .ok (.goto 6, 3) := by decide +kernel
theorem dL_value_12 : decode cL_value 12 = .ok (.astore_n 3, 1) := by decide +kernel
theorem dL_value_13 : decode cL_value 13 = .ok (.iconst 1, 1) := by decide +kernel
theorem dL_value_14 : decode cL_value 14 = .ok (.ireturn, 1) := by decide +kernel
theorem dL_value_15 : decode cL_value 15 = .ok (.iconst 0, 1) := by decide +kernel
theorem dL_value_16 : decode cL_value 16 = .ok (.ireturn, 1) := by decide +kernel
set_option maxRecDepth 20000 in
theorem ggL_bestR_X3_bestR : GoodIn wsL_bestR wsX3_bestR := goodIn_ca (goodIn_r _ [6, 7, 8, 9, 10, 11, 12, 13, 14, 15, 16, 17, 18, 19, 20, 21, 22, 23, 5, 24, 25, 26, 27, 28, 29, 30, 31, 32, 33, 34, 35, 36, 37, 38, 39, 40, 41, 42, 43, 44, 45, 46, 47, 48, 49, 50, 51, 52, 53, 54, 55] (by decide +kernel) (by decide +kernel)) (goodIn_sub (fun _ h => List.mem_cons_of_mem _ (List.mem_append_right _ h)) (by decide +kernel))
set_option maxRecDepth 20000 in
theorem gL_bestR_X3_bestR : GoodIn wsL_bestR (wsV RL 61 RX3 yX3_bestR wsX3_bestR) := goodIn_app (goodIn_of _ (by decide +kernel)) ggL_bestR_X3_bestR
theorem dL_bestR_0 : decode cL_bestR 0 = .ok (.aload_n 2, 1) := by decide +kernel
theorem dL_bestR_1 : decode cL_bestR 1 = .ok (.iconst 0, 1) := by decide +kernel
theorem dL_bestR_2 : decode cL_bestR 2 = .ok (.aload_n 0, 1) := by decide +kernel
theorem dL_bestR_3 : decode cL_bestR 3 = .ok (.iload_n 1, 1) := by decide +kernel
theorem dL_bestR_4 : decode cL_bestR 4 = .ok (.invokevirtual 61, 3) := by decide +kernel
theorem dL_bestR_7 : decode cL_bestR 7 = .ok (.i2l, 1) := by decide +kernel
theorem dL_bestR_8 : decode cL_bestR 8 = .ok (.lastore, 1) := by decide +kernel
theorem dL_bestR_9 : decode cL_bestR 9 = .ok (.goto 6, 3) := by decide +kernel
theorem dL_bestR_12 : decode cL_bestR 12 = .ok (.astore_n 3, 1) := by decide +kernel
theorem dL_bestR_13 : decode cL_bestR 13 = .ok (.iconst 1, 1) := by decide +kernel
theorem dL_bestR_14 : decode cL_bestR 14 = .ok (.ireturn, 1) := by decide +kernel
theorem dL_bestR_15 : decode cL_bestR 15 = .ok (.iconst 0, 1) := by decide +kernel
theorem dL_bestR_16 : decode cL_bestR 16 = .ok (.ireturn, 1) := by decide +kernel
set_option maxRecDepth 20000 in
theorem ggL_bestArms_X3_bestArms : GoodIn wsL_bestArms wsX3_bestArms := goodIn_ca (goodIn_r _ [6, 7, 8, 9, 10, 11, 12, 13, 14, 15, 16, 17, 18, 19, 20, 5, 21, 22, 23, 24, 25, 26, 27, 28, 29, 30, 31, 32, 33, 34, 35, 36, 37, 38, 39, 40, 41, 42, 43, 44, 45] (by decide +kernel) (by decide +kernel)) (goodIn_sub (fun _ h => List.mem_cons_of_mem _ (List.mem_append_right _ h)) (by decide +kernel))
set_option maxRecDepth 20000 in
theorem gL_bestArms_X3_bestArms : GoodIn wsL_bestArms (wsV RL 64 RX3 yX3_bestArms wsX3_bestArms) := goodIn_app (goodIn_of _ (by decide +kernel)) ggL_bestArms_X3_bestArms
theorem dL_bestArms_0 : decode cL_bestArms 0 = .ok (.aload_n 2, 1) := by decide +kernel
theorem dL_bestArms_1 : decode cL_bestArms 1 = .ok (.iconst 0, 1) := by decide +kernel
theorem dL_bestArms_2 : decode cL_bestArms 2 = .ok (.aload_n 0, 1) := by decide +kernel
theorem dL_bestArms_3 : decode cL_bestArms 3 = .ok (.iload_n 1, 1) := by decide +kernel
theorem dL_bestArms_4 : decode cL_bestArms 4 = .ok (.invokevirtual 64, 3) := by decide +kernel
theorem dL_bestArms_7 : decode cL_bestArms 7 = .ok (.i2l, 1) := by decide +kernel
theorem dL_bestArms_8 : decode cL_bestArms 8 = .ok (.lastore, 1) := by decide +kernel
theorem dL_bestArms_9 : decode cL_bestArms 9 = .ok (.goto 6, 3) := by decide +kernel
theorem dL_bestArms_12 : decode cL_bestArms 12 = .ok (.astore_n 3, 1) := by decide +kernel
theorem dL_bestArms_13 : decode cL_bestArms 13 = .ok (.iconst 1, 1) := by decide +kernel
theorem dL_bestArms_14 : decode cL_bestArms 14 = .ok (.ireturn, 1) := by decide +kernel
theorem dL_bestArms_15 : decode cL_bestArms 15 = .ok (.iconst 0, 1) := by decide +kernel
theorem dL_bestArms_16 : decode cL_bestArms 16 = .ok (.ireturn, 1) := by decide +kernel
set_option maxRecDepth 20000 in
theorem ggL_offsetAfter_X3_offsetAfter : GoodIn wsL_offsetAfter wsX3_offsetAfter := goodIn_ca (goodIn_r _ [6, 7, 8, 9, 10, 11, 5, 12, 13, 14, 15, 16, 17, 18, 19, 20, 21, 22, 23, 24, 25, 26, 27, 28, 29, 30, 31, 32, 33, 34, 35, 36, 37, 38, 39, 40, 41, 42, 43, 44, 45, 46, 47, 48, 49, 50, 51, 52, 53] (by decide +kernel) (by decide +kernel)) (goodIn_sub (fun _ h => List.mem_cons_of_mem _ (List.mem_append_right _ h)) (by decide +kernel))
set_option maxRecDepth 20000 in
theorem gL_offsetAfter_X3_offsetAfter : GoodIn wsL_offsetAfter (wsV RL 67 RX3 yX3_offsetAfter wsX3_offsetAfter) := goodIn_app (goodIn_of _ (by decide +kernel)) ggL_offsetAfter_X3_offsetAfter
theorem dL_offsetAfter_0 : decode cL_offsetAfter 0 = .ok (.aload_n 3, 1) := by decide +kernel
theorem dL_offsetAfter_1 : decode cL_offsetAfter 1 = .ok (.iconst 0, 1) := by decide +kernel
theorem dL_offsetAfter_2 : decode cL_offsetAfter 2 = .ok (.aload_n 0, 1) := by decide +kernel
theorem dL_offsetAfter_3 : decode cL_offsetAfter 3 = .ok (.iload_n 1, 1) := by decide +kernel
theorem dL_offsetAfter_4 : decode cL_offsetAfter 4 = .ok (.iload_n 2, 1) := by decide +kernel
theorem dL_offsetAfter_5 : decode cL_offsetAfter 5 = .ok (.invokevirtual 67, 3) := by decide +kernel
theorem dL_offsetAfter_8 : decode cL_offsetAfter 8 = .ok (.i2l, 1) := by decide +kernel
theorem dL_offsetAfter_9 : decode cL_offsetAfter 9 = .ok (.lastore, 1) := by decide +kernel
theorem dL_offsetAfter_10 : decode cL_offsetAfter 10 = .ok (.goto 7, 3) := by decide +kernel
theorem dL_offsetAfter_13 : decode cL_offsetAfter 13 = .ok (.astore 4, 2) := by decide +kernel
theorem dL_offsetAfter_15 : decode cL_offsetAfter 15 = .ok (.iconst 1, 1) := by decide +kernel
theorem dL_offsetAfter_16 : decode cL_offsetAfter 16 = .ok (.ireturn, 1) := by decide +kernel
theorem dL_offsetAfter_17 : decode cL_offsetAfter 17 = .ok (.iconst 0, 1) := by decide +kernel
theorem dL_offsetAfter_18 : decode cL_offsetAfter 18 = .ok (.ireturn, 1) := by decide +kernel
set_option maxRecDepth 20000 in
theorem ggL_waitFor_X3_waitFor : GoodIn wsL_waitFor wsX3_waitFor := goodIn_ca (goodIn_r _ [6, 7, 8, 9, 10, 11, 5, 12, 13, 14, 15, 16, 17, 18, 19, 20, 21, 22, 23, 24, 25, 26, 27, 28, 29, 30, 31, 32, 33, 34, 35, 36, 37, 38, 39, 40, 41, 42, 43, 44, 45, 46, 47, 48] (by decide +kernel) (by decide +kernel)) (goodIn_sub (fun _ h => List.mem_cons_of_mem _ (List.mem_append_right _ h)) (by decide +kernel))
set_option maxRecDepth 20000 in
theorem gL_waitFor_X3_waitFor : GoodIn wsL_waitFor (wsV RL 70 RX3 yX3_waitFor wsX3_waitFor) := goodIn_app (goodIn_of _ (by decide +kernel)) ggL_waitFor_X3_waitFor
theorem dL_waitFor_0 : decode cL_waitFor 0 = .ok (.aload_n 2, 1) := by decide +kernel
theorem dL_waitFor_1 : decode cL_waitFor 1 = .ok (.iconst 0, 1) := by decide +kernel
theorem dL_waitFor_2 : decode cL_waitFor 2 = .ok (.aload_n 0, 1) := by decide +kernel
theorem dL_waitFor_3 : decode cL_waitFor 3 = .ok (.iload_n 1, 1) := by decide +kernel
theorem dL_waitFor_4 : decode cL_waitFor 4 = .ok (.invokevirtual 70, 3) := by decide +kernel
theorem dL_waitFor_7 : decode cL_waitFor 7 = .ok (.i2l, 1) := by decide +kernel
theorem dL_waitFor_8 : decode cL_waitFor 8 = .ok (.lastore, 1) := by decide +kernel
theorem dL_waitFor_9 : decode cL_waitFor 9 = .ok (.goto 6, 3) := by decide +kernel
theorem dL_waitFor_12 : decode cL_waitFor 12 = .ok (.astore_n 3, 1) := by decide +kernel
theorem dL_waitFor_13 : decode cL_waitFor 13 = .ok (.iconst 1, 1) := by decide +kernel
theorem dL_waitFor_14 : decode cL_waitFor 14 = .ok (.ireturn, 1) := by decide +kernel
theorem dL_waitFor_15 : decode cL_waitFor 15 = .ok (.iconst 0, 1) := by decide +kernel
theorem dL_waitFor_16 : decode cL_waitFor 16 = .ok (.ireturn, 1) := by decide +kernel
