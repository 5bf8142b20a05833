/-! the law: rows of its wrappers -/
set_option maxRecDepth 20000 in
theorem ggL_tryUndo_X3_undo : GoodIn wsL_tryUndo wsX3_undo := goodIn_ca (goodIn_r _ [7, 8, 9, 10, 11, 12, 13, 14, 15, 6, 16, 17, 18, 19, 20, 21, 22, 23, 24, 25, 26, 27, 28, 29, 30, 31, 32, 33, 34, 35, 36, 37, 38, 39, 40, 41, 42, 43, 44, 45, 46, 47, 48, 49, 50, 51, 52, 53, 54, 55, 56, 57, 58, 59, 60, 61, 62, 63, 64, 65, 66, 67, 68, 69, 70] (by decide +kernel) (by decide +kernel)) (goodIn_sub (fun _ h => List.mem_cons_of_mem _ (List.mem_append_right _ h)) (by decide +kernel))
set_option maxRecDepth 20000 in
theorem gL_tryUndo_X3_undo : GoodIn wsL_tryUndo (wsV RL 58 RX3 yX3_undo wsX3_undo) := goodIn_app (goodIn_of _ (by decide +kernel)) ggL_tryUndo_X3_undo
theorem dL_tryUndo_0 : decode cL_tryUndo 0 = .ok (.aload_n 0, 1) := by decide +kernel
theorem dL_tryUndo_1 : decode cL_tryUndo 1 = .ok (.invokevirtual 58, 3) := by decide +kernel
theorem dL_tryUndo_4 : decode cL_tryUndo 4 = .ok (.ireturn, 1) := by decide +kernel
theorem dL_tryUndo_5 : decode cL_tryUndo 5 = .ok (.astore_n 1, 1) := by decide +kernel
theorem dL_tryUndo_6 : decode cL_tryUndo 6 = .ok (.ldc 18, 2) := by decide +kernel
theorem dL_tryUndo_8 : decode cL_tryUndo 8 = .ok (.ireturn, 1) := by decide +kernel
set_option maxRecDepth 20000 in
theorem ggL_tryValue_X3_value : GoodIn wsL_tryValue wsX3_value := goodIn_ca (goodIn_r _ [7, 8, 9, 10, 11, 12, 6, 13, 14, 15, 16, 17, 18, 19, 20, 21, 22, 23, 24, 25, 26, 27, 28, 29, 30, 31, 32, 33, 34, 35, 36, 37, 38, 39, 40, 41, 42, 43] (by decide +kernel) (by decide +kernel)) (goodIn_sub (fun _ h => List.mem_cons_of_mem _ (List.mem_append_right _ h)) (by decide +kernel))
set_option maxRecDepth 20000 in
theorem gL_tryValue_X3_value : GoodIn wsL_tryValue (wsV RL 61 RX3 yX3_value wsX3_value) := goodIn_app (goodIn_of _ (by decide +kernel)) ggL_tryValue_X3_value
theorem dL_tryValue_0 : decode cL_tryValue 0 = .ok (.aload_n 0, 1) := by decide +kernel
theorem dL_tryValue_1 : decode cL_tryValue 1 = .ok (.iload_n 1, 1) := by decide +kernel
theorem dL_tryValue_2 : decode cL_tryValue 2 = .ok (.invokevirtual 61, 3) := by decide +kernel
theorem dL_tryValue_5 : decode cL_tryValue 5 = .ok (.ireturn, 1) := by decide +kernel
theorem dL_tryValue_6 : decode cL_tryValue 6 = .ok (.astore_n 2, 1) := by decide +kernel
theorem dL_tryValue_7 : decode cL_tryValue 7 = .ok (.ldc 15, 2) := by decide +kernel
theorem dL_tryValue_9 : decode cL_tryValue 9 = .ok (.ireturn, 1) := by decide +kernel
set_option maxRecDepth 20000 in
theorem ggL_tryBestR_X3_bestR : GoodIn wsL_tryBestR wsX3_bestR := goodIn_ca (goodIn_r _ [7, 8, 9, 10, 11, 12, 13, 14, 15, 16, 17, 18, 19, 20, 21, 22, 23, 24, 6, 25, 26, 27, 28, 29, 30, 31, 32, 33, 34, 35, 36, 37, 38, 39, 40, 41, 42, 43, 44, 45, 46, 47, 48, 49, 50, 51, 52, 53, 54, 55, 56] (by decide +kernel) (by decide +kernel)) (goodIn_sub (fun _ h => List.mem_cons_of_mem _ (List.mem_append_right _ h)) (by decide +kernel))
set_option maxRecDepth 20000 in
theorem gL_tryBestR_X3_bestR : GoodIn wsL_tryBestR (wsV RL 64 RX3 yX3_bestR wsX3_bestR) := goodIn_app (goodIn_of _ (by decide +kernel)) ggL_tryBestR_X3_bestR
theorem dL_tryBestR_0 : decode cL_tryBestR 0 = .ok (.aload_n 0, 1) := by decide +kernel
theorem dL_tryBestR_1 : decode cL_tryBestR 1 = .ok (.iload_n 1, 1) := by decide +kernel
theorem dL_tryBestR_2 : decode cL_tryBestR 2 = .ok (.invokevirtual 64, 3) := by decide +kernel
theorem dL_tryBestR_5 : decode cL_tryBestR 5 = .ok (.ireturn, 1) := by decide +kernel
theorem dL_tryBestR_6 : decode cL_tryBestR 6 = .ok (.astore_n 2, 1) := by decide +kernel
theorem dL_tryBestR_7 : decode cL_tryBestR 7 = .ok (.ldc 51, 2) := by decide +kernel
theorem dL_tryBestR_9 : decode cL_tryBestR 9 = .ok (.ireturn, 1) := by decide +kernel
set_option maxRecDepth 20000 in
theorem ggL_tryBestArms_X3_bestArms : GoodIn wsL_tryBestArms wsX3_bestArms := goodIn_ca (goodIn_r _ [7, 8, 9, 10, 11, 12, 13, 14, 15, 16, 17, 18, 19, 20, 21, 6, 22, 23, 24, 25, 26, 27, 28, 29, 30, 31, 32, 33, 34, 35, 36, 37, 38, 39, 40, 41, 42, 43, 44, 45, 46] (by decide +kernel) (by decide +kernel)) (goodIn_sub (fun _ h => List.mem_cons_of_mem _ (List.mem_append_right _ h)) (by decide +kernel))
set_option maxRecDepth 20000 in
theorem gL_tryBestArms_X3_bestArms : GoodIn wsL_tryBestArms (wsV RL 67 RX3 yX3_bestArms wsX3_bestArms) := goodIn_app (goodIn_of _ (by decide +kernel)) ggL_tryBestArms_X3_bestArms
theorem dL_tryBestArms_0 : decode cL_tryBestArms 0 = .ok (.aload_n 0, 1) := by decide +kernel
theorem dL_tryBestArms_1 : decode cL_tryBestArms 1 = .ok (.iload_n 1, 1) := by decide +kernel
theorem dL_tryBestArms_2 : decode cL_tryBestArms 2 = .ok (.invokevirtual 67, 3) := by decide +kernel
theorem dL_tryBestArms_5 : decode cL_tryBestArms 5 = .ok (.ireturn, 1) := by decide +kernel
theorem dL_tryBestArms_6 : decode cL_tryBestArms 6 = .ok (.astore_n 2, 1) := by decide +kernel
theorem dL_tryBestArms_7 : decode cL_tryBestArms 7 = .ok (.ldc 51, 2) := by decide +kernel
theorem dL_tryBestArms_9 : decode cL_tryBestArms 9 = .ok (.ireturn, 1) := by decide +kernel
set_option maxRecDepth 20000 in
theorem ggL_tryOffsetAfter_X3_offsetAfter : GoodIn wsL_tryOffsetAfter wsX3_offsetAfter := goodIn_ca (goodIn_r _ [7, 8, 9, 10, 11, 12, 6, 13, 14, 15, 16, 17, 18, 19, 20, 21, 22, 23, 24, 25, 26, 27, 28, 29, 30, 31, 32, 33, 34, 35, 36, 37, 38, 39, 40, 41, 42, 43, 44, 45, 46, 47, 48, 49, 50, 51, 52, 53, 54] (by decide +kernel) (by decide +kernel)) (goodIn_sub (fun _ h => List.mem_cons_of_mem _ (List.mem_append_right _ h)) (by decide +kernel))
set_option maxRecDepth 20000 in
theorem gL_tryOffsetAfter_X3_offsetAfter : GoodIn wsL_tryOffsetAfter (wsV RL 70 RX3 yX3_offsetAfter wsX3_offsetAfter) := goodIn_app (goodIn_of _ (by decide +kernel)) ggL_tryOffsetAfter_X3_offsetAfter
theorem dL_tryOffsetAfter_0 : decode cL_tryOffsetAfter 0 = .ok (.aload_n 0, 1) := by decide +kernel
theorem dL_tryOffsetAfter_1 : decode cL_tryOffsetAfter 1 = .ok (.iload_n 1, 1) := by decide +kernel
theorem dL_tryOffsetAfter_2 : decode cL_tryOffsetAfter 2 = .ok (.iload_n 2, 1) := by decide +kernel
theorem dL_tryOffsetAfter_3 : decode cL_tryOffsetAfter 3 = .ok (.invokevirtual 70, 3) := by decide +kernel
theorem dL_tryOffsetAfter_6 : decode cL_tryOffsetAfter 6 = .ok (.ireturn, 1) := by decide +kernel
theorem dL_tryOffsetAfter_7 : decode cL_tryOffsetAfter 7 = .ok (.astore_n 3, 1) := by decide +kernel
theorem dL_tryOffsetAfter_8 : decode cL_tryOffsetAfter 8 = .ok (.ldc 15, 2) := by decide +kernel
theorem dL_tryOffsetAfter_10 : decode cL_tryOffsetAfter 10 = .ok (.ireturn, 1) := by decide +kernel
set_option maxRecDepth 20000 in
theorem ggL_tryWaitFor_X3_waitFor : GoodIn wsL_tryWaitFor wsX3_waitFor := goodIn_ca (goodIn_r _ [7, 8, 9, 10, 11, 12, 6, 13, 14, 15, 16, 17, 18, 19, 20, 21, 22, 23, 24, 25, 26, 27, 28, 29, 30, 31, 32, 33, 34, 35, 36, 37, 38, 39, 40, 41, 42, 43, 44, 45, 46, 47, 48, 49] (by decide +kernel) (by decide +kernel)) (goodIn_sub (fun _ h => List.mem_cons_of_mem _ (List.mem_append_right _ h)) (by decide +kernel))
set_option maxRecDepth 20000 in
theorem gL_tryWaitFor_X3_waitFor : GoodIn wsL_tryWaitFor (wsV RL 73 RX3 yX3_waitFor wsX3_waitFor) := goodIn_app (goodIn_of _ (by decide +kernel)) ggL_tryWaitFor_X3_waitFor
theorem dL_tryWaitFor_0 : decode cL_tryWaitFor 0 = .ok (.aload_n 0, 1) := by decide +kernel
theorem dL_tryWaitFor_1 : decode cL_tryWaitFor 1 = .ok (.iload_n 1, 1) := by decide +kernel
theorem dL_tryWaitFor_2 : decode cL_tryWaitFor 2 = .ok (.invokevirtual 73, 3) := by decide +kernel
theorem dL_tryWaitFor_5 : decode cL_tryWaitFor 5 = .ok (.ireturn, 1) := by decide +kernel
theorem dL_tryWaitFor_6 : decode cL_tryWaitFor 6 = .ok (.astore_n 2, 1) := by decide +kernel
theorem dL_tryWaitFor_7 : decode cL_tryWaitFor 7 = .ok (.ldc 15, 2) := by decide +kernel
theorem dL_tryWaitFor_9 : decode cL_tryWaitFor 9 = .ok (.ireturn, 1) := by decide +kernel
