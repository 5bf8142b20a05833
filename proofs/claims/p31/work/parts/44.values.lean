/-! the law's method values: its rows and words of its calls -/
set_option maxRecDepth 20000 in
theorem ggL_values_L_tryAbout : GoodIn wsL_values wsL_tryAbout := goodIn_ca (goodIn_r _ [5, 6, 7, 8, 9, 10, 11, 12, 13, 14, 15, 16, 17, 18, 19, 20, 21, 22, 23, 24, 25, 26, 27, 28, 29, 30, 31, 32, 33, 34, 35, 36, 37, 38, 39, 40, 41, 42, 43, 44, 45, 195, 196, 197, 198, 199, 200, 201, 202, 203, 204, 205, 206, 207, 208, 209, 210, 211, 212, 213, 214, 215, 216, 217, 218, 219, 220, 221] (by decide +kernel) (by decide +kernel)) (goodIn_sub (fun _ h => List.mem_cons_of_mem _ (List.mem_append_left _ (List.mem_append_left _ (List.mem_append_right _ h)))) (by decide +kernel))
set_option maxRecDepth 20000 in
theorem gL_values_L_tryAbout : GoodIn wsL_values (va_wsS RL 123 yL_tryAbout wsL_tryAbout) := goodIn_app (goodIn_of _ (by decide +kernel)) ggL_values_L_tryAbout
set_option maxRecDepth 20000 in
theorem ggL_values_L_trySave : GoodIn wsL_values wsL_trySave := goodIn_ca (goodIn_r _ [48, 49, 50, 51, 52, 53, 11, 54, 55, 56, 57, 58, 15, 16, 17, 18, 59, 60, 61, 62, 20, 63, 64, 23, 24, 25, 26, 27, 28, 29, 30, 31, 34, 36, 37, 65, 32, 33, 35, 66, 67, 68, 69, 70, 71, 72, 195, 196, 197, 198, 199, 200, 201, 202, 203, 204, 205, 206, 207, 208, 209, 210, 211, 212, 213, 214, 215, 216, 217, 218, 219, 220, 221] (by decide +kernel) (by decide +kernel)) (goodIn_sub (fun _ h => List.mem_cons_of_mem _ (List.mem_append_left _ (List.mem_append_right _ h))) (by decide +kernel))
set_option maxRecDepth 20000 in
theorem gL_values_L_trySave : GoodIn wsL_values (va_wsS RL 189 yL_trySave wsL_trySave) := goodIn_app (goodIn_of _ (by decide +kernel)) ggL_values_L_trySave
set_option maxRecDepth 20000 in
theorem ggL_values_L_tryBridge : GoodIn wsL_values wsL_tryBridge := goodIn_ca (goodIn_r _ [75, 6, 7, 76, 77, 78, 11, 79, 13, 14, 15, 16, 17, 18, 80, 20, 81, 82, 24, 33, 23, 83, 84, 85, 86, 87, 88, 65, 89, 90, 91, 92, 93, 94, 95, 96, 97, 98, 99, 26, 39, 40, 41, 30, 42, 43, 44, 45, 28, 29, 195, 196, 197, 198, 199, 200, 201, 202, 203, 204, 205, 206, 207, 208, 209, 210, 211, 212, 213, 214, 215, 216, 217, 218] (by decide +kernel) (by decide +kernel)) (goodIn_sub (fun _ h => List.mem_cons_of_mem _ (List.mem_append_left _ (List.mem_append_left _ (List.mem_append_right _ h)))) (by decide +kernel))
set_option maxRecDepth 20000 in
theorem gL_values_L_tryBridge : GoodIn wsL_values (va_wsS RL 132 yL_tryBridge wsL_tryBridge) := goodIn_app (goodIn_of _ (by decide +kernel)) ggL_values_L_tryBridge
set_option maxRecDepth 20000 in
theorem ggL_values_L_tryValue : GoodIn wsL_values wsL_tryValue := goodIn_ca (goodIn_r _ [102, 6, 7, 103, 104, 105, 11, 106, 13, 14, 15, 16, 17, 18, 107, 83, 84, 108, 109, 110, 195, 196, 197, 198, 199, 200, 201, 202, 203, 204, 205, 206, 207, 208, 209, 210, 211, 212, 213, 214, 215, 216, 217, 218] (by decide +kernel) (by decide +kernel)) (goodIn_sub (fun _ h => List.mem_cons_of_mem _ (List.mem_append_left _ (List.mem_append_left _ (List.mem_append_right _ h)))) (by decide +kernel))
set_option maxRecDepth 20000 in
theorem gL_values_L_tryValue : GoodIn wsL_values (va_wsS RL 161 yL_tryValue wsL_tryValue) := goodIn_app (goodIn_of _ (by decide +kernel)) ggL_values_L_tryValue
set_option maxRecDepth 20000 in
theorem ggL_values_L_ohms : GoodIn wsL_values wsL_ohms := goodIn_ca (goodIn_r _ [113, 2, 3, 4, 5, 6, 7, 8, 9, 10, 11, 12, 13, 14, 15, 16, 17, 18, 19, 20, 21, 22, 23, 24, 25, 26, 27, 28, 29, 30, 31, 32, 33, 34, 35, 36, 37, 38, 39, 40, 41, 42, 43, 44, 45, 114, 115, 116, 117, 118, 119, 120, 121, 122, 123, 124, 125, 126, 127, 128, 129, 130, 131, 132, 133, 59, 60, 61, 62, 63, 64, 65, 66, 67, 68, 69, 70, 71, 72, 134, 135, 136, 73, 74, 75, 76, 77, 78, 79, 80, 81, 82, 83, 84, 85, 86, 87, 88, 89, 90, 91, 92, 93, 94, 95, 96, 97, 98, 99, 195, 196, 197, 198, 199, 200, 201, 202, 203, 204, 205, 206, 207, 208, 209, 210, 211, 212, 213, 214, 215, 216, 217, 218, 219, 220, 221] (by decide +kernel) (by decide +kernel)) (goodIn_sub (fun _ h => List.mem_cons_of_mem _ (List.mem_append_left _ (List.mem_append_left _ (List.mem_append_right _ h)))) (by decide +kernel))
set_option maxRecDepth 20000 in
theorem gL_values_L_ohms : GoodIn wsL_values (va_wsS RL 195 yL_ohms wsL_ohms) := goodIn_app (goodIn_of _ (by decide +kernel)) ggL_values_L_ohms
set_option maxRecDepth 20000 in
theorem ggL_values_L_tryBestR : GoodIn wsL_values wsL_tryBestR := goodIn_ca (goodIn_r _ [139, 49, 50, 140, 141, 142, 11, 143, 55, 56, 15, 130, 131, 132, 133, 144, 145, 146, 147, 20, 148, 149, 32, 107, 83, 84, 86, 87, 88, 65, 108, 109, 110, 195, 196, 197, 198, 199, 200, 201, 202, 203, 204, 205, 206, 207, 208, 209, 210, 211, 212, 213, 214, 215, 216, 217, 218] (by decide +kernel) (by decide +kernel)) (goodIn_sub (fun _ h => List.mem_cons_of_mem _ (List.mem_append_left _ (List.mem_append_right _ h))) (by decide +kernel))
set_option maxRecDepth 20000 in
theorem gL_values_L_tryBestR : GoodIn wsL_values (va_wsS RL 164 yL_tryBestR wsL_tryBestR) := goodIn_app (goodIn_of _ (by decide +kernel)) ggL_values_L_tryBestR
set_option maxRecDepth 20000 in
theorem ggL_values_L_trySet : GoodIn wsL_values wsL_trySet := goodIn_ca (goodIn_r _ [116, 6, 7, 117, 118, 119, 11, 120, 13, 14, 15, 121, 20, 122, 123, 124, 125, 126, 127, 128, 129, 130, 131, 132, 133, 59, 60, 61, 62, 63, 64, 23, 24, 25, 26, 27, 28, 29, 30, 31, 34, 36, 37, 65, 32, 33, 35, 66, 67, 68, 69, 70, 71, 72, 19, 21, 22, 38, 39, 40, 41, 42, 43, 44, 45, 134, 135, 136, 195, 196, 197, 198, 199, 200, 201, 202, 203, 204, 205, 206, 207, 208, 209, 210, 211, 212, 213, 214, 215, 216, 217, 218, 219, 220, 221] (by decide +kernel) (by decide +kernel)) (goodIn_sub (fun _ h => List.mem_cons_of_mem _ (List.mem_append_left _ (List.mem_append_left _ (List.mem_append_right _ h)))) (by decide +kernel))
set_option maxRecDepth 20000 in
theorem gL_values_L_trySet : GoodIn wsL_values (va_wsS RL 152 yL_trySet wsL_trySet) := goodIn_app (goodIn_of _ (by decide +kernel)) ggL_values_L_trySet
set_option maxRecDepth 20000 in
theorem ggL_values_L_size : GoodIn wsL_values wsL_size := goodIn_r _ [152] (by decide +kernel) (by decide +kernel)
set_option maxRecDepth 20000 in
theorem gL_values_L_size : GoodIn wsL_values (va_wsS RL 198 yL_size wsL_size) := goodIn_app (goodIn_of _ (by decide +kernel)) ggL_values_L_size
set_option maxRecDepth 20000 in
theorem ggL_values_L_tryRestore : GoodIn wsL_values wsL_tryRestore := goodIn_ca (goodIn_ca (goodIn_r _ [155, 49, 156, 50, 1, 157, 158, 159, 11, 160, 55, 56, 161, 162, 57, 15, 58, 16, 17, 18, 59, 60, 61, 62, 20, 63, 64, 23, 24, 25, 26, 27, 28, 29, 30, 31, 34, 36, 37, 65, 32, 33, 35, 66, 67, 68, 69, 70, 71, 72, 163, 164, 165, 166, 129, 128, 195, 196, 197, 198, 199, 200, 201, 202, 203, 204, 205, 206, 207, 208, 209, 210, 211, 212, 213, 214, 215, 216, 217, 218, 219, 220, 221] (by decide +kernel) (by decide +kernel)) (goodIn_sub (fun _ h => List.mem_cons_of_mem _ (List.mem_append_left _ (List.mem_append_right _ h))) (by decide +kernel))) (goodIn_sub (fun _ h => List.mem_cons_of_mem _ (List.mem_append_right _ h)) (by decide +kernel))
set_option maxRecDepth 20000 in
theorem gL_values_L_tryRestore : GoodIn wsL_values (va_wsS RL 129 yL_tryRestore wsL_tryRestore) := goodIn_app (goodIn_of _ (by decide +kernel)) ggL_values_L_tryRestore
set_option maxRecDepth 20000 in
theorem ggL_values_X3_sensitivity : GoodIn wsL_values wsX3_sensitivity := goodIn_r _ [170, 15, 144, 145, 132, 146, 171, 172, 173, 92, 93, 94, 11, 95, 80, 20, 81, 82, 24, 33, 23, 83, 84, 85, 86, 87, 88, 65, 89, 90, 91, 96, 97, 98, 99, 26, 195, 196, 197, 198, 199, 200, 201, 202, 203, 204, 205, 206, 207, 208, 209, 210, 211, 212, 213, 214, 215, 216, 217, 218] (by decide +kernel) (by decide +kernel)
set_option maxRecDepth 20000 in
theorem gL_values_X3_sensitivity : GoodIn wsL_values (wsV RL 201 RX3 yX3_sensitivity wsX3_sensitivity) := goodIn_app (goodIn_of _ (by decide +kernel)) ggL_values_X3_sensitivity
set_option maxRecDepth 20000 in
theorem ggL_values_L_setBox : GoodIn wsL_values wsL_setBox := goodIn_ca (goodIn_r _ [176, 114, 115, 4, 116, 6, 7, 117, 118, 119, 11, 120, 13, 14, 15, 121, 20, 122, 123, 124, 125, 126, 127, 128, 129, 130, 131, 132, 133, 59, 60, 61, 62, 63, 64, 23, 24, 25, 26, 27, 28, 29, 30, 31, 34, 36, 37, 65, 32, 33, 35, 66, 67, 68, 69, 70, 71, 72, 19, 21, 22, 38, 39, 40, 41, 42, 43, 44, 45, 134, 135, 136, 73, 74, 75, 76, 77, 78, 79, 16, 17, 18, 80, 81, 82, 83, 84, 85, 86, 87, 88, 89, 90, 91, 92, 93, 94, 95, 96, 97, 98, 99, 195, 196, 197, 198, 199, 200, 201, 202, 203, 204, 205, 206, 207, 208, 209, 210, 211, 212, 213, 214, 215, 216, 217, 218, 219, 220, 221] (by decide +kernel) (by decide +kernel)) (goodIn_sub (fun _ h => List.mem_cons_of_mem _ (List.mem_append_left _ (List.mem_append_left _ (List.mem_append_right _ h)))) (by decide +kernel))
set_option maxRecDepth 20000 in
theorem gL_values_L_setBox : GoodIn wsL_values (va_wsS RL 204 yL_setBox wsL_setBox) := goodIn_app (goodIn_of _ (by decide +kernel)) ggL_values_L_setBox
set_option maxRecDepth 20000 in
theorem ggL_values_X3_enoughShunt : GoodIn wsL_values wsX3_enoughShunt := goodIn_r _ [180, 15, 80, 20, 81, 82, 24, 33, 23, 83, 11, 84, 85, 86, 87, 88, 65, 89, 90, 91, 39, 40, 41, 30, 42, 43, 44, 45, 28, 29, 96, 97, 98, 99, 26, 16, 17, 18, 195, 196, 197, 198, 199, 200, 201, 202, 203, 204, 205, 206, 207, 208, 209, 210, 211, 212, 213, 214, 215, 216, 217, 218] (by decide +kernel) (by decide +kernel)
set_option maxRecDepth 20000 in
theorem gL_values_X3_enoughShunt : GoodIn wsL_values (wsV RL 207 RX3 yX3_enoughShunt wsX3_enoughShunt) := goodIn_app (goodIn_of _ (by decide +kernel)) ggL_values_X3_enoughShunt
set_option maxRecDepth 20000 in
theorem ggL_values_L_tryBestArms : GoodIn wsL_values wsL_tryBestArms := goodIn_ca (goodIn_r _ [183, 49, 50, 184, 185, 186, 11, 187, 55, 56, 15, 147, 20, 148, 149, 32, 86, 87, 88, 65, 107, 83, 84, 195, 196, 197, 198, 199, 200, 201, 202, 203, 204, 205, 206, 207, 208, 209, 210, 211, 212, 213, 214, 215, 216, 217, 218] (by decide +kernel) (by decide +kernel)) (goodIn_sub (fun _ h => List.mem_cons_of_mem _ (List.mem_append_left _ (List.mem_append_right _ h))) (by decide +kernel))
set_option maxRecDepth 20000 in
theorem gL_values_L_tryBestArms : GoodIn wsL_values (va_wsS RL 167 yL_tryBestArms wsL_tryBestArms) := goodIn_app (goodIn_of _ (by decide +kernel)) ggL_values_L_tryBestArms
set_option maxRecDepth 20000 in
theorem ggL_values_L_tryUndo : GoodIn wsL_values wsL_tryUndo := goodIn_ca (goodIn_r _ [190, 156, 1, 191, 192, 193, 11, 194, 161, 162, 129, 128, 15, 127, 59, 60, 61, 62, 20, 63, 64, 23, 24, 25, 26, 27, 28, 29, 30, 31, 34, 36, 37, 65, 32, 33, 35, 66, 67, 68, 69, 70, 71, 72, 195, 196, 197, 198, 199, 200, 201, 202, 203, 204, 205, 206, 207, 208, 209, 210, 211, 212, 213, 214, 215, 216, 217, 218, 219, 220, 221] (by decide +kernel) (by decide +kernel)) (goodIn_sub (fun _ h => List.mem_cons_of_mem _ (List.mem_append_right _ h)) (by decide +kernel))
set_option maxRecDepth 20000 in
theorem gL_values_L_tryUndo : GoodIn wsL_values (va_wsS RL 126 yL_tryUndo wsL_tryUndo) := goodIn_app (goodIn_of _ (by decide +kernel)) ggL_values_L_tryUndo
theorem dL_values_0 : decode cL_values 0 = .ok (.aload_n 0, 1) := by decide +kernel
theorem dL_values_1 : decode cL_values 1 = .ok (.bipush 9, 2) := by decide +kernel
theorem dL_values_3 : decode cL_values 3 = .ok (.invokestatic 123, 3) := by decide +kernel
theorem dL_values_6 : decode cL_values 6 = .ok (.istore_n 2, 1) := by decide +kernel
theorem dL_values_7 : decode cL_values 7 = .ok (.aload_n 0, 1) := by decide +kernel
theorem dL_values_8 : decode cL_values 8 = .ok (.iconst 2, 1) := by decide +kernel
theorem dL_values_9 : decode cL_values 9 = .ok (.invokestatic 123, 3) := by decide +kernel
theorem dL_values_12 : decode cL_values 12 = .ok (.istore_n 3, 1) := by decide +kernel
theorem dL_values_13 : decode cL_values 13 = .ok (.aload_n 0, 1) := by decide +kernel
theorem dL_values_14 : decode cL_values 14 = .ok (.iconst 0, 1) := by decide +kernel
theorem dL_values_15 : decode cL_values 15 = .ok (.invokestatic 189, 3) := by decide +kernel
theorem dL_values_18 : decode cL_values 18 = .ok (.iload_n 2, 1) := by decide +kernel
theorem dL_values_19 : decode cL_values 19 = .ok (.if_icmp .ne 160, 3) := by decide +kernel
theorem dL_values_22 : decode cL_values 22 = .ok (.aload_n 0, 1) := by decide +kernel
theorem dL_values_23 : decode cL_values 23 = .ok (.iconst 0, 1) := by decide +kernel
theorem dL_values_24 : decode cL_values 24 = .ok (.invokestatic 132, 3) := by decide +kernel
theorem dL_values_27 : decode cL_values 27 = .ok (.ifCond .ne 7, 3) := by decide +kernel
theorem dL_values_30 : decode cL_values 30 = .ok (.iconst 1, 1) := by decide +kernel
theorem dL_values_31 : decode cL_values 31 = .ok (.goto 4, 3) := by decide +kernel
theorem dL_values_34 : decode cL_values 34 = .ok (.iconst 0, 1) := by decide +kernel
theorem dL_values_35 : decode cL_values 35 = .ok (.aload_n 0, 1) := by decide +kernel
theorem dL_values_36 : decode cL_values 36 = .ok (.iconst 1, 1) := by decide +kernel
theorem dL_values_37 : decode cL_values 37 = .ok (.invokestatic 161, 3) := by decide +kernel
theorem dL_values_40 : decode cL_values 40 = .ok (.aload_n 0, 1) := by decide +kernel
theorem dL_values_41 : decode cL_values 41 = .ok (.iconst 2, 1) := by decide +kernel
theorem dL_values_42 : decode cL_values 42 = .ok (.invokestatic 161, 3) := by decide +kernel
theorem dL_values_45 : decode cL_values 45 = .ok (.if_icmp .ne 19, 3) := by decide +kernel
theorem dL_values_48 : decode cL_values 48 = .ok (.aload_n 0, 1) := by decide +kernel
theorem dL_values_49 : decode cL_values 49 = .ok (.invokestatic 195, 3) := by decide +kernel
theorem dL_values_52 : decode cL_values 52 = .ok (.aload_n 0, 1) := by decide +kernel
theorem dL_values_53 : decode cL_values 53 = .ok (.iconst 1, 1) := by decide +kernel
theorem dL_values_54 : decode cL_values 54 = .ok (.invokestatic 161, 3) := by decide +kernel
theorem dL_values_57 : decode cL_values 57 = .ok (.if_icmp .ne 7, 3) := by decide +kernel
theorem dL_values_60 : decode cL_values 60 = .ok (.iconst 1, 1) := by decide +kernel
theorem dL_values_61 : decode cL_values 61 = .ok (.goto 4, 3) := by decide +kernel
theorem dL_values_64 : decode cL_values 64 = .ok (.iconst 0, 1) := by decide +kernel
theorem dL_values_65 : decode cL_values 65 = .ok (.if_icmp .ne 114, 3) := by decide +kernel
theorem dL_values_68 : decode cL_values 68 = .ok (.aload_n 0, 1) := by decide +kernel
theorem dL_values_69 : decode cL_values 69 = .ok (.iconst 0, 1) := by decide +kernel
theorem dL_values_70 : decode cL_values 70 = .ok (.invokestatic 132, 3) := by decide +kernel
theorem dL_values_73 : decode cL_values 73 = .ok (.ifCond .lt 7, 3) := by decide +kernel
theorem dL_values_76 : decode cL_values 76 = .ok (.iconst 1, 1) := by decide +kernel
theorem dL_values_77 : decode cL_values 77 = .ok (.goto 4, 3) := by decide +kernel
theorem dL_values_80 : decode cL_values 80 = .ok (.iconst 0, 1) := by decide +kernel
theorem dL_values_81 : decode cL_values 81 = .ok (.aload_n 0, 1) := by decide +kernel
theorem dL_values_82 : decode cL_values 82 = .ok (.invokestatic 195, 3) := by decide +kernel
theorem dL_values_85 : decode cL_values 85 = .ok (.aload_n 0, 1) := by decide +kernel
theorem dL_values_86 : decode cL_values 86 = .ok (.iconst 1, 1) := by decide +kernel
theorem dL_values_87 : decode cL_values 87 = .ok (.invokestatic 161, 3) := by decide +kernel
theorem dL_values_90 : decode cL_values 90 = .ok (.if_icmp .lt 7, 3) := by decide +kernel
theorem dL_values_93 : decode cL_values 93 = .ok (.iconst 1, 1) := by decide +kernel
theorem dL_values_94 : decode cL_values 94 = .ok (.goto 4, 3) := by decide +kernel
theorem dL_values_97 : decode cL_values 97 = .ok (.iconst 0, 1) := by decide +kernel
theorem dL_values_98 : decode cL_values 98 = .ok (.if_icmp .ne 81, 3) := by decide +kernel
theorem dL_values_101 : decode cL_values 101 = .ok (.aload_n 0, 1) := by decide +kernel
theorem dL_values_102 : decode cL_values 102 = .ok (.iconst 0, 1) := by decide +kernel
theorem dL_values_103 : decode cL_values 103 = .ok (.invokestatic 132, 3) := by decide +kernel
theorem dL_values_106 : decode cL_values 106 = .ok (.ifCond .gt 7, 3) := by decide +kernel
theorem dL_values_109 : decode cL_values 109 = .ok (.iconst 1, 1) := by decide +kernel
theorem dL_values_110 : decode cL_values 110 = .ok (.goto 4, 3) := by decide +kernel
theorem dL_values_113 : decode cL_values 113 = .ok (.iconst 0, 1) := by decide +kernel
theorem dL_values_114 : decode cL_values 114 = .ok (.aload_n 0, 1) := by decide +kernel
theorem dL_values_115 : decode cL_values 115 = .ok (.invokestatic 195, 3) := by decide +kernel
theorem dL_values_118 : decode cL_values 118 = .ok (.aload_n 0, 1) := by decide +kernel
theorem dL_values_119 : decode cL_values 119 = .ok (.iconst 2, 1) := by decide +kernel
theorem dL_values_120 : decode cL_values 120 = .ok (.invokestatic 161, 3) := by decide +kernel
theorem dL_values_123 : decode cL_values 123 = .ok (.if_icmp .gt 7, 3) := by decide +kernel
theorem dL_values_126 : decode cL_values 126 = .ok (.iconst 1, 1) := by decide +kernel
theorem dL_values_127 : decode cL_values 127 = .ok (.goto 4, 3) := by decide +kernel
theorem dL_values_130 : decode cL_values 130 = .ok (.iconst 0, 1) := by decide +kernel
theorem dL_values_131 : decode cL_values 131 = .ok (.if_icmp .ne 48, 3) := by decide +kernel
theorem dL_values_134 : decode cL_values 134 = .ok (.aload_n 0, 1) := by decide +kernel
theorem dL_values_135 : decode cL_values 135 = .ok (.iconst 2, 1) := by decide +kernel
theorem dL_values_136 : decode cL_values 136 = .ok (.invokestatic 161, 3) := by decide +kernel
theorem dL_values_139 : decode cL_values 139 = .ok (.aload_n 0, 1) := by decide +kernel
theorem dL_values_140 : decode cL_values 140 = .ok (.iconst 0, 1) := by decide +kernel
theorem dL_values_141 : decode cL_values 141 = .ok (.invokestatic 161, 3) := by decide +kernel
theorem dL_values_144 : decode cL_values 144 = .ok (.if_icmp .gt 35, 3) := by decide +kernel
theorem dL_values_147 : decode cL_values 147 = .ok (.aload_n 0, 1) := by decide +kernel
theorem dL_values_148 : decode cL_values 148 = .ok (.iconst 0, 1) := by decide +kernel
theorem dL_values_149 : decode cL_values 149 = .ok (.invokestatic 161, 3) := by decide +kernel
theorem dL_values_152 : decode cL_values 152 = .ok (.aload_n 0, 1) := by decide +kernel
theorem dL_values_153 : decode cL_values 153 = .ok (.iconst 1, 1) := by decide +kernel
theorem dL_values_154 : decode cL_values 154 = .ok (.invokestatic 161, 3) := by decide +kernel
theorem dL_values_157 : decode cL_values 157 = .ok (.if_icmp .gt 22, 3) := by decide +kernel
theorem dL_values_160 : decode cL_values 160 = .ok (.aload_n 0, 1) := by decide +kernel
theorem dL_values_161 : decode cL_values 161 = .ok (.iconst 1, 1) := by decide +kernel
theorem dL_values_162 : decode cL_values 162 = .ok (.invokestatic 161, 3) := by decide +kernel
theorem dL_values_165 : decode cL_values 165 = .ok (.aload_n 0, 1) := by decide +kernel
theorem dL_values_166 : decode cL_values 166 = .ok (.iconst 2, 1) := by decide +kernel
theorem dL_values_167 : decode cL_values 167 = .ok (.invokestatic 161, 3) := by decide +kernel
theorem dL_values_170 : decode cL_values 170 = .ok (.isub, 1) := by decide +kernel
theorem dL_values_171 : decode cL_values 171 = .ok (.iconst 1, 1) := by decide +kernel
theorem dL_values_172 : decode cL_values 172 = .ok (.if_icmp .gt 7, 3) := by decide +kernel
theorem dL_values_175 : decode cL_values 175 = .ok (.iconst 1, 1) := by decide +kernel
theorem dL_values_176 : decode cL_values 176 = .ok (.goto 4, 3) := by decide +kernel
theorem dL_values_179 : decode cL_values 179 = .ok (.iconst 0, 1) := by decide +kernel
theorem dL_values_180 : decode cL_values 180 = .ok (.istore 4, 2) := by decide +kernel
theorem dL_values_182 : decode cL_values 182 = .ok (.aload_n 0, 1) := by decide +kernel
theorem dL_values_183 : decode cL_values 183 = .ok (.bipush 11, 2) := by decide +kernel
theorem dL_values_185 : decode cL_values 185 = .ok (.invokestatic 123, 3) := by decide +kernel
theorem dL_values_188 : decode cL_values 188 = .ok (.istore 5, 2) := by decide +kernel
theorem dL_values_190 : decode cL_values 190 = .ok (.aload_n 0, 1) := by decide +kernel
theorem dL_values_191 : decode cL_values 191 = .ok (.iload 5, 2) := by decide +kernel
theorem dL_values_193 : decode cL_values 193 = .ok (.invokestatic 164, 3) := by decide +kernel
theorem dL_values_196 : decode cL_values 196 = .ok (.istore 6, 2) := by decide +kernel
theorem dL_values_198 : decode cL_values 198 = .ok (.iload 4, 2) := by decide +kernel
theorem dL_values_200 : decode cL_values 200 = .ok (.ifCond .eq 18, 3) := by decide +kernel
theorem dL_values_203 : decode cL_values 203 = .ok (.aload_n 0, 1) := by decide +kernel
theorem dL_values_204 : decode cL_values 204 = .ok (.iconst 2, 1) := by decide +kernel
theorem dL_values_205 : decode cL_values 205 = .ok (.iload 6, 2) := by decide +kernel
theorem dL_values_207 : decode cL_values 207 = .ok (.invokestatic 152, 3) := by decide +kernel
theorem dL_values_210 : decode cL_values 210 = .ok (.iload_n 3, 1) := by decide +kernel
theorem dL_values_211 : decode cL_values 211 = .ok (.if_icmp .ne 7, 3) := by decide +kernel
theorem dL_values_214 : decode cL_values 214 = .ok (.iconst 1, 1) := by decide +kernel
theorem dL_values_215 : decode cL_values 215 = .ok (.goto 4, 3) := by decide +kernel
theorem dL_values_218 : decode cL_values 218 = .ok (.iconst 0, 1) := by decide +kernel
theorem dL_values_219 : decode cL_values 219 = .ok (.istore 4, 2) := by decide +kernel
theorem dL_values_221 : decode cL_values 221 = .ok (.aload_n 0, 1) := by decide +kernel
theorem dL_values_222 : decode cL_values 222 = .ok (.iconst 0, 1) := by decide +kernel
theorem dL_values_223 : decode cL_values 223 = .ok (.invokestatic 132, 3) := by decide +kernel
theorem dL_values_226 : decode cL_values 226 = .ok (.invokestatic 198, 3) := by decide +kernel
theorem dL_values_229 : decode cL_values 229 = .ok (.istore 7, 2) := by decide +kernel
theorem dL_values_231 : decode cL_values 231 = .ok (.iload 4, 2) := by decide +kernel
theorem dL_values_233 : decode cL_values 233 = .ok (.ifCond .eq 105, 3) := by decide +kernel
theorem dL_values_236 : decode cL_values 236 = .ok (.iload 6, 2) := by decide +kernel
theorem dL_values_238 : decode cL_values 238 = .ok (.ifCond .eq 28, 3) := by decide +kernel
theorem dL_values_241 : decode cL_values 241 = .ok (.aload_n 0, 1) := by decide +kernel
theorem dL_values_242 : decode cL_values 242 = .ok (.iconst 2, 1) := by decide +kernel
theorem dL_values_243 : decode cL_values 243 = .ok (.iload 6, 2) := by decide +kernel
theorem dL_values_245 : decode cL_values 245 = .ok (.iconst 1, 1) := by decide +kernel
theorem dL_values_246 : decode cL_values 246 = .ok (.isub, 1) := by decide +kernel
theorem dL_values_247 : decode cL_values 247 = .ok (.invokestatic 152, 3) := by decide +kernel
theorem dL_values_250 : decode cL_values 250 = .ok (.ifCond .lt 88, 3) := by decide +kernel
theorem dL_values_253 : decode cL_values 253 = .ok (.aload_n 0, 1) := by decide +kernel
theorem dL_values_254 : decode cL_values 254 = .ok (.iconst 0, 1) := by decide +kernel
theorem dL_values_255 : decode cL_values 255 = .ok (.invokestatic 132, 3) := by decide +kernel
theorem dL_values_258 : decode cL_values 258 = .ok (.invokestatic 198, 3) := by decide +kernel
theorem dL_values_261 : decode cL_values 261 = .ok (.iload 7, 2) := by decide +kernel
theorem dL_values_263 : decode cL_values 263 = .ok (.if_icmp .le 75, 3) := by decide +kernel
theorem dL_values_266 : decode cL_values 266 = .ok (.iload 6, 2) := by decide +kernel
theorem dL_values_268 : decode cL_values 268 = .ok (.sipush 9999, 3) := by decide +kernel
theorem dL_values_271 : decode cL_values 271 = .ok (.if_icmp .eq 28, 3) := by decide +kernel
theorem dL_values_274 : decode cL_values 274 = .ok (.aload_n 0, 1) := by decide +kernel
theorem dL_values_275 : decode cL_values 275 = .ok (.iconst 2, 1) := by decide +kernel
theorem dL_values_276 : decode cL_values 276 = .ok (.iload 6, 2) := by decide +kernel
theorem dL_values_278 : decode cL_values 278 = .ok (.iconst 1, 1) := by decide +kernel
theorem dL_values_279 : decode cL_values 279 = .ok (.iadd, 1) := by decide +kernel
theorem dL_values_280 : decode cL_values 280 = .ok (.invokestatic 152, 3) := by decide +kernel
theorem dL_values_283 : decode cL_values 283 = .ok (.ifCond .lt 55, 3) := by decide +kernel
theorem dL_values_286 : decode cL_values 286 = .ok (.aload_n 0, 1) := by decide +kernel
theorem dL_values_287 : decode cL_values 287 = .ok (.iconst 0, 1) := by decide +kernel
theorem dL_values_288 : decode cL_values 288 = .ok (.invokestatic 132, 3) := by decide +kernel
theorem dL_values_291 : decode cL_values 291 = .ok (.invokestatic 198, 3) := by decide +kernel
theorem dL_values_294 : decode cL_values 294 = .ok (.iload 7, 2) := by decide +kernel
theorem dL_values_296 : decode cL_values 296 = .ok (.if_icmp .lt 42, 3) := by decide +kernel
theorem dL_values_299 : decode cL_values 299 = .ok (.aload_n 0, 1) := by decide +kernel
theorem dL_values_300 : decode cL_values 300 = .ok (.iconst 2, 1) := by decide +kernel
theorem dL_values_301 : decode cL_values 301 = .ok (.iload_n 1, 1) := by decide +kernel
theorem dL_values_302 : decode cL_values 302 = .ok (.sipush 10000, 3) := by decide +kernel
theorem dL_values_305 : decode cL_values 305 = .ok (.irem, 1) := by decide +kernel
theorem dL_values_306 : decode cL_values 306 = .ok (.invokestatic 152, 3) := by decide +kernel
theorem dL_values_309 : decode cL_values 309 = .ok (.ifCond .lt 29, 3) := by decide +kernel
theorem dL_values_312 : decode cL_values 312 = .ok (.aload_n 0, 1) := by decide +kernel
theorem dL_values_313 : decode cL_values 313 = .ok (.iconst 0, 1) := by decide +kernel
theorem dL_values_314 : decode cL_values 314 = .ok (.invokestatic 132, 3) := by decide +kernel
theorem dL_values_317 : decode cL_values 317 = .ok (.invokestatic 198, 3) := by decide +kernel
theorem dL_values_320 : decode cL_values 320 = .ok (.iload 7, 2) := by decide +kernel
theorem dL_values_322 : decode cL_values 322 = .ok (.if_icmp .lt 16, 3) := by decide +kernel
theorem dL_values_325 : decode cL_values 325 = .ok (.aload_n 0, 1) := by decide +kernel
theorem dL_values_326 : decode cL_values 326 = .ok (.iconst 0, 1) := by decide +kernel
theorem dL_values_327 : decode cL_values 327 = .ok (.invokestatic 129, 3) := by decide +kernel
theorem dL_values_330 : decode cL_values 330 = .ok (.iload_n 2, 1) := by decide +kernel
theorem dL_values_331 : decode cL_values 331 = .ok (.if_icmp .ne 7, 3) := by decide +kernel
theorem dL_values_334 : decode cL_values 334 = .ok (.iconst 1, 1) := by decide +kernel
theorem dL_values_335 : decode cL_values 335 = .ok (.goto 4, 3) := by decide +kernel
theorem dL_values_338 : decode cL_values 338 = .ok (.iconst 0, 1) := by decide +kernel
theorem dL_values_339 : decode cL_values 339 = .ok (.istore 4, 2) := by decide +kernel
theorem dL_values_341 : decode cL_values 341 = .ok (.aload_n 0, 1) := by decide +kernel
theorem dL_values_342 : decode cL_values 342 = .ok (.invokevirtual 201, 3) := by decide +kernel
theorem dL_values_345 : decode cL_values 345 = .ok (.istore 8, 2) := by decide +kernel
theorem dL_values_347 : decode cL_values 347 = .ok (.aload_n 0, 1) := by decide +kernel
theorem dL_values_348 : decode cL_values 348 = .ok (.iconst 2, 1) := by decide +kernel
theorem dL_values_349 : decode cL_values 349 = .ok (.invokestatic 132, 3) := by decide +kernel
theorem dL_values_352 : decode cL_values 352 = .ok (.istore 9, 2) := by decide +kernel
theorem dL_values_354 : decode cL_values 354 = .ok (.iload_n 3, 1) := by decide +kernel
theorem dL_values_355 : decode cL_values 355 = .ok (.sipush 9999, 3) := by decide +kernel
theorem dL_values_358 : decode cL_values 358 = .ok (.if_icmp .ne 8, 3) := by decide +kernel
theorem dL_values_361 : decode cL_values 361 = .ok (.iload 9, 2) := by decide +kernel
theorem dL_values_363 : decode cL_values 363 = .ok (.goto 10, 3) := by decide +kernel
theorem dL_values_366 : decode cL_values 366 = .ok (.aload_n 0, 1) := by decide +kernel
theorem dL_values_367 : decode cL_values 367 = .ok (.iload_n 3, 1) := by decide +kernel
theorem dL_values_368 : decode cL_values 368 = .ok (.iconst 1, 1) := by decide +kernel
theorem dL_values_369 : decode cL_values 369 = .ok (.iadd, 1) := by decide +kernel
theorem dL_values_370 : decode cL_values 370 = .ok (.invokestatic 204, 3) := by decide +kernel
theorem dL_values_373 : decode cL_values 373 = .ok (.istore 10, 2) := by decide +kernel
theorem dL_values_375 : decode cL_values 375 = .ok (.iload_n 3, 1) := by decide +kernel
theorem dL_values_376 : decode cL_values 376 = .ok (.ifCond .ne 8, 3) := by decide +kernel
theorem dL_values_379 : decode cL_values 379 = .ok (.iload 9, 2) := by decide +kernel
theorem dL_values_381 : decode cL_values 381 = .ok (.goto 10, 3) := by decide +kernel
theorem dL_values_384 : decode cL_values 384 = .ok (.aload_n 0, 1) := by decide +kernel
theorem dL_values_385 : decode cL_values 385 = .ok (.iload_n 3, 1) := by decide +kernel
theorem dL_values_386 : decode cL_values 386 = .ok (.iconst 1, 1) := by decide +kernel
theorem dL_values_387 : decode cL_values 387 = .ok (.isub, 1) := by decide +kernel
theorem dL_values_388 : decode cL_values 388 = .ok (.invokestatic 204, 3) := by decide +kernel
theorem dL_values_391 : decode cL_values 391 = .ok (.istore 11, 2) := by decide +kernel
theorem dL_values_393 : decode cL_values 393 = .ok (.iload 4, 2) := by decide +kernel
theorem dL_values_395 : decode cL_values 395 = .ok (.ifCond .eq 59, 3) := by decide +kernel
theorem dL_values_398 : decode cL_values 398 = .ok (.aload_n 0, 1) := by decide +kernel
theorem dL_values_399 : decode cL_values 399 = .ok (.iconst 0, 1) := by decide +kernel
theorem dL_values_400 : decode cL_values 400 = .ok (.invokestatic 129, 3) := by decide +kernel
theorem dL_values_403 : decode cL_values 403 = .ok (.iload_n 2, 1) := by decide +kernel
theorem dL_values_404 : decode cL_values 404 = .ok (.if_icmp .ne 50, 3) := by decide +kernel
theorem dL_values_407 : decode cL_values 407 = .ok (.iload 8, 2) := by decide +kernel
theorem dL_values_409 : decode cL_values 409 = .ok (.iload 10, 2) := by decide +kernel
theorem dL_values_411 : decode cL_values 411 = .ok (.iload 9, 2) := by decide +kernel
theorem dL_values_413 : decode cL_values 413 = .ok (.isub, 1) := by decide +kernel
theorem dL_values_414 : decode cL_values 414 = .ok (.invokestatic 198, 3) := by decide +kernel
theorem dL_values_417 : decode cL_values 417 = .ok (.iload 11, 2) := by decide +kernel
theorem dL_values_419 : decode cL_values 419 = .ok (.iload 9, 2) := by decide +kernel
theorem dL_values_421 : decode cL_values 421 = .ok (.isub, 1) := by decide +kernel
theorem dL_values_422 : decode cL_values 422 = .ok (.invokestatic 198, 3) := by decide +kernel
theorem dL_values_425 : decode cL_values 425 = .ok (.if_icmp .le 14, 3) := by decide +kernel
theorem dL_values_428 : decode cL_values 428 = .ok (.iload 10, 2) := by decide +kernel
theorem dL_values_430 : decode cL_values 430 = .ok (.iload 9, 2) := by decide +kernel
theorem dL_values_432 : decode cL_values 432 = .ok (.isub, 1) := by decide +kernel
theorem dL_values_433 : decode cL_values 433 = .ok (.invokestatic 198, 3) := by decide +kernel
theorem dL_values_436 : decode cL_values 436 = .ok (.goto 11, 3) := by decide +kernel
theorem dL_values_439 : decode cL_values 439 = .ok (.iload 11, 2) := by decide +kernel
theorem dL_values_441 : decode cL_values 441 = .ok (.iload 9, 2) := by decide +kernel
theorem dL_values_443 : decode cL_values 443 = .ok (.isub, 1) := by decide +kernel
theorem dL_values_444 : decode cL_values 444 = .ok (.invokestatic 198, 3) := by decide +kernel
theorem dL_values_447 : decode cL_values 447 = .ok (.if_icmp .ne 7, 3) := by decide +kernel
theorem dL_values_450 : decode cL_values 450 = .ok (.iconst 1, 1) := by decide +kernel
theorem dL_values_451 : decode cL_values 451 = .ok (.goto 4, 3) := by decide +kernel
theorem dL_values_454 : decode cL_values 454 = .ok (.iconst 0, 1) := by decide +kernel
theorem dL_values_455 : decode cL_values 455 = .ok (.istore 4, 2) := by decide +kernel
theorem dL_values_457 : decode cL_values 457 = .ok (.aload_n 0, 1) := by decide +kernel
theorem dL_values_458 : decode cL_values 458 = .ok (.invokevirtual 207, 3) := by decide +kernel
theorem dL_values_461 : decode cL_values 461 = .ok (.istore 12, 2) := by decide +kernel
theorem dL_values_463 : decode cL_values 463 = .ok (.iconst 0, 1) := by decide +kernel
theorem dL_values_464 : decode cL_values 464 = .ok (.istore 13, 2) := by decide +kernel
theorem dL_values_466 : decode cL_values 466 = .ok (.iload 13, 2) := by decide +kernel
theorem dL_values_468 : decode cL_values 468 = .ok (.iconst 4, 1) := by decide +kernel
theorem dL_values_469 : decode cL_values 469 = .ok (.if_icmp .ge 110, 3) := by decide +kernel
theorem dL_values_472 : decode cL_values 472 = .ok (.iload 4, 2) := by decide +kernel
theorem dL_values_474 : decode cL_values 474 = .ok (.ifCond .eq 105, 3) := by decide +kernel
theorem dL_values_477 : decode cL_values 477 = .ok (.aload_n 0, 1) := by decide +kernel
theorem dL_values_478 : decode cL_values 478 = .ok (.iconst 4, 1) := by decide +kernel
theorem dL_values_479 : decode cL_values 479 = .ok (.iload 13, 2) := by decide +kernel
theorem dL_values_481 : decode cL_values 481 = .ok (.invokestatic 152, 3) := by decide +kernel
theorem dL_values_484 : decode cL_values 484 = .ok (.ifCond .lt 7, 3) := by decide +kernel
theorem dL_values_487 : decode cL_values 487 = .ok (.iconst 1, 1) := by decide +kernel
theorem dL_values_488 : decode cL_values 488 = .ok (.goto 4, 3) := by decide +kernel
theorem dL_values_491 : decode cL_values 491 = .ok (.iconst 0, 1) := by decide +kernel
theorem dL_values_492 : decode cL_values 492 = .ok (.istore 4, 2) := by decide +kernel
theorem dL_values_494 : decode cL_values 494 = .ok (.aload_n 0, 1) := by decide +kernel
theorem dL_values_495 : decode cL_values 495 = .ok (.iconst 3, 1) := by decide +kernel
theorem dL_values_496 : decode cL_values 496 = .ok (.invokestatic 132, 3) := by decide +kernel
theorem dL_values_499 : decode cL_values 499 = .ok (.invokestatic 198, 3) := by decide +kernel
theorem dL_values_502 : decode cL_values 502 = .ok (.sipush 500, 3) := by decide +kernel
theorem dL_values_505 : decode cL_values 505 = .ok (.if_icmp .gt 21, 3) := by decide +kernel
theorem dL_values_508 : decode cL_values 508 = .ok (.aload_n 0, 1) := by decide +kernel
theorem dL_values_509 : decode cL_values 509 = .ok (.iconst 4, 1) := by decide +kernel
theorem dL_values_510 : decode cL_values 510 = .ok (.invokestatic 132, 3) := by decide +kernel
theorem dL_values_513 : decode cL_values 513 = .ok (.invokestatic 198, 3) := by decide +kernel
theorem dL_values_516 : decode cL_values 516 = .ok (.sipush 500, 3) := by decide +kernel
theorem dL_values_519 : decode cL_values 519 = .ok (.if_icmp .gt 7, 3) := by decide +kernel
theorem dL_values_522 : decode cL_values 522 = .ok (.iconst 1, 1) := by decide +kernel
theorem dL_values_523 : decode cL_values 523 = .ok (.goto 4, 3) := by decide +kernel
theorem dL_values_526 : decode cL_values 526 = .ok (.iconst 0, 1) := by decide +kernel
theorem dL_values_527 : decode cL_values 527 = .ok (.istore 14, 2) := by decide +kernel
theorem dL_values_529 : decode cL_values 529 = .ok (.iload 4, 2) := by decide +kernel
theorem dL_values_531 : decode cL_values 531 = .ok (.ifCond .eq 39, 3) := by decide +kernel
theorem dL_values_534 : decode cL_values 534 = .ok (.iload 12, 2) := by decide +kernel
theorem dL_values_536 : decode cL_values 536 = .ok (.iload 13, 2) := by decide +kernel
theorem dL_values_538 : decode cL_values 538 = .ok (.if_icmp .ne 8, 3) := by decide +kernel
theorem dL_values_541 : decode cL_values 541 = .ok (.iload 14, 2) := by decide +kernel
theorem dL_values_543 : decode cL_values 543 = .ok (.ifCond .eq 27, 3) := by decide +kernel
theorem dL_values_546 : decode cL_values 546 = .ok (.iload 14, 2) := by decide +kernel
theorem dL_values_548 : decode cL_values 548 = .ok (.ifCond .eq 18, 3) := by decide +kernel
theorem dL_values_551 : decode cL_values 551 = .ok (.iload 12, 2) := by decide +kernel
theorem dL_values_553 : decode cL_values 553 = .ok (.sipush (-9999), 3) := by decide +kernel
theorem dL_values_556 : decode cL_values 556 = .ok (.if_icmp .eq 14, 3) := by decide +kernel
theorem dL_values_559 : decode cL_values 559 = .ok (.iload 12, 2) := by decide +kernel
theorem dL_values_561 : decode cL_values 561 = .ok (.iload 13, 2) := by decide +kernel
theorem dL_values_563 : decode cL_values 563 = .ok (.if_icmp .gt 7, 3) := by decide +kernel
theorem dL_values_566 : decode cL_values 566 = .ok (.iconst 1, 1) := by decide +kernel
theorem dL_values_567 : decode cL_values 567 = .ok (.goto 4, 3) := by decide +kernel
theorem dL_values_570 : decode cL_values 570 = .ok (.iconst 0, 1) := by decide +kernel
theorem dL_values_571 : decode cL_values 571 = .ok (.istore 4, 2) := by decide +kernel
theorem dL_values_573 : decode cL_values 573 = .ok (.iinc 13 1, 3) := by decide +kernel
theorem dL_values_576 : decode cL_values 576 = .ok (.goto (-110), 3) := by decide +kernel
theorem dL_values_579 : decode cL_values 579 = .ok (.aload_n 0, 1) := by decide +kernel
theorem dL_values_580 : decode cL_values 580 = .ok (.iload 5, 2) := by decide +kernel
theorem dL_values_582 : decode cL_values 582 = .ok (.invokestatic 167, 3) := by decide +kernel
theorem dL_values_585 : decode cL_values 585 = .ok (.istore 13, 2) := by decide +kernel
theorem dL_values_587 : decode cL_values 587 = .ok (.iload 4, 2) := by decide +kernel
theorem dL_values_589 : decode cL_values 589 = .ok (.ifCond .eq 42, 3) := by decide +kernel
theorem dL_values_592 : decode cL_values 592 = .ok (.aload_n 0, 1) := by decide +kernel
theorem dL_values_593 : decode cL_values 593 = .ok (.iconst 0, 1) := by decide +kernel
theorem dL_values_594 : decode cL_values 594 = .ok (.invokestatic 129, 3) := by decide +kernel
theorem dL_values_597 : decode cL_values 597 = .ok (.iload_n 2, 1) := by decide +kernel
theorem dL_values_598 : decode cL_values 598 = .ok (.if_icmp .ne 33, 3) := by decide +kernel
theorem dL_values_601 : decode cL_values 601 = .ok (.aload_n 0, 1) := by decide +kernel
theorem dL_values_602 : decode cL_values 602 = .ok (.iconst 0, 1) := by decide +kernel
theorem dL_values_603 : decode cL_values 603 = .ok (.iload 13, 2) := by decide +kernel
theorem dL_values_605 : decode cL_values 605 = .ok (.bipush 10, 2) := by decide +kernel
theorem dL_values_607 : decode cL_values 607 = .ok (.idiv, 1) := by decide +kernel
theorem dL_values_608 : decode cL_values 608 = .ok (.invokestatic 152, 3) := by decide +kernel
theorem dL_values_611 : decode cL_values 611 = .ok (.ifCond .lt 20, 3) := by decide +kernel
theorem dL_values_614 : decode cL_values 614 = .ok (.aload_n 0, 1) := by decide +kernel
theorem dL_values_615 : decode cL_values 615 = .ok (.iconst 1, 1) := by decide +kernel
theorem dL_values_616 : decode cL_values 616 = .ok (.iload 13, 2) := by decide +kernel
theorem dL_values_618 : decode cL_values 618 = .ok (.bipush 10, 2) := by decide +kernel
theorem dL_values_620 : decode cL_values 620 = .ok (.irem, 1) := by decide +kernel
theorem dL_values_621 : decode cL_values 621 = .ok (.invokestatic 152, 3) := by decide +kernel
theorem dL_values_624 : decode cL_values 624 = .ok (.ifCond .lt 7, 3) := by decide +kernel
theorem dL_values_627 : decode cL_values 627 = .ok (.iconst 1, 1) := by decide +kernel
theorem dL_values_628 : decode cL_values 628 = .ok (.goto 4, 3) := by decide +kernel
theorem dL_values_631 : decode cL_values 631 = .ok (.iconst 0, 1) := by decide +kernel
theorem dL_values_632 : decode cL_values 632 = .ok (.istore 4, 2) := by decide +kernel
theorem dL_values_634 : decode cL_values 634 = .ok (.iload 13, 2) := by decide +kernel
theorem dL_values_636 : decode cL_values 636 = .ok (.bipush 10, 2) := by decide +kernel
theorem dL_values_638 : decode cL_values 638 = .ok (.idiv, 1) := by decide +kernel
theorem dL_values_639 : decode cL_values 639 = .ok (.ifCond .ne 7, 3) := by decide +kernel
theorem dL_values_642 : decode cL_values 642 = .ok (.iconst 1, 1) := by decide +kernel
theorem dL_values_643 : decode cL_values 643 = .ok (.goto 34, 3) := by decide +kernel
theorem dL_values_646 : decode cL_values 646 = .ok (.iload 13, 2) := by decide +kernel
theorem dL_values_648 : decode cL_values 648 = .ok (.bipush 10, 2) := by decide +kernel
theorem dL_values_650 : decode cL_values 650 = .ok (.idiv, 1) := by decide +kernel
theorem dL_values_651 : decode cL_values 651 = .ok (.iconst 1, 1) := by decide +kernel
theorem dL_values_652 : decode cL_values 652 = .ok (.if_icmp .ne 8, 3) := by decide +kernel
theorem dL_values_655 : decode cL_values 655 = .ok (.bipush 10, 2) := by decide +kernel
theorem dL_values_657 : decode cL_values 657 = .ok (.goto 20, 3) := by decide +kernel
theorem dL_values_660 : decode cL_values 660 = .ok (.iload 13, 2) := by decide +kernel
theorem dL_values_662 : decode cL_values 662 = .ok (.bipush 10, 2) := by decide +kernel
theorem dL_values_664 : decode cL_values 664 = .ok (.idiv, 1) := by decide +kernel
theorem dL_values_665 : decode cL_values 665 = .ok (.iconst 2, 1) := by decide +kernel
theorem dL_values_666 : decode cL_values 666 = .ok (.if_icmp .ne 8, 3) := by decide +kernel
theorem dL_values_669 : decode cL_values 669 = .ok (.bipush 100, 2) := by decide +kernel
theorem dL_values_671 : decode cL_values 671 = .ok (.goto 6, 3) := by decide +kernel
theorem dL_values_674 : decode cL_values 674 = .ok (.sipush 1000, 3) := by decide +kernel
theorem dL_values_677 : decode cL_values 677 = .ok (.istore 14, 2) := by decide +kernel
theorem dL_values_679 : decode cL_values 679 = .ok (.iload 4, 2) := by decide +kernel
theorem dL_values_681 : decode cL_values 681 = .ok (.ifCond .eq 55, 3) := by decide +kernel
theorem dL_values_684 : decode cL_values 684 = .ok (.aload_n 0, 1) := by decide +kernel
theorem dL_values_685 : decode cL_values 685 = .ok (.iconst 2, 1) := by decide +kernel
theorem dL_values_686 : decode cL_values 686 = .ok (.aload_n 0, 1) := by decide +kernel
theorem dL_values_687 : decode cL_values 687 = .ok (.iload 5, 2) := by decide +kernel
theorem dL_values_689 : decode cL_values 689 = .ok (.invokestatic 164, 3) := by decide +kernel
theorem dL_values_692 : decode cL_values 692 = .ok (.invokestatic 152, 3) := by decide +kernel
theorem dL_values_695 : decode cL_values 695 = .ok (.iload_n 3, 1) := by decide +kernel
theorem dL_values_696 : decode cL_values 696 = .ok (.if_icmp .ne 40, 3) := by decide +kernel
theorem dL_values_699 : decode cL_values 699 = .ok (.iconst 2, 1) := by decide +kernel
theorem dL_values_700 : decode cL_values 700 = .ok (.aload_n 0, 1) := by decide +kernel
theorem dL_values_701 : decode cL_values 701 = .ok (.iconst 0, 1) := by decide +kernel
theorem dL_values_702 : decode cL_values 702 = .ok (.invokestatic 132, 3) := by decide +kernel
theorem dL_values_705 : decode cL_values 705 = .ok (.invokestatic 198, 3) := by decide +kernel
theorem dL_values_708 : decode cL_values 708 = .ok (.imul, 1) := by decide +kernel
theorem dL_values_709 : decode cL_values 709 = .ok (.iload 14, 2) := by decide +kernel
theorem dL_values_711 : decode cL_values 711 = .ok (.if_icmp .gt 25, 3) := by decide +kernel
theorem dL_values_714 : decode cL_values 714 = .ok (.aload_n 0, 1) := by decide +kernel
theorem dL_values_715 : decode cL_values 715 = .ok (.iconst 0, 1) := by decide +kernel
theorem dL_values_716 : decode cL_values 716 = .ok (.invokestatic 129, 3) := by decide +kernel
theorem dL_values_719 : decode cL_values 719 = .ok (.iload_n 2, 1) := by decide +kernel
theorem dL_values_720 : decode cL_values 720 = .ok (.if_icmp .ne 16, 3) := by decide +kernel
theorem dL_values_723 : decode cL_values 723 = .ok (.aload_n 0, 1) := by decide +kernel
theorem dL_values_724 : decode cL_values 724 = .ok (.invokestatic 126, 3) := by decide +kernel
theorem dL_values_727 : decode cL_values 727 = .ok (.ldc 18, 2) := by decide +kernel
theorem dL_values_729 : decode cL_values 729 = .ok (.if_icmp .ne 7, 3) := by decide +kernel
theorem dL_values_732 : decode cL_values 732 = .ok (.iconst 1, 1) := by decide +kernel
theorem dL_values_733 : decode cL_values 733 = .ok (.goto 4, 3) := by decide +kernel
theorem dL_values_736 : decode cL_values 736 = .ok (.iconst 0, 1) := by decide +kernel
theorem dL_values_737 : decode cL_values 737 = .ok (.ireturn, 1) := by decide +kernel
