/-! the law's method waits: its rows and words of its calls -/
set_option maxRecDepth 20000 in
theorem ggL_waits_L_tryAbout : GoodIn wsL_waits wsL_tryAbout := goodIn_ca (goodIn_r _ [5, 6, 7, 8, 9, 10, 11, 12, 13, 14, 15, 16, 17, 18, 19, 20, 21, 22, 23, 24, 25, 26, 27, 28, 29, 30, 31, 32, 33, 34, 35, 36, 37, 38, 39, 40, 41, 42, 43, 44, 45, 237, 238, 239, 240, 241, 242, 243, 244, 245, 246, 247, 248, 249, 250, 251, 252, 253, 254, 255, 256, 257, 258, 259, 260, 261, 262, 263] (by decide +kernel) (by decide +kernel)) (goodIn_sub (fun _ h => List.mem_cons_of_mem _ (List.mem_append_left _ (List.mem_append_left _ (List.mem_append_right _ h)))) (by decide +kernel))
set_option maxRecDepth 20000 in
theorem gL_waits_L_tryAbout : GoodIn wsL_waits (va_wsS RL 123 yL_tryAbout wsL_tryAbout) := goodIn_app (goodIn_of _ (by decide +kernel)) ggL_waits_L_tryAbout
set_option maxRecDepth 20000 in
theorem ggL_waits_L_trySave : GoodIn wsL_waits wsL_trySave := goodIn_ca (goodIn_r _ [48, 49, 50, 51, 52, 53, 11, 54, 55, 56, 57, 58, 15, 16, 17, 18, 59, 60, 61, 62, 20, 63, 64, 23, 24, 25, 26, 27, 28, 29, 30, 31, 34, 36, 37, 65, 32, 33, 35, 66, 67, 68, 69, 70, 71, 72, 237, 238, 239, 240, 241, 242, 243, 244, 245, 246, 247, 248, 249, 250, 251, 252, 253, 254, 255, 256, 257, 258, 259, 260, 261, 262, 263] (by decide +kernel) (by decide +kernel)) (goodIn_sub (fun _ h => List.mem_cons_of_mem _ (List.mem_append_left _ (List.mem_append_right _ h))) (by decide +kernel))
set_option maxRecDepth 20000 in
theorem gL_waits_L_trySave : GoodIn wsL_waits (va_wsS RL 189 yL_trySave wsL_trySave) := goodIn_app (goodIn_of _ (by decide +kernel)) ggL_waits_L_trySave
set_option maxRecDepth 20000 in
theorem ggL_waits_L_tryOffsetAfter : GoodIn wsL_waits wsL_tryOffsetAfter := goodIn_ca (goodIn_r _ [75, 6, 7, 76, 77, 78, 11, 79, 13, 14, 15, 16, 17, 18, 80, 20, 81, 82, 83, 84, 85, 86, 87, 88, 89, 90, 43, 44, 45, 28, 29, 237, 238, 239, 240, 241, 242, 243, 244, 245, 246, 247, 248, 249, 250, 251, 252, 253, 254, 255, 256, 257, 258, 259, 260] (by decide +kernel) (by decide +kernel)) (goodIn_sub (fun _ h => List.mem_cons_of_mem _ (List.mem_append_left _ (List.mem_append_left _ (List.mem_append_right _ h)))) (by decide +kernel))
set_option maxRecDepth 20000 in
theorem gL_waits_L_tryOffsetAfter : GoodIn wsL_waits (va_wsS RL 170 yL_tryOffsetAfter wsL_tryOffsetAfter) := goodIn_app (goodIn_of _ (by decide +kernel)) ggL_waits_L_tryOffsetAfter
set_option maxRecDepth 20000 in
theorem ggL_waits_L_tryPause : GoodIn wsL_waits wsL_tryPause := goodIn_ca (goodIn_r _ [93, 6, 7, 94, 95, 96, 11, 97, 13, 14, 15, 16, 17, 18, 98, 99, 100, 101, 102, 103, 104, 105, 83, 84, 85, 59, 60, 61, 62, 20, 63, 64, 23, 24, 25, 26, 27, 28, 29, 30, 31, 34, 36, 37, 65, 32, 33, 35, 66, 67, 68, 69, 70, 71, 72, 106, 107, 108, 109, 86, 87, 88, 89, 90, 39, 40, 41, 42, 43, 44, 45, 237, 238, 239, 240, 241, 242, 243, 244, 245, 246, 247, 248, 249, 250, 251, 252, 253, 254, 255, 256, 257, 258, 259, 260, 261, 262, 263] (by decide +kernel) (by decide +kernel)) (goodIn_sub (fun _ h => List.mem_cons_of_mem _ (List.mem_append_left _ (List.mem_append_left _ (List.mem_append_right _ h)))) (by decide +kernel))
set_option maxRecDepth 20000 in
theorem gL_waits_L_tryPause : GoodIn wsL_waits (va_wsS RL 149 yL_tryPause wsL_tryPause) := goodIn_app (goodIn_of _ (by decide +kernel)) ggL_waits_L_tryPause
set_option maxRecDepth 20000 in
theorem ggL_waits_L_tryRestore : GoodIn wsL_waits wsL_tryRestore := goodIn_ca (goodIn_ca (goodIn_r _ [112, 49, 113, 50, 1, 114, 115, 116, 11, 117, 55, 56, 118, 119, 57, 15, 58, 16, 17, 18, 59, 60, 61, 62, 20, 63, 64, 23, 24, 25, 26, 27, 28, 29, 30, 31, 34, 36, 37, 65, 32, 33, 35, 66, 67, 68, 69, 70, 71, 72, 120, 121, 122, 123, 104, 103, 237, 238, 239, 240, 241, 242, 243, 244, 245, 246, 247, 248, 249, 250, 251, 252, 253, 254, 255, 256, 257, 258, 259, 260, 261, 262, 263] (by decide +kernel) (by decide +kernel)) (goodIn_sub (fun _ h => List.mem_cons_of_mem _ (List.mem_append_left _ (List.mem_append_right _ h))) (by decide +kernel))) (goodIn_sub (fun _ h => List.mem_cons_of_mem _ (List.mem_append_right _ h)) (by decide +kernel))
set_option maxRecDepth 20000 in
theorem gL_waits_L_tryRestore : GoodIn wsL_waits (va_wsS RL 129 yL_tryRestore wsL_tryRestore) := goodIn_app (goodIn_of _ (by decide +kernel)) ggL_waits_L_tryRestore
set_option maxRecDepth 20000 in
theorem ggL_waits_L_tryWaitFor : GoodIn wsL_waits wsL_tryWaitFor := goodIn_ca (goodIn_r _ [126, 6, 7, 127, 128, 129, 11, 130, 13, 14, 15, 16, 17, 18, 43, 20, 44, 45, 28, 29, 86, 87, 88, 89, 84, 90, 237, 238, 239, 240, 241, 242, 243, 244, 245, 246, 247, 248, 249, 250, 251, 252, 253, 254, 255, 256, 257, 258, 259, 260] (by decide +kernel) (by decide +kernel)) (goodIn_sub (fun _ h => List.mem_cons_of_mem _ (List.mem_append_left _ (List.mem_append_left _ (List.mem_append_right _ h)))) (by decide +kernel))
set_option maxRecDepth 20000 in
theorem gL_waits_L_tryWaitFor : GoodIn wsL_waits (va_wsS RL 173 yL_tryWaitFor wsL_tryWaitFor) := goodIn_app (goodIn_of _ (by decide +kernel)) ggL_waits_L_tryWaitFor
set_option maxRecDepth 20000 in
theorem ggL_waits_X3_free : GoodIn wsL_waits wsX3_free := goodIn_r _ [134, 15, 98, 99, 100, 11, 101, 102, 103, 104, 105, 83, 84, 85, 59, 60, 61, 62, 20, 63, 64, 23, 24, 25, 26, 27, 28, 29, 30, 31, 34, 36, 37, 65, 32, 33, 35, 66, 67, 68, 69, 70, 71, 72, 135, 136, 137, 138, 106, 107, 108, 109, 86, 87, 88, 89, 90, 237, 238, 239, 240, 241, 242, 243, 244, 245, 246, 247, 248, 249, 250, 251, 252, 253, 254, 255, 256, 257, 258, 259, 260, 261, 262, 263] (by decide +kernel) (by decide +kernel)
set_option maxRecDepth 20000 in
theorem gL_waits_X3_free : GoodIn wsL_waits (wsV RL 210 RX3 yX3_free wsX3_free) := goodIn_app (goodIn_of _ (by decide +kernel)) ggL_waits_X3_free
set_option maxRecDepth 20000 in
theorem ggL_waits_L_tryBalanced : GoodIn wsL_waits wsL_tryBalanced := goodIn_ca (goodIn_r _ [141, 6, 7, 142, 143, 144, 11, 145, 13, 14, 146, 15, 16, 17, 18, 62, 20, 63, 64, 23, 24, 25, 26, 27, 28, 29, 30, 31, 34, 36, 37, 65, 32, 33, 35, 66, 67, 68, 69, 70, 71, 72, 147, 148, 149, 150, 151, 152, 153, 154, 155, 156, 157, 158, 159, 82, 83, 84, 85, 88, 89, 90, 160, 161, 162, 163, 164, 165, 166, 167, 168, 169, 170, 171, 172, 173, 174, 175, 176, 38, 39, 40, 41, 42, 43, 44, 45, 177, 178, 179, 180, 181, 80, 81, 237, 238, 239, 240, 241, 242, 243, 244, 245, 246, 247, 248, 249, 250, 251, 252, 253, 254, 255, 256, 257, 258, 259, 260, 261, 262, 263] (by decide +kernel) (by decide +kernel)) (goodIn_sub (fun _ h => List.mem_cons_of_mem _ (List.mem_append_left _ (List.mem_append_left _ (List.mem_append_right _ h)))) (by decide +kernel))
set_option maxRecDepth 20000 in
theorem gL_waits_L_tryBalanced : GoodIn wsL_waits (va_wsS RL 176 yL_tryBalanced wsL_tryBalanced) := goodIn_app (goodIn_of _ (by decide +kernel)) ggL_waits_L_tryBalanced
set_option maxRecDepth 20000 in
theorem ggL_waits_L_tryBalance : GoodIn wsL_waits wsL_tryBalance := goodIn_ca (goodIn_r _ [184, 113, 1, 185, 186, 187, 11, 188, 118, 119, 15, 98, 99, 100, 101, 102, 103, 104, 105, 83, 84, 85, 59, 60, 61, 62, 20, 63, 64, 23, 24, 25, 26, 27, 28, 29, 30, 31, 34, 36, 37, 65, 32, 33, 35, 66, 67, 68, 69, 70, 71, 72, 147, 148, 149, 150, 151, 152, 153, 154, 155, 156, 157, 158, 159, 82, 88, 89, 90, 160, 161, 162, 163, 164, 165, 166, 167, 168, 169, 170, 171, 172, 173, 174, 175, 176, 38, 39, 40, 41, 42, 43, 44, 45, 177, 178, 179, 180, 181, 80, 81, 237, 238, 239, 240, 241, 242, 243, 244, 245, 246, 247, 248, 249, 250, 251, 252, 253, 254, 255, 256, 257, 258, 259, 260, 261, 262, 263] (by decide +kernel) (by decide +kernel)) (goodIn_sub (fun _ h => List.mem_cons_of_mem _ (List.mem_append_right _ h)) (by decide +kernel))
set_option maxRecDepth 20000 in
theorem gL_waits_L_tryBalance : GoodIn wsL_waits (va_wsS RL 146 yL_tryBalance wsL_tryBalance) := goodIn_app (goodIn_of _ (by decide +kernel)) ggL_waits_L_tryBalance
set_option maxRecDepth 20000 in
theorem ggL_waits_L_tryUndo : GoodIn wsL_waits wsL_tryUndo := goodIn_ca (goodIn_r _ [191, 113, 1, 192, 193, 194, 11, 195, 118, 119, 104, 103, 15, 102, 59, 60, 61, 62, 20, 63, 64, 23, 24, 25, 26, 27, 28, 29, 30, 31, 34, 36, 37, 65, 32, 33, 35, 66, 67, 68, 69, 70, 71, 72, 237, 238, 239, 240, 241, 242, 243, 244, 245, 246, 247, 248, 249, 250, 251, 252, 253, 254, 255, 256, 257, 258, 259, 260, 261, 262, 263] (by decide +kernel) (by decide +kernel)) (goodIn_sub (fun _ h => List.mem_cons_of_mem _ (List.mem_append_right _ h)) (by decide +kernel))
set_option maxRecDepth 20000 in
theorem gL_waits_L_tryUndo : GoodIn wsL_waits (va_wsS RL 126 yL_tryUndo wsL_tryUndo) := goodIn_app (goodIn_of _ (by decide +kernel)) ggL_waits_L_tryUndo
set_option maxRecDepth 20000 in
theorem ggL_waits_L_presses : GoodIn wsL_waits wsL_presses := goodIn_ca (goodIn_ca (goodIn_r _ [198, 1, 2, 3, 4, 5, 6, 7, 8, 9, 10, 11, 12, 13, 14, 15, 16, 17, 18, 19, 20, 21, 22, 23, 24, 25, 26, 27, 28, 29, 30, 31, 32, 33, 34, 35, 36, 37, 38, 39, 40, 41, 42, 43, 44, 45, 199, 200, 201, 113, 202, 203, 204, 205, 118, 119, 98, 99, 100, 101, 102, 103, 104, 105, 83, 84, 85, 59, 60, 61, 62, 63, 64, 65, 66, 67, 68, 69, 70, 71, 72, 157, 158, 159, 82, 88, 89, 90, 160, 161, 162, 163, 150, 151, 164, 165, 166, 167, 168, 169, 170, 171, 172, 173, 174, 175, 176, 177, 178, 179, 180, 181, 80, 81, 206, 207, 208, 209, 210, 211, 212, 213, 214, 215, 216, 217, 218, 219, 220, 221, 222, 223, 224, 225, 226, 227, 228, 229, 237, 238, 239, 240, 241, 242, 243, 244, 245, 246, 247, 248, 249, 250, 251, 252, 253, 254, 255, 256, 257, 258, 259, 260, 261, 262, 263] (by decide +kernel) (by decide +kernel)) (goodIn_sub (fun _ h => List.mem_cons_of_mem _ (List.mem_append_left _ (List.mem_append_left _ (List.mem_append_right _ h)))) (by decide +kernel))) (goodIn_sub (fun _ h => List.mem_cons_of_mem _ (List.mem_append_right _ h)) (by decide +kernel))
set_option maxRecDepth 20000 in
theorem gL_waits_L_presses : GoodIn wsL_waits (va_wsS RL 213 yL_presses wsL_presses) := goodIn_app (goodIn_of _ (by decide +kernel)) ggL_waits_L_presses
set_option maxRecDepth 20000 in
theorem ggL_waits_L_tryTold : GoodIn wsL_waits wsL_tryTold := goodIn_ca (goodIn_r _ [219, 6, 7, 220, 221, 222, 11, 223, 13, 14, 15, 16, 17, 18, 224, 67, 225, 226, 70, 71, 72, 237, 238, 239, 240, 241, 242, 243, 244, 245, 246, 247, 248, 249, 250, 251, 252, 253, 254, 255, 256, 257, 258, 259, 260, 261, 262, 263] (by decide +kernel) (by decide +kernel)) (goodIn_sub (fun _ h => List.mem_cons_of_mem _ (List.mem_append_left _ (List.mem_append_left _ (List.mem_append_right _ h)))) (by decide +kernel))
set_option maxRecDepth 20000 in
theorem gL_waits_L_tryTold : GoodIn wsL_waits (va_wsS RL 135 yL_tryTold wsL_tryTold) := goodIn_app (goodIn_of _ (by decide +kernel)) ggL_waits_L_tryTold
set_option maxRecDepth 20000 in
theorem ggL_waits_L_tryPair : GoodIn wsL_waits wsL_tryPair := goodIn_ca (goodIn_r _ [232, 113, 1, 233, 234, 235, 11, 236, 118, 119, 15, 98, 99, 100, 101, 102, 103, 104, 105, 83, 84, 85, 59, 60, 61, 62, 20, 63, 64, 23, 24, 25, 26, 27, 28, 29, 30, 31, 34, 36, 37, 65, 32, 33, 35, 66, 67, 68, 69, 70, 71, 72, 153, 154, 155, 156, 157, 158, 159, 82, 88, 89, 90, 160, 161, 162, 163, 150, 151, 164, 165, 166, 167, 168, 169, 170, 171, 172, 173, 174, 175, 176, 38, 39, 40, 41, 42, 43, 44, 45, 177, 178, 179, 180, 181, 80, 81, 237, 238, 239, 240, 241, 242, 243, 244, 245, 246, 247, 248, 249, 250, 251, 252, 253, 254, 255, 256, 257, 258, 259, 260, 261, 262, 263] (by decide +kernel) (by decide +kernel)) (goodIn_sub (fun _ h => List.mem_cons_of_mem _ (List.mem_append_right _ h)) (by decide +kernel))
set_option maxRecDepth 20000 in
theorem gL_waits_L_tryPair : GoodIn wsL_waits (va_wsS RL 143 yL_tryPair wsL_tryPair) := goodIn_app (goodIn_of _ (by decide +kernel)) ggL_waits_L_tryPair
theorem dL_waits_0 : decode cL_waits 0 = .ok (.aload_n 0, 1) := by decide +kernel
theorem dL_waits_1 : decode cL_waits 1 = .ok (.bipush 9, 2) := by decide +kernel
theorem dL_waits_3 : decode cL_waits 3 = .ok (.invokestatic 123, 3) := by decide +kernel
theorem dL_waits_6 : decode cL_waits 6 = .ok (.istore_n 2, 1) := by decide +kernel
theorem dL_waits_7 : decode cL_waits 7 = .ok (.aload_n 0, 1) := by decide +kernel
theorem dL_waits_8 : decode cL_waits 8 = .ok (.bipush 7, 2) := by decide +kernel
theorem dL_waits_10 : decode cL_waits 10 = .ok (.invokestatic 123, 3) := by decide +kernel
theorem dL_waits_13 : decode cL_waits 13 = .ok (.istore_n 3, 1) := by decide +kernel
theorem dL_waits_14 : decode cL_waits 14 = .ok (.aload_n 0, 1) := by decide +kernel
theorem dL_waits_15 : decode cL_waits 15 = .ok (.iconst 0, 1) := by decide +kernel
theorem dL_waits_16 : decode cL_waits 16 = .ok (.invokestatic 189, 3) := by decide +kernel
theorem dL_waits_19 : decode cL_waits 19 = .ok (.iload_n 2, 1) := by decide +kernel
theorem dL_waits_20 : decode cL_waits 20 = .ok (.if_icmp .ne 7, 3) := by decide +kernel
theorem dL_waits_23 : decode cL_waits 23 = .ok (.iconst 1, 1) := by decide +kernel
theorem dL_waits_24 : decode cL_waits 24 = .ok (.goto 4, 3) := by decide +kernel
theorem dL_waits_27 : decode cL_waits 27 = .ok (.iconst 0, 1) := by decide +kernel
theorem dL_waits_28 : decode cL_waits 28 = .ok (.istore 4, 2) := by decide +kernel
theorem dL_waits_30 : decode cL_waits 30 = .ok (.iconst 1, 1) := by decide +kernel
theorem dL_waits_31 : decode cL_waits 31 = .ok (.iload_n 1, 1) := by decide +kernel
theorem dL_waits_32 : decode cL_waits 32 = .ok (.bipush 60, 2) := by decide +kernel
theorem dL_waits_34 : decode cL_waits 34 = .ok (.irem, 1) := by decide +kernel
theorem dL_waits_35 : decode cL_waits 35 = .ok (.iadd, 1) := by decide +kernel
theorem dL_waits_36 : decode cL_waits 36 = .ok (.istore 5, 2) := by decide +kernel
theorem dL_waits_38 : decode cL_waits 38 = .ok (.aload_n 0, 1) := by decide +kernel
theorem dL_waits_39 : decode cL_waits 39 = .ok (.iconst 0, 1) := by decide +kernel
theorem dL_waits_40 : decode cL_waits 40 = .ok (.iload 5, 2) := by decide +kernel
theorem dL_waits_42 : decode cL_waits 42 = .ok (.invokestatic 170, 3) := by decide +kernel
theorem dL_waits_45 : decode cL_waits 45 = .ok (.istore 6, 2) := by decide +kernel
theorem dL_waits_47 : decode cL_waits 47 = .ok (.iload 4, 2) := by decide +kernel
theorem dL_waits_49 : decode cL_waits 49 = .ok (.ifCond .eq 110, 3) := by decide +kernel
theorem dL_waits_52 : decode cL_waits 52 = .ok (.aload_n 0, 1) := by decide +kernel
theorem dL_waits_53 : decode cL_waits 53 = .ok (.iconst 0, 1) := by decide +kernel
theorem dL_waits_54 : decode cL_waits 54 = .ok (.iconst 0, 1) := by decide +kernel
theorem dL_waits_55 : decode cL_waits 55 = .ok (.invokestatic 170, 3) := by decide +kernel
theorem dL_waits_58 : decode cL_waits 58 = .ok (.aload_n 0, 1) := by decide +kernel
theorem dL_waits_59 : decode cL_waits 59 = .ok (.bipush 8, 2) := by decide +kernel
theorem dL_waits_61 : decode cL_waits 61 = .ok (.invokestatic 123, 3) := by decide +kernel
theorem dL_waits_64 : decode cL_waits 64 = .ok (.if_icmp .ne 95, 3) := by decide +kernel
theorem dL_waits_67 : decode cL_waits 67 = .ok (.aload_n 0, 1) := by decide +kernel
theorem dL_waits_68 : decode cL_waits 68 = .ok (.iconst 1, 1) := by decide +kernel
theorem dL_waits_69 : decode cL_waits 69 = .ok (.invokestatic 149, 3) := by decide +kernel
theorem dL_waits_72 : decode cL_waits 72 = .ok (.aload_n 0, 1) := by decide +kernel
theorem dL_waits_73 : decode cL_waits 73 = .ok (.bipush 8, 2) := by decide +kernel
theorem dL_waits_75 : decode cL_waits 75 = .ok (.invokestatic 123, 3) := by decide +kernel
theorem dL_waits_78 : decode cL_waits 78 = .ok (.if_icmp .ne 81, 3) := by decide +kernel
theorem dL_waits_81 : decode cL_waits 81 = .ok (.aload_n 0, 1) := by decide +kernel
theorem dL_waits_82 : decode cL_waits 82 = .ok (.bipush 7, 2) := by decide +kernel
theorem dL_waits_84 : decode cL_waits 84 = .ok (.invokestatic 123, 3) := by decide +kernel
theorem dL_waits_87 : decode cL_waits 87 = .ok (.iload_n 3, 1) := by decide +kernel
theorem dL_waits_88 : decode cL_waits 88 = .ok (.iload_n 3, 1) := by decide +kernel
theorem dL_waits_89 : decode cL_waits 89 = .ok (.bipush 10, 2) := by decide +kernel
theorem dL_waits_91 : decode cL_waits 91 = .ok (.idiv, 1) := by decide +kernel
theorem dL_waits_92 : decode cL_waits 92 = .ok (.isub, 1) := by decide +kernel
theorem dL_waits_93 : decode cL_waits 93 = .ok (.iconst 1, 1) := by decide +kernel
theorem dL_waits_94 : decode cL_waits 94 = .ok (.isub, 1) := by decide +kernel
theorem dL_waits_95 : decode cL_waits 95 = .ok (.ifCond .ge 7, 3) := by decide +kernel
theorem dL_waits_98 : decode cL_waits 98 = .ok (.iconst 0, 1) := by decide +kernel
theorem dL_waits_99 : decode cL_waits 99 = .ok (.goto 11, 3) := by decide +kernel
theorem dL_waits_102 : decode cL_waits 102 = .ok (.iload_n 3, 1) := by decide +kernel
theorem dL_waits_103 : decode cL_waits 103 = .ok (.iload_n 3, 1) := by decide +kernel
theorem dL_waits_104 : decode cL_waits 104 = .ok (.bipush 10, 2) := by decide +kernel
theorem dL_waits_106 : decode cL_waits 106 = .ok (.idiv, 1) := by decide +kernel
theorem dL_waits_107 : decode cL_waits 107 = .ok (.isub, 1) := by decide +kernel
theorem dL_waits_108 : decode cL_waits 108 = .ok (.iconst 1, 1) := by decide +kernel
theorem dL_waits_109 : decode cL_waits 109 = .ok (.isub, 1) := by decide +kernel
theorem dL_waits_110 : decode cL_waits 110 = .ok (.if_icmp .ne 49, 3) := by decide +kernel
theorem dL_waits_113 : decode cL_waits 113 = .ok (.aload_n 0, 1) := by decide +kernel
theorem dL_waits_114 : decode cL_waits 114 = .ok (.iconst 0, 1) := by decide +kernel
theorem dL_waits_115 : decode cL_waits 115 = .ok (.invokestatic 129, 3) := by decide +kernel
theorem dL_waits_118 : decode cL_waits 118 = .ok (.iload_n 2, 1) := by decide +kernel
theorem dL_waits_119 : decode cL_waits 119 = .ok (.if_icmp .ne 40, 3) := by decide +kernel
theorem dL_waits_122 : decode cL_waits 122 = .ok (.aload_n 0, 1) := by decide +kernel
theorem dL_waits_123 : decode cL_waits 123 = .ok (.iload 5, 2) := by decide +kernel
theorem dL_waits_125 : decode cL_waits 125 = .ok (.invokestatic 149, 3) := by decide +kernel
theorem dL_waits_128 : decode cL_waits 128 = .ok (.iload 6, 2) := by decide +kernel
theorem dL_waits_130 : decode cL_waits 130 = .ok (.if_icmp .ne 29, 3) := by decide +kernel
theorem dL_waits_133 : decode cL_waits 133 = .ok (.aload_n 0, 1) := by decide +kernel
theorem dL_waits_134 : decode cL_waits 134 = .ok (.bipush 9, 2) := by decide +kernel
theorem dL_waits_136 : decode cL_waits 136 = .ok (.invokestatic 123, 3) := by decide +kernel
theorem dL_waits_139 : decode cL_waits 139 = .ok (.iload_n 2, 1) := by decide +kernel
theorem dL_waits_140 : decode cL_waits 140 = .ok (.iload 5, 2) := by decide +kernel
theorem dL_waits_142 : decode cL_waits 142 = .ok (.iadd, 1) := by decide +kernel
theorem dL_waits_143 : decode cL_waits 143 = .ok (.if_icmp .ne 16, 3) := by decide +kernel
theorem dL_waits_146 : decode cL_waits 146 = .ok (.aload_n 0, 1) := by decide +kernel
theorem dL_waits_147 : decode cL_waits 147 = .ok (.iconst 0, 1) := by decide +kernel
theorem dL_waits_148 : decode cL_waits 148 = .ok (.invokestatic 129, 3) := by decide +kernel
theorem dL_waits_151 : decode cL_waits 151 = .ok (.iload_n 2, 1) := by decide +kernel
theorem dL_waits_152 : decode cL_waits 152 = .ok (.if_icmp .ne 7, 3) := by decide +kernel
theorem dL_waits_155 : decode cL_waits 155 = .ok (.iconst 1, 1) := by decide +kernel
theorem dL_waits_156 : decode cL_waits 156 = .ok (.goto 4, 3) := by decide +kernel
theorem dL_waits_159 : decode cL_waits 159 = .ok (.iconst 0, 1) := by decide +kernel
theorem dL_waits_160 : decode cL_waits 160 = .ok (.istore 4, 2) := by decide +kernel
theorem dL_waits_162 : decode cL_waits 162 = .ok (.iload_n 1, 1) := by decide +kernel
theorem dL_waits_163 : decode cL_waits 163 = .ok (.bipush 64, 2) := by decide +kernel
theorem dL_waits_165 : decode cL_waits 165 = .ok (.idiv, 1) := by decide +kernel
theorem dL_waits_166 : decode cL_waits 166 = .ok (.sipush 351, 3) := by decide +kernel
theorem dL_waits_169 : decode cL_waits 169 = .ok (.irem, 1) := by decide +kernel
theorem dL_waits_170 : decode cL_waits 170 = .ok (.bipush 50, 2) := by decide +kernel
theorem dL_waits_172 : decode cL_waits 172 = .ok (.isub, 1) := by decide +kernel
theorem dL_waits_173 : decode cL_waits 173 = .ok (.istore 7, 2) := by decide +kernel
theorem dL_waits_175 : decode cL_waits 175 = .ok (.aload_n 0, 1) := by decide +kernel
theorem dL_waits_176 : decode cL_waits 176 = .ok (.iload 7, 2) := by decide +kernel
theorem dL_waits_178 : decode cL_waits 178 = .ok (.invokestatic 173, 3) := by decide +kernel
theorem dL_waits_181 : decode cL_waits 181 = .ok (.istore 8, 2) := by decide +kernel
theorem dL_waits_183 : decode cL_waits 183 = .ok (.iload 4, 2) := by decide +kernel
theorem dL_waits_185 : decode cL_waits 185 = .ok (.ifCond .eq 97, 3) := by decide +kernel
theorem dL_waits_188 : decode cL_waits 188 = .ok (.iload 8, 2) := by decide +kernel
theorem dL_waits_190 : decode cL_waits 190 = .ok (.ifCond .ne 7, 3) := by decide +kernel
theorem dL_waits_193 : decode cL_waits 193 = .ok (.iconst 1, 1) := by decide +kernel
theorem dL_waits_194 : decode cL_waits 194 = .ok (.goto 4, 3) := by decide +kernel
theorem dL_waits_197 : decode cL_waits 197 = .ok (.iconst 0, 1) := by decide +kernel
theorem dL_waits_198 : decode cL_waits 198 = .ok (.aload_n 0, 1) := by decide +kernel
theorem dL_waits_199 : decode cL_waits 199 = .ok (.bipush 8, 2) := by decide +kernel
theorem dL_waits_201 : decode cL_waits 201 = .ok (.invokestatic 123, 3) := by decide +kernel
theorem dL_waits_204 : decode cL_waits 204 = .ok (.iload 7, 2) := by decide +kernel
theorem dL_waits_206 : decode cL_waits 206 = .ok (.if_icmp .gt 7, 3) := by decide +kernel
theorem dL_waits_209 : decode cL_waits 209 = .ok (.iconst 1, 1) := by decide +kernel
theorem dL_waits_210 : decode cL_waits 210 = .ok (.goto 4, 3) := by decide +kernel
theorem dL_waits_213 : decode cL_waits 213 = .ok (.iconst 0, 1) := by decide +kernel
theorem dL_waits_214 : decode cL_waits 214 = .ok (.if_icmp .ne 68, 3) := by decide +kernel
theorem dL_waits_217 : decode cL_waits 217 = .ok (.iload 8, 2) := by decide +kernel
theorem dL_waits_219 : decode cL_waits 219 = .ok (.sipush (-9999), 3) := by decide +kernel
theorem dL_waits_222 : decode cL_waits 222 = .ok (.if_icmp .eq 15, 3) := by decide +kernel
theorem dL_waits_225 : decode cL_waits 225 = .ok (.aload_n 0, 1) := by decide +kernel
theorem dL_waits_226 : decode cL_waits 226 = .ok (.iconst 0, 1) := by decide +kernel
theorem dL_waits_227 : decode cL_waits 227 = .ok (.iload 8, 2) := by decide +kernel
theorem dL_waits_229 : decode cL_waits 229 = .ok (.invokestatic 170, 3) := by decide +kernel
theorem dL_waits_232 : decode cL_waits 232 = .ok (.iload 7, 2) := by decide +kernel
theorem dL_waits_234 : decode cL_waits 234 = .ok (.if_icmp .gt 48, 3) := by decide +kernel
theorem dL_waits_237 : decode cL_waits 237 = .ok (.iload 8, 2) := by decide +kernel
theorem dL_waits_239 : decode cL_waits 239 = .ok (.iconst 1, 1) := by decide +kernel
theorem dL_waits_240 : decode cL_waits 240 = .ok (.if_icmp .lt 17, 3) := by decide +kernel
theorem dL_waits_243 : decode cL_waits 243 = .ok (.aload_n 0, 1) := by decide +kernel
theorem dL_waits_244 : decode cL_waits 244 = .ok (.iconst 0, 1) := by decide +kernel
theorem dL_waits_245 : decode cL_waits 245 = .ok (.iload 8, 2) := by decide +kernel
theorem dL_waits_247 : decode cL_waits 247 = .ok (.iconst 1, 1) := by decide +kernel
theorem dL_waits_248 : decode cL_waits 248 = .ok (.isub, 1) := by decide +kernel
theorem dL_waits_249 : decode cL_waits 249 = .ok (.invokestatic 170, 3) := by decide +kernel
theorem dL_waits_252 : decode cL_waits 252 = .ok (.iload 7, 2) := by decide +kernel
theorem dL_waits_254 : decode cL_waits 254 = .ok (.if_icmp .le 28, 3) := by decide +kernel
theorem dL_waits_257 : decode cL_waits 257 = .ok (.iload 8, 2) := by decide +kernel
theorem dL_waits_259 : decode cL_waits 259 = .ok (.sipush (-9999), 3) := by decide +kernel
theorem dL_waits_262 : decode cL_waits 262 = .ok (.if_icmp .ne 16, 3) := by decide +kernel
theorem dL_waits_265 : decode cL_waits 265 = .ok (.aload_n 0, 1) := by decide +kernel
theorem dL_waits_266 : decode cL_waits 266 = .ok (.iconst 0, 1) := by decide +kernel
theorem dL_waits_267 : decode cL_waits 267 = .ok (.sipush 200, 3) := by decide +kernel
theorem dL_waits_270 : decode cL_waits 270 = .ok (.invokestatic 170, 3) := by decide +kernel
theorem dL_waits_273 : decode cL_waits 273 = .ok (.iload 7, 2) := by decide +kernel
theorem dL_waits_275 : decode cL_waits 275 = .ok (.if_icmp .le 7, 3) := by decide +kernel
theorem dL_waits_278 : decode cL_waits 278 = .ok (.iconst 1, 1) := by decide +kernel
theorem dL_waits_279 : decode cL_waits 279 = .ok (.goto 4, 3) := by decide +kernel
theorem dL_waits_282 : decode cL_waits 282 = .ok (.iconst 0, 1) := by decide +kernel
theorem dL_waits_283 : decode cL_waits 283 = .ok (.istore 4, 2) := by decide +kernel
theorem dL_waits_285 : decode cL_waits 285 = .ok (.aload_n 0, 1) := by decide +kernel
theorem dL_waits_286 : decode cL_waits 286 = .ok (.bipush 12, 2) := by decide +kernel
theorem dL_waits_288 : decode cL_waits 288 = .ok (.invokestatic 123, 3) := by decide +kernel
theorem dL_waits_291 : decode cL_waits 291 = .ok (.istore 9, 2) := by decide +kernel
theorem dL_waits_293 : decode cL_waits 293 = .ok (.iload 4, 2) := by decide +kernel
theorem dL_waits_295 : decode cL_waits 295 = .ok (.ifCond .eq 46, 3) := by decide +kernel
theorem dL_waits_298 : decode cL_waits 298 = .ok (.aload_n 0, 1) := by decide +kernel
theorem dL_waits_299 : decode cL_waits 299 = .ok (.invokevirtual 210, 3) := by decide +kernel
theorem dL_waits_302 : decode cL_waits 302 = .ok (.iload 9, 2) := by decide +kernel
theorem dL_waits_304 : decode cL_waits 304 = .ok (.if_icmp .ne 37, 3) := by decide +kernel
theorem dL_waits_307 : decode cL_waits 307 = .ok (.aload_n 0, 1) := by decide +kernel
theorem dL_waits_308 : decode cL_waits 308 = .ok (.bipush 12, 2) := by decide +kernel
theorem dL_waits_310 : decode cL_waits 310 = .ok (.invokestatic 123, 3) := by decide +kernel
theorem dL_waits_313 : decode cL_waits 313 = .ok (.ifCond .ne 28, 3) := by decide +kernel
theorem dL_waits_316 : decode cL_waits 316 = .ok (.aload_n 0, 1) := by decide +kernel
theorem dL_waits_317 : decode cL_waits 317 = .ok (.bipush 9, 2) := by decide +kernel
theorem dL_waits_319 : decode cL_waits 319 = .ok (.invokestatic 123, 3) := by decide +kernel
theorem dL_waits_322 : decode cL_waits 322 = .ok (.iload_n 2, 1) := by decide +kernel
theorem dL_waits_323 : decode cL_waits 323 = .ok (.iconst 5, 1) := by decide +kernel
theorem dL_waits_324 : decode cL_waits 324 = .ok (.iadd, 1) := by decide +kernel
theorem dL_waits_325 : decode cL_waits 325 = .ok (.if_icmp .ne 16, 3) := by decide +kernel
theorem dL_waits_328 : decode cL_waits 328 = .ok (.aload_n 0, 1) := by decide +kernel
theorem dL_waits_329 : decode cL_waits 329 = .ok (.iconst 0, 1) := by decide +kernel
theorem dL_waits_330 : decode cL_waits 330 = .ok (.invokestatic 129, 3) := by decide +kernel
theorem dL_waits_333 : decode cL_waits 333 = .ok (.iload_n 2, 1) := by decide +kernel
theorem dL_waits_334 : decode cL_waits 334 = .ok (.if_icmp .ne 7, 3) := by decide +kernel
theorem dL_waits_337 : decode cL_waits 337 = .ok (.iconst 1, 1) := by decide +kernel
theorem dL_waits_338 : decode cL_waits 338 = .ok (.goto 4, 3) := by decide +kernel
theorem dL_waits_341 : decode cL_waits 341 = .ok (.iconst 0, 1) := by decide +kernel
theorem dL_waits_342 : decode cL_waits 342 = .ok (.istore 4, 2) := by decide +kernel
theorem dL_waits_344 : decode cL_waits 344 = .ok (.aload_n 0, 1) := by decide +kernel
theorem dL_waits_345 : decode cL_waits 345 = .ok (.iconst 0, 1) := by decide +kernel
theorem dL_waits_346 : decode cL_waits 346 = .ok (.invokestatic 176, 3) := by decide +kernel
theorem dL_waits_349 : decode cL_waits 349 = .ok (.istore 10, 2) := by decide +kernel
theorem dL_waits_351 : decode cL_waits 351 = .ok (.aload_n 0, 1) := by decide +kernel
theorem dL_waits_352 : decode cL_waits 352 = .ok (.iconst 1, 1) := by decide +kernel
theorem dL_waits_353 : decode cL_waits 353 = .ok (.invokestatic 176, 3) := by decide +kernel
theorem dL_waits_356 : decode cL_waits 356 = .ok (.istore 11, 2) := by decide +kernel
theorem dL_waits_358 : decode cL_waits 358 = .ok (.aload_n 0, 1) := by decide +kernel
theorem dL_waits_359 : decode cL_waits 359 = .ok (.iconst 2, 1) := by decide +kernel
theorem dL_waits_360 : decode cL_waits 360 = .ok (.invokestatic 176, 3) := by decide +kernel
theorem dL_waits_363 : decode cL_waits 363 = .ok (.istore 12, 2) := by decide +kernel
theorem dL_waits_365 : decode cL_waits 365 = .ok (.aload_n 0, 1) := by decide +kernel
theorem dL_waits_366 : decode cL_waits 366 = .ok (.iconst 3, 1) := by decide +kernel
theorem dL_waits_367 : decode cL_waits 367 = .ok (.invokestatic 176, 3) := by decide +kernel
theorem dL_waits_370 : decode cL_waits 370 = .ok (.istore 13, 2) := by decide +kernel
theorem dL_waits_372 : decode cL_waits 372 = .ok (.aload_n 0, 1) := by decide +kernel
theorem dL_waits_373 : decode cL_waits 373 = .ok (.bipush 14, 2) := by decide +kernel
theorem dL_waits_375 : decode cL_waits 375 = .ok (.invokestatic 123, 3) := by decide +kernel
theorem dL_waits_378 : decode cL_waits 378 = .ok (.istore 14, 2) := by decide +kernel
theorem dL_waits_380 : decode cL_waits 380 = .ok (.iload 9, 2) := by decide +kernel
theorem dL_waits_382 : decode cL_waits 382 = .ok (.ifCond .ne 224, 3) := by decide +kernel
theorem dL_waits_385 : decode cL_waits 385 = .ok (.iload 4, 2) := by decide +kernel
theorem dL_waits_387 : decode cL_waits 387 = .ok (.ifCond .eq 219, 3) := by decide +kernel
theorem dL_waits_390 : decode cL_waits 390 = .ok (.aload_n 0, 1) := by decide +kernel
theorem dL_waits_391 : decode cL_waits 391 = .ok (.invokestatic 146, 3) := by decide +kernel
theorem dL_waits_394 : decode cL_waits 394 = .ok (.iload 10, 2) := by decide +kernel
theorem dL_waits_396 : decode cL_waits 396 = .ok (.if_icmp .ne 106, 3) := by decide +kernel
theorem dL_waits_399 : decode cL_waits 399 = .ok (.aload_n 0, 1) := by decide +kernel
theorem dL_waits_400 : decode cL_waits 400 = .ok (.iconst 2, 1) := by decide +kernel
theorem dL_waits_401 : decode cL_waits 401 = .ok (.invokestatic 123, 3) := by decide +kernel
theorem dL_waits_404 : decode cL_waits 404 = .ok (.iload 10, 2) := by decide +kernel
theorem dL_waits_406 : decode cL_waits 406 = .ok (.if_icmp .ne 96, 3) := by decide +kernel
theorem dL_waits_409 : decode cL_waits 409 = .ok (.aload_n 0, 1) := by decide +kernel
theorem dL_waits_410 : decode cL_waits 410 = .ok (.bipush 14, 2) := by decide +kernel
theorem dL_waits_412 : decode cL_waits 412 = .ok (.invokestatic 123, 3) := by decide +kernel
theorem dL_waits_415 : decode cL_waits 415 = .ok (.iload 14, 2) := by decide +kernel
theorem dL_waits_417 : decode cL_waits 417 = .ok (.iload 11, 2) := by decide +kernel
theorem dL_waits_419 : decode cL_waits 419 = .ok (.iadd, 1) := by decide +kernel
theorem dL_waits_420 : decode cL_waits 420 = .ok (.if_icmp .ne 82, 3) := by decide +kernel
theorem dL_waits_423 : decode cL_waits 423 = .ok (.aload_n 0, 1) := by decide +kernel
theorem dL_waits_424 : decode cL_waits 424 = .ok (.bipush 7, 2) := by decide +kernel
theorem dL_waits_426 : decode cL_waits 426 = .ok (.invokestatic 123, 3) := by decide +kernel
theorem dL_waits_429 : decode cL_waits 429 = .ok (.iload 12, 2) := by decide +kernel
theorem dL_waits_431 : decode cL_waits 431 = .ok (.if_icmp .ne 71, 3) := by decide +kernel
theorem dL_waits_434 : decode cL_waits 434 = .ok (.aload_n 0, 1) := by decide +kernel
theorem dL_waits_435 : decode cL_waits 435 = .ok (.bipush 12, 2) := by decide +kernel
theorem dL_waits_437 : decode cL_waits 437 = .ok (.invokestatic 123, 3) := by decide +kernel
theorem dL_waits_440 : decode cL_waits 440 = .ok (.iload 13, 2) := by decide +kernel
theorem dL_waits_442 : decode cL_waits 442 = .ok (.if_icmp .ne 60, 3) := by decide +kernel
theorem dL_waits_445 : decode cL_waits 445 = .ok (.aload_n 0, 1) := by decide +kernel
theorem dL_waits_446 : decode cL_waits 446 = .ok (.bipush 9, 2) := by decide +kernel
theorem dL_waits_448 : decode cL_waits 448 = .ok (.invokestatic 123, 3) := by decide +kernel
theorem dL_waits_451 : decode cL_waits 451 = .ok (.iload_n 2, 1) := by decide +kernel
theorem dL_waits_452 : decode cL_waits 452 = .ok (.iload 11, 2) := by decide +kernel
theorem dL_waits_454 : decode cL_waits 454 = .ok (.iadd, 1) := by decide +kernel
theorem dL_waits_455 : decode cL_waits 455 = .ok (.if_icmp .ne 47, 3) := by decide +kernel
theorem dL_waits_458 : decode cL_waits 458 = .ok (.iload 13, 2) := by decide +kernel
theorem dL_waits_460 : decode cL_waits 460 = .ok (.iconst 1, 1) := by decide +kernel
theorem dL_waits_461 : decode cL_waits 461 = .ok (.if_icmp .eq 10, 3) := by decide +kernel
theorem dL_waits_464 : decode cL_waits 464 = .ok (.iload 11, 2) := by decide +kernel
theorem dL_waits_466 : decode cL_waits 466 = .ok (.iconst 2, 1) := by decide +kernel
theorem dL_waits_467 : decode cL_waits 467 = .ok (.irem, 1) := by decide +kernel
theorem dL_waits_468 : decode cL_waits 468 = .ok (.ifCond .ne 34, 3) := by decide +kernel
theorem dL_waits_471 : decode cL_waits 471 = .ok (.aload_n 0, 1) := by decide +kernel
theorem dL_waits_472 : decode cL_waits 472 = .ok (.invokestatic 126, 3) := by decide +kernel
theorem dL_waits_475 : decode cL_waits 475 = .ok (.ifCond .ne 27, 3) := by decide +kernel
theorem dL_waits_478 : decode cL_waits 478 = .ok (.aload_n 0, 1) := by decide +kernel
theorem dL_waits_479 : decode cL_waits 479 = .ok (.bipush 14, 2) := by decide +kernel
theorem dL_waits_481 : decode cL_waits 481 = .ok (.invokestatic 123, 3) := by decide +kernel
theorem dL_waits_484 : decode cL_waits 484 = .ok (.iload 14, 2) := by decide +kernel
theorem dL_waits_486 : decode cL_waits 486 = .ok (.if_icmp .ne 16, 3) := by decide +kernel
theorem dL_waits_489 : decode cL_waits 489 = .ok (.aload_n 0, 1) := by decide +kernel
theorem dL_waits_490 : decode cL_waits 490 = .ok (.iconst 0, 1) := by decide +kernel
theorem dL_waits_491 : decode cL_waits 491 = .ok (.invokestatic 129, 3) := by decide +kernel
theorem dL_waits_494 : decode cL_waits 494 = .ok (.iload_n 2, 1) := by decide +kernel
theorem dL_waits_495 : decode cL_waits 495 = .ok (.if_icmp .ne 7, 3) := by decide +kernel
theorem dL_waits_498 : decode cL_waits 498 = .ok (.iconst 1, 1) := by decide +kernel
theorem dL_waits_499 : decode cL_waits 499 = .ok (.goto 4, 3) := by decide +kernel
theorem dL_waits_502 : decode cL_waits 502 = .ok (.iconst 0, 1) := by decide +kernel
theorem dL_waits_503 : decode cL_waits 503 = .ok (.istore 4, 2) := by decide +kernel
theorem dL_waits_505 : decode cL_waits 505 = .ok (.aload_n 0, 1) := by decide +kernel
theorem dL_waits_506 : decode cL_waits 506 = .ok (.iconst 0, 1) := by decide +kernel
theorem dL_waits_507 : decode cL_waits 507 = .ok (.invokestatic 213, 3) := by decide +kernel
theorem dL_waits_510 : decode cL_waits 510 = .ok (.ifCond .eq 12, 3) := by decide +kernel
theorem dL_waits_513 : decode cL_waits 513 = .ok (.aload_n 0, 1) := by decide +kernel
theorem dL_waits_514 : decode cL_waits 514 = .ok (.iconst 0, 1) := by decide +kernel
theorem dL_waits_515 : decode cL_waits 515 = .ok (.iconst 0, 1) := by decide +kernel
theorem dL_waits_516 : decode cL_waits 516 = .ok (.invokestatic 135, 3) := by decide +kernel
theorem dL_waits_519 : decode cL_waits 519 = .ok (.goto 6, 3) := by decide +kernel
theorem dL_waits_522 : decode cL_waits 522 = .ok (.sipush (-9999), 3) := by decide +kernel
theorem dL_waits_525 : decode cL_waits 525 = .ok (.istore 15, 2) := by decide +kernel
theorem dL_waits_527 : decode cL_waits 527 = .ok (.aload_n 0, 1) := by decide +kernel
theorem dL_waits_528 : decode cL_waits 528 = .ok (.bipush 12, 2) := by decide +kernel
theorem dL_waits_530 : decode cL_waits 530 = .ok (.invokestatic 123, 3) := by decide +kernel
theorem dL_waits_533 : decode cL_waits 533 = .ok (.iconst 1, 1) := by decide +kernel
theorem dL_waits_534 : decode cL_waits 534 = .ok (.if_icmp .ne 8, 3) := by decide +kernel
theorem dL_waits_537 : decode cL_waits 537 = .ok (.iload 15, 2) := by decide +kernel
theorem dL_waits_539 : decode cL_waits 539 = .ok (.goto 26, 3) := by decide +kernel
theorem dL_waits_542 : decode cL_waits 542 = .ok (.iload 15, 2) := by decide +kernel
theorem dL_waits_544 : decode cL_waits 544 = .ok (.aload_n 0, 1) := by decide +kernel
theorem dL_waits_545 : decode cL_waits 545 = .ok (.iconst 1, 1) := by decide +kernel
theorem dL_waits_546 : decode cL_waits 546 = .ok (.invokestatic 213, 3) := by decide +kernel
theorem dL_waits_549 : decode cL_waits 549 = .ok (.ifCond .eq 12, 3) := by decide +kernel
theorem dL_waits_552 : decode cL_waits 552 = .ok (.aload_n 0, 1) := by decide +kernel
theorem dL_waits_553 : decode cL_waits 553 = .ok (.iconst 0, 1) := by decide +kernel
theorem dL_waits_554 : decode cL_waits 554 = .ok (.iconst 0, 1) := by decide +kernel
theorem dL_waits_555 : decode cL_waits 555 = .ok (.invokestatic 135, 3) := by decide +kernel
theorem dL_waits_558 : decode cL_waits 558 = .ok (.goto 6, 3) := by decide +kernel
theorem dL_waits_561 : decode cL_waits 561 = .ok (.sipush (-9999), 3) := by decide +kernel
theorem dL_waits_564 : decode cL_waits 564 = .ok (.isub, 1) := by decide +kernel
theorem dL_waits_565 : decode cL_waits 565 = .ok (.istore 16, 2) := by decide +kernel
theorem dL_waits_567 : decode cL_waits 567 = .ok (.iload 4, 2) := by decide +kernel
theorem dL_waits_569 : decode cL_waits 569 = .ok (.ifCond .eq 34, 3) := by decide +kernel
theorem dL_waits_572 : decode cL_waits 572 = .ok (.aload_n 0, 1) := by decide +kernel
theorem dL_waits_573 : decode cL_waits 573 = .ok (.iconst 0, 1) := by decide +kernel
theorem dL_waits_574 : decode cL_waits 574 = .ok (.invokestatic 129, 3) := by decide +kernel
theorem dL_waits_577 : decode cL_waits 577 = .ok (.iload_n 2, 1) := by decide +kernel
theorem dL_waits_578 : decode cL_waits 578 = .ok (.if_icmp .ne 25, 3) := by decide +kernel
theorem dL_waits_581 : decode cL_waits 581 = .ok (.aload_n 0, 1) := by decide +kernel
theorem dL_waits_582 : decode cL_waits 582 = .ok (.invokestatic 143, 3) := by decide +kernel
theorem dL_waits_585 : decode cL_waits 585 = .ok (.iload 16, 2) := by decide +kernel
theorem dL_waits_587 : decode cL_waits 587 = .ok (.if_icmp .ne 16, 3) := by decide +kernel
theorem dL_waits_590 : decode cL_waits 590 = .ok (.aload_n 0, 1) := by decide +kernel
theorem dL_waits_591 : decode cL_waits 591 = .ok (.iconst 0, 1) := by decide +kernel
theorem dL_waits_592 : decode cL_waits 592 = .ok (.invokestatic 129, 3) := by decide +kernel
theorem dL_waits_595 : decode cL_waits 595 = .ok (.iload_n 2, 1) := by decide +kernel
theorem dL_waits_596 : decode cL_waits 596 = .ok (.if_icmp .ne 7, 3) := by decide +kernel
theorem dL_waits_599 : decode cL_waits 599 = .ok (.iconst 1, 1) := by decide +kernel
theorem dL_waits_600 : decode cL_waits 600 = .ok (.goto 4, 3) := by decide +kernel
theorem dL_waits_603 : decode cL_waits 603 = .ok (.iconst 0, 1) := by decide +kernel
theorem dL_waits_604 : decode cL_waits 604 = .ok (.istore 4, 2) := by decide +kernel
theorem dL_waits_606 : decode cL_waits 606 = .ok (.iload 4, 2) := by decide +kernel
theorem dL_waits_608 : decode cL_waits 608 = .ok (.ifCond .eq 16, 3) := by decide +kernel
theorem dL_waits_611 : decode cL_waits 611 = .ok (.aload_n 0, 1) := by decide +kernel
theorem dL_waits_612 : decode cL_waits 612 = .ok (.invokestatic 126, 3) := by decide +kernel
theorem dL_waits_615 : decode cL_waits 615 = .ok (.ldc 18, 2) := by decide +kernel
theorem dL_waits_617 : decode cL_waits 617 = .ok (.if_icmp .ne 7, 3) := by decide +kernel
theorem dL_waits_620 : decode cL_waits 620 = .ok (.iconst 1, 1) := by decide +kernel
theorem dL_waits_621 : decode cL_waits 621 = .ok (.goto 4, 3) := by decide +kernel
theorem dL_waits_624 : decode cL_waits 624 = .ok (.iconst 0, 1) := by decide +kernel
theorem dL_waits_625 : decode cL_waits 625 = .ok (.ireturn, 1) := by decide +kernel
