/-! the law's method told: its rows and words of its calls -/
set_option maxRecDepth 20000 in
theorem ggL_told_L_number : GoodIn wsL_told wsL_number := goodIn_r _ [6, 7, 8] (by decide +kernel) (by decide +kernel)
set_option maxRecDepth 20000 in
theorem gL_told_L_number : GoodIn wsL_told (va_wsS RL 105 yL_number wsL_number) := goodIn_app (goodIn_of _ (by decide +kernel)) ggL_told_L_number
set_option maxRecDepth 20000 in
theorem ggL_told_X3_clearText : GoodIn wsL_told wsX3_clearText := goodIn_r _ [13, 14, 169, 170, 171, 172, 173, 174, 175, 176, 177, 178] (by decide +kernel) (by decide +kernel)
set_option maxRecDepth 20000 in
theorem gL_told_X3_clearText : GoodIn wsL_told (wsV RL 109 RX3 yX3_clearText wsX3_clearText) := goodIn_app (goodIn_of _ (by decide +kernel)) ggL_told_X3_clearText
set_option maxRecDepth 20000 in
theorem ggL_told_L_put : GoodIn wsL_told wsL_put := goodIn_ca (goodIn_ca (goodIn_r _ [17, 18, 19, 5, 20, 21, 22, 23, 2, 24, 25, 26, 12, 27, 28, 29, 30, 31, 14, 32, 33, 34, 35, 36, 37, 38, 39, 40, 169, 170, 171, 172, 173, 174, 175, 176, 177, 178] (by decide +kernel) (by decide +kernel)) (goodIn_sub (fun _ h => List.mem_cons_of_mem _ (List.mem_append_left _ (List.mem_append_left _ (List.mem_append_right _ h)))) (by decide +kernel))) (goodIn_sub (fun _ h => List.mem_cons_of_mem _ (List.mem_append_left _ (List.mem_append_right _ h))) (by decide +kernel))
set_option maxRecDepth 20000 in
theorem gL_told_L_put : GoodIn wsL_told (va_wsS RL 101 yL_put wsL_put) := goodIn_app (goodIn_of _ (by decide +kernel)) ggL_told_L_put
set_option maxRecDepth 20000 in
theorem ggL_told_X3_errorPosition : GoodIn wsL_told wsX3_errorPosition := goodIn_r _ [44, 14, 45, 36, 46, 47, 39, 48, 49, 50, 51, 52, 53, 54, 55, 40, 56, 57, 58, 59, 60, 61, 62, 63, 64, 65, 66, 169, 170, 171, 172, 173, 174, 175, 176, 177, 178] (by decide +kernel) (by decide +kernel)
set_option maxRecDepth 20000 in
theorem gL_told_X3_errorPosition : GoodIn wsL_told (wsV RL 112 RX3 yX3_errorPosition wsX3_errorPosition) := goodIn_app (goodIn_of _ (by decide +kernel)) ggL_told_X3_errorPosition
set_option maxRecDepth 20000 in
theorem ggL_told_L_two : GoodIn wsL_told wsL_two := goodIn_ca (goodIn_ca (goodIn_r _ [69, 15, 16, 5, 17, 18, 19, 20, 21, 22, 23, 2, 24, 25, 26, 12, 27, 28, 29, 30, 31, 14, 32, 33, 34, 35, 36, 37, 38, 39, 40, 169, 170, 171, 172, 173, 174, 175, 176, 177, 178] (by decide +kernel) (by decide +kernel)) (goodIn_sub (fun _ h => List.mem_cons_of_mem _ (List.mem_append_left _ (List.mem_append_left _ (List.mem_append_right _ h)))) (by decide +kernel))) (goodIn_sub (fun _ h => List.mem_cons_of_mem _ (List.mem_append_left _ (List.mem_append_right _ h))) (by decide +kernel))
set_option maxRecDepth 20000 in
theorem gL_told_L_two : GoodIn wsL_told (va_wsS RL 115 yL_two wsL_two) := goodIn_app (goodIn_of _ (by decide +kernel)) ggL_told_L_two
set_option maxRecDepth 20000 in
theorem ggL_told_L_tryLoad : GoodIn wsL_told wsL_tryLoad := goodIn_ca (goodIn_r _ [72, 22, 2, 73, 74, 75, 12, 76, 30, 31, 14, 77, 78, 45, 36, 46, 47, 39, 48, 49, 50, 51, 52, 53, 54, 55, 40, 56, 57, 58, 59, 60, 61, 62, 63, 64, 65, 66, 79, 80, 81, 82, 83, 84, 85, 86, 87, 88, 89, 90, 91, 92, 93, 94, 95, 96, 97, 98, 99, 100, 101, 102, 103, 104, 105, 106, 107, 108, 109, 110, 111, 112, 113, 114, 115, 116, 117, 118, 119, 120, 169, 170, 171, 172, 173, 174, 175, 176, 179, 180, 181, 182, 183, 184, 185, 186, 187, 188, 189, 190, 191, 192, 193, 194, 177, 178, 195, 196, 197] (by decide +kernel) (by decide +kernel)) (goodIn_sub (fun _ h => List.mem_cons_of_mem _ (List.mem_append_left _ (List.mem_append_right _ h))) (by decide +kernel))
set_option maxRecDepth 20000 in
theorem gL_told_L_tryLoad : GoodIn wsL_told (va_wsS RL 119 yL_tryLoad wsL_tryLoad) := goodIn_app (goodIn_of _ (by decide +kernel)) ggL_told_L_tryLoad
set_option maxRecDepth 20000 in
theorem ggL_told_L_tryAbout : GoodIn wsL_told wsL_tryAbout := goodIn_ca (goodIn_r _ [123, 21, 23, 124, 125, 126, 12, 127, 28, 29, 77, 32, 33, 34, 128, 80, 129, 130, 83, 84, 85, 86, 87, 88, 89, 90, 91, 95, 96, 92, 97, 93, 94, 131, 132, 133, 134, 135, 136, 137, 138, 169, 170, 171, 172, 173, 174, 175, 176, 179, 180, 181, 182, 183, 184, 185, 186, 187, 188, 189, 190, 191, 192, 193, 194, 195, 196, 197] (by decide +kernel) (by decide +kernel)) (goodIn_sub (fun _ h => List.mem_cons_of_mem _ (List.mem_append_left _ (List.mem_append_left _ (List.mem_append_right _ h)))) (by decide +kernel))
set_option maxRecDepth 20000 in
theorem gL_told_L_tryAbout : GoodIn wsL_told (va_wsS RL 123 yL_tryAbout wsL_tryAbout) := goodIn_app (goodIn_of _ (by decide +kernel)) ggL_told_L_tryAbout
set_option maxRecDepth 20000 in
theorem ggL_told_L_tryUndo : GoodIn wsL_told wsL_tryUndo := goodIn_ca (goodIn_r _ [141, 22, 2, 142, 143, 144, 12, 145, 30, 31, 119, 120, 77, 146, 147, 148, 149, 150, 80, 151, 152, 83, 84, 85, 86, 87, 88, 89, 90, 91, 92, 93, 94, 108, 95, 96, 97, 153, 110, 154, 155, 113, 114, 156, 169, 170, 171, 172, 173, 174, 175, 176, 179, 180, 181, 182, 183, 184, 185, 186, 187, 188, 189, 190, 191, 192, 193, 194, 195, 196, 197] (by decide +kernel) (by decide +kernel)) (goodIn_sub (fun _ h => List.mem_cons_of_mem _ (List.mem_append_left _ (List.mem_append_right _ h))) (by decide +kernel))
set_option maxRecDepth 20000 in
theorem gL_told_L_tryUndo : GoodIn wsL_told (va_wsS RL 126 yL_tryUndo wsL_tryUndo) := goodIn_app (goodIn_of _ (by decide +kernel)) ggL_told_L_tryUndo
set_option maxRecDepth 20000 in
theorem ggL_told_L_tryRestore : GoodIn wsL_told wsL_tryRestore := goodIn_ca (goodIn_ca (goodIn_r _ [159, 160, 22, 161, 2, 162, 163, 164, 12, 165, 166, 167, 30, 31, 78, 77, 168, 32, 33, 34, 147, 148, 149, 150, 80, 151, 152, 83, 84, 85, 86, 87, 88, 89, 90, 91, 92, 93, 94, 108, 95, 96, 97, 153, 110, 154, 155, 113, 114, 156, 115, 116, 117, 118, 119, 120, 169, 170, 171, 172, 173, 174, 175, 176, 179, 180, 181, 182, 183, 184, 185, 186, 187, 188, 189, 190, 191, 192, 193, 194, 195, 196, 197] (by decide +kernel) (by decide +kernel)) (goodIn_sub (fun _ h => List.mem_cons_of_mem _ (List.mem_append_right _ h)) (by decide +kernel))) (goodIn_sub (fun _ h => List.mem_cons_of_mem _ (List.mem_append_left _ (List.mem_append_right _ h))) (by decide +kernel))
set_option maxRecDepth 20000 in
theorem gL_told_L_tryRestore : GoodIn wsL_told (va_wsS RL 129 yL_tryRestore wsL_tryRestore) := goodIn_app (goodIn_of _ (by decide +kernel)) ggL_told_L_tryRestore
theorem dL_told_0 : decode cL_told 0 = .ok (.aload_n 2, 1) := by decide +kernel
theorem dL_told_1 : decode cL_told 1 = .ok (.iload_n 3, 1) := by decide +kernel
theorem dL_told_2 : decode cL_told 2 = .ok (.invokestatic 105, 3) := by decide +kernel
theorem dL_told_5 : decode cL_told 5 = .ok (.istore 4, 2) := by decide +kernel
theorem dL_told_7 : decode cL_told 7 = .ok (.aload_n 2, 1) := by decide +kernel
theorem dL_told_8 : decode cL_told 8 = .ok (.iload_n 3, 1) := by decide +kernel
theorem dL_told_9 : decode cL_told 9 = .ok (.iconst 1, 1) := by decide +kernel
theorem dL_told_10 : decode cL_told 10 = .ok (.iadd, 1) := by decide +kernel
theorem dL_told_11 : decode cL_told 11 = .ok (.invokestatic 105, 3) := by decide +kernel
theorem dL_told_14 : decode cL_told 14 = .ok (.istore 5, 2) := by decide +kernel
theorem dL_told_16 : decode cL_told 16 = .ok (.iconst 1, 1) := by decide +kernel
theorem dL_told_17 : decode cL_told 17 = .ok (.iload 4, 2) := by decide +kernel
theorem dL_told_19 : decode cL_told 19 = .ok (.bipush 6, 2) := by decide +kernel
theorem dL_told_21 : decode cL_told 21 = .ok (.irem, 1) := by decide +kernel
theorem dL_told_22 : decode cL_told 22 = .ok (.iadd, 1) := by decide +kernel
theorem dL_told_23 : decode cL_told 23 = .ok (.istore 6, 2) := by decide +kernel
theorem dL_told_25 : decode cL_told 25 = .ok (.iload 5, 2) := by decide +kernel
theorem dL_told_27 : decode cL_told 27 = .ok (.sipush 10000, 3) := by decide +kernel
theorem dL_told_30 : decode cL_told 30 = .ok (.irem, 1) := by decide +kernel
theorem dL_told_31 : decode cL_told 31 = .ok (.istore 7, 2) := by decide +kernel
theorem dL_told_33 : decode cL_told 33 = .ok (.iconst 1, 1) := by decide +kernel
theorem dL_told_34 : decode cL_told 34 = .ok (.iload 4, 2) := by decide +kernel
theorem dL_told_36 : decode cL_told 36 = .ok (.bipush 8, 2) := by decide +kernel
theorem dL_told_38 : decode cL_told 38 = .ok (.idiv, 1) := by decide +kernel
theorem dL_told_39 : decode cL_told 39 = .ok (.bipush 99, 2) := by decide +kernel
theorem dL_told_41 : decode cL_told 41 = .ok (.irem, 1) := by decide +kernel
theorem dL_told_42 : decode cL_told 42 = .ok (.iadd, 1) := by decide +kernel
theorem dL_told_43 : decode cL_told 43 = .ok (.istore 8, 2) := by decide +kernel
theorem dL_told_45 : decode cL_told 45 = .ok (.iload 5, 2) := by decide +kernel
theorem dL_told_47 : decode cL_told 47 = .ok (.sipush 16384, 3) := by decide +kernel
theorem dL_told_50 : decode cL_told 50 = .ok (.idiv, 1) := by decide +kernel
theorem dL_told_51 : decode cL_told 51 = .ok (.bipush 51, 2) := by decide +kernel
theorem dL_told_53 : decode cL_told 53 = .ok (.irem, 1) := by decide +kernel
theorem dL_told_54 : decode cL_told 54 = .ok (.istore 9, 2) := by decide +kernel
theorem dL_told_56 : decode cL_told 56 = .ok (.aload_n 0, 1) := by decide +kernel
theorem dL_told_57 : decode cL_told 57 = .ok (.invokevirtual 109, 3) := by decide +kernel
theorem dL_told_60 : decode cL_told 60 = .ok (.aload_n 1, 1) := by decide +kernel
theorem dL_told_61 : decode cL_told 61 = .ok (.invokevirtual 109, 3) := by decide +kernel
theorem dL_told_64 : decode cL_told 64 = .ok (.if_icmp .ne 192, 3) := by decide +kernel
theorem dL_told_67 : decode cL_told 67 = .ok (.aload_n 0, 1) := by decide +kernel
theorem dL_told_68 : decode cL_told 68 = .ok (.aload_n 1, 1) := by decide +kernel
theorem dL_told_69 : decode cL_told 69 = .ok (.bipush 71, 2) := by decide +kernel
theorem dL_told_71 : decode cL_told 71 = .ok (.invokestatic 101, 3) := by decide +kernel
theorem dL_told_74 : decode cL_told 74 = .ok (.ifCond .eq 182, 3) := by decide +kernel
theorem dL_told_77 : decode cL_told 77 = .ok (.aload_n 0, 1) := by decide +kernel
theorem dL_told_78 : decode cL_told 78 = .ok (.aload_n 1, 1) := by decide +kernel
theorem dL_told_79 : decode cL_told 79 = .ok (.bipush 48, 2) := by decide +kernel
theorem dL_told_81 : decode cL_told 81 = .ok (.iload 4, 2) := by decide +kernel
theorem dL_told_83 : decode cL_told 83 = .ok (.sipush 1024, 3) := by decide +kernel
theorem dL_told_86 : decode cL_told 86 = .ok (.idiv, 1) := by decide +kernel
theorem dL_told_87 : decode cL_told 87 = .ok (.iconst 4, 1) := by decide +kernel
theorem dL_told_88 : decode cL_told 88 = .ok (.irem, 1) := by decide +kernel
theorem dL_told_89 : decode cL_told 89 = .ok (.iadd, 1) := by decide +kernel
theorem dL_told_90 : decode cL_told 90 = .ok (.invokestatic 101, 3) := by decide +kernel
theorem dL_told_93 : decode cL_told 93 = .ok (.ifCond .eq 163, 3) := by decide +kernel
theorem dL_told_96 : decode cL_told 96 = .ok (.aload_n 0, 1) := by decide +kernel
theorem dL_told_97 : decode cL_told 97 = .ok (.invokevirtual 112, 3) := by decide +kernel
theorem dL_told_100 : decode cL_told 100 = .ok (.iconst 2, 1) := by decide +kernel
theorem dL_told_101 : decode cL_told 101 = .ok (.if_icmp .ne 155, 3) := by decide +kernel
theorem dL_told_104 : decode cL_told 104 = .ok (.aload_n 0, 1) := by decide +kernel
theorem dL_told_105 : decode cL_told 105 = .ok (.aload_n 1, 1) := by decide +kernel
theorem dL_told_106 : decode cL_told 106 = .ok (.bipush 48, 2) := by decide +kernel
theorem dL_told_108 : decode cL_told 108 = .ok (.iload 4, 2) := by decide +kernel
theorem dL_told_110 : decode cL_told 110 = .ok (.sipush 4096, 3) := by decide +kernel
theorem dL_told_113 : decode cL_told 113 = .ok (.idiv, 1) := by decide +kernel
theorem dL_told_114 : decode cL_told 114 = .ok (.iconst 4, 1) := by decide +kernel
theorem dL_told_115 : decode cL_told 115 = .ok (.irem, 1) := by decide +kernel
theorem dL_told_116 : decode cL_told 116 = .ok (.iadd, 1) := by decide +kernel
theorem dL_told_117 : decode cL_told 117 = .ok (.invokestatic 101, 3) := by decide +kernel
theorem dL_told_120 : decode cL_told 120 = .ok (.ifCond .eq 136, 3) := by decide +kernel
theorem dL_told_123 : decode cL_told 123 = .ok (.aload_n 0, 1) := by decide +kernel
theorem dL_told_124 : decode cL_told 124 = .ok (.aload_n 1, 1) := by decide +kernel
theorem dL_told_125 : decode cL_told 125 = .ok (.iload 7, 2) := by decide +kernel
theorem dL_told_127 : decode cL_told 127 = .ok (.bipush 100, 2) := by decide +kernel
theorem dL_told_129 : decode cL_told 129 = .ok (.idiv, 1) := by decide +kernel
theorem dL_told_130 : decode cL_told 130 = .ok (.invokestatic 115, 3) := by decide +kernel
theorem dL_told_133 : decode cL_told 133 = .ok (.ifCond .eq 123, 3) := by decide +kernel
theorem dL_told_136 : decode cL_told 136 = .ok (.aload_n 0, 1) := by decide +kernel
theorem dL_told_137 : decode cL_told 137 = .ok (.invokevirtual 112, 3) := by decide +kernel
theorem dL_told_140 : decode cL_told 140 = .ok (.iconst 5, 1) := by decide +kernel
theorem dL_told_141 : decode cL_told 141 = .ok (.if_icmp .ne 115, 3) := by decide +kernel
theorem dL_told_144 : decode cL_told 144 = .ok (.aload_n 0, 1) := by decide +kernel
theorem dL_told_145 : decode cL_told 145 = .ok (.aload_n 1, 1) := by decide +kernel
theorem dL_told_146 : decode cL_told 146 = .ok (.iload 7, 2) := by decide +kernel
theorem dL_told_148 : decode cL_told 148 = .ok (.bipush 100, 2) := by decide +kernel
theorem dL_told_150 : decode cL_told 150 = .ok (.irem, 1) := by decide +kernel
theorem dL_told_151 : decode cL_told 151 = .ok (.invokestatic 115, 3) := by decide +kernel
theorem dL_told_154 : decode cL_told 154 = .ok (.ifCond .eq 102, 3) := by decide +kernel
theorem dL_told_157 : decode cL_told 157 = .ok (.aload_n 0, 1) := by decide +kernel
theorem dL_told_158 : decode cL_told 158 = .ok (.aload_n 1, 1) := by decide +kernel
theorem dL_told_159 : decode cL_told 159 = .ok (.iload 8, 2) := by decide +kernel
theorem dL_told_161 : decode cL_told 161 = .ok (.invokestatic 115, 3) := by decide +kernel
theorem dL_told_164 : decode cL_told 164 = .ok (.ifCond .eq 92, 3) := by decide +kernel
theorem dL_told_167 : decode cL_told 167 = .ok (.aload_n 0, 1) := by decide +kernel
theorem dL_told_168 : decode cL_told 168 = .ok (.invokevirtual 112, 3) := by decide +kernel
theorem dL_told_171 : decode cL_told 171 = .ok (.bipush 9, 2) := by decide +kernel
theorem dL_told_173 : decode cL_told 173 = .ok (.if_icmp .ne 83, 3) := by decide +kernel
theorem dL_told_176 : decode cL_told 176 = .ok (.aload_n 0, 1) := by decide +kernel
theorem dL_told_177 : decode cL_told 177 = .ok (.aload_n 1, 1) := by decide +kernel
theorem dL_told_178 : decode cL_told 178 = .ok (.bipush 48, 2) := by decide +kernel
theorem dL_told_180 : decode cL_told 180 = .ok (.iload 4, 2) := by decide +kernel
theorem dL_told_182 : decode cL_told 182 = .ok (.sipush 16384, 3) := by decide +kernel
theorem dL_told_185 : decode cL_told 185 = .ok (.idiv, 1) := by decide +kernel
theorem dL_told_186 : decode cL_told 186 = .ok (.iconst 4, 1) := by decide +kernel
theorem dL_told_187 : decode cL_told 187 = .ok (.irem, 1) := by decide +kernel
theorem dL_told_188 : decode cL_told 188 = .ok (.iadd, 1) := by decide +kernel
theorem dL_told_189 : decode cL_told 189 = .ok (.invokestatic 101, 3) := by decide +kernel
theorem dL_told_192 : decode cL_told 192 = .ok (.ifCond .eq 64, 3) := by decide +kernel
theorem dL_told_195 : decode cL_told 195 = .ok (.aload_n 0, 1) := by decide +kernel
theorem dL_told_196 : decode cL_told 196 = .ok (.aload_n 1, 1) := by decide +kernel
theorem dL_told_197 : decode cL_told 197 = .ok (.iload 5, 2) := by decide +kernel
theorem dL_told_199 : decode cL_told 199 = .ok (.iconst 2, 1) := by decide +kernel
theorem dL_told_200 : decode cL_told 200 = .ok (.irem, 1) := by decide +kernel
theorem dL_told_201 : decode cL_told 201 = .ok (.ifCond .ne 8, 3) := by decide +kernel
theorem dL_told_204 : decode cL_told 204 = .ok (.bipush 43, 2) := by decide +kernel
theorem dL_told_206 : decode cL_told 206 = .ok (.goto 5, 3) := by decide +kernel
theorem dL_told_209 : decode cL_told 209 = .ok (.bipush 45, 2) := by decide +kernel
theorem dL_told_211 : decode cL_told 211 = .ok (.invokestatic 101, 3) := by decide +kernel
theorem dL_told_214 : decode cL_told 214 = .ok (.ifCond .eq 42, 3) := by decide +kernel
theorem dL_told_217 : decode cL_told 217 = .ok (.aload_n 0, 1) := by decide +kernel
theorem dL_told_218 : decode cL_told 218 = .ok (.aload_n 1, 1) := by decide +kernel
theorem dL_told_219 : decode cL_told 219 = .ok (.iload 9, 2) := by decide +kernel
theorem dL_told_221 : decode cL_told 221 = .ok (.invokestatic 115, 3) := by decide +kernel
theorem dL_told_224 : decode cL_told 224 = .ok (.ifCond .eq 32, 3) := by decide +kernel
theorem dL_told_227 : decode cL_told 227 = .ok (.aload_n 0, 1) := by decide +kernel
theorem dL_told_228 : decode cL_told 228 = .ok (.aload_n 1, 1) := by decide +kernel
theorem dL_told_229 : decode cL_told 229 = .ok (.iload 4, 2) := by decide +kernel
theorem dL_told_231 : decode cL_told 231 = .ok (.ldc 118, 2) := by decide +kernel
theorem dL_told_233 : decode cL_told 233 = .ok (.idiv, 1) := by decide +kernel
theorem dL_told_234 : decode cL_told 234 = .ok (.bipush 21, 2) := by decide +kernel
theorem dL_told_236 : decode cL_told 236 = .ok (.irem, 1) := by decide +kernel
theorem dL_told_237 : decode cL_told 237 = .ok (.invokestatic 115, 3) := by decide +kernel
theorem dL_told_240 : decode cL_told 240 = .ok (.ifCond .eq 16, 3) := by decide +kernel
theorem dL_told_243 : decode cL_told 243 = .ok (.aload_n 0, 1) := by decide +kernel
theorem dL_told_244 : decode cL_told 244 = .ok (.invokevirtual 112, 3) := by decide +kernel
theorem dL_told_247 : decode cL_told 247 = .ok (.bipush 15, 2) := by decide +kernel
theorem dL_told_249 : decode cL_told 249 = .ok (.if_icmp .ne 7, 3) := by decide +kernel
theorem dL_told_252 : decode cL_told 252 = .ok (.iconst 1, 1) := by decide +kernel
theorem dL_told_253 : decode cL_told 253 = .ok (.goto 4, 3) := by decide +kernel
theorem dL_told_256 : decode cL_told 256 = .ok (.iconst 0, 1) := by decide +kernel
theorem dL_told_257 : decode cL_told 257 = .ok (.istore 10, 2) := by decide +kernel
theorem dL_told_259 : decode cL_told 259 = .ok (.iconst 0, 1) := by decide +kernel
theorem dL_told_260 : decode cL_told 260 = .ok (.istore 11, 2) := by decide +kernel
theorem dL_told_262 : decode cL_told 262 = .ok (.iload 11, 2) := by decide +kernel
theorem dL_told_264 : decode cL_told 264 = .ok (.iload 6, 2) := by decide +kernel
theorem dL_told_266 : decode cL_told 266 = .ok (.if_icmp .ge 99, 3) := by decide +kernel
theorem dL_told_269 : decode cL_told 269 = .ok (.iload 10, 2) := by decide +kernel
theorem dL_told_271 : decode cL_told 271 = .ok (.ifCond .eq 94, 3) := by decide +kernel
theorem dL_told_274 : decode cL_told 274 = .ok (.aload_n 2, 1) := by decide +kernel
theorem dL_told_275 : decode cL_told 275 = .ok (.iload_n 3, 1) := by decide +kernel
theorem dL_told_276 : decode cL_told 276 = .ok (.iconst 2, 1) := by decide +kernel
theorem dL_told_277 : decode cL_told 277 = .ok (.iadd, 1) := by decide +kernel
theorem dL_told_278 : decode cL_told 278 = .ok (.iload 11, 2) := by decide +kernel
theorem dL_told_280 : decode cL_told 280 = .ok (.iadd, 1) := by decide +kernel
theorem dL_told_281 : decode cL_told 281 = .ok (.invokestatic 105, 3) := by decide +kernel
theorem dL_told_284 : decode cL_told 284 = .ok (.sipush 9999, 3) := by decide +kernel
theorem dL_told_287 : decode cL_told 287 = .ok (.irem, 1) := by decide +kernel
theorem dL_told_288 : decode cL_told 288 = .ok (.iconst 1, 1) := by decide +kernel
theorem dL_told_289 : decode cL_told 289 = .ok (.iadd, 1) := by decide +kernel
theorem dL_told_290 : decode cL_told 290 = .ok (.istore 12, 2) := by decide +kernel
theorem dL_told_292 : decode cL_told 292 = .ok (.aload_n 0, 1) := by decide +kernel
theorem dL_told_293 : decode cL_told 293 = .ok (.aload_n 1, 1) := by decide +kernel
theorem dL_told_294 : decode cL_told 294 = .ok (.bipush 120, 2) := by decide +kernel
theorem dL_told_296 : decode cL_told 296 = .ok (.invokestatic 101, 3) := by decide +kernel
theorem dL_told_299 : decode cL_told 299 = .ok (.ifCond .eq 57, 3) := by decide +kernel
theorem dL_told_302 : decode cL_told 302 = .ok (.aload_n 0, 1) := by decide +kernel
theorem dL_told_303 : decode cL_told 303 = .ok (.invokevirtual 112, 3) := by decide +kernel
theorem dL_told_306 : decode cL_told 306 = .ok (.bipush 16, 2) := by decide +kernel
theorem dL_told_308 : decode cL_told 308 = .ok (.iconst 5, 1) := by decide +kernel
theorem dL_told_309 : decode cL_told 309 = .ok (.iload 11, 2) := by decide +kernel
theorem dL_told_311 : decode cL_told 311 = .ok (.imul, 1) := by decide +kernel
theorem dL_told_312 : decode cL_told 312 = .ok (.iadd, 1) := by decide +kernel
theorem dL_told_313 : decode cL_told 313 = .ok (.if_icmp .ne 43, 3) := by decide +kernel
theorem dL_told_316 : decode cL_told 316 = .ok (.aload_n 0, 1) := by decide +kernel
theorem dL_told_317 : decode cL_told 317 = .ok (.aload_n 1, 1) := by decide +kernel
theorem dL_told_318 : decode cL_told 318 = .ok (.iload 12, 2) := by decide +kernel
theorem dL_told_320 : decode cL_told 320 = .ok (.bipush 100, 2) := by decide +kernel
theorem dL_told_322 : decode cL_told 322 = .ok (.idiv, 1) := by decide +kernel
theorem dL_told_323 : decode cL_told 323 = .ok (.invokestatic 115, 3) := by decide +kernel
theorem dL_told_326 : decode cL_told 326 = .ok (.ifCond .eq 30, 3) := by decide +kernel
theorem dL_told_329 : decode cL_told 329 = .ok (.aload_n 0, 1) := by decide +kernel
theorem dL_told_330 : decode cL_told 330 = .ok (.aload_n 1, 1) := by decide +kernel
theorem dL_told_331 : decode cL_told 331 = .ok (.iload 12, 2) := by decide +kernel
theorem dL_told_333 : decode cL_told 333 = .ok (.bipush 100, 2) := by decide +kernel
theorem dL_told_335 : decode cL_told 335 = .ok (.irem, 1) := by decide +kernel
theorem dL_told_336 : decode cL_told 336 = .ok (.invokestatic 115, 3) := by decide +kernel
theorem dL_told_339 : decode cL_told 339 = .ok (.ifCond .eq 17, 3) := by decide +kernel
theorem dL_told_342 : decode cL_told 342 = .ok (.aload_n 0, 1) := by decide +kernel
theorem dL_told_343 : decode cL_told 343 = .ok (.invokevirtual 112, 3) := by decide +kernel
theorem dL_told_346 : decode cL_told 346 = .ok (.sipush (-9999), 3) := by decide +kernel
theorem dL_told_349 : decode cL_told 349 = .ok (.if_icmp .ne 7, 3) := by decide +kernel
theorem dL_told_352 : decode cL_told 352 = .ok (.iconst 1, 1) := by decide +kernel
theorem dL_told_353 : decode cL_told 353 = .ok (.goto 4, 3) := by decide +kernel
theorem dL_told_356 : decode cL_told 356 = .ok (.iconst 0, 1) := by decide +kernel
theorem dL_told_357 : decode cL_told 357 = .ok (.istore 10, 2) := by decide +kernel
theorem dL_told_359 : decode cL_told 359 = .ok (.iinc 11 1, 3) := by decide +kernel
theorem dL_told_362 : decode cL_told 362 = .ok (.goto (-100), 3) := by decide +kernel
theorem dL_told_365 : decode cL_told 365 = .ok (.iload 10, 2) := by decide +kernel
theorem dL_told_367 : decode cL_told 367 = .ok (.ifCond .eq 158, 3) := by decide +kernel
theorem dL_told_370 : decode cL_told 370 = .ok (.aload_n 0, 1) := by decide +kernel
theorem dL_told_371 : decode cL_told 371 = .ok (.invokestatic 119, 3) := by decide +kernel
theorem dL_told_374 : decode cL_told 374 = .ok (.iload 6, 2) := by decide +kernel
theorem dL_told_376 : decode cL_told 376 = .ok (.if_icmp .ne 149, 3) := by decide +kernel
theorem dL_told_379 : decode cL_told 379 = .ok (.aload_n 1, 1) := by decide +kernel
theorem dL_told_380 : decode cL_told 380 = .ok (.invokestatic 119, 3) := by decide +kernel
theorem dL_told_383 : decode cL_told 383 = .ok (.iload 6, 2) := by decide +kernel
theorem dL_told_385 : decode cL_told 385 = .ok (.if_icmp .ne 140, 3) := by decide +kernel
theorem dL_told_388 : decode cL_told 388 = .ok (.aload_n 0, 1) := by decide +kernel
theorem dL_told_389 : decode cL_told 389 = .ok (.iconst 2, 1) := by decide +kernel
theorem dL_told_390 : decode cL_told 390 = .ok (.invokestatic 123, 3) := by decide +kernel
theorem dL_told_393 : decode cL_told 393 = .ok (.iload 7, 2) := by decide +kernel
theorem dL_told_395 : decode cL_told 395 = .ok (.if_icmp .ne 130, 3) := by decide +kernel
theorem dL_told_398 : decode cL_told 398 = .ok (.aload_n 0, 1) := by decide +kernel
theorem dL_told_399 : decode cL_told 399 = .ok (.iconst 3, 1) := by decide +kernel
theorem dL_told_400 : decode cL_told 400 = .ok (.invokestatic 123, 3) := by decide +kernel
theorem dL_told_403 : decode cL_told 403 = .ok (.iload 8, 2) := by decide +kernel
theorem dL_told_405 : decode cL_told 405 = .ok (.if_icmp .ne 120, 3) := by decide +kernel
theorem dL_told_408 : decode cL_told 408 = .ok (.aload_n 0, 1) := by decide +kernel
theorem dL_told_409 : decode cL_told 409 = .ok (.iconst 5, 1) := by decide +kernel
theorem dL_told_410 : decode cL_told 410 = .ok (.invokestatic 123, 3) := by decide +kernel
theorem dL_told_413 : decode cL_told 413 = .ok (.iload 5, 2) := by decide +kernel
theorem dL_told_415 : decode cL_told 415 = .ok (.iconst 2, 1) := by decide +kernel
theorem dL_told_416 : decode cL_told 416 = .ok (.irem, 1) := by decide +kernel
theorem dL_told_417 : decode cL_told 417 = .ok (.ifCond .ne 8, 3) := by decide +kernel
theorem dL_told_420 : decode cL_told 420 = .ok (.iload 9, 2) := by decide +kernel
theorem dL_told_422 : decode cL_told 422 = .ok (.goto 6, 3) := by decide +kernel
theorem dL_told_425 : decode cL_told 425 = .ok (.iload 9, 2) := by decide +kernel
theorem dL_told_427 : decode cL_told 427 = .ok (.ineg, 1) := by decide +kernel
theorem dL_told_428 : decode cL_told 428 = .ok (.if_icmp .ne 97, 3) := by decide +kernel
theorem dL_told_431 : decode cL_told 431 = .ok (.aload_n 0, 1) := by decide +kernel
theorem dL_told_432 : decode cL_told 432 = .ok (.bipush 7, 2) := by decide +kernel
theorem dL_told_434 : decode cL_told 434 = .ok (.invokestatic 123, 3) := by decide +kernel
theorem dL_told_437 : decode cL_told 437 = .ok (.ifCond .ne 88, 3) := by decide +kernel
theorem dL_told_440 : decode cL_told 440 = .ok (.aload_n 0, 1) := by decide +kernel
theorem dL_told_441 : decode cL_told 441 = .ok (.bipush 10, 2) := by decide +kernel
theorem dL_told_443 : decode cL_told 443 = .ok (.invokestatic 123, 3) := by decide +kernel
theorem dL_told_446 : decode cL_told 446 = .ok (.iload 6, 2) := by decide +kernel
theorem dL_told_448 : decode cL_told 448 = .ok (.if_icmp .ne 77, 3) := by decide +kernel
theorem dL_told_451 : decode cL_told 451 = .ok (.aload_n 0, 1) := by decide +kernel
theorem dL_told_452 : decode cL_told 452 = .ok (.bipush 11, 2) := by decide +kernel
theorem dL_told_454 : decode cL_told 454 = .ok (.invokestatic 123, 3) := by decide +kernel
theorem dL_told_457 : decode cL_told 457 = .ok (.ifCond .ne 68, 3) := by decide +kernel
theorem dL_told_460 : decode cL_told 460 = .ok (.aload_n 0, 1) := by decide +kernel
theorem dL_told_461 : decode cL_told 461 = .ok (.bipush 13, 2) := by decide +kernel
theorem dL_told_463 : decode cL_told 463 = .ok (.invokestatic 123, 3) := by decide +kernel
theorem dL_told_466 : decode cL_told 466 = .ok (.ifCond .ne 59, 3) := by decide +kernel
theorem dL_told_469 : decode cL_told 469 = .ok (.aload_n 0, 1) := by decide +kernel
theorem dL_told_470 : decode cL_told 470 = .ok (.invokestatic 126, 3) := by decide +kernel
theorem dL_told_473 : decode cL_told 473 = .ok (.ldc 18, 2) := by decide +kernel
theorem dL_told_475 : decode cL_told 475 = .ok (.if_icmp .ne 50, 3) := by decide +kernel
theorem dL_told_478 : decode cL_told 478 = .ok (.aload_n 1, 1) := by decide +kernel
theorem dL_told_479 : decode cL_told 479 = .ok (.iconst 1, 1) := by decide +kernel
theorem dL_told_480 : decode cL_told 480 = .ok (.invokestatic 129, 3) := by decide +kernel
theorem dL_told_483 : decode cL_told 483 = .ok (.ldc 18, 2) := by decide +kernel
theorem dL_told_485 : decode cL_told 485 = .ok (.if_icmp .ne 40, 3) := by decide +kernel
theorem dL_told_488 : decode cL_told 488 = .ok (.aload_n 0, 1) := by decide +kernel
theorem dL_told_489 : decode cL_told 489 = .ok (.aload_n 1, 1) := by decide +kernel
theorem dL_told_490 : decode cL_told 490 = .ok (.bipush 121, 2) := by decide +kernel
theorem dL_told_492 : decode cL_told 492 = .ok (.invokestatic 101, 3) := by decide +kernel
theorem dL_told_495 : decode cL_told 495 = .ok (.ifCond .eq 30, 3) := by decide +kernel
theorem dL_told_498 : decode cL_told 498 = .ok (.aload_n 0, 1) := by decide +kernel
theorem dL_told_499 : decode cL_told 499 = .ok (.invokevirtual 112, 3) := by decide +kernel
theorem dL_told_502 : decode cL_told 502 = .ok (.bipush 15, 2) := by decide +kernel
theorem dL_told_504 : decode cL_told 504 = .ok (.iconst 5, 1) := by decide +kernel
theorem dL_told_505 : decode cL_told 505 = .ok (.iload 6, 2) := by decide +kernel
theorem dL_told_507 : decode cL_told 507 = .ok (.imul, 1) := by decide +kernel
theorem dL_told_508 : decode cL_told 508 = .ok (.iadd, 1) := by decide +kernel
theorem dL_told_509 : decode cL_told 509 = .ok (.if_icmp .ne 16, 3) := by decide +kernel
theorem dL_told_512 : decode cL_told 512 = .ok (.aload_n 0, 1) := by decide +kernel
theorem dL_told_513 : decode cL_told 513 = .ok (.invokestatic 119, 3) := by decide +kernel
theorem dL_told_516 : decode cL_told 516 = .ok (.ldc 18, 2) := by decide +kernel
theorem dL_told_518 : decode cL_told 518 = .ok (.if_icmp .ne 7, 3) := by decide +kernel
theorem dL_told_521 : decode cL_told 521 = .ok (.iconst 1, 1) := by decide +kernel
theorem dL_told_522 : decode cL_told 522 = .ok (.goto 4, 3) := by decide +kernel
theorem dL_told_525 : decode cL_told 525 = .ok (.iconst 0, 1) := by decide +kernel
theorem dL_told_526 : decode cL_told 526 = .ok (.ireturn, 1) := by decide +kernel
