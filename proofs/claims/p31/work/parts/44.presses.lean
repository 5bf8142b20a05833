/-! the law's method presses: its rows and words of its calls -/
set_option maxRecDepth 20000 in
theorem ggL_presses_L_tryAbout : GoodIn wsL_presses wsL_tryAbout := goodIn_ca (goodIn_r _ [5, 6, 7, 8, 9, 10, 11, 12, 13, 14, 15, 16, 17, 18, 19, 20, 21, 22, 23, 24, 25, 26, 27, 28, 29, 30, 31, 32, 33, 34, 35, 36, 37, 38, 39, 40, 41, 42, 43, 44, 45, 138, 139, 140, 141, 142, 143, 144, 145, 146, 147, 148, 149, 150, 151, 152, 153, 154, 155, 156, 157, 158, 159, 160, 161, 162, 163, 164] (by decide +kernel) (by decide +kernel)) (goodIn_sub (fun _ h => List.mem_cons_of_mem _ (List.mem_append_left _ (List.mem_append_right _ h))) (by decide +kernel))
set_option maxRecDepth 20000 in
theorem gL_presses_L_tryAbout : GoodIn wsL_presses (va_wsS RL 123 yL_tryAbout wsL_tryAbout) := goodIn_app (goodIn_of _ (by decide +kernel)) ggL_presses_L_tryAbout
set_option maxRecDepth 20000 in
theorem ggL_presses_L_tryPress : GoodIn wsL_presses wsL_tryPress := goodIn_ca (goodIn_r _ [48, 49, 1, 50, 51, 52, 11, 53, 54, 55, 15, 56, 57, 58, 59, 60, 61, 62, 63, 64, 65, 66, 67, 68, 69, 70, 20, 71, 72, 23, 24, 25, 26, 27, 28, 29, 30, 31, 34, 36, 37, 73, 32, 33, 35, 74, 75, 76, 77, 78, 79, 80, 81, 82, 83, 84, 85, 86, 87, 88, 89, 90, 91, 92, 93, 94, 95, 96, 97, 98, 99, 100, 101, 102, 103, 104, 105, 106, 38, 39, 40, 41, 42, 43, 44, 45, 107, 108, 109, 110, 111, 112, 113, 138, 139, 140, 141, 142, 143, 144, 145, 146, 147, 148, 149, 150, 151, 152, 153, 154, 155, 156, 157, 158, 159, 160, 161, 162, 163, 164] (by decide +kernel) (by decide +kernel)) (goodIn_sub (fun _ h => List.mem_cons_of_mem _ (List.mem_append_right _ h)) (by decide +kernel))
set_option maxRecDepth 20000 in
theorem gL_presses_L_tryPress : GoodIn wsL_presses (va_wsS RL 139 yL_tryPress wsL_tryPress) := goodIn_app (goodIn_of _ (by decide +kernel)) ggL_presses_L_tryPress
set_option maxRecDepth 20000 in
theorem ggL_presses_L_tryBridge : GoodIn wsL_presses wsL_tryBridge := goodIn_ca (goodIn_r _ [116, 6, 7, 117, 118, 119, 11, 120, 13, 14, 15, 16, 17, 18, 89, 20, 90, 91, 24, 33, 23, 92, 93, 94, 95, 96, 97, 73, 99, 100, 101, 121, 122, 123, 124, 103, 104, 105, 106, 26, 39, 40, 41, 30, 42, 43, 44, 45, 28, 29, 138, 139, 140, 141, 142, 143, 144, 145, 146, 147, 148, 149, 150, 151, 152, 153, 154, 155, 156, 157, 158, 159, 160, 161] (by decide +kernel) (by decide +kernel)) (goodIn_sub (fun _ h => List.mem_cons_of_mem _ (List.mem_append_left _ (List.mem_append_right _ h))) (by decide +kernel))
set_option maxRecDepth 20000 in
theorem gL_presses_L_tryBridge : GoodIn wsL_presses (va_wsS RL 132 yL_tryBridge wsL_tryBridge) := goodIn_app (goodIn_of _ (by decide +kernel)) ggL_presses_L_tryBridge
set_option maxRecDepth 20000 in
theorem ggL_presses_L_tryTold : GoodIn wsL_presses wsL_tryTold := goodIn_ca (goodIn_r _ [127, 6, 7, 128, 129, 130, 11, 131, 13, 14, 15, 16, 17, 18, 132, 75, 133, 134, 78, 79, 80, 138, 139, 140, 141, 142, 143, 144, 145, 146, 147, 148, 149, 150, 151, 152, 153, 154, 155, 156, 157, 158, 159, 160, 161, 162, 163, 164] (by decide +kernel) (by decide +kernel)) (goodIn_sub (fun _ h => List.mem_cons_of_mem _ (List.mem_append_left _ (List.mem_append_right _ h))) (by decide +kernel))
set_option maxRecDepth 20000 in
theorem gL_presses_L_tryTold : GoodIn wsL_presses (va_wsS RL 135 yL_tryTold wsL_tryTold) := goodIn_app (goodIn_of _ (by decide +kernel)) ggL_presses_L_tryTold
set_option maxRecDepth 20000 in
theorem ggL_presses_L_limited : GoodIn wsL_presses wsL_limited := goodIn_r _ [137] (by decide +kernel) (by decide +kernel)
set_option maxRecDepth 20000 in
theorem gL_presses_L_limited : GoodIn wsL_presses (va_wsS RL 192 yL_limited wsL_limited) := goodIn_app (goodIn_of _ (by decide +kernel)) ggL_presses_L_limited
theorem dL_presses_0 : decode cL_presses 0 = .ok (.aload_n 0, 1) := by decide +kernel
theorem dL_presses_1 : decode cL_presses 1 = .ok (.bipush 12, 2) := by decide +kernel
theorem dL_presses_3 : decode cL_presses 3 = .ok (.invokestatic 123, 3) := by decide +kernel
theorem dL_presses_6 : decode cL_presses 6 = .ok (.iconst 1, 1) := by decide +kernel
theorem dL_presses_7 : decode cL_presses 7 = .ok (.if_icmp .ne 19, 3) := by decide +kernel
theorem dL_presses_10 : decode cL_presses 10 = .ok (.aload_n 0, 1) := by decide +kernel
theorem dL_presses_11 : decode cL_presses 11 = .ok (.iload_n 1, 1) := by decide +kernel
theorem dL_presses_12 : decode cL_presses 12 = .ok (.invokestatic 139, 3) := by decide +kernel
theorem dL_presses_15 : decode cL_presses 15 = .ok (.ldc 18, 2) := by decide +kernel
theorem dL_presses_17 : decode cL_presses 17 = .ok (.if_icmp .ne 7, 3) := by decide +kernel
theorem dL_presses_20 : decode cL_presses 20 = .ok (.iconst 1, 1) := by decide +kernel
theorem dL_presses_21 : decode cL_presses 21 = .ok (.goto 4, 3) := by decide +kernel
theorem dL_presses_24 : decode cL_presses 24 = .ok (.iconst 0, 1) := by decide +kernel
theorem dL_presses_25 : decode cL_presses 25 = .ok (.ireturn, 1) := by decide +kernel
theorem dL_presses_26 : decode cL_presses 26 = .ok (.aload_n 0, 1) := by decide +kernel
theorem dL_presses_27 : decode cL_presses 27 = .ok (.iload_n 1, 1) := by decide +kernel
theorem dL_presses_28 : decode cL_presses 28 = .ok (.ifCond .eq 7, 3) := by decide +kernel
theorem dL_presses_31 : decode cL_presses 31 = .ok (.iconst 4, 1) := by decide +kernel
theorem dL_presses_32 : decode cL_presses 32 = .ok (.goto 4, 3) := by decide +kernel
theorem dL_presses_35 : decode cL_presses 35 = .ok (.iconst 3, 1) := by decide +kernel
theorem dL_presses_36 : decode cL_presses 36 = .ok (.invokestatic 132, 3) := by decide +kernel
theorem dL_presses_39 : decode cL_presses 39 = .ok (.istore_n 2, 1) := by decide +kernel
theorem dL_presses_40 : decode cL_presses 40 = .ok (.aload_n 0, 1) := by decide +kernel
theorem dL_presses_41 : decode cL_presses 41 = .ok (.bipush 9, 2) := by decide +kernel
theorem dL_presses_43 : decode cL_presses 43 = .ok (.invokestatic 123, 3) := by decide +kernel
theorem dL_presses_46 : decode cL_presses 46 = .ok (.istore_n 3, 1) := by decide +kernel
theorem dL_presses_47 : decode cL_presses 47 = .ok (.aload_n 0, 1) := by decide +kernel
theorem dL_presses_48 : decode cL_presses 48 = .ok (.bipush 7, 2) := by decide +kernel
theorem dL_presses_50 : decode cL_presses 50 = .ok (.invokestatic 123, 3) := by decide +kernel
theorem dL_presses_53 : decode cL_presses 53 = .ok (.aload_n 0, 1) := by decide +kernel
theorem dL_presses_54 : decode cL_presses 54 = .ok (.iconst 3, 1) := by decide +kernel
theorem dL_presses_55 : decode cL_presses 55 = .ok (.invokestatic 123, 3) := by decide +kernel
theorem dL_presses_58 : decode cL_presses 58 = .ok (.iadd, 1) := by decide +kernel
theorem dL_presses_59 : decode cL_presses 59 = .ok (.istore 4, 2) := by decide +kernel
theorem dL_presses_61 : decode cL_presses 61 = .ok (.aload_n 0, 1) := by decide +kernel
theorem dL_presses_62 : decode cL_presses 62 = .ok (.bipush 14, 2) := by decide +kernel
theorem dL_presses_64 : decode cL_presses 64 = .ok (.invokestatic 123, 3) := by decide +kernel
theorem dL_presses_67 : decode cL_presses 67 = .ok (.istore 5, 2) := by decide +kernel
theorem dL_presses_69 : decode cL_presses 69 = .ok (.aload_n 0, 1) := by decide +kernel
theorem dL_presses_70 : decode cL_presses 70 = .ok (.bipush 15, 2) := by decide +kernel
theorem dL_presses_72 : decode cL_presses 72 = .ok (.invokestatic 123, 3) := by decide +kernel
theorem dL_presses_75 : decode cL_presses 75 = .ok (.istore 6, 2) := by decide +kernel
theorem dL_presses_77 : decode cL_presses 77 = .ok (.aload_n 0, 1) := by decide +kernel
theorem dL_presses_78 : decode cL_presses 78 = .ok (.iconst 0, 1) := by decide +kernel
theorem dL_presses_79 : decode cL_presses 79 = .ok (.iconst 0, 1) := by decide +kernel
theorem dL_presses_80 : decode cL_presses 80 = .ok (.invokestatic 135, 3) := by decide +kernel
theorem dL_presses_83 : decode cL_presses 83 = .ok (.istore 7, 2) := by decide +kernel
theorem dL_presses_85 : decode cL_presses 85 = .ok (.iload_n 2, 1) := by decide +kernel
theorem dL_presses_86 : decode cL_presses 86 = .ok (.sipush (-5000), 3) := by decide +kernel
theorem dL_presses_89 : decode cL_presses 89 = .ok (.if_icmp .lt 10, 3) := by decide +kernel
theorem dL_presses_92 : decode cL_presses 92 = .ok (.iload_n 2, 1) := by decide +kernel
theorem dL_presses_93 : decode cL_presses 93 = .ok (.sipush 5000, 3) := by decide +kernel
theorem dL_presses_96 : decode cL_presses 96 = .ok (.if_icmp .le 7, 3) := by decide +kernel
theorem dL_presses_99 : decode cL_presses 99 = .ok (.iconst 1, 1) := by decide +kernel
theorem dL_presses_100 : decode cL_presses 100 = .ok (.goto 4, 3) := by decide +kernel
theorem dL_presses_103 : decode cL_presses 103 = .ok (.iconst 0, 1) := by decide +kernel
theorem dL_presses_104 : decode cL_presses 104 = .ok (.istore 8, 2) := by decide +kernel
theorem dL_presses_106 : decode cL_presses 106 = .ok (.aload_n 0, 1) := by decide +kernel
theorem dL_presses_107 : decode cL_presses 107 = .ok (.iconst 3, 1) := by decide +kernel
theorem dL_presses_108 : decode cL_presses 108 = .ok (.invokestatic 132, 3) := by decide +kernel
theorem dL_presses_111 : decode cL_presses 111 = .ok (.aload_n 0, 1) := by decide +kernel
theorem dL_presses_112 : decode cL_presses 112 = .ok (.iconst 4, 1) := by decide +kernel
theorem dL_presses_113 : decode cL_presses 113 = .ok (.invokestatic 132, 3) := by decide +kernel
theorem dL_presses_116 : decode cL_presses 116 = .ok (.iadd, 1) := by decide +kernel
theorem dL_presses_117 : decode cL_presses 117 = .ok (.iconst 2, 1) := by decide +kernel
theorem dL_presses_118 : decode cL_presses 118 = .ok (.aload_n 0, 1) := by decide +kernel
theorem dL_presses_119 : decode cL_presses 119 = .ok (.bipush 8, 2) := by decide +kernel
theorem dL_presses_121 : decode cL_presses 121 = .ok (.invokestatic 123, 3) := by decide +kernel
theorem dL_presses_124 : decode cL_presses 124 = .ok (.imul, 1) := by decide +kernel
theorem dL_presses_125 : decode cL_presses 125 = .ok (.if_icmp .ne 28, 3) := by decide +kernel
theorem dL_presses_128 : decode cL_presses 128 = .ok (.aload_n 0, 1) := by decide +kernel
theorem dL_presses_129 : decode cL_presses 129 = .ok (.iconst 3, 1) := by decide +kernel
theorem dL_presses_130 : decode cL_presses 130 = .ok (.invokestatic 132, 3) := by decide +kernel
theorem dL_presses_133 : decode cL_presses 133 = .ok (.aload_n 0, 1) := by decide +kernel
theorem dL_presses_134 : decode cL_presses 134 = .ok (.iconst 4, 1) := by decide +kernel
theorem dL_presses_135 : decode cL_presses 135 = .ok (.invokestatic 132, 3) := by decide +kernel
theorem dL_presses_138 : decode cL_presses 138 = .ok (.isub, 1) := by decide +kernel
theorem dL_presses_139 : decode cL_presses 139 = .ok (.iconst 2, 1) := by decide +kernel
theorem dL_presses_140 : decode cL_presses 140 = .ok (.aload_n 0, 1) := by decide +kernel
theorem dL_presses_141 : decode cL_presses 141 = .ok (.iconst 2, 1) := by decide +kernel
theorem dL_presses_142 : decode cL_presses 142 = .ok (.invokestatic 132, 3) := by decide +kernel
theorem dL_presses_145 : decode cL_presses 145 = .ok (.imul, 1) := by decide +kernel
theorem dL_presses_146 : decode cL_presses 146 = .ok (.if_icmp .ne 7, 3) := by decide +kernel
theorem dL_presses_149 : decode cL_presses 149 = .ok (.iconst 1, 1) := by decide +kernel
theorem dL_presses_150 : decode cL_presses 150 = .ok (.goto 4, 3) := by decide +kernel
theorem dL_presses_153 : decode cL_presses 153 = .ok (.iconst 0, 1) := by decide +kernel
theorem dL_presses_154 : decode cL_presses 154 = .ok (.istore 9, 2) := by decide +kernel
theorem dL_presses_156 : decode cL_presses 156 = .ok (.iload 9, 2) := by decide +kernel
theorem dL_presses_158 : decode cL_presses 158 = .ok (.ifCond .eq 207, 3) := by decide +kernel
theorem dL_presses_161 : decode cL_presses 161 = .ok (.aload_n 0, 1) := by decide +kernel
theorem dL_presses_162 : decode cL_presses 162 = .ok (.iload_n 1, 1) := by decide +kernel
theorem dL_presses_163 : decode cL_presses 163 = .ok (.invokestatic 139, 3) := by decide +kernel
theorem dL_presses_166 : decode cL_presses 166 = .ok (.iload_n 2, 1) := by decide +kernel
theorem dL_presses_167 : decode cL_presses 167 = .ok (.invokestatic 192, 3) := by decide +kernel
theorem dL_presses_170 : decode cL_presses 170 = .ok (.if_icmp .ne 195, 3) := by decide +kernel
theorem dL_presses_173 : decode cL_presses 173 = .ok (.aload_n 0, 1) := by decide +kernel
theorem dL_presses_174 : decode cL_presses 174 = .ok (.iconst 0, 1) := by decide +kernel
theorem dL_presses_175 : decode cL_presses 175 = .ok (.iconst 0, 1) := by decide +kernel
theorem dL_presses_176 : decode cL_presses 176 = .ok (.invokestatic 135, 3) := by decide +kernel
theorem dL_presses_179 : decode cL_presses 179 = .ok (.iload_n 2, 1) := by decide +kernel
theorem dL_presses_180 : decode cL_presses 180 = .ok (.invokestatic 192, 3) := by decide +kernel
theorem dL_presses_183 : decode cL_presses 183 = .ok (.if_icmp .ne 182, 3) := by decide +kernel
theorem dL_presses_186 : decode cL_presses 186 = .ok (.aload_n 0, 1) := by decide +kernel
theorem dL_presses_187 : decode cL_presses 187 = .ok (.iconst 1, 1) := by decide +kernel
theorem dL_presses_188 : decode cL_presses 188 = .ok (.iconst 0, 1) := by decide +kernel
theorem dL_presses_189 : decode cL_presses 189 = .ok (.invokestatic 135, 3) := by decide +kernel
theorem dL_presses_192 : decode cL_presses 192 = .ok (.iload 7, 2) := by decide +kernel
theorem dL_presses_194 : decode cL_presses 194 = .ok (.if_icmp .ne 171, 3) := by decide +kernel
theorem dL_presses_197 : decode cL_presses 197 = .ok (.aload_n 0, 1) := by decide +kernel
theorem dL_presses_198 : decode cL_presses 198 = .ok (.iconst 0, 1) := by decide +kernel
theorem dL_presses_199 : decode cL_presses 199 = .ok (.iconst 1, 1) := by decide +kernel
theorem dL_presses_200 : decode cL_presses 200 = .ok (.invokestatic 135, 3) := by decide +kernel
theorem dL_presses_203 : decode cL_presses 203 = .ok (.iload_n 1, 1) := by decide +kernel
theorem dL_presses_204 : decode cL_presses 204 = .ok (.ifCond .eq 7, 3) := by decide +kernel
theorem dL_presses_207 : decode cL_presses 207 = .ok (.iconst (-1), 1) := by decide +kernel
theorem dL_presses_208 : decode cL_presses 208 = .ok (.goto 4, 3) := by decide +kernel
theorem dL_presses_211 : decode cL_presses 211 = .ok (.iconst 1, 1) := by decide +kernel
theorem dL_presses_212 : decode cL_presses 212 = .ok (.if_icmp .ne 153, 3) := by decide +kernel
theorem dL_presses_215 : decode cL_presses 215 = .ok (.aload_n 0, 1) := by decide +kernel
theorem dL_presses_216 : decode cL_presses 216 = .ok (.iconst 0, 1) := by decide +kernel
theorem dL_presses_217 : decode cL_presses 217 = .ok (.iconst 2, 1) := by decide +kernel
theorem dL_presses_218 : decode cL_presses 218 = .ok (.invokestatic 135, 3) := by decide +kernel
theorem dL_presses_221 : decode cL_presses 221 = .ok (.aload_n 0, 1) := by decide +kernel
theorem dL_presses_222 : decode cL_presses 222 = .ok (.iconst 2, 1) := by decide +kernel
theorem dL_presses_223 : decode cL_presses 223 = .ok (.invokestatic 123, 3) := by decide +kernel
theorem dL_presses_226 : decode cL_presses 226 = .ok (.if_icmp .ne 139, 3) := by decide +kernel
theorem dL_presses_229 : decode cL_presses 229 = .ok (.aload_n 0, 1) := by decide +kernel
theorem dL_presses_230 : decode cL_presses 230 = .ok (.iconst 0, 1) := by decide +kernel
theorem dL_presses_231 : decode cL_presses 231 = .ok (.iconst 3, 1) := by decide +kernel
theorem dL_presses_232 : decode cL_presses 232 = .ok (.invokestatic 135, 3) := by decide +kernel
theorem dL_presses_235 : decode cL_presses 235 = .ok (.iload_n 3, 1) := by decide +kernel
theorem dL_presses_236 : decode cL_presses 236 = .ok (.if_icmp .ne 129, 3) := by decide +kernel
theorem dL_presses_239 : decode cL_presses 239 = .ok (.aload_n 0, 1) := by decide +kernel
theorem dL_presses_240 : decode cL_presses 240 = .ok (.bipush 7, 2) := by decide +kernel
theorem dL_presses_242 : decode cL_presses 242 = .ok (.invokestatic 123, 3) := by decide +kernel
theorem dL_presses_245 : decode cL_presses 245 = .ok (.iload 4, 2) := by decide +kernel
theorem dL_presses_247 : decode cL_presses 247 = .ok (.sipush 9999, 3) := by decide +kernel
theorem dL_presses_250 : decode cL_presses 250 = .ok (.if_icmp .le 9, 3) := by decide +kernel
theorem dL_presses_253 : decode cL_presses 253 = .ok (.sipush 9999, 3) := by decide +kernel
theorem dL_presses_256 : decode cL_presses 256 = .ok (.goto 5, 3) := by decide +kernel
theorem dL_presses_259 : decode cL_presses 259 = .ok (.iload 4, 2) := by decide +kernel
theorem dL_presses_261 : decode cL_presses 261 = .ok (.if_icmp .ne 104, 3) := by decide +kernel
theorem dL_presses_264 : decode cL_presses 264 = .ok (.aload_n 0, 1) := by decide +kernel
theorem dL_presses_265 : decode cL_presses 265 = .ok (.bipush 9, 2) := by decide +kernel
theorem dL_presses_267 : decode cL_presses 267 = .ok (.invokestatic 123, 3) := by decide +kernel
theorem dL_presses_270 : decode cL_presses 270 = .ok (.iload_n 3, 1) := by decide +kernel
theorem dL_presses_271 : decode cL_presses 271 = .ok (.iconst 1, 1) := by decide +kernel
theorem dL_presses_272 : decode cL_presses 272 = .ok (.iadd, 1) := by decide +kernel
theorem dL_presses_273 : decode cL_presses 273 = .ok (.if_icmp .ne 92, 3) := by decide +kernel
theorem dL_presses_276 : decode cL_presses 276 = .ok (.aload_n 0, 1) := by decide +kernel
theorem dL_presses_277 : decode cL_presses 277 = .ok (.bipush 14, 2) := by decide +kernel
theorem dL_presses_279 : decode cL_presses 279 = .ok (.invokestatic 123, 3) := by decide +kernel
theorem dL_presses_282 : decode cL_presses 282 = .ok (.iload 5, 2) := by decide +kernel
theorem dL_presses_284 : decode cL_presses 284 = .ok (.iconst 1, 1) := by decide +kernel
theorem dL_presses_285 : decode cL_presses 285 = .ok (.iadd, 1) := by decide +kernel
theorem dL_presses_286 : decode cL_presses 286 = .ok (.if_icmp .ne 79, 3) := by decide +kernel
theorem dL_presses_289 : decode cL_presses 289 = .ok (.aload_n 0, 1) := by decide +kernel
theorem dL_presses_290 : decode cL_presses 290 = .ok (.bipush 12, 2) := by decide +kernel
theorem dL_presses_292 : decode cL_presses 292 = .ok (.invokestatic 123, 3) := by decide +kernel
theorem dL_presses_295 : decode cL_presses 295 = .ok (.iload 8, 2) := by decide +kernel
theorem dL_presses_297 : decode cL_presses 297 = .ok (.ifCond .eq 7, 3) := by decide +kernel
theorem dL_presses_300 : decode cL_presses 300 = .ok (.iconst 1, 1) := by decide +kernel
theorem dL_presses_301 : decode cL_presses 301 = .ok (.goto 4, 3) := by decide +kernel
theorem dL_presses_304 : decode cL_presses 304 = .ok (.iconst 0, 1) := by decide +kernel
theorem dL_presses_305 : decode cL_presses 305 = .ok (.if_icmp .ne 60, 3) := by decide +kernel
theorem dL_presses_308 : decode cL_presses 308 = .ok (.aload_n 0, 1) := by decide +kernel
theorem dL_presses_309 : decode cL_presses 309 = .ok (.bipush 15, 2) := by decide +kernel
theorem dL_presses_311 : decode cL_presses 311 = .ok (.invokestatic 123, 3) := by decide +kernel
theorem dL_presses_314 : decode cL_presses 314 = .ok (.iload 6, 2) := by decide +kernel
theorem dL_presses_316 : decode cL_presses 316 = .ok (.iload 8, 2) := by decide +kernel
theorem dL_presses_318 : decode cL_presses 318 = .ok (.ifCond .eq 7, 3) := by decide +kernel
theorem dL_presses_321 : decode cL_presses 321 = .ok (.iconst 1, 1) := by decide +kernel
theorem dL_presses_322 : decode cL_presses 322 = .ok (.goto 4, 3) := by decide +kernel
theorem dL_presses_325 : decode cL_presses 325 = .ok (.iconst 0, 1) := by decide +kernel
theorem dL_presses_326 : decode cL_presses 326 = .ok (.iadd, 1) := by decide +kernel
theorem dL_presses_327 : decode cL_presses 327 = .ok (.if_icmp .ne 38, 3) := by decide +kernel
theorem dL_presses_330 : decode cL_presses 330 = .ok (.aload_n 0, 1) := by decide +kernel
theorem dL_presses_331 : decode cL_presses 331 = .ok (.bipush 8, 2) := by decide +kernel
theorem dL_presses_333 : decode cL_presses 333 = .ok (.invokestatic 123, 3) := by decide +kernel
theorem dL_presses_336 : decode cL_presses 336 = .ok (.aload_n 0, 1) := by decide +kernel
theorem dL_presses_337 : decode cL_presses 337 = .ok (.iconst 5, 1) := by decide +kernel
theorem dL_presses_338 : decode cL_presses 338 = .ok (.invokestatic 123, 3) := by decide +kernel
theorem dL_presses_341 : decode cL_presses 341 = .ok (.aload_n 0, 1) := by decide +kernel
theorem dL_presses_342 : decode cL_presses 342 = .ok (.bipush 7, 2) := by decide +kernel
theorem dL_presses_344 : decode cL_presses 344 = .ok (.invokestatic 123, 3) := by decide +kernel
theorem dL_presses_347 : decode cL_presses 347 = .ok (.aload_n 0, 1) := by decide +kernel
theorem dL_presses_348 : decode cL_presses 348 = .ok (.bipush 6, 2) := by decide +kernel
theorem dL_presses_350 : decode cL_presses 350 = .ok (.invokestatic 123, 3) := by decide +kernel
theorem dL_presses_353 : decode cL_presses 353 = .ok (.imul, 1) := by decide +kernel
theorem dL_presses_354 : decode cL_presses 354 = .ok (.bipush 100, 2) := by decide +kernel
theorem dL_presses_356 : decode cL_presses 356 = .ok (.idiv, 1) := by decide +kernel
theorem dL_presses_357 : decode cL_presses 357 = .ok (.iadd, 1) := by decide +kernel
theorem dL_presses_358 : decode cL_presses 358 = .ok (.if_icmp .ne 7, 3) := by decide +kernel
theorem dL_presses_361 : decode cL_presses 361 = .ok (.iconst 1, 1) := by decide +kernel
theorem dL_presses_362 : decode cL_presses 362 = .ok (.goto 4, 3) := by decide +kernel
theorem dL_presses_365 : decode cL_presses 365 = .ok (.iconst 0, 1) := by decide +kernel
theorem dL_presses_366 : decode cL_presses 366 = .ok (.ireturn, 1) := by decide +kernel
