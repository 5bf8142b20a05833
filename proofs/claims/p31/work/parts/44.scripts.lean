/-! the law's method scripts: its rows and words of its calls -/
set_option maxRecDepth 20000 in
theorem ggL_scripts_L_tryAbout : GoodIn wsL_scripts wsL_tryAbout := goodIn_ca (goodIn_r _ [26, 27, 28, 29, 30, 31, 32, 33, 34, 35, 36, 37, 38, 39, 40, 41, 42, 43, 44, 45, 46, 47, 48, 49, 50, 51, 52, 53, 54, 55, 56, 57, 58, 59, 60, 61, 62, 63, 64, 65, 66, 198, 199, 200, 201, 202, 203, 204, 205, 206, 207, 208, 209, 210, 211, 212, 213, 214, 215, 216, 217, 218, 219, 220, 221, 222, 223, 224] (by decide +kernel) (by decide +kernel)) (goodIn_sub (fun _ h => List.mem_cons_of_mem _ (List.mem_append_right _ h)) (by decide +kernel))
set_option maxRecDepth 20000 in
theorem gL_scripts_L_tryAbout : GoodIn wsL_scripts (va_wsS RL 123 yL_tryAbout wsL_tryAbout) := goodIn_app (goodIn_of _ (by decide +kernel)) ggL_scripts_L_tryAbout
set_option maxRecDepth 20000 in
theorem ggL_scripts_L_tryTold : GoodIn wsL_scripts wsL_tryTold := goodIn_ca (goodIn_r _ [69, 27, 28, 70, 71, 72, 32, 73, 34, 35, 36, 37, 38, 39, 74, 75, 76, 77, 78, 79, 80, 198, 199, 200, 201, 202, 203, 204, 205, 206, 207, 208, 209, 210, 211, 212, 213, 214, 215, 216, 217, 218, 219, 220, 221, 222, 223, 224] (by decide +kernel) (by decide +kernel)) (goodIn_sub (fun _ h => List.mem_cons_of_mem _ (List.mem_append_right _ h)) (by decide +kernel))
set_option maxRecDepth 20000 in
theorem gL_scripts_L_tryTold : GoodIn wsL_scripts (va_wsS RL 135 yL_tryTold wsL_tryTold) := goodIn_app (goodIn_of _ (by decide +kernel)) ggL_scripts_L_tryTold
set_option maxRecDepth 20000 in
theorem ggL_scripts_L_trySimulate : GoodIn wsL_scripts wsL_trySimulate := goodIn_ca (goodIn_r _ [83, 27, 28, 84, 85, 86, 32, 87, 34, 35, 88, 36, 89, 90, 37, 38, 39, 91, 41, 92, 93, 44, 45, 46, 47, 48, 49, 50, 51, 52, 55, 57, 58, 94, 53, 54, 56, 95, 75, 96, 97, 78, 79, 80, 98, 99, 100, 101, 102, 103, 104, 105, 106, 107, 108, 109, 110, 111, 112, 113, 114, 115, 116, 117, 118, 119, 120, 121, 122, 123, 124, 125, 126, 127, 128, 129, 130, 131, 132, 133, 134, 135, 136, 137, 138, 139, 140, 59, 60, 61, 62, 63, 64, 65, 66, 141, 142, 143, 144, 145, 146, 147, 198, 199, 200, 201, 202, 203, 204, 205, 206, 207, 208, 209, 210, 211, 212, 213, 214, 215, 216, 217, 218, 219, 220, 221, 222, 223, 224] (by decide +kernel) (by decide +kernel)) (goodIn_sub (fun _ h => List.mem_cons_of_mem _ (List.mem_append_right _ h)) (by decide +kernel))
set_option maxRecDepth 20000 in
theorem gL_scripts_L_trySimulate : GoodIn wsL_scripts (va_wsS RL 185 yL_trySimulate wsL_trySimulate) := goodIn_app (goodIn_of _ (by decide +kernel)) ggL_scripts_L_trySimulate
set_option maxRecDepth 20000 in
theorem ggL_scripts_L_tryScript : GoodIn wsL_scripts wsL_tryScript := goodIn_ca (goodIn_r _ [150, 27, 28, 151, 152, 153, 32, 154, 34, 35, 88, 36, 155, 37, 38, 39, 156, 157, 158, 91, 41, 92, 93, 44, 45, 46, 47, 48, 49, 50, 51, 52, 55, 57, 58, 94, 53, 54, 56, 95, 75, 96, 97, 78, 79, 80, 159, 160, 161, 162, 163, 164, 165, 166, 116, 117, 118, 119, 120, 110, 121, 108, 109, 111, 122, 123, 124, 125, 126, 127, 128, 129, 130, 131, 132, 133, 134, 135, 136, 137, 138, 139, 140, 59, 60, 61, 62, 63, 64, 65, 66, 141, 142, 143, 144, 145, 146, 147, 167, 168, 169, 170, 102, 103, 104, 105, 106, 107, 171, 172, 173, 174, 175, 176, 177, 178, 179, 180, 181, 182, 183, 184, 185, 186, 187, 188, 189, 190, 191, 192, 193, 194, 74, 76, 77, 198, 199, 200, 201, 202, 203, 204, 205, 206, 207, 208, 209, 210, 211, 212, 213, 214, 215, 216, 217, 218, 219, 220, 221, 222, 223, 224] (by decide +kernel) (by decide +kernel)) (goodIn_sub (fun _ h => List.mem_cons_of_mem _ (List.mem_append_right _ h)) (by decide +kernel))
set_option maxRecDepth 20000 in
theorem gL_scripts_L_tryScript : GoodIn wsL_scripts (va_wsS RL 179 yL_tryScript wsL_tryScript) := goodIn_app (goodIn_of _ (by decide +kernel)) ggL_scripts_L_tryScript
set_option maxRecDepth 20000 in
theorem ggL_scripts_L_size : GoodIn wsL_scripts wsL_size := goodIn_r _ [197] (by decide +kernel) (by decide +kernel)
set_option maxRecDepth 20000 in
theorem gL_scripts_L_size : GoodIn wsL_scripts (va_wsS RL 198 yL_size wsL_size) := goodIn_app (goodIn_of _ (by decide +kernel)) ggL_scripts_L_size
theorem dL_scripts_0 : decode cL_scripts 0 = .ok (.aload_n 0, 1) := by decide +kernel
theorem dL_scripts_1 : decode cL_scripts 1 = .ok (.iconst 2, 1) := by decide +kernel
theorem dL_scripts_2 : decode cL_scripts 2 = .ok (.invokestatic 123, 3) := by decide +kernel
theorem dL_scripts_5 : decode cL_scripts 5 = .ok (.istore_n 2, 1) := by decide +kernel
theorem dL_scripts_6 : decode cL_scripts 6 = .ok (.aload_n 0, 1) := by decide +kernel
theorem dL_scripts_7 : decode cL_scripts 7 = .ok (.bipush 8, 2) := by decide +kernel
theorem dL_scripts_9 : decode cL_scripts 9 = .ok (.invokestatic 123, 3) := by decide +kernel
theorem dL_scripts_12 : decode cL_scripts 12 = .ok (.istore_n 3, 1) := by decide +kernel
theorem dL_scripts_13 : decode cL_scripts 13 = .ok (.aload_n 0, 1) := by decide +kernel
theorem dL_scripts_14 : decode cL_scripts 14 = .ok (.bipush 10, 2) := by decide +kernel
theorem dL_scripts_16 : decode cL_scripts 16 = .ok (.invokestatic 123, 3) := by decide +kernel
theorem dL_scripts_19 : decode cL_scripts 19 = .ok (.istore 4, 2) := by decide +kernel
theorem dL_scripts_21 : decode cL_scripts 21 = .ok (.aload_n 0, 1) := by decide +kernel
theorem dL_scripts_22 : decode cL_scripts 22 = .ok (.iconst 0, 1) := by decide +kernel
theorem dL_scripts_23 : decode cL_scripts 23 = .ok (.iconst 0, 1) := by decide +kernel
theorem dL_scripts_24 : decode cL_scripts 24 = .ok (.invokestatic 135, 3) := by decide +kernel
theorem dL_scripts_27 : decode cL_scripts 27 = .ok (.istore 5, 2) := by decide +kernel
theorem dL_scripts_29 : decode cL_scripts 29 = .ok (.aload_n 0, 1) := by decide +kernel
theorem dL_scripts_30 : decode cL_scripts 30 = .ok (.bipush 12, 2) := by decide +kernel
theorem dL_scripts_32 : decode cL_scripts 32 = .ok (.invokestatic 123, 3) := by decide +kernel
theorem dL_scripts_35 : decode cL_scripts 35 = .ok (.istore 6, 2) := by decide +kernel
theorem dL_scripts_37 : decode cL_scripts 37 = .ok (.aload_n 0, 1) := by decide +kernel
theorem dL_scripts_38 : decode cL_scripts 38 = .ok (.iload_n 1, 1) := by decide +kernel
theorem dL_scripts_39 : decode cL_scripts 39 = .ok (.i2l, 1) := by decide +kernel
theorem dL_scripts_40 : decode cL_scripts 40 = .ok (.ldc2_w 217, 3) := by decide +kernel
theorem dL_scripts_43 : decode cL_scripts 43 = .ok (.lmul, 1) := by decide +kernel
theorem dL_scripts_44 : decode cL_scripts 44 = .ok (.bipush 30, 2) := by decide +kernel
theorem dL_scripts_46 : decode cL_scripts 46 = .ok (.invokestatic 185, 3) := by decide +kernel
theorem dL_scripts_49 : decode cL_scripts 49 = .ok (.istore 7, 2) := by decide +kernel
theorem dL_scripts_51 : decode cL_scripts 51 = .ok (.aload_n 0, 1) := by decide +kernel
theorem dL_scripts_52 : decode cL_scripts 52 = .ok (.iconst 1, 1) := by decide +kernel
theorem dL_scripts_53 : decode cL_scripts 53 = .ok (.ldc2_w 219, 3) := by decide +kernel
theorem dL_scripts_56 : decode cL_scripts 56 = .ok (.iload_n 2, 1) := by decide +kernel
theorem dL_scripts_57 : decode cL_scripts 57 = .ok (.i2l, 1) := by decide +kernel
theorem dL_scripts_58 : decode cL_scripts 58 = .ok (.ladd, 1) := by decide +kernel
theorem dL_scripts_59 : decode cL_scripts 59 = .ok (.invokestatic 179, 3) := by decide +kernel
theorem dL_scripts_62 : decode cL_scripts 62 = .ok (.sipush (-9999), 3) := by decide +kernel
theorem dL_scripts_65 : decode cL_scripts 65 = .ok (.if_icmp .ne 210, 3) := by decide +kernel
theorem dL_scripts_68 : decode cL_scripts 68 = .ok (.aload_n 0, 1) := by decide +kernel
theorem dL_scripts_69 : decode cL_scripts 69 = .ok (.iconst 1, 1) := by decide +kernel
theorem dL_scripts_70 : decode cL_scripts 70 = .ok (.ldc2_w 219, 3) := by decide +kernel
theorem dL_scripts_73 : decode cL_scripts 73 = .ok (.iload_n 2, 1) := by decide +kernel
theorem dL_scripts_74 : decode cL_scripts 74 = .ok (.iconst 1, 1) := by decide +kernel
theorem dL_scripts_75 : decode cL_scripts 75 = .ok (.iadd, 1) := by decide +kernel
theorem dL_scripts_76 : decode cL_scripts 76 = .ok (.sipush 10000, 3) := by decide +kernel
theorem dL_scripts_79 : decode cL_scripts 79 = .ok (.irem, 1) := by decide +kernel
theorem dL_scripts_80 : decode cL_scripts 80 = .ok (.i2l, 1) := by decide +kernel
theorem dL_scripts_81 : decode cL_scripts 81 = .ok (.ladd, 1) := by decide +kernel
theorem dL_scripts_82 : decode cL_scripts 82 = .ok (.invokestatic 179, 3) := by decide +kernel
theorem dL_scripts_85 : decode cL_scripts 85 = .ok (.ifCond .ne 190, 3) := by decide +kernel
theorem dL_scripts_88 : decode cL_scripts 88 = .ok (.iload 5, 2) := by decide +kernel
theorem dL_scripts_90 : decode cL_scripts 90 = .ok (.sipush (-9999), 3) := by decide +kernel
theorem dL_scripts_93 : decode cL_scripts 93 = .ok (.if_icmp .ne 17, 3) := by decide +kernel
theorem dL_scripts_96 : decode cL_scripts 96 = .ok (.aload_n 0, 1) := by decide +kernel
theorem dL_scripts_97 : decode cL_scripts 97 = .ok (.iconst 1, 1) := by decide +kernel
theorem dL_scripts_98 : decode cL_scripts 98 = .ok (.ldc2_w 221, 3) := by decide +kernel
theorem dL_scripts_101 : decode cL_scripts 101 = .ok (.invokestatic 179, 3) := by decide +kernel
theorem dL_scripts_104 : decode cL_scripts 104 = .ok (.ifCond .ne 171, 3) := by decide +kernel
theorem dL_scripts_107 : decode cL_scripts 107 = .ok (.goto 64, 3) := by decide +kernel
theorem dL_scripts_110 : decode cL_scripts 110 = .ok (.aload_n 0, 1) := by decide +kernel
theorem dL_scripts_111 : decode cL_scripts 111 = .ok (.iconst 1, 1) := by decide +kernel
theorem dL_scripts_112 : decode cL_scripts 112 = .ok (.iload 5, 2) := by decide +kernel
theorem dL_scripts_114 : decode cL_scripts 114 = .ok (.ifCond .ge 9, 3) := by decide +kernel
theorem dL_scripts_117 : decode cL_scripts 117 = .ok (.ldc2_w 223, 3) := by decide +kernel
theorem dL_scripts_120 : decode cL_scripts 120 = .ok (.goto 6, 3) := by decide +kernel
theorem dL_scripts_123 : decode cL_scripts 123 = .ok (.ldc2_w 221, 3) := by decide +kernel
theorem dL_scripts_126 : decode cL_scripts 126 = .ok (.iload 5, 2) := by decide +kernel
theorem dL_scripts_128 : decode cL_scripts 128 = .ok (.invokestatic 198, 3) := by decide +kernel
theorem dL_scripts_131 : decode cL_scripts 131 = .ok (.i2l, 1) := by decide +kernel
theorem dL_scripts_132 : decode cL_scripts 132 = .ok (.ladd, 1) := by decide +kernel
theorem dL_scripts_133 : decode cL_scripts 133 = .ok (.invokestatic 179, 3) := by decide +kernel
theorem dL_scripts_136 : decode cL_scripts 136 = .ok (.sipush (-9999), 3) := by decide +kernel
theorem dL_scripts_139 : decode cL_scripts 139 = .ok (.if_icmp .ne 136, 3) := by decide +kernel
theorem dL_scripts_142 : decode cL_scripts 142 = .ok (.aload_n 0, 1) := by decide +kernel
theorem dL_scripts_143 : decode cL_scripts 143 = .ok (.iconst 1, 1) := by decide +kernel
theorem dL_scripts_144 : decode cL_scripts 144 = .ok (.iload 5, 2) := by decide +kernel
theorem dL_scripts_146 : decode cL_scripts 146 = .ok (.ifCond .ge 9, 3) := by decide +kernel
theorem dL_scripts_149 : decode cL_scripts 149 = .ok (.ldc2_w 225, 3) := by decide +kernel
theorem dL_scripts_152 : decode cL_scripts 152 = .ok (.goto 6, 3) := by decide +kernel
theorem dL_scripts_155 : decode cL_scripts 155 = .ok (.ldc2_w 227, 3) := by decide +kernel
theorem dL_scripts_158 : decode cL_scripts 158 = .ok (.iload 5, 2) := by decide +kernel
theorem dL_scripts_160 : decode cL_scripts 160 = .ok (.invokestatic 198, 3) := by decide +kernel
theorem dL_scripts_163 : decode cL_scripts 163 = .ok (.i2l, 1) := by decide +kernel
theorem dL_scripts_164 : decode cL_scripts 164 = .ok (.ladd, 1) := by decide +kernel
theorem dL_scripts_165 : decode cL_scripts 165 = .ok (.invokestatic 179, 3) := by decide +kernel
theorem dL_scripts_168 : decode cL_scripts 168 = .ok (.ifCond .ne 107, 3) := by decide +kernel
theorem dL_scripts_171 : decode cL_scripts 171 = .ok (.iload_n 3, 1) := by decide +kernel
theorem dL_scripts_172 : decode cL_scripts 172 = .ok (.ifCond .lt 26, 3) := by decide +kernel
theorem dL_scripts_175 : decode cL_scripts 175 = .ok (.iload_n 3, 1) := by decide +kernel
theorem dL_scripts_176 : decode cL_scripts 176 = .ok (.bipush 99, 2) := by decide +kernel
theorem dL_scripts_178 : decode cL_scripts 178 = .ok (.if_icmp .gt 20, 3) := by decide +kernel
theorem dL_scripts_181 : decode cL_scripts 181 = .ok (.aload_n 0, 1) := by decide +kernel
theorem dL_scripts_182 : decode cL_scripts 182 = .ok (.iconst 1, 1) := by decide +kernel
theorem dL_scripts_183 : decode cL_scripts 183 = .ok (.ldc2_w 229, 3) := by decide +kernel
theorem dL_scripts_186 : decode cL_scripts 186 = .ok (.iload_n 3, 1) := by decide +kernel
theorem dL_scripts_187 : decode cL_scripts 187 = .ok (.i2l, 1) := by decide +kernel
theorem dL_scripts_188 : decode cL_scripts 188 = .ok (.ladd, 1) := by decide +kernel
theorem dL_scripts_189 : decode cL_scripts 189 = .ok (.invokestatic 179, 3) := by decide +kernel
theorem dL_scripts_192 : decode cL_scripts 192 = .ok (.sipush (-9999), 3) := by decide +kernel
theorem dL_scripts_195 : decode cL_scripts 195 = .ok (.if_icmp .ne 80, 3) := by decide +kernel
theorem dL_scripts_198 : decode cL_scripts 198 = .ok (.iload_n 3, 1) := by decide +kernel
theorem dL_scripts_199 : decode cL_scripts 199 = .ok (.iconst 1, 1) := by decide +kernel
theorem dL_scripts_200 : decode cL_scripts 200 = .ok (.if_icmp .lt 23, 3) := by decide +kernel
theorem dL_scripts_203 : decode cL_scripts 203 = .ok (.iload_n 3, 1) := by decide +kernel
theorem dL_scripts_204 : decode cL_scripts 204 = .ok (.bipush 100, 2) := by decide +kernel
theorem dL_scripts_206 : decode cL_scripts 206 = .ok (.if_icmp .gt 17, 3) := by decide +kernel
theorem dL_scripts_209 : decode cL_scripts 209 = .ok (.aload_n 0, 1) := by decide +kernel
theorem dL_scripts_210 : decode cL_scripts 210 = .ok (.iconst 1, 1) := by decide +kernel
theorem dL_scripts_211 : decode cL_scripts 211 = .ok (.ldc2_w 231, 3) := by decide +kernel
theorem dL_scripts_214 : decode cL_scripts 214 = .ok (.iload_n 3, 1) := by decide +kernel
theorem dL_scripts_215 : decode cL_scripts 215 = .ok (.i2l, 1) := by decide +kernel
theorem dL_scripts_216 : decode cL_scripts 216 = .ok (.ladd, 1) := by decide +kernel
theorem dL_scripts_217 : decode cL_scripts 217 = .ok (.invokestatic 179, 3) := by decide +kernel
theorem dL_scripts_220 : decode cL_scripts 220 = .ok (.ifCond .ne 55, 3) := by decide +kernel
theorem dL_scripts_223 : decode cL_scripts 223 = .ok (.aload_n 0, 1) := by decide +kernel
theorem dL_scripts_224 : decode cL_scripts 224 = .ok (.iconst 1, 1) := by decide +kernel
theorem dL_scripts_225 : decode cL_scripts 225 = .ok (.ldc2_w 233, 3) := by decide +kernel
theorem dL_scripts_228 : decode cL_scripts 228 = .ok (.invokestatic 179, 3) := by decide +kernel
theorem dL_scripts_231 : decode cL_scripts 231 = .ok (.iload 6, 2) := by decide +kernel
theorem dL_scripts_233 : decode cL_scripts 233 = .ok (.iconst 1, 1) := by decide +kernel
theorem dL_scripts_234 : decode cL_scripts 234 = .ok (.if_icmp .ne 7, 3) := by decide +kernel
theorem dL_scripts_237 : decode cL_scripts 237 = .ok (.iconst 0, 1) := by decide +kernel
theorem dL_scripts_238 : decode cL_scripts 238 = .ok (.goto 6, 3) := by decide +kernel
theorem dL_scripts_241 : decode cL_scripts 241 = .ok (.sipush (-9999), 3) := by decide +kernel
theorem dL_scripts_244 : decode cL_scripts 244 = .ok (.if_icmp .ne 31, 3) := by decide +kernel
theorem dL_scripts_247 : decode cL_scripts 247 = .ok (.aload_n 0, 1) := by decide +kernel
theorem dL_scripts_248 : decode cL_scripts 248 = .ok (.iconst 1, 1) := by decide +kernel
theorem dL_scripts_249 : decode cL_scripts 249 = .ok (.ldc2_w 235, 3) := by decide +kernel
theorem dL_scripts_252 : decode cL_scripts 252 = .ok (.invokestatic 179, 3) := by decide +kernel
theorem dL_scripts_255 : decode cL_scripts 255 = .ok (.iload 6, 2) := by decide +kernel
theorem dL_scripts_257 : decode cL_scripts 257 = .ok (.iconst 1, 1) := by decide +kernel
theorem dL_scripts_258 : decode cL_scripts 258 = .ok (.if_icmp .ne 7, 3) := by decide +kernel
theorem dL_scripts_261 : decode cL_scripts 261 = .ok (.iconst 0, 1) := by decide +kernel
theorem dL_scripts_262 : decode cL_scripts 262 = .ok (.goto 6, 3) := by decide +kernel
theorem dL_scripts_265 : decode cL_scripts 265 = .ok (.sipush (-9999), 3) := by decide +kernel
theorem dL_scripts_268 : decode cL_scripts 268 = .ok (.if_icmp .ne 7, 3) := by decide +kernel
theorem dL_scripts_271 : decode cL_scripts 271 = .ok (.iconst 1, 1) := by decide +kernel
theorem dL_scripts_272 : decode cL_scripts 272 = .ok (.goto 4, 3) := by decide +kernel
theorem dL_scripts_275 : decode cL_scripts 275 = .ok (.iconst 0, 1) := by decide +kernel
theorem dL_scripts_276 : decode cL_scripts 276 = .ok (.istore 8, 2) := by decide +kernel
theorem dL_scripts_278 : decode cL_scripts 278 = .ok (.iload 8, 2) := by decide +kernel
theorem dL_scripts_280 : decode cL_scripts 280 = .ok (.ifCond .eq 184, 3) := by decide +kernel
theorem dL_scripts_283 : decode cL_scripts 283 = .ok (.aload_n 0, 1) := by decide +kernel
theorem dL_scripts_284 : decode cL_scripts 284 = .ok (.iconst 1, 1) := by decide +kernel
theorem dL_scripts_285 : decode cL_scripts 285 = .ok (.ldc2_w 237, 3) := by decide +kernel
theorem dL_scripts_288 : decode cL_scripts 288 = .ok (.invokestatic 179, 3) := by decide +kernel
theorem dL_scripts_291 : decode cL_scripts 291 = .ok (.ifCond .ne 173, 3) := by decide +kernel
theorem dL_scripts_294 : decode cL_scripts 294 = .ok (.aload_n 0, 1) := by decide +kernel
theorem dL_scripts_295 : decode cL_scripts 295 = .ok (.iconst 1, 1) := by decide +kernel
theorem dL_scripts_296 : decode cL_scripts 296 = .ok (.ldc2_w 239, 3) := by decide +kernel
theorem dL_scripts_299 : decode cL_scripts 299 = .ok (.invokestatic 179, 3) := by decide +kernel
theorem dL_scripts_302 : decode cL_scripts 302 = .ok (.ifCond .ne 162, 3) := by decide +kernel
theorem dL_scripts_305 : decode cL_scripts 305 = .ok (.aload_n 0, 1) := by decide +kernel
theorem dL_scripts_306 : decode cL_scripts 306 = .ok (.iconst 1, 1) := by decide +kernel
theorem dL_scripts_307 : decode cL_scripts 307 = .ok (.ldc2_w 241, 3) := by decide +kernel
theorem dL_scripts_310 : decode cL_scripts 310 = .ok (.invokestatic 179, 3) := by decide +kernel
theorem dL_scripts_313 : decode cL_scripts 313 = .ok (.ifCond .ne 151, 3) := by decide +kernel
theorem dL_scripts_316 : decode cL_scripts 316 = .ok (.aload_n 0, 1) := by decide +kernel
theorem dL_scripts_317 : decode cL_scripts 317 = .ok (.iconst 1, 1) := by decide +kernel
theorem dL_scripts_318 : decode cL_scripts 318 = .ok (.ldc2_w 243, 3) := by decide +kernel
theorem dL_scripts_321 : decode cL_scripts 321 = .ok (.invokestatic 179, 3) := by decide +kernel
theorem dL_scripts_324 : decode cL_scripts 324 = .ok (.ifCond .ne 140, 3) := by decide +kernel
theorem dL_scripts_327 : decode cL_scripts 327 = .ok (.aload_n 0, 1) := by decide +kernel
theorem dL_scripts_328 : decode cL_scripts 328 = .ok (.iconst 2, 1) := by decide +kernel
theorem dL_scripts_329 : decode cL_scripts 329 = .ok (.ldc2_w 245, 3) := by decide +kernel
theorem dL_scripts_332 : decode cL_scripts 332 = .ok (.invokestatic 179, 3) := by decide +kernel
theorem dL_scripts_335 : decode cL_scripts 335 = .ok (.sipush (-9999), 3) := by decide +kernel
theorem dL_scripts_338 : decode cL_scripts 338 = .ok (.if_icmp .ne 126, 3) := by decide +kernel
theorem dL_scripts_341 : decode cL_scripts 341 = .ok (.aload_n 0, 1) := by decide +kernel
theorem dL_scripts_342 : decode cL_scripts 342 = .ok (.iconst 1, 1) := by decide +kernel
theorem dL_scripts_343 : decode cL_scripts 343 = .ok (.ldc2_w 247, 3) := by decide +kernel
theorem dL_scripts_346 : decode cL_scripts 346 = .ok (.invokestatic 179, 3) := by decide +kernel
theorem dL_scripts_349 : decode cL_scripts 349 = .ok (.ifCond .ne 115, 3) := by decide +kernel
theorem dL_scripts_352 : decode cL_scripts 352 = .ok (.aload_n 0, 1) := by decide +kernel
theorem dL_scripts_353 : decode cL_scripts 353 = .ok (.iconst 1, 1) := by decide +kernel
theorem dL_scripts_354 : decode cL_scripts 354 = .ok (.ldc2_w 249, 3) := by decide +kernel
theorem dL_scripts_357 : decode cL_scripts 357 = .ok (.invokestatic 179, 3) := by decide +kernel
theorem dL_scripts_360 : decode cL_scripts 360 = .ok (.ifCond .ne 104, 3) := by decide +kernel
theorem dL_scripts_363 : decode cL_scripts 363 = .ok (.aload_n 0, 1) := by decide +kernel
theorem dL_scripts_364 : decode cL_scripts 364 = .ok (.iconst 1, 1) := by decide +kernel
theorem dL_scripts_365 : decode cL_scripts 365 = .ok (.ldc2_w 251, 3) := by decide +kernel
theorem dL_scripts_368 : decode cL_scripts 368 = .ok (.invokestatic 179, 3) := by decide +kernel
theorem dL_scripts_371 : decode cL_scripts 371 = .ok (.ifCond .ne 93, 3) := by decide +kernel
theorem dL_scripts_374 : decode cL_scripts 374 = .ok (.aload_n 0, 1) := by decide +kernel
theorem dL_scripts_375 : decode cL_scripts 375 = .ok (.iconst 1, 1) := by decide +kernel
theorem dL_scripts_376 : decode cL_scripts 376 = .ok (.ldc2_w 253, 3) := by decide +kernel
theorem dL_scripts_379 : decode cL_scripts 379 = .ok (.invokestatic 179, 3) := by decide +kernel
theorem dL_scripts_382 : decode cL_scripts 382 = .ok (.sipush (-9999), 3) := by decide +kernel
theorem dL_scripts_385 : decode cL_scripts 385 = .ok (.if_icmp .ne 79, 3) := by decide +kernel
theorem dL_scripts_388 : decode cL_scripts 388 = .ok (.aload_n 0, 1) := by decide +kernel
theorem dL_scripts_389 : decode cL_scripts 389 = .ok (.iconst 1, 1) := by decide +kernel
theorem dL_scripts_390 : decode cL_scripts 390 = .ok (.ldc2_w 255, 3) := by decide +kernel
theorem dL_scripts_393 : decode cL_scripts 393 = .ok (.ldc2_w 257, 3) := by decide +kernel
theorem dL_scripts_396 : decode cL_scripts 396 = .ok (.iload 4, 2) := by decide +kernel
theorem dL_scripts_398 : decode cL_scripts 398 = .ok (.i2l, 1) := by decide +kernel
theorem dL_scripts_399 : decode cL_scripts 399 = .ok (.lmul, 1) := by decide +kernel
theorem dL_scripts_400 : decode cL_scripts 400 = .ok (.ladd, 1) := by decide +kernel
theorem dL_scripts_401 : decode cL_scripts 401 = .ok (.invokestatic 179, 3) := by decide +kernel
theorem dL_scripts_404 : decode cL_scripts 404 = .ok (.ifCond .ne 60, 3) := by decide +kernel
theorem dL_scripts_407 : decode cL_scripts 407 = .ok (.aload_n 0, 1) := by decide +kernel
theorem dL_scripts_408 : decode cL_scripts 408 = .ok (.iconst 1, 1) := by decide +kernel
theorem dL_scripts_409 : decode cL_scripts 409 = .ok (.ldc2_w 259, 3) := by decide +kernel
theorem dL_scripts_412 : decode cL_scripts 412 = .ok (.invokestatic 179, 3) := by decide +kernel
theorem dL_scripts_415 : decode cL_scripts 415 = .ok (.ifCond .ne 49, 3) := by decide +kernel
theorem dL_scripts_418 : decode cL_scripts 418 = .ok (.aload_n 0, 1) := by decide +kernel
theorem dL_scripts_419 : decode cL_scripts 419 = .ok (.iconst 1, 1) := by decide +kernel
theorem dL_scripts_420 : decode cL_scripts 420 = .ok (.lconst 0, 1) := by decide +kernel
theorem dL_scripts_421 : decode cL_scripts 421 = .ok (.invokestatic 179, 3) := by decide +kernel
theorem dL_scripts_424 : decode cL_scripts 424 = .ok (.ifCond .ne 40, 3) := by decide +kernel
theorem dL_scripts_427 : decode cL_scripts 427 = .ok (.iload 7, 2) := by decide +kernel
theorem dL_scripts_429 : decode cL_scripts 429 = .ok (.sipush 15000, 3) := by decide +kernel
theorem dL_scripts_432 : decode cL_scripts 432 = .ok (.if_icmp .gt 32, 3) := by decide +kernel
theorem dL_scripts_435 : decode cL_scripts 435 = .ok (.iload 7, 2) := by decide +kernel
theorem dL_scripts_437 : decode cL_scripts 437 = .ok (.sipush (-15000), 3) := by decide +kernel
theorem dL_scripts_440 : decode cL_scripts 440 = .ok (.if_icmp .lt 24, 3) := by decide +kernel
theorem dL_scripts_443 : decode cL_scripts 443 = .ok (.iload 7, 2) := by decide +kernel
theorem dL_scripts_445 : decode cL_scripts 445 = .ok (.aload_n 0, 1) := by decide +kernel
theorem dL_scripts_446 : decode cL_scripts 446 = .ok (.iload_n 1, 1) := by decide +kernel
theorem dL_scripts_447 : decode cL_scripts 447 = .ok (.i2l, 1) := by decide +kernel
theorem dL_scripts_448 : decode cL_scripts 448 = .ok (.ldc2_w 217, 3) := by decide +kernel
theorem dL_scripts_451 : decode cL_scripts 451 = .ok (.lmul, 1) := by decide +kernel
theorem dL_scripts_452 : decode cL_scripts 452 = .ok (.bipush 30, 2) := by decide +kernel
theorem dL_scripts_454 : decode cL_scripts 454 = .ok (.invokestatic 185, 3) := by decide +kernel
theorem dL_scripts_457 : decode cL_scripts 457 = .ok (.if_icmp .ne 7, 3) := by decide +kernel
theorem dL_scripts_460 : decode cL_scripts 460 = .ok (.iconst 1, 1) := by decide +kernel
theorem dL_scripts_461 : decode cL_scripts 461 = .ok (.goto 4, 3) := by decide +kernel
theorem dL_scripts_464 : decode cL_scripts 464 = .ok (.iconst 0, 1) := by decide +kernel
theorem dL_scripts_465 : decode cL_scripts 465 = .ok (.ireturn, 1) := by decide +kernel
