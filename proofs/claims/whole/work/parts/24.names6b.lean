theorem dX4_balanced_0 : decode cX4_balanced 0 = .ok (.aload_n 0, 1) := by decide +kernel
theorem dX4_balanced_1 : decode cX4_balanced 1 = .ok (.iload_n 1, 1) := by decide +kernel
theorem dX4_balanced_2 : decode cX4_balanced 2 = .ok (.i2l, 1) := by decide +kernel
theorem dX4_balanced_3 : decode cX4_balanced 3 = .ok (.lconst 0, 1) := by decide +kernel
theorem dX4_balanced_4 : decode cX4_balanced 4 = .ok (.ldc2_w 36, 3) := by decide +kernel
theorem dX4_balanced_7 : decode cX4_balanced 7 = .ok (.invokestatic 38, 3) := by decide +kernel
theorem dX4_balanced_10 : decode cX4_balanced 10 = .ok (.ifCond .eq 7, 3) := by decide +kernel
theorem dX4_balanced_13 : decode cX4_balanced 13 = .ok (.iconst 0, 1) := by decide +kernel
theorem dX4_balanced_14 : decode cX4_balanced 14 = .ok (.goto 4, 3) := by decide +kernel
theorem dX4_balanced_17 : decode cX4_balanced 17 = .ok (.iconst 1, 1) := by decide +kernel
theorem dX4_balanced_18 : decode cX4_balanced 18 = .ok (.invokevirtual 95, 3) := by decide +kernel
theorem dX4_balanced_21 : decode cX4_balanced 21 = .ok (.ifCond .eq 5, 3) := by decide +kernel
theorem dX4_balanced_24 : decode cX4_balanced 24 = .ok (.iconst 0, 1) := by decide +kernel
theorem dX4_balanced_25 : decode cX4_balanced 25 = .ok (.ireturn, 1) := by decide +kernel
theorem dX4_balanced_26 : decode cX4_balanced 26 = .ok (.aload_n 0, 1) := by decide +kernel
theorem dX4_balanced_27 : decode cX4_balanced 27 = .ok (.getfield 16, 3) := by decide +kernel
theorem dX4_balanced_30 : decode cX4_balanced 30 = .ok (.iconst 0, 1) := by decide +kernel
theorem dX4_balanced_31 : decode cX4_balanced 31 = .ok (.aload_n 0, 1) := by decide +kernel
theorem dX4_balanced_32 : decode cX4_balanced 32 = .ok (.getfield 19, 3) := by decide +kernel
theorem dX4_balanced_35 : decode cX4_balanced 35 = .ok (.iconst 0, 1) := by decide +kernel
theorem dX4_balanced_36 : decode cX4_balanced 36 = .ok (.invokestatic 119, 3) := by decide +kernel
theorem dX4_balanced_39 : decode cX4_balanced 39 = .ok (.aload_n 0, 1) := by decide +kernel
theorem dX4_balanced_40 : decode cX4_balanced 40 = .ok (.getfield 19, 3) := by decide +kernel
theorem dX4_balanced_43 : decode cX4_balanced 43 = .ok (.bipush 11, 2) := by decide +kernel
theorem dX4_balanced_45 : decode cX4_balanced 45 = .ok (.iconst 0, 1) := by decide +kernel
theorem dX4_balanced_46 : decode cX4_balanced 46 = .ok (.iastore, 1) := by decide +kernel
theorem dX4_balanced_47 : decode cX4_balanced 47 = .ok (.aload_n 0, 1) := by decide +kernel
theorem dX4_balanced_48 : decode cX4_balanced 48 = .ok (.getfield 19, 3) := by decide +kernel
theorem dX4_balanced_51 : decode cX4_balanced 51 = .ok (.invokestatic 147, 3) := by decide +kernel
theorem dX4_balanced_54 : decode cX4_balanced 54 = .ok (.iload_n 1, 1) := by decide +kernel
theorem dX4_balanced_55 : decode cX4_balanced 55 = .ok (.ifCond .ne 12, 3) := by decide +kernel
theorem dX4_balanced_58 : decode cX4_balanced 58 = .ok (.aload_n 0, 1) := by decide +kernel
theorem dX4_balanced_59 : decode cX4_balanced 59 = .ok (.getfield 19, 3) := by decide +kernel
theorem dX4_balanced_62 : decode cX4_balanced 62 = .ok (.iconst 2, 1) := by decide +kernel
theorem dX4_balanced_63 : decode cX4_balanced 63 = .ok (.iaload, 1) := by decide +kernel
theorem dX4_balanced_64 : decode cX4_balanced 64 = .ok (.goto 48, 3) := by decide +kernel
theorem dX4_balanced_67 : decode cX4_balanced 67 = .ok (.iload_n 1, 1) := by decide +kernel
theorem dX4_balanced_68 : decode cX4_balanced 68 = .ok (.iconst 1, 1) := by decide +kernel
theorem dX4_balanced_69 : decode cX4_balanced 69 = .ok (.if_icmp .ne 21, 3) := by decide +kernel
theorem dX4_balanced_72 : decode cX4_balanced 72 = .ok (.aload_n 0, 1) := by decide +kernel
theorem dX4_balanced_73 : decode cX4_balanced 73 = .ok (.getfield 19, 3) := by decide +kernel
theorem dX4_balanced_76 : decode cX4_balanced 76 = .ok (.bipush 13, 2) := by decide +kernel
theorem dX4_balanced_78 : decode cX4_balanced 78 = .ok (.iaload, 1) := by decide +kernel
theorem dX4_balanced_79 : decode cX4_balanced 79 = .ok (.aload_n 0, 1) := by decide +kernel
theorem dX4_balanced_80 : decode cX4_balanced 80 = .ok (.getfield 16, 3) := by decide +kernel
theorem dX4_balanced_83 : decode cX4_balanced 83 = .ok (.bipush 13, 2) := by decide +kernel
theorem dX4_balanced_85 : decode cX4_balanced 85 = .ok (.iaload, 1) := by decide +kernel
theorem dX4_balanced_86 : decode cX4_balanced 86 = .ok (.isub, 1) := by decide +kernel
theorem dX4_balanced_87 : decode cX4_balanced 87 = .ok (.goto 25, 3) := by decide +kernel
theorem dX4_balanced_90 : decode cX4_balanced 90 = .ok (.iload_n 1, 1) := by decide +kernel
theorem dX4_balanced_91 : decode cX4_balanced 91 = .ok (.iconst 2, 1) := by decide +kernel
theorem dX4_balanced_92 : decode cX4_balanced 92 = .ok (.if_icmp .ne 13, 3) := by decide +kernel
theorem dX4_balanced_95 : decode cX4_balanced 95 = .ok (.aload_n 0, 1) := by decide +kernel
theorem dX4_balanced_96 : decode cX4_balanced 96 = .ok (.getfield 19, 3) := by decide +kernel
theorem dX4_balanced_99 : decode cX4_balanced 99 = .ok (.bipush 7, 2) := by decide +kernel
theorem dX4_balanced_101 : decode cX4_balanced 101 = .ok (.iaload, 1) := by decide +kernel
theorem dX4_balanced_102 : decode cX4_balanced 102 = .ok (.goto 10, 3) := by decide +kernel
theorem dX4_balanced_105 : decode cX4_balanced 105 = .ok (.aload_n 0, 1) := by decide +kernel
theorem dX4_balanced_106 : decode cX4_balanced 106 = .ok (.getfield 19, 3) := by decide +kernel
theorem dX4_balanced_109 : decode cX4_balanced 109 = .ok (.bipush 11, 2) := by decide +kernel
theorem dX4_balanced_111 : decode cX4_balanced 111 = .ok (.iaload, 1) := by decide +kernel
theorem dX4_balanced_112 : decode cX4_balanced 112 = .ok (.ireturn, 1) := by decide +kernel
set_option maxRecDepth 20000 in
theorem ggX4_does_X4_in : GoodIn wsX4_does wsX4_in := goodIn_r _ [7] (by decide +kernel) (by decide +kernel)
set_option maxRecDepth 20000 in
theorem gX4_does_X4_in : GoodIn wsX4_does (va_wsS RX4 38 yX4_in wsX4_in) := goodIn_app (goodIn_of _ (by decide +kernel)) ggX4_does_X4_in
set_option maxRecDepth 20000 in
theorem ggX4_does_X4_pressOn : GoodIn wsX4_does wsX4_pressOn := goodIn_r _ [10, 11, 12, 6, 13, 14, 15, 16, 17, 18, 19, 20, 21, 22, 23, 24, 25, 26, 27, 28, 29, 30, 31, 32] (by decide +kernel) (by decide +kernel)
set_option maxRecDepth 20000 in
theorem gX4_does_X4_pressOn : GoodIn wsX4_does (va_wsS RX4 79 yX4_pressOn wsX4_pressOn) := goodIn_app (goodIn_of _ (by decide +kernel)) ggX4_does_X4_pressOn
set_option maxRecDepth 20000 in
theorem ggX4_does_X4_waitOn : GoodIn wsX4_does wsX4_waitOn := goodIn_r _ [35] (by decide +kernel) (by decide +kernel)
set_option maxRecDepth 20000 in
theorem gX4_does_X4_waitOn : GoodIn wsX4_does (va_wsS RX4 83 yX4_waitOn wsX4_waitOn) := goodIn_app (goodIn_of _ (by decide +kernel)) ggX4_does_X4_waitOn
set_option maxRecDepth 20000 in
theorem ggX4_does_X4_isSetting : GoodIn wsX4_does wsX4_isSetting := goodIn_r _ [38, 39, 40, 1, 41, 42, 43, 4, 5, 6, 7] (by decide +kernel) (by decide +kernel)
set_option maxRecDepth 20000 in
theorem gX4_does_X4_isSetting : GoodIn wsX4_does (va_wsS RX4 135 yX4_isSetting wsX4_isSetting) := goodIn_app (goodIn_of _ (by decide +kernel)) ggX4_does_X4_isSetting
set_option maxRecDepth 20000 in
theorem ggX4_does_X4_isUnknown : GoodIn wsX4_does wsX4_isUnknown := goodIn_r _ [46, 4, 5, 6, 7] (by decide +kernel) (by decide +kernel)
set_option maxRecDepth 20000 in
theorem gX4_does_X4_isUnknown : GoodIn wsX4_does (va_wsS RX4 139 yX4_isUnknown wsX4_isUnknown) := goodIn_app (goodIn_of _ (by decide +kernel)) ggX4_does_X4_isUnknown
set_option maxRecDepth 20000 in
theorem ggX4_does_X4_balanceOn : GoodIn wsX4_does wsX4_balanceOn := goodIn_r _ [49, 50, 51, 6, 52, 8, 9, 10, 11, 12, 13, 14, 15, 16, 17, 18, 19, 20, 21, 22, 23, 24, 25, 26, 27, 28, 29, 30, 31, 32] (by decide +kernel) (by decide +kernel)
set_option maxRecDepth 20000 in
theorem gX4_does_X4_balanceOn : GoodIn wsX4_does (va_wsS RX4 147 yX4_balanceOn wsX4_balanceOn) := goodIn_app (goodIn_of _ (by decide +kernel)) ggX4_does_X4_balanceOn
set_option maxRecDepth 20000 in
theorem ggX4_does_X4_offsetOf : GoodIn wsX4_does wsX4_offsetOf := goodIn_r _ [32] (by decide +kernel) (by decide +kernel)
set_option maxRecDepth 20000 in
theorem gX4_does_X4_offsetOf : GoodIn wsX4_does (va_wsS RX4 72 yX4_offsetOf wsX4_offsetOf) := goodIn_app (goodIn_of _ (by decide +kernel)) ggX4_does_X4_offsetOf
theorem dX4_does_0 : decode cX4_does 0 = .ok (.iload_n 2, 1) := by decide +kernel
theorem dX4_does_1 : decode cX4_does 1 = .ok (.sipush 1000, 3) := by decide +kernel
theorem dX4_does_4 : decode cX4_does 4 = .ok (.idiv, 1) := by decide +kernel
theorem dX4_does_5 : decode cX4_does 5 = .ok (.istore_n 3, 1) := by decide +kernel
theorem dX4_does_6 : decode cX4_does 6 = .ok (.iload_n 2, 1) := by decide +kernel
theorem dX4_does_7 : decode cX4_does 7 = .ok (.sipush 1000, 3) := by decide +kernel
theorem dX4_does_10 : decode cX4_does 10 = .ok (.irem, 1) := by decide +kernel
theorem dX4_does_11 : decode cX4_does 11 = .ok (.istore 4, 2) := by decide +kernel
theorem dX4_does_13 : decode cX4_does 13 = .ok (.iload_n 1, 1) := by decide +kernel
theorem dX4_does_14 : decode cX4_does 14 = .ok (.tableswitch 344 1 9 #[50, 119, 149, 158, 191, 219, 245, 261, 304], 50) := by decide +kernel
theorem dX4_does_64 : decode cX4_does 64 = .ok (.iload_n 3, 1) := by decide +kernel
theorem dX4_does_65 : decode cX4_does 65 = .ok (.iconst 1, 1) := by decide +kernel
theorem dX4_does_66 : decode cX4_does 66 = .ok (.if_icmp .gt 16, 3) := by decide +kernel
theorem dX4_does_69 : decode cX4_does 69 = .ok (.iload 4, 2) := by decide +kernel
theorem dX4_does_71 : decode cX4_does 71 = .ok (.i2l, 1) := by decide +kernel
theorem dX4_does_72 : decode cX4_does 72 = .ok (.lconst 1, 1) := by decide +kernel
theorem dX4_does_73 : decode cX4_does 73 = .ok (.ldc2_w 44, 3) := by decide +kernel
theorem dX4_does_76 : decode cX4_does 76 = .ok (.invokestatic 38, 3) := by decide +kernel
theorem dX4_does_79 : decode cX4_does 79 = .ok (.ifCond .ne 5, 3) := by decide +kernel
theorem dX4_does_82 : decode cX4_does 82 = .ok (.iconst 0, 1) := by decide +kernel
theorem dX4_does_83 : decode cX4_does 83 = .ok (.ireturn, 1) := by decide +kernel
theorem dX4_does_84 : decode cX4_does 84 = .ok (.iconst 0, 1) := by decide +kernel
theorem dX4_does_85 : decode cX4_does 85 = .ok (.istore 5, 2) := by decide +kernel
theorem dX4_does_87 : decode cX4_does 87 = .ok (.iload 5, 2) := by decide +kernel
theorem dX4_does_89 : decode cX4_does 89 = .ok (.iload 4, 2) := by decide +kernel
theorem dX4_does_91 : decode cX4_does 91 = .ok (.if_icmp .ge 40, 3) := by decide +kernel
theorem dX4_does_94 : decode cX4_does 94 = .ok (.aload_n 0, 1) := by decide +kernel
theorem dX4_does_95 : decode cX4_does 95 = .ok (.getfield 19, 3) := by decide +kernel
theorem dX4_does_98 : decode cX4_does 98 = .ok (.bipush 11, 2) := by decide +kernel
theorem dX4_does_100 : decode cX4_does 100 = .ok (.iaload, 1) := by decide +kernel
theorem dX4_does_101 : decode cX4_does 101 = .ok (.iconst 1, 1) := by decide +kernel
theorem dX4_does_102 : decode cX4_does 102 = .ok (.if_icmp .ne 5, 3) := by decide +kernel
theorem dX4_does_105 : decode cX4_does 105 = .ok (.iconst 0, 1) := by decide +kernel
theorem dX4_does_106 : decode cX4_does 106 = .ok (.ireturn, 1) := by decide +kernel
theorem dX4_does_107 : decode cX4_does 107 = .ok (.aload_n 0, 1) := by decide +kernel
theorem dX4_does_108 : decode cX4_does 108 = .ok (.getfield 19, 3) := by decide +kernel
theorem dX4_does_111 : decode cX4_does 111 = .ok (.iload_n 3, 1) := by decide +kernel
theorem dX4_does_112 : decode cX4_does 112 = .ok (.iconst 1, 1) := by decide +kernel
theorem dX4_does_113 : decode cX4_does 113 = .ok (.if_icmp .ne 7, 3) := by decide +kernel
theorem dX4_does_116 : decode cX4_does 116 = .ok (.iconst 1, 1) := by decide +kernel
theorem dX4_does_117 : decode cX4_does 117 = .ok (.goto 4, 3) := by decide +kernel
theorem dX4_does_120 : decode cX4_does 120 = .ok (.iconst 0, 1) := by decide +kernel
theorem dX4_does_121 : decode cX4_does 121 = .ok (.invokestatic 79, 3) := by decide +kernel
theorem dX4_does_124 : decode cX4_does 124 = .ok (.pop, 1) := by decide +kernel
theorem dX4_does_125 : decode cX4_does 125 = .ok (.iinc 5 1, 3) := by decide +kernel
theorem dX4_does_128 : decode cX4_does 128 = .ok (.goto (-41), 3) := by decide +kernel
theorem dX4_does_131 : decode cX4_does 131 = .ok (.iconst 1, 1) := by decide +kernel
theorem dX4_does_132 : decode cX4_does 132 = .ok (.ireturn, 1) := by decide +kernel
theorem dX4_does_133 : decode cX4_does 133 = .ok (.iload_n 3, 1) := by decide +kernel
theorem dX4_does_134 : decode cX4_does 134 = .ok (.ifCond .ne 16, 3) := by decide +kernel
theorem dX4_does_137 : decode cX4_does 137 = .ok (.iload 4, 2) := by decide +kernel
theorem dX4_does_139 : decode cX4_does 139 = .ok (.i2l, 1) := by decide +kernel
theorem dX4_does_140 : decode cX4_does 140 = .ok (.lconst 1, 1) := by decide +kernel
theorem dX4_does_141 : decode cX4_does 141 = .ok (.ldc2_w 133, 3) := by decide +kernel
theorem dX4_does_144 : decode cX4_does 144 = .ok (.invokestatic 38, 3) := by decide +kernel
theorem dX4_does_147 : decode cX4_does 147 = .ok (.ifCond .ne 5, 3) := by decide +kernel
theorem dX4_does_150 : decode cX4_does 150 = .ok (.iconst 0, 1) := by decide +kernel
theorem dX4_does_151 : decode cX4_does 151 = .ok (.ireturn, 1) := by decide +kernel
theorem dX4_does_152 : decode cX4_does 152 = .ok (.aload_n 0, 1) := by decide +kernel
theorem dX4_does_153 : decode cX4_does 153 = .ok (.getfield 19, 3) := by decide +kernel
theorem dX4_does_156 : decode cX4_does 156 = .ok (.iload 4, 2) := by decide +kernel
theorem dX4_does_158 : decode cX4_does 158 = .ok (.invokestatic 83, 3) := by decide +kernel
theorem dX4_does_161 : decode cX4_does 161 = .ok (.iconst 1, 1) := by decide +kernel
theorem dX4_does_162 : decode cX4_does 162 = .ok (.ireturn, 1) := by decide +kernel
theorem dX4_does_163 : decode cX4_does 163 = .ok (.aload_n 0, 1) := by decide +kernel
theorem dX4_does_164 : decode cX4_does 164 = .ok (.getfield 19, 3) := by decide +kernel
theorem dX4_does_167 : decode cX4_does 167 = .ok (.iconst 2, 1) := by decide +kernel
theorem dX4_does_168 : decode cX4_does 168 = .ok (.iload_n 2, 1) := by decide +kernel
theorem dX4_does_169 : decode cX4_does 169 = .ok (.iastore, 1) := by decide +kernel
theorem dX4_does_170 : decode cX4_does 170 = .ok (.iconst 1, 1) := by decide +kernel
theorem dX4_does_171 : decode cX4_does 171 = .ok (.ireturn, 1) := by decide +kernel
theorem dX4_does_172 : decode cX4_does 172 = .ok (.iload_n 3, 1) := by decide +kernel
theorem dX4_does_173 : decode cX4_does 173 = .ok (.iconst 2, 1) := by decide +kernel
theorem dX4_does_174 : decode cX4_does 174 = .ok (.if_icmp .eq 19, 3) := by decide +kernel
theorem dX4_does_177 : decode cX4_does 177 = .ok (.iload 4, 2) := by decide +kernel
theorem dX4_does_179 : decode cX4_does 179 = .ok (.bipush 99, 2) := by decide +kernel
theorem dX4_does_181 : decode cX4_does 181 = .ok (.if_icmp .gt 12, 3) := by decide +kernel
theorem dX4_does_184 : decode cX4_does 184 = .ok (.iload_n 3, 1) := by decide +kernel
theorem dX4_does_185 : decode cX4_does 185 = .ok (.iload 4, 2) := by decide +kernel
theorem dX4_does_187 : decode cX4_does 187 = .ok (.invokestatic 135, 3) := by decide +kernel
theorem dX4_does_190 : decode cX4_does 190 = .ok (.ifCond .ne 5, 3) := by decide +kernel
theorem dX4_does_193 : decode cX4_does 193 = .ok (.iconst 0, 1) := by decide +kernel
theorem dX4_does_194 : decode cX4_does 194 = .ok (.ireturn, 1) := by decide +kernel
theorem dX4_does_195 : decode cX4_does 195 = .ok (.aload_n 0, 1) := by decide +kernel
theorem dX4_does_196 : decode cX4_does 196 = .ok (.getfield 19, 3) := by decide +kernel
theorem dX4_does_199 : decode cX4_does 199 = .ok (.iload_n 3, 1) := by decide +kernel
theorem dX4_does_200 : decode cX4_does 200 = .ok (.iload 4, 2) := by decide +kernel
theorem dX4_does_202 : decode cX4_does 202 = .ok (.iastore, 1) := by decide +kernel
theorem dX4_does_203 : decode cX4_does 203 = .ok (.iconst 1, 1) := by decide +kernel
theorem dX4_does_204 : decode cX4_does 204 = .ok (.ireturn, 1) := by decide +kernel
theorem dX4_does_205 : decode cX4_does 205 = .ok (.iload 4, 2) := by decide +kernel
theorem dX4_does_207 : decode cX4_does 207 = .ok (.ifCond .ne 14, 3) := by decide +kernel
theorem dX4_does_210 : decode cX4_does 210 = .ok (.aload_n 0, 1) := by decide +kernel
theorem dX4_does_211 : decode cX4_does 211 = .ok (.getfield 19, 3) := by decide +kernel
theorem dX4_does_214 : decode cX4_does 214 = .ok (.iload_n 3, 1) := by decide +kernel
theorem dX4_does_215 : decode cX4_does 215 = .ok (.invokestatic 139, 3) := by decide +kernel
theorem dX4_does_218 : decode cX4_does 218 = .ok (.ifCond .ne 5, 3) := by decide +kernel
theorem dX4_does_221 : decode cX4_does 221 = .ok (.iconst 0, 1) := by decide +kernel
theorem dX4_does_222 : decode cX4_does 222 = .ok (.ireturn, 1) := by decide +kernel
theorem dX4_does_223 : decode cX4_does 223 = .ok (.aload_n 0, 1) := by decide +kernel
theorem dX4_does_224 : decode cX4_does 224 = .ok (.getfield 19, 3) := by decide +kernel
theorem dX4_does_227 : decode cX4_does 227 = .ok (.bipush 10, 2) := by decide +kernel
theorem dX4_does_229 : decode cX4_does 229 = .ok (.iload_n 3, 1) := by decide +kernel
theorem dX4_does_230 : decode cX4_does 230 = .ok (.iastore, 1) := by decide +kernel
theorem dX4_does_231 : decode cX4_does 231 = .ok (.iconst 1, 1) := by decide +kernel
theorem dX4_does_232 : decode cX4_does 232 = .ok (.ireturn, 1) := by decide +kernel
theorem dX4_does_233 : decode cX4_does 233 = .ok (.iload_n 2, 1) := by decide +kernel
theorem dX4_does_234 : decode cX4_does 234 = .ok (.ifCond .ne 14, 3) := by decide +kernel
theorem dX4_does_237 : decode cX4_does 237 = .ok (.aload_n 0, 1) := by decide +kernel
theorem dX4_does_238 : decode cX4_does 238 = .ok (.getfield 19, 3) := by decide +kernel
theorem dX4_does_241 : decode cX4_does 241 = .ok (.bipush 11, 2) := by decide +kernel
theorem dX4_does_243 : decode cX4_does 243 = .ok (.iaload, 1) := by decide +kernel
theorem dX4_does_244 : decode cX4_does 244 = .ok (.iconst 1, 1) := by decide +kernel
theorem dX4_does_245 : decode cX4_does 245 = .ok (.if_icmp .ne 5, 3) := by decide +kernel
theorem dX4_does_248 : decode cX4_does 248 = .ok (.iconst 0, 1) := by decide +kernel
theorem dX4_does_249 : decode cX4_does 249 = .ok (.ireturn, 1) := by decide +kernel
theorem dX4_does_250 : decode cX4_does 250 = .ok (.aload_n 0, 1) := by decide +kernel
theorem dX4_does_251 : decode cX4_does 251 = .ok (.getfield 19, 3) := by decide +kernel
theorem dX4_does_254 : decode cX4_does 254 = .ok (.invokestatic 147, 3) := by decide +kernel
theorem dX4_does_257 : decode cX4_does 257 = .ok (.iconst 1, 1) := by decide +kernel
theorem dX4_does_258 : decode cX4_does 258 = .ok (.ireturn, 1) := by decide +kernel
theorem dX4_does_259 : decode cX4_does 259 = .ok (.aload_n 0, 1) := by decide +kernel
theorem dX4_does_260 : decode cX4_does 260 = .ok (.getfield 19, 3) := by decide +kernel
theorem dX4_does_263 : decode cX4_does 263 = .ok (.iconst 2, 1) := by decide +kernel
theorem dX4_does_264 : decode cX4_does 264 = .ok (.iaload, 1) := by decide +kernel
theorem dX4_does_265 : decode cX4_does 265 = .ok (.iload_n 2, 1) := by decide +kernel
theorem dX4_does_266 : decode cX4_does 266 = .ok (.if_icmp .ne 7, 3) := by decide +kernel
theorem dX4_does_269 : decode cX4_does 269 = .ok (.iconst 1, 1) := by decide +kernel
theorem dX4_does_270 : decode cX4_does 270 = .ok (.goto 4, 3) := by decide +kernel
theorem dX4_does_273 : decode cX4_does 273 = .ok (.iconst 0, 1) := by decide +kernel
theorem dX4_does_274 : decode cX4_does 274 = .ok (.ireturn, 1) := by decide +kernel
theorem dX4_does_275 : decode cX4_does 275 = .ok (.iload_n 3, 1) := by decide +kernel
theorem dX4_does_276 : decode cX4_does 276 = .ok (.iconst 2, 1) := by decide +kernel
theorem dX4_does_277 : decode cX4_does 277 = .ok (.if_icmp .ge 39, 3) := by decide +kernel
theorem dX4_does_280 : decode cX4_does 280 = .ok (.aload_n 0, 1) := by decide +kernel
theorem dX4_does_281 : decode cX4_does 281 = .ok (.getfield 19, 3) := by decide +kernel
theorem dX4_does_284 : decode cX4_does 284 = .ok (.bipush 12, 2) := by decide +kernel
theorem dX4_does_286 : decode cX4_does 286 = .ok (.iaload, 1) := by decide +kernel
theorem dX4_does_287 : decode cX4_does 287 = .ok (.ifCond .le 29, 3) := by decide +kernel
theorem dX4_does_290 : decode cX4_does 290 = .ok (.aload_n 0, 1) := by decide +kernel
theorem dX4_does_291 : decode cX4_does 291 = .ok (.getfield 19, 3) := by decide +kernel
theorem dX4_does_294 : decode cX4_does 294 = .ok (.bipush 21, 2) := by decide +kernel
theorem dX4_does_296 : decode cX4_does 296 = .ok (.iaload, 1) := by decide +kernel
theorem dX4_does_297 : decode cX4_does 297 = .ok (.iload_n 3, 1) := by decide +kernel
theorem dX4_does_298 : decode cX4_does 298 = .ok (.ifCond .ne 8, 3) := by decide +kernel
theorem dX4_does_301 : decode cX4_does 301 = .ok (.iload 4, 2) := by decide +kernel
theorem dX4_does_303 : decode cX4_does 303 = .ok (.goto 6, 3) := by decide +kernel
theorem dX4_does_306 : decode cX4_does 306 = .ok (.iload 4, 2) := by decide +kernel
theorem dX4_does_308 : decode cX4_does 308 = .ok (.ineg, 1) := by decide +kernel
theorem dX4_does_309 : decode cX4_does 309 = .ok (.if_icmp .ne 7, 3) := by decide +kernel
theorem dX4_does_312 : decode cX4_does 312 = .ok (.iconst 1, 1) := by decide +kernel
theorem dX4_does_313 : decode cX4_does 313 = .ok (.goto 4, 3) := by decide +kernel
theorem dX4_does_316 : decode cX4_does 316 = .ok (.iconst 0, 1) := by decide +kernel
theorem dX4_does_317 : decode cX4_does 317 = .ok (.ireturn, 1) := by decide +kernel
theorem dX4_does_318 : decode cX4_does 318 = .ok (.iload_n 3, 1) := by decide +kernel
theorem dX4_does_319 : decode cX4_does 319 = .ok (.iconst 2, 1) := by decide +kernel
theorem dX4_does_320 : decode cX4_does 320 = .ok (.if_icmp .ge 36, 3) := by decide +kernel
theorem dX4_does_323 : decode cX4_does 323 = .ok (.iload 4, 2) := by decide +kernel
theorem dX4_does_325 : decode cX4_does 325 = .ok (.bipush 100, 2) := by decide +kernel
theorem dX4_does_327 : decode cX4_does 327 = .ok (.if_icmp .ge 29, 3) := by decide +kernel
theorem dX4_does_330 : decode cX4_does 330 = .ok (.aload_n 0, 1) := by decide +kernel
theorem dX4_does_331 : decode cX4_does 331 = .ok (.getfield 19, 3) := by decide +kernel
theorem dX4_does_334 : decode cX4_does 334 = .ok (.invokestatic 72, 3) := by decide +kernel
theorem dX4_does_337 : decode cX4_does 337 = .ok (.iload_n 3, 1) := by decide +kernel
theorem dX4_does_338 : decode cX4_does 338 = .ok (.ifCond .ne 8, 3) := by decide +kernel
theorem dX4_does_341 : decode cX4_does 341 = .ok (.iload 4, 2) := by decide +kernel
theorem dX4_does_343 : decode cX4_does 343 = .ok (.goto 6, 3) := by decide +kernel
theorem dX4_does_346 : decode cX4_does 346 = .ok (.iload 4, 2) := by decide +kernel
theorem dX4_does_348 : decode cX4_does 348 = .ok (.ineg, 1) := by decide +kernel
theorem dX4_does_349 : decode cX4_does 349 = .ok (.if_icmp .gt 7, 3) := by decide +kernel
theorem dX4_does_352 : decode cX4_does 352 = .ok (.iconst 1, 1) := by decide +kernel
theorem dX4_does_353 : decode cX4_does 353 = .ok (.goto 4, 3) := by decide +kernel
theorem dX4_does_356 : decode cX4_does 356 = .ok (.iconst 0, 1) := by decide +kernel
theorem dX4_does_357 : decode cX4_does 357 = .ok (.ireturn, 1) := by decide +kernel
theorem dX4_does_358 : decode cX4_does 358 = .ok (.iconst 0, 1) := by decide +kernel
theorem dX4_does_359 : decode cX4_does 359 = .ok (.ireturn, 1) := by decide +kernel
set_option maxRecDepth 20000 in
theorem ggX4_runScript_X4_in : GoodIn wsX4_runScript wsX4_in := goodIn_r _ [10] (by decide +kernel) (by decide +kernel)
set_option maxRecDepth 20000 in
theorem gX4_runScript_X4_in : GoodIn wsX4_runScript (va_wsS RX4 38 yX4_in wsX4_in) := goodIn_app (goodIn_of _ (by decide +kernel)) ggX4_runScript_X4_in
set_option maxRecDepth 20000 in
theorem ggX4_runScript_X4_refused : GoodIn wsX4_runScript wsX4_refused := goodIn_r _ [14, 15, 68, 69, 70, 71, 72, 73, 74, 75, 76, 77, 78] (by decide +kernel) (by decide +kernel)
set_option maxRecDepth 20000 in
theorem gX4_runScript_X4_refused : GoodIn wsX4_runScript (wsV RX4 95 RX4 yX4_refused wsX4_refused) := goodIn_app (goodIn_of _ (by decide +kernel)) ggX4_runScript_X4_refused
set_option maxRecDepth 20000 in
theorem ggX4_runScript_X4_copyPage : GoodIn wsX4_runScript wsX4_copyPage := goodIn_r _ [18] (by decide +kernel) (by decide +kernel)
set_option maxRecDepth 20000 in
theorem gX4_runScript_X4_copyPage : GoodIn wsX4_runScript (va_wsS RX4 119 yX4_copyPage wsX4_copyPage) := goodIn_app (goodIn_of _ (by decide +kernel)) ggX4_runScript_X4_copyPage
set_option maxRecDepth 20000 in
theorem ggX4_runScript_X4_does : GoodIn wsX4_runScript wsX4_does := goodIn_r _ [22, 23, 6, 24, 7, 8, 9, 10, 25, 26, 27, 28, 29, 30, 31, 32, 33, 1, 34, 35, 36, 37, 38, 39, 40, 41, 42, 43, 44, 45, 46, 47, 48, 49, 50, 51, 52, 53, 54, 4, 55, 56, 57, 58, 59, 60, 61, 62, 63, 64, 65, 66, 67, 68, 69, 70, 71, 72, 73, 74, 75, 76, 77, 78] (by decide +kernel) (by decide +kernel)
set_option maxRecDepth 20000 in
theorem gX4_runScript_X4_does : GoodIn wsX4_runScript (wsV RX4 161 RX4 yX4_does wsX4_does) := goodIn_app (goodIn_of _ (by decide +kernel)) ggX4_runScript_X4_does
