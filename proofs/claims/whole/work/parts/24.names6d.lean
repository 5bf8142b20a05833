theorem dX4_simulate_0 : decode cX4_simulate 0 = .ok (.aload_n 0, 1) := by decide +kernel
theorem dX4_simulate_1 : decode cX4_simulate 1 = .ok (.iload_n 3, 1) := by decide +kernel
theorem dX4_simulate_2 : decode cX4_simulate 2 = .ok (.i2l, 1) := by decide +kernel
theorem dX4_simulate_3 : decode cX4_simulate 3 = .ok (.lconst 1, 1) := by decide +kernel
theorem dX4_simulate_4 : decode cX4_simulate 4 = .ok (.ldc2_w 44, 3) := by decide +kernel
theorem dX4_simulate_7 : decode cX4_simulate 7 = .ok (.invokestatic 38, 3) := by decide +kernel
theorem dX4_simulate_10 : decode cX4_simulate 10 = .ok (.ifCond .eq 7, 3) := by decide +kernel
theorem dX4_simulate_13 : decode cX4_simulate 13 = .ok (.iconst 0, 1) := by decide +kernel
theorem dX4_simulate_14 : decode cX4_simulate 14 = .ok (.goto 4, 3) := by decide +kernel
theorem dX4_simulate_17 : decode cX4_simulate 17 = .ok (.iconst 1, 1) := by decide +kernel
theorem dX4_simulate_18 : decode cX4_simulate 18 = .ok (.invokevirtual 95, 3) := by decide +kernel
theorem dX4_simulate_21 : decode cX4_simulate 21 = .ok (.ifCond .eq 5, 3) := by decide +kernel
theorem dX4_simulate_24 : decode cX4_simulate 24 = .ok (.iconst 0, 1) := by decide +kernel
theorem dX4_simulate_25 : decode cX4_simulate 25 = .ok (.ireturn, 1) := by decide +kernel
theorem dX4_simulate_26 : decode cX4_simulate 26 = .ok (.aload_n 0, 1) := by decide +kernel
theorem dX4_simulate_27 : decode cX4_simulate 27 = .ok (.getfield 16, 3) := by decide +kernel
theorem dX4_simulate_30 : decode cX4_simulate 30 = .ok (.iconst 0, 1) := by decide +kernel
theorem dX4_simulate_31 : decode cX4_simulate 31 = .ok (.aload_n 0, 1) := by decide +kernel
theorem dX4_simulate_32 : decode cX4_simulate 32 = .ok (.getfield 19, 3) := by decide +kernel
theorem dX4_simulate_35 : decode cX4_simulate 35 = .ok (.iconst 0, 1) := by decide +kernel
theorem dX4_simulate_36 : decode cX4_simulate 36 = .ok (.invokestatic 119, 3) := by decide +kernel
theorem dX4_simulate_39 : decode cX4_simulate 39 = .ok (.lload_n 1, 1) := by decide +kernel
theorem dX4_simulate_40 : decode cX4_simulate 40 = .ok (.lstore 4, 2) := by decide +kernel
theorem dX4_simulate_42 : decode cX4_simulate 42 = .ok (.iconst 0, 1) := by decide +kernel
theorem dX4_simulate_43 : decode cX4_simulate 43 = .ok (.istore 6, 2) := by decide +kernel
theorem dX4_simulate_45 : decode cX4_simulate 45 = .ok (.iconst 0, 1) := by decide +kernel
theorem dX4_simulate_46 : decode cX4_simulate 46 = .ok (.istore 7, 2) := by decide +kernel
theorem dX4_simulate_48 : decode cX4_simulate 48 = .ok (.iload 7, 2) := by decide +kernel
theorem dX4_simulate_50 : decode cX4_simulate 50 = .ok (.iload_n 3, 1) := by decide +kernel
theorem dX4_simulate_51 : decode cX4_simulate 51 = .ok (.if_icmp .ge 120, 3) := by decide +kernel
theorem dX4_simulate_54 : decode cX4_simulate 54 = .ok (.lload 4, 2) := by decide +kernel
theorem dX4_simulate_56 : decode cX4_simulate 56 = .ok (.ldc2_w 164, 3) := by decide +kernel
theorem dX4_simulate_59 : decode cX4_simulate 59 = .ok (.lmul, 1) := by decide +kernel
theorem dX4_simulate_60 : decode cX4_simulate 60 = .ok (.ldc2_w 166, 3) := by decide +kernel
theorem dX4_simulate_63 : decode cX4_simulate 63 = .ok (.ladd, 1) := by decide +kernel
theorem dX4_simulate_64 : decode cX4_simulate 64 = .ok (.lstore 4, 2) := by decide +kernel
theorem dX4_simulate_66 : decode cX4_simulate 66 = .ok (.lload 4, 2) := by decide +kernel
theorem dX4_simulate_68 : decode cX4_simulate 68 = .ok (.bipush 33, 2) := by decide +kernel
theorem dX4_simulate_70 : decode cX4_simulate 70 = .ok (.lushr, 1) := by decide +kernel
theorem dX4_simulate_71 : decode cX4_simulate 71 = .ok (.l2i, 1) := by decide +kernel
theorem dX4_simulate_72 : decode cX4_simulate 72 = .ok (.istore 8, 2) := by decide +kernel
theorem dX4_simulate_74 : decode cX4_simulate 74 = .ok (.iload 8, 2) := by decide +kernel
theorem dX4_simulate_76 : decode cX4_simulate 76 = .ok (.iconst 4, 1) := by decide +kernel
theorem dX4_simulate_77 : decode cX4_simulate 77 = .ok (.irem, 1) := by decide +kernel
theorem dX4_simulate_78 : decode cX4_simulate 78 = .ok (.ifCond .ne 20, 3) := by decide +kernel
theorem dX4_simulate_81 : decode cX4_simulate 81 = .ok (.aload_n 0, 1) := by decide +kernel
theorem dX4_simulate_82 : decode cX4_simulate 82 = .ok (.getfield 19, 3) := by decide +kernel
theorem dX4_simulate_85 : decode cX4_simulate 85 = .ok (.iconst 2, 1) := by decide +kernel
theorem dX4_simulate_86 : decode cX4_simulate 86 = .ok (.iload 8, 2) := by decide +kernel
theorem dX4_simulate_88 : decode cX4_simulate 88 = .ok (.iconst 4, 1) := by decide +kernel
theorem dX4_simulate_89 : decode cX4_simulate 89 = .ok (.idiv, 1) := by decide +kernel
theorem dX4_simulate_90 : decode cX4_simulate 90 = .ok (.sipush 10000, 3) := by decide +kernel
theorem dX4_simulate_93 : decode cX4_simulate 93 = .ok (.irem, 1) := by decide +kernel
theorem dX4_simulate_94 : decode cX4_simulate 94 = .ok (.iastore, 1) := by decide +kernel
theorem dX4_simulate_95 : decode cX4_simulate 95 = .ok (.goto 70, 3) := by decide +kernel
theorem dX4_simulate_98 : decode cX4_simulate 98 = .ok (.iload 8, 2) := by decide +kernel
theorem dX4_simulate_100 : decode cX4_simulate 100 = .ok (.iconst 4, 1) := by decide +kernel
theorem dX4_simulate_101 : decode cX4_simulate 101 = .ok (.irem, 1) := by decide +kernel
theorem dX4_simulate_102 : decode cX4_simulate 102 = .ok (.iconst 1, 1) := by decide +kernel
theorem dX4_simulate_103 : decode cX4_simulate 103 = .ok (.if_icmp .ne 14, 3) := by decide +kernel
theorem dX4_simulate_106 : decode cX4_simulate 106 = .ok (.aload_n 0, 1) := by decide +kernel
theorem dX4_simulate_107 : decode cX4_simulate 107 = .ok (.getfield 19, 3) := by decide +kernel
theorem dX4_simulate_110 : decode cX4_simulate 110 = .ok (.iconst 1, 1) := by decide +kernel
theorem dX4_simulate_111 : decode cX4_simulate 111 = .ok (.invokestatic 83, 3) := by decide +kernel
theorem dX4_simulate_114 : decode cX4_simulate 114 = .ok (.goto 51, 3) := by decide +kernel
theorem dX4_simulate_117 : decode cX4_simulate 117 = .ok (.aload_n 0, 1) := by decide +kernel
theorem dX4_simulate_118 : decode cX4_simulate 118 = .ok (.getfield 19, 3) := by decide +kernel
theorem dX4_simulate_121 : decode cX4_simulate 121 = .ok (.bipush 11, 2) := by decide +kernel
theorem dX4_simulate_123 : decode cX4_simulate 123 = .ok (.iaload, 1) := by decide +kernel
theorem dX4_simulate_124 : decode cX4_simulate 124 = .ok (.iconst 1, 1) := by decide +kernel
theorem dX4_simulate_125 : decode cX4_simulate 125 = .ok (.if_icmp .ne 13, 3) := by decide +kernel
theorem dX4_simulate_128 : decode cX4_simulate 128 = .ok (.aload_n 0, 1) := by decide +kernel
theorem dX4_simulate_129 : decode cX4_simulate 129 = .ok (.getfield 19, 3) := by decide +kernel
theorem dX4_simulate_132 : decode cX4_simulate 132 = .ok (.invokestatic 143, 3) := by decide +kernel
theorem dX4_simulate_135 : decode cX4_simulate 135 = .ok (.goto 30, 3) := by decide +kernel
theorem dX4_simulate_138 : decode cX4_simulate 138 = .ok (.iload 6, 2) := by decide +kernel
theorem dX4_simulate_140 : decode cX4_simulate 140 = .ok (.aload_n 0, 1) := by decide +kernel
theorem dX4_simulate_141 : decode cX4_simulate 141 = .ok (.getfield 19, 3) := by decide +kernel
theorem dX4_simulate_144 : decode cX4_simulate 144 = .ok (.iload 8, 2) := by decide +kernel
theorem dX4_simulate_146 : decode cX4_simulate 146 = .ok (.iconst 4, 1) := by decide +kernel
theorem dX4_simulate_147 : decode cX4_simulate 147 = .ok (.idiv, 1) := by decide +kernel
theorem dX4_simulate_148 : decode cX4_simulate 148 = .ok (.iconst 2, 1) := by decide +kernel
theorem dX4_simulate_149 : decode cX4_simulate 149 = .ok (.irem, 1) := by decide +kernel
theorem dX4_simulate_150 : decode cX4_simulate 150 = .ok (.iconst 1, 1) := by decide +kernel
theorem dX4_simulate_151 : decode cX4_simulate 151 = .ok (.if_icmp .ne 7, 3) := by decide +kernel
theorem dX4_simulate_154 : decode cX4_simulate 154 = .ok (.iconst 1, 1) := by decide +kernel
theorem dX4_simulate_155 : decode cX4_simulate 155 = .ok (.goto 4, 3) := by decide +kernel
theorem dX4_simulate_158 : decode cX4_simulate 158 = .ok (.iconst 0, 1) := by decide +kernel
theorem dX4_simulate_159 : decode cX4_simulate 159 = .ok (.invokestatic 79, 3) := by decide +kernel
theorem dX4_simulate_162 : decode cX4_simulate 162 = .ok (.iadd, 1) := by decide +kernel
theorem dX4_simulate_163 : decode cX4_simulate 163 = .ok (.istore 6, 2) := by decide +kernel
theorem dX4_simulate_165 : decode cX4_simulate 165 = .ok (.iinc 7 1, 3) := by decide +kernel
theorem dX4_simulate_168 : decode cX4_simulate 168 = .ok (.goto (-120), 3) := by decide +kernel
theorem dX4_simulate_171 : decode cX4_simulate 171 = .ok (.iload 6, 2) := by decide +kernel
theorem dX4_simulate_173 : decode cX4_simulate 173 = .ok (.ireturn, 1) := by decide +kernel
set_option maxRecDepth 20000 in
theorem ggX4_save_X4_in : GoodIn wsX4_save wsX4_in := goodIn_r _ [7] (by decide +kernel) (by decide +kernel)
set_option maxRecDepth 20000 in
theorem gX4_save_X4_in : GoodIn wsX4_save (va_wsS RX4 38 yX4_in wsX4_in) := goodIn_app (goodIn_of _ (by decide +kernel)) ggX4_save_X4_in
set_option maxRecDepth 20000 in
theorem ggX4_save_X4_refused : GoodIn wsX4_save wsX4_refused := goodIn_r _ [11, 12, 16, 17, 18, 19, 20, 21, 22, 23, 24, 25, 26] (by decide +kernel) (by decide +kernel)
set_option maxRecDepth 20000 in
theorem gX4_save_X4_refused : GoodIn wsX4_save (wsV RX4 95 RX4 yX4_refused wsX4_refused) := goodIn_app (goodIn_of _ (by decide +kernel)) ggX4_save_X4_refused
set_option maxRecDepth 20000 in
theorem ggX4_save_X4_copyPage : GoodIn wsX4_save wsX4_copyPage := goodIn_r _ [15] (by decide +kernel) (by decide +kernel)
set_option maxRecDepth 20000 in
theorem gX4_save_X4_copyPage : GoodIn wsX4_save (va_wsS RX4 119 yX4_copyPage wsX4_copyPage) := goodIn_app (goodIn_of _ (by decide +kernel)) ggX4_save_X4_copyPage
