theorem dX4_runScript_0 : decode cX4_runScript 0 = .ok (.iload_n 1, 1) := by decide +kernel
theorem dX4_runScript_1 : decode cX4_runScript 1 = .ok (.iconst 1, 1) := by decide +kernel
theorem dX4_runScript_2 : decode cX4_runScript 2 = .ok (.if_icmp .ne 9, 3) := by decide +kernel
theorem dX4_runScript_5 : decode cX4_runScript 5 = .ok (.ldc2_w 56, 3) := by decide +kernel
theorem dX4_runScript_8 : decode cX4_runScript 8 = .ok (.goto 17, 3) := by decide +kernel
theorem dX4_runScript_11 : decode cX4_runScript 11 = .ok (.iload_n 1, 1) := by decide +kernel
theorem dX4_runScript_12 : decode cX4_runScript 12 = .ok (.iconst 2, 1) := by decide +kernel
theorem dX4_runScript_13 : decode cX4_runScript 13 = .ok (.if_icmp .ne 9, 3) := by decide +kernel
theorem dX4_runScript_16 : decode cX4_runScript 16 = .ok (.ldc2_w 157, 3) := by decide +kernel
theorem dX4_runScript_19 : decode cX4_runScript 19 = .ok (.goto 6, 3) := by decide +kernel
theorem dX4_runScript_22 : decode cX4_runScript 22 = .ok (.ldc2_w 159, 3) := by decide +kernel
theorem dX4_runScript_25 : decode cX4_runScript 25 = .ok (.lstore 4, 2) := by decide +kernel
theorem dX4_runScript_27 : decode cX4_runScript 27 = .ok (.aload_n 0, 1) := by decide +kernel
theorem dX4_runScript_28 : decode cX4_runScript 28 = .ok (.iload_n 1, 1) := by decide +kernel
theorem dX4_runScript_29 : decode cX4_runScript 29 = .ok (.i2l, 1) := by decide +kernel
theorem dX4_runScript_30 : decode cX4_runScript 30 = .ok (.lconst 1, 1) := by decide +kernel
theorem dX4_runScript_31 : decode cX4_runScript 31 = .ok (.ldc2_w 36, 3) := by decide +kernel
theorem dX4_runScript_34 : decode cX4_runScript 34 = .ok (.invokestatic 38, 3) := by decide +kernel
theorem dX4_runScript_37 : decode cX4_runScript 37 = .ok (.ifCond .eq 19, 3) := by decide +kernel
theorem dX4_runScript_40 : decode cX4_runScript 40 = .ok (.lload_n 2, 1) := by decide +kernel
theorem dX4_runScript_41 : decode cX4_runScript 41 = .ok (.lconst 0, 1) := by decide +kernel
theorem dX4_runScript_42 : decode cX4_runScript 42 = .ok (.lload 4, 2) := by decide +kernel
theorem dX4_runScript_44 : decode cX4_runScript 44 = .ok (.lconst 1, 1) := by decide +kernel
theorem dX4_runScript_45 : decode cX4_runScript 45 = .ok (.lsub, 1) := by decide +kernel
theorem dX4_runScript_46 : decode cX4_runScript 46 = .ok (.invokestatic 38, 3) := by decide +kernel
theorem dX4_runScript_49 : decode cX4_runScript 49 = .ok (.ifCond .eq 7, 3) := by decide +kernel
theorem dX4_runScript_52 : decode cX4_runScript 52 = .ok (.iconst 0, 1) := by decide +kernel
theorem dX4_runScript_53 : decode cX4_runScript 53 = .ok (.goto 4, 3) := by decide +kernel
theorem dX4_runScript_56 : decode cX4_runScript 56 = .ok (.iconst 1, 1) := by decide +kernel
theorem dX4_runScript_57 : decode cX4_runScript 57 = .ok (.invokevirtual 95, 3) := by decide +kernel
theorem dX4_runScript_60 : decode cX4_runScript 60 = .ok (.ifCond .eq 5, 3) := by decide +kernel
theorem dX4_runScript_63 : decode cX4_runScript 63 = .ok (.iconst 0, 1) := by decide +kernel
theorem dX4_runScript_64 : decode cX4_runScript 64 = .ok (.ireturn, 1) := by decide +kernel
theorem dX4_runScript_65 : decode cX4_runScript 65 = .ok (.aload_n 0, 1) := by decide +kernel
theorem dX4_runScript_66 : decode cX4_runScript 66 = .ok (.getfield 16, 3) := by decide +kernel
theorem dX4_runScript_69 : decode cX4_runScript 69 = .ok (.iconst 0, 1) := by decide +kernel
theorem dX4_runScript_70 : decode cX4_runScript 70 = .ok (.aload_n 0, 1) := by decide +kernel
theorem dX4_runScript_71 : decode cX4_runScript 71 = .ok (.getfield 19, 3) := by decide +kernel
theorem dX4_runScript_74 : decode cX4_runScript 74 = .ok (.iconst 0, 1) := by decide +kernel
theorem dX4_runScript_75 : decode cX4_runScript 75 = .ok (.invokestatic 119, 3) := by decide +kernel
theorem dX4_runScript_78 : decode cX4_runScript 78 = .ok (.lload_n 2, 1) := by decide +kernel
theorem dX4_runScript_79 : decode cX4_runScript 79 = .ok (.lstore 6, 2) := by decide +kernel
theorem dX4_runScript_81 : decode cX4_runScript 81 = .ok (.iconst 0, 1) := by decide +kernel
theorem dX4_runScript_82 : decode cX4_runScript 82 = .ok (.istore 8, 2) := by decide +kernel
theorem dX4_runScript_84 : decode cX4_runScript 84 = .ok (.iload 8, 2) := by decide +kernel
theorem dX4_runScript_86 : decode cX4_runScript 86 = .ok (.iload_n 1, 1) := by decide +kernel
theorem dX4_runScript_87 : decode cX4_runScript 87 = .ok (.if_icmp .ge 54, 3) := by decide +kernel
theorem dX4_runScript_90 : decode cX4_runScript 90 = .ok (.lload 4, 2) := by decide +kernel
theorem dX4_runScript_92 : decode cX4_runScript 92 = .ok (.ldc2_w 56, 3) := by decide +kernel
theorem dX4_runScript_95 : decode cX4_runScript 95 = .ok (.ldiv, 1) := by decide +kernel
theorem dX4_runScript_96 : decode cX4_runScript 96 = .ok (.lstore 4, 2) := by decide +kernel
theorem dX4_runScript_98 : decode cX4_runScript 98 = .ok (.lload 6, 2) := by decide +kernel
theorem dX4_runScript_100 : decode cX4_runScript 100 = .ok (.lload 4, 2) := by decide +kernel
theorem dX4_runScript_102 : decode cX4_runScript 102 = .ok (.ldiv, 1) := by decide +kernel
theorem dX4_runScript_103 : decode cX4_runScript 103 = .ok (.l2i, 1) := by decide +kernel
theorem dX4_runScript_104 : decode cX4_runScript 104 = .ok (.istore 9, 2) := by decide +kernel
theorem dX4_runScript_106 : decode cX4_runScript 106 = .ok (.lload 6, 2) := by decide +kernel
theorem dX4_runScript_108 : decode cX4_runScript 108 = .ok (.lload 4, 2) := by decide +kernel
theorem dX4_runScript_110 : decode cX4_runScript 110 = .ok (.lrem, 1) := by decide +kernel
theorem dX4_runScript_111 : decode cX4_runScript 111 = .ok (.lstore 6, 2) := by decide +kernel
theorem dX4_runScript_113 : decode cX4_runScript 113 = .ok (.aload_n 0, 1) := by decide +kernel
theorem dX4_runScript_114 : decode cX4_runScript 114 = .ok (.iload 9, 2) := by decide +kernel
theorem dX4_runScript_116 : decode cX4_runScript 116 = .ok (.sipush 10000, 3) := by decide +kernel
theorem dX4_runScript_119 : decode cX4_runScript 119 = .ok (.idiv, 1) := by decide +kernel
theorem dX4_runScript_120 : decode cX4_runScript 120 = .ok (.iload 9, 2) := by decide +kernel
theorem dX4_runScript_122 : decode cX4_runScript 122 = .ok (.sipush 10000, 3) := by decide +kernel
theorem dX4_runScript_125 : decode cX4_runScript 125 = .ok (.irem, 1) := by decide +kernel
theorem dX4_runScript_126 : decode cX4_runScript 126 = .ok (.invokevirtual 161, 3) := by decide +kernel
theorem dX4_runScript_129 : decode cX4_runScript 129 = .ok (.ifCond .ne 6, 3) := by decide +kernel
theorem dX4_runScript_132 : decode cX4_runScript 132 = .ok (.iload 8, 2) := by decide +kernel
theorem dX4_runScript_134 : decode cX4_runScript 134 = .ok (.ireturn, 1) := by decide +kernel
theorem dX4_runScript_135 : decode cX4_runScript 135 = .ok (.iinc 8 1, 3) := by decide +kernel
theorem dX4_runScript_138 : decode cX4_runScript 138 = .ok (.goto (-54), 3) := by decide +kernel
theorem dX4_runScript_141 : decode cX4_runScript 141 = .ok (.sipush (-9999), 3) := by decide +kernel
theorem dX4_runScript_144 : decode cX4_runScript 144 = .ok (.ireturn, 1) := by decide +kernel
set_option maxRecDepth 20000 in
theorem ggX4_simulate_X4_in : GoodIn wsX4_simulate wsX4_in := goodIn_r _ [9] (by decide +kernel) (by decide +kernel)
set_option maxRecDepth 20000 in
theorem gX4_simulate_X4_in : GoodIn wsX4_simulate (va_wsS RX4 38 yX4_in wsX4_in) := goodIn_app (goodIn_of _ (by decide +kernel)) ggX4_simulate_X4_in
set_option maxRecDepth 20000 in
theorem ggX4_simulate_X4_refused : GoodIn wsX4_simulate wsX4_refused := goodIn_r _ [13, 14, 49, 50, 51, 52, 53, 54, 55, 56, 57, 58, 59] (by decide +kernel) (by decide +kernel)
set_option maxRecDepth 20000 in
theorem gX4_simulate_X4_refused : GoodIn wsX4_simulate (wsV RX4 95 RX4 yX4_refused wsX4_refused) := goodIn_app (goodIn_of _ (by decide +kernel)) ggX4_simulate_X4_refused
set_option maxRecDepth 20000 in
theorem ggX4_simulate_X4_copyPage : GoodIn wsX4_simulate wsX4_copyPage := goodIn_r _ [17] (by decide +kernel) (by decide +kernel)
set_option maxRecDepth 20000 in
theorem gX4_simulate_X4_copyPage : GoodIn wsX4_simulate (va_wsS RX4 119 yX4_copyPage wsX4_copyPage) := goodIn_app (goodIn_of _ (by decide +kernel)) ggX4_simulate_X4_copyPage
set_option maxRecDepth 20000 in
theorem ggX4_simulate_X4_waitOn : GoodIn wsX4_simulate wsX4_waitOn := goodIn_r _ [20] (by decide +kernel) (by decide +kernel)
set_option maxRecDepth 20000 in
theorem gX4_simulate_X4_waitOn : GoodIn wsX4_simulate (va_wsS RX4 83 yX4_waitOn wsX4_waitOn) := goodIn_app (goodIn_of _ (by decide +kernel)) ggX4_simulate_X4_waitOn
set_option maxRecDepth 20000 in
theorem ggX4_simulate_X4_freeOn : GoodIn wsX4_simulate wsX4_freeOn := goodIn_r _ [23, 18, 19, 8, 20] (by decide +kernel) (by decide +kernel)
set_option maxRecDepth 20000 in
theorem gX4_simulate_X4_freeOn : GoodIn wsX4_simulate (va_wsS RX4 143 yX4_freeOn wsX4_freeOn) := goodIn_app (goodIn_of _ (by decide +kernel)) ggX4_simulate_X4_freeOn
set_option maxRecDepth 20000 in
theorem ggX4_simulate_X4_pressOn : GoodIn wsX4_simulate wsX4_pressOn := goodIn_r _ [26, 27, 28, 8, 29, 30, 31, 32, 33, 34, 35, 36, 37, 38, 39, 40, 41, 42, 43, 44, 45, 46, 47, 48] (by decide +kernel) (by decide +kernel)
set_option maxRecDepth 20000 in
theorem gX4_simulate_X4_pressOn : GoodIn wsX4_simulate (va_wsS RX4 79 yX4_pressOn wsX4_pressOn) := goodIn_app (goodIn_of _ (by decide +kernel)) ggX4_simulate_X4_pressOn
