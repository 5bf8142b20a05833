theorem dX3_sensitivity_75 : decode cX3_sensitivity 75 = .ok (.invokestatic 214, 3) := by decide +kernel
theorem dX3_sensitivity_78 : decode cX3_sensitivity 78 = .ok (.istore_n 2, 1) := by decide +kernel
theorem dX3_sensitivity_79 : decode cX3_sensitivity 79 = .ok (.iload_n 2, 1) := by decide +kernel
theorem dX3_sensitivity_80 : decode cX3_sensitivity 80 = .ok (.ireturn, 1) := by decide +kernel
set_option maxRecDepth 20000 in
theorem ggX3_offsetAfter_X3_outside : GoodIn wsX3_offsetAfter wsX3_outside := goodIn_r _ [7] (by decide +kernel) (by decide +kernel)
set_option maxRecDepth 20000 in
theorem gX3_offsetAfter_X3_outside : GoodIn wsX3_offsetAfter (va_wsS RX3 37 yX3_outside wsX3_outside) := goodIn_app (goodIn_of _ (by decide +kernel)) ggX3_offsetAfter_X3_outside
set_option maxRecDepth 20000 in
theorem ggX3_offsetAfter_X1_warmed : GoodIn wsX3_offsetAfter wsX1_warmed := goodIn_r _ [10, 11, 12, 13, 14] (by decide +kernel) (by decide +kernel)
set_option maxRecDepth 20000 in
theorem gX3_offsetAfter_X1_warmed_n225 : GoodIn wsX3_offsetAfter (wsX1_warmed) := ggX3_offsetAfter_X1_warmed
set_option maxRecDepth 20000 in
theorem ggX3_offsetAfter_X1_cooled : GoodIn wsX3_offsetAfter wsX1_cooled := goodIn_r _ [16, 17, 18, 13, 19] (by decide +kernel) (by decide +kernel)
set_option maxRecDepth 20000 in
theorem gX3_offsetAfter_X1_cooled_n228 : GoodIn wsX3_offsetAfter (wsX1_cooled) := ggX3_offsetAfter_X1_cooled
set_option maxRecDepth 20000 in
theorem ggX3_offsetAfter_X1_offsetAt : GoodIn wsX3_offsetAfter wsX1_offsetAt := goodIn_r _ [22, 23, 24, 33, 34, 35, 36, 37, 38, 39, 40, 41, 42, 43, 44, 45, 46, 47, 48] (by decide +kernel) (by decide +kernel)
set_option maxRecDepth 20000 in
theorem gX3_offsetAfter_X1_offsetAt_n231 : GoodIn wsX3_offsetAfter (wsX1_offsetAt) := ggX3_offsetAfter_X1_offsetAt
theorem dX3_offsetAfter_0 : decode cX3_offsetAfter 0 = .ok (.iload_n 1, 1) := by decide +kernel
theorem dX3_offsetAfter_1 : decode cX3_offsetAfter 1 = .ok (.iconst 0, 1) := by decide +kernel
theorem dX3_offsetAfter_2 : decode cX3_offsetAfter 2 = .ok (.bipush 99, 2) := by decide +kernel
theorem dX3_offsetAfter_4 : decode cX3_offsetAfter 4 = .ok (.invokestatic 37, 3) := by decide +kernel
theorem dX3_offsetAfter_7 : decode cX3_offsetAfter 7 = .ok (.ifCond .ne 14, 3) := by decide +kernel
theorem dX3_offsetAfter_10 : decode cX3_offsetAfter 10 = .ok (.iload_n 2, 1) := by decide +kernel
theorem dX3_offsetAfter_11 : decode cX3_offsetAfter 11 = .ok (.iconst 0, 1) := by decide +kernel
theorem dX3_offsetAfter_12 : decode cX3_offsetAfter 12 = .ok (.sipush 200, 3) := by decide +kernel
theorem dX3_offsetAfter_15 : decode cX3_offsetAfter 15 = .ok (.invokestatic 37, 3) := by decide +kernel
theorem dX3_offsetAfter_18 : decode cX3_offsetAfter 18 = .ok (.ifCond .eq 13, 3) := by decide +kernel
theorem dX3_offsetAfter_21 : decode cX3_offsetAfter 21 = .ok (.new 41, 3) := by decide +kernel
theorem dX3_offsetAfter_24 : decode cX3_offsetAfter 24 = .ok (.dup, 1) := by decide +kernel
theorem dX3_offsetAfter_25 : decode cX3_offsetAfter 25 = .ok (.ldc 217, 2) := by decide +kernel
theorem dX3_offsetAfter_27 : decode cX3_offsetAfter 27 = .ok (.invokespecial 45, 3) := by decide +kernel
theorem dX3_offsetAfter_30 : decode cX3_offsetAfter 30 = .ok (.athrow, 1) := by decide +kernel
theorem dX3_offsetAfter_31 : decode cX3_offsetAfter 31 = .ok (.aload_n 0, 1) := by decide +kernel
theorem dX3_offsetAfter_32 : decode cX3_offsetAfter 32 = .ok (.getfield 19, 3) := by decide +kernel
theorem dX3_offsetAfter_35 : decode cX3_offsetAfter 35 = .ok (.getfield 219, 3) := by decide +kernel
theorem dX3_offsetAfter_38 : decode cX3_offsetAfter 38 = .ok (.istore_n 3, 1) := by decide +kernel
theorem dX3_offsetAfter_39 : decode cX3_offsetAfter 39 = .ok (.iconst 0, 1) := by decide +kernel
theorem dX3_offsetAfter_40 : decode cX3_offsetAfter 40 = .ok (.istore 4, 2) := by decide +kernel
theorem dX3_offsetAfter_42 : decode cX3_offsetAfter 42 = .ok (.iload 4, 2) := by decide +kernel
theorem dX3_offsetAfter_44 : decode cX3_offsetAfter 44 = .ok (.iload_n 1, 1) := by decide +kernel
theorem dX3_offsetAfter_45 : decode cX3_offsetAfter 45 = .ok (.if_icmp .ge 21, 3) := by decide +kernel
theorem dX3_offsetAfter_48 : decode cX3_offsetAfter 48 = .ok (.iload_n 3, 1) := by decide +kernel
theorem dX3_offsetAfter_49 : decode cX3_offsetAfter 49 = .ok (.aload_n 0, 1) := by decide +kernel
theorem dX3_offsetAfter_50 : decode cX3_offsetAfter 50 = .ok (.getfield 19, 3) := by decide +kernel
theorem dX3_offsetAfter_53 : decode cX3_offsetAfter 53 = .ok (.getfield 222, 3) := by decide +kernel
theorem dX3_offsetAfter_56 : decode cX3_offsetAfter 56 = .ok (.invokestatic 225, 3) := by decide +kernel
theorem dX3_offsetAfter_59 : decode cX3_offsetAfter 59 = .ok (.istore_n 3, 1) := by decide +kernel
theorem dX3_offsetAfter_60 : decode cX3_offsetAfter 60 = .ok (.iinc 4 1, 3) := by decide +kernel
theorem dX3_offsetAfter_63 : decode cX3_offsetAfter 63 = .ok (.goto (-21), 3) := by decide +kernel
theorem dX3_offsetAfter_66 : decode cX3_offsetAfter 66 = .ok (.iconst 0, 1) := by decide +kernel
theorem dX3_offsetAfter_67 : decode cX3_offsetAfter 67 = .ok (.istore 4, 2) := by decide +kernel
theorem dX3_offsetAfter_69 : decode cX3_offsetAfter 69 = .ok (.iload 4, 2) := by decide +kernel
theorem dX3_offsetAfter_71 : decode cX3_offsetAfter 71 = .ok (.iload_n 2, 1) := by decide +kernel
theorem dX3_offsetAfter_72 : decode cX3_offsetAfter 72 = .ok (.if_icmp .ge 14, 3) := by decide +kernel
theorem dX3_offsetAfter_75 : decode cX3_offsetAfter 75 = .ok (.iload_n 3, 1) := by decide +kernel
theorem dX3_offsetAfter_76 : decode cX3_offsetAfter 76 = .ok (.invokestatic 228, 3) := by decide +kernel
theorem dX3_offsetAfter_79 : decode cX3_offsetAfter 79 = .ok (.istore_n 3, 1) := by decide +kernel
theorem dX3_offsetAfter_80 : decode cX3_offsetAfter 80 = .ok (.iinc 4 1, 3) := by decide +kernel
theorem dX3_offsetAfter_83 : decode cX3_offsetAfter 83 = .ok (.goto (-14), 3) := by decide +kernel
theorem dX3_offsetAfter_86 : decode cX3_offsetAfter 86 = .ok (.aload_n 0, 1) := by decide +kernel
theorem dX3_offsetAfter_87 : decode cX3_offsetAfter 87 = .ok (.getfield 19, 3) := by decide +kernel
theorem dX3_offsetAfter_90 : decode cX3_offsetAfter 90 = .ok (.iload_n 3, 1) := by decide +kernel
theorem dX3_offsetAfter_91 : decode cX3_offsetAfter 91 = .ok (.invokevirtual 231, 3) := by decide +kernel
theorem dX3_offsetAfter_94 : decode cX3_offsetAfter 94 = .ok (.ireturn, 1) := by decide +kernel
set_option maxRecDepth 20000 in
theorem ggX3_waitFor_X3_outside : GoodIn wsX3_waitFor wsX3_outside := goodIn_r _ [7] (by decide +kernel) (by decide +kernel)
set_option maxRecDepth 20000 in
theorem gX3_waitFor_X3_outside : GoodIn wsX3_waitFor (va_wsS RX3 37 yX3_outside wsX3_outside) := goodIn_app (goodIn_of _ (by decide +kernel)) ggX3_waitFor_X3_outside
set_option maxRecDepth 20000 in
theorem ggX3_waitFor_X1_offsetAt : GoodIn wsX3_waitFor wsX1_offsetAt := goodIn_r _ [11, 12, 13, 28, 29, 30, 31, 32, 33, 34, 35, 36, 37, 38, 39, 40, 41, 42, 43] (by decide +kernel) (by decide +kernel)
set_option maxRecDepth 20000 in
theorem gX3_waitFor_X1_offsetAt_n231 : GoodIn wsX3_waitFor (wsX1_offsetAt) := ggX3_waitFor_X1_offsetAt
set_option maxRecDepth 20000 in
theorem ggX3_waitFor_X1_cooled : GoodIn wsX3_waitFor wsX1_cooled := goodIn_r _ [15, 16, 17, 18, 19] (by decide +kernel) (by decide +kernel)
set_option maxRecDepth 20000 in
theorem gX3_waitFor_X1_cooled_n228 : GoodIn wsX3_waitFor (wsX1_cooled) := ggX3_waitFor_X1_cooled
theorem dX3_waitFor_0 : decode cX3_waitFor 0 = .ok (.iload_n 1, 1) := by decide +kernel
theorem dX3_waitFor_1 : decode cX3_waitFor 1 = .ok (.bipush (-50), 2) := by decide +kernel
theorem dX3_waitFor_3 : decode cX3_waitFor 3 = .ok (.sipush 300, 3) := by decide +kernel
theorem dX3_waitFor_6 : decode cX3_waitFor 6 = .ok (.invokestatic 37, 3) := by decide +kernel
theorem dX3_waitFor_9 : decode cX3_waitFor 9 = .ok (.ifCond .eq 13, 3) := by decide +kernel
theorem dX3_waitFor_12 : decode cX3_waitFor 12 = .ok (.new 41, 3) := by decide +kernel
theorem dX3_waitFor_15 : decode cX3_waitFor 15 = .ok (.dup, 1) := by decide +kernel
theorem dX3_waitFor_16 : decode cX3_waitFor 16 = .ok (.ldc 234, 2) := by decide +kernel
theorem dX3_waitFor_18 : decode cX3_waitFor 18 = .ok (.invokespecial 45, 3) := by decide +kernel
theorem dX3_waitFor_21 : decode cX3_waitFor 21 = .ok (.athrow, 1) := by decide +kernel
theorem dX3_waitFor_22 : decode cX3_waitFor 22 = .ok (.aload_n 0, 1) := by decide +kernel
theorem dX3_waitFor_23 : decode cX3_waitFor 23 = .ok (.getfield 19, 3) := by decide +kernel
theorem dX3_waitFor_26 : decode cX3_waitFor 26 = .ok (.getfield 219, 3) := by decide +kernel
theorem dX3_waitFor_29 : decode cX3_waitFor 29 = .ok (.istore_n 2, 1) := by decide +kernel
theorem dX3_waitFor_30 : decode cX3_waitFor 30 = .ok (.iconst 0, 1) := by decide +kernel
theorem dX3_waitFor_31 : decode cX3_waitFor 31 = .ok (.istore_n 3, 1) := by decide +kernel
theorem dX3_waitFor_32 : decode cX3_waitFor 32 = .ok (.iload_n 3, 1) := by decide +kernel
theorem dX3_waitFor_33 : decode cX3_waitFor 33 = .ok (.sipush 200, 3) := by decide +kernel
theorem dX3_waitFor_36 : decode cX3_waitFor 36 = .ok (.if_icmp .gt 28, 3) := by decide +kernel
theorem dX3_waitFor_39 : decode cX3_waitFor 39 = .ok (.aload_n 0, 1) := by decide +kernel
theorem dX3_waitFor_40 : decode cX3_waitFor 40 = .ok (.getfield 19, 3) := by decide +kernel
theorem dX3_waitFor_43 : decode cX3_waitFor 43 = .ok (.iload_n 2, 1) := by decide +kernel
theorem dX3_waitFor_44 : decode cX3_waitFor 44 = .ok (.invokevirtual 231, 3) := by decide +kernel
theorem dX3_waitFor_47 : decode cX3_waitFor 47 = .ok (.iload_n 1, 1) := by decide +kernel
theorem dX3_waitFor_48 : decode cX3_waitFor 48 = .ok (.if_icmp .gt 5, 3) := by decide +kernel
theorem dX3_waitFor_51 : decode cX3_waitFor 51 = .ok (.iload_n 3, 1) := by decide +kernel
theorem dX3_waitFor_52 : decode cX3_waitFor 52 = .ok (.ireturn, 1) := by decide +kernel
theorem dX3_waitFor_53 : decode cX3_waitFor 53 = .ok (.iload_n 2, 1) := by decide +kernel
theorem dX3_waitFor_54 : decode cX3_waitFor 54 = .ok (.invokestatic 228, 3) := by decide +kernel
theorem dX3_waitFor_57 : decode cX3_waitFor 57 = .ok (.istore_n 2, 1) := by decide +kernel
theorem dX3_waitFor_58 : decode cX3_waitFor 58 = .ok (.iinc 3 1, 3) := by decide +kernel
theorem dX3_waitFor_61 : decode cX3_waitFor 61 = .ok (.goto (-29), 3) := by decide +kernel
theorem dX3_waitFor_64 : decode cX3_waitFor 64 = .ok (.sipush (-9999), 3) := by decide +kernel
theorem dX3_waitFor_67 : decode cX3_waitFor 67 = .ok (.ireturn, 1) := by decide +kernel
set_option maxRecDepth 20000 in
theorem ggX3_balanced_X3_outside : GoodIn wsX3_balanced wsX3_outside := goodIn_r _ [8] (by decide +kernel) (by decide +kernel)
set_option maxRecDepth 20000 in
theorem gX3_balanced_X3_outside : GoodIn wsX3_balanced (va_wsS RX3 37 yX3_outside wsX3_outside) := goodIn_app (goodIn_of _ (by decide +kernel)) ggX3_balanced_X3_outside
set_option maxRecDepth 20000 in
theorem ggX3_balanced_X1_copyFrom : GoodIn wsX3_balanced wsX1_copyFrom := goodIn_r _ [12, 13, 14, 15, 16, 17, 18, 19, 20, 21, 22, 23, 24, 25, 26, 27, 28, 29, 30, 31, 32, 33, 34, 35, 96, 97, 98, 99, 100, 101, 102, 103, 104, 105, 106, 107, 108, 109, 110, 111, 112, 113, 114] (by decide +kernel) (by decide +kernel)
set_option maxRecDepth 20000 in
theorem gX3_balanced_X1_copyFrom_n181 : GoodIn wsX3_balanced (wsX1_copyFrom) := ggX3_balanced_X1_copyFrom
set_option maxRecDepth 20000 in
theorem ggX3_balanced_X1_balanceBox : GoodIn wsX3_balanced wsX1_balanceBox := goodIn_r _ [38, 15, 22, 39, 7, 40, 41, 42, 43, 10, 44, 45, 46, 47, 48, 17, 49, 50, 51, 52, 53, 54, 55, 28, 21, 23, 24, 20, 16, 56, 57, 58, 59, 14, 27, 13, 60, 61, 62, 63, 25, 64, 65, 66, 67, 68, 69, 70, 71, 72, 73, 74, 75, 76, 77, 78, 79, 80, 18, 19, 81, 30, 82, 83, 34, 35, 33, 84, 85, 86, 87, 96, 97, 98, 99, 100, 101, 102, 103, 104, 105, 106, 107, 108, 109, 110, 111, 112, 113, 114] (by decide +kernel) (by decide +kernel)
set_option maxRecDepth 20000 in
theorem gX3_balanced_X1_balanceBox_n166 : GoodIn wsX3_balanced (wsX1_balanceBox) := ggX3_balanced_X1_balanceBox
theorem dX3_balanced_0 : decode cX3_balanced 0 = .ok (.iload_n 1, 1) := by decide +kernel
theorem dX3_balanced_1 : decode cX3_balanced 1 = .ok (.iconst 0, 1) := by decide +kernel
theorem dX3_balanced_2 : decode cX3_balanced 2 = .ok (.iconst 3, 1) := by decide +kernel
theorem dX3_balanced_3 : decode cX3_balanced 3 = .ok (.invokestatic 37, 3) := by decide +kernel
theorem dX3_balanced_6 : decode cX3_balanced 6 = .ok (.ifCond .eq 13, 3) := by decide +kernel
theorem dX3_balanced_9 : decode cX3_balanced 9 = .ok (.new 41, 3) := by decide +kernel
theorem dX3_balanced_12 : decode cX3_balanced 12 = .ok (.dup, 1) := by decide +kernel
theorem dX3_balanced_13 : decode cX3_balanced 13 = .ok (.ldc 236, 2) := by decide +kernel
theorem dX3_balanced_15 : decode cX3_balanced 15 = .ok (.invokespecial 45, 3) := by decide +kernel
theorem dX3_balanced_18 : decode cX3_balanced 18 = .ok (.athrow, 1) := by decide +kernel
theorem dX3_balanced_19 : decode cX3_balanced 19 = .ok (.aload_n 0, 1) := by decide +kernel
theorem dX3_balanced_20 : decode cX3_balanced 20 = .ok (.getfield 23, 3) := by decide +kernel
theorem dX3_balanced_23 : decode cX3_balanced 23 = .ok (.aload_n 0, 1) := by decide +kernel
theorem dX3_balanced_24 : decode cX3_balanced 24 = .ok (.getfield 19, 3) := by decide +kernel
theorem dX3_balanced_27 : decode cX3_balanced 27 = .ok (.invokevirtual 181, 3) := by decide +kernel
theorem dX3_balanced_30 : decode cX3_balanced 30 = .ok (.aload_n 0, 1) := by decide +kernel
theorem dX3_balanced_31 : decode cX3_balanced 31 = .ok (.getfield 23, 3) := by decide +kernel
theorem dX3_balanced_34 : decode cX3_balanced 34 = .ok (.iconst 0, 1) := by decide +kernel
theorem dX3_balanced_35 : decode cX3_balanced 35 = .ok (.putfield 112, 3) := by decide +kernel
theorem dX3_balanced_38 : decode cX3_balanced 38 = .ok (.aload_n 0, 1) := by decide +kernel
theorem dX3_balanced_39 : decode cX3_balanced 39 = .ok (.getfield 23, 3) := by decide +kernel
theorem dX3_balanced_42 : decode cX3_balanced 42 = .ok (.invokevirtual 166, 3) := by decide +kernel
theorem dX3_balanced_45 : decode cX3_balanced 45 = .ok (.iload_n 1, 1) := by decide +kernel
theorem dX3_balanced_46 : decode cX3_balanced 46 = .ok (.tableswitch 58 0 2 #[26, 34, 50], 26) := by decide +kernel
theorem dX3_balanced_72 : decode cX3_balanced 72 = .ok (.aload_n 0, 1) := by decide +kernel
theorem dX3_balanced_73 : decode cX3_balanced 73 = .ok (.getfield 23, 3) := by decide +kernel
theorem dX3_balanced_76 : decode cX3_balanced 76 = .ok (.getfield 97, 3) := by decide +kernel
theorem dX3_balanced_79 : decode cX3_balanced 79 = .ok (.ireturn, 1) := by decide +kernel
theorem dX3_balanced_80 : decode cX3_balanced 80 = .ok (.aload_n 0, 1) := by decide +kernel
theorem dX3_balanced_81 : decode cX3_balanced 81 = .ok (.getfield 23, 3) := by decide +kernel
theorem dX3_balanced_84 : decode cX3_balanced 84 = .ok (.getfield 238, 3) := by decide +kernel
theorem dX3_balanced_87 : decode cX3_balanced 87 = .ok (.aload_n 0, 1) := by decide +kernel
theorem dX3_balanced_88 : decode cX3_balanced 88 = .ok (.getfield 19, 3) := by decide +kernel
theorem dX3_balanced_91 : decode cX3_balanced 91 = .ok (.getfield 238, 3) := by decide +kernel
theorem dX3_balanced_94 : decode cX3_balanced 94 = .ok (.isub, 1) := by decide +kernel
theorem dX3_balanced_95 : decode cX3_balanced 95 = .ok (.ireturn, 1) := by decide +kernel
theorem dX3_balanced_96 : decode cX3_balanced 96 = .ok (.aload_n 0, 1) := by decide +kernel
theorem dX3_balanced_97 : decode cX3_balanced 97 = .ok (.getfield 23, 3) := by decide +kernel
theorem dX3_balanced_100 : decode cX3_balanced 100 = .ok (.getfield 219, 3) := by decide +kernel
theorem dX3_balanced_103 : decode cX3_balanced 103 = .ok (.ireturn, 1) := by decide +kernel
theorem dX3_balanced_104 : decode cX3_balanced 104 = .ok (.aload_n 0, 1) := by decide +kernel
theorem dX3_balanced_105 : decode cX3_balanced 105 = .ok (.getfield 23, 3) := by decide +kernel
theorem dX3_balanced_108 : decode cX3_balanced 108 = .ok (.getfield 112, 3) := by decide +kernel
theorem dX3_balanced_111 : decode cX3_balanced 111 = .ok (.ifCond .eq 7, 3) := by decide +kernel
theorem dX3_balanced_114 : decode cX3_balanced 114 = .ok (.iconst 1, 1) := by decide +kernel
theorem dX3_balanced_115 : decode cX3_balanced 115 = .ok (.goto 4, 3) := by decide +kernel
theorem dX3_balanced_118 : decode cX3_balanced 118 = .ok (.iconst 0, 1) := by decide +kernel
theorem dX3_balanced_119 : decode cX3_balanced 119 = .ok (.ireturn, 1) := by decide +kernel
set_option maxRecDepth 20000 in
theorem ggX3_runScript_X3_outside : GoodIn wsX3_runScript wsX3_outside := goodIn_r _ [9] (by decide +kernel) (by decide +kernel)
set_option maxRecDepth 20000 in
theorem gX3_runScript_X3_outside : GoodIn wsX3_runScript (va_wsS RX3 37 yX3_outside wsX3_outside) := goodIn_app (goodIn_of _ (by decide +kernel)) ggX3_runScript_X3_outside
set_option maxRecDepth 20000 in
theorem ggX3_runScript_X3_withoutLast : GoodIn wsX3_runScript wsX3_withoutLast := goodIn_r _ [12, 5] (by decide +kernel) (by decide +kernel)
set_option maxRecDepth 20000 in
theorem gX3_runScript_X3_withoutLast : GoodIn wsX3_runScript (va_wsS RX3 243 yX3_withoutLast wsX3_withoutLast) := goodIn_app (goodIn_of _ (by decide +kernel)) ggX3_runScript_X3_withoutLast
set_option maxRecDepth 20000 in
theorem ggX3_runScript_X1_copyFrom : GoodIn wsX3_runScript wsX1_copyFrom := goodIn_r _ [16, 17, 18, 19, 20, 21, 22, 23, 24, 25, 26, 27, 28, 29, 30, 31, 32, 33, 34, 35, 36, 37, 38, 39, 137, 138, 139, 140, 141, 142, 143, 144, 145, 146, 147, 148, 149, 150, 151, 152, 153, 154, 155] (by decide +kernel) (by decide +kernel)
set_option maxRecDepth 20000 in
theorem gX3_runScript_X1_copyFrom_n181 : GoodIn wsX3_runScript (wsX1_copyFrom) := ggX3_runScript_X1_copyFrom
set_option maxRecDepth 20000 in
theorem ggX3_runScript_X3_succeeds : GoodIn wsX3_runScript wsX3_succeeds := goodIn_r _ [43, 3, 44, 45, 46, 8, 47, 6, 7, 9, 48, 14, 49, 50, 19, 21, 51, 52, 53, 54, 55, 56, 57, 32, 25, 27, 26, 28, 24, 20, 58, 59, 60, 61, 18, 31, 17, 62, 63, 64, 65, 66, 67, 29, 68, 69, 70, 71, 72, 73, 74, 75, 76, 77, 78, 79, 80, 81, 82, 83, 84, 22, 23, 85, 34, 86, 87, 38, 39, 37, 88, 89, 90, 91, 92, 93, 94, 95, 96, 97, 98, 99, 100, 101, 102, 103, 104, 105, 106, 107, 108, 109, 110, 111, 112, 113, 114, 115, 116, 117, 30, 118, 119, 120, 121, 122, 123, 124, 125, 126, 127, 128, 129, 130, 131, 132, 133, 134, 135, 136, 137, 138, 139, 140, 141, 142, 143, 144, 145, 146, 147, 148, 149, 150, 151, 152, 153, 154, 155] (by decide +kernel) (by decide +kernel)
set_option maxRecDepth 20000 in
theorem gX3_runScript_X3_succeeds : GoodIn wsX3_runScript (wsV RX3 251 RX3 yX3_succeeds wsX3_succeeds) := goodIn_app (goodIn_of _ (by decide +kernel)) ggX3_runScript_X3_succeeds
theorem dX3_runScript_0 : decode cX3_runScript 0 = .ok (.iload_n 1, 1) := by decide +kernel
theorem dX3_runScript_1 : decode cX3_runScript 1 = .ok (.iconst 1, 1) := by decide +kernel
theorem dX3_runScript_2 : decode cX3_runScript 2 = .ok (.iconst 3, 1) := by decide +kernel
theorem dX3_runScript_3 : decode cX3_runScript 3 = .ok (.invokestatic 37, 3) := by decide +kernel
theorem dX3_runScript_6 : decode cX3_runScript 6 = .ok (.ifCond .eq 13, 3) := by decide +kernel
theorem dX3_runScript_9 : decode cX3_runScript 9 = .ok (.new 41, 3) := by decide +kernel
theorem dX3_runScript_12 : decode cX3_runScript 12 = .ok (.dup, 1) := by decide +kernel
theorem dX3_runScript_13 : decode cX3_runScript 13 = .ok (.ldc 241, 2) := by decide +kernel
theorem dX3_runScript_15 : decode cX3_runScript 15 = .ok (.invokespecial 45, 3) := by decide +kernel
theorem dX3_runScript_18 : decode cX3_runScript 18 = .ok (.athrow, 1) := by decide +kernel
theorem dX3_runScript_19 : decode cX3_runScript 19 = .ok (.lload_n 2, 1) := by decide +kernel
theorem dX3_runScript_20 : decode cX3_runScript 20 = .ok (.lconst 0, 1) := by decide +kernel
theorem dX3_runScript_21 : decode cX3_runScript 21 = .ok (.lcmp, 1) := by decide +kernel
theorem dX3_runScript_22 : decode cX3_runScript 22 = .ok (.ifCond .lt 13, 3) := by decide +kernel
theorem dX3_runScript_25 : decode cX3_runScript 25 = .ok (.lload_n 2, 1) := by decide +kernel
theorem dX3_runScript_26 : decode cX3_runScript 26 = .ok (.iload_n 1, 1) := by decide +kernel
theorem dX3_runScript_27 : decode cX3_runScript 27 = .ok (.invokestatic 243, 3) := by decide +kernel
theorem dX3_runScript_30 : decode cX3_runScript 30 = .ok (.lconst 0, 1) := by decide +kernel
theorem dX3_runScript_31 : decode cX3_runScript 31 = .ok (.lcmp, 1) := by decide +kernel
theorem dX3_runScript_32 : decode cX3_runScript 32 = .ok (.ifCond .eq 13, 3) := by decide +kernel
theorem dX3_runScript_35 : decode cX3_runScript 35 = .ok (.new 41, 3) := by decide +kernel
theorem dX3_runScript_38 : decode cX3_runScript 38 = .ok (.dup, 1) := by decide +kernel
theorem dX3_runScript_39 : decode cX3_runScript 39 = .ok (.ldc 247, 2) := by decide +kernel
theorem dX3_runScript_41 : decode cX3_runScript 41 = .ok (.invokespecial 45, 3) := by decide +kernel
theorem dX3_runScript_44 : decode cX3_runScript 44 = .ok (.athrow, 1) := by decide +kernel
theorem dX3_runScript_45 : decode cX3_runScript 45 = .ok (.aload_n 0, 1) := by decide +kernel
theorem dX3_runScript_46 : decode cX3_runScript 46 = .ok (.getfield 23, 3) := by decide +kernel
theorem dX3_runScript_49 : decode cX3_runScript 49 = .ok (.aload_n 0, 1) := by decide +kernel
theorem dX3_runScript_50 : decode cX3_runScript 50 = .ok (.getfield 19, 3) := by decide +kernel
theorem dX3_runScript_53 : decode cX3_runScript 53 = .ok (.invokevirtual 181, 3) := by decide +kernel
theorem dX3_runScript_56 : decode cX3_runScript 56 = .ok (.iconst 0, 1) := by decide +kernel
theorem dX3_runScript_57 : decode cX3_runScript 57 = .ok (.istore 4, 2) := by decide +kernel
theorem dX3_runScript_59 : decode cX3_runScript 59 = .ok (.iload 4, 2) := by decide +kernel
theorem dX3_runScript_61 : decode cX3_runScript 61 = .ok (.iload_n 1, 1) := by decide +kernel
theorem dX3_runScript_62 : decode cX3_runScript 62 = .ok (.if_icmp .ge 34, 3) := by decide +kernel
theorem dX3_runScript_65 : decode cX3_runScript 65 = .ok (.aload_n 0, 1) := by decide +kernel
theorem dX3_runScript_66 : decode cX3_runScript 66 = .ok (.lload_n 2, 1) := by decide +kernel
theorem dX3_runScript_67 : decode cX3_runScript 67 = .ok (.iload_n 1, 1) := by decide +kernel
theorem dX3_runScript_68 : decode cX3_runScript 68 = .ok (.iconst 1, 1) := by decide +kernel
theorem dX3_runScript_69 : decode cX3_runScript 69 = .ok (.isub, 1) := by decide +kernel
theorem dX3_runScript_70 : decode cX3_runScript 70 = .ok (.iload 4, 2) := by decide +kernel
theorem dX3_runScript_72 : decode cX3_runScript 72 = .ok (.isub, 1) := by decide +kernel
theorem dX3_runScript_73 : decode cX3_runScript 73 = .ok (.invokestatic 243, 3) := by decide +kernel
theorem dX3_runScript_76 : decode cX3_runScript 76 = .ok (.ldc2_w 249, 3) := by decide +kernel
theorem dX3_runScript_79 : decode cX3_runScript 79 = .ok (.lrem, 1) := by decide +kernel
theorem dX3_runScript_80 : decode cX3_runScript 80 = .ok (.l2i, 1) := by decide +kernel
theorem dX3_runScript_81 : decode cX3_runScript 81 = .ok (.invokevirtual 251, 3) := by decide +kernel
theorem dX3_runScript_84 : decode cX3_runScript 84 = .ok (.ifCond .ne 6, 3) := by decide +kernel
theorem dX3_runScript_87 : decode cX3_runScript 87 = .ok (.iload 4, 2) := by decide +kernel
theorem dX3_runScript_89 : decode cX3_runScript 89 = .ok (.ireturn, 1) := by decide +kernel
theorem dX3_runScript_90 : decode cX3_runScript 90 = .ok (.iinc 4 1, 3) := by decide +kernel
theorem dX3_runScript_93 : decode cX3_runScript 93 = .ok (.goto (-34), 3) := by decide +kernel
theorem dX3_runScript_96 : decode cX3_runScript 96 = .ok (.sipush (-9999), 3) := by decide +kernel
theorem dX3_runScript_99 : decode cX3_runScript 99 = .ok (.ireturn, 1) := by decide +kernel
set_option maxRecDepth 20000 in
theorem ggX3_simulate_X3_outside : GoodIn wsX3_simulate wsX3_outside := goodIn_r _ [10] (by decide +kernel) (by decide +kernel)
set_option maxRecDepth 20000 in
theorem gX3_simulate_X3_outside : GoodIn wsX3_simulate (va_wsS RX3 37 yX3_outside wsX3_outside) := goodIn_app (goodIn_of _ (by decide +kernel)) ggX3_simulate_X3_outside
set_option maxRecDepth 20000 in
theorem ggX3_simulate_X1_copyFrom : GoodIn wsX3_simulate wsX1_copyFrom := goodIn_r _ [14, 15, 16, 17, 18, 19, 20, 21, 22, 23, 24, 25, 26, 27, 28, 29, 30, 31, 32, 33, 34, 35, 36, 37, 104, 105, 106, 107, 108, 109, 110, 111, 112, 113, 114, 115, 116, 117, 118, 119, 120, 121, 122] (by decide +kernel) (by decide +kernel)
set_option maxRecDepth 20000 in
theorem gX3_simulate_X1_copyFrom_n181 : GoodIn wsX3_simulate (wsX1_copyFrom) := ggX3_simulate_X1_copyFrom
set_option maxRecDepth 20000 in
theorem ggX3_simulate_X3_playRound : GoodIn wsX3_simulate wsX3_playRound := goodIn_r _ [41, 3, 42, 12, 43, 44, 22, 23, 45, 46, 47, 48, 49, 50, 51, 52, 53, 54, 24, 55, 56, 57, 58, 17, 19, 59, 60, 61, 30, 25, 26, 18, 62, 63, 64, 65, 16, 29, 15, 66, 9, 67, 68, 69, 70, 71, 27, 72, 73, 74, 75, 76, 77, 78, 79, 80, 81, 82, 83, 84, 85, 86, 87, 88, 20, 21, 89, 32, 90, 91, 36, 37, 35, 92, 93, 94, 95, 96, 97, 98, 99, 100, 101, 102, 103, 104, 105, 106, 107, 108, 109, 110, 111, 112, 113, 114, 115, 116, 117, 118, 119, 120, 121, 122] (by decide +kernel) (by decide +kernel)
set_option maxRecDepth 20000 in
theorem gX3_simulate_X3_playRound : GoodIn wsX3_simulate (wsV RX3 260 RX3 yX3_playRound wsX3_playRound) := goodIn_app (goodIn_of _ (by decide +kernel)) ggX3_simulate_X3_playRound
theorem dX3_simulate_0 : decode cX3_simulate 0 = .ok (.iload_n 3, 1) := by decide +kernel
theorem dX3_simulate_1 : decode cX3_simulate 1 = .ok (.iconst 1, 1) := by decide +kernel
theorem dX3_simulate_2 : decode cX3_simulate 2 = .ok (.bipush 99, 2) := by decide +kernel
theorem dX3_simulate_4 : decode cX3_simulate 4 = .ok (.invokestatic 37, 3) := by decide +kernel
theorem dX3_simulate_7 : decode cX3_simulate 7 = .ok (.ifCond .eq 13, 3) := by decide +kernel
theorem dX3_simulate_10 : decode cX3_simulate 10 = .ok (.new 41, 3) := by decide +kernel
theorem dX3_simulate_13 : decode cX3_simulate 13 = .ok (.dup, 1) := by decide +kernel
theorem dX3_simulate_14 : decode cX3_simulate 14 = .ok (.ldc 254, 2) := by decide +kernel
theorem dX3_simulate_16 : decode cX3_simulate 16 = .ok (.invokespecial 45, 3) := by decide +kernel
theorem dX3_simulate_19 : decode cX3_simulate 19 = .ok (.athrow, 1) := by decide +kernel
theorem dX3_simulate_20 : decode cX3_simulate 20 = .ok (.aload_n 0, 1) := by decide +kernel
theorem dX3_simulate_21 : decode cX3_simulate 21 = .ok (.getfield 23, 3) := by decide +kernel
theorem dX3_simulate_24 : decode cX3_simulate 24 = .ok (.aload_n 0, 1) := by decide +kernel
theorem dX3_simulate_25 : decode cX3_simulate 25 = .ok (.getfield 19, 3) := by decide +kernel
theorem dX3_simulate_28 : decode cX3_simulate 28 = .ok (.invokevirtual 181, 3) := by decide +kernel
theorem dX3_simulate_31 : decode cX3_simulate 31 = .ok (.lload_n 1, 1) := by decide +kernel
theorem dX3_simulate_32 : decode cX3_simulate 32 = .ok (.lstore 4, 2) := by decide +kernel
theorem dX3_simulate_34 : decode cX3_simulate 34 = .ok (.iconst 0, 1) := by decide +kernel
theorem dX3_simulate_35 : decode cX3_simulate 35 = .ok (.istore 6, 2) := by decide +kernel
theorem dX3_simulate_37 : decode cX3_simulate 37 = .ok (.iconst 0, 1) := by decide +kernel
theorem dX3_simulate_38 : decode cX3_simulate 38 = .ok (.istore 7, 2) := by decide +kernel
theorem dX3_simulate_40 : decode cX3_simulate 40 = .ok (.iload 7, 2) := by decide +kernel
theorem dX3_simulate_42 : decode cX3_simulate 42 = .ok (.iload_n 3, 1) := by decide +kernel
theorem dX3_simulate_43 : decode cX3_simulate 43 = .ok (.if_icmp .ge 36, 3) := by decide +kernel
theorem dX3_simulate_46 : decode cX3_simulate 46 = .ok (.lload 4, 2) := by decide +kernel
theorem dX3_simulate_48 : decode cX3_simulate 48 = .ok (.ldc2_w 256, 3) := by decide +kernel
theorem dX3_simulate_51 : decode cX3_simulate 51 = .ok (.lmul, 1) := by decide +kernel
theorem dX3_simulate_52 : decode cX3_simulate 52 = .ok (.ldc2_w 258, 3) := by decide +kernel
theorem dX3_simulate_55 : decode cX3_simulate 55 = .ok (.ladd, 1) := by decide +kernel
theorem dX3_simulate_56 : decode cX3_simulate 56 = .ok (.lstore 4, 2) := by decide +kernel
theorem dX3_simulate_58 : decode cX3_simulate 58 = .ok (.iload 6, 2) := by decide +kernel
theorem dX3_simulate_60 : decode cX3_simulate 60 = .ok (.aload_n 0, 1) := by decide +kernel
theorem dX3_simulate_61 : decode cX3_simulate 61 = .ok (.lload 4, 2) := by decide +kernel
theorem dX3_simulate_63 : decode cX3_simulate 63 = .ok (.bipush 33, 2) := by decide +kernel
theorem dX3_simulate_65 : decode cX3_simulate 65 = .ok (.lushr, 1) := by decide +kernel
theorem dX3_simulate_66 : decode cX3_simulate 66 = .ok (.l2i, 1) := by decide +kernel
theorem dX3_simulate_67 : decode cX3_simulate 67 = .ok (.invokevirtual 260, 3) := by decide +kernel
theorem dX3_simulate_70 : decode cX3_simulate 70 = .ok (.iadd, 1) := by decide +kernel
theorem dX3_simulate_71 : decode cX3_simulate 71 = .ok (.istore 6, 2) := by decide +kernel
theorem dX3_simulate_73 : decode cX3_simulate 73 = .ok (.iinc 7 1, 3) := by decide +kernel
theorem dX3_simulate_76 : decode cX3_simulate 76 = .ok (.goto (-36), 3) := by decide +kernel
theorem dX3_simulate_79 : decode cX3_simulate 79 = .ok (.iload 6, 2) := by decide +kernel
theorem dX3_simulate_81 : decode cX3_simulate 81 = .ok (.ireturn, 1) := by decide +kernel
set_option maxRecDepth 20000 in
theorem ggX3_save_X3_outside : GoodIn wsX3_save wsX3_outside := goodIn_r _ [9] (by decide +kernel) (by decide +kernel)
set_option maxRecDepth 20000 in
theorem gX3_save_X3_outside : GoodIn wsX3_save (va_wsS RX3 37 yX3_outside wsX3_outside) := goodIn_app (goodIn_of _ (by decide +kernel)) ggX3_save_X3_outside
set_option maxRecDepth 20000 in
theorem ggX3_save_X3_entry : GoodIn wsX3_save wsX3_entry := goodIn_r _ [12] (by decide +kernel) (by decide +kernel)
set_option maxRecDepth 20000 in
theorem gX3_save_X3_entry : GoodIn wsX3_save (va_wsS RX3 177 yX3_entry wsX3_entry) := goodIn_app (goodIn_of _ (by decide +kernel)) ggX3_save_X3_entry
set_option maxRecDepth 20000 in
theorem ggX3_save_X1_copyFrom : GoodIn wsX3_save wsX1_copyFrom := goodIn_r _ [16, 17, 18, 19, 20, 21, 22, 23, 24, 25, 26, 27, 28, 29, 30, 31, 32, 33, 34, 35, 36, 37, 38, 39, 48, 49, 50, 51, 52, 53, 54, 55, 56, 57, 58, 59, 60, 61, 62, 63, 64, 65, 66] (by decide +kernel) (by decide +kernel)
set_option maxRecDepth 20000 in
theorem gX3_save_X1_copyFrom_n181 : GoodIn wsX3_save (wsX1_copyFrom) := ggX3_save_X1_copyFrom
theorem dX3_save_0 : decode cX3_save 0 = .ok (.iload_n 1, 1) := by decide +kernel
theorem dX3_save_1 : decode cX3_save 1 = .ok (.iconst 0, 1) := by decide +kernel
theorem dX3_save_2 : decode cX3_save 2 = .ok (.iconst 1, 1) := by decide +kernel
theorem dX3_save_3 : decode cX3_save 3 = .ok (.invokestatic 37, 3) := by decide +kernel
theorem dX3_save_6 : decode cX3_save 6 = .ok (.ifCond .ne 12, 3) := by decide +kernel
theorem dX3_save_9 : decode cX3_save 9 = .ok (.iload_n 1, 1) := by decide +kernel
theorem dX3_save_10 : decode cX3_save 10 = .ok (.aload_n 0, 1) := by decide +kernel
theorem dX3_save_11 : decode cX3_save 11 = .ok (.getfield 33, 3) := by decide +kernel
theorem dX3_save_14 : decode cX3_save 14 = .ok (.arraylength, 1) := by decide +kernel
theorem dX3_save_15 : decode cX3_save 15 = .ok (.if_icmp .lt 14, 3) := by decide +kernel
theorem dX3_save_18 : decode cX3_save 18 = .ok (.new 148, 3) := by decide +kernel
theorem dX3_save_21 : decode cX3_save 21 = .ok (.dup, 1) := by decide +kernel
theorem dX3_save_22 : decode cX3_save 22 = .ok (.ldc_w 263, 3) := by decide +kernel
theorem dX3_save_25 : decode cX3_save 25 = .ok (.invokespecial 152, 3) := by decide +kernel
theorem dX3_save_28 : decode cX3_save 28 = .ok (.athrow, 1) := by decide +kernel
theorem dX3_save_29 : decode cX3_save 29 = .ok (.aload_n 0, 1) := by decide +kernel
theorem dX3_save_30 : decode cX3_save 30 = .ok (.getfield 30, 3) := by decide +kernel
theorem dX3_save_33 : decode cX3_save 33 = .ok (.iload_n 1, 1) := by decide +kernel
theorem dX3_save_34 : decode cX3_save 34 = .ok (.invokestatic 177, 3) := by decide +kernel
theorem dX3_save_37 : decode cX3_save 37 = .ok (.astore_n 2, 1) := by decide +kernel
theorem dX3_save_38 : decode cX3_save 38 = .ok (.aload_n 2, 1) := by decide +kernel
theorem dX3_save_39 : decode cX3_save 39 = .ok (.ifnull 11, 3) := by decide +kernel
theorem dX3_save_42 : decode cX3_save 42 = .ok (.aload_n 2, 1) := by decide +kernel
theorem dX3_save_43 : decode cX3_save 43 = .ok (.aload_n 0, 1) := by decide +kernel
theorem dX3_save_44 : decode cX3_save 44 = .ok (.getfield 19, 3) := by decide +kernel
theorem dX3_save_47 : decode cX3_save 47 = .ok (.invokevirtual 181, 3) := by decide +kernel
theorem dX3_save_50 : decode cX3_save 50 = .ok (.aload_n 0, 1) := by decide +kernel
theorem dX3_save_51 : decode cX3_save 51 = .ok (.getfield 33, 3) := by decide +kernel
theorem dX3_save_54 : decode cX3_save 54 = .ok (.iload_n 1, 1) := by decide +kernel
theorem dX3_save_55 : decode cX3_save 55 = .ok (.iconst 1, 1) := by decide +kernel
theorem dX3_save_56 : decode cX3_save 56 = .ok (.bastore, 1) := by decide +kernel
theorem dX3_save_57 : decode cX3_save 57 = .ok (.aload_n 0, 1) := by decide +kernel
theorem dX3_save_58 : decode cX3_save 58 = .ok (.getfield 19, 3) := by decide +kernel
theorem dX3_save_61 : decode cX3_save 61 = .ok (.getfield 265, 3) := by decide +kernel
theorem dX3_save_64 : decode cX3_save 64 = .ok (.ireturn, 1) := by decide +kernel
set_option maxRecDepth 20000 in
theorem ggX3_restore_X3_outside : GoodIn wsX3_restore wsX3_outside := goodIn_r _ [11] (by decide +kernel) (by decide +kernel)
set_option maxRecDepth 20000 in
theorem gX3_restore_X3_outside : GoodIn wsX3_restore (va_wsS RX3 37 yX3_outside wsX3_outside) := goodIn_app (goodIn_of _ (by decide +kernel)) ggX3_restore_X3_outside
set_option maxRecDepth 20000 in
theorem ggX3_restore_X3_entry : GoodIn wsX3_restore wsX3_entry := goodIn_r _ [14] (by decide +kernel) (by decide +kernel)
set_option maxRecDepth 20000 in
theorem gX3_restore_X3_entry : GoodIn wsX3_restore (va_wsS RX3 177 yX3_entry wsX3_entry) := goodIn_app (goodIn_of _ (by decide +kernel)) ggX3_restore_X3_entry
set_option maxRecDepth 20000 in
theorem ggX3_restore_X1_copyFrom : GoodIn wsX3_restore wsX1_copyFrom := goodIn_r _ [18, 19, 20, 21, 22, 23, 24, 25, 26, 27, 28, 29, 30, 31, 32, 33, 34, 35, 36, 37, 38, 39, 40, 41, 56, 57, 58, 59, 60, 61, 62, 63, 64, 65, 66, 67, 68, 69, 70, 71, 72, 73, 74] (by decide +kernel) (by decide +kernel)
set_option maxRecDepth 20000 in
theorem gX3_restore_X1_copyFrom_n181 : GoodIn wsX3_restore (wsX1_copyFrom) := ggX3_restore_X1_copyFrom
set_option maxRecDepth 20000 in
theorem ggX3_restore_X3_forgetPast : GoodIn wsX3_restore wsX3_forgetPast := goodIn_r _ [45, 46, 47, 48, 49, 50, 51, 52, 53, 54, 55] (by decide +kernel) (by decide +kernel)
set_option maxRecDepth 20000 in
theorem gX3_restore_X3_forgetPast : GoodIn wsX3_restore (wsV RX3 71 RX3 yX3_forgetPast wsX3_forgetPast) := goodIn_app (goodIn_of _ (by decide +kernel)) ggX3_restore_X3_forgetPast
theorem dX3_restore_0 : decode cX3_restore 0 = .ok (.iload_n 1, 1) := by decide +kernel
theorem dX3_restore_1 : decode cX3_restore 1 = .ok (.iconst 0, 1) := by decide +kernel
theorem dX3_restore_2 : decode cX3_restore 2 = .ok (.iconst 1, 1) := by decide +kernel
theorem dX3_restore_3 : decode cX3_restore 3 = .ok (.invokestatic 37, 3) := by decide +kernel
theorem dX3_restore_6 : decode cX3_restore 6 = .ok (.ifCond .ne 12, 3) := by decide +kernel
theorem dX3_restore_9 : decode cX3_restore 9 = .ok (.iload_n 1, 1) := by decide +kernel
theorem dX3_restore_10 : decode cX3_restore 10 = .ok (.aload_n 0, 1) := by decide +kernel
theorem dX3_restore_11 : decode cX3_restore 11 = .ok (.getfield 33, 3) := by decide +kernel
theorem dX3_restore_14 : decode cX3_restore 14 = .ok (.arraylength, 1) := by decide +kernel
theorem dX3_restore_15 : decode cX3_restore 15 = .ok (.if_icmp .lt 14, 3) := by decide +kernel
theorem dX3_restore_18 : decode cX3_restore 18 = .ok (.new 148, 3) := by decide +kernel
theorem dX3_restore_21 : decode cX3_restore 21 = .ok (.dup, 1) := by decide +kernel
theorem dX3_restore_22 : decode cX3_restore 22 = .ok (.ldc_w 263, 3) := by decide +kernel
theorem dX3_restore_25 : decode cX3_restore 25 = .ok (.invokespecial 152, 3) := by decide +kernel
theorem dX3_restore_28 : decode cX3_restore 28 = .ok (.athrow, 1) := by decide +kernel
theorem dX3_restore_29 : decode cX3_restore 29 = .ok (.aload_n 0, 1) := by decide +kernel
theorem dX3_restore_30 : decode cX3_restore 30 = .ok (.getfield 33, 3) := by decide +kernel
theorem dX3_restore_33 : decode cX3_restore 33 = .ok (.iload_n 1, 1) := by decide +kernel
theorem dX3_restore_34 : decode cX3_restore 34 = .ok (.baload, 1) := by decide +kernel
theorem dX3_restore_35 : decode cX3_restore 35 = .ok (.ifCond .ne 14, 3) := by decide +kernel
theorem dX3_restore_38 : decode cX3_restore 38 = .ok (.new 52, 3) := by decide +kernel
theorem dX3_restore_41 : decode cX3_restore 41 = .ok (.dup, 1) := by decide +kernel
theorem dX3_restore_42 : decode cX3_restore 42 = .ok (.ldc_w 268, 3) := by decide +kernel
theorem dX3_restore_45 : decode cX3_restore 45 = .ok (.invokespecial 56, 3) := by decide +kernel
theorem dX3_restore_48 : decode cX3_restore 48 = .ok (.athrow, 1) := by decide +kernel
theorem dX3_restore_49 : decode cX3_restore 49 = .ok (.aload_n 0, 1) := by decide +kernel
theorem dX3_restore_50 : decode cX3_restore 50 = .ok (.getfield 19, 3) := by decide +kernel
theorem dX3_restore_53 : decode cX3_restore 53 = .ok (.aload_n 0, 1) := by decide +kernel
theorem dX3_restore_54 : decode cX3_restore 54 = .ok (.getfield 30, 3) := by decide +kernel
theorem dX3_restore_57 : decode cX3_restore 57 = .ok (.iload_n 1, 1) := by decide +kernel
theorem dX3_restore_58 : decode cX3_restore 58 = .ok (.invokestatic 177, 3) := by decide +kernel
theorem dX3_restore_61 : decode cX3_restore 61 = .ok (.invokevirtual 181, 3) := by decide +kernel
theorem dX3_restore_64 : decode cX3_restore 64 = .ok (.aload_n 0, 1) := by decide +kernel
theorem dX3_restore_65 : decode cX3_restore 65 = .ok (.invokevirtual 71, 3) := by decide +kernel
theorem dX3_restore_68 : decode cX3_restore 68 = .ok (.aload_n 0, 1) := by decide +kernel
theorem dX3_restore_69 : decode cX3_restore 69 = .ok (.getfield 19, 3) := by decide +kernel
theorem dX3_restore_72 : decode cX3_restore 72 = .ok (.getfield 265, 3) := by decide +kernel
theorem dX3_restore_75 : decode cX3_restore 75 = .ok (.ireturn, 1) := by decide +kernel
set_option maxRecDepth 20000 in
theorem ggX3_remember_X3_entry : GoodIn wsX3_remember wsX3_entry := goodIn_r _ [12] (by decide +kernel) (by decide +kernel)
set_option maxRecDepth 20000 in
theorem gX3_remember_X3_entry : GoodIn wsX3_remember (va_wsS RX3 177 yX3_entry wsX3_entry) := goodIn_app (goodIn_of _ (by decide +kernel)) ggX3_remember_X3_entry
set_option maxRecDepth 20000 in
theorem ggX3_remember_X1_copyFrom : GoodIn wsX3_remember wsX1_copyFrom := goodIn_r _ [16, 17, 18, 19, 20, 21, 22, 23, 24, 25, 26, 27, 28, 29, 30, 31, 32, 33, 34, 35, 36, 37, 38, 39, 48, 49, 50, 51, 52, 53, 54, 55, 56, 57, 58, 59, 60, 61, 62, 63, 64, 65, 66] (by decide +kernel) (by decide +kernel)
set_option maxRecDepth 20000 in
theorem gX3_remember_X1_copyFrom_n181 : GoodIn wsX3_remember (wsX1_copyFrom) := ggX3_remember_X1_copyFrom
theorem dX3_remember_0 : decode cX3_remember 0 = .ok (.aload_n 0, 1) := by decide +kernel
theorem dX3_remember_1 : decode cX3_remember 1 = .ok (.getfield 26, 3) := by decide +kernel
theorem dX3_remember_4 : decode cX3_remember 4 = .ok (.aload_n 0, 1) := by decide +kernel
theorem dX3_remember_5 : decode cX3_remember 5 = .ok (.getfield 174, 3) := by decide +kernel
theorem dX3_remember_8 : decode cX3_remember 8 = .ok (.invokestatic 177, 3) := by decide +kernel
theorem dX3_remember_11 : decode cX3_remember 11 = .ok (.astore_n 1, 1) := by decide +kernel
theorem dX3_remember_12 : decode cX3_remember 12 = .ok (.aload_n 1, 1) := by decide +kernel
theorem dX3_remember_13 : decode cX3_remember 13 = .ok (.ifnull 11, 3) := by decide +kernel
theorem dX3_remember_16 : decode cX3_remember 16 = .ok (.aload_n 1, 1) := by decide +kernel
theorem dX3_remember_17 : decode cX3_remember 17 = .ok (.aload_n 0, 1) := by decide +kernel
theorem dX3_remember_18 : decode cX3_remember 18 = .ok (.getfield 19, 3) := by decide +kernel
theorem dX3_remember_21 : decode cX3_remember 21 = .ok (.invokevirtual 181, 3) := by decide +kernel
theorem dX3_remember_24 : decode cX3_remember 24 = .ok (.aload_n 0, 1) := by decide +kernel
theorem dX3_remember_25 : decode cX3_remember 25 = .ok (.aload_n 0, 1) := by decide +kernel
theorem dX3_remember_26 : decode cX3_remember 26 = .ok (.getfield 174, 3) := by decide +kernel
theorem dX3_remember_29 : decode cX3_remember 29 = .ok (.bipush 13, 2) := by decide +kernel
theorem dX3_remember_31 : decode cX3_remember 31 = .ok (.if_icmp .ge 12, 3) := by decide +kernel
theorem dX3_remember_34 : decode cX3_remember 34 = .ok (.aload_n 0, 1) := by decide +kernel
theorem dX3_remember_35 : decode cX3_remember 35 = .ok (.getfield 174, 3) := by decide +kernel
theorem dX3_remember_38 : decode cX3_remember 38 = .ok (.iconst 1, 1) := by decide +kernel
theorem dX3_remember_39 : decode cX3_remember 39 = .ok (.iadd, 1) := by decide +kernel
theorem dX3_remember_40 : decode cX3_remember 40 = .ok (.goto 4, 3) := by decide +kernel
theorem dX3_remember_43 : decode cX3_remember 43 = .ok (.iconst 0, 1) := by decide +kernel
theorem dX3_remember_44 : decode cX3_remember 44 = .ok (.putfield 174, 3) := by decide +kernel
theorem dX3_remember_47 : decode cX3_remember 47 = .ok (.aload_n 0, 1) := by decide +kernel
theorem dX3_remember_48 : decode cX3_remember 48 = .ok (.bipush 14, 2) := by decide +kernel
theorem dX3_remember_50 : decode cX3_remember 50 = .ok (.aload_n 0, 1) := by decide +kernel
theorem dX3_remember_51 : decode cX3_remember 51 = .ok (.getfield 169, 3) := by decide +kernel
theorem dX3_remember_54 : decode cX3_remember 54 = .ok (.iconst 1, 1) := by decide +kernel
theorem dX3_remember_55 : decode cX3_remember 55 = .ok (.iadd, 1) := by decide +kernel
theorem dX3_remember_56 : decode cX3_remember 56 = .ok (.invokestatic 202, 3) := by decide +kernel
theorem dX3_remember_59 : decode cX3_remember 59 = .ok (.putfield 169, 3) := by decide +kernel
theorem dX3_remember_62 : decode cX3_remember 62 = .ok (.return_, 1) := by decide +kernel
theorem dX3_forgetPast_0 : decode cX3_forgetPast 0 = .ok (.aload_n 0, 1) := by decide +kernel
theorem dX3_forgetPast_1 : decode cX3_forgetPast 1 = .ok (.iconst 0, 1) := by decide +kernel
theorem dX3_forgetPast_2 : decode cX3_forgetPast 2 = .ok (.putfield 169, 3) := by decide +kernel
theorem dX3_forgetPast_5 : decode cX3_forgetPast 5 = .ok (.aload_n 0, 1) := by decide +kernel
theorem dX3_forgetPast_6 : decode cX3_forgetPast 6 = .ok (.iconst 0, 1) := by decide +kernel
theorem dX3_forgetPast_7 : decode cX3_forgetPast 7 = .ok (.putfield 174, 3) := by decide +kernel
theorem dX3_forgetPast_10 : decode cX3_forgetPast 10 = .ok (.return_, 1) := by decide +kernel
set_option maxRecDepth 20000 in
theorem ggX3_succeeds_X3_pressesOften : GoodIn wsX3_succeeds wsX3_pressesOften := goodIn_r _ [6, 1, 7, 8, 5, 9, 10, 11, 12, 13, 14, 15, 16, 17, 18, 19, 20, 21, 22, 23, 24, 25, 26, 27, 28, 29, 30, 31, 32, 33, 34, 35, 36, 37, 38, 39, 40, 41, 42, 43, 44, 45, 46, 47, 48, 49, 50, 51, 52, 53, 54, 55, 56, 57, 58, 59, 60, 61, 62, 63, 64, 65, 66, 67, 68, 69, 70, 71, 72, 73, 112, 113, 114, 115, 116, 117, 118, 119, 120, 121, 122, 123, 124, 125, 126, 127, 128, 129, 130, 131, 132, 133, 134, 135, 136, 137, 138] (by decide +kernel) (by decide +kernel)
set_option maxRecDepth 20000 in
theorem gX3_succeeds_X3_pressesOften : GoodIn wsX3_succeeds (wsV RX3 270 RX3 yX3_pressesOften wsX3_pressesOften) := goodIn_app (goodIn_of _ (by decide +kernel)) ggX3_succeeds_X3_pressesOften
set_option maxRecDepth 20000 in
theorem ggX3_succeeds_X3_waits : GoodIn wsX3_succeeds wsX3_waits := goodIn_r _ [77, 1, 7, 8, 5, 9, 78, 11, 79, 80, 28, 24, 81, 82, 83, 20, 21, 18, 22, 112, 113, 114, 115, 116, 117, 118, 119, 120, 121, 122, 123, 124, 125, 126, 127, 128, 129, 130, 131, 132, 133, 134, 135] (by decide +kernel) (by decide +kernel)
set_option maxRecDepth 20000 in
theorem gX3_succeeds_X3_waits : GoodIn wsX3_succeeds (wsV RX3 274 RX3 yX3_waits wsX3_waits) := goodIn_app (goodIn_of _ (by decide +kernel)) ggX3_succeeds_X3_waits
set_option maxRecDepth 20000 in
theorem ggX3_succeeds_X3_changes : GoodIn wsX3_succeeds wsX3_changes := goodIn_r _ [87, 1, 88, 11, 89, 90, 91, 92, 36, 34, 14, 29, 15, 61, 62, 112, 113, 114, 115, 116, 117, 118, 119, 120, 121, 122, 123, 124, 125, 126, 127, 128, 129, 130, 131, 132, 133, 134, 135] (by decide +kernel) (by decide +kernel)
set_option maxRecDepth 20000 in
theorem gX3_succeeds_X3_changes : GoodIn wsX3_succeeds (wsV RX3 277 RX3 yX3_changes wsX3_changes) := goodIn_app (goodIn_of _ (by decide +kernel)) ggX3_succeeds_X3_changes
set_option maxRecDepth 20000 in
theorem ggX3_succeeds_X3_puts : GoodIn wsX3_succeeds wsX3_puts := goodIn_r _ [96, 1, 97, 11, 98, 99, 100, 112, 113, 114, 115, 116, 117, 118, 119, 120, 121, 122, 123, 124, 125, 126, 127, 128, 129, 130, 131, 132, 133, 134, 135] (by decide +kernel) (by decide +kernel)
set_option maxRecDepth 20000 in
theorem gX3_succeeds_X3_puts : GoodIn wsX3_succeeds (wsV RX3 280 RX3 yX3_puts wsX3_puts) := goodIn_app (goodIn_of _ (by decide +kernel)) ggX3_succeeds_X3_puts
set_option maxRecDepth 20000 in
theorem ggX3_succeeds_X1_balanceBox : GoodIn wsX3_succeeds wsX1_balanceBox := goodIn_r _ [103, 14, 26, 37, 5, 38, 104, 105, 106, 11, 107, 108, 10, 12, 13, 15, 16, 17, 18, 19, 20, 21, 22, 23, 24, 25, 27, 28, 29, 30, 31, 32, 33, 34, 35, 36, 39, 40, 41, 42, 43, 44, 45, 46, 47, 48, 49, 50, 51, 52, 53, 54, 55, 56, 57, 58, 59, 60, 61, 62, 63, 64, 65, 66, 67, 68, 69, 70, 71, 72, 73, 120, 121, 122, 123, 124, 125, 126, 127, 128, 129, 130, 131, 132, 133, 134, 135, 136, 137, 138] (by decide +kernel) (by decide +kernel)
set_option maxRecDepth 20000 in
theorem gX3_succeeds_X1_balanceBox_n166 : GoodIn wsX3_succeeds (wsX1_balanceBox) := ggX3_succeeds_X1_balanceBox
set_option maxRecDepth 20000 in
theorem ggX3_succeeds_X0_cell : GoodIn wsX3_succeeds wsX0_cell := goodIn_r _ [111, 69, 67, 68, 136, 137, 138] (by decide +kernel) (by decide +kernel)
set_option maxRecDepth 20000 in
theorem gX3_succeeds_X0_cell_n91 : GoodIn wsX3_succeeds (wsX0_cell) := ggX3_succeeds_X0_cell
set_option maxRecDepth 20000 in
theorem ggX3_succeeds_X1_offset : GoodIn wsX3_succeeds wsX1_offset := goodIn_r _ [56, 28, 57, 58, 59, 11, 60, 61, 62, 120, 121, 122, 123, 124, 125, 126, 127, 128, 129, 130, 131, 132, 133, 134, 135] (by decide +kernel) (by decide +kernel)
set_option maxRecDepth 20000 in
theorem gX3_succeeds_X1_offset_n109 : GoodIn wsX3_succeeds (wsX1_offset) := ggX3_succeeds_X1_offset
theorem dX3_succeeds_0 : decode cX3_succeeds 0 = .ok (.iload_n 1, 1) := by decide +kernel
theorem dX3_succeeds_1 : decode cX3_succeeds 1 = .ok (.sipush 1000, 3) := by decide +kernel
theorem dX3_succeeds_4 : decode cX3_succeeds 4 = .ok (.idiv, 1) := by decide +kernel
theorem dX3_succeeds_5 : decode cX3_succeeds 5 = .ok (.bipush 10, 2) := by decide +kernel
theorem dX3_succeeds_7 : decode cX3_succeeds 7 = .ok (.irem, 1) := by decide +kernel
theorem dX3_succeeds_8 : decode cX3_succeeds 8 = .ok (.istore_n 2, 1) := by decide +kernel
theorem dX3_succeeds_9 : decode cX3_succeeds 9 = .ok (.iload_n 1, 1) := by decide +kernel
theorem dX3_succeeds_10 : decode cX3_succeeds 10 = .ok (.sipush 10000, 3) := by decide +kernel
theorem dX3_succeeds_13 : decode cX3_succeeds 13 = .ok (.irem, 1) := by decide +kernel
theorem dX3_succeeds_14 : decode cX3_succeeds 14 = .ok (.istore_n 3, 1) := by decide +kernel
theorem dX3_succeeds_15 : decode cX3_succeeds 15 = .ok (.iload_n 1, 1) := by decide +kernel
theorem dX3_succeeds_16 : decode cX3_succeeds 16 = .ok (.sipush 1000, 3) := by decide +kernel
theorem dX3_succeeds_19 : decode cX3_succeeds 19 = .ok (.irem, 1) := by decide +kernel
theorem dX3_succeeds_20 : decode cX3_succeeds 20 = .ok (.istore 4, 2) := by decide +kernel
theorem dX3_succeeds_22 : decode cX3_succeeds 22 = .ok (.iload_n 1, 1) := by decide +kernel
theorem dX3_succeeds_23 : decode cX3_succeeds 23 = .ok (.bipush 100, 2) := by decide +kernel
theorem dX3_succeeds_25 : decode cX3_succeeds 25 = .ok (.irem, 1) := by decide +kernel
theorem dX3_succeeds_26 : decode cX3_succeeds 26 = .ok (.istore 5, 2) := by decide +kernel
theorem dX3_succeeds_28 : decode cX3_succeeds 28 = .ok (.iload_n 1, 1) := by decide +kernel
theorem dX3_succeeds_29 : decode cX3_succeeds 29 = .ok (.sipush 10000, 3) := by decide +kernel
theorem dX3_succeeds_32 : decode cX3_succeeds 32 = .ok (.idiv, 1) := by decide +kernel
theorem dX3_succeeds_33 : decode cX3_succeeds 33 = .ok (.tableswitch 292 1 9 #[51, 81, 100, 110, 138, 157, 182, 199, 251], 51) := by decide +kernel
theorem dX3_succeeds_84 : decode cX3_succeeds 84 = .ok (.iload_n 2, 1) := by decide +kernel
theorem dX3_succeeds_85 : decode cX3_succeeds 85 = .ok (.iconst 1, 1) := by decide +kernel
theorem dX3_succeeds_86 : decode cX3_succeeds 86 = .ok (.if_icmp .gt 26, 3) := by decide +kernel
theorem dX3_succeeds_89 : decode cX3_succeeds 89 = .ok (.aload_n 0, 1) := by decide +kernel
theorem dX3_succeeds_90 : decode cX3_succeeds 90 = .ok (.iload_n 2, 1) := by decide +kernel
theorem dX3_succeeds_91 : decode cX3_succeeds 91 = .ok (.iconst 1, 1) := by decide +kernel
theorem dX3_succeeds_92 : decode cX3_succeeds 92 = .ok (.if_icmp .ne 7, 3) := by decide +kernel
theorem dX3_succeeds_95 : decode cX3_succeeds 95 = .ok (.iconst 1, 1) := by decide +kernel
theorem dX3_succeeds_96 : decode cX3_succeeds 96 = .ok (.goto 4, 3) := by decide +kernel
theorem dX3_succeeds_99 : decode cX3_succeeds 99 = .ok (.iconst 0, 1) := by decide +kernel
theorem dX3_succeeds_100 : decode cX3_succeeds 100 = .ok (.iload 4, 2) := by decide +kernel
theorem dX3_succeeds_102 : decode cX3_succeeds 102 = .ok (.invokevirtual 270, 3) := by decide +kernel
theorem dX3_succeeds_105 : decode cX3_succeeds 105 = .ok (.ifCond .eq 7, 3) := by decide +kernel
theorem dX3_succeeds_108 : decode cX3_succeeds 108 = .ok (.iconst 1, 1) := by decide +kernel
theorem dX3_succeeds_109 : decode cX3_succeeds 109 = .ok (.goto 4, 3) := by decide +kernel
theorem dX3_succeeds_112 : decode cX3_succeeds 112 = .ok (.iconst 0, 1) := by decide +kernel
theorem dX3_succeeds_113 : decode cX3_succeeds 113 = .ok (.ireturn, 1) := by decide +kernel
theorem dX3_succeeds_114 : decode cX3_succeeds 114 = .ok (.iload_n 2, 1) := by decide +kernel
theorem dX3_succeeds_115 : decode cX3_succeeds 115 = .ok (.ifCond .ne 16, 3) := by decide +kernel
theorem dX3_succeeds_118 : decode cX3_succeeds 118 = .ok (.aload_n 0, 1) := by decide +kernel
theorem dX3_succeeds_119 : decode cX3_succeeds 119 = .ok (.iload 4, 2) := by decide +kernel
theorem dX3_succeeds_121 : decode cX3_succeeds 121 = .ok (.invokevirtual 274, 3) := by decide +kernel
theorem dX3_succeeds_124 : decode cX3_succeeds 124 = .ok (.ifCond .eq 7, 3) := by decide +kernel
theorem dX3_succeeds_127 : decode cX3_succeeds 127 = .ok (.iconst 1, 1) := by decide +kernel
theorem dX3_succeeds_128 : decode cX3_succeeds 128 = .ok (.goto 4, 3) := by decide +kernel
theorem dX3_succeeds_131 : decode cX3_succeeds 131 = .ok (.iconst 0, 1) := by decide +kernel
theorem dX3_succeeds_132 : decode cX3_succeeds 132 = .ok (.ireturn, 1) := by decide +kernel
theorem dX3_succeeds_133 : decode cX3_succeeds 133 = .ok (.aload_n 0, 1) := by decide +kernel
theorem dX3_succeeds_134 : decode cX3_succeeds 134 = .ok (.getfield 23, 3) := by decide +kernel
theorem dX3_succeeds_137 : decode cX3_succeeds 137 = .ok (.iload_n 3, 1) := by decide +kernel
theorem dX3_succeeds_138 : decode cX3_succeeds 138 = .ok (.putfield 97, 3) := by decide +kernel
theorem dX3_succeeds_141 : decode cX3_succeeds 141 = .ok (.iconst 1, 1) := by decide +kernel
theorem dX3_succeeds_142 : decode cX3_succeeds 142 = .ok (.ireturn, 1) := by decide +kernel
theorem dX3_succeeds_143 : decode cX3_succeeds 143 = .ok (.iload_n 2, 1) := by decide +kernel
theorem dX3_succeeds_144 : decode cX3_succeeds 144 = .ok (.iconst 2, 1) := by decide +kernel
theorem dX3_succeeds_145 : decode cX3_succeeds 145 = .ok (.if_icmp .eq 24, 3) := by decide +kernel
theorem dX3_succeeds_148 : decode cX3_succeeds 148 = .ok (.iload 4, 2) := by decide +kernel
theorem dX3_succeeds_150 : decode cX3_succeeds 150 = .ok (.bipush 100, 2) := by decide +kernel
theorem dX3_succeeds_152 : decode cX3_succeeds 152 = .ok (.if_icmp .ge 17, 3) := by decide +kernel
theorem dX3_succeeds_155 : decode cX3_succeeds 155 = .ok (.aload_n 0, 1) := by decide +kernel
theorem dX3_succeeds_156 : decode cX3_succeeds 156 = .ok (.iload_n 2, 1) := by decide +kernel
theorem dX3_succeeds_157 : decode cX3_succeeds 157 = .ok (.iload 5, 2) := by decide +kernel
theorem dX3_succeeds_159 : decode cX3_succeeds 159 = .ok (.invokevirtual 277, 3) := by decide +kernel
theorem dX3_succeeds_162 : decode cX3_succeeds 162 = .ok (.ifCond .eq 7, 3) := by decide +kernel
theorem dX3_succeeds_165 : decode cX3_succeeds 165 = .ok (.iconst 1, 1) := by decide +kernel
theorem dX3_succeeds_166 : decode cX3_succeeds 166 = .ok (.goto 4, 3) := by decide +kernel
theorem dX3_succeeds_169 : decode cX3_succeeds 169 = .ok (.iconst 0, 1) := by decide +kernel
theorem dX3_succeeds_170 : decode cX3_succeeds 170 = .ok (.ireturn, 1) := by decide +kernel
theorem dX3_succeeds_171 : decode cX3_succeeds 171 = .ok (.iload 4, 2) := by decide +kernel
theorem dX3_succeeds_173 : decode cX3_succeeds 173 = .ok (.ifCond .ne 15, 3) := by decide +kernel
theorem dX3_succeeds_176 : decode cX3_succeeds 176 = .ok (.aload_n 0, 1) := by decide +kernel
theorem dX3_succeeds_177 : decode cX3_succeeds 177 = .ok (.iload_n 2, 1) := by decide +kernel
theorem dX3_succeeds_178 : decode cX3_succeeds 178 = .ok (.invokevirtual 280, 3) := by decide +kernel
theorem dX3_succeeds_181 : decode cX3_succeeds 181 = .ok (.ifCond .eq 7, 3) := by decide +kernel
theorem dX3_succeeds_184 : decode cX3_succeeds 184 = .ok (.iconst 1, 1) := by decide +kernel
theorem dX3_succeeds_185 : decode cX3_succeeds 185 = .ok (.goto 4, 3) := by decide +kernel
theorem dX3_succeeds_188 : decode cX3_succeeds 188 = .ok (.iconst 0, 1) := by decide +kernel
theorem dX3_succeeds_189 : decode cX3_succeeds 189 = .ok (.ireturn, 1) := by decide +kernel
theorem dX3_succeeds_190 : decode cX3_succeeds 190 = .ok (.iload_n 3, 1) := by decide +kernel
theorem dX3_succeeds_191 : decode cX3_succeeds 191 = .ok (.ifCond .ne 13, 3) := by decide +kernel
theorem dX3_succeeds_194 : decode cX3_succeeds 194 = .ok (.aload_n 0, 1) := by decide +kernel
theorem dX3_succeeds_195 : decode cX3_succeeds 195 = .ok (.getfield 23, 3) := by decide +kernel
theorem dX3_succeeds_198 : decode cX3_succeeds 198 = .ok (.getfield 112, 3) := by decide +kernel
theorem dX3_succeeds_201 : decode cX3_succeeds 201 = .ok (.ifCond .eq 5, 3) := by decide +kernel
theorem dX3_succeeds_204 : decode cX3_succeeds 204 = .ok (.iconst 0, 1) := by decide +kernel
theorem dX3_succeeds_205 : decode cX3_succeeds 205 = .ok (.ireturn, 1) := by decide +kernel
theorem dX3_succeeds_206 : decode cX3_succeeds 206 = .ok (.aload_n 0, 1) := by decide +kernel
theorem dX3_succeeds_207 : decode cX3_succeeds 207 = .ok (.getfield 23, 3) := by decide +kernel
theorem dX3_succeeds_210 : decode cX3_succeeds 210 = .ok (.invokevirtual 166, 3) := by decide +kernel
theorem dX3_succeeds_213 : decode cX3_succeeds 213 = .ok (.iconst 1, 1) := by decide +kernel
theorem dX3_succeeds_214 : decode cX3_succeeds 214 = .ok (.ireturn, 1) := by decide +kernel
theorem dX3_succeeds_215 : decode cX3_succeeds 215 = .ok (.aload_n 0, 1) := by decide +kernel
theorem dX3_succeeds_216 : decode cX3_succeeds 216 = .ok (.getfield 23, 3) := by decide +kernel
theorem dX3_succeeds_219 : decode cX3_succeeds 219 = .ok (.getfield 97, 3) := by decide +kernel
theorem dX3_succeeds_222 : decode cX3_succeeds 222 = .ok (.iload_n 3, 1) := by decide +kernel
theorem dX3_succeeds_223 : decode cX3_succeeds 223 = .ok (.if_icmp .ne 7, 3) := by decide +kernel
theorem dX3_succeeds_226 : decode cX3_succeeds 226 = .ok (.iconst 1, 1) := by decide +kernel
theorem dX3_succeeds_227 : decode cX3_succeeds 227 = .ok (.goto 4, 3) := by decide +kernel
theorem dX3_succeeds_230 : decode cX3_succeeds 230 = .ok (.iconst 0, 1) := by decide +kernel
theorem dX3_succeeds_231 : decode cX3_succeeds 231 = .ok (.ireturn, 1) := by decide +kernel
theorem dX3_succeeds_232 : decode cX3_succeeds 232 = .ok (.iload_n 2, 1) := by decide +kernel
theorem dX3_succeeds_233 : decode cX3_succeeds 233 = .ok (.iconst 1, 1) := by decide +kernel
theorem dX3_succeeds_234 : decode cX3_succeeds 234 = .ok (.if_icmp .gt 48, 3) := by decide +kernel
theorem dX3_succeeds_237 : decode cX3_succeeds 237 = .ok (.aload_n 0, 1) := by decide +kernel
theorem dX3_succeeds_238 : decode cX3_succeeds 238 = .ok (.getfield 23, 3) := by decide +kernel
theorem dX3_succeeds_241 : decode cX3_succeeds 241 = .ok (.getfield 87, 3) := by decide +kernel
theorem dX3_succeeds_244 : decode cX3_succeeds 244 = .ok (.getfield 283, 3) := by decide +kernel
theorem dX3_succeeds_247 : decode cX3_succeeds 247 = .ok (.ifCond .le 35, 3) := by decide +kernel
theorem dX3_succeeds_250 : decode cX3_succeeds 250 = .ok (.aload_n 0, 1) := by decide +kernel
theorem dX3_succeeds_251 : decode cX3_succeeds 251 = .ok (.getfield 23, 3) := by decide +kernel
theorem dX3_succeeds_254 : decode cX3_succeeds 254 = .ok (.getfield 87, 3) := by decide +kernel
theorem dX3_succeeds_257 : decode cX3_succeeds 257 = .ok (.iconst 0, 1) := by decide +kernel
theorem dX3_succeeds_258 : decode cX3_succeeds 258 = .ok (.iconst 0, 1) := by decide +kernel
theorem dX3_succeeds_259 : decode cX3_succeeds 259 = .ok (.invokevirtual 91, 3) := by decide +kernel
theorem dX3_succeeds_262 : decode cX3_succeeds 262 = .ok (.iload_n 2, 1) := by decide +kernel
theorem dX3_succeeds_263 : decode cX3_succeeds 263 = .ok (.iconst 1, 1) := by decide +kernel
theorem dX3_succeeds_264 : decode cX3_succeeds 264 = .ok (.if_icmp .ne 9, 3) := by decide +kernel
theorem dX3_succeeds_267 : decode cX3_succeeds 267 = .ok (.iload 4, 2) := by decide +kernel
theorem dX3_succeeds_269 : decode cX3_succeeds 269 = .ok (.ineg, 1) := by decide +kernel
theorem dX3_succeeds_270 : decode cX3_succeeds 270 = .ok (.goto 5, 3) := by decide +kernel
theorem dX3_succeeds_273 : decode cX3_succeeds 273 = .ok (.iload 4, 2) := by decide +kernel
theorem dX3_succeeds_275 : decode cX3_succeeds 275 = .ok (.if_icmp .ne 7, 3) := by decide +kernel
theorem dX3_succeeds_278 : decode cX3_succeeds 278 = .ok (.iconst 1, 1) := by decide +kernel
theorem dX3_succeeds_279 : decode cX3_succeeds 279 = .ok (.goto 4, 3) := by decide +kernel
theorem dX3_succeeds_282 : decode cX3_succeeds 282 = .ok (.iconst 0, 1) := by decide +kernel
theorem dX3_succeeds_283 : decode cX3_succeeds 283 = .ok (.ireturn, 1) := by decide +kernel
theorem dX3_succeeds_284 : decode cX3_succeeds 284 = .ok (.iload_n 2, 1) := by decide +kernel
theorem dX3_succeeds_285 : decode cX3_succeeds 285 = .ok (.iconst 1, 1) := by decide +kernel
theorem dX3_succeeds_286 : decode cX3_succeeds 286 = .ok (.if_icmp .gt 37, 3) := by decide +kernel
theorem dX3_succeeds_289 : decode cX3_succeeds 289 = .ok (.iload 4, 2) := by decide +kernel
theorem dX3_succeeds_291 : decode cX3_succeeds 291 = .ok (.bipush 100, 2) := by decide +kernel
theorem dX3_succeeds_293 : decode cX3_succeeds 293 = .ok (.if_icmp .ge 30, 3) := by decide +kernel
theorem dX3_succeeds_296 : decode cX3_succeeds 296 = .ok (.aload_n 0, 1) := by decide +kernel
theorem dX3_succeeds_297 : decode cX3_succeeds 297 = .ok (.getfield 23, 3) := by decide +kernel
theorem dX3_succeeds_300 : decode cX3_succeeds 300 = .ok (.invokevirtual 109, 3) := by decide +kernel
theorem dX3_succeeds_303 : decode cX3_succeeds 303 = .ok (.iload_n 2, 1) := by decide +kernel
theorem dX3_succeeds_304 : decode cX3_succeeds 304 = .ok (.iconst 1, 1) := by decide +kernel
theorem dX3_succeeds_305 : decode cX3_succeeds 305 = .ok (.if_icmp .ne 9, 3) := by decide +kernel
theorem dX3_succeeds_308 : decode cX3_succeeds 308 = .ok (.iload 5, 2) := by decide +kernel
theorem dX3_succeeds_310 : decode cX3_succeeds 310 = .ok (.ineg, 1) := by decide +kernel
theorem dX3_succeeds_311 : decode cX3_succeeds 311 = .ok (.goto 5, 3) := by decide +kernel
theorem dX3_succeeds_314 : decode cX3_succeeds 314 = .ok (.iload 5, 2) := by decide +kernel
theorem dX3_succeeds_316 : decode cX3_succeeds 316 = .ok (.if_icmp .gt 7, 3) := by decide +kernel
theorem dX3_succeeds_319 : decode cX3_succeeds 319 = .ok (.iconst 1, 1) := by decide +kernel
theorem dX3_succeeds_320 : decode cX3_succeeds 320 = .ok (.goto 4, 3) := by decide +kernel
theorem dX3_succeeds_323 : decode cX3_succeeds 323 = .ok (.iconst 0, 1) := by decide +kernel
theorem dX3_succeeds_324 : decode cX3_succeeds 324 = .ok (.ireturn, 1) := by decide +kernel
theorem dX3_succeeds_325 : decode cX3_succeeds 325 = .ok (.iconst 0, 1) := by decide +kernel
theorem dX3_succeeds_326 : decode cX3_succeeds 326 = .ok (.ireturn, 1) := by decide +kernel
set_option maxRecDepth 20000 in
theorem ggX3_pressesOften_X3_outside : GoodIn wsX3_pressesOften wsX3_outside := goodIn_r _ [5] (by decide +kernel) (by decide +kernel)
set_option maxRecDepth 20000 in
theorem gX3_pressesOften_X3_outside : GoodIn wsX3_pressesOften (va_wsS RX3 37 yX3_outside wsX3_outside) := goodIn_app (goodIn_of _ (by decide +kernel)) ggX3_pressesOften_X3_outside
set_option maxRecDepth 20000 in
theorem ggX3_pressesOften_X1_pressKey : GoodIn wsX3_pressesOften wsX1_pressKey := goodIn_r _ [9, 10, 11, 12, 13, 14, 15, 16, 17, 18, 19, 20, 21, 22, 23, 24, 25, 26, 27, 28, 7, 29, 30, 31, 32, 33, 4, 34, 35, 36, 37, 38, 39, 40, 41, 42, 43, 44, 45, 46, 47, 48, 49, 50, 51, 52, 53, 54, 55, 56, 57, 58, 59, 60, 61, 62, 63, 64, 65, 66, 67, 68, 69, 78, 79, 80, 81, 82, 83, 84, 85, 86, 87, 88, 89, 90, 91, 92, 93, 94, 95, 96] (by decide +kernel) (by decide +kernel)
set_option maxRecDepth 20000 in
theorem gX3_pressesOften_X1_pressKey_n121 : GoodIn wsX3_pressesOften (wsX1_pressKey) := ggX3_pressesOften_X1_pressKey
theorem dX3_pressesOften_0 : decode cX3_pressesOften 0 = .ok (.iload_n 2, 1) := by decide +kernel
theorem dX3_pressesOften_1 : decode cX3_pressesOften 1 = .ok (.iconst 1, 1) := by decide +kernel
theorem dX3_pressesOften_2 : decode cX3_pressesOften 2 = .ok (.bipush 99, 2) := by decide +kernel
theorem dX3_pressesOften_4 : decode cX3_pressesOften 4 = .ok (.invokestatic 37, 3) := by decide +kernel
theorem dX3_pressesOften_7 : decode cX3_pressesOften 7 = .ok (.ifCond .eq 5, 3) := by decide +kernel
theorem dX3_pressesOften_10 : decode cX3_pressesOften 10 = .ok (.iconst 0, 1) := by decide +kernel
theorem dX3_pressesOften_11 : decode cX3_pressesOften 11 = .ok (.ireturn, 1) := by decide +kernel
theorem dX3_pressesOften_12 : decode cX3_pressesOften 12 = .ok (.iconst 0, 1) := by decide +kernel
theorem dX3_pressesOften_13 : decode cX3_pressesOften 13 = .ok (.istore_n 3, 1) := by decide +kernel
theorem dX3_pressesOften_14 : decode cX3_pressesOften 14 = .ok (.iload_n 3, 1) := by decide +kernel
theorem dX3_pressesOften_15 : decode cX3_pressesOften 15 = .ok (.iload_n 2, 1) := by decide +kernel
theorem dX3_pressesOften_16 : decode cX3_pressesOften 16 = .ok (.if_icmp .ge 30, 3) := by decide +kernel
theorem dX3_pressesOften_19 : decode cX3_pressesOften 19 = .ok (.aload_n 0, 1) := by decide +kernel
theorem dX3_pressesOften_20 : decode cX3_pressesOften 20 = .ok (.getfield 23, 3) := by decide +kernel
theorem dX3_pressesOften_23 : decode cX3_pressesOften 23 = .ok (.getfield 112, 3) := by decide +kernel
theorem dX3_pressesOften_26 : decode cX3_pressesOften 26 = .ok (.ifCond .eq 5, 3) := by decide +kernel
theorem dX3_pressesOften_29 : decode cX3_pressesOften 29 = .ok (.iconst 0, 1) := by decide +kernel
theorem dX3_pressesOften_30 : decode cX3_pressesOften 30 = .ok (.ireturn, 1) := by decide +kernel
theorem dX3_pressesOften_31 : decode cX3_pressesOften 31 = .ok (.aload_n 0, 1) := by decide +kernel
theorem dX3_pressesOften_32 : decode cX3_pressesOften 32 = .ok (.getfield 23, 3) := by decide +kernel
theorem dX3_pressesOften_35 : decode cX3_pressesOften 35 = .ok (.iload_n 1, 1) := by decide +kernel
theorem dX3_pressesOften_36 : decode cX3_pressesOften 36 = .ok (.invokevirtual 121, 3) := by decide +kernel
theorem dX3_pressesOften_39 : decode cX3_pressesOften 39 = .ok (.pop, 1) := by decide +kernel
theorem dX3_pressesOften_40 : decode cX3_pressesOften 40 = .ok (.iinc 3 1, 3) := by decide +kernel
theorem dX3_pressesOften_43 : decode cX3_pressesOften 43 = .ok (.goto (-29), 3) := by decide +kernel
theorem dX3_pressesOften_46 : decode cX3_pressesOften 46 = .ok (.iconst 1, 1) := by decide +kernel
theorem dX3_pressesOften_47 : decode cX3_pressesOften 47 = .ok (.ireturn, 1) := by decide +kernel
set_option maxRecDepth 20000 in
theorem ggX3_waits_X3_outside : GoodIn wsX3_waits wsX3_outside := goodIn_r _ [5] (by decide +kernel) (by decide +kernel)
set_option maxRecDepth 20000 in
theorem gX3_waits_X3_outside : GoodIn wsX3_waits (va_wsS RX3 37 yX3_outside wsX3_outside) := goodIn_app (goodIn_of _ (by decide +kernel)) ggX3_waits_X3_outside
set_option maxRecDepth 20000 in
theorem ggX3_waits_X1_waitTicks : GoodIn wsX3_waits wsX1_waitTicks := goodIn_r _ [9, 10, 11, 12, 13, 7, 14, 15, 16, 17, 18, 27, 28, 29, 30, 31, 32, 33, 34, 35, 36, 37, 38, 39, 40, 41, 42] (by decide +kernel) (by decide +kernel)
set_option maxRecDepth 20000 in
theorem gX3_waits_X1_waitTicks_n130 : GoodIn wsX3_waits (wsX1_waitTicks) := ggX3_waits_X1_waitTicks
theorem dX3_waits_0 : decode cX3_waits 0 = .ok (.iload_n 1, 1) := by decide +kernel
theorem dX3_waits_1 : decode cX3_waits 1 = .ok (.iconst 1, 1) := by decide +kernel
theorem dX3_waits_2 : decode cX3_waits 2 = .ok (.sipush 200, 3) := by decide +kernel
theorem dX3_waits_5 : decode cX3_waits 5 = .ok (.invokestatic 37, 3) := by decide +kernel
theorem dX3_waits_8 : decode cX3_waits 8 = .ok (.ifCond .eq 5, 3) := by decide +kernel
theorem dX3_waits_11 : decode cX3_waits 11 = .ok (.iconst 0, 1) := by decide +kernel
theorem dX3_waits_12 : decode cX3_waits 12 = .ok (.ireturn, 1) := by decide +kernel
theorem dX3_waits_13 : decode cX3_waits 13 = .ok (.aload_n 0, 1) := by decide +kernel
theorem dX3_waits_14 : decode cX3_waits 14 = .ok (.getfield 23, 3) := by decide +kernel
theorem dX3_waits_17 : decode cX3_waits 17 = .ok (.iload_n 1, 1) := by decide +kernel
theorem dX3_waits_18 : decode cX3_waits 18 = .ok (.invokevirtual 130, 3) := by decide +kernel
theorem dX3_waits_21 : decode cX3_waits 21 = .ok (.iconst 1, 1) := by decide +kernel
theorem dX3_waits_22 : decode cX3_waits 22 = .ok (.ireturn, 1) := by decide +kernel
set_option maxRecDepth 20000 in
theorem ggX3_changes_X1_mayBe : GoodIn wsX3_changes wsX1_mayBe := goodIn_r _ [4] (by decide +kernel) (by decide +kernel)
set_option maxRecDepth 20000 in
theorem gX3_changes_X1_mayBe_n134 : GoodIn wsX3_changes (wsX1_mayBe) := ggX3_changes_X1_mayBe
set_option maxRecDepth 20000 in
theorem ggX3_changes_X1_change : GoodIn wsX3_changes wsX1_change := goodIn_r _ [7, 8, 9, 10, 11, 12, 13, 14, 23, 24, 25, 26, 27, 28, 29, 30, 31, 32, 33, 34, 35, 36, 37, 38] (by decide +kernel) (by decide +kernel)
set_option maxRecDepth 20000 in
theorem gX3_changes_X1_change_n140 : GoodIn wsX3_changes (wsX1_change) := ggX3_changes_X1_change
theorem dX3_changes_0 : decode cX3_changes 0 = .ok (.iload_n 1, 1) := by decide +kernel
theorem dX3_changes_1 : decode cX3_changes 1 = .ok (.iload_n 2, 1) := by decide +kernel
theorem dX3_changes_2 : decode cX3_changes 2 = .ok (.invokestatic 134, 3) := by decide +kernel
theorem dX3_changes_5 : decode cX3_changes 5 = .ok (.ifCond .ne 5, 3) := by decide +kernel
theorem dX3_changes_8 : decode cX3_changes 8 = .ok (.iconst 0, 1) := by decide +kernel
theorem dX3_changes_9 : decode cX3_changes 9 = .ok (.ireturn, 1) := by decide +kernel
theorem dX3_changes_10 : decode cX3_changes 10 = .ok (.aload_n 0, 1) := by decide +kernel
theorem dX3_changes_11 : decode cX3_changes 11 = .ok (.getfield 23, 3) := by decide +kernel
theorem dX3_changes_14 : decode cX3_changes 14 = .ok (.iload_n 1, 1) := by decide +kernel
theorem dX3_changes_15 : decode cX3_changes 15 = .ok (.iload_n 2, 1) := by decide +kernel
theorem dX3_changes_16 : decode cX3_changes 16 = .ok (.invokevirtual 140, 3) := by decide +kernel
theorem dX3_changes_19 : decode cX3_changes 19 = .ok (.iconst 1, 1) := by decide +kernel
theorem dX3_changes_20 : decode cX3_changes 20 = .ok (.ireturn, 1) := by decide +kernel
set_option maxRecDepth 20000 in
theorem ggX3_puts_X1_hasUnknown : GoodIn wsX3_puts wsX1_hasUnknown := goodIn_r _ [5, 6, 15, 16, 17, 18, 19, 20, 21, 22, 23, 24, 25, 26, 27, 28, 29, 30] (by decide +kernel) (by decide +kernel)
set_option maxRecDepth 20000 in
theorem gX3_puts_X1_hasUnknown_n144 : GoodIn wsX3_puts (wsX1_hasUnknown) := ggX3_puts_X1_hasUnknown
theorem dX3_puts_0 : decode cX3_puts 0 = .ok (.aload_n 0, 1) := by decide +kernel
theorem dX3_puts_1 : decode cX3_puts 1 = .ok (.getfield 23, 3) := by decide +kernel
theorem dX3_puts_4 : decode cX3_puts 4 = .ok (.iload_n 1, 1) := by decide +kernel
theorem dX3_puts_5 : decode cX3_puts 5 = .ok (.invokevirtual 144, 3) := by decide +kernel
theorem dX3_puts_8 : decode cX3_puts 8 = .ok (.ifCond .ne 5, 3) := by decide +kernel
theorem dX3_puts_11 : decode cX3_puts 11 = .ok (.iconst 0, 1) := by decide +kernel
theorem dX3_puts_12 : decode cX3_puts 12 = .ok (.ireturn, 1) := by decide +kernel
theorem dX3_puts_13 : decode cX3_puts 13 = .ok (.aload_n 0, 1) := by decide +kernel
theorem dX3_puts_14 : decode cX3_puts 14 = .ok (.getfield 23, 3) := by decide +kernel
theorem dX3_puts_17 : decode cX3_puts 17 = .ok (.iload_n 1, 1) := by decide +kernel
theorem dX3_puts_18 : decode cX3_puts 18 = .ok (.putfield 153, 3) := by decide +kernel
theorem dX3_puts_21 : decode cX3_puts 21 = .ok (.iconst 1, 1) := by decide +kernel
theorem dX3_puts_22 : decode cX3_puts 22 = .ok (.ireturn, 1) := by decide +kernel
set_option maxRecDepth 20000 in
theorem ggX3_playRound_X1_waitTicks : GoodIn wsX3_playRound wsX1_waitTicks := goodIn_r _ [5, 6, 7, 8, 9, 3, 10, 11, 12, 13, 14, 85, 86, 87, 88, 89, 90, 91, 92, 93, 94, 95, 96, 97, 98, 99, 100] (by decide +kernel) (by decide +kernel)
set_option maxRecDepth 20000 in
theorem gX3_playRound_X1_waitTicks_n130 : GoodIn wsX3_playRound (wsX1_waitTicks) := ggX3_playRound_X1_waitTicks
set_option maxRecDepth 20000 in
theorem ggX3_playRound_X1_loosen : GoodIn wsX3_playRound wsX1_loosen := goodIn_r _ [17, 18, 19, 2, 4, 3, 5, 6, 7, 8, 9, 10, 11, 12, 13, 14, 85, 86, 87, 88, 89, 90, 91, 92, 93, 94, 95, 96, 97, 98, 99, 100] (by decide +kernel) (by decide +kernel)
set_option maxRecDepth 20000 in
theorem gX3_playRound_X1_loosen_n163 : GoodIn wsX3_playRound (wsX1_loosen) := ggX3_playRound_X1_loosen
set_option maxRecDepth 20000 in
theorem ggX3_playRound_X1_pressKey : GoodIn wsX3_playRound wsX1_pressKey := goodIn_r _ [22, 23, 24, 25, 26, 13, 27, 11, 12, 14, 28, 7, 29, 18, 30, 6, 31, 32, 33, 34, 3, 35, 36, 37, 38, 39, 40, 41, 42, 43, 44, 45, 46, 47, 48, 49, 50, 51, 52, 53, 54, 55, 56, 57, 58, 59, 60, 61, 62, 63, 64, 65, 66, 67, 68, 69, 70, 71, 72, 73, 74, 75, 76, 85, 86, 87, 88, 89, 90, 91, 92, 93, 94, 95, 96, 97, 98, 99, 100, 101, 102, 103] (by decide +kernel) (by decide +kernel)
set_option maxRecDepth 20000 in
theorem gX3_playRound_X1_pressKey_n121 : GoodIn wsX3_playRound (wsX1_pressKey) := ggX3_playRound_X1_pressKey
theorem dX3_playRound_0 : decode cX3_playRound 0 = .ok (.iload_n 1, 1) := by decide +kernel
theorem dX3_playRound_1 : decode cX3_playRound 1 = .ok (.iconst 4, 1) := by decide +kernel
theorem dX3_playRound_2 : decode cX3_playRound 2 = .ok (.idiv, 1) := by decide +kernel
theorem dX3_playRound_3 : decode cX3_playRound 3 = .ok (.istore_n 2, 1) := by decide +kernel
theorem dX3_playRound_4 : decode cX3_playRound 4 = .ok (.iload_n 1, 1) := by decide +kernel
theorem dX3_playRound_5 : decode cX3_playRound 5 = .ok (.iconst 4, 1) := by decide +kernel
theorem dX3_playRound_6 : decode cX3_playRound 6 = .ok (.irem, 1) := by decide +kernel
theorem dX3_playRound_7 : decode cX3_playRound 7 = .ok (.lookupswitch 49 #[(0, 25), (1, 39)], 25) := by decide +kernel
theorem dX3_playRound_32 : decode cX3_playRound 32 = .ok (.aload_n 0, 1) := by decide +kernel
theorem dX3_playRound_33 : decode cX3_playRound 33 = .ok (.getfield 23, 3) := by decide +kernel
theorem dX3_playRound_36 : decode cX3_playRound 36 = .ok (.iload_n 2, 1) := by decide +kernel
theorem dX3_playRound_37 : decode cX3_playRound 37 = .ok (.sipush 10000, 3) := by decide +kernel
theorem dX3_playRound_40 : decode cX3_playRound 40 = .ok (.irem, 1) := by decide +kernel
theorem dX3_playRound_41 : decode cX3_playRound 41 = .ok (.putfield 97, 3) := by decide +kernel
theorem dX3_playRound_44 : decode cX3_playRound 44 = .ok (.iconst 0, 1) := by decide +kernel
theorem dX3_playRound_45 : decode cX3_playRound 45 = .ok (.ireturn, 1) := by decide +kernel
theorem dX3_playRound_46 : decode cX3_playRound 46 = .ok (.aload_n 0, 1) := by decide +kernel
theorem dX3_playRound_47 : decode cX3_playRound 47 = .ok (.getfield 23, 3) := by decide +kernel
theorem dX3_playRound_50 : decode cX3_playRound 50 = .ok (.iconst 1, 1) := by decide +kernel
theorem dX3_playRound_51 : decode cX3_playRound 51 = .ok (.invokevirtual 130, 3) := by decide +kernel
theorem dX3_playRound_54 : decode cX3_playRound 54 = .ok (.iconst 0, 1) := by decide +kernel
theorem dX3_playRound_55 : decode cX3_playRound 55 = .ok (.ireturn, 1) := by decide +kernel
theorem dX3_playRound_56 : decode cX3_playRound 56 = .ok (.aload_n 0, 1) := by decide +kernel
theorem dX3_playRound_57 : decode cX3_playRound 57 = .ok (.getfield 23, 3) := by decide +kernel
theorem dX3_playRound_60 : decode cX3_playRound 60 = .ok (.getfield 112, 3) := by decide +kernel
theorem dX3_playRound_63 : decode cX3_playRound 63 = .ok (.ifCond .eq 12, 3) := by decide +kernel
theorem dX3_playRound_66 : decode cX3_playRound 66 = .ok (.aload_n 0, 1) := by decide +kernel
theorem dX3_playRound_67 : decode cX3_playRound 67 = .ok (.getfield 23, 3) := by decide +kernel
theorem dX3_playRound_70 : decode cX3_playRound 70 = .ok (.invokevirtual 163, 3) := by decide +kernel
theorem dX3_playRound_73 : decode cX3_playRound 73 = .ok (.iconst 0, 1) := by decide +kernel
theorem dX3_playRound_74 : decode cX3_playRound 74 = .ok (.ireturn, 1) := by decide +kernel
theorem dX3_playRound_75 : decode cX3_playRound 75 = .ok (.aload_n 0, 1) := by decide +kernel
theorem dX3_playRound_76 : decode cX3_playRound 76 = .ok (.getfield 23, 3) := by decide +kernel
theorem dX3_playRound_79 : decode cX3_playRound 79 = .ok (.iload_n 2, 1) := by decide +kernel
theorem dX3_playRound_80 : decode cX3_playRound 80 = .ok (.iconst 2, 1) := by decide +kernel
theorem dX3_playRound_81 : decode cX3_playRound 81 = .ok (.irem, 1) := by decide +kernel
theorem dX3_playRound_82 : decode cX3_playRound 82 = .ok (.iconst 1, 1) := by decide +kernel
theorem dX3_playRound_83 : decode cX3_playRound 83 = .ok (.if_icmp .ne 7, 3) := by decide +kernel
theorem dX3_playRound_86 : decode cX3_playRound 86 = .ok (.iconst 1, 1) := by decide +kernel
theorem dX3_playRound_87 : decode cX3_playRound 87 = .ok (.goto 4, 3) := by decide +kernel
theorem dX3_playRound_90 : decode cX3_playRound 90 = .ok (.iconst 0, 1) := by decide +kernel
theorem dX3_playRound_91 : decode cX3_playRound 91 = .ok (.invokevirtual 121, 3) := by decide +kernel
theorem dX3_playRound_94 : decode cX3_playRound 94 = .ok (.ireturn, 1) := by decide +kernel
set_option maxRecDepth 20000 in
theorem ggX3_deflectionWith_X1_difference : GoodIn wsX3_deflectionWith wsX1_difference := goodIn_r _ [5, 6, 7, 8, 9, 10, 11, 12, 13, 14, 3, 15, 16, 33, 34, 35, 36, 37, 38, 39, 40, 41, 42, 43, 44, 45, 46, 47, 48] (by decide +kernel) (by decide +kernel)
set_option maxRecDepth 20000 in
theorem gX3_deflectionWith_X1_difference_n100 : GoodIn wsX3_deflectionWith (wsX1_difference) := ggX3_deflectionWith_X1_difference
set_option maxRecDepth 20000 in
theorem ggX3_deflectionWith_X1_denominator : GoodIn wsX3_deflectionWith wsX1_denominator := goodIn_r _ [19, 8, 6, 7, 9, 10, 11, 12, 13, 14, 3, 15, 16, 33, 34, 35, 36, 37, 38, 39, 40, 41, 42, 43, 44, 45, 46, 47, 48] (by decide +kernel) (by decide +kernel)
set_option maxRecDepth 20000 in
theorem gX3_deflectionWith_X1_denominator_n103 : GoodIn wsX3_deflectionWith (wsX1_denominator) := ggX3_deflectionWith_X1_denominator
set_option maxRecDepth 20000 in
theorem ggX3_deflectionWith_X1_deflection : GoodIn wsX3_deflectionWith wsX1_deflection := goodIn_r _ [22, 23, 24, 9, 10, 11, 33, 34, 35, 36, 37, 38, 39, 40, 41, 42, 43, 44, 45, 46, 47, 48] (by decide +kernel) (by decide +kernel)
set_option maxRecDepth 20000 in
theorem gX3_deflectionWith_X1_deflection_n210 : GoodIn wsX3_deflectionWith (wsX1_deflection) := ggX3_deflectionWith_X1_deflection
theorem dX3_deflectionWith_0 : decode cX3_deflectionWith 0 = .ok (.aload_n 0, 1) := by decide +kernel
theorem dX3_deflectionWith_1 : decode cX3_deflectionWith 1 = .ok (.getfield 19, 3) := by decide +kernel
theorem dX3_deflectionWith_4 : decode cX3_deflectionWith 4 = .ok (.aload_n 0, 1) := by decide +kernel
theorem dX3_deflectionWith_5 : decode cX3_deflectionWith 5 = .ok (.getfield 19, 3) := by decide +kernel
theorem dX3_deflectionWith_8 : decode cX3_deflectionWith 8 = .ok (.iload_n 1, 1) := by decide +kernel
theorem dX3_deflectionWith_9 : decode cX3_deflectionWith 9 = .ok (.invokevirtual 100, 3) := by decide +kernel
theorem dX3_deflectionWith_12 : decode cX3_deflectionWith 12 = .ok (.aload_n 0, 1) := by decide +kernel
theorem dX3_deflectionWith_13 : decode cX3_deflectionWith 13 = .ok (.getfield 19, 3) := by decide +kernel
theorem dX3_deflectionWith_16 : decode cX3_deflectionWith 16 = .ok (.iload_n 1, 1) := by decide +kernel
theorem dX3_deflectionWith_17 : decode cX3_deflectionWith 17 = .ok (.invokevirtual 103, 3) := by decide +kernel
theorem dX3_deflectionWith_20 : decode cX3_deflectionWith 20 = .ok (.aload_n 0, 1) := by decide +kernel
theorem dX3_deflectionWith_21 : decode cX3_deflectionWith 21 = .ok (.getfield 19, 3) := by decide +kernel
theorem dX3_deflectionWith_24 : decode cX3_deflectionWith 24 = .ok (.getfield 286, 3) := by decide +kernel
theorem dX3_deflectionWith_27 : decode cX3_deflectionWith 27 = .ok (.invokevirtual 210, 3) := by decide +kernel
theorem dX3_deflectionWith_30 : decode cX3_deflectionWith 30 = .ok (.ireturn, 1) := by decide +kernel
theorem dX3_outside_0 : decode cX3_outside 0 = .ok (.iload_n 0, 1) := by decide +kernel
theorem dX3_outside_1 : decode cX3_outside 1 = .ok (.iload_n 1, 1) := by decide +kernel
theorem dX3_outside_2 : decode cX3_outside 2 = .ok (.if_icmp .lt 8, 3) := by decide +kernel
theorem dX3_outside_5 : decode cX3_outside 5 = .ok (.iload_n 0, 1) := by decide +kernel
theorem dX3_outside_6 : decode cX3_outside 6 = .ok (.iload_n 2, 1) := by decide +kernel
theorem dX3_outside_7 : decode cX3_outside 7 = .ok (.if_icmp .le 7, 3) := by decide +kernel
theorem dX3_outside_10 : decode cX3_outside 10 = .ok (.iconst 1, 1) := by decide +kernel
theorem dX3_outside_11 : decode cX3_outside 11 = .ok (.goto 4, 3) := by decide +kernel
theorem dX3_outside_14 : decode cX3_outside 14 = .ok (.iconst 0, 1) := by decide +kernel
theorem dX3_outside_15 : decode cX3_outside 15 = .ok (.ireturn, 1) := by decide +kernel
theorem dX3_power_0 : decode cX3_power 0 = .ok (.iload_n 0, 1) := by decide +kernel
theorem dX3_power_1 : decode cX3_power 1 = .ok (.tableswitch 35 0 2 #[27, 29, 32], 27) := by decide +kernel
theorem dX3_power_28 : decode cX3_power 28 = .ok (.iconst 1, 1) := by decide +kernel
theorem dX3_power_29 : decode cX3_power 29 = .ok (.ireturn, 1) := by decide +kernel
theorem dX3_power_30 : decode cX3_power 30 = .ok (.bipush 10, 2) := by decide +kernel
theorem dX3_power_32 : decode cX3_power 32 = .ok (.ireturn, 1) := by decide +kernel
theorem dX3_power_33 : decode cX3_power 33 = .ok (.bipush 100, 2) := by decide +kernel
theorem dX3_power_35 : decode cX3_power 35 = .ok (.ireturn, 1) := by decide +kernel
theorem dX3_power_36 : decode cX3_power 36 = .ok (.sipush 1000, 3) := by decide +kernel
theorem dX3_power_39 : decode cX3_power 39 = .ok (.ireturn, 1) := by decide +kernel
theorem dX3_quotient_0 : decode cX3_quotient 0 = .ok (.iload_n 1, 1) := by decide +kernel
theorem dX3_quotient_1 : decode cX3_quotient 1 = .ok (.ifCond .ne 7, 3) := by decide +kernel
theorem dX3_quotient_4 : decode cX3_quotient 4 = .ok (.iconst 0, 1) := by decide +kernel
theorem dX3_quotient_5 : decode cX3_quotient 5 = .ok (.goto 6, 3) := by decide +kernel
theorem dX3_quotient_8 : decode cX3_quotient 8 = .ok (.iload_n 0, 1) := by decide +kernel
theorem dX3_quotient_9 : decode cX3_quotient 9 = .ok (.iload_n 1, 1) := by decide +kernel
theorem dX3_quotient_10 : decode cX3_quotient 10 = .ok (.idiv, 1) := by decide +kernel
theorem dX3_quotient_11 : decode cX3_quotient 11 = .ok (.ireturn, 1) := by decide +kernel
theorem dX3_withoutLast_0 : decode cX3_withoutLast 0 = .ok (.lload_n 0, 1) := by decide +kernel
theorem dX3_withoutLast_1 : decode cX3_withoutLast 1 = .ok (.lstore_n 3, 1) := by decide +kernel
theorem dX3_withoutLast_2 : decode cX3_withoutLast 2 = .ok (.iconst 0, 1) := by decide +kernel
theorem dX3_withoutLast_3 : decode cX3_withoutLast 3 = .ok (.istore 5, 2) := by decide +kernel
theorem dX3_withoutLast_5 : decode cX3_withoutLast 5 = .ok (.iload 5, 2) := by decide +kernel
theorem dX3_withoutLast_7 : decode cX3_withoutLast 7 = .ok (.iload_n 2, 1) := by decide +kernel
theorem dX3_withoutLast_8 : decode cX3_withoutLast 8 = .ok (.if_icmp .ge 15, 3) := by decide +kernel
theorem dX3_withoutLast_11 : decode cX3_withoutLast 11 = .ok (.lload_n 3, 1) := by decide +kernel
theorem dX3_withoutLast_12 : decode cX3_withoutLast 12 = .ok (.ldc2_w 249, 3) := by decide +kernel
theorem dX3_withoutLast_15 : decode cX3_withoutLast 15 = .ok (.ldiv, 1) := by decide +kernel
theorem dX3_withoutLast_16 : decode cX3_withoutLast 16 = .ok (.lstore_n 3, 1) := by decide +kernel
theorem dX3_withoutLast_17 : decode cX3_withoutLast 17 = .ok (.iinc 5 1, 3) := by decide +kernel
theorem dX3_withoutLast_20 : decode cX3_withoutLast 20 = .ok (.goto (-15), 3) := by decide +kernel
theorem dX3_withoutLast_23 : decode cX3_withoutLast 23 = .ok (.lload_n 3, 1) := by decide +kernel
theorem dX3_withoutLast_24 : decode cX3_withoutLast 24 = .ok (.lreturn, 1) := by decide +kernel
theorem dX3_entry_0 : decode cX3_entry 0 = .ok (.iload_n 1, 1) := by decide +kernel
theorem dX3_entry_1 : decode cX3_entry 1 = .ok (.ifCond .lt 15, 3) := by decide +kernel
theorem dX3_entry_4 : decode cX3_entry 4 = .ok (.iload_n 1, 1) := by decide +kernel
theorem dX3_entry_5 : decode cX3_entry 5 = .ok (.aload_n 0, 1) := by decide +kernel
theorem dX3_entry_6 : decode cX3_entry 6 = .ok (.arraylength, 1) := by decide +kernel
theorem dX3_entry_7 : decode cX3_entry 7 = .ok (.if_icmp .ge 9, 3) := by decide +kernel
theorem dX3_entry_10 : decode cX3_entry 10 = .ok (.aload_n 0, 1) := by decide +kernel
theorem dX3_entry_11 : decode cX3_entry 11 = .ok (.iload_n 1, 1) := by decide +kernel
theorem dX3_entry_12 : decode cX3_entry 12 = .ok (.aaload, 1) := by decide +kernel
theorem dX3_entry_13 : decode cX3_entry 13 = .ok (.goto 4, 3) := by decide +kernel
theorem dX3_entry_16 : decode cX3_entry 16 = .ok (.aconst_null, 1) := by decide +kernel
theorem dX3_entry_17 : decode cX3_entry 17 = .ok (.areturn, 1) := by decide +kernel
theorem dJ9_abs_0f7a4_0 : decode cJ9_abs_0f7a4 0 = .ok (.iload_n 0, 1) := by decide +kernel
theorem dJ9_abs_0f7a4_1 : decode cJ9_abs_0f7a4 1 = .ok (.ifCond .ge 8, 3) := by decide +kernel
theorem dJ9_abs_0f7a4_4 : decode cJ9_abs_0f7a4 4 = .ok (.iload_n 0, 1) := by decide +kernel
theorem dJ9_abs_0f7a4_5 : decode cJ9_abs_0f7a4 5 = .ok (.ineg, 1) := by decide +kernel
theorem dJ9_abs_0f7a4_6 : decode cJ9_abs_0f7a4 6 = .ok (.goto 4, 3) := by decide +kernel
theorem dJ9_abs_0f7a4_9 : decode cJ9_abs_0f7a4 9 = .ok (.iload_n 0, 1) := by decide +kernel
theorem dJ9_abs_0f7a4_10 : decode cJ9_abs_0f7a4 10 = .ok (.ireturn, 1) := by decide +kernel
theorem dJ9_max_7cf53_0 : decode cJ9_max_7cf53 0 = .ok (.iload_n 0, 1) := by decide +kernel
theorem dJ9_max_7cf53_1 : decode cJ9_max_7cf53 1 = .ok (.iload_n 1, 1) := by decide +kernel
theorem dJ9_max_7cf53_2 : decode cJ9_max_7cf53 2 = .ok (.if_icmp .lt 7, 3) := by decide +kernel
theorem dJ9_max_7cf53_5 : decode cJ9_max_7cf53 5 = .ok (.iload_n 0, 1) := by decide +kernel
theorem dJ9_max_7cf53_6 : decode cJ9_max_7cf53 6 = .ok (.goto 4, 3) := by decide +kernel
theorem dJ9_max_7cf53_9 : decode cJ9_max_7cf53 9 = .ok (.iload_n 1, 1) := by decide +kernel
theorem dJ9_max_7cf53_10 : decode cJ9_max_7cf53 10 = .ok (.ireturn, 1) := by decide +kernel
theorem dJ9_min_7cf53_0 : decode cJ9_min_7cf53 0 = .ok (.iload_n 0, 1) := by decide +kernel
theorem dJ9_min_7cf53_1 : decode cJ9_min_7cf53 1 = .ok (.iload_n 1, 1) := by decide +kernel
theorem dJ9_min_7cf53_2 : decode cJ9_min_7cf53 2 = .ok (.if_icmp .gt 7, 3) := by decide +kernel
theorem dJ9_min_7cf53_5 : decode cJ9_min_7cf53 5 = .ok (.iload_n 0, 1) := by decide +kernel
theorem dJ9_min_7cf53_6 : decode cJ9_min_7cf53 6 = .ok (.goto 4, 3) := by decide +kernel
theorem dJ9_min_7cf53_9 : decode cJ9_min_7cf53 9 = .ok (.iload_n 1, 1) := by decide +kernel
theorem dJ9_min_7cf53_10 : decode cJ9_min_7cf53 10 = .ok (.ireturn, 1) := by decide +kernel
set_option maxRecDepth 20000 in
theorem ggL_tryAppend_X3_append : GoodIn wsL_tryAppend wsX3_append := goodIn_ca (goodIn_ca (goodIn_r _ [9, 10, 11, 12, 13, 14, 15, 16, 8, 17, 18, 19, 20, 21, 22, 23, 24, 25, 26, 27, 28, 29, 30, 31, 32, 33] (by decide +kernel) (by decide +kernel)) (goodIn_sub (fun _ h => List.mem_cons_of_mem _ (List.mem_append_left _ (List.mem_append_right _ h))) (by decide +kernel))) (goodIn_sub (fun _ h => List.mem_cons_of_mem _ (List.mem_append_right _ h)) (by decide +kernel))
