theorem dX4_init_0 : decode cX4_init 0 = .ok (.aload_n 0, 1) := by decide +kernel
theorem dX4_init_1 : decode cX4_init 1 = .ok (.invokespecial 1, 3) := by decide +kernel
theorem dX4_init_4 : decode cX4_init 4 = .ok (.aload_n 0, 1) := by decide +kernel
theorem dX4_init_5 : decode cX4_init 5 = .ok (.bipush 60, 2) := by decide +kernel
theorem dX4_init_7 : decode cX4_init 7 = .ok (.newarray .int, 2) := by decide +kernel
theorem dX4_init_9 : decode cX4_init 9 = .ok (.putfield 7, 3) := by decide +kernel
theorem dX4_init_12 : decode cX4_init 12 = .ok (.aload_n 0, 1) := by decide +kernel
theorem dX4_init_13 : decode cX4_init 13 = .ok (.bipush 101, 2) := by decide +kernel
theorem dX4_init_15 : decode cX4_init 15 = .ok (.newarray .int, 2) := by decide +kernel
theorem dX4_init_17 : decode cX4_init 17 = .ok (.putfield 13, 3) := by decide +kernel
theorem dX4_init_20 : decode cX4_init 20 = .ok (.aload_n 0, 1) := by decide +kernel
theorem dX4_init_21 : decode cX4_init 21 = .ok (.bipush 101, 2) := by decide +kernel
theorem dX4_init_23 : decode cX4_init 23 = .ok (.newarray .int, 2) := by decide +kernel
theorem dX4_init_25 : decode cX4_init 25 = .ok (.putfield 16, 3) := by decide +kernel
theorem dX4_init_28 : decode cX4_init 28 = .ok (.aload_n 0, 1) := by decide +kernel
theorem dX4_init_29 : decode cX4_init 29 = .ok (.bipush 101, 2) := by decide +kernel
theorem dX4_init_31 : decode cX4_init 31 = .ok (.newarray .int, 2) := by decide +kernel
theorem dX4_init_33 : decode cX4_init 33 = .ok (.putfield 19, 3) := by decide +kernel
theorem dX4_init_36 : decode cX4_init 36 = .ok (.aload_n 0, 1) := by decide +kernel
theorem dX4_init_37 : decode cX4_init 37 = .ok (.sipush 1414, 3) := by decide +kernel
theorem dX4_init_40 : decode cX4_init 40 = .ok (.newarray .int, 2) := by decide +kernel
theorem dX4_init_42 : decode cX4_init 42 = .ok (.putfield 22, 3) := by decide +kernel
theorem dX4_init_45 : decode cX4_init 45 = .ok (.aload_n 0, 1) := by decide +kernel
theorem dX4_init_46 : decode cX4_init 46 = .ok (.sipush 202, 3) := by decide +kernel
theorem dX4_init_49 : decode cX4_init 49 = .ok (.newarray .int, 2) := by decide +kernel
theorem dX4_init_51 : decode cX4_init 51 = .ok (.putfield 25, 3) := by decide +kernel
theorem dX4_init_54 : decode cX4_init 54 = .ok (.aload_n 0, 1) := by decide +kernel
theorem dX4_init_55 : decode cX4_init 55 = .ok (.iconst 2, 1) := by decide +kernel
theorem dX4_init_56 : decode cX4_init 56 = .ok (.newarray .boolean, 2) := by decide +kernel
theorem dX4_init_58 : decode cX4_init 58 = .ok (.putfield 28, 3) := by decide +kernel
theorem dX4_init_61 : decode cX4_init 61 = .ok (.aload_n 0, 1) := by decide +kernel
theorem dX4_init_62 : decode cX4_init 62 = .ok (.getfield 16, 3) := by decide +kernel
theorem dX4_init_65 : decode cX4_init 65 = .ok (.iconst 0, 1) := by decide +kernel
theorem dX4_init_66 : decode cX4_init 66 = .ok (.iconst 2, 1) := by decide +kernel
theorem dX4_init_67 : decode cX4_init 67 = .ok (.iastore, 1) := by decide +kernel
theorem dX4_init_68 : decode cX4_init 68 = .ok (.aload_n 0, 1) := by decide +kernel
theorem dX4_init_69 : decode cX4_init 69 = .ok (.getfield 16, 3) := by decide +kernel
theorem dX4_init_72 : decode cX4_init 72 = .ok (.iconst 1, 1) := by decide +kernel
theorem dX4_init_73 : decode cX4_init 73 = .ok (.iconst 2, 1) := by decide +kernel
theorem dX4_init_74 : decode cX4_init 74 = .ok (.iastore, 1) := by decide +kernel
theorem dX4_init_75 : decode cX4_init 75 = .ok (.aload_n 0, 1) := by decide +kernel
theorem dX4_init_76 : decode cX4_init 76 = .ok (.getfield 16, 3) := by decide +kernel
theorem dX4_init_79 : decode cX4_init 79 = .ok (.iconst 2, 1) := by decide +kernel
theorem dX4_init_80 : decode cX4_init 80 = .ok (.sipush 1000, 3) := by decide +kernel
theorem dX4_init_83 : decode cX4_init 83 = .ok (.iastore, 1) := by decide +kernel
theorem dX4_init_84 : decode cX4_init 84 = .ok (.aload_n 0, 1) := by decide +kernel
theorem dX4_init_85 : decode cX4_init 85 = .ok (.getfield 16, 3) := by decide +kernel
theorem dX4_init_88 : decode cX4_init 88 = .ok (.iconst 3, 1) := by decide +kernel
theorem dX4_init_89 : decode cX4_init 89 = .ok (.bipush 10, 2) := by decide +kernel
theorem dX4_init_91 : decode cX4_init 91 = .ok (.iastore, 1) := by decide +kernel
theorem dX4_init_92 : decode cX4_init 92 = .ok (.aload_n 0, 1) := by decide +kernel
theorem dX4_init_93 : decode cX4_init 93 = .ok (.getfield 16, 3) := by decide +kernel
theorem dX4_init_96 : decode cX4_init 96 = .ok (.iconst 4, 1) := by decide +kernel
theorem dX4_init_97 : decode cX4_init 97 = .ok (.iconst 3, 1) := by decide +kernel
theorem dX4_init_98 : decode cX4_init 98 = .ok (.iastore, 1) := by decide +kernel
theorem dX4_init_99 : decode cX4_init 99 = .ok (.aload_n 0, 1) := by decide +kernel
theorem dX4_init_100 : decode cX4_init 100 = .ok (.getfield 16, 3) := by decide +kernel
theorem dX4_init_103 : decode cX4_init 103 = .ok (.bipush 6, 2) := by decide +kernel
theorem dX4_init_105 : decode cX4_init 105 = .ok (.iconst 4, 1) := by decide +kernel
theorem dX4_init_106 : decode cX4_init 106 = .ok (.iastore, 1) := by decide +kernel
theorem dX4_init_107 : decode cX4_init 107 = .ok (.aload_n 0, 1) := by decide +kernel
theorem dX4_init_108 : decode cX4_init 108 = .ok (.getfield 16, 3) := by decide +kernel
theorem dX4_init_111 : decode cX4_init 111 = .ok (.bipush 9, 2) := by decide +kernel
theorem dX4_init_113 : decode cX4_init 113 = .ok (.iconst 1, 1) := by decide +kernel
theorem dX4_init_114 : decode cX4_init 114 = .ok (.iastore, 1) := by decide +kernel
theorem dX4_init_115 : decode cX4_init 115 = .ok (.aload_n 0, 1) := by decide +kernel
theorem dX4_init_116 : decode cX4_init 116 = .ok (.getfield 16, 3) := by decide +kernel
theorem dX4_init_119 : decode cX4_init 119 = .ok (.bipush 15, 2) := by decide +kernel
theorem dX4_init_121 : decode cX4_init 121 = .ok (.sipush 1500, 3) := by decide +kernel
theorem dX4_init_124 : decode cX4_init 124 = .ok (.iastore, 1) := by decide +kernel
theorem dX4_init_125 : decode cX4_init 125 = .ok (.return_, 1) := by decide +kernel
theorem dX4_thrown_0 : decode cX4_thrown 0 = .ok (.aload_n 0, 1) := by decide +kernel
theorem dX4_thrown_1 : decode cX4_thrown 1 = .ok (.getfield 32, 3) := by decide +kernel
theorem dX4_thrown_4 : decode cX4_thrown 4 = .ok (.ireturn, 1) := by decide +kernel
theorem dX4_refused_0 : decode cX4_refused 0 = .ok (.aload_n 0, 1) := by decide +kernel
theorem dX4_refused_1 : decode cX4_refused 1 = .ok (.iload_n 1, 1) := by decide +kernel
theorem dX4_refused_2 : decode cX4_refused 2 = .ok (.putfield 32, 3) := by decide +kernel
theorem dX4_refused_5 : decode cX4_refused 5 = .ok (.iload_n 1, 1) := by decide +kernel
theorem dX4_refused_6 : decode cX4_refused 6 = .ok (.ifCond .le 7, 3) := by decide +kernel
theorem dX4_refused_9 : decode cX4_refused 9 = .ok (.iconst 1, 1) := by decide +kernel
theorem dX4_refused_10 : decode cX4_refused 10 = .ok (.goto 4, 3) := by decide +kernel
theorem dX4_refused_13 : decode cX4_refused 13 = .ok (.iconst 0, 1) := by decide +kernel
theorem dX4_refused_14 : decode cX4_refused 14 = .ok (.ireturn, 1) := by decide +kernel
theorem dX4_in_0 : decode cX4_in 0 = .ok (.lload_n 0, 1) := by decide +kernel
theorem dX4_in_1 : decode cX4_in 1 = .ok (.lload_n 2, 1) := by decide +kernel
theorem dX4_in_2 : decode cX4_in 2 = .ok (.lcmp, 1) := by decide +kernel
theorem dX4_in_3 : decode cX4_in 3 = .ok (.ifCond .lt 14, 3) := by decide +kernel
theorem dX4_in_6 : decode cX4_in 6 = .ok (.lload_n 0, 1) := by decide +kernel
theorem dX4_in_7 : decode cX4_in 7 = .ok (.lload 4, 2) := by decide +kernel
theorem dX4_in_9 : decode cX4_in 9 = .ok (.lcmp, 1) := by decide +kernel
theorem dX4_in_10 : decode cX4_in 10 = .ok (.ifCond .gt 7, 3) := by decide +kernel
theorem dX4_in_13 : decode cX4_in 13 = .ok (.iconst 1, 1) := by decide +kernel
theorem dX4_in_14 : decode cX4_in 14 = .ok (.goto 4, 3) := by decide +kernel
theorem dX4_in_17 : decode cX4_in 17 = .ok (.iconst 0, 1) := by decide +kernel
theorem dX4_in_18 : decode cX4_in 18 = .ok (.ireturn, 1) := by decide +kernel
theorem dX4_copyPage_0 : decode cX4_copyPage 0 = .ok (.iconst 0, 1) := by decide +kernel
theorem dX4_copyPage_1 : decode cX4_copyPage 1 = .ok (.istore 4, 2) := by decide +kernel
theorem dX4_copyPage_3 : decode cX4_copyPage 3 = .ok (.iload 4, 2) := by decide +kernel
theorem dX4_copyPage_5 : decode cX4_copyPage 5 = .ok (.bipush 101, 2) := by decide +kernel
theorem dX4_copyPage_7 : decode cX4_copyPage 7 = .ok (.if_icmp .ge 21, 3) := by decide +kernel
theorem dX4_copyPage_10 : decode cX4_copyPage 10 = .ok (.aload_n 2, 1) := by decide +kernel
theorem dX4_copyPage_11 : decode cX4_copyPage 11 = .ok (.iload_n 3, 1) := by decide +kernel
theorem dX4_copyPage_12 : decode cX4_copyPage 12 = .ok (.iload 4, 2) := by decide +kernel
theorem dX4_copyPage_14 : decode cX4_copyPage 14 = .ok (.iadd, 1) := by decide +kernel
theorem dX4_copyPage_15 : decode cX4_copyPage 15 = .ok (.aload_n 0, 1) := by decide +kernel
theorem dX4_copyPage_16 : decode cX4_copyPage 16 = .ok (.iload_n 1, 1) := by decide +kernel
theorem dX4_copyPage_17 : decode cX4_copyPage 17 = .ok (.iload 4, 2) := by decide +kernel
theorem dX4_copyPage_19 : decode cX4_copyPage 19 = .ok (.iadd, 1) := by decide +kernel
theorem dX4_copyPage_20 : decode cX4_copyPage 20 = .ok (.iaload, 1) := by decide +kernel
theorem dX4_copyPage_21 : decode cX4_copyPage 21 = .ok (.iastore, 1) := by decide +kernel
theorem dX4_copyPage_22 : decode cX4_copyPage 22 = .ok (.iinc 4 1, 3) := by decide +kernel
theorem dX4_copyPage_25 : decode cX4_copyPage 25 = .ok (.goto (-22), 3) := by decide +kernel
theorem dX4_copyPage_28 : decode cX4_copyPage 28 = .ok (.return_, 1) := by decide +kernel
set_option maxRecDepth 20000 in
theorem ggX4_isSetting_X4_in : GoodIn wsX4_isSetting wsX4_in := goodIn_r _ [10] (by decide +kernel) (by decide +kernel)
set_option maxRecDepth 20000 in
theorem gX4_isSetting_X4_in : GoodIn wsX4_isSetting (va_wsS RX4 38 yX4_in wsX4_in) := goodIn_app (goodIn_of _ (by decide +kernel)) ggX4_isSetting_X4_in
theorem dX4_isSetting_0 : decode cX4_isSetting 0 = .ok (.iload_n 0, 1) := by decide +kernel
theorem dX4_isSetting_1 : decode cX4_isSetting 1 = .ok (.tableswitch 81 0 5 #[39, 39, 49, 59, 39, 69], 39) := by decide +kernel
theorem dX4_isSetting_40 : decode cX4_isSetting 40 = .ok (.iload_n 1, 1) := by decide +kernel
theorem dX4_isSetting_41 : decode cX4_isSetting 41 = .ok (.i2l, 1) := by decide +kernel
theorem dX4_isSetting_42 : decode cX4_isSetting 42 = .ok (.lconst 0, 1) := by decide +kernel
theorem dX4_isSetting_43 : decode cX4_isSetting 43 = .ok (.ldc2_w 36, 3) := by decide +kernel
theorem dX4_isSetting_46 : decode cX4_isSetting 46 = .ok (.invokestatic 38, 3) := by decide +kernel
theorem dX4_isSetting_49 : decode cX4_isSetting 49 = .ok (.ireturn, 1) := by decide +kernel
theorem dX4_isSetting_50 : decode cX4_isSetting 50 = .ok (.iload_n 1, 1) := by decide +kernel
theorem dX4_isSetting_51 : decode cX4_isSetting 51 = .ok (.i2l, 1) := by decide +kernel
theorem dX4_isSetting_52 : decode cX4_isSetting 52 = .ok (.lconst 0, 1) := by decide +kernel
theorem dX4_isSetting_53 : decode cX4_isSetting 53 = .ok (.ldc2_w 42, 3) := by decide +kernel
theorem dX4_isSetting_56 : decode cX4_isSetting 56 = .ok (.invokestatic 38, 3) := by decide +kernel
theorem dX4_isSetting_59 : decode cX4_isSetting 59 = .ok (.ireturn, 1) := by decide +kernel
theorem dX4_isSetting_60 : decode cX4_isSetting 60 = .ok (.iload_n 1, 1) := by decide +kernel
theorem dX4_isSetting_61 : decode cX4_isSetting 61 = .ok (.i2l, 1) := by decide +kernel
theorem dX4_isSetting_62 : decode cX4_isSetting 62 = .ok (.lconst 1, 1) := by decide +kernel
theorem dX4_isSetting_63 : decode cX4_isSetting 63 = .ok (.ldc2_w 44, 3) := by decide +kernel
theorem dX4_isSetting_66 : decode cX4_isSetting 66 = .ok (.invokestatic 38, 3) := by decide +kernel
theorem dX4_isSetting_69 : decode cX4_isSetting 69 = .ok (.ireturn, 1) := by decide +kernel
theorem dX4_isSetting_70 : decode cX4_isSetting 70 = .ok (.iload_n 1, 1) := by decide +kernel
theorem dX4_isSetting_71 : decode cX4_isSetting 71 = .ok (.i2l, 1) := by decide +kernel
theorem dX4_isSetting_72 : decode cX4_isSetting 72 = .ok (.ldc2_w 46, 3) := by decide +kernel
theorem dX4_isSetting_75 : decode cX4_isSetting 75 = .ok (.ldc2_w 48, 3) := by decide +kernel
theorem dX4_isSetting_78 : decode cX4_isSetting 78 = .ok (.invokestatic 38, 3) := by decide +kernel
theorem dX4_isSetting_81 : decode cX4_isSetting 81 = .ok (.ireturn, 1) := by decide +kernel
theorem dX4_isSetting_82 : decode cX4_isSetting 82 = .ok (.iload_n 0, 1) := by decide +kernel
theorem dX4_isSetting_83 : decode cX4_isSetting 83 = .ok (.bipush 6, 2) := by decide +kernel
theorem dX4_isSetting_85 : decode cX4_isSetting 85 = .ok (.if_icmp .ne 19, 3) := by decide +kernel
theorem dX4_isSetting_88 : decode cX4_isSetting 88 = .ok (.iload_n 1, 1) := by decide +kernel
theorem dX4_isSetting_89 : decode cX4_isSetting 89 = .ok (.i2l, 1) := by decide +kernel
theorem dX4_isSetting_90 : decode cX4_isSetting 90 = .ok (.lconst 0, 1) := by decide +kernel
theorem dX4_isSetting_91 : decode cX4_isSetting 91 = .ok (.ldc2_w 50, 3) := by decide +kernel
theorem dX4_isSetting_94 : decode cX4_isSetting 94 = .ok (.invokestatic 38, 3) := by decide +kernel
theorem dX4_isSetting_97 : decode cX4_isSetting 97 = .ok (.ifCond .eq 7, 3) := by decide +kernel
theorem dX4_isSetting_100 : decode cX4_isSetting 100 = .ok (.iconst 1, 1) := by decide +kernel
theorem dX4_isSetting_101 : decode cX4_isSetting 101 = .ok (.goto 4, 3) := by decide +kernel
theorem dX4_isSetting_104 : decode cX4_isSetting 104 = .ok (.iconst 0, 1) := by decide +kernel
theorem dX4_isSetting_105 : decode cX4_isSetting 105 = .ok (.ireturn, 1) := by decide +kernel
theorem dX4_ten_0 : decode cX4_ten 0 = .ok (.iload_n 0, 1) := by decide +kernel
theorem dX4_ten_1 : decode cX4_ten 1 = .ok (.ifCond .ne 7, 3) := by decide +kernel
theorem dX4_ten_4 : decode cX4_ten 4 = .ok (.iconst 1, 1) := by decide +kernel
theorem dX4_ten_5 : decode cX4_ten 5 = .ok (.goto 26, 3) := by decide +kernel
theorem dX4_ten_8 : decode cX4_ten 8 = .ok (.iload_n 0, 1) := by decide +kernel
theorem dX4_ten_9 : decode cX4_ten 9 = .ok (.iconst 1, 1) := by decide +kernel
theorem dX4_ten_10 : decode cX4_ten 10 = .ok (.if_icmp .ne 8, 3) := by decide +kernel
theorem dX4_ten_13 : decode cX4_ten 13 = .ok (.bipush 10, 2) := by decide +kernel
theorem dX4_ten_15 : decode cX4_ten 15 = .ok (.goto 16, 3) := by decide +kernel
theorem dX4_ten_18 : decode cX4_ten 18 = .ok (.iload_n 0, 1) := by decide +kernel
theorem dX4_ten_19 : decode cX4_ten 19 = .ok (.iconst 2, 1) := by decide +kernel
theorem dX4_ten_20 : decode cX4_ten 20 = .ok (.if_icmp .ne 8, 3) := by decide +kernel
theorem dX4_ten_23 : decode cX4_ten 23 = .ok (.bipush 100, 2) := by decide +kernel
theorem dX4_ten_25 : decode cX4_ten 25 = .ok (.goto 6, 3) := by decide +kernel
theorem dX4_ten_28 : decode cX4_ten 28 = .ok (.sipush 1000, 3) := by decide +kernel
theorem dX4_ten_31 : decode cX4_ten 31 = .ok (.ireturn, 1) := by decide +kernel
theorem dX4_size_0 : decode cX4_size 0 = .ok (.iload_n 0, 1) := by decide +kernel
theorem dX4_size_1 : decode cX4_size 1 = .ok (.ifCond .ge 8, 3) := by decide +kernel
theorem dX4_size_4 : decode cX4_size 4 = .ok (.iload_n 0, 1) := by decide +kernel
theorem dX4_size_5 : decode cX4_size 5 = .ok (.ineg, 1) := by decide +kernel
theorem dX4_size_6 : decode cX4_size 6 = .ok (.goto 4, 3) := by decide +kernel
theorem dX4_size_9 : decode cX4_size 9 = .ok (.iload_n 0, 1) := by decide +kernel
theorem dX4_size_10 : decode cX4_size 10 = .ok (.ireturn, 1) := by decide +kernel
set_option maxRecDepth 20000 in
theorem ggX4_missing_X4_ten : GoodIn wsX4_missing wsX4_ten := goodIn_r _ [4] (by decide +kernel) (by decide +kernel)
set_option maxRecDepth 20000 in
theorem gX4_missing_X4_ten : GoodIn wsX4_missing (va_wsS RX4 52 yX4_ten wsX4_ten) := goodIn_app (goodIn_of _ (by decide +kernel)) ggX4_missing_X4_ten
theorem dX4_missing_0 : decode cX4_missing 0 = .ok (.aload_n 0, 1) := by decide +kernel
theorem dX4_missing_1 : decode cX4_missing 1 = .ok (.iconst 1, 1) := by decide +kernel
theorem dX4_missing_2 : decode cX4_missing 2 = .ok (.iaload, 1) := by decide +kernel
theorem dX4_missing_3 : decode cX4_missing 3 = .ok (.invokestatic 52, 3) := by decide +kernel
theorem dX4_missing_6 : decode cX4_missing 6 = .ok (.iload_n 1, 1) := by decide +kernel
theorem dX4_missing_7 : decode cX4_missing 7 = .ok (.imul, 1) := by decide +kernel
theorem dX4_missing_8 : decode cX4_missing 8 = .ok (.aload_n 0, 1) := by decide +kernel
theorem dX4_missing_9 : decode cX4_missing 9 = .ok (.iconst 0, 1) := by decide +kernel
theorem dX4_missing_10 : decode cX4_missing 10 = .ok (.iaload, 1) := by decide +kernel
theorem dX4_missing_11 : decode cX4_missing 11 = .ok (.invokestatic 52, 3) := by decide +kernel
theorem dX4_missing_14 : decode cX4_missing 14 = .ok (.iload_n 2, 1) := by decide +kernel
theorem dX4_missing_15 : decode cX4_missing 15 = .ok (.imul, 1) := by decide +kernel
theorem dX4_missing_16 : decode cX4_missing 16 = .ok (.isub, 1) := by decide +kernel
theorem dX4_missing_17 : decode cX4_missing 17 = .ok (.ireturn, 1) := by decide +kernel
set_option maxRecDepth 20000 in
theorem ggX4_divisor_X4_ten : GoodIn wsX4_divisor wsX4_ten := goodIn_r _ [4] (by decide +kernel) (by decide +kernel)
set_option maxRecDepth 20000 in
theorem gX4_divisor_X4_ten : GoodIn wsX4_divisor (va_wsS RX4 52 yX4_ten wsX4_ten) := goodIn_app (goodIn_of _ (by decide +kernel)) ggX4_divisor_X4_ten
theorem dX4_divisor_0 : decode cX4_divisor 0 = .ok (.aload_n 0, 1) := by decide +kernel
theorem dX4_divisor_1 : decode cX4_divisor 1 = .ok (.iconst 0, 1) := by decide +kernel
theorem dX4_divisor_2 : decode cX4_divisor 2 = .ok (.iaload, 1) := by decide +kernel
theorem dX4_divisor_3 : decode cX4_divisor 3 = .ok (.invokestatic 52, 3) := by decide +kernel
theorem dX4_divisor_6 : decode cX4_divisor 6 = .ok (.aload_n 0, 1) := by decide +kernel
theorem dX4_divisor_7 : decode cX4_divisor 7 = .ok (.iconst 1, 1) := by decide +kernel
theorem dX4_divisor_8 : decode cX4_divisor 8 = .ok (.iaload, 1) := by decide +kernel
theorem dX4_divisor_9 : decode cX4_divisor 9 = .ok (.invokestatic 52, 3) := by decide +kernel
theorem dX4_divisor_12 : decode cX4_divisor 12 = .ok (.iadd, 1) := by decide +kernel
theorem dX4_divisor_13 : decode cX4_divisor 13 = .ok (.iload_n 1, 1) := by decide +kernel
theorem dX4_divisor_14 : decode cX4_divisor 14 = .ok (.iload_n 2, 1) := by decide +kernel
theorem dX4_divisor_15 : decode cX4_divisor 15 = .ok (.iadd, 1) := by decide +kernel
theorem dX4_divisor_16 : decode cX4_divisor 16 = .ok (.imul, 1) := by decide +kernel
theorem dX4_divisor_17 : decode cX4_divisor 17 = .ok (.ireturn, 1) := by decide +kernel
theorem dX4_unknown_0 : decode cX4_unknown 0 = .ok (.aload_n 0, 1) := by decide +kernel
theorem dX4_unknown_1 : decode cX4_unknown 1 = .ok (.bipush 15, 2) := by decide +kernel
theorem dX4_unknown_3 : decode cX4_unknown 3 = .ok (.aload_n 0, 1) := by decide +kernel
theorem dX4_unknown_4 : decode cX4_unknown 4 = .ok (.bipush 10, 2) := by decide +kernel
theorem dX4_unknown_6 : decode cX4_unknown 6 = .ok (.iaload, 1) := by decide +kernel
theorem dX4_unknown_7 : decode cX4_unknown 7 = .ok (.iadd, 1) := by decide +kernel
theorem dX4_unknown_8 : decode cX4_unknown 8 = .ok (.iaload, 1) := by decide +kernel
theorem dX4_unknown_9 : decode cX4_unknown 9 = .ok (.ireturn, 1) := by decide +kernel
set_option maxRecDepth 20000 in
theorem ggX4_trueOf_X4_unknown : GoodIn wsX4_trueOf wsX4_unknown := goodIn_r _ [5] (by decide +kernel) (by decide +kernel)
set_option maxRecDepth 20000 in
theorem gX4_trueOf_X4_unknown : GoodIn wsX4_trueOf (va_wsS RX4 58 yX4_unknown wsX4_unknown) := goodIn_app (goodIn_of _ (by decide +kernel)) ggX4_trueOf_X4_unknown
set_option maxRecDepth 20000 in
theorem ggX4_trueOf_X4_missing : GoodIn wsX4_trueOf wsX4_missing := goodIn_r _ [8, 9, 10, 4, 11] (by decide +kernel) (by decide +kernel)
set_option maxRecDepth 20000 in
theorem gX4_trueOf_X4_missing : GoodIn wsX4_trueOf (va_wsS RX4 62 yX4_missing wsX4_missing) := goodIn_app (goodIn_of _ (by decide +kernel)) ggX4_trueOf_X4_missing
set_option maxRecDepth 20000 in
theorem ggX4_trueOf_X4_divisor : GoodIn wsX4_trueOf wsX4_divisor := goodIn_r _ [14, 9, 10, 4, 11] (by decide +kernel) (by decide +kernel)
set_option maxRecDepth 20000 in
theorem gX4_trueOf_X4_divisor : GoodIn wsX4_trueOf (va_wsS RX4 66 yX4_divisor wsX4_divisor) := goodIn_app (goodIn_of _ (by decide +kernel)) ggX4_trueOf_X4_divisor
set_option maxRecDepth 20000 in
theorem ggX4_trueOf_X4_ten : GoodIn wsX4_trueOf wsX4_ten := goodIn_r _ [11] (by decide +kernel) (by decide +kernel)
set_option maxRecDepth 20000 in
theorem gX4_trueOf_X4_ten : GoodIn wsX4_trueOf (va_wsS RX4 52 yX4_ten wsX4_ten) := goodIn_app (goodIn_of _ (by decide +kernel)) ggX4_trueOf_X4_ten
theorem dX4_trueOf_0 : decode cX4_trueOf 0 = .ok (.ldc2_w 56, 3) := by decide +kernel
theorem dX4_trueOf_3 : decode cX4_trueOf 3 = .ok (.aload_n 0, 1) := by decide +kernel
theorem dX4_trueOf_4 : decode cX4_trueOf 4 = .ok (.iconst 3, 1) := by decide +kernel
theorem dX4_trueOf_5 : decode cX4_trueOf 5 = .ok (.iaload, 1) := by decide +kernel
theorem dX4_trueOf_6 : decode cX4_trueOf 6 = .ok (.i2l, 1) := by decide +kernel
theorem dX4_trueOf_7 : decode cX4_trueOf 7 = .ok (.lmul, 1) := by decide +kernel
theorem dX4_trueOf_8 : decode cX4_trueOf 8 = .ok (.aload_n 0, 1) := by decide +kernel
theorem dX4_trueOf_9 : decode cX4_trueOf 9 = .ok (.aload_n 0, 1) := by decide +kernel
theorem dX4_trueOf_10 : decode cX4_trueOf 10 = .ok (.invokestatic 58, 3) := by decide +kernel
theorem dX4_trueOf_13 : decode cX4_trueOf 13 = .ok (.iload_n 1, 1) := by decide +kernel
theorem dX4_trueOf_14 : decode cX4_trueOf 14 = .ok (.invokestatic 62, 3) := by decide +kernel
theorem dX4_trueOf_17 : decode cX4_trueOf 17 = .ok (.i2l, 1) := by decide +kernel
theorem dX4_trueOf_18 : decode cX4_trueOf 18 = .ok (.lmul, 1) := by decide +kernel
theorem dX4_trueOf_19 : decode cX4_trueOf 19 = .ok (.aload_n 0, 1) := by decide +kernel
theorem dX4_trueOf_20 : decode cX4_trueOf 20 = .ok (.aload_n 0, 1) := by decide +kernel
theorem dX4_trueOf_21 : decode cX4_trueOf 21 = .ok (.invokestatic 58, 3) := by decide +kernel
theorem dX4_trueOf_24 : decode cX4_trueOf 24 = .ok (.iload_n 1, 1) := by decide +kernel
theorem dX4_trueOf_25 : decode cX4_trueOf 25 = .ok (.invokestatic 66, 3) := by decide +kernel
theorem dX4_trueOf_28 : decode cX4_trueOf 28 = .ok (.i2l, 1) := by decide +kernel
theorem dX4_trueOf_29 : decode cX4_trueOf 29 = .ok (.ldiv, 1) := by decide +kernel
theorem dX4_trueOf_30 : decode cX4_trueOf 30 = .ok (.lstore_n 3, 1) := by decide +kernel
theorem dX4_trueOf_31 : decode cX4_trueOf 31 = .ok (.lload_n 3, 1) := by decide +kernel
theorem dX4_trueOf_32 : decode cX4_trueOf 32 = .ok (.iload_n 2, 1) := by decide +kernel
theorem dX4_trueOf_33 : decode cX4_trueOf 33 = .ok (.invokestatic 52, 3) := by decide +kernel
theorem dX4_trueOf_36 : decode cX4_trueOf 36 = .ok (.i2l, 1) := by decide +kernel
theorem dX4_trueOf_37 : decode cX4_trueOf 37 = .ok (.ldiv, 1) := by decide +kernel
theorem dX4_trueOf_38 : decode cX4_trueOf 38 = .ok (.l2i, 1) := by decide +kernel
theorem dX4_trueOf_39 : decode cX4_trueOf 39 = .ok (.ireturn, 1) := by decide +kernel
theorem dX4_offsetOf_0 : decode cX4_offsetOf 0 = .ok (.aload_n 0, 1) := by decide +kernel
theorem dX4_offsetOf_1 : decode cX4_offsetOf 1 = .ok (.iconst 5, 1) := by decide +kernel
theorem dX4_offsetOf_2 : decode cX4_offsetOf 2 = .ok (.iaload, 1) := by decide +kernel
theorem dX4_offsetOf_3 : decode cX4_offsetOf 3 = .ok (.aload_n 0, 1) := by decide +kernel
theorem dX4_offsetOf_4 : decode cX4_offsetOf 4 = .ok (.bipush 7, 2) := by decide +kernel
theorem dX4_offsetOf_6 : decode cX4_offsetOf 6 = .ok (.iaload, 1) := by decide +kernel
theorem dX4_offsetOf_7 : decode cX4_offsetOf 7 = .ok (.aload_n 0, 1) := by decide +kernel
theorem dX4_offsetOf_8 : decode cX4_offsetOf 8 = .ok (.bipush 6, 2) := by decide +kernel
theorem dX4_offsetOf_10 : decode cX4_offsetOf 10 = .ok (.iaload, 1) := by decide +kernel
theorem dX4_offsetOf_11 : decode cX4_offsetOf 11 = .ok (.imul, 1) := by decide +kernel
theorem dX4_offsetOf_12 : decode cX4_offsetOf 12 = .ok (.bipush 100, 2) := by decide +kernel
theorem dX4_offsetOf_14 : decode cX4_offsetOf 14 = .ok (.idiv, 1) := by decide +kernel
theorem dX4_offsetOf_15 : decode cX4_offsetOf 15 = .ok (.iadd, 1) := by decide +kernel
theorem dX4_offsetOf_16 : decode cX4_offsetOf 16 = .ok (.ireturn, 1) := by decide +kernel
set_option maxRecDepth 20000 in
theorem ggX4_rawOf_X4_trueOf : GoodIn wsX4_rawOf wsX4_trueOf := goodIn_r _ [4, 5, 6, 7, 3, 8, 9, 10, 11, 12, 13, 14, 15, 16, 17] (by decide +kernel) (by decide +kernel)
set_option maxRecDepth 20000 in
theorem gX4_rawOf_X4_trueOf : GoodIn wsX4_rawOf (va_wsS RX4 69 yX4_trueOf wsX4_trueOf) := goodIn_app (goodIn_of _ (by decide +kernel)) ggX4_rawOf_X4_trueOf
set_option maxRecDepth 20000 in
theorem ggX4_rawOf_X4_offsetOf : GoodIn wsX4_rawOf wsX4_offsetOf := goodIn_r _ [20] (by decide +kernel) (by decide +kernel)
set_option maxRecDepth 20000 in
theorem gX4_rawOf_X4_offsetOf : GoodIn wsX4_rawOf (va_wsS RX4 72 yX4_offsetOf wsX4_offsetOf) := goodIn_app (goodIn_of _ (by decide +kernel)) ggX4_rawOf_X4_offsetOf
theorem dX4_rawOf_0 : decode cX4_rawOf 0 = .ok (.aload_n 0, 1) := by decide +kernel
theorem dX4_rawOf_1 : decode cX4_rawOf 1 = .ok (.aload_n 0, 1) := by decide +kernel
theorem dX4_rawOf_2 : decode cX4_rawOf 2 = .ok (.iconst 2, 1) := by decide +kernel
theorem dX4_rawOf_3 : decode cX4_rawOf 3 = .ok (.iaload, 1) := by decide +kernel
theorem dX4_rawOf_4 : decode cX4_rawOf 4 = .ok (.iload_n 2, 1) := by decide +kernel
theorem dX4_rawOf_5 : decode cX4_rawOf 5 = .ok (.invokestatic 69, 3) := by decide +kernel
theorem dX4_rawOf_8 : decode cX4_rawOf 8 = .ok (.istore_n 3, 1) := by decide +kernel
theorem dX4_rawOf_9 : decode cX4_rawOf 9 = .ok (.aload_n 0, 1) := by decide +kernel
theorem dX4_rawOf_10 : decode cX4_rawOf 10 = .ok (.invokestatic 72, 3) := by decide +kernel
theorem dX4_rawOf_13 : decode cX4_rawOf 13 = .ok (.iload_n 1, 1) := by decide +kernel
theorem dX4_rawOf_14 : decode cX4_rawOf 14 = .ok (.ifCond .eq 8, 3) := by decide +kernel
theorem dX4_rawOf_17 : decode cX4_rawOf 17 = .ok (.iload_n 3, 1) := by decide +kernel
theorem dX4_rawOf_18 : decode cX4_rawOf 18 = .ok (.ineg, 1) := by decide +kernel
theorem dX4_rawOf_19 : decode cX4_rawOf 19 = .ok (.goto 4, 3) := by decide +kernel
theorem dX4_rawOf_22 : decode cX4_rawOf 22 = .ok (.iload_n 3, 1) := by decide +kernel
theorem dX4_rawOf_23 : decode cX4_rawOf 23 = .ok (.iadd, 1) := by decide +kernel
theorem dX4_rawOf_24 : decode cX4_rawOf 24 = .ok (.ireturn, 1) := by decide +kernel
set_option maxRecDepth 20000 in
theorem ggX4_pressOn_X4_rawOf : GoodIn wsX4_pressOn wsX4_rawOf := goodIn_r _ [4, 5, 6, 3, 7, 8, 9, 10, 11, 12, 13, 14, 15, 16, 17, 18, 19, 20, 21, 22, 23] (by decide +kernel) (by decide +kernel)
set_option maxRecDepth 20000 in
theorem gX4_pressOn_X4_rawOf : GoodIn wsX4_pressOn (va_wsS RX4 75 yX4_rawOf wsX4_rawOf) := goodIn_app (goodIn_of _ (by decide +kernel)) ggX4_pressOn_X4_rawOf
theorem dX4_pressOn_0 : decode cX4_pressOn 0 = .ok (.aload_n 0, 1) := by decide +kernel
theorem dX4_pressOn_1 : decode cX4_pressOn 1 = .ok (.iload_n 1, 1) := by decide +kernel
theorem dX4_pressOn_2 : decode cX4_pressOn 2 = .ok (.aload_n 0, 1) := by decide +kernel
theorem dX4_pressOn_3 : decode cX4_pressOn 3 = .ok (.iconst 4, 1) := by decide +kernel
theorem dX4_pressOn_4 : decode cX4_pressOn 4 = .ok (.iaload, 1) := by decide +kernel
theorem dX4_pressOn_5 : decode cX4_pressOn 5 = .ok (.invokestatic 75, 3) := by decide +kernel
theorem dX4_pressOn_8 : decode cX4_pressOn 8 = .ok (.istore_n 2, 1) := by decide +kernel
theorem dX4_pressOn_9 : decode cX4_pressOn 9 = .ok (.iload_n 2, 1) := by decide +kernel
theorem dX4_pressOn_10 : decode cX4_pressOn 10 = .ok (.sipush 500, 3) := by decide +kernel
theorem dX4_pressOn_13 : decode cX4_pressOn 13 = .ok (.if_icmp .le 9, 3) := by decide +kernel
theorem dX4_pressOn_16 : decode cX4_pressOn 16 = .ok (.sipush 500, 3) := by decide +kernel
theorem dX4_pressOn_19 : decode cX4_pressOn 19 = .ok (.goto 17, 3) := by decide +kernel
theorem dX4_pressOn_22 : decode cX4_pressOn 22 = .ok (.iload_n 2, 1) := by decide +kernel
theorem dX4_pressOn_23 : decode cX4_pressOn 23 = .ok (.sipush (-500), 3) := by decide +kernel
theorem dX4_pressOn_26 : decode cX4_pressOn 26 = .ok (.if_icmp .ge 9, 3) := by decide +kernel
theorem dX4_pressOn_29 : decode cX4_pressOn 29 = .ok (.sipush (-500), 3) := by decide +kernel
theorem dX4_pressOn_32 : decode cX4_pressOn 32 = .ok (.goto 4, 3) := by decide +kernel
theorem dX4_pressOn_35 : decode cX4_pressOn 35 = .ok (.iload_n 2, 1) := by decide +kernel
theorem dX4_pressOn_36 : decode cX4_pressOn 36 = .ok (.istore_n 3, 1) := by decide +kernel
theorem dX4_pressOn_37 : decode cX4_pressOn 37 = .ok (.bipush 100, 2) := by decide +kernel
theorem dX4_pressOn_39 : decode cX4_pressOn 39 = .ok (.istore 4, 2) := by decide +kernel
theorem dX4_pressOn_41 : decode cX4_pressOn 41 = .ok (.iload 4, 2) := by decide +kernel
theorem dX4_pressOn_43 : decode cX4_pressOn 43 = .ok (.bipush 25, 2) := by decide +kernel
theorem dX4_pressOn_45 : decode cX4_pressOn 45 = .ok (.if_icmp .lt 19, 3) := by decide +kernel
theorem dX4_pressOn_48 : decode cX4_pressOn 48 = .ok (.aload_n 0, 1) := by decide +kernel
theorem dX4_pressOn_49 : decode cX4_pressOn 49 = .ok (.iload 4, 2) := by decide +kernel
theorem dX4_pressOn_51 : decode cX4_pressOn 51 = .ok (.aload_n 0, 1) := by decide +kernel
theorem dX4_pressOn_52 : decode cX4_pressOn 52 = .ok (.iload 4, 2) := by decide +kernel
theorem dX4_pressOn_54 : decode cX4_pressOn 54 = .ok (.iconst 4, 1) := by decide +kernel
theorem dX4_pressOn_55 : decode cX4_pressOn 55 = .ok (.isub, 1) := by decide +kernel
theorem dX4_pressOn_56 : decode cX4_pressOn 56 = .ok (.iaload, 1) := by decide +kernel
theorem dX4_pressOn_57 : decode cX4_pressOn 57 = .ok (.iastore, 1) := by decide +kernel
theorem dX4_pressOn_58 : decode cX4_pressOn 58 = .ok (.iinc 4 (-1), 3) := by decide +kernel
theorem dX4_pressOn_61 : decode cX4_pressOn 61 = .ok (.goto (-20), 3) := by decide +kernel
theorem dX4_pressOn_64 : decode cX4_pressOn 64 = .ok (.aload_n 0, 1) := by decide +kernel
theorem dX4_pressOn_65 : decode cX4_pressOn 65 = .ok (.bipush 21, 2) := by decide +kernel
theorem dX4_pressOn_67 : decode cX4_pressOn 67 = .ok (.iload_n 3, 1) := by decide +kernel
theorem dX4_pressOn_68 : decode cX4_pressOn 68 = .ok (.iastore, 1) := by decide +kernel
theorem dX4_pressOn_69 : decode cX4_pressOn 69 = .ok (.aload_n 0, 1) := by decide +kernel
theorem dX4_pressOn_70 : decode cX4_pressOn 70 = .ok (.bipush 22, 2) := by decide +kernel
theorem dX4_pressOn_72 : decode cX4_pressOn 72 = .ok (.iload_n 1, 1) := by decide +kernel
theorem dX4_pressOn_73 : decode cX4_pressOn 73 = .ok (.ifCond .eq 7, 3) := by decide +kernel
theorem dX4_pressOn_76 : decode cX4_pressOn 76 = .ok (.iconst (-1), 1) := by decide +kernel
theorem dX4_pressOn_77 : decode cX4_pressOn 77 = .ok (.goto 4, 3) := by decide +kernel
theorem dX4_pressOn_80 : decode cX4_pressOn 80 = .ok (.iconst 1, 1) := by decide +kernel
theorem dX4_pressOn_81 : decode cX4_pressOn 81 = .ok (.iastore, 1) := by decide +kernel
theorem dX4_pressOn_82 : decode cX4_pressOn 82 = .ok (.aload_n 0, 1) := by decide +kernel
theorem dX4_pressOn_83 : decode cX4_pressOn 83 = .ok (.bipush 23, 2) := by decide +kernel
theorem dX4_pressOn_85 : decode cX4_pressOn 85 = .ok (.aload_n 0, 1) := by decide +kernel
theorem dX4_pressOn_86 : decode cX4_pressOn 86 = .ok (.iconst 2, 1) := by decide +kernel
theorem dX4_pressOn_87 : decode cX4_pressOn 87 = .ok (.iaload, 1) := by decide +kernel
theorem dX4_pressOn_88 : decode cX4_pressOn 88 = .ok (.iastore, 1) := by decide +kernel
theorem dX4_pressOn_89 : decode cX4_pressOn 89 = .ok (.aload_n 0, 1) := by decide +kernel
theorem dX4_pressOn_90 : decode cX4_pressOn 90 = .ok (.bipush 24, 2) := by decide +kernel
theorem dX4_pressOn_92 : decode cX4_pressOn 92 = .ok (.aload_n 0, 1) := by decide +kernel
theorem dX4_pressOn_93 : decode cX4_pressOn 93 = .ok (.bipush 8, 2) := by decide +kernel
theorem dX4_pressOn_95 : decode cX4_pressOn 95 = .ok (.iaload, 1) := by decide +kernel
theorem dX4_pressOn_96 : decode cX4_pressOn 96 = .ok (.iastore, 1) := by decide +kernel
theorem dX4_pressOn_97 : decode cX4_pressOn 97 = .ok (.aload_n 0, 1) := by decide +kernel
theorem dX4_pressOn_98 : decode cX4_pressOn 98 = .ok (.bipush 12, 2) := by decide +kernel
theorem dX4_pressOn_100 : decode cX4_pressOn 100 = .ok (.aload_n 0, 1) := by decide +kernel
theorem dX4_pressOn_101 : decode cX4_pressOn 101 = .ok (.bipush 12, 2) := by decide +kernel
theorem dX4_pressOn_103 : decode cX4_pressOn 103 = .ok (.iaload, 1) := by decide +kernel
theorem dX4_pressOn_104 : decode cX4_pressOn 104 = .ok (.bipush 20, 2) := by decide +kernel
theorem dX4_pressOn_106 : decode cX4_pressOn 106 = .ok (.if_icmp .ge 12, 3) := by decide +kernel
theorem dX4_pressOn_109 : decode cX4_pressOn 109 = .ok (.aload_n 0, 1) := by decide +kernel
theorem dX4_pressOn_110 : decode cX4_pressOn 110 = .ok (.bipush 12, 2) := by decide +kernel
theorem dX4_pressOn_112 : decode cX4_pressOn 112 = .ok (.iaload, 1) := by decide +kernel
theorem dX4_pressOn_113 : decode cX4_pressOn 113 = .ok (.iconst 1, 1) := by decide +kernel
theorem dX4_pressOn_114 : decode cX4_pressOn 114 = .ok (.iadd, 1) := by decide +kernel
theorem dX4_pressOn_115 : decode cX4_pressOn 115 = .ok (.goto 5, 3) := by decide +kernel
theorem dX4_pressOn_118 : decode cX4_pressOn 118 = .ok (.bipush 20, 2) := by decide +kernel
theorem dX4_pressOn_120 : decode cX4_pressOn 120 = .ok (.iastore, 1) := by decide +kernel
theorem dX4_pressOn_121 : decode cX4_pressOn 121 = .ok (.aload_n 0, 1) := by decide +kernel
theorem dX4_pressOn_122 : decode cX4_pressOn 122 = .ok (.bipush 13, 2) := by decide +kernel
theorem dX4_pressOn_124 : decode cX4_pressOn 124 = .ok (.dup2, 1) := by decide +kernel
theorem dX4_pressOn_125 : decode cX4_pressOn 125 = .ok (.iaload, 1) := by decide +kernel
theorem dX4_pressOn_126 : decode cX4_pressOn 126 = .ok (.iconst 1, 1) := by decide +kernel
theorem dX4_pressOn_127 : decode cX4_pressOn 127 = .ok (.iadd, 1) := by decide +kernel
theorem dX4_pressOn_128 : decode cX4_pressOn 128 = .ok (.iastore, 1) := by decide +kernel
theorem dX4_pressOn_129 : decode cX4_pressOn 129 = .ok (.iload_n 2, 1) := by decide +kernel
theorem dX4_pressOn_130 : decode cX4_pressOn 130 = .ok (.sipush (-5000), 3) := by decide +kernel
theorem dX4_pressOn_133 : decode cX4_pressOn 133 = .ok (.if_icmp .lt 10, 3) := by decide +kernel
theorem dX4_pressOn_136 : decode cX4_pressOn 136 = .ok (.iload_n 2, 1) := by decide +kernel
theorem dX4_pressOn_137 : decode cX4_pressOn 137 = .ok (.sipush 5000, 3) := by decide +kernel
theorem dX4_pressOn_140 : decode cX4_pressOn 140 = .ok (.if_icmp .le 7, 3) := by decide +kernel
theorem dX4_pressOn_143 : decode cX4_pressOn 143 = .ok (.iconst 1, 1) := by decide +kernel
theorem dX4_pressOn_144 : decode cX4_pressOn 144 = .ok (.goto 4, 3) := by decide +kernel
theorem dX4_pressOn_147 : decode cX4_pressOn 147 = .ok (.iconst 0, 1) := by decide +kernel
theorem dX4_pressOn_148 : decode cX4_pressOn 148 = .ok (.istore 4, 2) := by decide +kernel
theorem dX4_pressOn_150 : decode cX4_pressOn 150 = .ok (.aload_n 0, 1) := by decide +kernel
theorem dX4_pressOn_151 : decode cX4_pressOn 151 = .ok (.bipush 14, 2) := by decide +kernel
theorem dX4_pressOn_153 : decode cX4_pressOn 153 = .ok (.dup2, 1) := by decide +kernel
theorem dX4_pressOn_154 : decode cX4_pressOn 154 = .ok (.iaload, 1) := by decide +kernel
theorem dX4_pressOn_155 : decode cX4_pressOn 155 = .ok (.iload 4, 2) := by decide +kernel
theorem dX4_pressOn_157 : decode cX4_pressOn 157 = .ok (.ifCond .eq 7, 3) := by decide +kernel
theorem dX4_pressOn_160 : decode cX4_pressOn 160 = .ok (.iconst 1, 1) := by decide +kernel
theorem dX4_pressOn_161 : decode cX4_pressOn 161 = .ok (.goto 4, 3) := by decide +kernel
theorem dX4_pressOn_164 : decode cX4_pressOn 164 = .ok (.iconst 0, 1) := by decide +kernel
theorem dX4_pressOn_165 : decode cX4_pressOn 165 = .ok (.iadd, 1) := by decide +kernel
theorem dX4_pressOn_166 : decode cX4_pressOn 166 = .ok (.iastore, 1) := by decide +kernel
theorem dX4_pressOn_167 : decode cX4_pressOn 167 = .ok (.aload_n 0, 1) := by decide +kernel
theorem dX4_pressOn_168 : decode cX4_pressOn 168 = .ok (.bipush 11, 2) := by decide +kernel
theorem dX4_pressOn_170 : decode cX4_pressOn 170 = .ok (.iload 4, 2) := by decide +kernel
theorem dX4_pressOn_172 : decode cX4_pressOn 172 = .ok (.ifCond .eq 7, 3) := by decide +kernel
theorem dX4_pressOn_175 : decode cX4_pressOn 175 = .ok (.iconst 1, 1) := by decide +kernel
theorem dX4_pressOn_176 : decode cX4_pressOn 176 = .ok (.goto 7, 3) := by decide +kernel
theorem dX4_pressOn_179 : decode cX4_pressOn 179 = .ok (.aload_n 0, 1) := by decide +kernel
theorem dX4_pressOn_180 : decode cX4_pressOn 180 = .ok (.bipush 11, 2) := by decide +kernel
theorem dX4_pressOn_182 : decode cX4_pressOn 182 = .ok (.iaload, 1) := by decide +kernel
theorem dX4_pressOn_183 : decode cX4_pressOn 183 = .ok (.iastore, 1) := by decide +kernel
theorem dX4_pressOn_184 : decode cX4_pressOn 184 = .ok (.aload_n 0, 1) := by decide +kernel
theorem dX4_pressOn_185 : decode cX4_pressOn 185 = .ok (.bipush 7, 2) := by decide +kernel
theorem dX4_pressOn_187 : decode cX4_pressOn 187 = .ok (.aload_n 0, 1) := by decide +kernel
theorem dX4_pressOn_188 : decode cX4_pressOn 188 = .ok (.bipush 7, 2) := by decide +kernel
theorem dX4_pressOn_190 : decode cX4_pressOn 190 = .ok (.iaload, 1) := by decide +kernel
theorem dX4_pressOn_191 : decode cX4_pressOn 191 = .ok (.aload_n 0, 1) := by decide +kernel
theorem dX4_pressOn_192 : decode cX4_pressOn 192 = .ok (.iconst 3, 1) := by decide +kernel
theorem dX4_pressOn_193 : decode cX4_pressOn 193 = .ok (.iaload, 1) := by decide +kernel
theorem dX4_pressOn_194 : decode cX4_pressOn 194 = .ok (.iadd, 1) := by decide +kernel
theorem dX4_pressOn_195 : decode cX4_pressOn 195 = .ok (.sipush 9999, 3) := by decide +kernel
theorem dX4_pressOn_198 : decode cX4_pressOn 198 = .ok (.if_icmp .le 9, 3) := by decide +kernel
theorem dX4_pressOn_201 : decode cX4_pressOn 201 = .ok (.sipush 9999, 3) := by decide +kernel
theorem dX4_pressOn_204 : decode cX4_pressOn 204 = .ok (.goto 11, 3) := by decide +kernel
theorem dX4_pressOn_207 : decode cX4_pressOn 207 = .ok (.aload_n 0, 1) := by decide +kernel
theorem dX4_pressOn_208 : decode cX4_pressOn 208 = .ok (.bipush 7, 2) := by decide +kernel
theorem dX4_pressOn_210 : decode cX4_pressOn 210 = .ok (.iaload, 1) := by decide +kernel
theorem dX4_pressOn_211 : decode cX4_pressOn 211 = .ok (.aload_n 0, 1) := by decide +kernel
theorem dX4_pressOn_212 : decode cX4_pressOn 212 = .ok (.iconst 3, 1) := by decide +kernel
theorem dX4_pressOn_213 : decode cX4_pressOn 213 = .ok (.iaload, 1) := by decide +kernel
theorem dX4_pressOn_214 : decode cX4_pressOn 214 = .ok (.iadd, 1) := by decide +kernel
theorem dX4_pressOn_215 : decode cX4_pressOn 215 = .ok (.iastore, 1) := by decide +kernel
theorem dX4_pressOn_216 : decode cX4_pressOn 216 = .ok (.aload_n 0, 1) := by decide +kernel
theorem dX4_pressOn_217 : decode cX4_pressOn 217 = .ok (.bipush 8, 2) := by decide +kernel
theorem dX4_pressOn_219 : decode cX4_pressOn 219 = .ok (.dup2, 1) := by decide +kernel
theorem dX4_pressOn_220 : decode cX4_pressOn 220 = .ok (.iaload, 1) := by decide +kernel
theorem dX4_pressOn_221 : decode cX4_pressOn 221 = .ok (.iconst 1, 1) := by decide +kernel
theorem dX4_pressOn_222 : decode cX4_pressOn 222 = .ok (.iadd, 1) := by decide +kernel
theorem dX4_pressOn_223 : decode cX4_pressOn 223 = .ok (.iastore, 1) := by decide +kernel
theorem dX4_pressOn_224 : decode cX4_pressOn 224 = .ok (.iload_n 3, 1) := by decide +kernel
theorem dX4_pressOn_225 : decode cX4_pressOn 225 = .ok (.ireturn, 1) := by decide +kernel
set_option maxRecDepth 20000 in
theorem ggX4_pairOn_X4_pressOn : GoodIn wsX4_pairOn wsX4_pressOn := goodIn_r _ [4, 5, 6, 3, 7, 8, 9, 10, 11, 12, 13, 14, 15, 16, 17, 18, 19, 20, 21, 22, 23, 24, 25, 26] (by decide +kernel) (by decide +kernel)
set_option maxRecDepth 20000 in
theorem gX4_pairOn_X4_pressOn : GoodIn wsX4_pairOn (va_wsS RX4 79 yX4_pressOn wsX4_pressOn) := goodIn_app (goodIn_of _ (by decide +kernel)) ggX4_pairOn_X4_pressOn
theorem dX4_pairOn_0 : decode cX4_pairOn 0 = .ok (.aload_n 0, 1) := by decide +kernel
theorem dX4_pairOn_1 : decode cX4_pairOn 1 = .ok (.iconst 0, 1) := by decide +kernel
theorem dX4_pairOn_2 : decode cX4_pairOn 2 = .ok (.invokestatic 79, 3) := by decide +kernel
theorem dX4_pairOn_5 : decode cX4_pairOn 5 = .ok (.istore_n 1, 1) := by decide +kernel
theorem dX4_pairOn_6 : decode cX4_pairOn 6 = .ok (.aload_n 0, 1) := by decide +kernel
theorem dX4_pairOn_7 : decode cX4_pairOn 7 = .ok (.bipush 11, 2) := by decide +kernel
theorem dX4_pairOn_9 : decode cX4_pairOn 9 = .ok (.iaload, 1) := by decide +kernel
theorem dX4_pairOn_10 : decode cX4_pairOn 10 = .ok (.iconst 1, 1) := by decide +kernel
theorem dX4_pairOn_11 : decode cX4_pairOn 11 = .ok (.if_icmp .ne 7, 3) := by decide +kernel
theorem dX4_pairOn_14 : decode cX4_pairOn 14 = .ok (.iload_n 1, 1) := by decide +kernel
theorem dX4_pairOn_15 : decode cX4_pairOn 15 = .ok (.goto 10, 3) := by decide +kernel
theorem dX4_pairOn_18 : decode cX4_pairOn 18 = .ok (.iload_n 1, 1) := by decide +kernel
theorem dX4_pairOn_19 : decode cX4_pairOn 19 = .ok (.aload_n 0, 1) := by decide +kernel
theorem dX4_pairOn_20 : decode cX4_pairOn 20 = .ok (.iconst 1, 1) := by decide +kernel
theorem dX4_pairOn_21 : decode cX4_pairOn 21 = .ok (.invokestatic 79, 3) := by decide +kernel
theorem dX4_pairOn_24 : decode cX4_pairOn 24 = .ok (.isub, 1) := by decide +kernel
theorem dX4_pairOn_25 : decode cX4_pairOn 25 = .ok (.ireturn, 1) := by decide +kernel
theorem dX4_waitOn_0 : decode cX4_waitOn 0 = .ok (.iconst 0, 1) := by decide +kernel
theorem dX4_waitOn_1 : decode cX4_waitOn 1 = .ok (.istore_n 2, 1) := by decide +kernel
theorem dX4_waitOn_2 : decode cX4_waitOn 2 = .ok (.iload_n 2, 1) := by decide +kernel
theorem dX4_waitOn_3 : decode cX4_waitOn 3 = .ok (.iload_n 1, 1) := by decide +kernel
theorem dX4_waitOn_4 : decode cX4_waitOn 4 = .ok (.if_icmp .ge 45, 3) := by decide +kernel
theorem dX4_waitOn_7 : decode cX4_waitOn 7 = .ok (.aload_n 0, 1) := by decide +kernel
theorem dX4_waitOn_8 : decode cX4_waitOn 8 = .ok (.bipush 7, 2) := by decide +kernel
theorem dX4_waitOn_10 : decode cX4_waitOn 10 = .ok (.iaload, 1) := by decide +kernel
theorem dX4_waitOn_11 : decode cX4_waitOn 11 = .ok (.aload_n 0, 1) := by decide +kernel
theorem dX4_waitOn_12 : decode cX4_waitOn 12 = .ok (.bipush 7, 2) := by decide +kernel
theorem dX4_waitOn_14 : decode cX4_waitOn 14 = .ok (.iaload, 1) := by decide +kernel
theorem dX4_waitOn_15 : decode cX4_waitOn 15 = .ok (.bipush 10, 2) := by decide +kernel
theorem dX4_waitOn_17 : decode cX4_waitOn 17 = .ok (.idiv, 1) := by decide +kernel
theorem dX4_waitOn_18 : decode cX4_waitOn 18 = .ok (.iconst 1, 1) := by decide +kernel
theorem dX4_waitOn_19 : decode cX4_waitOn 19 = .ok (.iadd, 1) := by decide +kernel
theorem dX4_waitOn_20 : decode cX4_waitOn 20 = .ok (.isub, 1) := by decide +kernel
theorem dX4_waitOn_21 : decode cX4_waitOn 21 = .ok (.istore_n 3, 1) := by decide +kernel
theorem dX4_waitOn_22 : decode cX4_waitOn 22 = .ok (.aload_n 0, 1) := by decide +kernel
theorem dX4_waitOn_23 : decode cX4_waitOn 23 = .ok (.bipush 7, 2) := by decide +kernel
theorem dX4_waitOn_25 : decode cX4_waitOn 25 = .ok (.iload_n 3, 1) := by decide +kernel
theorem dX4_waitOn_26 : decode cX4_waitOn 26 = .ok (.ifCond .ge 7, 3) := by decide +kernel
theorem dX4_waitOn_29 : decode cX4_waitOn 29 = .ok (.iconst 0, 1) := by decide +kernel
theorem dX4_waitOn_30 : decode cX4_waitOn 30 = .ok (.goto 4, 3) := by decide +kernel
theorem dX4_waitOn_33 : decode cX4_waitOn 33 = .ok (.iload_n 3, 1) := by decide +kernel
theorem dX4_waitOn_34 : decode cX4_waitOn 34 = .ok (.iastore, 1) := by decide +kernel
theorem dX4_waitOn_35 : decode cX4_waitOn 35 = .ok (.aload_n 0, 1) := by decide +kernel
theorem dX4_waitOn_36 : decode cX4_waitOn 36 = .ok (.bipush 8, 2) := by decide +kernel
theorem dX4_waitOn_38 : decode cX4_waitOn 38 = .ok (.dup2, 1) := by decide +kernel
theorem dX4_waitOn_39 : decode cX4_waitOn 39 = .ok (.iaload, 1) := by decide +kernel
theorem dX4_waitOn_40 : decode cX4_waitOn 40 = .ok (.iconst 1, 1) := by decide +kernel
theorem dX4_waitOn_41 : decode cX4_waitOn 41 = .ok (.iadd, 1) := by decide +kernel
theorem dX4_waitOn_42 : decode cX4_waitOn 42 = .ok (.iastore, 1) := by decide +kernel
theorem dX4_waitOn_43 : decode cX4_waitOn 43 = .ok (.iinc 2 1, 3) := by decide +kernel
theorem dX4_waitOn_46 : decode cX4_waitOn 46 = .ok (.goto (-44), 3) := by decide +kernel
theorem dX4_waitOn_49 : decode cX4_waitOn 49 = .ok (.return_, 1) := by decide +kernel
set_option maxRecDepth 20000 in
theorem ggX4_freeOn_X4_waitOn : GoodIn wsX4_freeOn wsX4_waitOn := goodIn_r _ [4] (by decide +kernel) (by decide +kernel)
set_option maxRecDepth 20000 in
theorem gX4_freeOn_X4_waitOn : GoodIn wsX4_freeOn (va_wsS RX4 83 yX4_waitOn wsX4_waitOn) := goodIn_app (goodIn_of _ (by decide +kernel)) ggX4_freeOn_X4_waitOn
theorem dX4_freeOn_0 : decode cX4_freeOn 0 = .ok (.aload_n 0, 1) := by decide +kernel
theorem dX4_freeOn_1 : decode cX4_freeOn 1 = .ok (.bipush 11, 2) := by decide +kernel
theorem dX4_freeOn_3 : decode cX4_freeOn 3 = .ok (.iconst 0, 1) := by decide +kernel
theorem dX4_freeOn_4 : decode cX4_freeOn 4 = .ok (.iastore, 1) := by decide +kernel
theorem dX4_freeOn_5 : decode cX4_freeOn 5 = .ok (.aload_n 0, 1) := by decide +kernel
theorem dX4_freeOn_6 : decode cX4_freeOn 6 = .ok (.iconst 5, 1) := by decide +kernel
theorem dX4_freeOn_7 : decode cX4_freeOn 7 = .ok (.invokestatic 83, 3) := by decide +kernel
theorem dX4_freeOn_10 : decode cX4_freeOn 10 = .ok (.return_, 1) := by decide +kernel
set_option maxRecDepth 20000 in
theorem ggX4_balanceOn_X4_pairOn : GoodIn wsX4_balanceOn wsX4_pairOn := goodIn_r _ [4, 5, 6, 3, 7, 8, 9, 10, 11, 12, 13, 14, 15, 16, 17, 18, 19, 20, 21, 22, 23, 24, 25, 26, 27, 28, 29] (by decide +kernel) (by decide +kernel)
set_option maxRecDepth 20000 in
theorem gX4_balanceOn_X4_pairOn : GoodIn wsX4_balanceOn (va_wsS RX4 87 yX4_pairOn wsX4_pairOn) := goodIn_app (goodIn_of _ (by decide +kernel)) ggX4_balanceOn_X4_pairOn
theorem dX4_balanceOn_0 : decode cX4_balanceOn 0 = .ok (.aload_n 0, 1) := by decide +kernel
theorem dX4_balanceOn_1 : decode cX4_balanceOn 1 = .ok (.iconst 2, 1) := by decide +kernel
theorem dX4_balanceOn_2 : decode cX4_balanceOn 2 = .ok (.iconst 0, 1) := by decide +kernel
theorem dX4_balanceOn_3 : decode cX4_balanceOn 3 = .ok (.iastore, 1) := by decide +kernel
theorem dX4_balanceOn_4 : decode cX4_balanceOn 4 = .ok (.sipush 1000, 3) := by decide +kernel
theorem dX4_balanceOn_7 : decode cX4_balanceOn 7 = .ok (.istore_n 1, 1) := by decide +kernel
theorem dX4_balanceOn_8 : decode cX4_balanceOn 8 = .ok (.iload_n 1, 1) := by decide +kernel
theorem dX4_balanceOn_9 : decode cX4_balanceOn 9 = .ok (.ifCond .le 77, 3) := by decide +kernel
theorem dX4_balanceOn_12 : decode cX4_balanceOn 12 = .ok (.iconst 1, 1) := by decide +kernel
theorem dX4_balanceOn_13 : decode cX4_balanceOn 13 = .ok (.istore_n 2, 1) := by decide +kernel
theorem dX4_balanceOn_14 : decode cX4_balanceOn 14 = .ok (.iload_n 2, 1) := by decide +kernel
theorem dX4_balanceOn_15 : decode cX4_balanceOn 15 = .ok (.ifCond .eq 63, 3) := by decide +kernel
theorem dX4_balanceOn_18 : decode cX4_balanceOn 18 = .ok (.aload_n 0, 1) := by decide +kernel
theorem dX4_balanceOn_19 : decode cX4_balanceOn 19 = .ok (.iconst 2, 1) := by decide +kernel
theorem dX4_balanceOn_20 : decode cX4_balanceOn 20 = .ok (.iaload, 1) := by decide +kernel
theorem dX4_balanceOn_21 : decode cX4_balanceOn 21 = .ok (.iload_n 1, 1) := by decide +kernel
theorem dX4_balanceOn_22 : decode cX4_balanceOn 22 = .ok (.iadd, 1) := by decide +kernel
theorem dX4_balanceOn_23 : decode cX4_balanceOn 23 = .ok (.sipush 9999, 3) := by decide +kernel
theorem dX4_balanceOn_26 : decode cX4_balanceOn 26 = .ok (.if_icmp .gt 52, 3) := by decide +kernel
theorem dX4_balanceOn_29 : decode cX4_balanceOn 29 = .ok (.aload_n 0, 1) := by decide +kernel
theorem dX4_balanceOn_30 : decode cX4_balanceOn 30 = .ok (.iconst 2, 1) := by decide +kernel
theorem dX4_balanceOn_31 : decode cX4_balanceOn 31 = .ok (.dup2, 1) := by decide +kernel
theorem dX4_balanceOn_32 : decode cX4_balanceOn 32 = .ok (.iaload, 1) := by decide +kernel
theorem dX4_balanceOn_33 : decode cX4_balanceOn 33 = .ok (.iload_n 1, 1) := by decide +kernel
theorem dX4_balanceOn_34 : decode cX4_balanceOn 34 = .ok (.iadd, 1) := by decide +kernel
theorem dX4_balanceOn_35 : decode cX4_balanceOn 35 = .ok (.iastore, 1) := by decide +kernel
theorem dX4_balanceOn_36 : decode cX4_balanceOn 36 = .ok (.aload_n 0, 1) := by decide +kernel
theorem dX4_balanceOn_37 : decode cX4_balanceOn 37 = .ok (.invokestatic 87, 3) := by decide +kernel
theorem dX4_balanceOn_40 : decode cX4_balanceOn 40 = .ok (.istore_n 3, 1) := by decide +kernel
theorem dX4_balanceOn_41 : decode cX4_balanceOn 41 = .ok (.aload_n 0, 1) := by decide +kernel
theorem dX4_balanceOn_42 : decode cX4_balanceOn 42 = .ok (.bipush 11, 2) := by decide +kernel
theorem dX4_balanceOn_44 : decode cX4_balanceOn 44 = .ok (.iaload, 1) := by decide +kernel
theorem dX4_balanceOn_45 : decode cX4_balanceOn 45 = .ok (.iconst 1, 1) := by decide +kernel
theorem dX4_balanceOn_46 : decode cX4_balanceOn 46 = .ok (.if_icmp .ne 4, 3) := by decide +kernel
theorem dX4_balanceOn_49 : decode cX4_balanceOn 49 = .ok (.return_, 1) := by decide +kernel
theorem dX4_balanceOn_50 : decode cX4_balanceOn 50 = .ok (.iload_n 3, 1) := by decide +kernel
theorem dX4_balanceOn_51 : decode cX4_balanceOn 51 = .ok (.ifCond .lt 7, 3) := by decide +kernel
theorem dX4_balanceOn_54 : decode cX4_balanceOn 54 = .ok (.iconst 1, 1) := by decide +kernel
theorem dX4_balanceOn_55 : decode cX4_balanceOn 55 = .ok (.goto 4, 3) := by decide +kernel
theorem dX4_balanceOn_58 : decode cX4_balanceOn 58 = .ok (.iconst 0, 1) := by decide +kernel
theorem dX4_balanceOn_59 : decode cX4_balanceOn 59 = .ok (.istore_n 2, 1) := by decide +kernel
theorem dX4_balanceOn_60 : decode cX4_balanceOn 60 = .ok (.aload_n 0, 1) := by decide +kernel
theorem dX4_balanceOn_61 : decode cX4_balanceOn 61 = .ok (.iconst 2, 1) := by decide +kernel
theorem dX4_balanceOn_62 : decode cX4_balanceOn 62 = .ok (.dup2, 1) := by decide +kernel
theorem dX4_balanceOn_63 : decode cX4_balanceOn 63 = .ok (.iaload, 1) := by decide +kernel
theorem dX4_balanceOn_64 : decode cX4_balanceOn 64 = .ok (.iload_n 2, 1) := by decide +kernel
theorem dX4_balanceOn_65 : decode cX4_balanceOn 65 = .ok (.ifCond .eq 7, 3) := by decide +kernel
theorem dX4_balanceOn_68 : decode cX4_balanceOn 68 = .ok (.iconst 0, 1) := by decide +kernel
theorem dX4_balanceOn_69 : decode cX4_balanceOn 69 = .ok (.goto 4, 3) := by decide +kernel
theorem dX4_balanceOn_72 : decode cX4_balanceOn 72 = .ok (.iload_n 1, 1) := by decide +kernel
theorem dX4_balanceOn_73 : decode cX4_balanceOn 73 = .ok (.isub, 1) := by decide +kernel
theorem dX4_balanceOn_74 : decode cX4_balanceOn 74 = .ok (.iastore, 1) := by decide +kernel
theorem dX4_balanceOn_75 : decode cX4_balanceOn 75 = .ok (.goto (-61), 3) := by decide +kernel
theorem dX4_balanceOn_78 : decode cX4_balanceOn 78 = .ok (.iload_n 1, 1) := by decide +kernel
theorem dX4_balanceOn_79 : decode cX4_balanceOn 79 = .ok (.bipush 10, 2) := by decide +kernel
theorem dX4_balanceOn_81 : decode cX4_balanceOn 81 = .ok (.idiv, 1) := by decide +kernel
theorem dX4_balanceOn_82 : decode cX4_balanceOn 82 = .ok (.istore_n 1, 1) := by decide +kernel
theorem dX4_balanceOn_83 : decode cX4_balanceOn 83 = .ok (.goto (-75), 3) := by decide +kernel
theorem dX4_balanceOn_86 : decode cX4_balanceOn 86 = .ok (.return_, 1) := by decide +kernel
set_option maxRecDepth 20000 in
theorem ggX4_append_X4_in : GoodIn wsX4_append wsX4_in := goodIn_r _ [7] (by decide +kernel) (by decide +kernel)
set_option maxRecDepth 20000 in
theorem gX4_append_X4_in : GoodIn wsX4_append (va_wsS RX4 38 yX4_in wsX4_in) := goodIn_app (goodIn_of _ (by decide +kernel)) ggX4_append_X4_in
set_option maxRecDepth 20000 in
theorem ggX4_append_X4_refused : GoodIn wsX4_append wsX4_refused := goodIn_r _ [11, 12, 13, 14, 15, 16, 17, 18, 19, 20, 21, 22, 23] (by decide +kernel) (by decide +kernel)
set_option maxRecDepth 20000 in
theorem gX4_append_X4_refused : GoodIn wsX4_append (wsV RX4 95 RX4 yX4_refused wsX4_refused) := goodIn_app (goodIn_of _ (by decide +kernel)) ggX4_append_X4_refused
theorem dX4_append_0 : decode cX4_append 0 = .ok (.aload_n 0, 1) := by decide +kernel
theorem dX4_append_1 : decode cX4_append 1 = .ok (.iload_n 1, 1) := by decide +kernel
theorem dX4_append_2 : decode cX4_append 2 = .ok (.i2l, 1) := by decide +kernel
theorem dX4_append_3 : decode cX4_append 3 = .ok (.lconst 0, 1) := by decide +kernel
theorem dX4_append_4 : decode cX4_append 4 = .ok (.ldc2_w 90, 3) := by decide +kernel
theorem dX4_append_7 : decode cX4_append 7 = .ok (.invokestatic 38, 3) := by decide +kernel
theorem dX4_append_10 : decode cX4_append 10 = .ok (.ifCond .ne 7, 3) := by decide +kernel
theorem dX4_append_13 : decode cX4_append 13 = .ok (.iconst 1, 1) := by decide +kernel
theorem dX4_append_14 : decode cX4_append 14 = .ok (.goto 17, 3) := by decide +kernel
theorem dX4_append_17 : decode cX4_append 17 = .ok (.aload_n 0, 1) := by decide +kernel
theorem dX4_append_18 : decode cX4_append 18 = .ok (.getfield 92, 3) := by decide +kernel
theorem dX4_append_21 : decode cX4_append 21 = .ok (.bipush 60, 2) := by decide +kernel
theorem dX4_append_23 : decode cX4_append 23 = .ok (.if_icmp .ne 7, 3) := by decide +kernel
theorem dX4_append_26 : decode cX4_append 26 = .ok (.iconst 2, 1) := by decide +kernel
theorem dX4_append_27 : decode cX4_append 27 = .ok (.goto 4, 3) := by decide +kernel
theorem dX4_append_30 : decode cX4_append 30 = .ok (.iconst 0, 1) := by decide +kernel
theorem dX4_append_31 : decode cX4_append 31 = .ok (.invokevirtual 95, 3) := by decide +kernel
theorem dX4_append_34 : decode cX4_append 34 = .ok (.ifCond .eq 5, 3) := by decide +kernel
theorem dX4_append_37 : decode cX4_append 37 = .ok (.iconst 0, 1) := by decide +kernel
theorem dX4_append_38 : decode cX4_append 38 = .ok (.ireturn, 1) := by decide +kernel
theorem dX4_append_39 : decode cX4_append 39 = .ok (.aload_n 0, 1) := by decide +kernel
theorem dX4_append_40 : decode cX4_append 40 = .ok (.getfield 7, 3) := by decide +kernel
theorem dX4_append_43 : decode cX4_append 43 = .ok (.aload_n 0, 1) := by decide +kernel
theorem dX4_append_44 : decode cX4_append 44 = .ok (.getfield 92, 3) := by decide +kernel
theorem dX4_append_47 : decode cX4_append 47 = .ok (.iload_n 1, 1) := by decide +kernel
theorem dX4_append_48 : decode cX4_append 48 = .ok (.iastore, 1) := by decide +kernel
theorem dX4_append_49 : decode cX4_append 49 = .ok (.aload_n 0, 1) := by decide +kernel
theorem dX4_append_50 : decode cX4_append 50 = .ok (.dup, 1) := by decide +kernel
theorem dX4_append_51 : decode cX4_append 51 = .ok (.getfield 92, 3) := by decide +kernel
theorem dX4_append_54 : decode cX4_append 54 = .ok (.iconst 1, 1) := by decide +kernel
theorem dX4_append_55 : decode cX4_append 55 = .ok (.iadd, 1) := by decide +kernel
theorem dX4_append_56 : decode cX4_append 56 = .ok (.putfield 92, 3) := by decide +kernel
theorem dX4_append_59 : decode cX4_append 59 = .ok (.aload_n 0, 1) := by decide +kernel
theorem dX4_append_60 : decode cX4_append 60 = .ok (.getfield 92, 3) := by decide +kernel
theorem dX4_append_63 : decode cX4_append 63 = .ok (.ireturn, 1) := by decide +kernel
theorem dX4_clearText_0 : decode cX4_clearText 0 = .ok (.aload_n 0, 1) := by decide +kernel
theorem dX4_clearText_1 : decode cX4_clearText 1 = .ok (.iconst 0, 1) := by decide +kernel
theorem dX4_clearText_2 : decode cX4_clearText 2 = .ok (.putfield 32, 3) := by decide +kernel
theorem dX4_clearText_5 : decode cX4_clearText 5 = .ok (.aload_n 0, 1) := by decide +kernel
theorem dX4_clearText_6 : decode cX4_clearText 6 = .ok (.getfield 92, 3) := by decide +kernel
theorem dX4_clearText_9 : decode cX4_clearText 9 = .ok (.istore_n 1, 1) := by decide +kernel
theorem dX4_clearText_10 : decode cX4_clearText 10 = .ok (.aload_n 0, 1) := by decide +kernel
theorem dX4_clearText_11 : decode cX4_clearText 11 = .ok (.iconst 0, 1) := by decide +kernel
theorem dX4_clearText_12 : decode cX4_clearText 12 = .ok (.putfield 92, 3) := by decide +kernel
theorem dX4_clearText_15 : decode cX4_clearText 15 = .ok (.iload_n 1, 1) := by decide +kernel
theorem dX4_clearText_16 : decode cX4_clearText 16 = .ok (.ireturn, 1) := by decide +kernel
theorem dX4_eat_0 : decode cX4_eat 0 = .ok (.aload_n 0, 1) := by decide +kernel
theorem dX4_eat_1 : decode cX4_eat 1 = .ok (.getfield 99, 3) := by decide +kernel
theorem dX4_eat_4 : decode cX4_eat 4 = .ok (.aload_n 0, 1) := by decide +kernel
theorem dX4_eat_5 : decode cX4_eat 5 = .ok (.getfield 92, 3) := by decide +kernel
theorem dX4_eat_8 : decode cX4_eat 8 = .ok (.if_icmp .ge 20, 3) := by decide +kernel
theorem dX4_eat_11 : decode cX4_eat 11 = .ok (.aload_n 0, 1) := by decide +kernel
theorem dX4_eat_12 : decode cX4_eat 12 = .ok (.getfield 7, 3) := by decide +kernel
theorem dX4_eat_15 : decode cX4_eat 15 = .ok (.aload_n 0, 1) := by decide +kernel
theorem dX4_eat_16 : decode cX4_eat 16 = .ok (.getfield 99, 3) := by decide +kernel
theorem dX4_eat_19 : decode cX4_eat 19 = .ok (.iaload, 1) := by decide +kernel
theorem dX4_eat_20 : decode cX4_eat 20 = .ok (.iload_n 1, 1) := by decide +kernel
theorem dX4_eat_21 : decode cX4_eat 21 = .ok (.if_icmp .ne 7, 3) := by decide +kernel
theorem dX4_eat_24 : decode cX4_eat 24 = .ok (.iconst 1, 1) := by decide +kernel
theorem dX4_eat_25 : decode cX4_eat 25 = .ok (.goto 4, 3) := by decide +kernel
theorem dX4_eat_28 : decode cX4_eat 28 = .ok (.iconst 0, 1) := by decide +kernel
theorem dX4_eat_29 : decode cX4_eat 29 = .ok (.istore_n 2, 1) := by decide +kernel
theorem dX4_eat_30 : decode cX4_eat 30 = .ok (.aload_n 0, 1) := by decide +kernel
theorem dX4_eat_31 : decode cX4_eat 31 = .ok (.dup, 1) := by decide +kernel
theorem dX4_eat_32 : decode cX4_eat 32 = .ok (.getfield 99, 3) := by decide +kernel
theorem dX4_eat_35 : decode cX4_eat 35 = .ok (.iload_n 2, 1) := by decide +kernel
theorem dX4_eat_36 : decode cX4_eat 36 = .ok (.ifCond .eq 7, 3) := by decide +kernel
theorem dX4_eat_39 : decode cX4_eat 39 = .ok (.iconst 1, 1) := by decide +kernel
theorem dX4_eat_40 : decode cX4_eat 40 = .ok (.goto 4, 3) := by decide +kernel
theorem dX4_eat_43 : decode cX4_eat 43 = .ok (.iconst 0, 1) := by decide +kernel
theorem dX4_eat_44 : decode cX4_eat 44 = .ok (.iadd, 1) := by decide +kernel
theorem dX4_eat_45 : decode cX4_eat 45 = .ok (.putfield 99, 3) := by decide +kernel
theorem dX4_eat_48 : decode cX4_eat 48 = .ok (.iload_n 2, 1) := by decide +kernel
theorem dX4_eat_49 : decode cX4_eat 49 = .ok (.ireturn, 1) := by decide +kernel
set_option maxRecDepth 20000 in
theorem ggX4_number_X4_in : GoodIn wsX4_number wsX4_in := goodIn_r _ [8] (by decide +kernel) (by decide +kernel)
set_option maxRecDepth 20000 in
theorem gX4_number_X4_in : GoodIn wsX4_number (va_wsS RX4 38 yX4_in wsX4_in) := goodIn_app (goodIn_of _ (by decide +kernel)) ggX4_number_X4_in
theorem dX4_number_0 : decode cX4_number 0 = .ok (.iconst 1, 1) := by decide +kernel
theorem dX4_number_1 : decode cX4_number 1 = .ok (.istore 4, 2) := by decide +kernel
theorem dX4_number_3 : decode cX4_number 3 = .ok (.iconst 1, 1) := by decide +kernel
theorem dX4_number_4 : decode cX4_number 4 = .ok (.istore 5, 2) := by decide +kernel
theorem dX4_number_6 : decode cX4_number 6 = .ok (.iload 5, 2) := by decide +kernel
theorem dX4_number_8 : decode cX4_number 8 = .ok (.iload_n 1, 1) := by decide +kernel
theorem dX4_number_9 : decode cX4_number 9 = .ok (.if_icmp .ge 16, 3) := by decide +kernel
theorem dX4_number_12 : decode cX4_number 12 = .ok (.iload 4, 2) := by decide +kernel
theorem dX4_number_14 : decode cX4_number 14 = .ok (.bipush 10, 2) := by decide +kernel
theorem dX4_number_16 : decode cX4_number 16 = .ok (.imul, 1) := by decide +kernel
theorem dX4_number_17 : decode cX4_number 17 = .ok (.istore 4, 2) := by decide +kernel
theorem dX4_number_19 : decode cX4_number 19 = .ok (.iinc 5 1, 3) := by decide +kernel
theorem dX4_number_22 : decode cX4_number 22 = .ok (.goto (-16), 3) := by decide +kernel
theorem dX4_number_25 : decode cX4_number 25 = .ok (.iconst 0, 1) := by decide +kernel
theorem dX4_number_26 : decode cX4_number 26 = .ok (.istore 5, 2) := by decide +kernel
theorem dX4_number_28 : decode cX4_number 28 = .ok (.iload 4, 2) := by decide +kernel
theorem dX4_number_30 : decode cX4_number 30 = .ok (.ifCond .le 102, 3) := by decide +kernel
theorem dX4_number_33 : decode cX4_number 33 = .ok (.aload_n 0, 1) := by decide +kernel
theorem dX4_number_34 : decode cX4_number 34 = .ok (.getfield 99, 3) := by decide +kernel
theorem dX4_number_37 : decode cX4_number 37 = .ok (.aload_n 0, 1) := by decide +kernel
theorem dX4_number_38 : decode cX4_number 38 = .ok (.getfield 92, 3) := by decide +kernel
theorem dX4_number_41 : decode cX4_number 41 = .ok (.if_icmp .ge 18, 3) := by decide +kernel
theorem dX4_number_44 : decode cX4_number 44 = .ok (.aload_n 0, 1) := by decide +kernel
theorem dX4_number_45 : decode cX4_number 45 = .ok (.getfield 7, 3) := by decide +kernel
theorem dX4_number_48 : decode cX4_number 48 = .ok (.aload_n 0, 1) := by decide +kernel
theorem dX4_number_49 : decode cX4_number 49 = .ok (.getfield 99, 3) := by decide +kernel
theorem dX4_number_52 : decode cX4_number 52 = .ok (.iaload, 1) := by decide +kernel
theorem dX4_number_53 : decode cX4_number 53 = .ok (.bipush 48, 2) := by decide +kernel
theorem dX4_number_55 : decode cX4_number 55 = .ok (.isub, 1) := by decide +kernel
theorem dX4_number_56 : decode cX4_number 56 = .ok (.goto 6, 3) := by decide +kernel
theorem dX4_number_59 : decode cX4_number 59 = .ok (.sipush (-9999), 3) := by decide +kernel
theorem dX4_number_62 : decode cX4_number 62 = .ok (.istore 6, 2) := by decide +kernel
theorem dX4_number_64 : decode cX4_number 64 = .ok (.iload 5, 2) := by decide +kernel
theorem dX4_number_66 : decode cX4_number 66 = .ok (.iload 6, 2) := by decide +kernel
theorem dX4_number_68 : decode cX4_number 68 = .ok (.iload 4, 2) := by decide +kernel
theorem dX4_number_70 : decode cX4_number 70 = .ok (.imul, 1) := by decide +kernel
theorem dX4_number_71 : decode cX4_number 71 = .ok (.iadd, 1) := by decide +kernel
theorem dX4_number_72 : decode cX4_number 72 = .ok (.istore 7, 2) := by decide +kernel
theorem dX4_number_74 : decode cX4_number 74 = .ok (.iload 6, 2) := by decide +kernel
theorem dX4_number_76 : decode cX4_number 76 = .ok (.i2l, 1) := by decide +kernel
theorem dX4_number_77 : decode cX4_number 77 = .ok (.lconst 0, 1) := by decide +kernel
theorem dX4_number_78 : decode cX4_number 78 = .ok (.ldc2_w 102, 3) := by decide +kernel
theorem dX4_number_81 : decode cX4_number 81 = .ok (.invokestatic 38, 3) := by decide +kernel
theorem dX4_number_84 : decode cX4_number 84 = .ok (.ifCond .eq 20, 3) := by decide +kernel
theorem dX4_number_87 : decode cX4_number 87 = .ok (.iload 7, 2) := by decide +kernel
theorem dX4_number_89 : decode cX4_number 89 = .ok (.iload_n 3, 1) := by decide +kernel
theorem dX4_number_90 : decode cX4_number 90 = .ok (.if_icmp .gt 14, 3) := by decide +kernel
theorem dX4_number_93 : decode cX4_number 93 = .ok (.iload 7, 2) := by decide +kernel
theorem dX4_number_95 : decode cX4_number 95 = .ok (.iload 4, 2) := by decide +kernel
theorem dX4_number_97 : decode cX4_number 97 = .ok (.iadd, 1) := by decide +kernel
theorem dX4_number_98 : decode cX4_number 98 = .ok (.iconst 1, 1) := by decide +kernel
theorem dX4_number_99 : decode cX4_number 99 = .ok (.isub, 1) := by decide +kernel
theorem dX4_number_100 : decode cX4_number 100 = .ok (.iload_n 2, 1) := by decide +kernel
theorem dX4_number_101 : decode cX4_number 101 = .ok (.if_icmp .ge 7, 3) := by decide +kernel
theorem dX4_number_104 : decode cX4_number 104 = .ok (.sipush (-9999), 3) := by decide +kernel
theorem dX4_number_107 : decode cX4_number 107 = .ok (.ireturn, 1) := by decide +kernel
theorem dX4_number_108 : decode cX4_number 108 = .ok (.iload 7, 2) := by decide +kernel
theorem dX4_number_110 : decode cX4_number 110 = .ok (.istore 5, 2) := by decide +kernel
theorem dX4_number_112 : decode cX4_number 112 = .ok (.iload 4, 2) := by decide +kernel
theorem dX4_number_114 : decode cX4_number 114 = .ok (.bipush 10, 2) := by decide +kernel
theorem dX4_number_116 : decode cX4_number 116 = .ok (.idiv, 1) := by decide +kernel
theorem dX4_number_117 : decode cX4_number 117 = .ok (.istore 4, 2) := by decide +kernel
theorem dX4_number_119 : decode cX4_number 119 = .ok (.aload_n 0, 1) := by decide +kernel
theorem dX4_number_120 : decode cX4_number 120 = .ok (.dup, 1) := by decide +kernel
theorem dX4_number_121 : decode cX4_number 121 = .ok (.getfield 99, 3) := by decide +kernel
theorem dX4_number_124 : decode cX4_number 124 = .ok (.iconst 1, 1) := by decide +kernel
theorem dX4_number_125 : decode cX4_number 125 = .ok (.iadd, 1) := by decide +kernel
theorem dX4_number_126 : decode cX4_number 126 = .ok (.putfield 99, 3) := by decide +kernel
theorem dX4_number_129 : decode cX4_number 129 = .ok (.goto (-101), 3) := by decide +kernel
theorem dX4_number_132 : decode cX4_number 132 = .ok (.iload 5, 2) := by decide +kernel
theorem dX4_number_134 : decode cX4_number 134 = .ok (.ireturn, 1) := by decide +kernel
set_option maxRecDepth 20000 in
theorem ggX4_put_X4_number : GoodIn wsX4_put wsX4_number := goodIn_r _ [6, 7, 8, 9, 10, 11, 12, 5, 13, 14, 15, 16, 17, 18, 19, 20, 21, 22, 23, 24] (by decide +kernel) (by decide +kernel)
set_option maxRecDepth 20000 in
theorem gX4_put_X4_number : GoodIn wsX4_put (wsV RX4 104 RX4 yX4_number wsX4_number) := goodIn_app (goodIn_of _ (by decide +kernel)) ggX4_put_X4_number
theorem dX4_put_0 : decode cX4_put 0 = .ok (.aload_n 0, 1) := by decide +kernel
theorem dX4_put_1 : decode cX4_put 1 = .ok (.getfield 13, 3) := by decide +kernel
theorem dX4_put_4 : decode cX4_put 4 = .ok (.iload_n 1, 1) := by decide +kernel
theorem dX4_put_5 : decode cX4_put 5 = .ok (.aload_n 0, 1) := by decide +kernel
theorem dX4_put_6 : decode cX4_put 6 = .ok (.iload_n 2, 1) := by decide +kernel
theorem dX4_put_7 : decode cX4_put 7 = .ok (.iload_n 3, 1) := by decide +kernel
theorem dX4_put_8 : decode cX4_put 8 = .ok (.iload 4, 2) := by decide +kernel
theorem dX4_put_10 : decode cX4_put 10 = .ok (.invokevirtual 104, 3) := by decide +kernel
theorem dX4_put_13 : decode cX4_put 13 = .ok (.iastore, 1) := by decide +kernel
theorem dX4_put_14 : decode cX4_put 14 = .ok (.aload_n 0, 1) := by decide +kernel
theorem dX4_put_15 : decode cX4_put 15 = .ok (.getfield 13, 3) := by decide +kernel
theorem dX4_put_18 : decode cX4_put 18 = .ok (.iload_n 1, 1) := by decide +kernel
theorem dX4_put_19 : decode cX4_put 19 = .ok (.iaload, 1) := by decide +kernel
theorem dX4_put_20 : decode cX4_put 20 = .ok (.sipush (-9999), 3) := by decide +kernel
theorem dX4_put_23 : decode cX4_put 23 = .ok (.if_icmp .eq 7, 3) := by decide +kernel
theorem dX4_put_26 : decode cX4_put 26 = .ok (.iconst 1, 1) := by decide +kernel
theorem dX4_put_27 : decode cX4_put 27 = .ok (.goto 4, 3) := by decide +kernel
theorem dX4_put_30 : decode cX4_put 30 = .ok (.iconst 0, 1) := by decide +kernel
theorem dX4_put_31 : decode cX4_put 31 = .ok (.ireturn, 1) := by decide +kernel
set_option maxRecDepth 20000 in
theorem ggX4_readAll_X4_eat : GoodIn wsX4_readAll wsX4_eat := goodIn_r _ [8, 1, 3, 9, 22, 23, 24, 25, 26, 27, 28, 29, 30, 31, 32] (by decide +kernel) (by decide +kernel)
set_option maxRecDepth 20000 in
theorem gX4_readAll_X4_eat : GoodIn wsX4_readAll (wsV RX4 108 RX4 yX4_eat wsX4_eat) := goodIn_app (goodIn_of _ (by decide +kernel)) ggX4_readAll_X4_eat
set_option maxRecDepth 20000 in
theorem ggX4_readAll_X4_put : GoodIn wsX4_readAll wsX4_put := goodIn_r _ [13, 2, 14, 15, 16, 7, 17, 1, 3, 9, 18, 19, 20, 21, 22, 23, 24, 25, 26, 27, 28, 29, 30, 31, 32] (by decide +kernel) (by decide +kernel)
set_option maxRecDepth 20000 in
theorem gX4_readAll_X4_put : GoodIn wsX4_readAll (wsV RX4 111 RX4 yX4_put wsX4_put) := goodIn_app (goodIn_of _ (by decide +kernel)) ggX4_readAll_X4_put
theorem dX4_readAll_0 : decode cX4_readAll 0 = .ok (.aload_n 0, 1) := by decide +kernel
theorem dX4_readAll_1 : decode cX4_readAll 1 = .ok (.iconst 0, 1) := by decide +kernel
theorem dX4_readAll_2 : decode cX4_readAll 2 = .ok (.putfield 99, 3) := by decide +kernel
theorem dX4_readAll_5 : decode cX4_readAll 5 = .ok (.iconst 0, 1) := by decide +kernel
theorem dX4_readAll_6 : decode cX4_readAll 6 = .ok (.istore_n 1, 1) := by decide +kernel
theorem dX4_readAll_7 : decode cX4_readAll 7 = .ok (.iload_n 1, 1) := by decide +kernel
theorem dX4_readAll_8 : decode cX4_readAll 8 = .ok (.bipush 101, 2) := by decide +kernel
theorem dX4_readAll_10 : decode cX4_readAll 10 = .ok (.if_icmp .ge 16, 3) := by decide +kernel
theorem dX4_readAll_13 : decode cX4_readAll 13 = .ok (.aload_n 0, 1) := by decide +kernel
theorem dX4_readAll_14 : decode cX4_readAll 14 = .ok (.getfield 13, 3) := by decide +kernel
theorem dX4_readAll_17 : decode cX4_readAll 17 = .ok (.iload_n 1, 1) := by decide +kernel
theorem dX4_readAll_18 : decode cX4_readAll 18 = .ok (.iconst 0, 1) := by decide +kernel
theorem dX4_readAll_19 : decode cX4_readAll 19 = .ok (.iastore, 1) := by decide +kernel
theorem dX4_readAll_20 : decode cX4_readAll 20 = .ok (.iinc 1 1, 3) := by decide +kernel
theorem dX4_readAll_23 : decode cX4_readAll 23 = .ok (.goto (-16), 3) := by decide +kernel
theorem dX4_readAll_26 : decode cX4_readAll 26 = .ok (.aload_n 0, 1) := by decide +kernel
theorem dX4_readAll_27 : decode cX4_readAll 27 = .ok (.bipush 71, 2) := by decide +kernel
theorem dX4_readAll_29 : decode cX4_readAll 29 = .ok (.invokevirtual 108, 3) := by decide +kernel
theorem dX4_readAll_32 : decode cX4_readAll 32 = .ok (.ifCond .eq 61, 3) := by decide +kernel
theorem dX4_readAll_35 : decode cX4_readAll 35 = .ok (.aload_n 0, 1) := by decide +kernel
theorem dX4_readAll_36 : decode cX4_readAll 36 = .ok (.iconst 0, 1) := by decide +kernel
theorem dX4_readAll_37 : decode cX4_readAll 37 = .ok (.iconst 1, 1) := by decide +kernel
theorem dX4_readAll_38 : decode cX4_readAll 38 = .ok (.iconst 0, 1) := by decide +kernel
theorem dX4_readAll_39 : decode cX4_readAll 39 = .ok (.iconst 3, 1) := by decide +kernel
theorem dX4_readAll_40 : decode cX4_readAll 40 = .ok (.invokevirtual 111, 3) := by decide +kernel
theorem dX4_readAll_43 : decode cX4_readAll 43 = .ok (.ifCond .eq 50, 3) := by decide +kernel
theorem dX4_readAll_46 : decode cX4_readAll 46 = .ok (.aload_n 0, 1) := by decide +kernel
theorem dX4_readAll_47 : decode cX4_readAll 47 = .ok (.iconst 1, 1) := by decide +kernel
theorem dX4_readAll_48 : decode cX4_readAll 48 = .ok (.iconst 1, 1) := by decide +kernel
theorem dX4_readAll_49 : decode cX4_readAll 49 = .ok (.iconst 0, 1) := by decide +kernel
theorem dX4_readAll_50 : decode cX4_readAll 50 = .ok (.iconst 3, 1) := by decide +kernel
theorem dX4_readAll_51 : decode cX4_readAll 51 = .ok (.invokevirtual 111, 3) := by decide +kernel
theorem dX4_readAll_54 : decode cX4_readAll 54 = .ok (.ifCond .eq 39, 3) := by decide +kernel
theorem dX4_readAll_57 : decode cX4_readAll 57 = .ok (.aload_n 0, 1) := by decide +kernel
theorem dX4_readAll_58 : decode cX4_readAll 58 = .ok (.iconst 2, 1) := by decide +kernel
theorem dX4_readAll_59 : decode cX4_readAll 59 = .ok (.iconst 4, 1) := by decide +kernel
theorem dX4_readAll_60 : decode cX4_readAll 60 = .ok (.iconst 0, 1) := by decide +kernel
theorem dX4_readAll_61 : decode cX4_readAll 61 = .ok (.sipush 9999, 3) := by decide +kernel
theorem dX4_readAll_64 : decode cX4_readAll 64 = .ok (.invokevirtual 111, 3) := by decide +kernel
theorem dX4_readAll_67 : decode cX4_readAll 67 = .ok (.ifCond .eq 26, 3) := by decide +kernel
theorem dX4_readAll_70 : decode cX4_readAll 70 = .ok (.aload_n 0, 1) := by decide +kernel
theorem dX4_readAll_71 : decode cX4_readAll 71 = .ok (.iconst 3, 1) := by decide +kernel
theorem dX4_readAll_72 : decode cX4_readAll 72 = .ok (.iconst 2, 1) := by decide +kernel
theorem dX4_readAll_73 : decode cX4_readAll 73 = .ok (.iconst 1, 1) := by decide +kernel
theorem dX4_readAll_74 : decode cX4_readAll 74 = .ok (.bipush 99, 2) := by decide +kernel
theorem dX4_readAll_76 : decode cX4_readAll 76 = .ok (.invokevirtual 111, 3) := by decide +kernel
theorem dX4_readAll_79 : decode cX4_readAll 79 = .ok (.ifCond .eq 14, 3) := by decide +kernel
theorem dX4_readAll_82 : decode cX4_readAll 82 = .ok (.aload_n 0, 1) := by decide +kernel
theorem dX4_readAll_83 : decode cX4_readAll 83 = .ok (.iconst 4, 1) := by decide +kernel
theorem dX4_readAll_84 : decode cX4_readAll 84 = .ok (.iconst 1, 1) := by decide +kernel
theorem dX4_readAll_85 : decode cX4_readAll 85 = .ok (.iconst 0, 1) := by decide +kernel
theorem dX4_readAll_86 : decode cX4_readAll 86 = .ok (.iconst 3, 1) := by decide +kernel
theorem dX4_readAll_87 : decode cX4_readAll 87 = .ok (.invokevirtual 111, 3) := by decide +kernel
theorem dX4_readAll_90 : decode cX4_readAll 90 = .ok (.ifCond .ne 5, 3) := by decide +kernel
theorem dX4_readAll_93 : decode cX4_readAll 93 = .ok (.iconst 0, 1) := by decide +kernel
theorem dX4_readAll_94 : decode cX4_readAll 94 = .ok (.ireturn, 1) := by decide +kernel
theorem dX4_readAll_95 : decode cX4_readAll 95 = .ok (.aload_n 0, 1) := by decide +kernel
theorem dX4_readAll_96 : decode cX4_readAll 96 = .ok (.bipush 45, 2) := by decide +kernel
theorem dX4_readAll_98 : decode cX4_readAll 98 = .ok (.invokevirtual 108, 3) := by decide +kernel
theorem dX4_readAll_101 : decode cX4_readAll 101 = .ok (.istore_n 1, 1) := by decide +kernel
theorem dX4_readAll_102 : decode cX4_readAll 102 = .ok (.iload_n 1, 1) := by decide +kernel
theorem dX4_readAll_103 : decode cX4_readAll 103 = .ok (.ifCond .ne 12, 3) := by decide +kernel
theorem dX4_readAll_106 : decode cX4_readAll 106 = .ok (.aload_n 0, 1) := by decide +kernel
theorem dX4_readAll_107 : decode cX4_readAll 107 = .ok (.bipush 43, 2) := by decide +kernel
theorem dX4_readAll_109 : decode cX4_readAll 109 = .ok (.invokevirtual 108, 3) := by decide +kernel
theorem dX4_readAll_112 : decode cX4_readAll 112 = .ok (.ifCond .eq 28, 3) := by decide +kernel
theorem dX4_readAll_115 : decode cX4_readAll 115 = .ok (.aload_n 0, 1) := by decide +kernel
theorem dX4_readAll_116 : decode cX4_readAll 116 = .ok (.iconst 5, 1) := by decide +kernel
theorem dX4_readAll_117 : decode cX4_readAll 117 = .ok (.iconst 2, 1) := by decide +kernel
theorem dX4_readAll_118 : decode cX4_readAll 118 = .ok (.iconst 0, 1) := by decide +kernel
theorem dX4_readAll_119 : decode cX4_readAll 119 = .ok (.bipush 50, 2) := by decide +kernel
theorem dX4_readAll_121 : decode cX4_readAll 121 = .ok (.invokevirtual 111, 3) := by decide +kernel
theorem dX4_readAll_124 : decode cX4_readAll 124 = .ok (.ifCond .eq 16, 3) := by decide +kernel
theorem dX4_readAll_127 : decode cX4_readAll 127 = .ok (.aload_n 0, 1) := by decide +kernel
theorem dX4_readAll_128 : decode cX4_readAll 128 = .ok (.bipush 6, 2) := by decide +kernel
theorem dX4_readAll_130 : decode cX4_readAll 130 = .ok (.iconst 2, 1) := by decide +kernel
theorem dX4_readAll_131 : decode cX4_readAll 131 = .ok (.iconst 0, 1) := by decide +kernel
theorem dX4_readAll_132 : decode cX4_readAll 132 = .ok (.bipush 20, 2) := by decide +kernel
theorem dX4_readAll_134 : decode cX4_readAll 134 = .ok (.invokevirtual 111, 3) := by decide +kernel
theorem dX4_readAll_137 : decode cX4_readAll 137 = .ok (.ifCond .ne 5, 3) := by decide +kernel
theorem dX4_readAll_140 : decode cX4_readAll 140 = .ok (.iconst 0, 1) := by decide +kernel
theorem dX4_readAll_141 : decode cX4_readAll 141 = .ok (.ireturn, 1) := by decide +kernel
theorem dX4_readAll_142 : decode cX4_readAll 142 = .ok (.aload_n 0, 1) := by decide +kernel
theorem dX4_readAll_143 : decode cX4_readAll 143 = .ok (.getfield 13, 3) := by decide +kernel
theorem dX4_readAll_146 : decode cX4_readAll 146 = .ok (.iconst 5, 1) := by decide +kernel
theorem dX4_readAll_147 : decode cX4_readAll 147 = .ok (.iload_n 1, 1) := by decide +kernel
theorem dX4_readAll_148 : decode cX4_readAll 148 = .ok (.ifCond .eq 13, 3) := by decide +kernel
theorem dX4_readAll_151 : decode cX4_readAll 151 = .ok (.aload_n 0, 1) := by decide +kernel
theorem dX4_readAll_152 : decode cX4_readAll 152 = .ok (.getfield 13, 3) := by decide +kernel
theorem dX4_readAll_155 : decode cX4_readAll 155 = .ok (.iconst 5, 1) := by decide +kernel
theorem dX4_readAll_156 : decode cX4_readAll 156 = .ok (.iaload, 1) := by decide +kernel
theorem dX4_readAll_157 : decode cX4_readAll 157 = .ok (.ineg, 1) := by decide +kernel
theorem dX4_readAll_158 : decode cX4_readAll 158 = .ok (.goto 9, 3) := by decide +kernel
theorem dX4_readAll_161 : decode cX4_readAll 161 = .ok (.aload_n 0, 1) := by decide +kernel
theorem dX4_readAll_162 : decode cX4_readAll 162 = .ok (.getfield 13, 3) := by decide +kernel
theorem dX4_readAll_165 : decode cX4_readAll 165 = .ok (.iconst 5, 1) := by decide +kernel
theorem dX4_readAll_166 : decode cX4_readAll 166 = .ok (.iaload, 1) := by decide +kernel
theorem dX4_readAll_167 : decode cX4_readAll 167 = .ok (.iastore, 1) := by decide +kernel
theorem dX4_readAll_168 : decode cX4_readAll 168 = .ok (.aload_n 0, 1) := by decide +kernel
theorem dX4_readAll_169 : decode cX4_readAll 169 = .ok (.getfield 13, 3) := by decide +kernel
theorem dX4_readAll_172 : decode cX4_readAll 172 = .ok (.bipush 9, 2) := by decide +kernel
theorem dX4_readAll_174 : decode cX4_readAll 174 = .ok (.iaload, 1) := by decide +kernel
theorem dX4_readAll_175 : decode cX4_readAll 175 = .ok (.bipush 6, 2) := by decide +kernel
theorem dX4_readAll_177 : decode cX4_readAll 177 = .ok (.if_icmp .ge 50, 3) := by decide +kernel
theorem dX4_readAll_180 : decode cX4_readAll 180 = .ok (.aload_n 0, 1) := by decide +kernel
theorem dX4_readAll_181 : decode cX4_readAll 181 = .ok (.bipush 120, 2) := by decide +kernel
theorem dX4_readAll_183 : decode cX4_readAll 183 = .ok (.invokevirtual 108, 3) := by decide +kernel
theorem dX4_readAll_186 : decode cX4_readAll 186 = .ok (.ifCond .eq 41, 3) := by decide +kernel
theorem dX4_readAll_189 : decode cX4_readAll 189 = .ok (.aload_n 0, 1) := by decide +kernel
theorem dX4_readAll_190 : decode cX4_readAll 190 = .ok (.bipush 15, 2) := by decide +kernel
theorem dX4_readAll_192 : decode cX4_readAll 192 = .ok (.aload_n 0, 1) := by decide +kernel
theorem dX4_readAll_193 : decode cX4_readAll 193 = .ok (.getfield 13, 3) := by decide +kernel
theorem dX4_readAll_196 : decode cX4_readAll 196 = .ok (.bipush 9, 2) := by decide +kernel
theorem dX4_readAll_198 : decode cX4_readAll 198 = .ok (.iaload, 1) := by decide +kernel
theorem dX4_readAll_199 : decode cX4_readAll 199 = .ok (.iadd, 1) := by decide +kernel
theorem dX4_readAll_200 : decode cX4_readAll 200 = .ok (.iconst 4, 1) := by decide +kernel
theorem dX4_readAll_201 : decode cX4_readAll 201 = .ok (.iconst 1, 1) := by decide +kernel
theorem dX4_readAll_202 : decode cX4_readAll 202 = .ok (.sipush 9999, 3) := by decide +kernel
theorem dX4_readAll_205 : decode cX4_readAll 205 = .ok (.invokevirtual 111, 3) := by decide +kernel
theorem dX4_readAll_208 : decode cX4_readAll 208 = .ok (.ifCond .ne 5, 3) := by decide +kernel
theorem dX4_readAll_211 : decode cX4_readAll 211 = .ok (.iconst 0, 1) := by decide +kernel
theorem dX4_readAll_212 : decode cX4_readAll 212 = .ok (.ireturn, 1) := by decide +kernel
theorem dX4_readAll_213 : decode cX4_readAll 213 = .ok (.aload_n 0, 1) := by decide +kernel
theorem dX4_readAll_214 : decode cX4_readAll 214 = .ok (.getfield 13, 3) := by decide +kernel
theorem dX4_readAll_217 : decode cX4_readAll 217 = .ok (.bipush 9, 2) := by decide +kernel
theorem dX4_readAll_219 : decode cX4_readAll 219 = .ok (.dup2, 1) := by decide +kernel
theorem dX4_readAll_220 : decode cX4_readAll 220 = .ok (.iaload, 1) := by decide +kernel
theorem dX4_readAll_221 : decode cX4_readAll 221 = .ok (.iconst 1, 1) := by decide +kernel
theorem dX4_readAll_222 : decode cX4_readAll 222 = .ok (.iadd, 1) := by decide +kernel
theorem dX4_readAll_223 : decode cX4_readAll 223 = .ok (.iastore, 1) := by decide +kernel
theorem dX4_readAll_224 : decode cX4_readAll 224 = .ok (.goto (-56), 3) := by decide +kernel
theorem dX4_readAll_227 : decode cX4_readAll 227 = .ok (.aload_n 0, 1) := by decide +kernel
theorem dX4_readAll_228 : decode cX4_readAll 228 = .ok (.getfield 13, 3) := by decide +kernel
theorem dX4_readAll_231 : decode cX4_readAll 231 = .ok (.bipush 9, 2) := by decide +kernel
theorem dX4_readAll_233 : decode cX4_readAll 233 = .ok (.iaload, 1) := by decide +kernel
theorem dX4_readAll_234 : decode cX4_readAll 234 = .ok (.ifCond .le 18, 3) := by decide +kernel
theorem dX4_readAll_237 : decode cX4_readAll 237 = .ok (.aload_n 0, 1) := by decide +kernel
theorem dX4_readAll_238 : decode cX4_readAll 238 = .ok (.getfield 99, 3) := by decide +kernel
theorem dX4_readAll_241 : decode cX4_readAll 241 = .ok (.aload_n 0, 1) := by decide +kernel
theorem dX4_readAll_242 : decode cX4_readAll 242 = .ok (.getfield 92, 3) := by decide +kernel
theorem dX4_readAll_245 : decode cX4_readAll 245 = .ok (.if_icmp .ne 7, 3) := by decide +kernel
theorem dX4_readAll_248 : decode cX4_readAll 248 = .ok (.iconst 1, 1) := by decide +kernel
theorem dX4_readAll_249 : decode cX4_readAll 249 = .ok (.goto 4, 3) := by decide +kernel
theorem dX4_readAll_252 : decode cX4_readAll 252 = .ok (.iconst 0, 1) := by decide +kernel
theorem dX4_readAll_253 : decode cX4_readAll 253 = .ok (.ireturn, 1) := by decide +kernel
set_option maxRecDepth 20000 in
theorem ggX4_errorPosition_X4_readAll : GoodIn wsX4_errorPosition wsX4_readAll := goodIn_r _ [7, 2, 8, 9, 10, 11, 12, 6, 13, 14, 15, 16, 17, 18, 19, 20, 21, 22, 23, 24, 25, 26, 27, 28, 29, 30, 31, 32, 33, 34, 35, 36, 37] (by decide +kernel) (by decide +kernel)
set_option maxRecDepth 20000 in
theorem gX4_errorPosition_X4_readAll : GoodIn wsX4_errorPosition (wsV RX4 115 RX4 yX4_readAll wsX4_readAll) := goodIn_app (goodIn_of _ (by decide +kernel)) ggX4_errorPosition_X4_readAll
theorem dX4_errorPosition_0 : decode cX4_errorPosition 0 = .ok (.aload_n 0, 1) := by decide +kernel
theorem dX4_errorPosition_1 : decode cX4_errorPosition 1 = .ok (.iconst 0, 1) := by decide +kernel
theorem dX4_errorPosition_2 : decode cX4_errorPosition 2 = .ok (.putfield 32, 3) := by decide +kernel
theorem dX4_errorPosition_5 : decode cX4_errorPosition 5 = .ok (.aload_n 0, 1) := by decide +kernel
theorem dX4_errorPosition_6 : decode cX4_errorPosition 6 = .ok (.invokevirtual 115, 3) := by decide +kernel
theorem dX4_errorPosition_9 : decode cX4_errorPosition 9 = .ok (.ifCond .eq 9, 3) := by decide +kernel
theorem dX4_errorPosition_12 : decode cX4_errorPosition 12 = .ok (.sipush (-9999), 3) := by decide +kernel
theorem dX4_errorPosition_15 : decode cX4_errorPosition 15 = .ok (.goto 7, 3) := by decide +kernel
theorem dX4_errorPosition_18 : decode cX4_errorPosition 18 = .ok (.aload_n 0, 1) := by decide +kernel
theorem dX4_errorPosition_19 : decode cX4_errorPosition 19 = .ok (.getfield 99, 3) := by decide +kernel
theorem dX4_errorPosition_22 : decode cX4_errorPosition 22 = .ok (.ireturn, 1) := by decide +kernel
set_option maxRecDepth 20000 in
theorem ggX4_load_X4_readAll : GoodIn wsX4_load wsX4_readAll := goodIn_r _ [9, 10, 1, 11, 12, 13, 14, 8, 15, 16, 17, 18, 19, 20, 21, 22, 23, 24, 25, 26, 27, 28, 37, 38, 39, 40, 41, 42, 43, 44, 45, 46, 47] (by decide +kernel) (by decide +kernel)
set_option maxRecDepth 20000 in
theorem gX4_load_X4_readAll : GoodIn wsX4_load (wsV RX4 115 RX4 yX4_readAll wsX4_readAll) := goodIn_app (goodIn_of _ (by decide +kernel)) ggX4_load_X4_readAll
set_option maxRecDepth 20000 in
theorem ggX4_load_X4_refused : GoodIn wsX4_load wsX4_refused := goodIn_r _ [32, 33, 37, 38, 39, 40, 41, 42, 43, 44, 45, 46, 47] (by decide +kernel) (by decide +kernel)
set_option maxRecDepth 20000 in
theorem gX4_load_X4_refused : GoodIn wsX4_load (wsV RX4 95 RX4 yX4_refused wsX4_refused) := goodIn_app (goodIn_of _ (by decide +kernel)) ggX4_load_X4_refused
set_option maxRecDepth 20000 in
theorem ggX4_load_X4_copyPage : GoodIn wsX4_load wsX4_copyPage := goodIn_r _ [36] (by decide +kernel) (by decide +kernel)
set_option maxRecDepth 20000 in
theorem gX4_load_X4_copyPage : GoodIn wsX4_load (va_wsS RX4 119 yX4_copyPage wsX4_copyPage) := goodIn_app (goodIn_of _ (by decide +kernel)) ggX4_load_X4_copyPage
theorem dX4_load_0 : decode cX4_load 0 = .ok (.aload_n 0, 1) := by decide +kernel
theorem dX4_load_1 : decode cX4_load 1 = .ok (.aload_n 0, 1) := by decide +kernel
theorem dX4_load_2 : decode cX4_load 2 = .ok (.invokevirtual 115, 3) := by decide +kernel
theorem dX4_load_5 : decode cX4_load 5 = .ok (.ifCond .eq 7, 3) := by decide +kernel
theorem dX4_load_8 : decode cX4_load 8 = .ok (.iconst 0, 1) := by decide +kernel
theorem dX4_load_9 : decode cX4_load 9 = .ok (.goto 4, 3) := by decide +kernel
theorem dX4_load_12 : decode cX4_load 12 = .ok (.iconst 1, 1) := by decide +kernel
theorem dX4_load_13 : decode cX4_load 13 = .ok (.invokevirtual 95, 3) := by decide +kernel
theorem dX4_load_16 : decode cX4_load 16 = .ok (.ifCond .eq 5, 3) := by decide +kernel
theorem dX4_load_19 : decode cX4_load 19 = .ok (.iconst 0, 1) := by decide +kernel
theorem dX4_load_20 : decode cX4_load 20 = .ok (.ireturn, 1) := by decide +kernel
theorem dX4_load_21 : decode cX4_load 21 = .ok (.aload_n 0, 1) := by decide +kernel
theorem dX4_load_22 : decode cX4_load 22 = .ok (.getfield 13, 3) := by decide +kernel
theorem dX4_load_25 : decode cX4_load 25 = .ok (.iconst 0, 1) := by decide +kernel
theorem dX4_load_26 : decode cX4_load 26 = .ok (.aload_n 0, 1) := by decide +kernel
theorem dX4_load_27 : decode cX4_load 27 = .ok (.getfield 16, 3) := by decide +kernel
theorem dX4_load_30 : decode cX4_load 30 = .ok (.iconst 0, 1) := by decide +kernel
theorem dX4_load_31 : decode cX4_load 31 = .ok (.invokestatic 119, 3) := by decide +kernel
theorem dX4_load_34 : decode cX4_load 34 = .ok (.aload_n 0, 1) := by decide +kernel
theorem dX4_load_35 : decode cX4_load 35 = .ok (.iconst 0, 1) := by decide +kernel
theorem dX4_load_36 : decode cX4_load 36 = .ok (.putfield 123, 3) := by decide +kernel
theorem dX4_load_39 : decode cX4_load 39 = .ok (.aload_n 0, 1) := by decide +kernel
theorem dX4_load_40 : decode cX4_load 40 = .ok (.getfield 28, 3) := by decide +kernel
theorem dX4_load_43 : decode cX4_load 43 = .ok (.iconst 0, 1) := by decide +kernel
theorem dX4_load_44 : decode cX4_load 44 = .ok (.iconst 0, 1) := by decide +kernel
theorem dX4_load_45 : decode cX4_load 45 = .ok (.bastore, 1) := by decide +kernel
theorem dX4_load_46 : decode cX4_load 46 = .ok (.aload_n 0, 1) := by decide +kernel
theorem dX4_load_47 : decode cX4_load 47 = .ok (.getfield 28, 3) := by decide +kernel
theorem dX4_load_50 : decode cX4_load 50 = .ok (.iconst 1, 1) := by decide +kernel
theorem dX4_load_51 : decode cX4_load 51 = .ok (.iconst 0, 1) := by decide +kernel
theorem dX4_load_52 : decode cX4_load 52 = .ok (.bastore, 1) := by decide +kernel
theorem dX4_load_53 : decode cX4_load 53 = .ok (.aload_n 0, 1) := by decide +kernel
theorem dX4_load_54 : decode cX4_load 54 = .ok (.getfield 16, 3) := by decide +kernel
theorem dX4_load_57 : decode cX4_load 57 = .ok (.bipush 9, 2) := by decide +kernel
theorem dX4_load_59 : decode cX4_load 59 = .ok (.iaload, 1) := by decide +kernel
theorem dX4_load_60 : decode cX4_load 60 = .ok (.ireturn, 1) := by decide +kernel
set_option maxRecDepth 20000 in
theorem ggX4_about_X4_in : GoodIn wsX4_about wsX4_in := goodIn_r _ [6] (by decide +kernel) (by decide +kernel)
set_option maxRecDepth 20000 in
theorem gX4_about_X4_in : GoodIn wsX4_about (va_wsS RX4 38 yX4_in wsX4_in) := goodIn_app (goodIn_of _ (by decide +kernel)) ggX4_about_X4_in
set_option maxRecDepth 20000 in
theorem ggX4_about_X4_refused : GoodIn wsX4_about wsX4_refused := goodIn_r _ [10, 11, 15, 16, 17, 18, 19, 20, 21, 22, 23, 24, 25] (by decide +kernel) (by decide +kernel)
set_option maxRecDepth 20000 in
theorem gX4_about_X4_refused : GoodIn wsX4_about (wsV RX4 95 RX4 yX4_refused wsX4_refused) := goodIn_app (goodIn_of _ (by decide +kernel)) ggX4_about_X4_refused
set_option maxRecDepth 20000 in
theorem ggX4_about_X4_offsetOf : GoodIn wsX4_about wsX4_offsetOf := goodIn_r _ [14] (by decide +kernel) (by decide +kernel)
set_option maxRecDepth 20000 in
theorem gX4_about_X4_offsetOf : GoodIn wsX4_about (va_wsS RX4 72 yX4_offsetOf wsX4_offsetOf) := goodIn_app (goodIn_of _ (by decide +kernel)) ggX4_about_X4_offsetOf
theorem dX4_about_0 : decode cX4_about 0 = .ok (.aload_n 0, 1) := by decide +kernel
theorem dX4_about_1 : decode cX4_about 1 = .ok (.iload_n 1, 1) := by decide +kernel
theorem dX4_about_2 : decode cX4_about 2 = .ok (.i2l, 1) := by decide +kernel
theorem dX4_about_3 : decode cX4_about 3 = .ok (.lconst 0, 1) := by decide +kernel
theorem dX4_about_4 : decode cX4_about 4 = .ok (.ldc2_w 126, 3) := by decide +kernel
theorem dX4_about_7 : decode cX4_about 7 = .ok (.invokestatic 38, 3) := by decide +kernel
theorem dX4_about_10 : decode cX4_about 10 = .ok (.ifCond .eq 7, 3) := by decide +kernel
theorem dX4_about_13 : decode cX4_about 13 = .ok (.iconst 0, 1) := by decide +kernel
theorem dX4_about_14 : decode cX4_about 14 = .ok (.goto 4, 3) := by decide +kernel
theorem dX4_about_17 : decode cX4_about 17 = .ok (.iconst 1, 1) := by decide +kernel
theorem dX4_about_18 : decode cX4_about 18 = .ok (.invokevirtual 95, 3) := by decide +kernel
theorem dX4_about_21 : decode cX4_about 21 = .ok (.ifCond .eq 5, 3) := by decide +kernel
theorem dX4_about_24 : decode cX4_about 24 = .ok (.iconst 0, 1) := by decide +kernel
theorem dX4_about_25 : decode cX4_about 25 = .ok (.ireturn, 1) := by decide +kernel
theorem dX4_about_26 : decode cX4_about 26 = .ok (.iload_n 1, 1) := by decide +kernel
theorem dX4_about_27 : decode cX4_about 27 = .ok (.bipush 8, 2) := by decide +kernel
theorem dX4_about_29 : decode cX4_about 29 = .ok (.if_icmp .ge 12, 3) := by decide +kernel
theorem dX4_about_32 : decode cX4_about 32 = .ok (.aload_n 0, 1) := by decide +kernel
theorem dX4_about_33 : decode cX4_about 33 = .ok (.getfield 16, 3) := by decide +kernel
theorem dX4_about_36 : decode cX4_about 36 = .ok (.iload_n 1, 1) := by decide +kernel
theorem dX4_about_37 : decode cX4_about 37 = .ok (.iaload, 1) := by decide +kernel
theorem dX4_about_38 : decode cX4_about 38 = .ok (.goto 27, 3) := by decide +kernel
theorem dX4_about_41 : decode cX4_about 41 = .ok (.iload_n 1, 1) := by decide +kernel
theorem dX4_about_42 : decode cX4_about 42 = .ok (.bipush 8, 2) := by decide +kernel
theorem dX4_about_44 : decode cX4_about 44 = .ok (.if_icmp .ne 13, 3) := by decide +kernel
theorem dX4_about_47 : decode cX4_about 47 = .ok (.aload_n 0, 1) := by decide +kernel
theorem dX4_about_48 : decode cX4_about 48 = .ok (.getfield 16, 3) := by decide +kernel
theorem dX4_about_51 : decode cX4_about 51 = .ok (.invokestatic 72, 3) := by decide +kernel
theorem dX4_about_54 : decode cX4_about 54 = .ok (.goto 11, 3) := by decide +kernel
theorem dX4_about_57 : decode cX4_about 57 = .ok (.aload_n 0, 1) := by decide +kernel
theorem dX4_about_58 : decode cX4_about 58 = .ok (.getfield 16, 3) := by decide +kernel
theorem dX4_about_61 : decode cX4_about 61 = .ok (.iload_n 1, 1) := by decide +kernel
theorem dX4_about_62 : decode cX4_about 62 = .ok (.iconst 1, 1) := by decide +kernel
theorem dX4_about_63 : decode cX4_about 63 = .ok (.isub, 1) := by decide +kernel
theorem dX4_about_64 : decode cX4_about 64 = .ok (.iaload, 1) := by decide +kernel
theorem dX4_about_65 : decode cX4_about 65 = .ok (.ireturn, 1) := by decide +kernel
set_option maxRecDepth 20000 in
theorem ggX4_told_X4_in : GoodIn wsX4_told wsX4_in := goodIn_r _ [6] (by decide +kernel) (by decide +kernel)
set_option maxRecDepth 20000 in
theorem gX4_told_X4_in : GoodIn wsX4_told (va_wsS RX4 38 yX4_in wsX4_in) := goodIn_app (goodIn_of _ (by decide +kernel)) ggX4_told_X4_in
set_option maxRecDepth 20000 in
theorem ggX4_told_X4_refused : GoodIn wsX4_told wsX4_refused := goodIn_r _ [10, 11, 12, 13, 14, 15, 16, 17, 18, 19, 20, 21, 22] (by decide +kernel) (by decide +kernel)
set_option maxRecDepth 20000 in
theorem gX4_told_X4_refused : GoodIn wsX4_told (wsV RX4 95 RX4 yX4_refused wsX4_refused) := goodIn_app (goodIn_of _ (by decide +kernel)) ggX4_told_X4_refused
theorem dX4_told_0 : decode cX4_told 0 = .ok (.aload_n 0, 1) := by decide +kernel
theorem dX4_told_1 : decode cX4_told 1 = .ok (.iload_n 1, 1) := by decide +kernel
theorem dX4_told_2 : decode cX4_told 2 = .ok (.ifCond .lt 19, 3) := by decide +kernel
theorem dX4_told_5 : decode cX4_told 5 = .ok (.iload_n 2, 1) := by decide +kernel
theorem dX4_told_6 : decode cX4_told 6 = .ok (.i2l, 1) := by decide +kernel
theorem dX4_told_7 : decode cX4_told 7 = .ok (.lconst 0, 1) := by decide +kernel
theorem dX4_told_8 : decode cX4_told 8 = .ok (.ldc2_w 36, 3) := by decide +kernel
theorem dX4_told_11 : decode cX4_told 11 = .ok (.invokestatic 38, 3) := by decide +kernel
theorem dX4_told_14 : decode cX4_told 14 = .ok (.ifCond .eq 7, 3) := by decide +kernel
theorem dX4_told_17 : decode cX4_told 17 = .ok (.iconst 0, 1) := by decide +kernel
theorem dX4_told_18 : decode cX4_told 18 = .ok (.goto 4, 3) := by decide +kernel
theorem dX4_told_21 : decode cX4_told 21 = .ok (.iconst 1, 1) := by decide +kernel
theorem dX4_told_22 : decode cX4_told 22 = .ok (.invokevirtual 95, 3) := by decide +kernel
theorem dX4_told_25 : decode cX4_told 25 = .ok (.ifCond .eq 5, 3) := by decide +kernel
theorem dX4_told_28 : decode cX4_told 28 = .ok (.iconst 0, 1) := by decide +kernel
theorem dX4_told_29 : decode cX4_told 29 = .ok (.ireturn, 1) := by decide +kernel
theorem dX4_told_30 : decode cX4_told 30 = .ok (.iload_n 1, 1) := by decide +kernel
theorem dX4_told_31 : decode cX4_told 31 = .ok (.aload_n 0, 1) := by decide +kernel
theorem dX4_told_32 : decode cX4_told 32 = .ok (.getfield 16, 3) := by decide +kernel
theorem dX4_told_35 : decode cX4_told 35 = .ok (.bipush 12, 2) := by decide +kernel
theorem dX4_told_37 : decode cX4_told 37 = .ok (.iaload, 1) := by decide +kernel
theorem dX4_told_38 : decode cX4_told 38 = .ok (.if_icmp .ge 19, 3) := by decide +kernel
theorem dX4_told_41 : decode cX4_told 41 = .ok (.aload_n 0, 1) := by decide +kernel
theorem dX4_told_42 : decode cX4_told 42 = .ok (.getfield 16, 3) := by decide +kernel
theorem dX4_told_45 : decode cX4_told 45 = .ok (.bipush 21, 2) := by decide +kernel
theorem dX4_told_47 : decode cX4_told 47 = .ok (.iconst 4, 1) := by decide +kernel
theorem dX4_told_48 : decode cX4_told 48 = .ok (.iload_n 1, 1) := by decide +kernel
theorem dX4_told_49 : decode cX4_told 49 = .ok (.imul, 1) := by decide +kernel
theorem dX4_told_50 : decode cX4_told 50 = .ok (.iadd, 1) := by decide +kernel
theorem dX4_told_51 : decode cX4_told 51 = .ok (.iload_n 2, 1) := by decide +kernel
theorem dX4_told_52 : decode cX4_told 52 = .ok (.iadd, 1) := by decide +kernel
theorem dX4_told_53 : decode cX4_told 53 = .ok (.iaload, 1) := by decide +kernel
theorem dX4_told_54 : decode cX4_told 54 = .ok (.goto 6, 3) := by decide +kernel
theorem dX4_told_57 : decode cX4_told 57 = .ok (.sipush (-9999), 3) := by decide +kernel
theorem dX4_told_60 : decode cX4_told 60 = .ok (.ireturn, 1) := by decide +kernel
set_option maxRecDepth 20000 in
theorem ggX4_bridge_X4_in : GoodIn wsX4_bridge wsX4_in := goodIn_r _ [6] (by decide +kernel) (by decide +kernel)
set_option maxRecDepth 20000 in
theorem gX4_bridge_X4_in : GoodIn wsX4_bridge (va_wsS RX4 38 yX4_in wsX4_in) := goodIn_app (goodIn_of _ (by decide +kernel)) ggX4_bridge_X4_in
set_option maxRecDepth 20000 in
theorem ggX4_bridge_X4_refused : GoodIn wsX4_bridge wsX4_refused := goodIn_r _ [10, 11, 34, 35, 36, 37, 38, 39, 40, 41, 42, 43, 44] (by decide +kernel) (by decide +kernel)
set_option maxRecDepth 20000 in
theorem gX4_bridge_X4_refused : GoodIn wsX4_bridge (wsV RX4 95 RX4 yX4_refused wsX4_refused) := goodIn_app (goodIn_of _ (by decide +kernel)) ggX4_bridge_X4_refused
set_option maxRecDepth 20000 in
theorem ggX4_bridge_X4_unknown : GoodIn wsX4_bridge wsX4_unknown := goodIn_r _ [14] (by decide +kernel) (by decide +kernel)
set_option maxRecDepth 20000 in
theorem gX4_bridge_X4_unknown : GoodIn wsX4_bridge (va_wsS RX4 58 yX4_unknown wsX4_unknown) := goodIn_app (goodIn_of _ (by decide +kernel)) ggX4_bridge_X4_unknown
set_option maxRecDepth 20000 in
theorem ggX4_bridge_X4_missing : GoodIn wsX4_bridge wsX4_missing := goodIn_r _ [17, 18, 19, 5, 20] (by decide +kernel) (by decide +kernel)
set_option maxRecDepth 20000 in
theorem gX4_bridge_X4_missing : GoodIn wsX4_bridge (va_wsS RX4 62 yX4_missing wsX4_missing) := goodIn_app (goodIn_of _ (by decide +kernel)) ggX4_bridge_X4_missing
set_option maxRecDepth 20000 in
theorem ggX4_bridge_X4_divisor : GoodIn wsX4_bridge wsX4_divisor := goodIn_r _ [23, 18, 19, 5, 20] (by decide +kernel) (by decide +kernel)
set_option maxRecDepth 20000 in
theorem gX4_bridge_X4_divisor : GoodIn wsX4_bridge (va_wsS RX4 66 yX4_divisor wsX4_divisor) := goodIn_app (goodIn_of _ (by decide +kernel)) ggX4_bridge_X4_divisor
set_option maxRecDepth 20000 in
theorem ggX4_bridge_X4_trueOf : GoodIn wsX4_bridge wsX4_trueOf := goodIn_r _ [26, 27, 12, 13, 5, 14, 15, 16, 17, 18, 19, 20, 21, 22, 23] (by decide +kernel) (by decide +kernel)
set_option maxRecDepth 20000 in
theorem gX4_bridge_X4_trueOf : GoodIn wsX4_bridge (va_wsS RX4 69 yX4_trueOf wsX4_trueOf) := goodIn_app (goodIn_of _ (by decide +kernel)) ggX4_bridge_X4_trueOf
set_option maxRecDepth 20000 in
theorem ggX4_bridge_X4_rawOf : GoodIn wsX4_bridge wsX4_rawOf := goodIn_r _ [30, 24, 25, 5, 26, 27, 12, 13, 14, 15, 16, 17, 18, 19, 20, 21, 22, 23, 31, 32, 33] (by decide +kernel) (by decide +kernel)
set_option maxRecDepth 20000 in
theorem gX4_bridge_X4_rawOf : GoodIn wsX4_bridge (va_wsS RX4 75 yX4_rawOf wsX4_rawOf) := goodIn_app (goodIn_of _ (by decide +kernel)) ggX4_bridge_X4_rawOf
theorem dX4_bridge_0 : decode cX4_bridge 0 = .ok (.aload_n 0, 1) := by decide +kernel
theorem dX4_bridge_1 : decode cX4_bridge 1 = .ok (.iload_n 1, 1) := by decide +kernel
theorem dX4_bridge_2 : decode cX4_bridge 2 = .ok (.i2l, 1) := by decide +kernel
theorem dX4_bridge_3 : decode cX4_bridge 3 = .ok (.lconst 0, 1) := by decide +kernel
theorem dX4_bridge_4 : decode cX4_bridge 4 = .ok (.ldc2_w 128, 3) := by decide +kernel
theorem dX4_bridge_7 : decode cX4_bridge 7 = .ok (.invokestatic 38, 3) := by decide +kernel
theorem dX4_bridge_10 : decode cX4_bridge 10 = .ok (.ifCond .eq 7, 3) := by decide +kernel
theorem dX4_bridge_13 : decode cX4_bridge 13 = .ok (.iconst 0, 1) := by decide +kernel
theorem dX4_bridge_14 : decode cX4_bridge 14 = .ok (.goto 4, 3) := by decide +kernel
theorem dX4_bridge_17 : decode cX4_bridge 17 = .ok (.iconst 1, 1) := by decide +kernel
theorem dX4_bridge_18 : decode cX4_bridge 18 = .ok (.invokevirtual 95, 3) := by decide +kernel
theorem dX4_bridge_21 : decode cX4_bridge 21 = .ok (.ifCond .eq 5, 3) := by decide +kernel
theorem dX4_bridge_24 : decode cX4_bridge 24 = .ok (.iconst 0, 1) := by decide +kernel
theorem dX4_bridge_25 : decode cX4_bridge 25 = .ok (.ireturn, 1) := by decide +kernel
theorem dX4_bridge_26 : decode cX4_bridge 26 = .ok (.iload_n 1, 1) := by decide +kernel
theorem dX4_bridge_27 : decode cX4_bridge 27 = .ok (.tableswitch 106 0 3 #[29, 50, 71, 91], 29) := by decide +kernel
theorem dX4_bridge_56 : decode cX4_bridge 56 = .ok (.aload_n 0, 1) := by decide +kernel
theorem dX4_bridge_57 : decode cX4_bridge 57 = .ok (.getfield 16, 3) := by decide +kernel
theorem dX4_bridge_60 : decode cX4_bridge 60 = .ok (.aload_n 0, 1) := by decide +kernel
theorem dX4_bridge_61 : decode cX4_bridge 61 = .ok (.getfield 16, 3) := by decide +kernel
theorem dX4_bridge_64 : decode cX4_bridge 64 = .ok (.invokestatic 58, 3) := by decide +kernel
theorem dX4_bridge_67 : decode cX4_bridge 67 = .ok (.aload_n 0, 1) := by decide +kernel
theorem dX4_bridge_68 : decode cX4_bridge 68 = .ok (.getfield 16, 3) := by decide +kernel
theorem dX4_bridge_71 : decode cX4_bridge 71 = .ok (.iconst 2, 1) := by decide +kernel
theorem dX4_bridge_72 : decode cX4_bridge 72 = .ok (.iaload, 1) := by decide +kernel
theorem dX4_bridge_73 : decode cX4_bridge 73 = .ok (.invokestatic 62, 3) := by decide +kernel
theorem dX4_bridge_76 : decode cX4_bridge 76 = .ok (.ireturn, 1) := by decide +kernel
theorem dX4_bridge_77 : decode cX4_bridge 77 = .ok (.aload_n 0, 1) := by decide +kernel
theorem dX4_bridge_78 : decode cX4_bridge 78 = .ok (.getfield 16, 3) := by decide +kernel
theorem dX4_bridge_81 : decode cX4_bridge 81 = .ok (.aload_n 0, 1) := by decide +kernel
theorem dX4_bridge_82 : decode cX4_bridge 82 = .ok (.getfield 16, 3) := by decide +kernel
theorem dX4_bridge_85 : decode cX4_bridge 85 = .ok (.invokestatic 58, 3) := by decide +kernel
theorem dX4_bridge_88 : decode cX4_bridge 88 = .ok (.aload_n 0, 1) := by decide +kernel
theorem dX4_bridge_89 : decode cX4_bridge 89 = .ok (.getfield 16, 3) := by decide +kernel
theorem dX4_bridge_92 : decode cX4_bridge 92 = .ok (.iconst 2, 1) := by decide +kernel
theorem dX4_bridge_93 : decode cX4_bridge 93 = .ok (.iaload, 1) := by decide +kernel
theorem dX4_bridge_94 : decode cX4_bridge 94 = .ok (.invokestatic 66, 3) := by decide +kernel
theorem dX4_bridge_97 : decode cX4_bridge 97 = .ok (.ireturn, 1) := by decide +kernel
theorem dX4_bridge_98 : decode cX4_bridge 98 = .ok (.aload_n 0, 1) := by decide +kernel
theorem dX4_bridge_99 : decode cX4_bridge 99 = .ok (.getfield 16, 3) := by decide +kernel
theorem dX4_bridge_102 : decode cX4_bridge 102 = .ok (.aload_n 0, 1) := by decide +kernel
theorem dX4_bridge_103 : decode cX4_bridge 103 = .ok (.getfield 16, 3) := by decide +kernel
theorem dX4_bridge_106 : decode cX4_bridge 106 = .ok (.iconst 2, 1) := by decide +kernel
theorem dX4_bridge_107 : decode cX4_bridge 107 = .ok (.iaload, 1) := by decide +kernel
theorem dX4_bridge_108 : decode cX4_bridge 108 = .ok (.aload_n 0, 1) := by decide +kernel
theorem dX4_bridge_109 : decode cX4_bridge 109 = .ok (.getfield 16, 3) := by decide +kernel
theorem dX4_bridge_112 : decode cX4_bridge 112 = .ok (.iconst 4, 1) := by decide +kernel
theorem dX4_bridge_113 : decode cX4_bridge 113 = .ok (.iaload, 1) := by decide +kernel
theorem dX4_bridge_114 : decode cX4_bridge 114 = .ok (.invokestatic 69, 3) := by decide +kernel
theorem dX4_bridge_117 : decode cX4_bridge 117 = .ok (.ireturn, 1) := by decide +kernel
theorem dX4_bridge_118 : decode cX4_bridge 118 = .ok (.aload_n 0, 1) := by decide +kernel
theorem dX4_bridge_119 : decode cX4_bridge 119 = .ok (.getfield 16, 3) := by decide +kernel
theorem dX4_bridge_122 : decode cX4_bridge 122 = .ok (.iconst 0, 1) := by decide +kernel
theorem dX4_bridge_123 : decode cX4_bridge 123 = .ok (.aload_n 0, 1) := by decide +kernel
theorem dX4_bridge_124 : decode cX4_bridge 124 = .ok (.getfield 16, 3) := by decide +kernel
theorem dX4_bridge_127 : decode cX4_bridge 127 = .ok (.iconst 4, 1) := by decide +kernel
theorem dX4_bridge_128 : decode cX4_bridge 128 = .ok (.iaload, 1) := by decide +kernel
theorem dX4_bridge_129 : decode cX4_bridge 129 = .ok (.invokestatic 75, 3) := by decide +kernel
theorem dX4_bridge_132 : decode cX4_bridge 132 = .ok (.ireturn, 1) := by decide +kernel
theorem dX4_bridge_133 : decode cX4_bridge 133 = .ok (.aload_n 0, 1) := by decide +kernel
theorem dX4_bridge_134 : decode cX4_bridge 134 = .ok (.getfield 16, 3) := by decide +kernel
theorem dX4_bridge_137 : decode cX4_bridge 137 = .ok (.iconst 1, 1) := by decide +kernel
theorem dX4_bridge_138 : decode cX4_bridge 138 = .ok (.aload_n 0, 1) := by decide +kernel
theorem dX4_bridge_139 : decode cX4_bridge 139 = .ok (.getfield 16, 3) := by decide +kernel
theorem dX4_bridge_142 : decode cX4_bridge 142 = .ok (.iconst 4, 1) := by decide +kernel
theorem dX4_bridge_143 : decode cX4_bridge 143 = .ok (.iaload, 1) := by decide +kernel
theorem dX4_bridge_144 : decode cX4_bridge 144 = .ok (.invokestatic 75, 3) := by decide +kernel
theorem dX4_bridge_147 : decode cX4_bridge 147 = .ok (.ireturn, 1) := by decide +kernel
set_option maxRecDepth 20000 in
theorem ggX4_note_X4_copyPage : GoodIn wsX4_note wsX4_copyPage := goodIn_r _ [7] (by decide +kernel) (by decide +kernel)
set_option maxRecDepth 20000 in
theorem gX4_note_X4_copyPage : GoodIn wsX4_note (va_wsS RX4 119 yX4_copyPage wsX4_copyPage) := goodIn_app (goodIn_of _ (by decide +kernel)) ggX4_note_X4_copyPage
theorem dX4_note_0 : decode cX4_note 0 = .ok (.aload_n 0, 1) := by decide +kernel
theorem dX4_note_1 : decode cX4_note 1 = .ok (.getfield 123, 3) := by decide +kernel
theorem dX4_note_4 : decode cX4_note 4 = .ok (.bipush 14, 2) := by decide +kernel
theorem dX4_note_6 : decode cX4_note 6 = .ok (.if_icmp .ne 43, 3) := by decide +kernel
theorem dX4_note_9 : decode cX4_note 9 = .ok (.iconst 0, 1) := by decide +kernel
theorem dX4_note_10 : decode cX4_note 10 = .ok (.istore_n 1, 1) := by decide +kernel
theorem dX4_note_11 : decode cX4_note 11 = .ok (.iload_n 1, 1) := by decide +kernel
theorem dX4_note_12 : decode cX4_note 12 = .ok (.sipush 1313, 3) := by decide +kernel
theorem dX4_note_15 : decode cX4_note 15 = .ok (.if_icmp .ge 24, 3) := by decide +kernel
theorem dX4_note_18 : decode cX4_note 18 = .ok (.aload_n 0, 1) := by decide +kernel
theorem dX4_note_19 : decode cX4_note 19 = .ok (.getfield 22, 3) := by decide +kernel
theorem dX4_note_22 : decode cX4_note 22 = .ok (.iload_n 1, 1) := by decide +kernel
theorem dX4_note_23 : decode cX4_note 23 = .ok (.aload_n 0, 1) := by decide +kernel
theorem dX4_note_24 : decode cX4_note 24 = .ok (.getfield 22, 3) := by decide +kernel
theorem dX4_note_27 : decode cX4_note 27 = .ok (.iload_n 1, 1) := by decide +kernel
theorem dX4_note_28 : decode cX4_note 28 = .ok (.bipush 101, 2) := by decide +kernel
theorem dX4_note_30 : decode cX4_note 30 = .ok (.iadd, 1) := by decide +kernel
theorem dX4_note_31 : decode cX4_note 31 = .ok (.iaload, 1) := by decide +kernel
theorem dX4_note_32 : decode cX4_note 32 = .ok (.iastore, 1) := by decide +kernel
theorem dX4_note_33 : decode cX4_note 33 = .ok (.iinc 1 1, 3) := by decide +kernel
theorem dX4_note_36 : decode cX4_note 36 = .ok (.goto (-25), 3) := by decide +kernel
theorem dX4_note_39 : decode cX4_note 39 = .ok (.aload_n 0, 1) := by decide +kernel
theorem dX4_note_40 : decode cX4_note 40 = .ok (.dup, 1) := by decide +kernel
theorem dX4_note_41 : decode cX4_note 41 = .ok (.getfield 123, 3) := by decide +kernel
theorem dX4_note_44 : decode cX4_note 44 = .ok (.iconst 1, 1) := by decide +kernel
theorem dX4_note_45 : decode cX4_note 45 = .ok (.isub, 1) := by decide +kernel
theorem dX4_note_46 : decode cX4_note 46 = .ok (.putfield 123, 3) := by decide +kernel
theorem dX4_note_49 : decode cX4_note 49 = .ok (.aload_n 0, 1) := by decide +kernel
theorem dX4_note_50 : decode cX4_note 50 = .ok (.getfield 16, 3) := by decide +kernel
theorem dX4_note_53 : decode cX4_note 53 = .ok (.iconst 0, 1) := by decide +kernel
theorem dX4_note_54 : decode cX4_note 54 = .ok (.aload_n 0, 1) := by decide +kernel
theorem dX4_note_55 : decode cX4_note 55 = .ok (.getfield 22, 3) := by decide +kernel
theorem dX4_note_58 : decode cX4_note 58 = .ok (.bipush 101, 2) := by decide +kernel
theorem dX4_note_60 : decode cX4_note 60 = .ok (.aload_n 0, 1) := by decide +kernel
theorem dX4_note_61 : decode cX4_note 61 = .ok (.getfield 123, 3) := by decide +kernel
theorem dX4_note_64 : decode cX4_note 64 = .ok (.imul, 1) := by decide +kernel
theorem dX4_note_65 : decode cX4_note 65 = .ok (.invokestatic 119, 3) := by decide +kernel
theorem dX4_note_68 : decode cX4_note 68 = .ok (.aload_n 0, 1) := by decide +kernel
theorem dX4_note_69 : decode cX4_note 69 = .ok (.dup, 1) := by decide +kernel
theorem dX4_note_70 : decode cX4_note 70 = .ok (.getfield 123, 3) := by decide +kernel
theorem dX4_note_73 : decode cX4_note 73 = .ok (.iconst 1, 1) := by decide +kernel
theorem dX4_note_74 : decode cX4_note 74 = .ok (.iadd, 1) := by decide +kernel
theorem dX4_note_75 : decode cX4_note 75 = .ok (.putfield 123, 3) := by decide +kernel
theorem dX4_note_78 : decode cX4_note 78 = .ok (.return_, 1) := by decide +kernel
set_option maxRecDepth 20000 in
theorem ggX4_press_X4_refused : GoodIn wsX4_press wsX4_refused := goodIn_r _ [6, 7, 42, 43, 44, 45, 46, 47, 48, 49, 50, 51, 52] (by decide +kernel) (by decide +kernel)
set_option maxRecDepth 20000 in
theorem gX4_press_X4_refused : GoodIn wsX4_press (wsV RX4 95 RX4 yX4_refused wsX4_refused) := goodIn_app (goodIn_of _ (by decide +kernel)) ggX4_press_X4_refused
set_option maxRecDepth 20000 in
theorem ggX4_press_X4_note : GoodIn wsX4_press wsX4_note := goodIn_r _ [11, 12, 13, 1, 14, 15, 5, 16, 42, 43, 44, 45, 46, 47, 48, 49, 50, 51, 52] (by decide +kernel) (by decide +kernel)
set_option maxRecDepth 20000 in
theorem gX4_press_X4_note : GoodIn wsX4_press (wsV RX4 130 RX4 yX4_note wsX4_note) := goodIn_app (goodIn_of _ (by decide +kernel)) ggX4_press_X4_note
set_option maxRecDepth 20000 in
theorem ggX4_press_X4_pressOn : GoodIn wsX4_press wsX4_pressOn := goodIn_r _ [19, 20, 21, 5, 22, 23, 24, 25, 26, 27, 28, 29, 30, 31, 32, 33, 34, 35, 36, 37, 38, 39, 40, 41] (by decide +kernel) (by decide +kernel)
set_option maxRecDepth 20000 in
theorem gX4_press_X4_pressOn : GoodIn wsX4_press (va_wsS RX4 79 yX4_pressOn wsX4_pressOn) := goodIn_app (goodIn_of _ (by decide +kernel)) ggX4_press_X4_pressOn
theorem dX4_press_0 : decode cX4_press 0 = .ok (.aload_n 0, 1) := by decide +kernel
theorem dX4_press_1 : decode cX4_press 1 = .ok (.aload_n 0, 1) := by decide +kernel
theorem dX4_press_2 : decode cX4_press 2 = .ok (.getfield 16, 3) := by decide +kernel
theorem dX4_press_5 : decode cX4_press 5 = .ok (.bipush 11, 2) := by decide +kernel
theorem dX4_press_7 : decode cX4_press 7 = .ok (.iaload, 1) := by decide +kernel
theorem dX4_press_8 : decode cX4_press 8 = .ok (.invokevirtual 95, 3) := by decide +kernel
theorem dX4_press_11 : decode cX4_press 11 = .ok (.ifCond .eq 5, 3) := by decide +kernel
theorem dX4_press_14 : decode cX4_press 14 = .ok (.iconst 0, 1) := by decide +kernel
theorem dX4_press_15 : decode cX4_press 15 = .ok (.ireturn, 1) := by decide +kernel
theorem dX4_press_16 : decode cX4_press 16 = .ok (.aload_n 0, 1) := by decide +kernel
theorem dX4_press_17 : decode cX4_press 17 = .ok (.invokevirtual 130, 3) := by decide +kernel
theorem dX4_press_20 : decode cX4_press 20 = .ok (.aload_n 0, 1) := by decide +kernel
theorem dX4_press_21 : decode cX4_press 21 = .ok (.getfield 16, 3) := by decide +kernel
theorem dX4_press_24 : decode cX4_press 24 = .ok (.iload_n 1, 1) := by decide +kernel
theorem dX4_press_25 : decode cX4_press 25 = .ok (.invokestatic 79, 3) := by decide +kernel
theorem dX4_press_28 : decode cX4_press 28 = .ok (.ireturn, 1) := by decide +kernel
set_option maxRecDepth 20000 in
theorem ggX4_pair_X4_refused : GoodIn wsX4_pair wsX4_refused := goodIn_r _ [6, 7, 45, 46, 47, 48, 49, 50, 51, 52, 53, 54, 55] (by decide +kernel) (by decide +kernel)
set_option maxRecDepth 20000 in
theorem gX4_pair_X4_refused : GoodIn wsX4_pair (wsV RX4 95 RX4 yX4_refused wsX4_refused) := goodIn_app (goodIn_of _ (by decide +kernel)) ggX4_pair_X4_refused
set_option maxRecDepth 20000 in
theorem ggX4_pair_X4_note : GoodIn wsX4_pair wsX4_note := goodIn_r _ [11, 12, 13, 1, 14, 15, 5, 16, 45, 46, 47, 48, 49, 50, 51, 52, 53, 54, 55] (by decide +kernel) (by decide +kernel)
set_option maxRecDepth 20000 in
theorem gX4_pair_X4_note : GoodIn wsX4_pair (wsV RX4 130 RX4 yX4_note wsX4_note) := goodIn_app (goodIn_of _ (by decide +kernel)) ggX4_pair_X4_note
set_option maxRecDepth 20000 in
theorem ggX4_pair_X4_pairOn : GoodIn wsX4_pair wsX4_pairOn := goodIn_r _ [19, 20, 21, 5, 22, 23, 24, 25, 26, 27, 28, 29, 30, 31, 32, 33, 34, 35, 36, 37, 38, 39, 40, 41, 42, 43, 44] (by decide +kernel) (by decide +kernel)
set_option maxRecDepth 20000 in
theorem gX4_pair_X4_pairOn : GoodIn wsX4_pair (va_wsS RX4 87 yX4_pairOn wsX4_pairOn) := goodIn_app (goodIn_of _ (by decide +kernel)) ggX4_pair_X4_pairOn
theorem dX4_pair_0 : decode cX4_pair 0 = .ok (.aload_n 0, 1) := by decide +kernel
theorem dX4_pair_1 : decode cX4_pair 1 = .ok (.aload_n 0, 1) := by decide +kernel
theorem dX4_pair_2 : decode cX4_pair 2 = .ok (.getfield 16, 3) := by decide +kernel
theorem dX4_pair_5 : decode cX4_pair 5 = .ok (.bipush 11, 2) := by decide +kernel
theorem dX4_pair_7 : decode cX4_pair 7 = .ok (.iaload, 1) := by decide +kernel
theorem dX4_pair_8 : decode cX4_pair 8 = .ok (.invokevirtual 95, 3) := by decide +kernel
theorem dX4_pair_11 : decode cX4_pair 11 = .ok (.ifCond .eq 5, 3) := by decide +kernel
theorem dX4_pair_14 : decode cX4_pair 14 = .ok (.iconst 0, 1) := by decide +kernel
theorem dX4_pair_15 : decode cX4_pair 15 = .ok (.ireturn, 1) := by decide +kernel
theorem dX4_pair_16 : decode cX4_pair 16 = .ok (.aload_n 0, 1) := by decide +kernel
theorem dX4_pair_17 : decode cX4_pair 17 = .ok (.invokevirtual 130, 3) := by decide +kernel
theorem dX4_pair_20 : decode cX4_pair 20 = .ok (.aload_n 0, 1) := by decide +kernel
theorem dX4_pair_21 : decode cX4_pair 21 = .ok (.getfield 16, 3) := by decide +kernel
theorem dX4_pair_24 : decode cX4_pair 24 = .ok (.invokestatic 87, 3) := by decide +kernel
theorem dX4_pair_27 : decode cX4_pair 27 = .ok (.ireturn, 1) := by decide +kernel
set_option maxRecDepth 20000 in
theorem ggX4_pause_X4_in : GoodIn wsX4_pause wsX4_in := goodIn_r _ [6] (by decide +kernel) (by decide +kernel)
set_option maxRecDepth 20000 in
theorem gX4_pause_X4_in : GoodIn wsX4_pause (va_wsS RX4 38 yX4_in wsX4_in) := goodIn_app (goodIn_of _ (by decide +kernel)) ggX4_pause_X4_in
set_option maxRecDepth 20000 in
theorem ggX4_pause_X4_refused : GoodIn wsX4_pause wsX4_refused := goodIn_r _ [10, 11, 27, 28, 29, 30, 31, 32, 33, 34, 35, 36, 37] (by decide +kernel) (by decide +kernel)
set_option maxRecDepth 20000 in
theorem gX4_pause_X4_refused : GoodIn wsX4_pause (wsV RX4 95 RX4 yX4_refused wsX4_refused) := goodIn_app (goodIn_of _ (by decide +kernel)) ggX4_pause_X4_refused
set_option maxRecDepth 20000 in
theorem ggX4_pause_X4_note : GoodIn wsX4_pause wsX4_note := goodIn_r _ [15, 16, 17, 2, 18, 19, 5, 20, 27, 28, 29, 30, 31, 32, 33, 34, 35, 36, 37] (by decide +kernel) (by decide +kernel)
set_option maxRecDepth 20000 in
theorem gX4_pause_X4_note : GoodIn wsX4_pause (wsV RX4 130 RX4 yX4_note wsX4_note) := goodIn_app (goodIn_of _ (by decide +kernel)) ggX4_pause_X4_note
set_option maxRecDepth 20000 in
theorem ggX4_pause_X4_waitOn : GoodIn wsX4_pause wsX4_waitOn := goodIn_r _ [23] (by decide +kernel) (by decide +kernel)
set_option maxRecDepth 20000 in
theorem gX4_pause_X4_waitOn : GoodIn wsX4_pause (va_wsS RX4 83 yX4_waitOn wsX4_waitOn) := goodIn_app (goodIn_of _ (by decide +kernel)) ggX4_pause_X4_waitOn
set_option maxRecDepth 20000 in
theorem ggX4_pause_X4_offsetOf : GoodIn wsX4_pause wsX4_offsetOf := goodIn_r _ [26] (by decide +kernel) (by decide +kernel)
set_option maxRecDepth 20000 in
theorem gX4_pause_X4_offsetOf : GoodIn wsX4_pause (va_wsS RX4 72 yX4_offsetOf wsX4_offsetOf) := goodIn_app (goodIn_of _ (by decide +kernel)) ggX4_pause_X4_offsetOf
theorem dX4_pause_0 : decode cX4_pause 0 = .ok (.aload_n 0, 1) := by decide +kernel
theorem dX4_pause_1 : decode cX4_pause 1 = .ok (.iload_n 1, 1) := by decide +kernel
theorem dX4_pause_2 : decode cX4_pause 2 = .ok (.i2l, 1) := by decide +kernel
theorem dX4_pause_3 : decode cX4_pause 3 = .ok (.lconst 1, 1) := by decide +kernel
theorem dX4_pause_4 : decode cX4_pause 4 = .ok (.ldc2_w 133, 3) := by decide +kernel
theorem dX4_pause_7 : decode cX4_pause 7 = .ok (.invokestatic 38, 3) := by decide +kernel
theorem dX4_pause_10 : decode cX4_pause 10 = .ok (.ifCond .eq 7, 3) := by decide +kernel
theorem dX4_pause_13 : decode cX4_pause 13 = .ok (.iconst 0, 1) := by decide +kernel
theorem dX4_pause_14 : decode cX4_pause 14 = .ok (.goto 4, 3) := by decide +kernel
theorem dX4_pause_17 : decode cX4_pause 17 = .ok (.iconst 1, 1) := by decide +kernel
theorem dX4_pause_18 : decode cX4_pause 18 = .ok (.invokevirtual 95, 3) := by decide +kernel
theorem dX4_pause_21 : decode cX4_pause 21 = .ok (.ifCond .eq 5, 3) := by decide +kernel
theorem dX4_pause_24 : decode cX4_pause 24 = .ok (.iconst 0, 1) := by decide +kernel
theorem dX4_pause_25 : decode cX4_pause 25 = .ok (.ireturn, 1) := by decide +kernel
theorem dX4_pause_26 : decode cX4_pause 26 = .ok (.aload_n 0, 1) := by decide +kernel
theorem dX4_pause_27 : decode cX4_pause 27 = .ok (.invokevirtual 130, 3) := by decide +kernel
theorem dX4_pause_30 : decode cX4_pause 30 = .ok (.aload_n 0, 1) := by decide +kernel
theorem dX4_pause_31 : decode cX4_pause 31 = .ok (.getfield 16, 3) := by decide +kernel
theorem dX4_pause_34 : decode cX4_pause 34 = .ok (.iload_n 1, 1) := by decide +kernel
theorem dX4_pause_35 : decode cX4_pause 35 = .ok (.invokestatic 83, 3) := by decide +kernel
theorem dX4_pause_38 : decode cX4_pause 38 = .ok (.aload_n 0, 1) := by decide +kernel
theorem dX4_pause_39 : decode cX4_pause 39 = .ok (.getfield 16, 3) := by decide +kernel
theorem dX4_pause_42 : decode cX4_pause 42 = .ok (.invokestatic 72, 3) := by decide +kernel
theorem dX4_pause_45 : decode cX4_pause 45 = .ok (.ireturn, 1) := by decide +kernel
set_option maxRecDepth 20000 in
theorem ggX4_set_X4_isSetting : GoodIn wsX4_set wsX4_isSetting := goodIn_r _ [5, 6, 7, 8, 9, 10, 11, 12, 13, 4, 14] (by decide +kernel) (by decide +kernel)
set_option maxRecDepth 20000 in
theorem gX4_set_X4_isSetting : GoodIn wsX4_set (va_wsS RX4 135 yX4_isSetting wsX4_isSetting) := goodIn_app (goodIn_of _ (by decide +kernel)) ggX4_set_X4_isSetting
set_option maxRecDepth 20000 in
theorem ggX4_set_X4_refused : GoodIn wsX4_set wsX4_refused := goodIn_r _ [18, 19, 29, 30, 31, 32, 33, 34, 35, 36, 37, 38, 39] (by decide +kernel) (by decide +kernel)
set_option maxRecDepth 20000 in
theorem gX4_set_X4_refused : GoodIn wsX4_set (wsV RX4 95 RX4 yX4_refused wsX4_refused) := goodIn_app (goodIn_of _ (by decide +kernel)) ggX4_set_X4_refused
set_option maxRecDepth 20000 in
theorem ggX4_set_X4_note : GoodIn wsX4_set wsX4_note := goodIn_r _ [23, 24, 25, 1, 26, 27, 4, 28, 29, 30, 31, 32, 33, 34, 35, 36, 37, 38, 39] (by decide +kernel) (by decide +kernel)
set_option maxRecDepth 20000 in
theorem gX4_set_X4_note : GoodIn wsX4_set (wsV RX4 130 RX4 yX4_note wsX4_note) := goodIn_app (goodIn_of _ (by decide +kernel)) ggX4_set_X4_note
theorem dX4_set_0 : decode cX4_set 0 = .ok (.aload_n 0, 1) := by decide +kernel
theorem dX4_set_1 : decode cX4_set 1 = .ok (.iload_n 1, 1) := by decide +kernel
theorem dX4_set_2 : decode cX4_set 2 = .ok (.iload_n 2, 1) := by decide +kernel
theorem dX4_set_3 : decode cX4_set 3 = .ok (.invokestatic 135, 3) := by decide +kernel
theorem dX4_set_6 : decode cX4_set 6 = .ok (.ifCond .eq 7, 3) := by decide +kernel
theorem dX4_set_9 : decode cX4_set 9 = .ok (.iconst 0, 1) := by decide +kernel
theorem dX4_set_10 : decode cX4_set 10 = .ok (.goto 4, 3) := by decide +kernel
theorem dX4_set_13 : decode cX4_set 13 = .ok (.iconst 1, 1) := by decide +kernel
theorem dX4_set_14 : decode cX4_set 14 = .ok (.invokevirtual 95, 3) := by decide +kernel
theorem dX4_set_17 : decode cX4_set 17 = .ok (.ifCond .eq 5, 3) := by decide +kernel
theorem dX4_set_20 : decode cX4_set 20 = .ok (.iconst 0, 1) := by decide +kernel
theorem dX4_set_21 : decode cX4_set 21 = .ok (.ireturn, 1) := by decide +kernel
theorem dX4_set_22 : decode cX4_set 22 = .ok (.aload_n 0, 1) := by decide +kernel
theorem dX4_set_23 : decode cX4_set 23 = .ok (.invokevirtual 130, 3) := by decide +kernel
theorem dX4_set_26 : decode cX4_set 26 = .ok (.aload_n 0, 1) := by decide +kernel
theorem dX4_set_27 : decode cX4_set 27 = .ok (.getfield 16, 3) := by decide +kernel
theorem dX4_set_30 : decode cX4_set 30 = .ok (.iload_n 1, 1) := by decide +kernel
theorem dX4_set_31 : decode cX4_set 31 = .ok (.iaload, 1) := by decide +kernel
theorem dX4_set_32 : decode cX4_set 32 = .ok (.istore_n 3, 1) := by decide +kernel
theorem dX4_set_33 : decode cX4_set 33 = .ok (.aload_n 0, 1) := by decide +kernel
theorem dX4_set_34 : decode cX4_set 34 = .ok (.getfield 16, 3) := by decide +kernel
theorem dX4_set_37 : decode cX4_set 37 = .ok (.iload_n 1, 1) := by decide +kernel
theorem dX4_set_38 : decode cX4_set 38 = .ok (.iload_n 2, 1) := by decide +kernel
theorem dX4_set_39 : decode cX4_set 39 = .ok (.iastore, 1) := by decide +kernel
theorem dX4_set_40 : decode cX4_set 40 = .ok (.iload_n 3, 1) := by decide +kernel
theorem dX4_set_41 : decode cX4_set 41 = .ok (.ireturn, 1) := by decide +kernel
set_option maxRecDepth 20000 in
theorem ggX4_isUnknown_X4_in : GoodIn wsX4_isUnknown wsX4_in := goodIn_r _ [4] (by decide +kernel) (by decide +kernel)
set_option maxRecDepth 20000 in
theorem gX4_isUnknown_X4_in : GoodIn wsX4_isUnknown (va_wsS RX4 38 yX4_in wsX4_in) := goodIn_app (goodIn_of _ (by decide +kernel)) ggX4_isUnknown_X4_in
theorem dX4_isUnknown_0 : decode cX4_isUnknown 0 = .ok (.iload_n 1, 1) := by decide +kernel
theorem dX4_isUnknown_1 : decode cX4_isUnknown 1 = .ok (.i2l, 1) := by decide +kernel
theorem dX4_isUnknown_2 : decode cX4_isUnknown 2 = .ok (.lconst 0, 1) := by decide +kernel
theorem dX4_isUnknown_3 : decode cX4_isUnknown 3 = .ok (.aload_n 0, 1) := by decide +kernel
theorem dX4_isUnknown_4 : decode cX4_isUnknown 4 = .ok (.bipush 9, 2) := by decide +kernel
theorem dX4_isUnknown_6 : decode cX4_isUnknown 6 = .ok (.iaload, 1) := by decide +kernel
theorem dX4_isUnknown_7 : decode cX4_isUnknown 7 = .ok (.iconst 1, 1) := by decide +kernel
theorem dX4_isUnknown_8 : decode cX4_isUnknown 8 = .ok (.isub, 1) := by decide +kernel
theorem dX4_isUnknown_9 : decode cX4_isUnknown 9 = .ok (.i2l, 1) := by decide +kernel
theorem dX4_isUnknown_10 : decode cX4_isUnknown 10 = .ok (.invokestatic 38, 3) := by decide +kernel
theorem dX4_isUnknown_13 : decode cX4_isUnknown 13 = .ok (.ireturn, 1) := by decide +kernel
set_option maxRecDepth 20000 in
theorem ggX4_choose_X4_isUnknown : GoodIn wsX4_choose wsX4_isUnknown := goodIn_r _ [5, 6, 7, 4, 8] (by decide +kernel) (by decide +kernel)
set_option maxRecDepth 20000 in
theorem gX4_choose_X4_isUnknown : GoodIn wsX4_choose (va_wsS RX4 139 yX4_isUnknown wsX4_isUnknown) := goodIn_app (goodIn_of _ (by decide +kernel)) ggX4_choose_X4_isUnknown
set_option maxRecDepth 20000 in
theorem ggX4_choose_X4_refused : GoodIn wsX4_choose wsX4_refused := goodIn_r _ [12, 13, 23, 24, 25, 26, 27, 28, 29, 30, 31, 32, 33] (by decide +kernel) (by decide +kernel)
set_option maxRecDepth 20000 in
theorem gX4_choose_X4_refused : GoodIn wsX4_choose (wsV RX4 95 RX4 yX4_refused wsX4_refused) := goodIn_app (goodIn_of _ (by decide +kernel)) ggX4_choose_X4_refused
set_option maxRecDepth 20000 in
theorem ggX4_choose_X4_note : GoodIn wsX4_choose wsX4_note := goodIn_r _ [17, 18, 19, 1, 20, 21, 4, 22, 23, 24, 25, 26, 27, 28, 29, 30, 31, 32, 33] (by decide +kernel) (by decide +kernel)
set_option maxRecDepth 20000 in
theorem gX4_choose_X4_note : GoodIn wsX4_choose (wsV RX4 130 RX4 yX4_note wsX4_note) := goodIn_app (goodIn_of _ (by decide +kernel)) ggX4_choose_X4_note
theorem dX4_choose_0 : decode cX4_choose 0 = .ok (.aload_n 0, 1) := by decide +kernel
theorem dX4_choose_1 : decode cX4_choose 1 = .ok (.aload_n 0, 1) := by decide +kernel
theorem dX4_choose_2 : decode cX4_choose 2 = .ok (.getfield 16, 3) := by decide +kernel
theorem dX4_choose_5 : decode cX4_choose 5 = .ok (.iload_n 1, 1) := by decide +kernel
theorem dX4_choose_6 : decode cX4_choose 6 = .ok (.invokestatic 139, 3) := by decide +kernel
theorem dX4_choose_9 : decode cX4_choose 9 = .ok (.ifCond .eq 7, 3) := by decide +kernel
theorem dX4_choose_12 : decode cX4_choose 12 = .ok (.iconst 0, 1) := by decide +kernel
theorem dX4_choose_13 : decode cX4_choose 13 = .ok (.goto 4, 3) := by decide +kernel
theorem dX4_choose_16 : decode cX4_choose 16 = .ok (.iconst 1, 1) := by decide +kernel
theorem dX4_choose_17 : decode cX4_choose 17 = .ok (.invokevirtual 95, 3) := by decide +kernel
theorem dX4_choose_20 : decode cX4_choose 20 = .ok (.ifCond .eq 5, 3) := by decide +kernel
theorem dX4_choose_23 : decode cX4_choose 23 = .ok (.iconst 0, 1) := by decide +kernel
theorem dX4_choose_24 : decode cX4_choose 24 = .ok (.ireturn, 1) := by decide +kernel
theorem dX4_choose_25 : decode cX4_choose 25 = .ok (.aload_n 0, 1) := by decide +kernel
theorem dX4_choose_26 : decode cX4_choose 26 = .ok (.invokevirtual 130, 3) := by decide +kernel
theorem dX4_choose_29 : decode cX4_choose 29 = .ok (.aload_n 0, 1) := by decide +kernel
theorem dX4_choose_30 : decode cX4_choose 30 = .ok (.getfield 16, 3) := by decide +kernel
theorem dX4_choose_33 : decode cX4_choose 33 = .ok (.bipush 10, 2) := by decide +kernel
theorem dX4_choose_35 : decode cX4_choose 35 = .ok (.iaload, 1) := by decide +kernel
theorem dX4_choose_36 : decode cX4_choose 36 = .ok (.istore_n 2, 1) := by decide +kernel
theorem dX4_choose_37 : decode cX4_choose 37 = .ok (.aload_n 0, 1) := by decide +kernel
theorem dX4_choose_38 : decode cX4_choose 38 = .ok (.getfield 16, 3) := by decide +kernel
theorem dX4_choose_41 : decode cX4_choose 41 = .ok (.bipush 10, 2) := by decide +kernel
theorem dX4_choose_43 : decode cX4_choose 43 = .ok (.iload_n 1, 1) := by decide +kernel
theorem dX4_choose_44 : decode cX4_choose 44 = .ok (.iastore, 1) := by decide +kernel
theorem dX4_choose_45 : decode cX4_choose 45 = .ok (.iload_n 2, 1) := by decide +kernel
theorem dX4_choose_46 : decode cX4_choose 46 = .ok (.ireturn, 1) := by decide +kernel
set_option maxRecDepth 20000 in
theorem ggX4_add_X4_in : GoodIn wsX4_add wsX4_in := goodIn_r _ [6] (by decide +kernel) (by decide +kernel)
set_option maxRecDepth 20000 in
theorem gX4_add_X4_in : GoodIn wsX4_add (va_wsS RX4 38 yX4_in wsX4_in) := goodIn_app (goodIn_of _ (by decide +kernel)) ggX4_add_X4_in
set_option maxRecDepth 20000 in
theorem ggX4_add_X4_refused : GoodIn wsX4_add wsX4_refused := goodIn_r _ [10, 11, 21, 22, 23, 24, 25, 26, 27, 28, 29, 30, 31] (by decide +kernel) (by decide +kernel)
set_option maxRecDepth 20000 in
theorem gX4_add_X4_refused : GoodIn wsX4_add (wsV RX4 95 RX4 yX4_refused wsX4_refused) := goodIn_app (goodIn_of _ (by decide +kernel)) ggX4_add_X4_refused
set_option maxRecDepth 20000 in
theorem ggX4_add_X4_note : GoodIn wsX4_add wsX4_note := goodIn_r _ [15, 16, 17, 2, 18, 19, 5, 20, 21, 22, 23, 24, 25, 26, 27, 28, 29, 30, 31] (by decide +kernel) (by decide +kernel)
set_option maxRecDepth 20000 in
theorem gX4_add_X4_note : GoodIn wsX4_add (wsV RX4 130 RX4 yX4_note wsX4_note) := goodIn_app (goodIn_of _ (by decide +kernel)) ggX4_add_X4_note
theorem dX4_add_0 : decode cX4_add 0 = .ok (.aload_n 0, 1) := by decide +kernel
theorem dX4_add_1 : decode cX4_add 1 = .ok (.iload_n 1, 1) := by decide +kernel
theorem dX4_add_2 : decode cX4_add 2 = .ok (.i2l, 1) := by decide +kernel
theorem dX4_add_3 : decode cX4_add 3 = .ok (.lconst 1, 1) := by decide +kernel
theorem dX4_add_4 : decode cX4_add 4 = .ok (.ldc2_w 42, 3) := by decide +kernel
theorem dX4_add_7 : decode cX4_add 7 = .ok (.invokestatic 38, 3) := by decide +kernel
theorem dX4_add_10 : decode cX4_add 10 = .ok (.ifCond .ne 7, 3) := by decide +kernel
theorem dX4_add_13 : decode cX4_add 13 = .ok (.iconst 1, 1) := by decide +kernel
theorem dX4_add_14 : decode cX4_add 14 = .ok (.goto 20, 3) := by decide +kernel
theorem dX4_add_17 : decode cX4_add 17 = .ok (.aload_n 0, 1) := by decide +kernel
theorem dX4_add_18 : decode cX4_add 18 = .ok (.getfield 16, 3) := by decide +kernel
theorem dX4_add_21 : decode cX4_add 21 = .ok (.bipush 9, 2) := by decide +kernel
theorem dX4_add_23 : decode cX4_add 23 = .ok (.iaload, 1) := by decide +kernel
theorem dX4_add_24 : decode cX4_add 24 = .ok (.bipush 6, 2) := by decide +kernel
theorem dX4_add_26 : decode cX4_add 26 = .ok (.if_icmp .ne 7, 3) := by decide +kernel
theorem dX4_add_29 : decode cX4_add 29 = .ok (.iconst 2, 1) := by decide +kernel
theorem dX4_add_30 : decode cX4_add 30 = .ok (.goto 4, 3) := by decide +kernel
theorem dX4_add_33 : decode cX4_add 33 = .ok (.iconst 0, 1) := by decide +kernel
theorem dX4_add_34 : decode cX4_add 34 = .ok (.invokevirtual 95, 3) := by decide +kernel
theorem dX4_add_37 : decode cX4_add 37 = .ok (.ifCond .eq 5, 3) := by decide +kernel
theorem dX4_add_40 : decode cX4_add 40 = .ok (.iconst 0, 1) := by decide +kernel
theorem dX4_add_41 : decode cX4_add 41 = .ok (.ireturn, 1) := by decide +kernel
theorem dX4_add_42 : decode cX4_add 42 = .ok (.aload_n 0, 1) := by decide +kernel
theorem dX4_add_43 : decode cX4_add 43 = .ok (.invokevirtual 130, 3) := by decide +kernel
theorem dX4_add_46 : decode cX4_add 46 = .ok (.aload_n 0, 1) := by decide +kernel
theorem dX4_add_47 : decode cX4_add 47 = .ok (.getfield 16, 3) := by decide +kernel
theorem dX4_add_50 : decode cX4_add 50 = .ok (.bipush 15, 2) := by decide +kernel
theorem dX4_add_52 : decode cX4_add 52 = .ok (.aload_n 0, 1) := by decide +kernel
theorem dX4_add_53 : decode cX4_add 53 = .ok (.getfield 16, 3) := by decide +kernel
theorem dX4_add_56 : decode cX4_add 56 = .ok (.bipush 9, 2) := by decide +kernel
theorem dX4_add_58 : decode cX4_add 58 = .ok (.iaload, 1) := by decide +kernel
theorem dX4_add_59 : decode cX4_add 59 = .ok (.iadd, 1) := by decide +kernel
theorem dX4_add_60 : decode cX4_add 60 = .ok (.iload_n 1, 1) := by decide +kernel
theorem dX4_add_61 : decode cX4_add 61 = .ok (.iastore, 1) := by decide +kernel
theorem dX4_add_62 : decode cX4_add 62 = .ok (.aload_n 0, 1) := by decide +kernel
theorem dX4_add_63 : decode cX4_add 63 = .ok (.getfield 16, 3) := by decide +kernel
theorem dX4_add_66 : decode cX4_add 66 = .ok (.bipush 9, 2) := by decide +kernel
theorem dX4_add_68 : decode cX4_add 68 = .ok (.dup2, 1) := by decide +kernel
theorem dX4_add_69 : decode cX4_add 69 = .ok (.iaload, 1) := by decide +kernel
theorem dX4_add_70 : decode cX4_add 70 = .ok (.iconst 1, 1) := by decide +kernel
theorem dX4_add_71 : decode cX4_add 71 = .ok (.iadd, 1) := by decide +kernel
theorem dX4_add_72 : decode cX4_add 72 = .ok (.iastore, 1) := by decide +kernel
theorem dX4_add_73 : decode cX4_add 73 = .ok (.aload_n 0, 1) := by decide +kernel
theorem dX4_add_74 : decode cX4_add 74 = .ok (.getfield 16, 3) := by decide +kernel
theorem dX4_add_77 : decode cX4_add 77 = .ok (.bipush 9, 2) := by decide +kernel
theorem dX4_add_79 : decode cX4_add 79 = .ok (.iaload, 1) := by decide +kernel
theorem dX4_add_80 : decode cX4_add 80 = .ok (.iconst 1, 1) := by decide +kernel
theorem dX4_add_81 : decode cX4_add 81 = .ok (.isub, 1) := by decide +kernel
theorem dX4_add_82 : decode cX4_add 82 = .ok (.ireturn, 1) := by decide +kernel
set_option maxRecDepth 20000 in
theorem ggX4_free_X4_note : GoodIn wsX4_free wsX4_note := goodIn_r _ [7, 8, 9, 2, 10, 11, 6, 12, 19, 20, 21, 22, 23, 24, 25, 26, 27, 28, 29] (by decide +kernel) (by decide +kernel)
set_option maxRecDepth 20000 in
theorem gX4_free_X4_note : GoodIn wsX4_free (wsV RX4 130 RX4 yX4_note wsX4_note) := goodIn_app (goodIn_of _ (by decide +kernel)) ggX4_free_X4_note
set_option maxRecDepth 20000 in
theorem ggX4_free_X4_freeOn : GoodIn wsX4_free wsX4_freeOn := goodIn_r _ [15, 16, 17, 6, 18] (by decide +kernel) (by decide +kernel)
set_option maxRecDepth 20000 in
theorem gX4_free_X4_freeOn : GoodIn wsX4_free (va_wsS RX4 143 yX4_freeOn wsX4_freeOn) := goodIn_app (goodIn_of _ (by decide +kernel)) ggX4_free_X4_freeOn
theorem dX4_free_0 : decode cX4_free 0 = .ok (.aload_n 0, 1) := by decide +kernel
theorem dX4_free_1 : decode cX4_free 1 = .ok (.iconst 0, 1) := by decide +kernel
theorem dX4_free_2 : decode cX4_free 2 = .ok (.putfield 32, 3) := by decide +kernel
theorem dX4_free_5 : decode cX4_free 5 = .ok (.aload_n 0, 1) := by decide +kernel
theorem dX4_free_6 : decode cX4_free 6 = .ok (.invokevirtual 130, 3) := by decide +kernel
theorem dX4_free_9 : decode cX4_free 9 = .ok (.aload_n 0, 1) := by decide +kernel
theorem dX4_free_10 : decode cX4_free 10 = .ok (.getfield 16, 3) := by decide +kernel
theorem dX4_free_13 : decode cX4_free 13 = .ok (.bipush 11, 2) := by decide +kernel
theorem dX4_free_15 : decode cX4_free 15 = .ok (.iaload, 1) := by decide +kernel
theorem dX4_free_16 : decode cX4_free 16 = .ok (.istore_n 1, 1) := by decide +kernel
theorem dX4_free_17 : decode cX4_free 17 = .ok (.aload_n 0, 1) := by decide +kernel
theorem dX4_free_18 : decode cX4_free 18 = .ok (.getfield 16, 3) := by decide +kernel
theorem dX4_free_21 : decode cX4_free 21 = .ok (.invokestatic 143, 3) := by decide +kernel
theorem dX4_free_24 : decode cX4_free 24 = .ok (.iload_n 1, 1) := by decide +kernel
theorem dX4_free_25 : decode cX4_free 25 = .ok (.ireturn, 1) := by decide +kernel
set_option maxRecDepth 20000 in
theorem ggX4_balance_X4_refused : GoodIn wsX4_balance wsX4_refused := goodIn_r _ [6, 7, 48, 49, 50, 51, 52, 53, 54, 55, 56, 57, 58] (by decide +kernel) (by decide +kernel)
set_option maxRecDepth 20000 in
theorem gX4_balance_X4_refused : GoodIn wsX4_balance (wsV RX4 95 RX4 yX4_refused wsX4_refused) := goodIn_app (goodIn_of _ (by decide +kernel)) ggX4_balance_X4_refused
set_option maxRecDepth 20000 in
theorem ggX4_balance_X4_note : GoodIn wsX4_balance wsX4_note := goodIn_r _ [11, 12, 13, 1, 14, 15, 5, 16, 48, 49, 50, 51, 52, 53, 54, 55, 56, 57, 58] (by decide +kernel) (by decide +kernel)
set_option maxRecDepth 20000 in
theorem gX4_balance_X4_note : GoodIn wsX4_balance (wsV RX4 130 RX4 yX4_note wsX4_note) := goodIn_app (goodIn_of _ (by decide +kernel)) ggX4_balance_X4_note
set_option maxRecDepth 20000 in
theorem ggX4_balance_X4_balanceOn : GoodIn wsX4_balance wsX4_balanceOn := goodIn_r _ [19, 20, 21, 5, 22, 23, 24, 25, 26, 27, 28, 29, 30, 31, 32, 33, 34, 35, 36, 37, 38, 39, 40, 41, 42, 43, 44, 45, 46, 47] (by decide +kernel) (by decide +kernel)
set_option maxRecDepth 20000 in
theorem gX4_balance_X4_balanceOn : GoodIn wsX4_balance (va_wsS RX4 147 yX4_balanceOn wsX4_balanceOn) := goodIn_app (goodIn_of _ (by decide +kernel)) ggX4_balance_X4_balanceOn
theorem dX4_balance_0 : decode cX4_balance 0 = .ok (.aload_n 0, 1) := by decide +kernel
theorem dX4_balance_1 : decode cX4_balance 1 = .ok (.aload_n 0, 1) := by decide +kernel
theorem dX4_balance_2 : decode cX4_balance 2 = .ok (.getfield 16, 3) := by decide +kernel
theorem dX4_balance_5 : decode cX4_balance 5 = .ok (.bipush 11, 2) := by decide +kernel
theorem dX4_balance_7 : decode cX4_balance 7 = .ok (.iaload, 1) := by decide +kernel
theorem dX4_balance_8 : decode cX4_balance 8 = .ok (.invokevirtual 95, 3) := by decide +kernel
theorem dX4_balance_11 : decode cX4_balance 11 = .ok (.ifCond .eq 5, 3) := by decide +kernel
theorem dX4_balance_14 : decode cX4_balance 14 = .ok (.iconst 0, 1) := by decide +kernel
theorem dX4_balance_15 : decode cX4_balance 15 = .ok (.ireturn, 1) := by decide +kernel
theorem dX4_balance_16 : decode cX4_balance 16 = .ok (.aload_n 0, 1) := by decide +kernel
theorem dX4_balance_17 : decode cX4_balance 17 = .ok (.invokevirtual 130, 3) := by decide +kernel
theorem dX4_balance_20 : decode cX4_balance 20 = .ok (.aload_n 0, 1) := by decide +kernel
theorem dX4_balance_21 : decode cX4_balance 21 = .ok (.getfield 16, 3) := by decide +kernel
theorem dX4_balance_24 : decode cX4_balance 24 = .ok (.invokestatic 147, 3) := by decide +kernel
theorem dX4_balance_27 : decode cX4_balance 27 = .ok (.aload_n 0, 1) := by decide +kernel
theorem dX4_balance_28 : decode cX4_balance 28 = .ok (.getfield 16, 3) := by decide +kernel
theorem dX4_balance_31 : decode cX4_balance 31 = .ok (.iconst 2, 1) := by decide +kernel
theorem dX4_balance_32 : decode cX4_balance 32 = .ok (.iaload, 1) := by decide +kernel
theorem dX4_balance_33 : decode cX4_balance 33 = .ok (.ireturn, 1) := by decide +kernel
set_option maxRecDepth 20000 in
theorem ggX4_undo_X4_refused : GoodIn wsX4_undo wsX4_refused := goodIn_r _ [8, 9, 13, 14, 15, 16, 17, 18, 19, 20, 21, 22, 23] (by decide +kernel) (by decide +kernel)
set_option maxRecDepth 20000 in
theorem gX4_undo_X4_refused : GoodIn wsX4_undo (wsV RX4 95 RX4 yX4_refused wsX4_refused) := goodIn_app (goodIn_of _ (by decide +kernel)) ggX4_undo_X4_refused
set_option maxRecDepth 20000 in
theorem ggX4_undo_X4_copyPage : GoodIn wsX4_undo wsX4_copyPage := goodIn_r _ [12] (by decide +kernel) (by decide +kernel)
set_option maxRecDepth 20000 in
theorem gX4_undo_X4_copyPage : GoodIn wsX4_undo (va_wsS RX4 119 yX4_copyPage wsX4_copyPage) := goodIn_app (goodIn_of _ (by decide +kernel)) ggX4_undo_X4_copyPage
theorem dX4_undo_0 : decode cX4_undo 0 = .ok (.aload_n 0, 1) := by decide +kernel
theorem dX4_undo_1 : decode cX4_undo 1 = .ok (.aload_n 0, 1) := by decide +kernel
theorem dX4_undo_2 : decode cX4_undo 2 = .ok (.getfield 123, 3) := by decide +kernel
theorem dX4_undo_5 : decode cX4_undo 5 = .ok (.ifCond .ne 7, 3) := by decide +kernel
theorem dX4_undo_8 : decode cX4_undo 8 = .ok (.iconst 1, 1) := by decide +kernel
theorem dX4_undo_9 : decode cX4_undo 9 = .ok (.goto 4, 3) := by decide +kernel
theorem dX4_undo_12 : decode cX4_undo 12 = .ok (.iconst 0, 1) := by decide +kernel
theorem dX4_undo_13 : decode cX4_undo 13 = .ok (.invokevirtual 95, 3) := by decide +kernel
theorem dX4_undo_16 : decode cX4_undo 16 = .ok (.ifCond .eq 5, 3) := by decide +kernel
theorem dX4_undo_19 : decode cX4_undo 19 = .ok (.iconst 0, 1) := by decide +kernel
theorem dX4_undo_20 : decode cX4_undo 20 = .ok (.ireturn, 1) := by decide +kernel
theorem dX4_undo_21 : decode cX4_undo 21 = .ok (.aload_n 0, 1) := by decide +kernel
theorem dX4_undo_22 : decode cX4_undo 22 = .ok (.dup, 1) := by decide +kernel
theorem dX4_undo_23 : decode cX4_undo 23 = .ok (.getfield 123, 3) := by decide +kernel
theorem dX4_undo_26 : decode cX4_undo 26 = .ok (.iconst 1, 1) := by decide +kernel
theorem dX4_undo_27 : decode cX4_undo 27 = .ok (.isub, 1) := by decide +kernel
theorem dX4_undo_28 : decode cX4_undo 28 = .ok (.putfield 123, 3) := by decide +kernel
theorem dX4_undo_31 : decode cX4_undo 31 = .ok (.aload_n 0, 1) := by decide +kernel
theorem dX4_undo_32 : decode cX4_undo 32 = .ok (.getfield 22, 3) := by decide +kernel
theorem dX4_undo_35 : decode cX4_undo 35 = .ok (.bipush 101, 2) := by decide +kernel
theorem dX4_undo_37 : decode cX4_undo 37 = .ok (.aload_n 0, 1) := by decide +kernel
theorem dX4_undo_38 : decode cX4_undo 38 = .ok (.getfield 123, 3) := by decide +kernel
theorem dX4_undo_41 : decode cX4_undo 41 = .ok (.imul, 1) := by decide +kernel
theorem dX4_undo_42 : decode cX4_undo 42 = .ok (.aload_n 0, 1) := by decide +kernel
theorem dX4_undo_43 : decode cX4_undo 43 = .ok (.getfield 16, 3) := by decide +kernel
theorem dX4_undo_46 : decode cX4_undo 46 = .ok (.iconst 0, 1) := by decide +kernel
theorem dX4_undo_47 : decode cX4_undo 47 = .ok (.invokestatic 119, 3) := by decide +kernel
theorem dX4_undo_50 : decode cX4_undo 50 = .ok (.aload_n 0, 1) := by decide +kernel
theorem dX4_undo_51 : decode cX4_undo 51 = .ok (.getfield 123, 3) := by decide +kernel
theorem dX4_undo_54 : decode cX4_undo 54 = .ok (.ireturn, 1) := by decide +kernel
set_option maxRecDepth 20000 in
theorem ggX4_value_X4_in : GoodIn wsX4_value wsX4_in := goodIn_r _ [6] (by decide +kernel) (by decide +kernel)
set_option maxRecDepth 20000 in
theorem gX4_value_X4_in : GoodIn wsX4_value (va_wsS RX4 38 yX4_in wsX4_in) := goodIn_app (goodIn_of _ (by decide +kernel)) ggX4_value_X4_in
set_option maxRecDepth 20000 in
theorem ggX4_value_X4_refused : GoodIn wsX4_value wsX4_refused := goodIn_r _ [10, 11, 15, 16, 17, 18, 19, 20, 21, 22, 23, 24, 25] (by decide +kernel) (by decide +kernel)
set_option maxRecDepth 20000 in
theorem gX4_value_X4_refused : GoodIn wsX4_value (wsV RX4 95 RX4 yX4_refused wsX4_refused) := goodIn_app (goodIn_of _ (by decide +kernel)) ggX4_value_X4_refused
set_option maxRecDepth 20000 in
theorem ggX4_value_X4_ten : GoodIn wsX4_value wsX4_ten := goodIn_r _ [14] (by decide +kernel) (by decide +kernel)
set_option maxRecDepth 20000 in
theorem gX4_value_X4_ten : GoodIn wsX4_value (va_wsS RX4 52 yX4_ten wsX4_ten) := goodIn_app (goodIn_of _ (by decide +kernel)) ggX4_value_X4_ten
theorem dX4_value_0 : decode cX4_value 0 = .ok (.aload_n 0, 1) := by decide +kernel
theorem dX4_value_1 : decode cX4_value 1 = .ok (.iload_n 1, 1) := by decide +kernel
theorem dX4_value_2 : decode cX4_value 2 = .ok (.i2l, 1) := by decide +kernel
theorem dX4_value_3 : decode cX4_value 3 = .ok (.lconst 0, 1) := by decide +kernel
theorem dX4_value_4 : decode cX4_value 4 = .ok (.ldc2_w 150, 3) := by decide +kernel
theorem dX4_value_7 : decode cX4_value 7 = .ok (.invokestatic 38, 3) := by decide +kernel
theorem dX4_value_10 : decode cX4_value 10 = .ok (.ifCond .eq 7, 3) := by decide +kernel
theorem dX4_value_13 : decode cX4_value 13 = .ok (.iconst 0, 1) := by decide +kernel
theorem dX4_value_14 : decode cX4_value 14 = .ok (.goto 4, 3) := by decide +kernel
theorem dX4_value_17 : decode cX4_value 17 = .ok (.iconst 1, 1) := by decide +kernel
theorem dX4_value_18 : decode cX4_value 18 = .ok (.invokevirtual 95, 3) := by decide +kernel
theorem dX4_value_21 : decode cX4_value 21 = .ok (.ifCond .eq 5, 3) := by decide +kernel
theorem dX4_value_24 : decode cX4_value 24 = .ok (.iconst 0, 1) := by decide +kernel
theorem dX4_value_25 : decode cX4_value 25 = .ok (.ireturn, 1) := by decide +kernel
theorem dX4_value_26 : decode cX4_value 26 = .ok (.aload_n 0, 1) := by decide +kernel
theorem dX4_value_27 : decode cX4_value 27 = .ok (.getfield 16, 3) := by decide +kernel
theorem dX4_value_30 : decode cX4_value 30 = .ok (.iconst 0, 1) := by decide +kernel
theorem dX4_value_31 : decode cX4_value 31 = .ok (.iaload, 1) := by decide +kernel
theorem dX4_value_32 : decode cX4_value 32 = .ok (.invokestatic 52, 3) := by decide +kernel
theorem dX4_value_35 : decode cX4_value 35 = .ok (.aload_n 0, 1) := by decide +kernel
theorem dX4_value_36 : decode cX4_value 36 = .ok (.getfield 16, 3) := by decide +kernel
theorem dX4_value_39 : decode cX4_value 39 = .ok (.iconst 2, 1) := by decide +kernel
theorem dX4_value_40 : decode cX4_value 40 = .ok (.iaload, 1) := by decide +kernel
theorem dX4_value_41 : decode cX4_value 41 = .ok (.imul, 1) := by decide +kernel
theorem dX4_value_42 : decode cX4_value 42 = .ok (.istore_n 2, 1) := by decide +kernel
theorem dX4_value_43 : decode cX4_value 43 = .ok (.aload_n 0, 1) := by decide +kernel
theorem dX4_value_44 : decode cX4_value 44 = .ok (.getfield 16, 3) := by decide +kernel
theorem dX4_value_47 : decode cX4_value 47 = .ok (.iconst 1, 1) := by decide +kernel
theorem dX4_value_48 : decode cX4_value 48 = .ok (.iaload, 1) := by decide +kernel
theorem dX4_value_49 : decode cX4_value 49 = .ok (.invokestatic 52, 3) := by decide +kernel
theorem dX4_value_52 : decode cX4_value 52 = .ok (.istore_n 3, 1) := by decide +kernel
theorem dX4_value_53 : decode cX4_value 53 = .ok (.iload_n 1, 1) := by decide +kernel
theorem dX4_value_54 : decode cX4_value 54 = .ok (.ifCond .ne 15, 3) := by decide +kernel
theorem dX4_value_57 : decode cX4_value 57 = .ok (.iconst 2, 1) := by decide +kernel
theorem dX4_value_58 : decode cX4_value 58 = .ok (.iload_n 2, 1) := by decide +kernel
theorem dX4_value_59 : decode cX4_value 59 = .ok (.imul, 1) := by decide +kernel
theorem dX4_value_60 : decode cX4_value 60 = .ok (.iload_n 3, 1) := by decide +kernel
theorem dX4_value_61 : decode cX4_value 61 = .ok (.iadd, 1) := by decide +kernel
theorem dX4_value_62 : decode cX4_value 62 = .ok (.iconst 2, 1) := by decide +kernel
theorem dX4_value_63 : decode cX4_value 63 = .ok (.iload_n 3, 1) := by decide +kernel
theorem dX4_value_64 : decode cX4_value 64 = .ok (.imul, 1) := by decide +kernel
theorem dX4_value_65 : decode cX4_value 65 = .ok (.idiv, 1) := by decide +kernel
theorem dX4_value_66 : decode cX4_value 66 = .ok (.goto 21, 3) := by decide +kernel
theorem dX4_value_69 : decode cX4_value 69 = .ok (.iload_n 1, 1) := by decide +kernel
theorem dX4_value_70 : decode cX4_value 70 = .ok (.iconst 1, 1) := by decide +kernel
theorem dX4_value_71 : decode cX4_value 71 = .ok (.if_icmp .ne 13, 3) := by decide +kernel
theorem dX4_value_74 : decode cX4_value 74 = .ok (.iload_n 2, 1) := by decide +kernel
theorem dX4_value_75 : decode cX4_value 75 = .ok (.iload_n 3, 1) := by decide +kernel
theorem dX4_value_76 : decode cX4_value 76 = .ok (.iadd, 1) := by decide +kernel
theorem dX4_value_77 : decode cX4_value 77 = .ok (.iconst 1, 1) := by decide +kernel
theorem dX4_value_78 : decode cX4_value 78 = .ok (.isub, 1) := by decide +kernel
theorem dX4_value_79 : decode cX4_value 79 = .ok (.iload_n 3, 1) := by decide +kernel
theorem dX4_value_80 : decode cX4_value 80 = .ok (.idiv, 1) := by decide +kernel
theorem dX4_value_81 : decode cX4_value 81 = .ok (.goto 6, 3) := by decide +kernel
theorem dX4_value_84 : decode cX4_value 84 = .ok (.iload_n 2, 1) := by decide +kernel
theorem dX4_value_85 : decode cX4_value 85 = .ok (.iload_n 3, 1) := by decide +kernel
theorem dX4_value_86 : decode cX4_value 86 = .ok (.idiv, 1) := by decide +kernel
theorem dX4_value_87 : decode cX4_value 87 = .ok (.ireturn, 1) := by decide +kernel
set_option maxRecDepth 20000 in
theorem ggX4_bestR_X4_isUnknown : GoodIn wsX4_bestR wsX4_isUnknown := goodIn_r _ [5, 6, 7, 4, 8] (by decide +kernel) (by decide +kernel)
set_option maxRecDepth 20000 in
theorem gX4_bestR_X4_isUnknown : GoodIn wsX4_bestR (va_wsS RX4 139 yX4_isUnknown wsX4_isUnknown) := goodIn_app (goodIn_of _ (by decide +kernel)) ggX4_bestR_X4_isUnknown
set_option maxRecDepth 20000 in
theorem ggX4_bestR_X4_refused : GoodIn wsX4_bestR wsX4_refused := goodIn_r _ [12, 13, 23, 24, 25, 26, 27, 28, 29, 30, 31, 32, 33] (by decide +kernel) (by decide +kernel)
set_option maxRecDepth 20000 in
theorem gX4_bestR_X4_refused : GoodIn wsX4_bestR (wsV RX4 95 RX4 yX4_refused wsX4_refused) := goodIn_app (goodIn_of _ (by decide +kernel)) ggX4_bestR_X4_refused
set_option maxRecDepth 20000 in
theorem ggX4_bestR_X4_missing : GoodIn wsX4_bestR wsX4_missing := goodIn_r _ [16, 17, 18, 4, 19] (by decide +kernel) (by decide +kernel)
set_option maxRecDepth 20000 in
theorem gX4_bestR_X4_missing : GoodIn wsX4_bestR (va_wsS RX4 62 yX4_missing wsX4_missing) := goodIn_app (goodIn_of _ (by decide +kernel)) ggX4_bestR_X4_missing
set_option maxRecDepth 20000 in
theorem ggX4_bestR_X4_size : GoodIn wsX4_bestR wsX4_size := goodIn_r _ [22] (by decide +kernel) (by decide +kernel)
set_option maxRecDepth 20000 in
theorem gX4_bestR_X4_size : GoodIn wsX4_bestR (va_wsS RX4 152 yX4_size wsX4_size) := goodIn_app (goodIn_of _ (by decide +kernel)) ggX4_bestR_X4_size
