theorem dX3_init_0 : decode cX3_init 0 = .ok (.aload_n 0, 1) := by decide +kernel
theorem dX3_init_1 : decode cX3_init 1 = .ok (.invokespecial 1, 3) := by decide +kernel
theorem dX3_init_4 : decode cX3_init 4 = .ok (.aload_n 0, 1) := by decide +kernel
theorem dX3_init_5 : decode cX3_init 5 = .ok (.new 7, 3) := by decide +kernel
theorem dX3_init_8 : decode cX3_init 8 = .ok (.dup, 1) := by decide +kernel
theorem dX3_init_9 : decode cX3_init 9 = .ok (.invokespecial 9, 3) := by decide +kernel
theorem dX3_init_12 : decode cX3_init 12 = .ok (.putfield 10, 3) := by decide +kernel
theorem dX3_init_15 : decode cX3_init 15 = .ok (.aload_n 0, 1) := by decide +kernel
theorem dX3_init_16 : decode cX3_init 16 = .ok (.new 16, 3) := by decide +kernel
theorem dX3_init_19 : decode cX3_init 19 = .ok (.dup, 1) := by decide +kernel
theorem dX3_init_20 : decode cX3_init 20 = .ok (.invokespecial 18, 3) := by decide +kernel
theorem dX3_init_23 : decode cX3_init 23 = .ok (.putfield 19, 3) := by decide +kernel
theorem dX3_init_26 : decode cX3_init 26 = .ok (.aload_n 0, 1) := by decide +kernel
theorem dX3_init_27 : decode cX3_init 27 = .ok (.new 16, 3) := by decide +kernel
theorem dX3_init_30 : decode cX3_init 30 = .ok (.dup, 1) := by decide +kernel
theorem dX3_init_31 : decode cX3_init 31 = .ok (.invokespecial 18, 3) := by decide +kernel
theorem dX3_init_34 : decode cX3_init 34 = .ok (.putfield 23, 3) := by decide +kernel
theorem dX3_init_37 : decode cX3_init 37 = .ok (.aload_n 0, 1) := by decide +kernel
theorem dX3_init_38 : decode cX3_init 38 = .ok (.bipush 14, 2) := by decide +kernel
theorem dX3_init_40 : decode cX3_init 40 = .ok (.anewarray 16, 3) := by decide +kernel
theorem dX3_init_43 : decode cX3_init 43 = .ok (.putfield 26, 3) := by decide +kernel
theorem dX3_init_46 : decode cX3_init 46 = .ok (.aload_n 0, 1) := by decide +kernel
theorem dX3_init_47 : decode cX3_init 47 = .ok (.iconst 2, 1) := by decide +kernel
theorem dX3_init_48 : decode cX3_init 48 = .ok (.anewarray 16, 3) := by decide +kernel
theorem dX3_init_51 : decode cX3_init 51 = .ok (.putfield 30, 3) := by decide +kernel
theorem dX3_init_54 : decode cX3_init 54 = .ok (.aload_n 0, 1) := by decide +kernel
theorem dX3_init_55 : decode cX3_init 55 = .ok (.iconst 2, 1) := by decide +kernel
theorem dX3_init_56 : decode cX3_init 56 = .ok (.newarray .boolean, 2) := by decide +kernel
theorem dX3_init_58 : decode cX3_init 58 = .ok (.putfield 33, 3) := by decide +kernel
theorem dX3_init_61 : decode cX3_init 61 = .ok (.iconst 0, 1) := by decide +kernel
theorem dX3_init_62 : decode cX3_init 62 = .ok (.istore_n 1, 1) := by decide +kernel
theorem dX3_init_63 : decode cX3_init 63 = .ok (.iload_n 1, 1) := by decide +kernel
theorem dX3_init_64 : decode cX3_init 64 = .ok (.aload_n 0, 1) := by decide +kernel
theorem dX3_init_65 : decode cX3_init 65 = .ok (.getfield 26, 3) := by decide +kernel
theorem dX3_init_68 : decode cX3_init 68 = .ok (.arraylength, 1) := by decide +kernel
theorem dX3_init_69 : decode cX3_init 69 = .ok (.if_icmp .ge 22, 3) := by decide +kernel
theorem dX3_init_72 : decode cX3_init 72 = .ok (.aload_n 0, 1) := by decide +kernel
theorem dX3_init_73 : decode cX3_init 73 = .ok (.getfield 26, 3) := by decide +kernel
theorem dX3_init_76 : decode cX3_init 76 = .ok (.iload_n 1, 1) := by decide +kernel
theorem dX3_init_77 : decode cX3_init 77 = .ok (.new 16, 3) := by decide +kernel
theorem dX3_init_80 : decode cX3_init 80 = .ok (.dup, 1) := by decide +kernel
theorem dX3_init_81 : decode cX3_init 81 = .ok (.invokespecial 18, 3) := by decide +kernel
theorem dX3_init_84 : decode cX3_init 84 = .ok (.aastore, 1) := by decide +kernel
theorem dX3_init_85 : decode cX3_init 85 = .ok (.iinc 1 1, 3) := by decide +kernel
theorem dX3_init_88 : decode cX3_init 88 = .ok (.goto (-25), 3) := by decide +kernel
theorem dX3_init_91 : decode cX3_init 91 = .ok (.iconst 0, 1) := by decide +kernel
theorem dX3_init_92 : decode cX3_init 92 = .ok (.istore_n 1, 1) := by decide +kernel
theorem dX3_init_93 : decode cX3_init 93 = .ok (.iload_n 1, 1) := by decide +kernel
theorem dX3_init_94 : decode cX3_init 94 = .ok (.aload_n 0, 1) := by decide +kernel
theorem dX3_init_95 : decode cX3_init 95 = .ok (.getfield 30, 3) := by decide +kernel
theorem dX3_init_98 : decode cX3_init 98 = .ok (.arraylength, 1) := by decide +kernel
theorem dX3_init_99 : decode cX3_init 99 = .ok (.if_icmp .ge 22, 3) := by decide +kernel
theorem dX3_init_102 : decode cX3_init 102 = .ok (.aload_n 0, 1) := by decide +kernel
theorem dX3_init_103 : decode cX3_init 103 = .ok (.getfield 30, 3) := by decide +kernel
theorem dX3_init_106 : decode cX3_init 106 = .ok (.iload_n 1, 1) := by decide +kernel
theorem dX3_init_107 : decode cX3_init 107 = .ok (.new 16, 3) := by decide +kernel
theorem dX3_init_110 : decode cX3_init 110 = .ok (.dup, 1) := by decide +kernel
theorem dX3_init_111 : decode cX3_init 111 = .ok (.invokespecial 18, 3) := by decide +kernel
theorem dX3_init_114 : decode cX3_init 114 = .ok (.aastore, 1) := by decide +kernel
theorem dX3_init_115 : decode cX3_init 115 = .ok (.iinc 1 1, 3) := by decide +kernel
theorem dX3_init_118 : decode cX3_init 118 = .ok (.goto (-25), 3) := by decide +kernel
theorem dX3_init_121 : decode cX3_init 121 = .ok (.return_, 1) := by decide +kernel
set_option maxRecDepth 20000 in
theorem ggX3_append_X3_outside : GoodIn wsX3_append wsX3_outside := goodIn_r _ [9] (by decide +kernel) (by decide +kernel)
set_option maxRecDepth 20000 in
theorem gX3_append_X3_outside : GoodIn wsX3_append (va_wsS RX3 37 yX3_outside wsX3_outside) := goodIn_app (goodIn_of _ (by decide +kernel)) ggX3_append_X3_outside
set_option maxRecDepth 20000 in
theorem ggX3_append_X2_put : GoodIn wsX3_append wsX2_put := goodIn_r _ [13, 14, 15, 24, 25] (by decide +kernel) (by decide +kernel)
set_option maxRecDepth 20000 in
theorem gX3_append_X2_put_n57 : GoodIn wsX3_append (wsX2_put) := ggX3_append_X2_put
theorem dX3_append_0 : decode cX3_append 0 = .ok (.iload_n 1, 1) := by decide +kernel
theorem dX3_append_1 : decode cX3_append 1 = .ok (.iconst 0, 1) := by decide +kernel
theorem dX3_append_2 : decode cX3_append 2 = .ok (.sipush 255, 3) := by decide +kernel
theorem dX3_append_5 : decode cX3_append 5 = .ok (.invokestatic 37, 3) := by decide +kernel
theorem dX3_append_8 : decode cX3_append 8 = .ok (.ifCond .eq 13, 3) := by decide +kernel
theorem dX3_append_11 : decode cX3_append 11 = .ok (.new 41, 3) := by decide +kernel
theorem dX3_append_14 : decode cX3_append 14 = .ok (.dup, 1) := by decide +kernel
theorem dX3_append_15 : decode cX3_append 15 = .ok (.ldc 43, 2) := by decide +kernel
theorem dX3_append_17 : decode cX3_append 17 = .ok (.invokespecial 45, 3) := by decide +kernel
theorem dX3_append_20 : decode cX3_append 20 = .ok (.athrow, 1) := by decide +kernel
theorem dX3_append_21 : decode cX3_append 21 = .ok (.aload_n 0, 1) := by decide +kernel
theorem dX3_append_22 : decode cX3_append 22 = .ok (.getfield 10, 3) := by decide +kernel
theorem dX3_append_25 : decode cX3_append 25 = .ok (.getfield 48, 3) := by decide +kernel
theorem dX3_append_28 : decode cX3_append 28 = .ok (.bipush 60, 2) := by decide +kernel
theorem dX3_append_30 : decode cX3_append 30 = .ok (.if_icmp .lt 13, 3) := by decide +kernel
theorem dX3_append_33 : decode cX3_append 33 = .ok (.new 52, 3) := by decide +kernel
theorem dX3_append_36 : decode cX3_append 36 = .ok (.dup, 1) := by decide +kernel
theorem dX3_append_37 : decode cX3_append 37 = .ok (.ldc 54, 2) := by decide +kernel
theorem dX3_append_39 : decode cX3_append 39 = .ok (.invokespecial 56, 3) := by decide +kernel
theorem dX3_append_42 : decode cX3_append 42 = .ok (.athrow, 1) := by decide +kernel
theorem dX3_append_43 : decode cX3_append 43 = .ok (.aload_n 0, 1) := by decide +kernel
theorem dX3_append_44 : decode cX3_append 44 = .ok (.getfield 10, 3) := by decide +kernel
theorem dX3_append_47 : decode cX3_append 47 = .ok (.iload_n 1, 1) := by decide +kernel
theorem dX3_append_48 : decode cX3_append 48 = .ok (.i2c, 1) := by decide +kernel
theorem dX3_append_49 : decode cX3_append 49 = .ok (.invokevirtual 57, 3) := by decide +kernel
theorem dX3_append_52 : decode cX3_append 52 = .ok (.aload_n 0, 1) := by decide +kernel
theorem dX3_append_53 : decode cX3_append 53 = .ok (.getfield 10, 3) := by decide +kernel
theorem dX3_append_56 : decode cX3_append 56 = .ok (.getfield 48, 3) := by decide +kernel
theorem dX3_append_59 : decode cX3_append 59 = .ok (.ireturn, 1) := by decide +kernel
theorem dX3_clearText_0 : decode cX3_clearText 0 = .ok (.aload_n 0, 1) := by decide +kernel
theorem dX3_clearText_1 : decode cX3_clearText 1 = .ok (.getfield 10, 3) := by decide +kernel
theorem dX3_clearText_4 : decode cX3_clearText 4 = .ok (.getfield 48, 3) := by decide +kernel
theorem dX3_clearText_7 : decode cX3_clearText 7 = .ok (.istore_n 1, 1) := by decide +kernel
theorem dX3_clearText_8 : decode cX3_clearText 8 = .ok (.aload_n 0, 1) := by decide +kernel
theorem dX3_clearText_9 : decode cX3_clearText 9 = .ok (.getfield 10, 3) := by decide +kernel
theorem dX3_clearText_12 : decode cX3_clearText 12 = .ok (.iconst 0, 1) := by decide +kernel
theorem dX3_clearText_13 : decode cX3_clearText 13 = .ok (.putfield 48, 3) := by decide +kernel
theorem dX3_clearText_16 : decode cX3_clearText 16 = .ok (.iload_n 1, 1) := by decide +kernel
theorem dX3_clearText_17 : decode cX3_clearText 17 = .ok (.ireturn, 1) := by decide +kernel
set_option maxRecDepth 20000 in
theorem ggX3_errorPosition_X2_firstError : GoodIn wsX3_errorPosition wsX2_firstError := goodIn_r _ [5, 6, 7, 8, 9, 3, 10, 11, 12, 13, 14, 15, 16, 17, 18, 19, 20, 21, 22, 23, 24, 25, 26, 35, 36] (by decide +kernel) (by decide +kernel)
set_option maxRecDepth 20000 in
theorem gX3_errorPosition_X2_firstError_n61 : GoodIn wsX3_errorPosition (wsX2_firstError) := ggX3_errorPosition_X2_firstError
theorem dX3_errorPosition_0 : decode cX3_errorPosition 0 = .ok (.aload_n 0, 1) := by decide +kernel
theorem dX3_errorPosition_1 : decode cX3_errorPosition 1 = .ok (.getfield 10, 3) := by decide +kernel
theorem dX3_errorPosition_4 : decode cX3_errorPosition 4 = .ok (.invokevirtual 61, 3) := by decide +kernel
theorem dX3_errorPosition_7 : decode cX3_errorPosition 7 = .ok (.ireturn, 1) := by decide +kernel
set_option maxRecDepth 20000 in
theorem ggX3_load_X2_firstError : GoodIn wsX3_load wsX2_firstError := goodIn_r _ [9, 10, 11, 12, 13, 7, 14, 15, 16, 17, 18, 19, 20, 21, 22, 23, 24, 25, 26, 27, 28, 29, 30, 98, 99] (by decide +kernel) (by decide +kernel)
set_option maxRecDepth 20000 in
theorem gX3_load_X2_firstError_n61 : GoodIn wsX3_load (wsX2_firstError) := ggX3_load_X2_firstError
set_option maxRecDepth 20000 in
theorem ggX3_load_X1_take : GoodIn wsX3_load wsX1_take := goodIn_r _ [34, 35, 36, 37, 38, 39, 40, 41, 42, 43, 44, 45, 46, 47, 48, 49, 24, 7, 25, 26, 15, 16, 17, 18, 10, 19, 50, 51, 52, 53, 54, 55, 23, 56, 57, 58, 32, 59, 60, 61, 62, 63, 64, 65, 66, 82, 83, 84, 85, 86, 87, 88, 89, 90, 91, 92, 93, 94, 95, 96, 97, 98, 99, 100, 101, 102] (by decide +kernel) (by decide +kernel)
set_option maxRecDepth 20000 in
theorem gX3_load_X1_take_n67 : GoodIn wsX3_load (wsX1_take) := ggX3_load_X1_take
set_option maxRecDepth 20000 in
theorem ggX3_load_X3_forgetPast : GoodIn wsX3_load wsX3_forgetPast := goodIn_r _ [71, 72, 73, 74, 75, 76, 77, 78, 79, 80, 81] (by decide +kernel) (by decide +kernel)
set_option maxRecDepth 20000 in
theorem gX3_load_X3_forgetPast : GoodIn wsX3_load (wsV RX3 71 RX3 yX3_forgetPast wsX3_forgetPast) := goodIn_app (goodIn_of _ (by decide +kernel)) ggX3_load_X3_forgetPast
theorem dX3_load_0 : decode cX3_load 0 = .ok (.aload_n 0, 1) := by decide +kernel
theorem dX3_load_1 : decode cX3_load 1 = .ok (.getfield 10, 3) := by decide +kernel
theorem dX3_load_4 : decode cX3_load 4 = .ok (.invokevirtual 61, 3) := by decide +kernel
theorem dX3_load_7 : decode cX3_load 7 = .ok (.sipush (-9999), 3) := by decide +kernel
theorem dX3_load_10 : decode cX3_load 10 = .ok (.if_icmp .eq 13, 3) := by decide +kernel
theorem dX3_load_13 : decode cX3_load 13 = .ok (.new 52, 3) := by decide +kernel
theorem dX3_load_16 : decode cX3_load 16 = .ok (.dup, 1) := by decide +kernel
theorem dX3_load_17 : decode cX3_load 17 = .ok (.ldc 65, 2) := by decide +kernel
theorem dX3_load_19 : decode cX3_load 19 = .ok (.invokespecial 56, 3) := by decide +kernel
theorem dX3_load_22 : decode cX3_load 22 = .ok (.athrow, 1) := by decide +kernel
theorem dX3_load_23 : decode cX3_load 23 = .ok (.aload_n 0, 1) := by decide +kernel
theorem dX3_load_24 : decode cX3_load 24 = .ok (.getfield 19, 3) := by decide +kernel
theorem dX3_load_27 : decode cX3_load 27 = .ok (.aload_n 0, 1) := by decide +kernel
theorem dX3_load_28 : decode cX3_load 28 = .ok (.getfield 10, 3) := by decide +kernel
theorem dX3_load_31 : decode cX3_load 31 = .ok (.invokevirtual 67, 3) := by decide +kernel
theorem dX3_load_34 : decode cX3_load 34 = .ok (.aload_n 0, 1) := by decide +kernel
theorem dX3_load_35 : decode cX3_load 35 = .ok (.invokevirtual 71, 3) := by decide +kernel
theorem dX3_load_38 : decode cX3_load 38 = .ok (.iconst 0, 1) := by decide +kernel
theorem dX3_load_39 : decode cX3_load 39 = .ok (.istore_n 1, 1) := by decide +kernel
theorem dX3_load_40 : decode cX3_load 40 = .ok (.iload_n 1, 1) := by decide +kernel
theorem dX3_load_41 : decode cX3_load 41 = .ok (.aload_n 0, 1) := by decide +kernel
theorem dX3_load_42 : decode cX3_load 42 = .ok (.getfield 33, 3) := by decide +kernel
theorem dX3_load_45 : decode cX3_load 45 = .ok (.arraylength, 1) := by decide +kernel
theorem dX3_load_46 : decode cX3_load 46 = .ok (.if_icmp .ge 16, 3) := by decide +kernel
theorem dX3_load_49 : decode cX3_load 49 = .ok (.aload_n 0, 1) := by decide +kernel
theorem dX3_load_50 : decode cX3_load 50 = .ok (.getfield 33, 3) := by decide +kernel
theorem dX3_load_53 : decode cX3_load 53 = .ok (.iload_n 1, 1) := by decide +kernel
theorem dX3_load_54 : decode cX3_load 54 = .ok (.iconst 0, 1) := by decide +kernel
theorem dX3_load_55 : decode cX3_load 55 = .ok (.bastore, 1) := by decide +kernel
theorem dX3_load_56 : decode cX3_load 56 = .ok (.iinc 1 1, 3) := by decide +kernel
theorem dX3_load_59 : decode cX3_load 59 = .ok (.goto (-19), 3) := by decide +kernel
theorem dX3_load_62 : decode cX3_load 62 = .ok (.aload_n 0, 1) := by decide +kernel
theorem dX3_load_63 : decode cX3_load 63 = .ok (.getfield 19, 3) := by decide +kernel
theorem dX3_load_66 : decode cX3_load 66 = .ok (.getfield 74, 3) := by decide +kernel
theorem dX3_load_69 : decode cX3_load 69 = .ok (.ireturn, 1) := by decide +kernel
set_option maxRecDepth 20000 in
theorem ggX3_about_X3_outside : GoodIn wsX3_about wsX3_outside := goodIn_r _ [7] (by decide +kernel) (by decide +kernel)
set_option maxRecDepth 20000 in
theorem gX3_about_X3_outside : GoodIn wsX3_about (va_wsS RX3 37 yX3_outside wsX3_outside) := goodIn_app (goodIn_of _ (by decide +kernel)) ggX3_about_X3_outside
set_option maxRecDepth 20000 in
theorem ggX3_about_X1_number : GoodIn wsX3_about wsX1_number := goodIn_r _ [11, 12, 13, 14, 15, 16, 17, 18, 19, 20, 21, 22, 23, 24, 25, 26, 27, 28, 29, 9, 30, 31, 32, 33, 34, 43, 44, 45, 46, 47, 48, 49, 50, 51, 52, 53, 54, 55, 56, 57, 58, 59, 60, 61] (by decide +kernel) (by decide +kernel)
set_option maxRecDepth 20000 in
theorem gX3_about_X1_number_n79 : GoodIn wsX3_about (wsX1_number) := ggX3_about_X1_number
theorem dX3_about_0 : decode cX3_about 0 = .ok (.iload_n 1, 1) := by decide +kernel
theorem dX3_about_1 : decode cX3_about 1 = .ok (.iconst 0, 1) := by decide +kernel
theorem dX3_about_2 : decode cX3_about 2 = .ok (.bipush 15, 2) := by decide +kernel
theorem dX3_about_4 : decode cX3_about 4 = .ok (.invokestatic 37, 3) := by decide +kernel
theorem dX3_about_7 : decode cX3_about 7 = .ok (.ifCond .eq 13, 3) := by decide +kernel
theorem dX3_about_10 : decode cX3_about 10 = .ok (.new 41, 3) := by decide +kernel
theorem dX3_about_13 : decode cX3_about 13 = .ok (.dup, 1) := by decide +kernel
theorem dX3_about_14 : decode cX3_about 14 = .ok (.ldc 77, 2) := by decide +kernel
theorem dX3_about_16 : decode cX3_about 16 = .ok (.invokespecial 45, 3) := by decide +kernel
theorem dX3_about_19 : decode cX3_about 19 = .ok (.athrow, 1) := by decide +kernel
theorem dX3_about_20 : decode cX3_about 20 = .ok (.aload_n 0, 1) := by decide +kernel
theorem dX3_about_21 : decode cX3_about 21 = .ok (.getfield 19, 3) := by decide +kernel
theorem dX3_about_24 : decode cX3_about 24 = .ok (.iload_n 1, 1) := by decide +kernel
theorem dX3_about_25 : decode cX3_about 25 = .ok (.invokevirtual 79, 3) := by decide +kernel
theorem dX3_about_28 : decode cX3_about 28 = .ok (.ireturn, 1) := by decide +kernel
set_option maxRecDepth 20000 in
theorem ggX3_told_X3_outside : GoodIn wsX3_told wsX3_outside := goodIn_r _ [7] (by decide +kernel) (by decide +kernel)
set_option maxRecDepth 20000 in
theorem gX3_told_X3_outside : GoodIn wsX3_told (va_wsS RX3 37 yX3_outside wsX3_outside) := goodIn_app (goodIn_of _ (by decide +kernel)) ggX3_told_X3_outside
set_option maxRecDepth 20000 in
theorem ggX3_told_X0_cell : GoodIn wsX3_told wsX0_cell := goodIn_r _ [11, 12, 13, 14, 39, 40, 41] (by decide +kernel) (by decide +kernel)
set_option maxRecDepth 20000 in
theorem gX3_told_X0_cell_n91 : GoodIn wsX3_told (wsX0_cell) := ggX3_told_X0_cell
theorem dX3_told_0 : decode cX3_told 0 = .ok (.iload_n 1, 1) := by decide +kernel
theorem dX3_told_1 : decode cX3_told 1 = .ok (.ifCond .lt 12, 3) := by decide +kernel
theorem dX3_told_4 : decode cX3_told 4 = .ok (.iload_n 2, 1) := by decide +kernel
theorem dX3_told_5 : decode cX3_told 5 = .ok (.iconst 0, 1) := by decide +kernel
theorem dX3_told_6 : decode cX3_told 6 = .ok (.iconst 3, 1) := by decide +kernel
theorem dX3_told_7 : decode cX3_told 7 = .ok (.invokestatic 37, 3) := by decide +kernel
theorem dX3_told_10 : decode cX3_told 10 = .ok (.ifCond .eq 13, 3) := by decide +kernel
theorem dX3_told_13 : decode cX3_told 13 = .ok (.new 41, 3) := by decide +kernel
theorem dX3_told_16 : decode cX3_told 16 = .ok (.dup, 1) := by decide +kernel
theorem dX3_told_17 : decode cX3_told 17 = .ok (.ldc 85, 2) := by decide +kernel
theorem dX3_told_19 : decode cX3_told 19 = .ok (.invokespecial 45, 3) := by decide +kernel
theorem dX3_told_22 : decode cX3_told 22 = .ok (.athrow, 1) := by decide +kernel
theorem dX3_told_23 : decode cX3_told 23 = .ok (.aload_n 0, 1) := by decide +kernel
theorem dX3_told_24 : decode cX3_told 24 = .ok (.getfield 19, 3) := by decide +kernel
theorem dX3_told_27 : decode cX3_told 27 = .ok (.getfield 87, 3) := by decide +kernel
theorem dX3_told_30 : decode cX3_told 30 = .ok (.iload_n 1, 1) := by decide +kernel
theorem dX3_told_31 : decode cX3_told 31 = .ok (.iload_n 2, 1) := by decide +kernel
theorem dX3_told_32 : decode cX3_told 32 = .ok (.invokevirtual 91, 3) := by decide +kernel
theorem dX3_told_35 : decode cX3_told 35 = .ok (.ireturn, 1) := by decide +kernel
set_option maxRecDepth 20000 in
theorem ggX3_bridge_X3_outside : GoodIn wsX3_bridge wsX3_outside := goodIn_r _ [7] (by decide +kernel) (by decide +kernel)
set_option maxRecDepth 20000 in
theorem gX3_bridge_X3_outside : GoodIn wsX3_bridge (va_wsS RX3 37 yX3_outside wsX3_outside) := goodIn_app (goodIn_of _ (by decide +kernel)) ggX3_bridge_X3_outside
set_option maxRecDepth 20000 in
theorem ggX3_bridge_X1_difference : GoodIn wsX3_bridge wsX1_difference := goodIn_r _ [11, 12, 13, 14, 15, 6, 16, 17, 18, 19, 9, 20, 21, 52, 53, 54, 55, 56, 57, 58, 59, 60, 61, 62, 63, 64, 65, 66, 67] (by decide +kernel) (by decide +kernel)
set_option maxRecDepth 20000 in
theorem gX3_bridge_X1_difference_n100 : GoodIn wsX3_bridge (wsX1_difference) := ggX3_bridge_X1_difference
set_option maxRecDepth 20000 in
theorem ggX3_bridge_X1_denominator : GoodIn wsX3_bridge wsX1_denominator := goodIn_r _ [24, 14, 12, 13, 15, 6, 16, 17, 18, 19, 9, 20, 21, 52, 53, 54, 55, 56, 57, 58, 59, 60, 61, 62, 63, 64, 65, 66, 67] (by decide +kernel) (by decide +kernel)
set_option maxRecDepth 20000 in
theorem gX3_bridge_X1_denominator_n103 : GoodIn wsX3_bridge (wsX1_denominator) := ggX3_bridge_X1_denominator
set_option maxRecDepth 20000 in
theorem ggX3_bridge_X3_deflectionWith : GoodIn wsX3_bridge wsX3_deflectionWith := goodIn_r _ [28, 3, 8, 9, 10, 11, 12, 13, 14, 15, 6, 16, 17, 18, 19, 20, 21, 22, 23, 24, 29, 30, 31, 32, 33, 44, 45, 46, 47, 48, 49, 50, 51, 52, 53, 54, 55, 56, 57, 58, 59, 60, 61, 62, 63, 64, 65, 66, 67] (by decide +kernel) (by decide +kernel)
set_option maxRecDepth 20000 in
theorem gX3_bridge_X3_deflectionWith : GoodIn wsX3_bridge (wsV RX3 106 RX3 yX3_deflectionWith wsX3_deflectionWith) := goodIn_app (goodIn_of _ (by decide +kernel)) ggX3_bridge_X3_deflectionWith
set_option maxRecDepth 20000 in
theorem ggX3_bridge_X1_offset : GoodIn wsX3_bridge wsX1_offset := goodIn_r _ [36, 37, 38, 39, 40, 9, 41, 42, 43, 52, 53, 54, 55, 56, 57, 58, 59, 60, 61, 62, 63, 64, 65, 66, 67] (by decide +kernel) (by decide +kernel)
set_option maxRecDepth 20000 in
theorem gX3_bridge_X1_offset_n109 : GoodIn wsX3_bridge (wsX1_offset) := ggX3_bridge_X1_offset
theorem dX3_bridge_0 : decode cX3_bridge 0 = .ok (.iload_n 1, 1) := by decide +kernel
theorem dX3_bridge_1 : decode cX3_bridge 1 = .ok (.iconst 0, 1) := by decide +kernel
theorem dX3_bridge_2 : decode cX3_bridge 2 = .ok (.iconst 4, 1) := by decide +kernel
theorem dX3_bridge_3 : decode cX3_bridge 3 = .ok (.invokestatic 37, 3) := by decide +kernel
theorem dX3_bridge_6 : decode cX3_bridge 6 = .ok (.ifCond .eq 13, 3) := by decide +kernel
theorem dX3_bridge_9 : decode cX3_bridge 9 = .ok (.new 41, 3) := by decide +kernel
theorem dX3_bridge_12 : decode cX3_bridge 12 = .ok (.dup, 1) := by decide +kernel
theorem dX3_bridge_13 : decode cX3_bridge 13 = .ok (.ldc 95, 2) := by decide +kernel
theorem dX3_bridge_15 : decode cX3_bridge 15 = .ok (.invokespecial 45, 3) := by decide +kernel
theorem dX3_bridge_18 : decode cX3_bridge 18 = .ok (.athrow, 1) := by decide +kernel
theorem dX3_bridge_19 : decode cX3_bridge 19 = .ok (.iload_n 1, 1) := by decide +kernel
theorem dX3_bridge_20 : decode cX3_bridge 20 = .ok (.tableswitch 94 0 3 #[32, 47, 62, 74], 32) := by decide +kernel
theorem dX3_bridge_52 : decode cX3_bridge 52 = .ok (.aload_n 0, 1) := by decide +kernel
theorem dX3_bridge_53 : decode cX3_bridge 53 = .ok (.getfield 19, 3) := by decide +kernel
theorem dX3_bridge_56 : decode cX3_bridge 56 = .ok (.aload_n 0, 1) := by decide +kernel
theorem dX3_bridge_57 : decode cX3_bridge 57 = .ok (.getfield 19, 3) := by decide +kernel
theorem dX3_bridge_60 : decode cX3_bridge 60 = .ok (.getfield 97, 3) := by decide +kernel
theorem dX3_bridge_63 : decode cX3_bridge 63 = .ok (.invokevirtual 100, 3) := by decide +kernel
theorem dX3_bridge_66 : decode cX3_bridge 66 = .ok (.ireturn, 1) := by decide +kernel
theorem dX3_bridge_67 : decode cX3_bridge 67 = .ok (.aload_n 0, 1) := by decide +kernel
theorem dX3_bridge_68 : decode cX3_bridge 68 = .ok (.getfield 19, 3) := by decide +kernel
theorem dX3_bridge_71 : decode cX3_bridge 71 = .ok (.aload_n 0, 1) := by decide +kernel
theorem dX3_bridge_72 : decode cX3_bridge 72 = .ok (.getfield 19, 3) := by decide +kernel
theorem dX3_bridge_75 : decode cX3_bridge 75 = .ok (.getfield 97, 3) := by decide +kernel
theorem dX3_bridge_78 : decode cX3_bridge 78 = .ok (.invokevirtual 103, 3) := by decide +kernel
theorem dX3_bridge_81 : decode cX3_bridge 81 = .ok (.ireturn, 1) := by decide +kernel
theorem dX3_bridge_82 : decode cX3_bridge 82 = .ok (.aload_n 0, 1) := by decide +kernel
theorem dX3_bridge_83 : decode cX3_bridge 83 = .ok (.aload_n 0, 1) := by decide +kernel
theorem dX3_bridge_84 : decode cX3_bridge 84 = .ok (.getfield 19, 3) := by decide +kernel
theorem dX3_bridge_87 : decode cX3_bridge 87 = .ok (.getfield 97, 3) := by decide +kernel
theorem dX3_bridge_90 : decode cX3_bridge 90 = .ok (.invokevirtual 106, 3) := by decide +kernel
theorem dX3_bridge_93 : decode cX3_bridge 93 = .ok (.ireturn, 1) := by decide +kernel
theorem dX3_bridge_94 : decode cX3_bridge 94 = .ok (.aload_n 0, 1) := by decide +kernel
theorem dX3_bridge_95 : decode cX3_bridge 95 = .ok (.getfield 19, 3) := by decide +kernel
theorem dX3_bridge_98 : decode cX3_bridge 98 = .ok (.invokevirtual 109, 3) := by decide +kernel
theorem dX3_bridge_101 : decode cX3_bridge 101 = .ok (.aload_n 0, 1) := by decide +kernel
theorem dX3_bridge_102 : decode cX3_bridge 102 = .ok (.aload_n 0, 1) := by decide +kernel
theorem dX3_bridge_103 : decode cX3_bridge 103 = .ok (.getfield 19, 3) := by decide +kernel
theorem dX3_bridge_106 : decode cX3_bridge 106 = .ok (.getfield 97, 3) := by decide +kernel
theorem dX3_bridge_109 : decode cX3_bridge 109 = .ok (.invokevirtual 106, 3) := by decide +kernel
theorem dX3_bridge_112 : decode cX3_bridge 112 = .ok (.iadd, 1) := by decide +kernel
theorem dX3_bridge_113 : decode cX3_bridge 113 = .ok (.ireturn, 1) := by decide +kernel
theorem dX3_bridge_114 : decode cX3_bridge 114 = .ok (.aload_n 0, 1) := by decide +kernel
theorem dX3_bridge_115 : decode cX3_bridge 115 = .ok (.getfield 19, 3) := by decide +kernel
theorem dX3_bridge_118 : decode cX3_bridge 118 = .ok (.invokevirtual 109, 3) := by decide +kernel
theorem dX3_bridge_121 : decode cX3_bridge 121 = .ok (.aload_n 0, 1) := by decide +kernel
theorem dX3_bridge_122 : decode cX3_bridge 122 = .ok (.aload_n 0, 1) := by decide +kernel
theorem dX3_bridge_123 : decode cX3_bridge 123 = .ok (.getfield 19, 3) := by decide +kernel
theorem dX3_bridge_126 : decode cX3_bridge 126 = .ok (.getfield 97, 3) := by decide +kernel
theorem dX3_bridge_129 : decode cX3_bridge 129 = .ok (.invokevirtual 106, 3) := by decide +kernel
theorem dX3_bridge_132 : decode cX3_bridge 132 = .ok (.isub, 1) := by decide +kernel
theorem dX3_bridge_133 : decode cX3_bridge 133 = .ok (.ireturn, 1) := by decide +kernel
set_option maxRecDepth 20000 in
theorem ggX3_press_X3_remember : GoodIn wsX3_press wsX3_remember := goodIn_r _ [8, 9, 10, 3, 11, 12, 13, 14, 15, 16, 17, 7, 18, 19, 20, 21, 22, 23, 24, 25, 26, 27, 28, 29, 30, 31, 32, 33, 34, 35, 36, 37, 38, 39, 40, 41, 42, 43, 44, 45, 87, 88, 89, 90, 91, 92, 93, 94, 95, 96, 97, 98, 99, 100, 101, 102, 103, 104, 105, 106, 107, 108, 109, 110, 111, 112, 113] (by decide +kernel) (by decide +kernel)
set_option maxRecDepth 20000 in
theorem gX3_press_X3_remember : GoodIn wsX3_press (wsV RX3 118 RX3 yX3_remember wsX3_remember) := goodIn_app (goodIn_of _ (by decide +kernel)) ggX3_press_X3_remember
set_option maxRecDepth 20000 in
theorem ggX3_press_X1_pressKey : GoodIn wsX3_press wsX1_pressKey := goodIn_r _ [48, 25, 27, 49, 13, 14, 15, 50, 51, 52, 38, 31, 33, 32, 34, 30, 26, 53, 54, 55, 20, 56, 24, 37, 23, 57, 7, 58, 59, 60, 61, 62, 35, 63, 64, 65, 66, 67, 68, 69, 70, 71, 72, 73, 74, 75, 76, 77, 78, 79, 28, 29, 80, 40, 81, 82, 44, 45, 43, 83, 84, 85, 86, 95, 96, 97, 98, 99, 100, 101, 102, 103, 104, 105, 106, 107, 108, 109, 110, 111, 112, 113] (by decide +kernel) (by decide +kernel)
set_option maxRecDepth 20000 in
theorem gX3_press_X1_pressKey_n121 : GoodIn wsX3_press (wsX1_pressKey) := ggX3_press_X1_pressKey
theorem dX3_press_0 : decode cX3_press 0 = .ok (.aload_n 0, 1) := by decide +kernel
theorem dX3_press_1 : decode cX3_press 1 = .ok (.getfield 19, 3) := by decide +kernel
theorem dX3_press_4 : decode cX3_press 4 = .ok (.getfield 112, 3) := by decide +kernel
theorem dX3_press_7 : decode cX3_press 7 = .ok (.ifCond .eq 13, 3) := by decide +kernel
theorem dX3_press_10 : decode cX3_press 10 = .ok (.new 52, 3) := by decide +kernel
theorem dX3_press_13 : decode cX3_press 13 = .ok (.dup, 1) := by decide +kernel
theorem dX3_press_14 : decode cX3_press 14 = .ok (.ldc 116, 2) := by decide +kernel
theorem dX3_press_16 : decode cX3_press 16 = .ok (.invokespecial 56, 3) := by decide +kernel
theorem dX3_press_19 : decode cX3_press 19 = .ok (.athrow, 1) := by decide +kernel
theorem dX3_press_20 : decode cX3_press 20 = .ok (.aload_n 0, 1) := by decide +kernel
theorem dX3_press_21 : decode cX3_press 21 = .ok (.invokevirtual 118, 3) := by decide +kernel
theorem dX3_press_24 : decode cX3_press 24 = .ok (.aload_n 0, 1) := by decide +kernel
theorem dX3_press_25 : decode cX3_press 25 = .ok (.getfield 19, 3) := by decide +kernel
theorem dX3_press_28 : decode cX3_press 28 = .ok (.iload_n 1, 1) := by decide +kernel
theorem dX3_press_29 : decode cX3_press 29 = .ok (.invokevirtual 121, 3) := by decide +kernel
theorem dX3_press_32 : decode cX3_press 32 = .ok (.ireturn, 1) := by decide +kernel
set_option maxRecDepth 20000 in
theorem ggX3_pair_X3_remember : GoodIn wsX3_pair wsX3_remember := goodIn_r _ [8, 9, 10, 3, 11, 12, 13, 14, 15, 16, 17, 7, 18, 19, 20, 21, 22, 23, 24, 25, 26, 27, 28, 29, 30, 31, 32, 33, 34, 35, 36, 37, 38, 39, 40, 41, 42, 43, 44, 45, 91, 92, 93, 94, 95, 96, 97, 98, 99, 100, 101, 102, 103, 104, 105, 106, 107, 108, 109, 110, 111, 112, 113, 114, 115, 116, 117] (by decide +kernel) (by decide +kernel)
set_option maxRecDepth 20000 in
theorem gX3_pair_X3_remember : GoodIn wsX3_pair (wsV RX3 118 RX3 yX3_remember wsX3_remember) := goodIn_app (goodIn_of _ (by decide +kernel)) ggX3_pair_X3_remember
set_option maxRecDepth 20000 in
theorem ggX3_pair_X1_pressBothWays : GoodIn wsX3_pair wsX1_pressBothWays := goodIn_r _ [48, 32, 49, 50, 51, 20, 52, 25, 27, 53, 13, 14, 15, 54, 55, 56, 38, 31, 33, 34, 30, 26, 57, 58, 59, 60, 24, 37, 23, 61, 7, 62, 63, 64, 65, 66, 35, 67, 68, 69, 70, 71, 72, 73, 74, 75, 76, 77, 78, 79, 80, 81, 82, 83, 28, 29, 84, 40, 85, 86, 44, 45, 43, 87, 88, 89, 90, 99, 100, 101, 102, 103, 104, 105, 106, 107, 108, 109, 110, 111, 112, 113, 114, 115, 116, 117] (by decide +kernel) (by decide +kernel)
set_option maxRecDepth 20000 in
theorem gX3_pair_X1_pressBothWays_n125 : GoodIn wsX3_pair (wsX1_pressBothWays) := ggX3_pair_X1_pressBothWays
theorem dX3_pair_0 : decode cX3_pair 0 = .ok (.aload_n 0, 1) := by decide +kernel
theorem dX3_pair_1 : decode cX3_pair 1 = .ok (.getfield 19, 3) := by decide +kernel
theorem dX3_pair_4 : decode cX3_pair 4 = .ok (.getfield 112, 3) := by decide +kernel
theorem dX3_pair_7 : decode cX3_pair 7 = .ok (.ifCond .eq 13, 3) := by decide +kernel
theorem dX3_pair_10 : decode cX3_pair 10 = .ok (.new 52, 3) := by decide +kernel
theorem dX3_pair_13 : decode cX3_pair 13 = .ok (.dup, 1) := by decide +kernel
theorem dX3_pair_14 : decode cX3_pair 14 = .ok (.ldc 116, 2) := by decide +kernel
theorem dX3_pair_16 : decode cX3_pair 16 = .ok (.invokespecial 56, 3) := by decide +kernel
theorem dX3_pair_19 : decode cX3_pair 19 = .ok (.athrow, 1) := by decide +kernel
theorem dX3_pair_20 : decode cX3_pair 20 = .ok (.aload_n 0, 1) := by decide +kernel
theorem dX3_pair_21 : decode cX3_pair 21 = .ok (.invokevirtual 118, 3) := by decide +kernel
theorem dX3_pair_24 : decode cX3_pair 24 = .ok (.aload_n 0, 1) := by decide +kernel
theorem dX3_pair_25 : decode cX3_pair 25 = .ok (.getfield 19, 3) := by decide +kernel
theorem dX3_pair_28 : decode cX3_pair 28 = .ok (.invokevirtual 125, 3) := by decide +kernel
theorem dX3_pair_31 : decode cX3_pair 31 = .ok (.ireturn, 1) := by decide +kernel
set_option maxRecDepth 20000 in
theorem ggX3_pause_X3_outside : GoodIn wsX3_pause wsX3_outside := goodIn_r _ [7] (by decide +kernel) (by decide +kernel)
set_option maxRecDepth 20000 in
theorem gX3_pause_X3_outside : GoodIn wsX3_pause (va_wsS RX3 37 yX3_outside wsX3_outside) := goodIn_app (goodIn_of _ (by decide +kernel)) ggX3_pause_X3_outside
set_option maxRecDepth 20000 in
theorem ggX3_pause_X3_remember : GoodIn wsX3_pause wsX3_remember := goodIn_r _ [11, 12, 13, 3, 14, 15, 16, 17, 18, 19, 20, 6, 21, 22, 23, 24, 25, 26, 27, 28, 29, 30, 31, 32, 33, 34, 35, 36, 37, 38, 39, 40, 41, 42, 43, 44, 45, 46, 47, 48, 65, 66, 67, 68, 69, 70, 71, 72, 73, 74, 75, 76, 77, 78, 79, 80, 81, 82, 83, 84, 85, 86, 87, 88, 89, 90, 91] (by decide +kernel) (by decide +kernel)
set_option maxRecDepth 20000 in
theorem gX3_pause_X3_remember : GoodIn wsX3_pause (wsV RX3 118 RX3 yX3_remember wsX3_remember) := goodIn_app (goodIn_of _ (by decide +kernel)) ggX3_pause_X3_remember
set_option maxRecDepth 20000 in
theorem ggX3_pause_X1_waitTicks : GoodIn wsX3_pause wsX1_waitTicks := goodIn_r _ [51, 33, 34, 52, 53, 23, 54, 55, 56, 17, 57, 73, 74, 75, 76, 77, 78, 79, 80, 81, 82, 83, 84, 85, 86, 87, 88] (by decide +kernel) (by decide +kernel)
set_option maxRecDepth 20000 in
theorem gX3_pause_X1_waitTicks_n130 : GoodIn wsX3_pause (wsX1_waitTicks) := ggX3_pause_X1_waitTicks
set_option maxRecDepth 20000 in
theorem ggX3_pause_X1_offset : GoodIn wsX3_pause wsX1_offset := goodIn_r _ [60, 33, 61, 62, 63, 23, 64, 31, 32, 73, 74, 75, 76, 77, 78, 79, 80, 81, 82, 83, 84, 85, 86, 87, 88] (by decide +kernel) (by decide +kernel)
set_option maxRecDepth 20000 in
theorem gX3_pause_X1_offset_n109 : GoodIn wsX3_pause (wsX1_offset) := ggX3_pause_X1_offset
theorem dX3_pause_0 : decode cX3_pause 0 = .ok (.iload_n 1, 1) := by decide +kernel
theorem dX3_pause_1 : decode cX3_pause 1 = .ok (.iconst 1, 1) := by decide +kernel
theorem dX3_pause_2 : decode cX3_pause 2 = .ok (.sipush 200, 3) := by decide +kernel
theorem dX3_pause_5 : decode cX3_pause 5 = .ok (.invokestatic 37, 3) := by decide +kernel
theorem dX3_pause_8 : decode cX3_pause 8 = .ok (.ifCond .eq 13, 3) := by decide +kernel
theorem dX3_pause_11 : decode cX3_pause 11 = .ok (.new 41, 3) := by decide +kernel
theorem dX3_pause_14 : decode cX3_pause 14 = .ok (.dup, 1) := by decide +kernel
theorem dX3_pause_15 : decode cX3_pause 15 = .ok (.ldc 128, 2) := by decide +kernel
theorem dX3_pause_17 : decode cX3_pause 17 = .ok (.invokespecial 45, 3) := by decide +kernel
theorem dX3_pause_20 : decode cX3_pause 20 = .ok (.athrow, 1) := by decide +kernel
theorem dX3_pause_21 : decode cX3_pause 21 = .ok (.aload_n 0, 1) := by decide +kernel
theorem dX3_pause_22 : decode cX3_pause 22 = .ok (.invokevirtual 118, 3) := by decide +kernel
theorem dX3_pause_25 : decode cX3_pause 25 = .ok (.aload_n 0, 1) := by decide +kernel
theorem dX3_pause_26 : decode cX3_pause 26 = .ok (.getfield 19, 3) := by decide +kernel
theorem dX3_pause_29 : decode cX3_pause 29 = .ok (.iload_n 1, 1) := by decide +kernel
theorem dX3_pause_30 : decode cX3_pause 30 = .ok (.invokevirtual 130, 3) := by decide +kernel
theorem dX3_pause_33 : decode cX3_pause 33 = .ok (.aload_n 0, 1) := by decide +kernel
theorem dX3_pause_34 : decode cX3_pause 34 = .ok (.getfield 19, 3) := by decide +kernel
theorem dX3_pause_37 : decode cX3_pause 37 = .ok (.invokevirtual 109, 3) := by decide +kernel
theorem dX3_pause_40 : decode cX3_pause 40 = .ok (.ireturn, 1) := by decide +kernel
set_option maxRecDepth 20000 in
theorem ggX3_set_X1_mayBe : GoodIn wsX3_set wsX1_mayBe := goodIn_r _ [6] (by decide +kernel) (by decide +kernel)
set_option maxRecDepth 20000 in
theorem gX3_set_X1_mayBe_n134 : GoodIn wsX3_set (wsX1_mayBe) := ggX3_set_X1_mayBe
set_option maxRecDepth 20000 in
theorem ggX3_set_X3_remember : GoodIn wsX3_set wsX3_remember := goodIn_r _ [11, 12, 13, 3, 14, 15, 16, 17, 18, 19, 20, 10, 21, 22, 5, 23, 24, 25, 26, 27, 28, 29, 30, 31, 32, 33, 34, 35, 36, 37, 38, 39, 40, 41, 42, 43, 44, 45, 46, 47, 62, 63, 64, 65, 66, 67, 68, 69, 70, 71, 72, 73, 74, 75, 76, 77, 78, 79, 80, 81, 82, 83, 84, 85, 86, 87, 88] (by decide +kernel) (by decide +kernel)
set_option maxRecDepth 20000 in
theorem gX3_set_X3_remember : GoodIn wsX3_set (wsV RX3 118 RX3 yX3_remember wsX3_remember) := goodIn_app (goodIn_of _ (by decide +kernel)) ggX3_set_X3_remember
set_option maxRecDepth 20000 in
theorem ggX3_set_X1_number : GoodIn wsX3_set wsX1_number := goodIn_r _ [50, 25, 26, 27, 28, 29, 30, 31, 32, 33, 38, 39, 34, 40, 35, 36, 51, 52, 53, 5, 54, 55, 56, 57, 58, 70, 71, 72, 73, 74, 75, 76, 77, 78, 79, 80, 81, 82, 83, 84, 85, 86, 87, 88] (by decide +kernel) (by decide +kernel)
set_option maxRecDepth 20000 in
theorem gX3_set_X1_number_n79 : GoodIn wsX3_set (wsX1_number) := ggX3_set_X1_number
set_option maxRecDepth 20000 in
theorem ggX3_set_X1_change : GoodIn wsX3_set wsX1_change := goodIn_r _ [61, 25, 26, 27, 28, 29, 30, 31, 70, 71, 72, 73, 74, 75, 76, 77, 78, 79, 80, 81, 82, 83, 84, 85] (by decide +kernel) (by decide +kernel)
set_option maxRecDepth 20000 in
theorem gX3_set_X1_change_n140 : GoodIn wsX3_set (wsX1_change) := ggX3_set_X1_change
theorem dX3_set_0 : decode cX3_set 0 = .ok (.iload_n 1, 1) := by decide +kernel
theorem dX3_set_1 : decode cX3_set 1 = .ok (.iload_n 2, 1) := by decide +kernel
theorem dX3_set_2 : decode cX3_set 2 = .ok (.invokestatic 134, 3) := by decide +kernel
theorem dX3_set_5 : decode cX3_set 5 = .ok (.ifCond .ne 13, 3) := by decide +kernel
theorem dX3_set_8 : decode cX3_set 8 = .ok (.new 41, 3) := by decide +kernel
theorem dX3_set_11 : decode cX3_set 11 = .ok (.dup, 1) := by decide +kernel
theorem dX3_set_12 : decode cX3_set 12 = .ok (.ldc 138, 2) := by decide +kernel
theorem dX3_set_14 : decode cX3_set 14 = .ok (.invokespecial 45, 3) := by decide +kernel
theorem dX3_set_17 : decode cX3_set 17 = .ok (.athrow, 1) := by decide +kernel
theorem dX3_set_18 : decode cX3_set 18 = .ok (.aload_n 0, 1) := by decide +kernel
theorem dX3_set_19 : decode cX3_set 19 = .ok (.invokevirtual 118, 3) := by decide +kernel
theorem dX3_set_22 : decode cX3_set 22 = .ok (.aload_n 0, 1) := by decide +kernel
theorem dX3_set_23 : decode cX3_set 23 = .ok (.getfield 19, 3) := by decide +kernel
theorem dX3_set_26 : decode cX3_set 26 = .ok (.iload_n 1, 1) := by decide +kernel
theorem dX3_set_27 : decode cX3_set 27 = .ok (.invokevirtual 79, 3) := by decide +kernel
theorem dX3_set_30 : decode cX3_set 30 = .ok (.istore_n 3, 1) := by decide +kernel
theorem dX3_set_31 : decode cX3_set 31 = .ok (.aload_n 0, 1) := by decide +kernel
theorem dX3_set_32 : decode cX3_set 32 = .ok (.getfield 19, 3) := by decide +kernel
theorem dX3_set_35 : decode cX3_set 35 = .ok (.iload_n 1, 1) := by decide +kernel
theorem dX3_set_36 : decode cX3_set 36 = .ok (.iload_n 2, 1) := by decide +kernel
theorem dX3_set_37 : decode cX3_set 37 = .ok (.invokevirtual 140, 3) := by decide +kernel
theorem dX3_set_40 : decode cX3_set 40 = .ok (.iload_n 3, 1) := by decide +kernel
theorem dX3_set_41 : decode cX3_set 41 = .ok (.ireturn, 1) := by decide +kernel
set_option maxRecDepth 20000 in
theorem ggX3_choose_X1_hasUnknown : GoodIn wsX3_choose wsX1_hasUnknown := goodIn_r _ [7, 8, 57, 58, 59, 60, 61, 62, 63, 64, 65, 66, 67, 68, 69, 70, 71, 72] (by decide +kernel) (by decide +kernel)
set_option maxRecDepth 20000 in
theorem gX3_choose_X1_hasUnknown_n144 : GoodIn wsX3_choose (wsX1_hasUnknown) := ggX3_choose_X1_hasUnknown
set_option maxRecDepth 20000 in
theorem ggX3_choose_X3_remember : GoodIn wsX3_choose wsX3_remember := goodIn_r _ [13, 14, 15, 3, 16, 17, 18, 19, 20, 21, 22, 12, 23, 24, 5, 25, 26, 27, 28, 29, 30, 31, 32, 33, 34, 35, 36, 37, 38, 39, 8, 40, 41, 42, 43, 44, 45, 46, 47, 48, 49, 50, 51, 52, 53, 54, 55, 56, 57, 58, 59, 60, 61, 62, 63, 64, 65, 66, 67, 68, 69, 70, 71, 72, 73, 74, 75] (by decide +kernel) (by decide +kernel)
set_option maxRecDepth 20000 in
theorem gX3_choose_X3_remember : GoodIn wsX3_choose (wsV RX3 118 RX3 yX3_remember wsX3_remember) := goodIn_app (goodIn_of _ (by decide +kernel)) ggX3_choose_X3_remember
theorem dX3_choose_0 : decode cX3_choose 0 = .ok (.aload_n 0, 1) := by decide +kernel
theorem dX3_choose_1 : decode cX3_choose 1 = .ok (.getfield 19, 3) := by decide +kernel
theorem dX3_choose_4 : decode cX3_choose 4 = .ok (.iload_n 1, 1) := by decide +kernel
theorem dX3_choose_5 : decode cX3_choose 5 = .ok (.invokevirtual 144, 3) := by decide +kernel
theorem dX3_choose_8 : decode cX3_choose 8 = .ok (.ifCond .ne 13, 3) := by decide +kernel
theorem dX3_choose_11 : decode cX3_choose 11 = .ok (.new 148, 3) := by decide +kernel
theorem dX3_choose_14 : decode cX3_choose 14 = .ok (.dup, 1) := by decide +kernel
theorem dX3_choose_15 : decode cX3_choose 15 = .ok (.ldc 150, 2) := by decide +kernel
theorem dX3_choose_17 : decode cX3_choose 17 = .ok (.invokespecial 152, 3) := by decide +kernel
theorem dX3_choose_20 : decode cX3_choose 20 = .ok (.athrow, 1) := by decide +kernel
theorem dX3_choose_21 : decode cX3_choose 21 = .ok (.aload_n 0, 1) := by decide +kernel
theorem dX3_choose_22 : decode cX3_choose 22 = .ok (.invokevirtual 118, 3) := by decide +kernel
theorem dX3_choose_25 : decode cX3_choose 25 = .ok (.aload_n 0, 1) := by decide +kernel
theorem dX3_choose_26 : decode cX3_choose 26 = .ok (.getfield 19, 3) := by decide +kernel
theorem dX3_choose_29 : decode cX3_choose 29 = .ok (.getfield 153, 3) := by decide +kernel
theorem dX3_choose_32 : decode cX3_choose 32 = .ok (.istore_n 2, 1) := by decide +kernel
theorem dX3_choose_33 : decode cX3_choose 33 = .ok (.aload_n 0, 1) := by decide +kernel
theorem dX3_choose_34 : decode cX3_choose 34 = .ok (.getfield 19, 3) := by decide +kernel
theorem dX3_choose_37 : decode cX3_choose 37 = .ok (.iload_n 1, 1) := by decide +kernel
theorem dX3_choose_38 : decode cX3_choose 38 = .ok (.putfield 153, 3) := by decide +kernel
theorem dX3_choose_41 : decode cX3_choose 41 = .ok (.iload_n 2, 1) := by decide +kernel
theorem dX3_choose_42 : decode cX3_choose 42 = .ok (.ireturn, 1) := by decide +kernel
set_option maxRecDepth 20000 in
theorem ggX3_add_X3_outside : GoodIn wsX3_add wsX3_outside := goodIn_r _ [9] (by decide +kernel) (by decide +kernel)
set_option maxRecDepth 20000 in
theorem gX3_add_X3_outside : GoodIn wsX3_add (va_wsS RX3 37 yX3_outside wsX3_outside) := goodIn_app (goodIn_of _ (by decide +kernel)) ggX3_add_X3_outside
set_option maxRecDepth 20000 in
theorem ggX3_add_X3_remember : GoodIn wsX3_add wsX3_remember := goodIn_r _ [13, 14, 15, 5, 16, 17, 18, 19, 20, 21, 22, 8, 23, 24, 25, 26, 27, 28, 29, 30, 31, 32, 33, 34, 35, 36, 37, 38, 39, 40, 41, 42, 43, 44, 45, 46, 47, 48, 49, 50, 54, 55, 56, 57, 58, 59, 60, 61, 62, 63, 64, 65, 66, 67, 68, 69, 70, 71, 72, 73, 74, 75, 76, 77, 78, 79, 80] (by decide +kernel) (by decide +kernel)
set_option maxRecDepth 20000 in
theorem gX3_add_X3_remember : GoodIn wsX3_add (wsV RX3 118 RX3 yX3_remember wsX3_remember) := goodIn_app (goodIn_of _ (by decide +kernel)) ggX3_add_X3_remember
set_option maxRecDepth 20000 in
theorem ggX3_add_X1_putUnknown : GoodIn wsX3_add wsX1_putUnknown := goodIn_r _ [53, 41, 40, 62, 63, 64, 65, 66, 67, 68, 69, 70, 71, 72, 73, 74, 75, 76, 77] (by decide +kernel) (by decide +kernel)
set_option maxRecDepth 20000 in
theorem gX3_add_X1_putUnknown_n160 : GoodIn wsX3_add (wsX1_putUnknown) := ggX3_add_X1_putUnknown
theorem dX3_add_0 : decode cX3_add 0 = .ok (.iload_n 1, 1) := by decide +kernel
theorem dX3_add_1 : decode cX3_add 1 = .ok (.iconst 1, 1) := by decide +kernel
theorem dX3_add_2 : decode cX3_add 2 = .ok (.sipush 9999, 3) := by decide +kernel
theorem dX3_add_5 : decode cX3_add 5 = .ok (.invokestatic 37, 3) := by decide +kernel
theorem dX3_add_8 : decode cX3_add 8 = .ok (.ifCond .eq 13, 3) := by decide +kernel
theorem dX3_add_11 : decode cX3_add 11 = .ok (.new 41, 3) := by decide +kernel
theorem dX3_add_14 : decode cX3_add 14 = .ok (.dup, 1) := by decide +kernel
theorem dX3_add_15 : decode cX3_add 15 = .ok (.ldc 156, 2) := by decide +kernel
theorem dX3_add_17 : decode cX3_add 17 = .ok (.invokespecial 45, 3) := by decide +kernel
theorem dX3_add_20 : decode cX3_add 20 = .ok (.athrow, 1) := by decide +kernel
theorem dX3_add_21 : decode cX3_add 21 = .ok (.aload_n 0, 1) := by decide +kernel
theorem dX3_add_22 : decode cX3_add 22 = .ok (.getfield 19, 3) := by decide +kernel
theorem dX3_add_25 : decode cX3_add 25 = .ok (.getfield 74, 3) := by decide +kernel
theorem dX3_add_28 : decode cX3_add 28 = .ok (.bipush 6, 2) := by decide +kernel
theorem dX3_add_30 : decode cX3_add 30 = .ok (.if_icmp .lt 13, 3) := by decide +kernel
theorem dX3_add_33 : decode cX3_add 33 = .ok (.new 52, 3) := by decide +kernel
theorem dX3_add_36 : decode cX3_add 36 = .ok (.dup, 1) := by decide +kernel
theorem dX3_add_37 : decode cX3_add 37 = .ok (.ldc 158, 2) := by decide +kernel
theorem dX3_add_39 : decode cX3_add 39 = .ok (.invokespecial 56, 3) := by decide +kernel
theorem dX3_add_42 : decode cX3_add 42 = .ok (.athrow, 1) := by decide +kernel
theorem dX3_add_43 : decode cX3_add 43 = .ok (.aload_n 0, 1) := by decide +kernel
theorem dX3_add_44 : decode cX3_add 44 = .ok (.invokevirtual 118, 3) := by decide +kernel
theorem dX3_add_47 : decode cX3_add 47 = .ok (.aload_n 0, 1) := by decide +kernel
theorem dX3_add_48 : decode cX3_add 48 = .ok (.getfield 19, 3) := by decide +kernel
theorem dX3_add_51 : decode cX3_add 51 = .ok (.iload_n 1, 1) := by decide +kernel
theorem dX3_add_52 : decode cX3_add 52 = .ok (.invokevirtual 160, 3) := by decide +kernel
theorem dX3_add_55 : decode cX3_add 55 = .ok (.aload_n 0, 1) := by decide +kernel
theorem dX3_add_56 : decode cX3_add 56 = .ok (.getfield 19, 3) := by decide +kernel
theorem dX3_add_59 : decode cX3_add 59 = .ok (.getfield 74, 3) := by decide +kernel
theorem dX3_add_62 : decode cX3_add 62 = .ok (.iconst 1, 1) := by decide +kernel
theorem dX3_add_63 : decode cX3_add 63 = .ok (.isub, 1) := by decide +kernel
theorem dX3_add_64 : decode cX3_add 64 = .ok (.ireturn, 1) := by decide +kernel
set_option maxRecDepth 20000 in
theorem ggX3_free_X3_remember : GoodIn wsX3_free wsX3_remember := goodIn_r _ [6, 7, 8, 1, 9, 10, 11, 12, 13, 14, 15, 5, 16, 17, 18, 19, 20, 21, 22, 23, 24, 25, 26, 27, 28, 29, 30, 31, 32, 33, 34, 35, 36, 37, 38, 39, 40, 41, 42, 43, 57, 58, 59, 60, 61, 62, 63, 64, 65, 66, 67, 68, 69, 70, 71, 72, 73, 74, 75, 76, 77, 78, 79, 80, 81, 82, 83] (by decide +kernel) (by decide +kernel)
set_option maxRecDepth 20000 in
theorem gX3_free_X3_remember : GoodIn wsX3_free (wsV RX3 118 RX3 yX3_remember wsX3_remember) := goodIn_app (goodIn_of _ (by decide +kernel)) ggX3_free_X3_remember
set_option maxRecDepth 20000 in
theorem ggX3_free_X1_loosen : GoodIn wsX3_free wsX1_loosen := goodIn_r _ [46, 30, 47, 48, 49, 18, 50, 28, 29, 51, 52, 53, 54, 55, 12, 56, 65, 66, 67, 68, 69, 70, 71, 72, 73, 74, 75, 76, 77, 78, 79, 80] (by decide +kernel) (by decide +kernel)
set_option maxRecDepth 20000 in
theorem gX3_free_X1_loosen_n163 : GoodIn wsX3_free (wsX1_loosen) := ggX3_free_X1_loosen
theorem dX3_free_0 : decode cX3_free 0 = .ok (.aload_n 0, 1) := by decide +kernel
theorem dX3_free_1 : decode cX3_free 1 = .ok (.invokevirtual 118, 3) := by decide +kernel
theorem dX3_free_4 : decode cX3_free 4 = .ok (.aload_n 0, 1) := by decide +kernel
theorem dX3_free_5 : decode cX3_free 5 = .ok (.getfield 19, 3) := by decide +kernel
theorem dX3_free_8 : decode cX3_free 8 = .ok (.getfield 112, 3) := by decide +kernel
theorem dX3_free_11 : decode cX3_free 11 = .ok (.ifCond .eq 7, 3) := by decide +kernel
theorem dX3_free_14 : decode cX3_free 14 = .ok (.iconst 1, 1) := by decide +kernel
theorem dX3_free_15 : decode cX3_free 15 = .ok (.goto 4, 3) := by decide +kernel
theorem dX3_free_18 : decode cX3_free 18 = .ok (.iconst 0, 1) := by decide +kernel
theorem dX3_free_19 : decode cX3_free 19 = .ok (.istore_n 1, 1) := by decide +kernel
theorem dX3_free_20 : decode cX3_free 20 = .ok (.aload_n 0, 1) := by decide +kernel
theorem dX3_free_21 : decode cX3_free 21 = .ok (.getfield 19, 3) := by decide +kernel
theorem dX3_free_24 : decode cX3_free 24 = .ok (.invokevirtual 163, 3) := by decide +kernel
theorem dX3_free_27 : decode cX3_free 27 = .ok (.iload_n 1, 1) := by decide +kernel
theorem dX3_free_28 : decode cX3_free 28 = .ok (.ireturn, 1) := by decide +kernel
set_option maxRecDepth 20000 in
theorem ggX3_balance_X3_remember : GoodIn wsX3_balance wsX3_remember := goodIn_r _ [8, 9, 10, 3, 11, 12, 13, 14, 15, 16, 17, 7, 18, 19, 20, 21, 22, 23, 24, 25, 26, 27, 28, 29, 30, 31, 32, 33, 34, 35, 36, 37, 38, 39, 40, 41, 42, 43, 44, 45, 95, 96, 97, 98, 99, 100, 101, 102, 103, 104, 105, 106, 107, 108, 109, 110, 111, 112, 113, 114, 115, 116, 117, 118, 119, 120, 121] (by decide +kernel) (by decide +kernel)
set_option maxRecDepth 20000 in
theorem gX3_balance_X3_remember : GoodIn wsX3_balance (wsV RX3 118 RX3 yX3_remember wsX3_remember) := goodIn_app (goodIn_of _ (by decide +kernel)) ggX3_balance_X3_remember
set_option maxRecDepth 20000 in
theorem ggX3_balance_X1_balanceBox : GoodIn wsX3_balance wsX1_balanceBox := goodIn_r _ [48, 25, 32, 49, 7, 50, 51, 52, 53, 20, 54, 55, 56, 57, 58, 27, 59, 13, 14, 15, 60, 61, 62, 38, 31, 33, 34, 30, 26, 63, 64, 65, 66, 24, 37, 23, 67, 68, 69, 70, 35, 71, 72, 73, 74, 75, 76, 77, 78, 79, 80, 81, 82, 83, 84, 85, 86, 87, 28, 29, 88, 40, 89, 90, 44, 45, 43, 91, 92, 93, 94, 103, 104, 105, 106, 107, 108, 109, 110, 111, 112, 113, 114, 115, 116, 117, 118, 119, 120, 121] (by decide +kernel) (by decide +kernel)
set_option maxRecDepth 20000 in
theorem gX3_balance_X1_balanceBox_n166 : GoodIn wsX3_balance (wsX1_balanceBox) := ggX3_balance_X1_balanceBox
theorem dX3_balance_0 : decode cX3_balance 0 = .ok (.aload_n 0, 1) := by decide +kernel
theorem dX3_balance_1 : decode cX3_balance 1 = .ok (.getfield 19, 3) := by decide +kernel
theorem dX3_balance_4 : decode cX3_balance 4 = .ok (.getfield 112, 3) := by decide +kernel
theorem dX3_balance_7 : decode cX3_balance 7 = .ok (.ifCond .eq 13, 3) := by decide +kernel
theorem dX3_balance_10 : decode cX3_balance 10 = .ok (.new 52, 3) := by decide +kernel
theorem dX3_balance_13 : decode cX3_balance 13 = .ok (.dup, 1) := by decide +kernel
theorem dX3_balance_14 : decode cX3_balance 14 = .ok (.ldc 116, 2) := by decide +kernel
theorem dX3_balance_16 : decode cX3_balance 16 = .ok (.invokespecial 56, 3) := by decide +kernel
theorem dX3_balance_19 : decode cX3_balance 19 = .ok (.athrow, 1) := by decide +kernel
theorem dX3_balance_20 : decode cX3_balance 20 = .ok (.aload_n 0, 1) := by decide +kernel
theorem dX3_balance_21 : decode cX3_balance 21 = .ok (.invokevirtual 118, 3) := by decide +kernel
theorem dX3_balance_24 : decode cX3_balance 24 = .ok (.aload_n 0, 1) := by decide +kernel
theorem dX3_balance_25 : decode cX3_balance 25 = .ok (.getfield 19, 3) := by decide +kernel
theorem dX3_balance_28 : decode cX3_balance 28 = .ok (.invokevirtual 166, 3) := by decide +kernel
theorem dX3_balance_31 : decode cX3_balance 31 = .ok (.aload_n 0, 1) := by decide +kernel
theorem dX3_balance_32 : decode cX3_balance 32 = .ok (.getfield 19, 3) := by decide +kernel
theorem dX3_balance_35 : decode cX3_balance 35 = .ok (.getfield 97, 3) := by decide +kernel
theorem dX3_balance_38 : decode cX3_balance 38 = .ok (.ireturn, 1) := by decide +kernel
set_option maxRecDepth 20000 in
theorem ggX3_undo_X3_entry : GoodIn wsX3_undo wsX3_entry := goodIn_r _ [10] (by decide +kernel) (by decide +kernel)
set_option maxRecDepth 20000 in
theorem gX3_undo_X3_entry : GoodIn wsX3_undo (va_wsS RX3 177 yX3_entry wsX3_entry) := goodIn_app (goodIn_of _ (by decide +kernel)) ggX3_undo_X3_entry
set_option maxRecDepth 20000 in
theorem ggX3_undo_X1_copyFrom : GoodIn wsX3_undo wsX1_copyFrom := goodIn_r _ [14, 15, 16, 17, 18, 19, 20, 21, 22, 23, 24, 25, 26, 27, 28, 29, 30, 31, 32, 33, 34, 35, 36, 37, 46, 47, 48, 49, 50, 51, 52, 53, 54, 55, 56, 57, 58, 59, 60, 61, 62, 63, 64] (by decide +kernel) (by decide +kernel)
set_option maxRecDepth 20000 in
theorem gX3_undo_X1_copyFrom_n181 : GoodIn wsX3_undo (wsX1_copyFrom) := ggX3_undo_X1_copyFrom
theorem dX3_undo_0 : decode cX3_undo 0 = .ok (.aload_n 0, 1) := by decide +kernel
theorem dX3_undo_1 : decode cX3_undo 1 = .ok (.getfield 169, 3) := by decide +kernel
theorem dX3_undo_4 : decode cX3_undo 4 = .ok (.ifCond .gt 13, 3) := by decide +kernel
theorem dX3_undo_7 : decode cX3_undo 7 = .ok (.new 52, 3) := by decide +kernel
theorem dX3_undo_10 : decode cX3_undo 10 = .ok (.dup, 1) := by decide +kernel
theorem dX3_undo_11 : decode cX3_undo 11 = .ok (.ldc 172, 2) := by decide +kernel
theorem dX3_undo_13 : decode cX3_undo 13 = .ok (.invokespecial 56, 3) := by decide +kernel
theorem dX3_undo_16 : decode cX3_undo 16 = .ok (.athrow, 1) := by decide +kernel
theorem dX3_undo_17 : decode cX3_undo 17 = .ok (.aload_n 0, 1) := by decide +kernel
theorem dX3_undo_18 : decode cX3_undo 18 = .ok (.aload_n 0, 1) := by decide +kernel
theorem dX3_undo_19 : decode cX3_undo 19 = .ok (.getfield 174, 3) := by decide +kernel
theorem dX3_undo_22 : decode cX3_undo 22 = .ok (.ifCond .le 12, 3) := by decide +kernel
theorem dX3_undo_25 : decode cX3_undo 25 = .ok (.aload_n 0, 1) := by decide +kernel
theorem dX3_undo_26 : decode cX3_undo 26 = .ok (.getfield 174, 3) := by decide +kernel
theorem dX3_undo_29 : decode cX3_undo 29 = .ok (.iconst 1, 1) := by decide +kernel
theorem dX3_undo_30 : decode cX3_undo 30 = .ok (.isub, 1) := by decide +kernel
theorem dX3_undo_31 : decode cX3_undo 31 = .ok (.goto 5, 3) := by decide +kernel
theorem dX3_undo_34 : decode cX3_undo 34 = .ok (.bipush 13, 2) := by decide +kernel
theorem dX3_undo_36 : decode cX3_undo 36 = .ok (.putfield 174, 3) := by decide +kernel
theorem dX3_undo_39 : decode cX3_undo 39 = .ok (.aload_n 0, 1) := by decide +kernel
theorem dX3_undo_40 : decode cX3_undo 40 = .ok (.dup, 1) := by decide +kernel
theorem dX3_undo_41 : decode cX3_undo 41 = .ok (.getfield 169, 3) := by decide +kernel
theorem dX3_undo_44 : decode cX3_undo 44 = .ok (.iconst 1, 1) := by decide +kernel
theorem dX3_undo_45 : decode cX3_undo 45 = .ok (.isub, 1) := by decide +kernel
theorem dX3_undo_46 : decode cX3_undo 46 = .ok (.putfield 169, 3) := by decide +kernel
theorem dX3_undo_49 : decode cX3_undo 49 = .ok (.aload_n 0, 1) := by decide +kernel
theorem dX3_undo_50 : decode cX3_undo 50 = .ok (.getfield 19, 3) := by decide +kernel
theorem dX3_undo_53 : decode cX3_undo 53 = .ok (.aload_n 0, 1) := by decide +kernel
theorem dX3_undo_54 : decode cX3_undo 54 = .ok (.getfield 26, 3) := by decide +kernel
theorem dX3_undo_57 : decode cX3_undo 57 = .ok (.aload_n 0, 1) := by decide +kernel
theorem dX3_undo_58 : decode cX3_undo 58 = .ok (.getfield 174, 3) := by decide +kernel
theorem dX3_undo_61 : decode cX3_undo 61 = .ok (.invokestatic 177, 3) := by decide +kernel
theorem dX3_undo_64 : decode cX3_undo 64 = .ok (.invokevirtual 181, 3) := by decide +kernel
theorem dX3_undo_67 : decode cX3_undo 67 = .ok (.aload_n 0, 1) := by decide +kernel
theorem dX3_undo_68 : decode cX3_undo 68 = .ok (.getfield 169, 3) := by decide +kernel
theorem dX3_undo_71 : decode cX3_undo 71 = .ok (.ireturn, 1) := by decide +kernel
set_option maxRecDepth 20000 in
theorem ggX3_value_X3_outside : GoodIn wsX3_value wsX3_outside := goodIn_r _ [7] (by decide +kernel) (by decide +kernel)
set_option maxRecDepth 20000 in
theorem gX3_value_X3_outside : GoodIn wsX3_value (va_wsS RX3 37 yX3_outside wsX3_outside) := goodIn_app (goodIn_of _ (by decide +kernel)) ggX3_value_X3_outside
set_option maxRecDepth 20000 in
theorem ggX3_value_X3_power : GoodIn wsX3_value wsX3_power := goodIn_r _ [10] (by decide +kernel) (by decide +kernel)
set_option maxRecDepth 20000 in
theorem gX3_value_X3_power : GoodIn wsX3_value (va_wsS RX3 190 yX3_power wsX3_power) := goodIn_app (goodIn_of _ (by decide +kernel)) ggX3_value_X3_power
set_option maxRecDepth 20000 in
theorem ggX3_value_X3_quotient : GoodIn wsX3_value wsX3_quotient := goodIn_r _ [13] (by decide +kernel) (by decide +kernel)
set_option maxRecDepth 20000 in
theorem gX3_value_X3_quotient : GoodIn wsX3_value (va_wsS RX3 196 yX3_quotient wsX3_quotient) := goodIn_app (goodIn_of _ (by decide +kernel)) ggX3_value_X3_quotient
theorem dX3_value_0 : decode cX3_value 0 = .ok (.iload_n 1, 1) := by decide +kernel
theorem dX3_value_1 : decode cX3_value 1 = .ok (.iconst 0, 1) := by decide +kernel
theorem dX3_value_2 : decode cX3_value 2 = .ok (.iconst 2, 1) := by decide +kernel
theorem dX3_value_3 : decode cX3_value 3 = .ok (.invokestatic 37, 3) := by decide +kernel
theorem dX3_value_6 : decode cX3_value 6 = .ok (.ifCond .eq 13, 3) := by decide +kernel
theorem dX3_value_9 : decode cX3_value 9 = .ok (.new 41, 3) := by decide +kernel
theorem dX3_value_12 : decode cX3_value 12 = .ok (.dup, 1) := by decide +kernel
theorem dX3_value_13 : decode cX3_value 13 = .ok (.ldc 185, 2) := by decide +kernel
theorem dX3_value_15 : decode cX3_value 15 = .ok (.invokespecial 45, 3) := by decide +kernel
theorem dX3_value_18 : decode cX3_value 18 = .ok (.athrow, 1) := by decide +kernel
theorem dX3_value_19 : decode cX3_value 19 = .ok (.aload_n 0, 1) := by decide +kernel
theorem dX3_value_20 : decode cX3_value 20 = .ok (.getfield 19, 3) := by decide +kernel
theorem dX3_value_23 : decode cX3_value 23 = .ok (.getfield 187, 3) := by decide +kernel
theorem dX3_value_26 : decode cX3_value 26 = .ok (.invokestatic 190, 3) := by decide +kernel
theorem dX3_value_29 : decode cX3_value 29 = .ok (.aload_n 0, 1) := by decide +kernel
theorem dX3_value_30 : decode cX3_value 30 = .ok (.getfield 19, 3) := by decide +kernel
theorem dX3_value_33 : decode cX3_value 33 = .ok (.getfield 97, 3) := by decide +kernel
theorem dX3_value_36 : decode cX3_value 36 = .ok (.imul, 1) := by decide +kernel
theorem dX3_value_37 : decode cX3_value 37 = .ok (.istore_n 2, 1) := by decide +kernel
theorem dX3_value_38 : decode cX3_value 38 = .ok (.aload_n 0, 1) := by decide +kernel
theorem dX3_value_39 : decode cX3_value 39 = .ok (.getfield 19, 3) := by decide +kernel
theorem dX3_value_42 : decode cX3_value 42 = .ok (.getfield 193, 3) := by decide +kernel
theorem dX3_value_45 : decode cX3_value 45 = .ok (.invokestatic 190, 3) := by decide +kernel
theorem dX3_value_48 : decode cX3_value 48 = .ok (.istore_n 3, 1) := by decide +kernel
theorem dX3_value_49 : decode cX3_value 49 = .ok (.iload_n 1, 1) := by decide +kernel
theorem dX3_value_50 : decode cX3_value 50 = .ok (.lookupswitch 48 #[(0, 26), (1, 38)], 26) := by decide +kernel
theorem dX3_value_76 : decode cX3_value 76 = .ok (.iconst 2, 1) := by decide +kernel
theorem dX3_value_77 : decode cX3_value 77 = .ok (.iload_n 2, 1) := by decide +kernel
theorem dX3_value_78 : decode cX3_value 78 = .ok (.imul, 1) := by decide +kernel
theorem dX3_value_79 : decode cX3_value 79 = .ok (.iload_n 3, 1) := by decide +kernel
theorem dX3_value_80 : decode cX3_value 80 = .ok (.iadd, 1) := by decide +kernel
theorem dX3_value_81 : decode cX3_value 81 = .ok (.iconst 2, 1) := by decide +kernel
theorem dX3_value_82 : decode cX3_value 82 = .ok (.iload_n 3, 1) := by decide +kernel
theorem dX3_value_83 : decode cX3_value 83 = .ok (.imul, 1) := by decide +kernel
theorem dX3_value_84 : decode cX3_value 84 = .ok (.invokestatic 196, 3) := by decide +kernel
theorem dX3_value_87 : decode cX3_value 87 = .ok (.ireturn, 1) := by decide +kernel
theorem dX3_value_88 : decode cX3_value 88 = .ok (.iload_n 2, 1) := by decide +kernel
theorem dX3_value_89 : decode cX3_value 89 = .ok (.iload_n 3, 1) := by decide +kernel
theorem dX3_value_90 : decode cX3_value 90 = .ok (.iadd, 1) := by decide +kernel
theorem dX3_value_91 : decode cX3_value 91 = .ok (.iconst 1, 1) := by decide +kernel
theorem dX3_value_92 : decode cX3_value 92 = .ok (.isub, 1) := by decide +kernel
theorem dX3_value_93 : decode cX3_value 93 = .ok (.iload_n 3, 1) := by decide +kernel
theorem dX3_value_94 : decode cX3_value 94 = .ok (.invokestatic 196, 3) := by decide +kernel
theorem dX3_value_97 : decode cX3_value 97 = .ok (.ireturn, 1) := by decide +kernel
theorem dX3_value_98 : decode cX3_value 98 = .ok (.iload_n 2, 1) := by decide +kernel
theorem dX3_value_99 : decode cX3_value 99 = .ok (.iload_n 3, 1) := by decide +kernel
theorem dX3_value_100 : decode cX3_value 100 = .ok (.invokestatic 196, 3) := by decide +kernel
theorem dX3_value_103 : decode cX3_value 103 = .ok (.ireturn, 1) := by decide +kernel
set_option maxRecDepth 20000 in
theorem ggX3_bestR_X1_hasUnknown : GoodIn wsX3_bestR wsX1_hasUnknown := goodIn_r _ [14, 15, 35, 36, 37, 38, 39, 40, 41, 42, 43, 44, 45, 46, 47, 48, 49, 50] (by decide +kernel) (by decide +kernel)
set_option maxRecDepth 20000 in
theorem gX3_bestR_X1_hasUnknown_n144 : GoodIn wsX3_bestR (wsX1_hasUnknown) := ggX3_bestR_X1_hasUnknown
set_option maxRecDepth 20000 in
theorem ggX3_bestR_X3_power : GoodIn wsX3_bestR wsX3_power := goodIn_r _ [19] (by decide +kernel) (by decide +kernel)
set_option maxRecDepth 20000 in
theorem gX3_bestR_X3_power : GoodIn wsX3_bestR (va_wsS RX3 190 yX3_power wsX3_power) := goodIn_app (goodIn_of _ (by decide +kernel)) ggX3_bestR_X3_power
set_option maxRecDepth 20000 in
theorem ggX3_bestR_X1_ohmsOf : GoodIn wsX3_bestR wsX1_ohmsOf := goodIn_r _ [22, 23, 35, 36, 37, 38, 39, 40, 41, 42, 43, 44, 45, 46, 47, 48, 49, 50] (by decide +kernel) (by decide +kernel)
set_option maxRecDepth 20000 in
theorem gX3_bestR_X1_ohmsOf_n199 : GoodIn wsX3_bestR (wsX1_ohmsOf) := ggX3_bestR_X1_ohmsOf
set_option maxRecDepth 20000 in
theorem ggX3_bestR_X3_quotient : GoodIn wsX3_bestR wsX3_quotient := goodIn_r _ [26] (by decide +kernel) (by decide +kernel)
set_option maxRecDepth 20000 in
theorem gX3_bestR_X3_quotient : GoodIn wsX3_bestR (va_wsS RX3 196 yX3_quotient wsX3_quotient) := goodIn_app (goodIn_of _ (by decide +kernel)) ggX3_bestR_X3_quotient
theorem dX3_bestR_0 : decode cX3_bestR 0 = .ok (.aload_n 0, 1) := by decide +kernel
theorem dX3_bestR_1 : decode cX3_bestR 1 = .ok (.getfield 19, 3) := by decide +kernel
theorem dX3_bestR_4 : decode cX3_bestR 4 = .ok (.iload_n 1, 1) := by decide +kernel
theorem dX3_bestR_5 : decode cX3_bestR 5 = .ok (.invokevirtual 144, 3) := by decide +kernel
theorem dX3_bestR_8 : decode cX3_bestR 8 = .ok (.ifCond .ne 13, 3) := by decide +kernel
theorem dX3_bestR_11 : decode cX3_bestR 11 = .ok (.new 148, 3) := by decide +kernel
theorem dX3_bestR_14 : decode cX3_bestR 14 = .ok (.dup, 1) := by decide +kernel
theorem dX3_bestR_15 : decode cX3_bestR 15 = .ok (.ldc 150, 2) := by decide +kernel
theorem dX3_bestR_17 : decode cX3_bestR 17 = .ok (.invokespecial 152, 3) := by decide +kernel
theorem dX3_bestR_20 : decode cX3_bestR 20 = .ok (.athrow, 1) := by decide +kernel
theorem dX3_bestR_21 : decode cX3_bestR 21 = .ok (.aload_n 0, 1) := by decide +kernel
theorem dX3_bestR_22 : decode cX3_bestR 22 = .ok (.getfield 19, 3) := by decide +kernel
theorem dX3_bestR_25 : decode cX3_bestR 25 = .ok (.getfield 187, 3) := by decide +kernel
theorem dX3_bestR_28 : decode cX3_bestR 28 = .ok (.invokestatic 190, 3) := by decide +kernel
theorem dX3_bestR_31 : decode cX3_bestR 31 = .ok (.istore_n 2, 1) := by decide +kernel
theorem dX3_bestR_32 : decode cX3_bestR 32 = .ok (.aload_n 0, 1) := by decide +kernel
theorem dX3_bestR_33 : decode cX3_bestR 33 = .ok (.getfield 19, 3) := by decide +kernel
theorem dX3_bestR_36 : decode cX3_bestR 36 = .ok (.getfield 193, 3) := by decide +kernel
theorem dX3_bestR_39 : decode cX3_bestR 39 = .ok (.invokestatic 190, 3) := by decide +kernel
theorem dX3_bestR_42 : decode cX3_bestR 42 = .ok (.aload_n 0, 1) := by decide +kernel
theorem dX3_bestR_43 : decode cX3_bestR 43 = .ok (.getfield 19, 3) := by decide +kernel
theorem dX3_bestR_46 : decode cX3_bestR 46 = .ok (.iload_n 1, 1) := by decide +kernel
theorem dX3_bestR_47 : decode cX3_bestR 47 = .ok (.invokevirtual 199, 3) := by decide +kernel
theorem dX3_bestR_50 : decode cX3_bestR 50 = .ok (.imul, 1) := by decide +kernel
theorem dX3_bestR_51 : decode cX3_bestR 51 = .ok (.istore_n 3, 1) := by decide +kernel
theorem dX3_bestR_52 : decode cX3_bestR 52 = .ok (.sipush 9999, 3) := by decide +kernel
theorem dX3_bestR_55 : decode cX3_bestR 55 = .ok (.iload_n 3, 1) := by decide +kernel
theorem dX3_bestR_56 : decode cX3_bestR 56 = .ok (.iload_n 2, 1) := by decide +kernel
theorem dX3_bestR_57 : decode cX3_bestR 57 = .ok (.invokestatic 196, 3) := by decide +kernel
theorem dX3_bestR_60 : decode cX3_bestR 60 = .ok (.invokestatic 202, 3) := by decide +kernel
theorem dX3_bestR_63 : decode cX3_bestR 63 = .ok (.istore 4, 2) := by decide +kernel
theorem dX3_bestR_65 : decode cX3_bestR 65 = .ok (.sipush 9999, 3) := by decide +kernel
theorem dX3_bestR_68 : decode cX3_bestR 68 = .ok (.iload 4, 2) := by decide +kernel
theorem dX3_bestR_70 : decode cX3_bestR 70 = .ok (.iconst 1, 1) := by decide +kernel
theorem dX3_bestR_71 : decode cX3_bestR 71 = .ok (.iadd, 1) := by decide +kernel
theorem dX3_bestR_72 : decode cX3_bestR 72 = .ok (.invokestatic 202, 3) := by decide +kernel
theorem dX3_bestR_75 : decode cX3_bestR 75 = .ok (.istore 5, 2) := by decide +kernel
theorem dX3_bestR_77 : decode cX3_bestR 77 = .ok (.iload_n 3, 1) := by decide +kernel
theorem dX3_bestR_78 : decode cX3_bestR 78 = .ok (.iload_n 2, 1) := by decide +kernel
theorem dX3_bestR_79 : decode cX3_bestR 79 = .ok (.iload 5, 2) := by decide +kernel
theorem dX3_bestR_81 : decode cX3_bestR 81 = .ok (.imul, 1) := by decide +kernel
theorem dX3_bestR_82 : decode cX3_bestR 82 = .ok (.isub, 1) := by decide +kernel
theorem dX3_bestR_83 : decode cX3_bestR 83 = .ok (.invokestatic 207, 3) := by decide +kernel
theorem dX3_bestR_86 : decode cX3_bestR 86 = .ok (.iload_n 3, 1) := by decide +kernel
theorem dX3_bestR_87 : decode cX3_bestR 87 = .ok (.iload_n 2, 1) := by decide +kernel
theorem dX3_bestR_88 : decode cX3_bestR 88 = .ok (.iload 4, 2) := by decide +kernel
theorem dX3_bestR_90 : decode cX3_bestR 90 = .ok (.imul, 1) := by decide +kernel
theorem dX3_bestR_91 : decode cX3_bestR 91 = .ok (.isub, 1) := by decide +kernel
theorem dX3_bestR_92 : decode cX3_bestR 92 = .ok (.invokestatic 207, 3) := by decide +kernel
theorem dX3_bestR_95 : decode cX3_bestR 95 = .ok (.if_icmp .ge 8, 3) := by decide +kernel
theorem dX3_bestR_98 : decode cX3_bestR 98 = .ok (.iload 5, 2) := by decide +kernel
theorem dX3_bestR_100 : decode cX3_bestR 100 = .ok (.goto 5, 3) := by decide +kernel
theorem dX3_bestR_103 : decode cX3_bestR 103 = .ok (.iload 4, 2) := by decide +kernel
theorem dX3_bestR_105 : decode cX3_bestR 105 = .ok (.ireturn, 1) := by decide +kernel
set_option maxRecDepth 20000 in
theorem ggX3_bestArms_X1_hasUnknown : GoodIn wsX3_bestArms wsX1_hasUnknown := goodIn_r _ [7, 8, 25, 26, 27, 28, 29, 30, 31, 32, 33, 34, 35, 36, 37, 38, 39, 40] (by decide +kernel) (by decide +kernel)
set_option maxRecDepth 20000 in
theorem gX3_bestArms_X1_hasUnknown_n144 : GoodIn wsX3_bestArms (wsX1_hasUnknown) := ggX3_bestArms_X1_hasUnknown
set_option maxRecDepth 20000 in
theorem ggX3_bestArms_X1_ohmsOf : GoodIn wsX3_bestArms wsX1_ohmsOf := goodIn_r _ [11, 12, 25, 26, 27, 28, 29, 30, 31, 32, 33, 34, 35, 36, 37, 38, 39, 40] (by decide +kernel) (by decide +kernel)
set_option maxRecDepth 20000 in
theorem gX3_bestArms_X1_ohmsOf_n199 : GoodIn wsX3_bestArms (wsX1_ohmsOf) := ggX3_bestArms_X1_ohmsOf
set_option maxRecDepth 20000 in
theorem ggX3_bestArms_X3_power : GoodIn wsX3_bestArms wsX3_power := goodIn_r _ [16] (by decide +kernel) (by decide +kernel)
set_option maxRecDepth 20000 in
theorem gX3_bestArms_X3_power : GoodIn wsX3_bestArms (va_wsS RX3 190 yX3_power wsX3_power) := goodIn_app (goodIn_of _ (by decide +kernel)) ggX3_bestArms_X3_power
theorem dX3_bestArms_0 : decode cX3_bestArms 0 = .ok (.aload_n 0, 1) := by decide +kernel
theorem dX3_bestArms_1 : decode cX3_bestArms 1 = .ok (.getfield 19, 3) := by decide +kernel
theorem dX3_bestArms_4 : decode cX3_bestArms 4 = .ok (.iload_n 1, 1) := by decide +kernel
theorem dX3_bestArms_5 : decode cX3_bestArms 5 = .ok (.invokevirtual 144, 3) := by decide +kernel
theorem dX3_bestArms_8 : decode cX3_bestArms 8 = .ok (.ifCond .ne 13, 3) := by decide +kernel
theorem dX3_bestArms_11 : decode cX3_bestArms 11 = .ok (.new 148, 3) := by decide +kernel
theorem dX3_bestArms_14 : decode cX3_bestArms 14 = .ok (.dup, 1) := by decide +kernel
theorem dX3_bestArms_15 : decode cX3_bestArms 15 = .ok (.ldc 150, 2) := by decide +kernel
theorem dX3_bestArms_17 : decode cX3_bestArms 17 = .ok (.invokespecial 152, 3) := by decide +kernel
theorem dX3_bestArms_20 : decode cX3_bestArms 20 = .ok (.athrow, 1) := by decide +kernel
theorem dX3_bestArms_21 : decode cX3_bestArms 21 = .ok (.iconst 0, 1) := by decide +kernel
theorem dX3_bestArms_22 : decode cX3_bestArms 22 = .ok (.istore_n 2, 1) := by decide +kernel
theorem dX3_bestArms_23 : decode cX3_bestArms 23 = .ok (.iconst 1, 1) := by decide +kernel
theorem dX3_bestArms_24 : decode cX3_bestArms 24 = .ok (.istore_n 3, 1) := by decide +kernel
theorem dX3_bestArms_25 : decode cX3_bestArms 25 = .ok (.iload_n 3, 1) := by decide +kernel
theorem dX3_bestArms_26 : decode cX3_bestArms 26 = .ok (.iconst 3, 1) := by decide +kernel
theorem dX3_bestArms_27 : decode cX3_bestArms 27 = .ok (.if_icmp .gt 30, 3) := by decide +kernel
theorem dX3_bestArms_30 : decode cX3_bestArms 30 = .ok (.aload_n 0, 1) := by decide +kernel
theorem dX3_bestArms_31 : decode cX3_bestArms 31 = .ok (.getfield 19, 3) := by decide +kernel
theorem dX3_bestArms_34 : decode cX3_bestArms 34 = .ok (.iload_n 1, 1) := by decide +kernel
theorem dX3_bestArms_35 : decode cX3_bestArms 35 = .ok (.invokevirtual 199, 3) := by decide +kernel
theorem dX3_bestArms_38 : decode cX3_bestArms 38 = .ok (.iload_n 3, 1) := by decide +kernel
theorem dX3_bestArms_39 : decode cX3_bestArms 39 = .ok (.invokestatic 190, 3) := by decide +kernel
theorem dX3_bestArms_42 : decode cX3_bestArms 42 = .ok (.imul, 1) := by decide +kernel
theorem dX3_bestArms_43 : decode cX3_bestArms 43 = .ok (.sipush 9999, 3) := by decide +kernel
theorem dX3_bestArms_46 : decode cX3_bestArms 46 = .ok (.if_icmp .gt 5, 3) := by decide +kernel
theorem dX3_bestArms_49 : decode cX3_bestArms 49 = .ok (.iload_n 3, 1) := by decide +kernel
theorem dX3_bestArms_50 : decode cX3_bestArms 50 = .ok (.istore_n 2, 1) := by decide +kernel
theorem dX3_bestArms_51 : decode cX3_bestArms 51 = .ok (.iinc 3 1, 3) := by decide +kernel
theorem dX3_bestArms_54 : decode cX3_bestArms 54 = .ok (.goto (-29), 3) := by decide +kernel
theorem dX3_bestArms_57 : decode cX3_bestArms 57 = .ok (.iload_n 2, 1) := by decide +kernel
theorem dX3_bestArms_58 : decode cX3_bestArms 58 = .ok (.ireturn, 1) := by decide +kernel
set_option maxRecDepth 20000 in
theorem ggX3_enoughShunt_X1_difference : GoodIn wsX3_enoughShunt wsX1_difference := goodIn_r _ [5, 6, 7, 8, 9, 10, 11, 12, 13, 14, 3, 15, 16, 46, 47, 48, 49, 50, 51, 52, 53, 54, 55, 56, 57, 58, 59, 60, 61] (by decide +kernel) (by decide +kernel)
set_option maxRecDepth 20000 in
theorem gX3_enoughShunt_X1_difference_n100 : GoodIn wsX3_enoughShunt (wsX1_difference) := ggX3_enoughShunt_X1_difference
set_option maxRecDepth 20000 in
theorem ggX3_enoughShunt_X1_denominator : GoodIn wsX3_enoughShunt wsX1_denominator := goodIn_r _ [19, 8, 6, 7, 9, 10, 11, 12, 13, 14, 3, 15, 16, 46, 47, 48, 49, 50, 51, 52, 53, 54, 55, 56, 57, 58, 59, 60, 61] (by decide +kernel) (by decide +kernel)
set_option maxRecDepth 20000 in
theorem gX3_enoughShunt_X1_denominator_n103 : GoodIn wsX3_enoughShunt (wsX1_denominator) := ggX3_enoughShunt_X1_denominator
set_option maxRecDepth 20000 in
theorem ggX3_enoughShunt_X1_offset : GoodIn wsX3_enoughShunt wsX1_offset := goodIn_r _ [22, 23, 24, 25, 26, 3, 27, 28, 29, 46, 47, 48, 49, 50, 51, 52, 53, 54, 55, 56, 57, 58, 59, 60, 61] (by decide +kernel) (by decide +kernel)
set_option maxRecDepth 20000 in
theorem gX3_enoughShunt_X1_offset_n109 : GoodIn wsX3_enoughShunt (wsX1_offset) := ggX3_enoughShunt_X1_offset
set_option maxRecDepth 20000 in
theorem ggX3_enoughShunt_X1_deflection : GoodIn wsX3_enoughShunt wsX1_deflection := goodIn_r _ [32, 33, 34, 9, 10, 11, 46, 47, 48, 49, 50, 51, 52, 53, 54, 55, 56, 57, 58, 59, 60, 61] (by decide +kernel) (by decide +kernel)
set_option maxRecDepth 20000 in
theorem gX3_enoughShunt_X1_deflection_n210 : GoodIn wsX3_enoughShunt (wsX1_deflection) := ggX3_enoughShunt_X1_deflection
set_option maxRecDepth 20000 in
theorem ggX3_enoughShunt_X3_outside : GoodIn wsX3_enoughShunt wsX3_outside := goodIn_r _ [37] (by decide +kernel) (by decide +kernel)
set_option maxRecDepth 20000 in
theorem gX3_enoughShunt_X3_outside : GoodIn wsX3_enoughShunt (va_wsS RX3 37 yX3_outside wsX3_outside) := goodIn_app (goodIn_of _ (by decide +kernel)) ggX3_enoughShunt_X3_outside
theorem dX3_enoughShunt_0 : decode cX3_enoughShunt 0 = .ok (.aload_n 0, 1) := by decide +kernel
theorem dX3_enoughShunt_1 : decode cX3_enoughShunt 1 = .ok (.getfield 19, 3) := by decide +kernel
theorem dX3_enoughShunt_4 : decode cX3_enoughShunt 4 = .ok (.aload_n 0, 1) := by decide +kernel
theorem dX3_enoughShunt_5 : decode cX3_enoughShunt 5 = .ok (.getfield 19, 3) := by decide +kernel
theorem dX3_enoughShunt_8 : decode cX3_enoughShunt 8 = .ok (.getfield 97, 3) := by decide +kernel
theorem dX3_enoughShunt_11 : decode cX3_enoughShunt 11 = .ok (.invokevirtual 100, 3) := by decide +kernel
theorem dX3_enoughShunt_14 : decode cX3_enoughShunt 14 = .ok (.istore_n 1, 1) := by decide +kernel
theorem dX3_enoughShunt_15 : decode cX3_enoughShunt 15 = .ok (.aload_n 0, 1) := by decide +kernel
theorem dX3_enoughShunt_16 : decode cX3_enoughShunt 16 = .ok (.getfield 19, 3) := by decide +kernel
theorem dX3_enoughShunt_19 : decode cX3_enoughShunt 19 = .ok (.aload_n 0, 1) := by decide +kernel
theorem dX3_enoughShunt_20 : decode cX3_enoughShunt 20 = .ok (.getfield 19, 3) := by decide +kernel
theorem dX3_enoughShunt_23 : decode cX3_enoughShunt 23 = .ok (.getfield 97, 3) := by decide +kernel
theorem dX3_enoughShunt_26 : decode cX3_enoughShunt 26 = .ok (.invokevirtual 103, 3) := by decide +kernel
theorem dX3_enoughShunt_29 : decode cX3_enoughShunt 29 = .ok (.istore_n 2, 1) := by decide +kernel
theorem dX3_enoughShunt_30 : decode cX3_enoughShunt 30 = .ok (.aload_n 0, 1) := by decide +kernel
theorem dX3_enoughShunt_31 : decode cX3_enoughShunt 31 = .ok (.getfield 19, 3) := by decide +kernel
theorem dX3_enoughShunt_34 : decode cX3_enoughShunt 34 = .ok (.invokevirtual 109, 3) := by decide +kernel
theorem dX3_enoughShunt_37 : decode cX3_enoughShunt 37 = .ok (.istore_n 3, 1) := by decide +kernel
theorem dX3_enoughShunt_38 : decode cX3_enoughShunt 38 = .ok (.iconst 0, 1) := by decide +kernel
theorem dX3_enoughShunt_39 : decode cX3_enoughShunt 39 = .ok (.istore 4, 2) := by decide +kernel
theorem dX3_enoughShunt_41 : decode cX3_enoughShunt 41 = .ok (.iload 4, 2) := by decide +kernel
theorem dX3_enoughShunt_43 : decode cX3_enoughShunt 43 = .ok (.iconst 3, 1) := by decide +kernel
theorem dX3_enoughShunt_44 : decode cX3_enoughShunt 44 = .ok (.if_icmp .gt 57, 3) := by decide +kernel
theorem dX3_enoughShunt_47 : decode cX3_enoughShunt 47 = .ok (.aload_n 0, 1) := by decide +kernel
theorem dX3_enoughShunt_48 : decode cX3_enoughShunt 48 = .ok (.getfield 19, 3) := by decide +kernel
theorem dX3_enoughShunt_51 : decode cX3_enoughShunt 51 = .ok (.iload_n 1, 1) := by decide +kernel
theorem dX3_enoughShunt_52 : decode cX3_enoughShunt 52 = .ok (.iload_n 2, 1) := by decide +kernel
theorem dX3_enoughShunt_53 : decode cX3_enoughShunt 53 = .ok (.iload 4, 2) := by decide +kernel
theorem dX3_enoughShunt_55 : decode cX3_enoughShunt 55 = .ok (.invokevirtual 210, 3) := by decide +kernel
theorem dX3_enoughShunt_58 : decode cX3_enoughShunt 58 = .ok (.istore 5, 2) := by decide +kernel
theorem dX3_enoughShunt_60 : decode cX3_enoughShunt 60 = .ok (.iload_n 3, 1) := by decide +kernel
theorem dX3_enoughShunt_61 : decode cX3_enoughShunt 61 = .ok (.iload 5, 2) := by decide +kernel
theorem dX3_enoughShunt_63 : decode cX3_enoughShunt 63 = .ok (.iadd, 1) := by decide +kernel
theorem dX3_enoughShunt_64 : decode cX3_enoughShunt 64 = .ok (.sipush (-500), 3) := by decide +kernel
theorem dX3_enoughShunt_67 : decode cX3_enoughShunt 67 = .ok (.sipush 500, 3) := by decide +kernel
theorem dX3_enoughShunt_70 : decode cX3_enoughShunt 70 = .ok (.invokestatic 37, 3) := by decide +kernel
theorem dX3_enoughShunt_73 : decode cX3_enoughShunt 73 = .ok (.ifCond .ne 22, 3) := by decide +kernel
theorem dX3_enoughShunt_76 : decode cX3_enoughShunt 76 = .ok (.iload_n 3, 1) := by decide +kernel
theorem dX3_enoughShunt_77 : decode cX3_enoughShunt 77 = .ok (.iload 5, 2) := by decide +kernel
theorem dX3_enoughShunt_79 : decode cX3_enoughShunt 79 = .ok (.isub, 1) := by decide +kernel
theorem dX3_enoughShunt_80 : decode cX3_enoughShunt 80 = .ok (.sipush (-500), 3) := by decide +kernel
theorem dX3_enoughShunt_83 : decode cX3_enoughShunt 83 = .ok (.sipush 500, 3) := by decide +kernel
theorem dX3_enoughShunt_86 : decode cX3_enoughShunt 86 = .ok (.invokestatic 37, 3) := by decide +kernel
theorem dX3_enoughShunt_89 : decode cX3_enoughShunt 89 = .ok (.ifCond .ne 6, 3) := by decide +kernel
theorem dX3_enoughShunt_92 : decode cX3_enoughShunt 92 = .ok (.iload 4, 2) := by decide +kernel
theorem dX3_enoughShunt_94 : decode cX3_enoughShunt 94 = .ok (.ireturn, 1) := by decide +kernel
theorem dX3_enoughShunt_95 : decode cX3_enoughShunt 95 = .ok (.iinc 4 1, 3) := by decide +kernel
theorem dX3_enoughShunt_98 : decode cX3_enoughShunt 98 = .ok (.goto (-57), 3) := by decide +kernel
theorem dX3_enoughShunt_101 : decode cX3_enoughShunt 101 = .ok (.sipush (-9999), 3) := by decide +kernel
theorem dX3_enoughShunt_104 : decode cX3_enoughShunt 104 = .ok (.ireturn, 1) := by decide +kernel
set_option maxRecDepth 20000 in
theorem ggX3_sensitivity_X3_deflectionWith : GoodIn wsX3_sensitivity wsX3_deflectionWith := goodIn_r _ [13, 1, 14, 15, 16, 17, 18, 19, 20, 21, 12, 22, 23, 24, 25, 26, 27, 28, 29, 30, 31, 32, 33, 34, 35, 36, 37, 38, 39, 40, 41, 42, 43, 44, 45, 46, 47, 48, 49, 50, 51, 52, 53, 54, 55, 56, 57, 58, 59] (by decide +kernel) (by decide +kernel)
set_option maxRecDepth 20000 in
theorem gX3_sensitivity_X3_deflectionWith : GoodIn wsX3_sensitivity (wsV RX3 106 RX3 yX3_deflectionWith wsX3_deflectionWith) := goodIn_app (goodIn_of _ (by decide +kernel)) ggX3_sensitivity_X3_deflectionWith
theorem dX3_sensitivity_0 : decode cX3_sensitivity 0 = .ok (.aload_n 0, 1) := by decide +kernel
theorem dX3_sensitivity_1 : decode cX3_sensitivity 1 = .ok (.aload_n 0, 1) := by decide +kernel
theorem dX3_sensitivity_2 : decode cX3_sensitivity 2 = .ok (.getfield 19, 3) := by decide +kernel
theorem dX3_sensitivity_5 : decode cX3_sensitivity 5 = .ok (.getfield 97, 3) := by decide +kernel
theorem dX3_sensitivity_8 : decode cX3_sensitivity 8 = .ok (.invokevirtual 106, 3) := by decide +kernel
theorem dX3_sensitivity_11 : decode cX3_sensitivity 11 = .ok (.istore_n 1, 1) := by decide +kernel
theorem dX3_sensitivity_12 : decode cX3_sensitivity 12 = .ok (.iconst 0, 1) := by decide +kernel
theorem dX3_sensitivity_13 : decode cX3_sensitivity 13 = .ok (.istore_n 2, 1) := by decide +kernel
theorem dX3_sensitivity_14 : decode cX3_sensitivity 14 = .ok (.aload_n 0, 1) := by decide +kernel
theorem dX3_sensitivity_15 : decode cX3_sensitivity 15 = .ok (.getfield 19, 3) := by decide +kernel
theorem dX3_sensitivity_18 : decode cX3_sensitivity 18 = .ok (.getfield 97, 3) := by decide +kernel
theorem dX3_sensitivity_21 : decode cX3_sensitivity 21 = .ok (.sipush 9999, 3) := by decide +kernel
theorem dX3_sensitivity_24 : decode cX3_sensitivity 24 = .ok (.if_icmp .ge 22, 3) := by decide +kernel
theorem dX3_sensitivity_27 : decode cX3_sensitivity 27 = .ok (.aload_n 0, 1) := by decide +kernel
theorem dX3_sensitivity_28 : decode cX3_sensitivity 28 = .ok (.aload_n 0, 1) := by decide +kernel
theorem dX3_sensitivity_29 : decode cX3_sensitivity 29 = .ok (.getfield 19, 3) := by decide +kernel
theorem dX3_sensitivity_32 : decode cX3_sensitivity 32 = .ok (.getfield 97, 3) := by decide +kernel
theorem dX3_sensitivity_35 : decode cX3_sensitivity 35 = .ok (.iconst 1, 1) := by decide +kernel
theorem dX3_sensitivity_36 : decode cX3_sensitivity 36 = .ok (.iadd, 1) := by decide +kernel
theorem dX3_sensitivity_37 : decode cX3_sensitivity 37 = .ok (.invokevirtual 106, 3) := by decide +kernel
theorem dX3_sensitivity_40 : decode cX3_sensitivity 40 = .ok (.iload_n 1, 1) := by decide +kernel
theorem dX3_sensitivity_41 : decode cX3_sensitivity 41 = .ok (.isub, 1) := by decide +kernel
theorem dX3_sensitivity_42 : decode cX3_sensitivity 42 = .ok (.invokestatic 207, 3) := by decide +kernel
theorem dX3_sensitivity_45 : decode cX3_sensitivity 45 = .ok (.istore_n 2, 1) := by decide +kernel
theorem dX3_sensitivity_46 : decode cX3_sensitivity 46 = .ok (.aload_n 0, 1) := by decide +kernel
theorem dX3_sensitivity_47 : decode cX3_sensitivity 47 = .ok (.getfield 19, 3) := by decide +kernel
theorem dX3_sensitivity_50 : decode cX3_sensitivity 50 = .ok (.getfield 97, 3) := by decide +kernel
theorem dX3_sensitivity_53 : decode cX3_sensitivity 53 = .ok (.ifCond .le 26, 3) := by decide +kernel
theorem dX3_sensitivity_56 : decode cX3_sensitivity 56 = .ok (.iload_n 2, 1) := by decide +kernel
theorem dX3_sensitivity_57 : decode cX3_sensitivity 57 = .ok (.aload_n 0, 1) := by decide +kernel
theorem dX3_sensitivity_58 : decode cX3_sensitivity 58 = .ok (.aload_n 0, 1) := by decide +kernel
theorem dX3_sensitivity_59 : decode cX3_sensitivity 59 = .ok (.getfield 19, 3) := by decide +kernel
theorem dX3_sensitivity_62 : decode cX3_sensitivity 62 = .ok (.getfield 97, 3) := by decide +kernel
theorem dX3_sensitivity_65 : decode cX3_sensitivity 65 = .ok (.iconst 1, 1) := by decide +kernel
theorem dX3_sensitivity_66 : decode cX3_sensitivity 66 = .ok (.isub, 1) := by decide +kernel
theorem dX3_sensitivity_67 : decode cX3_sensitivity 67 = .ok (.invokevirtual 106, 3) := by decide +kernel
theorem dX3_sensitivity_70 : decode cX3_sensitivity 70 = .ok (.iload_n 1, 1) := by decide +kernel
theorem dX3_sensitivity_71 : decode cX3_sensitivity 71 = .ok (.isub, 1) := by decide +kernel
theorem dX3_sensitivity_72 : decode cX3_sensitivity 72 = .ok (.invokestatic 207, 3) := by decide +kernel
