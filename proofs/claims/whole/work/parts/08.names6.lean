theorem dX4_bestR_0 : decode cX4_bestR 0 = .ok (.aload_n 0, 1) := by decide +kernel
theorem dX4_bestR_1 : decode cX4_bestR 1 = .ok (.aload_n 0, 1) := by decide +kernel
theorem dX4_bestR_2 : decode cX4_bestR 2 = .ok (.getfield 16, 3) := by decide +kernel
theorem dX4_bestR_5 : decode cX4_bestR 5 = .ok (.iload_n 1, 1) := by decide +kernel
theorem dX4_bestR_6 : decode cX4_bestR 6 = .ok (.invokestatic 139, 3) := by decide +kernel
theorem dX4_bestR_9 : decode cX4_bestR 9 = .ok (.ifCond .eq 7, 3) := by decide +kernel
theorem dX4_bestR_12 : decode cX4_bestR 12 = .ok (.iconst 0, 1) := by decide +kernel
theorem dX4_bestR_13 : decode cX4_bestR 13 = .ok (.goto 4, 3) := by decide +kernel
theorem dX4_bestR_16 : decode cX4_bestR 16 = .ok (.iconst 1, 1) := by decide +kernel
theorem dX4_bestR_17 : decode cX4_bestR 17 = .ok (.invokevirtual 95, 3) := by decide +kernel
theorem dX4_bestR_20 : decode cX4_bestR 20 = .ok (.ifCond .eq 5, 3) := by decide +kernel
theorem dX4_bestR_23 : decode cX4_bestR 23 = .ok (.iconst 0, 1) := by decide +kernel
theorem dX4_bestR_24 : decode cX4_bestR 24 = .ok (.ireturn, 1) := by decide +kernel
theorem dX4_bestR_25 : decode cX4_bestR 25 = .ok (.iconst 0, 1) := by decide +kernel
theorem dX4_bestR_26 : decode cX4_bestR 26 = .ok (.istore_n 2, 1) := by decide +kernel
theorem dX4_bestR_27 : decode cX4_bestR 27 = .ok (.iconst 1, 1) := by decide +kernel
theorem dX4_bestR_28 : decode cX4_bestR 28 = .ok (.istore_n 3, 1) := by decide +kernel
theorem dX4_bestR_29 : decode cX4_bestR 29 = .ok (.iload_n 3, 1) := by decide +kernel
theorem dX4_bestR_30 : decode cX4_bestR 30 = .ok (.sipush 9999, 3) := by decide +kernel
theorem dX4_bestR_33 : decode cX4_bestR 33 = .ok (.if_icmp .gt 58, 3) := by decide +kernel
theorem dX4_bestR_36 : decode cX4_bestR 36 = .ok (.aload_n 0, 1) := by decide +kernel
theorem dX4_bestR_37 : decode cX4_bestR 37 = .ok (.getfield 16, 3) := by decide +kernel
theorem dX4_bestR_40 : decode cX4_bestR 40 = .ok (.aload_n 0, 1) := by decide +kernel
theorem dX4_bestR_41 : decode cX4_bestR 41 = .ok (.getfield 16, 3) := by decide +kernel
theorem dX4_bestR_44 : decode cX4_bestR 44 = .ok (.bipush 15, 2) := by decide +kernel
theorem dX4_bestR_46 : decode cX4_bestR 46 = .ok (.iload_n 1, 1) := by decide +kernel
theorem dX4_bestR_47 : decode cX4_bestR 47 = .ok (.iadd, 1) := by decide +kernel
theorem dX4_bestR_48 : decode cX4_bestR 48 = .ok (.iaload, 1) := by decide +kernel
theorem dX4_bestR_49 : decode cX4_bestR 49 = .ok (.iload_n 3, 1) := by decide +kernel
theorem dX4_bestR_50 : decode cX4_bestR 50 = .ok (.invokestatic 62, 3) := by decide +kernel
theorem dX4_bestR_53 : decode cX4_bestR 53 = .ok (.invokestatic 152, 3) := by decide +kernel
theorem dX4_bestR_56 : decode cX4_bestR 56 = .ok (.aload_n 0, 1) := by decide +kernel
theorem dX4_bestR_57 : decode cX4_bestR 57 = .ok (.getfield 16, 3) := by decide +kernel
theorem dX4_bestR_60 : decode cX4_bestR 60 = .ok (.aload_n 0, 1) := by decide +kernel
theorem dX4_bestR_61 : decode cX4_bestR 61 = .ok (.getfield 16, 3) := by decide +kernel
theorem dX4_bestR_64 : decode cX4_bestR 64 = .ok (.bipush 15, 2) := by decide +kernel
theorem dX4_bestR_66 : decode cX4_bestR 66 = .ok (.iload_n 1, 1) := by decide +kernel
theorem dX4_bestR_67 : decode cX4_bestR 67 = .ok (.iadd, 1) := by decide +kernel
theorem dX4_bestR_68 : decode cX4_bestR 68 = .ok (.iaload, 1) := by decide +kernel
theorem dX4_bestR_69 : decode cX4_bestR 69 = .ok (.iload_n 2, 1) := by decide +kernel
theorem dX4_bestR_70 : decode cX4_bestR 70 = .ok (.invokestatic 62, 3) := by decide +kernel
theorem dX4_bestR_73 : decode cX4_bestR 73 = .ok (.invokestatic 152, 3) := by decide +kernel
theorem dX4_bestR_76 : decode cX4_bestR 76 = .ok (.if_icmp .ge 7, 3) := by decide +kernel
theorem dX4_bestR_79 : decode cX4_bestR 79 = .ok (.iload_n 3, 1) := by decide +kernel
theorem dX4_bestR_80 : decode cX4_bestR 80 = .ok (.goto 4, 3) := by decide +kernel
theorem dX4_bestR_83 : decode cX4_bestR 83 = .ok (.iload_n 2, 1) := by decide +kernel
theorem dX4_bestR_84 : decode cX4_bestR 84 = .ok (.istore_n 2, 1) := by decide +kernel
theorem dX4_bestR_85 : decode cX4_bestR 85 = .ok (.iinc 3 1, 3) := by decide +kernel
theorem dX4_bestR_88 : decode cX4_bestR 88 = .ok (.goto (-59), 3) := by decide +kernel
theorem dX4_bestR_91 : decode cX4_bestR 91 = .ok (.iload_n 2, 1) := by decide +kernel
theorem dX4_bestR_92 : decode cX4_bestR 92 = .ok (.ireturn, 1) := by decide +kernel
set_option maxRecDepth 20000 in
theorem ggX4_bestArms_X4_isUnknown : GoodIn wsX4_bestArms wsX4_isUnknown := goodIn_r _ [5, 6, 7, 4, 8] (by decide +kernel) (by decide +kernel)
set_option maxRecDepth 20000 in
theorem gX4_bestArms_X4_isUnknown : GoodIn wsX4_bestArms (va_wsS RX4 139 yX4_isUnknown wsX4_isUnknown) := goodIn_app (goodIn_of _ (by decide +kernel)) ggX4_bestArms_X4_isUnknown
set_option maxRecDepth 20000 in
theorem ggX4_bestArms_X4_refused : GoodIn wsX4_bestArms wsX4_refused := goodIn_r _ [12, 13, 17, 18, 19, 20, 21, 22, 23, 24, 25, 26, 27] (by decide +kernel) (by decide +kernel)
set_option maxRecDepth 20000 in
theorem gX4_bestArms_X4_refused : GoodIn wsX4_bestArms (wsV RX4 95 RX4 yX4_refused wsX4_refused) := goodIn_app (goodIn_of _ (by decide +kernel)) ggX4_bestArms_X4_refused
set_option maxRecDepth 20000 in
theorem ggX4_bestArms_X4_ten : GoodIn wsX4_bestArms wsX4_ten := goodIn_r _ [16] (by decide +kernel) (by decide +kernel)
set_option maxRecDepth 20000 in
theorem gX4_bestArms_X4_ten : GoodIn wsX4_bestArms (va_wsS RX4 52 yX4_ten wsX4_ten) := goodIn_app (goodIn_of _ (by decide +kernel)) ggX4_bestArms_X4_ten
theorem dX4_bestArms_0 : decode cX4_bestArms 0 = .ok (.aload_n 0, 1) := by decide +kernel
theorem dX4_bestArms_1 : decode cX4_bestArms 1 = .ok (.aload_n 0, 1) := by decide +kernel
theorem dX4_bestArms_2 : decode cX4_bestArms 2 = .ok (.getfield 16, 3) := by decide +kernel
theorem dX4_bestArms_5 : decode cX4_bestArms 5 = .ok (.iload_n 1, 1) := by decide +kernel
theorem dX4_bestArms_6 : decode cX4_bestArms 6 = .ok (.invokestatic 139, 3) := by decide +kernel
theorem dX4_bestArms_9 : decode cX4_bestArms 9 = .ok (.ifCond .eq 7, 3) := by decide +kernel
theorem dX4_bestArms_12 : decode cX4_bestArms 12 = .ok (.iconst 0, 1) := by decide +kernel
theorem dX4_bestArms_13 : decode cX4_bestArms 13 = .ok (.goto 4, 3) := by decide +kernel
theorem dX4_bestArms_16 : decode cX4_bestArms 16 = .ok (.iconst 1, 1) := by decide +kernel
theorem dX4_bestArms_17 : decode cX4_bestArms 17 = .ok (.invokevirtual 95, 3) := by decide +kernel
theorem dX4_bestArms_20 : decode cX4_bestArms 20 = .ok (.ifCond .eq 5, 3) := by decide +kernel
theorem dX4_bestArms_23 : decode cX4_bestArms 23 = .ok (.iconst 0, 1) := by decide +kernel
theorem dX4_bestArms_24 : decode cX4_bestArms 24 = .ok (.ireturn, 1) := by decide +kernel
theorem dX4_bestArms_25 : decode cX4_bestArms 25 = .ok (.sipush (-9999), 3) := by decide +kernel
theorem dX4_bestArms_28 : decode cX4_bestArms 28 = .ok (.istore_n 2, 1) := by decide +kernel
theorem dX4_bestArms_29 : decode cX4_bestArms 29 = .ok (.bipush (-9), 2) := by decide +kernel
theorem dX4_bestArms_31 : decode cX4_bestArms 31 = .ok (.istore_n 3, 1) := by decide +kernel
theorem dX4_bestArms_32 : decode cX4_bestArms 32 = .ok (.iconst 0, 1) := by decide +kernel
theorem dX4_bestArms_33 : decode cX4_bestArms 33 = .ok (.istore 4, 2) := by decide +kernel
theorem dX4_bestArms_35 : decode cX4_bestArms 35 = .ok (.iload 4, 2) := by decide +kernel
theorem dX4_bestArms_37 : decode cX4_bestArms 37 = .ok (.bipush 16, 2) := by decide +kernel
theorem dX4_bestArms_39 : decode cX4_bestArms 39 = .ok (.if_icmp .ge 84, 3) := by decide +kernel
theorem dX4_bestArms_42 : decode cX4_bestArms 42 = .ok (.iload 4, 2) := by decide +kernel
theorem dX4_bestArms_44 : decode cX4_bestArms 44 = .ok (.iconst 4, 1) := by decide +kernel
theorem dX4_bestArms_45 : decode cX4_bestArms 45 = .ok (.idiv, 1) := by decide +kernel
theorem dX4_bestArms_46 : decode cX4_bestArms 46 = .ok (.istore 5, 2) := by decide +kernel
theorem dX4_bestArms_48 : decode cX4_bestArms 48 = .ok (.iload 4, 2) := by decide +kernel
theorem dX4_bestArms_50 : decode cX4_bestArms 50 = .ok (.iconst 4, 1) := by decide +kernel
theorem dX4_bestArms_51 : decode cX4_bestArms 51 = .ok (.irem, 1) := by decide +kernel
theorem dX4_bestArms_52 : decode cX4_bestArms 52 = .ok (.istore 6, 2) := by decide +kernel
theorem dX4_bestArms_54 : decode cX4_bestArms 54 = .ok (.aload_n 0, 1) := by decide +kernel
theorem dX4_bestArms_55 : decode cX4_bestArms 55 = .ok (.getfield 16, 3) := by decide +kernel
theorem dX4_bestArms_58 : decode cX4_bestArms 58 = .ok (.bipush 15, 2) := by decide +kernel
theorem dX4_bestArms_60 : decode cX4_bestArms 60 = .ok (.iload_n 1, 1) := by decide +kernel
theorem dX4_bestArms_61 : decode cX4_bestArms 61 = .ok (.iadd, 1) := by decide +kernel
theorem dX4_bestArms_62 : decode cX4_bestArms 62 = .ok (.iaload, 1) := by decide +kernel
theorem dX4_bestArms_63 : decode cX4_bestArms 63 = .ok (.iload 6, 2) := by decide +kernel
theorem dX4_bestArms_65 : decode cX4_bestArms 65 = .ok (.invokestatic 52, 3) := by decide +kernel
theorem dX4_bestArms_68 : decode cX4_bestArms 68 = .ok (.imul, 1) := by decide +kernel
theorem dX4_bestArms_69 : decode cX4_bestArms 69 = .ok (.sipush 9999, 3) := by decide +kernel
theorem dX4_bestArms_72 : decode cX4_bestArms 72 = .ok (.iload 5, 2) := by decide +kernel
theorem dX4_bestArms_74 : decode cX4_bestArms 74 = .ok (.invokestatic 52, 3) := by decide +kernel
theorem dX4_bestArms_77 : decode cX4_bestArms 77 = .ok (.imul, 1) := by decide +kernel
theorem dX4_bestArms_78 : decode cX4_bestArms 78 = .ok (.if_icmp .gt 7, 3) := by decide +kernel
theorem dX4_bestArms_81 : decode cX4_bestArms 81 = .ok (.iconst 1, 1) := by decide +kernel
theorem dX4_bestArms_82 : decode cX4_bestArms 82 = .ok (.goto 4, 3) := by decide +kernel
theorem dX4_bestArms_85 : decode cX4_bestArms 85 = .ok (.iconst 0, 1) := by decide +kernel
theorem dX4_bestArms_86 : decode cX4_bestArms 86 = .ok (.istore 7, 2) := by decide +kernel
theorem dX4_bestArms_88 : decode cX4_bestArms 88 = .ok (.iload 7, 2) := by decide +kernel
theorem dX4_bestArms_90 : decode cX4_bestArms 90 = .ok (.ifCond .eq 27, 3) := by decide +kernel
theorem dX4_bestArms_93 : decode cX4_bestArms 93 = .ok (.iload 6, 2) := by decide +kernel
theorem dX4_bestArms_95 : decode cX4_bestArms 95 = .ok (.iload 5, 2) := by decide +kernel
theorem dX4_bestArms_97 : decode cX4_bestArms 97 = .ok (.isub, 1) := by decide +kernel
theorem dX4_bestArms_98 : decode cX4_bestArms 98 = .ok (.iload_n 3, 1) := by decide +kernel
theorem dX4_bestArms_99 : decode cX4_bestArms 99 = .ok (.if_icmp .le 18, 3) := by decide +kernel
theorem dX4_bestArms_102 : decode cX4_bestArms 102 = .ok (.iload 6, 2) := by decide +kernel
theorem dX4_bestArms_104 : decode cX4_bestArms 104 = .ok (.iload 5, 2) := by decide +kernel
theorem dX4_bestArms_106 : decode cX4_bestArms 106 = .ok (.isub, 1) := by decide +kernel
theorem dX4_bestArms_107 : decode cX4_bestArms 107 = .ok (.istore_n 3, 1) := by decide +kernel
theorem dX4_bestArms_108 : decode cX4_bestArms 108 = .ok (.bipush 10, 2) := by decide +kernel
theorem dX4_bestArms_110 : decode cX4_bestArms 110 = .ok (.iload 5, 2) := by decide +kernel
theorem dX4_bestArms_112 : decode cX4_bestArms 112 = .ok (.imul, 1) := by decide +kernel
theorem dX4_bestArms_113 : decode cX4_bestArms 113 = .ok (.iload 6, 2) := by decide +kernel
theorem dX4_bestArms_115 : decode cX4_bestArms 115 = .ok (.iadd, 1) := by decide +kernel
theorem dX4_bestArms_116 : decode cX4_bestArms 116 = .ok (.istore_n 2, 1) := by decide +kernel
theorem dX4_bestArms_117 : decode cX4_bestArms 117 = .ok (.iinc 4 1, 3) := by decide +kernel
theorem dX4_bestArms_120 : decode cX4_bestArms 120 = .ok (.goto (-85), 3) := by decide +kernel
theorem dX4_bestArms_123 : decode cX4_bestArms 123 = .ok (.iload_n 2, 1) := by decide +kernel
theorem dX4_bestArms_124 : decode cX4_bestArms 124 = .ok (.ireturn, 1) := by decide +kernel
set_option maxRecDepth 20000 in
theorem ggX4_enoughShunt_X4_rawOf : GoodIn wsX4_enoughShunt wsX4_rawOf := goodIn_r _ [6, 7, 8, 5, 9, 10, 11, 12, 13, 14, 15, 16, 17, 18, 19, 20, 21, 22, 23, 24, 25] (by decide +kernel) (by decide +kernel)
set_option maxRecDepth 20000 in
theorem gX4_enoughShunt_X4_rawOf : GoodIn wsX4_enoughShunt (va_wsS RX4 75 yX4_rawOf wsX4_rawOf) := goodIn_app (goodIn_of _ (by decide +kernel)) ggX4_enoughShunt_X4_rawOf
set_option maxRecDepth 20000 in
theorem ggX4_enoughShunt_X4_size : GoodIn wsX4_enoughShunt wsX4_size := goodIn_r _ [28] (by decide +kernel) (by decide +kernel)
set_option maxRecDepth 20000 in
theorem gX4_enoughShunt_X4_size : GoodIn wsX4_enoughShunt (va_wsS RX4 152 yX4_size wsX4_size) := goodIn_app (goodIn_of _ (by decide +kernel)) ggX4_enoughShunt_X4_size
theorem dX4_enoughShunt_0 : decode cX4_enoughShunt 0 = .ok (.aload_n 0, 1) := by decide +kernel
theorem dX4_enoughShunt_1 : decode cX4_enoughShunt 1 = .ok (.iconst 0, 1) := by decide +kernel
theorem dX4_enoughShunt_2 : decode cX4_enoughShunt 2 = .ok (.putfield 32, 3) := by decide +kernel
theorem dX4_enoughShunt_5 : decode cX4_enoughShunt 5 = .ok (.iconst 0, 1) := by decide +kernel
theorem dX4_enoughShunt_6 : decode cX4_enoughShunt 6 = .ok (.istore_n 1, 1) := by decide +kernel
theorem dX4_enoughShunt_7 : decode cX4_enoughShunt 7 = .ok (.iload_n 1, 1) := by decide +kernel
theorem dX4_enoughShunt_8 : decode cX4_enoughShunt 8 = .ok (.iconst 4, 1) := by decide +kernel
theorem dX4_enoughShunt_9 : decode cX4_enoughShunt 9 = .ok (.if_icmp .ge 47, 3) := by decide +kernel
theorem dX4_enoughShunt_12 : decode cX4_enoughShunt 12 = .ok (.aload_n 0, 1) := by decide +kernel
theorem dX4_enoughShunt_13 : decode cX4_enoughShunt 13 = .ok (.getfield 16, 3) := by decide +kernel
theorem dX4_enoughShunt_16 : decode cX4_enoughShunt 16 = .ok (.iconst 0, 1) := by decide +kernel
theorem dX4_enoughShunt_17 : decode cX4_enoughShunt 17 = .ok (.iload_n 1, 1) := by decide +kernel
theorem dX4_enoughShunt_18 : decode cX4_enoughShunt 18 = .ok (.invokestatic 75, 3) := by decide +kernel
theorem dX4_enoughShunt_21 : decode cX4_enoughShunt 21 = .ok (.invokestatic 152, 3) := by decide +kernel
theorem dX4_enoughShunt_24 : decode cX4_enoughShunt 24 = .ok (.sipush 500, 3) := by decide +kernel
theorem dX4_enoughShunt_27 : decode cX4_enoughShunt 27 = .ok (.if_icmp .gt 23, 3) := by decide +kernel
theorem dX4_enoughShunt_30 : decode cX4_enoughShunt 30 = .ok (.aload_n 0, 1) := by decide +kernel
theorem dX4_enoughShunt_31 : decode cX4_enoughShunt 31 = .ok (.getfield 16, 3) := by decide +kernel
theorem dX4_enoughShunt_34 : decode cX4_enoughShunt 34 = .ok (.iconst 1, 1) := by decide +kernel
theorem dX4_enoughShunt_35 : decode cX4_enoughShunt 35 = .ok (.iload_n 1, 1) := by decide +kernel
theorem dX4_enoughShunt_36 : decode cX4_enoughShunt 36 = .ok (.invokestatic 75, 3) := by decide +kernel
theorem dX4_enoughShunt_39 : decode cX4_enoughShunt 39 = .ok (.invokestatic 152, 3) := by decide +kernel
theorem dX4_enoughShunt_42 : decode cX4_enoughShunt 42 = .ok (.sipush 500, 3) := by decide +kernel
theorem dX4_enoughShunt_45 : decode cX4_enoughShunt 45 = .ok (.if_icmp .gt 5, 3) := by decide +kernel
theorem dX4_enoughShunt_48 : decode cX4_enoughShunt 48 = .ok (.iload_n 1, 1) := by decide +kernel
theorem dX4_enoughShunt_49 : decode cX4_enoughShunt 49 = .ok (.ireturn, 1) := by decide +kernel
theorem dX4_enoughShunt_50 : decode cX4_enoughShunt 50 = .ok (.iinc 1 1, 3) := by decide +kernel
theorem dX4_enoughShunt_53 : decode cX4_enoughShunt 53 = .ok (.goto (-46), 3) := by decide +kernel
theorem dX4_enoughShunt_56 : decode cX4_enoughShunt 56 = .ok (.sipush (-9999), 3) := by decide +kernel
theorem dX4_enoughShunt_59 : decode cX4_enoughShunt 59 = .ok (.ireturn, 1) := by decide +kernel
set_option maxRecDepth 20000 in
theorem ggX4_sensitivity_X4_trueOf : GoodIn wsX4_sensitivity wsX4_trueOf := goodIn_r _ [6, 7, 8, 9, 5, 10, 11, 12, 13, 14, 15, 16, 17, 18, 19] (by decide +kernel) (by decide +kernel)
set_option maxRecDepth 20000 in
theorem gX4_sensitivity_X4_trueOf : GoodIn wsX4_sensitivity (va_wsS RX4 69 yX4_trueOf wsX4_trueOf) := goodIn_app (goodIn_of _ (by decide +kernel)) ggX4_sensitivity_X4_trueOf
set_option maxRecDepth 20000 in
theorem ggX4_sensitivity_X4_size : GoodIn wsX4_sensitivity wsX4_size := goodIn_r _ [22] (by decide +kernel) (by decide +kernel)
set_option maxRecDepth 20000 in
theorem gX4_sensitivity_X4_size : GoodIn wsX4_sensitivity (va_wsS RX4 152 yX4_size wsX4_size) := goodIn_app (goodIn_of _ (by decide +kernel)) ggX4_sensitivity_X4_size
theorem dX4_sensitivity_0 : decode cX4_sensitivity 0 = .ok (.aload_n 0, 1) := by decide +kernel
theorem dX4_sensitivity_1 : decode cX4_sensitivity 1 = .ok (.iconst 0, 1) := by decide +kernel
theorem dX4_sensitivity_2 : decode cX4_sensitivity 2 = .ok (.putfield 32, 3) := by decide +kernel
theorem dX4_sensitivity_5 : decode cX4_sensitivity 5 = .ok (.aload_n 0, 1) := by decide +kernel
theorem dX4_sensitivity_6 : decode cX4_sensitivity 6 = .ok (.getfield 16, 3) := by decide +kernel
theorem dX4_sensitivity_9 : decode cX4_sensitivity 9 = .ok (.aload_n 0, 1) := by decide +kernel
theorem dX4_sensitivity_10 : decode cX4_sensitivity 10 = .ok (.getfield 16, 3) := by decide +kernel
theorem dX4_sensitivity_13 : decode cX4_sensitivity 13 = .ok (.iconst 2, 1) := by decide +kernel
theorem dX4_sensitivity_14 : decode cX4_sensitivity 14 = .ok (.iaload, 1) := by decide +kernel
theorem dX4_sensitivity_15 : decode cX4_sensitivity 15 = .ok (.aload_n 0, 1) := by decide +kernel
theorem dX4_sensitivity_16 : decode cX4_sensitivity 16 = .ok (.getfield 16, 3) := by decide +kernel
theorem dX4_sensitivity_19 : decode cX4_sensitivity 19 = .ok (.iconst 4, 1) := by decide +kernel
theorem dX4_sensitivity_20 : decode cX4_sensitivity 20 = .ok (.iaload, 1) := by decide +kernel
theorem dX4_sensitivity_21 : decode cX4_sensitivity 21 = .ok (.invokestatic 69, 3) := by decide +kernel
theorem dX4_sensitivity_24 : decode cX4_sensitivity 24 = .ok (.istore_n 1, 1) := by decide +kernel
theorem dX4_sensitivity_25 : decode cX4_sensitivity 25 = .ok (.aload_n 0, 1) := by decide +kernel
theorem dX4_sensitivity_26 : decode cX4_sensitivity 26 = .ok (.getfield 16, 3) := by decide +kernel
theorem dX4_sensitivity_29 : decode cX4_sensitivity 29 = .ok (.iconst 2, 1) := by decide +kernel
theorem dX4_sensitivity_30 : decode cX4_sensitivity 30 = .ok (.iaload, 1) := by decide +kernel
theorem dX4_sensitivity_31 : decode cX4_sensitivity 31 = .ok (.sipush 9999, 3) := by decide +kernel
theorem dX4_sensitivity_34 : decode cX4_sensitivity 34 = .ok (.if_icmp .ge 32, 3) := by decide +kernel
theorem dX4_sensitivity_37 : decode cX4_sensitivity 37 = .ok (.aload_n 0, 1) := by decide +kernel
theorem dX4_sensitivity_38 : decode cX4_sensitivity 38 = .ok (.getfield 16, 3) := by decide +kernel
theorem dX4_sensitivity_41 : decode cX4_sensitivity 41 = .ok (.aload_n 0, 1) := by decide +kernel
theorem dX4_sensitivity_42 : decode cX4_sensitivity 42 = .ok (.getfield 16, 3) := by decide +kernel
theorem dX4_sensitivity_45 : decode cX4_sensitivity 45 = .ok (.iconst 2, 1) := by decide +kernel
theorem dX4_sensitivity_46 : decode cX4_sensitivity 46 = .ok (.iaload, 1) := by decide +kernel
theorem dX4_sensitivity_47 : decode cX4_sensitivity 47 = .ok (.iconst 1, 1) := by decide +kernel
theorem dX4_sensitivity_48 : decode cX4_sensitivity 48 = .ok (.iadd, 1) := by decide +kernel
theorem dX4_sensitivity_49 : decode cX4_sensitivity 49 = .ok (.aload_n 0, 1) := by decide +kernel
theorem dX4_sensitivity_50 : decode cX4_sensitivity 50 = .ok (.getfield 16, 3) := by decide +kernel
theorem dX4_sensitivity_53 : decode cX4_sensitivity 53 = .ok (.iconst 4, 1) := by decide +kernel
theorem dX4_sensitivity_54 : decode cX4_sensitivity 54 = .ok (.iaload, 1) := by decide +kernel
theorem dX4_sensitivity_55 : decode cX4_sensitivity 55 = .ok (.invokestatic 69, 3) := by decide +kernel
theorem dX4_sensitivity_58 : decode cX4_sensitivity 58 = .ok (.iload_n 1, 1) := by decide +kernel
theorem dX4_sensitivity_59 : decode cX4_sensitivity 59 = .ok (.isub, 1) := by decide +kernel
theorem dX4_sensitivity_60 : decode cX4_sensitivity 60 = .ok (.invokestatic 152, 3) := by decide +kernel
theorem dX4_sensitivity_63 : decode cX4_sensitivity 63 = .ok (.goto 4, 3) := by decide +kernel
theorem dX4_sensitivity_66 : decode cX4_sensitivity 66 = .ok (.iconst 0, 1) := by decide +kernel
theorem dX4_sensitivity_67 : decode cX4_sensitivity 67 = .ok (.istore_n 2, 1) := by decide +kernel
theorem dX4_sensitivity_68 : decode cX4_sensitivity 68 = .ok (.aload_n 0, 1) := by decide +kernel
theorem dX4_sensitivity_69 : decode cX4_sensitivity 69 = .ok (.getfield 16, 3) := by decide +kernel
theorem dX4_sensitivity_72 : decode cX4_sensitivity 72 = .ok (.iconst 2, 1) := by decide +kernel
theorem dX4_sensitivity_73 : decode cX4_sensitivity 73 = .ok (.iaload, 1) := by decide +kernel
theorem dX4_sensitivity_74 : decode cX4_sensitivity 74 = .ok (.ifCond .le 32, 3) := by decide +kernel
theorem dX4_sensitivity_77 : decode cX4_sensitivity 77 = .ok (.aload_n 0, 1) := by decide +kernel
theorem dX4_sensitivity_78 : decode cX4_sensitivity 78 = .ok (.getfield 16, 3) := by decide +kernel
theorem dX4_sensitivity_81 : decode cX4_sensitivity 81 = .ok (.aload_n 0, 1) := by decide +kernel
theorem dX4_sensitivity_82 : decode cX4_sensitivity 82 = .ok (.getfield 16, 3) := by decide +kernel
theorem dX4_sensitivity_85 : decode cX4_sensitivity 85 = .ok (.iconst 2, 1) := by decide +kernel
theorem dX4_sensitivity_86 : decode cX4_sensitivity 86 = .ok (.iaload, 1) := by decide +kernel
theorem dX4_sensitivity_87 : decode cX4_sensitivity 87 = .ok (.iconst 1, 1) := by decide +kernel
theorem dX4_sensitivity_88 : decode cX4_sensitivity 88 = .ok (.isub, 1) := by decide +kernel
theorem dX4_sensitivity_89 : decode cX4_sensitivity 89 = .ok (.aload_n 0, 1) := by decide +kernel
theorem dX4_sensitivity_90 : decode cX4_sensitivity 90 = .ok (.getfield 16, 3) := by decide +kernel
theorem dX4_sensitivity_93 : decode cX4_sensitivity 93 = .ok (.iconst 4, 1) := by decide +kernel
theorem dX4_sensitivity_94 : decode cX4_sensitivity 94 = .ok (.iaload, 1) := by decide +kernel
theorem dX4_sensitivity_95 : decode cX4_sensitivity 95 = .ok (.invokestatic 69, 3) := by decide +kernel
theorem dX4_sensitivity_98 : decode cX4_sensitivity 98 = .ok (.iload_n 1, 1) := by decide +kernel
theorem dX4_sensitivity_99 : decode cX4_sensitivity 99 = .ok (.isub, 1) := by decide +kernel
theorem dX4_sensitivity_100 : decode cX4_sensitivity 100 = .ok (.invokestatic 152, 3) := by decide +kernel
theorem dX4_sensitivity_103 : decode cX4_sensitivity 103 = .ok (.goto 4, 3) := by decide +kernel
theorem dX4_sensitivity_106 : decode cX4_sensitivity 106 = .ok (.iconst 0, 1) := by decide +kernel
theorem dX4_sensitivity_107 : decode cX4_sensitivity 107 = .ok (.istore_n 3, 1) := by decide +kernel
theorem dX4_sensitivity_108 : decode cX4_sensitivity 108 = .ok (.iload_n 2, 1) := by decide +kernel
theorem dX4_sensitivity_109 : decode cX4_sensitivity 109 = .ok (.iload_n 3, 1) := by decide +kernel
theorem dX4_sensitivity_110 : decode cX4_sensitivity 110 = .ok (.if_icmp .le 7, 3) := by decide +kernel
theorem dX4_sensitivity_113 : decode cX4_sensitivity 113 = .ok (.iload_n 2, 1) := by decide +kernel
theorem dX4_sensitivity_114 : decode cX4_sensitivity 114 = .ok (.goto 4, 3) := by decide +kernel
theorem dX4_sensitivity_117 : decode cX4_sensitivity 117 = .ok (.iload_n 3, 1) := by decide +kernel
theorem dX4_sensitivity_118 : decode cX4_sensitivity 118 = .ok (.ireturn, 1) := by decide +kernel
set_option maxRecDepth 20000 in
theorem ggX4_offsetAfter_X4_in : GoodIn wsX4_offsetAfter wsX4_in := goodIn_r _ [8] (by decide +kernel) (by decide +kernel)
set_option maxRecDepth 20000 in
theorem gX4_offsetAfter_X4_in : GoodIn wsX4_offsetAfter (va_wsS RX4 38 yX4_in wsX4_in) := goodIn_app (goodIn_of _ (by decide +kernel)) ggX4_offsetAfter_X4_in
set_option maxRecDepth 20000 in
theorem ggX4_offsetAfter_X4_refused : GoodIn wsX4_offsetAfter wsX4_refused := goodIn_r _ [12, 13, 23, 24, 25, 26, 27, 28, 29, 30, 31, 32, 33] (by decide +kernel) (by decide +kernel)
set_option maxRecDepth 20000 in
theorem gX4_offsetAfter_X4_refused : GoodIn wsX4_offsetAfter (wsV RX4 95 RX4 yX4_refused wsX4_refused) := goodIn_app (goodIn_of _ (by decide +kernel)) ggX4_offsetAfter_X4_refused
set_option maxRecDepth 20000 in
theorem ggX4_offsetAfter_X4_copyPage : GoodIn wsX4_offsetAfter wsX4_copyPage := goodIn_r _ [16] (by decide +kernel) (by decide +kernel)
set_option maxRecDepth 20000 in
theorem gX4_offsetAfter_X4_copyPage : GoodIn wsX4_offsetAfter (va_wsS RX4 119 yX4_copyPage wsX4_copyPage) := goodIn_app (goodIn_of _ (by decide +kernel)) ggX4_offsetAfter_X4_copyPage
set_option maxRecDepth 20000 in
theorem ggX4_offsetAfter_X4_waitOn : GoodIn wsX4_offsetAfter wsX4_waitOn := goodIn_r _ [19] (by decide +kernel) (by decide +kernel)
set_option maxRecDepth 20000 in
theorem gX4_offsetAfter_X4_waitOn : GoodIn wsX4_offsetAfter (va_wsS RX4 83 yX4_waitOn wsX4_waitOn) := goodIn_app (goodIn_of _ (by decide +kernel)) ggX4_offsetAfter_X4_waitOn
set_option maxRecDepth 20000 in
theorem ggX4_offsetAfter_X4_offsetOf : GoodIn wsX4_offsetAfter wsX4_offsetOf := goodIn_r _ [22] (by decide +kernel) (by decide +kernel)
set_option maxRecDepth 20000 in
theorem gX4_offsetAfter_X4_offsetOf : GoodIn wsX4_offsetAfter (va_wsS RX4 72 yX4_offsetOf wsX4_offsetOf) := goodIn_app (goodIn_of _ (by decide +kernel)) ggX4_offsetAfter_X4_offsetOf
theorem dX4_offsetAfter_0 : decode cX4_offsetAfter 0 = .ok (.aload_n 0, 1) := by decide +kernel
theorem dX4_offsetAfter_1 : decode cX4_offsetAfter 1 = .ok (.iload_n 1, 1) := by decide +kernel
theorem dX4_offsetAfter_2 : decode cX4_offsetAfter 2 = .ok (.i2l, 1) := by decide +kernel
theorem dX4_offsetAfter_3 : decode cX4_offsetAfter 3 = .ok (.lconst 0, 1) := by decide +kernel
theorem dX4_offsetAfter_4 : decode cX4_offsetAfter 4 = .ok (.ldc2_w 44, 3) := by decide +kernel
theorem dX4_offsetAfter_7 : decode cX4_offsetAfter 7 = .ok (.invokestatic 38, 3) := by decide +kernel
theorem dX4_offsetAfter_10 : decode cX4_offsetAfter 10 = .ok (.ifCond .eq 19, 3) := by decide +kernel
theorem dX4_offsetAfter_13 : decode cX4_offsetAfter 13 = .ok (.iload_n 2, 1) := by decide +kernel
theorem dX4_offsetAfter_14 : decode cX4_offsetAfter 14 = .ok (.i2l, 1) := by decide +kernel
theorem dX4_offsetAfter_15 : decode cX4_offsetAfter 15 = .ok (.lconst 0, 1) := by decide +kernel
theorem dX4_offsetAfter_16 : decode cX4_offsetAfter 16 = .ok (.ldc2_w 133, 3) := by decide +kernel
theorem dX4_offsetAfter_19 : decode cX4_offsetAfter 19 = .ok (.invokestatic 38, 3) := by decide +kernel
theorem dX4_offsetAfter_22 : decode cX4_offsetAfter 22 = .ok (.ifCond .eq 7, 3) := by decide +kernel
theorem dX4_offsetAfter_25 : decode cX4_offsetAfter 25 = .ok (.iconst 0, 1) := by decide +kernel
theorem dX4_offsetAfter_26 : decode cX4_offsetAfter 26 = .ok (.goto 4, 3) := by decide +kernel
theorem dX4_offsetAfter_29 : decode cX4_offsetAfter 29 = .ok (.iconst 1, 1) := by decide +kernel
theorem dX4_offsetAfter_30 : decode cX4_offsetAfter 30 = .ok (.invokevirtual 95, 3) := by decide +kernel
theorem dX4_offsetAfter_33 : decode cX4_offsetAfter 33 = .ok (.ifCond .eq 5, 3) := by decide +kernel
theorem dX4_offsetAfter_36 : decode cX4_offsetAfter 36 = .ok (.iconst 0, 1) := by decide +kernel
theorem dX4_offsetAfter_37 : decode cX4_offsetAfter 37 = .ok (.ireturn, 1) := by decide +kernel
theorem dX4_offsetAfter_38 : decode cX4_offsetAfter 38 = .ok (.aload_n 0, 1) := by decide +kernel
theorem dX4_offsetAfter_39 : decode cX4_offsetAfter 39 = .ok (.getfield 16, 3) := by decide +kernel
theorem dX4_offsetAfter_42 : decode cX4_offsetAfter 42 = .ok (.iconst 0, 1) := by decide +kernel
theorem dX4_offsetAfter_43 : decode cX4_offsetAfter 43 = .ok (.aload_n 0, 1) := by decide +kernel
theorem dX4_offsetAfter_44 : decode cX4_offsetAfter 44 = .ok (.getfield 19, 3) := by decide +kernel
theorem dX4_offsetAfter_47 : decode cX4_offsetAfter 47 = .ok (.iconst 0, 1) := by decide +kernel
theorem dX4_offsetAfter_48 : decode cX4_offsetAfter 48 = .ok (.invokestatic 119, 3) := by decide +kernel
theorem dX4_offsetAfter_51 : decode cX4_offsetAfter 51 = .ok (.iconst 0, 1) := by decide +kernel
theorem dX4_offsetAfter_52 : decode cX4_offsetAfter 52 = .ok (.istore_n 3, 1) := by decide +kernel
theorem dX4_offsetAfter_53 : decode cX4_offsetAfter 53 = .ok (.iload_n 3, 1) := by decide +kernel
theorem dX4_offsetAfter_54 : decode cX4_offsetAfter 54 = .ok (.iload_n 1, 1) := by decide +kernel
theorem dX4_offsetAfter_55 : decode cX4_offsetAfter 55 = .ok (.if_icmp .ge 56, 3) := by decide +kernel
theorem dX4_offsetAfter_58 : decode cX4_offsetAfter 58 = .ok (.aload_n 0, 1) := by decide +kernel
theorem dX4_offsetAfter_59 : decode cX4_offsetAfter 59 = .ok (.getfield 19, 3) := by decide +kernel
theorem dX4_offsetAfter_62 : decode cX4_offsetAfter 62 = .ok (.bipush 7, 2) := by decide +kernel
theorem dX4_offsetAfter_64 : decode cX4_offsetAfter 64 = .ok (.aload_n 0, 1) := by decide +kernel
theorem dX4_offsetAfter_65 : decode cX4_offsetAfter 65 = .ok (.getfield 19, 3) := by decide +kernel
theorem dX4_offsetAfter_68 : decode cX4_offsetAfter 68 = .ok (.bipush 7, 2) := by decide +kernel
theorem dX4_offsetAfter_70 : decode cX4_offsetAfter 70 = .ok (.iaload, 1) := by decide +kernel
theorem dX4_offsetAfter_71 : decode cX4_offsetAfter 71 = .ok (.aload_n 0, 1) := by decide +kernel
theorem dX4_offsetAfter_72 : decode cX4_offsetAfter 72 = .ok (.getfield 19, 3) := by decide +kernel
theorem dX4_offsetAfter_75 : decode cX4_offsetAfter 75 = .ok (.iconst 3, 1) := by decide +kernel
theorem dX4_offsetAfter_76 : decode cX4_offsetAfter 76 = .ok (.iaload, 1) := by decide +kernel
theorem dX4_offsetAfter_77 : decode cX4_offsetAfter 77 = .ok (.iadd, 1) := by decide +kernel
theorem dX4_offsetAfter_78 : decode cX4_offsetAfter 78 = .ok (.sipush 9999, 3) := by decide +kernel
theorem dX4_offsetAfter_81 : decode cX4_offsetAfter 81 = .ok (.if_icmp .le 9, 3) := by decide +kernel
theorem dX4_offsetAfter_84 : decode cX4_offsetAfter 84 = .ok (.sipush 9999, 3) := by decide +kernel
theorem dX4_offsetAfter_87 : decode cX4_offsetAfter 87 = .ok (.goto 17, 3) := by decide +kernel
theorem dX4_offsetAfter_90 : decode cX4_offsetAfter 90 = .ok (.aload_n 0, 1) := by decide +kernel
theorem dX4_offsetAfter_91 : decode cX4_offsetAfter 91 = .ok (.getfield 19, 3) := by decide +kernel
theorem dX4_offsetAfter_94 : decode cX4_offsetAfter 94 = .ok (.bipush 7, 2) := by decide +kernel
theorem dX4_offsetAfter_96 : decode cX4_offsetAfter 96 = .ok (.iaload, 1) := by decide +kernel
theorem dX4_offsetAfter_97 : decode cX4_offsetAfter 97 = .ok (.aload_n 0, 1) := by decide +kernel
theorem dX4_offsetAfter_98 : decode cX4_offsetAfter 98 = .ok (.getfield 19, 3) := by decide +kernel
theorem dX4_offsetAfter_101 : decode cX4_offsetAfter 101 = .ok (.iconst 3, 1) := by decide +kernel
theorem dX4_offsetAfter_102 : decode cX4_offsetAfter 102 = .ok (.iaload, 1) := by decide +kernel
theorem dX4_offsetAfter_103 : decode cX4_offsetAfter 103 = .ok (.iadd, 1) := by decide +kernel
theorem dX4_offsetAfter_104 : decode cX4_offsetAfter 104 = .ok (.iastore, 1) := by decide +kernel
theorem dX4_offsetAfter_105 : decode cX4_offsetAfter 105 = .ok (.iinc 3 1, 3) := by decide +kernel
theorem dX4_offsetAfter_108 : decode cX4_offsetAfter 108 = .ok (.goto (-55), 3) := by decide +kernel
theorem dX4_offsetAfter_111 : decode cX4_offsetAfter 111 = .ok (.aload_n 0, 1) := by decide +kernel
theorem dX4_offsetAfter_112 : decode cX4_offsetAfter 112 = .ok (.getfield 19, 3) := by decide +kernel
theorem dX4_offsetAfter_115 : decode cX4_offsetAfter 115 = .ok (.iload_n 2, 1) := by decide +kernel
theorem dX4_offsetAfter_116 : decode cX4_offsetAfter 116 = .ok (.invokestatic 83, 3) := by decide +kernel
theorem dX4_offsetAfter_119 : decode cX4_offsetAfter 119 = .ok (.aload_n 0, 1) := by decide +kernel
theorem dX4_offsetAfter_120 : decode cX4_offsetAfter 120 = .ok (.getfield 19, 3) := by decide +kernel
theorem dX4_offsetAfter_123 : decode cX4_offsetAfter 123 = .ok (.invokestatic 72, 3) := by decide +kernel
theorem dX4_offsetAfter_126 : decode cX4_offsetAfter 126 = .ok (.ireturn, 1) := by decide +kernel
set_option maxRecDepth 20000 in
theorem ggX4_waitFor_X4_in : GoodIn wsX4_waitFor wsX4_in := goodIn_r _ [8] (by decide +kernel) (by decide +kernel)
set_option maxRecDepth 20000 in
theorem gX4_waitFor_X4_in : GoodIn wsX4_waitFor (va_wsS RX4 38 yX4_in wsX4_in) := goodIn_app (goodIn_of _ (by decide +kernel)) ggX4_waitFor_X4_in
set_option maxRecDepth 20000 in
theorem ggX4_waitFor_X4_refused : GoodIn wsX4_waitFor wsX4_refused := goodIn_r _ [12, 13, 23, 24, 25, 26, 27, 28, 29, 30, 31, 32, 33] (by decide +kernel) (by decide +kernel)
set_option maxRecDepth 20000 in
theorem gX4_waitFor_X4_refused : GoodIn wsX4_waitFor (wsV RX4 95 RX4 yX4_refused wsX4_refused) := goodIn_app (goodIn_of _ (by decide +kernel)) ggX4_waitFor_X4_refused
set_option maxRecDepth 20000 in
theorem ggX4_waitFor_X4_copyPage : GoodIn wsX4_waitFor wsX4_copyPage := goodIn_r _ [16] (by decide +kernel) (by decide +kernel)
set_option maxRecDepth 20000 in
theorem gX4_waitFor_X4_copyPage : GoodIn wsX4_waitFor (va_wsS RX4 119 yX4_copyPage wsX4_copyPage) := goodIn_app (goodIn_of _ (by decide +kernel)) ggX4_waitFor_X4_copyPage
set_option maxRecDepth 20000 in
theorem ggX4_waitFor_X4_offsetOf : GoodIn wsX4_waitFor wsX4_offsetOf := goodIn_r _ [19] (by decide +kernel) (by decide +kernel)
set_option maxRecDepth 20000 in
theorem gX4_waitFor_X4_offsetOf : GoodIn wsX4_waitFor (va_wsS RX4 72 yX4_offsetOf wsX4_offsetOf) := goodIn_app (goodIn_of _ (by decide +kernel)) ggX4_waitFor_X4_offsetOf
set_option maxRecDepth 20000 in
theorem ggX4_waitFor_X4_waitOn : GoodIn wsX4_waitFor wsX4_waitOn := goodIn_r _ [22] (by decide +kernel) (by decide +kernel)
set_option maxRecDepth 20000 in
theorem gX4_waitFor_X4_waitOn : GoodIn wsX4_waitFor (va_wsS RX4 83 yX4_waitOn wsX4_waitOn) := goodIn_app (goodIn_of _ (by decide +kernel)) ggX4_waitFor_X4_waitOn
theorem dX4_waitFor_0 : decode cX4_waitFor 0 = .ok (.aload_n 0, 1) := by decide +kernel
theorem dX4_waitFor_1 : decode cX4_waitFor 1 = .ok (.iload_n 1, 1) := by decide +kernel
theorem dX4_waitFor_2 : decode cX4_waitFor 2 = .ok (.i2l, 1) := by decide +kernel
theorem dX4_waitFor_3 : decode cX4_waitFor 3 = .ok (.ldc2_w 46, 3) := by decide +kernel
theorem dX4_waitFor_6 : decode cX4_waitFor 6 = .ok (.ldc2_w 155, 3) := by decide +kernel
theorem dX4_waitFor_9 : decode cX4_waitFor 9 = .ok (.invokestatic 38, 3) := by decide +kernel
theorem dX4_waitFor_12 : decode cX4_waitFor 12 = .ok (.ifCond .eq 7, 3) := by decide +kernel
theorem dX4_waitFor_15 : decode cX4_waitFor 15 = .ok (.iconst 0, 1) := by decide +kernel
theorem dX4_waitFor_16 : decode cX4_waitFor 16 = .ok (.goto 4, 3) := by decide +kernel
theorem dX4_waitFor_19 : decode cX4_waitFor 19 = .ok (.iconst 1, 1) := by decide +kernel
theorem dX4_waitFor_20 : decode cX4_waitFor 20 = .ok (.invokevirtual 95, 3) := by decide +kernel
theorem dX4_waitFor_23 : decode cX4_waitFor 23 = .ok (.ifCond .eq 5, 3) := by decide +kernel
theorem dX4_waitFor_26 : decode cX4_waitFor 26 = .ok (.iconst 0, 1) := by decide +kernel
theorem dX4_waitFor_27 : decode cX4_waitFor 27 = .ok (.ireturn, 1) := by decide +kernel
theorem dX4_waitFor_28 : decode cX4_waitFor 28 = .ok (.aload_n 0, 1) := by decide +kernel
theorem dX4_waitFor_29 : decode cX4_waitFor 29 = .ok (.getfield 16, 3) := by decide +kernel
theorem dX4_waitFor_32 : decode cX4_waitFor 32 = .ok (.iconst 0, 1) := by decide +kernel
theorem dX4_waitFor_33 : decode cX4_waitFor 33 = .ok (.aload_n 0, 1) := by decide +kernel
theorem dX4_waitFor_34 : decode cX4_waitFor 34 = .ok (.getfield 19, 3) := by decide +kernel
theorem dX4_waitFor_37 : decode cX4_waitFor 37 = .ok (.iconst 0, 1) := by decide +kernel
theorem dX4_waitFor_38 : decode cX4_waitFor 38 = .ok (.invokestatic 119, 3) := by decide +kernel
theorem dX4_waitFor_41 : decode cX4_waitFor 41 = .ok (.iconst 0, 1) := by decide +kernel
theorem dX4_waitFor_42 : decode cX4_waitFor 42 = .ok (.istore_n 2, 1) := by decide +kernel
theorem dX4_waitFor_43 : decode cX4_waitFor 43 = .ok (.iload_n 2, 1) := by decide +kernel
theorem dX4_waitFor_44 : decode cX4_waitFor 44 = .ok (.sipush 200, 3) := by decide +kernel
theorem dX4_waitFor_47 : decode cX4_waitFor 47 = .ok (.if_icmp .gt 30, 3) := by decide +kernel
theorem dX4_waitFor_50 : decode cX4_waitFor 50 = .ok (.aload_n 0, 1) := by decide +kernel
theorem dX4_waitFor_51 : decode cX4_waitFor 51 = .ok (.getfield 19, 3) := by decide +kernel
theorem dX4_waitFor_54 : decode cX4_waitFor 54 = .ok (.invokestatic 72, 3) := by decide +kernel
theorem dX4_waitFor_57 : decode cX4_waitFor 57 = .ok (.iload_n 1, 1) := by decide +kernel
theorem dX4_waitFor_58 : decode cX4_waitFor 58 = .ok (.if_icmp .gt 5, 3) := by decide +kernel
theorem dX4_waitFor_61 : decode cX4_waitFor 61 = .ok (.iload_n 2, 1) := by decide +kernel
theorem dX4_waitFor_62 : decode cX4_waitFor 62 = .ok (.ireturn, 1) := by decide +kernel
theorem dX4_waitFor_63 : decode cX4_waitFor 63 = .ok (.aload_n 0, 1) := by decide +kernel
theorem dX4_waitFor_64 : decode cX4_waitFor 64 = .ok (.getfield 19, 3) := by decide +kernel
theorem dX4_waitFor_67 : decode cX4_waitFor 67 = .ok (.iconst 1, 1) := by decide +kernel
theorem dX4_waitFor_68 : decode cX4_waitFor 68 = .ok (.invokestatic 83, 3) := by decide +kernel
theorem dX4_waitFor_71 : decode cX4_waitFor 71 = .ok (.iinc 2 1, 3) := by decide +kernel
theorem dX4_waitFor_74 : decode cX4_waitFor 74 = .ok (.goto (-31), 3) := by decide +kernel
theorem dX4_waitFor_77 : decode cX4_waitFor 77 = .ok (.sipush (-9999), 3) := by decide +kernel
theorem dX4_waitFor_80 : decode cX4_waitFor 80 = .ok (.ireturn, 1) := by decide +kernel
set_option maxRecDepth 20000 in
theorem ggX4_balanced_X4_in : GoodIn wsX4_balanced wsX4_in := goodIn_r _ [7] (by decide +kernel) (by decide +kernel)
set_option maxRecDepth 20000 in
theorem gX4_balanced_X4_in : GoodIn wsX4_balanced (va_wsS RX4 38 yX4_in wsX4_in) := goodIn_app (goodIn_of _ (by decide +kernel)) ggX4_balanced_X4_in
set_option maxRecDepth 20000 in
theorem ggX4_balanced_X4_refused : GoodIn wsX4_balanced wsX4_refused := goodIn_r _ [11, 12, 47, 48, 49, 50, 51, 52, 53, 54, 55, 56, 57] (by decide +kernel) (by decide +kernel)
set_option maxRecDepth 20000 in
theorem gX4_balanced_X4_refused : GoodIn wsX4_balanced (wsV RX4 95 RX4 yX4_refused wsX4_refused) := goodIn_app (goodIn_of _ (by decide +kernel)) ggX4_balanced_X4_refused
set_option maxRecDepth 20000 in
theorem ggX4_balanced_X4_copyPage : GoodIn wsX4_balanced wsX4_copyPage := goodIn_r _ [15] (by decide +kernel) (by decide +kernel)
set_option maxRecDepth 20000 in
theorem gX4_balanced_X4_copyPage : GoodIn wsX4_balanced (va_wsS RX4 119 yX4_copyPage wsX4_copyPage) := goodIn_app (goodIn_of _ (by decide +kernel)) ggX4_balanced_X4_copyPage
set_option maxRecDepth 20000 in
theorem ggX4_balanced_X4_balanceOn : GoodIn wsX4_balanced wsX4_balanceOn := goodIn_r _ [18, 19, 20, 6, 21, 22, 23, 24, 25, 26, 27, 28, 29, 30, 31, 32, 33, 34, 35, 36, 37, 38, 39, 40, 41, 42, 43, 44, 45, 46] (by decide +kernel) (by decide +kernel)
set_option maxRecDepth 20000 in
theorem gX4_balanced_X4_balanceOn : GoodIn wsX4_balanced (va_wsS RX4 147 yX4_balanceOn wsX4_balanceOn) := goodIn_app (goodIn_of _ (by decide +kernel)) ggX4_balanced_X4_balanceOn
theorem dX4_balanced_0 : decode cX4_balanced 0 = .ok (.aload_n 0, 1) := by decide +kernel
theorem dX4_balanced_1 : decode cX4_balanced 1 = .ok (.iload_n 1, 1) := by decide +kernel
theorem dX4_balanced_2 : decode cX4_balanced 2 = .ok (.i2l, 1) := by decide +kernel
theorem dX4_balanced_3 : decode cX4_balanced 3 = .ok (.lconst 0, 1) := by decide +kernel
theorem dX4_balanced_4 : decode cX4_balanced 4 = .ok (.ldc2_w 36, 3) := by decide +kernel
theorem dX4_balanced_7 : decode cX4_balanced 7 = .ok (.invokestatic 38, 3) := by decide +kernel
theorem dX4_balanced_10 : decode cX4_balanced 10 = .ok (.ifCond .eq 7, 3) := by decide +kernel
theorem dX4_balanced_13 : decode cX4_balanced 13 = .ok (.iconst 0, 1) := by decide +kernel
theorem dX4_balanced_14 : decode cX4_balanced 14 = .ok (.goto 4, 3) := by decide +kernel
theorem dX4_balanced_17 : decode cX4_balanced 17 = .ok (.iconst 1, 1) := by decide +kernel
theorem dX4_balanced_18 : decode cX4_balanced 18 = .ok (.invokevirtual 95, 3) := by decide +kernel
theorem dX4_balanced_21 : decode cX4_balanced 21 = .ok (.ifCond .eq 5, 3) := by decide +kernel
theorem dX4_balanced_24 : decode cX4_balanced 24 = .ok (.iconst 0, 1) := by decide +kernel
theorem dX4_balanced_25 : decode cX4_balanced 25 = .ok (.ireturn, 1) := by decide +kernel
theorem dX4_balanced_26 : decode cX4_balanced 26 = .ok (.aload_n 0, 1) := by decide +kernel
theorem dX4_balanced_27 : decode cX4_balanced 27 = .ok (.getfield 16, 3) := by decide +kernel
theorem dX4_balanced_30 : decode cX4_balanced 30 = .ok (.iconst 0, 1) := by decide +kernel
theorem dX4_balanced_31 : decode cX4_balanced 31 = .ok (.aload_n 0, 1) := by decide +kernel
theorem dX4_balanced_32 : decode cX4_balanced 32 = .ok (.getfield 19, 3) := by decide +kernel
theorem dX4_balanced_35 : decode cX4_balanced 35 = .ok (.iconst 0, 1) := by decide +kernel
theorem dX4_balanced_36 : decode cX4_balanced 36 = .ok (.invokestatic 119, 3) := by decide +kernel
theorem dX4_balanced_39 : decode cX4_balanced 39 = .ok (.aload_n 0, 1) := by decide +kernel
theorem dX4_balanced_40 : decode cX4_balanced 40 = .ok (.getfield 19, 3) := by decide +kernel
theorem dX4_balanced_43 : decode cX4_balanced 43 = .ok (.bipush 11, 2) := by decide +kernel
theorem dX4_balanced_45 : decode cX4_balanced 45 = .ok (.iconst 0, 1) := by decide +kernel
theorem dX4_balanced_46 : decode cX4_balanced 46 = .ok (.iastore, 1) := by decide +kernel
theorem dX4_balanced_47 : decode cX4_balanced 47 = .ok (.aload_n 0, 1) := by decide +kernel
theorem dX4_balanced_48 : decode cX4_balanced 48 = .ok (.getfield 19, 3) := by decide +kernel
theorem dX4_balanced_51 : decode cX4_balanced 51 = .ok (.invokestatic 147, 3) := by decide +kernel
theorem dX4_balanced_54 : decode cX4_balanced 54 = .ok (.iload_n 1, 1) := by decide +kernel
theorem dX4_balanced_55 : decode cX4_balanced 55 = .ok (.ifCond .ne 12, 3) := by decide +kernel
theorem dX4_balanced_58 : decode cX4_balanced 58 = .ok (.aload_n 0, 1) := by decide +kernel
theorem dX4_balanced_59 : decode cX4_balanced 59 = .ok (.getfield 19, 3) := by decide +kernel
theorem dX4_balanced_62 : decode cX4_balanced 62 = .ok (.iconst 2, 1) := by decide +kernel
theorem dX4_balanced_63 : decode cX4_balanced 63 = .ok (.iaload, 1) := by decide +kernel
theorem dX4_balanced_64 : decode cX4_balanced 64 = .ok (.goto 48, 3) := by decide +kernel
theorem dX4_balanced_67 : decode cX4_balanced 67 = .ok (.iload_n 1, 1) := by decide +kernel
theorem dX4_balanced_68 : decode cX4_balanced 68 = .ok (.iconst 1, 1) := by decide +kernel
theorem dX4_balanced_69 : decode cX4_balanced 69 = .ok (.if_icmp .ne 21, 3) := by decide +kernel
theorem dX4_balanced_72 : decode cX4_balanced 72 = .ok (.aload_n 0, 1) := by decide +kernel
theorem dX4_balanced_73 : decode cX4_balanced 73 = .ok (.getfield 19, 3) := by decide +kernel
theorem dX4_balanced_76 : decode cX4_balanced 76 = .ok (.bipush 13, 2) := by decide +kernel
theorem dX4_balanced_78 : decode cX4_balanced 78 = .ok (.iaload, 1) := by decide +kernel
theorem dX4_balanced_79 : decode cX4_balanced 79 = .ok (.aload_n 0, 1) := by decide +kernel
theorem dX4_balanced_80 : decode cX4_balanced 80 = .ok (.getfield 16, 3) := by decide +kernel
theorem dX4_balanced_83 : decode cX4_balanced 83 = .ok (.bipush 13, 2) := by decide +kernel
theorem dX4_balanced_85 : decode cX4_balanced 85 = .ok (.iaload, 1) := by decide +kernel
theorem dX4_balanced_86 : decode cX4_balanced 86 = .ok (.isub, 1) := by decide +kernel
theorem dX4_balanced_87 : decode cX4_balanced 87 = .ok (.goto 25, 3) := by decide +kernel
theorem dX4_balanced_90 : decode cX4_balanced 90 = .ok (.iload_n 1, 1) := by decide +kernel
theorem dX4_balanced_91 : decode cX4_balanced 91 = .ok (.iconst 2, 1) := by decide +kernel
theorem dX4_balanced_92 : decode cX4_balanced 92 = .ok (.if_icmp .ne 13, 3) := by decide +kernel
theorem dX4_balanced_95 : decode cX4_balanced 95 = .ok (.aload_n 0, 1) := by decide +kernel
theorem dX4_balanced_96 : decode cX4_balanced 96 = .ok (.getfield 19, 3) := by decide +kernel
theorem dX4_balanced_99 : decode cX4_balanced 99 = .ok (.bipush 7, 2) := by decide +kernel
theorem dX4_balanced_101 : decode cX4_balanced 101 = .ok (.iaload, 1) := by decide +kernel
theorem dX4_balanced_102 : decode cX4_balanced 102 = .ok (.goto 10, 3) := by decide +kernel
theorem dX4_balanced_105 : decode cX4_balanced 105 = .ok (.aload_n 0, 1) := by decide +kernel
theorem dX4_balanced_106 : decode cX4_balanced 106 = .ok (.getfield 19, 3) := by decide +kernel
theorem dX4_balanced_109 : decode cX4_balanced 109 = .ok (.bipush 11, 2) := by decide +kernel
theorem dX4_balanced_111 : decode cX4_balanced 111 = .ok (.iaload, 1) := by decide +kernel
theorem dX4_balanced_112 : decode cX4_balanced 112 = .ok (.ireturn, 1) := by decide +kernel
set_option maxRecDepth 20000 in
theorem ggX4_does_X4_in : GoodIn wsX4_does wsX4_in := goodIn_r _ [7] (by decide +kernel) (by decide +kernel)
set_option maxRecDepth 20000 in
theorem gX4_does_X4_in : GoodIn wsX4_does (va_wsS RX4 38 yX4_in wsX4_in) := goodIn_app (goodIn_of _ (by decide +kernel)) ggX4_does_X4_in
set_option maxRecDepth 20000 in
theorem ggX4_does_X4_pressOn : GoodIn wsX4_does wsX4_pressOn := goodIn_r _ [10, 11, 12, 6, 13, 14, 15, 16, 17, 18, 19, 20, 21, 22, 23, 24, 25, 26, 27, 28, 29, 30, 31, 32] (by decide +kernel) (by decide +kernel)
set_option maxRecDepth 20000 in
theorem gX4_does_X4_pressOn : GoodIn wsX4_does (va_wsS RX4 79 yX4_pressOn wsX4_pressOn) := goodIn_app (goodIn_of _ (by decide +kernel)) ggX4_does_X4_pressOn
set_option maxRecDepth 20000 in
theorem ggX4_does_X4_waitOn : GoodIn wsX4_does wsX4_waitOn := goodIn_r _ [35] (by decide +kernel) (by decide +kernel)
set_option maxRecDepth 20000 in
theorem gX4_does_X4_waitOn : GoodIn wsX4_does (va_wsS RX4 83 yX4_waitOn wsX4_waitOn) := goodIn_app (goodIn_of _ (by decide +kernel)) ggX4_does_X4_waitOn
set_option maxRecDepth 20000 in
theorem ggX4_does_X4_isSetting : GoodIn wsX4_does wsX4_isSetting := goodIn_r _ [38, 39, 40, 1, 41, 42, 43, 4, 5, 6, 7] (by decide +kernel) (by decide +kernel)
set_option maxRecDepth 20000 in
theorem gX4_does_X4_isSetting : GoodIn wsX4_does (va_wsS RX4 135 yX4_isSetting wsX4_isSetting) := goodIn_app (goodIn_of _ (by decide +kernel)) ggX4_does_X4_isSetting
set_option maxRecDepth 20000 in
theorem ggX4_does_X4_isUnknown : GoodIn wsX4_does wsX4_isUnknown := goodIn_r _ [46, 4, 5, 6, 7] (by decide +kernel) (by decide +kernel)
set_option maxRecDepth 20000 in
theorem gX4_does_X4_isUnknown : GoodIn wsX4_does (va_wsS RX4 139 yX4_isUnknown wsX4_isUnknown) := goodIn_app (goodIn_of _ (by decide +kernel)) ggX4_does_X4_isUnknown
set_option maxRecDepth 20000 in
theorem ggX4_does_X4_balanceOn : GoodIn wsX4_does wsX4_balanceOn := goodIn_r _ [49, 50, 51, 6, 52, 8, 9, 10, 11, 12, 13, 14, 15, 16, 17, 18, 19, 20, 21, 22, 23, 24, 25, 26, 27, 28, 29, 30, 31, 32] (by decide +kernel) (by decide +kernel)
set_option maxRecDepth 20000 in
theorem gX4_does_X4_balanceOn : GoodIn wsX4_does (va_wsS RX4 147 yX4_balanceOn wsX4_balanceOn) := goodIn_app (goodIn_of _ (by decide +kernel)) ggX4_does_X4_balanceOn
set_option maxRecDepth 20000 in
theorem ggX4_does_X4_offsetOf : GoodIn wsX4_does wsX4_offsetOf := goodIn_r _ [32] (by decide +kernel) (by decide +kernel)
set_option maxRecDepth 20000 in
theorem gX4_does_X4_offsetOf : GoodIn wsX4_does (va_wsS RX4 72 yX4_offsetOf wsX4_offsetOf) := goodIn_app (goodIn_of _ (by decide +kernel)) ggX4_does_X4_offsetOf
theorem dX4_does_0 : decode cX4_does 0 = .ok (.iload_n 2, 1) := by decide +kernel
theorem dX4_does_1 : decode cX4_does 1 = .ok (.sipush 1000, 3) := by decide +kernel
theorem dX4_does_4 : decode cX4_does 4 = .ok (.idiv, 1) := by decide +kernel
theorem dX4_does_5 : decode cX4_does 5 = .ok (.istore_n 3, 1) := by decide +kernel
theorem dX4_does_6 : decode cX4_does 6 = .ok (.iload_n 2, 1) := by decide +kernel
theorem dX4_does_7 : decode cX4_does 7 = .ok (.sipush 1000, 3) := by decide +kernel
theorem dX4_does_10 : decode cX4_does 10 = .ok (.irem, 1) := by decide +kernel
theorem dX4_does_11 : decode cX4_does 11 = .ok (.istore 4, 2) := by decide +kernel
theorem dX4_does_13 : decode cX4_does 13 = .ok (.iload_n 1, 1) := by decide +kernel
theorem dX4_does_14 : decode cX4_does 14 = .ok (.tableswitch 344 1 9 #[50, 119, 149, 158, 191, 219, 245, 261, 304], 50) := by decide +kernel
theorem dX4_does_64 : decode cX4_does 64 = .ok (.iload_n 3, 1) := by decide +kernel
theorem dX4_does_65 : decode cX4_does 65 = .ok (.iconst 1, 1) := by decide +kernel
theorem dX4_does_66 : decode cX4_does 66 = .ok (.if_icmp .gt 16, 3) := by decide +kernel
theorem dX4_does_69 : decode cX4_does 69 = .ok (.iload 4, 2) := by decide +kernel
theorem dX4_does_71 : decode cX4_does 71 = .ok (.i2l, 1) := by decide +kernel
theorem dX4_does_72 : decode cX4_does 72 = .ok (.lconst 1, 1) := by decide +kernel
theorem dX4_does_73 : decode cX4_does 73 = .ok (.ldc2_w 44, 3) := by decide +kernel
theorem dX4_does_76 : decode cX4_does 76 = .ok (.invokestatic 38, 3) := by decide +kernel
theorem dX4_does_79 : decode cX4_does 79 = .ok (.ifCond .ne 5, 3) := by decide +kernel
theorem dX4_does_82 : decode cX4_does 82 = .ok (.iconst 0, 1) := by decide +kernel
theorem dX4_does_83 : decode cX4_does 83 = .ok (.ireturn, 1) := by decide +kernel
theorem dX4_does_84 : decode cX4_does 84 = .ok (.iconst 0, 1) := by decide +kernel
theorem dX4_does_85 : decode cX4_does 85 = .ok (.istore 5, 2) := by decide +kernel
theorem dX4_does_87 : decode cX4_does 87 = .ok (.iload 5, 2) := by decide +kernel
theorem dX4_does_89 : decode cX4_does 89 = .ok (.iload 4, 2) := by decide +kernel
theorem dX4_does_91 : decode cX4_does 91 = .ok (.if_icmp .ge 40, 3) := by decide +kernel
theorem dX4_does_94 : decode cX4_does 94 = .ok (.aload_n 0, 1) := by decide +kernel
theorem dX4_does_95 : decode cX4_does 95 = .ok (.getfield 19, 3) := by decide +kernel
theorem dX4_does_98 : decode cX4_does 98 = .ok (.bipush 11, 2) := by decide +kernel
theorem dX4_does_100 : decode cX4_does 100 = .ok (.iaload, 1) := by decide +kernel
theorem dX4_does_101 : decode cX4_does 101 = .ok (.iconst 1, 1) := by decide +kernel
theorem dX4_does_102 : decode cX4_does 102 = .ok (.if_icmp .ne 5, 3) := by decide +kernel
theorem dX4_does_105 : decode cX4_does 105 = .ok (.iconst 0, 1) := by decide +kernel
theorem dX4_does_106 : decode cX4_does 106 = .ok (.ireturn, 1) := by decide +kernel
theorem dX4_does_107 : decode cX4_does 107 = .ok (.aload_n 0, 1) := by decide +kernel
theorem dX4_does_108 : decode cX4_does 108 = .ok (.getfield 19, 3) := by decide +kernel
theorem dX4_does_111 : decode cX4_does 111 = .ok (.iload_n 3, 1) := by decide +kernel
theorem dX4_does_112 : decode cX4_does 112 = .ok (.iconst 1, 1) := by decide +kernel
theorem dX4_does_113 : decode cX4_does 113 = .ok (.if_icmp .ne 7, 3) := by decide +kernel
theorem dX4_does_116 : decode cX4_does 116 = .ok (.iconst 1, 1) := by decide +kernel
theorem dX4_does_117 : decode cX4_does 117 = .ok (.goto 4, 3) := by decide +kernel
theorem dX4_does_120 : decode cX4_does 120 = .ok (.iconst 0, 1) := by decide +kernel
theorem dX4_does_121 : decode cX4_does 121 = .ok (.invokestatic 79, 3) := by decide +kernel
theorem dX4_does_124 : decode cX4_does 124 = .ok (.pop, 1) := by decide +kernel
theorem dX4_does_125 : decode cX4_does 125 = .ok (.iinc 5 1, 3) := by decide +kernel
theorem dX4_does_128 : decode cX4_does 128 = .ok (.goto (-41), 3) := by decide +kernel
theorem dX4_does_131 : decode cX4_does 131 = .ok (.iconst 1, 1) := by decide +kernel
theorem dX4_does_132 : decode cX4_does 132 = .ok (.ireturn, 1) := by decide +kernel
theorem dX4_does_133 : decode cX4_does 133 = .ok (.iload_n 3, 1) := by decide +kernel
theorem dX4_does_134 : decode cX4_does 134 = .ok (.ifCond .ne 16, 3) := by decide +kernel
theorem dX4_does_137 : decode cX4_does 137 = .ok (.iload 4, 2) := by decide +kernel
theorem dX4_does_139 : decode cX4_does 139 = .ok (.i2l, 1) := by decide +kernel
theorem dX4_does_140 : decode cX4_does 140 = .ok (.lconst 1, 1) := by decide +kernel
theorem dX4_does_141 : decode cX4_does 141 = .ok (.ldc2_w 133, 3) := by decide +kernel
theorem dX4_does_144 : decode cX4_does 144 = .ok (.invokestatic 38, 3) := by decide +kernel
theorem dX4_does_147 : decode cX4_does 147 = .ok (.ifCond .ne 5, 3) := by decide +kernel
theorem dX4_does_150 : decode cX4_does 150 = .ok (.iconst 0, 1) := by decide +kernel
theorem dX4_does_151 : decode cX4_does 151 = .ok (.ireturn, 1) := by decide +kernel
theorem dX4_does_152 : decode cX4_does 152 = .ok (.aload_n 0, 1) := by decide +kernel
theorem dX4_does_153 : decode cX4_does 153 = .ok (.getfield 19, 3) := by decide +kernel
theorem dX4_does_156 : decode cX4_does 156 = .ok (.iload 4, 2) := by decide +kernel
theorem dX4_does_158 : decode cX4_does 158 = .ok (.invokestatic 83, 3) := by decide +kernel
theorem dX4_does_161 : decode cX4_does 161 = .ok (.iconst 1, 1) := by decide +kernel
theorem dX4_does_162 : decode cX4_does 162 = .ok (.ireturn, 1) := by decide +kernel
theorem dX4_does_163 : decode cX4_does 163 = .ok (.aload_n 0, 1) := by decide +kernel
theorem dX4_does_164 : decode cX4_does 164 = .ok (.getfield 19, 3) := by decide +kernel
theorem dX4_does_167 : decode cX4_does 167 = .ok (.iconst 2, 1) := by decide +kernel
theorem dX4_does_168 : decode cX4_does 168 = .ok (.iload_n 2, 1) := by decide +kernel
theorem dX4_does_169 : decode cX4_does 169 = .ok (.iastore, 1) := by decide +kernel
theorem dX4_does_170 : decode cX4_does 170 = .ok (.iconst 1, 1) := by decide +kernel
theorem dX4_does_171 : decode cX4_does 171 = .ok (.ireturn, 1) := by decide +kernel
theorem dX4_does_172 : decode cX4_does 172 = .ok (.iload_n 3, 1) := by decide +kernel
theorem dX4_does_173 : decode cX4_does 173 = .ok (.iconst 2, 1) := by decide +kernel
theorem dX4_does_174 : decode cX4_does 174 = .ok (.if_icmp .eq 19, 3) := by decide +kernel
theorem dX4_does_177 : decode cX4_does 177 = .ok (.iload 4, 2) := by decide +kernel
theorem dX4_does_179 : decode cX4_does 179 = .ok (.bipush 99, 2) := by decide +kernel
theorem dX4_does_181 : decode cX4_does 181 = .ok (.if_icmp .gt 12, 3) := by decide +kernel
theorem dX4_does_184 : decode cX4_does 184 = .ok (.iload_n 3, 1) := by decide +kernel
theorem dX4_does_185 : decode cX4_does 185 = .ok (.iload 4, 2) := by decide +kernel
theorem dX4_does_187 : decode cX4_does 187 = .ok (.invokestatic 135, 3) := by decide +kernel
theorem dX4_does_190 : decode cX4_does 190 = .ok (.ifCond .ne 5, 3) := by decide +kernel
theorem dX4_does_193 : decode cX4_does 193 = .ok (.iconst 0, 1) := by decide +kernel
theorem dX4_does_194 : decode cX4_does 194 = .ok (.ireturn, 1) := by decide +kernel
theorem dX4_does_195 : decode cX4_does 195 = .ok (.aload_n 0, 1) := by decide +kernel
theorem dX4_does_196 : decode cX4_does 196 = .ok (.getfield 19, 3) := by decide +kernel
theorem dX4_does_199 : decode cX4_does 199 = .ok (.iload_n 3, 1) := by decide +kernel
theorem dX4_does_200 : decode cX4_does 200 = .ok (.iload 4, 2) := by decide +kernel
theorem dX4_does_202 : decode cX4_does 202 = .ok (.iastore, 1) := by decide +kernel
theorem dX4_does_203 : decode cX4_does 203 = .ok (.iconst 1, 1) := by decide +kernel
theorem dX4_does_204 : decode cX4_does 204 = .ok (.ireturn, 1) := by decide +kernel
theorem dX4_does_205 : decode cX4_does 205 = .ok (.iload 4, 2) := by decide +kernel
theorem dX4_does_207 : decode cX4_does 207 = .ok (.ifCond .ne 14, 3) := by decide +kernel
theorem dX4_does_210 : decode cX4_does 210 = .ok (.aload_n 0, 1) := by decide +kernel
theorem dX4_does_211 : decode cX4_does 211 = .ok (.getfield 19, 3) := by decide +kernel
theorem dX4_does_214 : decode cX4_does 214 = .ok (.iload_n 3, 1) := by decide +kernel
theorem dX4_does_215 : decode cX4_does 215 = .ok (.invokestatic 139, 3) := by decide +kernel
theorem dX4_does_218 : decode cX4_does 218 = .ok (.ifCond .ne 5, 3) := by decide +kernel
theorem dX4_does_221 : decode cX4_does 221 = .ok (.iconst 0, 1) := by decide +kernel
theorem dX4_does_222 : decode cX4_does 222 = .ok (.ireturn, 1) := by decide +kernel
theorem dX4_does_223 : decode cX4_does 223 = .ok (.aload_n 0, 1) := by decide +kernel
theorem dX4_does_224 : decode cX4_does 224 = .ok (.getfield 19, 3) := by decide +kernel
theorem dX4_does_227 : decode cX4_does 227 = .ok (.bipush 10, 2) := by decide +kernel
theorem dX4_does_229 : decode cX4_does 229 = .ok (.iload_n 3, 1) := by decide +kernel
theorem dX4_does_230 : decode cX4_does 230 = .ok (.iastore, 1) := by decide +kernel
theorem dX4_does_231 : decode cX4_does 231 = .ok (.iconst 1, 1) := by decide +kernel
theorem dX4_does_232 : decode cX4_does 232 = .ok (.ireturn, 1) := by decide +kernel
theorem dX4_does_233 : decode cX4_does 233 = .ok (.iload_n 2, 1) := by decide +kernel
theorem dX4_does_234 : decode cX4_does 234 = .ok (.ifCond .ne 14, 3) := by decide +kernel
theorem dX4_does_237 : decode cX4_does 237 = .ok (.aload_n 0, 1) := by decide +kernel
theorem dX4_does_238 : decode cX4_does 238 = .ok (.getfield 19, 3) := by decide +kernel
theorem dX4_does_241 : decode cX4_does 241 = .ok (.bipush 11, 2) := by decide +kernel
theorem dX4_does_243 : decode cX4_does 243 = .ok (.iaload, 1) := by decide +kernel
theorem dX4_does_244 : decode cX4_does 244 = .ok (.iconst 1, 1) := by decide +kernel
theorem dX4_does_245 : decode cX4_does 245 = .ok (.if_icmp .ne 5, 3) := by decide +kernel
theorem dX4_does_248 : decode cX4_does 248 = .ok (.iconst 0, 1) := by decide +kernel
theorem dX4_does_249 : decode cX4_does 249 = .ok (.ireturn, 1) := by decide +kernel
theorem dX4_does_250 : decode cX4_does 250 = .ok (.aload_n 0, 1) := by decide +kernel
theorem dX4_does_251 : decode cX4_does 251 = .ok (.getfield 19, 3) := by decide +kernel
theorem dX4_does_254 : decode cX4_does 254 = .ok (.invokestatic 147, 3) := by decide +kernel
theorem dX4_does_257 : decode cX4_does 257 = .ok (.iconst 1, 1) := by decide +kernel
theorem dX4_does_258 : decode cX4_does 258 = .ok (.ireturn, 1) := by decide +kernel
theorem dX4_does_259 : decode cX4_does 259 = .ok (.aload_n 0, 1) := by decide +kernel
theorem dX4_does_260 : decode cX4_does 260 = .ok (.getfield 19, 3) := by decide +kernel
theorem dX4_does_263 : decode cX4_does 263 = .ok (.iconst 2, 1) := by decide +kernel
theorem dX4_does_264 : decode cX4_does 264 = .ok (.iaload, 1) := by decide +kernel
theorem dX4_does_265 : decode cX4_does 265 = .ok (.iload_n 2, 1) := by decide +kernel
theorem dX4_does_266 : decode cX4_does 266 = .ok (.if_icmp .ne 7, 3) := by decide +kernel
theorem dX4_does_269 : decode cX4_does 269 = .ok (.iconst 1, 1) := by decide +kernel
theorem dX4_does_270 : decode cX4_does 270 = .ok (.goto 4, 3) := by decide +kernel
theorem dX4_does_273 : decode cX4_does 273 = .ok (.iconst 0, 1) := by decide +kernel
theorem dX4_does_274 : decode cX4_does 274 = .ok (.ireturn, 1) := by decide +kernel
theorem dX4_does_275 : decode cX4_does 275 = .ok (.iload_n 3, 1) := by decide +kernel
theorem dX4_does_276 : decode cX4_does 276 = .ok (.iconst 2, 1) := by decide +kernel
theorem dX4_does_277 : decode cX4_does 277 = .ok (.if_icmp .ge 39, 3) := by decide +kernel
theorem dX4_does_280 : decode cX4_does 280 = .ok (.aload_n 0, 1) := by decide +kernel
theorem dX4_does_281 : decode cX4_does 281 = .ok (.getfield 19, 3) := by decide +kernel
theorem dX4_does_284 : decode cX4_does 284 = .ok (.bipush 12, 2) := by decide +kernel
theorem dX4_does_286 : decode cX4_does 286 = .ok (.iaload, 1) := by decide +kernel
theorem dX4_does_287 : decode cX4_does 287 = .ok (.ifCond .le 29, 3) := by decide +kernel
theorem dX4_does_290 : decode cX4_does 290 = .ok (.aload_n 0, 1) := by decide +kernel
theorem dX4_does_291 : decode cX4_does 291 = .ok (.getfield 19, 3) := by decide +kernel
theorem dX4_does_294 : decode cX4_does 294 = .ok (.bipush 21, 2) := by decide +kernel
theorem dX4_does_296 : decode cX4_does 296 = .ok (.iaload, 1) := by decide +kernel
theorem dX4_does_297 : decode cX4_does 297 = .ok (.iload_n 3, 1) := by decide +kernel
theorem dX4_does_298 : decode cX4_does 298 = .ok (.ifCond .ne 8, 3) := by decide +kernel
theorem dX4_does_301 : decode cX4_does 301 = .ok (.iload 4, 2) := by decide +kernel
theorem dX4_does_303 : decode cX4_does 303 = .ok (.goto 6, 3) := by decide +kernel
theorem dX4_does_306 : decode cX4_does 306 = .ok (.iload 4, 2) := by decide +kernel
theorem dX4_does_308 : decode cX4_does 308 = .ok (.ineg, 1) := by decide +kernel
theorem dX4_does_309 : decode cX4_does 309 = .ok (.if_icmp .ne 7, 3) := by decide +kernel
theorem dX4_does_312 : decode cX4_does 312 = .ok (.iconst 1, 1) := by decide +kernel
theorem dX4_does_313 : decode cX4_does 313 = .ok (.goto 4, 3) := by decide +kernel
theorem dX4_does_316 : decode cX4_does 316 = .ok (.iconst 0, 1) := by decide +kernel
theorem dX4_does_317 : decode cX4_does 317 = .ok (.ireturn, 1) := by decide +kernel
theorem dX4_does_318 : decode cX4_does 318 = .ok (.iload_n 3, 1) := by decide +kernel
theorem dX4_does_319 : decode cX4_does 319 = .ok (.iconst 2, 1) := by decide +kernel
theorem dX4_does_320 : decode cX4_does 320 = .ok (.if_icmp .ge 36, 3) := by decide +kernel
theorem dX4_does_323 : decode cX4_does 323 = .ok (.iload 4, 2) := by decide +kernel
theorem dX4_does_325 : decode cX4_does 325 = .ok (.bipush 100, 2) := by decide +kernel
theorem dX4_does_327 : decode cX4_does 327 = .ok (.if_icmp .ge 29, 3) := by decide +kernel
theorem dX4_does_330 : decode cX4_does 330 = .ok (.aload_n 0, 1) := by decide +kernel
theorem dX4_does_331 : decode cX4_does 331 = .ok (.getfield 19, 3) := by decide +kernel
theorem dX4_does_334 : decode cX4_does 334 = .ok (.invokestatic 72, 3) := by decide +kernel
theorem dX4_does_337 : decode cX4_does 337 = .ok (.iload_n 3, 1) := by decide +kernel
theorem dX4_does_338 : decode cX4_does 338 = .ok (.ifCond .ne 8, 3) := by decide +kernel
theorem dX4_does_341 : decode cX4_does 341 = .ok (.iload 4, 2) := by decide +kernel
theorem dX4_does_343 : decode cX4_does 343 = .ok (.goto 6, 3) := by decide +kernel
theorem dX4_does_346 : decode cX4_does 346 = .ok (.iload 4, 2) := by decide +kernel
theorem dX4_does_348 : decode cX4_does 348 = .ok (.ineg, 1) := by decide +kernel
theorem dX4_does_349 : decode cX4_does 349 = .ok (.if_icmp .gt 7, 3) := by decide +kernel
theorem dX4_does_352 : decode cX4_does 352 = .ok (.iconst 1, 1) := by decide +kernel
theorem dX4_does_353 : decode cX4_does 353 = .ok (.goto 4, 3) := by decide +kernel
theorem dX4_does_356 : decode cX4_does 356 = .ok (.iconst 0, 1) := by decide +kernel
theorem dX4_does_357 : decode cX4_does 357 = .ok (.ireturn, 1) := by decide +kernel
theorem dX4_does_358 : decode cX4_does 358 = .ok (.iconst 0, 1) := by decide +kernel
theorem dX4_does_359 : decode cX4_does 359 = .ok (.ireturn, 1) := by decide +kernel
set_option maxRecDepth 20000 in
theorem ggX4_runScript_X4_in : GoodIn wsX4_runScript wsX4_in := goodIn_r _ [10] (by decide +kernel) (by decide +kernel)
set_option maxRecDepth 20000 in
theorem gX4_runScript_X4_in : GoodIn wsX4_runScript (va_wsS RX4 38 yX4_in wsX4_in) := goodIn_app (goodIn_of _ (by decide +kernel)) ggX4_runScript_X4_in
set_option maxRecDepth 20000 in
theorem ggX4_runScript_X4_refused : GoodIn wsX4_runScript wsX4_refused := goodIn_r _ [14, 15, 68, 69, 70, 71, 72, 73, 74, 75, 76, 77, 78] (by decide +kernel) (by decide +kernel)
set_option maxRecDepth 20000 in
theorem gX4_runScript_X4_refused : GoodIn wsX4_runScript (wsV RX4 95 RX4 yX4_refused wsX4_refused) := goodIn_app (goodIn_of _ (by decide +kernel)) ggX4_runScript_X4_refused
set_option maxRecDepth 20000 in
theorem ggX4_runScript_X4_copyPage : GoodIn wsX4_runScript wsX4_copyPage := goodIn_r _ [18] (by decide +kernel) (by decide +kernel)
set_option maxRecDepth 20000 in
theorem gX4_runScript_X4_copyPage : GoodIn wsX4_runScript (va_wsS RX4 119 yX4_copyPage wsX4_copyPage) := goodIn_app (goodIn_of _ (by decide +kernel)) ggX4_runScript_X4_copyPage
set_option maxRecDepth 20000 in
theorem ggX4_runScript_X4_does : GoodIn wsX4_runScript wsX4_does := goodIn_r _ [22, 23, 6, 24, 7, 8, 9, 10, 25, 26, 27, 28, 29, 30, 31, 32, 33, 1, 34, 35, 36, 37, 38, 39, 40, 41, 42, 43, 44, 45, 46, 47, 48, 49, 50, 51, 52, 53, 54, 4, 55, 56, 57, 58, 59, 60, 61, 62, 63, 64, 65, 66, 67, 68, 69, 70, 71, 72, 73, 74, 75, 76, 77, 78] (by decide +kernel) (by decide +kernel)
set_option maxRecDepth 20000 in
theorem gX4_runScript_X4_does : GoodIn wsX4_runScript (wsV RX4 161 RX4 yX4_does wsX4_does) := goodIn_app (goodIn_of _ (by decide +kernel)) ggX4_runScript_X4_does
theorem dX4_runScript_0 : decode cX4_runScript 0 = .ok (.iload_n 1, 1) := by decide +kernel
theorem dX4_runScript_1 : decode cX4_runScript 1 = .ok (.iconst 1, 1) := by decide +kernel
theorem dX4_runScript_2 : decode cX4_runScript 2 = .ok (.if_icmp .ne 9, 3) := by decide +kernel
theorem dX4_runScript_5 : decode cX4_runScript 5 = .ok (.ldc2_w 56, 3) := by decide +kernel
theorem dX4_runScript_8 : decode cX4_runScript 8 = .ok (.goto 17, 3) := by decide +kernel
theorem dX4_runScript_11 : decode cX4_runScript 11 = .ok (.iload_n 1, 1) := by decide +kernel
theorem dX4_runScript_12 : decode cX4_runScript 12 = .ok (.iconst 2, 1) := by decide +kernel
theorem dX4_runScript_13 : decode cX4_runScript 13 = .ok (.if_icmp .ne 9, 3) := by decide +kernel
theorem dX4_runScript_16 : decode cX4_runScript 16 = .ok (.ldc2_w 157, 3) := by decide +kernel
theorem dX4_runScript_19 : decode cX4_runScript 19 = .ok (.goto 6, 3) := by decide +kernel
theorem dX4_runScript_22 : decode cX4_runScript 22 = .ok (.ldc2_w 159, 3) := by decide +kernel
theorem dX4_runScript_25 : decode cX4_runScript 25 = .ok (.lstore 4, 2) := by decide +kernel
theorem dX4_runScript_27 : decode cX4_runScript 27 = .ok (.aload_n 0, 1) := by decide +kernel
theorem dX4_runScript_28 : decode cX4_runScript 28 = .ok (.iload_n 1, 1) := by decide +kernel
theorem dX4_runScript_29 : decode cX4_runScript 29 = .ok (.i2l, 1) := by decide +kernel
theorem dX4_runScript_30 : decode cX4_runScript 30 = .ok (.lconst 1, 1) := by decide +kernel
theorem dX4_runScript_31 : decode cX4_runScript 31 = .ok (.ldc2_w 36, 3) := by decide +kernel
theorem dX4_runScript_34 : decode cX4_runScript 34 = .ok (.invokestatic 38, 3) := by decide +kernel
theorem dX4_runScript_37 : decode cX4_runScript 37 = .ok (.ifCond .eq 19, 3) := by decide +kernel
theorem dX4_runScript_40 : decode cX4_runScript 40 = .ok (.lload_n 2, 1) := by decide +kernel
theorem dX4_runScript_41 : decode cX4_runScript 41 = .ok (.lconst 0, 1) := by decide +kernel
theorem dX4_runScript_42 : decode cX4_runScript 42 = .ok (.lload 4, 2) := by decide +kernel
theorem dX4_runScript_44 : decode cX4_runScript 44 = .ok (.lconst 1, 1) := by decide +kernel
theorem dX4_runScript_45 : decode cX4_runScript 45 = .ok (.lsub, 1) := by decide +kernel
theorem dX4_runScript_46 : decode cX4_runScript 46 = .ok (.invokestatic 38, 3) := by decide +kernel
theorem dX4_runScript_49 : decode cX4_runScript 49 = .ok (.ifCond .eq 7, 3) := by decide +kernel
theorem dX4_runScript_52 : decode cX4_runScript 52 = .ok (.iconst 0, 1) := by decide +kernel
theorem dX4_runScript_53 : decode cX4_runScript 53 = .ok (.goto 4, 3) := by decide +kernel
theorem dX4_runScript_56 : decode cX4_runScript 56 = .ok (.iconst 1, 1) := by decide +kernel
theorem dX4_runScript_57 : decode cX4_runScript 57 = .ok (.invokevirtual 95, 3) := by decide +kernel
theorem dX4_runScript_60 : decode cX4_runScript 60 = .ok (.ifCond .eq 5, 3) := by decide +kernel
theorem dX4_runScript_63 : decode cX4_runScript 63 = .ok (.iconst 0, 1) := by decide +kernel
theorem dX4_runScript_64 : decode cX4_runScript 64 = .ok (.ireturn, 1) := by decide +kernel
theorem dX4_runScript_65 : decode cX4_runScript 65 = .ok (.aload_n 0, 1) := by decide +kernel
theorem dX4_runScript_66 : decode cX4_runScript 66 = .ok (.getfield 16, 3) := by decide +kernel
theorem dX4_runScript_69 : decode cX4_runScript 69 = .ok (.iconst 0, 1) := by decide +kernel
theorem dX4_runScript_70 : decode cX4_runScript 70 = .ok (.aload_n 0, 1) := by decide +kernel
theorem dX4_runScript_71 : decode cX4_runScript 71 = .ok (.getfield 19, 3) := by decide +kernel
theorem dX4_runScript_74 : decode cX4_runScript 74 = .ok (.iconst 0, 1) := by decide +kernel
theorem dX4_runScript_75 : decode cX4_runScript 75 = .ok (.invokestatic 119, 3) := by decide +kernel
theorem dX4_runScript_78 : decode cX4_runScript 78 = .ok (.lload_n 2, 1) := by decide +kernel
theorem dX4_runScript_79 : decode cX4_runScript 79 = .ok (.lstore 6, 2) := by decide +kernel
theorem dX4_runScript_81 : decode cX4_runScript 81 = .ok (.iconst 0, 1) := by decide +kernel
theorem dX4_runScript_82 : decode cX4_runScript 82 = .ok (.istore 8, 2) := by decide +kernel
theorem dX4_runScript_84 : decode cX4_runScript 84 = .ok (.iload 8, 2) := by decide +kernel
theorem dX4_runScript_86 : decode cX4_runScript 86 = .ok (.iload_n 1, 1) := by decide +kernel
theorem dX4_runScript_87 : decode cX4_runScript 87 = .ok (.if_icmp .ge 54, 3) := by decide +kernel
theorem dX4_runScript_90 : decode cX4_runScript 90 = .ok (.lload 4, 2) := by decide +kernel
theorem dX4_runScript_92 : decode cX4_runScript 92 = .ok (.ldc2_w 56, 3) := by decide +kernel
theorem dX4_runScript_95 : decode cX4_runScript 95 = .ok (.ldiv, 1) := by decide +kernel
theorem dX4_runScript_96 : decode cX4_runScript 96 = .ok (.lstore 4, 2) := by decide +kernel
theorem dX4_runScript_98 : decode cX4_runScript 98 = .ok (.lload 6, 2) := by decide +kernel
theorem dX4_runScript_100 : decode cX4_runScript 100 = .ok (.lload 4, 2) := by decide +kernel
theorem dX4_runScript_102 : decode cX4_runScript 102 = .ok (.ldiv, 1) := by decide +kernel
theorem dX4_runScript_103 : decode cX4_runScript 103 = .ok (.l2i, 1) := by decide +kernel
theorem dX4_runScript_104 : decode cX4_runScript 104 = .ok (.istore 9, 2) := by decide +kernel
theorem dX4_runScript_106 : decode cX4_runScript 106 = .ok (.lload 6, 2) := by decide +kernel
theorem dX4_runScript_108 : decode cX4_runScript 108 = .ok (.lload 4, 2) := by decide +kernel
theorem dX4_runScript_110 : decode cX4_runScript 110 = .ok (.lrem, 1) := by decide +kernel
theorem dX4_runScript_111 : decode cX4_runScript 111 = .ok (.lstore 6, 2) := by decide +kernel
theorem dX4_runScript_113 : decode cX4_runScript 113 = .ok (.aload_n 0, 1) := by decide +kernel
theorem dX4_runScript_114 : decode cX4_runScript 114 = .ok (.iload 9, 2) := by decide +kernel
theorem dX4_runScript_116 : decode cX4_runScript 116 = .ok (.sipush 10000, 3) := by decide +kernel
theorem dX4_runScript_119 : decode cX4_runScript 119 = .ok (.idiv, 1) := by decide +kernel
theorem dX4_runScript_120 : decode cX4_runScript 120 = .ok (.iload 9, 2) := by decide +kernel
theorem dX4_runScript_122 : decode cX4_runScript 122 = .ok (.sipush 10000, 3) := by decide +kernel
theorem dX4_runScript_125 : decode cX4_runScript 125 = .ok (.irem, 1) := by decide +kernel
theorem dX4_runScript_126 : decode cX4_runScript 126 = .ok (.invokevirtual 161, 3) := by decide +kernel
theorem dX4_runScript_129 : decode cX4_runScript 129 = .ok (.ifCond .ne 6, 3) := by decide +kernel
theorem dX4_runScript_132 : decode cX4_runScript 132 = .ok (.iload 8, 2) := by decide +kernel
theorem dX4_runScript_134 : decode cX4_runScript 134 = .ok (.ireturn, 1) := by decide +kernel
theorem dX4_runScript_135 : decode cX4_runScript 135 = .ok (.iinc 8 1, 3) := by decide +kernel
theorem dX4_runScript_138 : decode cX4_runScript 138 = .ok (.goto (-54), 3) := by decide +kernel
theorem dX4_runScript_141 : decode cX4_runScript 141 = .ok (.sipush (-9999), 3) := by decide +kernel
theorem dX4_runScript_144 : decode cX4_runScript 144 = .ok (.ireturn, 1) := by decide +kernel
set_option maxRecDepth 20000 in
theorem ggX4_simulate_X4_in : GoodIn wsX4_simulate wsX4_in := goodIn_r _ [9] (by decide +kernel) (by decide +kernel)
set_option maxRecDepth 20000 in
theorem gX4_simulate_X4_in : GoodIn wsX4_simulate (va_wsS RX4 38 yX4_in wsX4_in) := goodIn_app (goodIn_of _ (by decide +kernel)) ggX4_simulate_X4_in
set_option maxRecDepth 20000 in
theorem ggX4_simulate_X4_refused : GoodIn wsX4_simulate wsX4_refused := goodIn_r _ [13, 14, 49, 50, 51, 52, 53, 54, 55, 56, 57, 58, 59] (by decide +kernel) (by decide +kernel)
set_option maxRecDepth 20000 in
theorem gX4_simulate_X4_refused : GoodIn wsX4_simulate (wsV RX4 95 RX4 yX4_refused wsX4_refused) := goodIn_app (goodIn_of _ (by decide +kernel)) ggX4_simulate_X4_refused
set_option maxRecDepth 20000 in
theorem ggX4_simulate_X4_copyPage : GoodIn wsX4_simulate wsX4_copyPage := goodIn_r _ [17] (by decide +kernel) (by decide +kernel)
set_option maxRecDepth 20000 in
theorem gX4_simulate_X4_copyPage : GoodIn wsX4_simulate (va_wsS RX4 119 yX4_copyPage wsX4_copyPage) := goodIn_app (goodIn_of _ (by decide +kernel)) ggX4_simulate_X4_copyPage
set_option maxRecDepth 20000 in
theorem ggX4_simulate_X4_waitOn : GoodIn wsX4_simulate wsX4_waitOn := goodIn_r _ [20] (by decide +kernel) (by decide +kernel)
set_option maxRecDepth 20000 in
theorem gX4_simulate_X4_waitOn : GoodIn wsX4_simulate (va_wsS RX4 83 yX4_waitOn wsX4_waitOn) := goodIn_app (goodIn_of _ (by decide +kernel)) ggX4_simulate_X4_waitOn
set_option maxRecDepth 20000 in
theorem ggX4_simulate_X4_freeOn : GoodIn wsX4_simulate wsX4_freeOn := goodIn_r _ [23, 18, 19, 8, 20] (by decide +kernel) (by decide +kernel)
set_option maxRecDepth 20000 in
theorem gX4_simulate_X4_freeOn : GoodIn wsX4_simulate (va_wsS RX4 143 yX4_freeOn wsX4_freeOn) := goodIn_app (goodIn_of _ (by decide +kernel)) ggX4_simulate_X4_freeOn
set_option maxRecDepth 20000 in
theorem ggX4_simulate_X4_pressOn : GoodIn wsX4_simulate wsX4_pressOn := goodIn_r _ [26, 27, 28, 8, 29, 30, 31, 32, 33, 34, 35, 36, 37, 38, 39, 40, 41, 42, 43, 44, 45, 46, 47, 48] (by decide +kernel) (by decide +kernel)
set_option maxRecDepth 20000 in
theorem gX4_simulate_X4_pressOn : GoodIn wsX4_simulate (va_wsS RX4 79 yX4_pressOn wsX4_pressOn) := goodIn_app (goodIn_of _ (by decide +kernel)) ggX4_simulate_X4_pressOn
theorem dX4_simulate_0 : decode cX4_simulate 0 = .ok (.aload_n 0, 1) := by decide +kernel
theorem dX4_simulate_1 : decode cX4_simulate 1 = .ok (.iload_n 3, 1) := by decide +kernel
theorem dX4_simulate_2 : decode cX4_simulate 2 = .ok (.i2l, 1) := by decide +kernel
theorem dX4_simulate_3 : decode cX4_simulate 3 = .ok (.lconst 1, 1) := by decide +kernel
theorem dX4_simulate_4 : decode cX4_simulate 4 = .ok (.ldc2_w 44, 3) := by decide +kernel
theorem dX4_simulate_7 : decode cX4_simulate 7 = .ok (.invokestatic 38, 3) := by decide +kernel
theorem dX4_simulate_10 : decode cX4_simulate 10 = .ok (.ifCond .eq 7, 3) := by decide +kernel
theorem dX4_simulate_13 : decode cX4_simulate 13 = .ok (.iconst 0, 1) := by decide +kernel
theorem dX4_simulate_14 : decode cX4_simulate 14 = .ok (.goto 4, 3) := by decide +kernel
theorem dX4_simulate_17 : decode cX4_simulate 17 = .ok (.iconst 1, 1) := by decide +kernel
theorem dX4_simulate_18 : decode cX4_simulate 18 = .ok (.invokevirtual 95, 3) := by decide +kernel
theorem dX4_simulate_21 : decode cX4_simulate 21 = .ok (.ifCond .eq 5, 3) := by decide +kernel
theorem dX4_simulate_24 : decode cX4_simulate 24 = .ok (.iconst 0, 1) := by decide +kernel
theorem dX4_simulate_25 : decode cX4_simulate 25 = .ok (.ireturn, 1) := by decide +kernel
theorem dX4_simulate_26 : decode cX4_simulate 26 = .ok (.aload_n 0, 1) := by decide +kernel
theorem dX4_simulate_27 : decode cX4_simulate 27 = .ok (.getfield 16, 3) := by decide +kernel
theorem dX4_simulate_30 : decode cX4_simulate 30 = .ok (.iconst 0, 1) := by decide +kernel
theorem dX4_simulate_31 : decode cX4_simulate 31 = .ok (.aload_n 0, 1) := by decide +kernel
theorem dX4_simulate_32 : decode cX4_simulate 32 = .ok (.getfield 19, 3) := by decide +kernel
theorem dX4_simulate_35 : decode cX4_simulate 35 = .ok (.iconst 0, 1) := by decide +kernel
theorem dX4_simulate_36 : decode cX4_simulate 36 = .ok (.invokestatic 119, 3) := by decide +kernel
theorem dX4_simulate_39 : decode cX4_simulate 39 = .ok (.lload_n 1, 1) := by decide +kernel
theorem dX4_simulate_40 : decode cX4_simulate 40 = .ok (.lstore 4, 2) := by decide +kernel
theorem dX4_simulate_42 : decode cX4_simulate 42 = .ok (.iconst 0, 1) := by decide +kernel
theorem dX4_simulate_43 : decode cX4_simulate 43 = .ok (.istore 6, 2) := by decide +kernel
theorem dX4_simulate_45 : decode cX4_simulate 45 = .ok (.iconst 0, 1) := by decide +kernel
theorem dX4_simulate_46 : decode cX4_simulate 46 = .ok (.istore 7, 2) := by decide +kernel
theorem dX4_simulate_48 : decode cX4_simulate 48 = .ok (.iload 7, 2) := by decide +kernel
theorem dX4_simulate_50 : decode cX4_simulate 50 = .ok (.iload_n 3, 1) := by decide +kernel
theorem dX4_simulate_51 : decode cX4_simulate 51 = .ok (.if_icmp .ge 120, 3) := by decide +kernel
theorem dX4_simulate_54 : decode cX4_simulate 54 = .ok (.lload 4, 2) := by decide +kernel
theorem dX4_simulate_56 : decode cX4_simulate 56 = .ok (.ldc2_w 164, 3) := by decide +kernel
theorem dX4_simulate_59 : decode cX4_simulate 59 = .ok (.lmul, 1) := by decide +kernel
theorem dX4_simulate_60 : decode cX4_simulate 60 = .ok (.ldc2_w 166, 3) := by decide +kernel
theorem dX4_simulate_63 : decode cX4_simulate 63 = .ok (.ladd, 1) := by decide +kernel
theorem dX4_simulate_64 : decode cX4_simulate 64 = .ok (.lstore 4, 2) := by decide +kernel
theorem dX4_simulate_66 : decode cX4_simulate 66 = .ok (.lload 4, 2) := by decide +kernel
theorem dX4_simulate_68 : decode cX4_simulate 68 = .ok (.bipush 33, 2) := by decide +kernel
theorem dX4_simulate_70 : decode cX4_simulate 70 = .ok (.lushr, 1) := by decide +kernel
theorem dX4_simulate_71 : decode cX4_simulate 71 = .ok (.l2i, 1) := by decide +kernel
theorem dX4_simulate_72 : decode cX4_simulate 72 = .ok (.istore 8, 2) := by decide +kernel
theorem dX4_simulate_74 : decode cX4_simulate 74 = .ok (.iload 8, 2) := by decide +kernel
theorem dX4_simulate_76 : decode cX4_simulate 76 = .ok (.iconst 4, 1) := by decide +kernel
theorem dX4_simulate_77 : decode cX4_simulate 77 = .ok (.irem, 1) := by decide +kernel
theorem dX4_simulate_78 : decode cX4_simulate 78 = .ok (.ifCond .ne 20, 3) := by decide +kernel
theorem dX4_simulate_81 : decode cX4_simulate 81 = .ok (.aload_n 0, 1) := by decide +kernel
theorem dX4_simulate_82 : decode cX4_simulate 82 = .ok (.getfield 19, 3) := by decide +kernel
theorem dX4_simulate_85 : decode cX4_simulate 85 = .ok (.iconst 2, 1) := by decide +kernel
theorem dX4_simulate_86 : decode cX4_simulate 86 = .ok (.iload 8, 2) := by decide +kernel
theorem dX4_simulate_88 : decode cX4_simulate 88 = .ok (.iconst 4, 1) := by decide +kernel
theorem dX4_simulate_89 : decode cX4_simulate 89 = .ok (.idiv, 1) := by decide +kernel
theorem dX4_simulate_90 : decode cX4_simulate 90 = .ok (.sipush 10000, 3) := by decide +kernel
theorem dX4_simulate_93 : decode cX4_simulate 93 = .ok (.irem, 1) := by decide +kernel
theorem dX4_simulate_94 : decode cX4_simulate 94 = .ok (.iastore, 1) := by decide +kernel
theorem dX4_simulate_95 : decode cX4_simulate 95 = .ok (.goto 70, 3) := by decide +kernel
theorem dX4_simulate_98 : decode cX4_simulate 98 = .ok (.iload 8, 2) := by decide +kernel
theorem dX4_simulate_100 : decode cX4_simulate 100 = .ok (.iconst 4, 1) := by decide +kernel
theorem dX4_simulate_101 : decode cX4_simulate 101 = .ok (.irem, 1) := by decide +kernel
theorem dX4_simulate_102 : decode cX4_simulate 102 = .ok (.iconst 1, 1) := by decide +kernel
theorem dX4_simulate_103 : decode cX4_simulate 103 = .ok (.if_icmp .ne 14, 3) := by decide +kernel
theorem dX4_simulate_106 : decode cX4_simulate 106 = .ok (.aload_n 0, 1) := by decide +kernel
theorem dX4_simulate_107 : decode cX4_simulate 107 = .ok (.getfield 19, 3) := by decide +kernel
theorem dX4_simulate_110 : decode cX4_simulate 110 = .ok (.iconst 1, 1) := by decide +kernel
theorem dX4_simulate_111 : decode cX4_simulate 111 = .ok (.invokestatic 83, 3) := by decide +kernel
theorem dX4_simulate_114 : decode cX4_simulate 114 = .ok (.goto 51, 3) := by decide +kernel
theorem dX4_simulate_117 : decode cX4_simulate 117 = .ok (.aload_n 0, 1) := by decide +kernel
theorem dX4_simulate_118 : decode cX4_simulate 118 = .ok (.getfield 19, 3) := by decide +kernel
theorem dX4_simulate_121 : decode cX4_simulate 121 = .ok (.bipush 11, 2) := by decide +kernel
theorem dX4_simulate_123 : decode cX4_simulate 123 = .ok (.iaload, 1) := by decide +kernel
theorem dX4_simulate_124 : decode cX4_simulate 124 = .ok (.iconst 1, 1) := by decide +kernel
theorem dX4_simulate_125 : decode cX4_simulate 125 = .ok (.if_icmp .ne 13, 3) := by decide +kernel
theorem dX4_simulate_128 : decode cX4_simulate 128 = .ok (.aload_n 0, 1) := by decide +kernel
theorem dX4_simulate_129 : decode cX4_simulate 129 = .ok (.getfield 19, 3) := by decide +kernel
theorem dX4_simulate_132 : decode cX4_simulate 132 = .ok (.invokestatic 143, 3) := by decide +kernel
theorem dX4_simulate_135 : decode cX4_simulate 135 = .ok (.goto 30, 3) := by decide +kernel
theorem dX4_simulate_138 : decode cX4_simulate 138 = .ok (.iload 6, 2) := by decide +kernel
theorem dX4_simulate_140 : decode cX4_simulate 140 = .ok (.aload_n 0, 1) := by decide +kernel
theorem dX4_simulate_141 : decode cX4_simulate 141 = .ok (.getfield 19, 3) := by decide +kernel
theorem dX4_simulate_144 : decode cX4_simulate 144 = .ok (.iload 8, 2) := by decide +kernel
theorem dX4_simulate_146 : decode cX4_simulate 146 = .ok (.iconst 4, 1) := by decide +kernel
theorem dX4_simulate_147 : decode cX4_simulate 147 = .ok (.idiv, 1) := by decide +kernel
theorem dX4_simulate_148 : decode cX4_simulate 148 = .ok (.iconst 2, 1) := by decide +kernel
theorem dX4_simulate_149 : decode cX4_simulate 149 = .ok (.irem, 1) := by decide +kernel
theorem dX4_simulate_150 : decode cX4_simulate 150 = .ok (.iconst 1, 1) := by decide +kernel
theorem dX4_simulate_151 : decode cX4_simulate 151 = .ok (.if_icmp .ne 7, 3) := by decide +kernel
theorem dX4_simulate_154 : decode cX4_simulate 154 = .ok (.iconst 1, 1) := by decide +kernel
theorem dX4_simulate_155 : decode cX4_simulate 155 = .ok (.goto 4, 3) := by decide +kernel
theorem dX4_simulate_158 : decode cX4_simulate 158 = .ok (.iconst 0, 1) := by decide +kernel
theorem dX4_simulate_159 : decode cX4_simulate 159 = .ok (.invokestatic 79, 3) := by decide +kernel
theorem dX4_simulate_162 : decode cX4_simulate 162 = .ok (.iadd, 1) := by decide +kernel
theorem dX4_simulate_163 : decode cX4_simulate 163 = .ok (.istore 6, 2) := by decide +kernel
theorem dX4_simulate_165 : decode cX4_simulate 165 = .ok (.iinc 7 1, 3) := by decide +kernel
theorem dX4_simulate_168 : decode cX4_simulate 168 = .ok (.goto (-120), 3) := by decide +kernel
theorem dX4_simulate_171 : decode cX4_simulate 171 = .ok (.iload 6, 2) := by decide +kernel
theorem dX4_simulate_173 : decode cX4_simulate 173 = .ok (.ireturn, 1) := by decide +kernel
set_option maxRecDepth 20000 in
theorem ggX4_save_X4_in : GoodIn wsX4_save wsX4_in := goodIn_r _ [7] (by decide +kernel) (by decide +kernel)
set_option maxRecDepth 20000 in
theorem gX4_save_X4_in : GoodIn wsX4_save (va_wsS RX4 38 yX4_in wsX4_in) := goodIn_app (goodIn_of _ (by decide +kernel)) ggX4_save_X4_in
set_option maxRecDepth 20000 in
theorem ggX4_save_X4_refused : GoodIn wsX4_save wsX4_refused := goodIn_r _ [11, 12, 16, 17, 18, 19, 20, 21, 22, 23, 24, 25, 26] (by decide +kernel) (by decide +kernel)
set_option maxRecDepth 20000 in
theorem gX4_save_X4_refused : GoodIn wsX4_save (wsV RX4 95 RX4 yX4_refused wsX4_refused) := goodIn_app (goodIn_of _ (by decide +kernel)) ggX4_save_X4_refused
set_option maxRecDepth 20000 in
theorem ggX4_save_X4_copyPage : GoodIn wsX4_save wsX4_copyPage := goodIn_r _ [15] (by decide +kernel) (by decide +kernel)
set_option maxRecDepth 20000 in
theorem gX4_save_X4_copyPage : GoodIn wsX4_save (va_wsS RX4 119 yX4_copyPage wsX4_copyPage) := goodIn_app (goodIn_of _ (by decide +kernel)) ggX4_save_X4_copyPage
theorem dX4_save_0 : decode cX4_save 0 = .ok (.aload_n 0, 1) := by decide +kernel
theorem dX4_save_1 : decode cX4_save 1 = .ok (.iload_n 1, 1) := by decide +kernel
theorem dX4_save_2 : decode cX4_save 2 = .ok (.i2l, 1) := by decide +kernel
theorem dX4_save_3 : decode cX4_save 3 = .ok (.lconst 0, 1) := by decide +kernel
theorem dX4_save_4 : decode cX4_save 4 = .ok (.lconst 1, 1) := by decide +kernel
theorem dX4_save_5 : decode cX4_save 5 = .ok (.invokestatic 38, 3) := by decide +kernel
theorem dX4_save_8 : decode cX4_save 8 = .ok (.ifCond .eq 7, 3) := by decide +kernel
theorem dX4_save_11 : decode cX4_save 11 = .ok (.iconst 0, 1) := by decide +kernel
theorem dX4_save_12 : decode cX4_save 12 = .ok (.goto 4, 3) := by decide +kernel
theorem dX4_save_15 : decode cX4_save 15 = .ok (.iconst 1, 1) := by decide +kernel
theorem dX4_save_16 : decode cX4_save 16 = .ok (.invokevirtual 95, 3) := by decide +kernel
theorem dX4_save_19 : decode cX4_save 19 = .ok (.ifCond .eq 5, 3) := by decide +kernel
theorem dX4_save_22 : decode cX4_save 22 = .ok (.iconst 0, 1) := by decide +kernel
theorem dX4_save_23 : decode cX4_save 23 = .ok (.ireturn, 1) := by decide +kernel
theorem dX4_save_24 : decode cX4_save 24 = .ok (.aload_n 0, 1) := by decide +kernel
theorem dX4_save_25 : decode cX4_save 25 = .ok (.getfield 28, 3) := by decide +kernel
theorem dX4_save_28 : decode cX4_save 28 = .ok (.iload_n 1, 1) := by decide +kernel
theorem dX4_save_29 : decode cX4_save 29 = .ok (.iconst 1, 1) := by decide +kernel
theorem dX4_save_30 : decode cX4_save 30 = .ok (.bastore, 1) := by decide +kernel
theorem dX4_save_31 : decode cX4_save 31 = .ok (.aload_n 0, 1) := by decide +kernel
theorem dX4_save_32 : decode cX4_save 32 = .ok (.getfield 16, 3) := by decide +kernel
theorem dX4_save_35 : decode cX4_save 35 = .ok (.iconst 0, 1) := by decide +kernel
theorem dX4_save_36 : decode cX4_save 36 = .ok (.aload_n 0, 1) := by decide +kernel
theorem dX4_save_37 : decode cX4_save 37 = .ok (.getfield 25, 3) := by decide +kernel
theorem dX4_save_40 : decode cX4_save 40 = .ok (.bipush 101, 2) := by decide +kernel
theorem dX4_save_42 : decode cX4_save 42 = .ok (.iload_n 1, 1) := by decide +kernel
theorem dX4_save_43 : decode cX4_save 43 = .ok (.imul, 1) := by decide +kernel
theorem dX4_save_44 : decode cX4_save 44 = .ok (.invokestatic 119, 3) := by decide +kernel
theorem dX4_save_47 : decode cX4_save 47 = .ok (.aload_n 0, 1) := by decide +kernel
theorem dX4_save_48 : decode cX4_save 48 = .ok (.getfield 16, 3) := by decide +kernel
theorem dX4_save_51 : decode cX4_save 51 = .ok (.bipush 8, 2) := by decide +kernel
theorem dX4_save_53 : decode cX4_save 53 = .ok (.iaload, 1) := by decide +kernel
theorem dX4_save_54 : decode cX4_save 54 = .ok (.ireturn, 1) := by decide +kernel
set_option maxRecDepth 20000 in
theorem ggX4_restore_X4_in : GoodIn wsX4_restore wsX4_in := goodIn_r _ [8] (by decide +kernel) (by decide +kernel)
set_option maxRecDepth 20000 in
theorem gX4_restore_X4_in : GoodIn wsX4_restore (va_wsS RX4 38 yX4_in wsX4_in) := goodIn_app (goodIn_of _ (by decide +kernel)) ggX4_restore_X4_in
set_option maxRecDepth 20000 in
theorem ggX4_restore_X4_refused : GoodIn wsX4_restore wsX4_refused := goodIn_r _ [12, 13, 17, 18, 19, 20, 21, 22, 23, 24, 25, 26, 27] (by decide +kernel) (by decide +kernel)
set_option maxRecDepth 20000 in
theorem gX4_restore_X4_refused : GoodIn wsX4_restore (wsV RX4 95 RX4 yX4_refused wsX4_refused) := goodIn_app (goodIn_of _ (by decide +kernel)) ggX4_restore_X4_refused
set_option maxRecDepth 20000 in
theorem ggX4_restore_X4_copyPage : GoodIn wsX4_restore wsX4_copyPage := goodIn_r _ [16] (by decide +kernel) (by decide +kernel)
set_option maxRecDepth 20000 in
theorem gX4_restore_X4_copyPage : GoodIn wsX4_restore (va_wsS RX4 119 yX4_copyPage wsX4_copyPage) := goodIn_app (goodIn_of _ (by decide +kernel)) ggX4_restore_X4_copyPage
theorem dX4_restore_0 : decode cX4_restore 0 = .ok (.aload_n 0, 1) := by decide +kernel
theorem dX4_restore_1 : decode cX4_restore 1 = .ok (.iload_n 1, 1) := by decide +kernel
theorem dX4_restore_2 : decode cX4_restore 2 = .ok (.i2l, 1) := by decide +kernel
theorem dX4_restore_3 : decode cX4_restore 3 = .ok (.lconst 0, 1) := by decide +kernel
theorem dX4_restore_4 : decode cX4_restore 4 = .ok (.lconst 1, 1) := by decide +kernel
theorem dX4_restore_5 : decode cX4_restore 5 = .ok (.invokestatic 38, 3) := by decide +kernel
theorem dX4_restore_8 : decode cX4_restore 8 = .ok (.ifCond .ne 7, 3) := by decide +kernel
theorem dX4_restore_11 : decode cX4_restore 11 = .ok (.iconst 1, 1) := by decide +kernel
theorem dX4_restore_12 : decode cX4_restore 12 = .ok (.goto 17, 3) := by decide +kernel
theorem dX4_restore_15 : decode cX4_restore 15 = .ok (.aload_n 0, 1) := by decide +kernel
theorem dX4_restore_16 : decode cX4_restore 16 = .ok (.getfield 28, 3) := by decide +kernel
theorem dX4_restore_19 : decode cX4_restore 19 = .ok (.iload_n 1, 1) := by decide +kernel
theorem dX4_restore_20 : decode cX4_restore 20 = .ok (.baload, 1) := by decide +kernel
theorem dX4_restore_21 : decode cX4_restore 21 = .ok (.ifCond .ne 7, 3) := by decide +kernel
theorem dX4_restore_24 : decode cX4_restore 24 = .ok (.iconst 2, 1) := by decide +kernel
theorem dX4_restore_25 : decode cX4_restore 25 = .ok (.goto 4, 3) := by decide +kernel
theorem dX4_restore_28 : decode cX4_restore 28 = .ok (.iconst 0, 1) := by decide +kernel
theorem dX4_restore_29 : decode cX4_restore 29 = .ok (.invokevirtual 95, 3) := by decide +kernel
theorem dX4_restore_32 : decode cX4_restore 32 = .ok (.ifCond .eq 5, 3) := by decide +kernel
theorem dX4_restore_35 : decode cX4_restore 35 = .ok (.iconst 0, 1) := by decide +kernel
theorem dX4_restore_36 : decode cX4_restore 36 = .ok (.ireturn, 1) := by decide +kernel
theorem dX4_restore_37 : decode cX4_restore 37 = .ok (.aload_n 0, 1) := by decide +kernel
theorem dX4_restore_38 : decode cX4_restore 38 = .ok (.getfield 25, 3) := by decide +kernel
theorem dX4_restore_41 : decode cX4_restore 41 = .ok (.bipush 101, 2) := by decide +kernel
theorem dX4_restore_43 : decode cX4_restore 43 = .ok (.iload_n 1, 1) := by decide +kernel
theorem dX4_restore_44 : decode cX4_restore 44 = .ok (.imul, 1) := by decide +kernel
theorem dX4_restore_45 : decode cX4_restore 45 = .ok (.aload_n 0, 1) := by decide +kernel
theorem dX4_restore_46 : decode cX4_restore 46 = .ok (.getfield 16, 3) := by decide +kernel
theorem dX4_restore_49 : decode cX4_restore 49 = .ok (.iconst 0, 1) := by decide +kernel
theorem dX4_restore_50 : decode cX4_restore 50 = .ok (.invokestatic 119, 3) := by decide +kernel
theorem dX4_restore_53 : decode cX4_restore 53 = .ok (.aload_n 0, 1) := by decide +kernel
theorem dX4_restore_54 : decode cX4_restore 54 = .ok (.iconst 0, 1) := by decide +kernel
theorem dX4_restore_55 : decode cX4_restore 55 = .ok (.putfield 123, 3) := by decide +kernel
theorem dX4_restore_58 : decode cX4_restore 58 = .ok (.aload_n 0, 1) := by decide +kernel
theorem dX4_restore_59 : decode cX4_restore 59 = .ok (.getfield 16, 3) := by decide +kernel
theorem dX4_restore_62 : decode cX4_restore 62 = .ok (.bipush 8, 2) := by decide +kernel
theorem dX4_restore_64 : decode cX4_restore 64 = .ok (.iaload, 1) := by decide +kernel
theorem dX4_restore_65 : decode cX4_restore 65 = .ok (.ireturn, 1) := by decide +kernel
theorem dJ9_abs_0f7a4_0 : decode cJ9_abs_0f7a4 0 = .ok (.iload_n 0, 1) := by decide +kernel
theorem dJ9_abs_0f7a4_1 : decode cJ9_abs_0f7a4 1 = .ok (.ifCond .ge 8, 3) := by decide +kernel
theorem dJ9_abs_0f7a4_4 : decode cJ9_abs_0f7a4 4 = .ok (.iload_n 0, 1) := by decide +kernel
theorem dJ9_abs_0f7a4_5 : decode cJ9_abs_0f7a4 5 = .ok (.ineg, 1) := by decide +kernel
theorem dJ9_abs_0f7a4_6 : decode cJ9_abs_0f7a4 6 = .ok (.goto 4, 3) := by decide +kernel
theorem dJ9_abs_0f7a4_9 : decode cJ9_abs_0f7a4 9 = .ok (.iload_n 0, 1) := by decide +kernel
theorem dJ9_abs_0f7a4_10 : decode cJ9_abs_0f7a4 10 = .ok (.ireturn, 1) := by decide +kernel
theorem dJ9_max_7cf53_0 : decode cJ9_max_7cf53 0 = .ok (.iload_n 0, 1) := by decide +kernel
theorem dJ9_max_7cf53_1 : decode cJ9_max_7cf53 1 = .ok (.iload_n 1, 1) := by decide +kernel
theorem dJ9_max_7cf53_2 : decode cJ9_max_7cf53 2 = .ok (.if_icmp .lt 7, 3) := by decide +kernel
theorem dJ9_max_7cf53_5 : decode cJ9_max_7cf53 5 = .ok (.iload_n 0, 1) := by decide +kernel
theorem dJ9_max_7cf53_6 : decode cJ9_max_7cf53 6 = .ok (.goto 4, 3) := by decide +kernel
theorem dJ9_max_7cf53_9 : decode cJ9_max_7cf53 9 = .ok (.iload_n 1, 1) := by decide +kernel
theorem dJ9_max_7cf53_10 : decode cJ9_max_7cf53 10 = .ok (.ireturn, 1) := by decide +kernel
theorem dJ9_min_7cf53_0 : decode cJ9_min_7cf53 0 = .ok (.iload_n 0, 1) := by decide +kernel
theorem dJ9_min_7cf53_1 : decode cJ9_min_7cf53 1 = .ok (.iload_n 1, 1) := by decide +kernel
theorem dJ9_min_7cf53_2 : decode cJ9_min_7cf53 2 = .ok (.if_icmp .gt 7, 3) := by decide +kernel
theorem dJ9_min_7cf53_5 : decode cJ9_min_7cf53 5 = .ok (.iload_n 0, 1) := by decide +kernel
theorem dJ9_min_7cf53_6 : decode cJ9_min_7cf53 6 = .ok (.goto 4, 3) := by decide +kernel
theorem dJ9_min_7cf53_9 : decode cJ9_min_7cf53 9 = .ok (.iload_n 1, 1) := by decide +kernel
theorem dJ9_min_7cf53_10 : decode cJ9_min_7cf53 10 = .ok (.ireturn, 1) := by decide +kernel
set_option maxRecDepth 20000 in
theorem ggL_append_X3_append : GoodIn wsL_append wsX3_append := goodIn_ca (goodIn_ca (goodIn_r _ [7, 8, 9, 10, 11, 12, 13, 14, 6, 15, 16, 17, 18, 19, 20, 21, 22, 23, 24, 25, 26, 27, 28, 29, 30, 31] (by decide +kernel) (by decide +kernel)) (goodIn_sub (fun _ h => List.mem_cons_of_mem _ (List.mem_append_left _ (List.mem_append_right _ h))) (by decide +kernel))) (goodIn_sub (fun _ h => List.mem_cons_of_mem _ (List.mem_append_right _ h)) (by decide +kernel))
set_option maxRecDepth 20000 in
theorem gL_append_X3_append : GoodIn wsL_append (wsV RL 7 RX3 yX3_append wsX3_append) := goodIn_app (goodIn_of _ (by decide +kernel)) ggL_append_X3_append
theorem dL_append_0 : decode cL_append 0 = .ok (.aload_n 2, 1) := by decide +kernel
theorem dL_append_1 : decode cL_append 1 = .ok (.iconst 0, 1) := by decide +kernel
theorem dL_append_2 : decode cL_append 2 = .ok (.aload_n 0, 1) := by decide +kernel
theorem dL_append_3 : decode cL_append 3 = .ok (.iload_n 1, 1) := by decide +kernel
theorem dL_append_4 : decode cL_append 4 = .ok (.invokevirtual 7, 3) := by decide +kernel
theorem dL_append_7 : decode cL_append 7 = .ok (.i2l, 1) := by decide +kernel
theorem dL_append_8 : decode cL_append 8 = .ok (.lastore, 1) := by decide +kernel
theorem dL_append_9 : decode cL_append 9 = .ok (.goto 9, 3) := by decide +kernel
theorem dL_append_12 : decode cL_append 12 = .ok (.astore_n 3, 1) := by decide +kernel
theorem dL_append_13 : decode cL_append 13 = .ok (.iconst 1, 1) := by decide +kernel
theorem dL_append_14 : decode cL_append 14 = .ok (.ireturn, 1) := by decide +kernel
theorem dL_append_15 : decode cL_append 15 = .ok (.astore_n 3, 1) := by decide +kernel
theorem dL_append_16 : decode cL_append 16 = .ok (.iconst 2, 1) := by decide +kernel
theorem dL_append_17 : decode cL_append 17 = .ok (.ireturn, 1) := by decide +kernel
theorem dL_append_18 : decode cL_append 18 = .ok (.iconst 0, 1) := by decide +kernel
theorem dL_append_19 : decode cL_append 19 = .ok (.ireturn, 1) := by decide +kernel
set_option maxRecDepth 20000 in
theorem ggL_load_X3_load : GoodIn wsL_load wsX3_load := goodIn_ca (goodIn_r _ [6, 7, 8, 9, 10, 11, 12, 13, 14, 15, 16, 17, 18, 19, 20, 21, 22, 23, 24, 25, 26, 27, 28, 29, 30, 31, 32, 33, 34, 35, 36, 37, 38, 39, 40, 41, 42, 43, 44, 45, 46, 47, 48, 49, 50, 51, 52, 53, 54, 55, 56, 57, 58, 59, 60, 61, 62, 63, 64, 65, 66, 67, 68, 69, 70, 71, 72, 73, 74, 75, 5, 76, 77, 78, 79, 80, 81, 82, 83, 84, 85, 86, 87, 88, 89, 90, 91, 92, 93, 94, 95, 96, 97, 98, 99, 100, 101, 102, 103, 104, 105, 106, 107] (by decide +kernel) (by decide +kernel)) (goodIn_sub (fun _ h => List.mem_cons_of_mem _ (List.mem_append_right _ h)) (by decide +kernel))
set_option maxRecDepth 20000 in
theorem gL_load_X3_load : GoodIn wsL_load (wsV RL 17 RX3 yX3_load wsX3_load) := goodIn_app (goodIn_of _ (by decide +kernel)) ggL_load_X3_load
theorem dL_load_0 : decode cL_load 0 = .ok (.aload_n 1, 1) := by decide +kernel
theorem dL_load_1 : decode cL_load 1 = .ok (.iconst 0, 1) := by decide +kernel
theorem dL_load_2 : decode cL_load 2 = .ok (.aload_n 0, 1) := by decide +kernel
theorem dL_load_3 : decode cL_load 3 = .ok (.invokevirtual 17, 3) := by decide +kernel
theorem dL_load_6 : decode cL_load 6 = .ok (.i2l, 1) := by decide +kernel
theorem dL_load_7 : decode cL_load 7 = .ok (.lastore, 1) := by decide +kernel
theorem dL_load_8 : decode cL_load 8 = .ok (.goto 6, 3) := by decide +kernel
theorem dL_load_11 : decode cL_load 11 = .ok (.astore_n 2, 1) := by decide +kernel
theorem dL_load_12 : decode cL_load 12 = .ok (.iconst 1, 1) := by decide +kernel
theorem dL_load_13 : decode cL_load 13 = .ok (.ireturn, 1) := by decide +kernel
theorem dL_load_14 : decode cL_load 14 = .ok (.iconst 0, 1) := by decide +kernel
theorem dL_load_15 : decode cL_load 15 = .ok (.ireturn, 1) := by decide +kernel
set_option maxRecDepth 20000 in
theorem ggL_about_X3_about : GoodIn wsL_about wsX3_about := goodIn_ca (goodIn_r _ [6, 7, 8, 9, 10, 11, 5, 12, 13, 14, 15, 16, 17, 18, 19, 20, 21, 22, 23, 24, 25, 26, 27, 28, 29, 30, 31, 32, 33, 34, 35, 36, 37, 38, 39, 40, 41, 42, 43, 44, 45, 46, 47, 48, 49, 50, 51, 52, 53, 54, 55, 56, 57, 58, 59, 60, 61, 62, 63, 64, 65, 66] (by decide +kernel) (by decide +kernel)) (goodIn_sub (fun _ h => List.mem_cons_of_mem _ (List.mem_append_right _ h)) (by decide +kernel))
set_option maxRecDepth 20000 in
theorem gL_about_X3_about : GoodIn wsL_about (wsV RL 21 RX3 yX3_about wsX3_about) := goodIn_app (goodIn_of _ (by decide +kernel)) ggL_about_X3_about
theorem dL_about_0 : decode cL_about 0 = .ok (.aload_n 2, 1) := by decide +kernel
theorem dL_about_1 : decode cL_about 1 = .ok (.iconst 0, 1) := by decide +kernel
theorem dL_about_2 : decode cL_about 2 = .ok (.aload_n 0, 1) := by decide +kernel
theorem dL_about_3 : decode cL_about 3 = .ok (.iload_n 1, 1) := by decide +kernel
theorem dL_about_4 : decode cL_about 4 = .ok (.invokevirtual 21, 3) := by decide +kernel
theorem dL_about_7 : decode cL_about 7 = .ok (.i2l, 1) := by decide +kernel
theorem dL_about_8 : decode cL_about 8 = .ok (.lastore, 1) := by decide +kernel
theorem dL_about_9 : decode cL_about 9 = .ok (.goto 6, 3) := by decide +kernel
theorem dL_about_12 : decode cL_about 12 = .ok (.astore_n 3, 1) := by decide +kernel
theorem dL_about_13 : decode cL_about 13 = .ok (.iconst 1, 1) := by decide +kernel
theorem dL_about_14 : decode cL_about 14 = .ok (.ireturn, 1) := by decide +kernel
theorem dL_about_15 : decode cL_about 15 = .ok (.iconst 0, 1) := by decide +kernel
theorem dL_about_16 : decode cL_about 16 = .ok (.ireturn, 1) := by decide +kernel
set_option maxRecDepth 20000 in
theorem ggL_told_X3_told : GoodIn wsL_told wsX3_told := goodIn_ca (goodIn_r _ [6, 7, 8, 9, 10, 11, 5, 12, 13, 14, 15, 16, 17, 18, 19, 20, 21, 22, 23, 24, 25, 26, 27, 28, 29, 30, 31, 32, 33, 34, 35, 36, 37, 38, 39, 40, 41, 42, 43, 44, 45, 46] (by decide +kernel) (by decide +kernel)) (goodIn_sub (fun _ h => List.mem_cons_of_mem _ (List.mem_append_right _ h)) (by decide +kernel))
set_option maxRecDepth 20000 in
theorem gL_told_X3_told : GoodIn wsL_told (wsV RL 24 RX3 yX3_told wsX3_told) := goodIn_app (goodIn_of _ (by decide +kernel)) ggL_told_X3_told
theorem dL_told_0 : decode cL_told 0 = .ok (.aload_n 3, 1) := by decide +kernel
theorem dL_told_1 : decode cL_told 1 = .ok (.iconst 0, 1) := by decide +kernel
theorem dL_told_2 : decode cL_told 2 = .ok (.aload_n 0, 1) := by decide +kernel
theorem dL_told_3 : decode cL_told 3 = .ok (.iload_n 1, 1) := by decide +kernel
theorem dL_told_4 : decode cL_told 4 = .ok (.iload_n 2, 1) := by decide +kernel
theorem dL_told_5 : decode cL_told 5 = .ok (.invokevirtual 24, 3) := by decide +kernel
theorem dL_told_8 : decode cL_told 8 = .ok (.i2l, 1) := by decide +kernel
theorem dL_told_9 : decode cL_told 9 = .ok (.lastore, 1) := by decide +kernel
theorem dL_told_10 : decode cL_told 10 = .ok (.goto 7, 3) := by decide +kernel
theorem dL_told_13 : decode cL_told 13 = .ok (.astore 4, 2) := by decide +kernel
theorem dL_told_15 : decode cL_told 15 = .ok (.iconst 1, 1) := by decide +kernel
theorem dL_told_16 : decode cL_told 16 = .ok (.ireturn, 1) := by decide +kernel
theorem dL_told_17 : decode cL_told 17 = .ok (.iconst 0, 1) := by decide +kernel
theorem dL_told_18 : decode cL_told 18 = .ok (.ireturn, 1) := by decide +kernel
set_option maxRecDepth 20000 in
theorem ggL_bridge_X3_bridge : GoodIn wsL_bridge wsX3_bridge := goodIn_ca (goodIn_r _ [6, 7, 8, 9, 10, 11, 5, 12, 13, 14, 15, 16, 17, 18, 19, 20, 21, 22, 23, 24, 25, 26, 27, 28, 29, 30, 31, 32, 33, 34, 35, 36, 37, 38, 39, 40, 41, 42, 43, 44, 45, 46, 47, 48, 49, 50, 51, 52, 53, 54, 55, 56, 57, 58, 59, 60, 61, 62, 63, 64, 65, 66, 67, 68, 69, 70, 71, 72] (by decide +kernel) (by decide +kernel)) (goodIn_sub (fun _ h => List.mem_cons_of_mem _ (List.mem_append_right _ h)) (by decide +kernel))
set_option maxRecDepth 20000 in
theorem gL_bridge_X3_bridge : GoodIn wsL_bridge (wsV RL 28 RX3 yX3_bridge wsX3_bridge) := goodIn_app (goodIn_of _ (by decide +kernel)) ggL_bridge_X3_bridge
theorem dL_bridge_0 : decode cL_bridge 0 = .ok (.aload_n 2, 1) := by decide +kernel
theorem dL_bridge_1 : decode cL_bridge 1 = .ok (.iconst 0, 1) := by decide +kernel
theorem dL_bridge_2 : decode cL_bridge 2 = .ok (.aload_n 0, 1) := by decide +kernel
theorem dL_bridge_3 : decode cL_bridge 3 = .ok (.iload_n 1, 1) := by decide +kernel
theorem dL_bridge_4 : decode cL_bridge 4 = .ok (.invokevirtual 28, 3) := by decide +kernel
theorem dL_bridge_7 : decode cL_bridge 7 = .ok (.i2l, 1) := by decide +kernel
theorem dL_bridge_8 : decode cL_bridge 8 = .ok (.lastore, 1) := by decide +kernel
theorem dL_bridge_9 : decode cL_bridge 9 = .ok (.goto 6, 3) := by decide +kernel
theorem dL_bridge_12 : decode cL_bridge 12 = .ok (.astore_n 3, 1) := by decide +kernel
theorem dL_bridge_13 : decode cL_bridge 13 = .ok (.iconst 1, 1) := by decide +kernel
theorem dL_bridge_14 : decode cL_bridge 14 = .ok (.ireturn, 1) := by decide +kernel
theorem dL_bridge_15 : decode cL_bridge 15 = .ok (.iconst 0, 1) := by decide +kernel
theorem dL_bridge_16 : decode cL_bridge 16 = .ok (.ireturn, 1) := by decide +kernel
set_option maxRecDepth 20000 in
theorem ggL_press_X3_press : GoodIn wsL_press wsX3_press := goodIn_ca (goodIn_r _ [6, 7, 8, 9, 10, 11, 12, 5, 13, 14, 15, 16, 17, 18, 19, 20, 21, 22, 23, 24, 25, 26, 27, 28, 29, 30, 31, 32, 33, 34, 35, 36, 37, 38, 39, 40, 41, 42, 43, 44, 45, 46, 47, 48, 49, 50, 51, 52, 53, 54, 55, 56, 57, 58, 59, 60, 61, 62, 63, 64, 65, 66, 67, 68, 69, 70, 71, 72, 73, 74, 75, 76, 77, 78, 79, 80, 81, 82, 83, 84, 85, 86, 87, 88, 89, 90, 91, 92, 93, 94, 95, 96, 97, 98, 99, 100, 101, 102, 103, 104, 105, 106, 107, 108, 109, 110, 111, 112, 113, 114, 115, 116, 117, 118] (by decide +kernel) (by decide +kernel)) (goodIn_sub (fun _ h => List.mem_cons_of_mem _ (List.mem_append_right _ h)) (by decide +kernel))
set_option maxRecDepth 20000 in
theorem gL_press_X3_press : GoodIn wsL_press (wsV RL 31 RX3 yX3_press wsX3_press) := goodIn_app (goodIn_of _ (by decide +kernel)) ggL_press_X3_press
theorem dL_press_0 : decode cL_press 0 = .ok (.aload_n 2, 1) := by decide +kernel
theorem dL_press_1 : decode cL_press 1 = .ok (.iconst 0, 1) := by decide +kernel
theorem dL_press_2 : decode cL_press 2 = .ok (.aload_n 0, 1) := by decide +kernel
theorem dL_press_3 : decode cL_press 3 = .ok (.iload_n 1, 1) := by decide +kernel
theorem dL_press_4 : decode cL_press 4 = .ok (.invokevirtual 31, 3) := by decide +kernel
theorem dL_press_7 : decode cL_press 7 = .ok (.i2l, 1) := by decide +kernel
theorem dL_press_8 : decode cL_press 8 = .ok (.lastore, 1) := by decide +kernel
theorem dL_press_9 : decode cL_press 9 = .ok (.goto 6, 3) := by decide +kernel
theorem dL_press_12 : decode cL_press 12 = .ok (.astore_n 3, 1) := by decide +kernel
theorem dL_press_13 : decode cL_press 13 = .ok (.iconst 1, 1) := by decide +kernel
theorem dL_press_14 : decode cL_press 14 = .ok (.ireturn, 1) := by decide +kernel
theorem dL_press_15 : decode cL_press 15 = .ok (.iconst 0, 1) := by decide +kernel
theorem dL_press_16 : decode cL_press 16 = .ok (.ireturn, 1) := by decide +kernel
set_option maxRecDepth 20000 in
theorem ggL_pair_X3_pair : GoodIn wsL_pair wsX3_pair := goodIn_ca (goodIn_r _ [6, 7, 8, 9, 10, 11, 12, 5, 13, 14, 15, 16, 17, 18, 19, 20, 21, 22, 23, 24, 25, 26, 27, 28, 29, 30, 31, 32, 33, 34, 35, 36, 37, 38, 39, 40, 41, 42, 43, 44, 45, 46, 47, 48, 49, 50, 51, 52, 53, 54, 55, 56, 57, 58, 59, 60, 61, 62, 63, 64, 65, 66, 67, 68, 69, 70, 71, 72, 73, 74, 75, 76, 77, 78, 79, 80, 81, 82, 83, 84, 85, 86, 87, 88, 89, 90, 91, 92, 93, 94, 95, 96, 97, 98, 99, 100, 101, 102, 103, 104, 105, 106, 107, 108, 109, 110, 111, 112, 113, 114, 115, 116, 117, 118, 119, 120, 121, 122] (by decide +kernel) (by decide +kernel)) (goodIn_sub (fun _ h => List.mem_cons_of_mem _ (List.mem_append_right _ h)) (by decide +kernel))
set_option maxRecDepth 20000 in
theorem gL_pair_X3_pair : GoodIn wsL_pair (wsV RL 35 RX3 yX3_pair wsX3_pair) := goodIn_app (goodIn_of _ (by decide +kernel)) ggL_pair_X3_pair
theorem dL_pair_0 : decode cL_pair 0 = .ok (.aload_n 1, 1) := by decide +kernel
theorem dL_pair_1 : decode cL_pair 1 = .ok (.iconst 0, 1) := by decide +kernel
theorem dL_pair_2 : decode cL_pair 2 = .ok (.aload_n 0, 1) := by decide +kernel
theorem dL_pair_3 : decode cL_pair 3 = .ok (.invokevirtual 35, 3) := by decide +kernel
theorem dL_pair_6 : decode cL_pair 6 = .ok (.i2l, 1) := by decide +kernel
theorem dL_pair_7 : decode cL_pair 7 = .ok (.lastore, 1) := by decide +kernel
theorem dL_pair_8 : decode cL_pair 8 = .ok (.goto 6, 3) := by decide +kernel
theorem dL_pair_11 : decode cL_pair 11 = .ok (.astore_n 2, 1) := by decide +kernel
theorem dL_pair_12 : decode cL_pair 12 = .ok (.iconst 1, 1) := by decide +kernel
theorem dL_pair_13 : decode cL_pair 13 = .ok (.ireturn, 1) := by decide +kernel
theorem dL_pair_14 : decode cL_pair 14 = .ok (.iconst 0, 1) := by decide +kernel
theorem dL_pair_15 : decode cL_pair 15 = .ok (.ireturn, 1) := by decide +kernel
set_option maxRecDepth 20000 in
theorem ggL_pause_X3_pause : GoodIn wsL_pause wsX3_pause := goodIn_ca (goodIn_r _ [6, 7, 8, 9, 10, 11, 5, 12, 13, 14, 15, 16, 17, 18, 19, 20, 21, 22, 23, 24, 25, 26, 27, 28, 29, 30, 31, 32, 33, 34, 35, 36, 37, 38, 39, 40, 41, 42, 43, 44, 45, 46, 47, 48, 49, 50, 51, 52, 53, 54, 55, 56, 57, 58, 59, 60, 61, 62, 63, 64, 65, 66, 67, 68, 69, 70, 71, 72, 73, 74, 75, 76, 77, 78, 79, 80, 81, 82, 83, 84, 85, 86, 87, 88, 89, 90, 91, 92, 93, 94, 95, 96] (by decide +kernel) (by decide +kernel)) (goodIn_sub (fun _ h => List.mem_cons_of_mem _ (List.mem_append_right _ h)) (by decide +kernel))
set_option maxRecDepth 20000 in
theorem gL_pause_X3_pause : GoodIn wsL_pause (wsV RL 38 RX3 yX3_pause wsX3_pause) := goodIn_app (goodIn_of _ (by decide +kernel)) ggL_pause_X3_pause
theorem dL_pause_0 : decode cL_pause 0 = .ok (.aload_n 2, 1) := by decide +kernel
theorem dL_pause_1 : decode cL_pause 1 = .ok (.iconst 0, 1) := by decide +kernel
theorem dL_pause_2 : decode cL_pause 2 = .ok (.aload_n 0, 1) := by decide +kernel
theorem dL_pause_3 : decode cL_pause 3 = .ok (.iload_n 1, 1) := by decide +kernel
theorem dL_pause_4 : decode cL_pause 4 = .ok (.invokevirtual 38, 3) := by decide +kernel
theorem dL_pause_7 : decode cL_pause 7 = .ok (.i2l, 1) := by decide +kernel
theorem dL_pause_8 : decode cL_pause 8 = .ok (.lastore, 1) := by decide +kernel
theorem dL_pause_9 : decode cL_pause 9 = .ok (.goto 6, 3) := by decide +kernel
theorem dL_pause_12 : decode cL_pause 12 = .ok (.astore_n 3, 1) := by decide +kernel
theorem dL_pause_13 : decode cL_pause 13 = .ok (.iconst 1, 1) := by decide +kernel
theorem dL_pause_14 : decode cL_pause 14 = .ok (.ireturn, 1) := by decide +kernel
theorem dL_pause_15 : decode cL_pause 15 = .ok (.iconst 0, 1) := by decide +kernel
theorem dL_pause_16 : decode cL_pause 16 = .ok (.ireturn, 1) := by decide +kernel
set_option maxRecDepth 20000 in
theorem ggL_set_X3_set : GoodIn wsL_set wsX3_set := goodIn_ca (goodIn_r _ [6, 7, 8, 9, 10, 11, 12, 13, 14, 15, 5, 16, 17, 18, 19, 20, 21, 22, 23, 24, 25, 26, 27, 28, 29, 30, 31, 32, 33, 34, 35, 36, 37, 38, 39, 40, 41, 42, 43, 44, 45, 46, 47, 48, 49, 50, 51, 52, 53, 54, 55, 56, 57, 58, 59, 60, 61, 62, 63, 64, 65, 66, 67, 68, 69, 70, 71, 72, 73, 74, 75, 76, 77, 78, 79, 80, 81, 82, 83, 84, 85, 86, 87, 88, 89, 90, 91, 92, 93] (by decide +kernel) (by decide +kernel)) (goodIn_sub (fun _ h => List.mem_cons_of_mem _ (List.mem_append_right _ h)) (by decide +kernel))
set_option maxRecDepth 20000 in
theorem gL_set_X3_set : GoodIn wsL_set (wsV RL 41 RX3 yX3_set wsX3_set) := goodIn_app (goodIn_of _ (by decide +kernel)) ggL_set_X3_set
theorem dL_set_0 : decode cL_set 0 = .ok (.aload_n 3, 1) := by decide +kernel
theorem dL_set_1 : decode cL_set 1 = .ok (.iconst 0, 1) := by decide +kernel
theorem dL_set_2 : decode cL_set 2 = .ok (.aload_n 0, 1) := by decide +kernel
theorem dL_set_3 : decode cL_set 3 = .ok (.iload_n 1, 1) := by decide +kernel
theorem dL_set_4 : decode cL_set 4 = .ok (.iload_n 2, 1) := by decide +kernel
theorem dL_set_5 : decode cL_set 5 = .ok (.invokevirtual 41, 3) := by decide +kernel
theorem dL_set_8 : decode cL_set 8 = .ok (.i2l, 1) := by decide +kernel
theorem dL_set_9 : decode cL_set 9 = .ok (.lastore, 1) := by decide +kernel
theorem dL_set_10 : decode cL_set 10 = .ok (.goto 7, 3) := by decide +kernel
theorem dL_set_13 : decode cL_set 13 = .ok (.astore 4, 2) := by decide +kernel
theorem dL_set_15 : decode cL_set 15 = .ok (.iconst 1, 1) := by decide +kernel
theorem dL_set_16 : decode cL_set 16 = .ok (.ireturn, 1) := by decide +kernel
theorem dL_set_17 : decode cL_set 17 = .ok (.iconst 0, 1) := by decide +kernel
theorem dL_set_18 : decode cL_set 18 = .ok (.ireturn, 1) := by decide +kernel
set_option maxRecDepth 20000 in
theorem ggL_choose_X3_choose : GoodIn wsL_choose wsX3_choose := goodIn_ca (goodIn_r _ [6, 7, 8, 9, 10, 11, 12, 13, 14, 15, 16, 17, 5, 18, 19, 20, 21, 22, 23, 24, 25, 26, 27, 28, 29, 30, 31, 32, 33, 34, 35, 36, 37, 38, 39, 40, 41, 42, 43, 44, 45, 46, 47, 48, 49, 50, 51, 52, 53, 54, 55, 56, 57, 58, 59, 60, 61, 62, 63, 64, 65, 66, 67, 68, 69, 70, 71, 72, 73, 74, 75, 76, 77, 78, 79, 80] (by decide +kernel) (by decide +kernel)) (goodIn_sub (fun _ h => List.mem_cons_of_mem _ (List.mem_append_right _ h)) (by decide +kernel))
set_option maxRecDepth 20000 in
theorem gL_choose_X3_choose : GoodIn wsL_choose (wsV RL 44 RX3 yX3_choose wsX3_choose) := goodIn_app (goodIn_of _ (by decide +kernel)) ggL_choose_X3_choose
theorem dL_choose_0 : decode cL_choose 0 = .ok (.aload_n 2, 1) := by decide +kernel
theorem dL_choose_1 : decode cL_choose 1 = .ok (.iconst 0, 1) := by decide +kernel
theorem dL_choose_2 : decode cL_choose 2 = .ok (.aload_n 0, 1) := by decide +kernel
theorem dL_choose_3 : decode cL_choose 3 = .ok (.iload_n 1, 1) := by decide +kernel
theorem dL_choose_4 : decode cL_choose 4 = .ok (.invokevirtual 44, 3) := by decide +kernel
theorem dL_choose_7 : decode cL_choose 7 = .ok (.i2l, 1) := by decide +kernel
theorem dL_choose_8 : decode cL_choose 8 = .ok (.lastore, 1) := by decide +kernel
theorem dL_choose_9 : decode cL_choose 9 = .ok (.goto 6, 3) := by decide +kernel
theorem dL_choose_12 : decode cL_choose 12 = .ok (.astore_n 3, 1) := by decide +kernel
theorem dL_choose_13 : decode cL_choose 13 = .ok (.iconst 1, 1) := by decide +kernel
theorem dL_choose_14 : decode cL_choose 14 = .ok (.ireturn, 1) := by decide +kernel
theorem dL_choose_15 : decode cL_choose 15 = .ok (.iconst 0, 1) := by decide +kernel
theorem dL_choose_16 : decode cL_choose 16 = .ok (.ireturn, 1) := by decide +kernel
set_option maxRecDepth 20000 in
theorem ggL_add_X3_add : GoodIn wsL_add wsX3_add := goodIn_ca (goodIn_ca (goodIn_r _ [7, 8, 9, 10, 11, 12, 13, 14, 6, 15, 16, 17, 18, 19, 20, 21, 22, 23, 24, 25, 26, 27, 28, 29, 30, 31, 32, 33, 34, 35, 36, 37, 38, 39, 40, 41, 42, 43, 44, 45, 46, 47, 48, 49, 50, 51, 52, 53, 54, 55, 56, 57, 58, 59, 60, 61, 62, 63, 64, 65, 66, 67, 68, 69, 70, 71, 72, 73, 74, 75, 76, 77, 78, 79, 80, 81, 82, 83, 84, 85, 86] (by decide +kernel) (by decide +kernel)) (goodIn_sub (fun _ h => List.mem_cons_of_mem _ (List.mem_append_left _ (List.mem_append_right _ h))) (by decide +kernel))) (goodIn_sub (fun _ h => List.mem_cons_of_mem _ (List.mem_append_right _ h)) (by decide +kernel))
set_option maxRecDepth 20000 in
theorem gL_add_X3_add : GoodIn wsL_add (wsV RL 49 RX3 yX3_add wsX3_add) := goodIn_app (goodIn_of _ (by decide +kernel)) ggL_add_X3_add
theorem dL_add_0 : decode cL_add 0 = .ok (.aload_n 2, 1) := by decide +kernel
theorem dL_add_1 : decode cL_add 1 = .ok (.iconst 0, 1) := by decide +kernel
theorem dL_add_2 : decode cL_add 2 = .ok (.aload_n 0, 1) := by decide +kernel
theorem dL_add_3 : decode cL_add 3 = .ok (.iload_n 1, 1) := by decide +kernel
theorem dL_add_4 : decode cL_add 4 = .ok (.invokevirtual 49, 3) := by decide +kernel
theorem dL_add_7 : decode cL_add 7 = .ok (.i2l, 1) := by decide +kernel
theorem dL_add_8 : decode cL_add 8 = .ok (.lastore, 1) := by decide +kernel
theorem dL_add_9 : decode cL_add 9 = .ok (.goto 9, 3) := by decide +kernel
theorem dL_add_12 : decode cL_add 12 = .ok (.astore_n 3, 1) := by decide +kernel
theorem dL_add_13 : decode cL_add 13 = .ok (.iconst 1, 1) := by decide +kernel
theorem dL_add_14 : decode cL_add 14 = .ok (.ireturn, 1) := by decide +kernel
theorem dL_add_15 : decode cL_add 15 = .ok (.astore_n 3, 1) := by decide +kernel
theorem dL_add_16 : decode cL_add 16 = .ok (.iconst 2, 1) := by decide +kernel
theorem dL_add_17 : decode cL_add 17 = .ok (.ireturn, 1) := by decide +kernel
theorem dL_add_18 : decode cL_add 18 = .ok (.iconst 0, 1) := by decide +kernel
theorem dL_add_19 : decode cL_add 19 = .ok (.ireturn, 1) := by decide +kernel
set_option maxRecDepth 20000 in
theorem ggL_balance_X3_balance : GoodIn wsL_balance wsX3_balance := goodIn_ca (goodIn_r _ [6, 7, 8, 9, 10, 11, 12, 5, 13, 14, 15, 16, 17, 18, 19, 20, 21, 22, 23, 24, 25, 26, 27, 28, 29, 30, 31, 32, 33, 34, 35, 36, 37, 38, 39, 40, 41, 42, 43, 44, 45, 46, 47, 48, 49, 50, 51, 52, 53, 54, 55, 56, 57, 58, 59, 60, 61, 62, 63, 64, 65, 66, 67, 68, 69, 70, 71, 72, 73, 74, 75, 76, 77, 78, 79, 80, 81, 82, 83, 84, 85, 86, 87, 88, 89, 90, 91, 92, 93, 94, 95, 96, 97, 98, 99, 100, 101, 102, 103, 104, 105, 106, 107, 108, 109, 110, 111, 112, 113, 114, 115, 116, 117, 118, 119, 120, 121, 122, 123, 124, 125, 126] (by decide +kernel) (by decide +kernel)) (goodIn_sub (fun _ h => List.mem_cons_of_mem _ (List.mem_append_right _ h)) (by decide +kernel))
set_option maxRecDepth 20000 in
theorem gL_balance_X3_balance : GoodIn wsL_balance (wsV RL 52 RX3 yX3_balance wsX3_balance) := goodIn_app (goodIn_of _ (by decide +kernel)) ggL_balance_X3_balance
theorem dL_balance_0 : decode cL_balance 0 = .ok (.aload_n 1, 1) := by decide +kernel
theorem dL_balance_1 : decode cL_balance 1 = .ok (.iconst 0, 1) := by decide +kernel
theorem dL_balance_2 : decode cL_balance 2 = .ok (.aload_n 0, 1) := by decide +kernel
theorem dL_balance_3 : decode cL_balance 3 = .ok (.invokevirtual 52, 3) := by decide +kernel
theorem dL_balance_6 : decode cL_balance 6 = .ok (.i2l, 1) := by decide +kernel
theorem dL_balance_7 : decode cL_balance 7 = .ok (.lastore, 1) := by decide +kernel
theorem dL_balance_8 : decode cL_balance 8 = .ok (.goto 6, 3) := by decide +kernel
theorem dL_balance_11 : decode cL_balance 11 = .ok (.astore_n 2, 1) := by decide +kernel
theorem dL_balance_12 : decode cL_balance 12 = .ok (.iconst 1, 1) := by decide +kernel
theorem dL_balance_13 : decode cL_balance 13 = .ok (.ireturn, 1) := by decide +kernel
theorem dL_balance_14 : decode cL_balance 14 = .ok (.iconst 0, 1) := by decide +kernel
theorem dL_balance_15 : decode cL_balance 15 = .ok (.ireturn, 1) := by decide +kernel
set_option maxRecDepth 20000 in
theorem ggL_undo_X3_undo : GoodIn wsL_undo wsX3_undo := goodIn_ca (goodIn_r _ [6, 7, 8, 9, 10, 11, 12, 13, 14, 5, 15, 16, 17, 18, 19, 20, 21, 22, 23, 24, 25, 26, 27, 28, 29, 30, 31, 32, 33, 34, 35, 36, 37, 38, 39, 40, 41, 42, 43, 44, 45, 46, 47, 48, 49, 50, 51, 52, 53, 54, 55, 56, 57, 58, 59, 60, 61, 62, 63, 64, 65, 66, 67, 68, 69] (by decide +kernel) (by decide +kernel)) (goodIn_sub (fun _ h => List.mem_cons_of_mem _ (List.mem_append_right _ h)) (by decide +kernel))
set_option maxRecDepth 20000 in
theorem gL_undo_X3_undo : GoodIn wsL_undo (wsV RL 55 RX3 yX3_undo wsX3_undo) := goodIn_app (goodIn_of _ (by decide +kernel)) ggL_undo_X3_undo
theorem dL_undo_0 : decode cL_undo 0 = .ok (.aload_n 1, 1) := by decide +kernel
theorem dL_undo_1 : decode cL_undo 1 = .ok (.iconst 0, 1) := by decide +kernel
theorem dL_undo_2 : decode cL_undo 2 = .ok (.aload_n 0, 1) := by decide +kernel
theorem dL_undo_3 : decode cL_undo 3 = .ok (.invokevirtual 55, 3) := by decide +kernel
theorem dL_undo_6 : decode cL_undo 6 = .ok (.i2l, 1) := by decide +kernel
theorem dL_undo_7 : decode cL_undo 7 = .ok (.lastore, 1) := by decide +kernel
theorem dL_undo_8 : decode cL_undo 8 = .ok (.goto 6, 3) := by decide +kernel
theorem dL_undo_11 : decode cL_undo 11 = .ok (.astore_n 2, 1) := by decide +kernel
theorem dL_undo_12 : decode cL_undo 12 = .ok (.iconst 1, 1) := by decide +kernel
theorem dL_undo_13 : decode cL_undo 13 = .ok (.ireturn, 1) := by decide +kernel
theorem dL_undo_14 : decode cL_undo 14 = .ok (.iconst 0, 1) := by decide +kernel
theorem dL_undo_15 : decode cL_undo 15 = .ok (.ireturn, 1) := by decide +kernel
set_option maxRecDepth 20000 in
theorem ggL_value_X3_value : GoodIn wsL_value wsX3_value := goodIn_ca (goodIn_r _ [6, 7, 8, 9, 10, 11, 5, 12, 13, 14, 15, 16, 17, 18, 19, 20, 21, 22, 23, 24, 25, 26, 27, 28, 29, 30, 31, 32, 33, 34, 35, 36, 37, 38, 39, 40, 41, 42] (by decide +kernel) (by decide +kernel)) (goodIn_sub (fun _ h => List.mem_cons_of_mem _ (List.mem_append_right _ h)) (by decide +kernel))
set_option maxRecDepth 20000 in
theorem gL_value_X3_value : GoodIn wsL_value (wsV RL 58 RX3 yX3_value wsX3_value) := goodIn_app (goodIn_of _ (by decide +kernel)) ggL_value_X3_value
theorem dL_value_0 : decode cL_value 0 = .ok (.aload_n 2, 1) := by decide +kernel
theorem dL_value_1 : decode cL_value 1 = .ok (.iconst 0, 1) := by decide +kernel
theorem dL_value_2 : decode cL_value 2 = .ok (.aload_n 0, 1) := by decide +kernel
theorem dL_value_3 : decode cL_value 3 = .ok (.iload_n 1, 1) := by decide +kernel
theorem dL_value_4 : decode cL_value 4 = .ok (.invokevirtual 58, 3) := by decide +kernel
theorem dL_value_7 : decode cL_value 7 = .ok (.i2l, 1) := by decide +kernel
theorem dL_value_8 : decode cL_value 8 = .ok (.lastore, 1) := by decide +kernel
theorem dL_value_9 : decode cL_value 9 = .ok (.goto 6, 3) := by decide +kernel
theorem dL_value_12 : decode cL_value 12 = .ok (.astore_n 3, 1) := by decide +kernel
theorem dL_value_13 : decode cL_value 13 = .ok (.iconst 1, 1) := by decide +kernel
theorem dL_value_14 : decode cL_value 14 = .ok (.ireturn, 1) := by decide +kernel
theorem dL_value_15 : decode cL_value 15 = .ok (.iconst 0, 1) := by decide +kernel
theorem dL_value_16 : decode cL_value 16 = .ok (.ireturn, 1) := by decide +kernel
set_option maxRecDepth 20000 in
theorem ggL_bestR_X3_bestR : GoodIn wsL_bestR wsX3_bestR := goodIn_ca (goodIn_r _ [6, 7, 8, 9, 10, 11, 12, 13, 14, 15, 16, 17, 18, 19, 20, 21, 22, 23, 5, 24, 25, 26, 27, 28, 29, 30, 31, 32, 33, 34, 35, 36, 37, 38, 39, 40, 41, 42, 43, 44, 45, 46, 47, 48, 49, 50, 51, 52, 53, 54, 55] (by decide +kernel) (by decide +kernel)) (goodIn_sub (fun _ h => List.mem_cons_of_mem _ (List.mem_append_right _ h)) (by decide +kernel))
set_option maxRecDepth 20000 in
theorem gL_bestR_X3_bestR : GoodIn wsL_bestR (wsV RL 61 RX3 yX3_bestR wsX3_bestR) := goodIn_app (goodIn_of _ (by decide +kernel)) ggL_bestR_X3_bestR
theorem dL_bestR_0 : decode cL_bestR 0 = .ok (.aload_n 2, 1) := by decide +kernel
theorem dL_bestR_1 : decode cL_bestR 1 = .ok (.iconst 0, 1) := by decide +kernel
theorem dL_bestR_2 : decode cL_bestR 2 = .ok (.aload_n 0, 1) := by decide +kernel
theorem dL_bestR_3 : decode cL_bestR 3 = .ok (.iload_n 1, 1) := by decide +kernel
theorem dL_bestR_4 : decode cL_bestR 4 = .ok (.invokevirtual 61, 3) := by decide +kernel
theorem dL_bestR_7 : decode cL_bestR 7 = .ok (.i2l, 1) := by decide +kernel
theorem dL_bestR_8 : decode cL_bestR 8 = .ok (.lastore, 1) := by decide +kernel
theorem dL_bestR_9 : decode cL_bestR 9 = .ok (.goto 6, 3) := by decide +kernel
theorem dL_bestR_12 : decode cL_bestR 12 = .ok (.astore_n 3, 1) := by decide +kernel
theorem dL_bestR_13 : decode cL_bestR 13 = .ok (.iconst 1, 1) := by decide +kernel
theorem dL_bestR_14 : decode cL_bestR 14 = .ok (.ireturn, 1) := by decide +kernel
theorem dL_bestR_15 : decode cL_bestR 15 = .ok (.iconst 0, 1) := by decide +kernel
theorem dL_bestR_16 : decode cL_bestR 16 = .ok (.ireturn, 1) := by decide +kernel
set_option maxRecDepth 20000 in
theorem ggL_bestArms_X3_bestArms : GoodIn wsL_bestArms wsX3_bestArms := goodIn_ca (goodIn_r _ [6, 7, 8, 9, 10, 11, 12, 13, 14, 15, 16, 17, 18, 19, 20, 5, 21, 22, 23, 24, 25, 26, 27, 28, 29, 30, 31, 32, 33, 34, 35, 36, 37, 38, 39, 40, 41, 42, 43, 44, 45] (by decide +kernel) (by decide +kernel)) (goodIn_sub (fun _ h => List.mem_cons_of_mem _ (List.mem_append_right _ h)) (by decide +kernel))
set_option maxRecDepth 20000 in
theorem gL_bestArms_X3_bestArms : GoodIn wsL_bestArms (wsV RL 64 RX3 yX3_bestArms wsX3_bestArms) := goodIn_app (goodIn_of _ (by decide +kernel)) ggL_bestArms_X3_bestArms
theorem dL_bestArms_0 : decode cL_bestArms 0 = .ok (.aload_n 2, 1) := by decide +kernel
theorem dL_bestArms_1 : decode cL_bestArms 1 = .ok (.iconst 0, 1) := by decide +kernel
theorem dL_bestArms_2 : decode cL_bestArms 2 = .ok (.aload_n 0, 1) := by decide +kernel
theorem dL_bestArms_3 : decode cL_bestArms 3 = .ok (.iload_n 1, 1) := by decide +kernel
theorem dL_bestArms_4 : decode cL_bestArms 4 = .ok (.invokevirtual 64, 3) := by decide +kernel
theorem dL_bestArms_7 : decode cL_bestArms 7 = .ok (.i2l, 1) := by decide +kernel
theorem dL_bestArms_8 : decode cL_bestArms 8 = .ok (.lastore, 1) := by decide +kernel
theorem dL_bestArms_9 : decode cL_bestArms 9 = .ok (.goto 6, 3) := by decide +kernel
theorem dL_bestArms_12 : decode cL_bestArms 12 = .ok (.astore_n 3, 1) := by decide +kernel
theorem dL_bestArms_13 : decode cL_bestArms 13 = .ok (.iconst 1, 1) := by decide +kernel
theorem dL_bestArms_14 : decode cL_bestArms 14 = .ok (.ireturn, 1) := by decide +kernel
theorem dL_bestArms_15 : decode cL_bestArms 15 = .ok (.iconst 0, 1) := by decide +kernel
theorem dL_bestArms_16 : decode cL_bestArms 16 = .ok (.ireturn, 1) := by decide +kernel
set_option maxRecDepth 20000 in
theorem ggL_offsetAfter_X3_offsetAfter : GoodIn wsL_offsetAfter wsX3_offsetAfter := goodIn_ca (goodIn_r _ [6, 7, 8, 9, 10, 11, 5, 12, 13, 14, 15, 16, 17, 18, 19, 20, 21, 22, 23, 24, 25, 26, 27, 28, 29, 30, 31, 32, 33, 34, 35, 36, 37, 38, 39, 40, 41, 42, 43, 44, 45, 46, 47, 48, 49, 50, 51, 52, 53] (by decide +kernel) (by decide +kernel)) (goodIn_sub (fun _ h => List.mem_cons_of_mem _ (List.mem_append_right _ h)) (by decide +kernel))
set_option maxRecDepth 20000 in
theorem gL_offsetAfter_X3_offsetAfter : GoodIn wsL_offsetAfter (wsV RL 67 RX3 yX3_offsetAfter wsX3_offsetAfter) := goodIn_app (goodIn_of _ (by decide +kernel)) ggL_offsetAfter_X3_offsetAfter
theorem dL_offsetAfter_0 : decode cL_offsetAfter 0 = .ok (.aload_n 3, 1) := by decide +kernel
theorem dL_offsetAfter_1 : decode cL_offsetAfter 1 = .ok (.iconst 0, 1) := by decide +kernel
theorem dL_offsetAfter_2 : decode cL_offsetAfter 2 = .ok (.aload_n 0, 1) := by decide +kernel
theorem dL_offsetAfter_3 : decode cL_offsetAfter 3 = .ok (.iload_n 1, 1) := by decide +kernel
theorem dL_offsetAfter_4 : decode cL_offsetAfter 4 = .ok (.iload_n 2, 1) := by decide +kernel
theorem dL_offsetAfter_5 : decode cL_offsetAfter 5 = .ok (.invokevirtual 67, 3) := by decide +kernel
theorem dL_offsetAfter_8 : decode cL_offsetAfter 8 = .ok (.i2l, 1) := by decide +kernel
theorem dL_offsetAfter_9 : decode cL_offsetAfter 9 = .ok (.lastore, 1) := by decide +kernel
theorem dL_offsetAfter_10 : decode cL_offsetAfter 10 = .ok (.goto 7, 3) := by decide +kernel
theorem dL_offsetAfter_13 : decode cL_offsetAfter 13 = .ok (.astore 4, 2) := by decide +kernel
theorem dL_offsetAfter_15 : decode cL_offsetAfter 15 = .ok (.iconst 1, 1) := by decide +kernel
theorem dL_offsetAfter_16 : decode cL_offsetAfter 16 = .ok (.ireturn, 1) := by decide +kernel
theorem dL_offsetAfter_17 : decode cL_offsetAfter 17 = .ok (.iconst 0, 1) := by decide +kernel
theorem dL_offsetAfter_18 : decode cL_offsetAfter 18 = .ok (.ireturn, 1) := by decide +kernel
set_option maxRecDepth 20000 in
theorem ggL_waitFor_X3_waitFor : GoodIn wsL_waitFor wsX3_waitFor := goodIn_ca (goodIn_r _ [6, 7, 8, 9, 10, 11, 5, 12, 13, 14, 15, 16, 17, 18, 19, 20, 21, 22, 23, 24, 25, 26, 27, 28, 29, 30, 31, 32, 33, 34, 35, 36, 37, 38, 39, 40, 41, 42, 43, 44, 45, 46, 47, 48] (by decide +kernel) (by decide +kernel)) (goodIn_sub (fun _ h => List.mem_cons_of_mem _ (List.mem_append_right _ h)) (by decide +kernel))
set_option maxRecDepth 20000 in
theorem gL_waitFor_X3_waitFor : GoodIn wsL_waitFor (wsV RL 70 RX3 yX3_waitFor wsX3_waitFor) := goodIn_app (goodIn_of _ (by decide +kernel)) ggL_waitFor_X3_waitFor
theorem dL_waitFor_0 : decode cL_waitFor 0 = .ok (.aload_n 2, 1) := by decide +kernel
theorem dL_waitFor_1 : decode cL_waitFor 1 = .ok (.iconst 0, 1) := by decide +kernel
theorem dL_waitFor_2 : decode cL_waitFor 2 = .ok (.aload_n 0, 1) := by decide +kernel
theorem dL_waitFor_3 : decode cL_waitFor 3 = .ok (.iload_n 1, 1) := by decide +kernel
theorem dL_waitFor_4 : decode cL_waitFor 4 = .ok (.invokevirtual 70, 3) := by decide +kernel
theorem dL_waitFor_7 : decode cL_waitFor 7 = .ok (.i2l, 1) := by decide +kernel
theorem dL_waitFor_8 : decode cL_waitFor 8 = .ok (.lastore, 1) := by decide +kernel
theorem dL_waitFor_9 : decode cL_waitFor 9 = .ok (.goto 6, 3) := by decide +kernel
theorem dL_waitFor_12 : decode cL_waitFor 12 = .ok (.astore_n 3, 1) := by decide +kernel
theorem dL_waitFor_13 : decode cL_waitFor 13 = .ok (.iconst 1, 1) := by decide +kernel
theorem dL_waitFor_14 : decode cL_waitFor 14 = .ok (.ireturn, 1) := by decide +kernel
theorem dL_waitFor_15 : decode cL_waitFor 15 = .ok (.iconst 0, 1) := by decide +kernel
theorem dL_waitFor_16 : decode cL_waitFor 16 = .ok (.ireturn, 1) := by decide +kernel
set_option maxRecDepth 20000 in
theorem ggL_balanced_X3_balanced : GoodIn wsL_balanced wsX3_balanced := goodIn_ca (goodIn_r _ [6, 7, 8, 9, 10, 11, 12, 5, 13, 14, 15, 16, 17, 18, 19, 20, 21, 22, 23, 24, 25, 26, 27, 28, 29, 30, 31, 32, 33, 34, 35, 36, 37, 38, 39, 40, 41, 42, 43, 44, 45, 46, 47, 48, 49, 50, 51, 52, 53, 54, 55, 56, 57, 58, 59, 60, 61, 62, 63, 64, 65, 66, 67, 68, 69, 70, 71, 72, 73, 74, 75, 76, 77, 78, 79, 80, 81, 82, 83, 84, 85, 86, 87, 88, 89, 90, 91, 92, 93, 94, 95, 96, 97, 98, 99, 100, 101, 102, 103, 104, 105, 106, 107, 108, 109, 110, 111, 112, 113, 114, 115, 116, 117, 118, 119] (by decide +kernel) (by decide +kernel)) (goodIn_sub (fun _ h => List.mem_cons_of_mem _ (List.mem_append_right _ h)) (by decide +kernel))
set_option maxRecDepth 20000 in
theorem gL_balanced_X3_balanced : GoodIn wsL_balanced (wsV RL 73 RX3 yX3_balanced wsX3_balanced) := goodIn_app (goodIn_of _ (by decide +kernel)) ggL_balanced_X3_balanced
theorem dL_balanced_0 : decode cL_balanced 0 = .ok (.aload_n 2, 1) := by decide +kernel
theorem dL_balanced_1 : decode cL_balanced 1 = .ok (.iconst 0, 1) := by decide +kernel
theorem dL_balanced_2 : decode cL_balanced 2 = .ok (.aload_n 0, 1) := by decide +kernel
theorem dL_balanced_3 : decode cL_balanced 3 = .ok (.iload_n 1, 1) := by decide +kernel
theorem dL_balanced_4 : decode cL_balanced 4 = .ok (.invokevirtual 73, 3) := by decide +kernel
theorem dL_balanced_7 : decode cL_balanced 7 = .ok (.i2l, 1) := by decide +kernel
theorem dL_balanced_8 : decode cL_balanced 8 = .ok (.lastore, 1) := by decide +kernel
theorem dL_balanced_9 : decode cL_balanced 9 = .ok (.goto 6, 3) := by decide +kernel
theorem dL_balanced_12 : decode cL_balanced 12 = .ok (.astore_n 3, 1) := by decide +kernel
theorem dL_balanced_13 : decode cL_balanced 13 = .ok (.iconst 1, 1) := by decide +kernel
theorem dL_balanced_14 : decode cL_balanced 14 = .ok (.ireturn, 1) := by decide +kernel
theorem dL_balanced_15 : decode cL_balanced 15 = .ok (.iconst 0, 1) := by decide +kernel
theorem dL_balanced_16 : decode cL_balanced 16 = .ok (.ireturn, 1) := by decide +kernel
set_option maxRecDepth 20000 in
theorem ggL_runScript_X3_runScript : GoodIn wsL_runScript wsX3_runScript := goodIn_ca (goodIn_r _ [6, 7, 8, 9, 10, 11, 12, 13, 5, 14, 15, 16, 17, 18, 19, 20, 21, 22, 23, 24, 25, 26, 27, 28, 29, 30, 31, 32, 33, 34, 35, 36, 37, 38, 39, 40, 41, 42, 43, 44, 45, 46, 47, 48, 49, 50, 51, 52, 53, 54, 55, 56, 57, 58, 59, 60, 61, 62, 63, 64, 65, 66, 67, 68, 69, 70, 71, 72, 73, 74, 75, 76, 77, 78, 79, 80, 81, 82, 83, 84, 85, 86, 87, 88, 89, 90, 91, 92, 93, 94, 95, 96, 97, 98, 99, 100, 101, 102, 103, 104, 105, 106, 107, 108, 109, 110, 111, 112, 113, 114, 115, 116, 117, 118, 119, 120, 121, 122, 123, 124, 125, 126, 127, 128, 129, 130, 131, 132, 133, 134, 135, 136, 137, 138, 139, 140, 141, 142, 143, 144, 145, 146, 147, 148, 149, 150, 151, 152, 153, 154, 155, 156, 157, 158, 159, 160] (by decide +kernel) (by decide +kernel)) (goodIn_sub (fun _ h => List.mem_cons_of_mem _ (List.mem_append_right _ h)) (by decide +kernel))
set_option maxRecDepth 20000 in
theorem gL_runScript_X3_runScript : GoodIn wsL_runScript (wsV RL 76 RX3 yX3_runScript wsX3_runScript) := goodIn_app (goodIn_of _ (by decide +kernel)) ggL_runScript_X3_runScript
theorem dL_runScript_0 : decode cL_runScript 0 = .ok (.aload 4, 2) := by decide +kernel
theorem dL_runScript_2 : decode cL_runScript 2 = .ok (.iconst 0, 1) := by decide +kernel
theorem dL_runScript_3 : decode cL_runScript 3 = .ok (.aload_n 0, 1) := by decide +kernel
theorem dL_runScript_4 : decode cL_runScript 4 = .ok (.iload_n 1, 1) := by decide +kernel
theorem dL_runScript_5 : decode cL_runScript 5 = .ok (.lload_n 2, 1) := by decide +kernel
theorem dL_runScript_6 : decode cL_runScript 6 = .ok (.invokevirtual 76, 3) := by decide +kernel
theorem dL_runScript_9 : decode cL_runScript 9 = .ok (.i2l, 1) := by decide +kernel
theorem dL_runScript_10 : decode cL_runScript 10 = .ok (.lastore, 1) := by decide +kernel
theorem dL_runScript_11 : decode cL_runScript 11 = .ok (.goto 7, 3) := by decide +kernel
theorem dL_runScript_14 : decode cL_runScript 14 = .ok (.astore 5, 2) := by decide +kernel
theorem dL_runScript_16 : decode cL_runScript 16 = .ok (.iconst 1, 1) := by decide +kernel
theorem dL_runScript_17 : decode cL_runScript 17 = .ok (.ireturn, 1) := by decide +kernel
theorem dL_runScript_18 : decode cL_runScript 18 = .ok (.iconst 0, 1) := by decide +kernel
theorem dL_runScript_19 : decode cL_runScript 19 = .ok (.ireturn, 1) := by decide +kernel
set_option maxRecDepth 20000 in
theorem ggL_simulate_X3_simulate : GoodIn wsL_simulate wsX3_simulate := goodIn_ca (goodIn_r _ [6, 7, 8, 9, 10, 11, 12, 13, 14, 5, 15, 16, 17, 18, 19, 20, 21, 22, 23, 24, 25, 26, 27, 28, 29, 30, 31, 32, 33, 34, 35, 36, 37, 38, 39, 40, 41, 42, 43, 44, 45, 46, 47, 48, 49, 50, 51, 52, 53, 54, 55, 56, 57, 58, 59, 60, 61, 62, 63, 64, 65, 66, 67, 68, 69, 70, 71, 72, 73, 74, 75, 76, 77, 78, 79, 80, 81, 82, 83, 84, 85, 86, 87, 88, 89, 90, 91, 92, 93, 94, 95, 96, 97, 98, 99, 100, 101, 102, 103, 104, 105, 106, 107, 108, 109, 110, 111, 112, 113, 114, 115, 116, 117, 118, 119, 120, 121, 122, 123, 124, 125, 126, 127] (by decide +kernel) (by decide +kernel)) (goodIn_sub (fun _ h => List.mem_cons_of_mem _ (List.mem_append_right _ h)) (by decide +kernel))
set_option maxRecDepth 20000 in
theorem gL_simulate_X3_simulate : GoodIn wsL_simulate (wsV RL 80 RX3 yX3_simulate wsX3_simulate) := goodIn_app (goodIn_of _ (by decide +kernel)) ggL_simulate_X3_simulate
theorem dL_simulate_0 : decode cL_simulate 0 = .ok (.aload 4, 2) := by decide +kernel
theorem dL_simulate_2 : decode cL_simulate 2 = .ok (.iconst 0, 1) := by decide +kernel
theorem dL_simulate_3 : decode cL_simulate 3 = .ok (.aload_n 0, 1) := by decide +kernel
theorem dL_simulate_4 : decode cL_simulate 4 = .ok (.lload_n 1, 1) := by decide +kernel
theorem dL_simulate_5 : decode cL_simulate 5 = .ok (.iload_n 3, 1) := by decide +kernel
theorem dL_simulate_6 : decode cL_simulate 6 = .ok (.invokevirtual 80, 3) := by decide +kernel
theorem dL_simulate_9 : decode cL_simulate 9 = .ok (.i2l, 1) := by decide +kernel
theorem dL_simulate_10 : decode cL_simulate 10 = .ok (.lastore, 1) := by decide +kernel
theorem dL_simulate_11 : decode cL_simulate 11 = .ok (.goto 7, 3) := by decide +kernel
theorem dL_simulate_14 : decode cL_simulate 14 = .ok (.astore 5, 2) := by decide +kernel
theorem dL_simulate_16 : decode cL_simulate 16 = .ok (.iconst 1, 1) := by decide +kernel
theorem dL_simulate_17 : decode cL_simulate 17 = .ok (.ireturn, 1) := by decide +kernel
theorem dL_simulate_18 : decode cL_simulate 18 = .ok (.iconst 0, 1) := by decide +kernel
theorem dL_simulate_19 : decode cL_simulate 19 = .ok (.ireturn, 1) := by decide +kernel
set_option maxRecDepth 20000 in
theorem ggL_save_X3_save : GoodIn wsL_save wsX3_save := goodIn_ca (goodIn_r _ [6, 7, 8, 9, 10, 11, 12, 13, 5, 14, 15, 16, 17, 18, 19, 20, 21, 22, 23, 24, 25, 26, 27, 28, 29, 30, 31, 32, 33, 34, 35, 36, 37, 38, 39, 40, 41, 42, 43, 44, 45, 46, 47, 48, 49, 50, 51, 52, 53, 54, 55, 56, 57, 58, 59, 60, 61, 62, 63, 64, 65, 66, 67, 68, 69, 70, 71] (by decide +kernel) (by decide +kernel)) (goodIn_sub (fun _ h => List.mem_cons_of_mem _ (List.mem_append_right _ h)) (by decide +kernel))
set_option maxRecDepth 20000 in
theorem gL_save_X3_save : GoodIn wsL_save (wsV RL 84 RX3 yX3_save wsX3_save) := goodIn_app (goodIn_of _ (by decide +kernel)) ggL_save_X3_save
theorem dL_save_0 : decode cL_save 0 = .ok (.aload_n 2, 1) := by decide +kernel
theorem dL_save_1 : decode cL_save 1 = .ok (.iconst 0, 1) := by decide +kernel
theorem dL_save_2 : decode cL_save 2 = .ok (.aload_n 0, 1) := by decide +kernel
theorem dL_save_3 : decode cL_save 3 = .ok (.iload_n 1, 1) := by decide +kernel
theorem dL_save_4 : decode cL_save 4 = .ok (.invokevirtual 84, 3) := by decide +kernel
theorem dL_save_7 : decode cL_save 7 = .ok (.i2l, 1) := by decide +kernel
theorem dL_save_8 : decode cL_save 8 = .ok (.lastore, 1) := by decide +kernel
theorem dL_save_9 : decode cL_save 9 = .ok (.goto 6, 3) := by decide +kernel
theorem dL_save_12 : decode cL_save 12 = .ok (.astore_n 3, 1) := by decide +kernel
theorem dL_save_13 : decode cL_save 13 = .ok (.iconst 1, 1) := by decide +kernel
theorem dL_save_14 : decode cL_save 14 = .ok (.ireturn, 1) := by decide +kernel
theorem dL_save_15 : decode cL_save 15 = .ok (.iconst 0, 1) := by decide +kernel
theorem dL_save_16 : decode cL_save 16 = .ok (.ireturn, 1) := by decide +kernel
set_option maxRecDepth 20000 in
theorem ggL_restore_X3_restore : GoodIn wsL_restore wsX3_restore := goodIn_ca (goodIn_ca (goodIn_r _ [7, 8, 9, 10, 11, 12, 13, 14, 15, 16, 6, 17, 18, 19, 20, 21, 22, 23, 24, 25, 26, 27, 28, 29, 30, 31, 32, 33, 34, 35, 36, 37, 38, 39, 40, 41, 42, 43, 44, 45, 46, 47, 48, 49, 50, 51, 52, 53, 54, 55, 56, 57, 58, 59, 60, 61, 62, 63, 64, 65, 66, 67, 68, 69, 70, 71, 72, 73, 74, 75, 76, 77, 78, 79, 80] (by decide +kernel) (by decide +kernel)) (goodIn_sub (fun _ h => List.mem_cons_of_mem _ (List.mem_append_left _ (List.mem_append_right _ h))) (by decide +kernel))) (goodIn_sub (fun _ h => List.mem_cons_of_mem _ (List.mem_append_right _ h)) (by decide +kernel))
set_option maxRecDepth 20000 in
theorem gL_restore_X3_restore : GoodIn wsL_restore (wsV RL 87 RX3 yX3_restore wsX3_restore) := goodIn_app (goodIn_of _ (by decide +kernel)) ggL_restore_X3_restore
theorem dL_restore_0 : decode cL_restore 0 = .ok (.aload_n 2, 1) := by decide +kernel
theorem dL_restore_1 : decode cL_restore 1 = .ok (.iconst 0, 1) := by decide +kernel
theorem dL_restore_2 : decode cL_restore 2 = .ok (.aload_n 0, 1) := by decide +kernel
theorem dL_restore_3 : decode cL_restore 3 = .ok (.iload_n 1, 1) := by decide +kernel
theorem dL_restore_4 : decode cL_restore 4 = .ok (.invokevirtual 87, 3) := by decide +kernel
theorem dL_restore_7 : decode cL_restore 7 = .ok (.i2l, 1) := by decide +kernel
theorem dL_restore_8 : decode cL_restore 8 = .ok (.lastore, 1) := by decide +kernel
theorem dL_restore_9 : decode cL_restore 9 = .ok (.goto 9, 3) := by decide +kernel
theorem dL_restore_12 : decode cL_restore 12 = .ok (.astore_n 3, 1) := by decide +kernel
theorem dL_restore_13 : decode cL_restore 13 = .ok (.iconst 1, 1) := by decide +kernel
theorem dL_restore_14 : decode cL_restore 14 = .ok (.ireturn, 1) := by decide +kernel
theorem dL_restore_15 : decode cL_restore 15 = .ok (.astore_n 3, 1) := by decide +kernel
theorem dL_restore_16 : decode cL_restore 16 = .ok (.iconst 2, 1) := by decide +kernel
theorem dL_restore_17 : decode cL_restore 17 = .ok (.ireturn, 1) := by decide +kernel
theorem dL_restore_18 : decode cL_restore 18 = .ok (.iconst 0, 1) := by decide +kernel
theorem dL_restore_19 : decode cL_restore 19 = .ok (.ireturn, 1) := by decide +kernel
set_option maxRecDepth 20000 in
theorem ggL_law_X3_init : GoodIn wsL_law wsX3_init := goodIn_r _ [10, 11, 12, 13, 14, 15, 16, 17, 18, 19, 20, 21, 22, 23, 24, 25, 26, 27, 28, 29, 30, 31, 32, 33, 34, 35, 36, 37, 38, 39, 40, 41, 42, 43, 44, 45, 46, 47, 48, 49, 50, 51, 52, 53, 54, 55, 682, 683, 663, 664, 665, 666, 667, 668, 669, 670, 684, 685, 686, 687, 688, 689, 690, 691, 692, 693, 694, 695, 696, 697, 698, 699, 700, 701, 702] (by decide +kernel) (by decide +kernel)
set_option maxRecDepth 20000 in
theorem gL_law_X3_init : GoodIn wsL_law (wsX3_init) := ggL_law_X3_init
set_option maxRecDepth 20000 in
theorem ggL_law_X4_init : GoodIn wsL_law wsX4_init := goodIn_r _ [58, 59, 12, 13, 41, 60, 61, 62, 63, 64, 65, 25, 66, 671, 672, 673, 674, 675, 676, 677, 678, 679, 680, 681] (by decide +kernel) (by decide +kernel)
set_option maxRecDepth 20000 in
theorem gL_law_X4_init : GoodIn wsL_law (wsX4_init) := ggL_law_X4_init
set_option maxRecDepth 20000 in
theorem ggL_law_L_append : GoodIn wsL_law wsL_append := goodIn_ca (goodIn_ca (goodIn_r _ [70, 71, 72, 73, 74, 75, 2, 76, 77, 78, 79, 80, 17, 81, 82, 83, 84, 16, 85, 86, 87, 31, 663, 664, 665, 666, 667, 668, 669, 670, 682, 683] (by decide +kernel) (by decide +kernel)) (goodIn_sub (fun _ h => List.mem_append_left _ (List.mem_append_left _ (List.mem_append_right _ h))) (by decide +kernel))) (goodIn_sub (fun _ h => List.mem_append_left _ (List.mem_append_right _ h)) (by decide +kernel))
set_option maxRecDepth 20000 in
theorem gL_law_L_append : GoodIn wsL_law (va_wsS RL 94 yL_append wsL_append) := goodIn_app (goodIn_of _ (by decide +kernel)) ggL_law_L_append
set_option maxRecDepth 20000 in
theorem ggL_law_X4_append : GoodIn wsL_law wsX4_append := goodIn_r _ [91, 92, 93, 60, 94, 95, 5, 96, 97, 98, 99, 100, 101, 671, 672, 673, 674, 675, 676, 677, 678, 679, 680, 681] (by decide +kernel) (by decide +kernel)
set_option maxRecDepth 20000 in
theorem gL_law_X4_append : GoodIn wsL_law (wsV RL 99 RX4 yX4_append wsX4_append) := goodIn_app (goodIn_of _ (by decide +kernel)) ggL_law_X4_append
set_option maxRecDepth 20000 in
theorem ggL_law_X4_thrown : GoodIn wsL_law wsX4_thrown := goodIn_r _ [105, 101, 671, 672, 673, 674, 675, 676, 677, 678, 679, 680, 681] (by decide +kernel) (by decide +kernel)
set_option maxRecDepth 20000 in
theorem gL_law_X4_thrown : GoodIn wsL_law (wsV RL 100 RX4 yX4_thrown wsX4_thrown) := goodIn_app (goodIn_of _ (by decide +kernel)) ggL_law_X4_thrown
set_option maxRecDepth 20000 in
theorem ggL_law_X3_clearText : GoodIn wsL_law wsX3_clearText := goodIn_r _ [109, 17, 663, 664, 665, 666, 667, 668, 669, 670, 682, 683] (by decide +kernel) (by decide +kernel)
set_option maxRecDepth 20000 in
theorem gL_law_X3_clearText : GoodIn wsL_law (wsV RL 103 RX3 yX3_clearText wsX3_clearText) := goodIn_app (goodIn_of _ (by decide +kernel)) ggL_law_X3_clearText
set_option maxRecDepth 20000 in
theorem ggL_law_X4_clearText : GoodIn wsL_law wsX4_clearText := goodIn_r _ [113, 101, 93, 671, 672, 673, 674, 675, 676, 677, 678, 679, 680, 681] (by decide +kernel) (by decide +kernel)
set_option maxRecDepth 20000 in
theorem gL_law_X4_clearText : GoodIn wsL_law (wsV RL 106 RX4 yX4_clearText wsX4_clearText) := goodIn_app (goodIn_of _ (by decide +kernel)) ggL_law_X4_clearText
set_option maxRecDepth 20000 in
theorem ggL_law_X3_errorPosition : GoodIn wsL_law wsX3_errorPosition := goodIn_r _ [117, 17, 118, 16, 119, 120, 87, 121, 122, 123, 124, 125, 126, 127, 128, 31, 129, 130, 131, 132, 133, 134, 135, 136, 137, 138, 139, 663, 664, 665, 666, 667, 668, 669, 670, 682, 683] (by decide +kernel) (by decide +kernel)
set_option maxRecDepth 20000 in
theorem gL_law_X3_errorPosition : GoodIn wsL_law (wsV RL 107 RX3 yX3_errorPosition wsX3_errorPosition) := goodIn_app (goodIn_of _ (by decide +kernel)) ggL_law_X3_errorPosition
set_option maxRecDepth 20000 in
theorem ggL_law_X4_errorPosition : GoodIn wsL_law wsX4_errorPosition := goodIn_r _ [143, 101, 144, 145, 146, 147, 5, 148, 61, 93, 149, 150, 151, 152, 60, 153, 154, 155, 156, 157, 158, 159, 160, 161, 94, 95, 96, 671, 672, 673, 674, 675, 676, 677, 678, 679, 680, 681] (by decide +kernel) (by decide +kernel)
set_option maxRecDepth 20000 in
theorem gL_law_X4_errorPosition : GoodIn wsL_law (wsV RL 110 RX4 yX4_errorPosition wsX4_errorPosition) := goodIn_app (goodIn_of _ (by decide +kernel)) ggL_law_X4_errorPosition
set_option maxRecDepth 20000 in
theorem ggL_law_L_load : GoodIn wsL_law wsL_load := goodIn_ca (goodIn_r _ [164, 72, 165, 166, 167, 2, 168, 79, 80, 17, 21, 26, 118, 16, 119, 120, 87, 121, 122, 123, 124, 125, 126, 127, 128, 31, 129, 130, 131, 132, 133, 134, 135, 136, 137, 138, 139, 169, 20, 170, 171, 35, 36, 37, 38, 39, 172, 40, 173, 174, 175, 176, 177, 55, 178, 46, 179, 180, 181, 182, 183, 184, 51, 52, 53, 54, 42, 185, 45, 186, 187, 188, 189, 190, 191, 192, 193, 194, 195, 663, 664, 665, 666, 667, 668, 669, 670, 684, 685, 686, 687, 688, 689, 690, 691, 692, 693, 694, 695, 696, 697, 698, 699, 682, 683, 700, 701, 702] (by decide +kernel) (by decide +kernel)) (goodIn_sub (fun _ h => List.mem_append_left _ (List.mem_append_right _ h)) (by decide +kernel))
set_option maxRecDepth 20000 in
theorem gL_law_L_load : GoodIn wsL_law (va_wsS RL 111 yL_load wsL_load) := goodIn_app (goodIn_of _ (by decide +kernel)) ggL_law_L_load
set_option maxRecDepth 20000 in
theorem ggL_law_X4_load : GoodIn wsL_law wsX4_load := goodIn_r _ [199, 61, 62, 200, 66, 145, 146, 147, 5, 148, 144, 93, 149, 150, 151, 152, 60, 153, 154, 155, 156, 157, 158, 159, 160, 161, 94, 95, 96, 97, 98, 99, 100, 101, 201, 202, 203, 671, 672, 673, 674, 675, 676, 677, 678, 679, 680, 681] (by decide +kernel) (by decide +kernel)
set_option maxRecDepth 20000 in
theorem gL_law_X4_load : GoodIn wsL_law (wsV RL 114 RX4 yX4_load wsX4_load) := goodIn_app (goodIn_of _ (by decide +kernel)) ggL_law_X4_load
set_option maxRecDepth 20000 in
theorem ggL_law_L_about : GoodIn wsL_law wsL_about := goodIn_ca (goodIn_r _ [206, 71, 207, 208, 209, 2, 210, 77, 78, 21, 81, 82, 83, 211, 20, 212, 213, 35, 36, 37, 38, 39, 172, 40, 173, 174, 55, 178, 175, 46, 176, 177, 214, 215, 216, 217, 218, 219, 220, 221, 663, 664, 665, 666, 667, 668, 669, 670, 684, 685, 686, 687, 688, 689, 690, 691, 692, 693, 694, 695, 696, 697, 698, 699, 700, 701, 702] (by decide +kernel) (by decide +kernel)) (goodIn_sub (fun _ h => List.mem_append_left _ (List.mem_append_left _ (List.mem_append_right _ h))) (by decide +kernel))
set_option maxRecDepth 20000 in
theorem gL_law_L_about : GoodIn wsL_law (va_wsS RL 115 yL_about wsL_about) := goodIn_app (goodIn_of _ (by decide +kernel)) ggL_law_L_about
set_option maxRecDepth 20000 in
theorem ggL_law_X4_about : GoodIn wsL_law wsX4_about := goodIn_r _ [225, 226, 62, 94, 95, 5, 96, 97, 98, 99, 100, 101, 227, 228, 229, 671, 672, 673, 674, 675, 676, 677, 678, 679, 680, 681] (by decide +kernel) (by decide +kernel)
set_option maxRecDepth 20000 in
theorem gL_law_X4_about : GoodIn wsL_law (wsV RL 117 RX4 yX4_about wsX4_about) := goodIn_app (goodIn_of _ (by decide +kernel)) ggL_law_X4_about
set_option maxRecDepth 20000 in
theorem ggL_law_L_told : GoodIn wsL_law wsL_told := goodIn_ca (goodIn_r _ [232, 71, 233, 234, 235, 2, 236, 77, 78, 21, 81, 82, 83, 237, 45, 238, 239, 188, 189, 50, 663, 664, 665, 666, 667, 668, 669, 670, 684, 685, 686, 687, 688, 689, 690, 691, 692, 693, 694, 695, 696, 697, 698, 699, 700, 701, 702] (by decide +kernel) (by decide +kernel)) (goodIn_sub (fun _ h => List.mem_append_left _ (List.mem_append_left _ (List.mem_append_right _ h))) (by decide +kernel))
set_option maxRecDepth 20000 in
theorem gL_law_L_told : GoodIn wsL_law (va_wsS RL 118 yL_told wsL_told) := goodIn_app (goodIn_of _ (by decide +kernel)) ggL_law_L_told
set_option maxRecDepth 20000 in
theorem ggL_law_X4_told : GoodIn wsL_law wsX4_told := goodIn_r _ [243, 244, 62, 94, 95, 5, 96, 97, 98, 99, 100, 101, 671, 672, 673, 674, 675, 676, 677, 678, 679, 680, 681] (by decide +kernel) (by decide +kernel)
set_option maxRecDepth 20000 in
theorem gL_law_X4_told : GoodIn wsL_law (wsV RL 121 RX4 yX4_told wsX4_told) := goodIn_app (goodIn_of _ (by decide +kernel)) ggL_law_X4_told
set_option maxRecDepth 20000 in
theorem ggL_law_L_bridge : GoodIn wsL_law wsL_bridge := goodIn_ca (goodIn_r _ [247, 71, 248, 249, 250, 2, 251, 77, 78, 21, 81, 82, 83, 252, 20, 253, 254, 36, 178, 35, 255, 256, 257, 258, 259, 260, 42, 261, 262, 263, 264, 265, 266, 267, 268, 269, 270, 271, 38, 215, 216, 217, 173, 218, 219, 220, 221, 172, 40, 663, 664, 665, 666, 667, 668, 669, 670, 684, 685, 686, 687, 688, 689, 690, 691, 692, 693, 694, 695, 696, 697, 698, 699] (by decide +kernel) (by decide +kernel)) (goodIn_sub (fun _ h => List.mem_append_left _ (List.mem_append_left _ (List.mem_append_right _ h))) (by decide +kernel))
set_option maxRecDepth 20000 in
theorem gL_law_L_bridge : GoodIn wsL_law (va_wsS RL 122 yL_bridge wsL_bridge) := goodIn_app (goodIn_of _ (by decide +kernel)) ggL_law_L_bridge
set_option maxRecDepth 20000 in
theorem ggL_law_X4_bridge : GoodIn wsL_law wsX4_bridge := goodIn_r _ [275, 276, 62, 94, 95, 5, 96, 97, 98, 99, 100, 101, 277, 278, 279, 280, 281, 282, 283, 284, 285, 286, 287, 288, 289, 290, 291, 292, 293, 294, 295, 227, 228, 229, 671, 672, 673, 674, 675, 676, 677, 678, 679, 680, 681] (by decide +kernel) (by decide +kernel)
set_option maxRecDepth 20000 in
theorem gL_law_X4_bridge : GoodIn wsL_law (wsV RL 124 RX4 yX4_bridge wsX4_bridge) := goodIn_app (goodIn_of _ (by decide +kernel)) ggL_law_X4_bridge
set_option maxRecDepth 20000 in
theorem ggL_law_L_press : GoodIn wsL_law wsL_press := goodIn_ca (goodIn_r _ [298, 72, 299, 300, 301, 2, 302, 79, 80, 21, 303, 304, 305, 306, 23, 195, 194, 307, 308, 309, 310, 311, 312, 313, 314, 20, 315, 316, 35, 36, 37, 38, 39, 172, 40, 173, 174, 175, 176, 177, 42, 55, 178, 46, 317, 45, 318, 319, 188, 189, 50, 320, 321, 322, 323, 324, 325, 326, 327, 252, 253, 254, 255, 256, 257, 258, 259, 260, 328, 261, 262, 263, 329, 268, 269, 270, 271, 214, 215, 216, 217, 218, 219, 220, 221, 330, 331, 332, 333, 334, 335, 336, 663, 664, 665, 666, 667, 668, 669, 670, 684, 685, 686, 687, 688, 689, 690, 691, 692, 693, 694, 695, 696, 697, 698, 699, 700, 701, 702] (by decide +kernel) (by decide +kernel)) (goodIn_sub (fun _ h => List.mem_append_left _ (List.mem_append_right _ h)) (by decide +kernel))
set_option maxRecDepth 20000 in
theorem gL_law_L_press : GoodIn wsL_law (va_wsS RL 125 yL_press wsL_press) := goodIn_app (goodIn_of _ (by decide +kernel)) ggL_law_L_press
set_option maxRecDepth 20000 in
theorem ggL_law_X4_press : GoodIn wsL_law wsX4_press := goodIn_r _ [340, 62, 97, 98, 99, 5, 100, 101, 341, 342, 343, 344, 200, 64, 201, 202, 203, 345, 346, 347, 293, 294, 295, 289, 290, 291, 292, 277, 278, 279, 280, 281, 282, 283, 284, 285, 286, 287, 288, 227, 228, 229, 671, 672, 673, 674, 675, 676, 677, 678, 679, 680, 681] (by decide +kernel) (by decide +kernel)
set_option maxRecDepth 20000 in
theorem gL_law_X4_press : GoodIn wsL_law (wsV RL 128 RX4 yX4_press wsX4_press) := goodIn_app (goodIn_of _ (by decide +kernel)) ggL_law_X4_press
set_option maxRecDepth 20000 in
theorem ggL_law_L_pair : GoodIn wsL_law wsL_pair := goodIn_ca (goodIn_r _ [350, 72, 351, 352, 353, 2, 354, 79, 80, 21, 303, 304, 305, 306, 23, 195, 194, 307, 308, 309, 310, 311, 312, 313, 314, 20, 315, 316, 35, 36, 37, 38, 39, 172, 40, 173, 174, 175, 176, 177, 42, 55, 178, 46, 317, 45, 318, 319, 188, 189, 50, 355, 356, 357, 358, 320, 321, 322, 323, 324, 325, 326, 327, 252, 253, 254, 255, 256, 257, 258, 259, 260, 328, 261, 262, 263, 329, 268, 269, 270, 271, 214, 215, 216, 217, 218, 219, 220, 221, 330, 331, 332, 333, 334, 335, 336, 663, 664, 665, 666, 667, 668, 669, 670, 684, 685, 686, 687, 688, 689, 690, 691, 692, 693, 694, 695, 696, 697, 698, 699, 700, 701, 702] (by decide +kernel) (by decide +kernel)) (goodIn_sub (fun _ h => List.mem_append_left _ (List.mem_append_right _ h)) (by decide +kernel))
set_option maxRecDepth 20000 in
theorem gL_law_L_pair : GoodIn wsL_law (va_wsS RL 129 yL_pair wsL_pair) := goodIn_app (goodIn_of _ (by decide +kernel)) ggL_law_L_pair
set_option maxRecDepth 20000 in
theorem ggL_law_X4_pair : GoodIn wsL_law wsX4_pair := goodIn_r _ [362, 62, 97, 98, 99, 5, 100, 101, 341, 342, 343, 344, 200, 64, 201, 202, 203, 363, 364, 365, 345, 346, 347, 293, 294, 295, 289, 290, 291, 292, 277, 278, 279, 280, 281, 282, 283, 284, 285, 286, 287, 288, 227, 228, 229, 671, 672, 673, 674, 675, 676, 677, 678, 679, 680, 681] (by decide +kernel) (by decide +kernel)
set_option maxRecDepth 20000 in
theorem gL_law_X4_pair : GoodIn wsL_law (wsV RL 131 RX4 yX4_pair wsX4_pair) := goodIn_app (goodIn_of _ (by decide +kernel)) ggL_law_X4_pair
set_option maxRecDepth 20000 in
theorem ggL_law_L_pause : GoodIn wsL_law wsL_pause := goodIn_ca (goodIn_r _ [368, 71, 369, 370, 371, 2, 372, 77, 78, 21, 81, 82, 83, 303, 304, 305, 306, 23, 195, 194, 307, 308, 309, 310, 311, 312, 313, 314, 20, 315, 316, 35, 36, 37, 38, 39, 172, 40, 173, 174, 175, 176, 177, 42, 55, 178, 46, 317, 45, 318, 319, 188, 189, 50, 373, 374, 375, 376, 377, 378, 324, 325, 326, 215, 216, 217, 218, 219, 220, 221, 663, 664, 665, 666, 667, 668, 669, 670, 684, 685, 686, 687, 688, 689, 690, 691, 692, 693, 694, 695, 696, 697, 698, 699, 700, 701, 702] (by decide +kernel) (by decide +kernel)) (goodIn_sub (fun _ h => List.mem_append_left _ (List.mem_append_left _ (List.mem_append_right _ h))) (by decide +kernel))
set_option maxRecDepth 20000 in
theorem gL_law_L_pause : GoodIn wsL_law (va_wsS RL 132 yL_pause wsL_pause) := goodIn_app (goodIn_of _ (by decide +kernel)) ggL_law_L_pause
set_option maxRecDepth 20000 in
theorem ggL_law_X4_pause : GoodIn wsL_law wsX4_pause := goodIn_r _ [382, 383, 62, 94, 95, 5, 96, 97, 98, 99, 100, 101, 341, 342, 343, 344, 200, 64, 201, 202, 203, 384, 385, 386, 227, 228, 229, 671, 672, 673, 674, 675, 676, 677, 678, 679, 680, 681] (by decide +kernel) (by decide +kernel)
set_option maxRecDepth 20000 in
theorem gL_law_X4_pause : GoodIn wsL_law (wsV RL 134 RX4 yX4_pause wsX4_pause) := goodIn_app (goodIn_of _ (by decide +kernel)) ggL_law_X4_pause
set_option maxRecDepth 20000 in
theorem ggL_law_L_set : GoodIn wsL_law wsL_set := goodIn_ca (goodIn_r _ [389, 71, 390, 391, 392, 2, 393, 77, 78, 21, 394, 20, 395, 303, 304, 305, 306, 23, 195, 194, 307, 308, 309, 310, 311, 312, 313, 314, 315, 316, 35, 36, 37, 38, 39, 172, 40, 173, 174, 175, 176, 177, 42, 55, 178, 46, 317, 45, 318, 319, 188, 189, 50, 211, 212, 213, 214, 215, 216, 217, 218, 219, 220, 221, 396, 397, 398, 663, 664, 665, 666, 667, 668, 669, 670, 684, 685, 686, 687, 688, 689, 690, 691, 692, 693, 694, 695, 696, 697, 698, 699, 700, 701, 702] (by decide +kernel) (by decide +kernel)) (goodIn_sub (fun _ h => List.mem_append_left _ (List.mem_append_left _ (List.mem_append_right _ h))) (by decide +kernel))
set_option maxRecDepth 20000 in
theorem gL_law_L_set : GoodIn wsL_law (va_wsS RL 135 yL_set wsL_set) := goodIn_app (goodIn_of _ (by decide +kernel)) ggL_law_L_set
set_option maxRecDepth 20000 in
theorem ggL_law_X4_set : GoodIn wsL_law wsX4_set := goodIn_r _ [402, 62, 403, 404, 5, 405, 244, 406, 407, 408, 409, 410, 94, 95, 96, 97, 98, 99, 100, 101, 341, 342, 343, 344, 200, 64, 201, 202, 203, 671, 672, 673, 674, 675, 676, 677, 678, 679, 680, 681] (by decide +kernel) (by decide +kernel)
set_option maxRecDepth 20000 in
theorem gL_law_X4_set : GoodIn wsL_law (wsV RL 137 RX4 yX4_set wsX4_set) := goodIn_app (goodIn_of _ (by decide +kernel)) ggL_law_X4_set
set_option maxRecDepth 20000 in
theorem ggL_law_L_choose : GoodIn wsL_law wsL_choose := goodIn_ca (goodIn_r _ [413, 414, 415, 416, 417, 2, 418, 419, 420, 21, 421, 20, 422, 423, 55, 303, 304, 305, 306, 23, 195, 194, 307, 308, 309, 310, 311, 312, 313, 314, 315, 316, 35, 36, 37, 38, 39, 172, 40, 173, 174, 175, 176, 177, 42, 178, 46, 317, 45, 318, 319, 188, 189, 50, 663, 664, 665, 666, 667, 668, 669, 670, 684, 685, 686, 687, 688, 689, 690, 691, 692, 693, 694, 695, 696, 697, 698, 699, 700, 701, 702] (by decide +kernel) (by decide +kernel)) (goodIn_sub (fun _ h => List.mem_append_right _ h) (by decide +kernel))
set_option maxRecDepth 20000 in
theorem gL_law_L_choose : GoodIn wsL_law (va_wsS RL 138 yL_choose wsL_choose) := goodIn_app (goodIn_of _ (by decide +kernel)) ggL_law_L_choose
set_option maxRecDepth 20000 in
theorem ggL_law_X4_choose : GoodIn wsL_law wsX4_choose := goodIn_r _ [427, 62, 428, 429, 5, 430, 94, 95, 96, 97, 98, 99, 100, 101, 341, 342, 343, 344, 200, 64, 201, 202, 203, 671, 672, 673, 674, 675, 676, 677, 678, 679, 680, 681] (by decide +kernel) (by decide +kernel)
set_option maxRecDepth 20000 in
theorem gL_law_X4_choose : GoodIn wsL_law (wsV RL 140 RX4 yX4_choose wsX4_choose) := goodIn_app (goodIn_of _ (by decide +kernel)) ggL_law_X4_choose
set_option maxRecDepth 20000 in
theorem ggL_law_L_add : GoodIn wsL_law wsL_add := goodIn_ca (goodIn_ca (goodIn_r _ [433, 71, 72, 434, 435, 436, 2, 437, 77, 78, 79, 80, 21, 81, 82, 83, 303, 304, 305, 306, 23, 195, 194, 307, 308, 309, 310, 311, 312, 313, 314, 20, 315, 316, 35, 36, 37, 38, 39, 172, 40, 173, 174, 175, 176, 177, 42, 55, 178, 46, 317, 45, 318, 319, 188, 189, 50, 52, 53, 54, 663, 664, 665, 666, 667, 668, 669, 670, 684, 685, 686, 687, 688, 689, 690, 691, 692, 693, 694, 695, 696, 697, 698, 699, 700, 701, 702] (by decide +kernel) (by decide +kernel)) (goodIn_sub (fun _ h => List.mem_append_left _ (List.mem_append_left _ (List.mem_append_right _ h))) (by decide +kernel))) (goodIn_sub (fun _ h => List.mem_append_left _ (List.mem_append_right _ h)) (by decide +kernel))
set_option maxRecDepth 20000 in
theorem gL_law_L_add : GoodIn wsL_law (va_wsS RL 141 yL_add wsL_add) := goodIn_app (goodIn_of _ (by decide +kernel)) ggL_law_L_add
set_option maxRecDepth 20000 in
theorem ggL_law_X4_add : GoodIn wsL_law wsX4_add := goodIn_r _ [441, 406, 62, 94, 95, 5, 96, 97, 98, 99, 100, 101, 341, 342, 343, 344, 200, 64, 201, 202, 203, 671, 672, 673, 674, 675, 676, 677, 678, 679, 680, 681] (by decide +kernel) (by decide +kernel)
set_option maxRecDepth 20000 in
theorem gL_law_X4_add : GoodIn wsL_law (wsV RL 143 RX4 yX4_add wsX4_add) := goodIn_app (goodIn_of _ (by decide +kernel)) ggL_law_X4_add
set_option maxRecDepth 20000 in
theorem ggL_law_X3_free : GoodIn wsL_law wsX3_free := goodIn_r _ [445, 21, 303, 304, 305, 2, 306, 23, 195, 194, 307, 308, 309, 310, 311, 312, 313, 314, 20, 315, 316, 35, 36, 37, 38, 39, 172, 40, 173, 174, 175, 176, 177, 42, 55, 178, 46, 317, 45, 318, 319, 188, 189, 50, 446, 447, 448, 449, 373, 374, 375, 376, 377, 378, 324, 325, 326, 663, 664, 665, 666, 667, 668, 669, 670, 684, 685, 686, 687, 688, 689, 690, 691, 692, 693, 694, 695, 696, 697, 698, 699, 700, 701, 702] (by decide +kernel) (by decide +kernel)
set_option maxRecDepth 20000 in
theorem gL_law_X3_free : GoodIn wsL_law (wsV RL 144 RX3 yX3_free wsX3_free) := goodIn_app (goodIn_of _ (by decide +kernel)) ggL_law_X3_free
set_option maxRecDepth 20000 in
theorem ggL_law_X4_free : GoodIn wsL_law wsX4_free := goodIn_r _ [453, 101, 62, 341, 342, 343, 5, 344, 200, 64, 201, 202, 203, 454, 455, 456, 384, 385, 386, 671, 672, 673, 674, 675, 676, 677, 678, 679, 680, 681] (by decide +kernel) (by decide +kernel)
set_option maxRecDepth 20000 in
theorem gL_law_X4_free : GoodIn wsL_law (wsV RL 147 RX4 yX4_free wsX4_free) := goodIn_app (goodIn_of _ (by decide +kernel)) ggL_law_X4_free
set_option maxRecDepth 20000 in
theorem ggL_law_L_balance : GoodIn wsL_law wsL_balance := goodIn_ca (goodIn_r _ [459, 72, 460, 461, 462, 2, 463, 79, 80, 21, 303, 304, 305, 306, 23, 195, 194, 307, 308, 309, 310, 311, 312, 313, 314, 20, 315, 316, 35, 36, 37, 38, 39, 172, 40, 173, 174, 175, 176, 177, 42, 55, 178, 46, 317, 45, 318, 319, 188, 189, 50, 464, 465, 466, 255, 256, 467, 355, 356, 357, 358, 320, 321, 322, 323, 324, 325, 326, 327, 252, 253, 254, 257, 258, 259, 260, 328, 261, 262, 263, 329, 268, 269, 270, 271, 214, 215, 216, 217, 218, 219, 220, 221, 330, 331, 332, 333, 334, 335, 336, 663, 664, 665, 666, 667, 668, 669, 670, 684, 685, 686, 687, 688, 689, 690, 691, 692, 693, 694, 695, 696, 697, 698, 699, 700, 701, 702] (by decide +kernel) (by decide +kernel)) (goodIn_sub (fun _ h => List.mem_append_left _ (List.mem_append_right _ h)) (by decide +kernel))
set_option maxRecDepth 20000 in
theorem gL_law_L_balance : GoodIn wsL_law (va_wsS RL 148 yL_balance wsL_balance) := goodIn_app (goodIn_of _ (by decide +kernel)) ggL_law_L_balance
set_option maxRecDepth 20000 in
theorem ggL_law_X4_balance : GoodIn wsL_law wsX4_balance := goodIn_r _ [471, 62, 97, 98, 99, 5, 100, 101, 341, 342, 343, 344, 200, 64, 201, 202, 203, 472, 473, 474, 363, 364, 365, 345, 346, 347, 293, 294, 295, 289, 290, 291, 292, 277, 278, 279, 280, 281, 282, 283, 284, 285, 286, 287, 288, 227, 228, 229, 671, 672, 673, 674, 675, 676, 677, 678, 679, 680, 681] (by decide +kernel) (by decide +kernel)
set_option maxRecDepth 20000 in
theorem gL_law_X4_balance : GoodIn wsL_law (wsV RL 150 RX4 yX4_balance wsX4_balance) := goodIn_app (goodIn_of _ (by decide +kernel)) ggL_law_X4_balance
set_option maxRecDepth 20000 in
theorem ggL_law_L_undo : GoodIn wsL_law wsL_undo := goodIn_ca (goodIn_r _ [477, 72, 478, 479, 480, 2, 481, 79, 80, 194, 195, 21, 23, 311, 312, 313, 314, 20, 315, 316, 35, 36, 37, 38, 39, 172, 40, 173, 174, 175, 176, 177, 42, 55, 178, 46, 317, 45, 318, 319, 188, 189, 50, 663, 664, 665, 666, 667, 668, 669, 670, 684, 685, 686, 687, 688, 689, 690, 691, 692, 693, 694, 695, 696, 697, 698, 699, 700, 701, 702] (by decide +kernel) (by decide +kernel)) (goodIn_sub (fun _ h => List.mem_append_left _ (List.mem_append_right _ h)) (by decide +kernel))
set_option maxRecDepth 20000 in
theorem gL_law_L_undo : GoodIn wsL_law (va_wsS RL 151 yL_undo wsL_undo) := goodIn_app (goodIn_of _ (by decide +kernel)) ggL_law_L_undo
set_option maxRecDepth 20000 in
theorem ggL_law_X4_undo : GoodIn wsL_law wsX4_undo := goodIn_r _ [485, 200, 64, 62, 97, 98, 99, 5, 100, 101, 201, 202, 203, 671, 672, 673, 674, 675, 676, 677, 678, 679, 680, 681] (by decide +kernel) (by decide +kernel)
set_option maxRecDepth 20000 in
theorem gL_law_X4_undo : GoodIn wsL_law (wsV RL 153 RX4 yX4_undo wsX4_undo) := goodIn_app (goodIn_of _ (by decide +kernel)) ggL_law_X4_undo
set_option maxRecDepth 20000 in
theorem ggL_law_L_value : GoodIn wsL_law wsL_value := goodIn_ca (goodIn_r _ [488, 71, 489, 490, 491, 2, 492, 77, 78, 21, 81, 82, 83, 493, 255, 256, 494, 495, 496, 663, 664, 665, 666, 667, 668, 669, 670, 684, 685, 686, 687, 688, 689, 690, 691, 692, 693, 694, 695, 696, 697, 698, 699] (by decide +kernel) (by decide +kernel)) (goodIn_sub (fun _ h => List.mem_append_left _ (List.mem_append_left _ (List.mem_append_right _ h))) (by decide +kernel))
set_option maxRecDepth 20000 in
theorem gL_law_L_value : GoodIn wsL_law (va_wsS RL 154 yL_value wsL_value) := goodIn_app (goodIn_of _ (by decide +kernel)) ggL_law_L_value
set_option maxRecDepth 20000 in
theorem ggL_law_X4_value : GoodIn wsL_law wsX4_value := goodIn_r _ [500, 501, 62, 94, 95, 5, 96, 97, 98, 99, 100, 101, 283, 284, 285, 671, 672, 673, 674, 675, 676, 677, 678, 679, 680, 681] (by decide +kernel) (by decide +kernel)
set_option maxRecDepth 20000 in
theorem gL_law_X4_value : GoodIn wsL_law (wsV RL 156 RX4 yX4_value wsX4_value) := goodIn_app (goodIn_of _ (by decide +kernel)) ggL_law_X4_value
set_option maxRecDepth 20000 in
theorem ggL_law_L_bestR : GoodIn wsL_law wsL_bestR := goodIn_ca (goodIn_r _ [504, 414, 505, 506, 507, 2, 508, 419, 420, 21, 307, 308, 309, 310, 509, 510, 511, 421, 20, 422, 423, 55, 493, 255, 256, 258, 259, 260, 42, 494, 495, 496, 663, 664, 665, 666, 667, 668, 669, 670, 684, 685, 686, 687, 688, 689, 690, 691, 692, 693, 694, 695, 696, 697, 698, 699] (by decide +kernel) (by decide +kernel)) (goodIn_sub (fun _ h => List.mem_append_right _ h) (by decide +kernel))
set_option maxRecDepth 20000 in
theorem gL_law_L_bestR : GoodIn wsL_law (va_wsS RL 157 yL_bestR wsL_bestR) := goodIn_app (goodIn_of _ (by decide +kernel)) ggL_law_L_bestR
set_option maxRecDepth 20000 in
theorem ggL_law_X4_bestR : GoodIn wsL_law wsX4_bestR := goodIn_r _ [515, 62, 428, 429, 5, 430, 94, 95, 96, 97, 98, 99, 100, 101, 280, 281, 282, 283, 284, 285, 516, 517, 518, 671, 672, 673, 674, 675, 676, 677, 678, 679, 680, 681] (by decide +kernel) (by decide +kernel)
set_option maxRecDepth 20000 in
theorem gL_law_X4_bestR : GoodIn wsL_law (wsV RL 159 RX4 yX4_bestR wsX4_bestR) := goodIn_app (goodIn_of _ (by decide +kernel)) ggL_law_X4_bestR
set_option maxRecDepth 20000 in
theorem ggL_law_L_bestArms : GoodIn wsL_law wsL_bestArms := goodIn_ca (goodIn_r _ [521, 414, 522, 523, 524, 2, 525, 419, 420, 21, 421, 20, 422, 423, 55, 258, 259, 260, 42, 493, 255, 256, 663, 664, 665, 666, 667, 668, 669, 670, 684, 685, 686, 687, 688, 689, 690, 691, 692, 693, 694, 695, 696, 697, 698, 699] (by decide +kernel) (by decide +kernel)) (goodIn_sub (fun _ h => List.mem_append_right _ h) (by decide +kernel))
set_option maxRecDepth 20000 in
theorem gL_law_L_bestArms : GoodIn wsL_law (va_wsS RL 160 yL_bestArms wsL_bestArms) := goodIn_app (goodIn_of _ (by decide +kernel)) ggL_law_L_bestArms
set_option maxRecDepth 20000 in
theorem ggL_law_X4_bestArms : GoodIn wsL_law wsX4_bestArms := goodIn_r _ [529, 62, 428, 429, 5, 430, 94, 95, 96, 97, 98, 99, 100, 101, 283, 284, 285, 671, 672, 673, 674, 675, 676, 677, 678, 679, 680, 681] (by decide +kernel) (by decide +kernel)
set_option maxRecDepth 20000 in
theorem gL_law_X4_bestArms : GoodIn wsL_law (wsV RL 162 RX4 yX4_bestArms wsX4_bestArms) := goodIn_app (goodIn_of _ (by decide +kernel)) ggL_law_X4_bestArms
set_option maxRecDepth 20000 in
theorem ggL_law_X3_enoughShunt : GoodIn wsL_law wsX3_enoughShunt := goodIn_r _ [533, 21, 252, 20, 253, 254, 36, 178, 35, 255, 2, 256, 257, 258, 259, 260, 42, 261, 262, 263, 215, 216, 217, 173, 218, 219, 220, 221, 172, 40, 268, 269, 270, 271, 38, 81, 82, 83, 663, 664, 665, 666, 667, 668, 669, 670, 684, 685, 686, 687, 688, 689, 690, 691, 692, 693, 694, 695, 696, 697, 698, 699] (by decide +kernel) (by decide +kernel)
set_option maxRecDepth 20000 in
theorem gL_law_X3_enoughShunt : GoodIn wsL_law (wsV RL 163 RX3 yX3_enoughShunt wsX3_enoughShunt) := goodIn_app (goodIn_of _ (by decide +kernel)) ggL_law_X3_enoughShunt
set_option maxRecDepth 20000 in
theorem ggL_law_X4_enoughShunt : GoodIn wsL_law wsX4_enoughShunt := goodIn_r _ [537, 101, 62, 293, 294, 5, 295, 289, 290, 291, 292, 277, 278, 279, 280, 281, 282, 283, 284, 285, 286, 287, 288, 227, 228, 229, 516, 517, 518, 671, 672, 673, 674, 675, 676, 677, 678, 679, 680, 681] (by decide +kernel) (by decide +kernel)
set_option maxRecDepth 20000 in
theorem gL_law_X4_enoughShunt : GoodIn wsL_law (wsV RL 166 RX4 yX4_enoughShunt wsX4_enoughShunt) := goodIn_app (goodIn_of _ (by decide +kernel)) ggL_law_X4_enoughShunt
set_option maxRecDepth 20000 in
theorem ggL_law_X3_sensitivity : GoodIn wsL_law wsX3_sensitivity := goodIn_r _ [541, 21, 509, 510, 309, 511, 542, 325, 326, 264, 265, 266, 2, 267, 252, 20, 253, 254, 36, 178, 35, 255, 256, 257, 258, 259, 260, 42, 261, 262, 263, 268, 269, 270, 271, 38, 663, 664, 665, 666, 667, 668, 669, 670, 684, 685, 686, 687, 688, 689, 690, 691, 692, 693, 694, 695, 696, 697, 698, 699] (by decide +kernel) (by decide +kernel)
set_option maxRecDepth 20000 in
theorem gL_law_X3_sensitivity : GoodIn wsL_law (wsV RL 167 RX3 yX3_sensitivity wsX3_sensitivity) := goodIn_app (goodIn_of _ (by decide +kernel)) ggL_law_X3_sensitivity
set_option maxRecDepth 20000 in
theorem ggL_law_X4_sensitivity : GoodIn wsL_law wsX4_sensitivity := goodIn_r _ [546, 101, 62, 289, 290, 5, 291, 292, 277, 278, 279, 280, 281, 282, 283, 284, 285, 286, 287, 288, 516, 517, 518, 671, 672, 673, 674, 675, 676, 677, 678, 679, 680, 681] (by decide +kernel) (by decide +kernel)
set_option maxRecDepth 20000 in
theorem gL_law_X4_sensitivity : GoodIn wsL_law (wsV RL 170 RX4 yX4_sensitivity wsX4_sensitivity) := goodIn_app (goodIn_of _ (by decide +kernel)) ggL_law_X4_sensitivity
set_option maxRecDepth 20000 in
theorem ggL_law_L_offsetAfter : GoodIn wsL_law wsL_offsetAfter := goodIn_ca (goodIn_r _ [549, 71, 550, 551, 552, 2, 553, 77, 78, 21, 81, 82, 83, 335, 20, 336, 323, 308, 309, 310, 377, 378, 324, 325, 326, 219, 220, 221, 172, 40, 663, 664, 665, 666, 667, 668, 669, 670, 684, 685, 686, 687, 688, 689, 690, 691, 692, 693, 694, 695, 696, 697, 698, 699] (by decide +kernel) (by decide +kernel)) (goodIn_sub (fun _ h => List.mem_append_left _ (List.mem_append_left _ (List.mem_append_right _ h))) (by decide +kernel))
set_option maxRecDepth 20000 in
theorem gL_law_L_offsetAfter : GoodIn wsL_law (va_wsS RL 171 yL_offsetAfter wsL_offsetAfter) := goodIn_app (goodIn_of _ (by decide +kernel)) ggL_law_L_offsetAfter
set_option maxRecDepth 20000 in
theorem ggL_law_X4_offsetAfter : GoodIn wsL_law wsX4_offsetAfter := goodIn_r _ [557, 407, 383, 62, 63, 94, 95, 5, 96, 97, 98, 99, 100, 101, 201, 202, 203, 384, 385, 386, 227, 228, 229, 671, 672, 673, 674, 675, 676, 677, 678, 679, 680, 681] (by decide +kernel) (by decide +kernel)
set_option maxRecDepth 20000 in
theorem gL_law_X4_offsetAfter : GoodIn wsL_law (wsV RL 173 RX4 yX4_offsetAfter wsX4_offsetAfter) := goodIn_app (goodIn_of _ (by decide +kernel)) ggL_law_X4_offsetAfter
set_option maxRecDepth 20000 in
theorem ggL_law_L_waitFor : GoodIn wsL_law wsL_waitFor := goodIn_ca (goodIn_r _ [560, 71, 561, 562, 563, 2, 564, 77, 78, 21, 81, 82, 83, 219, 20, 220, 221, 172, 40, 377, 378, 324, 325, 309, 326, 663, 664, 665, 666, 667, 668, 669, 670, 684, 685, 686, 687, 688, 689, 690, 691, 692, 693, 694, 695, 696, 697, 698, 699] (by decide +kernel) (by decide +kernel)) (goodIn_sub (fun _ h => List.mem_append_left _ (List.mem_append_left _ (List.mem_append_right _ h))) (by decide +kernel))
set_option maxRecDepth 20000 in
theorem gL_law_L_waitFor : GoodIn wsL_law (va_wsS RL 174 yL_waitFor wsL_waitFor) := goodIn_app (goodIn_of _ (by decide +kernel)) ggL_law_L_waitFor
set_option maxRecDepth 20000 in
theorem ggL_law_X4_waitFor : GoodIn wsL_law wsX4_waitFor := goodIn_r _ [568, 408, 569, 62, 63, 94, 95, 5, 96, 97, 98, 99, 100, 101, 201, 202, 203, 227, 228, 229, 384, 385, 386, 671, 672, 673, 674, 675, 676, 677, 678, 679, 680, 681] (by decide +kernel) (by decide +kernel)
set_option maxRecDepth 20000 in
theorem gL_law_X4_waitFor : GoodIn wsL_law (wsV RL 176 RX4 yX4_waitFor wsX4_waitFor) := goodIn_app (goodIn_of _ (by decide +kernel)) ggL_law_X4_waitFor
set_option maxRecDepth 20000 in
theorem ggL_law_L_balanced : GoodIn wsL_law wsL_balanced := goodIn_ca (goodIn_r _ [572, 71, 573, 574, 575, 2, 576, 77, 78, 22, 21, 81, 82, 83, 314, 20, 315, 316, 35, 36, 37, 38, 39, 172, 40, 173, 174, 175, 176, 177, 42, 55, 178, 46, 317, 45, 318, 319, 188, 189, 50, 464, 465, 466, 255, 256, 467, 355, 356, 357, 358, 320, 321, 322, 323, 308, 309, 310, 324, 325, 326, 327, 252, 253, 254, 257, 258, 259, 260, 328, 261, 262, 263, 329, 268, 269, 270, 271, 214, 215, 216, 217, 218, 219, 220, 221, 330, 331, 332, 333, 334, 335, 336, 663, 664, 665, 666, 667, 668, 669, 670, 684, 685, 686, 687, 688, 689, 690, 691, 692, 693, 694, 695, 696, 697, 698, 699, 700, 701, 702] (by decide +kernel) (by decide +kernel)) (goodIn_sub (fun _ h => List.mem_append_left _ (List.mem_append_left _ (List.mem_append_right _ h))) (by decide +kernel))
set_option maxRecDepth 20000 in
theorem gL_law_L_balanced : GoodIn wsL_law (va_wsS RL 177 yL_balanced wsL_balanced) := goodIn_app (goodIn_of _ (by decide +kernel)) ggL_law_L_balanced
set_option maxRecDepth 20000 in
theorem ggL_law_X4_balanced : GoodIn wsL_law wsX4_balanced := goodIn_r _ [580, 244, 62, 63, 94, 95, 5, 96, 97, 98, 99, 100, 101, 201, 202, 203, 472, 473, 474, 363, 364, 365, 345, 346, 347, 293, 294, 295, 289, 290, 291, 292, 277, 278, 279, 280, 281, 282, 283, 284, 285, 286, 287, 288, 227, 228, 229, 671, 672, 673, 674, 675, 676, 677, 678, 679, 680, 681] (by decide +kernel) (by decide +kernel)
set_option maxRecDepth 20000 in
theorem gL_law_X4_balanced : GoodIn wsL_law (wsV RL 179 RX4 yX4_balanced wsX4_balanced) := goodIn_app (goodIn_of _ (by decide +kernel)) ggL_law_X4_balanced
set_option maxRecDepth 20000 in
theorem ggL_law_L_runScript : GoodIn wsL_law wsL_runScript := goodIn_ca (goodIn_r _ [583, 71, 584, 585, 586, 2, 587, 77, 78, 22, 21, 588, 81, 82, 83, 589, 590, 591, 314, 20, 315, 316, 35, 36, 37, 38, 39, 172, 40, 173, 174, 175, 176, 177, 42, 55, 178, 46, 317, 45, 318, 319, 188, 189, 50, 592, 593, 594, 595, 596, 597, 598, 599, 320, 321, 322, 323, 308, 309, 310, 324, 325, 326, 327, 252, 253, 254, 255, 256, 257, 258, 259, 260, 328, 261, 262, 263, 329, 268, 269, 270, 271, 214, 215, 216, 217, 218, 219, 220, 221, 330, 331, 332, 333, 334, 335, 336, 600, 601, 602, 603, 373, 374, 375, 376, 377, 378, 604, 605, 606, 607, 394, 395, 396, 397, 398, 608, 609, 610, 611, 421, 422, 423, 464, 465, 466, 467, 355, 356, 357, 358, 237, 238, 239, 663, 664, 665, 666, 667, 668, 669, 670, 684, 685, 686, 687, 688, 689, 690, 691, 692, 693, 694, 695, 696, 697, 698, 699, 700, 701, 702] (by decide +kernel) (by decide +kernel)) (goodIn_sub (fun _ h => List.mem_append_left _ (List.mem_append_left _ (List.mem_append_right _ h))) (by decide +kernel))
set_option maxRecDepth 20000 in
theorem gL_law_L_runScript : GoodIn wsL_law (va_wsS RL 182 yL_runScript wsL_runScript) := goodIn_app (goodIn_of _ (by decide +kernel)) ggL_law_L_runScript
set_option maxRecDepth 20000 in
theorem ggL_law_X4_runScript : GoodIn wsL_law wsX4_runScript := goodIn_r _ [615, 292, 616, 617, 244, 62, 63, 94, 95, 5, 96, 97, 98, 99, 100, 101, 201, 202, 203, 618, 619, 620, 621, 407, 383, 345, 346, 347, 293, 294, 295, 289, 290, 291, 277, 278, 279, 280, 281, 282, 283, 284, 285, 286, 287, 288, 227, 228, 229, 384, 385, 386, 403, 404, 405, 406, 408, 409, 410, 428, 429, 430, 472, 473, 474, 363, 364, 365, 671, 672, 673, 674, 675, 676, 677, 678, 679, 680, 681] (by decide +kernel) (by decide +kernel)
set_option maxRecDepth 20000 in
theorem gL_law_X4_runScript : GoodIn wsL_law (wsV RL 185 RX4 yX4_runScript wsX4_runScript) := goodIn_app (goodIn_of _ (by decide +kernel)) ggL_law_X4_runScript
set_option maxRecDepth 20000 in
theorem ggL_law_L_simulate : GoodIn wsL_law wsL_simulate := goodIn_ca (goodIn_r _ [624, 71, 625, 626, 627, 2, 628, 77, 78, 22, 21, 629, 630, 81, 82, 83, 314, 20, 315, 316, 35, 36, 37, 38, 39, 172, 40, 173, 174, 175, 176, 177, 42, 55, 178, 46, 317, 45, 318, 319, 188, 189, 50, 631, 632, 633, 634, 373, 374, 375, 376, 377, 378, 324, 325, 309, 326, 446, 447, 448, 449, 320, 321, 322, 323, 308, 310, 327, 252, 253, 254, 255, 256, 257, 258, 259, 260, 328, 261, 262, 263, 329, 268, 269, 270, 271, 214, 215, 216, 217, 218, 219, 220, 221, 330, 331, 332, 333, 334, 335, 336, 663, 664, 665, 666, 667, 668, 669, 670, 684, 685, 686, 687, 688, 689, 690, 691, 692, 693, 694, 695, 696, 697, 698, 699, 700, 701, 702] (by decide +kernel) (by decide +kernel)) (goodIn_sub (fun _ h => List.mem_append_left _ (List.mem_append_left _ (List.mem_append_right _ h))) (by decide +kernel))
set_option maxRecDepth 20000 in
theorem gL_law_L_simulate : GoodIn wsL_law (va_wsS RL 186 yL_simulate wsL_simulate) := goodIn_app (goodIn_of _ (by decide +kernel)) ggL_law_L_simulate
set_option maxRecDepth 20000 in
theorem ggL_law_X4_simulate : GoodIn wsL_law wsX4_simulate := goodIn_r _ [638, 407, 62, 63, 639, 640, 94, 95, 5, 96, 97, 98, 99, 100, 101, 201, 202, 203, 384, 385, 386, 454, 455, 456, 345, 346, 347, 293, 294, 295, 289, 290, 291, 292, 277, 278, 279, 280, 281, 282, 283, 284, 285, 286, 287, 288, 227, 228, 229, 671, 672, 673, 674, 675, 676, 677, 678, 679, 680, 681] (by decide +kernel) (by decide +kernel)
set_option maxRecDepth 20000 in
theorem gL_law_X4_simulate : GoodIn wsL_law (wsV RL 189 RX4 yX4_simulate wsX4_simulate) := goodIn_app (goodIn_of _ (by decide +kernel)) ggL_law_X4_simulate
set_option maxRecDepth 20000 in
theorem ggL_law_L_save : GoodIn wsL_law wsL_save := goodIn_ca (goodIn_r _ [643, 414, 644, 645, 646, 2, 647, 419, 420, 26, 24, 21, 81, 82, 83, 311, 312, 313, 314, 20, 315, 316, 35, 36, 37, 38, 39, 172, 40, 173, 174, 175, 176, 177, 42, 55, 178, 46, 317, 45, 318, 319, 188, 189, 50, 663, 664, 665, 666, 667, 668, 669, 670, 684, 685, 686, 687, 688, 689, 690, 691, 692, 693, 694, 695, 696, 697, 698, 699, 700, 701, 702] (by decide +kernel) (by decide +kernel)) (goodIn_sub (fun _ h => List.mem_append_right _ h) (by decide +kernel))
set_option maxRecDepth 20000 in
theorem gL_law_L_save : GoodIn wsL_law (va_wsS RL 190 yL_save wsL_save) := goodIn_app (goodIn_of _ (by decide +kernel)) ggL_law_L_save
set_option maxRecDepth 20000 in
theorem ggL_law_X4_save : GoodIn wsL_law wsX4_save := goodIn_r _ [651, 66, 62, 65, 94, 95, 5, 96, 97, 98, 99, 100, 101, 201, 202, 203, 671, 672, 673, 674, 675, 676, 677, 678, 679, 680, 681] (by decide +kernel) (by decide +kernel)
set_option maxRecDepth 20000 in
theorem gL_law_X4_save : GoodIn wsL_law (wsV RL 192 RX4 yX4_save wsX4_save) := goodIn_app (goodIn_of _ (by decide +kernel)) ggL_law_X4_save
set_option maxRecDepth 20000 in
theorem ggL_law_L_restore : GoodIn wsL_law wsL_restore := goodIn_ca (goodIn_ca (goodIn_r _ [654, 414, 72, 655, 656, 657, 2, 658, 419, 420, 79, 80, 26, 21, 24, 81, 82, 83, 311, 312, 313, 314, 20, 315, 316, 35, 36, 37, 38, 39, 172, 40, 173, 174, 175, 176, 177, 42, 55, 178, 46, 317, 45, 318, 319, 188, 189, 50, 190, 191, 192, 193, 194, 195, 663, 664, 665, 666, 667, 668, 669, 670, 684, 685, 686, 687, 688, 689, 690, 691, 692, 693, 694, 695, 696, 697, 698, 699, 700, 701, 702] (by decide +kernel) (by decide +kernel)) (goodIn_sub (fun _ h => List.mem_append_right _ h) (by decide +kernel))) (goodIn_sub (fun _ h => List.mem_append_left _ (List.mem_append_right _ h)) (by decide +kernel))
set_option maxRecDepth 20000 in
theorem gL_law_L_restore : GoodIn wsL_law (va_wsS RL 193 yL_restore wsL_restore) := goodIn_app (goodIn_of _ (by decide +kernel)) ggL_law_L_restore
set_option maxRecDepth 20000 in
theorem ggL_law_X4_restore : GoodIn wsL_law wsX4_restore := goodIn_r _ [662, 66, 65, 62, 200, 94, 95, 5, 96, 97, 98, 99, 100, 101, 201, 202, 203, 671, 672, 673, 674, 675, 676, 677, 678, 679, 680, 681] (by decide +kernel) (by decide +kernel)
set_option maxRecDepth 20000 in
theorem gL_law_X4_restore : GoodIn wsL_law (wsV RL 195 RX4 yX4_restore wsX4_restore) := goodIn_app (goodIn_of _ (by decide +kernel)) ggL_law_X4_restore
