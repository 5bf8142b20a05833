theorem dX4_bestR_0 : decode cX4_bestR 0 = .ok (.aload_n 0, 1) := by decide +kernel
theorem dX4_bestR_1 : decode cX4_bestR 1 = .ok (.aload_n 0, 1) := by decide +kernel
theorem dX4_bestR_2 : decode cX4_bestR 2 = .ok (.getfield 16, 3) := by decide +kernel
theorem dX4_bestR_5 : decode cX4_bestR 5 = .ok (.iload_n 1, 1) := by decide +kernel
theorem dX4_bestR_6 : decode cX4_bestR 6 = .ok (.invokestatic 139, 3) := by decide +kernel
theorem dX4_bestR_9 : decode cX4_bestR 9 = .ok (.ifCond .eq 7, 3) := by decide +kernel
theorem dX4_bestR_12 : decode cX4_bestR 12 = .ok (.iconst 0, 1) := by decide +kernel
theorem dX4_bestR_13 : decode cX4_bestR 13 = .ok (.goto 4, 3) := by decide +kernel
theorem dX4_bestR_16 : decode cX4_bestR 16 = .ok (.iconst 1, 1) := by decide +kernel
theorem dX4_bestR_17 : decode cX4_bestR 17 = .ok (.invokevirtual 95, 3) := by decide +kernel
theorem dX4_bestR_20 : decode cX4_bestR 20 = .ok (.ifCond .eq 5, 3) := by decide +kernel
theorem dX4_bestR_23 : decode cX4_bestR 23 = .ok (.iconst 0, 1) := by decide +kernel
theorem dX4_bestR_24 : decode cX4_bestR 24 = .ok (.ireturn, 1) := by decide +kernel
theorem dX4_bestR_25 : decode cX4_bestR 25 = .ok (.iconst 0, 1) := by decide +kernel
theorem dX4_bestR_26 : decode cX4_bestR 26 = .ok (.istore_n 2, 1) := by decide +kernel
theorem dX4_bestR_27 : decode cX4_bestR 27 = .ok (.iconst 1, 1) := by decide +kernel
theorem dX4_bestR_28 : decode cX4_bestR 28 = .ok (.istore_n 3, 1) := by decide +kernel
theorem dX4_bestR_29 : decode cX4_bestR 29 = .ok (.iload_n 3, 1) := by decide +kernel
theorem dX4_bestR_30 : decode cX4_bestR 30 = .ok (.sipush 9999, 3) := by decide +kernel
theorem dX4_bestR_33 : decode cX4_bestR 33 = .ok (.if_icmp .gt 58, 3) := by decide +kernel
theorem dX4_bestR_36 : decode cX4_bestR 36 = .ok (.aload_n 0, 1) := by decide +kernel
theorem dX4_bestR_37 : decode cX4_bestR 37 = .ok (.getfield 16, 3) := by decide +kernel
theorem dX4_bestR_40 : decode cX4_bestR 40 = .ok (.aload_n 0, 1) := by decide +kernel
theorem dX4_bestR_41 : decode cX4_bestR 41 = .ok (.getfield 16, 3) := by decide +kernel
theorem dX4_bestR_44 : decode cX4_bestR 44 = .ok (.bipush 15, 2) := by decide +kernel
theorem dX4_bestR_46 : decode cX4_bestR 46 = .ok (.iload_n 1, 1) := by decide +kernel
theorem dX4_bestR_47 : decode cX4_bestR 47 = .ok (.iadd, 1) := by decide +kernel
theorem dX4_bestR_48 : decode cX4_bestR 48 = .ok (.iaload, 1) := by decide +kernel
theorem dX4_bestR_49 : decode cX4_bestR 49 = .ok (.iload_n 3, 1) := by decide +kernel
theorem dX4_bestR_50 : decode cX4_bestR 50 = .ok (.invokestatic 62, 3) := by decide +kernel
theorem dX4_bestR_53 : decode cX4_bestR 53 = .ok (.invokestatic 152, 3) := by decide +kernel
theorem dX4_bestR_56 : decode cX4_bestR 56 = .ok (.aload_n 0, 1) := by decide +kernel
theorem dX4_bestR_57 : decode cX4_bestR 57 = .ok (.getfield 16, 3) := by decide +kernel
theorem dX4_bestR_60 : decode cX4_bestR 60 = .ok (.aload_n 0, 1) := by decide +kernel
theorem dX4_bestR_61 : decode cX4_bestR 61 = .ok (.getfield 16, 3) := by decide +kernel
theorem dX4_bestR_64 : decode cX4_bestR 64 = .ok (.bipush 15, 2) := by decide +kernel
theorem dX4_bestR_66 : decode cX4_bestR 66 = .ok (.iload_n 1, 1) := by decide +kernel
theorem dX4_bestR_67 : decode cX4_bestR 67 = .ok (.iadd, 1) := by decide +kernel
theorem dX4_bestR_68 : decode cX4_bestR 68 = .ok (.iaload, 1) := by decide +kernel
theorem dX4_bestR_69 : decode cX4_bestR 69 = .ok (.iload_n 2, 1) := by decide +kernel
theorem dX4_bestR_70 : decode cX4_bestR 70 = .ok (.invokestatic 62, 3) := by decide +kernel
theorem dX4_bestR_73 : decode cX4_bestR 73 = .ok (.invokestatic 152, 3) := by decide +kernel
theorem dX4_bestR_76 : decode cX4_bestR 76 = .ok (.if_icmp .ge 7, 3) := by decide +kernel
theorem dX4_bestR_79 : decode cX4_bestR 79 = .ok (.iload_n 3, 1) := by decide +kernel
theorem dX4_bestR_80 : decode cX4_bestR 80 = .ok (.goto 4, 3) := by decide +kernel
theorem dX4_bestR_83 : decode cX4_bestR 83 = .ok (.iload_n 2, 1) := by decide +kernel
theorem dX4_bestR_84 : decode cX4_bestR 84 = .ok (.istore_n 2, 1) := by decide +kernel
theorem dX4_bestR_85 : decode cX4_bestR 85 = .ok (.iinc 3 1, 3) := by decide +kernel
theorem dX4_bestR_88 : decode cX4_bestR 88 = .ok (.goto (-59), 3) := by decide +kernel
theorem dX4_bestR_91 : decode cX4_bestR 91 = .ok (.iload_n 2, 1) := by decide +kernel
theorem dX4_bestR_92 : decode cX4_bestR 92 = .ok (.ireturn, 1) := by decide +kernel
set_option maxRecDepth 20000 in
theorem ggX4_bestArms_X4_isUnknown : GoodIn wsX4_bestArms wsX4_isUnknown := goodIn_r _ [5, 6, 7, 4, 8] (by decide +kernel) (by decide +kernel)
set_option maxRecDepth 20000 in
theorem gX4_bestArms_X4_isUnknown : GoodIn wsX4_bestArms (va_wsS RX4 139 yX4_isUnknown wsX4_isUnknown) := goodIn_app (goodIn_of _ (by decide +kernel)) ggX4_bestArms_X4_isUnknown
set_option maxRecDepth 20000 in
theorem ggX4_bestArms_X4_refused : GoodIn wsX4_bestArms wsX4_refused := goodIn_r _ [12, 13, 17, 18, 19, 20, 21, 22, 23, 24, 25, 26, 27] (by decide +kernel) (by decide +kernel)
set_option maxRecDepth 20000 in
theorem gX4_bestArms_X4_refused : GoodIn wsX4_bestArms (wsV RX4 95 RX4 yX4_refused wsX4_refused) := goodIn_app (goodIn_of _ (by decide +kernel)) ggX4_bestArms_X4_refused
set_option maxRecDepth 20000 in
theorem ggX4_bestArms_X4_ten : GoodIn wsX4_bestArms wsX4_ten := goodIn_r _ [16] (by decide +kernel) (by decide +kernel)
set_option maxRecDepth 20000 in
theorem gX4_bestArms_X4_ten : GoodIn wsX4_bestArms (va_wsS RX4 52 yX4_ten wsX4_ten) := goodIn_app (goodIn_of _ (by decide +kernel)) ggX4_bestArms_X4_ten
theorem dX4_bestArms_0 : decode cX4_bestArms 0 = .ok (.aload_n 0, 1) := by decide +kernel
theorem dX4_bestArms_1 : decode cX4_bestArms 1 = .ok (.aload_n 0, 1) := by decide +kernel
theorem dX4_bestArms_2 : decode cX4_bestArms 2 = .ok (.getfield 16, 3) := by decide +kernel
theorem dX4_bestArms_5 : decode cX4_bestArms 5 = .ok (.iload_n 1, 1) := by decide +kernel
theorem dX4_bestArms_6 : decode cX4_bestArms 6 = .ok (.invokestatic 139, 3) := by decide +kernel
theorem dX4_bestArms_9 : decode cX4_bestArms 9 = .ok (.ifCond .eq 7, 3) := by decide +kernel
theorem dX4_bestArms_12 : decode cX4_bestArms 12 = .ok (.iconst 0, 1) := by decide +kernel
theorem dX4_bestArms_13 : decode cX4_bestArms 13 = .ok (.goto 4, 3) := by decide +kernel
theorem dX4_bestArms_16 : decode cX4_bestArms 16 = .ok (.iconst 1, 1) := by decide +kernel
theorem dX4_bestArms_17 : decode cX4_bestArms 17 = .ok (.invokevirtual 95, 3) := by decide +kernel
theorem dX4_bestArms_20 : decode cX4_bestArms 20 = .ok (.ifCond .eq 5, 3) := by decide +kernel
theorem dX4_bestArms_23 : decode cX4_bestArms 23 = .ok (.iconst 0, 1) := by decide +kernel
theorem dX4_bestArms_24 : decode cX4_bestArms 24 = .ok (.ireturn, 1) := by decide +kernel
theorem dX4_bestArms_25 : decode cX4_bestArms 25 = .ok (.sipush (-9999), 3) := by decide +kernel
theorem dX4_bestArms_28 : decode cX4_bestArms 28 = .ok (.istore_n 2, 1) := by decide +kernel
theorem dX4_bestArms_29 : decode cX4_bestArms 29 = .ok (.bipush (-9), 2) := by decide +kernel
theorem dX4_bestArms_31 : decode cX4_bestArms 31 = .ok (.istore_n 3, 1) := by decide +kernel
theorem dX4_bestArms_32 : decode cX4_bestArms 32 = .ok (.iconst 0, 1) := by decide +kernel
theorem dX4_bestArms_33 : decode cX4_bestArms 33 = .ok (.istore 4, 2) := by decide +kernel
theorem dX4_bestArms_35 : decode cX4_bestArms 35 = .ok (.iload 4, 2) := by decide +kernel
theorem dX4_bestArms_37 : decode cX4_bestArms 37 = .ok (.bipush 16, 2) := by decide +kernel
theorem dX4_bestArms_39 : decode cX4_bestArms 39 = .ok (.if_icmp .ge 84, 3) := by decide +kernel
theorem dX4_bestArms_42 : decode cX4_bestArms 42 = .ok (.iload 4, 2) := by decide +kernel
theorem dX4_bestArms_44 : decode cX4_bestArms 44 = .ok (.iconst 4, 1) := by decide +kernel
theorem dX4_bestArms_45 : decode cX4_bestArms 45 = .ok (.idiv, 1) := by decide +kernel
theorem dX4_bestArms_46 : decode cX4_bestArms 46 = .ok (.istore 5, 2) := by decide +kernel
theorem dX4_bestArms_48 : decode cX4_bestArms 48 = .ok (.iload 4, 2) := by decide +kernel
theorem dX4_bestArms_50 : decode cX4_bestArms 50 = .ok (.iconst 4, 1) := by decide +kernel
theorem dX4_bestArms_51 : decode cX4_bestArms 51 = .ok (.irem, 1) := by decide +kernel
theorem dX4_bestArms_52 : decode cX4_bestArms 52 = .ok (.istore 6, 2) := by decide +kernel
theorem dX4_bestArms_54 : decode cX4_bestArms 54 = .ok (.aload_n 0, 1) := by decide +kernel
theorem dX4_bestArms_55 : decode cX4_bestArms 55 = .ok (.getfield 16, 3) := by decide +kernel
theorem dX4_bestArms_58 : decode cX4_bestArms 58 = .ok (.bipush 15, 2) := by decide +kernel
theorem dX4_bestArms_60 : decode cX4_bestArms 60 = .ok (.iload_n 1, 1) := by decide +kernel
theorem dX4_bestArms_61 : decode cX4_bestArms 61 = .ok (.iadd, 1) := by decide +kernel
theorem dX4_bestArms_62 : decode cX4_bestArms 62 = .ok (.iaload, 1) := by decide +kernel
theorem dX4_bestArms_63 : decode cX4_bestArms 63 = .ok (.iload 6, 2) := by decide +kernel
theorem dX4_bestArms_65 : decode cX4_bestArms 65 = .ok (.invokestatic 52, 3) := by decide +kernel
theorem dX4_bestArms_68 : decode cX4_bestArms 68 = .ok (.imul, 1) := by decide +kernel
theorem dX4_bestArms_69 : decode cX4_bestArms 69 = .ok (.sipush 9999, 3) := by decide +kernel
theorem dX4_bestArms_72 : decode cX4_bestArms 72 = .ok (.iload 5, 2) := by decide +kernel
theorem dX4_bestArms_74 : decode cX4_bestArms 74 = .ok (.invokestatic 52, 3) := by decide +kernel
theorem dX4_bestArms_77 : decode cX4_bestArms 77 = .ok (.imul, 1) := by decide +kernel
theorem dX4_bestArms_78 : decode cX4_bestArms 78 = .ok (.if_icmp .gt 7, 3) := by decide +kernel
theorem dX4_bestArms_81 : decode cX4_bestArms 81 = .ok (.iconst 1, 1) := by decide +kernel
theorem dX4_bestArms_82 : decode cX4_bestArms 82 = .ok (.goto 4, 3) := by decide +kernel
theorem dX4_bestArms_85 : decode cX4_bestArms 85 = .ok (.iconst 0, 1) := by decide +kernel
theorem dX4_bestArms_86 : decode cX4_bestArms 86 = .ok (.istore 7, 2) := by decide +kernel
theorem dX4_bestArms_88 : decode cX4_bestArms 88 = .ok (.iload 7, 2) := by decide +kernel
theorem dX4_bestArms_90 : decode cX4_bestArms 90 = .ok (.ifCond .eq 27, 3) := by decide +kernel
theorem dX4_bestArms_93 : decode cX4_bestArms 93 = .ok (.iload 6, 2) := by decide +kernel
theorem dX4_bestArms_95 : decode cX4_bestArms 95 = .ok (.iload 5, 2) := by decide +kernel
theorem dX4_bestArms_97 : decode cX4_bestArms 97 = .ok (.isub, 1) := by decide +kernel
theorem dX4_bestArms_98 : decode cX4_bestArms 98 = .ok (.iload_n 3, 1) := by decide +kernel
theorem dX4_bestArms_99 : decode cX4_bestArms 99 = .ok (.if_icmp .le 18, 3) := by decide +kernel
theorem dX4_bestArms_102 : decode cX4_bestArms 102 = .ok (.iload 6, 2) := by decide +kernel
theorem dX4_bestArms_104 : decode cX4_bestArms 104 = .ok (.iload 5, 2) := by decide +kernel
theorem dX4_bestArms_106 : decode cX4_bestArms 106 = .ok (.isub, 1) := by decide +kernel
theorem dX4_bestArms_107 : decode cX4_bestArms 107 = .ok (.istore_n 3, 1) := by decide +kernel
theorem dX4_bestArms_108 : decode cX4_bestArms 108 = .ok (.bipush 10, 2) := by decide +kernel
theorem dX4_bestArms_110 : decode cX4_bestArms 110 = .ok (.iload 5, 2) := by decide +kernel
theorem dX4_bestArms_112 : decode cX4_bestArms 112 = .ok (.imul, 1) := by decide +kernel
theorem dX4_bestArms_113 : decode cX4_bestArms 113 = .ok (.iload 6, 2) := by decide +kernel
theorem dX4_bestArms_115 : decode cX4_bestArms 115 = .ok (.iadd, 1) := by decide +kernel
theorem dX4_bestArms_116 : decode cX4_bestArms 116 = .ok (.istore_n 2, 1) := by decide +kernel
theorem dX4_bestArms_117 : decode cX4_bestArms 117 = .ok (.iinc 4 1, 3) := by decide +kernel
theorem dX4_bestArms_120 : decode cX4_bestArms 120 = .ok (.goto (-85), 3) := by decide +kernel
theorem dX4_bestArms_123 : decode cX4_bestArms 123 = .ok (.iload_n 2, 1) := by decide +kernel
theorem dX4_bestArms_124 : decode cX4_bestArms 124 = .ok (.ireturn, 1) := by decide +kernel
set_option maxRecDepth 20000 in
theorem ggX4_enoughShunt_X4_rawOf : GoodIn wsX4_enoughShunt wsX4_rawOf := goodIn_r _ [6, 7, 8, 5, 9, 10, 11, 12, 13, 14, 15, 16, 17, 18, 19, 20, 21, 22, 23, 24, 25] (by decide +kernel) (by decide +kernel)
set_option maxRecDepth 20000 in
theorem gX4_enoughShunt_X4_rawOf : GoodIn wsX4_enoughShunt (va_wsS RX4 75 yX4_rawOf wsX4_rawOf) := goodIn_app (goodIn_of _ (by decide +kernel)) ggX4_enoughShunt_X4_rawOf
set_option maxRecDepth 20000 in
theorem ggX4_enoughShunt_X4_size : GoodIn wsX4_enoughShunt wsX4_size := goodIn_r _ [28] (by decide +kernel) (by decide +kernel)
set_option maxRecDepth 20000 in
theorem gX4_enoughShunt_X4_size : GoodIn wsX4_enoughShunt (va_wsS RX4 152 yX4_size wsX4_size) := goodIn_app (goodIn_of _ (by decide +kernel)) ggX4_enoughShunt_X4_size
theorem dX4_enoughShunt_0 : decode cX4_enoughShunt 0 = .ok (.aload_n 0, 1) := by decide +kernel
theorem dX4_enoughShunt_1 : decode cX4_enoughShunt 1 = .ok (.iconst 0, 1) := by decide +kernel
theorem dX4_enoughShunt_2 : decode cX4_enoughShunt 2 = .ok (.putfield 32, 3) := by decide +kernel
theorem dX4_enoughShunt_5 : decode cX4_enoughShunt 5 = .ok (.iconst 0, 1) := by decide +kernel
theorem dX4_enoughShunt_6 : decode cX4_enoughShunt 6 = .ok (.istore_n 1, 1) := by decide +kernel
theorem dX4_enoughShunt_7 : decode cX4_enoughShunt 7 = .ok (.iload_n 1, 1) := by decide +kernel
theorem dX4_enoughShunt_8 : decode cX4_enoughShunt 8 = .ok (.iconst 4, 1) := by decide +kernel
theorem dX4_enoughShunt_9 : decode cX4_enoughShunt 9 = .ok (.if_icmp .ge 47, 3) := by decide +kernel
theorem dX4_enoughShunt_12 : decode cX4_enoughShunt 12 = .ok (.aload_n 0, 1) := by decide +kernel
theorem dX4_enoughShunt_13 : decode cX4_enoughShunt 13 = .ok (.getfield 16, 3) := by decide +kernel
theorem dX4_enoughShunt_16 : decode cX4_enoughShunt 16 = .ok (.iconst 0, 1) := by decide +kernel
theorem dX4_enoughShunt_17 : decode cX4_enoughShunt 17 = .ok (.iload_n 1, 1) := by decide +kernel
theorem dX4_enoughShunt_18 : decode cX4_enoughShunt 18 = .ok (.invokestatic 75, 3) := by decide +kernel
theorem dX4_enoughShunt_21 : decode cX4_enoughShunt 21 = .ok (.invokestatic 152, 3) := by decide +kernel
theorem dX4_enoughShunt_24 : decode cX4_enoughShunt 24 = .ok (.sipush 500, 3) := by decide +kernel
theorem dX4_enoughShunt_27 : decode cX4_enoughShunt 27 = .ok (.if_icmp .gt 23, 3) := by decide +kernel
theorem dX4_enoughShunt_30 : decode cX4_enoughShunt 30 = .ok (.aload_n 0, 1) := by decide +kernel
theorem dX4_enoughShunt_31 : decode cX4_enoughShunt 31 = .ok (.getfield 16, 3) := by decide +kernel
theorem dX4_enoughShunt_34 : decode cX4_enoughShunt 34 = .ok (.iconst 1, 1) := by decide +kernel
theorem dX4_enoughShunt_35 : decode cX4_enoughShunt 35 = .ok (.iload_n 1, 1) := by decide +kernel
theorem dX4_enoughShunt_36 : decode cX4_enoughShunt 36 = .ok (.invokestatic 75, 3) := by decide +kernel
theorem dX4_enoughShunt_39 : decode cX4_enoughShunt 39 = .ok (.invokestatic 152, 3) := by decide +kernel
theorem dX4_enoughShunt_42 : decode cX4_enoughShunt 42 = .ok (.sipush 500, 3) := by decide +kernel
theorem dX4_enoughShunt_45 : decode cX4_enoughShunt 45 = .ok (.if_icmp .gt 5, 3) := by decide +kernel
theorem dX4_enoughShunt_48 : decode cX4_enoughShunt 48 = .ok (.iload_n 1, 1) := by decide +kernel
theorem dX4_enoughShunt_49 : decode cX4_enoughShunt 49 = .ok (.ireturn, 1) := by decide +kernel
theorem dX4_enoughShunt_50 : decode cX4_enoughShunt 50 = .ok (.iinc 1 1, 3) := by decide +kernel
theorem dX4_enoughShunt_53 : decode cX4_enoughShunt 53 = .ok (.goto (-46), 3) := by decide +kernel
theorem dX4_enoughShunt_56 : decode cX4_enoughShunt 56 = .ok (.sipush (-9999), 3) := by decide +kernel
theorem dX4_enoughShunt_59 : decode cX4_enoughShunt 59 = .ok (.ireturn, 1) := by decide +kernel
set_option maxRecDepth 20000 in
theorem ggX4_sensitivity_X4_trueOf : GoodIn wsX4_sensitivity wsX4_trueOf := goodIn_r _ [6, 7, 8, 9, 5, 10, 11, 12, 13, 14, 15, 16, 17, 18, 19] (by decide +kernel) (by decide +kernel)
set_option maxRecDepth 20000 in
theorem gX4_sensitivity_X4_trueOf : GoodIn wsX4_sensitivity (va_wsS RX4 69 yX4_trueOf wsX4_trueOf) := goodIn_app (goodIn_of _ (by decide +kernel)) ggX4_sensitivity_X4_trueOf
set_option maxRecDepth 20000 in
theorem ggX4_sensitivity_X4_size : GoodIn wsX4_sensitivity wsX4_size := goodIn_r _ [22] (by decide +kernel) (by decide +kernel)
set_option maxRecDepth 20000 in
theorem gX4_sensitivity_X4_size : GoodIn wsX4_sensitivity (va_wsS RX4 152 yX4_size wsX4_size) := goodIn_app (goodIn_of _ (by decide +kernel)) ggX4_sensitivity_X4_size
theorem dX4_sensitivity_0 : decode cX4_sensitivity 0 = .ok (.aload_n 0, 1) := by decide +kernel
theorem dX4_sensitivity_1 : decode cX4_sensitivity 1 = .ok (.iconst 0, 1) := by decide +kernel
theorem dX4_sensitivity_2 : decode cX4_sensitivity 2 = .ok (.putfield 32, 3) := by decide +kernel
theorem dX4_sensitivity_5 : decode cX4_sensitivity 5 = .ok (.aload_n 0, 1) := by decide +kernel
theorem dX4_sensitivity_6 : decode cX4_sensitivity 6 = .ok (.getfield 16, 3) := by decide +kernel
theorem dX4_sensitivity_9 : decode cX4_sensitivity 9 = .ok (.aload_n 0, 1) := by decide +kernel
theorem dX4_sensitivity_10 : decode cX4_sensitivity 10 = .ok (.getfield 16, 3) := by decide +kernel
theorem dX4_sensitivity_13 : decode cX4_sensitivity 13 = .ok (.iconst 2, 1) := by decide +kernel
theorem dX4_sensitivity_14 : decode cX4_sensitivity 14 = .ok (.iaload, 1) := by decide +kernel
theorem dX4_sensitivity_15 : decode cX4_sensitivity 15 = .ok (.aload_n 0, 1) := by decide +kernel
theorem dX4_sensitivity_16 : decode cX4_sensitivity 16 = .ok (.getfield 16, 3) := by decide +kernel
theorem dX4_sensitivity_19 : decode cX4_sensitivity 19 = .ok (.iconst 4, 1) := by decide +kernel
theorem dX4_sensitivity_20 : decode cX4_sensitivity 20 = .ok (.iaload, 1) := by decide +kernel
theorem dX4_sensitivity_21 : decode cX4_sensitivity 21 = .ok (.invokestatic 69, 3) := by decide +kernel
theorem dX4_sensitivity_24 : decode cX4_sensitivity 24 = .ok (.istore_n 1, 1) := by decide +kernel
theorem dX4_sensitivity_25 : decode cX4_sensitivity 25 = .ok (.aload_n 0, 1) := by decide +kernel
theorem dX4_sensitivity_26 : decode cX4_sensitivity 26 = .ok (.getfield 16, 3) := by decide +kernel
theorem dX4_sensitivity_29 : decode cX4_sensitivity 29 = .ok (.iconst 2, 1) := by decide +kernel
theorem dX4_sensitivity_30 : decode cX4_sensitivity 30 = .ok (.iaload, 1) := by decide +kernel
theorem dX4_sensitivity_31 : decode cX4_sensitivity 31 = .ok (.sipush 9999, 3) := by decide +kernel
theorem dX4_sensitivity_34 : decode cX4_sensitivity 34 = .ok (.if_icmp .ge 32, 3) := by decide +kernel
theorem dX4_sensitivity_37 : decode cX4_sensitivity 37 = .ok (.aload_n 0, 1) := by decide +kernel
theorem dX4_sensitivity_38 : decode cX4_sensitivity 38 = .ok (.getfield 16, 3) := by decide +kernel
theorem dX4_sensitivity_41 : decode cX4_sensitivity 41 = .ok (.aload_n 0, 1) := by decide +kernel
theorem dX4_sensitivity_42 : decode cX4_sensitivity 42 = .ok (.getfield 16, 3) := by decide +kernel
theorem dX4_sensitivity_45 : decode cX4_sensitivity 45 = .ok (.iconst 2, 1) := by decide +kernel
theorem dX4_sensitivity_46 : decode cX4_sensitivity 46 = .ok (.iaload, 1) := by decide +kernel
theorem dX4_sensitivity_47 : decode cX4_sensitivity 47 = .ok (.iconst 1, 1) := by decide +kernel
theorem dX4_sensitivity_48 : decode cX4_sensitivity 48 = .ok (.iadd, 1) := by decide +kernel
theorem dX4_sensitivity_49 : decode cX4_sensitivity 49 = .ok (.aload_n 0, 1) := by decide +kernel
theorem dX4_sensitivity_50 : decode cX4_sensitivity 50 = .ok (.getfield 16, 3) := by decide +kernel
theorem dX4_sensitivity_53 : decode cX4_sensitivity 53 = .ok (.iconst 4, 1) := by decide +kernel
theorem dX4_sensitivity_54 : decode cX4_sensitivity 54 = .ok (.iaload, 1) := by decide +kernel
theorem dX4_sensitivity_55 : decode cX4_sensitivity 55 = .ok (.invokestatic 69, 3) := by decide +kernel
theorem dX4_sensitivity_58 : decode cX4_sensitivity 58 = .ok (.iload_n 1, 1) := by decide +kernel
theorem dX4_sensitivity_59 : decode cX4_sensitivity 59 = .ok (.isub, 1) := by decide +kernel
theorem dX4_sensitivity_60 : decode cX4_sensitivity 60 = .ok (.invokestatic 152, 3) := by decide +kernel
theorem dX4_sensitivity_63 : decode cX4_sensitivity 63 = .ok (.goto 4, 3) := by decide +kernel
theorem dX4_sensitivity_66 : decode cX4_sensitivity 66 = .ok (.iconst 0, 1) := by decide +kernel
theorem dX4_sensitivity_67 : decode cX4_sensitivity 67 = .ok (.istore_n 2, 1) := by decide +kernel
theorem dX4_sensitivity_68 : decode cX4_sensitivity 68 = .ok (.aload_n 0, 1) := by decide +kernel
theorem dX4_sensitivity_69 : decode cX4_sensitivity 69 = .ok (.getfield 16, 3) := by decide +kernel
theorem dX4_sensitivity_72 : decode cX4_sensitivity 72 = .ok (.iconst 2, 1) := by decide +kernel
theorem dX4_sensitivity_73 : decode cX4_sensitivity 73 = .ok (.iaload, 1) := by decide +kernel
theorem dX4_sensitivity_74 : decode cX4_sensitivity 74 = .ok (.ifCond .le 32, 3) := by decide +kernel
theorem dX4_sensitivity_77 : decode cX4_sensitivity 77 = .ok (.aload_n 0, 1) := by decide +kernel
theorem dX4_sensitivity_78 : decode cX4_sensitivity 78 = .ok (.getfield 16, 3) := by decide +kernel
theorem dX4_sensitivity_81 : decode cX4_sensitivity 81 = .ok (.aload_n 0, 1) := by decide +kernel
theorem dX4_sensitivity_82 : decode cX4_sensitivity 82 = .ok (.getfield 16, 3) := by decide +kernel
theorem dX4_sensitivity_85 : decode cX4_sensitivity 85 = .ok (.iconst 2, 1) := by decide +kernel
theorem dX4_sensitivity_86 : decode cX4_sensitivity 86 = .ok (.iaload, 1) := by decide +kernel
theorem dX4_sensitivity_87 : decode cX4_sensitivity 87 = .ok (.iconst 1, 1) := by decide +kernel
theorem dX4_sensitivity_88 : decode cX4_sensitivity 88 = .ok (.isub, 1) := by decide +kernel
theorem dX4_sensitivity_89 : decode cX4_sensitivity 89 = .ok (.aload_n 0, 1) := by decide +kernel
theorem dX4_sensitivity_90 : decode cX4_sensitivity 90 = .ok (.getfield 16, 3) := by decide +kernel
theorem dX4_sensitivity_93 : decode cX4_sensitivity 93 = .ok (.iconst 4, 1) := by decide +kernel
theorem dX4_sensitivity_94 : decode cX4_sensitivity 94 = .ok (.iaload, 1) := by decide +kernel
theorem dX4_sensitivity_95 : decode cX4_sensitivity 95 = .ok (.invokestatic 69, 3) := by decide +kernel
theorem dX4_sensitivity_98 : decode cX4_sensitivity 98 = .ok (.iload_n 1, 1) := by decide +kernel
theorem dX4_sensitivity_99 : decode cX4_sensitivity 99 = .ok (.isub, 1) := by decide +kernel
theorem dX4_sensitivity_100 : decode cX4_sensitivity 100 = .ok (.invokestatic 152, 3) := by decide +kernel
theorem dX4_sensitivity_103 : decode cX4_sensitivity 103 = .ok (.goto 4, 3) := by decide +kernel
theorem dX4_sensitivity_106 : decode cX4_sensitivity 106 = .ok (.iconst 0, 1) := by decide +kernel
theorem dX4_sensitivity_107 : decode cX4_sensitivity 107 = .ok (.istore_n 3, 1) := by decide +kernel
theorem dX4_sensitivity_108 : decode cX4_sensitivity 108 = .ok (.iload_n 2, 1) := by decide +kernel
theorem dX4_sensitivity_109 : decode cX4_sensitivity 109 = .ok (.iload_n 3, 1) := by decide +kernel
theorem dX4_sensitivity_110 : decode cX4_sensitivity 110 = .ok (.if_icmp .le 7, 3) := by decide +kernel
theorem dX4_sensitivity_113 : decode cX4_sensitivity 113 = .ok (.iload_n 2, 1) := by decide +kernel
theorem dX4_sensitivity_114 : decode cX4_sensitivity 114 = .ok (.goto 4, 3) := by decide +kernel
theorem dX4_sensitivity_117 : decode cX4_sensitivity 117 = .ok (.iload_n 3, 1) := by decide +kernel
theorem dX4_sensitivity_118 : decode cX4_sensitivity 118 = .ok (.ireturn, 1) := by decide +kernel
set_option maxRecDepth 20000 in
theorem ggX4_offsetAfter_X4_in : GoodIn wsX4_offsetAfter wsX4_in := goodIn_r _ [8] (by decide +kernel) (by decide +kernel)
set_option maxRecDepth 20000 in
theorem gX4_offsetAfter_X4_in : GoodIn wsX4_offsetAfter (va_wsS RX4 38 yX4_in wsX4_in) := goodIn_app (goodIn_of _ (by decide +kernel)) ggX4_offsetAfter_X4_in
set_option maxRecDepth 20000 in
theorem ggX4_offsetAfter_X4_refused : GoodIn wsX4_offsetAfter wsX4_refused := goodIn_r _ [12, 13, 23, 24, 25, 26, 27, 28, 29, 30, 31, 32, 33] (by decide +kernel) (by decide +kernel)
set_option maxRecDepth 20000 in
theorem gX4_offsetAfter_X4_refused : GoodIn wsX4_offsetAfter (wsV RX4 95 RX4 yX4_refused wsX4_refused) := goodIn_app (goodIn_of _ (by decide +kernel)) ggX4_offsetAfter_X4_refused
set_option maxRecDepth 20000 in
theorem ggX4_offsetAfter_X4_copyPage : GoodIn wsX4_offsetAfter wsX4_copyPage := goodIn_r _ [16] (by decide +kernel) (by decide +kernel)
set_option maxRecDepth 20000 in
theorem gX4_offsetAfter_X4_copyPage : GoodIn wsX4_offsetAfter (va_wsS RX4 119 yX4_copyPage wsX4_copyPage) := goodIn_app (goodIn_of _ (by decide +kernel)) ggX4_offsetAfter_X4_copyPage
set_option maxRecDepth 20000 in
theorem ggX4_offsetAfter_X4_waitOn : GoodIn wsX4_offsetAfter wsX4_waitOn := goodIn_r _ [19] (by decide +kernel) (by decide +kernel)
set_option maxRecDepth 20000 in
theorem gX4_offsetAfter_X4_waitOn : GoodIn wsX4_offsetAfter (va_wsS RX4 83 yX4_waitOn wsX4_waitOn) := goodIn_app (goodIn_of _ (by decide +kernel)) ggX4_offsetAfter_X4_waitOn
set_option maxRecDepth 20000 in
theorem ggX4_offsetAfter_X4_offsetOf : GoodIn wsX4_offsetAfter wsX4_offsetOf := goodIn_r _ [22] (by decide +kernel) (by decide +kernel)
set_option maxRecDepth 20000 in
theorem gX4_offsetAfter_X4_offsetOf : GoodIn wsX4_offsetAfter (va_wsS RX4 72 yX4_offsetOf wsX4_offsetOf) := goodIn_app (goodIn_of _ (by decide +kernel)) ggX4_offsetAfter_X4_offsetOf
theorem dX4_offsetAfter_0 : decode cX4_offsetAfter 0 = .ok (.aload_n 0, 1) := by decide +kernel
theorem dX4_offsetAfter_1 : decode cX4_offsetAfter 1 = .ok (.iload_n 1, 1) := by decide +kernel
theorem dX4_offsetAfter_2 : decode cX4_offsetAfter 2 = .ok (.i2l, 1) := by decide +kernel
theorem dX4_offsetAfter_3 : decode cX4_offsetAfter 3 = .ok (.lconst 0, 1) := by decide +kernel
theorem dX4_offsetAfter_4 : decode cX4_offsetAfter 4 = .ok (.ldc2_w 44, 3) := by decide +kernel
theorem dX4_offsetAfter_7 : decode cX4_offsetAfter 7 = .ok (.invokestatic 38, 3) := by decide +kernel
theorem dX4_offsetAfter_10 : decode cX4_offsetAfter 10 = .ok (.ifCond .eq 19, 3) := by decide +kernel
theorem dX4_offsetAfter_13 : decode cX4_offsetAfter 13 = .ok (.iload_n 2, 1) := by decide +kernel
theorem dX4_offsetAfter_14 : decode cX4_offsetAfter 14 = .ok (.i2l, 1) := by decide +kernel
theorem dX4_offsetAfter_15 : decode cX4_offsetAfter 15 = .ok (.lconst 0, 1) := by decide +kernel
theorem dX4_offsetAfter_16 : decode cX4_offsetAfter 16 = .ok (.ldc2_w 133, 3) := by decide +kernel
theorem dX4_offsetAfter_19 : decode cX4_offsetAfter 19 = .ok (.invokestatic 38, 3) := by decide +kernel
theorem dX4_offsetAfter_22 : decode cX4_offsetAfter 22 = .ok (.ifCond .eq 7, 3) := by decide +kernel
theorem dX4_offsetAfter_25 : decode cX4_offsetAfter 25 = .ok (.iconst 0, 1) := by decide +kernel
theorem dX4_offsetAfter_26 : decode cX4_offsetAfter 26 = .ok (.goto 4, 3) := by decide +kernel
theorem dX4_offsetAfter_29 : decode cX4_offsetAfter 29 = .ok (.iconst 1, 1) := by decide +kernel
theorem dX4_offsetAfter_30 : decode cX4_offsetAfter 30 = .ok (.invokevirtual 95, 3) := by decide +kernel
theorem dX4_offsetAfter_33 : decode cX4_offsetAfter 33 = .ok (.ifCond .eq 5, 3) := by decide +kernel
theorem dX4_offsetAfter_36 : decode cX4_offsetAfter 36 = .ok (.iconst 0, 1) := by decide +kernel
theorem dX4_offsetAfter_37 : decode cX4_offsetAfter 37 = .ok (.ireturn, 1) := by decide +kernel
theorem dX4_offsetAfter_38 : decode cX4_offsetAfter 38 = .ok (.aload_n 0, 1) := by decide +kernel
theorem dX4_offsetAfter_39 : decode cX4_offsetAfter 39 = .ok (.getfield 16, 3) := by decide +kernel
theorem dX4_offsetAfter_42 : decode cX4_offsetAfter 42 = .ok (.iconst 0, 1) := by decide +kernel
theorem dX4_offsetAfter_43 : decode cX4_offsetAfter 43 = .ok (.aload_n 0, 1) := by decide +kernel
theorem dX4_offsetAfter_44 : decode cX4_offsetAfter 44 = .ok (.getfield 19, 3) := by decide +kernel
theorem dX4_offsetAfter_47 : decode cX4_offsetAfter 47 = .ok (.iconst 0, 1) := by decide +kernel
theorem dX4_offsetAfter_48 : decode cX4_offsetAfter 48 = .ok (.invokestatic 119, 3) := by decide +kernel
theorem dX4_offsetAfter_51 : decode cX4_offsetAfter 51 = .ok (.iconst 0, 1) := by decide +kernel
theorem dX4_offsetAfter_52 : decode cX4_offsetAfter 52 = .ok (.istore_n 3, 1) := by decide +kernel
theorem dX4_offsetAfter_53 : decode cX4_offsetAfter 53 = .ok (.iload_n 3, 1) := by decide +kernel
theorem dX4_offsetAfter_54 : decode cX4_offsetAfter 54 = .ok (.iload_n 1, 1) := by decide +kernel
theorem dX4_offsetAfter_55 : decode cX4_offsetAfter 55 = .ok (.if_icmp .ge 56, 3) := by decide +kernel
theorem dX4_offsetAfter_58 : decode cX4_offsetAfter 58 = .ok (.aload_n 0, 1) := by decide +kernel
theorem dX4_offsetAfter_59 : decode cX4_offsetAfter 59 = .ok (.getfield 19, 3) := by decide +kernel
theorem dX4_offsetAfter_62 : decode cX4_offsetAfter 62 = .ok (.bipush 7, 2) := by decide +kernel
theorem dX4_offsetAfter_64 : decode cX4_offsetAfter 64 = .ok (.aload_n 0, 1) := by decide +kernel
theorem dX4_offsetAfter_65 : decode cX4_offsetAfter 65 = .ok (.getfield 19, 3) := by decide +kernel
theorem dX4_offsetAfter_68 : decode cX4_offsetAfter 68 = .ok (.bipush 7, 2) := by decide +kernel
theorem dX4_offsetAfter_70 : decode cX4_offsetAfter 70 = .ok (.iaload, 1) := by decide +kernel
theorem dX4_offsetAfter_71 : decode cX4_offsetAfter 71 = .ok (.aload_n 0, 1) := by decide +kernel
theorem dX4_offsetAfter_72 : decode cX4_offsetAfter 72 = .ok (.getfield 19, 3) := by decide +kernel
theorem dX4_offsetAfter_75 : decode cX4_offsetAfter 75 = .ok (.iconst 3, 1) := by decide +kernel
theorem dX4_offsetAfter_76 : decode cX4_offsetAfter 76 = .ok (.iaload, 1) := by decide +kernel
theorem dX4_offsetAfter_77 : decode cX4_offsetAfter 77 = .ok (.iadd, 1) := by decide +kernel
theorem dX4_offsetAfter_78 : decode cX4_offsetAfter 78 = .ok (.sipush 9999, 3) := by decide +kernel
theorem dX4_offsetAfter_81 : decode cX4_offsetAfter 81 = .ok (.if_icmp .le 9, 3) := by decide +kernel
theorem dX4_offsetAfter_84 : decode cX4_offsetAfter 84 = .ok (.sipush 9999, 3) := by decide +kernel
theorem dX4_offsetAfter_87 : decode cX4_offsetAfter 87 = .ok (.goto 17, 3) := by decide +kernel
theorem dX4_offsetAfter_90 : decode cX4_offsetAfter 90 = .ok (.aload_n 0, 1) := by decide +kernel
theorem dX4_offsetAfter_91 : decode cX4_offsetAfter 91 = .ok (.getfield 19, 3) := by decide +kernel
theorem dX4_offsetAfter_94 : decode cX4_offsetAfter 94 = .ok (.bipush 7, 2) := by decide +kernel
theorem dX4_offsetAfter_96 : decode cX4_offsetAfter 96 = .ok (.iaload, 1) := by decide +kernel
theorem dX4_offsetAfter_97 : decode cX4_offsetAfter 97 = .ok (.aload_n 0, 1) := by decide +kernel
theorem dX4_offsetAfter_98 : decode cX4_offsetAfter 98 = .ok (.getfield 19, 3) := by decide +kernel
theorem dX4_offsetAfter_101 : decode cX4_offsetAfter 101 = .ok (.iconst 3, 1) := by decide +kernel
theorem dX4_offsetAfter_102 : decode cX4_offsetAfter 102 = .ok (.iaload, 1) := by decide +kernel
theorem dX4_offsetAfter_103 : decode cX4_offsetAfter 103 = .ok (.iadd, 1) := by decide +kernel
theorem dX4_offsetAfter_104 : decode cX4_offsetAfter 104 = .ok (.iastore, 1) := by decide +kernel
theorem dX4_offsetAfter_105 : decode cX4_offsetAfter 105 = .ok (.iinc 3 1, 3) := by decide +kernel
theorem dX4_offsetAfter_108 : decode cX4_offsetAfter 108 = .ok (.goto (-55), 3) := by decide +kernel
theorem dX4_offsetAfter_111 : decode cX4_offsetAfter 111 = .ok (.aload_n 0, 1) := by decide +kernel
theorem dX4_offsetAfter_112 : decode cX4_offsetAfter 112 = .ok (.getfield 19, 3) := by decide +kernel
theorem dX4_offsetAfter_115 : decode cX4_offsetAfter 115 = .ok (.iload_n 2, 1) := by decide +kernel
theorem dX4_offsetAfter_116 : decode cX4_offsetAfter 116 = .ok (.invokestatic 83, 3) := by decide +kernel
theorem dX4_offsetAfter_119 : decode cX4_offsetAfter 119 = .ok (.aload_n 0, 1) := by decide +kernel
theorem dX4_offsetAfter_120 : decode cX4_offsetAfter 120 = .ok (.getfield 19, 3) := by decide +kernel
theorem dX4_offsetAfter_123 : decode cX4_offsetAfter 123 = .ok (.invokestatic 72, 3) := by decide +kernel
theorem dX4_offsetAfter_126 : decode cX4_offsetAfter 126 = .ok (.ireturn, 1) := by decide +kernel
set_option maxRecDepth 20000 in
theorem ggX4_waitFor_X4_in : GoodIn wsX4_waitFor wsX4_in := goodIn_r _ [8] (by decide +kernel) (by decide +kernel)
set_option maxRecDepth 20000 in
theorem gX4_waitFor_X4_in : GoodIn wsX4_waitFor (va_wsS RX4 38 yX4_in wsX4_in) := goodIn_app (goodIn_of _ (by decide +kernel)) ggX4_waitFor_X4_in
set_option maxRecDepth 20000 in
theorem ggX4_waitFor_X4_refused : GoodIn wsX4_waitFor wsX4_refused := goodIn_r _ [12, 13, 23, 24, 25, 26, 27, 28, 29, 30, 31, 32, 33] (by decide +kernel) (by decide +kernel)
set_option maxRecDepth 20000 in
theorem gX4_waitFor_X4_refused : GoodIn wsX4_waitFor (wsV RX4 95 RX4 yX4_refused wsX4_refused) := goodIn_app (goodIn_of _ (by decide +kernel)) ggX4_waitFor_X4_refused
set_option maxRecDepth 20000 in
theorem ggX4_waitFor_X4_copyPage : GoodIn wsX4_waitFor wsX4_copyPage := goodIn_r _ [16] (by decide +kernel) (by decide +kernel)
set_option maxRecDepth 20000 in
theorem gX4_waitFor_X4_copyPage : GoodIn wsX4_waitFor (va_wsS RX4 119 yX4_copyPage wsX4_copyPage) := goodIn_app (goodIn_of _ (by decide +kernel)) ggX4_waitFor_X4_copyPage
set_option maxRecDepth 20000 in
theorem ggX4_waitFor_X4_offsetOf : GoodIn wsX4_waitFor wsX4_offsetOf := goodIn_r _ [19] (by decide +kernel) (by decide +kernel)
set_option maxRecDepth 20000 in
theorem gX4_waitFor_X4_offsetOf : GoodIn wsX4_waitFor (va_wsS RX4 72 yX4_offsetOf wsX4_offsetOf) := goodIn_app (goodIn_of _ (by decide +kernel)) ggX4_waitFor_X4_offsetOf
set_option maxRecDepth 20000 in
theorem ggX4_waitFor_X4_waitOn : GoodIn wsX4_waitFor wsX4_waitOn := goodIn_r _ [22] (by decide +kernel) (by decide +kernel)
set_option maxRecDepth 20000 in
theorem gX4_waitFor_X4_waitOn : GoodIn wsX4_waitFor (va_wsS RX4 83 yX4_waitOn wsX4_waitOn) := goodIn_app (goodIn_of _ (by decide +kernel)) ggX4_waitFor_X4_waitOn
theorem dX4_waitFor_0 : decode cX4_waitFor 0 = .ok (.aload_n 0, 1) := by decide +kernel
theorem dX4_waitFor_1 : decode cX4_waitFor 1 = .ok (.iload_n 1, 1) := by decide +kernel
theorem dX4_waitFor_2 : decode cX4_waitFor 2 = .ok (.i2l, 1) := by decide +kernel
theorem dX4_waitFor_3 : decode cX4_waitFor 3 = .ok (.ldc2_w 46, 3) := by decide +kernel
theorem dX4_waitFor_6 : decode cX4_waitFor 6 = .ok (.ldc2_w 155, 3) := by decide +kernel
theorem dX4_waitFor_9 : decode cX4_waitFor 9 = .ok (.invokestatic 38, 3) := by decide +kernel
theorem dX4_waitFor_12 : decode cX4_waitFor 12 = .ok (.ifCond .eq 7, 3) := by decide +kernel
theorem dX4_waitFor_15 : decode cX4_waitFor 15 = .ok (.iconst 0, 1) := by decide +kernel
theorem dX4_waitFor_16 : decode cX4_waitFor 16 = .ok (.goto 4, 3) := by decide +kernel
theorem dX4_waitFor_19 : decode cX4_waitFor 19 = .ok (.iconst 1, 1) := by decide +kernel
theorem dX4_waitFor_20 : decode cX4_waitFor 20 = .ok (.invokevirtual 95, 3) := by decide +kernel
theorem dX4_waitFor_23 : decode cX4_waitFor 23 = .ok (.ifCond .eq 5, 3) := by decide +kernel
theorem dX4_waitFor_26 : decode cX4_waitFor 26 = .ok (.iconst 0, 1) := by decide +kernel
theorem dX4_waitFor_27 : decode cX4_waitFor 27 = .ok (.ireturn, 1) := by decide +kernel
theorem dX4_waitFor_28 : decode cX4_waitFor 28 = .ok (.aload_n 0, 1) := by decide +kernel
theorem dX4_waitFor_29 : decode cX4_waitFor 29 = .ok (.getfield 16, 3) := by decide +kernel
theorem dX4_waitFor_32 : decode cX4_waitFor 32 = .ok (.iconst 0, 1) := by decide +kernel
theorem dX4_waitFor_33 : decode cX4_waitFor 33 = .ok (.aload_n 0, 1) := by decide +kernel
theorem dX4_waitFor_34 : decode cX4_waitFor 34 = .ok (.getfield 19, 3) := by decide +kernel
theorem dX4_waitFor_37 : decode cX4_waitFor 37 = .ok (.iconst 0, 1) := by decide +kernel
theorem dX4_waitFor_38 : decode cX4_waitFor 38 = .ok (.invokestatic 119, 3) := by decide +kernel
theorem dX4_waitFor_41 : decode cX4_waitFor 41 = .ok (.iconst 0, 1) := by decide +kernel
theorem dX4_waitFor_42 : decode cX4_waitFor 42 = .ok (.istore_n 2, 1) := by decide +kernel
theorem dX4_waitFor_43 : decode cX4_waitFor 43 = .ok (.iload_n 2, 1) := by decide +kernel
theorem dX4_waitFor_44 : decode cX4_waitFor 44 = .ok (.sipush 200, 3) := by decide +kernel
theorem dX4_waitFor_47 : decode cX4_waitFor 47 = .ok (.if_icmp .gt 30, 3) := by decide +kernel
theorem dX4_waitFor_50 : decode cX4_waitFor 50 = .ok (.aload_n 0, 1) := by decide +kernel
theorem dX4_waitFor_51 : decode cX4_waitFor 51 = .ok (.getfield 19, 3) := by decide +kernel
theorem dX4_waitFor_54 : decode cX4_waitFor 54 = .ok (.invokestatic 72, 3) := by decide +kernel
theorem dX4_waitFor_57 : decode cX4_waitFor 57 = .ok (.iload_n 1, 1) := by decide +kernel
theorem dX4_waitFor_58 : decode cX4_waitFor 58 = .ok (.if_icmp .gt 5, 3) := by decide +kernel
theorem dX4_waitFor_61 : decode cX4_waitFor 61 = .ok (.iload_n 2, 1) := by decide +kernel
theorem dX4_waitFor_62 : decode cX4_waitFor 62 = .ok (.ireturn, 1) := by decide +kernel
theorem dX4_waitFor_63 : decode cX4_waitFor 63 = .ok (.aload_n 0, 1) := by decide +kernel
theorem dX4_waitFor_64 : decode cX4_waitFor 64 = .ok (.getfield 19, 3) := by decide +kernel
theorem dX4_waitFor_67 : decode cX4_waitFor 67 = .ok (.iconst 1, 1) := by decide +kernel
theorem dX4_waitFor_68 : decode cX4_waitFor 68 = .ok (.invokestatic 83, 3) := by decide +kernel
theorem dX4_waitFor_71 : decode cX4_waitFor 71 = .ok (.iinc 2 1, 3) := by decide +kernel
theorem dX4_waitFor_74 : decode cX4_waitFor 74 = .ok (.goto (-31), 3) := by decide +kernel
theorem dX4_waitFor_77 : decode cX4_waitFor 77 = .ok (.sipush (-9999), 3) := by decide +kernel
theorem dX4_waitFor_80 : decode cX4_waitFor 80 = .ok (.ireturn, 1) := by decide +kernel
set_option maxRecDepth 20000 in
theorem ggX4_balanced_X4_in : GoodIn wsX4_balanced wsX4_in := goodIn_r _ [7] (by decide +kernel) (by decide +kernel)
set_option maxRecDepth 20000 in
theorem gX4_balanced_X4_in : GoodIn wsX4_balanced (va_wsS RX4 38 yX4_in wsX4_in) := goodIn_app (goodIn_of _ (by decide +kernel)) ggX4_balanced_X4_in
set_option maxRecDepth 20000 in
theorem ggX4_balanced_X4_refused : GoodIn wsX4_balanced wsX4_refused := goodIn_r _ [11, 12, 47, 48, 49, 50, 51, 52, 53, 54, 55, 56, 57] (by decide +kernel) (by decide +kernel)
set_option maxRecDepth 20000 in
theorem gX4_balanced_X4_refused : GoodIn wsX4_balanced (wsV RX4 95 RX4 yX4_refused wsX4_refused) := goodIn_app (goodIn_of _ (by decide +kernel)) ggX4_balanced_X4_refused
set_option maxRecDepth 20000 in
theorem ggX4_balanced_X4_copyPage : GoodIn wsX4_balanced wsX4_copyPage := goodIn_r _ [15] (by decide +kernel) (by decide +kernel)
set_option maxRecDepth 20000 in
theorem gX4_balanced_X4_copyPage : GoodIn wsX4_balanced (va_wsS RX4 119 yX4_copyPage wsX4_copyPage) := goodIn_app (goodIn_of _ (by decide +kernel)) ggX4_balanced_X4_copyPage
set_option maxRecDepth 20000 in
theorem ggX4_balanced_X4_balanceOn : GoodIn wsX4_balanced wsX4_balanceOn := goodIn_r _ [18, 19, 20, 6, 21, 22, 23, 24, 25, 26, 27, 28, 29, 30, 31, 32, 33, 34, 35, 36, 37, 38, 39, 40, 41, 42, 43, 44, 45, 46] (by decide +kernel) (by decide +kernel)
set_option maxRecDepth 20000 in
theorem gX4_balanced_X4_balanceOn : GoodIn wsX4_balanced (va_wsS RX4 147 yX4_balanceOn wsX4_balanceOn) := goodIn_app (goodIn_of _ (by decide +kernel)) ggX4_balanced_X4_balanceOn
