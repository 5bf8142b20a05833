theorem dX0_init_0 : decode cX0_init 0 = .ok (.aload_n 0, 1) := by decide +kernel
theorem dX0_init_1 : decode cX0_init 1 = .ok (.invokespecial 3, 3) := by decide +kernel
theorem dX0_init_4 : decode cX0_init 4 = .ok (.aload_n 0, 1) := by decide +kernel
theorem dX0_init_5 : decode cX0_init 5 = .ok (.bipush 80, 2) := by decide +kernel
theorem dX0_init_7 : decode cX0_init 7 = .ok (.newarray .int, 2) := by decide +kernel
theorem dX0_init_9 : decode cX0_init 9 = .ok (.putfield 11, 3) := by decide +kernel
theorem dX0_init_12 : decode cX0_init 12 = .ok (.return_, 1) := by decide +kernel
theorem dX0_write_0 : decode cX0_write 0 = .ok (.aload_n 0, 1) := by decide +kernel
theorem dX0_write_1 : decode cX0_write 1 = .ok (.getfield 15, 3) := by decide +kernel
theorem dX0_write_4 : decode cX0_write 4 = .ok (.iconst 4, 1) := by decide +kernel
theorem dX0_write_5 : decode cX0_write 5 = .ok (.imul, 1) := by decide +kernel
theorem dX0_write_6 : decode cX0_write 6 = .ok (.istore 5, 2) := by decide +kernel
theorem dX0_write_8 : decode cX0_write 8 = .ok (.iload 5, 2) := by decide +kernel
theorem dX0_write_10 : decode cX0_write 10 = .ok (.ifCond .lt 54, 3) := by decide +kernel
theorem dX0_write_13 : decode cX0_write 13 = .ok (.iload 5, 2) := by decide +kernel
theorem dX0_write_15 : decode cX0_write 15 = .ok (.iconst 3, 1) := by decide +kernel
theorem dX0_write_16 : decode cX0_write 16 = .ok (.iadd, 1) := by decide +kernel
theorem dX0_write_17 : decode cX0_write 17 = .ok (.aload_n 0, 1) := by decide +kernel
theorem dX0_write_18 : decode cX0_write 18 = .ok (.getfield 11, 3) := by decide +kernel
theorem dX0_write_21 : decode cX0_write 21 = .ok (.arraylength, 1) := by decide +kernel
theorem dX0_write_22 : decode cX0_write 22 = .ok (.if_icmp .ge 42, 3) := by decide +kernel
theorem dX0_write_25 : decode cX0_write 25 = .ok (.aload_n 0, 1) := by decide +kernel
theorem dX0_write_26 : decode cX0_write 26 = .ok (.getfield 11, 3) := by decide +kernel
theorem dX0_write_29 : decode cX0_write 29 = .ok (.iload 5, 2) := by decide +kernel
theorem dX0_write_31 : decode cX0_write 31 = .ok (.iload_n 1, 1) := by decide +kernel
theorem dX0_write_32 : decode cX0_write 32 = .ok (.iastore, 1) := by decide +kernel
theorem dX0_write_33 : decode cX0_write 33 = .ok (.aload_n 0, 1) := by decide +kernel
theorem dX0_write_34 : decode cX0_write 34 = .ok (.getfield 11, 3) := by decide +kernel
theorem dX0_write_37 : decode cX0_write 37 = .ok (.iload 5, 2) := by decide +kernel
theorem dX0_write_39 : decode cX0_write 39 = .ok (.iconst 1, 1) := by decide +kernel
theorem dX0_write_40 : decode cX0_write 40 = .ok (.iadd, 1) := by decide +kernel
theorem dX0_write_41 : decode cX0_write 41 = .ok (.iload_n 2, 1) := by decide +kernel
theorem dX0_write_42 : decode cX0_write 42 = .ok (.iastore, 1) := by decide +kernel
theorem dX0_write_43 : decode cX0_write 43 = .ok (.aload_n 0, 1) := by decide +kernel
theorem dX0_write_44 : decode cX0_write 44 = .ok (.getfield 11, 3) := by decide +kernel
theorem dX0_write_47 : decode cX0_write 47 = .ok (.iload 5, 2) := by decide +kernel
theorem dX0_write_49 : decode cX0_write 49 = .ok (.iconst 2, 1) := by decide +kernel
theorem dX0_write_50 : decode cX0_write 50 = .ok (.iadd, 1) := by decide +kernel
theorem dX0_write_51 : decode cX0_write 51 = .ok (.iload_n 3, 1) := by decide +kernel
theorem dX0_write_52 : decode cX0_write 52 = .ok (.iastore, 1) := by decide +kernel
theorem dX0_write_53 : decode cX0_write 53 = .ok (.aload_n 0, 1) := by decide +kernel
theorem dX0_write_54 : decode cX0_write 54 = .ok (.getfield 11, 3) := by decide +kernel
theorem dX0_write_57 : decode cX0_write 57 = .ok (.iload 5, 2) := by decide +kernel
theorem dX0_write_59 : decode cX0_write 59 = .ok (.iconst 3, 1) := by decide +kernel
theorem dX0_write_60 : decode cX0_write 60 = .ok (.iadd, 1) := by decide +kernel
theorem dX0_write_61 : decode cX0_write 61 = .ok (.iload 4, 2) := by decide +kernel
theorem dX0_write_63 : decode cX0_write 63 = .ok (.iastore, 1) := by decide +kernel
theorem dX0_write_64 : decode cX0_write 64 = .ok (.aload_n 0, 1) := by decide +kernel
theorem dX0_write_65 : decode cX0_write 65 = .ok (.aload_n 0, 1) := by decide +kernel
theorem dX0_write_66 : decode cX0_write 66 = .ok (.getfield 15, 3) := by decide +kernel
theorem dX0_write_69 : decode cX0_write 69 = .ok (.bipush 19, 2) := by decide +kernel
theorem dX0_write_71 : decode cX0_write 71 = .ok (.if_icmp .ge 12, 3) := by decide +kernel
theorem dX0_write_74 : decode cX0_write 74 = .ok (.aload_n 0, 1) := by decide +kernel
theorem dX0_write_75 : decode cX0_write 75 = .ok (.getfield 15, 3) := by decide +kernel
theorem dX0_write_78 : decode cX0_write 78 = .ok (.iconst 1, 1) := by decide +kernel
theorem dX0_write_79 : decode cX0_write 79 = .ok (.iadd, 1) := by decide +kernel
theorem dX0_write_80 : decode cX0_write 80 = .ok (.goto 4, 3) := by decide +kernel
theorem dX0_write_83 : decode cX0_write 83 = .ok (.iconst 0, 1) := by decide +kernel
theorem dX0_write_84 : decode cX0_write 84 = .ok (.putfield 15, 3) := by decide +kernel
theorem dX0_write_87 : decode cX0_write 87 = .ok (.aload_n 0, 1) := by decide +kernel
theorem dX0_write_88 : decode cX0_write 88 = .ok (.bipush 20, 2) := by decide +kernel
theorem dX0_write_90 : decode cX0_write 90 = .ok (.aload_n 0, 1) := by decide +kernel
theorem dX0_write_91 : decode cX0_write 91 = .ok (.getfield 19, 3) := by decide +kernel
theorem dX0_write_94 : decode cX0_write 94 = .ok (.iconst 1, 1) := by decide +kernel
theorem dX0_write_95 : decode cX0_write 95 = .ok (.iadd, 1) := by decide +kernel
theorem dX0_write_96 : decode cX0_write 96 = .ok (.invokestatic 22, 3) := by decide +kernel
theorem dX0_write_99 : decode cX0_write 99 = .ok (.putfield 19, 3) := by decide +kernel
theorem dX0_write_102 : decode cX0_write 102 = .ok (.return_, 1) := by decide +kernel
theorem dX0_cell_0 : decode cX0_cell 0 = .ok (.iload_n 1, 1) := by decide +kernel
theorem dX0_cell_1 : decode cX0_cell 1 = .ok (.ifCond .lt 11, 3) := by decide +kernel
theorem dX0_cell_4 : decode cX0_cell 4 = .ok (.iload_n 1, 1) := by decide +kernel
theorem dX0_cell_5 : decode cX0_cell 5 = .ok (.aload_n 0, 1) := by decide +kernel
theorem dX0_cell_6 : decode cX0_cell 6 = .ok (.getfield 19, 3) := by decide +kernel
theorem dX0_cell_9 : decode cX0_cell 9 = .ok (.if_icmp .lt 7, 3) := by decide +kernel
theorem dX0_cell_12 : decode cX0_cell 12 = .ok (.sipush (-9999), 3) := by decide +kernel
theorem dX0_cell_15 : decode cX0_cell 15 = .ok (.ireturn, 1) := by decide +kernel
theorem dX0_cell_16 : decode cX0_cell 16 = .ok (.aload_n 0, 1) := by decide +kernel
theorem dX0_cell_17 : decode cX0_cell 17 = .ok (.getfield 15, 3) := by decide +kernel
theorem dX0_cell_20 : decode cX0_cell 20 = .ok (.bipush 20, 2) := by decide +kernel
theorem dX0_cell_22 : decode cX0_cell 22 = .ok (.iadd, 1) := by decide +kernel
theorem dX0_cell_23 : decode cX0_cell 23 = .ok (.iconst 1, 1) := by decide +kernel
theorem dX0_cell_24 : decode cX0_cell 24 = .ok (.isub, 1) := by decide +kernel
theorem dX0_cell_25 : decode cX0_cell 25 = .ok (.iload_n 1, 1) := by decide +kernel
theorem dX0_cell_26 : decode cX0_cell 26 = .ok (.isub, 1) := by decide +kernel
theorem dX0_cell_27 : decode cX0_cell 27 = .ok (.bipush 20, 2) := by decide +kernel
theorem dX0_cell_29 : decode cX0_cell 29 = .ok (.irem, 1) := by decide +kernel
theorem dX0_cell_30 : decode cX0_cell 30 = .ok (.istore_n 3, 1) := by decide +kernel
theorem dX0_cell_31 : decode cX0_cell 31 = .ok (.iload_n 3, 1) := by decide +kernel
theorem dX0_cell_32 : decode cX0_cell 32 = .ok (.iconst 4, 1) := by decide +kernel
theorem dX0_cell_33 : decode cX0_cell 33 = .ok (.imul, 1) := by decide +kernel
theorem dX0_cell_34 : decode cX0_cell 34 = .ok (.iload_n 2, 1) := by decide +kernel
theorem dX0_cell_35 : decode cX0_cell 35 = .ok (.iadd, 1) := by decide +kernel
theorem dX0_cell_36 : decode cX0_cell 36 = .ok (.istore 4, 2) := by decide +kernel
theorem dX0_cell_38 : decode cX0_cell 38 = .ok (.iload 4, 2) := by decide +kernel
theorem dX0_cell_40 : decode cX0_cell 40 = .ok (.ifCond .lt 23, 3) := by decide +kernel
theorem dX0_cell_43 : decode cX0_cell 43 = .ok (.iload 4, 2) := by decide +kernel
theorem dX0_cell_45 : decode cX0_cell 45 = .ok (.aload_n 0, 1) := by decide +kernel
theorem dX0_cell_46 : decode cX0_cell 46 = .ok (.getfield 11, 3) := by decide +kernel
theorem dX0_cell_49 : decode cX0_cell 49 = .ok (.arraylength, 1) := by decide +kernel
theorem dX0_cell_50 : decode cX0_cell 50 = .ok (.if_icmp .ge 13, 3) := by decide +kernel
theorem dX0_cell_53 : decode cX0_cell 53 = .ok (.aload_n 0, 1) := by decide +kernel
theorem dX0_cell_54 : decode cX0_cell 54 = .ok (.getfield 11, 3) := by decide +kernel
theorem dX0_cell_57 : decode cX0_cell 57 = .ok (.iload 4, 2) := by decide +kernel
theorem dX0_cell_59 : decode cX0_cell 59 = .ok (.iaload, 1) := by decide +kernel
theorem dX0_cell_60 : decode cX0_cell 60 = .ok (.goto 6, 3) := by decide +kernel
theorem dX0_cell_63 : decode cX0_cell 63 = .ok (.sipush (-9999), 3) := by decide +kernel
theorem dX0_cell_66 : decode cX0_cell 66 = .ok (.ireturn, 1) := by decide +kernel
theorem dX0_wipe_0 : decode cX0_wipe 0 = .ok (.aload_n 0, 1) := by decide +kernel
theorem dX0_wipe_1 : decode cX0_wipe 1 = .ok (.iconst 0, 1) := by decide +kernel
theorem dX0_wipe_2 : decode cX0_wipe 2 = .ok (.putfield 19, 3) := by decide +kernel
theorem dX0_wipe_5 : decode cX0_wipe 5 = .ok (.aload_n 0, 1) := by decide +kernel
theorem dX0_wipe_6 : decode cX0_wipe 6 = .ok (.iconst 0, 1) := by decide +kernel
theorem dX0_wipe_7 : decode cX0_wipe 7 = .ok (.putfield 15, 3) := by decide +kernel
theorem dX0_wipe_10 : decode cX0_wipe 10 = .ok (.return_, 1) := by decide +kernel
theorem dX0_copyFrom_0 : decode cX0_copyFrom 0 = .ok (.aload_n 0, 1) := by decide +kernel
theorem dX0_copyFrom_1 : decode cX0_copyFrom 1 = .ok (.aload_n 1, 1) := by decide +kernel
theorem dX0_copyFrom_2 : decode cX0_copyFrom 2 = .ok (.getfield 19, 3) := by decide +kernel
theorem dX0_copyFrom_5 : decode cX0_copyFrom 5 = .ok (.putfield 19, 3) := by decide +kernel
theorem dX0_copyFrom_8 : decode cX0_copyFrom 8 = .ok (.aload_n 0, 1) := by decide +kernel
theorem dX0_copyFrom_9 : decode cX0_copyFrom 9 = .ok (.aload_n 1, 1) := by decide +kernel
theorem dX0_copyFrom_10 : decode cX0_copyFrom 10 = .ok (.getfield 15, 3) := by decide +kernel
theorem dX0_copyFrom_13 : decode cX0_copyFrom 13 = .ok (.putfield 15, 3) := by decide +kernel
theorem dX0_copyFrom_16 : decode cX0_copyFrom 16 = .ok (.iconst 0, 1) := by decide +kernel
theorem dX0_copyFrom_17 : decode cX0_copyFrom 17 = .ok (.istore_n 2, 1) := by decide +kernel
theorem dX0_copyFrom_18 : decode cX0_copyFrom 18 = .ok (.iload_n 2, 1) := by decide +kernel
theorem dX0_copyFrom_19 : decode cX0_copyFrom 19 = .ok (.aload_n 0, 1) := by decide +kernel
theorem dX0_copyFrom_20 : decode cX0_copyFrom 20 = .ok (.getfield 11, 3) := by decide +kernel
theorem dX0_copyFrom_23 : decode cX0_copyFrom 23 = .ok (.arraylength, 1) := by decide +kernel
theorem dX0_copyFrom_24 : decode cX0_copyFrom 24 = .ok (.if_icmp .ge 30, 3) := by decide +kernel
theorem dX0_copyFrom_27 : decode cX0_copyFrom 27 = .ok (.iload_n 2, 1) := by decide +kernel
theorem dX0_copyFrom_28 : decode cX0_copyFrom 28 = .ok (.aload_n 1, 1) := by decide +kernel
theorem dX0_copyFrom_29 : decode cX0_copyFrom 29 = .ok (.getfield 11, 3) := by decide +kernel
theorem dX0_copyFrom_32 : decode cX0_copyFrom 32 = .ok (.arraylength, 1) := by decide +kernel
theorem dX0_copyFrom_33 : decode cX0_copyFrom 33 = .ok (.if_icmp .ge 21, 3) := by decide +kernel
theorem dX0_copyFrom_36 : decode cX0_copyFrom 36 = .ok (.aload_n 0, 1) := by decide +kernel
theorem dX0_copyFrom_37 : decode cX0_copyFrom 37 = .ok (.getfield 11, 3) := by decide +kernel
theorem dX0_copyFrom_40 : decode cX0_copyFrom 40 = .ok (.iload_n 2, 1) := by decide +kernel
theorem dX0_copyFrom_41 : decode cX0_copyFrom 41 = .ok (.aload_n 1, 1) := by decide +kernel
theorem dX0_copyFrom_42 : decode cX0_copyFrom 42 = .ok (.getfield 11, 3) := by decide +kernel
theorem dX0_copyFrom_45 : decode cX0_copyFrom 45 = .ok (.iload_n 2, 1) := by decide +kernel
theorem dX0_copyFrom_46 : decode cX0_copyFrom 46 = .ok (.iaload, 1) := by decide +kernel
theorem dX0_copyFrom_47 : decode cX0_copyFrom 47 = .ok (.iastore, 1) := by decide +kernel
theorem dX0_copyFrom_48 : decode cX0_copyFrom 48 = .ok (.iinc 2 1, 3) := by decide +kernel
theorem dX0_copyFrom_51 : decode cX0_copyFrom 51 = .ok (.goto (-33), 3) := by decide +kernel
theorem dX0_copyFrom_54 : decode cX0_copyFrom 54 = .ok (.return_, 1) := by decide +kernel
set_option maxRecDepth 20000 in
theorem ggX1_init_X0_init : GoodIn wsX1_init wsX0_init := goodIn_r _ [17, 18, 2, 3, 10, 19, 42, 43, 44] (by decide +kernel) (by decide +kernel)
set_option maxRecDepth 20000 in
theorem gX1_init_X0_init_n36 : GoodIn wsX1_init (wsX0_init) := ggX1_init_X0_init
set_option maxRecDepth 20000 in
theorem ggX1_init_X1_putUnknown : GoodIn wsX1_init wsX1_putUnknown := goodIn_r _ [24, 25, 11, 26, 27, 28, 29, 30, 31, 32, 33, 34, 35, 36, 37, 38, 39, 40, 41] (by decide +kernel) (by decide +kernel)
set_option maxRecDepth 20000 in
theorem gX1_init_X1_putUnknown : GoodIn wsX1_init (wsV RX1 41 RX1 yX1_putUnknown wsX1_putUnknown) := goodIn_app (goodIn_of _ (by decide +kernel)) ggX1_init_X1_putUnknown
theorem dX1_init_0 : decode cX1_init 0 = .ok (.aload_n 0, 1) := by decide +kernel
theorem dX1_init_1 : decode cX1_init 1 = .ok (.invokespecial 3, 3) := by decide +kernel
theorem dX1_init_4 : decode cX1_init 4 = .ok (.aload_n 0, 1) := by decide +kernel
theorem dX1_init_5 : decode cX1_init 5 = .ok (.iconst 2, 1) := by decide +kernel
theorem dX1_init_6 : decode cX1_init 6 = .ok (.putfield 9, 3) := by decide +kernel
theorem dX1_init_9 : decode cX1_init 9 = .ok (.aload_n 0, 1) := by decide +kernel
theorem dX1_init_10 : decode cX1_init 10 = .ok (.iconst 2, 1) := by decide +kernel
theorem dX1_init_11 : decode cX1_init 11 = .ok (.putfield 15, 3) := by decide +kernel
theorem dX1_init_14 : decode cX1_init 14 = .ok (.aload_n 0, 1) := by decide +kernel
theorem dX1_init_15 : decode cX1_init 15 = .ok (.sipush 1000, 3) := by decide +kernel
theorem dX1_init_18 : decode cX1_init 18 = .ok (.putfield 18, 3) := by decide +kernel
theorem dX1_init_21 : decode cX1_init 21 = .ok (.aload_n 0, 1) := by decide +kernel
theorem dX1_init_22 : decode cX1_init 22 = .ok (.bipush 10, 2) := by decide +kernel
theorem dX1_init_24 : decode cX1_init 24 = .ok (.putfield 21, 3) := by decide +kernel
theorem dX1_init_27 : decode cX1_init 27 = .ok (.aload_n 0, 1) := by decide +kernel
theorem dX1_init_28 : decode cX1_init 28 = .ok (.iconst 3, 1) := by decide +kernel
theorem dX1_init_29 : decode cX1_init 29 = .ok (.putfield 24, 3) := by decide +kernel
theorem dX1_init_32 : decode cX1_init 32 = .ok (.aload_n 0, 1) := by decide +kernel
theorem dX1_init_33 : decode cX1_init 33 = .ok (.iconst 4, 1) := by decide +kernel
theorem dX1_init_34 : decode cX1_init 34 = .ok (.putfield 27, 3) := by decide +kernel
theorem dX1_init_37 : decode cX1_init 37 = .ok (.aload_n 0, 1) := by decide +kernel
theorem dX1_init_38 : decode cX1_init 38 = .ok (.bipush 6, 2) := by decide +kernel
theorem dX1_init_40 : decode cX1_init 40 = .ok (.newarray .int, 2) := by decide +kernel
theorem dX1_init_42 : decode cX1_init 42 = .ok (.putfield 30, 3) := by decide +kernel
theorem dX1_init_45 : decode cX1_init 45 = .ok (.aload_n 0, 1) := by decide +kernel
theorem dX1_init_46 : decode cX1_init 46 = .ok (.new 34, 3) := by decide +kernel
theorem dX1_init_49 : decode cX1_init 49 = .ok (.dup, 1) := by decide +kernel
theorem dX1_init_50 : decode cX1_init 50 = .ok (.invokespecial 36, 3) := by decide +kernel
theorem dX1_init_53 : decode cX1_init 53 = .ok (.putfield 37, 3) := by decide +kernel
theorem dX1_init_56 : decode cX1_init 56 = .ok (.aload_n 0, 1) := by decide +kernel
theorem dX1_init_57 : decode cX1_init 57 = .ok (.sipush 1500, 3) := by decide +kernel
theorem dX1_init_60 : decode cX1_init 60 = .ok (.invokevirtual 41, 3) := by decide +kernel
theorem dX1_init_63 : decode cX1_init 63 = .ok (.return_, 1) := by decide +kernel
set_option maxRecDepth 20000 in
theorem ggX1_copyFrom_X0_copyFrom : GoodIn wsX1_copyFrom wsX0_copyFrom := goodIn_r _ [20, 21, 22, 23, 40, 41, 42] (by decide +kernel) (by decide +kernel)
set_option maxRecDepth 20000 in
theorem gX1_copyFrom_X0_copyFrom_n70 : GoodIn wsX1_copyFrom (wsX0_copyFrom) := ggX1_copyFrom_X0_copyFrom
theorem dX1_copyFrom_0 : decode cX1_copyFrom 0 = .ok (.aload_n 1, 1) := by decide +kernel
theorem dX1_copyFrom_1 : decode cX1_copyFrom 1 = .ok (.ifnonnull 4, 3) := by decide +kernel
theorem dX1_copyFrom_4 : decode cX1_copyFrom 4 = .ok (.return_, 1) := by decide +kernel
theorem dX1_copyFrom_5 : decode cX1_copyFrom 5 = .ok (.aload_n 0, 1) := by decide +kernel
theorem dX1_copyFrom_6 : decode cX1_copyFrom 6 = .ok (.aload_n 1, 1) := by decide +kernel
theorem dX1_copyFrom_7 : decode cX1_copyFrom 7 = .ok (.getfield 9, 3) := by decide +kernel
theorem dX1_copyFrom_10 : decode cX1_copyFrom 10 = .ok (.putfield 9, 3) := by decide +kernel
theorem dX1_copyFrom_13 : decode cX1_copyFrom 13 = .ok (.aload_n 0, 1) := by decide +kernel
theorem dX1_copyFrom_14 : decode cX1_copyFrom 14 = .ok (.aload_n 1, 1) := by decide +kernel
theorem dX1_copyFrom_15 : decode cX1_copyFrom 15 = .ok (.getfield 15, 3) := by decide +kernel
theorem dX1_copyFrom_18 : decode cX1_copyFrom 18 = .ok (.putfield 15, 3) := by decide +kernel
theorem dX1_copyFrom_21 : decode cX1_copyFrom 21 = .ok (.aload_n 0, 1) := by decide +kernel
theorem dX1_copyFrom_22 : decode cX1_copyFrom 22 = .ok (.aload_n 1, 1) := by decide +kernel
theorem dX1_copyFrom_23 : decode cX1_copyFrom 23 = .ok (.getfield 18, 3) := by decide +kernel
theorem dX1_copyFrom_26 : decode cX1_copyFrom 26 = .ok (.putfield 18, 3) := by decide +kernel
theorem dX1_copyFrom_29 : decode cX1_copyFrom 29 = .ok (.aload_n 0, 1) := by decide +kernel
theorem dX1_copyFrom_30 : decode cX1_copyFrom 30 = .ok (.aload_n 1, 1) := by decide +kernel
theorem dX1_copyFrom_31 : decode cX1_copyFrom 31 = .ok (.getfield 21, 3) := by decide +kernel
theorem dX1_copyFrom_34 : decode cX1_copyFrom 34 = .ok (.putfield 21, 3) := by decide +kernel
theorem dX1_copyFrom_37 : decode cX1_copyFrom 37 = .ok (.aload_n 0, 1) := by decide +kernel
theorem dX1_copyFrom_38 : decode cX1_copyFrom 38 = .ok (.aload_n 1, 1) := by decide +kernel
theorem dX1_copyFrom_39 : decode cX1_copyFrom 39 = .ok (.getfield 24, 3) := by decide +kernel
theorem dX1_copyFrom_42 : decode cX1_copyFrom 42 = .ok (.putfield 24, 3) := by decide +kernel
theorem dX1_copyFrom_45 : decode cX1_copyFrom 45 = .ok (.aload_n 0, 1) := by decide +kernel
theorem dX1_copyFrom_46 : decode cX1_copyFrom 46 = .ok (.aload_n 1, 1) := by decide +kernel
theorem dX1_copyFrom_47 : decode cX1_copyFrom 47 = .ok (.getfield 45, 3) := by decide +kernel
theorem dX1_copyFrom_50 : decode cX1_copyFrom 50 = .ok (.putfield 45, 3) := by decide +kernel
theorem dX1_copyFrom_53 : decode cX1_copyFrom 53 = .ok (.aload_n 0, 1) := by decide +kernel
theorem dX1_copyFrom_54 : decode cX1_copyFrom 54 = .ok (.aload_n 1, 1) := by decide +kernel
theorem dX1_copyFrom_55 : decode cX1_copyFrom 55 = .ok (.getfield 27, 3) := by decide +kernel
theorem dX1_copyFrom_58 : decode cX1_copyFrom 58 = .ok (.putfield 27, 3) := by decide +kernel
theorem dX1_copyFrom_61 : decode cX1_copyFrom 61 = .ok (.aload_n 0, 1) := by decide +kernel
theorem dX1_copyFrom_62 : decode cX1_copyFrom 62 = .ok (.aload_n 1, 1) := by decide +kernel
theorem dX1_copyFrom_63 : decode cX1_copyFrom 63 = .ok (.getfield 48, 3) := by decide +kernel
theorem dX1_copyFrom_66 : decode cX1_copyFrom 66 = .ok (.putfield 48, 3) := by decide +kernel
theorem dX1_copyFrom_69 : decode cX1_copyFrom 69 = .ok (.aload_n 0, 1) := by decide +kernel
theorem dX1_copyFrom_70 : decode cX1_copyFrom 70 = .ok (.aload_n 1, 1) := by decide +kernel
theorem dX1_copyFrom_71 : decode cX1_copyFrom 71 = .ok (.getfield 51, 3) := by decide +kernel
theorem dX1_copyFrom_74 : decode cX1_copyFrom 74 = .ok (.putfield 51, 3) := by decide +kernel
theorem dX1_copyFrom_77 : decode cX1_copyFrom 77 = .ok (.aload_n 0, 1) := by decide +kernel
theorem dX1_copyFrom_78 : decode cX1_copyFrom 78 = .ok (.aload_n 1, 1) := by decide +kernel
theorem dX1_copyFrom_79 : decode cX1_copyFrom 79 = .ok (.getfield 54, 3) := by decide +kernel
theorem dX1_copyFrom_82 : decode cX1_copyFrom 82 = .ok (.putfield 54, 3) := by decide +kernel
theorem dX1_copyFrom_85 : decode cX1_copyFrom 85 = .ok (.aload_n 0, 1) := by decide +kernel
theorem dX1_copyFrom_86 : decode cX1_copyFrom 86 = .ok (.aload_n 1, 1) := by decide +kernel
theorem dX1_copyFrom_87 : decode cX1_copyFrom 87 = .ok (.getfield 58, 3) := by decide +kernel
theorem dX1_copyFrom_90 : decode cX1_copyFrom 90 = .ok (.putfield 58, 3) := by decide +kernel
theorem dX1_copyFrom_93 : decode cX1_copyFrom 93 = .ok (.aload_n 0, 1) := by decide +kernel
theorem dX1_copyFrom_94 : decode cX1_copyFrom 94 = .ok (.aload_n 1, 1) := by decide +kernel
theorem dX1_copyFrom_95 : decode cX1_copyFrom 95 = .ok (.getfield 61, 3) := by decide +kernel
theorem dX1_copyFrom_98 : decode cX1_copyFrom 98 = .ok (.putfield 61, 3) := by decide +kernel
theorem dX1_copyFrom_101 : decode cX1_copyFrom 101 = .ok (.iconst 0, 1) := by decide +kernel
theorem dX1_copyFrom_102 : decode cX1_copyFrom 102 = .ok (.istore_n 2, 1) := by decide +kernel
theorem dX1_copyFrom_103 : decode cX1_copyFrom 103 = .ok (.iload_n 2, 1) := by decide +kernel
theorem dX1_copyFrom_104 : decode cX1_copyFrom 104 = .ok (.aload_n 0, 1) := by decide +kernel
theorem dX1_copyFrom_105 : decode cX1_copyFrom 105 = .ok (.getfield 30, 3) := by decide +kernel
theorem dX1_copyFrom_108 : decode cX1_copyFrom 108 = .ok (.arraylength, 1) := by decide +kernel
theorem dX1_copyFrom_109 : decode cX1_copyFrom 109 = .ok (.if_icmp .ge 30, 3) := by decide +kernel
theorem dX1_copyFrom_112 : decode cX1_copyFrom 112 = .ok (.iload_n 2, 1) := by decide +kernel
theorem dX1_copyFrom_113 : decode cX1_copyFrom 113 = .ok (.aload_n 1, 1) := by decide +kernel
theorem dX1_copyFrom_114 : decode cX1_copyFrom 114 = .ok (.getfield 30, 3) := by decide +kernel
theorem dX1_copyFrom_117 : decode cX1_copyFrom 117 = .ok (.arraylength, 1) := by decide +kernel
theorem dX1_copyFrom_118 : decode cX1_copyFrom 118 = .ok (.if_icmp .ge 21, 3) := by decide +kernel
theorem dX1_copyFrom_121 : decode cX1_copyFrom 121 = .ok (.aload_n 0, 1) := by decide +kernel
theorem dX1_copyFrom_122 : decode cX1_copyFrom 122 = .ok (.getfield 30, 3) := by decide +kernel
theorem dX1_copyFrom_125 : decode cX1_copyFrom 125 = .ok (.iload_n 2, 1) := by decide +kernel
theorem dX1_copyFrom_126 : decode cX1_copyFrom 126 = .ok (.aload_n 1, 1) := by decide +kernel
theorem dX1_copyFrom_127 : decode cX1_copyFrom 127 = .ok (.getfield 30, 3) := by decide +kernel
theorem dX1_copyFrom_130 : decode cX1_copyFrom 130 = .ok (.iload_n 2, 1) := by decide +kernel
theorem dX1_copyFrom_131 : decode cX1_copyFrom 131 = .ok (.iaload, 1) := by decide +kernel
theorem dX1_copyFrom_132 : decode cX1_copyFrom 132 = .ok (.iastore, 1) := by decide +kernel
theorem dX1_copyFrom_133 : decode cX1_copyFrom 133 = .ok (.iinc 2 1, 3) := by decide +kernel
theorem dX1_copyFrom_136 : decode cX1_copyFrom 136 = .ok (.goto (-33), 3) := by decide +kernel
theorem dX1_copyFrom_139 : decode cX1_copyFrom 139 = .ok (.aload_n 0, 1) := by decide +kernel
theorem dX1_copyFrom_140 : decode cX1_copyFrom 140 = .ok (.aload_n 1, 1) := by decide +kernel
theorem dX1_copyFrom_141 : decode cX1_copyFrom 141 = .ok (.getfield 64, 3) := by decide +kernel
theorem dX1_copyFrom_144 : decode cX1_copyFrom 144 = .ok (.putfield 64, 3) := by decide +kernel
theorem dX1_copyFrom_147 : decode cX1_copyFrom 147 = .ok (.aload_n 0, 1) := by decide +kernel
theorem dX1_copyFrom_148 : decode cX1_copyFrom 148 = .ok (.aload_n 1, 1) := by decide +kernel
theorem dX1_copyFrom_149 : decode cX1_copyFrom 149 = .ok (.getfield 67, 3) := by decide +kernel
theorem dX1_copyFrom_152 : decode cX1_copyFrom 152 = .ok (.putfield 67, 3) := by decide +kernel
theorem dX1_copyFrom_155 : decode cX1_copyFrom 155 = .ok (.aload_n 0, 1) := by decide +kernel
theorem dX1_copyFrom_156 : decode cX1_copyFrom 156 = .ok (.getfield 37, 3) := by decide +kernel
theorem dX1_copyFrom_159 : decode cX1_copyFrom 159 = .ok (.aload_n 1, 1) := by decide +kernel
theorem dX1_copyFrom_160 : decode cX1_copyFrom 160 = .ok (.getfield 37, 3) := by decide +kernel
theorem dX1_copyFrom_163 : decode cX1_copyFrom 163 = .ok (.invokevirtual 70, 3) := by decide +kernel
theorem dX1_copyFrom_166 : decode cX1_copyFrom 166 = .ok (.return_, 1) := by decide +kernel
set_option maxRecDepth 20000 in
theorem ggX1_take_X2_digits : GoodIn wsX1_take wsX2_digits := goodIn_r _ [19, 20, 21, 22, 17, 23, 24, 25, 61, 62] (by decide +kernel) (by decide +kernel)
set_option maxRecDepth 20000 in
theorem gX1_take_X2_digits_n74 : GoodIn wsX1_take (wsX2_digits) := ggX1_take_X2_digits
set_option maxRecDepth 20000 in
theorem ggX1_take_X2_letter : GoodIn wsX1_take wsX2_letter := goodIn_r _ [23, 24, 25, 61, 62] (by decide +kernel) (by decide +kernel)
set_option maxRecDepth 20000 in
theorem gX1_take_X2_letter_n80 : GoodIn wsX1_take (wsX2_letter) := ggX1_take_X2_letter
set_option maxRecDepth 20000 in
theorem ggX1_take_X2_unknowns : GoodIn wsX1_take wsX2_unknowns := goodIn_r _ [28, 24, 61, 62] (by decide +kernel) (by decide +kernel)
set_option maxRecDepth 20000 in
theorem gX1_take_X2_unknowns_n84 : GoodIn wsX1_take (wsX2_unknowns) := ggX1_take_X2_unknowns
set_option maxRecDepth 20000 in
theorem ggX1_take_X2_unknownAt : GoodIn wsX1_take wsX2_unknownAt := goodIn_r _ [31, 32, 16, 18, 17, 19, 20, 21, 22, 23, 24, 25, 61, 62] (by decide +kernel) (by decide +kernel)
set_option maxRecDepth 20000 in
theorem gX1_take_X2_unknownAt_n87 : GoodIn wsX1_take (wsX2_unknownAt) := ggX1_take_X2_unknownAt
set_option maxRecDepth 20000 in
theorem ggX1_take_X1_putUnknown : GoodIn wsX1_take wsX1_putUnknown := goodIn_r _ [37, 13, 38, 45, 46, 47, 48, 49, 50, 51, 52, 53, 54, 55, 56, 57, 58, 59, 60] (by decide +kernel) (by decide +kernel)
set_option maxRecDepth 20000 in
theorem gX1_take_X1_putUnknown : GoodIn wsX1_take (wsV RX1 41 RX1 yX1_putUnknown wsX1_putUnknown) := goodIn_app (goodIn_of _ (by decide +kernel)) ggX1_take_X1_putUnknown
set_option maxRecDepth 20000 in
theorem ggX1_take_X0_wipe : GoodIn wsX1_take wsX0_wipe := goodIn_r _ [42, 43, 44, 63, 64, 65] (by decide +kernel) (by decide +kernel)
set_option maxRecDepth 20000 in
theorem gX1_take_X0_wipe_n91 : GoodIn wsX1_take (wsX0_wipe) := ggX1_take_X0_wipe
theorem dX1_take_0 : decode cX1_take 0 = .ok (.aload_n 0, 1) := by decide +kernel
theorem dX1_take_1 : decode cX1_take 1 = .ok (.aload_n 1, 1) := by decide +kernel
theorem dX1_take_2 : decode cX1_take 2 = .ok (.iconst 1, 1) := by decide +kernel
theorem dX1_take_3 : decode cX1_take 3 = .ok (.iconst 1, 1) := by decide +kernel
theorem dX1_take_4 : decode cX1_take 4 = .ok (.invokevirtual 74, 3) := by decide +kernel
theorem dX1_take_7 : decode cX1_take 7 = .ok (.putfield 9, 3) := by decide +kernel
theorem dX1_take_10 : decode cX1_take 10 = .ok (.aload_n 0, 1) := by decide +kernel
theorem dX1_take_11 : decode cX1_take 11 = .ok (.aload_n 1, 1) := by decide +kernel
theorem dX1_take_12 : decode cX1_take 12 = .ok (.iconst 2, 1) := by decide +kernel
theorem dX1_take_13 : decode cX1_take 13 = .ok (.iconst 1, 1) := by decide +kernel
theorem dX1_take_14 : decode cX1_take 14 = .ok (.invokevirtual 74, 3) := by decide +kernel
theorem dX1_take_17 : decode cX1_take 17 = .ok (.putfield 15, 3) := by decide +kernel
theorem dX1_take_20 : decode cX1_take 20 = .ok (.aload_n 0, 1) := by decide +kernel
theorem dX1_take_21 : decode cX1_take 21 = .ok (.aload_n 1, 1) := by decide +kernel
theorem dX1_take_22 : decode cX1_take 22 = .ok (.iconst 3, 1) := by decide +kernel
theorem dX1_take_23 : decode cX1_take 23 = .ok (.iconst 4, 1) := by decide +kernel
theorem dX1_take_24 : decode cX1_take 24 = .ok (.invokevirtual 74, 3) := by decide +kernel
theorem dX1_take_27 : decode cX1_take 27 = .ok (.putfield 18, 3) := by decide +kernel
theorem dX1_take_30 : decode cX1_take 30 = .ok (.aload_n 0, 1) := by decide +kernel
theorem dX1_take_31 : decode cX1_take 31 = .ok (.aload_n 1, 1) := by decide +kernel
theorem dX1_take_32 : decode cX1_take 32 = .ok (.bipush 7, 2) := by decide +kernel
theorem dX1_take_34 : decode cX1_take 34 = .ok (.iconst 2, 1) := by decide +kernel
theorem dX1_take_35 : decode cX1_take 35 = .ok (.invokevirtual 74, 3) := by decide +kernel
theorem dX1_take_38 : decode cX1_take 38 = .ok (.putfield 21, 3) := by decide +kernel
theorem dX1_take_41 : decode cX1_take 41 = .ok (.aload_n 0, 1) := by decide +kernel
theorem dX1_take_42 : decode cX1_take 42 = .ok (.aload_n 1, 1) := by decide +kernel
theorem dX1_take_43 : decode cX1_take 43 = .ok (.bipush 9, 2) := by decide +kernel
theorem dX1_take_45 : decode cX1_take 45 = .ok (.iconst 1, 1) := by decide +kernel
theorem dX1_take_46 : decode cX1_take 46 = .ok (.invokevirtual 74, 3) := by decide +kernel
theorem dX1_take_49 : decode cX1_take 49 = .ok (.putfield 24, 3) := by decide +kernel
theorem dX1_take_52 : decode cX1_take 52 = .ok (.aload_n 0, 1) := by decide +kernel
theorem dX1_take_53 : decode cX1_take 53 = .ok (.aload_n 1, 1) := by decide +kernel
theorem dX1_take_54 : decode cX1_take 54 = .ok (.bipush 10, 2) := by decide +kernel
theorem dX1_take_56 : decode cX1_take 56 = .ok (.invokevirtual 80, 3) := by decide +kernel
theorem dX1_take_59 : decode cX1_take 59 = .ok (.bipush 45, 2) := by decide +kernel
theorem dX1_take_61 : decode cX1_take 61 = .ok (.if_icmp .ne 14, 3) := by decide +kernel
theorem dX1_take_64 : decode cX1_take 64 = .ok (.aload_n 1, 1) := by decide +kernel
theorem dX1_take_65 : decode cX1_take 65 = .ok (.bipush 11, 2) := by decide +kernel
theorem dX1_take_67 : decode cX1_take 67 = .ok (.iconst 2, 1) := by decide +kernel
theorem dX1_take_68 : decode cX1_take 68 = .ok (.invokevirtual 74, 3) := by decide +kernel
theorem dX1_take_71 : decode cX1_take 71 = .ok (.ineg, 1) := by decide +kernel
theorem dX1_take_72 : decode cX1_take 72 = .ok (.goto 10, 3) := by decide +kernel
theorem dX1_take_75 : decode cX1_take 75 = .ok (.aload_n 1, 1) := by decide +kernel
theorem dX1_take_76 : decode cX1_take 76 = .ok (.bipush 11, 2) := by decide +kernel
theorem dX1_take_78 : decode cX1_take 78 = .ok (.iconst 2, 1) := by decide +kernel
theorem dX1_take_79 : decode cX1_take 79 = .ok (.invokevirtual 74, 3) := by decide +kernel
theorem dX1_take_82 : decode cX1_take 82 = .ok (.putfield 45, 3) := by decide +kernel
theorem dX1_take_85 : decode cX1_take 85 = .ok (.aload_n 0, 1) := by decide +kernel
theorem dX1_take_86 : decode cX1_take 86 = .ok (.aload_n 1, 1) := by decide +kernel
theorem dX1_take_87 : decode cX1_take 87 = .ok (.bipush 13, 2) := by decide +kernel
theorem dX1_take_89 : decode cX1_take 89 = .ok (.iconst 2, 1) := by decide +kernel
theorem dX1_take_90 : decode cX1_take 90 = .ok (.invokevirtual 74, 3) := by decide +kernel
theorem dX1_take_93 : decode cX1_take 93 = .ok (.putfield 27, 3) := by decide +kernel
theorem dX1_take_96 : decode cX1_take 96 = .ok (.aload_n 0, 1) := by decide +kernel
theorem dX1_take_97 : decode cX1_take 97 = .ok (.iconst 0, 1) := by decide +kernel
theorem dX1_take_98 : decode cX1_take 98 = .ok (.putfield 48, 3) := by decide +kernel
theorem dX1_take_101 : decode cX1_take 101 = .ok (.aload_n 0, 1) := by decide +kernel
theorem dX1_take_102 : decode cX1_take 102 = .ok (.iconst 0, 1) := by decide +kernel
theorem dX1_take_103 : decode cX1_take 103 = .ok (.putfield 51, 3) := by decide +kernel
theorem dX1_take_106 : decode cX1_take 106 = .ok (.aload_n 0, 1) := by decide +kernel
theorem dX1_take_107 : decode cX1_take 107 = .ok (.iconst 0, 1) := by decide +kernel
theorem dX1_take_108 : decode cX1_take 108 = .ok (.putfield 54, 3) := by decide +kernel
theorem dX1_take_111 : decode cX1_take 111 = .ok (.aload_n 0, 1) := by decide +kernel
theorem dX1_take_112 : decode cX1_take 112 = .ok (.iconst 0, 1) := by decide +kernel
theorem dX1_take_113 : decode cX1_take 113 = .ok (.putfield 58, 3) := by decide +kernel
theorem dX1_take_116 : decode cX1_take 116 = .ok (.aload_n 0, 1) := by decide +kernel
theorem dX1_take_117 : decode cX1_take 117 = .ok (.iconst 0, 1) := by decide +kernel
theorem dX1_take_118 : decode cX1_take 118 = .ok (.putfield 61, 3) := by decide +kernel
theorem dX1_take_121 : decode cX1_take 121 = .ok (.aload_n 0, 1) := by decide +kernel
theorem dX1_take_122 : decode cX1_take 122 = .ok (.iconst 0, 1) := by decide +kernel
theorem dX1_take_123 : decode cX1_take 123 = .ok (.putfield 64, 3) := by decide +kernel
theorem dX1_take_126 : decode cX1_take 126 = .ok (.iconst 0, 1) := by decide +kernel
theorem dX1_take_127 : decode cX1_take 127 = .ok (.istore_n 2, 1) := by decide +kernel
theorem dX1_take_128 : decode cX1_take 128 = .ok (.iload_n 2, 1) := by decide +kernel
theorem dX1_take_129 : decode cX1_take 129 = .ok (.aload_n 1, 1) := by decide +kernel
theorem dX1_take_130 : decode cX1_take 130 = .ok (.invokevirtual 84, 3) := by decide +kernel
theorem dX1_take_133 : decode cX1_take 133 = .ok (.if_icmp .ge 24, 3) := by decide +kernel
theorem dX1_take_136 : decode cX1_take 136 = .ok (.iload_n 2, 1) := by decide +kernel
theorem dX1_take_137 : decode cX1_take 137 = .ok (.bipush 6, 2) := by decide +kernel
theorem dX1_take_139 : decode cX1_take 139 = .ok (.if_icmp .ge 18, 3) := by decide +kernel
theorem dX1_take_142 : decode cX1_take 142 = .ok (.aload_n 0, 1) := by decide +kernel
theorem dX1_take_143 : decode cX1_take 143 = .ok (.aload_n 1, 1) := by decide +kernel
theorem dX1_take_144 : decode cX1_take 144 = .ok (.iload_n 2, 1) := by decide +kernel
theorem dX1_take_145 : decode cX1_take 145 = .ok (.invokevirtual 87, 3) := by decide +kernel
theorem dX1_take_148 : decode cX1_take 148 = .ok (.invokevirtual 41, 3) := by decide +kernel
theorem dX1_take_151 : decode cX1_take 151 = .ok (.iinc 2 1, 3) := by decide +kernel
theorem dX1_take_154 : decode cX1_take 154 = .ok (.goto (-26), 3) := by decide +kernel
theorem dX1_take_157 : decode cX1_take 157 = .ok (.aload_n 0, 1) := by decide +kernel
theorem dX1_take_158 : decode cX1_take 158 = .ok (.iconst 0, 1) := by decide +kernel
theorem dX1_take_159 : decode cX1_take 159 = .ok (.putfield 67, 3) := by decide +kernel
theorem dX1_take_162 : decode cX1_take 162 = .ok (.aload_n 0, 1) := by decide +kernel
theorem dX1_take_163 : decode cX1_take 163 = .ok (.getfield 37, 3) := by decide +kernel
theorem dX1_take_166 : decode cX1_take 166 = .ok (.invokevirtual 91, 3) := by decide +kernel
theorem dX1_take_169 : decode cX1_take 169 = .ok (.return_, 1) := by decide +kernel
set_option maxRecDepth 20000 in
theorem ggX1_number_X1_offset : GoodIn wsX1_number wsX1_offset := goodIn_r _ [20, 8, 21, 22, 23, 19, 24, 6, 7, 25, 26, 27, 28, 29, 30, 31, 32, 33, 34, 35, 36, 37, 38, 39, 40] (by decide +kernel) (by decide +kernel)
set_option maxRecDepth 20000 in
theorem gX1_number_X1_offset : GoodIn wsX1_number (wsV RX1 94 RX1 yX1_offset wsX1_offset) := goodIn_app (goodIn_of _ (by decide +kernel)) ggX1_number_X1_offset
theorem dX1_number_0 : decode cX1_number 0 = .ok (.iload_n 1, 1) := by decide +kernel
theorem dX1_number_1 : decode cX1_number 1 = .ok (.tableswitch 161 0 14 #[75, 80, 85, 90, 95, 100, 105, 110, 115, 120, 125, 130, 135, 148, 156], 75) := by decide +kernel
theorem dX1_number_76 : decode cX1_number 76 = .ok (.aload_n 0, 1) := by decide +kernel
theorem dX1_number_77 : decode cX1_number 77 = .ok (.getfield 9, 3) := by decide +kernel
theorem dX1_number_80 : decode cX1_number 80 = .ok (.ireturn, 1) := by decide +kernel
theorem dX1_number_81 : decode cX1_number 81 = .ok (.aload_n 0, 1) := by decide +kernel
theorem dX1_number_82 : decode cX1_number 82 = .ok (.getfield 15, 3) := by decide +kernel
theorem dX1_number_85 : decode cX1_number 85 = .ok (.ireturn, 1) := by decide +kernel
theorem dX1_number_86 : decode cX1_number 86 = .ok (.aload_n 0, 1) := by decide +kernel
theorem dX1_number_87 : decode cX1_number 87 = .ok (.getfield 18, 3) := by decide +kernel
theorem dX1_number_90 : decode cX1_number 90 = .ok (.ireturn, 1) := by decide +kernel
theorem dX1_number_91 : decode cX1_number 91 = .ok (.aload_n 0, 1) := by decide +kernel
theorem dX1_number_92 : decode cX1_number 92 = .ok (.getfield 21, 3) := by decide +kernel
theorem dX1_number_95 : decode cX1_number 95 = .ok (.ireturn, 1) := by decide +kernel
theorem dX1_number_96 : decode cX1_number 96 = .ok (.aload_n 0, 1) := by decide +kernel
theorem dX1_number_97 : decode cX1_number 97 = .ok (.getfield 24, 3) := by decide +kernel
theorem dX1_number_100 : decode cX1_number 100 = .ok (.ireturn, 1) := by decide +kernel
theorem dX1_number_101 : decode cX1_number 101 = .ok (.aload_n 0, 1) := by decide +kernel
theorem dX1_number_102 : decode cX1_number 102 = .ok (.getfield 45, 3) := by decide +kernel
theorem dX1_number_105 : decode cX1_number 105 = .ok (.ireturn, 1) := by decide +kernel
theorem dX1_number_106 : decode cX1_number 106 = .ok (.aload_n 0, 1) := by decide +kernel
theorem dX1_number_107 : decode cX1_number 107 = .ok (.getfield 27, 3) := by decide +kernel
theorem dX1_number_110 : decode cX1_number 110 = .ok (.ireturn, 1) := by decide +kernel
theorem dX1_number_111 : decode cX1_number 111 = .ok (.aload_n 0, 1) := by decide +kernel
theorem dX1_number_112 : decode cX1_number 112 = .ok (.getfield 48, 3) := by decide +kernel
theorem dX1_number_115 : decode cX1_number 115 = .ok (.ireturn, 1) := by decide +kernel
theorem dX1_number_116 : decode cX1_number 116 = .ok (.aload_n 0, 1) := by decide +kernel
theorem dX1_number_117 : decode cX1_number 117 = .ok (.invokevirtual 94, 3) := by decide +kernel
theorem dX1_number_120 : decode cX1_number 120 = .ok (.ireturn, 1) := by decide +kernel
theorem dX1_number_121 : decode cX1_number 121 = .ok (.aload_n 0, 1) := by decide +kernel
theorem dX1_number_122 : decode cX1_number 122 = .ok (.getfield 51, 3) := by decide +kernel
theorem dX1_number_125 : decode cX1_number 125 = .ok (.ireturn, 1) := by decide +kernel
theorem dX1_number_126 : decode cX1_number 126 = .ok (.aload_n 0, 1) := by decide +kernel
theorem dX1_number_127 : decode cX1_number 127 = .ok (.getfield 64, 3) := by decide +kernel
theorem dX1_number_130 : decode cX1_number 130 = .ok (.ireturn, 1) := by decide +kernel
theorem dX1_number_131 : decode cX1_number 131 = .ok (.aload_n 0, 1) := by decide +kernel
theorem dX1_number_132 : decode cX1_number 132 = .ok (.getfield 67, 3) := by decide +kernel
theorem dX1_number_135 : decode cX1_number 135 = .ok (.ireturn, 1) := by decide +kernel
theorem dX1_number_136 : decode cX1_number 136 = .ok (.aload_n 0, 1) := by decide +kernel
theorem dX1_number_137 : decode cX1_number 137 = .ok (.getfield 54, 3) := by decide +kernel
theorem dX1_number_140 : decode cX1_number 140 = .ok (.ifCond .eq 7, 3) := by decide +kernel
theorem dX1_number_143 : decode cX1_number 143 = .ok (.iconst 1, 1) := by decide +kernel
theorem dX1_number_144 : decode cX1_number 144 = .ok (.goto 4, 3) := by decide +kernel
theorem dX1_number_147 : decode cX1_number 147 = .ok (.iconst 0, 1) := by decide +kernel
theorem dX1_number_148 : decode cX1_number 148 = .ok (.ireturn, 1) := by decide +kernel
theorem dX1_number_149 : decode cX1_number 149 = .ok (.aload_n 0, 1) := by decide +kernel
theorem dX1_number_150 : decode cX1_number 150 = .ok (.getfield 37, 3) := by decide +kernel
theorem dX1_number_153 : decode cX1_number 153 = .ok (.getfield 97, 3) := by decide +kernel
theorem dX1_number_156 : decode cX1_number 156 = .ok (.ireturn, 1) := by decide +kernel
theorem dX1_number_157 : decode cX1_number 157 = .ok (.aload_n 0, 1) := by decide +kernel
theorem dX1_number_158 : decode cX1_number 158 = .ok (.getfield 58, 3) := by decide +kernel
theorem dX1_number_161 : decode cX1_number 161 = .ok (.ireturn, 1) := by decide +kernel
theorem dX1_number_162 : decode cX1_number 162 = .ok (.aload_n 0, 1) := by decide +kernel
theorem dX1_number_163 : decode cX1_number 163 = .ok (.getfield 61, 3) := by decide +kernel
theorem dX1_number_166 : decode cX1_number 166 = .ok (.ireturn, 1) := by decide +kernel
theorem dX1_mayBe_0 : decode cX1_mayBe 0 = .ok (.iload_n 0, 1) := by decide +kernel
theorem dX1_mayBe_1 : decode cX1_mayBe 1 = .ok (.tableswitch 126 0 6 #[43, 43, 58, 75, 43, 92, 110], 43) := by decide +kernel
theorem dX1_mayBe_44 : decode cX1_mayBe 44 = .ok (.iload_n 1, 1) := by decide +kernel
theorem dX1_mayBe_45 : decode cX1_mayBe 45 = .ok (.ifCond .lt 12, 3) := by decide +kernel
theorem dX1_mayBe_48 : decode cX1_mayBe 48 = .ok (.iload_n 1, 1) := by decide +kernel
theorem dX1_mayBe_49 : decode cX1_mayBe 49 = .ok (.iconst 3, 1) := by decide +kernel
theorem dX1_mayBe_50 : decode cX1_mayBe 50 = .ok (.if_icmp .gt 7, 3) := by decide +kernel
theorem dX1_mayBe_53 : decode cX1_mayBe 53 = .ok (.iconst 1, 1) := by decide +kernel
theorem dX1_mayBe_54 : decode cX1_mayBe 54 = .ok (.goto 4, 3) := by decide +kernel
theorem dX1_mayBe_57 : decode cX1_mayBe 57 = .ok (.iconst 0, 1) := by decide +kernel
theorem dX1_mayBe_58 : decode cX1_mayBe 58 = .ok (.ireturn, 1) := by decide +kernel
theorem dX1_mayBe_59 : decode cX1_mayBe 59 = .ok (.iload_n 1, 1) := by decide +kernel
theorem dX1_mayBe_60 : decode cX1_mayBe 60 = .ok (.ifCond .lt 14, 3) := by decide +kernel
theorem dX1_mayBe_63 : decode cX1_mayBe 63 = .ok (.iload_n 1, 1) := by decide +kernel
theorem dX1_mayBe_64 : decode cX1_mayBe 64 = .ok (.sipush 9999, 3) := by decide +kernel
theorem dX1_mayBe_67 : decode cX1_mayBe 67 = .ok (.if_icmp .gt 7, 3) := by decide +kernel
theorem dX1_mayBe_70 : decode cX1_mayBe 70 = .ok (.iconst 1, 1) := by decide +kernel
theorem dX1_mayBe_71 : decode cX1_mayBe 71 = .ok (.goto 4, 3) := by decide +kernel
theorem dX1_mayBe_74 : decode cX1_mayBe 74 = .ok (.iconst 0, 1) := by decide +kernel
theorem dX1_mayBe_75 : decode cX1_mayBe 75 = .ok (.ireturn, 1) := by decide +kernel
theorem dX1_mayBe_76 : decode cX1_mayBe 76 = .ok (.iload_n 1, 1) := by decide +kernel
theorem dX1_mayBe_77 : decode cX1_mayBe 77 = .ok (.iconst 1, 1) := by decide +kernel
theorem dX1_mayBe_78 : decode cX1_mayBe 78 = .ok (.if_icmp .lt 13, 3) := by decide +kernel
theorem dX1_mayBe_81 : decode cX1_mayBe 81 = .ok (.iload_n 1, 1) := by decide +kernel
theorem dX1_mayBe_82 : decode cX1_mayBe 82 = .ok (.bipush 99, 2) := by decide +kernel
theorem dX1_mayBe_84 : decode cX1_mayBe 84 = .ok (.if_icmp .gt 7, 3) := by decide +kernel
theorem dX1_mayBe_87 : decode cX1_mayBe 87 = .ok (.iconst 1, 1) := by decide +kernel
theorem dX1_mayBe_88 : decode cX1_mayBe 88 = .ok (.goto 4, 3) := by decide +kernel
theorem dX1_mayBe_91 : decode cX1_mayBe 91 = .ok (.iconst 0, 1) := by decide +kernel
theorem dX1_mayBe_92 : decode cX1_mayBe 92 = .ok (.ireturn, 1) := by decide +kernel
theorem dX1_mayBe_93 : decode cX1_mayBe 93 = .ok (.iload_n 1, 1) := by decide +kernel
theorem dX1_mayBe_94 : decode cX1_mayBe 94 = .ok (.bipush (-50), 2) := by decide +kernel
theorem dX1_mayBe_96 : decode cX1_mayBe 96 = .ok (.if_icmp .lt 13, 3) := by decide +kernel
theorem dX1_mayBe_99 : decode cX1_mayBe 99 = .ok (.iload_n 1, 1) := by decide +kernel
theorem dX1_mayBe_100 : decode cX1_mayBe 100 = .ok (.bipush 50, 2) := by decide +kernel
theorem dX1_mayBe_102 : decode cX1_mayBe 102 = .ok (.if_icmp .gt 7, 3) := by decide +kernel
theorem dX1_mayBe_105 : decode cX1_mayBe 105 = .ok (.iconst 1, 1) := by decide +kernel
theorem dX1_mayBe_106 : decode cX1_mayBe 106 = .ok (.goto 4, 3) := by decide +kernel
theorem dX1_mayBe_109 : decode cX1_mayBe 109 = .ok (.iconst 0, 1) := by decide +kernel
theorem dX1_mayBe_110 : decode cX1_mayBe 110 = .ok (.ireturn, 1) := by decide +kernel
theorem dX1_mayBe_111 : decode cX1_mayBe 111 = .ok (.iload_n 1, 1) := by decide +kernel
theorem dX1_mayBe_112 : decode cX1_mayBe 112 = .ok (.ifCond .lt 13, 3) := by decide +kernel
theorem dX1_mayBe_115 : decode cX1_mayBe 115 = .ok (.iload_n 1, 1) := by decide +kernel
theorem dX1_mayBe_116 : decode cX1_mayBe 116 = .ok (.bipush 20, 2) := by decide +kernel
theorem dX1_mayBe_118 : decode cX1_mayBe 118 = .ok (.if_icmp .gt 7, 3) := by decide +kernel
theorem dX1_mayBe_121 : decode cX1_mayBe 121 = .ok (.iconst 1, 1) := by decide +kernel
theorem dX1_mayBe_122 : decode cX1_mayBe 122 = .ok (.goto 4, 3) := by decide +kernel
theorem dX1_mayBe_125 : decode cX1_mayBe 125 = .ok (.iconst 0, 1) := by decide +kernel
theorem dX1_mayBe_126 : decode cX1_mayBe 126 = .ok (.ireturn, 1) := by decide +kernel
theorem dX1_mayBe_127 : decode cX1_mayBe 127 = .ok (.iconst 0, 1) := by decide +kernel
theorem dX1_mayBe_128 : decode cX1_mayBe 128 = .ok (.ireturn, 1) := by decide +kernel
theorem dX1_change_0 : decode cX1_change 0 = .ok (.iload_n 1, 1) := by decide +kernel
theorem dX1_change_1 : decode cX1_change 1 = .ok (.tableswitch 87 0 5 #[39, 47, 55, 63, 71, 79], 39) := by decide +kernel
theorem dX1_change_40 : decode cX1_change 40 = .ok (.aload_n 0, 1) := by decide +kernel
theorem dX1_change_41 : decode cX1_change 41 = .ok (.iload_n 2, 1) := by decide +kernel
theorem dX1_change_42 : decode cX1_change 42 = .ok (.putfield 9, 3) := by decide +kernel
theorem dX1_change_45 : decode cX1_change 45 = .ok (.goto 48, 3) := by decide +kernel
theorem dX1_change_48 : decode cX1_change 48 = .ok (.aload_n 0, 1) := by decide +kernel
theorem dX1_change_49 : decode cX1_change 49 = .ok (.iload_n 2, 1) := by decide +kernel
theorem dX1_change_50 : decode cX1_change 50 = .ok (.putfield 15, 3) := by decide +kernel
theorem dX1_change_53 : decode cX1_change 53 = .ok (.goto 40, 3) := by decide +kernel
theorem dX1_change_56 : decode cX1_change 56 = .ok (.aload_n 0, 1) := by decide +kernel
theorem dX1_change_57 : decode cX1_change 57 = .ok (.iload_n 2, 1) := by decide +kernel
theorem dX1_change_58 : decode cX1_change 58 = .ok (.putfield 18, 3) := by decide +kernel
theorem dX1_change_61 : decode cX1_change 61 = .ok (.goto 32, 3) := by decide +kernel
theorem dX1_change_64 : decode cX1_change 64 = .ok (.aload_n 0, 1) := by decide +kernel
theorem dX1_change_65 : decode cX1_change 65 = .ok (.iload_n 2, 1) := by decide +kernel
theorem dX1_change_66 : decode cX1_change 66 = .ok (.putfield 21, 3) := by decide +kernel
theorem dX1_change_69 : decode cX1_change 69 = .ok (.goto 24, 3) := by decide +kernel
theorem dX1_change_72 : decode cX1_change 72 = .ok (.aload_n 0, 1) := by decide +kernel
theorem dX1_change_73 : decode cX1_change 73 = .ok (.iload_n 2, 1) := by decide +kernel
theorem dX1_change_74 : decode cX1_change 74 = .ok (.putfield 24, 3) := by decide +kernel
theorem dX1_change_77 : decode cX1_change 77 = .ok (.goto 16, 3) := by decide +kernel
theorem dX1_change_80 : decode cX1_change 80 = .ok (.aload_n 0, 1) := by decide +kernel
theorem dX1_change_81 : decode cX1_change 81 = .ok (.iload_n 2, 1) := by decide +kernel
theorem dX1_change_82 : decode cX1_change 82 = .ok (.putfield 45, 3) := by decide +kernel
theorem dX1_change_85 : decode cX1_change 85 = .ok (.goto 8, 3) := by decide +kernel
theorem dX1_change_88 : decode cX1_change 88 = .ok (.aload_n 0, 1) := by decide +kernel
theorem dX1_change_89 : decode cX1_change 89 = .ok (.iload_n 2, 1) := by decide +kernel
theorem dX1_change_90 : decode cX1_change 90 = .ok (.putfield 27, 3) := by decide +kernel
theorem dX1_change_93 : decode cX1_change 93 = .ok (.return_, 1) := by decide +kernel
theorem dX1_hasUnknown_0 : decode cX1_hasUnknown 0 = .ok (.iload_n 1, 1) := by decide +kernel
theorem dX1_hasUnknown_1 : decode cX1_hasUnknown 1 = .ok (.ifCond .lt 15, 3) := by decide +kernel
theorem dX1_hasUnknown_4 : decode cX1_hasUnknown 4 = .ok (.iload_n 1, 1) := by decide +kernel
theorem dX1_hasUnknown_5 : decode cX1_hasUnknown 5 = .ok (.aload_n 0, 1) := by decide +kernel
theorem dX1_hasUnknown_6 : decode cX1_hasUnknown 6 = .ok (.getfield 64, 3) := by decide +kernel
theorem dX1_hasUnknown_9 : decode cX1_hasUnknown 9 = .ok (.if_icmp .ge 7, 3) := by decide +kernel
theorem dX1_hasUnknown_12 : decode cX1_hasUnknown 12 = .ok (.iconst 1, 1) := by decide +kernel
theorem dX1_hasUnknown_13 : decode cX1_hasUnknown 13 = .ok (.goto 4, 3) := by decide +kernel
theorem dX1_hasUnknown_16 : decode cX1_hasUnknown 16 = .ok (.iconst 0, 1) := by decide +kernel
theorem dX1_hasUnknown_17 : decode cX1_hasUnknown 17 = .ok (.ireturn, 1) := by decide +kernel
theorem dX1_ohmsOf_0 : decode cX1_ohmsOf 0 = .ok (.iload_n 1, 1) := by decide +kernel
theorem dX1_ohmsOf_1 : decode cX1_ohmsOf 1 = .ok (.ifCond .lt 21, 3) := by decide +kernel
theorem dX1_ohmsOf_4 : decode cX1_ohmsOf 4 = .ok (.iload_n 1, 1) := by decide +kernel
theorem dX1_ohmsOf_5 : decode cX1_ohmsOf 5 = .ok (.aload_n 0, 1) := by decide +kernel
theorem dX1_ohmsOf_6 : decode cX1_ohmsOf 6 = .ok (.getfield 30, 3) := by decide +kernel
theorem dX1_ohmsOf_9 : decode cX1_ohmsOf 9 = .ok (.arraylength, 1) := by decide +kernel
theorem dX1_ohmsOf_10 : decode cX1_ohmsOf 10 = .ok (.if_icmp .ge 12, 3) := by decide +kernel
theorem dX1_ohmsOf_13 : decode cX1_ohmsOf 13 = .ok (.aload_n 0, 1) := by decide +kernel
theorem dX1_ohmsOf_14 : decode cX1_ohmsOf 14 = .ok (.getfield 30, 3) := by decide +kernel
theorem dX1_ohmsOf_17 : decode cX1_ohmsOf 17 = .ok (.iload_n 1, 1) := by decide +kernel
theorem dX1_ohmsOf_18 : decode cX1_ohmsOf 18 = .ok (.iaload, 1) := by decide +kernel
theorem dX1_ohmsOf_19 : decode cX1_ohmsOf 19 = .ok (.goto 4, 3) := by decide +kernel
theorem dX1_ohmsOf_22 : decode cX1_ohmsOf 22 = .ok (.iconst 0, 1) := by decide +kernel
theorem dX1_ohmsOf_23 : decode cX1_ohmsOf 23 = .ok (.ireturn, 1) := by decide +kernel
theorem dX1_putUnknown_0 : decode cX1_putUnknown 0 = .ok (.aload_n 0, 1) := by decide +kernel
theorem dX1_putUnknown_1 : decode cX1_putUnknown 1 = .ok (.getfield 64, 3) := by decide +kernel
theorem dX1_putUnknown_4 : decode cX1_putUnknown 4 = .ok (.ifCond .lt 35, 3) := by decide +kernel
theorem dX1_putUnknown_7 : decode cX1_putUnknown 7 = .ok (.aload_n 0, 1) := by decide +kernel
theorem dX1_putUnknown_8 : decode cX1_putUnknown 8 = .ok (.getfield 64, 3) := by decide +kernel
theorem dX1_putUnknown_11 : decode cX1_putUnknown 11 = .ok (.aload_n 0, 1) := by decide +kernel
theorem dX1_putUnknown_12 : decode cX1_putUnknown 12 = .ok (.getfield 30, 3) := by decide +kernel
theorem dX1_putUnknown_15 : decode cX1_putUnknown 15 = .ok (.arraylength, 1) := by decide +kernel
theorem dX1_putUnknown_16 : decode cX1_putUnknown 16 = .ok (.if_icmp .ge 23, 3) := by decide +kernel
theorem dX1_putUnknown_19 : decode cX1_putUnknown 19 = .ok (.aload_n 0, 1) := by decide +kernel
theorem dX1_putUnknown_20 : decode cX1_putUnknown 20 = .ok (.getfield 30, 3) := by decide +kernel
theorem dX1_putUnknown_23 : decode cX1_putUnknown 23 = .ok (.aload_n 0, 1) := by decide +kernel
theorem dX1_putUnknown_24 : decode cX1_putUnknown 24 = .ok (.getfield 64, 3) := by decide +kernel
theorem dX1_putUnknown_27 : decode cX1_putUnknown 27 = .ok (.iload_n 1, 1) := by decide +kernel
theorem dX1_putUnknown_28 : decode cX1_putUnknown 28 = .ok (.iastore, 1) := by decide +kernel
theorem dX1_putUnknown_29 : decode cX1_putUnknown 29 = .ok (.aload_n 0, 1) := by decide +kernel
theorem dX1_putUnknown_30 : decode cX1_putUnknown 30 = .ok (.dup, 1) := by decide +kernel
theorem dX1_putUnknown_31 : decode cX1_putUnknown 31 = .ok (.getfield 64, 3) := by decide +kernel
theorem dX1_putUnknown_34 : decode cX1_putUnknown 34 = .ok (.iconst 1, 1) := by decide +kernel
theorem dX1_putUnknown_35 : decode cX1_putUnknown 35 = .ok (.iadd, 1) := by decide +kernel
theorem dX1_putUnknown_36 : decode cX1_putUnknown 36 = .ok (.putfield 64, 3) := by decide +kernel
theorem dX1_putUnknown_39 : decode cX1_putUnknown 39 = .ok (.return_, 1) := by decide +kernel
set_option maxRecDepth 20000 in
theorem ggX1_difference_X3_power : GoodIn wsX1_difference wsX3_power := goodIn_r _ [6] (by decide +kernel) (by decide +kernel)
set_option maxRecDepth 20000 in
theorem gX1_difference_X3_power_n100 : GoodIn wsX1_difference (wsX3_power) := ggX1_difference_X3_power
set_option maxRecDepth 20000 in
theorem ggX1_difference_X1_ohmsOf : GoodIn wsX1_difference wsX1_ohmsOf := goodIn_r _ [11, 12, 13, 14, 15, 16, 17, 18, 19, 20, 21, 22, 23, 24, 25, 26, 27, 28] (by decide +kernel) (by decide +kernel)
set_option maxRecDepth 20000 in
theorem gX1_difference_X1_ohmsOf : GoodIn wsX1_difference (wsV RX1 103 RX1 yX1_ohmsOf wsX1_ohmsOf) := goodIn_app (goodIn_of _ (by decide +kernel)) ggX1_difference_X1_ohmsOf
theorem dX1_difference_0 : decode cX1_difference 0 = .ok (.aload_n 0, 1) := by decide +kernel
theorem dX1_difference_1 : decode cX1_difference 1 = .ok (.getfield 15, 3) := by decide +kernel
theorem dX1_difference_4 : decode cX1_difference 4 = .ok (.invokestatic 100, 3) := by decide +kernel
theorem dX1_difference_7 : decode cX1_difference 7 = .ok (.aload_n 0, 1) := by decide +kernel
theorem dX1_difference_8 : decode cX1_difference 8 = .ok (.aload_n 0, 1) := by decide +kernel
theorem dX1_difference_9 : decode cX1_difference 9 = .ok (.getfield 67, 3) := by decide +kernel
theorem dX1_difference_12 : decode cX1_difference 12 = .ok (.invokevirtual 103, 3) := by decide +kernel
theorem dX1_difference_15 : decode cX1_difference 15 = .ok (.imul, 1) := by decide +kernel
theorem dX1_difference_16 : decode cX1_difference 16 = .ok (.aload_n 0, 1) := by decide +kernel
theorem dX1_difference_17 : decode cX1_difference 17 = .ok (.getfield 9, 3) := by decide +kernel
theorem dX1_difference_20 : decode cX1_difference 20 = .ok (.invokestatic 100, 3) := by decide +kernel
theorem dX1_difference_23 : decode cX1_difference 23 = .ok (.iload_n 1, 1) := by decide +kernel
theorem dX1_difference_24 : decode cX1_difference 24 = .ok (.imul, 1) := by decide +kernel
theorem dX1_difference_25 : decode cX1_difference 25 = .ok (.isub, 1) := by decide +kernel
theorem dX1_difference_26 : decode cX1_difference 26 = .ok (.ireturn, 1) := by decide +kernel
set_option maxRecDepth 20000 in
theorem ggX1_denominator_X3_power : GoodIn wsX1_denominator wsX3_power := goodIn_r _ [6] (by decide +kernel) (by decide +kernel)
set_option maxRecDepth 20000 in
theorem gX1_denominator_X3_power_n100 : GoodIn wsX1_denominator (wsX3_power) := ggX1_denominator_X3_power
set_option maxRecDepth 20000 in
theorem ggX1_denominator_X1_ohmsOf : GoodIn wsX1_denominator wsX1_ohmsOf := goodIn_r _ [11, 12, 13, 14, 15, 16, 17, 18, 19, 20, 21, 22, 23, 24, 25, 26, 27, 28] (by decide +kernel) (by decide +kernel)
set_option maxRecDepth 20000 in
theorem gX1_denominator_X1_ohmsOf : GoodIn wsX1_denominator (wsV RX1 103 RX1 yX1_ohmsOf wsX1_ohmsOf) := goodIn_app (goodIn_of _ (by decide +kernel)) ggX1_denominator_X1_ohmsOf
theorem dX1_denominator_0 : decode cX1_denominator 0 = .ok (.aload_n 0, 1) := by decide +kernel
theorem dX1_denominator_1 : decode cX1_denominator 1 = .ok (.getfield 9, 3) := by decide +kernel
theorem dX1_denominator_4 : decode cX1_denominator 4 = .ok (.invokestatic 100, 3) := by decide +kernel
theorem dX1_denominator_7 : decode cX1_denominator 7 = .ok (.aload_n 0, 1) := by decide +kernel
theorem dX1_denominator_8 : decode cX1_denominator 8 = .ok (.getfield 15, 3) := by decide +kernel
theorem dX1_denominator_11 : decode cX1_denominator 11 = .ok (.invokestatic 100, 3) := by decide +kernel
theorem dX1_denominator_14 : decode cX1_denominator 14 = .ok (.iadd, 1) := by decide +kernel
theorem dX1_denominator_15 : decode cX1_denominator 15 = .ok (.aload_n 0, 1) := by decide +kernel
theorem dX1_denominator_16 : decode cX1_denominator 16 = .ok (.aload_n 0, 1) := by decide +kernel
theorem dX1_denominator_17 : decode cX1_denominator 17 = .ok (.getfield 67, 3) := by decide +kernel
theorem dX1_denominator_20 : decode cX1_denominator 20 = .ok (.invokevirtual 103, 3) := by decide +kernel
theorem dX1_denominator_23 : decode cX1_denominator 23 = .ok (.iload_n 1, 1) := by decide +kernel
theorem dX1_denominator_24 : decode cX1_denominator 24 = .ok (.iadd, 1) := by decide +kernel
theorem dX1_denominator_25 : decode cX1_denominator 25 = .ok (.imul, 1) := by decide +kernel
theorem dX1_denominator_26 : decode cX1_denominator 26 = .ok (.ireturn, 1) := by decide +kernel
set_option maxRecDepth 20000 in
theorem ggX1_deflection_X3_power : GoodIn wsX1_deflection wsX3_power := goodIn_r _ [5] (by decide +kernel) (by decide +kernel)
set_option maxRecDepth 20000 in
theorem gX1_deflection_X3_power_n100 : GoodIn wsX1_deflection (wsX3_power) := ggX1_deflection_X3_power
theorem dX1_deflection_0 : decode cX1_deflection 0 = .ok (.iload_n 3, 1) := by decide +kernel
theorem dX1_deflection_1 : decode cX1_deflection 1 = .ok (.invokestatic 100, 3) := by decide +kernel
theorem dX1_deflection_4 : decode cX1_deflection 4 = .ok (.istore 4, 2) := by decide +kernel
theorem dX1_deflection_6 : decode cX1_deflection 6 = .ok (.iload_n 2, 1) := by decide +kernel
theorem dX1_deflection_7 : decode cX1_deflection 7 = .ok (.ifCond .eq 8, 3) := by decide +kernel
theorem dX1_deflection_10 : decode cX1_deflection 10 = .ok (.iload 4, 2) := by decide +kernel
theorem dX1_deflection_12 : decode cX1_deflection 12 = .ok (.ifCond .ne 5, 3) := by decide +kernel
theorem dX1_deflection_15 : decode cX1_deflection 15 = .ok (.iconst 0, 1) := by decide +kernel
theorem dX1_deflection_16 : decode cX1_deflection 16 = .ok (.ireturn, 1) := by decide +kernel
theorem dX1_deflection_17 : decode cX1_deflection 17 = .ok (.ldc2_w 106, 3) := by decide +kernel
theorem dX1_deflection_20 : decode cX1_deflection 20 = .ok (.aload_n 0, 1) := by decide +kernel
theorem dX1_deflection_21 : decode cX1_deflection 21 = .ok (.getfield 21, 3) := by decide +kernel
theorem dX1_deflection_24 : decode cX1_deflection 24 = .ok (.i2l, 1) := by decide +kernel
theorem dX1_deflection_25 : decode cX1_deflection 25 = .ok (.lmul, 1) := by decide +kernel
theorem dX1_deflection_26 : decode cX1_deflection 26 = .ok (.iload_n 1, 1) := by decide +kernel
theorem dX1_deflection_27 : decode cX1_deflection 27 = .ok (.i2l, 1) := by decide +kernel
theorem dX1_deflection_28 : decode cX1_deflection 28 = .ok (.lmul, 1) := by decide +kernel
theorem dX1_deflection_29 : decode cX1_deflection 29 = .ok (.iload_n 2, 1) := by decide +kernel
theorem dX1_deflection_30 : decode cX1_deflection 30 = .ok (.i2l, 1) := by decide +kernel
theorem dX1_deflection_31 : decode cX1_deflection 31 = .ok (.ldiv, 1) := by decide +kernel
theorem dX1_deflection_32 : decode cX1_deflection 32 = .ok (.iload 4, 2) := by decide +kernel
theorem dX1_deflection_34 : decode cX1_deflection 34 = .ok (.i2l, 1) := by decide +kernel
theorem dX1_deflection_35 : decode cX1_deflection 35 = .ok (.ldiv, 1) := by decide +kernel
theorem dX1_deflection_36 : decode cX1_deflection 36 = .ok (.l2i, 1) := by decide +kernel
theorem dX1_deflection_37 : decode cX1_deflection 37 = .ok (.ireturn, 1) := by decide +kernel
set_option maxRecDepth 20000 in
theorem ggX1_offset_X1_offsetAt : GoodIn wsX1_offset wsX1_offsetAt := goodIn_r _ [6, 7, 8, 9, 10, 11, 12, 13, 14, 15, 16, 17, 18, 19, 20, 21, 22, 23, 24] (by decide +kernel) (by decide +kernel)
set_option maxRecDepth 20000 in
theorem gX1_offset_X1_offsetAt : GoodIn wsX1_offset (wsV RX1 108 RX1 yX1_offsetAt wsX1_offsetAt) := goodIn_app (goodIn_of _ (by decide +kernel)) ggX1_offset_X1_offsetAt
theorem dX1_offset_0 : decode cX1_offset 0 = .ok (.aload_n 0, 1) := by decide +kernel
theorem dX1_offset_1 : decode cX1_offset 1 = .ok (.aload_n 0, 1) := by decide +kernel
theorem dX1_offset_2 : decode cX1_offset 2 = .ok (.getfield 48, 3) := by decide +kernel
theorem dX1_offset_5 : decode cX1_offset 5 = .ok (.invokevirtual 108, 3) := by decide +kernel
theorem dX1_offset_8 : decode cX1_offset 8 = .ok (.ireturn, 1) := by decide +kernel
theorem dX1_offsetAt_0 : decode cX1_offsetAt 0 = .ok (.aload_n 0, 1) := by decide +kernel
theorem dX1_offsetAt_1 : decode cX1_offsetAt 1 = .ok (.getfield 45, 3) := by decide +kernel
theorem dX1_offsetAt_4 : decode cX1_offsetAt 4 = .ok (.iload_n 1, 1) := by decide +kernel
theorem dX1_offsetAt_5 : decode cX1_offsetAt 5 = .ok (.aload_n 0, 1) := by decide +kernel
theorem dX1_offsetAt_6 : decode cX1_offsetAt 6 = .ok (.getfield 27, 3) := by decide +kernel
theorem dX1_offsetAt_9 : decode cX1_offsetAt 9 = .ok (.imul, 1) := by decide +kernel
theorem dX1_offsetAt_10 : decode cX1_offsetAt 10 = .ok (.bipush 100, 2) := by decide +kernel
theorem dX1_offsetAt_12 : decode cX1_offsetAt 12 = .ok (.idiv, 1) := by decide +kernel
theorem dX1_offsetAt_13 : decode cX1_offsetAt 13 = .ok (.iadd, 1) := by decide +kernel
theorem dX1_offsetAt_14 : decode cX1_offsetAt 14 = .ok (.ireturn, 1) := by decide +kernel
theorem dX1_warmed_0 : decode cX1_warmed 0 = .ok (.sipush 9999, 3) := by decide +kernel
theorem dX1_warmed_3 : decode cX1_warmed 3 = .ok (.iload_n 0, 1) := by decide +kernel
theorem dX1_warmed_4 : decode cX1_warmed 4 = .ok (.iload_n 1, 1) := by decide +kernel
theorem dX1_warmed_5 : decode cX1_warmed 5 = .ok (.iadd, 1) := by decide +kernel
theorem dX1_warmed_6 : decode cX1_warmed 6 = .ok (.invokestatic 111, 3) := by decide +kernel
theorem dX1_warmed_9 : decode cX1_warmed 9 = .ok (.ireturn, 1) := by decide +kernel
theorem dX1_cooled_0 : decode cX1_cooled 0 = .ok (.iconst 0, 1) := by decide +kernel
theorem dX1_cooled_1 : decode cX1_cooled 1 = .ok (.iload_n 0, 1) := by decide +kernel
theorem dX1_cooled_2 : decode cX1_cooled 2 = .ok (.iload_n 0, 1) := by decide +kernel
theorem dX1_cooled_3 : decode cX1_cooled 3 = .ok (.bipush 10, 2) := by decide +kernel
theorem dX1_cooled_5 : decode cX1_cooled 5 = .ok (.idiv, 1) := by decide +kernel
theorem dX1_cooled_6 : decode cX1_cooled 6 = .ok (.iconst 1, 1) := by decide +kernel
theorem dX1_cooled_7 : decode cX1_cooled 7 = .ok (.iadd, 1) := by decide +kernel
theorem dX1_cooled_8 : decode cX1_cooled 8 = .ok (.isub, 1) := by decide +kernel
theorem dX1_cooled_9 : decode cX1_cooled 9 = .ok (.invokestatic 116, 3) := by decide +kernel
theorem dX1_cooled_12 : decode cX1_cooled 12 = .ok (.ireturn, 1) := by decide +kernel
set_option maxRecDepth 20000 in
theorem ggX1_pressKey_X1_difference : GoodIn wsX1_pressKey wsX1_difference := goodIn_r _ [21, 22, 23, 24, 25, 26, 27, 28, 29, 30, 20, 31, 32, 63, 64, 65, 66, 67, 68, 69, 70, 71, 72, 73, 74, 75, 76, 77, 78] (by decide +kernel) (by decide +kernel)
set_option maxRecDepth 20000 in
theorem gX1_pressKey_X1_difference : GoodIn wsX1_pressKey (wsV RX1 119 RX1 yX1_difference wsX1_difference) := goodIn_app (goodIn_of _ (by decide +kernel)) ggX1_pressKey_X1_difference
set_option maxRecDepth 20000 in
theorem ggX1_pressKey_X1_denominator : GoodIn wsX1_pressKey wsX1_denominator := goodIn_r _ [36, 24, 22, 23, 25, 26, 27, 28, 29, 30, 20, 31, 32, 63, 64, 65, 66, 67, 68, 69, 70, 71, 72, 73, 74, 75, 76, 77, 78] (by decide +kernel) (by decide +kernel)
set_option maxRecDepth 20000 in
theorem gX1_pressKey_X1_denominator : GoodIn wsX1_pressKey (wsV RX1 122 RX1 yX1_denominator wsX1_denominator) := goodIn_app (goodIn_of _ (by decide +kernel)) ggX1_pressKey_X1_denominator
set_option maxRecDepth 20000 in
theorem ggX1_pressKey_X1_deflection : GoodIn wsX1_pressKey wsX1_deflection := goodIn_r _ [40, 41, 16, 25, 26, 27, 63, 64, 65, 66, 67, 68, 69, 70, 71, 72, 73, 74, 75, 76, 77, 78] (by decide +kernel) (by decide +kernel)
set_option maxRecDepth 20000 in
theorem gX1_pressKey_X1_deflection : GoodIn wsX1_pressKey (wsV RX1 125 RX1 yX1_deflection wsX1_deflection) := goodIn_app (goodIn_of _ (by decide +kernel)) ggX1_pressKey_X1_deflection
set_option maxRecDepth 20000 in
theorem ggX1_pressKey_X1_offset : GoodIn wsX1_pressKey wsX1_offset := goodIn_r _ [45, 15, 46, 47, 48, 20, 49, 50, 51, 63, 64, 65, 66, 67, 68, 69, 70, 71, 72, 73, 74, 75, 76, 77, 78] (by decide +kernel) (by decide +kernel)
set_option maxRecDepth 20000 in
theorem gX1_pressKey_X1_offset : GoodIn wsX1_pressKey (wsV RX1 94 RX1 yX1_offset wsX1_offset) := goodIn_app (goodIn_of _ (by decide +kernel)) ggX1_pressKey_X1_offset
set_option maxRecDepth 20000 in
theorem ggX1_pressKey_X0_write : GoodIn wsX1_pressKey wsX0_write := goodIn_r _ [55, 56, 57, 58, 59, 4, 5, 6, 79, 80, 81] (by decide +kernel) (by decide +kernel)
set_option maxRecDepth 20000 in
theorem gX1_pressKey_X0_write_n129 : GoodIn wsX1_pressKey (wsX0_write) := ggX1_pressKey_X0_write
set_option maxRecDepth 20000 in
theorem ggX1_pressKey_X1_warmed : GoodIn wsX1_pressKey wsX1_warmed := goodIn_r _ [62, 3, 4, 5, 6] (by decide +kernel) (by decide +kernel)
set_option maxRecDepth 20000 in
theorem gX1_pressKey_X1_warmed : GoodIn wsX1_pressKey (va_wsS RX1 133 yX1_warmed wsX1_warmed) := goodIn_app (goodIn_of _ (by decide +kernel)) ggX1_pressKey_X1_warmed
theorem dX1_pressKey_0 : decode cX1_pressKey 0 = .ok (.iload_n 1, 1) := by decide +kernel
theorem dX1_pressKey_1 : decode cX1_pressKey 1 = .ok (.ifCond .eq 7, 3) := by decide +kernel
theorem dX1_pressKey_4 : decode cX1_pressKey 4 = .ok (.iconst (-1), 1) := by decide +kernel
theorem dX1_pressKey_5 : decode cX1_pressKey 5 = .ok (.goto 4, 3) := by decide +kernel
theorem dX1_pressKey_8 : decode cX1_pressKey 8 = .ok (.iconst 1, 1) := by decide +kernel
theorem dX1_pressKey_9 : decode cX1_pressKey 9 = .ok (.istore_n 2, 1) := by decide +kernel
theorem dX1_pressKey_10 : decode cX1_pressKey 10 = .ok (.iload_n 2, 1) := by decide +kernel
theorem dX1_pressKey_11 : decode cX1_pressKey 11 = .ok (.aload_n 0, 1) := by decide +kernel
theorem dX1_pressKey_12 : decode cX1_pressKey 12 = .ok (.aload_n 0, 1) := by decide +kernel
theorem dX1_pressKey_13 : decode cX1_pressKey 13 = .ok (.aload_n 0, 1) := by decide +kernel
theorem dX1_pressKey_14 : decode cX1_pressKey 14 = .ok (.getfield 18, 3) := by decide +kernel
theorem dX1_pressKey_17 : decode cX1_pressKey 17 = .ok (.invokevirtual 119, 3) := by decide +kernel
theorem dX1_pressKey_20 : decode cX1_pressKey 20 = .ok (.aload_n 0, 1) := by decide +kernel
theorem dX1_pressKey_21 : decode cX1_pressKey 21 = .ok (.aload_n 0, 1) := by decide +kernel
theorem dX1_pressKey_22 : decode cX1_pressKey 22 = .ok (.getfield 18, 3) := by decide +kernel
theorem dX1_pressKey_25 : decode cX1_pressKey 25 = .ok (.invokevirtual 122, 3) := by decide +kernel
theorem dX1_pressKey_28 : decode cX1_pressKey 28 = .ok (.aload_n 0, 1) := by decide +kernel
theorem dX1_pressKey_29 : decode cX1_pressKey 29 = .ok (.getfield 24, 3) := by decide +kernel
theorem dX1_pressKey_32 : decode cX1_pressKey 32 = .ok (.invokevirtual 125, 3) := by decide +kernel
theorem dX1_pressKey_35 : decode cX1_pressKey 35 = .ok (.imul, 1) := by decide +kernel
theorem dX1_pressKey_36 : decode cX1_pressKey 36 = .ok (.aload_n 0, 1) := by decide +kernel
theorem dX1_pressKey_37 : decode cX1_pressKey 37 = .ok (.invokevirtual 94, 3) := by decide +kernel
theorem dX1_pressKey_40 : decode cX1_pressKey 40 = .ok (.iadd, 1) := by decide +kernel
theorem dX1_pressKey_41 : decode cX1_pressKey 41 = .ok (.istore_n 3, 1) := by decide +kernel
theorem dX1_pressKey_42 : decode cX1_pressKey 42 = .ok (.sipush (-500), 3) := by decide +kernel
theorem dX1_pressKey_45 : decode cX1_pressKey 45 = .ok (.sipush 500, 3) := by decide +kernel
theorem dX1_pressKey_48 : decode cX1_pressKey 48 = .ok (.iload_n 3, 1) := by decide +kernel
theorem dX1_pressKey_49 : decode cX1_pressKey 49 = .ok (.invokestatic 111, 3) := by decide +kernel
theorem dX1_pressKey_52 : decode cX1_pressKey 52 = .ok (.invokestatic 116, 3) := by decide +kernel
theorem dX1_pressKey_55 : decode cX1_pressKey 55 = .ok (.istore 4, 2) := by decide +kernel
theorem dX1_pressKey_57 : decode cX1_pressKey 57 = .ok (.aload_n 0, 1) := by decide +kernel
theorem dX1_pressKey_58 : decode cX1_pressKey 58 = .ok (.getfield 37, 3) := by decide +kernel
theorem dX1_pressKey_61 : decode cX1_pressKey 61 = .ok (.iload 4, 2) := by decide +kernel
theorem dX1_pressKey_63 : decode cX1_pressKey 63 = .ok (.iload_n 2, 1) := by decide +kernel
theorem dX1_pressKey_64 : decode cX1_pressKey 64 = .ok (.aload_n 0, 1) := by decide +kernel
theorem dX1_pressKey_65 : decode cX1_pressKey 65 = .ok (.getfield 18, 3) := by decide +kernel
theorem dX1_pressKey_68 : decode cX1_pressKey 68 = .ok (.aload_n 0, 1) := by decide +kernel
theorem dX1_pressKey_69 : decode cX1_pressKey 69 = .ok (.getfield 51, 3) := by decide +kernel
theorem dX1_pressKey_72 : decode cX1_pressKey 72 = .ok (.invokevirtual 129, 3) := by decide +kernel
theorem dX1_pressKey_75 : decode cX1_pressKey 75 = .ok (.aload_n 0, 1) := by decide +kernel
theorem dX1_pressKey_76 : decode cX1_pressKey 76 = .ok (.dup, 1) := by decide +kernel
theorem dX1_pressKey_77 : decode cX1_pressKey 77 = .ok (.getfield 58, 3) := by decide +kernel
theorem dX1_pressKey_80 : decode cX1_pressKey 80 = .ok (.iconst 1, 1) := by decide +kernel
theorem dX1_pressKey_81 : decode cX1_pressKey 81 = .ok (.iadd, 1) := by decide +kernel
theorem dX1_pressKey_82 : decode cX1_pressKey 82 = .ok (.putfield 58, 3) := by decide +kernel
theorem dX1_pressKey_85 : decode cX1_pressKey 85 = .ok (.iload_n 3, 1) := by decide +kernel
theorem dX1_pressKey_86 : decode cX1_pressKey 86 = .ok (.sipush (-5000), 3) := by decide +kernel
theorem dX1_pressKey_89 : decode cX1_pressKey 89 = .ok (.if_icmp .lt 10, 3) := by decide +kernel
theorem dX1_pressKey_92 : decode cX1_pressKey 92 = .ok (.iload_n 3, 1) := by decide +kernel
theorem dX1_pressKey_93 : decode cX1_pressKey 93 = .ok (.sipush 5000, 3) := by decide +kernel
theorem dX1_pressKey_96 : decode cX1_pressKey 96 = .ok (.if_icmp .le 18, 3) := by decide +kernel
theorem dX1_pressKey_99 : decode cX1_pressKey 99 = .ok (.aload_n 0, 1) := by decide +kernel
theorem dX1_pressKey_100 : decode cX1_pressKey 100 = .ok (.iconst 1, 1) := by decide +kernel
theorem dX1_pressKey_101 : decode cX1_pressKey 101 = .ok (.putfield 54, 3) := by decide +kernel
theorem dX1_pressKey_104 : decode cX1_pressKey 104 = .ok (.aload_n 0, 1) := by decide +kernel
theorem dX1_pressKey_105 : decode cX1_pressKey 105 = .ok (.dup, 1) := by decide +kernel
theorem dX1_pressKey_106 : decode cX1_pressKey 106 = .ok (.getfield 61, 3) := by decide +kernel
theorem dX1_pressKey_109 : decode cX1_pressKey 109 = .ok (.iconst 1, 1) := by decide +kernel
theorem dX1_pressKey_110 : decode cX1_pressKey 110 = .ok (.iadd, 1) := by decide +kernel
theorem dX1_pressKey_111 : decode cX1_pressKey 111 = .ok (.putfield 61, 3) := by decide +kernel
theorem dX1_pressKey_114 : decode cX1_pressKey 114 = .ok (.aload_n 0, 1) := by decide +kernel
theorem dX1_pressKey_115 : decode cX1_pressKey 115 = .ok (.aload_n 0, 1) := by decide +kernel
theorem dX1_pressKey_116 : decode cX1_pressKey 116 = .ok (.getfield 48, 3) := by decide +kernel
theorem dX1_pressKey_119 : decode cX1_pressKey 119 = .ok (.aload_n 0, 1) := by decide +kernel
theorem dX1_pressKey_120 : decode cX1_pressKey 120 = .ok (.getfield 21, 3) := by decide +kernel
theorem dX1_pressKey_123 : decode cX1_pressKey 123 = .ok (.invokestatic 133, 3) := by decide +kernel
theorem dX1_pressKey_126 : decode cX1_pressKey 126 = .ok (.putfield 48, 3) := by decide +kernel
theorem dX1_pressKey_129 : decode cX1_pressKey 129 = .ok (.aload_n 0, 1) := by decide +kernel
theorem dX1_pressKey_130 : decode cX1_pressKey 130 = .ok (.dup, 1) := by decide +kernel
theorem dX1_pressKey_131 : decode cX1_pressKey 131 = .ok (.getfield 51, 3) := by decide +kernel
theorem dX1_pressKey_134 : decode cX1_pressKey 134 = .ok (.iconst 1, 1) := by decide +kernel
theorem dX1_pressKey_135 : decode cX1_pressKey 135 = .ok (.iadd, 1) := by decide +kernel
theorem dX1_pressKey_136 : decode cX1_pressKey 136 = .ok (.putfield 51, 3) := by decide +kernel
theorem dX1_pressKey_139 : decode cX1_pressKey 139 = .ok (.iload 4, 2) := by decide +kernel
theorem dX1_pressKey_141 : decode cX1_pressKey 141 = .ok (.ireturn, 1) := by decide +kernel
set_option maxRecDepth 20000 in
theorem ggX1_pressBothWays_X1_pressKey : GoodIn wsX1_pressBothWays wsX1_pressKey := goodIn_r _ [6, 7, 8, 9, 10, 11, 12, 13, 14, 15, 16, 17, 18, 1, 19, 20, 21, 22, 23, 24, 5, 25, 26, 27, 28, 29, 30, 31, 32, 33, 34, 35, 36, 37, 38, 39, 40, 41, 42, 43, 44, 45, 46, 47, 48, 49, 50, 51, 52, 53, 54, 55, 56, 57, 58, 59, 60, 61, 62, 63, 64, 65, 66, 67, 68, 69, 70, 71, 72, 73, 74, 75, 76, 77, 78, 79, 80, 81, 82, 83, 84, 85] (by decide +kernel) (by decide +kernel)
set_option maxRecDepth 20000 in
theorem gX1_pressBothWays_X1_pressKey : GoodIn wsX1_pressBothWays (wsV RX1 136 RX1 yX1_pressKey wsX1_pressKey) := goodIn_app (goodIn_of _ (by decide +kernel)) ggX1_pressBothWays_X1_pressKey
theorem dX1_pressBothWays_0 : decode cX1_pressBothWays 0 = .ok (.aload_n 0, 1) := by decide +kernel
theorem dX1_pressBothWays_1 : decode cX1_pressBothWays 1 = .ok (.iconst 0, 1) := by decide +kernel
theorem dX1_pressBothWays_2 : decode cX1_pressBothWays 2 = .ok (.invokevirtual 136, 3) := by decide +kernel
theorem dX1_pressBothWays_5 : decode cX1_pressBothWays 5 = .ok (.istore_n 1, 1) := by decide +kernel
theorem dX1_pressBothWays_6 : decode cX1_pressBothWays 6 = .ok (.aload_n 0, 1) := by decide +kernel
theorem dX1_pressBothWays_7 : decode cX1_pressBothWays 7 = .ok (.getfield 54, 3) := by decide +kernel
theorem dX1_pressBothWays_10 : decode cX1_pressBothWays 10 = .ok (.ifCond .eq 7, 3) := by decide +kernel
theorem dX1_pressBothWays_13 : decode cX1_pressBothWays 13 = .ok (.iload_n 1, 1) := by decide +kernel
theorem dX1_pressBothWays_14 : decode cX1_pressBothWays 14 = .ok (.goto 10, 3) := by decide +kernel
theorem dX1_pressBothWays_17 : decode cX1_pressBothWays 17 = .ok (.iload_n 1, 1) := by decide +kernel
theorem dX1_pressBothWays_18 : decode cX1_pressBothWays 18 = .ok (.aload_n 0, 1) := by decide +kernel
theorem dX1_pressBothWays_19 : decode cX1_pressBothWays 19 = .ok (.iconst 1, 1) := by decide +kernel
theorem dX1_pressBothWays_20 : decode cX1_pressBothWays 20 = .ok (.invokevirtual 136, 3) := by decide +kernel
theorem dX1_pressBothWays_23 : decode cX1_pressBothWays 23 = .ok (.isub, 1) := by decide +kernel
theorem dX1_pressBothWays_24 : decode cX1_pressBothWays 24 = .ok (.ireturn, 1) := by decide +kernel
set_option maxRecDepth 20000 in
theorem ggX1_waitTicks_X1_cooled : GoodIn wsX1_waitTicks wsX1_cooled := goodIn_r _ [6, 7, 8, 9, 10] (by decide +kernel) (by decide +kernel)
set_option maxRecDepth 20000 in
theorem gX1_waitTicks_X1_cooled : GoodIn wsX1_waitTicks (va_wsS RX1 140 yX1_cooled wsX1_cooled) := goodIn_app (goodIn_of _ (by decide +kernel)) ggX1_waitTicks_X1_cooled
theorem dX1_waitTicks_0 : decode cX1_waitTicks 0 = .ok (.iconst 0, 1) := by decide +kernel
theorem dX1_waitTicks_1 : decode cX1_waitTicks 1 = .ok (.istore_n 2, 1) := by decide +kernel
theorem dX1_waitTicks_2 : decode cX1_waitTicks 2 = .ok (.iload_n 2, 1) := by decide +kernel
theorem dX1_waitTicks_3 : decode cX1_waitTicks 3 = .ok (.iload_n 1, 1) := by decide +kernel
theorem dX1_waitTicks_4 : decode cX1_waitTicks 4 = .ok (.if_icmp .ge 30, 3) := by decide +kernel
theorem dX1_waitTicks_7 : decode cX1_waitTicks 7 = .ok (.aload_n 0, 1) := by decide +kernel
theorem dX1_waitTicks_8 : decode cX1_waitTicks 8 = .ok (.aload_n 0, 1) := by decide +kernel
theorem dX1_waitTicks_9 : decode cX1_waitTicks 9 = .ok (.getfield 48, 3) := by decide +kernel
theorem dX1_waitTicks_12 : decode cX1_waitTicks 12 = .ok (.invokestatic 140, 3) := by decide +kernel
theorem dX1_waitTicks_15 : decode cX1_waitTicks 15 = .ok (.putfield 48, 3) := by decide +kernel
theorem dX1_waitTicks_18 : decode cX1_waitTicks 18 = .ok (.aload_n 0, 1) := by decide +kernel
theorem dX1_waitTicks_19 : decode cX1_waitTicks 19 = .ok (.dup, 1) := by decide +kernel
theorem dX1_waitTicks_20 : decode cX1_waitTicks 20 = .ok (.getfield 51, 3) := by decide +kernel
theorem dX1_waitTicks_23 : decode cX1_waitTicks 23 = .ok (.iconst 1, 1) := by decide +kernel
theorem dX1_waitTicks_24 : decode cX1_waitTicks 24 = .ok (.iadd, 1) := by decide +kernel
theorem dX1_waitTicks_25 : decode cX1_waitTicks 25 = .ok (.putfield 51, 3) := by decide +kernel
theorem dX1_waitTicks_28 : decode cX1_waitTicks 28 = .ok (.iinc 2 1, 3) := by decide +kernel
theorem dX1_waitTicks_31 : decode cX1_waitTicks 31 = .ok (.goto (-29), 3) := by decide +kernel
theorem dX1_waitTicks_34 : decode cX1_waitTicks 34 = .ok (.return_, 1) := by decide +kernel
set_option maxRecDepth 20000 in
theorem ggX1_loosen_X1_waitTicks : GoodIn wsX1_loosen wsX1_waitTicks := goodIn_r _ [6, 7, 8, 9, 10, 5, 11, 12, 13, 14, 15, 16, 17, 18, 19, 20, 21, 22, 23, 24, 25, 26, 27, 28, 29, 30, 31] (by decide +kernel) (by decide +kernel)
set_option maxRecDepth 20000 in
theorem gX1_loosen_X1_waitTicks : GoodIn wsX1_loosen (wsV RX1 143 RX1 yX1_waitTicks wsX1_waitTicks) := goodIn_app (goodIn_of _ (by decide +kernel)) ggX1_loosen_X1_waitTicks
theorem dX1_loosen_0 : decode cX1_loosen 0 = .ok (.aload_n 0, 1) := by decide +kernel
theorem dX1_loosen_1 : decode cX1_loosen 1 = .ok (.iconst 0, 1) := by decide +kernel
theorem dX1_loosen_2 : decode cX1_loosen 2 = .ok (.putfield 54, 3) := by decide +kernel
theorem dX1_loosen_5 : decode cX1_loosen 5 = .ok (.aload_n 0, 1) := by decide +kernel
theorem dX1_loosen_6 : decode cX1_loosen 6 = .ok (.iconst 5, 1) := by decide +kernel
theorem dX1_loosen_7 : decode cX1_loosen 7 = .ok (.invokevirtual 143, 3) := by decide +kernel
theorem dX1_loosen_10 : decode cX1_loosen 10 = .ok (.return_, 1) := by decide +kernel
set_option maxRecDepth 20000 in
theorem ggX1_balanceBox_X3_power : GoodIn wsX1_balanceBox wsX3_power := goodIn_r _ [5] (by decide +kernel) (by decide +kernel)
set_option maxRecDepth 20000 in
theorem gX1_balanceBox_X3_power_n100 : GoodIn wsX1_balanceBox (wsX3_power) := ggX1_balanceBox_X3_power
set_option maxRecDepth 20000 in
theorem ggX1_balanceBox_X1_pressBothWays : GoodIn wsX1_balanceBox wsX1_pressBothWays := goodIn_r _ [10, 2, 11, 12, 13, 9, 14, 1, 15, 16, 17, 18, 19, 20, 21, 22, 23, 24, 25, 26, 27, 28, 29, 30, 31, 32, 33, 34, 35, 3, 4, 5, 36, 37, 38, 39, 40, 41, 42, 43, 44, 45, 46, 47, 48, 49, 50, 51, 52, 53, 54, 55, 56, 57, 58, 59, 60, 61, 62, 63, 64, 65, 66, 67, 68, 69, 70, 71, 72, 73, 74, 75, 76, 77, 78, 79, 80, 81, 82, 83, 84, 85, 86, 87, 88, 89] (by decide +kernel) (by decide +kernel)
set_option maxRecDepth 20000 in
theorem gX1_balanceBox_X1_pressBothWays : GoodIn wsX1_balanceBox (wsV RX1 146 RX1 yX1_pressBothWays wsX1_pressBothWays) := goodIn_app (goodIn_of _ (by decide +kernel)) ggX1_balanceBox_X1_pressBothWays
theorem dX1_balanceBox_0 : decode cX1_balanceBox 0 = .ok (.aload_n 0, 1) := by decide +kernel
theorem dX1_balanceBox_1 : decode cX1_balanceBox 1 = .ok (.iconst 0, 1) := by decide +kernel
theorem dX1_balanceBox_2 : decode cX1_balanceBox 2 = .ok (.putfield 18, 3) := by decide +kernel
theorem dX1_balanceBox_5 : decode cX1_balanceBox 5 = .ok (.iconst 3, 1) := by decide +kernel
theorem dX1_balanceBox_6 : decode cX1_balanceBox 6 = .ok (.istore_n 1, 1) := by decide +kernel
theorem dX1_balanceBox_7 : decode cX1_balanceBox 7 = .ok (.iload_n 1, 1) := by decide +kernel
theorem dX1_balanceBox_8 : decode cX1_balanceBox 8 = .ok (.ifCond .lt 92, 3) := by decide +kernel
theorem dX1_balanceBox_11 : decode cX1_balanceBox 11 = .ok (.aload_n 0, 1) := by decide +kernel
theorem dX1_balanceBox_12 : decode cX1_balanceBox 12 = .ok (.getfield 54, 3) := by decide +kernel
theorem dX1_balanceBox_15 : decode cX1_balanceBox 15 = .ok (.ifCond .ne 85, 3) := by decide +kernel
theorem dX1_balanceBox_18 : decode cX1_balanceBox 18 = .ok (.iload_n 1, 1) := by decide +kernel
theorem dX1_balanceBox_19 : decode cX1_balanceBox 19 = .ok (.invokestatic 100, 3) := by decide +kernel
theorem dX1_balanceBox_22 : decode cX1_balanceBox 22 = .ok (.istore_n 2, 1) := by decide +kernel
theorem dX1_balanceBox_23 : decode cX1_balanceBox 23 = .ok (.iconst 0, 1) := by decide +kernel
theorem dX1_balanceBox_24 : decode cX1_balanceBox 24 = .ok (.istore_n 3, 1) := by decide +kernel
theorem dX1_balanceBox_25 : decode cX1_balanceBox 25 = .ok (.iload_n 3, 1) := by decide +kernel
theorem dX1_balanceBox_26 : decode cX1_balanceBox 26 = .ok (.sipush 9999, 3) := by decide +kernel
theorem dX1_balanceBox_29 : decode cX1_balanceBox 29 = .ok (.if_icmp .ge 65, 3) := by decide +kernel
theorem dX1_balanceBox_32 : decode cX1_balanceBox 32 = .ok (.aload_n 0, 1) := by decide +kernel
theorem dX1_balanceBox_33 : decode cX1_balanceBox 33 = .ok (.getfield 18, 3) := by decide +kernel
theorem dX1_balanceBox_36 : decode cX1_balanceBox 36 = .ok (.iload_n 2, 1) := by decide +kernel
theorem dX1_balanceBox_37 : decode cX1_balanceBox 37 = .ok (.iadd, 1) := by decide +kernel
theorem dX1_balanceBox_38 : decode cX1_balanceBox 38 = .ok (.sipush 9999, 3) := by decide +kernel
theorem dX1_balanceBox_41 : decode cX1_balanceBox 41 = .ok (.if_icmp .gt 53, 3) := by decide +kernel
theorem dX1_balanceBox_44 : decode cX1_balanceBox 44 = .ok (.aload_n 0, 1) := by decide +kernel
theorem dX1_balanceBox_45 : decode cX1_balanceBox 45 = .ok (.dup, 1) := by decide +kernel
theorem dX1_balanceBox_46 : decode cX1_balanceBox 46 = .ok (.getfield 18, 3) := by decide +kernel
theorem dX1_balanceBox_49 : decode cX1_balanceBox 49 = .ok (.iload_n 2, 1) := by decide +kernel
theorem dX1_balanceBox_50 : decode cX1_balanceBox 50 = .ok (.iadd, 1) := by decide +kernel
theorem dX1_balanceBox_51 : decode cX1_balanceBox 51 = .ok (.putfield 18, 3) := by decide +kernel
theorem dX1_balanceBox_54 : decode cX1_balanceBox 54 = .ok (.aload_n 0, 1) := by decide +kernel
theorem dX1_balanceBox_55 : decode cX1_balanceBox 55 = .ok (.invokevirtual 146, 3) := by decide +kernel
theorem dX1_balanceBox_58 : decode cX1_balanceBox 58 = .ok (.istore 4, 2) := by decide +kernel
theorem dX1_balanceBox_60 : decode cX1_balanceBox 60 = .ok (.aload_n 0, 1) := by decide +kernel
theorem dX1_balanceBox_61 : decode cX1_balanceBox 61 = .ok (.getfield 54, 3) := by decide +kernel
theorem dX1_balanceBox_64 : decode cX1_balanceBox 64 = .ok (.ifCond .eq 6, 3) := by decide +kernel
theorem dX1_balanceBox_67 : decode cX1_balanceBox 67 = .ok (.goto 27, 3) := by decide +kernel
theorem dX1_balanceBox_70 : decode cX1_balanceBox 70 = .ok (.iload 4, 2) := by decide +kernel
theorem dX1_balanceBox_72 : decode cX1_balanceBox 72 = .ok (.ifCond .ge 16, 3) := by decide +kernel
theorem dX1_balanceBox_75 : decode cX1_balanceBox 75 = .ok (.aload_n 0, 1) := by decide +kernel
theorem dX1_balanceBox_76 : decode cX1_balanceBox 76 = .ok (.dup, 1) := by decide +kernel
theorem dX1_balanceBox_77 : decode cX1_balanceBox 77 = .ok (.getfield 18, 3) := by decide +kernel
theorem dX1_balanceBox_80 : decode cX1_balanceBox 80 = .ok (.iload_n 2, 1) := by decide +kernel
theorem dX1_balanceBox_81 : decode cX1_balanceBox 81 = .ok (.isub, 1) := by decide +kernel
theorem dX1_balanceBox_82 : decode cX1_balanceBox 82 = .ok (.putfield 18, 3) := by decide +kernel
theorem dX1_balanceBox_85 : decode cX1_balanceBox 85 = .ok (.goto 9, 3) := by decide +kernel
theorem dX1_balanceBox_88 : decode cX1_balanceBox 88 = .ok (.iinc 3 1, 3) := by decide +kernel
theorem dX1_balanceBox_91 : decode cX1_balanceBox 91 = .ok (.goto (-66), 3) := by decide +kernel
theorem dX1_balanceBox_94 : decode cX1_balanceBox 94 = .ok (.iinc 1 (-1), 3) := by decide +kernel
theorem dX1_balanceBox_97 : decode cX1_balanceBox 97 = .ok (.goto (-90), 3) := by decide +kernel
theorem dX1_balanceBox_100 : decode cX1_balanceBox 100 = .ok (.return_, 1) := by decide +kernel
theorem dX2_init_0 : decode cX2_init 0 = .ok (.aload_n 0, 1) := by decide +kernel
theorem dX2_init_1 : decode cX2_init 1 = .ok (.invokespecial 3, 3) := by decide +kernel
theorem dX2_init_4 : decode cX2_init 4 = .ok (.aload_n 0, 1) := by decide +kernel
theorem dX2_init_5 : decode cX2_init 5 = .ok (.bipush 60, 2) := by decide +kernel
theorem dX2_init_7 : decode cX2_init 7 = .ok (.newarray .char, 2) := by decide +kernel
theorem dX2_init_9 : decode cX2_init 9 = .ok (.putfield 9, 3) := by decide +kernel
theorem dX2_init_12 : decode cX2_init 12 = .ok (.return_, 1) := by decide +kernel
theorem dX2_put_0 : decode cX2_put 0 = .ok (.aload_n 0, 1) := by decide +kernel
theorem dX2_put_1 : decode cX2_put 1 = .ok (.getfield 15, 3) := by decide +kernel
theorem dX2_put_4 : decode cX2_put 4 = .ok (.ifCond .lt 35, 3) := by decide +kernel
theorem dX2_put_7 : decode cX2_put 7 = .ok (.aload_n 0, 1) := by decide +kernel
theorem dX2_put_8 : decode cX2_put 8 = .ok (.getfield 15, 3) := by decide +kernel
theorem dX2_put_11 : decode cX2_put 11 = .ok (.aload_n 0, 1) := by decide +kernel
theorem dX2_put_12 : decode cX2_put 12 = .ok (.getfield 9, 3) := by decide +kernel
theorem dX2_put_15 : decode cX2_put 15 = .ok (.arraylength, 1) := by decide +kernel
theorem dX2_put_16 : decode cX2_put 16 = .ok (.if_icmp .ge 23, 3) := by decide +kernel
theorem dX2_put_19 : decode cX2_put 19 = .ok (.aload_n 0, 1) := by decide +kernel
theorem dX2_put_20 : decode cX2_put 20 = .ok (.getfield 9, 3) := by decide +kernel
theorem dX2_put_23 : decode cX2_put 23 = .ok (.aload_n 0, 1) := by decide +kernel
theorem dX2_put_24 : decode cX2_put 24 = .ok (.getfield 15, 3) := by decide +kernel
theorem dX2_put_27 : decode cX2_put 27 = .ok (.iload_n 1, 1) := by decide +kernel
theorem dX2_put_28 : decode cX2_put 28 = .ok (.castore, 1) := by decide +kernel
theorem dX2_put_29 : decode cX2_put 29 = .ok (.aload_n 0, 1) := by decide +kernel
theorem dX2_put_30 : decode cX2_put 30 = .ok (.dup, 1) := by decide +kernel
theorem dX2_put_31 : decode cX2_put 31 = .ok (.getfield 15, 3) := by decide +kernel
theorem dX2_put_34 : decode cX2_put 34 = .ok (.iconst 1, 1) := by decide +kernel
theorem dX2_put_35 : decode cX2_put 35 = .ok (.iadd, 1) := by decide +kernel
theorem dX2_put_36 : decode cX2_put 36 = .ok (.putfield 15, 3) := by decide +kernel
theorem dX2_put_39 : decode cX2_put 39 = .ok (.return_, 1) := by decide +kernel
theorem dX2_letter_0 : decode cX2_letter 0 = .ok (.iload_n 1, 1) := by decide +kernel
theorem dX2_letter_1 : decode cX2_letter 1 = .ok (.ifCond .lt 29, 3) := by decide +kernel
theorem dX2_letter_4 : decode cX2_letter 4 = .ok (.iload_n 1, 1) := by decide +kernel
theorem dX2_letter_5 : decode cX2_letter 5 = .ok (.aload_n 0, 1) := by decide +kernel
theorem dX2_letter_6 : decode cX2_letter 6 = .ok (.getfield 15, 3) := by decide +kernel
theorem dX2_letter_9 : decode cX2_letter 9 = .ok (.if_icmp .ge 21, 3) := by decide +kernel
theorem dX2_letter_12 : decode cX2_letter 12 = .ok (.iload_n 1, 1) := by decide +kernel
theorem dX2_letter_13 : decode cX2_letter 13 = .ok (.aload_n 0, 1) := by decide +kernel
theorem dX2_letter_14 : decode cX2_letter 14 = .ok (.getfield 9, 3) := by decide +kernel
theorem dX2_letter_17 : decode cX2_letter 17 = .ok (.arraylength, 1) := by decide +kernel
theorem dX2_letter_18 : decode cX2_letter 18 = .ok (.if_icmp .ge 12, 3) := by decide +kernel
theorem dX2_letter_21 : decode cX2_letter 21 = .ok (.aload_n 0, 1) := by decide +kernel
theorem dX2_letter_22 : decode cX2_letter 22 = .ok (.getfield 9, 3) := by decide +kernel
theorem dX2_letter_25 : decode cX2_letter 25 = .ok (.iload_n 1, 1) := by decide +kernel
theorem dX2_letter_26 : decode cX2_letter 26 = .ok (.caload, 1) := by decide +kernel
theorem dX2_letter_27 : decode cX2_letter 27 = .ok (.goto 4, 3) := by decide +kernel
theorem dX2_letter_30 : decode cX2_letter 30 = .ok (.iconst 0, 1) := by decide +kernel
theorem dX2_letter_31 : decode cX2_letter 31 = .ok (.ireturn, 1) := by decide +kernel
set_option maxRecDepth 20000 in
theorem ggX2_firstError_X2_fits : GoodIn wsX2_firstError wsX2_fits := goodIn_r _ [6, 7, 8, 9, 5, 10, 1, 11, 12, 13, 14, 15, 16, 17, 18, 19, 20, 21, 22, 23, 24] (by decide +kernel) (by decide +kernel)
set_option maxRecDepth 20000 in
theorem gX2_firstError_X2_fits : GoodIn wsX2_firstError (wsV RX2 19 RX2 yX2_fits wsX2_fits) := goodIn_app (goodIn_of _ (by decide +kernel)) ggX2_firstError_X2_fits
theorem dX2_firstError_0 : decode cX2_firstError 0 = .ok (.iconst 0, 1) := by decide +kernel
theorem dX2_firstError_1 : decode cX2_firstError 1 = .ok (.istore_n 1, 1) := by decide +kernel
theorem dX2_firstError_2 : decode cX2_firstError 2 = .ok (.iload_n 1, 1) := by decide +kernel
theorem dX2_firstError_3 : decode cX2_firstError 3 = .ok (.aload_n 0, 1) := by decide +kernel
theorem dX2_firstError_4 : decode cX2_firstError 4 = .ok (.getfield 15, 3) := by decide +kernel
theorem dX2_firstError_7 : decode cX2_firstError 7 = .ok (.if_icmp .ge 19, 3) := by decide +kernel
theorem dX2_firstError_10 : decode cX2_firstError 10 = .ok (.aload_n 0, 1) := by decide +kernel
theorem dX2_firstError_11 : decode cX2_firstError 11 = .ok (.iload_n 1, 1) := by decide +kernel
theorem dX2_firstError_12 : decode cX2_firstError 12 = .ok (.invokevirtual 19, 3) := by decide +kernel
theorem dX2_firstError_15 : decode cX2_firstError 15 = .ok (.ifCond .ne 5, 3) := by decide +kernel
theorem dX2_firstError_18 : decode cX2_firstError 18 = .ok (.iload_n 1, 1) := by decide +kernel
theorem dX2_firstError_19 : decode cX2_firstError 19 = .ok (.ireturn, 1) := by decide +kernel
theorem dX2_firstError_20 : decode cX2_firstError 20 = .ok (.iinc 1 1, 3) := by decide +kernel
theorem dX2_firstError_23 : decode cX2_firstError 23 = .ok (.goto (-21), 3) := by decide +kernel
theorem dX2_firstError_26 : decode cX2_firstError 26 = .ok (.aload_n 0, 1) := by decide +kernel
theorem dX2_firstError_27 : decode cX2_firstError 27 = .ok (.getfield 15, 3) := by decide +kernel
theorem dX2_firstError_30 : decode cX2_firstError 30 = .ok (.bipush 15, 2) := by decide +kernel
theorem dX2_firstError_32 : decode cX2_firstError 32 = .ok (.isub, 1) := by decide +kernel
theorem dX2_firstError_33 : decode cX2_firstError 33 = .ok (.istore_n 1, 1) := by decide +kernel
theorem dX2_firstError_34 : decode cX2_firstError 34 = .ok (.iload_n 1, 1) := by decide +kernel
theorem dX2_firstError_35 : decode cX2_firstError 35 = .ok (.ifCond .le 15, 3) := by decide +kernel
theorem dX2_firstError_38 : decode cX2_firstError 38 = .ok (.iload_n 1, 1) := by decide +kernel
theorem dX2_firstError_39 : decode cX2_firstError 39 = .ok (.iconst 5, 1) := by decide +kernel
theorem dX2_firstError_40 : decode cX2_firstError 40 = .ok (.irem, 1) := by decide +kernel
theorem dX2_firstError_41 : decode cX2_firstError 41 = .ok (.ifCond .ne 9, 3) := by decide +kernel
theorem dX2_firstError_44 : decode cX2_firstError 44 = .ok (.sipush (-9999), 3) := by decide +kernel
theorem dX2_firstError_47 : decode cX2_firstError 47 = .ok (.goto 7, 3) := by decide +kernel
theorem dX2_firstError_50 : decode cX2_firstError 50 = .ok (.aload_n 0, 1) := by decide +kernel
theorem dX2_firstError_51 : decode cX2_firstError 51 = .ok (.getfield 15, 3) := by decide +kernel
theorem dX2_firstError_54 : decode cX2_firstError 54 = .ok (.ireturn, 1) := by decide +kernel
set_option maxRecDepth 20000 in
theorem ggX2_fits_X2_letter : GoodIn wsX2_fits wsX2_letter := goodIn_r _ [5, 6, 7, 19, 20] (by decide +kernel) (by decide +kernel)
set_option maxRecDepth 20000 in
theorem gX2_fits_X2_letter : GoodIn wsX2_fits (wsV RX2 23 RX2 yX2_letter wsX2_letter) := goodIn_app (goodIn_of _ (by decide +kernel)) ggX2_fits_X2_letter
set_option maxRecDepth 20000 in
theorem ggX2_fits_X2_isDigit : GoodIn wsX2_fits wsX2_isDigit := goodIn_r _ [10] (by decide +kernel) (by decide +kernel)
set_option maxRecDepth 20000 in
theorem gX2_fits_X2_isDigit : GoodIn wsX2_fits (va_wsS RX2 27 yX2_isDigit wsX2_isDigit) := goodIn_app (goodIn_of _ (by decide +kernel)) ggX2_fits_X2_isDigit
set_option maxRecDepth 20000 in
theorem ggX2_fits_X2_digits : GoodIn wsX2_fits wsX2_digits := goodIn_r _ [14, 1, 2, 3, 4, 5, 6, 7, 19, 20] (by decide +kernel) (by decide +kernel)
set_option maxRecDepth 20000 in
theorem gX2_fits_X2_digits : GoodIn wsX2_fits (wsV RX2 31 RX2 yX2_digits wsX2_digits) := goodIn_app (goodIn_of _ (by decide +kernel)) ggX2_fits_X2_digits
set_option maxRecDepth 20000 in
theorem ggX2_fits_X2_fitsUnknown : GoodIn wsX2_fits wsX2_fitsUnknown := goodIn_r _ [18, 8, 9, 4, 10, 11, 12, 13, 14, 1, 2, 3, 5, 6, 7, 19, 20] (by decide +kernel) (by decide +kernel)
set_option maxRecDepth 20000 in
theorem gX2_fits_X2_fitsUnknown : GoodIn wsX2_fits (wsV RX2 35 RX2 yX2_fitsUnknown wsX2_fitsUnknown) := goodIn_app (goodIn_of _ (by decide +kernel)) ggX2_fits_X2_fitsUnknown
theorem dX2_fits_0 : decode cX2_fits 0 = .ok (.aload_n 0, 1) := by decide +kernel
theorem dX2_fits_1 : decode cX2_fits 1 = .ok (.iload_n 1, 1) := by decide +kernel
theorem dX2_fits_2 : decode cX2_fits 2 = .ok (.invokevirtual 23, 3) := by decide +kernel
theorem dX2_fits_5 : decode cX2_fits 5 = .ok (.istore_n 2, 1) := by decide +kernel
theorem dX2_fits_6 : decode cX2_fits 6 = .ok (.iload_n 1, 1) := by decide +kernel
theorem dX2_fits_7 : decode cX2_fits 7 = .ok (.tableswitch 203 0 14 #[73, 85, 85, 203, 203, 203, 203, 203, 92, 85, 117, 135, 142, 169, 176], 73) := by decide +kernel
theorem dX2_fits_80 : decode cX2_fits 80 = .ok (.iload_n 2, 1) := by decide +kernel
theorem dX2_fits_81 : decode cX2_fits 81 = .ok (.bipush 71, 2) := by decide +kernel
theorem dX2_fits_83 : decode cX2_fits 83 = .ok (.if_icmp .ne 7, 3) := by decide +kernel
theorem dX2_fits_86 : decode cX2_fits 86 = .ok (.iconst 1, 1) := by decide +kernel
theorem dX2_fits_87 : decode cX2_fits 87 = .ok (.goto 4, 3) := by decide +kernel
theorem dX2_fits_90 : decode cX2_fits 90 = .ok (.iconst 0, 1) := by decide +kernel
theorem dX2_fits_91 : decode cX2_fits 91 = .ok (.ireturn, 1) := by decide +kernel
theorem dX2_fits_92 : decode cX2_fits 92 = .ok (.iload_n 2, 1) := by decide +kernel
theorem dX2_fits_93 : decode cX2_fits 93 = .ok (.bipush 51, 2) := by decide +kernel
theorem dX2_fits_95 : decode cX2_fits 95 = .ok (.invokestatic 27, 3) := by decide +kernel
theorem dX2_fits_98 : decode cX2_fits 98 = .ok (.ireturn, 1) := by decide +kernel
theorem dX2_fits_99 : decode cX2_fits 99 = .ok (.iload_n 2, 1) := by decide +kernel
theorem dX2_fits_100 : decode cX2_fits 100 = .ok (.bipush 57, 2) := by decide +kernel
theorem dX2_fits_102 : decode cX2_fits 102 = .ok (.invokestatic 27, 3) := by decide +kernel
theorem dX2_fits_105 : decode cX2_fits 105 = .ok (.ifCond .eq 17, 3) := by decide +kernel
theorem dX2_fits_108 : decode cX2_fits 108 = .ok (.aload_n 0, 1) := by decide +kernel
theorem dX2_fits_109 : decode cX2_fits 109 = .ok (.bipush 7, 2) := by decide +kernel
theorem dX2_fits_111 : decode cX2_fits 111 = .ok (.iconst 2, 1) := by decide +kernel
theorem dX2_fits_112 : decode cX2_fits 112 = .ok (.invokevirtual 31, 3) := by decide +kernel
theorem dX2_fits_115 : decode cX2_fits 115 = .ok (.ifCond .le 7, 3) := by decide +kernel
theorem dX2_fits_118 : decode cX2_fits 118 = .ok (.iconst 1, 1) := by decide +kernel
theorem dX2_fits_119 : decode cX2_fits 119 = .ok (.goto 4, 3) := by decide +kernel
theorem dX2_fits_122 : decode cX2_fits 122 = .ok (.iconst 0, 1) := by decide +kernel
theorem dX2_fits_123 : decode cX2_fits 123 = .ok (.ireturn, 1) := by decide +kernel
theorem dX2_fits_124 : decode cX2_fits 124 = .ok (.iload_n 2, 1) := by decide +kernel
theorem dX2_fits_125 : decode cX2_fits 125 = .ok (.bipush 43, 2) := by decide +kernel
theorem dX2_fits_127 : decode cX2_fits 127 = .ok (.if_icmp .eq 9, 3) := by decide +kernel
theorem dX2_fits_130 : decode cX2_fits 130 = .ok (.iload_n 2, 1) := by decide +kernel
theorem dX2_fits_131 : decode cX2_fits 131 = .ok (.bipush 45, 2) := by decide +kernel
theorem dX2_fits_133 : decode cX2_fits 133 = .ok (.if_icmp .ne 7, 3) := by decide +kernel
theorem dX2_fits_136 : decode cX2_fits 136 = .ok (.iconst 1, 1) := by decide +kernel
theorem dX2_fits_137 : decode cX2_fits 137 = .ok (.goto 4, 3) := by decide +kernel
theorem dX2_fits_140 : decode cX2_fits 140 = .ok (.iconst 0, 1) := by decide +kernel
theorem dX2_fits_141 : decode cX2_fits 141 = .ok (.ireturn, 1) := by decide +kernel
theorem dX2_fits_142 : decode cX2_fits 142 = .ok (.iload_n 2, 1) := by decide +kernel
theorem dX2_fits_143 : decode cX2_fits 143 = .ok (.bipush 53, 2) := by decide +kernel
theorem dX2_fits_145 : decode cX2_fits 145 = .ok (.invokestatic 27, 3) := by decide +kernel
theorem dX2_fits_148 : decode cX2_fits 148 = .ok (.ireturn, 1) := by decide +kernel
theorem dX2_fits_149 : decode cX2_fits 149 = .ok (.iload_n 2, 1) := by decide +kernel
theorem dX2_fits_150 : decode cX2_fits 150 = .ok (.bipush 57, 2) := by decide +kernel
theorem dX2_fits_152 : decode cX2_fits 152 = .ok (.invokestatic 27, 3) := by decide +kernel
theorem dX2_fits_155 : decode cX2_fits 155 = .ok (.ifCond .eq 19, 3) := by decide +kernel
theorem dX2_fits_158 : decode cX2_fits 158 = .ok (.aload_n 0, 1) := by decide +kernel
theorem dX2_fits_159 : decode cX2_fits 159 = .ok (.bipush 11, 2) := by decide +kernel
theorem dX2_fits_161 : decode cX2_fits 161 = .ok (.iconst 2, 1) := by decide +kernel
theorem dX2_fits_162 : decode cX2_fits 162 = .ok (.invokevirtual 31, 3) := by decide +kernel
theorem dX2_fits_165 : decode cX2_fits 165 = .ok (.bipush 50, 2) := by decide +kernel
theorem dX2_fits_167 : decode cX2_fits 167 = .ok (.if_icmp .gt 7, 3) := by decide +kernel
theorem dX2_fits_170 : decode cX2_fits 170 = .ok (.iconst 1, 1) := by decide +kernel
theorem dX2_fits_171 : decode cX2_fits 171 = .ok (.goto 4, 3) := by decide +kernel
theorem dX2_fits_174 : decode cX2_fits 174 = .ok (.iconst 0, 1) := by decide +kernel
theorem dX2_fits_175 : decode cX2_fits 175 = .ok (.ireturn, 1) := by decide +kernel
theorem dX2_fits_176 : decode cX2_fits 176 = .ok (.iload_n 2, 1) := by decide +kernel
theorem dX2_fits_177 : decode cX2_fits 177 = .ok (.bipush 50, 2) := by decide +kernel
theorem dX2_fits_179 : decode cX2_fits 179 = .ok (.invokestatic 27, 3) := by decide +kernel
theorem dX2_fits_182 : decode cX2_fits 182 = .ok (.ireturn, 1) := by decide +kernel
theorem dX2_fits_183 : decode cX2_fits 183 = .ok (.iload_n 2, 1) := by decide +kernel
theorem dX2_fits_184 : decode cX2_fits 184 = .ok (.bipush 57, 2) := by decide +kernel
theorem dX2_fits_186 : decode cX2_fits 186 = .ok (.invokestatic 27, 3) := by decide +kernel
theorem dX2_fits_189 : decode cX2_fits 189 = .ok (.ifCond .eq 19, 3) := by decide +kernel
theorem dX2_fits_192 : decode cX2_fits 192 = .ok (.aload_n 0, 1) := by decide +kernel
theorem dX2_fits_193 : decode cX2_fits 193 = .ok (.bipush 13, 2) := by decide +kernel
theorem dX2_fits_195 : decode cX2_fits 195 = .ok (.iconst 2, 1) := by decide +kernel
theorem dX2_fits_196 : decode cX2_fits 196 = .ok (.invokevirtual 31, 3) := by decide +kernel
theorem dX2_fits_199 : decode cX2_fits 199 = .ok (.bipush 20, 2) := by decide +kernel
theorem dX2_fits_201 : decode cX2_fits 201 = .ok (.if_icmp .gt 7, 3) := by decide +kernel
theorem dX2_fits_204 : decode cX2_fits 204 = .ok (.iconst 1, 1) := by decide +kernel
theorem dX2_fits_205 : decode cX2_fits 205 = .ok (.goto 4, 3) := by decide +kernel
theorem dX2_fits_208 : decode cX2_fits 208 = .ok (.iconst 0, 1) := by decide +kernel
theorem dX2_fits_209 : decode cX2_fits 209 = .ok (.ireturn, 1) := by decide +kernel
theorem dX2_fits_210 : decode cX2_fits 210 = .ok (.iload_n 1, 1) := by decide +kernel
theorem dX2_fits_211 : decode cX2_fits 211 = .ok (.bipush 15, 2) := by decide +kernel
theorem dX2_fits_213 : decode cX2_fits 213 = .ok (.if_icmp .ge 12, 3) := by decide +kernel
theorem dX2_fits_216 : decode cX2_fits 216 = .ok (.iload_n 2, 1) := by decide +kernel
theorem dX2_fits_217 : decode cX2_fits 217 = .ok (.bipush 57, 2) := by decide +kernel
theorem dX2_fits_219 : decode cX2_fits 219 = .ok (.invokestatic 27, 3) := by decide +kernel
theorem dX2_fits_222 : decode cX2_fits 222 = .ok (.goto 9, 3) := by decide +kernel
theorem dX2_fits_225 : decode cX2_fits 225 = .ok (.aload_n 0, 1) := by decide +kernel
theorem dX2_fits_226 : decode cX2_fits 226 = .ok (.iload_n 1, 1) := by decide +kernel
theorem dX2_fits_227 : decode cX2_fits 227 = .ok (.iload_n 2, 1) := by decide +kernel
theorem dX2_fits_228 : decode cX2_fits 228 = .ok (.invokevirtual 35, 3) := by decide +kernel
theorem dX2_fits_231 : decode cX2_fits 231 = .ok (.ireturn, 1) := by decide +kernel
set_option maxRecDepth 20000 in
theorem ggX2_fitsUnknown_X2_isDigit : GoodIn wsX2_fitsUnknown wsX2_isDigit := goodIn_r _ [4] (by decide +kernel) (by decide +kernel)
set_option maxRecDepth 20000 in
theorem gX2_fitsUnknown_X2_isDigit : GoodIn wsX2_fitsUnknown (va_wsS RX2 27 yX2_isDigit wsX2_isDigit) := goodIn_app (goodIn_of _ (by decide +kernel)) ggX2_fitsUnknown_X2_isDigit
set_option maxRecDepth 20000 in
theorem ggX2_fitsUnknown_X2_digits : GoodIn wsX2_fitsUnknown wsX2_digits := goodIn_r _ [8, 9, 10, 11, 3, 12, 13, 14, 15, 16] (by decide +kernel) (by decide +kernel)
set_option maxRecDepth 20000 in
theorem gX2_fitsUnknown_X2_digits : GoodIn wsX2_fitsUnknown (wsV RX2 31 RX2 yX2_digits wsX2_digits) := goodIn_app (goodIn_of _ (by decide +kernel)) ggX2_fitsUnknown_X2_digits
theorem dX2_fitsUnknown_0 : decode cX2_fitsUnknown 0 = .ok (.iload_n 1, 1) := by decide +kernel
theorem dX2_fitsUnknown_1 : decode cX2_fitsUnknown 1 = .ok (.bipush 15, 2) := by decide +kernel
theorem dX2_fitsUnknown_3 : decode cX2_fitsUnknown 3 = .ok (.isub, 1) := by decide +kernel
theorem dX2_fitsUnknown_4 : decode cX2_fitsUnknown 4 = .ok (.istore_n 3, 1) := by decide +kernel
theorem dX2_fitsUnknown_5 : decode cX2_fitsUnknown 5 = .ok (.iload_n 3, 1) := by decide +kernel
theorem dX2_fitsUnknown_6 : decode cX2_fitsUnknown 6 = .ok (.bipush 30, 2) := by decide +kernel
theorem dX2_fitsUnknown_8 : decode cX2_fitsUnknown 8 = .ok (.if_icmp .lt 5, 3) := by decide +kernel
theorem dX2_fitsUnknown_11 : decode cX2_fitsUnknown 11 = .ok (.iconst 0, 1) := by decide +kernel
theorem dX2_fitsUnknown_12 : decode cX2_fitsUnknown 12 = .ok (.ireturn, 1) := by decide +kernel
theorem dX2_fitsUnknown_13 : decode cX2_fitsUnknown 13 = .ok (.iload_n 3, 1) := by decide +kernel
theorem dX2_fitsUnknown_14 : decode cX2_fitsUnknown 14 = .ok (.iconst 5, 1) := by decide +kernel
theorem dX2_fitsUnknown_15 : decode cX2_fitsUnknown 15 = .ok (.irem, 1) := by decide +kernel
theorem dX2_fitsUnknown_16 : decode cX2_fitsUnknown 16 = .ok (.lookupswitch 66 #[(0, 28), (4, 40)], 28) := by decide +kernel
theorem dX2_fitsUnknown_44 : decode cX2_fitsUnknown 44 = .ok (.iload_n 2, 1) := by decide +kernel
theorem dX2_fitsUnknown_45 : decode cX2_fitsUnknown 45 = .ok (.bipush 120, 2) := by decide +kernel
theorem dX2_fitsUnknown_47 : decode cX2_fitsUnknown 47 = .ok (.if_icmp .ne 7, 3) := by decide +kernel
theorem dX2_fitsUnknown_50 : decode cX2_fitsUnknown 50 = .ok (.iconst 1, 1) := by decide +kernel
theorem dX2_fitsUnknown_51 : decode cX2_fitsUnknown 51 = .ok (.goto 4, 3) := by decide +kernel
theorem dX2_fitsUnknown_54 : decode cX2_fitsUnknown 54 = .ok (.iconst 0, 1) := by decide +kernel
theorem dX2_fitsUnknown_55 : decode cX2_fitsUnknown 55 = .ok (.ireturn, 1) := by decide +kernel
theorem dX2_fitsUnknown_56 : decode cX2_fitsUnknown 56 = .ok (.iload_n 2, 1) := by decide +kernel
theorem dX2_fitsUnknown_57 : decode cX2_fitsUnknown 57 = .ok (.bipush 57, 2) := by decide +kernel
theorem dX2_fitsUnknown_59 : decode cX2_fitsUnknown 59 = .ok (.invokestatic 27, 3) := by decide +kernel
theorem dX2_fitsUnknown_62 : decode cX2_fitsUnknown 62 = .ok (.ifCond .eq 18, 3) := by decide +kernel
theorem dX2_fitsUnknown_65 : decode cX2_fitsUnknown 65 = .ok (.aload_n 0, 1) := by decide +kernel
theorem dX2_fitsUnknown_66 : decode cX2_fitsUnknown 66 = .ok (.iload_n 1, 1) := by decide +kernel
theorem dX2_fitsUnknown_67 : decode cX2_fitsUnknown 67 = .ok (.iconst 3, 1) := by decide +kernel
theorem dX2_fitsUnknown_68 : decode cX2_fitsUnknown 68 = .ok (.isub, 1) := by decide +kernel
theorem dX2_fitsUnknown_69 : decode cX2_fitsUnknown 69 = .ok (.iconst 4, 1) := by decide +kernel
theorem dX2_fitsUnknown_70 : decode cX2_fitsUnknown 70 = .ok (.invokevirtual 31, 3) := by decide +kernel
theorem dX2_fitsUnknown_73 : decode cX2_fitsUnknown 73 = .ok (.ifCond .le 7, 3) := by decide +kernel
theorem dX2_fitsUnknown_76 : decode cX2_fitsUnknown 76 = .ok (.iconst 1, 1) := by decide +kernel
theorem dX2_fitsUnknown_77 : decode cX2_fitsUnknown 77 = .ok (.goto 4, 3) := by decide +kernel
theorem dX2_fitsUnknown_80 : decode cX2_fitsUnknown 80 = .ok (.iconst 0, 1) := by decide +kernel
theorem dX2_fitsUnknown_81 : decode cX2_fitsUnknown 81 = .ok (.ireturn, 1) := by decide +kernel
theorem dX2_fitsUnknown_82 : decode cX2_fitsUnknown 82 = .ok (.iload_n 2, 1) := by decide +kernel
theorem dX2_fitsUnknown_83 : decode cX2_fitsUnknown 83 = .ok (.bipush 57, 2) := by decide +kernel
theorem dX2_fitsUnknown_85 : decode cX2_fitsUnknown 85 = .ok (.invokestatic 27, 3) := by decide +kernel
theorem dX2_fitsUnknown_88 : decode cX2_fitsUnknown 88 = .ok (.ireturn, 1) := by decide +kernel
theorem dX2_isDigit_0 : decode cX2_isDigit 0 = .ok (.iload_n 0, 1) := by decide +kernel
theorem dX2_isDigit_1 : decode cX2_isDigit 1 = .ok (.bipush 48, 2) := by decide +kernel
theorem dX2_isDigit_3 : decode cX2_isDigit 3 = .ok (.if_icmp .lt 12, 3) := by decide +kernel
theorem dX2_isDigit_6 : decode cX2_isDigit 6 = .ok (.iload_n 0, 1) := by decide +kernel
theorem dX2_isDigit_7 : decode cX2_isDigit 7 = .ok (.iload_n 1, 1) := by decide +kernel
theorem dX2_isDigit_8 : decode cX2_isDigit 8 = .ok (.if_icmp .gt 7, 3) := by decide +kernel
theorem dX2_isDigit_11 : decode cX2_isDigit 11 = .ok (.iconst 1, 1) := by decide +kernel
theorem dX2_isDigit_12 : decode cX2_isDigit 12 = .ok (.goto 4, 3) := by decide +kernel
theorem dX2_isDigit_15 : decode cX2_isDigit 15 = .ok (.iconst 0, 1) := by decide +kernel
theorem dX2_isDigit_16 : decode cX2_isDigit 16 = .ok (.ireturn, 1) := by decide +kernel
set_option maxRecDepth 20000 in
theorem ggX2_digits_X2_letter : GoodIn wsX2_digits wsX2_letter := goodIn_r _ [5, 6, 7, 8, 9] (by decide +kernel) (by decide +kernel)
set_option maxRecDepth 20000 in
theorem gX2_digits_X2_letter : GoodIn wsX2_digits (wsV RX2 23 RX2 yX2_letter wsX2_letter) := goodIn_app (goodIn_of _ (by decide +kernel)) ggX2_digits_X2_letter
theorem dX2_digits_0 : decode cX2_digits 0 = .ok (.iconst 0, 1) := by decide +kernel
theorem dX2_digits_1 : decode cX2_digits 1 = .ok (.istore_n 3, 1) := by decide +kernel
theorem dX2_digits_2 : decode cX2_digits 2 = .ok (.iconst 0, 1) := by decide +kernel
theorem dX2_digits_3 : decode cX2_digits 3 = .ok (.istore 4, 2) := by decide +kernel
theorem dX2_digits_5 : decode cX2_digits 5 = .ok (.iload 4, 2) := by decide +kernel
theorem dX2_digits_7 : decode cX2_digits 7 = .ok (.iload_n 2, 1) := by decide +kernel
theorem dX2_digits_8 : decode cX2_digits 8 = .ok (.if_icmp .ge 26, 3) := by decide +kernel
theorem dX2_digits_11 : decode cX2_digits 11 = .ok (.bipush 10, 2) := by decide +kernel
theorem dX2_digits_13 : decode cX2_digits 13 = .ok (.iload_n 3, 1) := by decide +kernel
theorem dX2_digits_14 : decode cX2_digits 14 = .ok (.imul, 1) := by decide +kernel
theorem dX2_digits_15 : decode cX2_digits 15 = .ok (.aload_n 0, 1) := by decide +kernel
theorem dX2_digits_16 : decode cX2_digits 16 = .ok (.iload_n 1, 1) := by decide +kernel
theorem dX2_digits_17 : decode cX2_digits 17 = .ok (.iload 4, 2) := by decide +kernel
theorem dX2_digits_19 : decode cX2_digits 19 = .ok (.iadd, 1) := by decide +kernel
theorem dX2_digits_20 : decode cX2_digits 20 = .ok (.invokevirtual 23, 3) := by decide +kernel
theorem dX2_digits_23 : decode cX2_digits 23 = .ok (.iadd, 1) := by decide +kernel
theorem dX2_digits_24 : decode cX2_digits 24 = .ok (.bipush 48, 2) := by decide +kernel
theorem dX2_digits_26 : decode cX2_digits 26 = .ok (.isub, 1) := by decide +kernel
theorem dX2_digits_27 : decode cX2_digits 27 = .ok (.istore_n 3, 1) := by decide +kernel
theorem dX2_digits_28 : decode cX2_digits 28 = .ok (.iinc 4 1, 3) := by decide +kernel
theorem dX2_digits_31 : decode cX2_digits 31 = .ok (.goto (-26), 3) := by decide +kernel
theorem dX2_digits_34 : decode cX2_digits 34 = .ok (.iload_n 3, 1) := by decide +kernel
theorem dX2_digits_35 : decode cX2_digits 35 = .ok (.ireturn, 1) := by decide +kernel
theorem dX2_unknowns_0 : decode cX2_unknowns 0 = .ok (.aload_n 0, 1) := by decide +kernel
theorem dX2_unknowns_1 : decode cX2_unknowns 1 = .ok (.getfield 15, 3) := by decide +kernel
theorem dX2_unknowns_4 : decode cX2_unknowns 4 = .ok (.bipush 15, 2) := by decide +kernel
theorem dX2_unknowns_6 : decode cX2_unknowns 6 = .ok (.isub, 1) := by decide +kernel
theorem dX2_unknowns_7 : decode cX2_unknowns 7 = .ok (.iconst 5, 1) := by decide +kernel
theorem dX2_unknowns_8 : decode cX2_unknowns 8 = .ok (.idiv, 1) := by decide +kernel
theorem dX2_unknowns_9 : decode cX2_unknowns 9 = .ok (.ireturn, 1) := by decide +kernel
set_option maxRecDepth 20000 in
theorem ggX2_unknownAt_X2_digits : GoodIn wsX2_unknownAt wsX2_digits := goodIn_r _ [5, 6, 7, 8, 4, 9, 10, 11, 12, 13] (by decide +kernel) (by decide +kernel)
set_option maxRecDepth 20000 in
theorem gX2_unknownAt_X2_digits : GoodIn wsX2_unknownAt (wsV RX2 31 RX2 yX2_digits wsX2_digits) := goodIn_app (goodIn_of _ (by decide +kernel)) ggX2_unknownAt_X2_digits
theorem dX2_unknownAt_0 : decode cX2_unknownAt 0 = .ok (.aload_n 0, 1) := by decide +kernel
theorem dX2_unknownAt_1 : decode cX2_unknownAt 1 = .ok (.bipush 15, 2) := by decide +kernel
theorem dX2_unknownAt_3 : decode cX2_unknownAt 3 = .ok (.iconst 5, 1) := by decide +kernel
theorem dX2_unknownAt_4 : decode cX2_unknownAt 4 = .ok (.iload_n 1, 1) := by decide +kernel
theorem dX2_unknownAt_5 : decode cX2_unknownAt 5 = .ok (.imul, 1) := by decide +kernel
theorem dX2_unknownAt_6 : decode cX2_unknownAt 6 = .ok (.iadd, 1) := by decide +kernel
theorem dX2_unknownAt_7 : decode cX2_unknownAt 7 = .ok (.iconst 1, 1) := by decide +kernel
theorem dX2_unknownAt_8 : decode cX2_unknownAt 8 = .ok (.iadd, 1) := by decide +kernel
theorem dX2_unknownAt_9 : decode cX2_unknownAt 9 = .ok (.iconst 4, 1) := by decide +kernel
theorem dX2_unknownAt_10 : decode cX2_unknownAt 10 = .ok (.invokevirtual 31, 3) := by decide +kernel
theorem dX2_unknownAt_13 : decode cX2_unknownAt 13 = .ok (.ireturn, 1) := by decide +kernel
set_option maxRecDepth 20000 in
theorem ggX3_init_X2_init : GoodIn wsX3_init wsX2_init := goodIn_r _ [18, 19, 2, 3, 20, 21, 46, 47] (by decide +kernel) (by decide +kernel)
set_option maxRecDepth 20000 in
theorem gX3_init_X2_init_n9 : GoodIn wsX3_init (wsX2_init) := ggX3_init_X2_init
set_option maxRecDepth 20000 in
theorem ggX3_init_X1_init : GoodIn wsX3_init wsX1_init := goodIn_r _ [23, 24, 2, 3, 25, 26, 27, 28, 29, 30, 31, 32, 33, 34, 35, 36, 37, 38, 39, 40, 41, 42, 43, 10, 44, 45, 56, 57, 58, 59, 60, 61, 62, 63, 64, 65, 66, 67, 68, 69, 70, 71, 72, 73, 74] (by decide +kernel) (by decide +kernel)
set_option maxRecDepth 20000 in
theorem gX3_init_X1_init_n18 : GoodIn wsX3_init (wsX1_init) := ggX3_init_X1_init
