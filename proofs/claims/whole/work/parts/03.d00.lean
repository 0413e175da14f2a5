theorem dX0_init_0 : decode cX0_init 0 = .ok (.aload_n 0, 1) := by decide +kernel
theorem dX0_init_1 : decode cX0_init 1 = .ok (.invokespecial 3, 3) := by decide +kernel
theorem dX0_init_4 : decode cX0_init 4 = .ok (.aload_n 0, 1) := by decide +kernel
theorem dX0_init_5 : decode cX0_init 5 = .ok (.bipush 21, 2) := by decide +kernel
theorem dX0_init_7 : decode cX0_init 7 = .ok (.newarray .int, 2) := by decide +kernel
theorem dX0_init_9 : decode cX0_init 9 = .ok (.putfield 9, 3) := by decide +kernel
theorem dX0_init_12 : decode cX0_init 12 = .ok (.aload_n 0, 1) := by decide +kernel
theorem dX0_init_13 : decode cX0_init 13 = .ok (.iconst 0, 1) := by decide +kernel
theorem dX0_init_14 : decode cX0_init 14 = .ok (.putfield 15, 3) := by decide +kernel
theorem dX0_init_17 : decode cX0_init 17 = .ok (.aload_n 0, 1) := by decide +kernel
theorem dX0_init_18 : decode cX0_init 18 = .ok (.iconst 0, 1) := by decide +kernel
theorem dX0_init_19 : decode cX0_init 19 = .ok (.putfield 19, 3) := by decide +kernel
theorem dX0_init_22 : decode cX0_init 22 = .ok (.aload_n 0, 1) := by decide +kernel
theorem dX0_init_23 : decode cX0_init 23 = .ok (.iconst 3, 1) := by decide +kernel
theorem dX0_init_24 : decode cX0_init 24 = .ok (.putfield 22, 3) := by decide +kernel
theorem dX0_init_27 : decode cX0_init 27 = .ok (.return_, 1) := by decide +kernel
theorem dX0_run_0 : decode cX0_run 0 = .ok (.aload_n 0, 1) := by decide +kernel
theorem dX0_run_1 : decode cX0_run 1 = .ok (.iload_n 1, 1) := by decide +kernel
theorem dX0_run_2 : decode cX0_run 2 = .ok (.putfield 22, 3) := by decide +kernel
theorem dX0_run_5 : decode cX0_run 5 = .ok (.return_, 1) := by decide +kernel
set_option maxRecDepth 20000 in
theorem ggX0_fill_X7_within : GoodIn wsX0_fill wsX7_within := goodIn_r _ [7] (by decide +kernel) (by decide +kernel)
set_option maxRecDepth 20000 in
theorem gX0_fill_X7_within_n25 : GoodIn wsX0_fill (wsX7_within) := ggX0_fill_X7_within
theorem dX0_fill_0 : decode cX0_fill 0 = .ok (.iload_n 1, 1) := by decide +kernel
theorem dX0_fill_1 : decode cX0_fill 1 = .ok (.aload_n 0, 1) := by decide +kernel
theorem dX0_fill_2 : decode cX0_fill 2 = .ok (.getfield 22, 3) := by decide +kernel
theorem dX0_fill_5 : decode cX0_fill 5 = .ok (.aload_n 0, 1) := by decide +kernel
theorem dX0_fill_6 : decode cX0_fill 6 = .ok (.getfield 22, 3) := by decide +kernel
theorem dX0_fill_9 : decode cX0_fill 9 = .ok (.imul, 1) := by decide +kernel
theorem dX0_fill_10 : decode cX0_fill 10 = .ok (.iconst 2, 1) := by decide +kernel
theorem dX0_fill_11 : decode cX0_fill 11 = .ok (.idiv, 1) := by decide +kernel
theorem dX0_fill_12 : decode cX0_fill 12 = .ok (.imul, 1) := by decide +kernel
theorem dX0_fill_13 : decode cX0_fill 13 = .ok (.bipush 100, 2) := by decide +kernel
theorem dX0_fill_15 : decode cX0_fill 15 = .ok (.idiv, 1) := by decide +kernel
theorem dX0_fill_16 : decode cX0_fill 16 = .ok (.istore_n 3, 1) := by decide +kernel
theorem dX0_fill_17 : decode cX0_fill 17 = .ok (.iload_n 1, 1) := by decide +kernel
theorem dX0_fill_18 : decode cX0_fill 18 = .ok (.iload_n 3, 1) := by decide +kernel
theorem dX0_fill_19 : decode cX0_fill 19 = .ok (.isub, 1) := by decide +kernel
theorem dX0_fill_20 : decode cX0_fill 20 = .ok (.istore 4, 2) := by decide +kernel
theorem dX0_fill_22 : decode cX0_fill 22 = .ok (.aload_n 0, 1) := by decide +kernel
theorem dX0_fill_23 : decode cX0_fill 23 = .ok (.dup, 1) := by decide +kernel
theorem dX0_fill_24 : decode cX0_fill 24 = .ok (.getfield 19, 3) := by decide +kernel
theorem dX0_fill_27 : decode cX0_fill 27 = .ok (.iload_n 3, 1) := by decide +kernel
theorem dX0_fill_28 : decode cX0_fill 28 = .ok (.iadd, 1) := by decide +kernel
theorem dX0_fill_29 : decode cX0_fill 29 = .ok (.putfield 19, 3) := by decide +kernel
theorem dX0_fill_32 : decode cX0_fill 32 = .ok (.aload_n 0, 1) := by decide +kernel
theorem dX0_fill_33 : decode cX0_fill 33 = .ok (.dup, 1) := by decide +kernel
theorem dX0_fill_34 : decode cX0_fill 34 = .ok (.getfield 15, 3) := by decide +kernel
theorem dX0_fill_37 : decode cX0_fill 37 = .ok (.iload 4, 2) := by decide +kernel
theorem dX0_fill_39 : decode cX0_fill 39 = .ok (.iadd, 1) := by decide +kernel
theorem dX0_fill_40 : decode cX0_fill 40 = .ok (.putfield 15, 3) := by decide +kernel
theorem dX0_fill_43 : decode cX0_fill 43 = .ok (.iload_n 2, 1) := by decide +kernel
theorem dX0_fill_44 : decode cX0_fill 44 = .ok (.iconst 0, 1) := by decide +kernel
theorem dX0_fill_45 : decode cX0_fill 45 = .ok (.aload_n 0, 1) := by decide +kernel
theorem dX0_fill_46 : decode cX0_fill 46 = .ok (.getfield 9, 3) := by decide +kernel
theorem dX0_fill_49 : decode cX0_fill 49 = .ok (.arraylength, 1) := by decide +kernel
theorem dX0_fill_50 : decode cX0_fill 50 = .ok (.iconst 1, 1) := by decide +kernel
theorem dX0_fill_51 : decode cX0_fill 51 = .ok (.isub, 1) := by decide +kernel
theorem dX0_fill_52 : decode cX0_fill 52 = .ok (.invokestatic 25, 3) := by decide +kernel
theorem dX0_fill_55 : decode cX0_fill 55 = .ok (.ifCond .eq 14, 3) := by decide +kernel
theorem dX0_fill_58 : decode cX0_fill 58 = .ok (.aload_n 0, 1) := by decide +kernel
theorem dX0_fill_59 : decode cX0_fill 59 = .ok (.getfield 9, 3) := by decide +kernel
theorem dX0_fill_62 : decode cX0_fill 62 = .ok (.iload_n 2, 1) := by decide +kernel
theorem dX0_fill_63 : decode cX0_fill 63 = .ok (.dup2, 1) := by decide +kernel
theorem dX0_fill_64 : decode cX0_fill 64 = .ok (.iaload, 1) := by decide +kernel
theorem dX0_fill_65 : decode cX0_fill 65 = .ok (.iload 4, 2) := by decide +kernel
theorem dX0_fill_67 : decode cX0_fill 67 = .ok (.iadd, 1) := by decide +kernel
theorem dX0_fill_68 : decode cX0_fill 68 = .ok (.iastore, 1) := by decide +kernel
theorem dX0_fill_69 : decode cX0_fill 69 = .ok (.iload 4, 2) := by decide +kernel
theorem dX0_fill_71 : decode cX0_fill 71 = .ok (.ireturn, 1) := by decide +kernel
set_option maxRecDepth 20000 in
theorem ggX0_inMonth_X7_within : GoodIn wsX0_inMonth wsX7_within := goodIn_r _ [4] (by decide +kernel) (by decide +kernel)
set_option maxRecDepth 20000 in
theorem gX0_inMonth_X7_within_n25 : GoodIn wsX0_inMonth (wsX7_within) := ggX0_inMonth_X7_within
theorem dX0_inMonth_0 : decode cX0_inMonth 0 = .ok (.iload_n 1, 1) := by decide +kernel
theorem dX0_inMonth_1 : decode cX0_inMonth 1 = .ok (.iconst 0, 1) := by decide +kernel
theorem dX0_inMonth_2 : decode cX0_inMonth 2 = .ok (.aload_n 0, 1) := by decide +kernel
theorem dX0_inMonth_3 : decode cX0_inMonth 3 = .ok (.getfield 9, 3) := by decide +kernel
theorem dX0_inMonth_6 : decode cX0_inMonth 6 = .ok (.arraylength, 1) := by decide +kernel
theorem dX0_inMonth_7 : decode cX0_inMonth 7 = .ok (.iconst 1, 1) := by decide +kernel
theorem dX0_inMonth_8 : decode cX0_inMonth 8 = .ok (.isub, 1) := by decide +kernel
theorem dX0_inMonth_9 : decode cX0_inMonth 9 = .ok (.invokestatic 25, 3) := by decide +kernel
theorem dX0_inMonth_12 : decode cX0_inMonth 12 = .ok (.ifCond .eq 12, 3) := by decide +kernel
theorem dX0_inMonth_15 : decode cX0_inMonth 15 = .ok (.aload_n 0, 1) := by decide +kernel
theorem dX0_inMonth_16 : decode cX0_inMonth 16 = .ok (.getfield 9, 3) := by decide +kernel
theorem dX0_inMonth_19 : decode cX0_inMonth 19 = .ok (.iload_n 1, 1) := by decide +kernel
theorem dX0_inMonth_20 : decode cX0_inMonth 20 = .ok (.iaload, 1) := by decide +kernel
theorem dX0_inMonth_21 : decode cX0_inMonth 21 = .ok (.goto 4, 3) := by decide +kernel
theorem dX0_inMonth_24 : decode cX0_inMonth 24 = .ok (.iconst 0, 1) := by decide +kernel
theorem dX0_inMonth_25 : decode cX0_inMonth 25 = .ok (.ireturn, 1) := by decide +kernel
theorem dX0_inAll_0 : decode cX0_inAll 0 = .ok (.aload_n 0, 1) := by decide +kernel
theorem dX0_inAll_1 : decode cX0_inAll 1 = .ok (.getfield 15, 3) := by decide +kernel
theorem dX0_inAll_4 : decode cX0_inAll 4 = .ok (.ireturn, 1) := by decide +kernel
theorem dX0_lost_0 : decode cX0_lost 0 = .ok (.aload_n 0, 1) := by decide +kernel
theorem dX0_lost_1 : decode cX0_lost 1 = .ok (.getfield 19, 3) := by decide +kernel
theorem dX0_lost_4 : decode cX0_lost 4 = .ok (.ireturn, 1) := by decide +kernel
theorem dX1_init_0 : decode cX1_init 0 = .ok (.aload_n 0, 1) := by decide +kernel
theorem dX1_init_1 : decode cX1_init 1 = .ok (.invokespecial 3, 3) := by decide +kernel
theorem dX1_init_4 : decode cX1_init 4 = .ok (.aload_n 0, 1) := by decide +kernel
theorem dX1_init_5 : decode cX1_init 5 = .ok (.sipush 1000, 3) := by decide +kernel
theorem dX1_init_8 : decode cX1_init 8 = .ok (.putfield 11, 3) := by decide +kernel
theorem dX1_init_11 : decode cX1_init 11 = .ok (.aload_n 0, 1) := by decide +kernel
theorem dX1_init_12 : decode cX1_init 12 = .ok (.iload_n 1, 1) := by decide +kernel
theorem dX1_init_13 : decode cX1_init 13 = .ok (.putfield 15, 3) := by decide +kernel
theorem dX1_init_16 : decode cX1_init 16 = .ok (.aload_n 0, 1) := by decide +kernel
theorem dX1_init_17 : decode cX1_init 17 = .ok (.iload_n 2, 1) := by decide +kernel
theorem dX1_init_18 : decode cX1_init 18 = .ok (.putfield 18, 3) := by decide +kernel
theorem dX1_init_21 : decode cX1_init 21 = .ok (.iload_n 1, 1) := by decide +kernel
theorem dX1_init_22 : decode cX1_init 22 = .ok (.iload_n 2, 1) := by decide +kernel
theorem dX1_init_23 : decode cX1_init 23 = .ok (.imul, 1) := by decide +kernel
theorem dX1_init_24 : decode cX1_init 24 = .ok (.istore_n 3, 1) := by decide +kernel
theorem dX1_init_25 : decode cX1_init 25 = .ok (.aload_n 0, 1) := by decide +kernel
theorem dX1_init_26 : decode cX1_init 26 = .ok (.iload_n 3, 1) := by decide +kernel
theorem dX1_init_27 : decode cX1_init 27 = .ok (.newarray .int, 2) := by decide +kernel
theorem dX1_init_29 : decode cX1_init 29 = .ok (.putfield 21, 3) := by decide +kernel
theorem dX1_init_32 : decode cX1_init 32 = .ok (.aload_n 0, 1) := by decide +kernel
theorem dX1_init_33 : decode cX1_init 33 = .ok (.iload_n 3, 1) := by decide +kernel
theorem dX1_init_34 : decode cX1_init 34 = .ok (.newarray .int, 2) := by decide +kernel
theorem dX1_init_36 : decode cX1_init 36 = .ok (.putfield 25, 3) := by decide +kernel
theorem dX1_init_39 : decode cX1_init 39 = .ok (.aload_n 0, 1) := by decide +kernel
theorem dX1_init_40 : decode cX1_init 40 = .ok (.iload_n 3, 1) := by decide +kernel
theorem dX1_init_41 : decode cX1_init 41 = .ok (.newarray .int, 2) := by decide +kernel
theorem dX1_init_43 : decode cX1_init 43 = .ok (.putfield 28, 3) := by decide +kernel
theorem dX1_init_46 : decode cX1_init 46 = .ok (.aload_n 0, 1) := by decide +kernel
theorem dX1_init_47 : decode cX1_init 47 = .ok (.iload_n 3, 1) := by decide +kernel
theorem dX1_init_48 : decode cX1_init 48 = .ok (.newarray .int, 2) := by decide +kernel
theorem dX1_init_50 : decode cX1_init 50 = .ok (.putfield 31, 3) := by decide +kernel
theorem dX1_init_53 : decode cX1_init 53 = .ok (.iconst 0, 1) := by decide +kernel
theorem dX1_init_54 : decode cX1_init 54 = .ok (.istore 4, 2) := by decide +kernel
theorem dX1_init_56 : decode cX1_init 56 = .ok (.iload 4, 2) := by decide +kernel
theorem dX1_init_58 : decode cX1_init 58 = .ok (.iload_n 3, 1) := by decide +kernel
theorem dX1_init_59 : decode cX1_init 59 = .ok (.if_icmp .ge 35, 3) := by decide +kernel
theorem dX1_init_62 : decode cX1_init 62 = .ok (.aload_n 0, 1) := by decide +kernel
theorem dX1_init_63 : decode cX1_init 63 = .ok (.getfield 21, 3) := by decide +kernel
theorem dX1_init_66 : decode cX1_init 66 = .ok (.iload 4, 2) := by decide +kernel
theorem dX1_init_68 : decode cX1_init 68 = .ok (.iconst 3, 1) := by decide +kernel
theorem dX1_init_69 : decode cX1_init 69 = .ok (.iastore, 1) := by decide +kernel
theorem dX1_init_70 : decode cX1_init 70 = .ok (.aload_n 0, 1) := by decide +kernel
theorem dX1_init_71 : decode cX1_init 71 = .ok (.getfield 25, 3) := by decide +kernel
theorem dX1_init_74 : decode cX1_init 74 = .ok (.iload 4, 2) := by decide +kernel
theorem dX1_init_76 : decode cX1_init 76 = .ok (.iconst (-1), 1) := by decide +kernel
theorem dX1_init_77 : decode cX1_init 77 = .ok (.iastore, 1) := by decide +kernel
theorem dX1_init_78 : decode cX1_init 78 = .ok (.aload_n 0, 1) := by decide +kernel
theorem dX1_init_79 : decode cX1_init 79 = .ok (.getfield 31, 3) := by decide +kernel
theorem dX1_init_82 : decode cX1_init 82 = .ok (.iload 4, 2) := by decide +kernel
theorem dX1_init_84 : decode cX1_init 84 = .ok (.sipush 1000, 3) := by decide +kernel
theorem dX1_init_87 : decode cX1_init 87 = .ok (.iastore, 1) := by decide +kernel
theorem dX1_init_88 : decode cX1_init 88 = .ok (.iinc 4 1, 3) := by decide +kernel
theorem dX1_init_91 : decode cX1_init 91 = .ok (.goto (-35), 3) := by decide +kernel
theorem dX1_init_94 : decode cX1_init 94 = .ok (.return_, 1) := by decide +kernel
theorem dX1_rowCount_0 : decode cX1_rowCount 0 = .ok (.aload_n 0, 1) := by decide +kernel
theorem dX1_rowCount_1 : decode cX1_rowCount 1 = .ok (.getfield 15, 3) := by decide +kernel
theorem dX1_rowCount_4 : decode cX1_rowCount 4 = .ok (.ireturn, 1) := by decide +kernel
set_option maxRecDepth 20000 in
theorem ggX1_has_X7_within : GoodIn wsX1_has wsX7_within := goodIn_r _ [5] (by decide +kernel) (by decide +kernel)
set_option maxRecDepth 20000 in
theorem gX1_has_X7_within_n34 : GoodIn wsX1_has (wsX7_within) := ggX1_has_X7_within
theorem dX1_has_0 : decode cX1_has 0 = .ok (.iload_n 1, 1) := by decide +kernel
theorem dX1_has_1 : decode cX1_has 1 = .ok (.iconst 0, 1) := by decide +kernel
theorem dX1_has_2 : decode cX1_has 2 = .ok (.aload_n 0, 1) := by decide +kernel
theorem dX1_has_3 : decode cX1_has 3 = .ok (.getfield 15, 3) := by decide +kernel
theorem dX1_has_6 : decode cX1_has 6 = .ok (.iconst 1, 1) := by decide +kernel
theorem dX1_has_7 : decode cX1_has 7 = .ok (.isub, 1) := by decide +kernel
theorem dX1_has_8 : decode cX1_has 8 = .ok (.invokestatic 34, 3) := by decide +kernel
theorem dX1_has_11 : decode cX1_has 11 = .ok (.ifCond .eq 21, 3) := by decide +kernel
theorem dX1_has_14 : decode cX1_has 14 = .ok (.iload_n 2, 1) := by decide +kernel
theorem dX1_has_15 : decode cX1_has 15 = .ok (.iconst 0, 1) := by decide +kernel
theorem dX1_has_16 : decode cX1_has 16 = .ok (.aload_n 0, 1) := by decide +kernel
theorem dX1_has_17 : decode cX1_has 17 = .ok (.getfield 18, 3) := by decide +kernel
theorem dX1_has_20 : decode cX1_has 20 = .ok (.iconst 1, 1) := by decide +kernel
theorem dX1_has_21 : decode cX1_has 21 = .ok (.isub, 1) := by decide +kernel
theorem dX1_has_22 : decode cX1_has 22 = .ok (.invokestatic 34, 3) := by decide +kernel
theorem dX1_has_25 : decode cX1_has 25 = .ok (.ifCond .eq 7, 3) := by decide +kernel
theorem dX1_has_28 : decode cX1_has 28 = .ok (.iconst 1, 1) := by decide +kernel
theorem dX1_has_29 : decode cX1_has 29 = .ok (.goto 4, 3) := by decide +kernel
theorem dX1_has_32 : decode cX1_has 32 = .ok (.iconst 0, 1) := by decide +kernel
theorem dX1_has_33 : decode cX1_has 33 = .ok (.ireturn, 1) := by decide +kernel
theorem dX1_depthAt_0 : decode cX1_depthAt 0 = .ok (.aload_n 0, 1) := by decide +kernel
theorem dX1_depthAt_1 : decode cX1_depthAt 1 = .ok (.getfield 21, 3) := by decide +kernel
theorem dX1_depthAt_4 : decode cX1_depthAt 4 = .ok (.iload_n 1, 1) := by decide +kernel
theorem dX1_depthAt_5 : decode cX1_depthAt 5 = .ok (.aload_n 0, 1) := by decide +kernel
theorem dX1_depthAt_6 : decode cX1_depthAt 6 = .ok (.getfield 18, 3) := by decide +kernel
theorem dX1_depthAt_9 : decode cX1_depthAt 9 = .ok (.imul, 1) := by decide +kernel
theorem dX1_depthAt_10 : decode cX1_depthAt 10 = .ok (.iload_n 2, 1) := by decide +kernel
theorem dX1_depthAt_11 : decode cX1_depthAt 11 = .ok (.iadd, 1) := by decide +kernel
theorem dX1_depthAt_12 : decode cX1_depthAt 12 = .ok (.iaload, 1) := by decide +kernel
theorem dX1_depthAt_13 : decode cX1_depthAt 13 = .ok (.ireturn, 1) := by decide +kernel
theorem dX1_deepen_0 : decode cX1_deepen 0 = .ok (.aload_n 0, 1) := by decide +kernel
theorem dX1_deepen_1 : decode cX1_deepen 1 = .ok (.getfield 21, 3) := by decide +kernel
theorem dX1_deepen_4 : decode cX1_deepen 4 = .ok (.iload_n 1, 1) := by decide +kernel
theorem dX1_deepen_5 : decode cX1_deepen 5 = .ok (.aload_n 0, 1) := by decide +kernel
theorem dX1_deepen_6 : decode cX1_deepen 6 = .ok (.getfield 18, 3) := by decide +kernel
theorem dX1_deepen_9 : decode cX1_deepen 9 = .ok (.imul, 1) := by decide +kernel
theorem dX1_deepen_10 : decode cX1_deepen 10 = .ok (.iload_n 2, 1) := by decide +kernel
theorem dX1_deepen_11 : decode cX1_deepen 11 = .ok (.iadd, 1) := by decide +kernel
theorem dX1_deepen_12 : decode cX1_deepen 12 = .ok (.iload_n 3, 1) := by decide +kernel
theorem dX1_deepen_13 : decode cX1_deepen 13 = .ok (.iastore, 1) := by decide +kernel
theorem dX1_deepen_14 : decode cX1_deepen 14 = .ok (.return_, 1) := by decide +kernel
theorem dX1_isTold_0 : decode cX1_isTold 0 = .ok (.aload_n 0, 1) := by decide +kernel
theorem dX1_isTold_1 : decode cX1_isTold 1 = .ok (.getfield 25, 3) := by decide +kernel
theorem dX1_isTold_4 : decode cX1_isTold 4 = .ok (.iload_n 1, 1) := by decide +kernel
theorem dX1_isTold_5 : decode cX1_isTold 5 = .ok (.aload_n 0, 1) := by decide +kernel
theorem dX1_isTold_6 : decode cX1_isTold 6 = .ok (.getfield 18, 3) := by decide +kernel
theorem dX1_isTold_9 : decode cX1_isTold 9 = .ok (.imul, 1) := by decide +kernel
theorem dX1_isTold_10 : decode cX1_isTold 10 = .ok (.iload_n 2, 1) := by decide +kernel
theorem dX1_isTold_11 : decode cX1_isTold 11 = .ok (.iadd, 1) := by decide +kernel
theorem dX1_isTold_12 : decode cX1_isTold 12 = .ok (.iaload, 1) := by decide +kernel
theorem dX1_isTold_13 : decode cX1_isTold 13 = .ok (.iconst (-1), 1) := by decide +kernel
theorem dX1_isTold_14 : decode cX1_isTold 14 = .ok (.if_icmp .eq 7, 3) := by decide +kernel
theorem dX1_isTold_17 : decode cX1_isTold 17 = .ok (.iconst 1, 1) := by decide +kernel
theorem dX1_isTold_18 : decode cX1_isTold 18 = .ok (.goto 4, 3) := by decide +kernel
theorem dX1_isTold_21 : decode cX1_isTold 21 = .ok (.iconst 0, 1) := by decide +kernel
theorem dX1_isTold_22 : decode cX1_isTold 22 = .ok (.ireturn, 1) := by decide +kernel
set_option maxRecDepth 20000 in
theorem ggX1_tell_X1_narrowAll : GoodIn wsX1_tell wsX1_narrowAll := goodIn_r _ [7, 8, 9, 10, 6, 11, 1, 12, 13, 14, 15, 16, 17, 18, 2, 19, 20, 21, 22, 23, 24, 25, 26, 27, 28, 29, 30, 31, 32, 33, 34, 35, 36, 37, 38, 39, 40, 41, 42, 43, 44, 45] (by decide +kernel) (by decide +kernel)
set_option maxRecDepth 20000 in
theorem gX1_tell_X1_narrowAll : GoodIn wsX1_tell (wsV RX1 38 RX1 yX1_narrowAll wsX1_narrowAll) := goodIn_app (goodIn_of _ (by decide +kernel)) ggX1_tell_X1_narrowAll
theorem dX1_tell_0 : decode cX1_tell 0 = .ok (.aload_n 0, 1) := by decide +kernel
theorem dX1_tell_1 : decode cX1_tell 1 = .ok (.getfield 25, 3) := by decide +kernel
theorem dX1_tell_4 : decode cX1_tell 4 = .ok (.iload_n 1, 1) := by decide +kernel
theorem dX1_tell_5 : decode cX1_tell 5 = .ok (.aload_n 0, 1) := by decide +kernel
theorem dX1_tell_6 : decode cX1_tell 6 = .ok (.getfield 18, 3) := by decide +kernel
theorem dX1_tell_9 : decode cX1_tell 9 = .ok (.imul, 1) := by decide +kernel
theorem dX1_tell_10 : decode cX1_tell 10 = .ok (.iload_n 2, 1) := by decide +kernel
theorem dX1_tell_11 : decode cX1_tell 11 = .ok (.iadd, 1) := by decide +kernel
theorem dX1_tell_12 : decode cX1_tell 12 = .ok (.iload_n 3, 1) := by decide +kernel
theorem dX1_tell_13 : decode cX1_tell 13 = .ok (.iastore, 1) := by decide +kernel
theorem dX1_tell_14 : decode cX1_tell 14 = .ok (.aload_n 0, 1) := by decide +kernel
theorem dX1_tell_15 : decode cX1_tell 15 = .ok (.invokevirtual 38, 3) := by decide +kernel
theorem dX1_tell_18 : decode cX1_tell 18 = .ok (.return_, 1) := by decide +kernel
set_option maxRecDepth 20000 in
theorem ggX1_slope_X1_narrowAll : GoodIn wsX1_slope wsX1_narrowAll := goodIn_r _ [6, 7, 8, 9, 5, 10, 11, 12, 13, 14, 15, 16, 17, 18, 19, 20, 21, 22, 23, 1, 24, 25, 26, 27, 28, 29, 30, 31, 32, 33, 34, 35, 36, 37, 38, 39, 40, 41, 42, 43, 44, 45] (by decide +kernel) (by decide +kernel)
set_option maxRecDepth 20000 in
theorem gX1_slope_X1_narrowAll : GoodIn wsX1_slope (wsV RX1 38 RX1 yX1_narrowAll wsX1_narrowAll) := goodIn_app (goodIn_of _ (by decide +kernel)) ggX1_slope_X1_narrowAll
theorem dX1_slope_0 : decode cX1_slope 0 = .ok (.aload_n 0, 1) := by decide +kernel
theorem dX1_slope_1 : decode cX1_slope 1 = .ok (.iload_n 1, 1) := by decide +kernel
theorem dX1_slope_2 : decode cX1_slope 2 = .ok (.putfield 11, 3) := by decide +kernel
theorem dX1_slope_5 : decode cX1_slope 5 = .ok (.aload_n 0, 1) := by decide +kernel
theorem dX1_slope_6 : decode cX1_slope 6 = .ok (.invokevirtual 38, 3) := by decide +kernel
theorem dX1_slope_9 : decode cX1_slope 9 = .ok (.return_, 1) := by decide +kernel
theorem dX1_leastAt_0 : decode cX1_leastAt 0 = .ok (.aload_n 0, 1) := by decide +kernel
theorem dX1_leastAt_1 : decode cX1_leastAt 1 = .ok (.getfield 28, 3) := by decide +kernel
theorem dX1_leastAt_4 : decode cX1_leastAt 4 = .ok (.iload_n 1, 1) := by decide +kernel
theorem dX1_leastAt_5 : decode cX1_leastAt 5 = .ok (.aload_n 0, 1) := by decide +kernel
theorem dX1_leastAt_6 : decode cX1_leastAt 6 = .ok (.getfield 18, 3) := by decide +kernel
theorem dX1_leastAt_9 : decode cX1_leastAt 9 = .ok (.imul, 1) := by decide +kernel
theorem dX1_leastAt_10 : decode cX1_leastAt 10 = .ok (.iload_n 2, 1) := by decide +kernel
theorem dX1_leastAt_11 : decode cX1_leastAt 11 = .ok (.iadd, 1) := by decide +kernel
theorem dX1_leastAt_12 : decode cX1_leastAt 12 = .ok (.iaload, 1) := by decide +kernel
theorem dX1_leastAt_13 : decode cX1_leastAt 13 = .ok (.ireturn, 1) := by decide +kernel
theorem dX1_greatestAt_0 : decode cX1_greatestAt 0 = .ok (.aload_n 0, 1) := by decide +kernel
theorem dX1_greatestAt_1 : decode cX1_greatestAt 1 = .ok (.getfield 31, 3) := by decide +kernel
theorem dX1_greatestAt_4 : decode cX1_greatestAt 4 = .ok (.iload_n 1, 1) := by decide +kernel
theorem dX1_greatestAt_5 : decode cX1_greatestAt 5 = .ok (.aload_n 0, 1) := by decide +kernel
theorem dX1_greatestAt_6 : decode cX1_greatestAt 6 = .ok (.getfield 18, 3) := by decide +kernel
theorem dX1_greatestAt_9 : decode cX1_greatestAt 9 = .ok (.imul, 1) := by decide +kernel
theorem dX1_greatestAt_10 : decode cX1_greatestAt 10 = .ok (.iload_n 2, 1) := by decide +kernel
theorem dX1_greatestAt_11 : decode cX1_greatestAt 11 = .ok (.iadd, 1) := by decide +kernel
theorem dX1_greatestAt_12 : decode cX1_greatestAt 12 = .ok (.iaload, 1) := by decide +kernel
theorem dX1_greatestAt_13 : decode cX1_greatestAt 13 = .ok (.ireturn, 1) := by decide +kernel
set_option maxRecDepth 20000 in
theorem ggX1_quarrelsAt_X1_leastAt : GoodIn wsX1_quarrelsAt wsX1_leastAt := goodIn_r _ [5, 6, 7, 13, 14, 15, 16, 17, 18, 19] (by decide +kernel) (by decide +kernel)
set_option maxRecDepth 20000 in
theorem gX1_quarrelsAt_X1_leastAt : GoodIn wsX1_quarrelsAt (wsV RX1 41 RX1 yX1_leastAt wsX1_leastAt) := goodIn_app (goodIn_of _ (by decide +kernel)) ggX1_quarrelsAt_X1_leastAt
set_option maxRecDepth 20000 in
theorem ggX1_quarrelsAt_X1_greatestAt : GoodIn wsX1_quarrelsAt wsX1_greatestAt := goodIn_r _ [11, 12, 7, 13, 14, 15, 16, 17, 18, 19] (by decide +kernel) (by decide +kernel)
set_option maxRecDepth 20000 in
theorem gX1_quarrelsAt_X1_greatestAt : GoodIn wsX1_quarrelsAt (wsV RX1 45 RX1 yX1_greatestAt wsX1_greatestAt) := goodIn_app (goodIn_of _ (by decide +kernel)) ggX1_quarrelsAt_X1_greatestAt
theorem dX1_quarrelsAt_0 : decode cX1_quarrelsAt 0 = .ok (.aload_n 0, 1) := by decide +kernel
theorem dX1_quarrelsAt_1 : decode cX1_quarrelsAt 1 = .ok (.iload_n 1, 1) := by decide +kernel
theorem dX1_quarrelsAt_2 : decode cX1_quarrelsAt 2 = .ok (.iload_n 2, 1) := by decide +kernel
theorem dX1_quarrelsAt_3 : decode cX1_quarrelsAt 3 = .ok (.invokevirtual 41, 3) := by decide +kernel
theorem dX1_quarrelsAt_6 : decode cX1_quarrelsAt 6 = .ok (.aload_n 0, 1) := by decide +kernel
theorem dX1_quarrelsAt_7 : decode cX1_quarrelsAt 7 = .ok (.iload_n 1, 1) := by decide +kernel
theorem dX1_quarrelsAt_8 : decode cX1_quarrelsAt 8 = .ok (.iload_n 2, 1) := by decide +kernel
theorem dX1_quarrelsAt_9 : decode cX1_quarrelsAt 9 = .ok (.invokevirtual 45, 3) := by decide +kernel
theorem dX1_quarrelsAt_12 : decode cX1_quarrelsAt 12 = .ok (.if_icmp .le 7, 3) := by decide +kernel
theorem dX1_quarrelsAt_15 : decode cX1_quarrelsAt 15 = .ok (.iconst 1, 1) := by decide +kernel
theorem dX1_quarrelsAt_16 : decode cX1_quarrelsAt 16 = .ok (.goto 4, 3) := by decide +kernel
theorem dX1_quarrelsAt_19 : decode cX1_quarrelsAt 19 = .ok (.iconst 0, 1) := by decide +kernel
theorem dX1_quarrelsAt_20 : decode cX1_quarrelsAt 20 = .ok (.ireturn, 1) := by decide +kernel
theorem dX1_quarrels_0 : decode cX1_quarrels 0 = .ok (.iconst 0, 1) := by decide +kernel
theorem dX1_quarrels_1 : decode cX1_quarrels 1 = .ok (.istore_n 1, 1) := by decide +kernel
theorem dX1_quarrels_2 : decode cX1_quarrels 2 = .ok (.iconst 0, 1) := by decide +kernel
theorem dX1_quarrels_3 : decode cX1_quarrels 3 = .ok (.istore_n 2, 1) := by decide +kernel
theorem dX1_quarrels_4 : decode cX1_quarrels 4 = .ok (.iload_n 2, 1) := by decide +kernel
theorem dX1_quarrels_5 : decode cX1_quarrels 5 = .ok (.aload_n 0, 1) := by decide +kernel
theorem dX1_quarrels_6 : decode cX1_quarrels 6 = .ok (.getfield 28, 3) := by decide +kernel
theorem dX1_quarrels_9 : decode cX1_quarrels 9 = .ok (.arraylength, 1) := by decide +kernel
theorem dX1_quarrels_10 : decode cX1_quarrels 10 = .ok (.if_icmp .ge 27, 3) := by decide +kernel
theorem dX1_quarrels_13 : decode cX1_quarrels 13 = .ok (.aload_n 0, 1) := by decide +kernel
theorem dX1_quarrels_14 : decode cX1_quarrels 14 = .ok (.getfield 28, 3) := by decide +kernel
theorem dX1_quarrels_17 : decode cX1_quarrels 17 = .ok (.iload_n 2, 1) := by decide +kernel
theorem dX1_quarrels_18 : decode cX1_quarrels 18 = .ok (.iaload, 1) := by decide +kernel
theorem dX1_quarrels_19 : decode cX1_quarrels 19 = .ok (.aload_n 0, 1) := by decide +kernel
theorem dX1_quarrels_20 : decode cX1_quarrels 20 = .ok (.getfield 31, 3) := by decide +kernel
theorem dX1_quarrels_23 : decode cX1_quarrels 23 = .ok (.iload_n 2, 1) := by decide +kernel
theorem dX1_quarrels_24 : decode cX1_quarrels 24 = .ok (.iaload, 1) := by decide +kernel
theorem dX1_quarrels_25 : decode cX1_quarrels 25 = .ok (.if_icmp .le 6, 3) := by decide +kernel
theorem dX1_quarrels_28 : decode cX1_quarrels 28 = .ok (.iinc 1 1, 3) := by decide +kernel
theorem dX1_quarrels_31 : decode cX1_quarrels 31 = .ok (.iinc 2 1, 3) := by decide +kernel
theorem dX1_quarrels_34 : decode cX1_quarrels 34 = .ok (.goto (-30), 3) := by decide +kernel
theorem dX1_quarrels_37 : decode cX1_quarrels 37 = .ok (.iload_n 1, 1) := by decide +kernel
theorem dX1_quarrels_38 : decode cX1_quarrels 38 = .ok (.ireturn, 1) := by decide +kernel
set_option maxRecDepth 20000 in
theorem ggX1_widestFrom_X1_isTold : GoodIn wsX1_widestFrom wsX1_isTold := goodIn_r _ [7, 8, 2, 19, 20, 21, 22, 23, 24, 25] (by decide +kernel) (by decide +kernel)
set_option maxRecDepth 20000 in
theorem gX1_widestFrom_X1_isTold : GoodIn wsX1_widestFrom (wsV RX1 48 RX1 yX1_isTold wsX1_isTold) := goodIn_app (goodIn_of _ (by decide +kernel)) ggX1_widestFrom_X1_isTold
set_option maxRecDepth 20000 in
theorem ggX1_widestFrom_X1_greatestAt : GoodIn wsX1_widestFrom wsX1_greatestAt := goodIn_r _ [12, 13, 2, 19, 20, 21, 22, 23, 24, 25] (by decide +kernel) (by decide +kernel)
set_option maxRecDepth 20000 in
theorem gX1_widestFrom_X1_greatestAt : GoodIn wsX1_widestFrom (wsV RX1 45 RX1 yX1_greatestAt wsX1_greatestAt) := goodIn_app (goodIn_of _ (by decide +kernel)) ggX1_widestFrom_X1_greatestAt
set_option maxRecDepth 20000 in
theorem ggX1_widestFrom_X1_leastAt : GoodIn wsX1_widestFrom wsX1_leastAt := goodIn_r _ [17, 18, 2, 19, 20, 21, 22, 23, 24, 25] (by decide +kernel) (by decide +kernel)
set_option maxRecDepth 20000 in
theorem gX1_widestFrom_X1_leastAt : GoodIn wsX1_widestFrom (wsV RX1 41 RX1 yX1_leastAt wsX1_leastAt) := goodIn_app (goodIn_of _ (by decide +kernel)) ggX1_widestFrom_X1_leastAt
theorem dX1_widestFrom_0 : decode cX1_widestFrom 0 = .ok (.iconst (-1), 1) := by decide +kernel
theorem dX1_widestFrom_1 : decode cX1_widestFrom 1 = .ok (.istore_n 2, 1) := by decide +kernel
theorem dX1_widestFrom_2 : decode cX1_widestFrom 2 = .ok (.iconst 0, 1) := by decide +kernel
theorem dX1_widestFrom_3 : decode cX1_widestFrom 3 = .ok (.istore_n 3, 1) := by decide +kernel
theorem dX1_widestFrom_4 : decode cX1_widestFrom 4 = .ok (.iload_n 1, 1) := by decide +kernel
theorem dX1_widestFrom_5 : decode cX1_widestFrom 5 = .ok (.istore 4, 2) := by decide +kernel
theorem dX1_widestFrom_7 : decode cX1_widestFrom 7 = .ok (.iload 4, 2) := by decide +kernel
theorem dX1_widestFrom_9 : decode cX1_widestFrom 9 = .ok (.aload_n 0, 1) := by decide +kernel
theorem dX1_widestFrom_10 : decode cX1_widestFrom 10 = .ok (.getfield 15, 3) := by decide +kernel
theorem dX1_widestFrom_13 : decode cX1_widestFrom 13 = .ok (.if_icmp .ge 83, 3) := by decide +kernel
theorem dX1_widestFrom_16 : decode cX1_widestFrom 16 = .ok (.iconst 0, 1) := by decide +kernel
theorem dX1_widestFrom_17 : decode cX1_widestFrom 17 = .ok (.istore 5, 2) := by decide +kernel
theorem dX1_widestFrom_19 : decode cX1_widestFrom 19 = .ok (.iload 5, 2) := by decide +kernel
theorem dX1_widestFrom_21 : decode cX1_widestFrom 21 = .ok (.aload_n 0, 1) := by decide +kernel
theorem dX1_widestFrom_22 : decode cX1_widestFrom 22 = .ok (.getfield 18, 3) := by decide +kernel
theorem dX1_widestFrom_25 : decode cX1_widestFrom 25 = .ok (.if_icmp .ge 65, 3) := by decide +kernel
theorem dX1_widestFrom_28 : decode cX1_widestFrom 28 = .ok (.aload_n 0, 1) := by decide +kernel
theorem dX1_widestFrom_29 : decode cX1_widestFrom 29 = .ok (.iload 4, 2) := by decide +kernel
theorem dX1_widestFrom_31 : decode cX1_widestFrom 31 = .ok (.iload 5, 2) := by decide +kernel
theorem dX1_widestFrom_33 : decode cX1_widestFrom 33 = .ok (.invokevirtual 48, 3) := by decide +kernel
theorem dX1_widestFrom_36 : decode cX1_widestFrom 36 = .ok (.ifCond .eq 6, 3) := by decide +kernel
theorem dX1_widestFrom_39 : decode cX1_widestFrom 39 = .ok (.goto 45, 3) := by decide +kernel
theorem dX1_widestFrom_42 : decode cX1_widestFrom 42 = .ok (.aload_n 0, 1) := by decide +kernel
theorem dX1_widestFrom_43 : decode cX1_widestFrom 43 = .ok (.iload 4, 2) := by decide +kernel
theorem dX1_widestFrom_45 : decode cX1_widestFrom 45 = .ok (.iload 5, 2) := by decide +kernel
theorem dX1_widestFrom_47 : decode cX1_widestFrom 47 = .ok (.invokevirtual 45, 3) := by decide +kernel
theorem dX1_widestFrom_50 : decode cX1_widestFrom 50 = .ok (.aload_n 0, 1) := by decide +kernel
theorem dX1_widestFrom_51 : decode cX1_widestFrom 51 = .ok (.iload 4, 2) := by decide +kernel
theorem dX1_widestFrom_53 : decode cX1_widestFrom 53 = .ok (.iload 5, 2) := by decide +kernel
theorem dX1_widestFrom_55 : decode cX1_widestFrom 55 = .ok (.invokevirtual 41, 3) := by decide +kernel
theorem dX1_widestFrom_58 : decode cX1_widestFrom 58 = .ok (.isub, 1) := by decide +kernel
theorem dX1_widestFrom_59 : decode cX1_widestFrom 59 = .ok (.istore 6, 2) := by decide +kernel
theorem dX1_widestFrom_61 : decode cX1_widestFrom 61 = .ok (.iload_n 2, 1) := by decide +kernel
theorem dX1_widestFrom_62 : decode cX1_widestFrom 62 = .ok (.iconst (-1), 1) := by decide +kernel
theorem dX1_widestFrom_63 : decode cX1_widestFrom 63 = .ok (.if_icmp .eq 9, 3) := by decide +kernel
theorem dX1_widestFrom_66 : decode cX1_widestFrom 66 = .ok (.iload 6, 2) := by decide +kernel
theorem dX1_widestFrom_68 : decode cX1_widestFrom 68 = .ok (.iload_n 3, 1) := by decide +kernel
theorem dX1_widestFrom_69 : decode cX1_widestFrom 69 = .ok (.if_icmp .le 15, 3) := by decide +kernel
theorem dX1_widestFrom_72 : decode cX1_widestFrom 72 = .ok (.bipush 8, 2) := by decide +kernel
theorem dX1_widestFrom_74 : decode cX1_widestFrom 74 = .ok (.iload 4, 2) := by decide +kernel
theorem dX1_widestFrom_76 : decode cX1_widestFrom 76 = .ok (.imul, 1) := by decide +kernel
theorem dX1_widestFrom_77 : decode cX1_widestFrom 77 = .ok (.iload 5, 2) := by decide +kernel
theorem dX1_widestFrom_79 : decode cX1_widestFrom 79 = .ok (.iadd, 1) := by decide +kernel
theorem dX1_widestFrom_80 : decode cX1_widestFrom 80 = .ok (.istore_n 2, 1) := by decide +kernel
theorem dX1_widestFrom_81 : decode cX1_widestFrom 81 = .ok (.iload 6, 2) := by decide +kernel
theorem dX1_widestFrom_83 : decode cX1_widestFrom 83 = .ok (.istore_n 3, 1) := by decide +kernel
theorem dX1_widestFrom_84 : decode cX1_widestFrom 84 = .ok (.iinc 5 1, 3) := by decide +kernel
theorem dX1_widestFrom_87 : decode cX1_widestFrom 87 = .ok (.goto (-68), 3) := by decide +kernel
theorem dX1_widestFrom_90 : decode cX1_widestFrom 90 = .ok (.iinc 4 1, 3) := by decide +kernel
theorem dX1_widestFrom_93 : decode cX1_widestFrom 93 = .ok (.goto (-86), 3) := by decide +kernel
theorem dX1_widestFrom_96 : decode cX1_widestFrom 96 = .ok (.iload_n 2, 1) := by decide +kernel
theorem dX1_widestFrom_97 : decode cX1_widestFrom 97 = .ok (.ireturn, 1) := by decide +kernel
set_option maxRecDepth 20000 in
theorem ggX1_narrowAll_X1_openSpans : GoodIn wsX1_narrowAll wsX1_openSpans := goodIn_r _ [5, 6, 7, 8, 35, 36, 37, 38, 39, 40, 41] (by decide +kernel) (by decide +kernel)
set_option maxRecDepth 20000 in
theorem gX1_narrowAll_X1_openSpans : GoodIn wsX1_narrowAll (wsV RX1 52 RX1 yX1_openSpans wsX1_openSpans) := goodIn_app (goodIn_of _ (by decide +kernel)) ggX1_narrowAll_X1_openSpans
set_option maxRecDepth 20000 in
theorem ggX1_narrowAll_X1_sweepDown : GoodIn wsX1_narrowAll wsX1_sweepDown := goodIn_r _ [12, 13, 14, 15, 16, 17, 4, 18, 7, 19, 20, 21, 22, 23, 8, 24, 25, 26, 35, 36, 37, 38, 39, 40, 41] (by decide +kernel) (by decide +kernel)
set_option maxRecDepth 20000 in
theorem gX1_narrowAll_X1_sweepDown : GoodIn wsX1_narrowAll (wsV RX1 55 RX1 yX1_sweepDown wsX1_sweepDown) := goodIn_app (goodIn_of _ (by decide +kernel)) ggX1_narrowAll_X1_sweepDown
set_option maxRecDepth 20000 in
theorem ggX1_narrowAll_X1_sweepUp : GoodIn wsX1_narrowAll wsX1_sweepUp := goodIn_r _ [30, 13, 14, 15, 16, 17, 4, 18, 7, 19, 20, 21, 22, 23, 8, 24, 25, 26, 35, 36, 37, 38, 39, 40, 41] (by decide +kernel) (by decide +kernel)
set_option maxRecDepth 20000 in
theorem gX1_narrowAll_X1_sweepUp : GoodIn wsX1_narrowAll (wsV RX1 58 RX1 yX1_sweepUp wsX1_sweepUp) := goodIn_app (goodIn_of _ (by decide +kernel)) ggX1_narrowAll_X1_sweepUp
set_option maxRecDepth 20000 in
theorem ggX1_narrowAll_X1_closeToldSpans : GoodIn wsX1_narrowAll wsX1_closeToldSpans := goodIn_r _ [34, 6, 7, 8, 35, 36, 37, 38, 39, 40, 41] (by decide +kernel) (by decide +kernel)
set_option maxRecDepth 20000 in
theorem gX1_narrowAll_X1_closeToldSpans : GoodIn wsX1_narrowAll (wsV RX1 61 RX1 yX1_closeToldSpans wsX1_closeToldSpans) := goodIn_app (goodIn_of _ (by decide +kernel)) ggX1_narrowAll_X1_closeToldSpans
theorem dX1_narrowAll_0 : decode cX1_narrowAll 0 = .ok (.aload_n 0, 1) := by decide +kernel
theorem dX1_narrowAll_1 : decode cX1_narrowAll 1 = .ok (.invokevirtual 52, 3) := by decide +kernel
theorem dX1_narrowAll_4 : decode cX1_narrowAll 4 = .ok (.aload_n 0, 1) := by decide +kernel
theorem dX1_narrowAll_5 : decode cX1_narrowAll 5 = .ok (.invokevirtual 55, 3) := by decide +kernel
theorem dX1_narrowAll_8 : decode cX1_narrowAll 8 = .ok (.aload_n 0, 1) := by decide +kernel
theorem dX1_narrowAll_9 : decode cX1_narrowAll 9 = .ok (.invokevirtual 58, 3) := by decide +kernel
theorem dX1_narrowAll_12 : decode cX1_narrowAll 12 = .ok (.aload_n 0, 1) := by decide +kernel
theorem dX1_narrowAll_13 : decode cX1_narrowAll 13 = .ok (.invokevirtual 61, 3) := by decide +kernel
theorem dX1_narrowAll_16 : decode cX1_narrowAll 16 = .ok (.return_, 1) := by decide +kernel
theorem dX1_openSpans_0 : decode cX1_openSpans 0 = .ok (.iconst 0, 1) := by decide +kernel
theorem dX1_openSpans_1 : decode cX1_openSpans 1 = .ok (.istore_n 1, 1) := by decide +kernel
theorem dX1_openSpans_2 : decode cX1_openSpans 2 = .ok (.iload_n 1, 1) := by decide +kernel
theorem dX1_openSpans_3 : decode cX1_openSpans 3 = .ok (.aload_n 0, 1) := by decide +kernel
theorem dX1_openSpans_4 : decode cX1_openSpans 4 = .ok (.getfield 25, 3) := by decide +kernel
theorem dX1_openSpans_7 : decode cX1_openSpans 7 = .ok (.arraylength, 1) := by decide +kernel
theorem dX1_openSpans_8 : decode cX1_openSpans 8 = .ok (.if_icmp .ge 67, 3) := by decide +kernel
theorem dX1_openSpans_11 : decode cX1_openSpans 11 = .ok (.aload_n 0, 1) := by decide +kernel
theorem dX1_openSpans_12 : decode cX1_openSpans 12 = .ok (.getfield 25, 3) := by decide +kernel
theorem dX1_openSpans_15 : decode cX1_openSpans 15 = .ok (.iload_n 1, 1) := by decide +kernel
theorem dX1_openSpans_16 : decode cX1_openSpans 16 = .ok (.iaload, 1) := by decide +kernel
theorem dX1_openSpans_17 : decode cX1_openSpans 17 = .ok (.iconst (-1), 1) := by decide +kernel
theorem dX1_openSpans_18 : decode cX1_openSpans 18 = .ok (.if_icmp .eq 7, 3) := by decide +kernel
theorem dX1_openSpans_21 : decode cX1_openSpans 21 = .ok (.iconst 1, 1) := by decide +kernel
theorem dX1_openSpans_22 : decode cX1_openSpans 22 = .ok (.goto 4, 3) := by decide +kernel
theorem dX1_openSpans_25 : decode cX1_openSpans 25 = .ok (.iconst 0, 1) := by decide +kernel
theorem dX1_openSpans_26 : decode cX1_openSpans 26 = .ok (.istore_n 2, 1) := by decide +kernel
theorem dX1_openSpans_27 : decode cX1_openSpans 27 = .ok (.aload_n 0, 1) := by decide +kernel
theorem dX1_openSpans_28 : decode cX1_openSpans 28 = .ok (.getfield 28, 3) := by decide +kernel
theorem dX1_openSpans_31 : decode cX1_openSpans 31 = .ok (.iload_n 1, 1) := by decide +kernel
theorem dX1_openSpans_32 : decode cX1_openSpans 32 = .ok (.iload_n 2, 1) := by decide +kernel
theorem dX1_openSpans_33 : decode cX1_openSpans 33 = .ok (.ifCond .eq 12, 3) := by decide +kernel
theorem dX1_openSpans_36 : decode cX1_openSpans 36 = .ok (.aload_n 0, 1) := by decide +kernel
theorem dX1_openSpans_37 : decode cX1_openSpans 37 = .ok (.getfield 25, 3) := by decide +kernel
theorem dX1_openSpans_40 : decode cX1_openSpans 40 = .ok (.iload_n 1, 1) := by decide +kernel
theorem dX1_openSpans_41 : decode cX1_openSpans 41 = .ok (.iaload, 1) := by decide +kernel
theorem dX1_openSpans_42 : decode cX1_openSpans 42 = .ok (.goto 4, 3) := by decide +kernel
theorem dX1_openSpans_45 : decode cX1_openSpans 45 = .ok (.iconst 0, 1) := by decide +kernel
theorem dX1_openSpans_46 : decode cX1_openSpans 46 = .ok (.iastore, 1) := by decide +kernel
theorem dX1_openSpans_47 : decode cX1_openSpans 47 = .ok (.aload_n 0, 1) := by decide +kernel
theorem dX1_openSpans_48 : decode cX1_openSpans 48 = .ok (.getfield 31, 3) := by decide +kernel
theorem dX1_openSpans_51 : decode cX1_openSpans 51 = .ok (.iload_n 1, 1) := by decide +kernel
theorem dX1_openSpans_52 : decode cX1_openSpans 52 = .ok (.iload_n 2, 1) := by decide +kernel
theorem dX1_openSpans_53 : decode cX1_openSpans 53 = .ok (.ifCond .eq 12, 3) := by decide +kernel
theorem dX1_openSpans_56 : decode cX1_openSpans 56 = .ok (.aload_n 0, 1) := by decide +kernel
theorem dX1_openSpans_57 : decode cX1_openSpans 57 = .ok (.getfield 25, 3) := by decide +kernel
theorem dX1_openSpans_60 : decode cX1_openSpans 60 = .ok (.iload_n 1, 1) := by decide +kernel
theorem dX1_openSpans_61 : decode cX1_openSpans 61 = .ok (.iaload, 1) := by decide +kernel
theorem dX1_openSpans_62 : decode cX1_openSpans 62 = .ok (.goto 6, 3) := by decide +kernel
theorem dX1_openSpans_65 : decode cX1_openSpans 65 = .ok (.sipush 1000, 3) := by decide +kernel
theorem dX1_openSpans_68 : decode cX1_openSpans 68 = .ok (.iastore, 1) := by decide +kernel
theorem dX1_openSpans_69 : decode cX1_openSpans 69 = .ok (.iinc 1 1, 3) := by decide +kernel
theorem dX1_openSpans_72 : decode cX1_openSpans 72 = .ok (.goto (-70), 3) := by decide +kernel
theorem dX1_openSpans_75 : decode cX1_openSpans 75 = .ok (.return_, 1) := by decide +kernel
set_option maxRecDepth 20000 in
theorem ggX1_sweepDown_X1_narrow : GoodIn wsX1_sweepDown wsX1_narrow := goodIn_r _ [7, 8, 9, 10, 11, 12, 13, 14, 15, 16, 17, 18, 19, 20, 21, 22, 23, 24] (by decide +kernel) (by decide +kernel)
set_option maxRecDepth 20000 in
theorem gX1_sweepDown_X1_narrow : GoodIn wsX1_sweepDown (wsV RX1 64 RX1 yX1_narrow wsX1_narrow) := goodIn_app (goodIn_of _ (by decide +kernel)) ggX1_sweepDown_X1_narrow
theorem dX1_sweepDown_0 : decode cX1_sweepDown 0 = .ok (.iconst 0, 1) := by decide +kernel
theorem dX1_sweepDown_1 : decode cX1_sweepDown 1 = .ok (.istore_n 1, 1) := by decide +kernel
theorem dX1_sweepDown_2 : decode cX1_sweepDown 2 = .ok (.iload_n 1, 1) := by decide +kernel
theorem dX1_sweepDown_3 : decode cX1_sweepDown 3 = .ok (.aload_n 0, 1) := by decide +kernel
theorem dX1_sweepDown_4 : decode cX1_sweepDown 4 = .ok (.getfield 15, 3) := by decide +kernel
theorem dX1_sweepDown_7 : decode cX1_sweepDown 7 = .ok (.if_icmp .ge 61, 3) := by decide +kernel
theorem dX1_sweepDown_10 : decode cX1_sweepDown 10 = .ok (.iconst 0, 1) := by decide +kernel
theorem dX1_sweepDown_11 : decode cX1_sweepDown 11 = .ok (.istore_n 2, 1) := by decide +kernel
theorem dX1_sweepDown_12 : decode cX1_sweepDown 12 = .ok (.iload_n 2, 1) := by decide +kernel
theorem dX1_sweepDown_13 : decode cX1_sweepDown 13 = .ok (.aload_n 0, 1) := by decide +kernel
theorem dX1_sweepDown_14 : decode cX1_sweepDown 14 = .ok (.getfield 18, 3) := by decide +kernel
theorem dX1_sweepDown_17 : decode cX1_sweepDown 17 = .ok (.if_icmp .ge 45, 3) := by decide +kernel
theorem dX1_sweepDown_20 : decode cX1_sweepDown 20 = .ok (.iload_n 1, 1) := by decide +kernel
theorem dX1_sweepDown_21 : decode cX1_sweepDown 21 = .ok (.aload_n 0, 1) := by decide +kernel
theorem dX1_sweepDown_22 : decode cX1_sweepDown 22 = .ok (.getfield 18, 3) := by decide +kernel
theorem dX1_sweepDown_25 : decode cX1_sweepDown 25 = .ok (.imul, 1) := by decide +kernel
theorem dX1_sweepDown_26 : decode cX1_sweepDown 26 = .ok (.iload_n 2, 1) := by decide +kernel
theorem dX1_sweepDown_27 : decode cX1_sweepDown 27 = .ok (.iadd, 1) := by decide +kernel
theorem dX1_sweepDown_28 : decode cX1_sweepDown 28 = .ok (.istore_n 3, 1) := by decide +kernel
theorem dX1_sweepDown_29 : decode cX1_sweepDown 29 = .ok (.iload_n 1, 1) := by decide +kernel
theorem dX1_sweepDown_30 : decode cX1_sweepDown 30 = .ok (.ifCond .le 14, 3) := by decide +kernel
theorem dX1_sweepDown_33 : decode cX1_sweepDown 33 = .ok (.aload_n 0, 1) := by decide +kernel
theorem dX1_sweepDown_34 : decode cX1_sweepDown 34 = .ok (.iload_n 3, 1) := by decide +kernel
theorem dX1_sweepDown_35 : decode cX1_sweepDown 35 = .ok (.iload_n 3, 1) := by decide +kernel
theorem dX1_sweepDown_36 : decode cX1_sweepDown 36 = .ok (.aload_n 0, 1) := by decide +kernel
theorem dX1_sweepDown_37 : decode cX1_sweepDown 37 = .ok (.getfield 18, 3) := by decide +kernel
theorem dX1_sweepDown_40 : decode cX1_sweepDown 40 = .ok (.isub, 1) := by decide +kernel
theorem dX1_sweepDown_41 : decode cX1_sweepDown 41 = .ok (.invokevirtual 64, 3) := by decide +kernel
theorem dX1_sweepDown_44 : decode cX1_sweepDown 44 = .ok (.iload_n 2, 1) := by decide +kernel
theorem dX1_sweepDown_45 : decode cX1_sweepDown 45 = .ok (.ifCond .le 11, 3) := by decide +kernel
theorem dX1_sweepDown_48 : decode cX1_sweepDown 48 = .ok (.aload_n 0, 1) := by decide +kernel
theorem dX1_sweepDown_49 : decode cX1_sweepDown 49 = .ok (.iload_n 3, 1) := by decide +kernel
theorem dX1_sweepDown_50 : decode cX1_sweepDown 50 = .ok (.iload_n 3, 1) := by decide +kernel
theorem dX1_sweepDown_51 : decode cX1_sweepDown 51 = .ok (.iconst 1, 1) := by decide +kernel
theorem dX1_sweepDown_52 : decode cX1_sweepDown 52 = .ok (.isub, 1) := by decide +kernel
theorem dX1_sweepDown_53 : decode cX1_sweepDown 53 = .ok (.invokevirtual 64, 3) := by decide +kernel
theorem dX1_sweepDown_56 : decode cX1_sweepDown 56 = .ok (.iinc 2 1, 3) := by decide +kernel
theorem dX1_sweepDown_59 : decode cX1_sweepDown 59 = .ok (.goto (-47), 3) := by decide +kernel
theorem dX1_sweepDown_62 : decode cX1_sweepDown 62 = .ok (.iinc 1 1, 3) := by decide +kernel
theorem dX1_sweepDown_65 : decode cX1_sweepDown 65 = .ok (.goto (-63), 3) := by decide +kernel
theorem dX1_sweepDown_68 : decode cX1_sweepDown 68 = .ok (.return_, 1) := by decide +kernel
set_option maxRecDepth 20000 in
theorem ggX1_sweepUp_X1_narrow : GoodIn wsX1_sweepUp wsX1_narrow := goodIn_r _ [7, 8, 9, 10, 11, 12, 13, 14, 15, 16, 17, 18, 19, 20, 21, 22, 23, 24] (by decide +kernel) (by decide +kernel)
set_option maxRecDepth 20000 in
theorem gX1_sweepUp_X1_narrow : GoodIn wsX1_sweepUp (wsV RX1 64 RX1 yX1_narrow wsX1_narrow) := goodIn_app (goodIn_of _ (by decide +kernel)) ggX1_sweepUp_X1_narrow
theorem dX1_sweepUp_0 : decode cX1_sweepUp 0 = .ok (.aload_n 0, 1) := by decide +kernel
theorem dX1_sweepUp_1 : decode cX1_sweepUp 1 = .ok (.getfield 15, 3) := by decide +kernel
theorem dX1_sweepUp_4 : decode cX1_sweepUp 4 = .ok (.iconst 1, 1) := by decide +kernel
theorem dX1_sweepUp_5 : decode cX1_sweepUp 5 = .ok (.isub, 1) := by decide +kernel
theorem dX1_sweepUp_6 : decode cX1_sweepUp 6 = .ok (.istore_n 1, 1) := by decide +kernel
theorem dX1_sweepUp_7 : decode cX1_sweepUp 7 = .ok (.iload_n 1, 1) := by decide +kernel
theorem dX1_sweepUp_8 : decode cX1_sweepUp 8 = .ok (.ifCond .lt 74, 3) := by decide +kernel
theorem dX1_sweepUp_11 : decode cX1_sweepUp 11 = .ok (.aload_n 0, 1) := by decide +kernel
theorem dX1_sweepUp_12 : decode cX1_sweepUp 12 = .ok (.getfield 18, 3) := by decide +kernel
theorem dX1_sweepUp_15 : decode cX1_sweepUp 15 = .ok (.iconst 1, 1) := by decide +kernel
theorem dX1_sweepUp_16 : decode cX1_sweepUp 16 = .ok (.isub, 1) := by decide +kernel
theorem dX1_sweepUp_17 : decode cX1_sweepUp 17 = .ok (.istore_n 2, 1) := by decide +kernel
theorem dX1_sweepUp_18 : decode cX1_sweepUp 18 = .ok (.iload_n 2, 1) := by decide +kernel
theorem dX1_sweepUp_19 : decode cX1_sweepUp 19 = .ok (.ifCond .lt 57, 3) := by decide +kernel
theorem dX1_sweepUp_22 : decode cX1_sweepUp 22 = .ok (.iload_n 1, 1) := by decide +kernel
theorem dX1_sweepUp_23 : decode cX1_sweepUp 23 = .ok (.aload_n 0, 1) := by decide +kernel
theorem dX1_sweepUp_24 : decode cX1_sweepUp 24 = .ok (.getfield 18, 3) := by decide +kernel
theorem dX1_sweepUp_27 : decode cX1_sweepUp 27 = .ok (.imul, 1) := by decide +kernel
theorem dX1_sweepUp_28 : decode cX1_sweepUp 28 = .ok (.iload_n 2, 1) := by decide +kernel
theorem dX1_sweepUp_29 : decode cX1_sweepUp 29 = .ok (.iadd, 1) := by decide +kernel
theorem dX1_sweepUp_30 : decode cX1_sweepUp 30 = .ok (.istore_n 3, 1) := by decide +kernel
theorem dX1_sweepUp_31 : decode cX1_sweepUp 31 = .ok (.iload_n 1, 1) := by decide +kernel
theorem dX1_sweepUp_32 : decode cX1_sweepUp 32 = .ok (.aload_n 0, 1) := by decide +kernel
theorem dX1_sweepUp_33 : decode cX1_sweepUp 33 = .ok (.getfield 15, 3) := by decide +kernel
theorem dX1_sweepUp_36 : decode cX1_sweepUp 36 = .ok (.iconst 1, 1) := by decide +kernel
theorem dX1_sweepUp_37 : decode cX1_sweepUp 37 = .ok (.isub, 1) := by decide +kernel
theorem dX1_sweepUp_38 : decode cX1_sweepUp 38 = .ok (.if_icmp .ge 14, 3) := by decide +kernel
theorem dX1_sweepUp_41 : decode cX1_sweepUp 41 = .ok (.aload_n 0, 1) := by decide +kernel
theorem dX1_sweepUp_42 : decode cX1_sweepUp 42 = .ok (.iload_n 3, 1) := by decide +kernel
theorem dX1_sweepUp_43 : decode cX1_sweepUp 43 = .ok (.iload_n 3, 1) := by decide +kernel
theorem dX1_sweepUp_44 : decode cX1_sweepUp 44 = .ok (.aload_n 0, 1) := by decide +kernel
theorem dX1_sweepUp_45 : decode cX1_sweepUp 45 = .ok (.getfield 18, 3) := by decide +kernel
theorem dX1_sweepUp_48 : decode cX1_sweepUp 48 = .ok (.iadd, 1) := by decide +kernel
theorem dX1_sweepUp_49 : decode cX1_sweepUp 49 = .ok (.invokevirtual 64, 3) := by decide +kernel
theorem dX1_sweepUp_52 : decode cX1_sweepUp 52 = .ok (.iload_n 2, 1) := by decide +kernel
theorem dX1_sweepUp_53 : decode cX1_sweepUp 53 = .ok (.aload_n 0, 1) := by decide +kernel
theorem dX1_sweepUp_54 : decode cX1_sweepUp 54 = .ok (.getfield 18, 3) := by decide +kernel
theorem dX1_sweepUp_57 : decode cX1_sweepUp 57 = .ok (.iconst 1, 1) := by decide +kernel
theorem dX1_sweepUp_58 : decode cX1_sweepUp 58 = .ok (.isub, 1) := by decide +kernel
theorem dX1_sweepUp_59 : decode cX1_sweepUp 59 = .ok (.if_icmp .ge 11, 3) := by decide +kernel
theorem dX1_sweepUp_62 : decode cX1_sweepUp 62 = .ok (.aload_n 0, 1) := by decide +kernel
theorem dX1_sweepUp_63 : decode cX1_sweepUp 63 = .ok (.iload_n 3, 1) := by decide +kernel
theorem dX1_sweepUp_64 : decode cX1_sweepUp 64 = .ok (.iload_n 3, 1) := by decide +kernel
theorem dX1_sweepUp_65 : decode cX1_sweepUp 65 = .ok (.iconst 1, 1) := by decide +kernel
theorem dX1_sweepUp_66 : decode cX1_sweepUp 66 = .ok (.iadd, 1) := by decide +kernel
theorem dX1_sweepUp_67 : decode cX1_sweepUp 67 = .ok (.invokevirtual 64, 3) := by decide +kernel
theorem dX1_sweepUp_70 : decode cX1_sweepUp 70 = .ok (.iinc 2 (-1), 3) := by decide +kernel
theorem dX1_sweepUp_73 : decode cX1_sweepUp 73 = .ok (.goto (-55), 3) := by decide +kernel
theorem dX1_sweepUp_76 : decode cX1_sweepUp 76 = .ok (.iinc 1 (-1), 3) := by decide +kernel
theorem dX1_sweepUp_79 : decode cX1_sweepUp 79 = .ok (.goto (-72), 3) := by decide +kernel
theorem dX1_sweepUp_82 : decode cX1_sweepUp 82 = .ok (.return_, 1) := by decide +kernel
theorem dX1_narrow_0 : decode cX1_narrow 0 = .ok (.aload_n 0, 1) := by decide +kernel
theorem dX1_narrow_1 : decode cX1_narrow 1 = .ok (.getfield 28, 3) := by decide +kernel
theorem dX1_narrow_4 : decode cX1_narrow 4 = .ok (.iload_n 1, 1) := by decide +kernel
theorem dX1_narrow_5 : decode cX1_narrow 5 = .ok (.aload_n 0, 1) := by decide +kernel
theorem dX1_narrow_6 : decode cX1_narrow 6 = .ok (.getfield 28, 3) := by decide +kernel
theorem dX1_narrow_9 : decode cX1_narrow 9 = .ok (.iload_n 1, 1) := by decide +kernel
theorem dX1_narrow_10 : decode cX1_narrow 10 = .ok (.iaload, 1) := by decide +kernel
theorem dX1_narrow_11 : decode cX1_narrow 11 = .ok (.aload_n 0, 1) := by decide +kernel
theorem dX1_narrow_12 : decode cX1_narrow 12 = .ok (.getfield 28, 3) := by decide +kernel
theorem dX1_narrow_15 : decode cX1_narrow 15 = .ok (.iload_n 2, 1) := by decide +kernel
theorem dX1_narrow_16 : decode cX1_narrow 16 = .ok (.iaload, 1) := by decide +kernel
theorem dX1_narrow_17 : decode cX1_narrow 17 = .ok (.aload_n 0, 1) := by decide +kernel
theorem dX1_narrow_18 : decode cX1_narrow 18 = .ok (.getfield 11, 3) := by decide +kernel
theorem dX1_narrow_21 : decode cX1_narrow 21 = .ok (.isub, 1) := by decide +kernel
theorem dX1_narrow_22 : decode cX1_narrow 22 = .ok (.invokestatic 68, 3) := by decide +kernel
theorem dX1_narrow_25 : decode cX1_narrow 25 = .ok (.iastore, 1) := by decide +kernel
theorem dX1_narrow_26 : decode cX1_narrow 26 = .ok (.aload_n 0, 1) := by decide +kernel
theorem dX1_narrow_27 : decode cX1_narrow 27 = .ok (.getfield 31, 3) := by decide +kernel
theorem dX1_narrow_30 : decode cX1_narrow 30 = .ok (.iload_n 1, 1) := by decide +kernel
theorem dX1_narrow_31 : decode cX1_narrow 31 = .ok (.aload_n 0, 1) := by decide +kernel
theorem dX1_narrow_32 : decode cX1_narrow 32 = .ok (.getfield 31, 3) := by decide +kernel
theorem dX1_narrow_35 : decode cX1_narrow 35 = .ok (.iload_n 1, 1) := by decide +kernel
