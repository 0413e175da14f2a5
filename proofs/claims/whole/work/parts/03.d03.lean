theorem dX6_layBack_29 : decode cX6_layBack 29 = .ok (.ireturn, 1) := by decide +kernel
theorem dX6_layBack_30 : decode cX6_layBack 30 = .ok (.aload_n 0, 1) := by decide +kernel
theorem dX6_layBack_31 : decode cX6_layBack 31 = .ok (.getfield 25, 3) := by decide +kernel
theorem dX6_layBack_34 : decode cX6_layBack 34 = .ok (.iload_n 1, 1) := by decide +kernel
theorem dX6_layBack_35 : decode cX6_layBack 35 = .ok (.iconst 1, 1) := by decide +kernel
theorem dX6_layBack_36 : decode cX6_layBack 36 = .ok (.bastore, 1) := by decide +kernel
theorem dX6_layBack_37 : decode cX6_layBack 37 = .ok (.aload_n 0, 1) := by decide +kernel
theorem dX6_layBack_38 : decode cX6_layBack 38 = .ok (.dup, 1) := by decide +kernel
theorem dX6_layBack_39 : decode cX6_layBack 39 = .ok (.getfield 15, 3) := by decide +kernel
theorem dX6_layBack_42 : decode cX6_layBack 42 = .ok (.iconst 1, 1) := by decide +kernel
theorem dX6_layBack_43 : decode cX6_layBack 43 = .ok (.iadd, 1) := by decide +kernel
theorem dX6_layBack_44 : decode cX6_layBack 44 = .ok (.putfield 15, 3) := by decide +kernel
theorem dX6_layBack_47 : decode cX6_layBack 47 = .ok (.iconst 1, 1) := by decide +kernel
theorem dX6_layBack_48 : decode cX6_layBack 48 = .ok (.ireturn, 1) := by decide +kernel
theorem dX6_fineAll_0 : decode cX6_fineAll 0 = .ok (.iconst 0, 1) := by decide +kernel
theorem dX6_fineAll_1 : decode cX6_fineAll 1 = .ok (.istore_n 2, 1) := by decide +kernel
theorem dX6_fineAll_2 : decode cX6_fineAll 2 = .ok (.iconst 0, 1) := by decide +kernel
theorem dX6_fineAll_3 : decode cX6_fineAll 3 = .ok (.istore_n 3, 1) := by decide +kernel
theorem dX6_fineAll_4 : decode cX6_fineAll 4 = .ok (.iload_n 3, 1) := by decide +kernel
theorem dX6_fineAll_5 : decode cX6_fineAll 5 = .ok (.aload_n 0, 1) := by decide +kernel
theorem dX6_fineAll_6 : decode cX6_fineAll 6 = .ok (.getfield 9, 3) := by decide +kernel
theorem dX6_fineAll_9 : decode cX6_fineAll 9 = .ok (.if_icmp .ge 47, 3) := by decide +kernel
theorem dX6_fineAll_12 : decode cX6_fineAll 12 = .ok (.aload_n 0, 1) := by decide +kernel
theorem dX6_fineAll_13 : decode cX6_fineAll 13 = .ok (.getfield 22, 3) := by decide +kernel
theorem dX6_fineAll_16 : decode cX6_fineAll 16 = .ok (.iload_n 3, 1) := by decide +kernel
theorem dX6_fineAll_17 : decode cX6_fineAll 17 = .ok (.iaload, 1) := by decide +kernel
theorem dX6_fineAll_18 : decode cX6_fineAll 18 = .ok (.iload_n 1, 1) := by decide +kernel
theorem dX6_fineAll_19 : decode cX6_fineAll 19 = .ok (.if_icmp .ge 31, 3) := by decide +kernel
theorem dX6_fineAll_22 : decode cX6_fineAll 22 = .ok (.aload_n 0, 1) := by decide +kernel
theorem dX6_fineAll_23 : decode cX6_fineAll 23 = .ok (.getfield 25, 3) := by decide +kernel
theorem dX6_fineAll_26 : decode cX6_fineAll 26 = .ok (.iload_n 3, 1) := by decide +kernel
theorem dX6_fineAll_27 : decode cX6_fineAll 27 = .ok (.baload, 1) := by decide +kernel
theorem dX6_fineAll_28 : decode cX6_fineAll 28 = .ok (.ifCond .ne 22, 3) := by decide +kernel
theorem dX6_fineAll_31 : decode cX6_fineAll 31 = .ok (.aload_n 0, 1) := by decide +kernel
theorem dX6_fineAll_32 : decode cX6_fineAll 32 = .ok (.getfield 29, 3) := by decide +kernel
theorem dX6_fineAll_35 : decode cX6_fineAll 35 = .ok (.iload_n 3, 1) := by decide +kernel
theorem dX6_fineAll_36 : decode cX6_fineAll 36 = .ok (.baload, 1) := by decide +kernel
theorem dX6_fineAll_37 : decode cX6_fineAll 37 = .ok (.ifCond .ne 13, 3) := by decide +kernel
theorem dX6_fineAll_40 : decode cX6_fineAll 40 = .ok (.aload_n 0, 1) := by decide +kernel
theorem dX6_fineAll_41 : decode cX6_fineAll 41 = .ok (.getfield 29, 3) := by decide +kernel
theorem dX6_fineAll_44 : decode cX6_fineAll 44 = .ok (.iload_n 3, 1) := by decide +kernel
theorem dX6_fineAll_45 : decode cX6_fineAll 45 = .ok (.iconst 1, 1) := by decide +kernel
theorem dX6_fineAll_46 : decode cX6_fineAll 46 = .ok (.bastore, 1) := by decide +kernel
theorem dX6_fineAll_47 : decode cX6_fineAll 47 = .ok (.iinc 2 1, 3) := by decide +kernel
theorem dX6_fineAll_50 : decode cX6_fineAll 50 = .ok (.iinc 3 1, 3) := by decide +kernel
theorem dX6_fineAll_53 : decode cX6_fineAll 53 = .ok (.goto (-49), 3) := by decide +kernel
theorem dX6_fineAll_56 : decode cX6_fineAll 56 = .ok (.iload_n 2, 1) := by decide +kernel
theorem dX6_fineAll_57 : decode cX6_fineAll 57 = .ok (.ireturn, 1) := by decide +kernel
set_option maxRecDepth 20000 in
theorem ggX7_init_X4_init : GoodIn wsX7_init wsX4_init := goodIn_r _ [43, 44, 2, 3, 45, 46, 47, 102, 103, 104] (by decide +kernel) (by decide +kernel)
set_option maxRecDepth 20000 in
theorem gX7_init_X4_init_n9 : GoodIn wsX7_init (wsX4_init) := ggX7_init_X4_init
set_option maxRecDepth 20000 in
theorem ggX7_init_X0_init : GoodIn wsX7_init wsX0_init := goodIn_r _ [49, 50, 2, 3, 51, 52, 53, 54, 55, 115, 116, 117, 118] (by decide +kernel) (by decide +kernel)
set_option maxRecDepth 20000 in
theorem gX7_init_X0_init_n18 : GoodIn wsX7_init (wsX0_init) := ggX7_init_X0_init
set_option maxRecDepth 20000 in
theorem ggX7_init_X2_init : GoodIn wsX7_init wsX2_init := goodIn_r _ [57, 58, 2, 3, 51, 59, 60, 61, 119, 120, 121] (by decide +kernel) (by decide +kernel)
set_option maxRecDepth 20000 in
theorem gX7_init_X2_init_n25 : GoodIn wsX7_init (wsX2_init) := ggX7_init_X2_init
set_option maxRecDepth 20000 in
theorem ggX7_init_X3_init : GoodIn wsX7_init wsX3_init := goodIn_r _ [63, 64, 2, 3, 51, 65, 66, 67, 68, 69, 70, 71, 122, 123, 124, 125, 126, 127, 128] (by decide +kernel) (by decide +kernel)
set_option maxRecDepth 20000 in
theorem gX7_init_X3_init_n32 : GoodIn wsX7_init (wsX3_init) := ggX7_init_X3_init
set_option maxRecDepth 20000 in
theorem ggX7_init_X1_init : GoodIn wsX7_init wsX1_init := goodIn_r _ [74, 75, 2, 3, 76, 77, 78, 51, 79, 80, 81, 82, 129, 130, 131, 132, 133, 134, 135] (by decide +kernel) (by decide +kernel)
set_option maxRecDepth 20000 in
theorem gX7_init_X1_init : GoodIn wsX7_init (wsX1_init) := ggX7_init_X1_init
set_option maxRecDepth 20000 in
theorem ggX7_init_X6_init : GoodIn wsX7_init wsX6_init := goodIn_r _ [85, 86, 2, 3, 87, 88, 51, 89, 90, 91, 92, 93, 136, 137, 138, 139, 140, 141] (by decide +kernel) (by decide +kernel)
set_option maxRecDepth 20000 in
theorem gX7_init_X6_init : GoodIn wsX7_init (wsX6_init) := ggX7_init_X6_init
set_option maxRecDepth 20000 in
theorem ggX7_init_X5_init : GoodIn wsX7_init wsX5_init := goodIn_r _ [96, 97, 2, 3, 98, 99, 100, 51, 101, 142, 143, 144, 145] (by decide +kernel) (by decide +kernel)
set_option maxRecDepth 20000 in
theorem gX7_init_X5_init : GoodIn wsX7_init (wsX5_init) := ggX7_init_X5_init
theorem dX7_init_0 : decode cX7_init 0 = .ok (.aload_n 0, 1) := by decide +kernel
theorem dX7_init_1 : decode cX7_init 1 = .ok (.invokespecial 1, 3) := by decide +kernel
theorem dX7_init_4 : decode cX7_init 4 = .ok (.aload_n 0, 1) := by decide +kernel
theorem dX7_init_5 : decode cX7_init 5 = .ok (.new 7, 3) := by decide +kernel
theorem dX7_init_8 : decode cX7_init 8 = .ok (.dup, 1) := by decide +kernel
theorem dX7_init_9 : decode cX7_init 9 = .ok (.invokespecial 9, 3) := by decide +kernel
theorem dX7_init_12 : decode cX7_init 12 = .ok (.putfield 10, 3) := by decide +kernel
theorem dX7_init_15 : decode cX7_init 15 = .ok (.aload_n 0, 1) := by decide +kernel
theorem dX7_init_16 : decode cX7_init 16 = .ok (.new 16, 3) := by decide +kernel
theorem dX7_init_19 : decode cX7_init 19 = .ok (.dup, 1) := by decide +kernel
theorem dX7_init_20 : decode cX7_init 20 = .ok (.invokespecial 18, 3) := by decide +kernel
theorem dX7_init_23 : decode cX7_init 23 = .ok (.putfield 19, 3) := by decide +kernel
theorem dX7_init_26 : decode cX7_init 26 = .ok (.aload_n 0, 1) := by decide +kernel
theorem dX7_init_27 : decode cX7_init 27 = .ok (.new 23, 3) := by decide +kernel
theorem dX7_init_30 : decode cX7_init 30 = .ok (.dup, 1) := by decide +kernel
theorem dX7_init_31 : decode cX7_init 31 = .ok (.invokespecial 25, 3) := by decide +kernel
theorem dX7_init_34 : decode cX7_init 34 = .ok (.putfield 26, 3) := by decide +kernel
theorem dX7_init_37 : decode cX7_init 37 = .ok (.aload_n 0, 1) := by decide +kernel
theorem dX7_init_38 : decode cX7_init 38 = .ok (.new 30, 3) := by decide +kernel
theorem dX7_init_41 : decode cX7_init 41 = .ok (.dup, 1) := by decide +kernel
theorem dX7_init_42 : decode cX7_init 42 = .ok (.invokespecial 32, 3) := by decide +kernel
theorem dX7_init_45 : decode cX7_init 45 = .ok (.putfield 33, 3) := by decide +kernel
theorem dX7_init_48 : decode cX7_init 48 = .ok (.aload_n 0, 1) := by decide +kernel
theorem dX7_init_49 : decode cX7_init 49 = .ok (.iconst 0, 1) := by decide +kernel
theorem dX7_init_50 : decode cX7_init 50 = .ok (.putfield 37, 3) := by decide +kernel
theorem dX7_init_53 : decode cX7_init 53 = .ok (.aload_n 0, 1) := by decide +kernel
theorem dX7_init_54 : decode cX7_init 54 = .ok (.iconst 0, 1) := by decide +kernel
theorem dX7_init_55 : decode cX7_init 55 = .ok (.putfield 41, 3) := by decide +kernel
theorem dX7_init_58 : decode cX7_init 58 = .ok (.aload_n 0, 1) := by decide +kernel
theorem dX7_init_59 : decode cX7_init 59 = .ok (.iconst (-1), 1) := by decide +kernel
theorem dX7_init_60 : decode cX7_init 60 = .ok (.putfield 44, 3) := by decide +kernel
theorem dX7_init_63 : decode cX7_init 63 = .ok (.iconst 2, 1) := by decide +kernel
theorem dX7_init_64 : decode cX7_init 64 = .ok (.bipush 20, 2) := by decide +kernel
theorem dX7_init_66 : decode cX7_init 66 = .ok (.iload_n 1, 1) := by decide +kernel
theorem dX7_init_67 : decode cX7_init 67 = .ok (.invokestatic 47, 3) := by decide +kernel
theorem dX7_init_70 : decode cX7_init 70 = .ok (.invokestatic 53, 3) := by decide +kernel
theorem dX7_init_73 : decode cX7_init 73 = .ok (.istore_n 3, 1) := by decide +kernel
theorem dX7_init_74 : decode cX7_init 74 = .ok (.iconst 2, 1) := by decide +kernel
theorem dX7_init_75 : decode cX7_init 75 = .ok (.bipush 8, 2) := by decide +kernel
theorem dX7_init_77 : decode cX7_init 77 = .ok (.iload_n 2, 1) := by decide +kernel
theorem dX7_init_78 : decode cX7_init 78 = .ok (.invokestatic 47, 3) := by decide +kernel
theorem dX7_init_81 : decode cX7_init 81 = .ok (.invokestatic 53, 3) := by decide +kernel
theorem dX7_init_84 : decode cX7_init 84 = .ok (.istore 4, 2) := by decide +kernel
theorem dX7_init_86 : decode cX7_init 86 = .ok (.aload_n 0, 1) := by decide +kernel
theorem dX7_init_87 : decode cX7_init 87 = .ok (.new 56, 3) := by decide +kernel
theorem dX7_init_90 : decode cX7_init 90 = .ok (.dup, 1) := by decide +kernel
theorem dX7_init_91 : decode cX7_init 91 = .ok (.iload_n 3, 1) := by decide +kernel
theorem dX7_init_92 : decode cX7_init 92 = .ok (.iload 4, 2) := by decide +kernel
theorem dX7_init_94 : decode cX7_init 94 = .ok (.invokespecial 58, 3) := by decide +kernel
theorem dX7_init_97 : decode cX7_init 97 = .ok (.putfield 61, 3) := by decide +kernel
theorem dX7_init_100 : decode cX7_init 100 = .ok (.aload_n 0, 1) := by decide +kernel
theorem dX7_init_101 : decode cX7_init 101 = .ok (.new 65, 3) := by decide +kernel
theorem dX7_init_104 : decode cX7_init 104 = .ok (.dup, 1) := by decide +kernel
theorem dX7_init_105 : decode cX7_init 105 = .ok (.iload_n 3, 1) := by decide +kernel
theorem dX7_init_106 : decode cX7_init 106 = .ok (.invokespecial 67, 3) := by decide +kernel
theorem dX7_init_109 : decode cX7_init 109 = .ok (.putfield 70, 3) := by decide +kernel
theorem dX7_init_112 : decode cX7_init 112 = .ok (.aload_n 0, 1) := by decide +kernel
theorem dX7_init_113 : decode cX7_init 113 = .ok (.new 74, 3) := by decide +kernel
theorem dX7_init_116 : decode cX7_init 116 = .ok (.dup, 1) := by decide +kernel
theorem dX7_init_117 : decode cX7_init 117 = .ok (.iload_n 3, 1) := by decide +kernel
theorem dX7_init_118 : decode cX7_init 118 = .ok (.iload 4, 2) := by decide +kernel
theorem dX7_init_120 : decode cX7_init 120 = .ok (.invokespecial 76, 3) := by decide +kernel
theorem dX7_init_123 : decode cX7_init 123 = .ok (.putfield 77, 3) := by decide +kernel
theorem dX7_init_126 : decode cX7_init 126 = .ok (.return_, 1) := by decide +kernel
set_option maxRecDepth 20000 in
theorem ggX7_depth_X7_isUndug : GoodIn wsX7_depth wsX7_isUndug := goodIn_r _ [6, 1, 7, 8, 9, 10, 11, 12, 13, 14, 15, 5, 16, 17, 18, 19, 20, 21, 22, 23, 30, 31, 32, 33, 34, 35, 36, 37, 38, 39, 40, 41, 42, 43, 44, 45, 46, 47, 48, 49, 50, 51, 52] (by decide +kernel) (by decide +kernel)
set_option maxRecDepth 20000 in
theorem gX7_depth_X7_isUndug : GoodIn wsX7_depth (wsV RX7 81 RX7 yX7_isUndug wsX7_isUndug) := goodIn_app (goodIn_of _ (by decide +kernel)) ggX7_depth_X7_isUndug
set_option maxRecDepth 20000 in
theorem ggX7_depth_X7_within : GoodIn wsX7_depth wsX7_within := goodIn_r _ [16] (by decide +kernel) (by decide +kernel)
set_option maxRecDepth 20000 in
theorem gX7_depth_X7_within : GoodIn wsX7_depth (va_wsS RX7 85 yX7_within wsX7_within) := goodIn_app (goodIn_of _ (by decide +kernel)) ggX7_depth_X7_within
set_option maxRecDepth 20000 in
theorem ggX7_depth_X1_deepen : GoodIn wsX7_depth wsX1_deepen := goodIn_r _ [28, 29, 14, 40, 41, 42, 43, 44, 45, 46] (by decide +kernel) (by decide +kernel)
set_option maxRecDepth 20000 in
theorem gX7_depth_X1_deepen : GoodIn wsX7_depth (wsV RX7 89 RX1 yX1_deepen wsX1_deepen) := goodIn_app (goodIn_of _ (by decide +kernel)) ggX7_depth_X1_deepen
theorem dX7_depth_0 : decode cX7_depth 0 = .ok (.aload_n 0, 1) := by decide +kernel
theorem dX7_depth_1 : decode cX7_depth 1 = .ok (.iload_n 1, 1) := by decide +kernel
theorem dX7_depth_2 : decode cX7_depth 2 = .ok (.iload_n 2, 1) := by decide +kernel
theorem dX7_depth_3 : decode cX7_depth 3 = .ok (.invokevirtual 81, 3) := by decide +kernel
theorem dX7_depth_6 : decode cX7_depth 6 = .ok (.ifCond .eq 13, 3) := by decide +kernel
theorem dX7_depth_9 : decode cX7_depth 9 = .ok (.iload_n 3, 1) := by decide +kernel
theorem dX7_depth_10 : decode cX7_depth 10 = .ok (.iconst 1, 1) := by decide +kernel
theorem dX7_depth_11 : decode cX7_depth 11 = .ok (.bipush 9, 2) := by decide +kernel
theorem dX7_depth_13 : decode cX7_depth 13 = .ok (.invokestatic 85, 3) := by decide +kernel
theorem dX7_depth_16 : decode cX7_depth 16 = .ok (.ifCond .ne 5, 3) := by decide +kernel
theorem dX7_depth_19 : decode cX7_depth 19 = .ok (.iconst 0, 1) := by decide +kernel
theorem dX7_depth_20 : decode cX7_depth 20 = .ok (.ireturn, 1) := by decide +kernel
theorem dX7_depth_21 : decode cX7_depth 21 = .ok (.aload_n 0, 1) := by decide +kernel
theorem dX7_depth_22 : decode cX7_depth 22 = .ok (.getfield 61, 3) := by decide +kernel
theorem dX7_depth_25 : decode cX7_depth 25 = .ok (.iload_n 1, 1) := by decide +kernel
theorem dX7_depth_26 : decode cX7_depth 26 = .ok (.iload_n 2, 1) := by decide +kernel
theorem dX7_depth_27 : decode cX7_depth 27 = .ok (.iload_n 3, 1) := by decide +kernel
theorem dX7_depth_28 : decode cX7_depth 28 = .ok (.invokevirtual 89, 3) := by decide +kernel
theorem dX7_depth_31 : decode cX7_depth 31 = .ok (.iconst 1, 1) := by decide +kernel
theorem dX7_depth_32 : decode cX7_depth 32 = .ok (.ireturn, 1) := by decide +kernel
set_option maxRecDepth 20000 in
theorem ggX7_grade_X7_within : GoodIn wsX7_grade wsX7_within := goodIn_r _ [5] (by decide +kernel) (by decide +kernel)
set_option maxRecDepth 20000 in
theorem gX7_grade_X7_within : GoodIn wsX7_grade (va_wsS RX7 85 yX7_within wsX7_within) := goodIn_app (goodIn_of _ (by decide +kernel)) ggX7_grade_X7_within
set_option maxRecDepth 20000 in
theorem ggX7_grade_X1_slope : GoodIn wsX7_grade wsX1_slope := goodIn_r _ [10, 11, 12, 13, 14, 9, 15, 16, 17, 18, 19, 20, 21, 22, 23, 24, 25, 26, 27, 28, 29, 30, 31, 32, 33, 34, 35, 36, 37, 38, 39, 40, 41, 42, 43, 44, 45, 46, 47, 58, 59, 60, 61, 62, 63, 64] (by decide +kernel) (by decide +kernel)
set_option maxRecDepth 20000 in
theorem gX7_grade_X1_slope : GoodIn wsX7_grade (wsV RX7 93 RX1 yX1_slope wsX1_slope) := goodIn_app (goodIn_of _ (by decide +kernel)) ggX7_grade_X1_slope
theorem dX7_grade_0 : decode cX7_grade 0 = .ok (.iload_n 1, 1) := by decide +kernel
theorem dX7_grade_1 : decode cX7_grade 1 = .ok (.iconst 0, 1) := by decide +kernel
theorem dX7_grade_2 : decode cX7_grade 2 = .ok (.sipush 200, 3) := by decide +kernel
theorem dX7_grade_5 : decode cX7_grade 5 = .ok (.invokestatic 85, 3) := by decide +kernel
theorem dX7_grade_8 : decode cX7_grade 8 = .ok (.ifCond .ne 12, 3) := by decide +kernel
theorem dX7_grade_11 : decode cX7_grade 11 = .ok (.iload_n 1, 1) := by decide +kernel
theorem dX7_grade_12 : decode cX7_grade 12 = .ok (.sipush 1000, 3) := by decide +kernel
theorem dX7_grade_15 : decode cX7_grade 15 = .ok (.if_icmp .eq 5, 3) := by decide +kernel
theorem dX7_grade_18 : decode cX7_grade 18 = .ok (.iconst 0, 1) := by decide +kernel
theorem dX7_grade_19 : decode cX7_grade 19 = .ok (.ireturn, 1) := by decide +kernel
theorem dX7_grade_20 : decode cX7_grade 20 = .ok (.aload_n 0, 1) := by decide +kernel
theorem dX7_grade_21 : decode cX7_grade 21 = .ok (.getfield 61, 3) := by decide +kernel
theorem dX7_grade_24 : decode cX7_grade 24 = .ok (.iload_n 1, 1) := by decide +kernel
theorem dX7_grade_25 : decode cX7_grade 25 = .ok (.invokevirtual 93, 3) := by decide +kernel
theorem dX7_grade_28 : decode cX7_grade 28 = .ok (.iconst 1, 1) := by decide +kernel
theorem dX7_grade_29 : decode cX7_grade 29 = .ok (.ireturn, 1) := by decide +kernel
set_option maxRecDepth 20000 in
theorem ggX7_bore_X7_isUndug : GoodIn wsX7_bore wsX7_isUndug := goodIn_r _ [6, 1, 7, 8, 9, 10, 11, 12, 13, 14, 15, 5, 16, 17, 18, 19, 20, 21, 22, 23, 64, 65, 66, 67, 68, 69, 70, 71, 72, 73, 74, 75, 76, 77, 78, 79, 80, 81, 82, 83, 84, 85, 86] (by decide +kernel) (by decide +kernel)
set_option maxRecDepth 20000 in
theorem gX7_bore_X7_isUndug : GoodIn wsX7_bore (wsV RX7 81 RX7 yX7_isUndug wsX7_isUndug) := goodIn_app (goodIn_of _ (by decide +kernel)) ggX7_bore_X7_isUndug
set_option maxRecDepth 20000 in
theorem ggX7_bore_X7_within : GoodIn wsX7_bore wsX7_within := goodIn_r _ [16] (by decide +kernel) (by decide +kernel)
set_option maxRecDepth 20000 in
theorem gX7_bore_X7_within : GoodIn wsX7_bore (va_wsS RX7 85 yX7_within wsX7_within) := goodIn_app (goodIn_of _ (by decide +kernel)) ggX7_bore_X7_within
set_option maxRecDepth 20000 in
theorem ggX7_bore_X1_tell : GoodIn wsX7_bore wsX1_tell := goodIn_r _ [28, 29, 14, 30, 31, 32, 11, 33, 34, 35, 36, 37, 38, 39, 40, 41, 42, 43, 13, 44, 45, 46, 47, 48, 49, 50, 51, 52, 53, 54, 55, 56, 57, 58, 59, 60, 61, 62, 63, 74, 75, 76, 77, 78, 79, 80] (by decide +kernel) (by decide +kernel)
set_option maxRecDepth 20000 in
theorem gX7_bore_X1_tell : GoodIn wsX7_bore (wsV RX7 96 RX1 yX1_tell wsX1_tell) := goodIn_app (goodIn_of _ (by decide +kernel)) ggX7_bore_X1_tell
theorem dX7_bore_0 : decode cX7_bore 0 = .ok (.aload_n 0, 1) := by decide +kernel
theorem dX7_bore_1 : decode cX7_bore 1 = .ok (.iload_n 1, 1) := by decide +kernel
theorem dX7_bore_2 : decode cX7_bore 2 = .ok (.iload_n 2, 1) := by decide +kernel
theorem dX7_bore_3 : decode cX7_bore 3 = .ok (.invokevirtual 81, 3) := by decide +kernel
theorem dX7_bore_6 : decode cX7_bore 6 = .ok (.ifCond .eq 14, 3) := by decide +kernel
theorem dX7_bore_9 : decode cX7_bore 9 = .ok (.iload_n 3, 1) := by decide +kernel
theorem dX7_bore_10 : decode cX7_bore 10 = .ok (.iconst 0, 1) := by decide +kernel
theorem dX7_bore_11 : decode cX7_bore 11 = .ok (.sipush 1000, 3) := by decide +kernel
theorem dX7_bore_14 : decode cX7_bore 14 = .ok (.invokestatic 85, 3) := by decide +kernel
theorem dX7_bore_17 : decode cX7_bore 17 = .ok (.ifCond .ne 5, 3) := by decide +kernel
theorem dX7_bore_20 : decode cX7_bore 20 = .ok (.iconst 0, 1) := by decide +kernel
theorem dX7_bore_21 : decode cX7_bore 21 = .ok (.ireturn, 1) := by decide +kernel
theorem dX7_bore_22 : decode cX7_bore 22 = .ok (.aload_n 0, 1) := by decide +kernel
theorem dX7_bore_23 : decode cX7_bore 23 = .ok (.getfield 61, 3) := by decide +kernel
theorem dX7_bore_26 : decode cX7_bore 26 = .ok (.iload_n 1, 1) := by decide +kernel
theorem dX7_bore_27 : decode cX7_bore 27 = .ok (.iload_n 2, 1) := by decide +kernel
theorem dX7_bore_28 : decode cX7_bore 28 = .ok (.iload_n 3, 1) := by decide +kernel
theorem dX7_bore_29 : decode cX7_bore 29 = .ok (.invokevirtual 96, 3) := by decide +kernel
theorem dX7_bore_32 : decode cX7_bore 32 = .ok (.iconst 1, 1) := by decide +kernel
theorem dX7_bore_33 : decode cX7_bore 33 = .ok (.ireturn, 1) := by decide +kernel
set_option maxRecDepth 20000 in
theorem ggX7_square_X1_has : GoodIn wsX7_square wsX1_has := goodIn_r _ [7, 8, 9, 10, 11, 12, 65, 66, 67, 68, 69, 70, 71] (by decide +kernel) (by decide +kernel)
set_option maxRecDepth 20000 in
theorem gX7_square_X1_has : GoodIn wsX7_square (wsV RX7 99 RX1 yX1_has wsX1_has) := goodIn_app (goodIn_of _ (by decide +kernel)) ggX7_square_X1_has
set_option maxRecDepth 20000 in
theorem ggX7_square_X1_depthAt : GoodIn wsX7_square wsX1_depthAt := goodIn_r _ [16, 17, 9, 65, 66, 67, 68, 69, 70, 71] (by decide +kernel) (by decide +kernel)
set_option maxRecDepth 20000 in
theorem gX7_square_X1_depthAt : GoodIn wsX7_square (wsV RX7 102 RX1 yX1_depthAt wsX1_depthAt) := goodIn_app (goodIn_of _ (by decide +kernel)) ggX7_square_X1_depthAt
set_option maxRecDepth 20000 in
theorem ggX7_square_X1_leastAt : GoodIn wsX7_square wsX1_leastAt := goodIn_r _ [21, 22, 9, 65, 66, 67, 68, 69, 70, 71] (by decide +kernel) (by decide +kernel)
set_option maxRecDepth 20000 in
theorem gX7_square_X1_leastAt : GoodIn wsX7_square (wsV RX7 105 RX1 yX1_leastAt wsX1_leastAt) := goodIn_app (goodIn_of _ (by decide +kernel)) ggX7_square_X1_leastAt
set_option maxRecDepth 20000 in
theorem ggX7_square_X1_greatestAt : GoodIn wsX7_square wsX1_greatestAt := goodIn_r _ [26, 27, 9, 65, 66, 67, 68, 69, 70, 71] (by decide +kernel) (by decide +kernel)
set_option maxRecDepth 20000 in
theorem gX7_square_X1_greatestAt : GoodIn wsX7_square (wsV RX7 108 RX1 yX1_greatestAt wsX1_greatestAt) := goodIn_app (goodIn_of _ (by decide +kernel)) ggX7_square_X1_greatestAt
set_option maxRecDepth 20000 in
theorem ggX7_square_X1_quarrelsAt : GoodIn wsX7_square wsX1_quarrelsAt := goodIn_r _ [31, 32, 19, 20, 6, 21, 22, 9, 33, 24, 25, 26, 27, 65, 66, 67, 68, 69, 70, 71] (by decide +kernel) (by decide +kernel)
set_option maxRecDepth 20000 in
theorem gX7_square_X1_quarrelsAt : GoodIn wsX7_square (wsV RX7 111 RX1 yX1_quarrelsAt wsX1_quarrelsAt) := goodIn_app (goodIn_of _ (by decide +kernel)) ggX7_square_X1_quarrelsAt
set_option maxRecDepth 20000 in
theorem ggX7_square_X7_oneIf : GoodIn wsX7_square wsX7_oneIf := goodIn_r _ [36] (by decide +kernel) (by decide +kernel)
set_option maxRecDepth 20000 in
theorem gX7_square_X7_oneIf : GoodIn wsX7_square (va_wsS RX7 114 yX7_oneIf wsX7_oneIf) := goodIn_app (goodIn_of _ (by decide +kernel)) ggX7_square_X7_oneIf
set_option maxRecDepth 20000 in
theorem ggX7_square_X6_isDug : GoodIn wsX7_square wsX6_isDug := goodIn_r _ [41, 42, 43, 10, 11, 12, 72, 73, 74, 75, 76, 77] (by decide +kernel) (by decide +kernel)
set_option maxRecDepth 20000 in
theorem gX7_square_X6_isDug : GoodIn wsX7_square (wsV RX7 118 RX6 yX6_isDug wsX6_isDug) := goodIn_app (goodIn_of _ (by decide +kernel)) ggX7_square_X6_isDug
set_option maxRecDepth 20000 in
theorem ggX7_square_X6_isLaidBack : GoodIn wsX7_square wsX6_isLaidBack := goodIn_r _ [47, 48, 49, 38, 39, 40, 41, 42, 43, 10, 11, 12, 72, 73, 74, 75, 76, 77] (by decide +kernel) (by decide +kernel)
set_option maxRecDepth 20000 in
theorem gX7_square_X6_isLaidBack : GoodIn wsX7_square (wsV RX7 121 RX6 yX6_isLaidBack wsX6_isLaidBack) := goodIn_app (goodIn_of _ (by decide +kernel)) ggX7_square_X6_isLaidBack
set_option maxRecDepth 20000 in
theorem ggX7_square_X1_isTold : GoodIn wsX7_square wsX1_isTold := goodIn_r _ [53, 54, 9, 65, 66, 67, 68, 69, 70, 71] (by decide +kernel) (by decide +kernel)
set_option maxRecDepth 20000 in
theorem gX7_square_X1_isTold : GoodIn wsX7_square (wsV RX7 124 RX1 yX1_isTold wsX1_isTold) := goodIn_app (goodIn_of _ (by decide +kernel)) ggX7_square_X1_isTold
theorem dX7_square_0 : decode cX7_square 0 = .ok (.aload_n 0, 1) := by decide +kernel
theorem dX7_square_1 : decode cX7_square 1 = .ok (.getfield 61, 3) := by decide +kernel
theorem dX7_square_4 : decode cX7_square 4 = .ok (.iload_n 1, 1) := by decide +kernel
theorem dX7_square_5 : decode cX7_square 5 = .ok (.iload_n 2, 1) := by decide +kernel
theorem dX7_square_6 : decode cX7_square 6 = .ok (.invokevirtual 99, 3) := by decide +kernel
theorem dX7_square_9 : decode cX7_square 9 = .ok (.ifCond .ne 5, 3) := by decide +kernel
theorem dX7_square_12 : decode cX7_square 12 = .ok (.iconst (-1), 1) := by decide +kernel
theorem dX7_square_13 : decode cX7_square 13 = .ok (.ireturn, 1) := by decide +kernel
theorem dX7_square_14 : decode cX7_square 14 = .ok (.iload_n 3, 1) := by decide +kernel
theorem dX7_square_15 : decode cX7_square 15 = .ok (.tableswitch 123 0 6 #[41, 51, 61, 71, 84, 97, 110], 41) := by decide +kernel
theorem dX7_square_56 : decode cX7_square 56 = .ok (.aload_n 0, 1) := by decide +kernel
theorem dX7_square_57 : decode cX7_square 57 = .ok (.getfield 61, 3) := by decide +kernel
theorem dX7_square_60 : decode cX7_square 60 = .ok (.iload_n 1, 1) := by decide +kernel
theorem dX7_square_61 : decode cX7_square 61 = .ok (.iload_n 2, 1) := by decide +kernel
theorem dX7_square_62 : decode cX7_square 62 = .ok (.invokevirtual 102, 3) := by decide +kernel
theorem dX7_square_65 : decode cX7_square 65 = .ok (.ireturn, 1) := by decide +kernel
theorem dX7_square_66 : decode cX7_square 66 = .ok (.aload_n 0, 1) := by decide +kernel
theorem dX7_square_67 : decode cX7_square 67 = .ok (.getfield 61, 3) := by decide +kernel
theorem dX7_square_70 : decode cX7_square 70 = .ok (.iload_n 1, 1) := by decide +kernel
theorem dX7_square_71 : decode cX7_square 71 = .ok (.iload_n 2, 1) := by decide +kernel
theorem dX7_square_72 : decode cX7_square 72 = .ok (.invokevirtual 105, 3) := by decide +kernel
theorem dX7_square_75 : decode cX7_square 75 = .ok (.ireturn, 1) := by decide +kernel
theorem dX7_square_76 : decode cX7_square 76 = .ok (.aload_n 0, 1) := by decide +kernel
theorem dX7_square_77 : decode cX7_square 77 = .ok (.getfield 61, 3) := by decide +kernel
theorem dX7_square_80 : decode cX7_square 80 = .ok (.iload_n 1, 1) := by decide +kernel
theorem dX7_square_81 : decode cX7_square 81 = .ok (.iload_n 2, 1) := by decide +kernel
theorem dX7_square_82 : decode cX7_square 82 = .ok (.invokevirtual 108, 3) := by decide +kernel
theorem dX7_square_85 : decode cX7_square 85 = .ok (.ireturn, 1) := by decide +kernel
theorem dX7_square_86 : decode cX7_square 86 = .ok (.aload_n 0, 1) := by decide +kernel
theorem dX7_square_87 : decode cX7_square 87 = .ok (.getfield 61, 3) := by decide +kernel
theorem dX7_square_90 : decode cX7_square 90 = .ok (.iload_n 1, 1) := by decide +kernel
theorem dX7_square_91 : decode cX7_square 91 = .ok (.iload_n 2, 1) := by decide +kernel
theorem dX7_square_92 : decode cX7_square 92 = .ok (.invokevirtual 111, 3) := by decide +kernel
theorem dX7_square_95 : decode cX7_square 95 = .ok (.invokestatic 114, 3) := by decide +kernel
theorem dX7_square_98 : decode cX7_square 98 = .ok (.ireturn, 1) := by decide +kernel
theorem dX7_square_99 : decode cX7_square 99 = .ok (.aload_n 0, 1) := by decide +kernel
theorem dX7_square_100 : decode cX7_square 100 = .ok (.getfield 70, 3) := by decide +kernel
theorem dX7_square_103 : decode cX7_square 103 = .ok (.iload_n 1, 1) := by decide +kernel
theorem dX7_square_104 : decode cX7_square 104 = .ok (.iload_n 2, 1) := by decide +kernel
theorem dX7_square_105 : decode cX7_square 105 = .ok (.invokevirtual 118, 3) := by decide +kernel
theorem dX7_square_108 : decode cX7_square 108 = .ok (.invokestatic 114, 3) := by decide +kernel
theorem dX7_square_111 : decode cX7_square 111 = .ok (.ireturn, 1) := by decide +kernel
theorem dX7_square_112 : decode cX7_square 112 = .ok (.aload_n 0, 1) := by decide +kernel
theorem dX7_square_113 : decode cX7_square 113 = .ok (.getfield 70, 3) := by decide +kernel
theorem dX7_square_116 : decode cX7_square 116 = .ok (.iload_n 1, 1) := by decide +kernel
theorem dX7_square_117 : decode cX7_square 117 = .ok (.iload_n 2, 1) := by decide +kernel
theorem dX7_square_118 : decode cX7_square 118 = .ok (.invokevirtual 121, 3) := by decide +kernel
theorem dX7_square_121 : decode cX7_square 121 = .ok (.invokestatic 114, 3) := by decide +kernel
theorem dX7_square_124 : decode cX7_square 124 = .ok (.ireturn, 1) := by decide +kernel
theorem dX7_square_125 : decode cX7_square 125 = .ok (.aload_n 0, 1) := by decide +kernel
theorem dX7_square_126 : decode cX7_square 126 = .ok (.getfield 61, 3) := by decide +kernel
theorem dX7_square_129 : decode cX7_square 129 = .ok (.iload_n 1, 1) := by decide +kernel
theorem dX7_square_130 : decode cX7_square 130 = .ok (.iload_n 2, 1) := by decide +kernel
theorem dX7_square_131 : decode cX7_square 131 = .ok (.invokevirtual 124, 3) := by decide +kernel
theorem dX7_square_134 : decode cX7_square 134 = .ok (.invokestatic 114, 3) := by decide +kernel
theorem dX7_square_137 : decode cX7_square 137 = .ok (.ireturn, 1) := by decide +kernel
theorem dX7_square_138 : decode cX7_square 138 = .ok (.iconst (-1), 1) := by decide +kernel
theorem dX7_square_139 : decode cX7_square 139 = .ok (.ireturn, 1) := by decide +kernel
set_option maxRecDepth 20000 in
theorem ggX7_cost_X7_within : GoodIn wsX7_cost wsX7_within := goodIn_r _ [5] (by decide +kernel) (by decide +kernel)
set_option maxRecDepth 20000 in
theorem gX7_cost_X7_within : GoodIn wsX7_cost (va_wsS RX7 85 yX7_within wsX7_within) := goodIn_app (goodIn_of _ (by decide +kernel)) ggX7_cost_X7_within
set_option maxRecDepth 20000 in
theorem ggX7_cost_X5_charge : GoodIn wsX7_cost wsX5_charge := goodIn_r _ [10, 11, 22, 23, 24, 25] (by decide +kernel) (by decide +kernel)
set_option maxRecDepth 20000 in
theorem gX7_cost_X5_charge : GoodIn wsX7_cost (wsV RX7 127 RX5 yX5_charge wsX5_charge) := goodIn_app (goodIn_of _ (by decide +kernel)) ggX7_cost_X5_charge
theorem dX7_cost_0 : decode cX7_cost 0 = .ok (.iload_n 1, 1) := by decide +kernel
theorem dX7_cost_1 : decode cX7_cost 1 = .ok (.iconst 0, 1) := by decide +kernel
theorem dX7_cost_2 : decode cX7_cost 2 = .ok (.sipush 1000, 3) := by decide +kernel
theorem dX7_cost_5 : decode cX7_cost 5 = .ok (.invokestatic 85, 3) := by decide +kernel
theorem dX7_cost_8 : decode cX7_cost 8 = .ok (.ifCond .ne 5, 3) := by decide +kernel
theorem dX7_cost_11 : decode cX7_cost 11 = .ok (.iconst 0, 1) := by decide +kernel
theorem dX7_cost_12 : decode cX7_cost 12 = .ok (.ireturn, 1) := by decide +kernel
theorem dX7_cost_13 : decode cX7_cost 13 = .ok (.aload_n 0, 1) := by decide +kernel
theorem dX7_cost_14 : decode cX7_cost 14 = .ok (.getfield 77, 3) := by decide +kernel
theorem dX7_cost_17 : decode cX7_cost 17 = .ok (.iload_n 1, 1) := by decide +kernel
theorem dX7_cost_18 : decode cX7_cost 18 = .ok (.invokevirtual 127, 3) := by decide +kernel
theorem dX7_cost_21 : decode cX7_cost 21 = .ok (.iconst 1, 1) := by decide +kernel
theorem dX7_cost_22 : decode cX7_cost 22 = .ok (.ireturn, 1) := by decide +kernel
set_option maxRecDepth 20000 in
theorem ggX7_path_X6_nextRow : GoodIn wsX7_path wsX6_nextRow := goodIn_r _ [9, 10, 89, 90, 91, 92, 93, 94] (by decide +kernel) (by decide +kernel)
set_option maxRecDepth 20000 in
theorem gX7_path_X6_nextRow : GoodIn wsX7_path (wsV RX7 130 RX6 yX6_nextRow wsX6_nextRow) := goodIn_app (goodIn_of _ (by decide +kernel)) ggX7_path_X6_nextRow
set_option maxRecDepth 20000 in
theorem ggX7_path_X1_rowCount : GoodIn wsX7_path wsX1_rowCount := goodIn_r _ [15, 16, 95, 96, 97, 98, 99, 100, 101] (by decide +kernel) (by decide +kernel)
set_option maxRecDepth 20000 in
theorem gX7_path_X1_rowCount : GoodIn wsX7_path (wsV RX7 134 RX1 yX1_rowCount wsX1_rowCount) := goodIn_app (goodIn_of _ (by decide +kernel)) ggX7_path_X1_rowCount
set_option maxRecDepth 20000 in
theorem ggX7_path_X7_within : GoodIn wsX7_path wsX7_within := goodIn_r _ [20] (by decide +kernel) (by decide +kernel)
set_option maxRecDepth 20000 in
theorem gX7_path_X7_within : GoodIn wsX7_path (va_wsS RX7 85 yX7_within wsX7_within) := goodIn_app (goodIn_of _ (by decide +kernel)) ggX7_path_X7_within
set_option maxRecDepth 20000 in
theorem ggX7_path_X5_weigh : GoodIn wsX7_path wsX5_weigh := goodIn_r _ [25, 26, 27, 28, 29, 30, 31, 32, 14, 33, 34, 35, 36, 37, 24, 38, 39, 40, 41, 42, 43, 44, 45, 46, 47, 48, 49, 50, 51, 52, 53, 54, 55, 56, 57, 58, 59, 60, 61, 62, 63, 64, 65, 66, 67, 102, 103, 104, 105, 95, 96, 97, 98, 99, 100, 101] (by decide +kernel) (by decide +kernel)
set_option maxRecDepth 20000 in
theorem gX7_path_X5_weigh : GoodIn wsX7_path (wsV RX7 138 RX5 yX5_weigh wsX5_weigh) := goodIn_app (goodIn_of _ (by decide +kernel)) ggX7_path_X5_weigh
set_option maxRecDepth 20000 in
theorem ggX7_path_X6_dredgePlace : GoodIn wsX7_path wsX6_dredgePlace := goodIn_r _ [71, 10, 72, 89, 90, 91, 92, 93, 94] (by decide +kernel) (by decide +kernel)
set_option maxRecDepth 20000 in
theorem gX7_path_X6_dredgePlace : GoodIn wsX7_path (wsV RX7 142 RX6 yX6_dredgePlace wsX6_dredgePlace) := goodIn_app (goodIn_of _ (by decide +kernel)) ggX7_path_X6_dredgePlace
set_option maxRecDepth 20000 in
theorem ggX7_path_X5_startPlace : GoodIn wsX7_path wsX5_startPlace := goodIn_r _ [76, 27, 60, 61, 62, 24, 63, 64, 65, 66, 67, 29, 49, 50, 51, 52, 53, 54, 55, 56, 57, 58, 59, 102, 103, 104, 105] (by decide +kernel) (by decide +kernel)
set_option maxRecDepth 20000 in
theorem gX7_path_X5_startPlace : GoodIn wsX7_path (wsV RX7 145 RX5 yX5_startPlace wsX5_startPlace) := goodIn_app (goodIn_of _ (by decide +kernel)) ggX7_path_X5_startPlace
set_option maxRecDepth 20000 in
theorem ggX7_path_X5_sumFrom : GoodIn wsX7_path wsX5_sumFrom := goodIn_r _ [67, 29, 27, 102, 103, 104, 105] (by decide +kernel) (by decide +kernel)
set_option maxRecDepth 20000 in
theorem gX7_path_X5_sumFrom : GoodIn wsX7_path (wsV RX7 148 RX5 yX5_sumFrom wsX5_sumFrom) := goodIn_app (goodIn_of _ (by decide +kernel)) ggX7_path_X5_sumFrom
set_option maxRecDepth 20000 in
theorem ggX7_path_X5_bestBeside : GoodIn wsX7_path wsX5_bestBeside := goodIn_r _ [52, 53, 54, 55, 56, 27, 57, 58, 59, 60, 61, 62, 24, 63, 64, 65, 66, 67, 29, 102, 103, 104, 105] (by decide +kernel) (by decide +kernel)
set_option maxRecDepth 20000 in
theorem gX7_path_X5_bestBeside : GoodIn wsX7_path (wsV RX7 151 RX5 yX5_bestBeside wsX5_bestBeside) := goodIn_app (goodIn_of _ (by decide +kernel)) ggX7_path_X5_bestBeside
theorem dX7_path_0 : decode cX7_path 0 = .ok (.aload_n 0, 1) := by decide +kernel
theorem dX7_path_1 : decode cX7_path 1 = .ok (.getfield 70, 3) := by decide +kernel
theorem dX7_path_4 : decode cX7_path 4 = .ok (.invokevirtual 130, 3) := by decide +kernel
theorem dX7_path_7 : decode cX7_path 7 = .ok (.istore_n 3, 1) := by decide +kernel
theorem dX7_path_8 : decode cX7_path 8 = .ok (.aload_n 0, 1) := by decide +kernel
theorem dX7_path_9 : decode cX7_path 9 = .ok (.getfield 61, 3) := by decide +kernel
theorem dX7_path_12 : decode cX7_path 12 = .ok (.invokevirtual 134, 3) := by decide +kernel
theorem dX7_path_15 : decode cX7_path 15 = .ok (.iload_n 3, 1) := by decide +kernel
theorem dX7_path_16 : decode cX7_path 16 = .ok (.isub, 1) := by decide +kernel
theorem dX7_path_17 : decode cX7_path 17 = .ok (.istore 4, 2) := by decide +kernel
theorem dX7_path_19 : decode cX7_path 19 = .ok (.iload_n 1, 1) := by decide +kernel
theorem dX7_path_20 : decode cX7_path 20 = .ok (.iconst 0, 1) := by decide +kernel
theorem dX7_path_21 : decode cX7_path 21 = .ok (.iconst 2, 1) := by decide +kernel
theorem dX7_path_22 : decode cX7_path 22 = .ok (.invokestatic 85, 3) := by decide +kernel
theorem dX7_path_25 : decode cX7_path 25 = .ok (.ifCond .eq 19, 3) := by decide +kernel
theorem dX7_path_28 : decode cX7_path 28 = .ok (.iload 4, 2) := by decide +kernel
theorem dX7_path_30 : decode cX7_path 30 = .ok (.ifCond .le 14, 3) := by decide +kernel
theorem dX7_path_33 : decode cX7_path 33 = .ok (.iload_n 2, 1) := by decide +kernel
theorem dX7_path_34 : decode cX7_path 34 = .ok (.iconst (-1), 1) := by decide +kernel
theorem dX7_path_35 : decode cX7_path 35 = .ok (.if_icmp .lt 9, 3) := by decide +kernel
theorem dX7_path_38 : decode cX7_path 38 = .ok (.iload_n 2, 1) := by decide +kernel
theorem dX7_path_39 : decode cX7_path 39 = .ok (.iload 4, 2) := by decide +kernel
theorem dX7_path_41 : decode cX7_path 41 = .ok (.if_icmp .lt 6, 3) := by decide +kernel
theorem dX7_path_44 : decode cX7_path 44 = .ok (.ldc 137, 2) := by decide +kernel
theorem dX7_path_46 : decode cX7_path 46 = .ok (.ireturn, 1) := by decide +kernel
theorem dX7_path_47 : decode cX7_path 47 = .ok (.aload_n 0, 1) := by decide +kernel
theorem dX7_path_48 : decode cX7_path 48 = .ok (.getfield 77, 3) := by decide +kernel
theorem dX7_path_51 : decode cX7_path 51 = .ok (.aload_n 0, 1) := by decide +kernel
theorem dX7_path_52 : decode cX7_path 52 = .ok (.getfield 61, 3) := by decide +kernel
theorem dX7_path_55 : decode cX7_path 55 = .ok (.iload_n 1, 1) := by decide +kernel
theorem dX7_path_56 : decode cX7_path 56 = .ok (.iload_n 3, 1) := by decide +kernel
theorem dX7_path_57 : decode cX7_path 57 = .ok (.invokevirtual 138, 3) := by decide +kernel
theorem dX7_path_60 : decode cX7_path 60 = .ok (.aload_n 0, 1) := by decide +kernel
theorem dX7_path_61 : decode cX7_path 61 = .ok (.getfield 77, 3) := by decide +kernel
theorem dX7_path_64 : decode cX7_path 64 = .ok (.iload_n 3, 1) := by decide +kernel
theorem dX7_path_65 : decode cX7_path 65 = .ok (.aload_n 0, 1) := by decide +kernel
theorem dX7_path_66 : decode cX7_path 66 = .ok (.getfield 70, 3) := by decide +kernel
theorem dX7_path_69 : decode cX7_path 69 = .ok (.invokevirtual 142, 3) := by decide +kernel
theorem dX7_path_72 : decode cX7_path 72 = .ok (.invokevirtual 145, 3) := by decide +kernel
theorem dX7_path_75 : decode cX7_path 75 = .ok (.istore 5, 2) := by decide +kernel
theorem dX7_path_77 : decode cX7_path 77 = .ok (.iload_n 2, 1) := by decide +kernel
theorem dX7_path_78 : decode cX7_path 78 = .ok (.iconst (-1), 1) := by decide +kernel
theorem dX7_path_79 : decode cX7_path 79 = .ok (.if_icmp .ne 14, 3) := by decide +kernel
theorem dX7_path_82 : decode cX7_path 82 = .ok (.aload_n 0, 1) := by decide +kernel
theorem dX7_path_83 : decode cX7_path 83 = .ok (.getfield 77, 3) := by decide +kernel
theorem dX7_path_86 : decode cX7_path 86 = .ok (.iload_n 3, 1) := by decide +kernel
theorem dX7_path_87 : decode cX7_path 87 = .ok (.iload 5, 2) := by decide +kernel
theorem dX7_path_89 : decode cX7_path 89 = .ok (.invokevirtual 148, 3) := by decide +kernel
theorem dX7_path_92 : decode cX7_path 92 = .ok (.ireturn, 1) := by decide +kernel
theorem dX7_path_93 : decode cX7_path 93 = .ok (.iconst 1, 1) := by decide +kernel
theorem dX7_path_94 : decode cX7_path 94 = .ok (.istore 6, 2) := by decide +kernel
theorem dX7_path_96 : decode cX7_path 96 = .ok (.iload 6, 2) := by decide +kernel
theorem dX7_path_98 : decode cX7_path 98 = .ok (.iload_n 2, 1) := by decide +kernel
theorem dX7_path_99 : decode cX7_path 99 = .ok (.if_icmp .gt 24, 3) := by decide +kernel
theorem dX7_path_102 : decode cX7_path 102 = .ok (.aload_n 0, 1) := by decide +kernel
theorem dX7_path_103 : decode cX7_path 103 = .ok (.getfield 77, 3) := by decide +kernel
theorem dX7_path_106 : decode cX7_path 106 = .ok (.iload_n 3, 1) := by decide +kernel
theorem dX7_path_107 : decode cX7_path 107 = .ok (.iload 6, 2) := by decide +kernel
theorem dX7_path_109 : decode cX7_path 109 = .ok (.iadd, 1) := by decide +kernel
theorem dX7_path_110 : decode cX7_path 110 = .ok (.iload 5, 2) := by decide +kernel
theorem dX7_path_112 : decode cX7_path 112 = .ok (.invokevirtual 151, 3) := by decide +kernel
theorem dX7_path_115 : decode cX7_path 115 = .ok (.istore 5, 2) := by decide +kernel
theorem dX7_path_117 : decode cX7_path 117 = .ok (.iinc 6 1, 3) := by decide +kernel
theorem dX7_path_120 : decode cX7_path 120 = .ok (.goto (-24), 3) := by decide +kernel
theorem dX7_path_123 : decode cX7_path 123 = .ok (.iload 5, 2) := by decide +kernel
theorem dX7_path_125 : decode cX7_path 125 = .ok (.ireturn, 1) := by decide +kernel
set_option maxRecDepth 20000 in
theorem ggX7_next_X6_nextRow : GoodIn wsX7_next wsX6_nextRow := goodIn_r _ [7, 8, 41, 42, 43, 44, 45, 46] (by decide +kernel) (by decide +kernel)
set_option maxRecDepth 20000 in
theorem gX7_next_X6_nextRow : GoodIn wsX7_next (wsV RX7 130 RX6 yX6_nextRow wsX6_nextRow) := goodIn_app (goodIn_of _ (by decide +kernel)) ggX7_next_X6_nextRow
set_option maxRecDepth 20000 in
theorem ggX7_next_X1_widestFrom : GoodIn wsX7_next wsX1_widestFrom := goodIn_r _ [13, 14, 15, 16, 17, 18, 12, 19, 20, 21, 22, 23, 24, 25, 26, 27, 28, 29, 30, 47, 48, 49, 50, 51, 52, 53] (by decide +kernel) (by decide +kernel)
set_option maxRecDepth 20000 in
theorem gX7_next_X1_widestFrom : GoodIn wsX7_next (wsV RX7 154 RX1 yX1_widestFrom wsX1_widestFrom) := goodIn_app (goodIn_of _ (by decide +kernel)) ggX7_next_X1_widestFrom
theorem dX7_next_0 : decode cX7_next 0 = .ok (.aload_n 0, 1) := by decide +kernel
theorem dX7_next_1 : decode cX7_next 1 = .ok (.getfield 61, 3) := by decide +kernel
theorem dX7_next_4 : decode cX7_next 4 = .ok (.aload_n 0, 1) := by decide +kernel
theorem dX7_next_5 : decode cX7_next 5 = .ok (.getfield 70, 3) := by decide +kernel
theorem dX7_next_8 : decode cX7_next 8 = .ok (.invokevirtual 130, 3) := by decide +kernel
theorem dX7_next_11 : decode cX7_next 11 = .ok (.invokevirtual 154, 3) := by decide +kernel
theorem dX7_next_14 : decode cX7_next 14 = .ok (.ireturn, 1) := by decide +kernel
set_option maxRecDepth 20000 in
theorem ggX7_bars_X6_nextRow : GoodIn wsX7_bars wsX6_nextRow := goodIn_r _ [8, 9, 104, 105, 106, 107, 108, 109] (by decide +kernel) (by decide +kernel)
set_option maxRecDepth 20000 in
theorem gX7_bars_X6_nextRow : GoodIn wsX7_bars (wsV RX7 130 RX6 yX6_nextRow wsX6_nextRow) := goodIn_app (goodIn_of _ (by decide +kernel)) ggX7_bars_X6_nextRow
set_option maxRecDepth 20000 in
theorem ggX7_bars_X1_has : GoodIn wsX7_bars wsX1_has := goodIn_r _ [14, 15, 16, 17, 18, 19, 110, 111, 112, 113, 114, 115, 116] (by decide +kernel) (by decide +kernel)
set_option maxRecDepth 20000 in
theorem gX7_bars_X1_has : GoodIn wsX7_bars (wsV RX7 99 RX1 yX1_has wsX1_has) := goodIn_app (goodIn_of _ (by decide +kernel)) ggX7_bars_X1_has
set_option maxRecDepth 20000 in
theorem ggX7_bars_X6_reaches : GoodIn wsX7_bars wsX6_reaches := goodIn_r _ [23, 9, 24, 25, 26, 27, 28, 29, 30, 7, 31, 32, 104, 105, 106, 107, 108, 109] (by decide +kernel) (by decide +kernel)
set_option maxRecDepth 20000 in
theorem gX7_bars_X6_reaches : GoodIn wsX7_bars (wsV RX7 158 RX6 yX6_reaches wsX6_reaches) := goodIn_app (goodIn_of _ (by decide +kernel)) ggX7_bars_X6_reaches
set_option maxRecDepth 20000 in
theorem ggX7_bars_X4_level : GoodIn wsX7_bars wsX4_level := goodIn_r _ [37, 38, 117, 118, 119] (by decide +kernel) (by decide +kernel)
set_option maxRecDepth 20000 in
theorem gX7_bars_X4_level : GoodIn wsX7_bars (wsV RX7 162 RX4 yX4_level wsX4_level) := goodIn_app (goodIn_of _ (by decide +kernel)) ggX7_bars_X4_level
set_option maxRecDepth 20000 in
theorem ggX7_bars_X7_lawToday : GoodIn wsX7_bars wsX7_lawToday := goodIn_r _ [42, 43, 44, 45, 46, 47, 48, 49, 50, 51, 52, 53, 54, 55, 56, 17, 18, 19, 57, 58, 59, 60, 94, 95, 96, 97, 98, 99, 100, 101, 102, 103, 120, 121, 122] (by decide +kernel) (by decide +kernel)
set_option maxRecDepth 20000 in
theorem gX7_bars_X7_lawToday : GoodIn wsX7_bars (wsV RX7 165 RX7 yX7_lawToday wsX7_lawToday) := goodIn_app (goodIn_of _ (by decide +kernel)) ggX7_bars_X7_lawToday
set_option maxRecDepth 20000 in
theorem ggX7_bars_X7_within : GoodIn wsX7_bars wsX7_within := goodIn_r _ [19] (by decide +kernel) (by decide +kernel)
set_option maxRecDepth 20000 in
theorem gX7_bars_X7_within : GoodIn wsX7_bars (va_wsS RX7 85 yX7_within wsX7_within) := goodIn_app (goodIn_of _ (by decide +kernel)) ggX7_bars_X7_within
set_option maxRecDepth 20000 in
theorem ggX7_bars_X1_depthAt : GoodIn wsX7_bars wsX1_depthAt := goodIn_r _ [65, 66, 16, 110, 111, 112, 113, 114, 115, 116] (by decide +kernel) (by decide +kernel)
set_option maxRecDepth 20000 in
theorem gX7_bars_X1_depthAt : GoodIn wsX7_bars (wsV RX7 102 RX1 yX1_depthAt wsX1_depthAt) := goodIn_app (goodIn_of _ (by decide +kernel)) ggX7_bars_X1_depthAt
set_option maxRecDepth 20000 in
theorem ggX7_bars_X7_bankAhead : GoodIn wsX7_bars wsX7_bankAhead := goodIn_r _ [70, 1, 2, 71, 25, 26, 27, 72, 73, 74, 7, 75, 9, 76, 29, 30, 31, 32, 10, 11, 12, 13, 14, 15, 16, 17, 18, 19, 62, 63, 64, 65, 66, 94, 95, 96, 97, 98, 99, 100, 101, 102, 103, 104, 105, 106, 107, 108, 109, 110, 111, 112, 113, 114, 115, 116] (by decide +kernel) (by decide +kernel)
set_option maxRecDepth 20000 in
theorem gX7_bars_X7_bankAhead : GoodIn wsX7_bars (wsV RX7 168 RX7 yX7_bankAhead wsX7_bankAhead) := goodIn_app (goodIn_of _ (by decide +kernel)) ggX7_bars_X7_bankAhead
set_option maxRecDepth 20000 in
theorem ggX7_bars_X4_hoursLeft : GoodIn wsX7_bars wsX4_hoursLeft := goodIn_r _ [80, 81, 117, 118, 119] (by decide +kernel) (by decide +kernel)
set_option maxRecDepth 20000 in
theorem gX7_bars_X4_hoursLeft : GoodIn wsX7_bars (wsV RX7 171 RX4 yX4_hoursLeft wsX4_hoursLeft) := goodIn_app (goodIn_of _ (by decide +kernel)) ggX7_bars_X4_hoursLeft
set_option maxRecDepth 20000 in
theorem ggX7_bars_X4_hoursFor : GoodIn wsX7_bars wsX4_hoursFor := goodIn_r _ [84] (by decide +kernel) (by decide +kernel)
set_option maxRecDepth 20000 in
theorem gX7_bars_X4_hoursFor : GoodIn wsX7_bars (va_wsS RX7 174 yX4_hoursFor wsX4_hoursFor) := goodIn_app (goodIn_of _ (by decide +kernel)) ggX7_bars_X4_hoursFor
set_option maxRecDepth 20000 in
theorem ggX7_bars_X7_isMuddy : GoodIn wsX7_bars wsX7_isMuddy := goodIn_r _ [88, 3, 89, 90, 91, 36, 92, 93, 39, 40, 41, 18, 42, 43, 44, 45, 46, 47, 48, 49, 50, 51, 52, 53, 54, 55, 56, 17, 19, 57, 58, 59, 60, 94, 95, 96, 97, 98, 99, 100, 101, 102, 103, 117, 118, 119, 120, 121, 122] (by decide +kernel) (by decide +kernel)
set_option maxRecDepth 20000 in
theorem gX7_bars_X7_isMuddy : GoodIn wsX7_bars (wsV RX7 177 RX7 yX7_isMuddy wsX7_isMuddy) := goodIn_app (goodIn_of _ (by decide +kernel)) ggX7_bars_X7_isMuddy
theorem dX7_bars_0 : decode cX7_bars 0 = .ok (.aload_n 0, 1) := by decide +kernel
theorem dX7_bars_1 : decode cX7_bars 1 = .ok (.getfield 70, 3) := by decide +kernel
theorem dX7_bars_4 : decode cX7_bars 4 = .ok (.invokevirtual 130, 3) := by decide +kernel
theorem dX7_bars_7 : decode cX7_bars 7 = .ok (.istore_n 2, 1) := by decide +kernel
theorem dX7_bars_8 : decode cX7_bars 8 = .ok (.aload_n 0, 1) := by decide +kernel
theorem dX7_bars_9 : decode cX7_bars 9 = .ok (.getfield 61, 3) := by decide +kernel
theorem dX7_bars_12 : decode cX7_bars 12 = .ok (.iload_n 2, 1) := by decide +kernel
theorem dX7_bars_13 : decode cX7_bars 13 = .ok (.iload_n 1, 1) := by decide +kernel
theorem dX7_bars_14 : decode cX7_bars 14 = .ok (.invokevirtual 99, 3) := by decide +kernel
theorem dX7_bars_17 : decode cX7_bars 17 = .ok (.ifCond .eq 14, 3) := by decide +kernel
theorem dX7_bars_20 : decode cX7_bars 20 = .ok (.aload_n 0, 1) := by decide +kernel
theorem dX7_bars_21 : decode cX7_bars 21 = .ok (.getfield 70, 3) := by decide +kernel
theorem dX7_bars_24 : decode cX7_bars 24 = .ok (.iload_n 1, 1) := by decide +kernel
theorem dX7_bars_25 : decode cX7_bars 25 = .ok (.invokevirtual 158, 3) := by decide +kernel
theorem dX7_bars_28 : decode cX7_bars 28 = .ok (.ifCond .ne 5, 3) := by decide +kernel
theorem dX7_bars_31 : decode cX7_bars 31 = .ok (.iconst 1, 1) := by decide +kernel
theorem dX7_bars_32 : decode cX7_bars 32 = .ok (.ireturn, 1) := by decide +kernel
theorem dX7_bars_33 : decode cX7_bars 33 = .ok (.aload_n 0, 1) := by decide +kernel
theorem dX7_bars_34 : decode cX7_bars 34 = .ok (.getfield 10, 3) := by decide +kernel
theorem dX7_bars_37 : decode cX7_bars 37 = .ok (.invokevirtual 162, 3) := by decide +kernel
theorem dX7_bars_40 : decode cX7_bars 40 = .ok (.aload_n 0, 1) := by decide +kernel
theorem dX7_bars_41 : decode cX7_bars 41 = .ok (.iconst 0, 1) := by decide +kernel
theorem dX7_bars_42 : decode cX7_bars 42 = .ok (.invokevirtual 165, 3) := by decide +kernel
theorem dX7_bars_45 : decode cX7_bars 45 = .ok (.aload_n 0, 1) := by decide +kernel
theorem dX7_bars_46 : decode cX7_bars 46 = .ok (.iconst 1, 1) := by decide +kernel
theorem dX7_bars_47 : decode cX7_bars 47 = .ok (.invokevirtual 165, 3) := by decide +kernel
theorem dX7_bars_50 : decode cX7_bars 50 = .ok (.invokestatic 85, 3) := by decide +kernel
theorem dX7_bars_53 : decode cX7_bars 53 = .ok (.ifCond .ne 5, 3) := by decide +kernel
theorem dX7_bars_56 : decode cX7_bars 56 = .ok (.iconst 2, 1) := by decide +kernel
theorem dX7_bars_57 : decode cX7_bars 57 = .ok (.ireturn, 1) := by decide +kernel
theorem dX7_bars_58 : decode cX7_bars 58 = .ok (.aload_n 0, 1) := by decide +kernel
theorem dX7_bars_59 : decode cX7_bars 59 = .ok (.getfield 61, 3) := by decide +kernel
theorem dX7_bars_62 : decode cX7_bars 62 = .ok (.iload_n 2, 1) := by decide +kernel
theorem dX7_bars_63 : decode cX7_bars 63 = .ok (.iload_n 1, 1) := by decide +kernel
theorem dX7_bars_64 : decode cX7_bars 64 = .ok (.invokevirtual 102, 3) := by decide +kernel
theorem dX7_bars_67 : decode cX7_bars 67 = .ok (.istore_n 3, 1) := by decide +kernel
theorem dX7_bars_68 : decode cX7_bars 68 = .ok (.aload_n 0, 1) := by decide +kernel
theorem dX7_bars_69 : decode cX7_bars 69 = .ok (.iload_n 3, 1) := by decide +kernel
theorem dX7_bars_70 : decode cX7_bars 70 = .ok (.invokevirtual 168, 3) := by decide +kernel
theorem dX7_bars_73 : decode cX7_bars 73 = .ok (.aload_n 0, 1) := by decide +kernel
theorem dX7_bars_74 : decode cX7_bars 74 = .ok (.iconst 2, 1) := by decide +kernel
theorem dX7_bars_75 : decode cX7_bars 75 = .ok (.invokevirtual 165, 3) := by decide +kernel
theorem dX7_bars_78 : decode cX7_bars 78 = .ok (.if_icmp .le 5, 3) := by decide +kernel
theorem dX7_bars_81 : decode cX7_bars 81 = .ok (.iconst 3, 1) := by decide +kernel
theorem dX7_bars_82 : decode cX7_bars 82 = .ok (.ireturn, 1) := by decide +kernel
theorem dX7_bars_83 : decode cX7_bars 83 = .ok (.aload_n 0, 1) := by decide +kernel
theorem dX7_bars_84 : decode cX7_bars 84 = .ok (.getfield 10, 3) := by decide +kernel
theorem dX7_bars_87 : decode cX7_bars 87 = .ok (.invokevirtual 171, 3) := by decide +kernel
theorem dX7_bars_90 : decode cX7_bars 90 = .ok (.iload_n 3, 1) := by decide +kernel
theorem dX7_bars_91 : decode cX7_bars 91 = .ok (.invokestatic 174, 3) := by decide +kernel
theorem dX7_bars_94 : decode cX7_bars 94 = .ok (.if_icmp .ge 5, 3) := by decide +kernel
theorem dX7_bars_97 : decode cX7_bars 97 = .ok (.iconst 4, 1) := by decide +kernel
theorem dX7_bars_98 : decode cX7_bars 98 = .ok (.ireturn, 1) := by decide +kernel
theorem dX7_bars_99 : decode cX7_bars 99 = .ok (.aload_n 0, 1) := by decide +kernel
theorem dX7_bars_100 : decode cX7_bars 100 = .ok (.invokevirtual 177, 3) := by decide +kernel
theorem dX7_bars_103 : decode cX7_bars 103 = .ok (.ifCond .eq 7, 3) := by decide +kernel
theorem dX7_bars_106 : decode cX7_bars 106 = .ok (.iconst 5, 1) := by decide +kernel
theorem dX7_bars_107 : decode cX7_bars 107 = .ok (.goto 4, 3) := by decide +kernel
theorem dX7_bars_110 : decode cX7_bars 110 = .ok (.iconst 0, 1) := by decide +kernel
theorem dX7_bars_111 : decode cX7_bars 111 = .ok (.ireturn, 1) := by decide +kernel
