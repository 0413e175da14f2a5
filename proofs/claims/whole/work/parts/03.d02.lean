theorem dX3_scan_20 : decode cX3_scan 20 = .ok (.getfield 11, 3) := by decide +kernel
theorem dX3_scan_23 : decode cX3_scan 23 = .ok (.aload_n 0, 1) := by decide +kernel
theorem dX3_scan_24 : decode cX3_scan 24 = .ok (.getfield 30, 3) := by decide +kernel
theorem dX3_scan_27 : decode cX3_scan 27 = .ok (.iaload, 1) := by decide +kernel
theorem dX3_scan_28 : decode cX3_scan 28 = .ok (.invokestatic 94, 3) := by decide +kernel
theorem dX3_scan_31 : decode cX3_scan 31 = .ok (.ifCond .eq 16, 3) := by decide +kernel
theorem dX3_scan_34 : decode cX3_scan 34 = .ok (.aload_n 0, 1) := by decide +kernel
theorem dX3_scan_35 : decode cX3_scan 35 = .ok (.dup, 1) := by decide +kernel
theorem dX3_scan_36 : decode cX3_scan 36 = .ok (.getfield 30, 3) := by decide +kernel
theorem dX3_scan_39 : decode cX3_scan 39 = .ok (.iconst 1, 1) := by decide +kernel
theorem dX3_scan_40 : decode cX3_scan 40 = .ok (.iadd, 1) := by decide +kernel
theorem dX3_scan_41 : decode cX3_scan 41 = .ok (.putfield 30, 3) := by decide +kernel
theorem dX3_scan_44 : decode cX3_scan 44 = .ok (.goto (-36), 3) := by decide +kernel
theorem dX3_scan_47 : decode cX3_scan 47 = .ok (.aload_n 0, 1) := by decide +kernel
theorem dX3_scan_48 : decode cX3_scan 48 = .ok (.aload_n 0, 1) := by decide +kernel
theorem dX3_scan_49 : decode cX3_scan 49 = .ok (.getfield 30, 3) := by decide +kernel
theorem dX3_scan_52 : decode cX3_scan 52 = .ok (.putfield 33, 3) := by decide +kernel
theorem dX3_scan_55 : decode cX3_scan 55 = .ok (.aload_n 0, 1) := by decide +kernel
theorem dX3_scan_56 : decode cX3_scan 56 = .ok (.getfield 30, 3) := by decide +kernel
theorem dX3_scan_59 : decode cX3_scan 59 = .ok (.aload_n 0, 1) := by decide +kernel
theorem dX3_scan_60 : decode cX3_scan 60 = .ok (.getfield 24, 3) := by decide +kernel
theorem dX3_scan_63 : decode cX3_scan 63 = .ok (.if_icmp .lt 9, 3) := by decide +kernel
theorem dX3_scan_66 : decode cX3_scan 66 = .ok (.aload_n 0, 1) := by decide +kernel
theorem dX3_scan_67 : decode cX3_scan 67 = .ok (.iconst 0, 1) := by decide +kernel
theorem dX3_scan_68 : decode cX3_scan 68 = .ok (.putfield 27, 3) := by decide +kernel
theorem dX3_scan_71 : decode cX3_scan 71 = .ok (.return_, 1) := by decide +kernel
theorem dX3_scan_72 : decode cX3_scan 72 = .ok (.aload_n 0, 1) := by decide +kernel
theorem dX3_scan_73 : decode cX3_scan 73 = .ok (.aload_n 0, 1) := by decide +kernel
theorem dX3_scan_74 : decode cX3_scan 74 = .ok (.getfield 11, 3) := by decide +kernel
theorem dX3_scan_77 : decode cX3_scan 77 = .ok (.aload_n 0, 1) := by decide +kernel
theorem dX3_scan_78 : decode cX3_scan 78 = .ok (.getfield 30, 3) := by decide +kernel
theorem dX3_scan_81 : decode cX3_scan 81 = .ok (.iaload, 1) := by decide +kernel
theorem dX3_scan_82 : decode cX3_scan 82 = .ok (.invokestatic 97, 3) := by decide +kernel
theorem dX3_scan_85 : decode cX3_scan 85 = .ok (.putfield 27, 3) := by decide +kernel
theorem dX3_scan_88 : decode cX3_scan 88 = .ok (.aload_n 0, 1) := by decide +kernel
theorem dX3_scan_89 : decode cX3_scan 89 = .ok (.dup, 1) := by decide +kernel
theorem dX3_scan_90 : decode cX3_scan 90 = .ok (.getfield 33, 3) := by decide +kernel
theorem dX3_scan_93 : decode cX3_scan 93 = .ok (.iconst 1, 1) := by decide +kernel
theorem dX3_scan_94 : decode cX3_scan 94 = .ok (.iadd, 1) := by decide +kernel
theorem dX3_scan_95 : decode cX3_scan 95 = .ok (.putfield 33, 3) := by decide +kernel
theorem dX3_scan_98 : decode cX3_scan 98 = .ok (.aload_n 0, 1) := by decide +kernel
theorem dX3_scan_99 : decode cX3_scan 99 = .ok (.getfield 27, 3) := by decide +kernel
theorem dX3_scan_102 : decode cX3_scan 102 = .ok (.iconst 1, 1) := by decide +kernel
theorem dX3_scan_103 : decode cX3_scan 103 = .ok (.if_icmp .eq 11, 3) := by decide +kernel
theorem dX3_scan_106 : decode cX3_scan 106 = .ok (.aload_n 0, 1) := by decide +kernel
theorem dX3_scan_107 : decode cX3_scan 107 = .ok (.getfield 27, 3) := by decide +kernel
theorem dX3_scan_110 : decode cX3_scan 110 = .ok (.iconst 2, 1) := by decide +kernel
theorem dX3_scan_111 : decode cX3_scan 111 = .ok (.if_icmp .ne 46, 3) := by decide +kernel
theorem dX3_scan_114 : decode cX3_scan 114 = .ok (.aload_n 0, 1) := by decide +kernel
theorem dX3_scan_115 : decode cX3_scan 115 = .ok (.getfield 33, 3) := by decide +kernel
theorem dX3_scan_118 : decode cX3_scan 118 = .ok (.aload_n 0, 1) := by decide +kernel
theorem dX3_scan_119 : decode cX3_scan 119 = .ok (.getfield 24, 3) := by decide +kernel
theorem dX3_scan_122 : decode cX3_scan 122 = .ok (.if_icmp .ge 35, 3) := by decide +kernel
theorem dX3_scan_125 : decode cX3_scan 125 = .ok (.aload_n 0, 1) := by decide +kernel
theorem dX3_scan_126 : decode cX3_scan 126 = .ok (.getfield 11, 3) := by decide +kernel
theorem dX3_scan_129 : decode cX3_scan 129 = .ok (.aload_n 0, 1) := by decide +kernel
theorem dX3_scan_130 : decode cX3_scan 130 = .ok (.getfield 33, 3) := by decide +kernel
theorem dX3_scan_133 : decode cX3_scan 133 = .ok (.iaload, 1) := by decide +kernel
theorem dX3_scan_134 : decode cX3_scan 134 = .ok (.invokestatic 97, 3) := by decide +kernel
theorem dX3_scan_137 : decode cX3_scan 137 = .ok (.aload_n 0, 1) := by decide +kernel
theorem dX3_scan_138 : decode cX3_scan 138 = .ok (.getfield 27, 3) := by decide +kernel
theorem dX3_scan_141 : decode cX3_scan 141 = .ok (.if_icmp .ne 16, 3) := by decide +kernel
theorem dX3_scan_144 : decode cX3_scan 144 = .ok (.aload_n 0, 1) := by decide +kernel
theorem dX3_scan_145 : decode cX3_scan 145 = .ok (.dup, 1) := by decide +kernel
theorem dX3_scan_146 : decode cX3_scan 146 = .ok (.getfield 33, 3) := by decide +kernel
theorem dX3_scan_149 : decode cX3_scan 149 = .ok (.iconst 1, 1) := by decide +kernel
theorem dX3_scan_150 : decode cX3_scan 150 = .ok (.iadd, 1) := by decide +kernel
theorem dX3_scan_151 : decode cX3_scan 151 = .ok (.putfield 33, 3) := by decide +kernel
theorem dX3_scan_154 : decode cX3_scan 154 = .ok (.goto (-56), 3) := by decide +kernel
theorem dX3_scan_157 : decode cX3_scan 157 = .ok (.return_, 1) := by decide +kernel
theorem dX3_isBlank_0 : decode cX3_isBlank 0 = .ok (.iload_n 0, 1) := by decide +kernel
theorem dX3_isBlank_1 : decode cX3_isBlank 1 = .ok (.bipush 32, 2) := by decide +kernel
theorem dX3_isBlank_3 : decode cX3_isBlank 3 = .ok (.if_icmp .eq 9, 3) := by decide +kernel
theorem dX3_isBlank_6 : decode cX3_isBlank 6 = .ok (.iload_n 0, 1) := by decide +kernel
theorem dX3_isBlank_7 : decode cX3_isBlank 7 = .ok (.bipush 10, 2) := by decide +kernel
theorem dX3_isBlank_9 : decode cX3_isBlank 9 = .ok (.if_icmp .ne 7, 3) := by decide +kernel
theorem dX3_isBlank_12 : decode cX3_isBlank 12 = .ok (.iconst 1, 1) := by decide +kernel
theorem dX3_isBlank_13 : decode cX3_isBlank 13 = .ok (.goto 4, 3) := by decide +kernel
theorem dX3_isBlank_16 : decode cX3_isBlank 16 = .ok (.iconst 0, 1) := by decide +kernel
theorem dX3_isBlank_17 : decode cX3_isBlank 17 = .ok (.ireturn, 1) := by decide +kernel
set_option maxRecDepth 20000 in
theorem ggX3_kindOf_X7_within : GoodIn wsX3_kindOf wsX7_within := goodIn_r _ [3] (by decide +kernel) (by decide +kernel)
set_option maxRecDepth 20000 in
theorem gX3_kindOf_X7_within_n36 : GoodIn wsX3_kindOf (wsX7_within) := ggX3_kindOf_X7_within
theorem dX3_kindOf_0 : decode cX3_kindOf 0 = .ok (.iload_n 0, 1) := by decide +kernel
theorem dX3_kindOf_1 : decode cX3_kindOf 1 = .ok (.bipush 97, 2) := by decide +kernel
theorem dX3_kindOf_3 : decode cX3_kindOf 3 = .ok (.bipush 122, 2) := by decide +kernel
theorem dX3_kindOf_5 : decode cX3_kindOf 5 = .ok (.invokestatic 36, 3) := by decide +kernel
theorem dX3_kindOf_8 : decode cX3_kindOf 8 = .ok (.ifCond .eq 5, 3) := by decide +kernel
theorem dX3_kindOf_11 : decode cX3_kindOf 11 = .ok (.iconst 1, 1) := by decide +kernel
theorem dX3_kindOf_12 : decode cX3_kindOf 12 = .ok (.ireturn, 1) := by decide +kernel
theorem dX3_kindOf_13 : decode cX3_kindOf 13 = .ok (.iload_n 0, 1) := by decide +kernel
theorem dX3_kindOf_14 : decode cX3_kindOf 14 = .ok (.bipush 48, 2) := by decide +kernel
theorem dX3_kindOf_16 : decode cX3_kindOf 16 = .ok (.bipush 57, 2) := by decide +kernel
theorem dX3_kindOf_18 : decode cX3_kindOf 18 = .ok (.invokestatic 36, 3) := by decide +kernel
theorem dX3_kindOf_21 : decode cX3_kindOf 21 = .ok (.ifCond .eq 5, 3) := by decide +kernel
theorem dX3_kindOf_24 : decode cX3_kindOf 24 = .ok (.iconst 2, 1) := by decide +kernel
theorem dX3_kindOf_25 : decode cX3_kindOf 25 = .ok (.ireturn, 1) := by decide +kernel
theorem dX3_kindOf_26 : decode cX3_kindOf 26 = .ok (.iload_n 0, 1) := by decide +kernel
theorem dX3_kindOf_27 : decode cX3_kindOf 27 = .ok (.bipush 59, 2) := by decide +kernel
theorem dX3_kindOf_29 : decode cX3_kindOf 29 = .ok (.if_icmp .ne 7, 3) := by decide +kernel
theorem dX3_kindOf_32 : decode cX3_kindOf 32 = .ok (.iconst 3, 1) := by decide +kernel
theorem dX3_kindOf_33 : decode cX3_kindOf 33 = .ok (.goto 4, 3) := by decide +kernel
theorem dX3_kindOf_36 : decode cX3_kindOf 36 = .ok (.iconst 4, 1) := by decide +kernel
theorem dX3_kindOf_37 : decode cX3_kindOf 37 = .ok (.ireturn, 1) := by decide +kernel
theorem dX4_init_0 : decode cX4_init 0 = .ok (.aload_n 0, 1) := by decide +kernel
theorem dX4_init_1 : decode cX4_init 1 = .ok (.invokespecial 1, 3) := by decide +kernel
theorem dX4_init_4 : decode cX4_init 4 = .ok (.aload_n 0, 1) := by decide +kernel
theorem dX4_init_5 : decode cX4_init 5 = .ok (.bipush 100, 2) := by decide +kernel
theorem dX4_init_7 : decode cX4_init 7 = .ok (.putfield 7, 3) := by decide +kernel
theorem dX4_init_10 : decode cX4_init 10 = .ok (.aload_n 0, 1) := by decide +kernel
theorem dX4_init_11 : decode cX4_init 11 = .ok (.iconst 0, 1) := by decide +kernel
theorem dX4_init_12 : decode cX4_init 12 = .ok (.putfield 13, 3) := by decide +kernel
theorem dX4_init_15 : decode cX4_init 15 = .ok (.aload_n 0, 1) := by decide +kernel
theorem dX4_init_16 : decode cX4_init 16 = .ok (.bipush 20, 2) := by decide +kernel
theorem dX4_init_18 : decode cX4_init 18 = .ok (.putfield 16, 3) := by decide +kernel
theorem dX4_init_21 : decode cX4_init 21 = .ok (.return_, 1) := by decide +kernel
theorem dX4_hoursFor_0 : decode cX4_hoursFor 0 = .ok (.iconst 2, 1) := by decide +kernel
theorem dX4_hoursFor_1 : decode cX4_hoursFor 1 = .ok (.iload_n 0, 1) := by decide +kernel
theorem dX4_hoursFor_2 : decode cX4_hoursFor 2 = .ok (.imul, 1) := by decide +kernel
theorem dX4_hoursFor_3 : decode cX4_hoursFor 3 = .ok (.ireturn, 1) := by decide +kernel
theorem dX4_level_0 : decode cX4_level 0 = .ok (.aload_n 0, 1) := by decide +kernel
theorem dX4_level_1 : decode cX4_level 1 = .ok (.getfield 7, 3) := by decide +kernel
theorem dX4_level_4 : decode cX4_level 4 = .ok (.ireturn, 1) := by decide +kernel
theorem dX4_mud_0 : decode cX4_mud 0 = .ok (.aload_n 0, 1) := by decide +kernel
theorem dX4_mud_1 : decode cX4_mud 1 = .ok (.getfield 13, 3) := by decide +kernel
theorem dX4_mud_4 : decode cX4_mud 4 = .ok (.ireturn, 1) := by decide +kernel
theorem dX4_hoursLeft_0 : decode cX4_hoursLeft 0 = .ok (.aload_n 0, 1) := by decide +kernel
theorem dX4_hoursLeft_1 : decode cX4_hoursLeft 1 = .ok (.getfield 16, 3) := by decide +kernel
theorem dX4_hoursLeft_4 : decode cX4_hoursLeft 4 = .ok (.ireturn, 1) := by decide +kernel
set_option maxRecDepth 20000 in
theorem ggX4_stir_X4_hoursFor : GoodIn wsX4_stir wsX4_hoursFor := goodIn_r _ [6] (by decide +kernel) (by decide +kernel)
set_option maxRecDepth 20000 in
theorem gX4_stir_X4_hoursFor : GoodIn wsX4_stir (va_wsS RX4 19 yX4_hoursFor wsX4_hoursFor) := goodIn_app (goodIn_of _ (by decide +kernel)) ggX4_stir_X4_hoursFor
theorem dX4_stir_0 : decode cX4_stir 0 = .ok (.aload_n 0, 1) := by decide +kernel
theorem dX4_stir_1 : decode cX4_stir 1 = .ok (.dup, 1) := by decide +kernel
theorem dX4_stir_2 : decode cX4_stir 2 = .ok (.getfield 16, 3) := by decide +kernel
theorem dX4_stir_5 : decode cX4_stir 5 = .ok (.iload_n 1, 1) := by decide +kernel
theorem dX4_stir_6 : decode cX4_stir 6 = .ok (.invokestatic 19, 3) := by decide +kernel
theorem dX4_stir_9 : decode cX4_stir 9 = .ok (.isub, 1) := by decide +kernel
theorem dX4_stir_10 : decode cX4_stir 10 = .ok (.putfield 16, 3) := by decide +kernel
theorem dX4_stir_13 : decode cX4_stir 13 = .ok (.aload_n 0, 1) := by decide +kernel
theorem dX4_stir_14 : decode cX4_stir 14 = .ok (.dup, 1) := by decide +kernel
theorem dX4_stir_15 : decode cX4_stir 15 = .ok (.getfield 13, 3) := by decide +kernel
theorem dX4_stir_18 : decode cX4_stir 18 = .ok (.iconst 3, 1) := by decide +kernel
theorem dX4_stir_19 : decode cX4_stir 19 = .ok (.iload_n 1, 1) := by decide +kernel
theorem dX4_stir_20 : decode cX4_stir 20 = .ok (.imul, 1) := by decide +kernel
theorem dX4_stir_21 : decode cX4_stir 21 = .ok (.iadd, 1) := by decide +kernel
theorem dX4_stir_22 : decode cX4_stir 22 = .ok (.putfield 13, 3) := by decide +kernel
theorem dX4_stir_25 : decode cX4_stir 25 = .ok (.return_, 1) := by decide +kernel
theorem dX4_drain_0 : decode cX4_drain 0 = .ok (.aload_n 0, 1) := by decide +kernel
theorem dX4_drain_1 : decode cX4_drain 1 = .ok (.dup, 1) := by decide +kernel
theorem dX4_drain_2 : decode cX4_drain 2 = .ok (.getfield 7, 3) := by decide +kernel
theorem dX4_drain_5 : decode cX4_drain 5 = .ok (.iload_n 1, 1) := by decide +kernel
theorem dX4_drain_6 : decode cX4_drain 6 = .ok (.isub, 1) := by decide +kernel
theorem dX4_drain_7 : decode cX4_drain 7 = .ok (.putfield 7, 3) := by decide +kernel
theorem dX4_drain_10 : decode cX4_drain 10 = .ok (.return_, 1) := by decide +kernel
theorem dX4_passNight_0 : decode cX4_passNight 0 = .ok (.aload_n 0, 1) := by decide +kernel
theorem dX4_passNight_1 : decode cX4_passNight 1 = .ok (.iconst 0, 1) := by decide +kernel
theorem dX4_passNight_2 : decode cX4_passNight 2 = .ok (.sipush 1000, 3) := by decide +kernel
theorem dX4_passNight_5 : decode cX4_passNight 5 = .ok (.aload_n 0, 1) := by decide +kernel
theorem dX4_passNight_6 : decode cX4_passNight 6 = .ok (.getfield 7, 3) := by decide +kernel
theorem dX4_passNight_9 : decode cX4_passNight 9 = .ok (.iload_n 1, 1) := by decide +kernel
theorem dX4_passNight_10 : decode cX4_passNight 10 = .ok (.iadd, 1) := by decide +kernel
theorem dX4_passNight_11 : decode cX4_passNight 11 = .ok (.iconst 3, 1) := by decide +kernel
theorem dX4_passNight_12 : decode cX4_passNight 12 = .ok (.isub, 1) := by decide +kernel
theorem dX4_passNight_13 : decode cX4_passNight 13 = .ok (.invokestatic 23, 3) := by decide +kernel
theorem dX4_passNight_16 : decode cX4_passNight 16 = .ok (.invokestatic 29, 3) := by decide +kernel
theorem dX4_passNight_19 : decode cX4_passNight 19 = .ok (.putfield 7, 3) := by decide +kernel
theorem dX4_passNight_22 : decode cX4_passNight 22 = .ok (.aload_n 0, 1) := by decide +kernel
theorem dX4_passNight_23 : decode cX4_passNight 23 = .ok (.iconst 0, 1) := by decide +kernel
theorem dX4_passNight_24 : decode cX4_passNight 24 = .ok (.aload_n 0, 1) := by decide +kernel
theorem dX4_passNight_25 : decode cX4_passNight 25 = .ok (.getfield 13, 3) := by decide +kernel
theorem dX4_passNight_28 : decode cX4_passNight 28 = .ok (.bipush 10, 2) := by decide +kernel
theorem dX4_passNight_30 : decode cX4_passNight 30 = .ok (.isub, 1) := by decide +kernel
theorem dX4_passNight_31 : decode cX4_passNight 31 = .ok (.invokestatic 29, 3) := by decide +kernel
theorem dX4_passNight_34 : decode cX4_passNight 34 = .ok (.putfield 13, 3) := by decide +kernel
theorem dX4_passNight_37 : decode cX4_passNight 37 = .ok (.aload_n 0, 1) := by decide +kernel
theorem dX4_passNight_38 : decode cX4_passNight 38 = .ok (.bipush 20, 2) := by decide +kernel
theorem dX4_passNight_40 : decode cX4_passNight 40 = .ok (.putfield 16, 3) := by decide +kernel
theorem dX4_passNight_43 : decode cX4_passNight 43 = .ok (.return_, 1) := by decide +kernel
theorem dX5_init_0 : decode cX5_init 0 = .ok (.aload_n 0, 1) := by decide +kernel
theorem dX5_init_1 : decode cX5_init 1 = .ok (.invokespecial 3, 3) := by decide +kernel
theorem dX5_init_4 : decode cX5_init 4 = .ok (.aload_n 0, 1) := by decide +kernel
theorem dX5_init_5 : decode cX5_init 5 = .ok (.bipush 100, 2) := by decide +kernel
theorem dX5_init_7 : decode cX5_init 7 = .ok (.putfield 9, 3) := by decide +kernel
theorem dX5_init_10 : decode cX5_init 10 = .ok (.aload_n 0, 1) := by decide +kernel
theorem dX5_init_11 : decode cX5_init 11 = .ok (.iload_n 1, 1) := by decide +kernel
theorem dX5_init_12 : decode cX5_init 12 = .ok (.putfield 15, 3) := by decide +kernel
theorem dX5_init_15 : decode cX5_init 15 = .ok (.aload_n 0, 1) := by decide +kernel
theorem dX5_init_16 : decode cX5_init 16 = .ok (.iload_n 2, 1) := by decide +kernel
theorem dX5_init_17 : decode cX5_init 17 = .ok (.putfield 18, 3) := by decide +kernel
theorem dX5_init_20 : decode cX5_init 20 = .ok (.aload_n 0, 1) := by decide +kernel
theorem dX5_init_21 : decode cX5_init 21 = .ok (.iload_n 1, 1) := by decide +kernel
theorem dX5_init_22 : decode cX5_init 22 = .ok (.iload_n 2, 1) := by decide +kernel
theorem dX5_init_23 : decode cX5_init 23 = .ok (.imul, 1) := by decide +kernel
theorem dX5_init_24 : decode cX5_init 24 = .ok (.newarray .int, 2) := by decide +kernel
theorem dX5_init_26 : decode cX5_init 26 = .ok (.putfield 21, 3) := by decide +kernel
theorem dX5_init_29 : decode cX5_init 29 = .ok (.return_, 1) := by decide +kernel
theorem dX5_charge_0 : decode cX5_charge 0 = .ok (.aload_n 0, 1) := by decide +kernel
theorem dX5_charge_1 : decode cX5_charge 1 = .ok (.iload_n 1, 1) := by decide +kernel
theorem dX5_charge_2 : decode cX5_charge 2 = .ok (.putfield 9, 3) := by decide +kernel
theorem dX5_charge_5 : decode cX5_charge 5 = .ok (.return_, 1) := by decide +kernel
set_option maxRecDepth 20000 in
theorem ggX5_weigh_X1_depthAt : GoodIn wsX5_weigh wsX1_depthAt := goodIn_r _ [9, 10, 11, 49, 50, 51, 52, 53, 54, 55] (by decide +kernel) (by decide +kernel)
set_option maxRecDepth 20000 in
theorem gX5_weigh_X1_depthAt : GoodIn wsX5_weigh (wsV RX5 25 RX1 yX1_depthAt wsX1_depthAt) := goodIn_app (goodIn_of _ (by decide +kernel)) ggX5_weigh_X1_depthAt
set_option maxRecDepth 20000 in
theorem ggX5_weigh_X5_tinBy : GoodIn wsX5_weigh wsX5_tinBy := goodIn_r _ [15, 16, 17, 18, 8, 19, 20, 11, 21, 22, 23, 24, 25, 49, 50, 51, 52, 53, 54, 55] (by decide +kernel) (by decide +kernel)
set_option maxRecDepth 20000 in
theorem gX5_weigh_X5_tinBy : GoodIn wsX5_weigh (va_wsS RX5 31 yX5_tinBy wsX5_tinBy) := goodIn_app (goodIn_of _ (by decide +kernel)) ggX5_weigh_X5_tinBy
set_option maxRecDepth 20000 in
theorem ggX5_weigh_X5_bestBeside : GoodIn wsX5_weigh wsX5_bestBeside := goodIn_r _ [29, 30, 31, 32, 33, 2, 34, 35, 36, 37, 38, 39, 14, 40, 41, 42, 43, 44, 4, 45, 46, 47, 48] (by decide +kernel) (by decide +kernel)
set_option maxRecDepth 20000 in
theorem gX5_weigh_X5_bestBeside : GoodIn wsX5_weigh (wsV RX5 35 RX5 yX5_bestBeside wsX5_bestBeside) := goodIn_app (goodIn_of _ (by decide +kernel)) ggX5_weigh_X5_bestBeside
set_option maxRecDepth 20000 in
theorem ggX5_weigh_X5_sumFrom : GoodIn wsX5_weigh wsX5_sumFrom := goodIn_r _ [44, 4, 2, 45, 46, 47, 48] (by decide +kernel) (by decide +kernel)
set_option maxRecDepth 20000 in
theorem gX5_weigh_X5_sumFrom : GoodIn wsX5_weigh (wsV RX5 38 RX5 yX5_sumFrom wsX5_sumFrom) := goodIn_app (goodIn_of _ (by decide +kernel)) ggX5_weigh_X5_sumFrom
theorem dX5_weigh_0 : decode cX5_weigh 0 = .ok (.aload_n 0, 1) := by decide +kernel
theorem dX5_weigh_1 : decode cX5_weigh 1 = .ok (.getfield 15, 3) := by decide +kernel
theorem dX5_weigh_4 : decode cX5_weigh 4 = .ok (.iconst 1, 1) := by decide +kernel
theorem dX5_weigh_5 : decode cX5_weigh 5 = .ok (.isub, 1) := by decide +kernel
theorem dX5_weigh_6 : decode cX5_weigh 6 = .ok (.istore 4, 2) := by decide +kernel
theorem dX5_weigh_8 : decode cX5_weigh 8 = .ok (.iload 4, 2) := by decide +kernel
theorem dX5_weigh_10 : decode cX5_weigh 10 = .ok (.iload_n 3, 1) := by decide +kernel
theorem dX5_weigh_11 : decode cX5_weigh 11 = .ok (.if_icmp .lt 103, 3) := by decide +kernel
theorem dX5_weigh_14 : decode cX5_weigh 14 = .ok (.iconst 0, 1) := by decide +kernel
theorem dX5_weigh_15 : decode cX5_weigh 15 = .ok (.istore 5, 2) := by decide +kernel
theorem dX5_weigh_17 : decode cX5_weigh 17 = .ok (.iload 5, 2) := by decide +kernel
theorem dX5_weigh_19 : decode cX5_weigh 19 = .ok (.aload_n 0, 1) := by decide +kernel
theorem dX5_weigh_20 : decode cX5_weigh 20 = .ok (.getfield 18, 3) := by decide +kernel
theorem dX5_weigh_23 : decode cX5_weigh 23 = .ok (.if_icmp .ge 85, 3) := by decide +kernel
theorem dX5_weigh_26 : decode cX5_weigh 26 = .ok (.aload_n 1, 1) := by decide +kernel
theorem dX5_weigh_27 : decode cX5_weigh 27 = .ok (.iload 4, 2) := by decide +kernel
theorem dX5_weigh_29 : decode cX5_weigh 29 = .ok (.iload 5, 2) := by decide +kernel
theorem dX5_weigh_31 : decode cX5_weigh 31 = .ok (.invokevirtual 25, 3) := by decide +kernel
theorem dX5_weigh_34 : decode cX5_weigh 34 = .ok (.aload_n 1, 1) := by decide +kernel
theorem dX5_weigh_35 : decode cX5_weigh 35 = .ok (.iload_n 2, 1) := by decide +kernel
theorem dX5_weigh_36 : decode cX5_weigh 36 = .ok (.iload 4, 2) := by decide +kernel
theorem dX5_weigh_38 : decode cX5_weigh 38 = .ok (.iload 5, 2) := by decide +kernel
theorem dX5_weigh_40 : decode cX5_weigh 40 = .ok (.invokestatic 31, 3) := by decide +kernel
theorem dX5_weigh_43 : decode cX5_weigh 43 = .ok (.aload_n 0, 1) := by decide +kernel
theorem dX5_weigh_44 : decode cX5_weigh 44 = .ok (.getfield 9, 3) := by decide +kernel
theorem dX5_weigh_47 : decode cX5_weigh 47 = .ok (.isub, 1) := by decide +kernel
theorem dX5_weigh_48 : decode cX5_weigh 48 = .ok (.imul, 1) := by decide +kernel
theorem dX5_weigh_49 : decode cX5_weigh 49 = .ok (.istore 6, 2) := by decide +kernel
theorem dX5_weigh_51 : decode cX5_weigh 51 = .ok (.iload 4, 2) := by decide +kernel
theorem dX5_weigh_53 : decode cX5_weigh 53 = .ok (.aload_n 0, 1) := by decide +kernel
theorem dX5_weigh_54 : decode cX5_weigh 54 = .ok (.getfield 15, 3) := by decide +kernel
theorem dX5_weigh_57 : decode cX5_weigh 57 = .ok (.iconst 1, 1) := by decide +kernel
theorem dX5_weigh_58 : decode cX5_weigh 58 = .ok (.isub, 1) := by decide +kernel
theorem dX5_weigh_59 : decode cX5_weigh 59 = .ok (.if_icmp .ge 26, 3) := by decide +kernel
theorem dX5_weigh_62 : decode cX5_weigh 62 = .ok (.iload 6, 2) := by decide +kernel
theorem dX5_weigh_64 : decode cX5_weigh 64 = .ok (.aload_n 0, 1) := by decide +kernel
theorem dX5_weigh_65 : decode cX5_weigh 65 = .ok (.iload 4, 2) := by decide +kernel
theorem dX5_weigh_67 : decode cX5_weigh 67 = .ok (.iconst 1, 1) := by decide +kernel
theorem dX5_weigh_68 : decode cX5_weigh 68 = .ok (.iadd, 1) := by decide +kernel
theorem dX5_weigh_69 : decode cX5_weigh 69 = .ok (.aload_n 0, 1) := by decide +kernel
theorem dX5_weigh_70 : decode cX5_weigh 70 = .ok (.iload 4, 2) := by decide +kernel
theorem dX5_weigh_72 : decode cX5_weigh 72 = .ok (.iconst 1, 1) := by decide +kernel
theorem dX5_weigh_73 : decode cX5_weigh 73 = .ok (.iadd, 1) := by decide +kernel
theorem dX5_weigh_74 : decode cX5_weigh 74 = .ok (.iload 5, 2) := by decide +kernel
theorem dX5_weigh_76 : decode cX5_weigh 76 = .ok (.invokevirtual 35, 3) := by decide +kernel
theorem dX5_weigh_79 : decode cX5_weigh 79 = .ok (.invokevirtual 38, 3) := by decide +kernel
theorem dX5_weigh_82 : decode cX5_weigh 82 = .ok (.iadd, 1) := by decide +kernel
theorem dX5_weigh_83 : decode cX5_weigh 83 = .ok (.istore 6, 2) := by decide +kernel
theorem dX5_weigh_85 : decode cX5_weigh 85 = .ok (.aload_n 0, 1) := by decide +kernel
theorem dX5_weigh_86 : decode cX5_weigh 86 = .ok (.getfield 21, 3) := by decide +kernel
theorem dX5_weigh_89 : decode cX5_weigh 89 = .ok (.iload 4, 2) := by decide +kernel
theorem dX5_weigh_91 : decode cX5_weigh 91 = .ok (.aload_n 0, 1) := by decide +kernel
theorem dX5_weigh_92 : decode cX5_weigh 92 = .ok (.getfield 18, 3) := by decide +kernel
theorem dX5_weigh_95 : decode cX5_weigh 95 = .ok (.imul, 1) := by decide +kernel
theorem dX5_weigh_96 : decode cX5_weigh 96 = .ok (.iload 5, 2) := by decide +kernel
theorem dX5_weigh_98 : decode cX5_weigh 98 = .ok (.iadd, 1) := by decide +kernel
theorem dX5_weigh_99 : decode cX5_weigh 99 = .ok (.iload 6, 2) := by decide +kernel
theorem dX5_weigh_101 : decode cX5_weigh 101 = .ok (.iastore, 1) := by decide +kernel
theorem dX5_weigh_102 : decode cX5_weigh 102 = .ok (.iinc 5 1, 3) := by decide +kernel
theorem dX5_weigh_105 : decode cX5_weigh 105 = .ok (.goto (-88), 3) := by decide +kernel
theorem dX5_weigh_108 : decode cX5_weigh 108 = .ok (.iinc 4 (-1), 3) := by decide +kernel
theorem dX5_weigh_111 : decode cX5_weigh 111 = .ok (.goto (-103), 3) := by decide +kernel
theorem dX5_weigh_114 : decode cX5_weigh 114 = .ok (.return_, 1) := by decide +kernel
theorem dX5_sumFrom_0 : decode cX5_sumFrom 0 = .ok (.aload_n 0, 1) := by decide +kernel
theorem dX5_sumFrom_1 : decode cX5_sumFrom 1 = .ok (.getfield 21, 3) := by decide +kernel
theorem dX5_sumFrom_4 : decode cX5_sumFrom 4 = .ok (.iload_n 1, 1) := by decide +kernel
theorem dX5_sumFrom_5 : decode cX5_sumFrom 5 = .ok (.aload_n 0, 1) := by decide +kernel
theorem dX5_sumFrom_6 : decode cX5_sumFrom 6 = .ok (.getfield 18, 3) := by decide +kernel
theorem dX5_sumFrom_9 : decode cX5_sumFrom 9 = .ok (.imul, 1) := by decide +kernel
theorem dX5_sumFrom_10 : decode cX5_sumFrom 10 = .ok (.iload_n 2, 1) := by decide +kernel
theorem dX5_sumFrom_11 : decode cX5_sumFrom 11 = .ok (.iadd, 1) := by decide +kernel
theorem dX5_sumFrom_12 : decode cX5_sumFrom 12 = .ok (.iaload, 1) := by decide +kernel
theorem dX5_sumFrom_13 : decode cX5_sumFrom 13 = .ok (.ireturn, 1) := by decide +kernel
set_option maxRecDepth 20000 in
theorem ggX5_startPlace_X5_bestOf : GoodIn wsX5_startPlace wsX5_bestOf := goodIn_r _ [6, 7, 8, 9, 5, 10, 11, 1, 23, 24, 25, 26] (by decide +kernel) (by decide +kernel)
set_option maxRecDepth 20000 in
theorem gX5_startPlace_X5_bestOf : GoodIn wsX5_startPlace (wsV RX5 41 RX5 yX5_bestOf wsX5_bestOf) := goodIn_app (goodIn_of _ (by decide +kernel)) ggX5_startPlace_X5_bestOf
set_option maxRecDepth 20000 in
theorem ggX5_startPlace_X5_bestBeside : GoodIn wsX5_startPlace wsX5_bestBeside := goodIn_r _ [15, 16, 17, 18, 19, 1, 20, 21, 22, 2, 3, 4, 5, 6, 7, 8, 9, 10, 11, 23, 24, 25, 26] (by decide +kernel) (by decide +kernel)
set_option maxRecDepth 20000 in
theorem gX5_startPlace_X5_bestBeside : GoodIn wsX5_startPlace (wsV RX5 35 RX5 yX5_bestBeside wsX5_bestBeside) := goodIn_app (goodIn_of _ (by decide +kernel)) ggX5_startPlace_X5_bestBeside
theorem dX5_startPlace_0 : decode cX5_startPlace 0 = .ok (.iload_n 2, 1) := by decide +kernel
theorem dX5_startPlace_1 : decode cX5_startPlace 1 = .ok (.iconst (-1), 1) := by decide +kernel
theorem dX5_startPlace_2 : decode cX5_startPlace 2 = .ok (.if_icmp .ne 18, 3) := by decide +kernel
theorem dX5_startPlace_5 : decode cX5_startPlace 5 = .ok (.aload_n 0, 1) := by decide +kernel
theorem dX5_startPlace_6 : decode cX5_startPlace 6 = .ok (.iload_n 1, 1) := by decide +kernel
theorem dX5_startPlace_7 : decode cX5_startPlace 7 = .ok (.iconst 0, 1) := by decide +kernel
theorem dX5_startPlace_8 : decode cX5_startPlace 8 = .ok (.aload_n 0, 1) := by decide +kernel
theorem dX5_startPlace_9 : decode cX5_startPlace 9 = .ok (.getfield 18, 3) := by decide +kernel
theorem dX5_startPlace_12 : decode cX5_startPlace 12 = .ok (.iconst 1, 1) := by decide +kernel
theorem dX5_startPlace_13 : decode cX5_startPlace 13 = .ok (.isub, 1) := by decide +kernel
theorem dX5_startPlace_14 : decode cX5_startPlace 14 = .ok (.invokevirtual 41, 3) := by decide +kernel
theorem dX5_startPlace_17 : decode cX5_startPlace 17 = .ok (.goto 9, 3) := by decide +kernel
theorem dX5_startPlace_20 : decode cX5_startPlace 20 = .ok (.aload_n 0, 1) := by decide +kernel
theorem dX5_startPlace_21 : decode cX5_startPlace 21 = .ok (.iload_n 1, 1) := by decide +kernel
theorem dX5_startPlace_22 : decode cX5_startPlace 22 = .ok (.iload_n 2, 1) := by decide +kernel
theorem dX5_startPlace_23 : decode cX5_startPlace 23 = .ok (.invokevirtual 35, 3) := by decide +kernel
theorem dX5_startPlace_26 : decode cX5_startPlace 26 = .ok (.ireturn, 1) := by decide +kernel
set_option maxRecDepth 20000 in
theorem ggX5_bestBeside_X5_bestOf : GoodIn wsX5_bestBeside wsX5_bestOf := goodIn_r _ [13, 14, 15, 16, 12, 17, 18, 5, 19, 20, 21, 22] (by decide +kernel) (by decide +kernel)
set_option maxRecDepth 20000 in
theorem gX5_bestBeside_X5_bestOf : GoodIn wsX5_bestBeside (wsV RX5 41 RX5 yX5_bestOf wsX5_bestOf) := goodIn_app (goodIn_of _ (by decide +kernel)) ggX5_bestBeside_X5_bestOf
theorem dX5_bestBeside_0 : decode cX5_bestBeside 0 = .ok (.aload_n 0, 1) := by decide +kernel
theorem dX5_bestBeside_1 : decode cX5_bestBeside 1 = .ok (.iload_n 1, 1) := by decide +kernel
theorem dX5_bestBeside_2 : decode cX5_bestBeside 2 = .ok (.iconst 0, 1) := by decide +kernel
theorem dX5_bestBeside_3 : decode cX5_bestBeside 3 = .ok (.iload_n 2, 1) := by decide +kernel
theorem dX5_bestBeside_4 : decode cX5_bestBeside 4 = .ok (.iconst 1, 1) := by decide +kernel
theorem dX5_bestBeside_5 : decode cX5_bestBeside 5 = .ok (.isub, 1) := by decide +kernel
theorem dX5_bestBeside_6 : decode cX5_bestBeside 6 = .ok (.invokestatic 45, 3) := by decide +kernel
theorem dX5_bestBeside_9 : decode cX5_bestBeside 9 = .ok (.aload_n 0, 1) := by decide +kernel
theorem dX5_bestBeside_10 : decode cX5_bestBeside 10 = .ok (.getfield 18, 3) := by decide +kernel
theorem dX5_bestBeside_13 : decode cX5_bestBeside 13 = .ok (.iconst 1, 1) := by decide +kernel
theorem dX5_bestBeside_14 : decode cX5_bestBeside 14 = .ok (.isub, 1) := by decide +kernel
theorem dX5_bestBeside_15 : decode cX5_bestBeside 15 = .ok (.iload_n 2, 1) := by decide +kernel
theorem dX5_bestBeside_16 : decode cX5_bestBeside 16 = .ok (.iconst 1, 1) := by decide +kernel
theorem dX5_bestBeside_17 : decode cX5_bestBeside 17 = .ok (.iadd, 1) := by decide +kernel
theorem dX5_bestBeside_18 : decode cX5_bestBeside 18 = .ok (.invokestatic 50, 3) := by decide +kernel
theorem dX5_bestBeside_21 : decode cX5_bestBeside 21 = .ok (.invokevirtual 41, 3) := by decide +kernel
theorem dX5_bestBeside_24 : decode cX5_bestBeside 24 = .ok (.ireturn, 1) := by decide +kernel
set_option maxRecDepth 20000 in
theorem ggX5_bestOf_X5_sumFrom : GoodIn wsX5_bestOf wsX5_sumFrom := goodIn_r _ [5, 6, 7, 8, 9, 10, 11] (by decide +kernel) (by decide +kernel)
set_option maxRecDepth 20000 in
theorem gX5_bestOf_X5_sumFrom : GoodIn wsX5_bestOf (wsV RX5 38 RX5 yX5_sumFrom wsX5_sumFrom) := goodIn_app (goodIn_of _ (by decide +kernel)) ggX5_bestOf_X5_sumFrom
theorem dX5_bestOf_0 : decode cX5_bestOf 0 = .ok (.iload_n 2, 1) := by decide +kernel
theorem dX5_bestOf_1 : decode cX5_bestOf 1 = .ok (.istore 4, 2) := by decide +kernel
theorem dX5_bestOf_3 : decode cX5_bestOf 3 = .ok (.iload_n 2, 1) := by decide +kernel
theorem dX5_bestOf_4 : decode cX5_bestOf 4 = .ok (.iconst 1, 1) := by decide +kernel
theorem dX5_bestOf_5 : decode cX5_bestOf 5 = .ok (.iadd, 1) := by decide +kernel
theorem dX5_bestOf_6 : decode cX5_bestOf 6 = .ok (.istore 5, 2) := by decide +kernel
theorem dX5_bestOf_8 : decode cX5_bestOf 8 = .ok (.iload 5, 2) := by decide +kernel
theorem dX5_bestOf_10 : decode cX5_bestOf 10 = .ok (.iload_n 3, 1) := by decide +kernel
theorem dX5_bestOf_11 : decode cX5_bestOf 11 = .ok (.if_icmp .gt 30, 3) := by decide +kernel
theorem dX5_bestOf_14 : decode cX5_bestOf 14 = .ok (.aload_n 0, 1) := by decide +kernel
theorem dX5_bestOf_15 : decode cX5_bestOf 15 = .ok (.iload_n 1, 1) := by decide +kernel
theorem dX5_bestOf_16 : decode cX5_bestOf 16 = .ok (.iload 5, 2) := by decide +kernel
theorem dX5_bestOf_18 : decode cX5_bestOf 18 = .ok (.invokevirtual 38, 3) := by decide +kernel
theorem dX5_bestOf_21 : decode cX5_bestOf 21 = .ok (.aload_n 0, 1) := by decide +kernel
theorem dX5_bestOf_22 : decode cX5_bestOf 22 = .ok (.iload_n 1, 1) := by decide +kernel
theorem dX5_bestOf_23 : decode cX5_bestOf 23 = .ok (.iload 4, 2) := by decide +kernel
theorem dX5_bestOf_25 : decode cX5_bestOf 25 = .ok (.invokevirtual 38, 3) := by decide +kernel
theorem dX5_bestOf_28 : decode cX5_bestOf 28 = .ok (.if_icmp .le 7, 3) := by decide +kernel
theorem dX5_bestOf_31 : decode cX5_bestOf 31 = .ok (.iload 5, 2) := by decide +kernel
theorem dX5_bestOf_33 : decode cX5_bestOf 33 = .ok (.istore 4, 2) := by decide +kernel
theorem dX5_bestOf_35 : decode cX5_bestOf 35 = .ok (.iinc 5 1, 3) := by decide +kernel
theorem dX5_bestOf_38 : decode cX5_bestOf 38 = .ok (.goto (-30), 3) := by decide +kernel
theorem dX5_bestOf_41 : decode cX5_bestOf 41 = .ok (.iload 4, 2) := by decide +kernel
theorem dX5_bestOf_43 : decode cX5_bestOf 43 = .ok (.ireturn, 1) := by decide +kernel
set_option maxRecDepth 20000 in
theorem ggX5_tinBy_X1_leastAt : GoodIn wsX5_tinBy wsX1_leastAt := goodIn_r _ [5, 6, 7, 13, 14, 15, 16, 17, 18, 19] (by decide +kernel) (by decide +kernel)
set_option maxRecDepth 20000 in
theorem gX5_tinBy_X1_leastAt : GoodIn wsX5_tinBy (wsV RX5 53 RX1 yX1_leastAt wsX1_leastAt) := goodIn_app (goodIn_of _ (by decide +kernel)) ggX5_tinBy_X1_leastAt
set_option maxRecDepth 20000 in
theorem ggX5_tinBy_X1_greatestAt : GoodIn wsX5_tinBy wsX1_greatestAt := goodIn_r _ [11, 12, 7, 13, 14, 15, 16, 17, 18, 19] (by decide +kernel) (by decide +kernel)
set_option maxRecDepth 20000 in
theorem gX5_tinBy_X1_greatestAt : GoodIn wsX5_tinBy (wsV RX5 56 RX1 yX1_greatestAt wsX1_greatestAt) := goodIn_app (goodIn_of _ (by decide +kernel)) ggX5_tinBy_X1_greatestAt
theorem dX5_tinBy_0 : decode cX5_tinBy 0 = .ok (.iload_n 1, 1) := by decide +kernel
theorem dX5_tinBy_1 : decode cX5_tinBy 1 = .ok (.lookupswitch 41 #[(0, 27), (1, 34)], 27) := by decide +kernel
theorem dX5_tinBy_28 : decode cX5_tinBy 28 = .ok (.aload_n 0, 1) := by decide +kernel
theorem dX5_tinBy_29 : decode cX5_tinBy 29 = .ok (.iload_n 2, 1) := by decide +kernel
theorem dX5_tinBy_30 : decode cX5_tinBy 30 = .ok (.iload_n 3, 1) := by decide +kernel
theorem dX5_tinBy_31 : decode cX5_tinBy 31 = .ok (.invokevirtual 53, 3) := by decide +kernel
theorem dX5_tinBy_34 : decode cX5_tinBy 34 = .ok (.ireturn, 1) := by decide +kernel
theorem dX5_tinBy_35 : decode cX5_tinBy 35 = .ok (.aload_n 0, 1) := by decide +kernel
theorem dX5_tinBy_36 : decode cX5_tinBy 36 = .ok (.iload_n 2, 1) := by decide +kernel
theorem dX5_tinBy_37 : decode cX5_tinBy 37 = .ok (.iload_n 3, 1) := by decide +kernel
theorem dX5_tinBy_38 : decode cX5_tinBy 38 = .ok (.invokevirtual 56, 3) := by decide +kernel
theorem dX5_tinBy_41 : decode cX5_tinBy 41 = .ok (.ireturn, 1) := by decide +kernel
theorem dX5_tinBy_42 : decode cX5_tinBy 42 = .ok (.aload_n 0, 1) := by decide +kernel
theorem dX5_tinBy_43 : decode cX5_tinBy 43 = .ok (.iload_n 2, 1) := by decide +kernel
theorem dX5_tinBy_44 : decode cX5_tinBy 44 = .ok (.iload_n 3, 1) := by decide +kernel
theorem dX5_tinBy_45 : decode cX5_tinBy 45 = .ok (.invokevirtual 53, 3) := by decide +kernel
theorem dX5_tinBy_48 : decode cX5_tinBy 48 = .ok (.aload_n 0, 1) := by decide +kernel
theorem dX5_tinBy_49 : decode cX5_tinBy 49 = .ok (.iload_n 2, 1) := by decide +kernel
theorem dX5_tinBy_50 : decode cX5_tinBy 50 = .ok (.iload_n 3, 1) := by decide +kernel
theorem dX5_tinBy_51 : decode cX5_tinBy 51 = .ok (.invokevirtual 56, 3) := by decide +kernel
theorem dX5_tinBy_54 : decode cX5_tinBy 54 = .ok (.iadd, 1) := by decide +kernel
theorem dX5_tinBy_55 : decode cX5_tinBy 55 = .ok (.iconst 2, 1) := by decide +kernel
theorem dX5_tinBy_56 : decode cX5_tinBy 56 = .ok (.idiv, 1) := by decide +kernel
theorem dX5_tinBy_57 : decode cX5_tinBy 57 = .ok (.ireturn, 1) := by decide +kernel
theorem dX6_init_0 : decode cX6_init 0 = .ok (.aload_n 0, 1) := by decide +kernel
theorem dX6_init_1 : decode cX6_init 1 = .ok (.invokespecial 3, 3) := by decide +kernel
theorem dX6_init_4 : decode cX6_init 4 = .ok (.aload_n 0, 1) := by decide +kernel
theorem dX6_init_5 : decode cX6_init 5 = .ok (.iconst 0, 1) := by decide +kernel
theorem dX6_init_6 : decode cX6_init 6 = .ok (.putfield 9, 3) := by decide +kernel
theorem dX6_init_9 : decode cX6_init 9 = .ok (.aload_n 0, 1) := by decide +kernel
theorem dX6_init_10 : decode cX6_init 10 = .ok (.iconst 0, 1) := by decide +kernel
theorem dX6_init_11 : decode cX6_init 11 = .ok (.putfield 15, 3) := by decide +kernel
theorem dX6_init_14 : decode cX6_init 14 = .ok (.aload_n 0, 1) := by decide +kernel
theorem dX6_init_15 : decode cX6_init 15 = .ok (.iload_n 1, 1) := by decide +kernel
theorem dX6_init_16 : decode cX6_init 16 = .ok (.newarray .int, 2) := by decide +kernel
theorem dX6_init_18 : decode cX6_init 18 = .ok (.putfield 18, 3) := by decide +kernel
theorem dX6_init_21 : decode cX6_init 21 = .ok (.aload_n 0, 1) := by decide +kernel
theorem dX6_init_22 : decode cX6_init 22 = .ok (.iload_n 1, 1) := by decide +kernel
theorem dX6_init_23 : decode cX6_init 23 = .ok (.newarray .int, 2) := by decide +kernel
theorem dX6_init_25 : decode cX6_init 25 = .ok (.putfield 22, 3) := by decide +kernel
theorem dX6_init_28 : decode cX6_init 28 = .ok (.aload_n 0, 1) := by decide +kernel
theorem dX6_init_29 : decode cX6_init 29 = .ok (.iload_n 1, 1) := by decide +kernel
theorem dX6_init_30 : decode cX6_init 30 = .ok (.newarray .boolean, 2) := by decide +kernel
theorem dX6_init_32 : decode cX6_init 32 = .ok (.putfield 25, 3) := by decide +kernel
theorem dX6_init_35 : decode cX6_init 35 = .ok (.aload_n 0, 1) := by decide +kernel
theorem dX6_init_36 : decode cX6_init 36 = .ok (.iload_n 1, 1) := by decide +kernel
theorem dX6_init_37 : decode cX6_init 37 = .ok (.newarray .boolean, 2) := by decide +kernel
theorem dX6_init_39 : decode cX6_init 39 = .ok (.putfield 29, 3) := by decide +kernel
theorem dX6_init_42 : decode cX6_init 42 = .ok (.return_, 1) := by decide +kernel
theorem dX6_nextRow_0 : decode cX6_nextRow 0 = .ok (.aload_n 0, 1) := by decide +kernel
theorem dX6_nextRow_1 : decode cX6_nextRow 1 = .ok (.getfield 9, 3) := by decide +kernel
theorem dX6_nextRow_4 : decode cX6_nextRow 4 = .ok (.ireturn, 1) := by decide +kernel
theorem dX6_dredgeRow_0 : decode cX6_dredgeRow 0 = .ok (.aload_n 0, 1) := by decide +kernel
theorem dX6_dredgeRow_1 : decode cX6_dredgeRow 1 = .ok (.getfield 9, 3) := by decide +kernel
theorem dX6_dredgeRow_4 : decode cX6_dredgeRow 4 = .ok (.ifCond .le 12, 3) := by decide +kernel
theorem dX6_dredgeRow_7 : decode cX6_dredgeRow 7 = .ok (.aload_n 0, 1) := by decide +kernel
theorem dX6_dredgeRow_8 : decode cX6_dredgeRow 8 = .ok (.getfield 9, 3) := by decide +kernel
theorem dX6_dredgeRow_11 : decode cX6_dredgeRow 11 = .ok (.iconst 1, 1) := by decide +kernel
theorem dX6_dredgeRow_12 : decode cX6_dredgeRow 12 = .ok (.isub, 1) := by decide +kernel
theorem dX6_dredgeRow_13 : decode cX6_dredgeRow 13 = .ok (.goto 4, 3) := by decide +kernel
theorem dX6_dredgeRow_16 : decode cX6_dredgeRow 16 = .ok (.iconst (-1), 1) := by decide +kernel
theorem dX6_dredgeRow_17 : decode cX6_dredgeRow 17 = .ok (.ireturn, 1) := by decide +kernel
theorem dX6_dredgePlace_0 : decode cX6_dredgePlace 0 = .ok (.aload_n 0, 1) := by decide +kernel
theorem dX6_dredgePlace_1 : decode cX6_dredgePlace 1 = .ok (.getfield 9, 3) := by decide +kernel
theorem dX6_dredgePlace_4 : decode cX6_dredgePlace 4 = .ok (.ifCond .le 17, 3) := by decide +kernel
theorem dX6_dredgePlace_7 : decode cX6_dredgePlace 7 = .ok (.aload_n 0, 1) := by decide +kernel
theorem dX6_dredgePlace_8 : decode cX6_dredgePlace 8 = .ok (.getfield 18, 3) := by decide +kernel
theorem dX6_dredgePlace_11 : decode cX6_dredgePlace 11 = .ok (.aload_n 0, 1) := by decide +kernel
theorem dX6_dredgePlace_12 : decode cX6_dredgePlace 12 = .ok (.getfield 9, 3) := by decide +kernel
theorem dX6_dredgePlace_15 : decode cX6_dredgePlace 15 = .ok (.iconst 1, 1) := by decide +kernel
theorem dX6_dredgePlace_16 : decode cX6_dredgePlace 16 = .ok (.isub, 1) := by decide +kernel
theorem dX6_dredgePlace_17 : decode cX6_dredgePlace 17 = .ok (.iaload, 1) := by decide +kernel
theorem dX6_dredgePlace_18 : decode cX6_dredgePlace 18 = .ok (.goto 4, 3) := by decide +kernel
theorem dX6_dredgePlace_21 : decode cX6_dredgePlace 21 = .ok (.iconst (-1), 1) := by decide +kernel
theorem dX6_dredgePlace_22 : decode cX6_dredgePlace 22 = .ok (.ireturn, 1) := by decide +kernel
set_option maxRecDepth 20000 in
theorem ggX6_reaches_X6_dredgePlace : GoodIn wsX6_reaches wsX6_dredgePlace := goodIn_r _ [10, 1, 11, 12, 13, 14, 15, 16, 17] (by decide +kernel) (by decide +kernel)
set_option maxRecDepth 20000 in
theorem gX6_reaches_X6_dredgePlace : GoodIn wsX6_reaches (wsV RX6 32 RX6 yX6_dredgePlace wsX6_dredgePlace) := goodIn_app (goodIn_of _ (by decide +kernel)) ggX6_reaches_X6_dredgePlace
theorem dX6_reaches_0 : decode cX6_reaches 0 = .ok (.aload_n 0, 1) := by decide +kernel
theorem dX6_reaches_1 : decode cX6_reaches 1 = .ok (.getfield 9, 3) := by decide +kernel
theorem dX6_reaches_4 : decode cX6_reaches 4 = .ok (.ifCond .eq 16, 3) := by decide +kernel
theorem dX6_reaches_7 : decode cX6_reaches 7 = .ok (.iload_n 1, 1) := by decide +kernel
theorem dX6_reaches_8 : decode cX6_reaches 8 = .ok (.aload_n 0, 1) := by decide +kernel
theorem dX6_reaches_9 : decode cX6_reaches 9 = .ok (.invokevirtual 32, 3) := by decide +kernel
theorem dX6_reaches_12 : decode cX6_reaches 12 = .ok (.isub, 1) := by decide +kernel
theorem dX6_reaches_13 : decode cX6_reaches 13 = .ok (.invokestatic 36, 3) := by decide +kernel
theorem dX6_reaches_16 : decode cX6_reaches 16 = .ok (.iconst 1, 1) := by decide +kernel
theorem dX6_reaches_17 : decode cX6_reaches 17 = .ok (.if_icmp .gt 7, 3) := by decide +kernel
theorem dX6_reaches_20 : decode cX6_reaches 20 = .ok (.iconst 1, 1) := by decide +kernel
theorem dX6_reaches_21 : decode cX6_reaches 21 = .ok (.goto 4, 3) := by decide +kernel
theorem dX6_reaches_24 : decode cX6_reaches 24 = .ok (.iconst 0, 1) := by decide +kernel
theorem dX6_reaches_25 : decode cX6_reaches 25 = .ok (.ireturn, 1) := by decide +kernel
set_option maxRecDepth 20000 in
theorem ggX6_isDug_X7_within : GoodIn wsX6_isDug wsX7_within := goodIn_r _ [5] (by decide +kernel) (by decide +kernel)
set_option maxRecDepth 20000 in
theorem gX6_isDug_X7_within_n42 : GoodIn wsX6_isDug (wsX7_within) := ggX6_isDug_X7_within
theorem dX6_isDug_0 : decode cX6_isDug 0 = .ok (.iload_n 1, 1) := by decide +kernel
theorem dX6_isDug_1 : decode cX6_isDug 1 = .ok (.iconst 0, 1) := by decide +kernel
theorem dX6_isDug_2 : decode cX6_isDug 2 = .ok (.aload_n 0, 1) := by decide +kernel
theorem dX6_isDug_3 : decode cX6_isDug 3 = .ok (.getfield 9, 3) := by decide +kernel
theorem dX6_isDug_6 : decode cX6_isDug 6 = .ok (.iconst 1, 1) := by decide +kernel
theorem dX6_isDug_7 : decode cX6_isDug 7 = .ok (.isub, 1) := by decide +kernel
theorem dX6_isDug_8 : decode cX6_isDug 8 = .ok (.invokestatic 42, 3) := by decide +kernel
theorem dX6_isDug_11 : decode cX6_isDug 11 = .ok (.ifCond .eq 17, 3) := by decide +kernel
theorem dX6_isDug_14 : decode cX6_isDug 14 = .ok (.aload_n 0, 1) := by decide +kernel
theorem dX6_isDug_15 : decode cX6_isDug 15 = .ok (.getfield 18, 3) := by decide +kernel
theorem dX6_isDug_18 : decode cX6_isDug 18 = .ok (.iload_n 1, 1) := by decide +kernel
theorem dX6_isDug_19 : decode cX6_isDug 19 = .ok (.iaload, 1) := by decide +kernel
theorem dX6_isDug_20 : decode cX6_isDug 20 = .ok (.iload_n 2, 1) := by decide +kernel
theorem dX6_isDug_21 : decode cX6_isDug 21 = .ok (.if_icmp .ne 7, 3) := by decide +kernel
theorem dX6_isDug_24 : decode cX6_isDug 24 = .ok (.iconst 1, 1) := by decide +kernel
theorem dX6_isDug_25 : decode cX6_isDug 25 = .ok (.goto 4, 3) := by decide +kernel
theorem dX6_isDug_28 : decode cX6_isDug 28 = .ok (.iconst 0, 1) := by decide +kernel
theorem dX6_isDug_29 : decode cX6_isDug 29 = .ok (.ireturn, 1) := by decide +kernel
set_option maxRecDepth 20000 in
theorem ggX6_isLaidBack_X6_isDug : GoodIn wsX6_isLaidBack wsX6_isDug := goodIn_r _ [6, 7, 8, 9, 10, 11, 12, 13, 14, 15, 16, 17] (by decide +kernel) (by decide +kernel)
set_option maxRecDepth 20000 in
theorem gX6_isLaidBack_X6_isDug : GoodIn wsX6_isLaidBack (wsV RX6 46 RX6 yX6_isDug wsX6_isDug) := goodIn_app (goodIn_of _ (by decide +kernel)) ggX6_isLaidBack_X6_isDug
theorem dX6_isLaidBack_0 : decode cX6_isLaidBack 0 = .ok (.aload_n 0, 1) := by decide +kernel
theorem dX6_isLaidBack_1 : decode cX6_isLaidBack 1 = .ok (.iload_n 1, 1) := by decide +kernel
theorem dX6_isLaidBack_2 : decode cX6_isLaidBack 2 = .ok (.iload_n 2, 1) := by decide +kernel
theorem dX6_isLaidBack_3 : decode cX6_isLaidBack 3 = .ok (.invokevirtual 46, 3) := by decide +kernel
theorem dX6_isLaidBack_6 : decode cX6_isLaidBack 6 = .ok (.ifCond .eq 16, 3) := by decide +kernel
theorem dX6_isLaidBack_9 : decode cX6_isLaidBack 9 = .ok (.aload_n 0, 1) := by decide +kernel
theorem dX6_isLaidBack_10 : decode cX6_isLaidBack 10 = .ok (.getfield 25, 3) := by decide +kernel
theorem dX6_isLaidBack_13 : decode cX6_isLaidBack 13 = .ok (.iload_n 1, 1) := by decide +kernel
theorem dX6_isLaidBack_14 : decode cX6_isLaidBack 14 = .ok (.baload, 1) := by decide +kernel
theorem dX6_isLaidBack_15 : decode cX6_isLaidBack 15 = .ok (.ifCond .eq 7, 3) := by decide +kernel
theorem dX6_isLaidBack_18 : decode cX6_isLaidBack 18 = .ok (.iconst 1, 1) := by decide +kernel
theorem dX6_isLaidBack_19 : decode cX6_isLaidBack 19 = .ok (.goto 4, 3) := by decide +kernel
theorem dX6_isLaidBack_22 : decode cX6_isLaidBack 22 = .ok (.iconst 0, 1) := by decide +kernel
theorem dX6_isLaidBack_23 : decode cX6_isLaidBack 23 = .ok (.ireturn, 1) := by decide +kernel
theorem dX6_laidBackCount_0 : decode cX6_laidBackCount 0 = .ok (.aload_n 0, 1) := by decide +kernel
theorem dX6_laidBackCount_1 : decode cX6_laidBackCount 1 = .ok (.getfield 15, 3) := by decide +kernel
theorem dX6_laidBackCount_4 : decode cX6_laidBackCount 4 = .ok (.ireturn, 1) := by decide +kernel
theorem dX6_goTo_0 : decode cX6_goTo 0 = .ok (.aload_n 0, 1) := by decide +kernel
theorem dX6_goTo_1 : decode cX6_goTo 1 = .ok (.getfield 9, 3) := by decide +kernel
theorem dX6_goTo_4 : decode cX6_goTo 4 = .ok (.aload_n 0, 1) := by decide +kernel
theorem dX6_goTo_5 : decode cX6_goTo 5 = .ok (.getfield 18, 3) := by decide +kernel
theorem dX6_goTo_8 : decode cX6_goTo 8 = .ok (.arraylength, 1) := by decide +kernel
theorem dX6_goTo_9 : decode cX6_goTo 9 = .ok (.if_icmp .ge 33, 3) := by decide +kernel
theorem dX6_goTo_12 : decode cX6_goTo 12 = .ok (.aload_n 0, 1) := by decide +kernel
theorem dX6_goTo_13 : decode cX6_goTo 13 = .ok (.getfield 18, 3) := by decide +kernel
theorem dX6_goTo_16 : decode cX6_goTo 16 = .ok (.aload_n 0, 1) := by decide +kernel
theorem dX6_goTo_17 : decode cX6_goTo 17 = .ok (.getfield 9, 3) := by decide +kernel
theorem dX6_goTo_20 : decode cX6_goTo 20 = .ok (.iload_n 1, 1) := by decide +kernel
theorem dX6_goTo_21 : decode cX6_goTo 21 = .ok (.iastore, 1) := by decide +kernel
theorem dX6_goTo_22 : decode cX6_goTo 22 = .ok (.aload_n 0, 1) := by decide +kernel
theorem dX6_goTo_23 : decode cX6_goTo 23 = .ok (.getfield 22, 3) := by decide +kernel
theorem dX6_goTo_26 : decode cX6_goTo 26 = .ok (.aload_n 0, 1) := by decide +kernel
theorem dX6_goTo_27 : decode cX6_goTo 27 = .ok (.getfield 9, 3) := by decide +kernel
theorem dX6_goTo_30 : decode cX6_goTo 30 = .ok (.iload_n 2, 1) := by decide +kernel
theorem dX6_goTo_31 : decode cX6_goTo 31 = .ok (.iastore, 1) := by decide +kernel
theorem dX6_goTo_32 : decode cX6_goTo 32 = .ok (.aload_n 0, 1) := by decide +kernel
theorem dX6_goTo_33 : decode cX6_goTo 33 = .ok (.dup, 1) := by decide +kernel
theorem dX6_goTo_34 : decode cX6_goTo 34 = .ok (.getfield 9, 3) := by decide +kernel
theorem dX6_goTo_37 : decode cX6_goTo 37 = .ok (.iconst 1, 1) := by decide +kernel
theorem dX6_goTo_38 : decode cX6_goTo 38 = .ok (.iadd, 1) := by decide +kernel
theorem dX6_goTo_39 : decode cX6_goTo 39 = .ok (.putfield 9, 3) := by decide +kernel
theorem dX6_goTo_42 : decode cX6_goTo 42 = .ok (.return_, 1) := by decide +kernel
set_option maxRecDepth 20000 in
theorem ggX6_layBack_X6_isDug : GoodIn wsX6_layBack wsX6_isDug := goodIn_r _ [7, 8, 9, 10, 11, 12, 17, 18, 19, 20, 21, 22] (by decide +kernel) (by decide +kernel)
set_option maxRecDepth 20000 in
theorem gX6_layBack_X6_isDug : GoodIn wsX6_layBack (wsV RX6 46 RX6 yX6_isDug wsX6_isDug) := goodIn_app (goodIn_of _ (by decide +kernel)) ggX6_layBack_X6_isDug
set_option maxRecDepth 20000 in
theorem ggX6_layBack_X6_dredgeRow : GoodIn wsX6_layBack wsX6_dredgeRow := goodIn_r _ [16, 8, 17, 18, 19, 20, 21, 22] (by decide +kernel) (by decide +kernel)
set_option maxRecDepth 20000 in
theorem gX6_layBack_X6_dredgeRow : GoodIn wsX6_layBack (wsV RX6 50 RX6 yX6_dredgeRow wsX6_dredgeRow) := goodIn_app (goodIn_of _ (by decide +kernel)) ggX6_layBack_X6_dredgeRow
theorem dX6_layBack_0 : decode cX6_layBack 0 = .ok (.aload_n 0, 1) := by decide +kernel
theorem dX6_layBack_1 : decode cX6_layBack 1 = .ok (.iload_n 1, 1) := by decide +kernel
theorem dX6_layBack_2 : decode cX6_layBack 2 = .ok (.iload_n 2, 1) := by decide +kernel
theorem dX6_layBack_3 : decode cX6_layBack 3 = .ok (.invokevirtual 46, 3) := by decide +kernel
theorem dX6_layBack_6 : decode cX6_layBack 6 = .ok (.ifCond .eq 22, 3) := by decide +kernel
theorem dX6_layBack_9 : decode cX6_layBack 9 = .ok (.aload_n 0, 1) := by decide +kernel
theorem dX6_layBack_10 : decode cX6_layBack 10 = .ok (.getfield 25, 3) := by decide +kernel
theorem dX6_layBack_13 : decode cX6_layBack 13 = .ok (.iload_n 1, 1) := by decide +kernel
theorem dX6_layBack_14 : decode cX6_layBack 14 = .ok (.baload, 1) := by decide +kernel
theorem dX6_layBack_15 : decode cX6_layBack 15 = .ok (.ifCond .ne 13, 3) := by decide +kernel
theorem dX6_layBack_18 : decode cX6_layBack 18 = .ok (.aload_n 0, 1) := by decide +kernel
theorem dX6_layBack_19 : decode cX6_layBack 19 = .ok (.invokevirtual 50, 3) := by decide +kernel
theorem dX6_layBack_22 : decode cX6_layBack 22 = .ok (.iload_n 1, 1) := by decide +kernel
theorem dX6_layBack_23 : decode cX6_layBack 23 = .ok (.isub, 1) := by decide +kernel
theorem dX6_layBack_24 : decode cX6_layBack 24 = .ok (.iconst 3, 1) := by decide +kernel
theorem dX6_layBack_25 : decode cX6_layBack 25 = .ok (.if_icmp .ge 5, 3) := by decide +kernel
theorem dX6_layBack_28 : decode cX6_layBack 28 = .ok (.iconst 0, 1) := by decide +kernel
