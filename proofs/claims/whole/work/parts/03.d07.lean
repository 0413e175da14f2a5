theorem dX8_day_63 : decode cX8_day 63 = .ok (.sipush 160, 3) := by decide +kernel
theorem dX8_day_66 : decode cX8_day 66 = .ok (.if_icmp .ge 80, 3) := by decide +kernel
theorem dX8_day_69 : decode cX8_day 69 = .ok (.aload_n 0, 1) := by decide +kernel
theorem dX8_day_70 : decode cX8_day 70 = .ok (.getfield 23, 3) := by decide +kernel
theorem dX8_day_73 : decode cX8_day 73 = .ok (.iload_n 2, 1) := by decide +kernel
theorem dX8_day_74 : decode cX8_day 74 = .ok (.baload, 1) := by decide +kernel
theorem dX8_day_75 : decode cX8_day 75 = .ok (.ifCond .eq 65, 3) := by decide +kernel
theorem dX8_day_78 : decode cX8_day 78 = .ok (.aload_n 0, 1) := by decide +kernel
theorem dX8_day_79 : decode cX8_day 79 = .ok (.getfield 26, 3) := by decide +kernel
theorem dX8_day_82 : decode cX8_day 82 = .ok (.iload_n 2, 1) := by decide +kernel
theorem dX8_day_83 : decode cX8_day 83 = .ok (.baload, 1) := by decide +kernel
theorem dX8_day_84 : decode cX8_day 84 = .ok (.ifCond .ne 56, 3) := by decide +kernel
theorem dX8_day_87 : decode cX8_day 87 = .ok (.aload_n 0, 1) := by decide +kernel
theorem dX8_day_88 : decode cX8_day 88 = .ok (.getfield 29, 3) := by decide +kernel
theorem dX8_day_91 : decode cX8_day 91 = .ok (.iload_n 2, 1) := by decide +kernel
theorem dX8_day_92 : decode cX8_day 92 = .ok (.baload, 1) := by decide +kernel
theorem dX8_day_93 : decode cX8_day 93 = .ok (.ifCond .ne 47, 3) := by decide +kernel
theorem dX8_day_96 : decode cX8_day 96 = .ok (.aload_n 0, 1) := by decide +kernel
theorem dX8_day_97 : decode cX8_day 97 = .ok (.getfield 135, 3) := by decide +kernel
theorem dX8_day_100 : decode cX8_day 100 = .ok (.aload_n 0, 1) := by decide +kernel
theorem dX8_day_101 : decode cX8_day 101 = .ok (.getfield 16, 3) := by decide +kernel
theorem dX8_day_104 : decode cX8_day 104 = .ok (.iload_n 2, 1) := by decide +kernel
theorem dX8_day_105 : decode cX8_day 105 = .ok (.iaload, 1) := by decide +kernel
theorem dX8_day_106 : decode cX8_day 106 = .ok (.isub, 1) := by decide +kernel
theorem dX8_day_107 : decode cX8_day 107 = .ok (.aload_n 0, 1) := by decide +kernel
theorem dX8_day_108 : decode cX8_day 108 = .ok (.iconst 4, 1) := by decide +kernel
theorem dX8_day_109 : decode cX8_day 109 = .ok (.invokevirtual 126, 3) := by decide +kernel
theorem dX8_day_112 : decode cX8_day 112 = .ok (.if_icmp .gt 6, 3) := by decide +kernel
theorem dX8_day_115 : decode cX8_day 115 = .ok (.goto 25, 3) := by decide +kernel
theorem dX8_day_118 : decode cX8_day 118 = .ok (.aload_n 0, 1) := by decide +kernel
theorem dX8_day_119 : decode cX8_day 119 = .ok (.getfield 29, 3) := by decide +kernel
theorem dX8_day_122 : decode cX8_day 122 = .ok (.iload_n 2, 1) := by decide +kernel
theorem dX8_day_123 : decode cX8_day 123 = .ok (.iconst 1, 1) := by decide +kernel
theorem dX8_day_124 : decode cX8_day 124 = .ok (.bastore, 1) := by decide +kernel
theorem dX8_day_125 : decode cX8_day 125 = .ok (.aload_n 0, 1) := by decide +kernel
theorem dX8_day_126 : decode cX8_day 126 = .ok (.dup, 1) := by decide +kernel
theorem dX8_day_127 : decode cX8_day 127 = .ok (.getfield 144, 3) := by decide +kernel
theorem dX8_day_130 : decode cX8_day 130 = .ok (.aload_n 0, 1) := by decide +kernel
theorem dX8_day_131 : decode cX8_day 131 = .ok (.bipush 6, 2) := by decide +kernel
theorem dX8_day_133 : decode cX8_day 133 = .ok (.invokevirtual 126, 3) := by decide +kernel
theorem dX8_day_136 : decode cX8_day 136 = .ok (.iadd, 1) := by decide +kernel
theorem dX8_day_137 : decode cX8_day 137 = .ok (.putfield 144, 3) := by decide +kernel
theorem dX8_day_140 : decode cX8_day 140 = .ok (.iinc 2 1, 3) := by decide +kernel
theorem dX8_day_143 : decode cX8_day 143 = .ok (.goto (-81), 3) := by decide +kernel
theorem dX8_day_146 : decode cX8_day 146 = .ok (.aload_n 0, 1) := by decide +kernel
theorem dX8_day_147 : decode cX8_day 147 = .ok (.bipush 20, 2) := by decide +kernel
theorem dX8_day_149 : decode cX8_day 149 = .ok (.putfield 45, 3) := by decide +kernel
theorem dX8_day_152 : decode cX8_day 152 = .ok (.aload_n 0, 1) := by decide +kernel
theorem dX8_day_153 : decode cX8_day 153 = .ok (.dup, 1) := by decide +kernel
theorem dX8_day_154 : decode cX8_day 154 = .ok (.getfield 135, 3) := by decide +kernel
theorem dX8_day_157 : decode cX8_day 157 = .ok (.iconst 1, 1) := by decide +kernel
theorem dX8_day_158 : decode cX8_day 158 = .ok (.iadd, 1) := by decide +kernel
theorem dX8_day_159 : decode cX8_day 159 = .ok (.putfield 135, 3) := by decide +kernel
theorem dX8_day_162 : decode cX8_day 162 = .ok (.aload_n 0, 1) := by decide +kernel
theorem dX8_day_163 : decode cX8_day 163 = .ok (.getfield 135, 3) := by decide +kernel
theorem dX8_day_166 : decode cX8_day 166 = .ok (.ireturn, 1) := by decide +kernel
set_option maxRecDepth 20000 in
theorem ggX8_back_X8_isSquare : GoodIn wsX8_back wsX8_isSquare := goodIn_r _ [8, 9, 10, 11, 12, 7, 13, 14, 15, 16, 17, 18, 19, 20, 21, 22, 23, 24, 25, 26, 27, 28, 29, 30, 31, 32, 33, 34, 35, 36, 37, 38, 39, 40, 41, 42, 43, 44, 45, 46, 47] (by decide +kernel) (by decide +kernel)
set_option maxRecDepth 20000 in
theorem gX8_back_X8_isSquare : GoodIn wsX8_back (wsV RX8 95 RX8 yX8_isSquare wsX8_isSquare) := goodIn_app (goodIn_of _ (by decide +kernel)) ggX8_back_X8_isSquare
theorem dX8_back_0 : decode cX8_back 0 = .ok (.aload_n 0, 1) := by decide +kernel
theorem dX8_back_1 : decode cX8_back 1 = .ok (.iload_n 1, 1) := by decide +kernel
theorem dX8_back_2 : decode cX8_back 2 = .ok (.iload_n 2, 1) := by decide +kernel
theorem dX8_back_3 : decode cX8_back 3 = .ok (.invokevirtual 95, 3) := by decide +kernel
theorem dX8_back_6 : decode cX8_back 6 = .ok (.ifCond .eq 41, 3) := by decide +kernel
theorem dX8_back_9 : decode cX8_back 9 = .ok (.aload_n 0, 1) := by decide +kernel
theorem dX8_back_10 : decode cX8_back 10 = .ok (.getfield 23, 3) := by decide +kernel
theorem dX8_back_13 : decode cX8_back 13 = .ok (.bipush 8, 2) := by decide +kernel
theorem dX8_back_15 : decode cX8_back 15 = .ok (.iload_n 1, 1) := by decide +kernel
theorem dX8_back_16 : decode cX8_back 16 = .ok (.imul, 1) := by decide +kernel
theorem dX8_back_17 : decode cX8_back 17 = .ok (.iload_n 2, 1) := by decide +kernel
theorem dX8_back_18 : decode cX8_back 18 = .ok (.iadd, 1) := by decide +kernel
theorem dX8_back_19 : decode cX8_back 19 = .ok (.baload, 1) := by decide +kernel
theorem dX8_back_20 : decode cX8_back 20 = .ok (.ifCond .eq 27, 3) := by decide +kernel
theorem dX8_back_23 : decode cX8_back 23 = .ok (.aload_n 0, 1) := by decide +kernel
theorem dX8_back_24 : decode cX8_back 24 = .ok (.getfield 26, 3) := by decide +kernel
theorem dX8_back_27 : decode cX8_back 27 = .ok (.bipush 8, 2) := by decide +kernel
theorem dX8_back_29 : decode cX8_back 29 = .ok (.iload_n 1, 1) := by decide +kernel
theorem dX8_back_30 : decode cX8_back 30 = .ok (.imul, 1) := by decide +kernel
theorem dX8_back_31 : decode cX8_back 31 = .ok (.iload_n 2, 1) := by decide +kernel
theorem dX8_back_32 : decode cX8_back 32 = .ok (.iadd, 1) := by decide +kernel
theorem dX8_back_33 : decode cX8_back 33 = .ok (.baload, 1) := by decide +kernel
theorem dX8_back_34 : decode cX8_back 34 = .ok (.ifCond .ne 13, 3) := by decide +kernel
theorem dX8_back_37 : decode cX8_back 37 = .ok (.iload_n 1, 1) := by decide +kernel
theorem dX8_back_38 : decode cX8_back 38 = .ok (.aload_n 0, 1) := by decide +kernel
theorem dX8_back_39 : decode cX8_back 39 = .ok (.getfield 39, 3) := by decide +kernel
theorem dX8_back_42 : decode cX8_back 42 = .ok (.iconst 3, 1) := by decide +kernel
theorem dX8_back_43 : decode cX8_back 43 = .ok (.isub, 1) := by decide +kernel
theorem dX8_back_44 : decode cX8_back 44 = .ok (.if_icmp .le 5, 3) := by decide +kernel
theorem dX8_back_47 : decode cX8_back 47 = .ok (.iconst 0, 1) := by decide +kernel
theorem dX8_back_48 : decode cX8_back 48 = .ok (.ireturn, 1) := by decide +kernel
theorem dX8_back_49 : decode cX8_back 49 = .ok (.aload_n 0, 1) := by decide +kernel
theorem dX8_back_50 : decode cX8_back 50 = .ok (.getfield 26, 3) := by decide +kernel
theorem dX8_back_53 : decode cX8_back 53 = .ok (.bipush 8, 2) := by decide +kernel
theorem dX8_back_55 : decode cX8_back 55 = .ok (.iload_n 1, 1) := by decide +kernel
theorem dX8_back_56 : decode cX8_back 56 = .ok (.imul, 1) := by decide +kernel
theorem dX8_back_57 : decode cX8_back 57 = .ok (.iload_n 2, 1) := by decide +kernel
theorem dX8_back_58 : decode cX8_back 58 = .ok (.iadd, 1) := by decide +kernel
theorem dX8_back_59 : decode cX8_back 59 = .ok (.iconst 1, 1) := by decide +kernel
theorem dX8_back_60 : decode cX8_back 60 = .ok (.bastore, 1) := by decide +kernel
theorem dX8_back_61 : decode cX8_back 61 = .ok (.iconst 1, 1) := by decide +kernel
theorem dX8_back_62 : decode cX8_back 62 = .ok (.ireturn, 1) := by decide +kernel
set_option maxRecDepth 20000 in
theorem ggX8_feed_X8_four : GoodIn wsX8_feed wsX8_four := goodIn_r _ [6, 7, 1, 8, 9, 10, 11, 12, 13, 14, 15, 16, 17, 18, 19, 20, 21, 22, 23, 24, 25, 26, 27, 28, 29, 30, 31, 32, 33, 34, 35, 36, 37, 38, 39, 40, 41] (by decide +kernel) (by decide +kernel)
set_option maxRecDepth 20000 in
theorem gX8_feed_X8_four : GoodIn wsX8_feed (wsV RX8 150 RX8 yX8_four wsX8_four) := goodIn_app (goodIn_of _ (by decide +kernel)) ggX8_feed_X8_four
theorem dX8_feed_0 : decode cX8_feed 0 = .ok (.aload_n 0, 1) := by decide +kernel
theorem dX8_feed_1 : decode cX8_feed 1 = .ok (.getfield 147, 3) := by decide +kernel
theorem dX8_feed_4 : decode cX8_feed 4 = .ok (.bipush 20, 2) := by decide +kernel
theorem dX8_feed_6 : decode cX8_feed 6 = .ok (.iadd, 1) := by decide +kernel
theorem dX8_feed_7 : decode cX8_feed 7 = .ok (.sipush 300, 3) := by decide +kernel
theorem dX8_feed_10 : decode cX8_feed 10 = .ok (.if_icmp .le 5, 3) := by decide +kernel
theorem dX8_feed_13 : decode cX8_feed 13 = .ok (.iconst (-1), 1) := by decide +kernel
theorem dX8_feed_14 : decode cX8_feed 14 = .ok (.ireturn, 1) := by decide +kernel
theorem dX8_feed_15 : decode cX8_feed 15 = .ok (.aload_n 0, 1) := by decide +kernel
theorem dX8_feed_16 : decode cX8_feed 16 = .ok (.iload_n 1, 1) := by decide +kernel
theorem dX8_feed_17 : decode cX8_feed 17 = .ok (.invokevirtual 150, 3) := by decide +kernel
theorem dX8_feed_20 : decode cX8_feed 20 = .ok (.aload_n 0, 1) := by decide +kernel
theorem dX8_feed_21 : decode cX8_feed 21 = .ok (.iload_n 2, 1) := by decide +kernel
theorem dX8_feed_22 : decode cX8_feed 22 = .ok (.invokevirtual 150, 3) := by decide +kernel
theorem dX8_feed_25 : decode cX8_feed 25 = .ok (.aload_n 0, 1) := by decide +kernel
theorem dX8_feed_26 : decode cX8_feed 26 = .ok (.iload_n 3, 1) := by decide +kernel
theorem dX8_feed_27 : decode cX8_feed 27 = .ok (.invokevirtual 150, 3) := by decide +kernel
theorem dX8_feed_30 : decode cX8_feed 30 = .ok (.aload_n 0, 1) := by decide +kernel
theorem dX8_feed_31 : decode cX8_feed 31 = .ok (.iload 4, 2) := by decide +kernel
theorem dX8_feed_33 : decode cX8_feed 33 = .ok (.invokevirtual 150, 3) := by decide +kernel
theorem dX8_feed_36 : decode cX8_feed 36 = .ok (.aload_n 0, 1) := by decide +kernel
theorem dX8_feed_37 : decode cX8_feed 37 = .ok (.iload 5, 2) := by decide +kernel
theorem dX8_feed_39 : decode cX8_feed 39 = .ok (.invokevirtual 150, 3) := by decide +kernel
theorem dX8_feed_42 : decode cX8_feed 42 = .ok (.aload_n 0, 1) := by decide +kernel
theorem dX8_feed_43 : decode cX8_feed 43 = .ok (.getfield 147, 3) := by decide +kernel
theorem dX8_feed_46 : decode cX8_feed 46 = .ok (.ireturn, 1) := by decide +kernel
theorem dX8_four_0 : decode cX8_four 0 = .ok (.bipush 24, 2) := by decide +kernel
theorem dX8_four_2 : decode cX8_four 2 = .ok (.istore_n 2, 1) := by decide +kernel
theorem dX8_four_3 : decode cX8_four 3 = .ok (.iload_n 2, 1) := by decide +kernel
theorem dX8_four_4 : decode cX8_four 4 = .ok (.ifCond .lt 32, 3) := by decide +kernel
theorem dX8_four_7 : decode cX8_four 7 = .ok (.aload_n 0, 1) := by decide +kernel
theorem dX8_four_8 : decode cX8_four 8 = .ok (.getfield 60, 3) := by decide +kernel
theorem dX8_four_11 : decode cX8_four 11 = .ok (.aload_n 0, 1) := by decide +kernel
theorem dX8_four_12 : decode cX8_four 12 = .ok (.getfield 147, 3) := by decide +kernel
theorem dX8_four_15 : decode cX8_four 15 = .ok (.iload_n 1, 1) := by decide +kernel
theorem dX8_four_16 : decode cX8_four 16 = .ok (.iload_n 2, 1) := by decide +kernel
theorem dX8_four_17 : decode cX8_four 17 = .ok (.ishr, 1) := by decide +kernel
theorem dX8_four_18 : decode cX8_four 18 = .ok (.i2b, 1) := by decide +kernel
theorem dX8_four_19 : decode cX8_four 19 = .ok (.bastore, 1) := by decide +kernel
theorem dX8_four_20 : decode cX8_four 20 = .ok (.aload_n 0, 1) := by decide +kernel
theorem dX8_four_21 : decode cX8_four 21 = .ok (.dup, 1) := by decide +kernel
theorem dX8_four_22 : decode cX8_four 22 = .ok (.getfield 147, 3) := by decide +kernel
theorem dX8_four_25 : decode cX8_four 25 = .ok (.iconst 1, 1) := by decide +kernel
theorem dX8_four_26 : decode cX8_four 26 = .ok (.iadd, 1) := by decide +kernel
theorem dX8_four_27 : decode cX8_four 27 = .ok (.putfield 147, 3) := by decide +kernel
theorem dX8_four_30 : decode cX8_four 30 = .ok (.iinc 2 (-8), 3) := by decide +kernel
theorem dX8_four_33 : decode cX8_four 33 = .ok (.goto (-30), 3) := by decide +kernel
theorem dX8_four_36 : decode cX8_four 36 = .ok (.return_, 1) := by decide +kernel
theorem dX8_blanks_0 : decode cX8_blanks 0 = .ok (.aload_n 0, 1) := by decide +kernel
theorem dX8_blanks_1 : decode cX8_blanks 1 = .ok (.getfield 154, 3) := by decide +kernel
theorem dX8_blanks_4 : decode cX8_blanks 4 = .ok (.aload_n 0, 1) := by decide +kernel
theorem dX8_blanks_5 : decode cX8_blanks 5 = .ok (.getfield 157, 3) := by decide +kernel
theorem dX8_blanks_8 : decode cX8_blanks 8 = .ok (.if_icmp .ge 44, 3) := by decide +kernel
theorem dX8_blanks_11 : decode cX8_blanks 11 = .ok (.aload_n 0, 1) := by decide +kernel
theorem dX8_blanks_12 : decode cX8_blanks 12 = .ok (.getfield 64, 3) := by decide +kernel
theorem dX8_blanks_15 : decode cX8_blanks 15 = .ok (.aload_n 0, 1) := by decide +kernel
theorem dX8_blanks_16 : decode cX8_blanks 16 = .ok (.getfield 154, 3) := by decide +kernel
theorem dX8_blanks_19 : decode cX8_blanks 19 = .ok (.baload, 1) := by decide +kernel
theorem dX8_blanks_20 : decode cX8_blanks 20 = .ok (.bipush 32, 2) := by decide +kernel
theorem dX8_blanks_22 : decode cX8_blanks 22 = .ok (.if_icmp .eq 17, 3) := by decide +kernel
theorem dX8_blanks_25 : decode cX8_blanks 25 = .ok (.aload_n 0, 1) := by decide +kernel
theorem dX8_blanks_26 : decode cX8_blanks 26 = .ok (.getfield 64, 3) := by decide +kernel
theorem dX8_blanks_29 : decode cX8_blanks 29 = .ok (.aload_n 0, 1) := by decide +kernel
theorem dX8_blanks_30 : decode cX8_blanks 30 = .ok (.getfield 154, 3) := by decide +kernel
theorem dX8_blanks_33 : decode cX8_blanks 33 = .ok (.baload, 1) := by decide +kernel
theorem dX8_blanks_34 : decode cX8_blanks 34 = .ok (.bipush 10, 2) := by decide +kernel
theorem dX8_blanks_36 : decode cX8_blanks 36 = .ok (.if_icmp .ne 16, 3) := by decide +kernel
theorem dX8_blanks_39 : decode cX8_blanks 39 = .ok (.aload_n 0, 1) := by decide +kernel
theorem dX8_blanks_40 : decode cX8_blanks 40 = .ok (.dup, 1) := by decide +kernel
theorem dX8_blanks_41 : decode cX8_blanks 41 = .ok (.getfield 154, 3) := by decide +kernel
theorem dX8_blanks_44 : decode cX8_blanks 44 = .ok (.iconst 1, 1) := by decide +kernel
theorem dX8_blanks_45 : decode cX8_blanks 45 = .ok (.iadd, 1) := by decide +kernel
theorem dX8_blanks_46 : decode cX8_blanks 46 = .ok (.putfield 154, 3) := by decide +kernel
theorem dX8_blanks_49 : decode cX8_blanks 49 = .ok (.goto (-49), 3) := by decide +kernel
theorem dX8_blanks_52 : decode cX8_blanks 52 = .ok (.return_, 1) := by decide +kernel
set_option maxRecDepth 20000 in
theorem ggX8_word_X8_blanks : GoodIn wsX8_word wsX8_blanks := goodIn_r _ [9, 1, 3, 4, 10, 11, 12, 13, 14, 15, 16, 17, 18, 19, 20, 21, 22, 23, 24, 25, 26, 27, 28, 29, 30, 31, 32, 33, 34, 35, 36, 37, 38, 39, 40, 41, 42, 43] (by decide +kernel) (by decide +kernel)
set_option maxRecDepth 20000 in
theorem gX8_word_X8_blanks : GoodIn wsX8_word (wsV RX8 160 RX8 yX8_blanks wsX8_blanks) := goodIn_app (goodIn_of _ (by decide +kernel)) ggX8_word_X8_blanks
theorem dX8_word_0 : decode cX8_word 0 = .ok (.aload_n 0, 1) := by decide +kernel
theorem dX8_word_1 : decode cX8_word 1 = .ok (.invokevirtual 160, 3) := by decide +kernel
theorem dX8_word_4 : decode cX8_word 4 = .ok (.aload_n 0, 1) := by decide +kernel
theorem dX8_word_5 : decode cX8_word 5 = .ok (.aload_n 0, 1) := by decide +kernel
theorem dX8_word_6 : decode cX8_word 6 = .ok (.getfield 154, 3) := by decide +kernel
theorem dX8_word_9 : decode cX8_word 9 = .ok (.putfield 163, 3) := by decide +kernel
theorem dX8_word_12 : decode cX8_word 12 = .ok (.lconst 0, 1) := by decide +kernel
theorem dX8_word_13 : decode cX8_word 13 = .ok (.lstore_n 1, 1) := by decide +kernel
theorem dX8_word_14 : decode cX8_word 14 = .ok (.aload_n 0, 1) := by decide +kernel
theorem dX8_word_15 : decode cX8_word 15 = .ok (.getfield 163, 3) := by decide +kernel
theorem dX8_word_18 : decode cX8_word 18 = .ok (.aload_n 0, 1) := by decide +kernel
theorem dX8_word_19 : decode cX8_word 19 = .ok (.getfield 157, 3) := by decide +kernel
theorem dX8_word_22 : decode cX8_word 22 = .ok (.if_icmp .ge 78, 3) := by decide +kernel
theorem dX8_word_25 : decode cX8_word 25 = .ok (.aload_n 0, 1) := by decide +kernel
theorem dX8_word_26 : decode cX8_word 26 = .ok (.getfield 64, 3) := by decide +kernel
theorem dX8_word_29 : decode cX8_word 29 = .ok (.aload_n 0, 1) := by decide +kernel
theorem dX8_word_30 : decode cX8_word 30 = .ok (.getfield 163, 3) := by decide +kernel
theorem dX8_word_33 : decode cX8_word 33 = .ok (.baload, 1) := by decide +kernel
theorem dX8_word_34 : decode cX8_word 34 = .ok (.bipush 97, 2) := by decide +kernel
theorem dX8_word_36 : decode cX8_word 36 = .ok (.if_icmp .lt 64, 3) := by decide +kernel
theorem dX8_word_39 : decode cX8_word 39 = .ok (.aload_n 0, 1) := by decide +kernel
theorem dX8_word_40 : decode cX8_word 40 = .ok (.getfield 64, 3) := by decide +kernel
theorem dX8_word_43 : decode cX8_word 43 = .ok (.aload_n 0, 1) := by decide +kernel
theorem dX8_word_44 : decode cX8_word 44 = .ok (.getfield 163, 3) := by decide +kernel
theorem dX8_word_47 : decode cX8_word 47 = .ok (.baload, 1) := by decide +kernel
theorem dX8_word_48 : decode cX8_word 48 = .ok (.bipush 122, 2) := by decide +kernel
theorem dX8_word_50 : decode cX8_word 50 = .ok (.if_icmp .gt 50, 3) := by decide +kernel
theorem dX8_word_53 : decode cX8_word 53 = .ok (.aload_n 0, 1) := by decide +kernel
theorem dX8_word_54 : decode cX8_word 54 = .ok (.getfield 163, 3) := by decide +kernel
theorem dX8_word_57 : decode cX8_word 57 = .ok (.aload_n 0, 1) := by decide +kernel
theorem dX8_word_58 : decode cX8_word 58 = .ok (.getfield 154, 3) := by decide +kernel
theorem dX8_word_61 : decode cX8_word 61 = .ok (.isub, 1) := by decide +kernel
theorem dX8_word_62 : decode cX8_word 62 = .ok (.bipush 7, 2) := by decide +kernel
theorem dX8_word_64 : decode cX8_word 64 = .ok (.if_icmp .ge 21, 3) := by decide +kernel
theorem dX8_word_67 : decode cX8_word 67 = .ok (.lload_n 1, 1) := by decide +kernel
theorem dX8_word_68 : decode cX8_word 68 = .ok (.bipush 8, 2) := by decide +kernel
theorem dX8_word_70 : decode cX8_word 70 = .ok (.lshl, 1) := by decide +kernel
theorem dX8_word_71 : decode cX8_word 71 = .ok (.aload_n 0, 1) := by decide +kernel
theorem dX8_word_72 : decode cX8_word 72 = .ok (.getfield 64, 3) := by decide +kernel
theorem dX8_word_75 : decode cX8_word 75 = .ok (.aload_n 0, 1) := by decide +kernel
theorem dX8_word_76 : decode cX8_word 76 = .ok (.getfield 163, 3) := by decide +kernel
theorem dX8_word_79 : decode cX8_word 79 = .ok (.baload, 1) := by decide +kernel
theorem dX8_word_80 : decode cX8_word 80 = .ok (.i2l, 1) := by decide +kernel
theorem dX8_word_81 : decode cX8_word 81 = .ok (.lor, 1) := by decide +kernel
theorem dX8_word_82 : decode cX8_word 82 = .ok (.goto 4, 3) := by decide +kernel
theorem dX8_word_85 : decode cX8_word 85 = .ok (.lconst 0, 1) := by decide +kernel
theorem dX8_word_86 : decode cX8_word 86 = .ok (.lstore_n 1, 1) := by decide +kernel
theorem dX8_word_87 : decode cX8_word 87 = .ok (.aload_n 0, 1) := by decide +kernel
theorem dX8_word_88 : decode cX8_word 88 = .ok (.dup, 1) := by decide +kernel
theorem dX8_word_89 : decode cX8_word 89 = .ok (.getfield 163, 3) := by decide +kernel
theorem dX8_word_92 : decode cX8_word 92 = .ok (.iconst 1, 1) := by decide +kernel
theorem dX8_word_93 : decode cX8_word 93 = .ok (.iadd, 1) := by decide +kernel
theorem dX8_word_94 : decode cX8_word 94 = .ok (.putfield 163, 3) := by decide +kernel
theorem dX8_word_97 : decode cX8_word 97 = .ok (.goto (-83), 3) := by decide +kernel
theorem dX8_word_100 : decode cX8_word 100 = .ok (.aload_n 0, 1) := by decide +kernel
theorem dX8_word_101 : decode cX8_word 101 = .ok (.getfield 163, 3) := by decide +kernel
theorem dX8_word_104 : decode cX8_word 104 = .ok (.aload_n 0, 1) := by decide +kernel
theorem dX8_word_105 : decode cX8_word 105 = .ok (.getfield 154, 3) := by decide +kernel
theorem dX8_word_108 : decode cX8_word 108 = .ok (.isub, 1) := by decide +kernel
theorem dX8_word_109 : decode cX8_word 109 = .ok (.bipush 7, 2) := by decide +kernel
theorem dX8_word_111 : decode cX8_word 111 = .ok (.if_icmp .le 7, 3) := by decide +kernel
theorem dX8_word_114 : decode cX8_word 114 = .ok (.lconst 0, 1) := by decide +kernel
theorem dX8_word_115 : decode cX8_word 115 = .ok (.goto 4, 3) := by decide +kernel
theorem dX8_word_118 : decode cX8_word 118 = .ok (.lload_n 1, 1) := by decide +kernel
theorem dX8_word_119 : decode cX8_word 119 = .ok (.lreturn, 1) := by decide +kernel
set_option maxRecDepth 20000 in
theorem ggX8_takes_X8_word : GoodIn wsX8_takes wsX8_word := goodIn_r _ [7, 2, 1, 8, 9, 10, 11, 12, 6, 13, 14, 15, 16, 17, 18, 19, 20, 21, 22, 23, 24, 25, 26, 27, 28, 29, 30, 31, 32, 33, 34, 35, 36, 37, 38, 39, 40, 41, 42, 43, 44, 45, 46, 47] (by decide +kernel) (by decide +kernel)
set_option maxRecDepth 20000 in
theorem gX8_takes_X8_word : GoodIn wsX8_takes (wsV RX8 166 RX8 yX8_word wsX8_word) := goodIn_app (goodIn_of _ (by decide +kernel)) ggX8_takes_X8_word
theorem dX8_takes_0 : decode cX8_takes 0 = .ok (.aload_n 0, 1) := by decide +kernel
theorem dX8_takes_1 : decode cX8_takes 1 = .ok (.invokevirtual 166, 3) := by decide +kernel
theorem dX8_takes_4 : decode cX8_takes 4 = .ok (.lload_n 1, 1) := by decide +kernel
theorem dX8_takes_5 : decode cX8_takes 5 = .ok (.lcmp, 1) := by decide +kernel
theorem dX8_takes_6 : decode cX8_takes 6 = .ok (.ifCond .eq 5, 3) := by decide +kernel
theorem dX8_takes_9 : decode cX8_takes 9 = .ok (.iconst 0, 1) := by decide +kernel
theorem dX8_takes_10 : decode cX8_takes 10 = .ok (.ireturn, 1) := by decide +kernel
theorem dX8_takes_11 : decode cX8_takes 11 = .ok (.aload_n 0, 1) := by decide +kernel
theorem dX8_takes_12 : decode cX8_takes 12 = .ok (.aload_n 0, 1) := by decide +kernel
theorem dX8_takes_13 : decode cX8_takes 13 = .ok (.getfield 163, 3) := by decide +kernel
theorem dX8_takes_16 : decode cX8_takes 16 = .ok (.putfield 154, 3) := by decide +kernel
theorem dX8_takes_19 : decode cX8_takes 19 = .ok (.iconst 1, 1) := by decide +kernel
theorem dX8_takes_20 : decode cX8_takes 20 = .ok (.ireturn, 1) := by decide +kernel
set_option maxRecDepth 20000 in
theorem ggX8_takesNumber_X8_blanks : GoodIn wsX8_takesNumber wsX8_blanks := goodIn_r _ [9, 1, 3, 4, 10, 11, 12, 13, 14, 15, 16, 17, 18, 19, 20, 21, 22, 23, 24, 25, 26, 27, 28, 29, 30, 31, 32, 33, 34, 35, 36, 37, 38, 39, 40, 41, 42, 43] (by decide +kernel) (by decide +kernel)
set_option maxRecDepth 20000 in
theorem gX8_takesNumber_X8_blanks : GoodIn wsX8_takesNumber (wsV RX8 160 RX8 yX8_blanks wsX8_blanks) := goodIn_app (goodIn_of _ (by decide +kernel)) ggX8_takesNumber_X8_blanks
theorem dX8_takesNumber_0 : decode cX8_takesNumber 0 = .ok (.aload_n 0, 1) := by decide +kernel
theorem dX8_takesNumber_1 : decode cX8_takesNumber 1 = .ok (.invokevirtual 160, 3) := by decide +kernel
theorem dX8_takesNumber_4 : decode cX8_takesNumber 4 = .ok (.aload_n 0, 1) := by decide +kernel
theorem dX8_takesNumber_5 : decode cX8_takesNumber 5 = .ok (.getfield 154, 3) := by decide +kernel
theorem dX8_takesNumber_8 : decode cX8_takesNumber 8 = .ok (.istore_n 1, 1) := by decide +kernel
theorem dX8_takesNumber_9 : decode cX8_takesNumber 9 = .ok (.aload_n 0, 1) := by decide +kernel
theorem dX8_takesNumber_10 : decode cX8_takesNumber 10 = .ok (.iconst 0, 1) := by decide +kernel
theorem dX8_takesNumber_11 : decode cX8_takesNumber 11 = .ok (.putfield 170, 3) := by decide +kernel
theorem dX8_takesNumber_14 : decode cX8_takesNumber 14 = .ok (.iload_n 1, 1) := by decide +kernel
theorem dX8_takesNumber_15 : decode cX8_takesNumber 15 = .ok (.aload_n 0, 1) := by decide +kernel
theorem dX8_takesNumber_16 : decode cX8_takesNumber 16 = .ok (.getfield 157, 3) := by decide +kernel
theorem dX8_takesNumber_19 : decode cX8_takesNumber 19 = .ok (.if_icmp .ge 62, 3) := by decide +kernel
theorem dX8_takesNumber_22 : decode cX8_takesNumber 22 = .ok (.aload_n 0, 1) := by decide +kernel
theorem dX8_takesNumber_23 : decode cX8_takesNumber 23 = .ok (.getfield 64, 3) := by decide +kernel
theorem dX8_takesNumber_26 : decode cX8_takesNumber 26 = .ok (.iload_n 1, 1) := by decide +kernel
theorem dX8_takesNumber_27 : decode cX8_takesNumber 27 = .ok (.baload, 1) := by decide +kernel
theorem dX8_takesNumber_28 : decode cX8_takesNumber 28 = .ok (.bipush 48, 2) := by decide +kernel
theorem dX8_takesNumber_30 : decode cX8_takesNumber 30 = .ok (.if_icmp .lt 51, 3) := by decide +kernel
theorem dX8_takesNumber_33 : decode cX8_takesNumber 33 = .ok (.aload_n 0, 1) := by decide +kernel
theorem dX8_takesNumber_34 : decode cX8_takesNumber 34 = .ok (.getfield 64, 3) := by decide +kernel
theorem dX8_takesNumber_37 : decode cX8_takesNumber 37 = .ok (.iload_n 1, 1) := by decide +kernel
theorem dX8_takesNumber_38 : decode cX8_takesNumber 38 = .ok (.baload, 1) := by decide +kernel
theorem dX8_takesNumber_39 : decode cX8_takesNumber 39 = .ok (.bipush 57, 2) := by decide +kernel
theorem dX8_takesNumber_41 : decode cX8_takesNumber 41 = .ok (.if_icmp .gt 40, 3) := by decide +kernel
theorem dX8_takesNumber_44 : decode cX8_takesNumber 44 = .ok (.iload_n 1, 1) := by decide +kernel
theorem dX8_takesNumber_45 : decode cX8_takesNumber 45 = .ok (.aload_n 0, 1) := by decide +kernel
theorem dX8_takesNumber_46 : decode cX8_takesNumber 46 = .ok (.getfield 154, 3) := by decide +kernel
theorem dX8_takesNumber_49 : decode cX8_takesNumber 49 = .ok (.isub, 1) := by decide +kernel
theorem dX8_takesNumber_50 : decode cX8_takesNumber 50 = .ok (.iconst 4, 1) := by decide +kernel
theorem dX8_takesNumber_51 : decode cX8_takesNumber 51 = .ok (.if_icmp .ge 24, 3) := by decide +kernel
theorem dX8_takesNumber_54 : decode cX8_takesNumber 54 = .ok (.aload_n 0, 1) := by decide +kernel
theorem dX8_takesNumber_55 : decode cX8_takesNumber 55 = .ok (.bipush 10, 2) := by decide +kernel
theorem dX8_takesNumber_57 : decode cX8_takesNumber 57 = .ok (.aload_n 0, 1) := by decide +kernel
theorem dX8_takesNumber_58 : decode cX8_takesNumber 58 = .ok (.getfield 170, 3) := by decide +kernel
theorem dX8_takesNumber_61 : decode cX8_takesNumber 61 = .ok (.imul, 1) := by decide +kernel
theorem dX8_takesNumber_62 : decode cX8_takesNumber 62 = .ok (.aload_n 0, 1) := by decide +kernel
theorem dX8_takesNumber_63 : decode cX8_takesNumber 63 = .ok (.getfield 64, 3) := by decide +kernel
theorem dX8_takesNumber_66 : decode cX8_takesNumber 66 = .ok (.iload_n 1, 1) := by decide +kernel
theorem dX8_takesNumber_67 : decode cX8_takesNumber 67 = .ok (.baload, 1) := by decide +kernel
theorem dX8_takesNumber_68 : decode cX8_takesNumber 68 = .ok (.iadd, 1) := by decide +kernel
theorem dX8_takesNumber_69 : decode cX8_takesNumber 69 = .ok (.bipush 48, 2) := by decide +kernel
theorem dX8_takesNumber_71 : decode cX8_takesNumber 71 = .ok (.isub, 1) := by decide +kernel
theorem dX8_takesNumber_72 : decode cX8_takesNumber 72 = .ok (.putfield 170, 3) := by decide +kernel
theorem dX8_takesNumber_75 : decode cX8_takesNumber 75 = .ok (.iinc 1 1, 3) := by decide +kernel
theorem dX8_takesNumber_78 : decode cX8_takesNumber 78 = .ok (.goto (-64), 3) := by decide +kernel
theorem dX8_takesNumber_81 : decode cX8_takesNumber 81 = .ok (.iload_n 1, 1) := by decide +kernel
theorem dX8_takesNumber_82 : decode cX8_takesNumber 82 = .ok (.aload_n 0, 1) := by decide +kernel
theorem dX8_takesNumber_83 : decode cX8_takesNumber 83 = .ok (.getfield 154, 3) := by decide +kernel
theorem dX8_takesNumber_86 : decode cX8_takesNumber 86 = .ok (.if_icmp .eq 13, 3) := by decide +kernel
theorem dX8_takesNumber_89 : decode cX8_takesNumber 89 = .ok (.iload_n 1, 1) := by decide +kernel
theorem dX8_takesNumber_90 : decode cX8_takesNumber 90 = .ok (.aload_n 0, 1) := by decide +kernel
theorem dX8_takesNumber_91 : decode cX8_takesNumber 91 = .ok (.getfield 154, 3) := by decide +kernel
theorem dX8_takesNumber_94 : decode cX8_takesNumber 94 = .ok (.isub, 1) := by decide +kernel
theorem dX8_takesNumber_95 : decode cX8_takesNumber 95 = .ok (.iconst 4, 1) := by decide +kernel
theorem dX8_takesNumber_96 : decode cX8_takesNumber 96 = .ok (.if_icmp .le 5, 3) := by decide +kernel
theorem dX8_takesNumber_99 : decode cX8_takesNumber 99 = .ok (.iconst 0, 1) := by decide +kernel
theorem dX8_takesNumber_100 : decode cX8_takesNumber 100 = .ok (.ireturn, 1) := by decide +kernel
theorem dX8_takesNumber_101 : decode cX8_takesNumber 101 = .ok (.aload_n 0, 1) := by decide +kernel
theorem dX8_takesNumber_102 : decode cX8_takesNumber 102 = .ok (.iload_n 1, 1) := by decide +kernel
theorem dX8_takesNumber_103 : decode cX8_takesNumber 103 = .ok (.putfield 154, 3) := by decide +kernel
theorem dX8_takesNumber_106 : decode cX8_takesNumber 106 = .ok (.iconst 1, 1) := by decide +kernel
theorem dX8_takesNumber_107 : decode cX8_takesNumber 107 = .ok (.ireturn, 1) := by decide +kernel
theorem dX8_plain_0 : decode cX8_plain 0 = .ok (.iload_n 0, 1) := by decide +kernel
theorem dX8_plain_1 : decode cX8_plain 1 = .ok (.ifCond .ne 8, 3) := by decide +kernel
theorem dX8_plain_4 : decode cX8_plain 4 = .ok (.bipush 50, 2) := by decide +kernel
theorem dX8_plain_6 : decode cX8_plain 6 = .ok (.goto 56, 3) := by decide +kernel
theorem dX8_plain_9 : decode cX8_plain 9 = .ok (.iload_n 0, 1) := by decide +kernel
theorem dX8_plain_10 : decode cX8_plain 10 = .ok (.iconst 1, 1) := by decide +kernel
theorem dX8_plain_11 : decode cX8_plain 11 = .ok (.if_icmp .ne 9, 3) := by decide +kernel
theorem dX8_plain_14 : decode cX8_plain 14 = .ok (.sipush 200, 3) := by decide +kernel
theorem dX8_plain_17 : decode cX8_plain 17 = .ok (.goto 45, 3) := by decide +kernel
theorem dX8_plain_20 : decode cX8_plain 20 = .ok (.iload_n 0, 1) := by decide +kernel
theorem dX8_plain_21 : decode cX8_plain 21 = .ok (.iconst 2, 1) := by decide +kernel
theorem dX8_plain_22 : decode cX8_plain 22 = .ok (.if_icmp .ne 8, 3) := by decide +kernel
theorem dX8_plain_25 : decode cX8_plain 25 = .ok (.bipush 9, 2) := by decide +kernel
theorem dX8_plain_27 : decode cX8_plain 27 = .ok (.goto 35, 3) := by decide +kernel
theorem dX8_plain_30 : decode cX8_plain 30 = .ok (.iload_n 0, 1) := by decide +kernel
theorem dX8_plain_31 : decode cX8_plain 31 = .ok (.iconst 3, 1) := by decide +kernel
theorem dX8_plain_32 : decode cX8_plain 32 = .ok (.if_icmp .ne 8, 3) := by decide +kernel
theorem dX8_plain_35 : decode cX8_plain 35 = .ok (.bipush 100, 2) := by decide +kernel
theorem dX8_plain_37 : decode cX8_plain 37 = .ok (.goto 25, 3) := by decide +kernel
theorem dX8_plain_40 : decode cX8_plain 40 = .ok (.iload_n 0, 1) := by decide +kernel
theorem dX8_plain_41 : decode cX8_plain 41 = .ok (.iconst 4, 1) := by decide +kernel
theorem dX8_plain_42 : decode cX8_plain 42 = .ok (.if_icmp .ne 8, 3) := by decide +kernel
theorem dX8_plain_45 : decode cX8_plain 45 = .ok (.bipush 30, 2) := by decide +kernel
theorem dX8_plain_47 : decode cX8_plain 47 = .ok (.goto 15, 3) := by decide +kernel
theorem dX8_plain_50 : decode cX8_plain 50 = .ok (.iload_n 0, 1) := by decide +kernel
theorem dX8_plain_51 : decode cX8_plain 51 = .ok (.iconst 5, 1) := by decide +kernel
theorem dX8_plain_52 : decode cX8_plain 52 = .ok (.if_icmp .ne 8, 3) := by decide +kernel
theorem dX8_plain_55 : decode cX8_plain 55 = .ok (.bipush 50, 2) := by decide +kernel
theorem dX8_plain_57 : decode cX8_plain 57 = .ok (.goto 5, 3) := by decide +kernel
theorem dX8_plain_60 : decode cX8_plain 60 = .ok (.bipush 10, 2) := by decide +kernel
theorem dX8_plain_62 : decode cX8_plain 62 = .ok (.ireturn, 1) := by decide +kernel
set_option maxRecDepth 20000 in
theorem ggX8_statement_X8_takes : GoodIn wsX8_statement wsX8_takes := goodIn_r _ [17, 18, 10, 19, 20, 21, 16, 22, 11, 12, 23, 24, 25, 26, 31, 32, 33, 34, 35, 36, 37, 38, 39, 40, 41, 42, 43, 44, 45, 46, 47, 48, 49, 50, 51, 52, 53, 54, 55, 56, 57, 58, 59, 60, 61, 62, 63, 64] (by decide +kernel) (by decide +kernel)
set_option maxRecDepth 20000 in
theorem gX8_statement_X8_takes : GoodIn wsX8_statement (wsV RX8 175 RX8 yX8_takes wsX8_takes) := goodIn_app (goodIn_of _ (by decide +kernel)) ggX8_statement_X8_takes
set_option maxRecDepth 20000 in
theorem ggX8_statement_X8_takesNumber : GoodIn wsX8_statement wsX8_takesNumber := goodIn_r _ [30, 10, 8, 11, 12, 23, 24, 25, 16, 26, 31, 32, 33, 34, 35, 36, 37, 38, 39, 40, 41, 42, 43, 44, 45, 46, 47, 48, 49, 50, 51, 52, 53, 54, 55, 56, 57, 58, 59, 60, 61, 62, 63, 64] (by decide +kernel) (by decide +kernel)
set_option maxRecDepth 20000 in
theorem gX8_statement_X8_takesNumber : GoodIn wsX8_statement (wsV RX8 189 RX8 yX8_takesNumber wsX8_takesNumber) := goodIn_app (goodIn_of _ (by decide +kernel)) ggX8_statement_X8_takesNumber
set_option maxRecDepth 20000 in
theorem ggX8_statement_X8_blanks : GoodIn wsX8_statement wsX8_blanks := goodIn_r _ [26, 10, 11, 12, 31, 32, 33, 34, 35, 36, 37, 38, 39, 40, 41, 42, 43, 44, 45, 46, 47, 48, 49, 50, 51, 52, 53, 54, 55, 56, 57, 58, 59, 60, 61, 62, 63, 64] (by decide +kernel) (by decide +kernel)
set_option maxRecDepth 20000 in
theorem gX8_statement_X8_blanks : GoodIn wsX8_statement (wsV RX8 160 RX8 yX8_blanks wsX8_blanks) := goodIn_app (goodIn_of _ (by decide +kernel)) ggX8_statement_X8_blanks
theorem dX8_statement_0 : decode cX8_statement 0 = .ok (.aload_n 0, 1) := by decide +kernel
theorem dX8_statement_1 : decode cX8_statement 1 = .ok (.ldc2_w 173, 3) := by decide +kernel
theorem dX8_statement_4 : decode cX8_statement 4 = .ok (.invokevirtual 175, 3) := by decide +kernel
theorem dX8_statement_7 : decode cX8_statement 7 = .ok (.ifCond .eq 7, 3) := by decide +kernel
theorem dX8_statement_10 : decode cX8_statement 10 = .ok (.iconst 0, 1) := by decide +kernel
theorem dX8_statement_11 : decode cX8_statement 11 = .ok (.goto 75, 3) := by decide +kernel
theorem dX8_statement_14 : decode cX8_statement 14 = .ok (.aload_n 0, 1) := by decide +kernel
theorem dX8_statement_15 : decode cX8_statement 15 = .ok (.ldc2_w 179, 3) := by decide +kernel
theorem dX8_statement_18 : decode cX8_statement 18 = .ok (.invokevirtual 175, 3) := by decide +kernel
theorem dX8_statement_21 : decode cX8_statement 21 = .ok (.ifCond .eq 7, 3) := by decide +kernel
theorem dX8_statement_24 : decode cX8_statement 24 = .ok (.iconst 2, 1) := by decide +kernel
theorem dX8_statement_25 : decode cX8_statement 25 = .ok (.goto 61, 3) := by decide +kernel
theorem dX8_statement_28 : decode cX8_statement 28 = .ok (.aload_n 0, 1) := by decide +kernel
theorem dX8_statement_29 : decode cX8_statement 29 = .ok (.ldc2_w 181, 3) := by decide +kernel
theorem dX8_statement_32 : decode cX8_statement 32 = .ok (.invokevirtual 175, 3) := by decide +kernel
theorem dX8_statement_35 : decode cX8_statement 35 = .ok (.ifCond .eq 7, 3) := by decide +kernel
theorem dX8_statement_38 : decode cX8_statement 38 = .ok (.iconst 3, 1) := by decide +kernel
theorem dX8_statement_39 : decode cX8_statement 39 = .ok (.goto 47, 3) := by decide +kernel
theorem dX8_statement_42 : decode cX8_statement 42 = .ok (.aload_n 0, 1) := by decide +kernel
theorem dX8_statement_43 : decode cX8_statement 43 = .ok (.ldc2_w 183, 3) := by decide +kernel
theorem dX8_statement_46 : decode cX8_statement 46 = .ok (.invokevirtual 175, 3) := by decide +kernel
theorem dX8_statement_49 : decode cX8_statement 49 = .ok (.ifCond .eq 7, 3) := by decide +kernel
theorem dX8_statement_52 : decode cX8_statement 52 = .ok (.iconst 4, 1) := by decide +kernel
theorem dX8_statement_53 : decode cX8_statement 53 = .ok (.goto 33, 3) := by decide +kernel
theorem dX8_statement_56 : decode cX8_statement 56 = .ok (.aload_n 0, 1) := by decide +kernel
theorem dX8_statement_57 : decode cX8_statement 57 = .ok (.ldc2_w 185, 3) := by decide +kernel
theorem dX8_statement_60 : decode cX8_statement 60 = .ok (.invokevirtual 175, 3) := by decide +kernel
theorem dX8_statement_63 : decode cX8_statement 63 = .ok (.ifCond .eq 7, 3) := by decide +kernel
theorem dX8_statement_66 : decode cX8_statement 66 = .ok (.iconst 5, 1) := by decide +kernel
theorem dX8_statement_67 : decode cX8_statement 67 = .ok (.goto 19, 3) := by decide +kernel
theorem dX8_statement_70 : decode cX8_statement 70 = .ok (.aload_n 0, 1) := by decide +kernel
theorem dX8_statement_71 : decode cX8_statement 71 = .ok (.ldc2_w 187, 3) := by decide +kernel
theorem dX8_statement_74 : decode cX8_statement 74 = .ok (.invokevirtual 175, 3) := by decide +kernel
theorem dX8_statement_77 : decode cX8_statement 77 = .ok (.ifCond .eq 8, 3) := by decide +kernel
theorem dX8_statement_80 : decode cX8_statement 80 = .ok (.bipush 6, 2) := by decide +kernel
theorem dX8_statement_82 : decode cX8_statement 82 = .ok (.goto 4, 3) := by decide +kernel
theorem dX8_statement_85 : decode cX8_statement 85 = .ok (.iconst (-1), 1) := by decide +kernel
theorem dX8_statement_86 : decode cX8_statement 86 = .ok (.istore_n 2, 1) := by decide +kernel
theorem dX8_statement_87 : decode cX8_statement 87 = .ok (.iload_n 2, 1) := by decide +kernel
theorem dX8_statement_88 : decode cX8_statement 88 = .ok (.iconst (-1), 1) := by decide +kernel
theorem dX8_statement_89 : decode cX8_statement 89 = .ok (.if_icmp .eq 10, 3) := by decide +kernel
theorem dX8_statement_92 : decode cX8_statement 92 = .ok (.aload_n 0, 1) := by decide +kernel
theorem dX8_statement_93 : decode cX8_statement 93 = .ok (.invokevirtual 189, 3) := by decide +kernel
theorem dX8_statement_96 : decode cX8_statement 96 = .ok (.ifCond .ne 5, 3) := by decide +kernel
theorem dX8_statement_99 : decode cX8_statement 99 = .ok (.iconst 0, 1) := by decide +kernel
theorem dX8_statement_100 : decode cX8_statement 100 = .ok (.ireturn, 1) := by decide +kernel
theorem dX8_statement_101 : decode cX8_statement 101 = .ok (.aload_n 0, 1) := by decide +kernel
theorem dX8_statement_102 : decode cX8_statement 102 = .ok (.getfield 70, 3) := by decide +kernel
theorem dX8_statement_105 : decode cX8_statement 105 = .ok (.bipush 7, 2) := by decide +kernel
theorem dX8_statement_107 : decode cX8_statement 107 = .ok (.iload_n 1, 1) := by decide +kernel
theorem dX8_statement_108 : decode cX8_statement 108 = .ok (.imul, 1) := by decide +kernel
theorem dX8_statement_109 : decode cX8_statement 109 = .ok (.iload_n 2, 1) := by decide +kernel
theorem dX8_statement_110 : decode cX8_statement 110 = .ok (.iadd, 1) := by decide +kernel
theorem dX8_statement_111 : decode cX8_statement 111 = .ok (.aload_n 0, 1) := by decide +kernel
theorem dX8_statement_112 : decode cX8_statement 112 = .ok (.getfield 170, 3) := by decide +kernel
theorem dX8_statement_115 : decode cX8_statement 115 = .ok (.iastore, 1) := by decide +kernel
theorem dX8_statement_116 : decode cX8_statement 116 = .ok (.iload_n 2, 1) := by decide +kernel
theorem dX8_statement_117 : decode cX8_statement 117 = .ok (.ifCond .ne 37, 3) := by decide +kernel
theorem dX8_statement_120 : decode cX8_statement 120 = .ok (.aload_n 0, 1) := by decide +kernel
theorem dX8_statement_121 : decode cX8_statement 121 = .ok (.ldc2_w 193, 3) := by decide +kernel
theorem dX8_statement_124 : decode cX8_statement 124 = .ok (.invokevirtual 175, 3) := by decide +kernel
theorem dX8_statement_127 : decode cX8_statement 127 = .ok (.ifCond .eq 10, 3) := by decide +kernel
theorem dX8_statement_130 : decode cX8_statement 130 = .ok (.aload_n 0, 1) := by decide +kernel
theorem dX8_statement_131 : decode cX8_statement 131 = .ok (.invokevirtual 189, 3) := by decide +kernel
theorem dX8_statement_134 : decode cX8_statement 134 = .ok (.ifCond .ne 5, 3) := by decide +kernel
theorem dX8_statement_137 : decode cX8_statement 137 = .ok (.iconst 0, 1) := by decide +kernel
theorem dX8_statement_138 : decode cX8_statement 138 = .ok (.ireturn, 1) := by decide +kernel
theorem dX8_statement_139 : decode cX8_statement 139 = .ok (.aload_n 0, 1) := by decide +kernel
theorem dX8_statement_140 : decode cX8_statement 140 = .ok (.getfield 70, 3) := by decide +kernel
theorem dX8_statement_143 : decode cX8_statement 143 = .ok (.bipush 7, 2) := by decide +kernel
theorem dX8_statement_145 : decode cX8_statement 145 = .ok (.iload_n 1, 1) := by decide +kernel
theorem dX8_statement_146 : decode cX8_statement 146 = .ok (.imul, 1) := by decide +kernel
theorem dX8_statement_147 : decode cX8_statement 147 = .ok (.iconst 1, 1) := by decide +kernel
theorem dX8_statement_148 : decode cX8_statement 148 = .ok (.iadd, 1) := by decide +kernel
theorem dX8_statement_149 : decode cX8_statement 149 = .ok (.aload_n 0, 1) := by decide +kernel
theorem dX8_statement_150 : decode cX8_statement 150 = .ok (.getfield 170, 3) := by decide +kernel
theorem dX8_statement_153 : decode cX8_statement 153 = .ok (.iastore, 1) := by decide +kernel
theorem dX8_statement_154 : decode cX8_statement 154 = .ok (.aload_n 0, 1) := by decide +kernel
theorem dX8_statement_155 : decode cX8_statement 155 = .ok (.invokevirtual 160, 3) := by decide +kernel
theorem dX8_statement_158 : decode cX8_statement 158 = .ok (.aload_n 0, 1) := by decide +kernel
theorem dX8_statement_159 : decode cX8_statement 159 = .ok (.getfield 154, 3) := by decide +kernel
theorem dX8_statement_162 : decode cX8_statement 162 = .ok (.aload_n 0, 1) := by decide +kernel
theorem dX8_statement_163 : decode cX8_statement 163 = .ok (.getfield 157, 3) := by decide +kernel
theorem dX8_statement_166 : decode cX8_statement 166 = .ok (.if_icmp .eq 17, 3) := by decide +kernel
theorem dX8_statement_169 : decode cX8_statement 169 = .ok (.aload_n 0, 1) := by decide +kernel
theorem dX8_statement_170 : decode cX8_statement 170 = .ok (.getfield 64, 3) := by decide +kernel
theorem dX8_statement_173 : decode cX8_statement 173 = .ok (.aload_n 0, 1) := by decide +kernel
theorem dX8_statement_174 : decode cX8_statement 174 = .ok (.getfield 154, 3) := by decide +kernel
theorem dX8_statement_177 : decode cX8_statement 177 = .ok (.baload, 1) := by decide +kernel
theorem dX8_statement_178 : decode cX8_statement 178 = .ok (.bipush 59, 2) := by decide +kernel
theorem dX8_statement_180 : decode cX8_statement 180 = .ok (.if_icmp .eq 5, 3) := by decide +kernel
theorem dX8_statement_183 : decode cX8_statement 183 = .ok (.iconst 0, 1) := by decide +kernel
theorem dX8_statement_184 : decode cX8_statement 184 = .ok (.ireturn, 1) := by decide +kernel
theorem dX8_statement_185 : decode cX8_statement 185 = .ok (.aload_n 0, 1) := by decide +kernel
theorem dX8_statement_186 : decode cX8_statement 186 = .ok (.dup, 1) := by decide +kernel
theorem dX8_statement_187 : decode cX8_statement 187 = .ok (.getfield 154, 3) := by decide +kernel
theorem dX8_statement_190 : decode cX8_statement 190 = .ok (.iconst 1, 1) := by decide +kernel
theorem dX8_statement_191 : decode cX8_statement 191 = .ok (.iadd, 1) := by decide +kernel
theorem dX8_statement_192 : decode cX8_statement 192 = .ok (.putfield 154, 3) := by decide +kernel
theorem dX8_statement_195 : decode cX8_statement 195 = .ok (.iconst 1, 1) := by decide +kernel
theorem dX8_statement_196 : decode cX8_statement 196 = .ok (.ireturn, 1) := by decide +kernel
set_option maxRecDepth 20000 in
theorem ggX8_law_X8_isIn : GoodIn wsX8_law wsX8_isIn := goodIn_r _ [14] (by decide +kernel) (by decide +kernel)
set_option maxRecDepth 20000 in
theorem gX8_law_X8_isIn : GoodIn wsX8_law (va_wsS RX8 91 yX8_isIn wsX8_isIn) := goodIn_app (goodIn_of _ (by decide +kernel)) ggX8_law_X8_isIn
set_option maxRecDepth 20000 in
theorem ggX8_law_X8_plain : GoodIn wsX8_law wsX8_plain := goodIn_r _ [17] (by decide +kernel) (by decide +kernel)
set_option maxRecDepth 20000 in
theorem gX8_law_X8_plain : GoodIn wsX8_law (va_wsS RX8 198 yX8_plain wsX8_plain) := goodIn_app (goodIn_of _ (by decide +kernel)) ggX8_law_X8_plain
set_option maxRecDepth 20000 in
theorem ggX8_law_X8_blanks : GoodIn wsX8_law wsX8_blanks := goodIn_r _ [21, 6, 5, 3, 47, 48, 49, 50, 51, 52, 53, 54, 55, 56, 57, 58, 59, 60, 61, 62, 63, 64, 65, 66, 67, 68, 69, 70, 71, 72, 73, 74, 75, 76, 77, 78, 79, 80] (by decide +kernel) (by decide +kernel)
set_option maxRecDepth 20000 in
theorem gX8_law_X8_blanks : GoodIn wsX8_law (wsV RX8 160 RX8 yX8_blanks wsX8_blanks) := goodIn_app (goodIn_of _ (by decide +kernel)) ggX8_law_X8_blanks
set_option maxRecDepth 20000 in
theorem ggX8_law_X8_statement : GoodIn wsX8_law wsX8_statement := goodIn_r _ [25, 26, 27, 28, 29, 30, 31, 7, 32, 33, 6, 5, 3, 34, 35, 36, 13, 37, 38, 39, 40, 41, 42, 18, 19, 20, 21, 43, 44, 45, 46, 47, 48, 49, 50, 51, 52, 53, 54, 55, 56, 57, 58, 59, 60, 61, 62, 63, 64, 65, 66, 67, 68, 69, 70, 71, 72, 73, 74, 75, 76, 77, 78, 79, 80] (by decide +kernel) (by decide +kernel)
set_option maxRecDepth 20000 in
theorem gX8_law_X8_statement : GoodIn wsX8_law (wsV RX8 201 RX8 yX8_statement wsX8_statement) := goodIn_app (goodIn_of _ (by decide +kernel)) ggX8_law_X8_statement
theorem dX8_law_0 : decode cX8_law 0 = .ok (.iload_n 1, 1) := by decide +kernel
theorem dX8_law_1 : decode cX8_law 1 = .ok (.iconst 0, 1) := by decide +kernel
theorem dX8_law_2 : decode cX8_law 2 = .ok (.aload_n 0, 1) := by decide +kernel
theorem dX8_law_3 : decode cX8_law 3 = .ok (.getfield 147, 3) := by decide +kernel
theorem dX8_law_6 : decode cX8_law 6 = .ok (.invokestatic 91, 3) := by decide +kernel
theorem dX8_law_9 : decode cX8_law 9 = .ok (.ifCond .ne 6, 3) := by decide +kernel
theorem dX8_law_12 : decode cX8_law 12 = .ok (.bipush (-2), 2) := by decide +kernel
theorem dX8_law_14 : decode cX8_law 14 = .ok (.ireturn, 1) := by decide +kernel
theorem dX8_law_15 : decode cX8_law 15 = .ok (.aload_n 0, 1) := by decide +kernel
theorem dX8_law_16 : decode cX8_law 16 = .ok (.getfield 195, 3) := by decide +kernel
theorem dX8_law_19 : decode cX8_law 19 = .ok (.bipush 10, 2) := by decide +kernel
theorem dX8_law_21 : decode cX8_law 21 = .ok (.if_icmp .ne 6, 3) := by decide +kernel
theorem dX8_law_24 : decode cX8_law 24 = .ok (.bipush (-3), 2) := by decide +kernel
theorem dX8_law_26 : decode cX8_law 26 = .ok (.ireturn, 1) := by decide +kernel
theorem dX8_law_27 : decode cX8_law 27 = .ok (.iconst 0, 1) := by decide +kernel
theorem dX8_law_28 : decode cX8_law 28 = .ok (.istore_n 2, 1) := by decide +kernel
theorem dX8_law_29 : decode cX8_law 29 = .ok (.iload_n 2, 1) := by decide +kernel
theorem dX8_law_30 : decode cX8_law 30 = .ok (.iload_n 1, 1) := by decide +kernel
theorem dX8_law_31 : decode cX8_law 31 = .ok (.if_icmp .ge 21, 3) := by decide +kernel
theorem dX8_law_34 : decode cX8_law 34 = .ok (.aload_n 0, 1) := by decide +kernel
theorem dX8_law_35 : decode cX8_law 35 = .ok (.getfield 64, 3) := by decide +kernel
theorem dX8_law_38 : decode cX8_law 38 = .ok (.iload_n 2, 1) := by decide +kernel
theorem dX8_law_39 : decode cX8_law 39 = .ok (.aload_n 0, 1) := by decide +kernel
theorem dX8_law_40 : decode cX8_law 40 = .ok (.getfield 60, 3) := by decide +kernel
theorem dX8_law_43 : decode cX8_law 43 = .ok (.iload_n 2, 1) := by decide +kernel
theorem dX8_law_44 : decode cX8_law 44 = .ok (.baload, 1) := by decide +kernel
theorem dX8_law_45 : decode cX8_law 45 = .ok (.bastore, 1) := by decide +kernel
theorem dX8_law_46 : decode cX8_law 46 = .ok (.iinc 2 1, 3) := by decide +kernel
theorem dX8_law_49 : decode cX8_law 49 = .ok (.goto (-20), 3) := by decide +kernel
theorem dX8_law_52 : decode cX8_law 52 = .ok (.aload_n 0, 1) := by decide +kernel
theorem dX8_law_53 : decode cX8_law 53 = .ok (.iload_n 1, 1) := by decide +kernel
theorem dX8_law_54 : decode cX8_law 54 = .ok (.putfield 157, 3) := by decide +kernel
theorem dX8_law_57 : decode cX8_law 57 = .ok (.aload_n 0, 1) := by decide +kernel
theorem dX8_law_58 : decode cX8_law 58 = .ok (.iconst 0, 1) := by decide +kernel
theorem dX8_law_59 : decode cX8_law 59 = .ok (.putfield 147, 3) := by decide +kernel
theorem dX8_law_62 : decode cX8_law 62 = .ok (.aload_n 0, 1) := by decide +kernel
theorem dX8_law_63 : decode cX8_law 63 = .ok (.iconst 0, 1) := by decide +kernel
theorem dX8_law_64 : decode cX8_law 64 = .ok (.putfield 154, 3) := by decide +kernel
theorem dX8_law_67 : decode cX8_law 67 = .ok (.iconst 0, 1) := by decide +kernel
theorem dX8_law_68 : decode cX8_law 68 = .ok (.istore_n 2, 1) := by decide +kernel
theorem dX8_law_69 : decode cX8_law 69 = .ok (.iload_n 2, 1) := by decide +kernel
theorem dX8_law_70 : decode cX8_law 70 = .ok (.bipush 7, 2) := by decide +kernel
theorem dX8_law_72 : decode cX8_law 72 = .ok (.if_icmp .ge 27, 3) := by decide +kernel
theorem dX8_law_75 : decode cX8_law 75 = .ok (.aload_n 0, 1) := by decide +kernel
theorem dX8_law_76 : decode cX8_law 76 = .ok (.getfield 70, 3) := by decide +kernel
theorem dX8_law_79 : decode cX8_law 79 = .ok (.bipush 7, 2) := by decide +kernel
theorem dX8_law_81 : decode cX8_law 81 = .ok (.aload_n 0, 1) := by decide +kernel
theorem dX8_law_82 : decode cX8_law 82 = .ok (.getfield 195, 3) := by decide +kernel
theorem dX8_law_85 : decode cX8_law 85 = .ok (.imul, 1) := by decide +kernel
theorem dX8_law_86 : decode cX8_law 86 = .ok (.iload_n 2, 1) := by decide +kernel
theorem dX8_law_87 : decode cX8_law 87 = .ok (.iadd, 1) := by decide +kernel
theorem dX8_law_88 : decode cX8_law 88 = .ok (.iload_n 2, 1) := by decide +kernel
theorem dX8_law_89 : decode cX8_law 89 = .ok (.invokestatic 198, 3) := by decide +kernel
theorem dX8_law_92 : decode cX8_law 92 = .ok (.iastore, 1) := by decide +kernel
theorem dX8_law_93 : decode cX8_law 93 = .ok (.iinc 2 1, 3) := by decide +kernel
theorem dX8_law_96 : decode cX8_law 96 = .ok (.goto (-27), 3) := by decide +kernel
theorem dX8_law_99 : decode cX8_law 99 = .ok (.iconst 0, 1) := by decide +kernel
theorem dX8_law_100 : decode cX8_law 100 = .ok (.istore_n 2, 1) := by decide +kernel
theorem dX8_law_101 : decode cX8_law 101 = .ok (.iconst 1, 1) := by decide +kernel
theorem dX8_law_102 : decode cX8_law 102 = .ok (.istore_n 3, 1) := by decide +kernel
theorem dX8_law_103 : decode cX8_law 103 = .ok (.aload_n 0, 1) := by decide +kernel
theorem dX8_law_104 : decode cX8_law 104 = .ok (.invokevirtual 160, 3) := by decide +kernel
theorem dX8_law_107 : decode cX8_law 107 = .ok (.iload_n 3, 1) := by decide +kernel
theorem dX8_law_108 : decode cX8_law 108 = .ok (.ifCond .eq 51, 3) := by decide +kernel
theorem dX8_law_111 : decode cX8_law 111 = .ok (.aload_n 0, 1) := by decide +kernel
theorem dX8_law_112 : decode cX8_law 112 = .ok (.getfield 154, 3) := by decide +kernel
theorem dX8_law_115 : decode cX8_law 115 = .ok (.aload_n 0, 1) := by decide +kernel
