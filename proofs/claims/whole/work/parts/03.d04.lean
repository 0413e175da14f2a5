set_option maxRecDepth 20000 in
theorem ggX7_dig_X7_within : GoodIn wsX7_dig wsX7_within := goodIn_r _ [9] (by decide +kernel) (by decide +kernel)
set_option maxRecDepth 20000 in
theorem gX7_dig_X7_within : GoodIn wsX7_dig (va_wsS RX7 85 yX7_within wsX7_within) := goodIn_app (goodIn_of _ (by decide +kernel)) ggX7_dig_X7_within
set_option maxRecDepth 20000 in
theorem ggX7_dig_X7_bars : GoodIn wsX7_dig wsX7_bars := goodIn_r _ [13, 1, 2, 4, 14, 15, 16, 17, 18, 19, 20, 21, 22, 23, 24, 25, 26, 7, 8, 9, 27, 28, 29, 30, 31, 32, 33, 34, 35, 36, 37, 38, 39, 40, 41, 42, 43, 44, 45, 46, 47, 48, 49, 50, 3, 51, 52, 53, 54, 55, 56, 57, 58, 59, 60, 61, 62, 63, 64, 65, 66, 6, 67, 68, 69, 70, 71, 72, 73, 74, 75, 76, 77, 78, 79, 80, 81, 82, 83, 84, 85, 86, 87, 88, 89, 90, 91, 92, 93, 94, 95, 96, 97, 98, 156, 157, 158, 159, 160, 161, 162, 163, 164, 165, 166, 167, 168, 169, 170, 171, 172, 173, 174, 175, 176, 177, 178, 179, 180, 181, 182, 183, 184] (by decide +kernel) (by decide +kernel)
set_option maxRecDepth 20000 in
theorem gX7_dig_X7_bars : GoodIn wsX7_dig (wsV RX7 181 RX7 yX7_bars wsX7_bars) := goodIn_app (goodIn_of _ (by decide +kernel)) ggX7_dig_X7_bars
set_option maxRecDepth 20000 in
theorem ggX7_dig_X6_nextRow : GoodIn wsX7_dig wsX6_nextRow := goodIn_r _ [18, 19, 166, 167, 168, 169, 170, 171] (by decide +kernel) (by decide +kernel)
set_option maxRecDepth 20000 in
theorem gX7_dig_X6_nextRow : GoodIn wsX7_dig (wsV RX7 130 RX6 yX6_nextRow wsX6_nextRow) := goodIn_app (goodIn_of _ (by decide +kernel)) ggX7_dig_X6_nextRow
set_option maxRecDepth 20000 in
theorem ggX7_dig_X1_depthAt : GoodIn wsX7_dig wsX1_depthAt := goodIn_r _ [70, 71, 26, 172, 173, 174, 175, 176, 177, 178] (by decide +kernel) (by decide +kernel)
set_option maxRecDepth 20000 in
theorem gX7_dig_X1_depthAt : GoodIn wsX7_dig (wsV RX7 102 RX1 yX1_depthAt wsX1_depthAt) := goodIn_app (goodIn_of _ (by decide +kernel)) ggX7_dig_X1_depthAt
set_option maxRecDepth 20000 in
theorem ggX7_dig_X1_tell : GoodIn wsX7_dig wsX1_tell := goodIn_r _ [102, 103, 26, 104, 105, 106, 23, 107, 108, 109, 110, 111, 112, 113, 114, 115, 116, 117, 25, 118, 119, 120, 121, 122, 123, 124, 33, 125, 126, 127, 128, 129, 130, 131, 132, 133, 134, 135, 136, 172, 173, 174, 175, 176, 177, 178] (by decide +kernel) (by decide +kernel)
set_option maxRecDepth 20000 in
theorem gX7_dig_X1_tell : GoodIn wsX7_dig (wsV RX7 96 RX1 yX1_tell wsX1_tell) := goodIn_app (goodIn_of _ (by decide +kernel)) ggX7_dig_X1_tell
set_option maxRecDepth 20000 in
theorem ggX7_dig_X6_goTo : GoodIn wsX7_dig wsX6_goTo := goodIn_r _ [140, 19, 39, 141, 166, 167, 168, 169, 170, 171] (by decide +kernel) (by decide +kernel)
set_option maxRecDepth 20000 in
theorem gX7_dig_X6_goTo : GoodIn wsX7_dig (wsV RX7 184 RX6 yX6_goTo wsX6_goTo) := goodIn_app (goodIn_of _ (by decide +kernel)) ggX7_dig_X6_goTo
set_option maxRecDepth 20000 in
theorem ggX7_dig_X4_stir : GoodIn wsX7_dig wsX4_stir := goodIn_r _ [145, 86, 98, 146, 88, 43, 89, 179, 180, 181] (by decide +kernel) (by decide +kernel)
set_option maxRecDepth 20000 in
theorem gX7_dig_X4_stir : GoodIn wsX7_dig (wsV RX7 187 RX4 yX4_stir wsX4_stir) := goodIn_app (goodIn_of _ (by decide +kernel)) ggX7_dig_X4_stir
set_option maxRecDepth 20000 in
theorem ggX7_dig_X0_fill : GoodIn wsX7_dig wsX0_fill := goodIn_r _ [151, 152, 153, 154, 155, 7, 8, 9, 185, 186, 187, 188] (by decide +kernel) (by decide +kernel)
set_option maxRecDepth 20000 in
theorem gX7_dig_X0_fill : GoodIn wsX7_dig (wsV RX7 190 RX0 yX0_fill wsX0_fill) := goodIn_app (goodIn_of _ (by decide +kernel)) ggX7_dig_X0_fill
theorem dX7_dig_0 : decode cX7_dig 0 = .ok (.iload_n 2, 1) := by decide +kernel
theorem dX7_dig_1 : decode cX7_dig 1 = .ok (.iconst 0, 1) := by decide +kernel
theorem dX7_dig_2 : decode cX7_dig 2 = .ok (.sipush 1000, 3) := by decide +kernel
theorem dX7_dig_5 : decode cX7_dig 5 = .ok (.invokestatic 85, 3) := by decide +kernel
theorem dX7_dig_8 : decode cX7_dig 8 = .ok (.ifCond .eq 11, 3) := by decide +kernel
theorem dX7_dig_11 : decode cX7_dig 11 = .ok (.aload_n 0, 1) := by decide +kernel
theorem dX7_dig_12 : decode cX7_dig 12 = .ok (.iload_n 1, 1) := by decide +kernel
theorem dX7_dig_13 : decode cX7_dig 13 = .ok (.invokevirtual 181, 3) := by decide +kernel
theorem dX7_dig_16 : decode cX7_dig 16 = .ok (.ifCond .eq 5, 3) := by decide +kernel
theorem dX7_dig_19 : decode cX7_dig 19 = .ok (.iconst (-1), 1) := by decide +kernel
theorem dX7_dig_20 : decode cX7_dig 20 = .ok (.ireturn, 1) := by decide +kernel
theorem dX7_dig_21 : decode cX7_dig 21 = .ok (.aload_n 0, 1) := by decide +kernel
theorem dX7_dig_22 : decode cX7_dig 22 = .ok (.getfield 70, 3) := by decide +kernel
theorem dX7_dig_25 : decode cX7_dig 25 = .ok (.invokevirtual 130, 3) := by decide +kernel
theorem dX7_dig_28 : decode cX7_dig 28 = .ok (.istore_n 3, 1) := by decide +kernel
theorem dX7_dig_29 : decode cX7_dig 29 = .ok (.aload_n 0, 1) := by decide +kernel
theorem dX7_dig_30 : decode cX7_dig 30 = .ok (.getfield 61, 3) := by decide +kernel
theorem dX7_dig_33 : decode cX7_dig 33 = .ok (.iload_n 3, 1) := by decide +kernel
theorem dX7_dig_34 : decode cX7_dig 34 = .ok (.iload_n 1, 1) := by decide +kernel
theorem dX7_dig_35 : decode cX7_dig 35 = .ok (.invokevirtual 102, 3) := by decide +kernel
theorem dX7_dig_38 : decode cX7_dig 38 = .ok (.istore 4, 2) := by decide +kernel
theorem dX7_dig_40 : decode cX7_dig 40 = .ok (.aload_n 0, 1) := by decide +kernel
theorem dX7_dig_41 : decode cX7_dig 41 = .ok (.getfield 61, 3) := by decide +kernel
theorem dX7_dig_44 : decode cX7_dig 44 = .ok (.iload_n 3, 1) := by decide +kernel
theorem dX7_dig_45 : decode cX7_dig 45 = .ok (.iload_n 1, 1) := by decide +kernel
theorem dX7_dig_46 : decode cX7_dig 46 = .ok (.iload_n 2, 1) := by decide +kernel
theorem dX7_dig_47 : decode cX7_dig 47 = .ok (.invokevirtual 96, 3) := by decide +kernel
theorem dX7_dig_50 : decode cX7_dig 50 = .ok (.aload_n 0, 1) := by decide +kernel
theorem dX7_dig_51 : decode cX7_dig 51 = .ok (.getfield 70, 3) := by decide +kernel
theorem dX7_dig_54 : decode cX7_dig 54 = .ok (.iload_n 1, 1) := by decide +kernel
theorem dX7_dig_55 : decode cX7_dig 55 = .ok (.aload_n 0, 1) := by decide +kernel
theorem dX7_dig_56 : decode cX7_dig 56 = .ok (.getfield 37, 3) := by decide +kernel
theorem dX7_dig_59 : decode cX7_dig 59 = .ok (.invokevirtual 184, 3) := by decide +kernel
theorem dX7_dig_62 : decode cX7_dig 62 = .ok (.aload_n 0, 1) := by decide +kernel
theorem dX7_dig_63 : decode cX7_dig 63 = .ok (.getfield 10, 3) := by decide +kernel
theorem dX7_dig_66 : decode cX7_dig 66 = .ok (.iload 4, 2) := by decide +kernel
theorem dX7_dig_68 : decode cX7_dig 68 = .ok (.invokevirtual 187, 3) := by decide +kernel
theorem dX7_dig_71 : decode cX7_dig 71 = .ok (.aload_n 0, 1) := by decide +kernel
theorem dX7_dig_72 : decode cX7_dig 72 = .ok (.getfield 19, 3) := by decide +kernel
theorem dX7_dig_75 : decode cX7_dig 75 = .ok (.iload 4, 2) := by decide +kernel
theorem dX7_dig_77 : decode cX7_dig 77 = .ok (.iload_n 2, 1) := by decide +kernel
theorem dX7_dig_78 : decode cX7_dig 78 = .ok (.imul, 1) := by decide +kernel
theorem dX7_dig_79 : decode cX7_dig 79 = .ok (.aload_n 0, 1) := by decide +kernel
theorem dX7_dig_80 : decode cX7_dig 80 = .ok (.getfield 37, 3) := by decide +kernel
theorem dX7_dig_83 : decode cX7_dig 83 = .ok (.bipush 30, 2) := by decide +kernel
theorem dX7_dig_85 : decode cX7_dig 85 = .ok (.idiv, 1) := by decide +kernel
theorem dX7_dig_86 : decode cX7_dig 86 = .ok (.invokevirtual 190, 3) := by decide +kernel
theorem dX7_dig_89 : decode cX7_dig 89 = .ok (.ireturn, 1) := by decide +kernel
set_option maxRecDepth 20000 in
theorem ggX7_jig_X7_within : GoodIn wsX7_jig wsX7_within := goodIn_r _ [5] (by decide +kernel) (by decide +kernel)
set_option maxRecDepth 20000 in
theorem gX7_jig_X7_within : GoodIn wsX7_jig (va_wsS RX7 85 yX7_within wsX7_within) := goodIn_app (goodIn_of _ (by decide +kernel)) ggX7_jig_X7_within
set_option maxRecDepth 20000 in
theorem ggX7_jig_X0_run : GoodIn wsX7_jig wsX0_run := goodIn_r _ [10, 11, 22, 23, 24, 25] (by decide +kernel) (by decide +kernel)
set_option maxRecDepth 20000 in
theorem gX7_jig_X0_run : GoodIn wsX7_jig (wsV RX7 193 RX0 yX0_run wsX0_run) := goodIn_app (goodIn_of _ (by decide +kernel)) ggX7_jig_X0_run
theorem dX7_jig_0 : decode cX7_jig 0 = .ok (.iload_n 1, 1) := by decide +kernel
theorem dX7_jig_1 : decode cX7_jig 1 = .ok (.iconst 0, 1) := by decide +kernel
theorem dX7_jig_2 : decode cX7_jig 2 = .ok (.bipush 9, 2) := by decide +kernel
theorem dX7_jig_4 : decode cX7_jig 4 = .ok (.invokestatic 85, 3) := by decide +kernel
theorem dX7_jig_7 : decode cX7_jig 7 = .ok (.ifCond .ne 5, 3) := by decide +kernel
theorem dX7_jig_10 : decode cX7_jig 10 = .ok (.iconst 0, 1) := by decide +kernel
theorem dX7_jig_11 : decode cX7_jig 11 = .ok (.ireturn, 1) := by decide +kernel
theorem dX7_jig_12 : decode cX7_jig 12 = .ok (.aload_n 0, 1) := by decide +kernel
theorem dX7_jig_13 : decode cX7_jig 13 = .ok (.getfield 19, 3) := by decide +kernel
theorem dX7_jig_16 : decode cX7_jig 16 = .ok (.iload_n 1, 1) := by decide +kernel
theorem dX7_jig_17 : decode cX7_jig 17 = .ok (.invokevirtual 193, 3) := by decide +kernel
theorem dX7_jig_20 : decode cX7_jig 20 = .ok (.iconst 1, 1) := by decide +kernel
theorem dX7_jig_21 : decode cX7_jig 21 = .ok (.ireturn, 1) := by decide +kernel
set_option maxRecDepth 20000 in
theorem ggX7_let_X4_level : GoodIn wsX7_let wsX4_level := goodIn_r _ [7, 8, 58, 59, 60] (by decide +kernel) (by decide +kernel)
set_option maxRecDepth 20000 in
theorem gX7_let_X4_level : GoodIn wsX7_let (wsV RX7 162 RX4 yX4_level wsX4_level) := goodIn_app (goodIn_of _ (by decide +kernel)) ggX7_let_X4_level
set_option maxRecDepth 20000 in
theorem ggX7_let_X7_within : GoodIn wsX7_let wsX7_within := goodIn_r _ [12] (by decide +kernel) (by decide +kernel)
set_option maxRecDepth 20000 in
theorem gX7_let_X7_within : GoodIn wsX7_let (va_wsS RX7 85 yX7_within wsX7_within) := goodIn_app (goodIn_of _ (by decide +kernel)) ggX7_let_X7_within
set_option maxRecDepth 20000 in
theorem ggX7_let_X7_isMuddy : GoodIn wsX7_let wsX7_isMuddy := goodIn_r _ [16, 1, 17, 18, 19, 6, 20, 21, 22, 23, 24, 11, 25, 26, 27, 28, 29, 30, 31, 32, 33, 34, 35, 36, 37, 38, 39, 10, 12, 40, 41, 42, 43, 48, 49, 50, 51, 52, 53, 54, 55, 56, 57, 58, 59, 60, 61, 62, 63] (by decide +kernel) (by decide +kernel)
set_option maxRecDepth 20000 in
theorem gX7_let_X7_isMuddy : GoodIn wsX7_let (wsV RX7 177 RX7 yX7_isMuddy wsX7_isMuddy) := goodIn_app (goodIn_of _ (by decide +kernel)) ggX7_let_X7_isMuddy
set_option maxRecDepth 20000 in
theorem ggX7_let_X7_lawToday : GoodIn wsX7_let wsX7_lawToday := goodIn_r _ [25, 26, 27, 28, 29, 30, 31, 32, 33, 34, 35, 36, 37, 38, 39, 10, 11, 12, 40, 41, 42, 43, 48, 49, 50, 51, 52, 53, 54, 55, 56, 57, 61, 62, 63] (by decide +kernel) (by decide +kernel)
set_option maxRecDepth 20000 in
theorem gX7_let_X7_lawToday : GoodIn wsX7_let (wsV RX7 165 RX7 yX7_lawToday wsX7_lawToday) := goodIn_app (goodIn_of _ (by decide +kernel)) ggX7_let_X7_lawToday
set_option maxRecDepth 20000 in
theorem ggX7_let_X4_drain : GoodIn wsX7_let wsX4_drain := goodIn_r _ [47, 8, 58, 59, 60] (by decide +kernel) (by decide +kernel)
set_option maxRecDepth 20000 in
theorem gX7_let_X4_drain : GoodIn wsX7_let (wsV RX7 196 RX4 yX4_drain wsX4_drain) := goodIn_app (goodIn_of _ (by decide +kernel)) ggX7_let_X4_drain
theorem dX7_let_0 : decode cX7_let 0 = .ok (.iload_n 1, 1) := by decide +kernel
theorem dX7_let_1 : decode cX7_let 1 = .ok (.iconst 1, 1) := by decide +kernel
theorem dX7_let_2 : decode cX7_let 2 = .ok (.aload_n 0, 1) := by decide +kernel
theorem dX7_let_3 : decode cX7_let 3 = .ok (.getfield 10, 3) := by decide +kernel
theorem dX7_let_6 : decode cX7_let 6 = .ok (.invokevirtual 162, 3) := by decide +kernel
theorem dX7_let_9 : decode cX7_let 9 = .ok (.invokestatic 85, 3) := by decide +kernel
theorem dX7_let_12 : decode cX7_let 12 = .ok (.ifCond .ne 5, 3) := by decide +kernel
theorem dX7_let_15 : decode cX7_let 15 = .ok (.iconst (-1), 1) := by decide +kernel
theorem dX7_let_16 : decode cX7_let 16 = .ok (.ireturn, 1) := by decide +kernel
theorem dX7_let_17 : decode cX7_let 17 = .ok (.aload_n 0, 1) := by decide +kernel
theorem dX7_let_18 : decode cX7_let 18 = .ok (.invokevirtual 177, 3) := by decide +kernel
theorem dX7_let_21 : decode cX7_let 21 = .ok (.ifCond .eq 18, 3) := by decide +kernel
theorem dX7_let_24 : decode cX7_let 24 = .ok (.aload_n 0, 1) := by decide +kernel
theorem dX7_let_25 : decode cX7_let 25 = .ok (.dup, 1) := by decide +kernel
theorem dX7_let_26 : decode cX7_let 26 = .ok (.getfield 41, 3) := by decide +kernel
theorem dX7_let_29 : decode cX7_let 29 = .ok (.aload_n 0, 1) := by decide +kernel
theorem dX7_let_30 : decode cX7_let 30 = .ok (.bipush 6, 2) := by decide +kernel
theorem dX7_let_32 : decode cX7_let 32 = .ok (.invokevirtual 165, 3) := by decide +kernel
theorem dX7_let_35 : decode cX7_let 35 = .ok (.iadd, 1) := by decide +kernel
theorem dX7_let_36 : decode cX7_let 36 = .ok (.putfield 41, 3) := by decide +kernel
theorem dX7_let_39 : decode cX7_let 39 = .ok (.aload_n 0, 1) := by decide +kernel
theorem dX7_let_40 : decode cX7_let 40 = .ok (.getfield 10, 3) := by decide +kernel
theorem dX7_let_43 : decode cX7_let 43 = .ok (.iload_n 1, 1) := by decide +kernel
theorem dX7_let_44 : decode cX7_let 44 = .ok (.invokevirtual 196, 3) := by decide +kernel
theorem dX7_let_47 : decode cX7_let 47 = .ok (.aload_n 0, 1) := by decide +kernel
theorem dX7_let_48 : decode cX7_let 48 = .ok (.getfield 10, 3) := by decide +kernel
theorem dX7_let_51 : decode cX7_let 51 = .ok (.invokevirtual 162, 3) := by decide +kernel
theorem dX7_let_54 : decode cX7_let 54 = .ok (.ireturn, 1) := by decide +kernel
set_option maxRecDepth 20000 in
theorem ggX7_day_X7_within : GoodIn wsX7_day wsX7_within := goodIn_r _ [8] (by decide +kernel) (by decide +kernel)
set_option maxRecDepth 20000 in
theorem gX7_day_X7_within : GoodIn wsX7_day (va_wsS RX7 85 yX7_within wsX7_within) := goodIn_app (goodIn_of _ (by decide +kernel)) ggX7_day_X7_within
set_option maxRecDepth 20000 in
theorem ggX7_day_X7_lawToday : GoodIn wsX7_day wsX7_lawToday := goodIn_r _ [12, 13, 1, 14, 15, 16, 17, 18, 19, 20, 21, 22, 23, 24, 25, 6, 7, 8, 26, 27, 28, 29, 54, 55, 56, 57, 58, 59, 60, 61, 62, 63, 64, 65, 66] (by decide +kernel) (by decide +kernel)
set_option maxRecDepth 20000 in
theorem gX7_day_X7_lawToday : GoodIn wsX7_day (wsV RX7 165 RX7 yX7_lawToday wsX7_lawToday) := goodIn_app (goodIn_of _ (by decide +kernel)) ggX7_day_X7_lawToday
set_option maxRecDepth 20000 in
theorem ggX7_day_X6_fineAll : GoodIn wsX7_day wsX6_fineAll := goodIn_r _ [34, 35, 36, 37, 38, 67, 68, 69, 70, 71, 72] (by decide +kernel) (by decide +kernel)
set_option maxRecDepth 20000 in
theorem gX7_day_X6_fineAll : GoodIn wsX7_day (wsV RX7 199 RX6 yX6_fineAll wsX6_fineAll) := goodIn_app (goodIn_of _ (by decide +kernel)) ggX7_day_X6_fineAll
set_option maxRecDepth 20000 in
theorem ggX7_day_X4_passNight : GoodIn wsX7_day wsX4_passNight := goodIn_r _ [43, 44, 45, 46, 47, 48, 49, 50, 51, 52, 53, 73, 74, 75] (by decide +kernel) (by decide +kernel)
set_option maxRecDepth 20000 in
theorem gX7_day_X4_passNight : GoodIn wsX7_day (wsV RX7 202 RX4 yX4_passNight wsX4_passNight) := goodIn_app (goodIn_of _ (by decide +kernel)) ggX7_day_X4_passNight
theorem dX7_day_0 : decode cX7_day 0 = .ok (.iload_n 1, 1) := by decide +kernel
theorem dX7_day_1 : decode cX7_day 1 = .ok (.iconst 0, 1) := by decide +kernel
theorem dX7_day_2 : decode cX7_day 2 = .ok (.sipush 200, 3) := by decide +kernel
theorem dX7_day_5 : decode cX7_day 5 = .ok (.invokestatic 85, 3) := by decide +kernel
theorem dX7_day_8 : decode cX7_day 8 = .ok (.ifCond .eq 13, 3) := by decide +kernel
theorem dX7_day_11 : decode cX7_day 11 = .ok (.aload_n 0, 1) := by decide +kernel
theorem dX7_day_12 : decode cX7_day 12 = .ok (.getfield 37, 3) := by decide +kernel
theorem dX7_day_15 : decode cX7_day 15 = .ok (.sipush 600, 3) := by decide +kernel
theorem dX7_day_18 : decode cX7_day 18 = .ok (.if_icmp .lt 5, 3) := by decide +kernel
theorem dX7_day_21 : decode cX7_day 21 = .ok (.iconst (-1), 1) := by decide +kernel
theorem dX7_day_22 : decode cX7_day 22 = .ok (.ireturn, 1) := by decide +kernel
theorem dX7_day_23 : decode cX7_day 23 = .ok (.aload_n 0, 1) := by decide +kernel
theorem dX7_day_24 : decode cX7_day 24 = .ok (.dup, 1) := by decide +kernel
theorem dX7_day_25 : decode cX7_day 25 = .ok (.getfield 41, 3) := by decide +kernel
theorem dX7_day_28 : decode cX7_day 28 = .ok (.aload_n 0, 1) := by decide +kernel
theorem dX7_day_29 : decode cX7_day 29 = .ok (.getfield 70, 3) := by decide +kernel
theorem dX7_day_32 : decode cX7_day 32 = .ok (.aload_n 0, 1) := by decide +kernel
theorem dX7_day_33 : decode cX7_day 33 = .ok (.getfield 37, 3) := by decide +kernel
theorem dX7_day_36 : decode cX7_day 36 = .ok (.aload_n 0, 1) := by decide +kernel
theorem dX7_day_37 : decode cX7_day 37 = .ok (.iconst 4, 1) := by decide +kernel
theorem dX7_day_38 : decode cX7_day 38 = .ok (.invokevirtual 165, 3) := by decide +kernel
theorem dX7_day_41 : decode cX7_day 41 = .ok (.isub, 1) := by decide +kernel
theorem dX7_day_42 : decode cX7_day 42 = .ok (.invokevirtual 199, 3) := by decide +kernel
theorem dX7_day_45 : decode cX7_day 45 = .ok (.aload_n 0, 1) := by decide +kernel
theorem dX7_day_46 : decode cX7_day 46 = .ok (.bipush 6, 2) := by decide +kernel
theorem dX7_day_48 : decode cX7_day 48 = .ok (.invokevirtual 165, 3) := by decide +kernel
theorem dX7_day_51 : decode cX7_day 51 = .ok (.imul, 1) := by decide +kernel
theorem dX7_day_52 : decode cX7_day 52 = .ok (.iadd, 1) := by decide +kernel
theorem dX7_day_53 : decode cX7_day 53 = .ok (.putfield 41, 3) := by decide +kernel
theorem dX7_day_56 : decode cX7_day 56 = .ok (.aload_n 0, 1) := by decide +kernel
theorem dX7_day_57 : decode cX7_day 57 = .ok (.getfield 10, 3) := by decide +kernel
theorem dX7_day_60 : decode cX7_day 60 = .ok (.iload_n 1, 1) := by decide +kernel
theorem dX7_day_61 : decode cX7_day 61 = .ok (.invokevirtual 202, 3) := by decide +kernel
theorem dX7_day_64 : decode cX7_day 64 = .ok (.aload_n 0, 1) := by decide +kernel
theorem dX7_day_65 : decode cX7_day 65 = .ok (.dup, 1) := by decide +kernel
theorem dX7_day_66 : decode cX7_day 66 = .ok (.getfield 37, 3) := by decide +kernel
theorem dX7_day_69 : decode cX7_day 69 = .ok (.iconst 1, 1) := by decide +kernel
theorem dX7_day_70 : decode cX7_day 70 = .ok (.iadd, 1) := by decide +kernel
theorem dX7_day_71 : decode cX7_day 71 = .ok (.putfield 37, 3) := by decide +kernel
theorem dX7_day_74 : decode cX7_day 74 = .ok (.aload_n 0, 1) := by decide +kernel
theorem dX7_day_75 : decode cX7_day 75 = .ok (.getfield 37, 3) := by decide +kernel
theorem dX7_day_78 : decode cX7_day 78 = .ok (.ireturn, 1) := by decide +kernel
set_option maxRecDepth 20000 in
theorem ggX7_back_X6_layBack : GoodIn wsX7_back wsX6_layBack := goodIn_r _ [6, 7, 8, 9, 10, 11, 5, 12, 13, 14, 15, 16, 17, 18, 19, 20, 21, 32, 33, 34, 35, 36, 37] (by decide +kernel) (by decide +kernel)
set_option maxRecDepth 20000 in
theorem gX7_back_X6_layBack : GoodIn wsX7_back (wsV RX7 205 RX6 yX6_layBack wsX6_layBack) := goodIn_app (goodIn_of _ (by decide +kernel)) ggX7_back_X6_layBack
theorem dX7_back_0 : decode cX7_back 0 = .ok (.aload_n 0, 1) := by decide +kernel
theorem dX7_back_1 : decode cX7_back 1 = .ok (.getfield 70, 3) := by decide +kernel
theorem dX7_back_4 : decode cX7_back 4 = .ok (.iload_n 1, 1) := by decide +kernel
theorem dX7_back_5 : decode cX7_back 5 = .ok (.iload_n 2, 1) := by decide +kernel
theorem dX7_back_6 : decode cX7_back 6 = .ok (.invokevirtual 205, 3) := by decide +kernel
theorem dX7_back_9 : decode cX7_back 9 = .ok (.ireturn, 1) := by decide +kernel
set_option maxRecDepth 20000 in
theorem ggX7_feed_X3_hasRoom : GoodIn wsX7_feed wsX3_hasRoom := goodIn_r _ [6, 7, 27, 28, 29, 30, 31, 32, 33] (by decide +kernel) (by decide +kernel)
set_option maxRecDepth 20000 in
theorem gX7_feed_X3_hasRoom : GoodIn wsX7_feed (wsV RX7 208 RX3 yX3_hasRoom wsX3_hasRoom) := goodIn_app (goodIn_of _ (by decide +kernel)) ggX7_feed_X3_hasRoom
set_option maxRecDepth 20000 in
theorem ggX7_feed_X3_append : GoodIn wsX7_feed wsX3_append := goodIn_r _ [11, 7, 12, 27, 28, 29, 30, 31, 32, 33] (by decide +kernel) (by decide +kernel)
set_option maxRecDepth 20000 in
theorem gX7_feed_X3_append : GoodIn wsX7_feed (wsV RX7 211 RX3 yX3_append wsX3_append) := goodIn_app (goodIn_of _ (by decide +kernel)) ggX7_feed_X3_append
set_option maxRecDepth 20000 in
theorem ggX7_feed_X3_size : GoodIn wsX7_feed wsX3_size := goodIn_r _ [16, 7, 27, 28, 29, 30, 31, 32, 33] (by decide +kernel) (by decide +kernel)
set_option maxRecDepth 20000 in
theorem gX7_feed_X3_size : GoodIn wsX7_feed (wsV RX7 214 RX3 yX3_size wsX3_size) := goodIn_app (goodIn_of _ (by decide +kernel)) ggX7_feed_X3_size
theorem dX7_feed_0 : decode cX7_feed 0 = .ok (.aload_n 0, 1) := by decide +kernel
theorem dX7_feed_1 : decode cX7_feed 1 = .ok (.getfield 33, 3) := by decide +kernel
theorem dX7_feed_4 : decode cX7_feed 4 = .ok (.invokevirtual 208, 3) := by decide +kernel
theorem dX7_feed_7 : decode cX7_feed 7 = .ok (.ifCond .ne 5, 3) := by decide +kernel
theorem dX7_feed_10 : decode cX7_feed 10 = .ok (.iconst (-1), 1) := by decide +kernel
theorem dX7_feed_11 : decode cX7_feed 11 = .ok (.ireturn, 1) := by decide +kernel
theorem dX7_feed_12 : decode cX7_feed 12 = .ok (.aload_n 0, 1) := by decide +kernel
theorem dX7_feed_13 : decode cX7_feed 13 = .ok (.getfield 33, 3) := by decide +kernel
theorem dX7_feed_16 : decode cX7_feed 16 = .ok (.iload_n 1, 1) := by decide +kernel
theorem dX7_feed_17 : decode cX7_feed 17 = .ok (.invokevirtual 211, 3) := by decide +kernel
theorem dX7_feed_20 : decode cX7_feed 20 = .ok (.aload_n 0, 1) := by decide +kernel
theorem dX7_feed_21 : decode cX7_feed 21 = .ok (.getfield 33, 3) := by decide +kernel
theorem dX7_feed_24 : decode cX7_feed 24 = .ok (.iload_n 2, 1) := by decide +kernel
theorem dX7_feed_25 : decode cX7_feed 25 = .ok (.invokevirtual 211, 3) := by decide +kernel
theorem dX7_feed_28 : decode cX7_feed 28 = .ok (.aload_n 0, 1) := by decide +kernel
theorem dX7_feed_29 : decode cX7_feed 29 = .ok (.getfield 33, 3) := by decide +kernel
theorem dX7_feed_32 : decode cX7_feed 32 = .ok (.iload_n 3, 1) := by decide +kernel
theorem dX7_feed_33 : decode cX7_feed 33 = .ok (.invokevirtual 211, 3) := by decide +kernel
theorem dX7_feed_36 : decode cX7_feed 36 = .ok (.aload_n 0, 1) := by decide +kernel
theorem dX7_feed_37 : decode cX7_feed 37 = .ok (.getfield 33, 3) := by decide +kernel
theorem dX7_feed_40 : decode cX7_feed 40 = .ok (.iload 4, 2) := by decide +kernel
theorem dX7_feed_42 : decode cX7_feed 42 = .ok (.invokevirtual 211, 3) := by decide +kernel
theorem dX7_feed_45 : decode cX7_feed 45 = .ok (.aload_n 0, 1) := by decide +kernel
theorem dX7_feed_46 : decode cX7_feed 46 = .ok (.getfield 33, 3) := by decide +kernel
theorem dX7_feed_49 : decode cX7_feed 49 = .ok (.iload 5, 2) := by decide +kernel
theorem dX7_feed_51 : decode cX7_feed 51 = .ok (.invokevirtual 211, 3) := by decide +kernel
theorem dX7_feed_54 : decode cX7_feed 54 = .ok (.aload_n 0, 1) := by decide +kernel
theorem dX7_feed_55 : decode cX7_feed 55 = .ok (.getfield 33, 3) := by decide +kernel
theorem dX7_feed_58 : decode cX7_feed 58 = .ok (.invokevirtual 214, 3) := by decide +kernel
theorem dX7_feed_61 : decode cX7_feed 61 = .ok (.ireturn, 1) := by decide +kernel
set_option maxRecDepth 20000 in
theorem ggX7_law_X3_size : GoodIn wsX7_law wsX3_size := goodIn_r _ [9, 10, 138, 139, 140, 141, 142, 143, 144] (by decide +kernel) (by decide +kernel)
set_option maxRecDepth 20000 in
theorem gX7_law_X3_size : GoodIn wsX7_law (wsV RX7 214 RX3 yX3_size wsX3_size) := goodIn_app (goodIn_of _ (by decide +kernel)) ggX7_law_X3_size
set_option maxRecDepth 20000 in
theorem ggX7_law_X7_within : GoodIn wsX7_law wsX7_within := goodIn_r _ [14] (by decide +kernel) (by decide +kernel)
set_option maxRecDepth 20000 in
theorem gX7_law_X7_within : GoodIn wsX7_law (va_wsS RX7 85 yX7_within wsX7_within) := goodIn_app (goodIn_of _ (by decide +kernel)) ggX7_law_X7_within
set_option maxRecDepth 20000 in
theorem ggX7_law_X2_isFull : GoodIn wsX7_law wsX2_isFull := goodIn_r _ [19, 20, 145, 146, 147] (by decide +kernel) (by decide +kernel)
set_option maxRecDepth 20000 in
theorem gX7_law_X2_isFull : GoodIn wsX7_law (wsV RX7 217 RX2 yX2_isFull wsX2_isFull) := goodIn_app (goodIn_of _ (by decide +kernel)) ggX7_law_X2_isFull
set_option maxRecDepth 20000 in
theorem ggX7_law_X3_read : GoodIn wsX7_law wsX3_read := goodIn_r _ [24, 10, 25, 26, 27, 28, 29, 30, 31, 32, 33, 34, 35, 36, 37, 38, 18, 39, 40, 12, 13, 14, 41, 42, 43, 8, 44, 45, 46, 47, 48, 49, 50, 51, 52, 53, 54, 55, 56, 57, 58, 59, 60, 61, 62, 63, 64, 65, 66, 67, 68, 69, 70, 71, 72, 73, 74, 75, 76, 77, 78, 79, 80, 81, 82, 83, 84, 85, 86, 87, 88, 89, 90, 91, 92, 93, 94, 95, 96, 97, 98, 99, 100, 101, 102, 103, 104, 105, 106, 107, 108, 109, 110, 111, 112, 113, 114, 115, 116, 138, 139, 140, 141, 142, 143, 144] (by decide +kernel) (by decide +kernel)
set_option maxRecDepth 20000 in
theorem gX7_law_X3_read : GoodIn wsX7_law (wsV RX7 220 RX3 yX3_read wsX3_read) := goodIn_app (goodIn_of _ (by decide +kernel)) ggX7_law_X3_read
set_option maxRecDepth 20000 in
theorem ggX7_law_X2_take : GoodIn wsX7_law wsX2_take := goodIn_r _ [120, 20, 121, 122, 123, 16, 17, 18, 19, 124, 125, 126, 8, 127, 34, 12, 13, 14, 145, 146, 147, 138, 139, 140, 141, 142, 143, 144] (by decide +kernel) (by decide +kernel)
set_option maxRecDepth 20000 in
theorem gX7_law_X2_take : GoodIn wsX7_law (wsV RX7 223 RX2 yX2_take wsX2_take) := goodIn_app (goodIn_of _ (by decide +kernel)) ggX7_law_X2_take
theorem dX7_law_0 : decode cX7_law 0 = .ok (.iload_n 1, 1) := by decide +kernel
theorem dX7_law_1 : decode cX7_law 1 = .ok (.iconst 0, 1) := by decide +kernel
theorem dX7_law_2 : decode cX7_law 2 = .ok (.aload_n 0, 1) := by decide +kernel
theorem dX7_law_3 : decode cX7_law 3 = .ok (.getfield 33, 3) := by decide +kernel
theorem dX7_law_6 : decode cX7_law 6 = .ok (.invokevirtual 214, 3) := by decide +kernel
theorem dX7_law_9 : decode cX7_law 9 = .ok (.invokestatic 85, 3) := by decide +kernel
theorem dX7_law_12 : decode cX7_law 12 = .ok (.ifCond .ne 6, 3) := by decide +kernel
theorem dX7_law_15 : decode cX7_law 15 = .ok (.bipush (-2), 2) := by decide +kernel
theorem dX7_law_17 : decode cX7_law 17 = .ok (.ireturn, 1) := by decide +kernel
theorem dX7_law_18 : decode cX7_law 18 = .ok (.aload_n 0, 1) := by decide +kernel
theorem dX7_law_19 : decode cX7_law 19 = .ok (.getfield 26, 3) := by decide +kernel
theorem dX7_law_22 : decode cX7_law 22 = .ok (.invokevirtual 217, 3) := by decide +kernel
theorem dX7_law_25 : decode cX7_law 25 = .ok (.ifCond .eq 6, 3) := by decide +kernel
theorem dX7_law_28 : decode cX7_law 28 = .ok (.bipush (-3), 2) := by decide +kernel
theorem dX7_law_30 : decode cX7_law 30 = .ok (.ireturn, 1) := by decide +kernel
theorem dX7_law_31 : decode cX7_law 31 = .ok (.aload_n 0, 1) := by decide +kernel
theorem dX7_law_32 : decode cX7_law 32 = .ok (.aload_n 0, 1) := by decide +kernel
theorem dX7_law_33 : decode cX7_law 33 = .ok (.getfield 33, 3) := by decide +kernel
theorem dX7_law_36 : decode cX7_law 36 = .ok (.iload_n 1, 1) := by decide +kernel
theorem dX7_law_37 : decode cX7_law 37 = .ok (.invokevirtual 220, 3) := by decide +kernel
theorem dX7_law_40 : decode cX7_law 40 = .ok (.putfield 44, 3) := by decide +kernel
theorem dX7_law_43 : decode cX7_law 43 = .ok (.aload_n 0, 1) := by decide +kernel
theorem dX7_law_44 : decode cX7_law 44 = .ok (.getfield 44, 3) := by decide +kernel
theorem dX7_law_47 : decode cX7_law 47 = .ok (.iconst (-1), 1) := by decide +kernel
theorem dX7_law_48 : decode cX7_law 48 = .ok (.if_icmp .ne 21, 3) := by decide +kernel
theorem dX7_law_51 : decode cX7_law 51 = .ok (.aload_n 0, 1) := by decide +kernel
theorem dX7_law_52 : decode cX7_law 52 = .ok (.getfield 26, 3) := by decide +kernel
theorem dX7_law_55 : decode cX7_law 55 = .ok (.aload_n 0, 1) := by decide +kernel
theorem dX7_law_56 : decode cX7_law 56 = .ok (.getfield 33, 3) := by decide +kernel
theorem dX7_law_59 : decode cX7_law 59 = .ok (.aload_n 0, 1) := by decide +kernel
theorem dX7_law_60 : decode cX7_law 60 = .ok (.getfield 37, 3) := by decide +kernel
theorem dX7_law_63 : decode cX7_law 63 = .ok (.invokevirtual 223, 3) := by decide +kernel
theorem dX7_law_66 : decode cX7_law 66 = .ok (.goto 4, 3) := by decide +kernel
theorem dX7_law_69 : decode cX7_law 69 = .ok (.iconst (-1), 1) := by decide +kernel
theorem dX7_law_70 : decode cX7_law 70 = .ok (.ireturn, 1) := by decide +kernel
theorem dX7_fault_0 : decode cX7_fault 0 = .ok (.aload_n 0, 1) := by decide +kernel
theorem dX7_fault_1 : decode cX7_fault 1 = .ok (.getfield 44, 3) := by decide +kernel
theorem dX7_fault_4 : decode cX7_fault 4 = .ok (.ireturn, 1) := by decide +kernel
set_option maxRecDepth 20000 in
theorem ggX7_tells_X7_within : GoodIn wsX7_tells wsX7_within := goodIn_r _ [5] (by decide +kernel) (by decide +kernel)
set_option maxRecDepth 20000 in
theorem gX7_tells_X7_within : GoodIn wsX7_tells (va_wsS RX7 85 yX7_within wsX7_within) := goodIn_app (goodIn_of _ (by decide +kernel)) ggX7_tells_X7_within
set_option maxRecDepth 20000 in
theorem ggX7_tells_X2_inForce : GoodIn wsX7_tells wsX2_inForce := goodIn_r _ [10, 11, 12, 33, 34, 35] (by decide +kernel) (by decide +kernel)
set_option maxRecDepth 20000 in
theorem gX7_tells_X2_inForce : GoodIn wsX7_tells (wsV RX7 227 RX2 yX2_inForce wsX2_inForce) := goodIn_app (goodIn_of _ (by decide +kernel)) ggX7_tells_X2_inForce
set_option maxRecDepth 20000 in
theorem ggX7_tells_X2_term : GoodIn wsX7_tells wsX2_term := goodIn_r _ [16, 17, 18, 7, 8, 9, 10, 11, 12, 3, 4, 5, 19, 20, 21, 22, 33, 34, 35] (by decide +kernel) (by decide +kernel)
set_option maxRecDepth 20000 in
theorem gX7_tells_X2_term : GoodIn wsX7_tells (wsV RX7 230 RX2 yX2_term wsX2_term) := goodIn_app (goodIn_of _ (by decide +kernel)) ggX7_tells_X2_term
theorem dX7_tells_0 : decode cX7_tells 0 = .ok (.iload_n 1, 1) := by decide +kernel
theorem dX7_tells_1 : decode cX7_tells 1 = .ok (.iconst 0, 1) := by decide +kernel
theorem dX7_tells_2 : decode cX7_tells 2 = .ok (.sipush 600, 3) := by decide +kernel
theorem dX7_tells_5 : decode cX7_tells 5 = .ok (.invokestatic 85, 3) := by decide +kernel
theorem dX7_tells_8 : decode cX7_tells 8 = .ok (.ifCond .ne 5, 3) := by decide +kernel
theorem dX7_tells_11 : decode cX7_tells 11 = .ok (.iconst (-1), 1) := by decide +kernel
theorem dX7_tells_12 : decode cX7_tells 12 = .ok (.ireturn, 1) := by decide +kernel
theorem dX7_tells_13 : decode cX7_tells 13 = .ok (.iload_n 2, 1) := by decide +kernel
theorem dX7_tells_14 : decode cX7_tells 14 = .ok (.bipush 7, 2) := by decide +kernel
theorem dX7_tells_16 : decode cX7_tells 16 = .ok (.if_icmp .ne 14, 3) := by decide +kernel
theorem dX7_tells_19 : decode cX7_tells 19 = .ok (.aload_n 0, 1) := by decide +kernel
theorem dX7_tells_20 : decode cX7_tells 20 = .ok (.getfield 26, 3) := by decide +kernel
theorem dX7_tells_23 : decode cX7_tells 23 = .ok (.iload_n 1, 1) := by decide +kernel
theorem dX7_tells_24 : decode cX7_tells 24 = .ok (.invokevirtual 227, 3) := by decide +kernel
theorem dX7_tells_27 : decode cX7_tells 27 = .ok (.goto 12, 3) := by decide +kernel
theorem dX7_tells_30 : decode cX7_tells 30 = .ok (.aload_n 0, 1) := by decide +kernel
theorem dX7_tells_31 : decode cX7_tells 31 = .ok (.getfield 26, 3) := by decide +kernel
theorem dX7_tells_34 : decode cX7_tells 34 = .ok (.iload_n 1, 1) := by decide +kernel
theorem dX7_tells_35 : decode cX7_tells 35 = .ok (.iload_n 2, 1) := by decide +kernel
theorem dX7_tells_36 : decode cX7_tells 36 = .ok (.invokevirtual 230, 3) := by decide +kernel
theorem dX7_tells_39 : decode cX7_tells 39 = .ok (.ireturn, 1) := by decide +kernel
set_option maxRecDepth 20000 in
theorem ggX7_month_X7_within : GoodIn wsX7_month wsX7_within := goodIn_r _ [6] (by decide +kernel) (by decide +kernel)
set_option maxRecDepth 20000 in
theorem gX7_month_X7_within : GoodIn wsX7_month (va_wsS RX7 85 yX7_within wsX7_within) := goodIn_app (goodIn_of _ (by decide +kernel)) ggX7_month_X7_within
set_option maxRecDepth 20000 in
theorem ggX7_month_X0_inMonth : GoodIn wsX7_month wsX0_inMonth := goodIn_r _ [11, 12, 4, 5, 6, 39, 40, 41, 42] (by decide +kernel) (by decide +kernel)
set_option maxRecDepth 20000 in
theorem gX7_month_X0_inMonth : GoodIn wsX7_month (wsV RX7 233 RX0 yX0_inMonth wsX0_inMonth) := goodIn_app (goodIn_of _ (by decide +kernel)) ggX7_month_X0_inMonth
set_option maxRecDepth 20000 in
theorem ggX7_month_X2_term : GoodIn wsX7_month wsX2_term := goodIn_r _ [17, 18, 19, 20, 21, 16, 22, 23, 24, 4, 5, 6, 25, 26, 27, 28, 43, 44, 45] (by decide +kernel) (by decide +kernel)
set_option maxRecDepth 20000 in
theorem gX7_month_X2_term : GoodIn wsX7_month (wsV RX7 230 RX2 yX2_term wsX2_term) := goodIn_app (goodIn_of _ (by decide +kernel)) ggX7_month_X2_term
theorem dX7_month_0 : decode cX7_month 0 = .ok (.iload_n 1, 1) := by decide +kernel
theorem dX7_month_1 : decode cX7_month 1 = .ok (.iconst 0, 1) := by decide +kernel
theorem dX7_month_2 : decode cX7_month 2 = .ok (.bipush 20, 2) := by decide +kernel
theorem dX7_month_4 : decode cX7_month 4 = .ok (.invokestatic 85, 3) := by decide +kernel
theorem dX7_month_7 : decode cX7_month 7 = .ok (.ifCond .ne 5, 3) := by decide +kernel
theorem dX7_month_10 : decode cX7_month 10 = .ok (.iconst (-1), 1) := by decide +kernel
theorem dX7_month_11 : decode cX7_month 11 = .ok (.ireturn, 1) := by decide +kernel
theorem dX7_month_12 : decode cX7_month 12 = .ok (.aload_n 0, 1) := by decide +kernel
theorem dX7_month_13 : decode cX7_month 13 = .ok (.getfield 19, 3) := by decide +kernel
theorem dX7_month_16 : decode cX7_month 16 = .ok (.iload_n 1, 1) := by decide +kernel
theorem dX7_month_17 : decode cX7_month 17 = .ok (.invokevirtual 233, 3) := by decide +kernel
theorem dX7_month_20 : decode cX7_month 20 = .ok (.istore_n 3, 1) := by decide +kernel
theorem dX7_month_21 : decode cX7_month 21 = .ok (.iload_n 2, 1) := by decide +kernel
theorem dX7_month_22 : decode cX7_month 22 = .ok (.lookupswitch 52 #[(0, 26), (1, 28)], 26) := by decide +kernel
theorem dX7_month_48 : decode cX7_month 48 = .ok (.iload_n 3, 1) := by decide +kernel
theorem dX7_month_49 : decode cX7_month 49 = .ok (.ireturn, 1) := by decide +kernel
theorem dX7_month_50 : decode cX7_month 50 = .ok (.iload_n 3, 1) := by decide +kernel
theorem dX7_month_51 : decode cX7_month 51 = .ok (.aload_n 0, 1) := by decide +kernel
theorem dX7_month_52 : decode cX7_month 52 = .ok (.getfield 26, 3) := by decide +kernel
theorem dX7_month_55 : decode cX7_month 55 = .ok (.iload_n 1, 1) := by decide +kernel
theorem dX7_month_56 : decode cX7_month 56 = .ok (.bipush 30, 2) := by decide +kernel
theorem dX7_month_58 : decode cX7_month 58 = .ok (.imul, 1) := by decide +kernel
theorem dX7_month_59 : decode cX7_month 59 = .ok (.bipush 30, 2) := by decide +kernel
theorem dX7_month_61 : decode cX7_month 61 = .ok (.iadd, 1) := by decide +kernel
theorem dX7_month_62 : decode cX7_month 62 = .ok (.iconst 1, 1) := by decide +kernel
theorem dX7_month_63 : decode cX7_month 63 = .ok (.isub, 1) := by decide +kernel
theorem dX7_month_64 : decode cX7_month 64 = .ok (.iconst 5, 1) := by decide +kernel
theorem dX7_month_65 : decode cX7_month 65 = .ok (.invokevirtual 230, 3) := by decide +kernel
theorem dX7_month_68 : decode cX7_month 68 = .ok (.imul, 1) := by decide +kernel
theorem dX7_month_69 : decode cX7_month 69 = .ok (.sipush 1000, 3) := by decide +kernel
theorem dX7_month_72 : decode cX7_month 72 = .ok (.idiv, 1) := by decide +kernel
theorem dX7_month_73 : decode cX7_month 73 = .ok (.ireturn, 1) := by decide +kernel
theorem dX7_month_74 : decode cX7_month 74 = .ok (.iconst (-1), 1) := by decide +kernel
theorem dX7_month_75 : decode cX7_month 75 = .ok (.ireturn, 1) := by decide +kernel
set_option maxRecDepth 20000 in
theorem ggX7_count_X6_dredgeRow : GoodIn wsX7_count wsX6_dredgeRow := goodIn_r _ [13, 14, 81, 82, 83, 84, 85, 86] (by decide +kernel) (by decide +kernel)
set_option maxRecDepth 20000 in
theorem gX7_count_X6_dredgeRow : GoodIn wsX7_count (wsV RX7 236 RX6 yX6_dredgeRow wsX6_dredgeRow) := goodIn_app (goodIn_of _ (by decide +kernel)) ggX7_count_X6_dredgeRow
set_option maxRecDepth 20000 in
theorem ggX7_count_X6_dredgePlace : GoodIn wsX7_count wsX6_dredgePlace := goodIn_r _ [18, 14, 19, 81, 82, 83, 84, 85, 86] (by decide +kernel) (by decide +kernel)
set_option maxRecDepth 20000 in
theorem gX7_count_X6_dredgePlace : GoodIn wsX7_count (wsV RX7 142 RX6 yX6_dredgePlace wsX6_dredgePlace) := goodIn_app (goodIn_of _ (by decide +kernel)) ggX7_count_X6_dredgePlace
set_option maxRecDepth 20000 in
theorem ggX7_count_X4_hoursLeft : GoodIn wsX7_count wsX4_hoursLeft := goodIn_r _ [24, 25, 87, 88, 89] (by decide +kernel) (by decide +kernel)
set_option maxRecDepth 20000 in
theorem gX7_count_X4_hoursLeft : GoodIn wsX7_count (wsV RX7 171 RX4 yX4_hoursLeft wsX4_hoursLeft) := goodIn_app (goodIn_of _ (by decide +kernel)) ggX7_count_X4_hoursLeft
set_option maxRecDepth 20000 in
theorem ggX7_count_X4_level : GoodIn wsX7_count wsX4_level := goodIn_r _ [29, 30, 87, 88, 89] (by decide +kernel) (by decide +kernel)
set_option maxRecDepth 20000 in
theorem gX7_count_X4_level : GoodIn wsX7_count (wsV RX7 162 RX4 yX4_level wsX4_level) := goodIn_app (goodIn_of _ (by decide +kernel)) ggX7_count_X4_level
set_option maxRecDepth 20000 in
theorem ggX7_count_X4_mud : GoodIn wsX7_count wsX4_mud := goodIn_r _ [34, 35, 87, 88, 89] (by decide +kernel) (by decide +kernel)
set_option maxRecDepth 20000 in
theorem gX7_count_X4_mud : GoodIn wsX7_count (wsV RX7 239 RX4 yX4_mud wsX4_mud) := goodIn_app (goodIn_of _ (by decide +kernel)) ggX7_count_X4_mud
set_option maxRecDepth 20000 in
theorem ggX7_count_X0_inAll : GoodIn wsX7_count wsX0_inAll := goodIn_r _ [40, 41, 90, 91, 92, 93] (by decide +kernel) (by decide +kernel)
set_option maxRecDepth 20000 in
theorem gX7_count_X0_inAll : GoodIn wsX7_count (wsV RX7 242 RX0 yX0_inAll wsX0_inAll) := goodIn_app (goodIn_of _ (by decide +kernel)) ggX7_count_X0_inAll
set_option maxRecDepth 20000 in
theorem ggX7_count_X0_lost : GoodIn wsX7_count wsX0_lost := goodIn_r _ [45, 46, 90, 91, 92, 93] (by decide +kernel) (by decide +kernel)
set_option maxRecDepth 20000 in
theorem gX7_count_X0_lost : GoodIn wsX7_count (wsV RX7 245 RX0 yX0_lost wsX0_lost) := goodIn_app (goodIn_of _ (by decide +kernel)) ggX7_count_X0_lost
set_option maxRecDepth 20000 in
theorem ggX7_count_X6_laidBackCount : GoodIn wsX7_count wsX6_laidBackCount := goodIn_r _ [50, 51, 81, 82, 83, 84, 85, 86] (by decide +kernel) (by decide +kernel)
set_option maxRecDepth 20000 in
theorem gX7_count_X6_laidBackCount : GoodIn wsX7_count (wsV RX7 248 RX6 yX6_laidBackCount wsX6_laidBackCount) := goodIn_app (goodIn_of _ (by decide +kernel)) ggX7_count_X6_laidBackCount
set_option maxRecDepth 20000 in
theorem ggX7_count_X1_quarrels : GoodIn wsX7_count wsX1_quarrels := goodIn_r _ [56, 57, 58, 94, 95, 96, 97, 98, 99, 100] (by decide +kernel) (by decide +kernel)
set_option maxRecDepth 20000 in
theorem gX7_count_X1_quarrels : GoodIn wsX7_count (wsV RX7 251 RX1 yX1_quarrels wsX1_quarrels) := goodIn_app (goodIn_of _ (by decide +kernel)) ggX7_count_X1_quarrels
set_option maxRecDepth 20000 in
theorem ggX7_count_X2_size : GoodIn wsX7_count wsX2_size := goodIn_r _ [63, 64, 101, 102, 103] (by decide +kernel) (by decide +kernel)
set_option maxRecDepth 20000 in
theorem gX7_count_X2_size : GoodIn wsX7_count (wsV RX7 254 RX2 yX2_size wsX2_size) := goodIn_app (goodIn_of _ (by decide +kernel)) ggX7_count_X2_size
set_option maxRecDepth 20000 in
theorem ggX7_count_X3_size : GoodIn wsX7_count wsX3_size := goodIn_r _ [69, 70, 104, 105, 106, 107, 108, 109, 110] (by decide +kernel) (by decide +kernel)
set_option maxRecDepth 20000 in
theorem gX7_count_X3_size : GoodIn wsX7_count (wsV RX7 214 RX3 yX3_size wsX3_size) := goodIn_app (goodIn_of _ (by decide +kernel)) ggX7_count_X3_size
theorem dX7_count_0 : decode cX7_count 0 = .ok (.iload_n 1, 1) := by decide +kernel
theorem dX7_count_1 : decode cX7_count 1 = .ok (.tableswitch 165 0 12 #[67, 72, 80, 88, 96, 104, 112, 120, 128, 133, 141, 149, 157], 67) := by decide +kernel
theorem dX7_count_68 : decode cX7_count 68 = .ok (.aload_n 0, 1) := by decide +kernel
theorem dX7_count_69 : decode cX7_count 69 = .ok (.getfield 37, 3) := by decide +kernel
theorem dX7_count_72 : decode cX7_count 72 = .ok (.ireturn, 1) := by decide +kernel
theorem dX7_count_73 : decode cX7_count 73 = .ok (.aload_n 0, 1) := by decide +kernel
theorem dX7_count_74 : decode cX7_count 74 = .ok (.getfield 70, 3) := by decide +kernel
theorem dX7_count_77 : decode cX7_count 77 = .ok (.invokevirtual 236, 3) := by decide +kernel
theorem dX7_count_80 : decode cX7_count 80 = .ok (.ireturn, 1) := by decide +kernel
theorem dX7_count_81 : decode cX7_count 81 = .ok (.aload_n 0, 1) := by decide +kernel
theorem dX7_count_82 : decode cX7_count 82 = .ok (.getfield 70, 3) := by decide +kernel
theorem dX7_count_85 : decode cX7_count 85 = .ok (.invokevirtual 142, 3) := by decide +kernel
theorem dX7_count_88 : decode cX7_count 88 = .ok (.ireturn, 1) := by decide +kernel
theorem dX7_count_89 : decode cX7_count 89 = .ok (.aload_n 0, 1) := by decide +kernel
theorem dX7_count_90 : decode cX7_count 90 = .ok (.getfield 10, 3) := by decide +kernel
theorem dX7_count_93 : decode cX7_count 93 = .ok (.invokevirtual 171, 3) := by decide +kernel
theorem dX7_count_96 : decode cX7_count 96 = .ok (.ireturn, 1) := by decide +kernel
theorem dX7_count_97 : decode cX7_count 97 = .ok (.aload_n 0, 1) := by decide +kernel
theorem dX7_count_98 : decode cX7_count 98 = .ok (.getfield 10, 3) := by decide +kernel
theorem dX7_count_101 : decode cX7_count 101 = .ok (.invokevirtual 162, 3) := by decide +kernel
theorem dX7_count_104 : decode cX7_count 104 = .ok (.ireturn, 1) := by decide +kernel
theorem dX7_count_105 : decode cX7_count 105 = .ok (.aload_n 0, 1) := by decide +kernel
theorem dX7_count_106 : decode cX7_count 106 = .ok (.getfield 10, 3) := by decide +kernel
theorem dX7_count_109 : decode cX7_count 109 = .ok (.invokevirtual 239, 3) := by decide +kernel
theorem dX7_count_112 : decode cX7_count 112 = .ok (.ireturn, 1) := by decide +kernel
theorem dX7_count_113 : decode cX7_count 113 = .ok (.aload_n 0, 1) := by decide +kernel
theorem dX7_count_114 : decode cX7_count 114 = .ok (.getfield 19, 3) := by decide +kernel
theorem dX7_count_117 : decode cX7_count 117 = .ok (.invokevirtual 242, 3) := by decide +kernel
theorem dX7_count_120 : decode cX7_count 120 = .ok (.ireturn, 1) := by decide +kernel
theorem dX7_count_121 : decode cX7_count 121 = .ok (.aload_n 0, 1) := by decide +kernel
theorem dX7_count_122 : decode cX7_count 122 = .ok (.getfield 19, 3) := by decide +kernel
theorem dX7_count_125 : decode cX7_count 125 = .ok (.invokevirtual 245, 3) := by decide +kernel
theorem dX7_count_128 : decode cX7_count 128 = .ok (.ireturn, 1) := by decide +kernel
theorem dX7_count_129 : decode cX7_count 129 = .ok (.aload_n 0, 1) := by decide +kernel
theorem dX7_count_130 : decode cX7_count 130 = .ok (.getfield 41, 3) := by decide +kernel
theorem dX7_count_133 : decode cX7_count 133 = .ok (.ireturn, 1) := by decide +kernel
theorem dX7_count_134 : decode cX7_count 134 = .ok (.aload_n 0, 1) := by decide +kernel
theorem dX7_count_135 : decode cX7_count 135 = .ok (.getfield 70, 3) := by decide +kernel
theorem dX7_count_138 : decode cX7_count 138 = .ok (.invokevirtual 248, 3) := by decide +kernel
theorem dX7_count_141 : decode cX7_count 141 = .ok (.ireturn, 1) := by decide +kernel
theorem dX7_count_142 : decode cX7_count 142 = .ok (.aload_n 0, 1) := by decide +kernel
theorem dX7_count_143 : decode cX7_count 143 = .ok (.getfield 61, 3) := by decide +kernel
theorem dX7_count_146 : decode cX7_count 146 = .ok (.invokevirtual 251, 3) := by decide +kernel
theorem dX7_count_149 : decode cX7_count 149 = .ok (.ireturn, 1) := by decide +kernel
theorem dX7_count_150 : decode cX7_count 150 = .ok (.aload_n 0, 1) := by decide +kernel
theorem dX7_count_151 : decode cX7_count 151 = .ok (.getfield 26, 3) := by decide +kernel
theorem dX7_count_154 : decode cX7_count 154 = .ok (.invokevirtual 254, 3) := by decide +kernel
theorem dX7_count_157 : decode cX7_count 157 = .ok (.ireturn, 1) := by decide +kernel
theorem dX7_count_158 : decode cX7_count 158 = .ok (.aload_n 0, 1) := by decide +kernel
theorem dX7_count_159 : decode cX7_count 159 = .ok (.getfield 33, 3) := by decide +kernel
theorem dX7_count_162 : decode cX7_count 162 = .ok (.invokevirtual 214, 3) := by decide +kernel
theorem dX7_count_165 : decode cX7_count 165 = .ok (.ireturn, 1) := by decide +kernel
theorem dX7_count_166 : decode cX7_count 166 = .ok (.iconst (-1), 1) := by decide +kernel
theorem dX7_count_167 : decode cX7_count 167 = .ok (.ireturn, 1) := by decide +kernel
theorem dX7_within_0 : decode cX7_within 0 = .ok (.iload_n 0, 1) := by decide +kernel
theorem dX7_within_1 : decode cX7_within 1 = .ok (.iload_n 1, 1) := by decide +kernel
theorem dX7_within_2 : decode cX7_within 2 = .ok (.if_icmp .lt 12, 3) := by decide +kernel
theorem dX7_within_5 : decode cX7_within 5 = .ok (.iload_n 0, 1) := by decide +kernel
theorem dX7_within_6 : decode cX7_within 6 = .ok (.iload_n 2, 1) := by decide +kernel
theorem dX7_within_7 : decode cX7_within 7 = .ok (.if_icmp .gt 7, 3) := by decide +kernel
theorem dX7_within_10 : decode cX7_within 10 = .ok (.iconst 1, 1) := by decide +kernel
theorem dX7_within_11 : decode cX7_within 11 = .ok (.goto 4, 3) := by decide +kernel
theorem dX7_within_14 : decode cX7_within 14 = .ok (.iconst 0, 1) := by decide +kernel
theorem dX7_within_15 : decode cX7_within 15 = .ok (.ireturn, 1) := by decide +kernel
theorem dX7_oneIf_0 : decode cX7_oneIf 0 = .ok (.iload_n 0, 1) := by decide +kernel
theorem dX7_oneIf_1 : decode cX7_oneIf 1 = .ok (.ifCond .eq 7, 3) := by decide +kernel
theorem dX7_oneIf_4 : decode cX7_oneIf 4 = .ok (.iconst 1, 1) := by decide +kernel
theorem dX7_oneIf_5 : decode cX7_oneIf 5 = .ok (.goto 4, 3) := by decide +kernel
theorem dX7_oneIf_8 : decode cX7_oneIf 8 = .ok (.iconst 0, 1) := by decide +kernel
theorem dX7_oneIf_9 : decode cX7_oneIf 9 = .ok (.ireturn, 1) := by decide +kernel
set_option maxRecDepth 20000 in
theorem ggX7_isUndug_X1_has : GoodIn wsX7_isUndug wsX1_has := goodIn_r _ [7, 8, 9, 10, 11, 12, 30, 31, 32, 33, 34, 35, 36] (by decide +kernel) (by decide +kernel)
set_option maxRecDepth 20000 in
theorem gX7_isUndug_X1_has : GoodIn wsX7_isUndug (wsV RX7 99 RX1 yX1_has wsX1_has) := goodIn_app (goodIn_of _ (by decide +kernel)) ggX7_isUndug_X1_has
set_option maxRecDepth 20000 in
theorem ggX7_isUndug_X6_isDug : GoodIn wsX7_isUndug wsX6_isDug := goodIn_r _ [17, 18, 19, 10, 11, 12, 37, 38, 39, 40, 41, 42] (by decide +kernel) (by decide +kernel)
set_option maxRecDepth 20000 in
theorem gX7_isUndug_X6_isDug : GoodIn wsX7_isUndug (wsV RX7 118 RX6 yX6_isDug wsX6_isDug) := goodIn_app (goodIn_of _ (by decide +kernel)) ggX7_isUndug_X6_isDug
theorem dX7_isUndug_0 : decode cX7_isUndug 0 = .ok (.aload_n 0, 1) := by decide +kernel
theorem dX7_isUndug_1 : decode cX7_isUndug 1 = .ok (.getfield 61, 3) := by decide +kernel
theorem dX7_isUndug_4 : decode cX7_isUndug 4 = .ok (.iload_n 1, 1) := by decide +kernel
theorem dX7_isUndug_5 : decode cX7_isUndug 5 = .ok (.iload_n 2, 1) := by decide +kernel
theorem dX7_isUndug_6 : decode cX7_isUndug 6 = .ok (.invokevirtual 99, 3) := by decide +kernel
theorem dX7_isUndug_9 : decode cX7_isUndug 9 = .ok (.ifCond .eq 19, 3) := by decide +kernel
theorem dX7_isUndug_12 : decode cX7_isUndug 12 = .ok (.aload_n 0, 1) := by decide +kernel
theorem dX7_isUndug_13 : decode cX7_isUndug 13 = .ok (.getfield 70, 3) := by decide +kernel
theorem dX7_isUndug_16 : decode cX7_isUndug 16 = .ok (.iload_n 1, 1) := by decide +kernel
theorem dX7_isUndug_17 : decode cX7_isUndug 17 = .ok (.iload_n 2, 1) := by decide +kernel
theorem dX7_isUndug_18 : decode cX7_isUndug 18 = .ok (.invokevirtual 118, 3) := by decide +kernel
theorem dX7_isUndug_21 : decode cX7_isUndug 21 = .ok (.ifCond .ne 7, 3) := by decide +kernel
theorem dX7_isUndug_24 : decode cX7_isUndug 24 = .ok (.iconst 1, 1) := by decide +kernel
theorem dX7_isUndug_25 : decode cX7_isUndug 25 = .ok (.goto 4, 3) := by decide +kernel
theorem dX7_isUndug_28 : decode cX7_isUndug 28 = .ok (.iconst 0, 1) := by decide +kernel
theorem dX7_isUndug_29 : decode cX7_isUndug 29 = .ok (.ireturn, 1) := by decide +kernel
set_option maxRecDepth 20000 in
theorem ggX7_lawToday_X2_term : GoodIn wsX7_lawToday wsX2_term := goodIn_r _ [7, 8, 9, 10, 11, 6, 12, 13, 14, 15, 16, 17, 18, 19, 20, 21, 32, 33, 34] (by decide +kernel) (by decide +kernel)
set_option maxRecDepth 20000 in
theorem gX7_lawToday_X2_term : GoodIn wsX7_lawToday (wsV RX7 230 RX2 yX2_term wsX2_term) := goodIn_app (goodIn_of _ (by decide +kernel)) ggX7_lawToday_X2_term
theorem dX7_lawToday_0 : decode cX7_lawToday 0 = .ok (.aload_n 0, 1) := by decide +kernel
theorem dX7_lawToday_1 : decode cX7_lawToday 1 = .ok (.getfield 26, 3) := by decide +kernel
theorem dX7_lawToday_4 : decode cX7_lawToday 4 = .ok (.aload_n 0, 1) := by decide +kernel
theorem dX7_lawToday_5 : decode cX7_lawToday 5 = .ok (.getfield 37, 3) := by decide +kernel
theorem dX7_lawToday_8 : decode cX7_lawToday 8 = .ok (.iload_n 1, 1) := by decide +kernel
theorem dX7_lawToday_9 : decode cX7_lawToday 9 = .ok (.invokevirtual 230, 3) := by decide +kernel
theorem dX7_lawToday_12 : decode cX7_lawToday 12 = .ok (.ireturn, 1) := by decide +kernel
set_option maxRecDepth 20000 in
theorem ggX7_isMuddy_X4_mud : GoodIn wsX7_isMuddy wsX4_mud := goodIn_r _ [6, 7, 43, 44, 45] (by decide +kernel) (by decide +kernel)
set_option maxRecDepth 20000 in
theorem gX7_isMuddy_X4_mud : GoodIn wsX7_isMuddy (wsV RX7 239 RX4 yX4_mud wsX4_mud) := goodIn_app (goodIn_of _ (by decide +kernel)) ggX7_isMuddy_X4_mud
set_option maxRecDepth 20000 in
theorem ggX7_isMuddy_X7_lawToday : GoodIn wsX7_isMuddy wsX7_lawToday := goodIn_r _ [12, 13, 14, 15, 16, 17, 18, 19, 20, 21, 22, 23, 24, 25, 26, 27, 11, 28, 29, 30, 31, 32, 33, 34, 35, 36, 37, 38, 39, 40, 41, 42, 46, 47, 48] (by decide +kernel) (by decide +kernel)
set_option maxRecDepth 20000 in
theorem gX7_isMuddy_X7_lawToday : GoodIn wsX7_isMuddy (wsV RX7 165 RX7 yX7_lawToday wsX7_lawToday) := goodIn_app (goodIn_of _ (by decide +kernel)) ggX7_isMuddy_X7_lawToday
theorem dX7_isMuddy_0 : decode cX7_isMuddy 0 = .ok (.aload_n 0, 1) := by decide +kernel
theorem dX7_isMuddy_1 : decode cX7_isMuddy 1 = .ok (.getfield 10, 3) := by decide +kernel
theorem dX7_isMuddy_4 : decode cX7_isMuddy 4 = .ok (.invokevirtual 239, 3) := by decide +kernel
theorem dX7_isMuddy_7 : decode cX7_isMuddy 7 = .ok (.aload_n 0, 1) := by decide +kernel
theorem dX7_isMuddy_8 : decode cX7_isMuddy 8 = .ok (.iconst 3, 1) := by decide +kernel
theorem dX7_isMuddy_9 : decode cX7_isMuddy 9 = .ok (.invokevirtual 165, 3) := by decide +kernel
theorem dX7_isMuddy_12 : decode cX7_isMuddy 12 = .ok (.if_icmp .le 7, 3) := by decide +kernel
