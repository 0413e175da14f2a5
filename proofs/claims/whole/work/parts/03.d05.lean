theorem dX7_isMuddy_15 : decode cX7_isMuddy 15 = .ok (.iconst 1, 1) := by decide +kernel
theorem dX7_isMuddy_16 : decode cX7_isMuddy 16 = .ok (.goto 4, 3) := by decide +kernel
theorem dX7_isMuddy_19 : decode cX7_isMuddy 19 = .ok (.iconst 0, 1) := by decide +kernel
theorem dX7_isMuddy_20 : decode cX7_isMuddy 20 = .ok (.ireturn, 1) := by decide +kernel
set_option maxRecDepth 20000 in
theorem ggX7_bankAhead_X6_dredgeRow : GoodIn wsX7_bankAhead wsX6_dredgeRow := goodIn_r _ [11, 12, 43, 44, 45, 46, 47, 48] (by decide +kernel) (by decide +kernel)
set_option maxRecDepth 20000 in
theorem gX7_bankAhead_X6_dredgeRow : GoodIn wsX7_bankAhead (wsV RX7 236 RX6 yX6_dredgeRow wsX6_dredgeRow) := goodIn_app (goodIn_of _ (by decide +kernel)) ggX7_bankAhead_X6_dredgeRow
set_option maxRecDepth 20000 in
theorem ggX7_bankAhead_X6_dredgePlace : GoodIn wsX7_bankAhead wsX6_dredgePlace := goodIn_r _ [16, 12, 17, 43, 44, 45, 46, 47, 48] (by decide +kernel) (by decide +kernel)
set_option maxRecDepth 20000 in
theorem gX7_bankAhead_X6_dredgePlace : GoodIn wsX7_bankAhead (wsV RX7 142 RX6 yX6_dredgePlace wsX6_dredgePlace) := goodIn_app (goodIn_of _ (by decide +kernel)) ggX7_bankAhead_X6_dredgePlace
set_option maxRecDepth 20000 in
theorem ggX7_bankAhead_X1_has : GoodIn wsX7_bankAhead wsX1_has := goodIn_r _ [22, 23, 24, 25, 26, 27, 49, 50, 51, 52, 53, 54, 55] (by decide +kernel) (by decide +kernel)
set_option maxRecDepth 20000 in
theorem gX7_bankAhead_X1_has : GoodIn wsX7_bankAhead (wsV RX7 99 RX1 yX1_has wsX1_has) := goodIn_app (goodIn_of _ (by decide +kernel)) ggX7_bankAhead_X1_has
set_option maxRecDepth 20000 in
theorem ggX7_bankAhead_X1_depthAt : GoodIn wsX7_bankAhead wsX1_depthAt := goodIn_r _ [31, 32, 24, 49, 50, 51, 52, 53, 54, 55] (by decide +kernel) (by decide +kernel)
set_option maxRecDepth 20000 in
theorem gX7_bankAhead_X1_depthAt : GoodIn wsX7_bankAhead (wsV RX7 102 RX1 yX1_depthAt wsX1_depthAt) := goodIn_app (goodIn_of _ (by decide +kernel)) ggX7_bankAhead_X1_depthAt
theorem dX7_bankAhead_0 : decode cX7_bankAhead 0 = .ok (.aload_n 0, 1) := by decide +kernel
theorem dX7_bankAhead_1 : decode cX7_bankAhead 1 = .ok (.getfield 70, 3) := by decide +kernel
theorem dX7_bankAhead_4 : decode cX7_bankAhead 4 = .ok (.invokevirtual 236, 3) := by decide +kernel
theorem dX7_bankAhead_7 : decode cX7_bankAhead 7 = .ok (.istore_n 2, 1) := by decide +kernel
theorem dX7_bankAhead_8 : decode cX7_bankAhead 8 = .ok (.aload_n 0, 1) := by decide +kernel
theorem dX7_bankAhead_9 : decode cX7_bankAhead 9 = .ok (.getfield 70, 3) := by decide +kernel
theorem dX7_bankAhead_12 : decode cX7_bankAhead 12 = .ok (.invokevirtual 142, 3) := by decide +kernel
theorem dX7_bankAhead_15 : decode cX7_bankAhead 15 = .ok (.istore_n 3, 1) := by decide +kernel
theorem dX7_bankAhead_16 : decode cX7_bankAhead 16 = .ok (.aload_n 0, 1) := by decide +kernel
theorem dX7_bankAhead_17 : decode cX7_bankAhead 17 = .ok (.getfield 61, 3) := by decide +kernel
theorem dX7_bankAhead_20 : decode cX7_bankAhead 20 = .ok (.iload_n 2, 1) := by decide +kernel
theorem dX7_bankAhead_21 : decode cX7_bankAhead 21 = .ok (.iload_n 3, 1) := by decide +kernel
theorem dX7_bankAhead_22 : decode cX7_bankAhead 22 = .ok (.invokevirtual 99, 3) := by decide +kernel
theorem dX7_bankAhead_25 : decode cX7_bankAhead 25 = .ok (.ifCond .ne 5, 3) := by decide +kernel
theorem dX7_bankAhead_28 : decode cX7_bankAhead 28 = .ok (.iconst 0, 1) := by decide +kernel
theorem dX7_bankAhead_29 : decode cX7_bankAhead 29 = .ok (.ireturn, 1) := by decide +kernel
theorem dX7_bankAhead_30 : decode cX7_bankAhead 30 = .ok (.iload_n 1, 1) := by decide +kernel
theorem dX7_bankAhead_31 : decode cX7_bankAhead 31 = .ok (.aload_n 0, 1) := by decide +kernel
theorem dX7_bankAhead_32 : decode cX7_bankAhead 32 = .ok (.getfield 61, 3) := by decide +kernel
theorem dX7_bankAhead_35 : decode cX7_bankAhead 35 = .ok (.iload_n 2, 1) := by decide +kernel
theorem dX7_bankAhead_36 : decode cX7_bankAhead 36 = .ok (.iload_n 3, 1) := by decide +kernel
theorem dX7_bankAhead_37 : decode cX7_bankAhead 37 = .ok (.invokevirtual 102, 3) := by decide +kernel
theorem dX7_bankAhead_40 : decode cX7_bankAhead 40 = .ok (.isub, 1) := by decide +kernel
theorem dX7_bankAhead_41 : decode cX7_bankAhead 41 = .ok (.invokestatic 255, 3) := by decide +kernel
theorem dX7_bankAhead_44 : decode cX7_bankAhead 44 = .ok (.ireturn, 1) := by decide +kernel
theorem dX8_init_0 : decode cX8_init 0 = .ok (.aload_n 0, 1) := by decide +kernel
theorem dX8_init_1 : decode cX8_init 1 = .ok (.invokespecial 1, 3) := by decide +kernel
theorem dX8_init_4 : decode cX8_init 4 = .ok (.aload_n 0, 1) := by decide +kernel
theorem dX8_init_5 : decode cX8_init 5 = .ok (.sipush 160, 3) := by decide +kernel
theorem dX8_init_8 : decode cX8_init 8 = .ok (.newarray .int, 2) := by decide +kernel
theorem dX8_init_10 : decode cX8_init 10 = .ok (.putfield 7, 3) := by decide +kernel
theorem dX8_init_13 : decode cX8_init 13 = .ok (.aload_n 0, 1) := by decide +kernel
theorem dX8_init_14 : decode cX8_init 14 = .ok (.sipush 160, 3) := by decide +kernel
theorem dX8_init_17 : decode cX8_init 17 = .ok (.newarray .int, 2) := by decide +kernel
theorem dX8_init_19 : decode cX8_init 19 = .ok (.putfield 13, 3) := by decide +kernel
theorem dX8_init_22 : decode cX8_init 22 = .ok (.aload_n 0, 1) := by decide +kernel
theorem dX8_init_23 : decode cX8_init 23 = .ok (.sipush 160, 3) := by decide +kernel
theorem dX8_init_26 : decode cX8_init 26 = .ok (.newarray .int, 2) := by decide +kernel
theorem dX8_init_28 : decode cX8_init 28 = .ok (.putfield 16, 3) := by decide +kernel
theorem dX8_init_31 : decode cX8_init 31 = .ok (.aload_n 0, 1) := by decide +kernel
theorem dX8_init_32 : decode cX8_init 32 = .ok (.sipush 160, 3) := by decide +kernel
theorem dX8_init_35 : decode cX8_init 35 = .ok (.newarray .boolean, 2) := by decide +kernel
theorem dX8_init_37 : decode cX8_init 37 = .ok (.putfield 19, 3) := by decide +kernel
theorem dX8_init_40 : decode cX8_init 40 = .ok (.aload_n 0, 1) := by decide +kernel
theorem dX8_init_41 : decode cX8_init 41 = .ok (.sipush 160, 3) := by decide +kernel
theorem dX8_init_44 : decode cX8_init 44 = .ok (.newarray .boolean, 2) := by decide +kernel
theorem dX8_init_46 : decode cX8_init 46 = .ok (.putfield 23, 3) := by decide +kernel
theorem dX8_init_49 : decode cX8_init 49 = .ok (.aload_n 0, 1) := by decide +kernel
theorem dX8_init_50 : decode cX8_init 50 = .ok (.sipush 160, 3) := by decide +kernel
theorem dX8_init_53 : decode cX8_init 53 = .ok (.newarray .boolean, 2) := by decide +kernel
theorem dX8_init_55 : decode cX8_init 55 = .ok (.putfield 26, 3) := by decide +kernel
theorem dX8_init_58 : decode cX8_init 58 = .ok (.aload_n 0, 1) := by decide +kernel
theorem dX8_init_59 : decode cX8_init 59 = .ok (.sipush 160, 3) := by decide +kernel
theorem dX8_init_62 : decode cX8_init 62 = .ok (.newarray .boolean, 2) := by decide +kernel
theorem dX8_init_64 : decode cX8_init 64 = .ok (.putfield 29, 3) := by decide +kernel
theorem dX8_init_67 : decode cX8_init 67 = .ok (.aload_n 0, 1) := by decide +kernel
theorem dX8_init_68 : decode cX8_init 68 = .ok (.sipush 1000, 3) := by decide +kernel
theorem dX8_init_71 : decode cX8_init 71 = .ok (.putfield 32, 3) := by decide +kernel
theorem dX8_init_74 : decode cX8_init 74 = .ok (.aload_n 0, 1) := by decide +kernel
theorem dX8_init_75 : decode cX8_init 75 = .ok (.bipush 100, 2) := by decide +kernel
theorem dX8_init_77 : decode cX8_init 77 = .ok (.putfield 36, 3) := by decide +kernel
theorem dX8_init_80 : decode cX8_init 80 = .ok (.aload_n 0, 1) := by decide +kernel
theorem dX8_init_81 : decode cX8_init 81 = .ok (.iconst (-1), 1) := by decide +kernel
theorem dX8_init_82 : decode cX8_init 82 = .ok (.putfield 39, 3) := by decide +kernel
theorem dX8_init_85 : decode cX8_init 85 = .ok (.aload_n 0, 1) := by decide +kernel
theorem dX8_init_86 : decode cX8_init 86 = .ok (.iconst (-1), 1) := by decide +kernel
theorem dX8_init_87 : decode cX8_init 87 = .ok (.putfield 42, 3) := by decide +kernel
theorem dX8_init_90 : decode cX8_init 90 = .ok (.aload_n 0, 1) := by decide +kernel
theorem dX8_init_91 : decode cX8_init 91 = .ok (.bipush 20, 2) := by decide +kernel
theorem dX8_init_93 : decode cX8_init 93 = .ok (.putfield 45, 3) := by decide +kernel
theorem dX8_init_96 : decode cX8_init 96 = .ok (.aload_n 0, 1) := by decide +kernel
theorem dX8_init_97 : decode cX8_init 97 = .ok (.bipush 100, 2) := by decide +kernel
theorem dX8_init_99 : decode cX8_init 99 = .ok (.putfield 48, 3) := by decide +kernel
theorem dX8_init_102 : decode cX8_init 102 = .ok (.aload_n 0, 1) := by decide +kernel
theorem dX8_init_103 : decode cX8_init 103 = .ok (.iconst 3, 1) := by decide +kernel
theorem dX8_init_104 : decode cX8_init 104 = .ok (.putfield 51, 3) := by decide +kernel
theorem dX8_init_107 : decode cX8_init 107 = .ok (.aload_n 0, 1) := by decide +kernel
theorem dX8_init_108 : decode cX8_init 108 = .ok (.bipush 21, 2) := by decide +kernel
theorem dX8_init_110 : decode cX8_init 110 = .ok (.newarray .int, 2) := by decide +kernel
theorem dX8_init_112 : decode cX8_init 112 = .ok (.putfield 54, 3) := by decide +kernel
theorem dX8_init_115 : decode cX8_init 115 = .ok (.aload_n 0, 1) := by decide +kernel
theorem dX8_init_116 : decode cX8_init 116 = .ok (.sipush 160, 3) := by decide +kernel
theorem dX8_init_119 : decode cX8_init 119 = .ok (.newarray .int, 2) := by decide +kernel
theorem dX8_init_121 : decode cX8_init 121 = .ok (.putfield 57, 3) := by decide +kernel
theorem dX8_init_124 : decode cX8_init 124 = .ok (.aload_n 0, 1) := by decide +kernel
theorem dX8_init_125 : decode cX8_init 125 = .ok (.sipush 300, 3) := by decide +kernel
theorem dX8_init_128 : decode cX8_init 128 = .ok (.newarray .byte, 2) := by decide +kernel
theorem dX8_init_130 : decode cX8_init 130 = .ok (.putfield 60, 3) := by decide +kernel
theorem dX8_init_133 : decode cX8_init 133 = .ok (.aload_n 0, 1) := by decide +kernel
theorem dX8_init_134 : decode cX8_init 134 = .ok (.sipush 300, 3) := by decide +kernel
theorem dX8_init_137 : decode cX8_init 137 = .ok (.newarray .byte, 2) := by decide +kernel
theorem dX8_init_139 : decode cX8_init 139 = .ok (.putfield 64, 3) := by decide +kernel
theorem dX8_init_142 : decode cX8_init 142 = .ok (.aload_n 0, 1) := by decide +kernel
theorem dX8_init_143 : decode cX8_init 143 = .ok (.iconst (-1), 1) := by decide +kernel
theorem dX8_init_144 : decode cX8_init 144 = .ok (.putfield 67, 3) := by decide +kernel
theorem dX8_init_147 : decode cX8_init 147 = .ok (.aload_n 0, 1) := by decide +kernel
theorem dX8_init_148 : decode cX8_init 148 = .ok (.bipush 77, 2) := by decide +kernel
theorem dX8_init_150 : decode cX8_init 150 = .ok (.newarray .int, 2) := by decide +kernel
theorem dX8_init_152 : decode cX8_init 152 = .ok (.putfield 70, 3) := by decide +kernel
theorem dX8_init_155 : decode cX8_init 155 = .ok (.aload_n 0, 1) := by decide +kernel
theorem dX8_init_156 : decode cX8_init 156 = .ok (.bipush 11, 2) := by decide +kernel
theorem dX8_init_158 : decode cX8_init 158 = .ok (.newarray .int, 2) := by decide +kernel
theorem dX8_init_160 : decode cX8_init 160 = .ok (.putfield 73, 3) := by decide +kernel
theorem dX8_init_163 : decode cX8_init 163 = .ok (.aload_n 0, 1) := by decide +kernel
theorem dX8_init_164 : decode cX8_init 164 = .ok (.iconst 2, 1) := by decide +kernel
theorem dX8_init_165 : decode cX8_init 165 = .ok (.bipush 20, 2) := by decide +kernel
theorem dX8_init_167 : decode cX8_init 167 = .ok (.iload_n 1, 1) := by decide +kernel
theorem dX8_init_168 : decode cX8_init 168 = .ok (.invokestatic 76, 3) := by decide +kernel
theorem dX8_init_171 : decode cX8_init 171 = .ok (.invokestatic 82, 3) := by decide +kernel
theorem dX8_init_174 : decode cX8_init 174 = .ok (.putfield 85, 3) := by decide +kernel
theorem dX8_init_177 : decode cX8_init 177 = .ok (.aload_n 0, 1) := by decide +kernel
theorem dX8_init_178 : decode cX8_init 178 = .ok (.iconst 2, 1) := by decide +kernel
theorem dX8_init_179 : decode cX8_init 179 = .ok (.bipush 8, 2) := by decide +kernel
theorem dX8_init_181 : decode cX8_init 181 = .ok (.iload_n 2, 1) := by decide +kernel
theorem dX8_init_182 : decode cX8_init 182 = .ok (.invokestatic 76, 3) := by decide +kernel
theorem dX8_init_185 : decode cX8_init 185 = .ok (.invokestatic 82, 3) := by decide +kernel
theorem dX8_init_188 : decode cX8_init 188 = .ok (.putfield 88, 3) := by decide +kernel
theorem dX8_init_191 : decode cX8_init 191 = .ok (.iconst 0, 1) := by decide +kernel
theorem dX8_init_192 : decode cX8_init 192 = .ok (.istore_n 3, 1) := by decide +kernel
theorem dX8_init_193 : decode cX8_init 193 = .ok (.iload_n 3, 1) := by decide +kernel
theorem dX8_init_194 : decode cX8_init 194 = .ok (.sipush 160, 3) := by decide +kernel
theorem dX8_init_197 : decode cX8_init 197 = .ok (.if_icmp .ge 16, 3) := by decide +kernel
theorem dX8_init_200 : decode cX8_init 200 = .ok (.aload_n 0, 1) := by decide +kernel
theorem dX8_init_201 : decode cX8_init 201 = .ok (.getfield 7, 3) := by decide +kernel
theorem dX8_init_204 : decode cX8_init 204 = .ok (.iload_n 3, 1) := by decide +kernel
theorem dX8_init_205 : decode cX8_init 205 = .ok (.iconst 3, 1) := by decide +kernel
theorem dX8_init_206 : decode cX8_init 206 = .ok (.iastore, 1) := by decide +kernel
theorem dX8_init_207 : decode cX8_init 207 = .ok (.iinc 3 1, 3) := by decide +kernel
theorem dX8_init_210 : decode cX8_init 210 = .ok (.goto (-17), 3) := by decide +kernel
theorem dX8_init_213 : decode cX8_init 213 = .ok (.return_, 1) := by decide +kernel
theorem dX8_isIn_0 : decode cX8_isIn 0 = .ok (.iload_n 0, 1) := by decide +kernel
theorem dX8_isIn_1 : decode cX8_isIn 1 = .ok (.iload_n 1, 1) := by decide +kernel
theorem dX8_isIn_2 : decode cX8_isIn 2 = .ok (.if_icmp .lt 12, 3) := by decide +kernel
theorem dX8_isIn_5 : decode cX8_isIn 5 = .ok (.iload_n 0, 1) := by decide +kernel
theorem dX8_isIn_6 : decode cX8_isIn 6 = .ok (.iload_n 2, 1) := by decide +kernel
theorem dX8_isIn_7 : decode cX8_isIn 7 = .ok (.if_icmp .gt 7, 3) := by decide +kernel
theorem dX8_isIn_10 : decode cX8_isIn 10 = .ok (.iconst 1, 1) := by decide +kernel
theorem dX8_isIn_11 : decode cX8_isIn 11 = .ok (.goto 4, 3) := by decide +kernel
theorem dX8_isIn_14 : decode cX8_isIn 14 = .ok (.iconst 0, 1) := by decide +kernel
theorem dX8_isIn_15 : decode cX8_isIn 15 = .ok (.ireturn, 1) := by decide +kernel
theorem dX8_one_0 : decode cX8_one 0 = .ok (.iload_n 0, 1) := by decide +kernel
theorem dX8_one_1 : decode cX8_one 1 = .ok (.ifCond .eq 7, 3) := by decide +kernel
theorem dX8_one_4 : decode cX8_one 4 = .ok (.iconst 1, 1) := by decide +kernel
theorem dX8_one_5 : decode cX8_one 5 = .ok (.goto 4, 3) := by decide +kernel
theorem dX8_one_8 : decode cX8_one 8 = .ok (.iconst 0, 1) := by decide +kernel
theorem dX8_one_9 : decode cX8_one 9 = .ok (.ireturn, 1) := by decide +kernel
set_option maxRecDepth 20000 in
theorem ggX8_isSquare_X8_isIn : GoodIn wsX8_isSquare wsX8_isIn := goodIn_r _ [6] (by decide +kernel) (by decide +kernel)
set_option maxRecDepth 20000 in
theorem gX8_isSquare_X8_isIn : GoodIn wsX8_isSquare (va_wsS RX8 91 yX8_isIn wsX8_isIn) := goodIn_app (goodIn_of _ (by decide +kernel)) ggX8_isSquare_X8_isIn
theorem dX8_isSquare_0 : decode cX8_isSquare 0 = .ok (.iload_n 1, 1) := by decide +kernel
theorem dX8_isSquare_1 : decode cX8_isSquare 1 = .ok (.iconst 0, 1) := by decide +kernel
theorem dX8_isSquare_2 : decode cX8_isSquare 2 = .ok (.aload_n 0, 1) := by decide +kernel
theorem dX8_isSquare_3 : decode cX8_isSquare 3 = .ok (.getfield 85, 3) := by decide +kernel
theorem dX8_isSquare_6 : decode cX8_isSquare 6 = .ok (.iconst 1, 1) := by decide +kernel
theorem dX8_isSquare_7 : decode cX8_isSquare 7 = .ok (.isub, 1) := by decide +kernel
theorem dX8_isSquare_8 : decode cX8_isSquare 8 = .ok (.invokestatic 91, 3) := by decide +kernel
theorem dX8_isSquare_11 : decode cX8_isSquare 11 = .ok (.ifCond .eq 21, 3) := by decide +kernel
theorem dX8_isSquare_14 : decode cX8_isSquare 14 = .ok (.iload_n 2, 1) := by decide +kernel
theorem dX8_isSquare_15 : decode cX8_isSquare 15 = .ok (.iconst 0, 1) := by decide +kernel
theorem dX8_isSquare_16 : decode cX8_isSquare 16 = .ok (.aload_n 0, 1) := by decide +kernel
theorem dX8_isSquare_17 : decode cX8_isSquare 17 = .ok (.getfield 88, 3) := by decide +kernel
theorem dX8_isSquare_20 : decode cX8_isSquare 20 = .ok (.iconst 1, 1) := by decide +kernel
theorem dX8_isSquare_21 : decode cX8_isSquare 21 = .ok (.isub, 1) := by decide +kernel
theorem dX8_isSquare_22 : decode cX8_isSquare 22 = .ok (.invokestatic 91, 3) := by decide +kernel
theorem dX8_isSquare_25 : decode cX8_isSquare 25 = .ok (.ifCond .eq 7, 3) := by decide +kernel
theorem dX8_isSquare_28 : decode cX8_isSquare 28 = .ok (.iconst 1, 1) := by decide +kernel
theorem dX8_isSquare_29 : decode cX8_isSquare 29 = .ok (.goto 4, 3) := by decide +kernel
theorem dX8_isSquare_32 : decode cX8_isSquare 32 = .ok (.iconst 0, 1) := by decide +kernel
theorem dX8_isSquare_33 : decode cX8_isSquare 33 = .ok (.ireturn, 1) := by decide +kernel
set_option maxRecDepth 20000 in
theorem ggX8_depth_X8_isSquare : GoodIn wsX8_depth wsX8_isSquare := goodIn_r _ [7, 8, 9, 10, 11, 6, 12, 13, 14, 15, 16, 17, 18, 19, 20, 21, 22, 23, 24, 25, 26, 27, 28, 29, 30, 31, 32, 33, 34, 35, 36, 37, 38, 39, 40, 41, 42, 43, 44, 45, 46] (by decide +kernel) (by decide +kernel)
set_option maxRecDepth 20000 in
theorem gX8_depth_X8_isSquare : GoodIn wsX8_depth (wsV RX8 95 RX8 yX8_isSquare wsX8_isSquare) := goodIn_app (goodIn_of _ (by decide +kernel)) ggX8_depth_X8_isSquare
set_option maxRecDepth 20000 in
theorem ggX8_depth_X8_isIn : GoodIn wsX8_depth wsX8_isIn := goodIn_r _ [12] (by decide +kernel) (by decide +kernel)
set_option maxRecDepth 20000 in
theorem gX8_depth_X8_isIn : GoodIn wsX8_depth (va_wsS RX8 91 yX8_isIn wsX8_isIn) := goodIn_app (goodIn_of _ (by decide +kernel)) ggX8_depth_X8_isIn
theorem dX8_depth_0 : decode cX8_depth 0 = .ok (.aload_n 0, 1) := by decide +kernel
theorem dX8_depth_1 : decode cX8_depth 1 = .ok (.iload_n 1, 1) := by decide +kernel
theorem dX8_depth_2 : decode cX8_depth 2 = .ok (.iload_n 2, 1) := by decide +kernel
theorem dX8_depth_3 : decode cX8_depth 3 = .ok (.invokevirtual 95, 3) := by decide +kernel
theorem dX8_depth_6 : decode cX8_depth 6 = .ok (.ifCond .eq 27, 3) := by decide +kernel
theorem dX8_depth_9 : decode cX8_depth 9 = .ok (.aload_n 0, 1) := by decide +kernel
theorem dX8_depth_10 : decode cX8_depth 10 = .ok (.getfield 23, 3) := by decide +kernel
theorem dX8_depth_13 : decode cX8_depth 13 = .ok (.bipush 8, 2) := by decide +kernel
theorem dX8_depth_15 : decode cX8_depth 15 = .ok (.iload_n 1, 1) := by decide +kernel
theorem dX8_depth_16 : decode cX8_depth 16 = .ok (.imul, 1) := by decide +kernel
theorem dX8_depth_17 : decode cX8_depth 17 = .ok (.iload_n 2, 1) := by decide +kernel
theorem dX8_depth_18 : decode cX8_depth 18 = .ok (.iadd, 1) := by decide +kernel
theorem dX8_depth_19 : decode cX8_depth 19 = .ok (.baload, 1) := by decide +kernel
theorem dX8_depth_20 : decode cX8_depth 20 = .ok (.ifCond .ne 13, 3) := by decide +kernel
theorem dX8_depth_23 : decode cX8_depth 23 = .ok (.iload_n 3, 1) := by decide +kernel
theorem dX8_depth_24 : decode cX8_depth 24 = .ok (.iconst 1, 1) := by decide +kernel
theorem dX8_depth_25 : decode cX8_depth 25 = .ok (.bipush 9, 2) := by decide +kernel
theorem dX8_depth_27 : decode cX8_depth 27 = .ok (.invokestatic 91, 3) := by decide +kernel
theorem dX8_depth_30 : decode cX8_depth 30 = .ok (.ifCond .ne 5, 3) := by decide +kernel
theorem dX8_depth_33 : decode cX8_depth 33 = .ok (.iconst 0, 1) := by decide +kernel
theorem dX8_depth_34 : decode cX8_depth 34 = .ok (.ireturn, 1) := by decide +kernel
theorem dX8_depth_35 : decode cX8_depth 35 = .ok (.aload_n 0, 1) := by decide +kernel
theorem dX8_depth_36 : decode cX8_depth 36 = .ok (.getfield 7, 3) := by decide +kernel
theorem dX8_depth_39 : decode cX8_depth 39 = .ok (.bipush 8, 2) := by decide +kernel
theorem dX8_depth_41 : decode cX8_depth 41 = .ok (.iload_n 1, 1) := by decide +kernel
theorem dX8_depth_42 : decode cX8_depth 42 = .ok (.imul, 1) := by decide +kernel
theorem dX8_depth_43 : decode cX8_depth 43 = .ok (.iload_n 2, 1) := by decide +kernel
theorem dX8_depth_44 : decode cX8_depth 44 = .ok (.iadd, 1) := by decide +kernel
theorem dX8_depth_45 : decode cX8_depth 45 = .ok (.iload_n 3, 1) := by decide +kernel
theorem dX8_depth_46 : decode cX8_depth 46 = .ok (.iastore, 1) := by decide +kernel
theorem dX8_depth_47 : decode cX8_depth 47 = .ok (.iconst 1, 1) := by decide +kernel
theorem dX8_depth_48 : decode cX8_depth 48 = .ok (.ireturn, 1) := by decide +kernel
set_option maxRecDepth 20000 in
theorem ggX8_grade_X8_isIn : GoodIn wsX8_grade wsX8_isIn := goodIn_r _ [5] (by decide +kernel) (by decide +kernel)
set_option maxRecDepth 20000 in
theorem gX8_grade_X8_isIn : GoodIn wsX8_grade (va_wsS RX8 91 yX8_isIn wsX8_isIn) := goodIn_app (goodIn_of _ (by decide +kernel)) ggX8_grade_X8_isIn
theorem dX8_grade_0 : decode cX8_grade 0 = .ok (.iload_n 1, 1) := by decide +kernel
theorem dX8_grade_1 : decode cX8_grade 1 = .ok (.iconst 0, 1) := by decide +kernel
theorem dX8_grade_2 : decode cX8_grade 2 = .ok (.sipush 200, 3) := by decide +kernel
theorem dX8_grade_5 : decode cX8_grade 5 = .ok (.invokestatic 91, 3) := by decide +kernel
theorem dX8_grade_8 : decode cX8_grade 8 = .ok (.ifCond .ne 12, 3) := by decide +kernel
theorem dX8_grade_11 : decode cX8_grade 11 = .ok (.iload_n 1, 1) := by decide +kernel
theorem dX8_grade_12 : decode cX8_grade 12 = .ok (.sipush 1000, 3) := by decide +kernel
theorem dX8_grade_15 : decode cX8_grade 15 = .ok (.if_icmp .eq 5, 3) := by decide +kernel
theorem dX8_grade_18 : decode cX8_grade 18 = .ok (.iconst 0, 1) := by decide +kernel
theorem dX8_grade_19 : decode cX8_grade 19 = .ok (.ireturn, 1) := by decide +kernel
theorem dX8_grade_20 : decode cX8_grade 20 = .ok (.aload_n 0, 1) := by decide +kernel
theorem dX8_grade_21 : decode cX8_grade 21 = .ok (.iload_n 1, 1) := by decide +kernel
theorem dX8_grade_22 : decode cX8_grade 22 = .ok (.putfield 32, 3) := by decide +kernel
theorem dX8_grade_25 : decode cX8_grade 25 = .ok (.iconst 1, 1) := by decide +kernel
theorem dX8_grade_26 : decode cX8_grade 26 = .ok (.ireturn, 1) := by decide +kernel
theorem dX8_learns_0 : decode cX8_learns 0 = .ok (.aload_n 0, 1) := by decide +kernel
theorem dX8_learns_1 : decode cX8_learns 1 = .ok (.getfield 13, 3) := by decide +kernel
theorem dX8_learns_4 : decode cX8_learns 4 = .ok (.iload_n 1, 1) := by decide +kernel
theorem dX8_learns_5 : decode cX8_learns 5 = .ok (.iload_n 2, 1) := by decide +kernel
theorem dX8_learns_6 : decode cX8_learns 6 = .ok (.iastore, 1) := by decide +kernel
theorem dX8_learns_7 : decode cX8_learns 7 = .ok (.aload_n 0, 1) := by decide +kernel
theorem dX8_learns_8 : decode cX8_learns 8 = .ok (.getfield 19, 3) := by decide +kernel
theorem dX8_learns_11 : decode cX8_learns 11 = .ok (.iload_n 1, 1) := by decide +kernel
theorem dX8_learns_12 : decode cX8_learns 12 = .ok (.iconst 1, 1) := by decide +kernel
theorem dX8_learns_13 : decode cX8_learns 13 = .ok (.bastore, 1) := by decide +kernel
theorem dX8_learns_14 : decode cX8_learns 14 = .ok (.return_, 1) := by decide +kernel
set_option maxRecDepth 20000 in
theorem ggX8_bore_X8_isSquare : GoodIn wsX8_bore wsX8_isSquare := goodIn_r _ [6, 7, 8, 9, 10, 5, 11, 18, 19, 20, 21, 22, 23, 24, 25, 26, 27, 28, 29, 30, 31, 32, 33, 34, 35, 36, 37, 38, 39, 40, 41, 42, 43, 44, 45, 46, 47, 48, 49, 50, 51] (by decide +kernel) (by decide +kernel)
set_option maxRecDepth 20000 in
theorem gX8_bore_X8_isSquare : GoodIn wsX8_bore (wsV RX8 95 RX8 yX8_isSquare wsX8_isSquare) := goodIn_app (goodIn_of _ (by decide +kernel)) ggX8_bore_X8_isSquare
set_option maxRecDepth 20000 in
theorem ggX8_bore_X8_isIn : GoodIn wsX8_bore wsX8_isIn := goodIn_r _ [11] (by decide +kernel) (by decide +kernel)
set_option maxRecDepth 20000 in
theorem gX8_bore_X8_isIn : GoodIn wsX8_bore (va_wsS RX8 91 yX8_isIn wsX8_isIn) := goodIn_app (goodIn_of _ (by decide +kernel)) ggX8_bore_X8_isIn
set_option maxRecDepth 20000 in
theorem ggX8_bore_X8_learns : GoodIn wsX8_bore wsX8_learns := goodIn_r _ [15, 16, 17, 18, 19, 20, 21, 22, 23, 24, 25, 26, 27, 28, 29, 30, 31, 32, 33, 34, 35, 36, 37, 38, 39, 40, 41, 42, 43, 44, 45, 46, 47, 48, 49, 50, 51] (by decide +kernel) (by decide +kernel)
set_option maxRecDepth 20000 in
theorem gX8_bore_X8_learns : GoodIn wsX8_bore (wsV RX8 99 RX8 yX8_learns wsX8_learns) := goodIn_app (goodIn_of _ (by decide +kernel)) ggX8_bore_X8_learns
theorem dX8_bore_0 : decode cX8_bore 0 = .ok (.aload_n 0, 1) := by decide +kernel
theorem dX8_bore_1 : decode cX8_bore 1 = .ok (.iload_n 1, 1) := by decide +kernel
theorem dX8_bore_2 : decode cX8_bore 2 = .ok (.iload_n 2, 1) := by decide +kernel
theorem dX8_bore_3 : decode cX8_bore 3 = .ok (.invokevirtual 95, 3) := by decide +kernel
theorem dX8_bore_6 : decode cX8_bore 6 = .ok (.ifCond .eq 28, 3) := by decide +kernel
theorem dX8_bore_9 : decode cX8_bore 9 = .ok (.aload_n 0, 1) := by decide +kernel
theorem dX8_bore_10 : decode cX8_bore 10 = .ok (.getfield 23, 3) := by decide +kernel
theorem dX8_bore_13 : decode cX8_bore 13 = .ok (.bipush 8, 2) := by decide +kernel
theorem dX8_bore_15 : decode cX8_bore 15 = .ok (.iload_n 1, 1) := by decide +kernel
theorem dX8_bore_16 : decode cX8_bore 16 = .ok (.imul, 1) := by decide +kernel
theorem dX8_bore_17 : decode cX8_bore 17 = .ok (.iload_n 2, 1) := by decide +kernel
theorem dX8_bore_18 : decode cX8_bore 18 = .ok (.iadd, 1) := by decide +kernel
theorem dX8_bore_19 : decode cX8_bore 19 = .ok (.baload, 1) := by decide +kernel
theorem dX8_bore_20 : decode cX8_bore 20 = .ok (.ifCond .ne 14, 3) := by decide +kernel
theorem dX8_bore_23 : decode cX8_bore 23 = .ok (.iload_n 3, 1) := by decide +kernel
theorem dX8_bore_24 : decode cX8_bore 24 = .ok (.iconst 0, 1) := by decide +kernel
theorem dX8_bore_25 : decode cX8_bore 25 = .ok (.sipush 1000, 3) := by decide +kernel
theorem dX8_bore_28 : decode cX8_bore 28 = .ok (.invokestatic 91, 3) := by decide +kernel
theorem dX8_bore_31 : decode cX8_bore 31 = .ok (.ifCond .ne 5, 3) := by decide +kernel
theorem dX8_bore_34 : decode cX8_bore 34 = .ok (.iconst 0, 1) := by decide +kernel
theorem dX8_bore_35 : decode cX8_bore 35 = .ok (.ireturn, 1) := by decide +kernel
theorem dX8_bore_36 : decode cX8_bore 36 = .ok (.aload_n 0, 1) := by decide +kernel
theorem dX8_bore_37 : decode cX8_bore 37 = .ok (.bipush 8, 2) := by decide +kernel
theorem dX8_bore_39 : decode cX8_bore 39 = .ok (.iload_n 1, 1) := by decide +kernel
theorem dX8_bore_40 : decode cX8_bore 40 = .ok (.imul, 1) := by decide +kernel
theorem dX8_bore_41 : decode cX8_bore 41 = .ok (.iload_n 2, 1) := by decide +kernel
theorem dX8_bore_42 : decode cX8_bore 42 = .ok (.iadd, 1) := by decide +kernel
theorem dX8_bore_43 : decode cX8_bore 43 = .ok (.iload_n 3, 1) := by decide +kernel
theorem dX8_bore_44 : decode cX8_bore 44 = .ok (.invokevirtual 99, 3) := by decide +kernel
theorem dX8_bore_47 : decode cX8_bore 47 = .ok (.iconst 1, 1) := by decide +kernel
theorem dX8_bore_48 : decode cX8_bore 48 = .ok (.ireturn, 1) := by decide +kernel
set_option maxRecDepth 20000 in
theorem ggX8_cost_X8_isIn : GoodIn wsX8_cost wsX8_isIn := goodIn_r _ [5] (by decide +kernel) (by decide +kernel)
set_option maxRecDepth 20000 in
theorem gX8_cost_X8_isIn : GoodIn wsX8_cost (va_wsS RX8 91 yX8_isIn wsX8_isIn) := goodIn_app (goodIn_of _ (by decide +kernel)) ggX8_cost_X8_isIn
theorem dX8_cost_0 : decode cX8_cost 0 = .ok (.iload_n 1, 1) := by decide +kernel
theorem dX8_cost_1 : decode cX8_cost 1 = .ok (.iconst 0, 1) := by decide +kernel
theorem dX8_cost_2 : decode cX8_cost 2 = .ok (.sipush 1000, 3) := by decide +kernel
theorem dX8_cost_5 : decode cX8_cost 5 = .ok (.invokestatic 91, 3) := by decide +kernel
theorem dX8_cost_8 : decode cX8_cost 8 = .ok (.ifCond .ne 5, 3) := by decide +kernel
theorem dX8_cost_11 : decode cX8_cost 11 = .ok (.iconst 0, 1) := by decide +kernel
theorem dX8_cost_12 : decode cX8_cost 12 = .ok (.ireturn, 1) := by decide +kernel
theorem dX8_cost_13 : decode cX8_cost 13 = .ok (.aload_n 0, 1) := by decide +kernel
theorem dX8_cost_14 : decode cX8_cost 14 = .ok (.iload_n 1, 1) := by decide +kernel
theorem dX8_cost_15 : decode cX8_cost 15 = .ok (.putfield 36, 3) := by decide +kernel
theorem dX8_cost_18 : decode cX8_cost 18 = .ok (.iconst 1, 1) := by decide +kernel
theorem dX8_cost_19 : decode cX8_cost 19 = .ok (.ireturn, 1) := by decide +kernel
theorem dX8_end_0 : decode cX8_end 0 = .ok (.bipush 8, 2) := by decide +kernel
theorem dX8_end_2 : decode cX8_end 2 = .ok (.iload_n 1, 1) := by decide +kernel
theorem dX8_end_3 : decode cX8_end 3 = .ok (.imul, 1) := by decide +kernel
theorem dX8_end_4 : decode cX8_end 4 = .ok (.iload_n 2, 1) := by decide +kernel
theorem dX8_end_5 : decode cX8_end 5 = .ok (.iadd, 1) := by decide +kernel
theorem dX8_end_6 : decode cX8_end 6 = .ok (.istore 4, 2) := by decide +kernel
theorem dX8_end_8 : decode cX8_end 8 = .ok (.aload_n 0, 1) := by decide +kernel
theorem dX8_end_9 : decode cX8_end 9 = .ok (.getfield 19, 3) := by decide +kernel
theorem dX8_end_12 : decode cX8_end 12 = .ok (.iload 4, 2) := by decide +kernel
theorem dX8_end_14 : decode cX8_end 14 = .ok (.baload, 1) := by decide +kernel
theorem dX8_end_15 : decode cX8_end 15 = .ok (.ifCond .eq 11, 3) := by decide +kernel
theorem dX8_end_18 : decode cX8_end 18 = .ok (.aload_n 0, 1) := by decide +kernel
theorem dX8_end_19 : decode cX8_end 19 = .ok (.getfield 13, 3) := by decide +kernel
theorem dX8_end_22 : decode cX8_end 22 = .ok (.iload 4, 2) := by decide +kernel
theorem dX8_end_24 : decode cX8_end 24 = .ok (.iaload, 1) := by decide +kernel
theorem dX8_end_25 : decode cX8_end 25 = .ok (.ireturn, 1) := by decide +kernel
theorem dX8_end_26 : decode cX8_end 26 = .ok (.iload_n 3, 1) := by decide +kernel
theorem dX8_end_27 : decode cX8_end 27 = .ok (.ifCond .eq 9, 3) := by decide +kernel
theorem dX8_end_30 : decode cX8_end 30 = .ok (.sipush 1000, 3) := by decide +kernel
theorem dX8_end_33 : decode cX8_end 33 = .ok (.goto 4, 3) := by decide +kernel
theorem dX8_end_36 : decode cX8_end 36 = .ok (.iconst 0, 1) := by decide +kernel
theorem dX8_end_37 : decode cX8_end 37 = .ok (.istore 5, 2) := by decide +kernel
theorem dX8_end_39 : decode cX8_end 39 = .ok (.iconst 0, 1) := by decide +kernel
theorem dX8_end_40 : decode cX8_end 40 = .ok (.istore 6, 2) := by decide +kernel
theorem dX8_end_42 : decode cX8_end 42 = .ok (.iload 6, 2) := by decide +kernel
theorem dX8_end_44 : decode cX8_end 44 = .ok (.aload_n 0, 1) := by decide +kernel
theorem dX8_end_45 : decode cX8_end 45 = .ok (.getfield 85, 3) := by decide +kernel
theorem dX8_end_48 : decode cX8_end 48 = .ok (.if_icmp .ge 119, 3) := by decide +kernel
theorem dX8_end_51 : decode cX8_end 51 = .ok (.iconst 0, 1) := by decide +kernel
theorem dX8_end_52 : decode cX8_end 52 = .ok (.istore 7, 2) := by decide +kernel
theorem dX8_end_54 : decode cX8_end 54 = .ok (.iload 7, 2) := by decide +kernel
theorem dX8_end_56 : decode cX8_end 56 = .ok (.aload_n 0, 1) := by decide +kernel
theorem dX8_end_57 : decode cX8_end 57 = .ok (.getfield 88, 3) := by decide +kernel
theorem dX8_end_60 : decode cX8_end 60 = .ok (.if_icmp .ge 101, 3) := by decide +kernel
theorem dX8_end_63 : decode cX8_end 63 = .ok (.aload_n 0, 1) := by decide +kernel
theorem dX8_end_64 : decode cX8_end 64 = .ok (.getfield 19, 3) := by decide +kernel
theorem dX8_end_67 : decode cX8_end 67 = .ok (.bipush 8, 2) := by decide +kernel
theorem dX8_end_69 : decode cX8_end 69 = .ok (.iload 6, 2) := by decide +kernel
theorem dX8_end_71 : decode cX8_end 71 = .ok (.imul, 1) := by decide +kernel
theorem dX8_end_72 : decode cX8_end 72 = .ok (.iload 7, 2) := by decide +kernel
theorem dX8_end_74 : decode cX8_end 74 = .ok (.iadd, 1) := by decide +kernel
theorem dX8_end_75 : decode cX8_end 75 = .ok (.baload, 1) := by decide +kernel
theorem dX8_end_76 : decode cX8_end 76 = .ok (.ifCond .ne 6, 3) := by decide +kernel
theorem dX8_end_79 : decode cX8_end 79 = .ok (.goto 76, 3) := by decide +kernel
theorem dX8_end_82 : decode cX8_end 82 = .ok (.aload_n 0, 1) := by decide +kernel
theorem dX8_end_83 : decode cX8_end 83 = .ok (.getfield 32, 3) := by decide +kernel
theorem dX8_end_86 : decode cX8_end 86 = .ok (.iload 6, 2) := by decide +kernel
theorem dX8_end_88 : decode cX8_end 88 = .ok (.iload_n 1, 1) := by decide +kernel
theorem dX8_end_89 : decode cX8_end 89 = .ok (.isub, 1) := by decide +kernel
theorem dX8_end_90 : decode cX8_end 90 = .ok (.invokestatic 103, 3) := by decide +kernel
theorem dX8_end_93 : decode cX8_end 93 = .ok (.iload 7, 2) := by decide +kernel
theorem dX8_end_95 : decode cX8_end 95 = .ok (.iload_n 2, 1) := by decide +kernel
theorem dX8_end_96 : decode cX8_end 96 = .ok (.isub, 1) := by decide +kernel
theorem dX8_end_97 : decode cX8_end 97 = .ok (.invokestatic 103, 3) := by decide +kernel
theorem dX8_end_100 : decode cX8_end 100 = .ok (.iadd, 1) := by decide +kernel
theorem dX8_end_101 : decode cX8_end 101 = .ok (.imul, 1) := by decide +kernel
theorem dX8_end_102 : decode cX8_end 102 = .ok (.istore 8, 2) := by decide +kernel
theorem dX8_end_104 : decode cX8_end 104 = .ok (.iload_n 3, 1) := by decide +kernel
theorem dX8_end_105 : decode cX8_end 105 = .ok (.ifCond .eq 27, 3) := by decide +kernel
theorem dX8_end_108 : decode cX8_end 108 = .ok (.iload 5, 2) := by decide +kernel
theorem dX8_end_110 : decode cX8_end 110 = .ok (.aload_n 0, 1) := by decide +kernel
theorem dX8_end_111 : decode cX8_end 111 = .ok (.getfield 13, 3) := by decide +kernel
theorem dX8_end_114 : decode cX8_end 114 = .ok (.bipush 8, 2) := by decide +kernel
theorem dX8_end_116 : decode cX8_end 116 = .ok (.iload 6, 2) := by decide +kernel
theorem dX8_end_118 : decode cX8_end 118 = .ok (.imul, 1) := by decide +kernel
theorem dX8_end_119 : decode cX8_end 119 = .ok (.iload 7, 2) := by decide +kernel
theorem dX8_end_121 : decode cX8_end 121 = .ok (.iadd, 1) := by decide +kernel
theorem dX8_end_122 : decode cX8_end 122 = .ok (.iaload, 1) := by decide +kernel
theorem dX8_end_123 : decode cX8_end 123 = .ok (.iload 8, 2) := by decide +kernel
theorem dX8_end_125 : decode cX8_end 125 = .ok (.iadd, 1) := by decide +kernel
theorem dX8_end_126 : decode cX8_end 126 = .ok (.invokestatic 76, 3) := by decide +kernel
theorem dX8_end_129 : decode cX8_end 129 = .ok (.goto 24, 3) := by decide +kernel
theorem dX8_end_132 : decode cX8_end 132 = .ok (.iload 5, 2) := by decide +kernel
theorem dX8_end_134 : decode cX8_end 134 = .ok (.aload_n 0, 1) := by decide +kernel
theorem dX8_end_135 : decode cX8_end 135 = .ok (.getfield 13, 3) := by decide +kernel
theorem dX8_end_138 : decode cX8_end 138 = .ok (.bipush 8, 2) := by decide +kernel
theorem dX8_end_140 : decode cX8_end 140 = .ok (.iload 6, 2) := by decide +kernel
theorem dX8_end_142 : decode cX8_end 142 = .ok (.imul, 1) := by decide +kernel
theorem dX8_end_143 : decode cX8_end 143 = .ok (.iload 7, 2) := by decide +kernel
theorem dX8_end_145 : decode cX8_end 145 = .ok (.iadd, 1) := by decide +kernel
theorem dX8_end_146 : decode cX8_end 146 = .ok (.iaload, 1) := by decide +kernel
theorem dX8_end_147 : decode cX8_end 147 = .ok (.iload 8, 2) := by decide +kernel
theorem dX8_end_149 : decode cX8_end 149 = .ok (.isub, 1) := by decide +kernel
theorem dX8_end_150 : decode cX8_end 150 = .ok (.invokestatic 82, 3) := by decide +kernel
theorem dX8_end_153 : decode cX8_end 153 = .ok (.istore 5, 2) := by decide +kernel
theorem dX8_end_155 : decode cX8_end 155 = .ok (.iinc 7 1, 3) := by decide +kernel
theorem dX8_end_158 : decode cX8_end 158 = .ok (.goto (-104), 3) := by decide +kernel
theorem dX8_end_161 : decode cX8_end 161 = .ok (.iinc 6 1, 3) := by decide +kernel
theorem dX8_end_164 : decode cX8_end 164 = .ok (.goto (-122), 3) := by decide +kernel
theorem dX8_end_167 : decode cX8_end 167 = .ok (.iload 5, 2) := by decide +kernel
theorem dX8_end_169 : decode cX8_end 169 = .ok (.ireturn, 1) := by decide +kernel
set_option maxRecDepth 20000 in
theorem ggX8_quarrels_X8_end : GoodIn wsX8_quarrels wsX8_end := goodIn_r _ [5, 6, 7, 8, 9, 10, 11, 12, 13, 14, 15, 16, 17, 18, 19, 20, 21, 22, 23, 24, 25, 26, 27, 28, 29, 30, 31, 32, 33, 34, 35, 36, 37, 38, 39, 40, 41, 42, 43, 44, 45, 46, 47, 48, 49, 50, 51, 52, 53, 54] (by decide +kernel) (by decide +kernel)
set_option maxRecDepth 20000 in
theorem gX8_quarrels_X8_end : GoodIn wsX8_quarrels (wsV RX8 107 RX8 yX8_end wsX8_end) := goodIn_app (goodIn_of _ (by decide +kernel)) ggX8_quarrels_X8_end
theorem dX8_quarrels_0 : decode cX8_quarrels 0 = .ok (.aload_n 0, 1) := by decide +kernel
theorem dX8_quarrels_1 : decode cX8_quarrels 1 = .ok (.iload_n 1, 1) := by decide +kernel
theorem dX8_quarrels_2 : decode cX8_quarrels 2 = .ok (.iload_n 2, 1) := by decide +kernel
theorem dX8_quarrels_3 : decode cX8_quarrels 3 = .ok (.iconst 0, 1) := by decide +kernel
theorem dX8_quarrels_4 : decode cX8_quarrels 4 = .ok (.invokevirtual 107, 3) := by decide +kernel
theorem dX8_quarrels_7 : decode cX8_quarrels 7 = .ok (.aload_n 0, 1) := by decide +kernel
theorem dX8_quarrels_8 : decode cX8_quarrels 8 = .ok (.iload_n 1, 1) := by decide +kernel
theorem dX8_quarrels_9 : decode cX8_quarrels 9 = .ok (.iload_n 2, 1) := by decide +kernel
theorem dX8_quarrels_10 : decode cX8_quarrels 10 = .ok (.iconst 1, 1) := by decide +kernel
theorem dX8_quarrels_11 : decode cX8_quarrels 11 = .ok (.invokevirtual 107, 3) := by decide +kernel
theorem dX8_quarrels_14 : decode cX8_quarrels 14 = .ok (.if_icmp .le 7, 3) := by decide +kernel
theorem dX8_quarrels_17 : decode cX8_quarrels 17 = .ok (.iconst 1, 1) := by decide +kernel
theorem dX8_quarrels_18 : decode cX8_quarrels 18 = .ok (.goto 4, 3) := by decide +kernel
theorem dX8_quarrels_21 : decode cX8_quarrels 21 = .ok (.iconst 0, 1) := by decide +kernel
theorem dX8_quarrels_22 : decode cX8_quarrels 22 = .ok (.ireturn, 1) := by decide +kernel
set_option maxRecDepth 20000 in
theorem ggX8_square_X8_isSquare : GoodIn wsX8_square wsX8_isSquare := goodIn_r _ [9, 10, 11, 12, 13, 8, 14, 38, 39, 40, 41, 42, 43, 44, 45, 46, 47, 48, 49, 50, 51, 52, 53, 54, 55, 56, 57, 58, 59, 60, 61, 62, 63, 64, 65, 66, 67, 68, 69, 70, 71] (by decide +kernel) (by decide +kernel)
set_option maxRecDepth 20000 in
theorem gX8_square_X8_isSquare : GoodIn wsX8_square (wsV RX8 95 RX8 yX8_isSquare wsX8_isSquare) := goodIn_app (goodIn_of _ (by decide +kernel)) ggX8_square_X8_isSquare
set_option maxRecDepth 20000 in
theorem ggX8_square_X8_end : GoodIn wsX8_square wsX8_end := goodIn_r _ [18, 4, 19, 10, 11, 20, 21, 22, 23, 24, 25, 26, 27, 28, 29, 30, 38, 39, 40, 41, 42, 43, 44, 45, 46, 47, 48, 49, 50, 51, 52, 53, 54, 55, 56, 57, 58, 59, 60, 61, 62, 63, 64, 65, 66, 67, 68, 69, 70, 71] (by decide +kernel) (by decide +kernel)
set_option maxRecDepth 20000 in
theorem gX8_square_X8_end : GoodIn wsX8_square (wsV RX8 107 RX8 yX8_end wsX8_end) := goodIn_app (goodIn_of _ (by decide +kernel)) ggX8_square_X8_end
set_option maxRecDepth 20000 in
theorem ggX8_square_X8_quarrels : GoodIn wsX8_square wsX8_quarrels := goodIn_r _ [34, 15, 16, 17, 8, 18, 4, 19, 10, 11, 20, 21, 22, 23, 24, 25, 26, 27, 28, 29, 30, 38, 39, 40, 41, 42, 43, 44, 45, 46, 47, 48, 49, 50, 51, 52, 53, 54, 55, 56, 57, 58, 59, 60, 61, 62, 63, 64, 65, 66, 67, 68, 69, 70, 71] (by decide +kernel) (by decide +kernel)
set_option maxRecDepth 20000 in
theorem gX8_square_X8_quarrels : GoodIn wsX8_square (wsV RX8 111 RX8 yX8_quarrels wsX8_quarrels) := goodIn_app (goodIn_of _ (by decide +kernel)) ggX8_square_X8_quarrels
set_option maxRecDepth 20000 in
theorem ggX8_square_X8_one : GoodIn wsX8_square wsX8_one := goodIn_r _ [37] (by decide +kernel) (by decide +kernel)
set_option maxRecDepth 20000 in
theorem gX8_square_X8_one : GoodIn wsX8_square (va_wsS RX8 114 yX8_one wsX8_one) := goodIn_app (goodIn_of _ (by decide +kernel)) ggX8_square_X8_one
theorem dX8_square_0 : decode cX8_square 0 = .ok (.aload_n 0, 1) := by decide +kernel
theorem dX8_square_1 : decode cX8_square 1 = .ok (.iload_n 1, 1) := by decide +kernel
theorem dX8_square_2 : decode cX8_square 2 = .ok (.iload_n 2, 1) := by decide +kernel
theorem dX8_square_3 : decode cX8_square 3 = .ok (.invokevirtual 95, 3) := by decide +kernel
theorem dX8_square_6 : decode cX8_square 6 = .ok (.ifCond .ne 5, 3) := by decide +kernel
theorem dX8_square_9 : decode cX8_square 9 = .ok (.iconst (-1), 1) := by decide +kernel
theorem dX8_square_10 : decode cX8_square 10 = .ok (.ireturn, 1) := by decide +kernel
theorem dX8_square_11 : decode cX8_square 11 = .ok (.bipush 8, 2) := by decide +kernel
theorem dX8_square_13 : decode cX8_square 13 = .ok (.iload_n 1, 1) := by decide +kernel
theorem dX8_square_14 : decode cX8_square 14 = .ok (.imul, 1) := by decide +kernel
theorem dX8_square_15 : decode cX8_square 15 = .ok (.iload_n 2, 1) := by decide +kernel
theorem dX8_square_16 : decode cX8_square 16 = .ok (.iadd, 1) := by decide +kernel
theorem dX8_square_17 : decode cX8_square 17 = .ok (.istore 4, 2) := by decide +kernel
theorem dX8_square_19 : decode cX8_square 19 = .ok (.iload_n 3, 1) := by decide +kernel
theorem dX8_square_20 : decode cX8_square 20 = .ok (.tableswitch 111 0 6 #[44, 52, 60, 68, 78, 89, 100], 44) := by decide +kernel
theorem dX8_square_64 : decode cX8_square 64 = .ok (.aload_n 0, 1) := by decide +kernel
theorem dX8_square_65 : decode cX8_square 65 = .ok (.getfield 7, 3) := by decide +kernel
theorem dX8_square_68 : decode cX8_square 68 = .ok (.iload 4, 2) := by decide +kernel
theorem dX8_square_70 : decode cX8_square 70 = .ok (.iaload, 1) := by decide +kernel
theorem dX8_square_71 : decode cX8_square 71 = .ok (.ireturn, 1) := by decide +kernel
theorem dX8_square_72 : decode cX8_square 72 = .ok (.aload_n 0, 1) := by decide +kernel
theorem dX8_square_73 : decode cX8_square 73 = .ok (.iload_n 1, 1) := by decide +kernel
theorem dX8_square_74 : decode cX8_square 74 = .ok (.iload_n 2, 1) := by decide +kernel
theorem dX8_square_75 : decode cX8_square 75 = .ok (.iconst 0, 1) := by decide +kernel
theorem dX8_square_76 : decode cX8_square 76 = .ok (.invokevirtual 107, 3) := by decide +kernel
theorem dX8_square_79 : decode cX8_square 79 = .ok (.ireturn, 1) := by decide +kernel
theorem dX8_square_80 : decode cX8_square 80 = .ok (.aload_n 0, 1) := by decide +kernel
theorem dX8_square_81 : decode cX8_square 81 = .ok (.iload_n 1, 1) := by decide +kernel
theorem dX8_square_82 : decode cX8_square 82 = .ok (.iload_n 2, 1) := by decide +kernel
theorem dX8_square_83 : decode cX8_square 83 = .ok (.iconst 1, 1) := by decide +kernel
theorem dX8_square_84 : decode cX8_square 84 = .ok (.invokevirtual 107, 3) := by decide +kernel
theorem dX8_square_87 : decode cX8_square 87 = .ok (.ireturn, 1) := by decide +kernel
theorem dX8_square_88 : decode cX8_square 88 = .ok (.aload_n 0, 1) := by decide +kernel
theorem dX8_square_89 : decode cX8_square 89 = .ok (.iload_n 1, 1) := by decide +kernel
theorem dX8_square_90 : decode cX8_square 90 = .ok (.iload_n 2, 1) := by decide +kernel
theorem dX8_square_91 : decode cX8_square 91 = .ok (.invokevirtual 111, 3) := by decide +kernel
theorem dX8_square_94 : decode cX8_square 94 = .ok (.invokestatic 114, 3) := by decide +kernel
theorem dX8_square_97 : decode cX8_square 97 = .ok (.ireturn, 1) := by decide +kernel
theorem dX8_square_98 : decode cX8_square 98 = .ok (.aload_n 0, 1) := by decide +kernel
theorem dX8_square_99 : decode cX8_square 99 = .ok (.getfield 23, 3) := by decide +kernel
theorem dX8_square_102 : decode cX8_square 102 = .ok (.iload 4, 2) := by decide +kernel
theorem dX8_square_104 : decode cX8_square 104 = .ok (.baload, 1) := by decide +kernel
theorem dX8_square_105 : decode cX8_square 105 = .ok (.invokestatic 114, 3) := by decide +kernel
theorem dX8_square_108 : decode cX8_square 108 = .ok (.ireturn, 1) := by decide +kernel
theorem dX8_square_109 : decode cX8_square 109 = .ok (.aload_n 0, 1) := by decide +kernel
theorem dX8_square_110 : decode cX8_square 110 = .ok (.getfield 26, 3) := by decide +kernel
theorem dX8_square_113 : decode cX8_square 113 = .ok (.iload 4, 2) := by decide +kernel
theorem dX8_square_115 : decode cX8_square 115 = .ok (.baload, 1) := by decide +kernel
theorem dX8_square_116 : decode cX8_square 116 = .ok (.invokestatic 114, 3) := by decide +kernel
theorem dX8_square_119 : decode cX8_square 119 = .ok (.ireturn, 1) := by decide +kernel
theorem dX8_square_120 : decode cX8_square 120 = .ok (.aload_n 0, 1) := by decide +kernel
theorem dX8_square_121 : decode cX8_square 121 = .ok (.getfield 19, 3) := by decide +kernel
theorem dX8_square_124 : decode cX8_square 124 = .ok (.iload 4, 2) := by decide +kernel
theorem dX8_square_126 : decode cX8_square 126 = .ok (.baload, 1) := by decide +kernel
theorem dX8_square_127 : decode cX8_square 127 = .ok (.invokestatic 114, 3) := by decide +kernel
theorem dX8_square_130 : decode cX8_square 130 = .ok (.ireturn, 1) := by decide +kernel
theorem dX8_square_131 : decode cX8_square 131 = .ok (.iconst (-1), 1) := by decide +kernel
theorem dX8_square_132 : decode cX8_square 132 = .ok (.ireturn, 1) := by decide +kernel
set_option maxRecDepth 20000 in
theorem ggX8_tinBy_X8_end : GoodIn wsX8_tinBy wsX8_end := goodIn_r _ [5, 6, 7, 8, 9, 10, 11, 12, 13, 14, 15, 16, 17, 18, 19, 20, 21, 22, 23, 24, 25, 26, 27, 28, 29, 30, 31, 32, 33, 34, 35, 36, 37, 38, 39, 40, 41, 42, 43, 44, 45, 46, 47, 48, 49, 50, 51, 52, 53, 54] (by decide +kernel) (by decide +kernel)
set_option maxRecDepth 20000 in
theorem gX8_tinBy_X8_end : GoodIn wsX8_tinBy (wsV RX8 107 RX8 yX8_end wsX8_end) := goodIn_app (goodIn_of _ (by decide +kernel)) ggX8_tinBy_X8_end
theorem dX8_tinBy_0 : decode cX8_tinBy 0 = .ok (.iload_n 3, 1) := by decide +kernel
theorem dX8_tinBy_1 : decode cX8_tinBy 1 = .ok (.ifCond .ne 13, 3) := by decide +kernel
theorem dX8_tinBy_4 : decode cX8_tinBy 4 = .ok (.aload_n 0, 1) := by decide +kernel
theorem dX8_tinBy_5 : decode cX8_tinBy 5 = .ok (.iload_n 1, 1) := by decide +kernel
theorem dX8_tinBy_6 : decode cX8_tinBy 6 = .ok (.iload_n 2, 1) := by decide +kernel
theorem dX8_tinBy_7 : decode cX8_tinBy 7 = .ok (.iconst 0, 1) := by decide +kernel
theorem dX8_tinBy_8 : decode cX8_tinBy 8 = .ok (.invokevirtual 107, 3) := by decide +kernel
theorem dX8_tinBy_11 : decode cX8_tinBy 11 = .ok (.goto 35, 3) := by decide +kernel
theorem dX8_tinBy_14 : decode cX8_tinBy 14 = .ok (.iload_n 3, 1) := by decide +kernel
theorem dX8_tinBy_15 : decode cX8_tinBy 15 = .ok (.iconst 1, 1) := by decide +kernel
theorem dX8_tinBy_16 : decode cX8_tinBy 16 = .ok (.if_icmp .ne 13, 3) := by decide +kernel
theorem dX8_tinBy_19 : decode cX8_tinBy 19 = .ok (.aload_n 0, 1) := by decide +kernel
theorem dX8_tinBy_20 : decode cX8_tinBy 20 = .ok (.iload_n 1, 1) := by decide +kernel
theorem dX8_tinBy_21 : decode cX8_tinBy 21 = .ok (.iload_n 2, 1) := by decide +kernel
theorem dX8_tinBy_22 : decode cX8_tinBy 22 = .ok (.iconst 1, 1) := by decide +kernel
theorem dX8_tinBy_23 : decode cX8_tinBy 23 = .ok (.invokevirtual 107, 3) := by decide +kernel
theorem dX8_tinBy_26 : decode cX8_tinBy 26 = .ok (.goto 20, 3) := by decide +kernel
theorem dX8_tinBy_29 : decode cX8_tinBy 29 = .ok (.aload_n 0, 1) := by decide +kernel
theorem dX8_tinBy_30 : decode cX8_tinBy 30 = .ok (.iload_n 1, 1) := by decide +kernel
theorem dX8_tinBy_31 : decode cX8_tinBy 31 = .ok (.iload_n 2, 1) := by decide +kernel
theorem dX8_tinBy_32 : decode cX8_tinBy 32 = .ok (.iconst 0, 1) := by decide +kernel
theorem dX8_tinBy_33 : decode cX8_tinBy 33 = .ok (.invokevirtual 107, 3) := by decide +kernel
theorem dX8_tinBy_36 : decode cX8_tinBy 36 = .ok (.aload_n 0, 1) := by decide +kernel
theorem dX8_tinBy_37 : decode cX8_tinBy 37 = .ok (.iload_n 1, 1) := by decide +kernel
theorem dX8_tinBy_38 : decode cX8_tinBy 38 = .ok (.iload_n 2, 1) := by decide +kernel
theorem dX8_tinBy_39 : decode cX8_tinBy 39 = .ok (.iconst 1, 1) := by decide +kernel
theorem dX8_tinBy_40 : decode cX8_tinBy 40 = .ok (.invokevirtual 107, 3) := by decide +kernel
theorem dX8_tinBy_43 : decode cX8_tinBy 43 = .ok (.iadd, 1) := by decide +kernel
theorem dX8_tinBy_44 : decode cX8_tinBy 44 = .ok (.iconst 2, 1) := by decide +kernel
theorem dX8_tinBy_45 : decode cX8_tinBy 45 = .ok (.idiv, 1) := by decide +kernel
theorem dX8_tinBy_46 : decode cX8_tinBy 46 = .ok (.ireturn, 1) := by decide +kernel
theorem dX8_best_0 : decode cX8_best 0 = .ok (.iconst (-1), 1) := by decide +kernel
theorem dX8_best_1 : decode cX8_best 1 = .ok (.istore_n 3, 1) := by decide +kernel
theorem dX8_best_2 : decode cX8_best 2 = .ok (.iconst 0, 1) := by decide +kernel
theorem dX8_best_3 : decode cX8_best 3 = .ok (.istore 4, 2) := by decide +kernel
theorem dX8_best_5 : decode cX8_best 5 = .ok (.iload 4, 2) := by decide +kernel
theorem dX8_best_7 : decode cX8_best 7 = .ok (.aload_n 0, 1) := by decide +kernel
theorem dX8_best_8 : decode cX8_best 8 = .ok (.getfield 88, 3) := by decide +kernel
theorem dX8_best_11 : decode cX8_best 11 = .ok (.if_icmp .ge 59, 3) := by decide +kernel
theorem dX8_best_14 : decode cX8_best 14 = .ok (.iload_n 2, 1) := by decide +kernel
theorem dX8_best_15 : decode cX8_best 15 = .ok (.iconst (-1), 1) := by decide +kernel
theorem dX8_best_16 : decode cX8_best 16 = .ok (.if_icmp .eq 14, 3) := by decide +kernel
theorem dX8_best_19 : decode cX8_best 19 = .ok (.iload 4, 2) := by decide +kernel
theorem dX8_best_21 : decode cX8_best 21 = .ok (.iload_n 2, 1) := by decide +kernel
theorem dX8_best_22 : decode cX8_best 22 = .ok (.isub, 1) := by decide +kernel
theorem dX8_best_23 : decode cX8_best 23 = .ok (.invokestatic 103, 3) := by decide +kernel
theorem dX8_best_26 : decode cX8_best 26 = .ok (.iconst 2, 1) := by decide +kernel
theorem dX8_best_27 : decode cX8_best 27 = .ok (.if_icmp .ge 37, 3) := by decide +kernel
theorem dX8_best_30 : decode cX8_best 30 = .ok (.iload_n 3, 1) := by decide +kernel
theorem dX8_best_31 : decode cX8_best 31 = .ok (.iconst (-1), 1) := by decide +kernel
theorem dX8_best_32 : decode cX8_best 32 = .ok (.if_icmp .eq 29, 3) := by decide +kernel
theorem dX8_best_35 : decode cX8_best 35 = .ok (.aload_n 0, 1) := by decide +kernel
theorem dX8_best_36 : decode cX8_best 36 = .ok (.getfield 57, 3) := by decide +kernel
