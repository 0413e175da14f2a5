theorem dX8_best_39 : decode cX8_best 39 = .ok (.bipush 8, 2) := by decide +kernel
theorem dX8_best_41 : decode cX8_best 41 = .ok (.iload_n 1, 1) := by decide +kernel
theorem dX8_best_42 : decode cX8_best 42 = .ok (.imul, 1) := by decide +kernel
theorem dX8_best_43 : decode cX8_best 43 = .ok (.iload 4, 2) := by decide +kernel
theorem dX8_best_45 : decode cX8_best 45 = .ok (.iadd, 1) := by decide +kernel
theorem dX8_best_46 : decode cX8_best 46 = .ok (.iaload, 1) := by decide +kernel
theorem dX8_best_47 : decode cX8_best 47 = .ok (.aload_n 0, 1) := by decide +kernel
theorem dX8_best_48 : decode cX8_best 48 = .ok (.getfield 57, 3) := by decide +kernel
theorem dX8_best_51 : decode cX8_best 51 = .ok (.bipush 8, 2) := by decide +kernel
theorem dX8_best_53 : decode cX8_best 53 = .ok (.iload_n 1, 1) := by decide +kernel
theorem dX8_best_54 : decode cX8_best 54 = .ok (.imul, 1) := by decide +kernel
theorem dX8_best_55 : decode cX8_best 55 = .ok (.iload_n 3, 1) := by decide +kernel
theorem dX8_best_56 : decode cX8_best 56 = .ok (.iadd, 1) := by decide +kernel
theorem dX8_best_57 : decode cX8_best 57 = .ok (.iaload, 1) := by decide +kernel
theorem dX8_best_58 : decode cX8_best 58 = .ok (.if_icmp .le 6, 3) := by decide +kernel
theorem dX8_best_61 : decode cX8_best 61 = .ok (.iload 4, 2) := by decide +kernel
theorem dX8_best_63 : decode cX8_best 63 = .ok (.istore_n 3, 1) := by decide +kernel
theorem dX8_best_64 : decode cX8_best 64 = .ok (.iinc 4 1, 3) := by decide +kernel
theorem dX8_best_67 : decode cX8_best 67 = .ok (.goto (-62), 3) := by decide +kernel
theorem dX8_best_70 : decode cX8_best 70 = .ok (.iload_n 3, 1) := by decide +kernel
theorem dX8_best_71 : decode cX8_best 71 = .ok (.ireturn, 1) := by decide +kernel
set_option maxRecDepth 20000 in
theorem ggX8_path_X8_isIn : GoodIn wsX8_path wsX8_isIn := goodIn_r _ [12] (by decide +kernel) (by decide +kernel)
set_option maxRecDepth 20000 in
theorem gX8_path_X8_isIn : GoodIn wsX8_path (va_wsS RX8 91 yX8_isIn wsX8_isIn) := goodIn_app (goodIn_of _ (by decide +kernel)) ggX8_path_X8_isIn
set_option maxRecDepth 20000 in
theorem ggX8_path_X8_tinBy : GoodIn wsX8_path wsX8_tinBy := goodIn_r _ [16, 17, 18, 19, 11, 20, 21, 22, 2, 4, 23, 24, 25, 26, 27, 28, 29, 30, 31, 32, 33, 38, 39, 40, 41, 42, 43, 44, 45, 46, 47, 48, 49, 50, 51, 52, 53, 54, 55, 56, 57, 58, 59, 60, 61, 62, 63, 64, 65, 66, 67, 68, 69, 70, 71] (by decide +kernel) (by decide +kernel)
set_option maxRecDepth 20000 in
theorem gX8_path_X8_tinBy : GoodIn wsX8_path (wsV RX8 119 RX8 yX8_tinBy wsX8_tinBy) := goodIn_app (goodIn_of _ (by decide +kernel)) ggX8_path_X8_tinBy
set_option maxRecDepth 20000 in
theorem ggX8_path_X8_best : GoodIn wsX8_path wsX8_best := goodIn_r _ [37, 4, 24, 25, 26, 27, 7, 38, 39, 40, 41, 42, 43, 44, 45, 46, 47, 48, 49, 50, 51, 52, 53, 54, 55, 56, 57, 58, 59, 60, 61, 62, 63, 64, 65, 66, 67, 68, 69, 70, 71] (by decide +kernel) (by decide +kernel)
set_option maxRecDepth 20000 in
theorem gX8_path_X8_best : GoodIn wsX8_path (wsV RX8 123 RX8 yX8_best wsX8_best) := goodIn_app (goodIn_of _ (by decide +kernel)) ggX8_path_X8_best
theorem dX8_path_0 : decode cX8_path 0 = .ok (.iload_n 1, 1) := by decide +kernel
theorem dX8_path_1 : decode cX8_path 1 = .ok (.iconst 0, 1) := by decide +kernel
theorem dX8_path_2 : decode cX8_path 2 = .ok (.iconst 2, 1) := by decide +kernel
theorem dX8_path_3 : decode cX8_path 3 = .ok (.invokestatic 91, 3) := by decide +kernel
theorem dX8_path_6 : decode cX8_path 6 = .ok (.ifCond .eq 35, 3) := by decide +kernel
theorem dX8_path_9 : decode cX8_path 9 = .ok (.aload_n 0, 1) := by decide +kernel
theorem dX8_path_10 : decode cX8_path 10 = .ok (.getfield 39, 3) := by decide +kernel
theorem dX8_path_13 : decode cX8_path 13 = .ok (.aload_n 0, 1) := by decide +kernel
theorem dX8_path_14 : decode cX8_path 14 = .ok (.getfield 85, 3) := by decide +kernel
theorem dX8_path_17 : decode cX8_path 17 = .ok (.iconst 1, 1) := by decide +kernel
theorem dX8_path_18 : decode cX8_path 18 = .ok (.isub, 1) := by decide +kernel
theorem dX8_path_19 : decode cX8_path 19 = .ok (.if_icmp .eq 22, 3) := by decide +kernel
theorem dX8_path_22 : decode cX8_path 22 = .ok (.iload_n 2, 1) := by decide +kernel
theorem dX8_path_23 : decode cX8_path 23 = .ok (.iconst (-1), 1) := by decide +kernel
theorem dX8_path_24 : decode cX8_path 24 = .ok (.aload_n 0, 1) := by decide +kernel
theorem dX8_path_25 : decode cX8_path 25 = .ok (.getfield 85, 3) := by decide +kernel
theorem dX8_path_28 : decode cX8_path 28 = .ok (.aload_n 0, 1) := by decide +kernel
theorem dX8_path_29 : decode cX8_path 29 = .ok (.getfield 39, 3) := by decide +kernel
theorem dX8_path_32 : decode cX8_path 32 = .ok (.isub, 1) := by decide +kernel
theorem dX8_path_33 : decode cX8_path 33 = .ok (.iconst 2, 1) := by decide +kernel
theorem dX8_path_34 : decode cX8_path 34 = .ok (.isub, 1) := by decide +kernel
theorem dX8_path_35 : decode cX8_path 35 = .ok (.invokestatic 91, 3) := by decide +kernel
theorem dX8_path_38 : decode cX8_path 38 = .ok (.ifCond .ne 6, 3) := by decide +kernel
theorem dX8_path_41 : decode cX8_path 41 = .ok (.ldc 118, 2) := by decide +kernel
theorem dX8_path_43 : decode cX8_path 43 = .ok (.ireturn, 1) := by decide +kernel
theorem dX8_path_44 : decode cX8_path 44 = .ok (.aload_n 0, 1) := by decide +kernel
theorem dX8_path_45 : decode cX8_path 45 = .ok (.getfield 85, 3) := by decide +kernel
theorem dX8_path_48 : decode cX8_path 48 = .ok (.iconst 1, 1) := by decide +kernel
theorem dX8_path_49 : decode cX8_path 49 = .ok (.isub, 1) := by decide +kernel
theorem dX8_path_50 : decode cX8_path 50 = .ok (.istore_n 3, 1) := by decide +kernel
theorem dX8_path_51 : decode cX8_path 51 = .ok (.iload_n 3, 1) := by decide +kernel
theorem dX8_path_52 : decode cX8_path 52 = .ok (.aload_n 0, 1) := by decide +kernel
theorem dX8_path_53 : decode cX8_path 53 = .ok (.getfield 39, 3) := by decide +kernel
theorem dX8_path_56 : decode cX8_path 56 = .ok (.if_icmp .le 106, 3) := by decide +kernel
theorem dX8_path_59 : decode cX8_path 59 = .ok (.iconst 0, 1) := by decide +kernel
theorem dX8_path_60 : decode cX8_path 60 = .ok (.istore 4, 2) := by decide +kernel
theorem dX8_path_62 : decode cX8_path 62 = .ok (.iload 4, 2) := by decide +kernel
theorem dX8_path_64 : decode cX8_path 64 = .ok (.aload_n 0, 1) := by decide +kernel
theorem dX8_path_65 : decode cX8_path 65 = .ok (.getfield 88, 3) := by decide +kernel
theorem dX8_path_68 : decode cX8_path 68 = .ok (.if_icmp .ge 88, 3) := by decide +kernel
theorem dX8_path_71 : decode cX8_path 71 = .ok (.aload_n 0, 1) := by decide +kernel
theorem dX8_path_72 : decode cX8_path 72 = .ok (.getfield 7, 3) := by decide +kernel
theorem dX8_path_75 : decode cX8_path 75 = .ok (.bipush 8, 2) := by decide +kernel
theorem dX8_path_77 : decode cX8_path 77 = .ok (.iload_n 3, 1) := by decide +kernel
theorem dX8_path_78 : decode cX8_path 78 = .ok (.imul, 1) := by decide +kernel
theorem dX8_path_79 : decode cX8_path 79 = .ok (.iload 4, 2) := by decide +kernel
theorem dX8_path_81 : decode cX8_path 81 = .ok (.iadd, 1) := by decide +kernel
theorem dX8_path_82 : decode cX8_path 82 = .ok (.iaload, 1) := by decide +kernel
theorem dX8_path_83 : decode cX8_path 83 = .ok (.aload_n 0, 1) := by decide +kernel
theorem dX8_path_84 : decode cX8_path 84 = .ok (.iload_n 3, 1) := by decide +kernel
theorem dX8_path_85 : decode cX8_path 85 = .ok (.iload 4, 2) := by decide +kernel
theorem dX8_path_87 : decode cX8_path 87 = .ok (.iload_n 1, 1) := by decide +kernel
theorem dX8_path_88 : decode cX8_path 88 = .ok (.invokevirtual 119, 3) := by decide +kernel
theorem dX8_path_91 : decode cX8_path 91 = .ok (.aload_n 0, 1) := by decide +kernel
theorem dX8_path_92 : decode cX8_path 92 = .ok (.getfield 36, 3) := by decide +kernel
theorem dX8_path_95 : decode cX8_path 95 = .ok (.isub, 1) := by decide +kernel
theorem dX8_path_96 : decode cX8_path 96 = .ok (.imul, 1) := by decide +kernel
theorem dX8_path_97 : decode cX8_path 97 = .ok (.istore 5, 2) := by decide +kernel
theorem dX8_path_99 : decode cX8_path 99 = .ok (.aload_n 0, 1) := by decide +kernel
theorem dX8_path_100 : decode cX8_path 100 = .ok (.getfield 57, 3) := by decide +kernel
theorem dX8_path_103 : decode cX8_path 103 = .ok (.bipush 8, 2) := by decide +kernel
theorem dX8_path_105 : decode cX8_path 105 = .ok (.iload_n 3, 1) := by decide +kernel
theorem dX8_path_106 : decode cX8_path 106 = .ok (.imul, 1) := by decide +kernel
theorem dX8_path_107 : decode cX8_path 107 = .ok (.iload 4, 2) := by decide +kernel
theorem dX8_path_109 : decode cX8_path 109 = .ok (.iadd, 1) := by decide +kernel
theorem dX8_path_110 : decode cX8_path 110 = .ok (.iload 5, 2) := by decide +kernel
theorem dX8_path_112 : decode cX8_path 112 = .ok (.iload_n 3, 1) := by decide +kernel
theorem dX8_path_113 : decode cX8_path 113 = .ok (.aload_n 0, 1) := by decide +kernel
theorem dX8_path_114 : decode cX8_path 114 = .ok (.getfield 85, 3) := by decide +kernel
theorem dX8_path_117 : decode cX8_path 117 = .ok (.iconst 1, 1) := by decide +kernel
theorem dX8_path_118 : decode cX8_path 118 = .ok (.isub, 1) := by decide +kernel
theorem dX8_path_119 : decode cX8_path 119 = .ok (.if_icmp .ne 7, 3) := by decide +kernel
theorem dX8_path_122 : decode cX8_path 122 = .ok (.iconst 0, 1) := by decide +kernel
theorem dX8_path_123 : decode cX8_path 123 = .ok (.goto 25, 3) := by decide +kernel
theorem dX8_path_126 : decode cX8_path 126 = .ok (.aload_n 0, 1) := by decide +kernel
theorem dX8_path_127 : decode cX8_path 127 = .ok (.getfield 57, 3) := by decide +kernel
theorem dX8_path_130 : decode cX8_path 130 = .ok (.bipush 8, 2) := by decide +kernel
theorem dX8_path_132 : decode cX8_path 132 = .ok (.iload_n 3, 1) := by decide +kernel
theorem dX8_path_133 : decode cX8_path 133 = .ok (.imul, 1) := by decide +kernel
theorem dX8_path_134 : decode cX8_path 134 = .ok (.bipush 8, 2) := by decide +kernel
theorem dX8_path_136 : decode cX8_path 136 = .ok (.iadd, 1) := by decide +kernel
theorem dX8_path_137 : decode cX8_path 137 = .ok (.aload_n 0, 1) := by decide +kernel
theorem dX8_path_138 : decode cX8_path 138 = .ok (.iload_n 3, 1) := by decide +kernel
theorem dX8_path_139 : decode cX8_path 139 = .ok (.iconst 1, 1) := by decide +kernel
theorem dX8_path_140 : decode cX8_path 140 = .ok (.iadd, 1) := by decide +kernel
theorem dX8_path_141 : decode cX8_path 141 = .ok (.iload 4, 2) := by decide +kernel
theorem dX8_path_143 : decode cX8_path 143 = .ok (.invokevirtual 123, 3) := by decide +kernel
theorem dX8_path_146 : decode cX8_path 146 = .ok (.iadd, 1) := by decide +kernel
theorem dX8_path_147 : decode cX8_path 147 = .ok (.iaload, 1) := by decide +kernel
theorem dX8_path_148 : decode cX8_path 148 = .ok (.iadd, 1) := by decide +kernel
theorem dX8_path_149 : decode cX8_path 149 = .ok (.iastore, 1) := by decide +kernel
theorem dX8_path_150 : decode cX8_path 150 = .ok (.iinc 4 1, 3) := by decide +kernel
theorem dX8_path_153 : decode cX8_path 153 = .ok (.goto (-91), 3) := by decide +kernel
theorem dX8_path_156 : decode cX8_path 156 = .ok (.iinc 3 (-1), 3) := by decide +kernel
theorem dX8_path_159 : decode cX8_path 159 = .ok (.goto (-108), 3) := by decide +kernel
theorem dX8_path_162 : decode cX8_path 162 = .ok (.aload_n 0, 1) := by decide +kernel
theorem dX8_path_163 : decode cX8_path 163 = .ok (.aload_n 0, 1) := by decide +kernel
theorem dX8_path_164 : decode cX8_path 164 = .ok (.getfield 39, 3) := by decide +kernel
theorem dX8_path_167 : decode cX8_path 167 = .ok (.iconst 1, 1) := by decide +kernel
theorem dX8_path_168 : decode cX8_path 168 = .ok (.iadd, 1) := by decide +kernel
theorem dX8_path_169 : decode cX8_path 169 = .ok (.aload_n 0, 1) := by decide +kernel
theorem dX8_path_170 : decode cX8_path 170 = .ok (.getfield 42, 3) := by decide +kernel
theorem dX8_path_173 : decode cX8_path 173 = .ok (.invokevirtual 123, 3) := by decide +kernel
theorem dX8_path_176 : decode cX8_path 176 = .ok (.istore_n 3, 1) := by decide +kernel
theorem dX8_path_177 : decode cX8_path 177 = .ok (.iload_n 2, 1) := by decide +kernel
theorem dX8_path_178 : decode cX8_path 178 = .ok (.iconst (-1), 1) := by decide +kernel
theorem dX8_path_179 : decode cX8_path 179 = .ok (.if_icmp .ne 21, 3) := by decide +kernel
theorem dX8_path_182 : decode cX8_path 182 = .ok (.aload_n 0, 1) := by decide +kernel
theorem dX8_path_183 : decode cX8_path 183 = .ok (.getfield 57, 3) := by decide +kernel
theorem dX8_path_186 : decode cX8_path 186 = .ok (.bipush 8, 2) := by decide +kernel
theorem dX8_path_188 : decode cX8_path 188 = .ok (.aload_n 0, 1) := by decide +kernel
theorem dX8_path_189 : decode cX8_path 189 = .ok (.getfield 39, 3) := by decide +kernel
theorem dX8_path_192 : decode cX8_path 192 = .ok (.imul, 1) := by decide +kernel
theorem dX8_path_193 : decode cX8_path 193 = .ok (.bipush 8, 2) := by decide +kernel
theorem dX8_path_195 : decode cX8_path 195 = .ok (.iadd, 1) := by decide +kernel
theorem dX8_path_196 : decode cX8_path 196 = .ok (.iload_n 3, 1) := by decide +kernel
theorem dX8_path_197 : decode cX8_path 197 = .ok (.iadd, 1) := by decide +kernel
theorem dX8_path_198 : decode cX8_path 198 = .ok (.iaload, 1) := by decide +kernel
theorem dX8_path_199 : decode cX8_path 199 = .ok (.ireturn, 1) := by decide +kernel
theorem dX8_path_200 : decode cX8_path 200 = .ok (.iconst 1, 1) := by decide +kernel
theorem dX8_path_201 : decode cX8_path 201 = .ok (.istore 4, 2) := by decide +kernel
theorem dX8_path_203 : decode cX8_path 203 = .ok (.iload 4, 2) := by decide +kernel
theorem dX8_path_205 : decode cX8_path 205 = .ok (.iload_n 2, 1) := by decide +kernel
theorem dX8_path_206 : decode cX8_path 206 = .ok (.if_icmp .gt 24, 3) := by decide +kernel
theorem dX8_path_209 : decode cX8_path 209 = .ok (.aload_n 0, 1) := by decide +kernel
theorem dX8_path_210 : decode cX8_path 210 = .ok (.aload_n 0, 1) := by decide +kernel
theorem dX8_path_211 : decode cX8_path 211 = .ok (.getfield 39, 3) := by decide +kernel
theorem dX8_path_214 : decode cX8_path 214 = .ok (.iconst 1, 1) := by decide +kernel
theorem dX8_path_215 : decode cX8_path 215 = .ok (.iadd, 1) := by decide +kernel
theorem dX8_path_216 : decode cX8_path 216 = .ok (.iload 4, 2) := by decide +kernel
theorem dX8_path_218 : decode cX8_path 218 = .ok (.iadd, 1) := by decide +kernel
theorem dX8_path_219 : decode cX8_path 219 = .ok (.iload_n 3, 1) := by decide +kernel
theorem dX8_path_220 : decode cX8_path 220 = .ok (.invokevirtual 123, 3) := by decide +kernel
theorem dX8_path_223 : decode cX8_path 223 = .ok (.istore_n 3, 1) := by decide +kernel
theorem dX8_path_224 : decode cX8_path 224 = .ok (.iinc 4 1, 3) := by decide +kernel
theorem dX8_path_227 : decode cX8_path 227 = .ok (.goto (-24), 3) := by decide +kernel
theorem dX8_path_230 : decode cX8_path 230 = .ok (.iload_n 3, 1) := by decide +kernel
theorem dX8_path_231 : decode cX8_path 231 = .ok (.ireturn, 1) := by decide +kernel
set_option maxRecDepth 20000 in
theorem ggX8_next_X8_end : GoodIn wsX8_next wsX8_end := goodIn_r _ [9, 4, 10, 2, 3, 11, 12, 13, 14, 15, 16, 17, 18, 19, 20, 21, 22, 23, 24, 25, 26, 27, 28, 29, 30, 31, 32, 33, 34, 35, 36, 37, 38, 39, 40, 41, 42, 43, 44, 45, 46, 47, 48, 49, 50, 51, 52, 53, 54, 55] (by decide +kernel) (by decide +kernel)
set_option maxRecDepth 20000 in
theorem gX8_next_X8_end : GoodIn wsX8_next (wsV RX8 107 RX8 yX8_end wsX8_end) := goodIn_app (goodIn_of _ (by decide +kernel)) ggX8_next_X8_end
theorem dX8_next_0 : decode cX8_next 0 = .ok (.iconst (-1), 1) := by decide +kernel
theorem dX8_next_1 : decode cX8_next 1 = .ok (.istore_n 1, 1) := by decide +kernel
theorem dX8_next_2 : decode cX8_next 2 = .ok (.iconst 0, 1) := by decide +kernel
theorem dX8_next_3 : decode cX8_next 3 = .ok (.istore_n 2, 1) := by decide +kernel
theorem dX8_next_4 : decode cX8_next 4 = .ok (.aload_n 0, 1) := by decide +kernel
theorem dX8_next_5 : decode cX8_next 5 = .ok (.getfield 39, 3) := by decide +kernel
theorem dX8_next_8 : decode cX8_next 8 = .ok (.iconst 1, 1) := by decide +kernel
theorem dX8_next_9 : decode cX8_next 9 = .ok (.iadd, 1) := by decide +kernel
theorem dX8_next_10 : decode cX8_next 10 = .ok (.istore_n 3, 1) := by decide +kernel
theorem dX8_next_11 : decode cX8_next 11 = .ok (.iload_n 3, 1) := by decide +kernel
theorem dX8_next_12 : decode cX8_next 12 = .ok (.aload_n 0, 1) := by decide +kernel
theorem dX8_next_13 : decode cX8_next 13 = .ok (.getfield 85, 3) := by decide +kernel
theorem dX8_next_16 : decode cX8_next 16 = .ok (.if_icmp .ge 86, 3) := by decide +kernel
theorem dX8_next_19 : decode cX8_next 19 = .ok (.iconst 0, 1) := by decide +kernel
theorem dX8_next_20 : decode cX8_next 20 = .ok (.istore 4, 2) := by decide +kernel
theorem dX8_next_22 : decode cX8_next 22 = .ok (.iload 4, 2) := by decide +kernel
theorem dX8_next_24 : decode cX8_next 24 = .ok (.aload_n 0, 1) := by decide +kernel
theorem dX8_next_25 : decode cX8_next 25 = .ok (.getfield 88, 3) := by decide +kernel
theorem dX8_next_28 : decode cX8_next 28 = .ok (.if_icmp .ge 68, 3) := by decide +kernel
theorem dX8_next_31 : decode cX8_next 31 = .ok (.aload_n 0, 1) := by decide +kernel
theorem dX8_next_32 : decode cX8_next 32 = .ok (.iload_n 3, 1) := by decide +kernel
theorem dX8_next_33 : decode cX8_next 33 = .ok (.iload 4, 2) := by decide +kernel
theorem dX8_next_35 : decode cX8_next 35 = .ok (.iconst 1, 1) := by decide +kernel
theorem dX8_next_36 : decode cX8_next 36 = .ok (.invokevirtual 107, 3) := by decide +kernel
theorem dX8_next_39 : decode cX8_next 39 = .ok (.aload_n 0, 1) := by decide +kernel
theorem dX8_next_40 : decode cX8_next 40 = .ok (.iload_n 3, 1) := by decide +kernel
theorem dX8_next_41 : decode cX8_next 41 = .ok (.iload 4, 2) := by decide +kernel
theorem dX8_next_43 : decode cX8_next 43 = .ok (.iconst 0, 1) := by decide +kernel
theorem dX8_next_44 : decode cX8_next 44 = .ok (.invokevirtual 107, 3) := by decide +kernel
theorem dX8_next_47 : decode cX8_next 47 = .ok (.isub, 1) := by decide +kernel
theorem dX8_next_48 : decode cX8_next 48 = .ok (.istore 5, 2) := by decide +kernel
theorem dX8_next_50 : decode cX8_next 50 = .ok (.aload_n 0, 1) := by decide +kernel
theorem dX8_next_51 : decode cX8_next 51 = .ok (.getfield 19, 3) := by decide +kernel
theorem dX8_next_54 : decode cX8_next 54 = .ok (.bipush 8, 2) := by decide +kernel
theorem dX8_next_56 : decode cX8_next 56 = .ok (.iload_n 3, 1) := by decide +kernel
theorem dX8_next_57 : decode cX8_next 57 = .ok (.imul, 1) := by decide +kernel
theorem dX8_next_58 : decode cX8_next 58 = .ok (.iload 4, 2) := by decide +kernel
theorem dX8_next_60 : decode cX8_next 60 = .ok (.iadd, 1) := by decide +kernel
theorem dX8_next_61 : decode cX8_next 61 = .ok (.baload, 1) := by decide +kernel
theorem dX8_next_62 : decode cX8_next 62 = .ok (.ifCond .ne 28, 3) := by decide +kernel
theorem dX8_next_65 : decode cX8_next 65 = .ok (.iload_n 1, 1) := by decide +kernel
theorem dX8_next_66 : decode cX8_next 66 = .ok (.iconst (-1), 1) := by decide +kernel
theorem dX8_next_67 : decode cX8_next 67 = .ok (.if_icmp .eq 12, 3) := by decide +kernel
theorem dX8_next_70 : decode cX8_next 70 = .ok (.iload 5, 2) := by decide +kernel
theorem dX8_next_72 : decode cX8_next 72 = .ok (.iload_n 2, 1) := by decide +kernel
theorem dX8_next_73 : decode cX8_next 73 = .ok (.if_icmp .gt 6, 3) := by decide +kernel
theorem dX8_next_76 : decode cX8_next 76 = .ok (.goto 14, 3) := by decide +kernel
theorem dX8_next_79 : decode cX8_next 79 = .ok (.bipush 8, 2) := by decide +kernel
theorem dX8_next_81 : decode cX8_next 81 = .ok (.iload_n 3, 1) := by decide +kernel
theorem dX8_next_82 : decode cX8_next 82 = .ok (.imul, 1) := by decide +kernel
theorem dX8_next_83 : decode cX8_next 83 = .ok (.iload 4, 2) := by decide +kernel
theorem dX8_next_85 : decode cX8_next 85 = .ok (.iadd, 1) := by decide +kernel
theorem dX8_next_86 : decode cX8_next 86 = .ok (.istore_n 1, 1) := by decide +kernel
theorem dX8_next_87 : decode cX8_next 87 = .ok (.iload 5, 2) := by decide +kernel
theorem dX8_next_89 : decode cX8_next 89 = .ok (.istore_n 2, 1) := by decide +kernel
theorem dX8_next_90 : decode cX8_next 90 = .ok (.iinc 4 1, 3) := by decide +kernel
theorem dX8_next_93 : decode cX8_next 93 = .ok (.goto (-71), 3) := by decide +kernel
theorem dX8_next_96 : decode cX8_next 96 = .ok (.iinc 3 1, 3) := by decide +kernel
theorem dX8_next_99 : decode cX8_next 99 = .ok (.goto (-88), 3) := by decide +kernel
theorem dX8_next_102 : decode cX8_next 102 = .ok (.iload_n 1, 1) := by decide +kernel
theorem dX8_next_103 : decode cX8_next 103 = .ok (.ireturn, 1) := by decide +kernel
set_option maxRecDepth 20000 in
theorem ggX8_bars_X8_isIn : GoodIn wsX8_bars wsX8_isIn := goodIn_r _ [16] (by decide +kernel) (by decide +kernel)
set_option maxRecDepth 20000 in
theorem gX8_bars_X8_isIn : GoodIn wsX8_bars (va_wsS RX8 91 yX8_isIn wsX8_isIn) := goodIn_app (goodIn_of _ (by decide +kernel)) ggX8_bars_X8_isIn
set_option maxRecDepth 20000 in
theorem ggX8_bars_X8_now : GoodIn wsX8_bars wsX8_now := goodIn_r _ [20, 21, 22, 23, 24, 15, 25, 26, 27, 28, 29, 30, 31, 32, 33, 34, 35, 36, 37, 38, 39, 40, 41, 42, 43, 44, 45, 46, 47, 48, 49, 50, 51, 52, 53, 54, 55, 56, 57, 58, 59, 60, 61, 62, 63, 64, 65, 66, 67, 68, 69] (by decide +kernel) (by decide +kernel)
set_option maxRecDepth 20000 in
theorem gX8_bars_X8_now : GoodIn wsX8_bars (wsV RX8 126 RX8 yX8_now wsX8_now) := goodIn_app (goodIn_of _ (by decide +kernel)) ggX8_bars_X8_now
theorem dX8_bars_0 : decode cX8_bars 0 = .ok (.iload_n 1, 1) := by decide +kernel
theorem dX8_bars_1 : decode cX8_bars 1 = .ok (.iconst 0, 1) := by decide +kernel
theorem dX8_bars_2 : decode cX8_bars 2 = .ok (.aload_n 0, 1) := by decide +kernel
theorem dX8_bars_3 : decode cX8_bars 3 = .ok (.getfield 88, 3) := by decide +kernel
theorem dX8_bars_6 : decode cX8_bars 6 = .ok (.iconst 1, 1) := by decide +kernel
theorem dX8_bars_7 : decode cX8_bars 7 = .ok (.isub, 1) := by decide +kernel
theorem dX8_bars_8 : decode cX8_bars 8 = .ok (.invokestatic 91, 3) := by decide +kernel
theorem dX8_bars_11 : decode cX8_bars 11 = .ok (.ifCond .eq 37, 3) := by decide +kernel
theorem dX8_bars_14 : decode cX8_bars 14 = .ok (.aload_n 0, 1) := by decide +kernel
theorem dX8_bars_15 : decode cX8_bars 15 = .ok (.getfield 39, 3) := by decide +kernel
theorem dX8_bars_18 : decode cX8_bars 18 = .ok (.aload_n 0, 1) := by decide +kernel
theorem dX8_bars_19 : decode cX8_bars 19 = .ok (.getfield 85, 3) := by decide +kernel
theorem dX8_bars_22 : decode cX8_bars 22 = .ok (.iconst 1, 1) := by decide +kernel
theorem dX8_bars_23 : decode cX8_bars 23 = .ok (.isub, 1) := by decide +kernel
theorem dX8_bars_24 : decode cX8_bars 24 = .ok (.if_icmp .eq 24, 3) := by decide +kernel
theorem dX8_bars_27 : decode cX8_bars 27 = .ok (.aload_n 0, 1) := by decide +kernel
theorem dX8_bars_28 : decode cX8_bars 28 = .ok (.getfield 39, 3) := by decide +kernel
theorem dX8_bars_31 : decode cX8_bars 31 = .ok (.iconst (-1), 1) := by decide +kernel
theorem dX8_bars_32 : decode cX8_bars 32 = .ok (.if_icmp .eq 18, 3) := by decide +kernel
theorem dX8_bars_35 : decode cX8_bars 35 = .ok (.iload_n 1, 1) := by decide +kernel
theorem dX8_bars_36 : decode cX8_bars 36 = .ok (.aload_n 0, 1) := by decide +kernel
theorem dX8_bars_37 : decode cX8_bars 37 = .ok (.getfield 42, 3) := by decide +kernel
theorem dX8_bars_40 : decode cX8_bars 40 = .ok (.isub, 1) := by decide +kernel
theorem dX8_bars_41 : decode cX8_bars 41 = .ok (.invokestatic 103, 3) := by decide +kernel
theorem dX8_bars_44 : decode cX8_bars 44 = .ok (.iconst 1, 1) := by decide +kernel
theorem dX8_bars_45 : decode cX8_bars 45 = .ok (.if_icmp .le 5, 3) := by decide +kernel
theorem dX8_bars_48 : decode cX8_bars 48 = .ok (.iconst 1, 1) := by decide +kernel
theorem dX8_bars_49 : decode cX8_bars 49 = .ok (.ireturn, 1) := by decide +kernel
theorem dX8_bars_50 : decode cX8_bars 50 = .ok (.aload_n 0, 1) := by decide +kernel
theorem dX8_bars_51 : decode cX8_bars 51 = .ok (.getfield 7, 3) := by decide +kernel
theorem dX8_bars_54 : decode cX8_bars 54 = .ok (.bipush 8, 2) := by decide +kernel
theorem dX8_bars_56 : decode cX8_bars 56 = .ok (.aload_n 0, 1) := by decide +kernel
theorem dX8_bars_57 : decode cX8_bars 57 = .ok (.getfield 39, 3) := by decide +kernel
theorem dX8_bars_60 : decode cX8_bars 60 = .ok (.imul, 1) := by decide +kernel
theorem dX8_bars_61 : decode cX8_bars 61 = .ok (.bipush 8, 2) := by decide +kernel
theorem dX8_bars_63 : decode cX8_bars 63 = .ok (.iadd, 1) := by decide +kernel
theorem dX8_bars_64 : decode cX8_bars 64 = .ok (.iload_n 1, 1) := by decide +kernel
theorem dX8_bars_65 : decode cX8_bars 65 = .ok (.iadd, 1) := by decide +kernel
theorem dX8_bars_66 : decode cX8_bars 66 = .ok (.iaload, 1) := by decide +kernel
theorem dX8_bars_67 : decode cX8_bars 67 = .ok (.istore_n 2, 1) := by decide +kernel
theorem dX8_bars_68 : decode cX8_bars 68 = .ok (.aload_n 0, 1) := by decide +kernel
theorem dX8_bars_69 : decode cX8_bars 69 = .ok (.getfield 48, 3) := by decide +kernel
theorem dX8_bars_72 : decode cX8_bars 72 = .ok (.aload_n 0, 1) := by decide +kernel
theorem dX8_bars_73 : decode cX8_bars 73 = .ok (.iconst 0, 1) := by decide +kernel
theorem dX8_bars_74 : decode cX8_bars 74 = .ok (.invokevirtual 126, 3) := by decide +kernel
theorem dX8_bars_77 : decode cX8_bars 77 = .ok (.aload_n 0, 1) := by decide +kernel
theorem dX8_bars_78 : decode cX8_bars 78 = .ok (.iconst 1, 1) := by decide +kernel
theorem dX8_bars_79 : decode cX8_bars 79 = .ok (.invokevirtual 126, 3) := by decide +kernel
theorem dX8_bars_82 : decode cX8_bars 82 = .ok (.invokestatic 91, 3) := by decide +kernel
theorem dX8_bars_85 : decode cX8_bars 85 = .ok (.ifCond .ne 5, 3) := by decide +kernel
theorem dX8_bars_88 : decode cX8_bars 88 = .ok (.iconst 2, 1) := by decide +kernel
theorem dX8_bars_89 : decode cX8_bars 89 = .ok (.ireturn, 1) := by decide +kernel
theorem dX8_bars_90 : decode cX8_bars 90 = .ok (.aload_n 0, 1) := by decide +kernel
theorem dX8_bars_91 : decode cX8_bars 91 = .ok (.getfield 39, 3) := by decide +kernel
theorem dX8_bars_94 : decode cX8_bars 94 = .ok (.iconst (-1), 1) := by decide +kernel
theorem dX8_bars_95 : decode cX8_bars 95 = .ok (.if_icmp .eq 35, 3) := by decide +kernel
theorem dX8_bars_98 : decode cX8_bars 98 = .ok (.iload_n 2, 1) := by decide +kernel
theorem dX8_bars_99 : decode cX8_bars 99 = .ok (.aload_n 0, 1) := by decide +kernel
theorem dX8_bars_100 : decode cX8_bars 100 = .ok (.getfield 7, 3) := by decide +kernel
theorem dX8_bars_103 : decode cX8_bars 103 = .ok (.bipush 8, 2) := by decide +kernel
theorem dX8_bars_105 : decode cX8_bars 105 = .ok (.aload_n 0, 1) := by decide +kernel
theorem dX8_bars_106 : decode cX8_bars 106 = .ok (.getfield 39, 3) := by decide +kernel
theorem dX8_bars_109 : decode cX8_bars 109 = .ok (.imul, 1) := by decide +kernel
theorem dX8_bars_110 : decode cX8_bars 110 = .ok (.aload_n 0, 1) := by decide +kernel
theorem dX8_bars_111 : decode cX8_bars 111 = .ok (.getfield 42, 3) := by decide +kernel
theorem dX8_bars_114 : decode cX8_bars 114 = .ok (.iadd, 1) := by decide +kernel
theorem dX8_bars_115 : decode cX8_bars 115 = .ok (.iaload, 1) := by decide +kernel
theorem dX8_bars_116 : decode cX8_bars 116 = .ok (.isub, 1) := by decide +kernel
theorem dX8_bars_117 : decode cX8_bars 117 = .ok (.invokestatic 103, 3) := by decide +kernel
theorem dX8_bars_120 : decode cX8_bars 120 = .ok (.aload_n 0, 1) := by decide +kernel
theorem dX8_bars_121 : decode cX8_bars 121 = .ok (.iconst 2, 1) := by decide +kernel
theorem dX8_bars_122 : decode cX8_bars 122 = .ok (.invokevirtual 126, 3) := by decide +kernel
theorem dX8_bars_125 : decode cX8_bars 125 = .ok (.if_icmp .le 5, 3) := by decide +kernel
theorem dX8_bars_128 : decode cX8_bars 128 = .ok (.iconst 3, 1) := by decide +kernel
theorem dX8_bars_129 : decode cX8_bars 129 = .ok (.ireturn, 1) := by decide +kernel
theorem dX8_bars_130 : decode cX8_bars 130 = .ok (.aload_n 0, 1) := by decide +kernel
theorem dX8_bars_131 : decode cX8_bars 131 = .ok (.getfield 45, 3) := by decide +kernel
theorem dX8_bars_134 : decode cX8_bars 134 = .ok (.iconst 2, 1) := by decide +kernel
theorem dX8_bars_135 : decode cX8_bars 135 = .ok (.iload_n 2, 1) := by decide +kernel
theorem dX8_bars_136 : decode cX8_bars 136 = .ok (.imul, 1) := by decide +kernel
theorem dX8_bars_137 : decode cX8_bars 137 = .ok (.if_icmp .ge 5, 3) := by decide +kernel
theorem dX8_bars_140 : decode cX8_bars 140 = .ok (.iconst 4, 1) := by decide +kernel
theorem dX8_bars_141 : decode cX8_bars 141 = .ok (.ireturn, 1) := by decide +kernel
theorem dX8_bars_142 : decode cX8_bars 142 = .ok (.aload_n 0, 1) := by decide +kernel
theorem dX8_bars_143 : decode cX8_bars 143 = .ok (.getfield 129, 3) := by decide +kernel
theorem dX8_bars_146 : decode cX8_bars 146 = .ok (.aload_n 0, 1) := by decide +kernel
theorem dX8_bars_147 : decode cX8_bars 147 = .ok (.iconst 3, 1) := by decide +kernel
theorem dX8_bars_148 : decode cX8_bars 148 = .ok (.invokevirtual 126, 3) := by decide +kernel
theorem dX8_bars_151 : decode cX8_bars 151 = .ok (.if_icmp .le 7, 3) := by decide +kernel
theorem dX8_bars_154 : decode cX8_bars 154 = .ok (.iconst 5, 1) := by decide +kernel
theorem dX8_bars_155 : decode cX8_bars 155 = .ok (.goto 4, 3) := by decide +kernel
theorem dX8_bars_158 : decode cX8_bars 158 = .ok (.iconst 0, 1) := by decide +kernel
theorem dX8_bars_159 : decode cX8_bars 159 = .ok (.ireturn, 1) := by decide +kernel
set_option maxRecDepth 20000 in
theorem ggX8_dig_X8_isIn : GoodIn wsX8_dig wsX8_isIn := goodIn_r _ [16] (by decide +kernel) (by decide +kernel)
set_option maxRecDepth 20000 in
theorem gX8_dig_X8_isIn : GoodIn wsX8_dig (va_wsS RX8 91 yX8_isIn wsX8_isIn) := goodIn_app (goodIn_of _ (by decide +kernel)) ggX8_dig_X8_isIn
set_option maxRecDepth 20000 in
theorem ggX8_dig_X8_bars : GoodIn wsX8_dig wsX8_bars := goodIn_r _ [20, 21, 1, 22, 2, 23, 24, 25, 26, 4, 27, 3, 5, 13, 14, 15, 16, 28, 29, 30, 31, 8, 32, 33, 34, 35, 36, 37, 38, 39, 40, 41, 42, 43, 44, 45, 52, 53, 54, 55, 56, 57, 58, 59, 60, 61, 62, 63, 64, 65, 66, 67, 68, 69, 70, 71, 72, 73, 74, 75, 76, 77, 78, 79, 80, 81, 82, 83, 84, 85] (by decide +kernel) (by decide +kernel)
set_option maxRecDepth 20000 in
theorem gX8_dig_X8_bars : GoodIn wsX8_dig (wsV RX8 132 RX8 yX8_bars wsX8_bars) := goodIn_app (goodIn_of _ (by decide +kernel)) ggX8_dig_X8_bars
set_option maxRecDepth 20000 in
theorem ggX8_dig_X8_learns : GoodIn wsX8_dig wsX8_learns := goodIn_r _ [49, 50, 51, 52, 53, 54, 55, 56, 57, 58, 59, 60, 61, 62, 63, 64, 65, 66, 67, 68, 69, 70, 71, 72, 73, 74, 75, 76, 77, 78, 79, 80, 81, 82, 83, 84, 85] (by decide +kernel) (by decide +kernel)
set_option maxRecDepth 20000 in
theorem gX8_dig_X8_learns : GoodIn wsX8_dig (wsV RX8 99 RX8 yX8_learns wsX8_learns) := goodIn_app (goodIn_of _ (by decide +kernel)) ggX8_dig_X8_learns
theorem dX8_dig_0 : decode cX8_dig 0 = .ok (.iload_n 2, 1) := by decide +kernel
theorem dX8_dig_1 : decode cX8_dig 1 = .ok (.iconst 0, 1) := by decide +kernel
theorem dX8_dig_2 : decode cX8_dig 2 = .ok (.sipush 1000, 3) := by decide +kernel
theorem dX8_dig_5 : decode cX8_dig 5 = .ok (.invokestatic 91, 3) := by decide +kernel
theorem dX8_dig_8 : decode cX8_dig 8 = .ok (.ifCond .eq 11, 3) := by decide +kernel
theorem dX8_dig_11 : decode cX8_dig 11 = .ok (.aload_n 0, 1) := by decide +kernel
theorem dX8_dig_12 : decode cX8_dig 12 = .ok (.iload_n 1, 1) := by decide +kernel
theorem dX8_dig_13 : decode cX8_dig 13 = .ok (.invokevirtual 132, 3) := by decide +kernel
theorem dX8_dig_16 : decode cX8_dig 16 = .ok (.ifCond .eq 5, 3) := by decide +kernel
theorem dX8_dig_19 : decode cX8_dig 19 = .ok (.iconst (-1), 1) := by decide +kernel
theorem dX8_dig_20 : decode cX8_dig 20 = .ok (.ireturn, 1) := by decide +kernel
theorem dX8_dig_21 : decode cX8_dig 21 = .ok (.aload_n 0, 1) := by decide +kernel
theorem dX8_dig_22 : decode cX8_dig 22 = .ok (.dup, 1) := by decide +kernel
theorem dX8_dig_23 : decode cX8_dig 23 = .ok (.getfield 39, 3) := by decide +kernel
theorem dX8_dig_26 : decode cX8_dig 26 = .ok (.iconst 1, 1) := by decide +kernel
theorem dX8_dig_27 : decode cX8_dig 27 = .ok (.iadd, 1) := by decide +kernel
theorem dX8_dig_28 : decode cX8_dig 28 = .ok (.putfield 39, 3) := by decide +kernel
theorem dX8_dig_31 : decode cX8_dig 31 = .ok (.aload_n 0, 1) := by decide +kernel
theorem dX8_dig_32 : decode cX8_dig 32 = .ok (.iload_n 1, 1) := by decide +kernel
theorem dX8_dig_33 : decode cX8_dig 33 = .ok (.putfield 42, 3) := by decide +kernel
theorem dX8_dig_36 : decode cX8_dig 36 = .ok (.bipush 8, 2) := by decide +kernel
theorem dX8_dig_38 : decode cX8_dig 38 = .ok (.aload_n 0, 1) := by decide +kernel
theorem dX8_dig_39 : decode cX8_dig 39 = .ok (.getfield 39, 3) := by decide +kernel
theorem dX8_dig_42 : decode cX8_dig 42 = .ok (.imul, 1) := by decide +kernel
theorem dX8_dig_43 : decode cX8_dig 43 = .ok (.iload_n 1, 1) := by decide +kernel
theorem dX8_dig_44 : decode cX8_dig 44 = .ok (.iadd, 1) := by decide +kernel
theorem dX8_dig_45 : decode cX8_dig 45 = .ok (.istore_n 3, 1) := by decide +kernel
theorem dX8_dig_46 : decode cX8_dig 46 = .ok (.aload_n 0, 1) := by decide +kernel
theorem dX8_dig_47 : decode cX8_dig 47 = .ok (.dup, 1) := by decide +kernel
theorem dX8_dig_48 : decode cX8_dig 48 = .ok (.getfield 45, 3) := by decide +kernel
theorem dX8_dig_51 : decode cX8_dig 51 = .ok (.iconst 2, 1) := by decide +kernel
theorem dX8_dig_52 : decode cX8_dig 52 = .ok (.aload_n 0, 1) := by decide +kernel
theorem dX8_dig_53 : decode cX8_dig 53 = .ok (.getfield 7, 3) := by decide +kernel
theorem dX8_dig_56 : decode cX8_dig 56 = .ok (.iload_n 3, 1) := by decide +kernel
theorem dX8_dig_57 : decode cX8_dig 57 = .ok (.iaload, 1) := by decide +kernel
theorem dX8_dig_58 : decode cX8_dig 58 = .ok (.imul, 1) := by decide +kernel
theorem dX8_dig_59 : decode cX8_dig 59 = .ok (.isub, 1) := by decide +kernel
theorem dX8_dig_60 : decode cX8_dig 60 = .ok (.putfield 45, 3) := by decide +kernel
theorem dX8_dig_63 : decode cX8_dig 63 = .ok (.aload_n 0, 1) := by decide +kernel
theorem dX8_dig_64 : decode cX8_dig 64 = .ok (.dup, 1) := by decide +kernel
theorem dX8_dig_65 : decode cX8_dig 65 = .ok (.getfield 129, 3) := by decide +kernel
theorem dX8_dig_68 : decode cX8_dig 68 = .ok (.iconst 3, 1) := by decide +kernel
theorem dX8_dig_69 : decode cX8_dig 69 = .ok (.aload_n 0, 1) := by decide +kernel
theorem dX8_dig_70 : decode cX8_dig 70 = .ok (.getfield 7, 3) := by decide +kernel
theorem dX8_dig_73 : decode cX8_dig 73 = .ok (.iload_n 3, 1) := by decide +kernel
theorem dX8_dig_74 : decode cX8_dig 74 = .ok (.iaload, 1) := by decide +kernel
theorem dX8_dig_75 : decode cX8_dig 75 = .ok (.imul, 1) := by decide +kernel
theorem dX8_dig_76 : decode cX8_dig 76 = .ok (.iadd, 1) := by decide +kernel
theorem dX8_dig_77 : decode cX8_dig 77 = .ok (.putfield 129, 3) := by decide +kernel
theorem dX8_dig_80 : decode cX8_dig 80 = .ok (.aload_n 0, 1) := by decide +kernel
theorem dX8_dig_81 : decode cX8_dig 81 = .ok (.getfield 23, 3) := by decide +kernel
theorem dX8_dig_84 : decode cX8_dig 84 = .ok (.iload_n 3, 1) := by decide +kernel
theorem dX8_dig_85 : decode cX8_dig 85 = .ok (.iconst 1, 1) := by decide +kernel
theorem dX8_dig_86 : decode cX8_dig 86 = .ok (.bastore, 1) := by decide +kernel
theorem dX8_dig_87 : decode cX8_dig 87 = .ok (.aload_n 0, 1) := by decide +kernel
theorem dX8_dig_88 : decode cX8_dig 88 = .ok (.getfield 16, 3) := by decide +kernel
theorem dX8_dig_91 : decode cX8_dig 91 = .ok (.iload_n 3, 1) := by decide +kernel
theorem dX8_dig_92 : decode cX8_dig 92 = .ok (.aload_n 0, 1) := by decide +kernel
theorem dX8_dig_93 : decode cX8_dig 93 = .ok (.getfield 135, 3) := by decide +kernel
theorem dX8_dig_96 : decode cX8_dig 96 = .ok (.iastore, 1) := by decide +kernel
theorem dX8_dig_97 : decode cX8_dig 97 = .ok (.aload_n 0, 1) := by decide +kernel
theorem dX8_dig_98 : decode cX8_dig 98 = .ok (.iload_n 3, 1) := by decide +kernel
theorem dX8_dig_99 : decode cX8_dig 99 = .ok (.iload_n 2, 1) := by decide +kernel
theorem dX8_dig_100 : decode cX8_dig 100 = .ok (.invokevirtual 99, 3) := by decide +kernel
theorem dX8_dig_103 : decode cX8_dig 103 = .ok (.aload_n 0, 1) := by decide +kernel
theorem dX8_dig_104 : decode cX8_dig 104 = .ok (.getfield 7, 3) := by decide +kernel
theorem dX8_dig_107 : decode cX8_dig 107 = .ok (.iload_n 3, 1) := by decide +kernel
theorem dX8_dig_108 : decode cX8_dig 108 = .ok (.iaload, 1) := by decide +kernel
theorem dX8_dig_109 : decode cX8_dig 109 = .ok (.iload_n 2, 1) := by decide +kernel
theorem dX8_dig_110 : decode cX8_dig 110 = .ok (.imul, 1) := by decide +kernel
theorem dX8_dig_111 : decode cX8_dig 111 = .ok (.istore 4, 2) := by decide +kernel
theorem dX8_dig_113 : decode cX8_dig 113 = .ok (.iload 4, 2) := by decide +kernel
theorem dX8_dig_115 : decode cX8_dig 115 = .ok (.aload_n 0, 1) := by decide +kernel
theorem dX8_dig_116 : decode cX8_dig 116 = .ok (.getfield 51, 3) := by decide +kernel
theorem dX8_dig_119 : decode cX8_dig 119 = .ok (.aload_n 0, 1) := by decide +kernel
theorem dX8_dig_120 : decode cX8_dig 120 = .ok (.getfield 51, 3) := by decide +kernel
theorem dX8_dig_123 : decode cX8_dig 123 = .ok (.imul, 1) := by decide +kernel
theorem dX8_dig_124 : decode cX8_dig 124 = .ok (.iconst 2, 1) := by decide +kernel
theorem dX8_dig_125 : decode cX8_dig 125 = .ok (.idiv, 1) := by decide +kernel
theorem dX8_dig_126 : decode cX8_dig 126 = .ok (.imul, 1) := by decide +kernel
theorem dX8_dig_127 : decode cX8_dig 127 = .ok (.bipush 100, 2) := by decide +kernel
theorem dX8_dig_129 : decode cX8_dig 129 = .ok (.idiv, 1) := by decide +kernel
theorem dX8_dig_130 : decode cX8_dig 130 = .ok (.istore 5, 2) := by decide +kernel
theorem dX8_dig_132 : decode cX8_dig 132 = .ok (.aload_n 0, 1) := by decide +kernel
theorem dX8_dig_133 : decode cX8_dig 133 = .ok (.dup, 1) := by decide +kernel
theorem dX8_dig_134 : decode cX8_dig 134 = .ok (.getfield 138, 3) := by decide +kernel
theorem dX8_dig_137 : decode cX8_dig 137 = .ok (.iload 5, 2) := by decide +kernel
theorem dX8_dig_139 : decode cX8_dig 139 = .ok (.iadd, 1) := by decide +kernel
theorem dX8_dig_140 : decode cX8_dig 140 = .ok (.putfield 138, 3) := by decide +kernel
theorem dX8_dig_143 : decode cX8_dig 143 = .ok (.aload_n 0, 1) := by decide +kernel
theorem dX8_dig_144 : decode cX8_dig 144 = .ok (.dup, 1) := by decide +kernel
theorem dX8_dig_145 : decode cX8_dig 145 = .ok (.getfield 141, 3) := by decide +kernel
theorem dX8_dig_148 : decode cX8_dig 148 = .ok (.iload 4, 2) := by decide +kernel
theorem dX8_dig_150 : decode cX8_dig 150 = .ok (.iload 5, 2) := by decide +kernel
theorem dX8_dig_152 : decode cX8_dig 152 = .ok (.isub, 1) := by decide +kernel
theorem dX8_dig_153 : decode cX8_dig 153 = .ok (.iadd, 1) := by decide +kernel
theorem dX8_dig_154 : decode cX8_dig 154 = .ok (.putfield 141, 3) := by decide +kernel
theorem dX8_dig_157 : decode cX8_dig 157 = .ok (.aload_n 0, 1) := by decide +kernel
theorem dX8_dig_158 : decode cX8_dig 158 = .ok (.getfield 54, 3) := by decide +kernel
theorem dX8_dig_161 : decode cX8_dig 161 = .ok (.aload_n 0, 1) := by decide +kernel
theorem dX8_dig_162 : decode cX8_dig 162 = .ok (.getfield 135, 3) := by decide +kernel
theorem dX8_dig_165 : decode cX8_dig 165 = .ok (.bipush 30, 2) := by decide +kernel
theorem dX8_dig_167 : decode cX8_dig 167 = .ok (.idiv, 1) := by decide +kernel
theorem dX8_dig_168 : decode cX8_dig 168 = .ok (.dup2, 1) := by decide +kernel
theorem dX8_dig_169 : decode cX8_dig 169 = .ok (.iaload, 1) := by decide +kernel
theorem dX8_dig_170 : decode cX8_dig 170 = .ok (.iload 4, 2) := by decide +kernel
theorem dX8_dig_172 : decode cX8_dig 172 = .ok (.iload 5, 2) := by decide +kernel
theorem dX8_dig_174 : decode cX8_dig 174 = .ok (.isub, 1) := by decide +kernel
theorem dX8_dig_175 : decode cX8_dig 175 = .ok (.iadd, 1) := by decide +kernel
theorem dX8_dig_176 : decode cX8_dig 176 = .ok (.iastore, 1) := by decide +kernel
theorem dX8_dig_177 : decode cX8_dig 177 = .ok (.iload 4, 2) := by decide +kernel
theorem dX8_dig_179 : decode cX8_dig 179 = .ok (.iload 5, 2) := by decide +kernel
theorem dX8_dig_181 : decode cX8_dig 181 = .ok (.isub, 1) := by decide +kernel
theorem dX8_dig_182 : decode cX8_dig 182 = .ok (.ireturn, 1) := by decide +kernel
set_option maxRecDepth 20000 in
theorem ggX8_jig_X8_isIn : GoodIn wsX8_jig wsX8_isIn := goodIn_r _ [5] (by decide +kernel) (by decide +kernel)
set_option maxRecDepth 20000 in
theorem gX8_jig_X8_isIn : GoodIn wsX8_jig (va_wsS RX8 91 yX8_isIn wsX8_isIn) := goodIn_app (goodIn_of _ (by decide +kernel)) ggX8_jig_X8_isIn
theorem dX8_jig_0 : decode cX8_jig 0 = .ok (.iload_n 1, 1) := by decide +kernel
theorem dX8_jig_1 : decode cX8_jig 1 = .ok (.iconst 0, 1) := by decide +kernel
theorem dX8_jig_2 : decode cX8_jig 2 = .ok (.bipush 9, 2) := by decide +kernel
theorem dX8_jig_4 : decode cX8_jig 4 = .ok (.invokestatic 91, 3) := by decide +kernel
theorem dX8_jig_7 : decode cX8_jig 7 = .ok (.ifCond .ne 5, 3) := by decide +kernel
theorem dX8_jig_10 : decode cX8_jig 10 = .ok (.iconst 0, 1) := by decide +kernel
theorem dX8_jig_11 : decode cX8_jig 11 = .ok (.ireturn, 1) := by decide +kernel
theorem dX8_jig_12 : decode cX8_jig 12 = .ok (.aload_n 0, 1) := by decide +kernel
theorem dX8_jig_13 : decode cX8_jig 13 = .ok (.iload_n 1, 1) := by decide +kernel
theorem dX8_jig_14 : decode cX8_jig 14 = .ok (.putfield 51, 3) := by decide +kernel
theorem dX8_jig_17 : decode cX8_jig 17 = .ok (.iconst 1, 1) := by decide +kernel
theorem dX8_jig_18 : decode cX8_jig 18 = .ok (.ireturn, 1) := by decide +kernel
set_option maxRecDepth 20000 in
theorem ggX8_let_X8_isIn : GoodIn wsX8_let wsX8_isIn := goodIn_r _ [7] (by decide +kernel) (by decide +kernel)
set_option maxRecDepth 20000 in
theorem gX8_let_X8_isIn : GoodIn wsX8_let (va_wsS RX8 91 yX8_isIn wsX8_isIn) := goodIn_app (goodIn_of _ (by decide +kernel)) ggX8_let_X8_isIn
set_option maxRecDepth 20000 in
theorem ggX8_let_X8_now : GoodIn wsX8_let wsX8_now := goodIn_r _ [11, 12, 13, 14, 15, 6, 16, 17, 18, 19, 20, 21, 22, 23, 24, 25, 26, 27, 28, 29, 30, 31, 32, 33, 34, 35, 36, 37, 38, 39, 40, 41, 42, 43, 44, 45, 46, 47, 48, 49, 50, 51, 52, 53, 54, 55, 56, 57, 58, 59, 60] (by decide +kernel) (by decide +kernel)
set_option maxRecDepth 20000 in
theorem gX8_let_X8_now : GoodIn wsX8_let (wsV RX8 126 RX8 yX8_now wsX8_now) := goodIn_app (goodIn_of _ (by decide +kernel)) ggX8_let_X8_now
theorem dX8_let_0 : decode cX8_let 0 = .ok (.iload_n 1, 1) := by decide +kernel
theorem dX8_let_1 : decode cX8_let 1 = .ok (.iconst 1, 1) := by decide +kernel
theorem dX8_let_2 : decode cX8_let 2 = .ok (.aload_n 0, 1) := by decide +kernel
theorem dX8_let_3 : decode cX8_let 3 = .ok (.getfield 48, 3) := by decide +kernel
theorem dX8_let_6 : decode cX8_let 6 = .ok (.invokestatic 91, 3) := by decide +kernel
theorem dX8_let_9 : decode cX8_let 9 = .ok (.ifCond .ne 5, 3) := by decide +kernel
theorem dX8_let_12 : decode cX8_let 12 = .ok (.iconst (-1), 1) := by decide +kernel
theorem dX8_let_13 : decode cX8_let 13 = .ok (.ireturn, 1) := by decide +kernel
theorem dX8_let_14 : decode cX8_let 14 = .ok (.aload_n 0, 1) := by decide +kernel
theorem dX8_let_15 : decode cX8_let 15 = .ok (.dup, 1) := by decide +kernel
theorem dX8_let_16 : decode cX8_let 16 = .ok (.getfield 48, 3) := by decide +kernel
theorem dX8_let_19 : decode cX8_let 19 = .ok (.iload_n 1, 1) := by decide +kernel
theorem dX8_let_20 : decode cX8_let 20 = .ok (.isub, 1) := by decide +kernel
theorem dX8_let_21 : decode cX8_let 21 = .ok (.putfield 48, 3) := by decide +kernel
theorem dX8_let_24 : decode cX8_let 24 = .ok (.aload_n 0, 1) := by decide +kernel
theorem dX8_let_25 : decode cX8_let 25 = .ok (.getfield 129, 3) := by decide +kernel
theorem dX8_let_28 : decode cX8_let 28 = .ok (.aload_n 0, 1) := by decide +kernel
theorem dX8_let_29 : decode cX8_let 29 = .ok (.iconst 3, 1) := by decide +kernel
theorem dX8_let_30 : decode cX8_let 30 = .ok (.invokevirtual 126, 3) := by decide +kernel
theorem dX8_let_33 : decode cX8_let 33 = .ok (.if_icmp .le 18, 3) := by decide +kernel
theorem dX8_let_36 : decode cX8_let 36 = .ok (.aload_n 0, 1) := by decide +kernel
theorem dX8_let_37 : decode cX8_let 37 = .ok (.dup, 1) := by decide +kernel
theorem dX8_let_38 : decode cX8_let 38 = .ok (.getfield 144, 3) := by decide +kernel
theorem dX8_let_41 : decode cX8_let 41 = .ok (.aload_n 0, 1) := by decide +kernel
theorem dX8_let_42 : decode cX8_let 42 = .ok (.bipush 6, 2) := by decide +kernel
theorem dX8_let_44 : decode cX8_let 44 = .ok (.invokevirtual 126, 3) := by decide +kernel
theorem dX8_let_47 : decode cX8_let 47 = .ok (.iadd, 1) := by decide +kernel
theorem dX8_let_48 : decode cX8_let 48 = .ok (.putfield 144, 3) := by decide +kernel
theorem dX8_let_51 : decode cX8_let 51 = .ok (.aload_n 0, 1) := by decide +kernel
theorem dX8_let_52 : decode cX8_let 52 = .ok (.getfield 48, 3) := by decide +kernel
theorem dX8_let_55 : decode cX8_let 55 = .ok (.ireturn, 1) := by decide +kernel
set_option maxRecDepth 20000 in
theorem ggX8_day_X8_isIn : GoodIn wsX8_day wsX8_isIn := goodIn_r _ [20] (by decide +kernel) (by decide +kernel)
set_option maxRecDepth 20000 in
theorem gX8_day_X8_isIn : GoodIn wsX8_day (va_wsS RX8 91 yX8_isIn wsX8_isIn) := goodIn_app (goodIn_of _ (by decide +kernel)) ggX8_day_X8_isIn
set_option maxRecDepth 20000 in
theorem ggX8_day_X8_now : GoodIn wsX8_day wsX8_now := goodIn_r _ [24, 1, 25, 26, 27, 19, 28, 29, 30, 31, 32, 33, 34, 35, 36, 37, 38, 39, 40, 41, 42, 43, 44, 45, 46, 47, 48, 49, 50, 51, 52, 53, 54, 55, 56, 57, 58, 59, 60, 61, 62, 63, 64, 65, 66, 67, 68, 69, 70, 71, 72] (by decide +kernel) (by decide +kernel)
set_option maxRecDepth 20000 in
theorem gX8_day_X8_now : GoodIn wsX8_day (wsV RX8 126 RX8 yX8_now wsX8_now) := goodIn_app (goodIn_of _ (by decide +kernel)) ggX8_day_X8_now
theorem dX8_day_0 : decode cX8_day 0 = .ok (.iload_n 1, 1) := by decide +kernel
theorem dX8_day_1 : decode cX8_day 1 = .ok (.iconst 0, 1) := by decide +kernel
theorem dX8_day_2 : decode cX8_day 2 = .ok (.sipush 200, 3) := by decide +kernel
theorem dX8_day_5 : decode cX8_day 5 = .ok (.invokestatic 91, 3) := by decide +kernel
theorem dX8_day_8 : decode cX8_day 8 = .ok (.ifCond .eq 13, 3) := by decide +kernel
theorem dX8_day_11 : decode cX8_day 11 = .ok (.aload_n 0, 1) := by decide +kernel
theorem dX8_day_12 : decode cX8_day 12 = .ok (.getfield 135, 3) := by decide +kernel
theorem dX8_day_15 : decode cX8_day 15 = .ok (.sipush 600, 3) := by decide +kernel
theorem dX8_day_18 : decode cX8_day 18 = .ok (.if_icmp .ne 5, 3) := by decide +kernel
theorem dX8_day_21 : decode cX8_day 21 = .ok (.iconst (-1), 1) := by decide +kernel
theorem dX8_day_22 : decode cX8_day 22 = .ok (.ireturn, 1) := by decide +kernel
theorem dX8_day_23 : decode cX8_day 23 = .ok (.aload_n 0, 1) := by decide +kernel
theorem dX8_day_24 : decode cX8_day 24 = .ok (.iconst 0, 1) := by decide +kernel
theorem dX8_day_25 : decode cX8_day 25 = .ok (.sipush 1000, 3) := by decide +kernel
theorem dX8_day_28 : decode cX8_day 28 = .ok (.aload_n 0, 1) := by decide +kernel
theorem dX8_day_29 : decode cX8_day 29 = .ok (.getfield 48, 3) := by decide +kernel
theorem dX8_day_32 : decode cX8_day 32 = .ok (.iload_n 1, 1) := by decide +kernel
theorem dX8_day_33 : decode cX8_day 33 = .ok (.iadd, 1) := by decide +kernel
theorem dX8_day_34 : decode cX8_day 34 = .ok (.iconst 3, 1) := by decide +kernel
theorem dX8_day_35 : decode cX8_day 35 = .ok (.isub, 1) := by decide +kernel
theorem dX8_day_36 : decode cX8_day 36 = .ok (.invokestatic 76, 3) := by decide +kernel
theorem dX8_day_39 : decode cX8_day 39 = .ok (.invokestatic 82, 3) := by decide +kernel
theorem dX8_day_42 : decode cX8_day 42 = .ok (.putfield 48, 3) := by decide +kernel
theorem dX8_day_45 : decode cX8_day 45 = .ok (.aload_n 0, 1) := by decide +kernel
theorem dX8_day_46 : decode cX8_day 46 = .ok (.iconst 0, 1) := by decide +kernel
theorem dX8_day_47 : decode cX8_day 47 = .ok (.aload_n 0, 1) := by decide +kernel
theorem dX8_day_48 : decode cX8_day 48 = .ok (.getfield 129, 3) := by decide +kernel
theorem dX8_day_51 : decode cX8_day 51 = .ok (.bipush 10, 2) := by decide +kernel
theorem dX8_day_53 : decode cX8_day 53 = .ok (.isub, 1) := by decide +kernel
theorem dX8_day_54 : decode cX8_day 54 = .ok (.invokestatic 82, 3) := by decide +kernel
theorem dX8_day_57 : decode cX8_day 57 = .ok (.putfield 129, 3) := by decide +kernel
theorem dX8_day_60 : decode cX8_day 60 = .ok (.iconst 0, 1) := by decide +kernel
theorem dX8_day_61 : decode cX8_day 61 = .ok (.istore_n 2, 1) := by decide +kernel
theorem dX8_day_62 : decode cX8_day 62 = .ok (.iload_n 2, 1) := by decide +kernel
