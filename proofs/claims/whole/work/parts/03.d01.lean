theorem dX1_narrow_36 : decode cX1_narrow 36 = .ok (.iaload, 1) := by decide +kernel
theorem dX1_narrow_37 : decode cX1_narrow 37 = .ok (.aload_n 0, 1) := by decide +kernel
theorem dX1_narrow_38 : decode cX1_narrow 38 = .ok (.getfield 31, 3) := by decide +kernel
theorem dX1_narrow_41 : decode cX1_narrow 41 = .ok (.iload_n 2, 1) := by decide +kernel
theorem dX1_narrow_42 : decode cX1_narrow 42 = .ok (.iaload, 1) := by decide +kernel
theorem dX1_narrow_43 : decode cX1_narrow 43 = .ok (.aload_n 0, 1) := by decide +kernel
theorem dX1_narrow_44 : decode cX1_narrow 44 = .ok (.getfield 11, 3) := by decide +kernel
theorem dX1_narrow_47 : decode cX1_narrow 47 = .ok (.iadd, 1) := by decide +kernel
theorem dX1_narrow_48 : decode cX1_narrow 48 = .ok (.invokestatic 73, 3) := by decide +kernel
theorem dX1_narrow_51 : decode cX1_narrow 51 = .ok (.iastore, 1) := by decide +kernel
theorem dX1_narrow_52 : decode cX1_narrow 52 = .ok (.return_, 1) := by decide +kernel
theorem dX1_closeToldSpans_0 : decode cX1_closeToldSpans 0 = .ok (.iconst 0, 1) := by decide +kernel
theorem dX1_closeToldSpans_1 : decode cX1_closeToldSpans 1 = .ok (.istore_n 1, 1) := by decide +kernel
theorem dX1_closeToldSpans_2 : decode cX1_closeToldSpans 2 = .ok (.iload_n 1, 1) := by decide +kernel
theorem dX1_closeToldSpans_3 : decode cX1_closeToldSpans 3 = .ok (.aload_n 0, 1) := by decide +kernel
theorem dX1_closeToldSpans_4 : decode cX1_closeToldSpans 4 = .ok (.getfield 25, 3) := by decide +kernel
theorem dX1_closeToldSpans_7 : decode cX1_closeToldSpans 7 = .ok (.arraylength, 1) := by decide +kernel
theorem dX1_closeToldSpans_8 : decode cX1_closeToldSpans 8 = .ok (.if_icmp .ge 43, 3) := by decide +kernel
theorem dX1_closeToldSpans_11 : decode cX1_closeToldSpans 11 = .ok (.aload_n 0, 1) := by decide +kernel
theorem dX1_closeToldSpans_12 : decode cX1_closeToldSpans 12 = .ok (.getfield 25, 3) := by decide +kernel
theorem dX1_closeToldSpans_15 : decode cX1_closeToldSpans 15 = .ok (.iload_n 1, 1) := by decide +kernel
theorem dX1_closeToldSpans_16 : decode cX1_closeToldSpans 16 = .ok (.iaload, 1) := by decide +kernel
theorem dX1_closeToldSpans_17 : decode cX1_closeToldSpans 17 = .ok (.iconst (-1), 1) := by decide +kernel
theorem dX1_closeToldSpans_18 : decode cX1_closeToldSpans 18 = .ok (.if_icmp .eq 27, 3) := by decide +kernel
theorem dX1_closeToldSpans_21 : decode cX1_closeToldSpans 21 = .ok (.aload_n 0, 1) := by decide +kernel
theorem dX1_closeToldSpans_22 : decode cX1_closeToldSpans 22 = .ok (.getfield 28, 3) := by decide +kernel
theorem dX1_closeToldSpans_25 : decode cX1_closeToldSpans 25 = .ok (.iload_n 1, 1) := by decide +kernel
theorem dX1_closeToldSpans_26 : decode cX1_closeToldSpans 26 = .ok (.aload_n 0, 1) := by decide +kernel
theorem dX1_closeToldSpans_27 : decode cX1_closeToldSpans 27 = .ok (.getfield 25, 3) := by decide +kernel
theorem dX1_closeToldSpans_30 : decode cX1_closeToldSpans 30 = .ok (.iload_n 1, 1) := by decide +kernel
theorem dX1_closeToldSpans_31 : decode cX1_closeToldSpans 31 = .ok (.iaload, 1) := by decide +kernel
theorem dX1_closeToldSpans_32 : decode cX1_closeToldSpans 32 = .ok (.iastore, 1) := by decide +kernel
theorem dX1_closeToldSpans_33 : decode cX1_closeToldSpans 33 = .ok (.aload_n 0, 1) := by decide +kernel
theorem dX1_closeToldSpans_34 : decode cX1_closeToldSpans 34 = .ok (.getfield 31, 3) := by decide +kernel
theorem dX1_closeToldSpans_37 : decode cX1_closeToldSpans 37 = .ok (.iload_n 1, 1) := by decide +kernel
theorem dX1_closeToldSpans_38 : decode cX1_closeToldSpans 38 = .ok (.aload_n 0, 1) := by decide +kernel
theorem dX1_closeToldSpans_39 : decode cX1_closeToldSpans 39 = .ok (.getfield 25, 3) := by decide +kernel
theorem dX1_closeToldSpans_42 : decode cX1_closeToldSpans 42 = .ok (.iload_n 1, 1) := by decide +kernel
theorem dX1_closeToldSpans_43 : decode cX1_closeToldSpans 43 = .ok (.iaload, 1) := by decide +kernel
theorem dX1_closeToldSpans_44 : decode cX1_closeToldSpans 44 = .ok (.iastore, 1) := by decide +kernel
theorem dX1_closeToldSpans_45 : decode cX1_closeToldSpans 45 = .ok (.iinc 1 1, 3) := by decide +kernel
theorem dX1_closeToldSpans_48 : decode cX1_closeToldSpans 48 = .ok (.goto (-46), 3) := by decide +kernel
theorem dX1_closeToldSpans_51 : decode cX1_closeToldSpans 51 = .ok (.return_, 1) := by decide +kernel
theorem dX2_init_0 : decode cX2_init 0 = .ok (.aload_n 0, 1) := by decide +kernel
theorem dX2_init_1 : decode cX2_init 1 = .ok (.invokespecial 3, 3) := by decide +kernel
theorem dX2_init_4 : decode cX2_init 4 = .ok (.aload_n 0, 1) := by decide +kernel
theorem dX2_init_5 : decode cX2_init 5 = .ok (.bipush 70, 2) := by decide +kernel
theorem dX2_init_7 : decode cX2_init 7 = .ok (.newarray .int, 2) := by decide +kernel
theorem dX2_init_9 : decode cX2_init 9 = .ok (.putfield 11, 3) := by decide +kernel
theorem dX2_init_12 : decode cX2_init 12 = .ok (.aload_n 0, 1) := by decide +kernel
theorem dX2_init_13 : decode cX2_init 13 = .ok (.bipush 10, 2) := by decide +kernel
theorem dX2_init_15 : decode cX2_init 15 = .ok (.newarray .int, 2) := by decide +kernel
theorem dX2_init_17 : decode cX2_init 17 = .ok (.putfield 15, 3) := by decide +kernel
theorem dX2_init_20 : decode cX2_init 20 = .ok (.aload_n 0, 1) := by decide +kernel
theorem dX2_init_21 : decode cX2_init 21 = .ok (.iconst 0, 1) := by decide +kernel
theorem dX2_init_22 : decode cX2_init 22 = .ok (.putfield 18, 3) := by decide +kernel
theorem dX2_init_25 : decode cX2_init 25 = .ok (.return_, 1) := by decide +kernel
set_option maxRecDepth 20000 in
theorem ggX2_usual_X7_within : GoodIn wsX2_usual wsX7_within := goodIn_r _ [4] (by decide +kernel) (by decide +kernel)
set_option maxRecDepth 20000 in
theorem gX2_usual_X7_within_n22 : GoodIn wsX2_usual (wsX7_within) := ggX2_usual_X7_within
theorem dX2_usual_0 : decode cX2_usual 0 = .ok (.iload_n 0, 1) := by decide +kernel
theorem dX2_usual_1 : decode cX2_usual 1 = .ok (.iconst 0, 1) := by decide +kernel
theorem dX2_usual_2 : decode cX2_usual 2 = .ok (.bipush 6, 2) := by decide +kernel
theorem dX2_usual_4 : decode cX2_usual 4 = .ok (.invokestatic 22, 3) := by decide +kernel
theorem dX2_usual_7 : decode cX2_usual 7 = .ok (.ifCond .eq 11, 3) := by decide +kernel
theorem dX2_usual_10 : decode cX2_usual 10 = .ok (.getstatic 26, 3) := by decide +kernel
theorem dX2_usual_13 : decode cX2_usual 13 = .ok (.iload_n 0, 1) := by decide +kernel
theorem dX2_usual_14 : decode cX2_usual 14 = .ok (.iaload, 1) := by decide +kernel
theorem dX2_usual_15 : decode cX2_usual 15 = .ok (.goto 4, 3) := by decide +kernel
theorem dX2_usual_18 : decode cX2_usual 18 = .ok (.iconst (-1), 1) := by decide +kernel
theorem dX2_usual_19 : decode cX2_usual 19 = .ok (.ireturn, 1) := by decide +kernel
theorem dX2_size_0 : decode cX2_size 0 = .ok (.aload_n 0, 1) := by decide +kernel
theorem dX2_size_1 : decode cX2_size 1 = .ok (.getfield 18, 3) := by decide +kernel
theorem dX2_size_4 : decode cX2_size 4 = .ok (.ireturn, 1) := by decide +kernel
theorem dX2_isFull_0 : decode cX2_isFull 0 = .ok (.aload_n 0, 1) := by decide +kernel
theorem dX2_isFull_1 : decode cX2_isFull 1 = .ok (.getfield 18, 3) := by decide +kernel
theorem dX2_isFull_4 : decode cX2_isFull 4 = .ok (.bipush 10, 2) := by decide +kernel
theorem dX2_isFull_6 : decode cX2_isFull 6 = .ok (.if_icmp .lt 7, 3) := by decide +kernel
theorem dX2_isFull_9 : decode cX2_isFull 9 = .ok (.iconst 1, 1) := by decide +kernel
theorem dX2_isFull_10 : decode cX2_isFull 10 = .ok (.goto 4, 3) := by decide +kernel
theorem dX2_isFull_13 : decode cX2_isFull 13 = .ok (.iconst 0, 1) := by decide +kernel
theorem dX2_isFull_14 : decode cX2_isFull 14 = .ok (.ireturn, 1) := by decide +kernel
set_option maxRecDepth 20000 in
theorem ggX2_take_X2_isFull : GoodIn wsX2_take wsX2_isFull := goodIn_r _ [8, 1, 18, 19, 20] (by decide +kernel) (by decide +kernel)
set_option maxRecDepth 20000 in
theorem gX2_take_X2_isFull : GoodIn wsX2_take (wsV RX2 29 RX2 yX2_isFull wsX2_isFull) := goodIn_app (goodIn_of _ (by decide +kernel)) ggX2_take_X2_isFull
set_option maxRecDepth 20000 in
theorem ggX2_take_X3_termRead : GoodIn wsX2_take wsX3_termRead := goodIn_r _ [13, 14, 15, 16, 17, 21, 22, 23, 24, 25, 26, 27] (by decide +kernel) (by decide +kernel)
set_option maxRecDepth 20000 in
theorem gX2_take_X3_termRead : GoodIn wsX2_take (wsV RX2 33 RX3 yX3_termRead wsX3_termRead) := goodIn_app (goodIn_of _ (by decide +kernel)) ggX2_take_X3_termRead
theorem dX2_take_0 : decode cX2_take 0 = .ok (.aload_n 0, 1) := by decide +kernel
theorem dX2_take_1 : decode cX2_take 1 = .ok (.invokevirtual 29, 3) := by decide +kernel
theorem dX2_take_4 : decode cX2_take 4 = .ok (.ifCond .eq 5, 3) := by decide +kernel
theorem dX2_take_7 : decode cX2_take 7 = .ok (.iconst (-1), 1) := by decide +kernel
theorem dX2_take_8 : decode cX2_take 8 = .ok (.ireturn, 1) := by decide +kernel
theorem dX2_take_9 : decode cX2_take 9 = .ok (.aload_n 0, 1) := by decide +kernel
theorem dX2_take_10 : decode cX2_take 10 = .ok (.getfield 18, 3) := by decide +kernel
theorem dX2_take_13 : decode cX2_take 13 = .ok (.istore_n 3, 1) := by decide +kernel
theorem dX2_take_14 : decode cX2_take 14 = .ok (.iconst 0, 1) := by decide +kernel
theorem dX2_take_15 : decode cX2_take 15 = .ok (.istore 4, 2) := by decide +kernel
theorem dX2_take_17 : decode cX2_take 17 = .ok (.iload 4, 2) := by decide +kernel
theorem dX2_take_19 : decode cX2_take 19 = .ok (.bipush 7, 2) := by decide +kernel
theorem dX2_take_21 : decode cX2_take 21 = .ok (.if_icmp .ge 27, 3) := by decide +kernel
theorem dX2_take_24 : decode cX2_take 24 = .ok (.aload_n 0, 1) := by decide +kernel
theorem dX2_take_25 : decode cX2_take 25 = .ok (.getfield 11, 3) := by decide +kernel
theorem dX2_take_28 : decode cX2_take 28 = .ok (.iload_n 3, 1) := by decide +kernel
theorem dX2_take_29 : decode cX2_take 29 = .ok (.bipush 7, 2) := by decide +kernel
theorem dX2_take_31 : decode cX2_take 31 = .ok (.imul, 1) := by decide +kernel
theorem dX2_take_32 : decode cX2_take 32 = .ok (.iload 4, 2) := by decide +kernel
theorem dX2_take_34 : decode cX2_take 34 = .ok (.iadd, 1) := by decide +kernel
theorem dX2_take_35 : decode cX2_take 35 = .ok (.aload_n 1, 1) := by decide +kernel
theorem dX2_take_36 : decode cX2_take 36 = .ok (.iload 4, 2) := by decide +kernel
theorem dX2_take_38 : decode cX2_take 38 = .ok (.invokevirtual 33, 3) := by decide +kernel
theorem dX2_take_41 : decode cX2_take 41 = .ok (.iastore, 1) := by decide +kernel
theorem dX2_take_42 : decode cX2_take 42 = .ok (.iinc 4 1, 3) := by decide +kernel
theorem dX2_take_45 : decode cX2_take 45 = .ok (.goto (-28), 3) := by decide +kernel
theorem dX2_take_48 : decode cX2_take 48 = .ok (.aload_n 0, 1) := by decide +kernel
theorem dX2_take_49 : decode cX2_take 49 = .ok (.getfield 15, 3) := by decide +kernel
theorem dX2_take_52 : decode cX2_take 52 = .ok (.iload_n 3, 1) := by decide +kernel
theorem dX2_take_53 : decode cX2_take 53 = .ok (.iload_n 2, 1) := by decide +kernel
theorem dX2_take_54 : decode cX2_take 54 = .ok (.iastore, 1) := by decide +kernel
theorem dX2_take_55 : decode cX2_take 55 = .ok (.aload_n 0, 1) := by decide +kernel
theorem dX2_take_56 : decode cX2_take 56 = .ok (.dup, 1) := by decide +kernel
theorem dX2_take_57 : decode cX2_take 57 = .ok (.getfield 18, 3) := by decide +kernel
theorem dX2_take_60 : decode cX2_take 60 = .ok (.iconst 1, 1) := by decide +kernel
theorem dX2_take_61 : decode cX2_take 61 = .ok (.iadd, 1) := by decide +kernel
theorem dX2_take_62 : decode cX2_take 62 = .ok (.putfield 18, 3) := by decide +kernel
theorem dX2_take_65 : decode cX2_take 65 = .ok (.iload_n 3, 1) := by decide +kernel
theorem dX2_take_66 : decode cX2_take 66 = .ok (.ireturn, 1) := by decide +kernel
theorem dX2_inForce_0 : decode cX2_inForce 0 = .ok (.aload_n 0, 1) := by decide +kernel
theorem dX2_inForce_1 : decode cX2_inForce 1 = .ok (.getfield 18, 3) := by decide +kernel
theorem dX2_inForce_4 : decode cX2_inForce 4 = .ok (.iconst 1, 1) := by decide +kernel
theorem dX2_inForce_5 : decode cX2_inForce 5 = .ok (.isub, 1) := by decide +kernel
theorem dX2_inForce_6 : decode cX2_inForce 6 = .ok (.istore_n 2, 1) := by decide +kernel
theorem dX2_inForce_7 : decode cX2_inForce 7 = .ok (.iload_n 2, 1) := by decide +kernel
theorem dX2_inForce_8 : decode cX2_inForce 8 = .ok (.ifCond .lt 21, 3) := by decide +kernel
theorem dX2_inForce_11 : decode cX2_inForce 11 = .ok (.aload_n 0, 1) := by decide +kernel
theorem dX2_inForce_12 : decode cX2_inForce 12 = .ok (.getfield 15, 3) := by decide +kernel
theorem dX2_inForce_15 : decode cX2_inForce 15 = .ok (.iload_n 2, 1) := by decide +kernel
theorem dX2_inForce_16 : decode cX2_inForce 16 = .ok (.iaload, 1) := by decide +kernel
theorem dX2_inForce_17 : decode cX2_inForce 17 = .ok (.iload_n 1, 1) := by decide +kernel
theorem dX2_inForce_18 : decode cX2_inForce 18 = .ok (.if_icmp .gt 5, 3) := by decide +kernel
theorem dX2_inForce_21 : decode cX2_inForce 21 = .ok (.iload_n 2, 1) := by decide +kernel
theorem dX2_inForce_22 : decode cX2_inForce 22 = .ok (.ireturn, 1) := by decide +kernel
theorem dX2_inForce_23 : decode cX2_inForce 23 = .ok (.iinc 2 (-1), 3) := by decide +kernel
theorem dX2_inForce_26 : decode cX2_inForce 26 = .ok (.goto (-19), 3) := by decide +kernel
theorem dX2_inForce_29 : decode cX2_inForce 29 = .ok (.iconst (-1), 1) := by decide +kernel
theorem dX2_inForce_30 : decode cX2_inForce 30 = .ok (.ireturn, 1) := by decide +kernel
set_option maxRecDepth 20000 in
theorem ggX2_term_X2_inForce : GoodIn wsX2_term wsX2_inForce := goodIn_r _ [6, 7, 8, 16, 17, 18] (by decide +kernel) (by decide +kernel)
set_option maxRecDepth 20000 in
theorem gX2_term_X2_inForce : GoodIn wsX2_term (wsV RX2 39 RX2 yX2_inForce wsX2_inForce) := goodIn_app (goodIn_of _ (by decide +kernel)) ggX2_term_X2_inForce
set_option maxRecDepth 20000 in
theorem ggX2_term_X7_within : GoodIn wsX2_term wsX7_within := goodIn_r _ [11] (by decide +kernel) (by decide +kernel)
set_option maxRecDepth 20000 in
theorem gX2_term_X7_within_n22 : GoodIn wsX2_term (wsX7_within) := ggX2_term_X7_within
set_option maxRecDepth 20000 in
theorem ggX2_term_X2_usual : GoodIn wsX2_term wsX2_usual := goodIn_r _ [14, 15, 9, 10, 11] (by decide +kernel) (by decide +kernel)
set_option maxRecDepth 20000 in
theorem gX2_term_X2_usual : GoodIn wsX2_term (va_wsS RX2 42 yX2_usual wsX2_usual) := goodIn_app (goodIn_of _ (by decide +kernel)) ggX2_term_X2_usual
theorem dX2_term_0 : decode cX2_term 0 = .ok (.aload_n 0, 1) := by decide +kernel
theorem dX2_term_1 : decode cX2_term 1 = .ok (.iload_n 1, 1) := by decide +kernel
theorem dX2_term_2 : decode cX2_term 2 = .ok (.invokevirtual 39, 3) := by decide +kernel
theorem dX2_term_5 : decode cX2_term 5 = .ok (.istore_n 3, 1) := by decide +kernel
theorem dX2_term_6 : decode cX2_term 6 = .ok (.iload_n 3, 1) := by decide +kernel
theorem dX2_term_7 : decode cX2_term 7 = .ok (.iconst (-1), 1) := by decide +kernel
theorem dX2_term_8 : decode cX2_term 8 = .ok (.if_icmp .eq 13, 3) := by decide +kernel
theorem dX2_term_11 : decode cX2_term 11 = .ok (.iload_n 2, 1) := by decide +kernel
theorem dX2_term_12 : decode cX2_term 12 = .ok (.iconst 0, 1) := by decide +kernel
theorem dX2_term_13 : decode cX2_term 13 = .ok (.bipush 6, 2) := by decide +kernel
theorem dX2_term_15 : decode cX2_term 15 = .ok (.invokestatic 22, 3) := by decide +kernel
theorem dX2_term_18 : decode cX2_term 18 = .ok (.ifCond .ne 8, 3) := by decide +kernel
theorem dX2_term_21 : decode cX2_term 21 = .ok (.iload_n 2, 1) := by decide +kernel
theorem dX2_term_22 : decode cX2_term 22 = .ok (.invokestatic 42, 3) := by decide +kernel
theorem dX2_term_25 : decode cX2_term 25 = .ok (.ireturn, 1) := by decide +kernel
theorem dX2_term_26 : decode cX2_term 26 = .ok (.aload_n 0, 1) := by decide +kernel
theorem dX2_term_27 : decode cX2_term 27 = .ok (.getfield 11, 3) := by decide +kernel
theorem dX2_term_30 : decode cX2_term 30 = .ok (.iload_n 3, 1) := by decide +kernel
theorem dX2_term_31 : decode cX2_term 31 = .ok (.bipush 7, 2) := by decide +kernel
theorem dX2_term_33 : decode cX2_term 33 = .ok (.imul, 1) := by decide +kernel
theorem dX2_term_34 : decode cX2_term 34 = .ok (.iload_n 2, 1) := by decide +kernel
theorem dX2_term_35 : decode cX2_term 35 = .ok (.iadd, 1) := by decide +kernel
theorem dX2_term_36 : decode cX2_term 36 = .ok (.iaload, 1) := by decide +kernel
theorem dX2_term_37 : decode cX2_term 37 = .ok (.ireturn, 1) := by decide +kernel
theorem dX3_init_0 : decode cX3_init 0 = .ok (.aload_n 0, 1) := by decide +kernel
theorem dX3_init_1 : decode cX3_init 1 = .ok (.invokespecial 3, 3) := by decide +kernel
theorem dX3_init_4 : decode cX3_init 4 = .ok (.aload_n 0, 1) := by decide +kernel
theorem dX3_init_5 : decode cX3_init 5 = .ok (.sipush 300, 3) := by decide +kernel
theorem dX3_init_8 : decode cX3_init 8 = .ok (.newarray .int, 2) := by decide +kernel
theorem dX3_init_10 : decode cX3_init 10 = .ok (.putfield 11, 3) := by decide +kernel
theorem dX3_init_13 : decode cX3_init 13 = .ok (.aload_n 0, 1) := by decide +kernel
theorem dX3_init_14 : decode cX3_init 14 = .ok (.bipush 7, 2) := by decide +kernel
theorem dX3_init_16 : decode cX3_init 16 = .ok (.newarray .int, 2) := by decide +kernel
theorem dX3_init_18 : decode cX3_init 18 = .ok (.putfield 17, 3) := by decide +kernel
theorem dX3_init_21 : decode cX3_init 21 = .ok (.aload_n 0, 1) := by decide +kernel
theorem dX3_init_22 : decode cX3_init 22 = .ok (.iconst 0, 1) := by decide +kernel
theorem dX3_init_23 : decode cX3_init 23 = .ok (.putfield 20, 3) := by decide +kernel
theorem dX3_init_26 : decode cX3_init 26 = .ok (.aload_n 0, 1) := by decide +kernel
theorem dX3_init_27 : decode cX3_init 27 = .ok (.iconst 0, 1) := by decide +kernel
theorem dX3_init_28 : decode cX3_init 28 = .ok (.putfield 24, 3) := by decide +kernel
theorem dX3_init_31 : decode cX3_init 31 = .ok (.aload_n 0, 1) := by decide +kernel
theorem dX3_init_32 : decode cX3_init 32 = .ok (.iconst 0, 1) := by decide +kernel
theorem dX3_init_33 : decode cX3_init 33 = .ok (.putfield 27, 3) := by decide +kernel
theorem dX3_init_36 : decode cX3_init 36 = .ok (.aload_n 0, 1) := by decide +kernel
theorem dX3_init_37 : decode cX3_init 37 = .ok (.iconst 0, 1) := by decide +kernel
theorem dX3_init_38 : decode cX3_init 38 = .ok (.putfield 30, 3) := by decide +kernel
theorem dX3_init_41 : decode cX3_init 41 = .ok (.aload_n 0, 1) := by decide +kernel
theorem dX3_init_42 : decode cX3_init 42 = .ok (.iconst 0, 1) := by decide +kernel
theorem dX3_init_43 : decode cX3_init 43 = .ok (.putfield 33, 3) := by decide +kernel
theorem dX3_init_46 : decode cX3_init 46 = .ok (.return_, 1) := by decide +kernel
theorem dX3_size_0 : decode cX3_size 0 = .ok (.aload_n 0, 1) := by decide +kernel
theorem dX3_size_1 : decode cX3_size 1 = .ok (.getfield 20, 3) := by decide +kernel
theorem dX3_size_4 : decode cX3_size 4 = .ok (.ireturn, 1) := by decide +kernel
theorem dX3_hasRoom_0 : decode cX3_hasRoom 0 = .ok (.aload_n 0, 1) := by decide +kernel
theorem dX3_hasRoom_1 : decode cX3_hasRoom 1 = .ok (.getfield 20, 3) := by decide +kernel
theorem dX3_hasRoom_4 : decode cX3_hasRoom 4 = .ok (.bipush 20, 2) := by decide +kernel
theorem dX3_hasRoom_6 : decode cX3_hasRoom 6 = .ok (.iadd, 1) := by decide +kernel
theorem dX3_hasRoom_7 : decode cX3_hasRoom 7 = .ok (.sipush 300, 3) := by decide +kernel
theorem dX3_hasRoom_10 : decode cX3_hasRoom 10 = .ok (.if_icmp .gt 7, 3) := by decide +kernel
theorem dX3_hasRoom_13 : decode cX3_hasRoom 13 = .ok (.iconst 1, 1) := by decide +kernel
theorem dX3_hasRoom_14 : decode cX3_hasRoom 14 = .ok (.goto 4, 3) := by decide +kernel
theorem dX3_hasRoom_17 : decode cX3_hasRoom 17 = .ok (.iconst 0, 1) := by decide +kernel
theorem dX3_hasRoom_18 : decode cX3_hasRoom 18 = .ok (.ireturn, 1) := by decide +kernel
theorem dX3_append_0 : decode cX3_append 0 = .ok (.bipush 24, 2) := by decide +kernel
theorem dX3_append_2 : decode cX3_append 2 = .ok (.istore_n 2, 1) := by decide +kernel
theorem dX3_append_3 : decode cX3_append 3 = .ok (.iload_n 2, 1) := by decide +kernel
theorem dX3_append_4 : decode cX3_append 4 = .ok (.ifCond .lt 45, 3) := by decide +kernel
theorem dX3_append_7 : decode cX3_append 7 = .ok (.aload_n 0, 1) := by decide +kernel
theorem dX3_append_8 : decode cX3_append 8 = .ok (.getfield 20, 3) := by decide +kernel
theorem dX3_append_11 : decode cX3_append 11 = .ok (.sipush 300, 3) := by decide +kernel
theorem dX3_append_14 : decode cX3_append 14 = .ok (.if_icmp .ge 35, 3) := by decide +kernel
theorem dX3_append_17 : decode cX3_append 17 = .ok (.aload_n 0, 1) := by decide +kernel
theorem dX3_append_18 : decode cX3_append 18 = .ok (.getfield 11, 3) := by decide +kernel
theorem dX3_append_21 : decode cX3_append 21 = .ok (.aload_n 0, 1) := by decide +kernel
theorem dX3_append_22 : decode cX3_append 22 = .ok (.getfield 20, 3) := by decide +kernel
theorem dX3_append_25 : decode cX3_append 25 = .ok (.iload_n 1, 1) := by decide +kernel
theorem dX3_append_26 : decode cX3_append 26 = .ok (.iload_n 2, 1) := by decide +kernel
theorem dX3_append_27 : decode cX3_append 27 = .ok (.iushr, 1) := by decide +kernel
theorem dX3_append_28 : decode cX3_append 28 = .ok (.sipush 255, 3) := by decide +kernel
theorem dX3_append_31 : decode cX3_append 31 = .ok (.iand, 1) := by decide +kernel
theorem dX3_append_32 : decode cX3_append 32 = .ok (.iastore, 1) := by decide +kernel
theorem dX3_append_33 : decode cX3_append 33 = .ok (.aload_n 0, 1) := by decide +kernel
theorem dX3_append_34 : decode cX3_append 34 = .ok (.dup, 1) := by decide +kernel
theorem dX3_append_35 : decode cX3_append 35 = .ok (.getfield 20, 3) := by decide +kernel
theorem dX3_append_38 : decode cX3_append 38 = .ok (.iconst 1, 1) := by decide +kernel
theorem dX3_append_39 : decode cX3_append 39 = .ok (.iadd, 1) := by decide +kernel
theorem dX3_append_40 : decode cX3_append 40 = .ok (.putfield 20, 3) := by decide +kernel
theorem dX3_append_43 : decode cX3_append 43 = .ok (.iinc 2 (-8), 3) := by decide +kernel
theorem dX3_append_46 : decode cX3_append 46 = .ok (.goto (-43), 3) := by decide +kernel
theorem dX3_append_49 : decode cX3_append 49 = .ok (.return_, 1) := by decide +kernel
set_option maxRecDepth 20000 in
theorem ggX3_termRead_X7_within : GoodIn wsX3_termRead wsX7_within := goodIn_r _ [4] (by decide +kernel) (by decide +kernel)
set_option maxRecDepth 20000 in
theorem gX3_termRead_X7_within_n36 : GoodIn wsX3_termRead (wsX7_within) := ggX3_termRead_X7_within
theorem dX3_termRead_0 : decode cX3_termRead 0 = .ok (.iload_n 1, 1) := by decide +kernel
theorem dX3_termRead_1 : decode cX3_termRead 1 = .ok (.iconst 0, 1) := by decide +kernel
theorem dX3_termRead_2 : decode cX3_termRead 2 = .ok (.aload_n 0, 1) := by decide +kernel
theorem dX3_termRead_3 : decode cX3_termRead 3 = .ok (.getfield 17, 3) := by decide +kernel
theorem dX3_termRead_6 : decode cX3_termRead 6 = .ok (.arraylength, 1) := by decide +kernel
theorem dX3_termRead_7 : decode cX3_termRead 7 = .ok (.iconst 1, 1) := by decide +kernel
theorem dX3_termRead_8 : decode cX3_termRead 8 = .ok (.isub, 1) := by decide +kernel
theorem dX3_termRead_9 : decode cX3_termRead 9 = .ok (.invokestatic 36, 3) := by decide +kernel
theorem dX3_termRead_12 : decode cX3_termRead 12 = .ok (.ifCond .eq 12, 3) := by decide +kernel
theorem dX3_termRead_15 : decode cX3_termRead 15 = .ok (.aload_n 0, 1) := by decide +kernel
theorem dX3_termRead_16 : decode cX3_termRead 16 = .ok (.getfield 17, 3) := by decide +kernel
theorem dX3_termRead_19 : decode cX3_termRead 19 = .ok (.iload_n 1, 1) := by decide +kernel
theorem dX3_termRead_20 : decode cX3_termRead 20 = .ok (.iaload, 1) := by decide +kernel
theorem dX3_termRead_21 : decode cX3_termRead 21 = .ok (.goto 4, 3) := by decide +kernel
theorem dX3_termRead_24 : decode cX3_termRead 24 = .ok (.iconst (-1), 1) := by decide +kernel
theorem dX3_termRead_25 : decode cX3_termRead 25 = .ok (.ireturn, 1) := by decide +kernel
set_option maxRecDepth 20000 in
theorem ggX3_read_X2_usual : GoodIn wsX3_read wsX2_usual := goodIn_r _ [17, 18, 19, 20, 21] (by decide +kernel) (by decide +kernel)
set_option maxRecDepth 20000 in
theorem gX3_read_X2_usual : GoodIn wsX3_read (va_wsS RX3 49 yX2_usual wsX2_usual) := goodIn_app (goodIn_of _ (by decide +kernel)) ggX3_read_X2_usual
set_option maxRecDepth 20000 in
theorem ggX3_read_X3_scan : GoodIn wsX3_read wsX3_scan := goodIn_r _ [26, 10, 13, 9, 27, 12, 28, 29, 25, 30, 31, 32, 33, 19, 20, 21, 99, 100, 101, 102, 103, 104, 105] (by decide +kernel) (by decide +kernel)
set_option maxRecDepth 20000 in
theorem gX3_read_X3_scan : GoodIn wsX3_read (wsV RX3 53 RX3 yX3_scan wsX3_scan) := goodIn_app (goodIn_of _ (by decide +kernel)) ggX3_read_X3_scan
set_option maxRecDepth 20000 in
theorem ggX3_read_X3_readStatement : GoodIn wsX3_read wsX3_readStatement := goodIn_r _ [37, 12, 38, 39, 40, 25, 41, 42, 43, 44, 45, 10, 13, 27, 46, 47, 48, 49, 50, 51, 52, 53, 54, 55, 56, 57, 58, 59, 60, 61, 62, 63, 64, 65, 66, 67, 68, 69, 70, 71, 72, 73, 74, 75, 76, 77, 78, 79, 80, 81, 82, 83, 84, 85, 86, 87, 88, 89, 90, 91, 92, 93, 94, 95, 96, 97, 98, 11, 22, 23, 24, 26, 9, 28, 29, 30, 31, 32, 33, 19, 20, 21, 99, 100, 101, 102, 103, 104, 105] (by decide +kernel) (by decide +kernel)
set_option maxRecDepth 20000 in
theorem gX3_read_X3_readStatement : GoodIn wsX3_read (wsV RX3 56 RX3 yX3_readStatement wsX3_readStatement) := goodIn_app (goodIn_of _ (by decide +kernel)) ggX3_read_X3_readStatement
theorem dX3_read_0 : decode cX3_read 0 = .ok (.aload_n 0, 1) := by decide +kernel
theorem dX3_read_1 : decode cX3_read 1 = .ok (.iconst 0, 1) := by decide +kernel
theorem dX3_read_2 : decode cX3_read 2 = .ok (.aload_n 0, 1) := by decide +kernel
theorem dX3_read_3 : decode cX3_read 3 = .ok (.getfield 20, 3) := by decide +kernel
theorem dX3_read_6 : decode cX3_read 6 = .ok (.iload_n 1, 1) := by decide +kernel
theorem dX3_read_7 : decode cX3_read 7 = .ok (.invokestatic 40, 3) := by decide +kernel
theorem dX3_read_10 : decode cX3_read 10 = .ok (.invokestatic 46, 3) := by decide +kernel
theorem dX3_read_13 : decode cX3_read 13 = .ok (.putfield 24, 3) := by decide +kernel
theorem dX3_read_16 : decode cX3_read 16 = .ok (.aload_n 0, 1) := by decide +kernel
theorem dX3_read_17 : decode cX3_read 17 = .ok (.iconst 0, 1) := by decide +kernel
theorem dX3_read_18 : decode cX3_read 18 = .ok (.putfield 20, 3) := by decide +kernel
theorem dX3_read_21 : decode cX3_read 21 = .ok (.aload_n 0, 1) := by decide +kernel
theorem dX3_read_22 : decode cX3_read 22 = .ok (.iconst 0, 1) := by decide +kernel
theorem dX3_read_23 : decode cX3_read 23 = .ok (.putfield 33, 3) := by decide +kernel
theorem dX3_read_26 : decode cX3_read 26 = .ok (.iconst 0, 1) := by decide +kernel
theorem dX3_read_27 : decode cX3_read 27 = .ok (.istore_n 2, 1) := by decide +kernel
theorem dX3_read_28 : decode cX3_read 28 = .ok (.iload_n 2, 1) := by decide +kernel
theorem dX3_read_29 : decode cX3_read 29 = .ok (.aload_n 0, 1) := by decide +kernel
theorem dX3_read_30 : decode cX3_read 30 = .ok (.getfield 17, 3) := by decide +kernel
theorem dX3_read_33 : decode cX3_read 33 = .ok (.arraylength, 1) := by decide +kernel
theorem dX3_read_34 : decode cX3_read 34 = .ok (.if_icmp .ge 19, 3) := by decide +kernel
theorem dX3_read_37 : decode cX3_read 37 = .ok (.aload_n 0, 1) := by decide +kernel
theorem dX3_read_38 : decode cX3_read 38 = .ok (.getfield 17, 3) := by decide +kernel
theorem dX3_read_41 : decode cX3_read 41 = .ok (.iload_n 2, 1) := by decide +kernel
theorem dX3_read_42 : decode cX3_read 42 = .ok (.iload_n 2, 1) := by decide +kernel
theorem dX3_read_43 : decode cX3_read 43 = .ok (.invokestatic 49, 3) := by decide +kernel
theorem dX3_read_46 : decode cX3_read 46 = .ok (.iastore, 1) := by decide +kernel
theorem dX3_read_47 : decode cX3_read 47 = .ok (.iinc 2 1, 3) := by decide +kernel
theorem dX3_read_50 : decode cX3_read 50 = .ok (.goto (-22), 3) := by decide +kernel
theorem dX3_read_53 : decode cX3_read 53 = .ok (.iconst 0, 1) := by decide +kernel
theorem dX3_read_54 : decode cX3_read 54 = .ok (.istore_n 2, 1) := by decide +kernel
theorem dX3_read_55 : decode cX3_read 55 = .ok (.iload_n 2, 1) := by decide +kernel
theorem dX3_read_56 : decode cX3_read 56 = .ok (.bipush 12, 2) := by decide +kernel
theorem dX3_read_58 : decode cX3_read 58 = .ok (.if_icmp .ge 34, 3) := by decide +kernel
theorem dX3_read_61 : decode cX3_read 61 = .ok (.aload_n 0, 1) := by decide +kernel
theorem dX3_read_62 : decode cX3_read 62 = .ok (.invokevirtual 53, 3) := by decide +kernel
theorem dX3_read_65 : decode cX3_read 65 = .ok (.aload_n 0, 1) := by decide +kernel
theorem dX3_read_66 : decode cX3_read 66 = .ok (.getfield 27, 3) := by decide +kernel
theorem dX3_read_69 : decode cX3_read 69 = .ok (.ifCond .ne 5, 3) := by decide +kernel
theorem dX3_read_72 : decode cX3_read 72 = .ok (.iconst (-1), 1) := by decide +kernel
theorem dX3_read_73 : decode cX3_read 73 = .ok (.ireturn, 1) := by decide +kernel
theorem dX3_read_74 : decode cX3_read 74 = .ok (.aload_n 0, 1) := by decide +kernel
theorem dX3_read_75 : decode cX3_read 75 = .ok (.invokevirtual 56, 3) := by decide +kernel
theorem dX3_read_78 : decode cX3_read 78 = .ok (.ifCond .ne 8, 3) := by decide +kernel
theorem dX3_read_81 : decode cX3_read 81 = .ok (.aload_n 0, 1) := by decide +kernel
theorem dX3_read_82 : decode cX3_read 82 = .ok (.getfield 30, 3) := by decide +kernel
theorem dX3_read_85 : decode cX3_read 85 = .ok (.ireturn, 1) := by decide +kernel
theorem dX3_read_86 : decode cX3_read 86 = .ok (.iinc 2 1, 3) := by decide +kernel
theorem dX3_read_89 : decode cX3_read 89 = .ok (.goto (-34), 3) := by decide +kernel
theorem dX3_read_92 : decode cX3_read 92 = .ok (.aload_n 0, 1) := by decide +kernel
theorem dX3_read_93 : decode cX3_read 93 = .ok (.invokevirtual 53, 3) := by decide +kernel
theorem dX3_read_96 : decode cX3_read 96 = .ok (.aload_n 0, 1) := by decide +kernel
theorem dX3_read_97 : decode cX3_read 97 = .ok (.getfield 27, 3) := by decide +kernel
theorem dX3_read_100 : decode cX3_read 100 = .ok (.ifCond .ne 7, 3) := by decide +kernel
theorem dX3_read_103 : decode cX3_read 103 = .ok (.iconst (-1), 1) := by decide +kernel
theorem dX3_read_104 : decode cX3_read 104 = .ok (.goto 7, 3) := by decide +kernel
theorem dX3_read_107 : decode cX3_read 107 = .ok (.aload_n 0, 1) := by decide +kernel
theorem dX3_read_108 : decode cX3_read 108 = .ok (.getfield 30, 3) := by decide +kernel
theorem dX3_read_111 : decode cX3_read 111 = .ok (.ireturn, 1) := by decide +kernel
set_option maxRecDepth 20000 in
theorem ggX3_readStatement_X3_keyword : GoodIn wsX3_readStatement wsX3_keyword := goodIn_r _ [6, 7, 8, 9, 5, 10, 1, 11, 12, 13, 14, 15, 16, 17, 18, 19, 20, 21, 22, 23, 24, 25, 26, 27, 28, 29, 30, 31, 32, 33, 34, 35, 36, 37, 38, 39, 40, 41, 42, 43, 44, 45, 46, 47, 48, 49, 50, 51, 52, 53, 54, 55, 56, 57, 58, 59, 60, 61, 62, 82, 83, 84, 85, 86, 87, 88] (by decide +kernel) (by decide +kernel)
set_option maxRecDepth 20000 in
theorem gX3_readStatement_X3_keyword : GoodIn wsX3_readStatement (wsV RX3 60 RX3 yX3_keyword wsX3_keyword) := goodIn_app (goodIn_of _ (by decide +kernel)) ggX3_readStatement_X3_keyword
set_option maxRecDepth 20000 in
theorem ggX3_readStatement_X3_readNumber : GoodIn wsX3_readStatement wsX3_readNumber := goodIn_r _ [66, 1, 11, 12, 67, 13, 68, 69, 70, 5, 71, 72, 73, 74, 75, 76, 77, 78, 79, 80, 81, 82, 83, 84, 85, 86, 87, 88] (by decide +kernel) (by decide +kernel)
set_option maxRecDepth 20000 in
theorem gX3_readStatement_X3_readNumber : GoodIn wsX3_readStatement (wsV RX3 64 RX3 yX3_readNumber wsX3_readNumber) := goodIn_app (goodIn_of _ (by decide +kernel)) ggX3_readStatement_X3_readNumber
set_option maxRecDepth 20000 in
theorem ggX3_readStatement_X3_scan : GoodIn wsX3_readStatement wsX3_scan := goodIn_r _ [71, 11, 12, 72, 13, 1, 73, 74, 5, 75, 76, 77, 78, 79, 80, 81, 82, 83, 84, 85, 86, 87, 88] (by decide +kernel) (by decide +kernel)
set_option maxRecDepth 20000 in
theorem gX3_readStatement_X3_scan : GoodIn wsX3_readStatement (wsV RX3 53 RX3 yX3_scan wsX3_scan) := goodIn_app (goodIn_of _ (by decide +kernel)) ggX3_readStatement_X3_scan
set_option maxRecDepth 20000 in
theorem ggX3_readStatement_X3_isWord : GoodIn wsX3_readStatement wsX3_isWord := goodIn_r _ [10, 1, 11, 12, 13, 14, 15, 16, 17, 18, 19, 20, 21, 22, 23, 24, 25, 26, 27, 28, 29, 30, 31, 32, 33, 34, 35, 36, 37, 38, 39, 40, 41, 42, 43, 44, 45, 46, 47, 48, 49, 50, 51, 52, 53, 54, 55, 56, 57, 58, 59, 60, 61, 62, 82, 83, 84, 85, 86, 87, 88] (by decide +kernel) (by decide +kernel)
set_option maxRecDepth 20000 in
theorem gX3_readStatement_X3_isWord : GoodIn wsX3_readStatement (wsV RX3 70 RX3 yX3_isWord wsX3_isWord) := goodIn_app (goodIn_of _ (by decide +kernel)) ggX3_readStatement_X3_isWord
theorem dX3_readStatement_0 : decode cX3_readStatement 0 = .ok (.aload_n 0, 1) := by decide +kernel
theorem dX3_readStatement_1 : decode cX3_readStatement 1 = .ok (.invokevirtual 60, 3) := by decide +kernel
theorem dX3_readStatement_4 : decode cX3_readStatement 4 = .ok (.istore_n 1, 1) := by decide +kernel
theorem dX3_readStatement_5 : decode cX3_readStatement 5 = .ok (.iload_n 1, 1) := by decide +kernel
theorem dX3_readStatement_6 : decode cX3_readStatement 6 = .ok (.iconst (-1), 1) := by decide +kernel
theorem dX3_readStatement_7 : decode cX3_readStatement 7 = .ok (.if_icmp .eq 11, 3) := by decide +kernel
theorem dX3_readStatement_10 : decode cX3_readStatement 10 = .ok (.aload_n 0, 1) := by decide +kernel
theorem dX3_readStatement_11 : decode cX3_readStatement 11 = .ok (.iload_n 1, 1) := by decide +kernel
theorem dX3_readStatement_12 : decode cX3_readStatement 12 = .ok (.invokevirtual 64, 3) := by decide +kernel
theorem dX3_readStatement_15 : decode cX3_readStatement 15 = .ok (.ifCond .ne 5, 3) := by decide +kernel
theorem dX3_readStatement_18 : decode cX3_readStatement 18 = .ok (.iconst 0, 1) := by decide +kernel
theorem dX3_readStatement_19 : decode cX3_readStatement 19 = .ok (.ireturn, 1) := by decide +kernel
theorem dX3_readStatement_20 : decode cX3_readStatement 20 = .ok (.iload_n 1, 1) := by decide +kernel
theorem dX3_readStatement_21 : decode cX3_readStatement 21 = .ok (.ifCond .ne 26, 3) := by decide +kernel
theorem dX3_readStatement_24 : decode cX3_readStatement 24 = .ok (.aload_n 0, 1) := by decide +kernel
theorem dX3_readStatement_25 : decode cX3_readStatement 25 = .ok (.invokevirtual 53, 3) := by decide +kernel
theorem dX3_readStatement_28 : decode cX3_readStatement 28 = .ok (.aload_n 0, 1) := by decide +kernel
theorem dX3_readStatement_29 : decode cX3_readStatement 29 = .ok (.ldc 68, 2) := by decide +kernel
theorem dX3_readStatement_31 : decode cX3_readStatement 31 = .ok (.invokevirtual 70, 3) := by decide +kernel
theorem dX3_readStatement_34 : decode cX3_readStatement 34 = .ok (.ifCond .eq 11, 3) := by decide +kernel
theorem dX3_readStatement_37 : decode cX3_readStatement 37 = .ok (.aload_n 0, 1) := by decide +kernel
theorem dX3_readStatement_38 : decode cX3_readStatement 38 = .ok (.iconst 1, 1) := by decide +kernel
theorem dX3_readStatement_39 : decode cX3_readStatement 39 = .ok (.invokevirtual 64, 3) := by decide +kernel
theorem dX3_readStatement_42 : decode cX3_readStatement 42 = .ok (.ifCond .ne 5, 3) := by decide +kernel
theorem dX3_readStatement_45 : decode cX3_readStatement 45 = .ok (.iconst 0, 1) := by decide +kernel
theorem dX3_readStatement_46 : decode cX3_readStatement 46 = .ok (.ireturn, 1) := by decide +kernel
theorem dX3_readStatement_47 : decode cX3_readStatement 47 = .ok (.aload_n 0, 1) := by decide +kernel
theorem dX3_readStatement_48 : decode cX3_readStatement 48 = .ok (.invokevirtual 53, 3) := by decide +kernel
theorem dX3_readStatement_51 : decode cX3_readStatement 51 = .ok (.aload_n 0, 1) := by decide +kernel
theorem dX3_readStatement_52 : decode cX3_readStatement 52 = .ok (.getfield 27, 3) := by decide +kernel
theorem dX3_readStatement_55 : decode cX3_readStatement 55 = .ok (.iconst 3, 1) := by decide +kernel
theorem dX3_readStatement_56 : decode cX3_readStatement 56 = .ok (.if_icmp .ne 7, 3) := by decide +kernel
theorem dX3_readStatement_59 : decode cX3_readStatement 59 = .ok (.iconst 1, 1) := by decide +kernel
theorem dX3_readStatement_60 : decode cX3_readStatement 60 = .ok (.goto 4, 3) := by decide +kernel
theorem dX3_readStatement_63 : decode cX3_readStatement 63 = .ok (.iconst 0, 1) := by decide +kernel
theorem dX3_readStatement_64 : decode cX3_readStatement 64 = .ok (.ireturn, 1) := by decide +kernel
set_option maxRecDepth 20000 in
theorem ggX3_readNumber_X3_scan : GoodIn wsX3_readNumber wsX3_scan := goodIn_r _ [10, 2, 3, 11, 5, 1, 12, 13, 9, 14, 15, 16, 17, 18, 19, 20, 21, 22, 23, 24, 25, 26, 27] (by decide +kernel) (by decide +kernel)
set_option maxRecDepth 20000 in
theorem gX3_readNumber_X3_scan : GoodIn wsX3_readNumber (wsV RX3 53 RX3 yX3_scan wsX3_scan) := goodIn_app (goodIn_of _ (by decide +kernel)) ggX3_readNumber_X3_scan
set_option maxRecDepth 20000 in
theorem ggX3_readNumber_X7_within : GoodIn wsX3_readNumber wsX7_within := goodIn_r _ [20] (by decide +kernel) (by decide +kernel)
set_option maxRecDepth 20000 in
theorem gX3_readNumber_X7_within_n36 : GoodIn wsX3_readNumber (wsX7_within) := ggX3_readNumber_X7_within
theorem dX3_readNumber_0 : decode cX3_readNumber 0 = .ok (.aload_n 0, 1) := by decide +kernel
theorem dX3_readNumber_1 : decode cX3_readNumber 1 = .ok (.invokevirtual 53, 3) := by decide +kernel
theorem dX3_readNumber_4 : decode cX3_readNumber 4 = .ok (.aload_n 0, 1) := by decide +kernel
theorem dX3_readNumber_5 : decode cX3_readNumber 5 = .ok (.getfield 27, 3) := by decide +kernel
theorem dX3_readNumber_8 : decode cX3_readNumber 8 = .ok (.iconst 2, 1) := by decide +kernel
theorem dX3_readNumber_9 : decode cX3_readNumber 9 = .ok (.if_icmp .ne 31, 3) := by decide +kernel
theorem dX3_readNumber_12 : decode cX3_readNumber 12 = .ok (.aload_n 0, 1) := by decide +kernel
theorem dX3_readNumber_13 : decode cX3_readNumber 13 = .ok (.getfield 33, 3) := by decide +kernel
theorem dX3_readNumber_16 : decode cX3_readNumber 16 = .ok (.aload_n 0, 1) := by decide +kernel
theorem dX3_readNumber_17 : decode cX3_readNumber 17 = .ok (.getfield 30, 3) := by decide +kernel
theorem dX3_readNumber_20 : decode cX3_readNumber 20 = .ok (.isub, 1) := by decide +kernel
theorem dX3_readNumber_21 : decode cX3_readNumber 21 = .ok (.iconst 4, 1) := by decide +kernel
theorem dX3_readNumber_22 : decode cX3_readNumber 22 = .ok (.if_icmp .gt 18, 3) := by decide +kernel
theorem dX3_readNumber_25 : decode cX3_readNumber 25 = .ok (.iload_n 1, 1) := by decide +kernel
theorem dX3_readNumber_26 : decode cX3_readNumber 26 = .ok (.iconst 0, 1) := by decide +kernel
theorem dX3_readNumber_27 : decode cX3_readNumber 27 = .ok (.aload_n 0, 1) := by decide +kernel
theorem dX3_readNumber_28 : decode cX3_readNumber 28 = .ok (.getfield 17, 3) := by decide +kernel
theorem dX3_readNumber_31 : decode cX3_readNumber 31 = .ok (.arraylength, 1) := by decide +kernel
theorem dX3_readNumber_32 : decode cX3_readNumber 32 = .ok (.iconst 1, 1) := by decide +kernel
theorem dX3_readNumber_33 : decode cX3_readNumber 33 = .ok (.isub, 1) := by decide +kernel
theorem dX3_readNumber_34 : decode cX3_readNumber 34 = .ok (.invokestatic 36, 3) := by decide +kernel
theorem dX3_readNumber_37 : decode cX3_readNumber 37 = .ok (.ifCond .ne 5, 3) := by decide +kernel
theorem dX3_readNumber_40 : decode cX3_readNumber 40 = .ok (.iconst 0, 1) := by decide +kernel
theorem dX3_readNumber_41 : decode cX3_readNumber 41 = .ok (.ireturn, 1) := by decide +kernel
theorem dX3_readNumber_42 : decode cX3_readNumber 42 = .ok (.iconst 0, 1) := by decide +kernel
theorem dX3_readNumber_43 : decode cX3_readNumber 43 = .ok (.istore_n 2, 1) := by decide +kernel
theorem dX3_readNumber_44 : decode cX3_readNumber 44 = .ok (.aload_n 0, 1) := by decide +kernel
theorem dX3_readNumber_45 : decode cX3_readNumber 45 = .ok (.getfield 30, 3) := by decide +kernel
theorem dX3_readNumber_48 : decode cX3_readNumber 48 = .ok (.istore_n 3, 1) := by decide +kernel
theorem dX3_readNumber_49 : decode cX3_readNumber 49 = .ok (.iload_n 3, 1) := by decide +kernel
theorem dX3_readNumber_50 : decode cX3_readNumber 50 = .ok (.aload_n 0, 1) := by decide +kernel
theorem dX3_readNumber_51 : decode cX3_readNumber 51 = .ok (.getfield 33, 3) := by decide +kernel
theorem dX3_readNumber_54 : decode cX3_readNumber 54 = .ok (.if_icmp .ge 24, 3) := by decide +kernel
theorem dX3_readNumber_57 : decode cX3_readNumber 57 = .ok (.bipush 10, 2) := by decide +kernel
theorem dX3_readNumber_59 : decode cX3_readNumber 59 = .ok (.iload_n 2, 1) := by decide +kernel
theorem dX3_readNumber_60 : decode cX3_readNumber 60 = .ok (.imul, 1) := by decide +kernel
theorem dX3_readNumber_61 : decode cX3_readNumber 61 = .ok (.aload_n 0, 1) := by decide +kernel
theorem dX3_readNumber_62 : decode cX3_readNumber 62 = .ok (.getfield 11, 3) := by decide +kernel
theorem dX3_readNumber_65 : decode cX3_readNumber 65 = .ok (.iload_n 3, 1) := by decide +kernel
theorem dX3_readNumber_66 : decode cX3_readNumber 66 = .ok (.iaload, 1) := by decide +kernel
theorem dX3_readNumber_67 : decode cX3_readNumber 67 = .ok (.iadd, 1) := by decide +kernel
theorem dX3_readNumber_68 : decode cX3_readNumber 68 = .ok (.bipush 48, 2) := by decide +kernel
theorem dX3_readNumber_70 : decode cX3_readNumber 70 = .ok (.isub, 1) := by decide +kernel
theorem dX3_readNumber_71 : decode cX3_readNumber 71 = .ok (.istore_n 2, 1) := by decide +kernel
theorem dX3_readNumber_72 : decode cX3_readNumber 72 = .ok (.iinc 3 1, 3) := by decide +kernel
theorem dX3_readNumber_75 : decode cX3_readNumber 75 = .ok (.goto (-26), 3) := by decide +kernel
theorem dX3_readNumber_78 : decode cX3_readNumber 78 = .ok (.aload_n 0, 1) := by decide +kernel
theorem dX3_readNumber_79 : decode cX3_readNumber 79 = .ok (.getfield 17, 3) := by decide +kernel
theorem dX3_readNumber_82 : decode cX3_readNumber 82 = .ok (.iload_n 1, 1) := by decide +kernel
theorem dX3_readNumber_83 : decode cX3_readNumber 83 = .ok (.iload_n 2, 1) := by decide +kernel
theorem dX3_readNumber_84 : decode cX3_readNumber 84 = .ok (.iastore, 1) := by decide +kernel
theorem dX3_readNumber_85 : decode cX3_readNumber 85 = .ok (.iconst 1, 1) := by decide +kernel
theorem dX3_readNumber_86 : decode cX3_readNumber 86 = .ok (.ireturn, 1) := by decide +kernel
set_option maxRecDepth 20000 in
theorem ggX3_keyword_X3_isWord : GoodIn wsX3_keyword wsX3_isWord := goodIn_r _ [5, 6, 7, 8, 9, 10, 11, 12, 13, 14, 15, 16, 17, 18, 19, 20, 21, 22, 23, 24, 25, 26, 27, 28, 29, 30, 31, 32, 33, 34, 35, 36, 37, 38, 39, 40, 41, 42, 43, 44, 45, 46, 47, 48, 49, 50, 51, 52, 53, 54, 55, 56, 57, 58, 59, 60, 61, 62, 63, 64, 65] (by decide +kernel) (by decide +kernel)
set_option maxRecDepth 20000 in
theorem gX3_keyword_X3_isWord : GoodIn wsX3_keyword (wsV RX3 70 RX3 yX3_isWord wsX3_isWord) := goodIn_app (goodIn_of _ (by decide +kernel)) ggX3_keyword_X3_isWord
theorem dX3_keyword_0 : decode cX3_keyword 0 = .ok (.aload_n 0, 1) := by decide +kernel
theorem dX3_keyword_1 : decode cX3_keyword 1 = .ok (.ldc 74, 2) := by decide +kernel
theorem dX3_keyword_3 : decode cX3_keyword 3 = .ok (.invokevirtual 70, 3) := by decide +kernel
theorem dX3_keyword_6 : decode cX3_keyword 6 = .ok (.ifCond .eq 5, 3) := by decide +kernel
theorem dX3_keyword_9 : decode cX3_keyword 9 = .ok (.iconst 0, 1) := by decide +kernel
theorem dX3_keyword_10 : decode cX3_keyword 10 = .ok (.ireturn, 1) := by decide +kernel
theorem dX3_keyword_11 : decode cX3_keyword 11 = .ok (.aload_n 0, 1) := by decide +kernel
theorem dX3_keyword_12 : decode cX3_keyword 12 = .ok (.ldc 76, 2) := by decide +kernel
theorem dX3_keyword_14 : decode cX3_keyword 14 = .ok (.invokevirtual 70, 3) := by decide +kernel
theorem dX3_keyword_17 : decode cX3_keyword 17 = .ok (.ifCond .eq 5, 3) := by decide +kernel
theorem dX3_keyword_20 : decode cX3_keyword 20 = .ok (.iconst 2, 1) := by decide +kernel
theorem dX3_keyword_21 : decode cX3_keyword 21 = .ok (.ireturn, 1) := by decide +kernel
theorem dX3_keyword_22 : decode cX3_keyword 22 = .ok (.aload_n 0, 1) := by decide +kernel
theorem dX3_keyword_23 : decode cX3_keyword 23 = .ok (.ldc 78, 2) := by decide +kernel
theorem dX3_keyword_25 : decode cX3_keyword 25 = .ok (.invokevirtual 70, 3) := by decide +kernel
theorem dX3_keyword_28 : decode cX3_keyword 28 = .ok (.ifCond .eq 5, 3) := by decide +kernel
theorem dX3_keyword_31 : decode cX3_keyword 31 = .ok (.iconst 3, 1) := by decide +kernel
theorem dX3_keyword_32 : decode cX3_keyword 32 = .ok (.ireturn, 1) := by decide +kernel
theorem dX3_keyword_33 : decode cX3_keyword 33 = .ok (.aload_n 0, 1) := by decide +kernel
theorem dX3_keyword_34 : decode cX3_keyword 34 = .ok (.ldc 80, 2) := by decide +kernel
theorem dX3_keyword_36 : decode cX3_keyword 36 = .ok (.invokevirtual 70, 3) := by decide +kernel
theorem dX3_keyword_39 : decode cX3_keyword 39 = .ok (.ifCond .eq 5, 3) := by decide +kernel
theorem dX3_keyword_42 : decode cX3_keyword 42 = .ok (.iconst 4, 1) := by decide +kernel
theorem dX3_keyword_43 : decode cX3_keyword 43 = .ok (.ireturn, 1) := by decide +kernel
theorem dX3_keyword_44 : decode cX3_keyword 44 = .ok (.aload_n 0, 1) := by decide +kernel
theorem dX3_keyword_45 : decode cX3_keyword 45 = .ok (.ldc 82, 2) := by decide +kernel
theorem dX3_keyword_47 : decode cX3_keyword 47 = .ok (.invokevirtual 70, 3) := by decide +kernel
theorem dX3_keyword_50 : decode cX3_keyword 50 = .ok (.ifCond .eq 5, 3) := by decide +kernel
theorem dX3_keyword_53 : decode cX3_keyword 53 = .ok (.iconst 5, 1) := by decide +kernel
theorem dX3_keyword_54 : decode cX3_keyword 54 = .ok (.ireturn, 1) := by decide +kernel
theorem dX3_keyword_55 : decode cX3_keyword 55 = .ok (.aload_n 0, 1) := by decide +kernel
theorem dX3_keyword_56 : decode cX3_keyword 56 = .ok (.ldc 84, 2) := by decide +kernel
theorem dX3_keyword_58 : decode cX3_keyword 58 = .ok (.invokevirtual 70, 3) := by decide +kernel
theorem dX3_keyword_61 : decode cX3_keyword 61 = .ok (.ifCond .eq 8, 3) := by decide +kernel
theorem dX3_keyword_64 : decode cX3_keyword 64 = .ok (.bipush 6, 2) := by decide +kernel
theorem dX3_keyword_66 : decode cX3_keyword 66 = .ok (.goto 4, 3) := by decide +kernel
theorem dX3_keyword_69 : decode cX3_keyword 69 = .ok (.iconst (-1), 1) := by decide +kernel
theorem dX3_keyword_70 : decode cX3_keyword 70 = .ok (.ireturn, 1) := by decide +kernel
set_option maxRecDepth 20000 in
theorem ggX3_isWord_J0_length_8abf5 : GoodIn wsX3_isWord wsJ0_length_8abf5 := goodIn_r _ [9, 10, 11, 12, 13, 8, 14, 15, 16] (by decide +kernel) (by decide +kernel)
set_option maxRecDepth 20000 in
theorem gX3_isWord_J0_length_8abf5 : GoodIn wsX3_isWord (wsV RX3 86 RJ0 yJ0_length_8abf5 wsJ0_length_8abf5) := goodIn_app (goodIn_of _ (by decide +kernel)) ggX3_isWord_J0_length_8abf5
set_option maxRecDepth 20000 in
theorem ggX3_isWord_J0_charAt_5068e : GoodIn wsX3_isWord wsJ0_charAt_5068e := goodIn_r _ [20, 10, 21, 22, 23, 8, 24, 15, 16, 25, 26, 27, 28, 29, 30, 31, 32, 33, 34, 35, 36, 37, 38, 39, 40, 41, 42, 43, 44, 45, 46, 47, 48, 49, 50, 51, 52, 53] (by decide +kernel) (by decide +kernel)
set_option maxRecDepth 20000 in
theorem gX3_isWord_J0_charAt_5068e : GoodIn wsX3_isWord (wsV RX3 90 RJ0 yJ0_charAt_5068e wsJ0_charAt_5068e) := goodIn_app (goodIn_of _ (by decide +kernel)) ggX3_isWord_J0_charAt_5068e
theorem dX3_isWord_0 : decode cX3_isWord 0 = .ok (.aload_n 0, 1) := by decide +kernel
theorem dX3_isWord_1 : decode cX3_isWord 1 = .ok (.getfield 27, 3) := by decide +kernel
theorem dX3_isWord_4 : decode cX3_isWord 4 = .ok (.iconst 1, 1) := by decide +kernel
theorem dX3_isWord_5 : decode cX3_isWord 5 = .ok (.if_icmp .ne 19, 3) := by decide +kernel
theorem dX3_isWord_8 : decode cX3_isWord 8 = .ok (.aload_n 0, 1) := by decide +kernel
theorem dX3_isWord_9 : decode cX3_isWord 9 = .ok (.getfield 33, 3) := by decide +kernel
theorem dX3_isWord_12 : decode cX3_isWord 12 = .ok (.aload_n 0, 1) := by decide +kernel
theorem dX3_isWord_13 : decode cX3_isWord 13 = .ok (.getfield 30, 3) := by decide +kernel
theorem dX3_isWord_16 : decode cX3_isWord 16 = .ok (.isub, 1) := by decide +kernel
theorem dX3_isWord_17 : decode cX3_isWord 17 = .ok (.aload_n 1, 1) := by decide +kernel
theorem dX3_isWord_18 : decode cX3_isWord 18 = .ok (.invokevirtual 86, 3) := by decide +kernel
theorem dX3_isWord_21 : decode cX3_isWord 21 = .ok (.if_icmp .eq 5, 3) := by decide +kernel
theorem dX3_isWord_24 : decode cX3_isWord 24 = .ok (.iconst 0, 1) := by decide +kernel
theorem dX3_isWord_25 : decode cX3_isWord 25 = .ok (.ireturn, 1) := by decide +kernel
theorem dX3_isWord_26 : decode cX3_isWord 26 = .ok (.iconst 0, 1) := by decide +kernel
theorem dX3_isWord_27 : decode cX3_isWord 27 = .ok (.istore_n 2, 1) := by decide +kernel
theorem dX3_isWord_28 : decode cX3_isWord 28 = .ok (.iload_n 2, 1) := by decide +kernel
theorem dX3_isWord_29 : decode cX3_isWord 29 = .ok (.aload_n 1, 1) := by decide +kernel
theorem dX3_isWord_30 : decode cX3_isWord 30 = .ok (.invokevirtual 86, 3) := by decide +kernel
theorem dX3_isWord_33 : decode cX3_isWord 33 = .ok (.if_icmp .ge 30, 3) := by decide +kernel
theorem dX3_isWord_36 : decode cX3_isWord 36 = .ok (.aload_n 0, 1) := by decide +kernel
theorem dX3_isWord_37 : decode cX3_isWord 37 = .ok (.getfield 11, 3) := by decide +kernel
theorem dX3_isWord_40 : decode cX3_isWord 40 = .ok (.aload_n 0, 1) := by decide +kernel
theorem dX3_isWord_41 : decode cX3_isWord 41 = .ok (.getfield 30, 3) := by decide +kernel
theorem dX3_isWord_44 : decode cX3_isWord 44 = .ok (.iload_n 2, 1) := by decide +kernel
theorem dX3_isWord_45 : decode cX3_isWord 45 = .ok (.iadd, 1) := by decide +kernel
theorem dX3_isWord_46 : decode cX3_isWord 46 = .ok (.iaload, 1) := by decide +kernel
theorem dX3_isWord_47 : decode cX3_isWord 47 = .ok (.aload_n 1, 1) := by decide +kernel
theorem dX3_isWord_48 : decode cX3_isWord 48 = .ok (.iload_n 2, 1) := by decide +kernel
theorem dX3_isWord_49 : decode cX3_isWord 49 = .ok (.invokevirtual 90, 3) := by decide +kernel
theorem dX3_isWord_52 : decode cX3_isWord 52 = .ok (.if_icmp .eq 5, 3) := by decide +kernel
theorem dX3_isWord_55 : decode cX3_isWord 55 = .ok (.iconst 0, 1) := by decide +kernel
theorem dX3_isWord_56 : decode cX3_isWord 56 = .ok (.ireturn, 1) := by decide +kernel
theorem dX3_isWord_57 : decode cX3_isWord 57 = .ok (.iinc 2 1, 3) := by decide +kernel
theorem dX3_isWord_60 : decode cX3_isWord 60 = .ok (.goto (-32), 3) := by decide +kernel
theorem dX3_isWord_63 : decode cX3_isWord 63 = .ok (.iconst 1, 1) := by decide +kernel
theorem dX3_isWord_64 : decode cX3_isWord 64 = .ok (.ireturn, 1) := by decide +kernel
set_option maxRecDepth 20000 in
theorem ggX3_scan_X3_isBlank : GoodIn wsX3_scan wsX3_isBlank := goodIn_r _ [9] (by decide +kernel) (by decide +kernel)
set_option maxRecDepth 20000 in
theorem gX3_scan_X3_isBlank : GoodIn wsX3_scan (va_wsS RX3 94 yX3_isBlank wsX3_isBlank) := goodIn_app (goodIn_of _ (by decide +kernel)) ggX3_scan_X3_isBlank
set_option maxRecDepth 20000 in
theorem ggX3_scan_X3_kindOf : GoodIn wsX3_scan wsX3_kindOf := goodIn_r _ [12, 13, 14, 15] (by decide +kernel) (by decide +kernel)
set_option maxRecDepth 20000 in
theorem gX3_scan_X3_kindOf : GoodIn wsX3_scan (va_wsS RX3 97 yX3_kindOf wsX3_kindOf) := goodIn_app (goodIn_of _ (by decide +kernel)) ggX3_scan_X3_kindOf
theorem dX3_scan_0 : decode cX3_scan 0 = .ok (.aload_n 0, 1) := by decide +kernel
theorem dX3_scan_1 : decode cX3_scan 1 = .ok (.aload_n 0, 1) := by decide +kernel
theorem dX3_scan_2 : decode cX3_scan 2 = .ok (.getfield 33, 3) := by decide +kernel
theorem dX3_scan_5 : decode cX3_scan 5 = .ok (.putfield 30, 3) := by decide +kernel
theorem dX3_scan_8 : decode cX3_scan 8 = .ok (.aload_n 0, 1) := by decide +kernel
theorem dX3_scan_9 : decode cX3_scan 9 = .ok (.getfield 30, 3) := by decide +kernel
theorem dX3_scan_12 : decode cX3_scan 12 = .ok (.aload_n 0, 1) := by decide +kernel
theorem dX3_scan_13 : decode cX3_scan 13 = .ok (.getfield 24, 3) := by decide +kernel
theorem dX3_scan_16 : decode cX3_scan 16 = .ok (.if_icmp .ge 31, 3) := by decide +kernel
theorem dX3_scan_19 : decode cX3_scan 19 = .ok (.aload_n 0, 1) := by decide +kernel
