theorem dX8_move_0 : decode cX8_move 0 = .ok (.aload_n 0, 1) := by decide +kernel
theorem dX8_move_1 : decode cX8_move 1 = .ok (.iload_n 1, 1) := by decide +kernel
theorem dX8_move_2 : decode cX8_move 2 = .ok (.invokevirtual 72, 3) := by decide +kernel
theorem dX8_move_5 : decode cX8_move 5 = .ok (.ifCond .eq 19, 3) := by decide +kernel
theorem dX8_move_8 : decode cX8_move 8 = .ok (.iload_n 2, 1) := by decide +kernel
theorem dX8_move_9 : decode cX8_move 9 = .ok (.invokestatic 76, 3) := by decide +kernel
theorem dX8_move_12 : decode cX8_move 12 = .ok (.ifCond .eq 12, 3) := by decide +kernel
theorem dX8_move_15 : decode cX8_move 15 = .ok (.iload_n 3, 1) := by decide +kernel
theorem dX8_move_16 : decode cX8_move 16 = .ok (.iload 4, 2) := by decide +kernel
theorem dX8_move_18 : decode cX8_move 18 = .ok (.invokestatic 68, 3) := by decide +kernel
theorem dX8_move_21 : decode cX8_move 21 = .ok (.ifCond .ne 5, 3) := by decide +kernel
theorem dX8_move_24 : decode cX8_move 24 = .ok (.iconst (-1), 1) := by decide +kernel
theorem dX8_move_25 : decode cX8_move 25 = .ok (.ireturn, 1) := by decide +kernel
theorem dX8_move_26 : decode cX8_move 26 = .ok (.aload_n 0, 1) := by decide +kernel
theorem dX8_move_27 : decode cX8_move 27 = .ok (.getfield 7, 3) := by decide +kernel
theorem dX8_move_30 : decode cX8_move 30 = .ok (.iconst 4, 1) := by decide +kernel
theorem dX8_move_31 : decode cX8_move 31 = .ok (.iload_n 1, 1) := by decide +kernel
theorem dX8_move_32 : decode cX8_move 32 = .ok (.imul, 1) := by decide +kernel
theorem dX8_move_33 : decode cX8_move 33 = .ok (.iconst 2, 1) := by decide +kernel
theorem dX8_move_34 : decode cX8_move 34 = .ok (.iload_n 2, 1) := by decide +kernel
theorem dX8_move_35 : decode cX8_move 35 = .ok (.imul, 1) := by decide +kernel
theorem dX8_move_36 : decode cX8_move 36 = .ok (.iadd, 1) := by decide +kernel
theorem dX8_move_37 : decode cX8_move 37 = .ok (.iload_n 3, 1) := by decide +kernel
theorem dX8_move_38 : decode cX8_move 38 = .ok (.iastore, 1) := by decide +kernel
theorem dX8_move_39 : decode cX8_move 39 = .ok (.aload_n 0, 1) := by decide +kernel
theorem dX8_move_40 : decode cX8_move 40 = .ok (.getfield 7, 3) := by decide +kernel
theorem dX8_move_43 : decode cX8_move 43 = .ok (.iconst 4, 1) := by decide +kernel
theorem dX8_move_44 : decode cX8_move 44 = .ok (.iload_n 1, 1) := by decide +kernel
theorem dX8_move_45 : decode cX8_move 45 = .ok (.imul, 1) := by decide +kernel
theorem dX8_move_46 : decode cX8_move 46 = .ok (.iconst 2, 1) := by decide +kernel
theorem dX8_move_47 : decode cX8_move 47 = .ok (.iload_n 2, 1) := by decide +kernel
theorem dX8_move_48 : decode cX8_move 48 = .ok (.imul, 1) := by decide +kernel
theorem dX8_move_49 : decode cX8_move 49 = .ok (.iadd, 1) := by decide +kernel
theorem dX8_move_50 : decode cX8_move 50 = .ok (.iconst 1, 1) := by decide +kernel
theorem dX8_move_51 : decode cX8_move 51 = .ok (.iadd, 1) := by decide +kernel
theorem dX8_move_52 : decode cX8_move 52 = .ok (.iload 4, 2) := by decide +kernel
theorem dX8_move_54 : decode cX8_move 54 = .ok (.iastore, 1) := by decide +kernel
theorem dX8_move_55 : decode cX8_move 55 = .ok (.iconst 1, 1) := by decide +kernel
theorem dX8_move_56 : decode cX8_move 56 = .ok (.ireturn, 1) := by decide +kernel
set_option maxRecDepth 20000 in
theorem ggX8_sure_X8_isPoint : GoodIn wsX8_sure wsX8_isPoint := goodIn_r _ [6, 7, 8, 9, 5, 10, 11, 12, 13, 14, 15, 16, 17, 18, 19, 20, 21, 22, 23, 24, 25, 26, 27, 28, 29, 30, 31, 32, 33, 34, 35, 36, 37, 38, 39, 40, 41, 42, 43, 44, 45, 46] (by decide +kernel) (by decide +kernel)
set_option maxRecDepth 20000 in
theorem gX8_sure_X8_isPoint : GoodIn wsX8_sure (wsV RX8 72 RX8 yX8_isPoint wsX8_isPoint) := goodIn_app (goodIn_of _ (by decide +kernel)) ggX8_sure_X8_isPoint
theorem dX8_sure_0 : decode cX8_sure 0 = .ok (.aload_n 0, 1) := by decide +kernel
theorem dX8_sure_1 : decode cX8_sure 1 = .ok (.iload_n 1, 1) := by decide +kernel
theorem dX8_sure_2 : decode cX8_sure 2 = .ok (.invokevirtual 72, 3) := by decide +kernel
theorem dX8_sure_5 : decode cX8_sure 5 = .ok (.ifCond .ne 5, 3) := by decide +kernel
theorem dX8_sure_8 : decode cX8_sure 8 = .ok (.iconst (-1), 1) := by decide +kernel
theorem dX8_sure_9 : decode cX8_sure 9 = .ok (.ireturn, 1) := by decide +kernel
theorem dX8_sure_10 : decode cX8_sure 10 = .ok (.aload_n 0, 1) := by decide +kernel
theorem dX8_sure_11 : decode cX8_sure 11 = .ok (.getfield 13, 3) := by decide +kernel
theorem dX8_sure_14 : decode cX8_sure 14 = .ok (.iload_n 1, 1) := by decide +kernel
theorem dX8_sure_15 : decode cX8_sure 15 = .ok (.baload, 1) := by decide +kernel
theorem dX8_sure_16 : decode cX8_sure 16 = .ok (.iload_n 2, 1) := by decide +kernel
theorem dX8_sure_17 : decode cX8_sure 17 = .ok (.if_icmp .ne 7, 3) := by decide +kernel
theorem dX8_sure_20 : decode cX8_sure 20 = .ok (.iconst 0, 1) := by decide +kernel
theorem dX8_sure_21 : decode cX8_sure 21 = .ok (.goto 4, 3) := by decide +kernel
theorem dX8_sure_24 : decode cX8_sure 24 = .ok (.iconst 1, 1) := by decide +kernel
theorem dX8_sure_25 : decode cX8_sure 25 = .ok (.istore_n 3, 1) := by decide +kernel
theorem dX8_sure_26 : decode cX8_sure 26 = .ok (.aload_n 0, 1) := by decide +kernel
theorem dX8_sure_27 : decode cX8_sure 27 = .ok (.getfield 13, 3) := by decide +kernel
theorem dX8_sure_30 : decode cX8_sure 30 = .ok (.iload_n 1, 1) := by decide +kernel
theorem dX8_sure_31 : decode cX8_sure 31 = .ok (.iload_n 2, 1) := by decide +kernel
theorem dX8_sure_32 : decode cX8_sure 32 = .ok (.bastore, 1) := by decide +kernel
theorem dX8_sure_33 : decode cX8_sure 33 = .ok (.iload_n 3, 1) := by decide +kernel
theorem dX8_sure_34 : decode cX8_sure 34 = .ok (.ireturn, 1) := by decide +kernel
set_option maxRecDepth 20000 in
theorem ggX8_put_X8_isPoint : GoodIn wsX8_put wsX8_isPoint := goodIn_r _ [6, 7, 8, 9, 5, 10, 11, 12, 13, 14, 15, 16, 17, 18, 19, 20, 21, 22, 23, 24, 25, 26, 27, 28, 29, 30, 31, 32, 33, 34, 35, 36, 37, 38, 39, 40, 41, 42, 43, 44, 45, 46] (by decide +kernel) (by decide +kernel)
set_option maxRecDepth 20000 in
theorem gX8_put_X8_isPoint : GoodIn wsX8_put (wsV RX8 72 RX8 yX8_isPoint wsX8_isPoint) := goodIn_app (goodIn_of _ (by decide +kernel)) ggX8_put_X8_isPoint
theorem dX8_put_0 : decode cX8_put 0 = .ok (.aload_n 0, 1) := by decide +kernel
theorem dX8_put_1 : decode cX8_put 1 = .ok (.iload_n 1, 1) := by decide +kernel
theorem dX8_put_2 : decode cX8_put 2 = .ok (.invokevirtual 72, 3) := by decide +kernel
theorem dX8_put_5 : decode cX8_put 5 = .ok (.ifCond .ne 5, 3) := by decide +kernel
theorem dX8_put_8 : decode cX8_put 8 = .ok (.iconst (-1), 1) := by decide +kernel
theorem dX8_put_9 : decode cX8_put 9 = .ok (.ireturn, 1) := by decide +kernel
theorem dX8_put_10 : decode cX8_put 10 = .ok (.aload_n 0, 1) := by decide +kernel
theorem dX8_put_11 : decode cX8_put 11 = .ok (.getfield 17, 3) := by decide +kernel
theorem dX8_put_14 : decode cX8_put 14 = .ok (.iload_n 1, 1) := by decide +kernel
theorem dX8_put_15 : decode cX8_put 15 = .ok (.baload, 1) := by decide +kernel
theorem dX8_put_16 : decode cX8_put 16 = .ok (.iload_n 2, 1) := by decide +kernel
theorem dX8_put_17 : decode cX8_put 17 = .ok (.if_icmp .ne 7, 3) := by decide +kernel
theorem dX8_put_20 : decode cX8_put 20 = .ok (.iconst 0, 1) := by decide +kernel
theorem dX8_put_21 : decode cX8_put 21 = .ok (.goto 4, 3) := by decide +kernel
theorem dX8_put_24 : decode cX8_put 24 = .ok (.iconst 1, 1) := by decide +kernel
theorem dX8_put_25 : decode cX8_put 25 = .ok (.istore_n 3, 1) := by decide +kernel
theorem dX8_put_26 : decode cX8_put 26 = .ok (.aload_n 0, 1) := by decide +kernel
theorem dX8_put_27 : decode cX8_put 27 = .ok (.getfield 17, 3) := by decide +kernel
theorem dX8_put_30 : decode cX8_put 30 = .ok (.iload_n 1, 1) := by decide +kernel
theorem dX8_put_31 : decode cX8_put 31 = .ok (.iload_n 2, 1) := by decide +kernel
theorem dX8_put_32 : decode cX8_put 32 = .ok (.bastore, 1) := by decide +kernel
theorem dX8_put_33 : decode cX8_put 33 = .ok (.iload_n 3, 1) := by decide +kernel
theorem dX8_put_34 : decode cX8_put 34 = .ok (.ireturn, 1) := by decide +kernel
set_option maxRecDepth 20000 in
theorem ggX8_of_X8_isPoint : GoodIn wsX8_of wsX8_isPoint := goodIn_r _ [8, 9, 10, 11, 7, 12, 13, 14, 15, 16, 17, 18, 19, 20, 21, 22, 23, 24, 25, 26, 27, 28, 29, 30, 31, 32, 33, 34, 35, 36, 37, 38, 39, 40, 41, 42, 43, 44, 45, 46, 47, 48] (by decide +kernel) (by decide +kernel)
set_option maxRecDepth 20000 in
theorem gX8_of_X8_isPoint : GoodIn wsX8_of (wsV RX8 72 RX8 yX8_isPoint wsX8_isPoint) := goodIn_app (goodIn_of _ (by decide +kernel)) ggX8_of_X8_isPoint
set_option maxRecDepth 20000 in
theorem ggX8_of_X8_in : GoodIn wsX8_of wsX8_in := goodIn_r _ [12] (by decide +kernel) (by decide +kernel)
set_option maxRecDepth 20000 in
theorem gX8_of_X8_in : GoodIn wsX8_of (va_wsS RX8 61 yX8_in wsX8_in) := goodIn_app (goodIn_of _ (by decide +kernel)) ggX8_of_X8_in
theorem dX8_of_0 : decode cX8_of 0 = .ok (.aload_n 0, 1) := by decide +kernel
theorem dX8_of_1 : decode cX8_of 1 = .ok (.iload_n 1, 1) := by decide +kernel
theorem dX8_of_2 : decode cX8_of 2 = .ok (.invokevirtual 72, 3) := by decide +kernel
theorem dX8_of_5 : decode cX8_of 5 = .ok (.ifCond .eq 12, 3) := by decide +kernel
theorem dX8_of_8 : decode cX8_of 8 = .ok (.iload_n 2, 1) := by decide +kernel
theorem dX8_of_9 : decode cX8_of 9 = .ok (.iconst 0, 1) := by decide +kernel
theorem dX8_of_10 : decode cX8_of 10 = .ok (.iconst 5, 1) := by decide +kernel
theorem dX8_of_11 : decode cX8_of 11 = .ok (.invokestatic 61, 3) := by decide +kernel
theorem dX8_of_14 : decode cX8_of 14 = .ok (.ifCond .ne 7, 3) := by decide +kernel
theorem dX8_of_17 : decode cX8_of 17 = .ok (.sipush (-2000), 3) := by decide +kernel
theorem dX8_of_20 : decode cX8_of 20 = .ok (.ireturn, 1) := by decide +kernel
theorem dX8_of_21 : decode cX8_of 21 = .ok (.iload_n 2, 1) := by decide +kernel
theorem dX8_of_22 : decode cX8_of 22 = .ok (.iconst 4, 1) := by decide +kernel
theorem dX8_of_23 : decode cX8_of 23 = .ok (.if_icmp .ge 14, 3) := by decide +kernel
theorem dX8_of_26 : decode cX8_of 26 = .ok (.aload_n 0, 1) := by decide +kernel
theorem dX8_of_27 : decode cX8_of 27 = .ok (.getfield 7, 3) := by decide +kernel
theorem dX8_of_30 : decode cX8_of 30 = .ok (.iconst 4, 1) := by decide +kernel
theorem dX8_of_31 : decode cX8_of 31 = .ok (.iload_n 1, 1) := by decide +kernel
theorem dX8_of_32 : decode cX8_of 32 = .ok (.imul, 1) := by decide +kernel
theorem dX8_of_33 : decode cX8_of 33 = .ok (.iload_n 2, 1) := by decide +kernel
theorem dX8_of_34 : decode cX8_of 34 = .ok (.iadd, 1) := by decide +kernel
theorem dX8_of_35 : decode cX8_of 35 = .ok (.iaload, 1) := by decide +kernel
theorem dX8_of_36 : decode cX8_of 36 = .ok (.ireturn, 1) := by decide +kernel
theorem dX8_of_37 : decode cX8_of 37 = .ok (.iload_n 2, 1) := by decide +kernel
theorem dX8_of_38 : decode cX8_of 38 = .ok (.iconst 4, 1) := by decide +kernel
theorem dX8_of_39 : decode cX8_of 39 = .ok (.if_icmp .ne 20, 3) := by decide +kernel
theorem dX8_of_42 : decode cX8_of 42 = .ok (.aload_n 0, 1) := by decide +kernel
theorem dX8_of_43 : decode cX8_of 43 = .ok (.getfield 13, 3) := by decide +kernel
theorem dX8_of_46 : decode cX8_of 46 = .ok (.iload_n 1, 1) := by decide +kernel
theorem dX8_of_47 : decode cX8_of 47 = .ok (.baload, 1) := by decide +kernel
theorem dX8_of_48 : decode cX8_of 48 = .ok (.ifCond .eq 7, 3) := by decide +kernel
theorem dX8_of_51 : decode cX8_of 51 = .ok (.iconst 1, 1) := by decide +kernel
theorem dX8_of_52 : decode cX8_of 52 = .ok (.goto 21, 3) := by decide +kernel
theorem dX8_of_55 : decode cX8_of 55 = .ok (.iconst 0, 1) := by decide +kernel
theorem dX8_of_56 : decode cX8_of 56 = .ok (.goto 17, 3) := by decide +kernel
theorem dX8_of_59 : decode cX8_of 59 = .ok (.aload_n 0, 1) := by decide +kernel
theorem dX8_of_60 : decode cX8_of 60 = .ok (.getfield 17, 3) := by decide +kernel
theorem dX8_of_63 : decode cX8_of 63 = .ok (.iload_n 1, 1) := by decide +kernel
theorem dX8_of_64 : decode cX8_of 64 = .ok (.baload, 1) := by decide +kernel
theorem dX8_of_65 : decode cX8_of 65 = .ok (.ifCond .eq 7, 3) := by decide +kernel
theorem dX8_of_68 : decode cX8_of 68 = .ok (.iconst 1, 1) := by decide +kernel
theorem dX8_of_69 : decode cX8_of 69 = .ok (.goto 4, 3) := by decide +kernel
theorem dX8_of_72 : decode cX8_of 72 = .ok (.iconst 0, 1) := by decide +kernel
theorem dX8_of_73 : decode cX8_of 73 = .ok (.ireturn, 1) := by decide +kernel
theorem dX8_counting_0 : decode cX8_counting 0 = .ok (.iconst 0, 1) := by decide +kernel
theorem dX8_counting_1 : decode cX8_counting 1 = .ok (.istore_n 1, 1) := by decide +kernel
theorem dX8_counting_2 : decode cX8_counting 2 = .ok (.iconst 0, 1) := by decide +kernel
theorem dX8_counting_3 : decode cX8_counting 3 = .ok (.istore_n 2, 1) := by decide +kernel
theorem dX8_counting_4 : decode cX8_counting 4 = .ok (.iload_n 2, 1) := by decide +kernel
theorem dX8_counting_5 : decode cX8_counting 5 = .ok (.aload_n 0, 1) := by decide +kernel
theorem dX8_counting_6 : decode cX8_counting 6 = .ok (.getfield 65, 3) := by decide +kernel
theorem dX8_counting_9 : decode cX8_counting 9 = .ok (.if_icmp .ge 37, 3) := by decide +kernel
theorem dX8_counting_12 : decode cX8_counting 12 = .ok (.iload_n 1, 1) := by decide +kernel
theorem dX8_counting_13 : decode cX8_counting 13 = .ok (.aload_n 0, 1) := by decide +kernel
theorem dX8_counting_14 : decode cX8_counting 14 = .ok (.getfield 13, 3) := by decide +kernel
theorem dX8_counting_17 : decode cX8_counting 17 = .ok (.iload_n 2, 1) := by decide +kernel
theorem dX8_counting_18 : decode cX8_counting 18 = .ok (.baload, 1) := by decide +kernel
theorem dX8_counting_19 : decode cX8_counting 19 = .ok (.ifCond .eq 18, 3) := by decide +kernel
theorem dX8_counting_22 : decode cX8_counting 22 = .ok (.aload_n 0, 1) := by decide +kernel
theorem dX8_counting_23 : decode cX8_counting 23 = .ok (.getfield 17, 3) := by decide +kernel
theorem dX8_counting_26 : decode cX8_counting 26 = .ok (.iload_n 2, 1) := by decide +kernel
theorem dX8_counting_27 : decode cX8_counting 27 = .ok (.baload, 1) := by decide +kernel
theorem dX8_counting_28 : decode cX8_counting 28 = .ok (.ifCond .eq 9, 3) := by decide +kernel
theorem dX8_counting_31 : decode cX8_counting 31 = .ok (.iconst 1, 1) := by decide +kernel
theorem dX8_counting_32 : decode cX8_counting 32 = .ok (.iload_n 2, 1) := by decide +kernel
theorem dX8_counting_33 : decode cX8_counting 33 = .ok (.ishl, 1) := by decide +kernel
theorem dX8_counting_34 : decode cX8_counting 34 = .ok (.goto 4, 3) := by decide +kernel
theorem dX8_counting_37 : decode cX8_counting 37 = .ok (.iconst 0, 1) := by decide +kernel
theorem dX8_counting_38 : decode cX8_counting 38 = .ok (.ior, 1) := by decide +kernel
theorem dX8_counting_39 : decode cX8_counting 39 = .ok (.istore_n 1, 1) := by decide +kernel
theorem dX8_counting_40 : decode cX8_counting 40 = .ok (.iinc 2 1, 3) := by decide +kernel
theorem dX8_counting_43 : decode cX8_counting 43 = .ok (.goto (-39), 3) := by decide +kernel
theorem dX8_counting_46 : decode cX8_counting 46 = .ok (.iload_n 1, 1) := by decide +kernel
theorem dX8_counting_47 : decode cX8_counting 47 = .ok (.ireturn, 1) := by decide +kernel
theorem dX8_sum_0 : decode cX8_sum 0 = .ok (.lconst 0, 1) := by decide +kernel
theorem dX8_sum_1 : decode cX8_sum 1 = .ok (.lstore 4, 2) := by decide +kernel
theorem dX8_sum_3 : decode cX8_sum 3 = .ok (.iconst 0, 1) := by decide +kernel
theorem dX8_sum_4 : decode cX8_sum 4 = .ok (.istore 6, 2) := by decide +kernel
theorem dX8_sum_6 : decode cX8_sum 6 = .ok (.iload 6, 2) := by decide +kernel
theorem dX8_sum_8 : decode cX8_sum 8 = .ok (.aload_n 0, 1) := by decide +kernel
theorem dX8_sum_9 : decode cX8_sum 9 = .ok (.getfield 65, 3) := by decide +kernel
theorem dX8_sum_12 : decode cX8_sum 12 = .ok (.if_icmp .ge 67, 3) := by decide +kernel
theorem dX8_sum_15 : decode cX8_sum 15 = .ok (.iload_n 1, 1) := by decide +kernel
theorem dX8_sum_16 : decode cX8_sum 16 = .ok (.iload 6, 2) := by decide +kernel
theorem dX8_sum_18 : decode cX8_sum 18 = .ok (.ishr, 1) := by decide +kernel
theorem dX8_sum_19 : decode cX8_sum 19 = .ok (.iconst 1, 1) := by decide +kernel
theorem dX8_sum_20 : decode cX8_sum 20 = .ok (.iand, 1) := by decide +kernel
theorem dX8_sum_21 : decode cX8_sum 21 = .ok (.iconst 1, 1) := by decide +kernel
theorem dX8_sum_22 : decode cX8_sum 22 = .ok (.if_icmp .ne 51, 3) := by decide +kernel
theorem dX8_sum_25 : decode cX8_sum 25 = .ok (.lload 4, 2) := by decide +kernel
theorem dX8_sum_27 : decode cX8_sum 27 = .ok (.iload_n 2, 1) := by decide +kernel
theorem dX8_sum_28 : decode cX8_sum 28 = .ok (.iconst 4, 1) := by decide +kernel
theorem dX8_sum_29 : decode cX8_sum 29 = .ok (.if_icmp .ne 7, 3) := by decide +kernel
theorem dX8_sum_32 : decode cX8_sum 32 = .ok (.iconst 1, 1) := by decide +kernel
theorem dX8_sum_33 : decode cX8_sum 33 = .ok (.goto 14, 3) := by decide +kernel
theorem dX8_sum_36 : decode cX8_sum 36 = .ok (.aload_n 0, 1) := by decide +kernel
theorem dX8_sum_37 : decode cX8_sum 37 = .ok (.getfield 7, 3) := by decide +kernel
theorem dX8_sum_40 : decode cX8_sum 40 = .ok (.iconst 4, 1) := by decide +kernel
theorem dX8_sum_41 : decode cX8_sum 41 = .ok (.iload 6, 2) := by decide +kernel
theorem dX8_sum_43 : decode cX8_sum 43 = .ok (.imul, 1) := by decide +kernel
theorem dX8_sum_44 : decode cX8_sum 44 = .ok (.iload_n 2, 1) := by decide +kernel
theorem dX8_sum_45 : decode cX8_sum 45 = .ok (.iadd, 1) := by decide +kernel
theorem dX8_sum_46 : decode cX8_sum 46 = .ok (.iaload, 1) := by decide +kernel
theorem dX8_sum_47 : decode cX8_sum 47 = .ok (.i2l, 1) := by decide +kernel
theorem dX8_sum_48 : decode cX8_sum 48 = .ok (.iload_n 3, 1) := by decide +kernel
theorem dX8_sum_49 : decode cX8_sum 49 = .ok (.iconst 4, 1) := by decide +kernel
theorem dX8_sum_50 : decode cX8_sum 50 = .ok (.if_icmp .ne 7, 3) := by decide +kernel
theorem dX8_sum_53 : decode cX8_sum 53 = .ok (.iconst 1, 1) := by decide +kernel
theorem dX8_sum_54 : decode cX8_sum 54 = .ok (.goto 14, 3) := by decide +kernel
theorem dX8_sum_57 : decode cX8_sum 57 = .ok (.aload_n 0, 1) := by decide +kernel
theorem dX8_sum_58 : decode cX8_sum 58 = .ok (.getfield 7, 3) := by decide +kernel
theorem dX8_sum_61 : decode cX8_sum 61 = .ok (.iconst 4, 1) := by decide +kernel
theorem dX8_sum_62 : decode cX8_sum 62 = .ok (.iload 6, 2) := by decide +kernel
theorem dX8_sum_64 : decode cX8_sum 64 = .ok (.imul, 1) := by decide +kernel
theorem dX8_sum_65 : decode cX8_sum 65 = .ok (.iload_n 3, 1) := by decide +kernel
theorem dX8_sum_66 : decode cX8_sum 66 = .ok (.iadd, 1) := by decide +kernel
theorem dX8_sum_67 : decode cX8_sum 67 = .ok (.iaload, 1) := by decide +kernel
theorem dX8_sum_68 : decode cX8_sum 68 = .ok (.i2l, 1) := by decide +kernel
theorem dX8_sum_69 : decode cX8_sum 69 = .ok (.lmul, 1) := by decide +kernel
theorem dX8_sum_70 : decode cX8_sum 70 = .ok (.ladd, 1) := by decide +kernel
theorem dX8_sum_71 : decode cX8_sum 71 = .ok (.lstore 4, 2) := by decide +kernel
theorem dX8_sum_73 : decode cX8_sum 73 = .ok (.iinc 6 1, 3) := by decide +kernel
theorem dX8_sum_76 : decode cX8_sum 76 = .ok (.goto (-70), 3) := by decide +kernel
theorem dX8_sum_79 : decode cX8_sum 79 = .ok (.lload 4, 2) := by decide +kernel
theorem dX8_sum_81 : decode cX8_sum 81 = .ok (.lreturn, 1) := by decide +kernel
set_option maxRecDepth 20000 in
theorem ggX8_spread_X8_sum : GoodIn wsX8_spread wsX8_sum := goodIn_r _ [5, 6, 7, 8, 9, 10, 11, 12, 13, 14, 15, 16, 17, 18, 19, 20, 21, 22, 23, 24, 25, 26, 27, 28, 29, 30, 31, 32, 33, 34, 35, 36, 37, 38, 39, 40, 41, 42, 43] (by decide +kernel) (by decide +kernel)
set_option maxRecDepth 20000 in
theorem gX8_spread_X8_sum : GoodIn wsX8_spread (wsV RX8 79 RX8 yX8_sum wsX8_sum) := goodIn_app (goodIn_of _ (by decide +kernel)) ggX8_spread_X8_sum
theorem dX8_spread_0 : decode cX8_spread 0 = .ok (.aload_n 0, 1) := by decide +kernel
theorem dX8_spread_1 : decode cX8_spread 1 = .ok (.iload_n 1, 1) := by decide +kernel
theorem dX8_spread_2 : decode cX8_spread 2 = .ok (.iconst 4, 1) := by decide +kernel
theorem dX8_spread_3 : decode cX8_spread 3 = .ok (.iconst 4, 1) := by decide +kernel
theorem dX8_spread_4 : decode cX8_spread 4 = .ok (.invokevirtual 79, 3) := by decide +kernel
theorem dX8_spread_7 : decode cX8_spread 7 = .ok (.aload_n 0, 1) := by decide +kernel
theorem dX8_spread_8 : decode cX8_spread 8 = .ok (.iload_n 1, 1) := by decide +kernel
theorem dX8_spread_9 : decode cX8_spread 9 = .ok (.iload_n 2, 1) := by decide +kernel
theorem dX8_spread_10 : decode cX8_spread 10 = .ok (.iload_n 3, 1) := by decide +kernel
theorem dX8_spread_11 : decode cX8_spread 11 = .ok (.invokevirtual 79, 3) := by decide +kernel
theorem dX8_spread_14 : decode cX8_spread 14 = .ok (.lmul, 1) := by decide +kernel
theorem dX8_spread_15 : decode cX8_spread 15 = .ok (.aload_n 0, 1) := by decide +kernel
theorem dX8_spread_16 : decode cX8_spread 16 = .ok (.iload_n 1, 1) := by decide +kernel
theorem dX8_spread_17 : decode cX8_spread 17 = .ok (.iload_n 2, 1) := by decide +kernel
theorem dX8_spread_18 : decode cX8_spread 18 = .ok (.iconst 4, 1) := by decide +kernel
theorem dX8_spread_19 : decode cX8_spread 19 = .ok (.invokevirtual 79, 3) := by decide +kernel
theorem dX8_spread_22 : decode cX8_spread 22 = .ok (.aload_n 0, 1) := by decide +kernel
theorem dX8_spread_23 : decode cX8_spread 23 = .ok (.iload_n 1, 1) := by decide +kernel
theorem dX8_spread_24 : decode cX8_spread 24 = .ok (.iload_n 3, 1) := by decide +kernel
theorem dX8_spread_25 : decode cX8_spread 25 = .ok (.iconst 4, 1) := by decide +kernel
theorem dX8_spread_26 : decode cX8_spread 26 = .ok (.invokevirtual 79, 3) := by decide +kernel
theorem dX8_spread_29 : decode cX8_spread 29 = .ok (.lmul, 1) := by decide +kernel
theorem dX8_spread_30 : decode cX8_spread 30 = .ok (.lsub, 1) := by decide +kernel
theorem dX8_spread_31 : decode cX8_spread 31 = .ok (.lreturn, 1) := by decide +kernel
set_option maxRecDepth 20000 in
theorem ggX8_shift_X8_sum : GoodIn wsX8_shift wsX8_sum := goodIn_r _ [20, 21, 22, 27, 28, 29, 30, 31, 32, 33, 34, 35, 36, 37, 38, 39, 40, 41, 42, 43, 44, 45, 46, 47, 48, 49, 50, 51, 52, 53, 54, 55, 56, 57, 58, 59, 60, 61, 62] (by decide +kernel) (by decide +kernel)
set_option maxRecDepth 20000 in
theorem gX8_shift_X8_sum : GoodIn wsX8_shift (wsV RX8 79 RX8 yX8_sum wsX8_sum) := goodIn_app (goodIn_of _ (by decide +kernel)) ggX8_shift_X8_sum
set_option maxRecDepth 20000 in
theorem ggX8_shift_X8_spread : GoodIn wsX8_shift wsX8_spread := goodIn_r _ [26, 16, 17, 18, 19, 20, 21, 22, 27, 28, 29, 30, 31, 32, 33, 34, 35, 36, 37, 38, 39, 40, 41, 42, 43, 44, 45, 46, 47, 48, 49, 50, 51, 52, 53, 54, 55, 56, 57, 58, 59, 60, 61, 62] (by decide +kernel) (by decide +kernel)
set_option maxRecDepth 20000 in
theorem gX8_shift_X8_spread : GoodIn wsX8_shift (wsV RX8 120 RX8 yX8_spread wsX8_spread) := goodIn_app (goodIn_of _ (by decide +kernel)) ggX8_shift_X8_spread
theorem dX8_shift_0 : decode cX8_shift 0 = .ok (.aload_n 0, 1) := by decide +kernel
theorem dX8_shift_1 : decode cX8_shift 1 = .ok (.iload_n 1, 1) := by decide +kernel
theorem dX8_shift_2 : decode cX8_shift 2 = .ok (.iconst 4, 1) := by decide +kernel
theorem dX8_shift_3 : decode cX8_shift 3 = .ok (.iconst 4, 1) := by decide +kernel
theorem dX8_shift_4 : decode cX8_shift 4 = .ok (.invokevirtual 79, 3) := by decide +kernel
theorem dX8_shift_7 : decode cX8_shift 7 = .ok (.lstore_n 2, 1) := by decide +kernel
theorem dX8_shift_8 : decode cX8_shift 8 = .ok (.aload_n 0, 1) := by decide +kernel
theorem dX8_shift_9 : decode cX8_shift 9 = .ok (.lload_n 2, 1) := by decide +kernel
theorem dX8_shift_10 : decode cX8_shift 10 = .ok (.putfield 83, 3) := by decide +kernel
theorem dX8_shift_13 : decode cX8_shift 13 = .ok (.aload_n 0, 1) := by decide +kernel
theorem dX8_shift_14 : decode cX8_shift 14 = .ok (.lconst 0, 1) := by decide +kernel
theorem dX8_shift_15 : decode cX8_shift 15 = .ok (.putfield 87, 3) := by decide +kernel
theorem dX8_shift_18 : decode cX8_shift 18 = .ok (.aload_n 0, 1) := by decide +kernel
theorem dX8_shift_19 : decode cX8_shift 19 = .ok (.aload_n 0, 1) := by decide +kernel
theorem dX8_shift_20 : decode cX8_shift 20 = .ok (.iload_n 1, 1) := by decide +kernel
theorem dX8_shift_21 : decode cX8_shift 21 = .ok (.iconst 2, 1) := by decide +kernel
theorem dX8_shift_22 : decode cX8_shift 22 = .ok (.iconst 4, 1) := by decide +kernel
theorem dX8_shift_23 : decode cX8_shift 23 = .ok (.invokevirtual 79, 3) := by decide +kernel
theorem dX8_shift_26 : decode cX8_shift 26 = .ok (.aload_n 0, 1) := by decide +kernel
theorem dX8_shift_27 : decode cX8_shift 27 = .ok (.iload_n 1, 1) := by decide +kernel
theorem dX8_shift_28 : decode cX8_shift 28 = .ok (.iconst 0, 1) := by decide +kernel
theorem dX8_shift_29 : decode cX8_shift 29 = .ok (.iconst 4, 1) := by decide +kernel
theorem dX8_shift_30 : decode cX8_shift 30 = .ok (.invokevirtual 79, 3) := by decide +kernel
theorem dX8_shift_33 : decode cX8_shift 33 = .ok (.lsub, 1) := by decide +kernel
theorem dX8_shift_34 : decode cX8_shift 34 = .ok (.putfield 90, 3) := by decide +kernel
theorem dX8_shift_37 : decode cX8_shift 37 = .ok (.aload_n 0, 1) := by decide +kernel
theorem dX8_shift_38 : decode cX8_shift 38 = .ok (.lload_n 2, 1) := by decide +kernel
theorem dX8_shift_39 : decode cX8_shift 39 = .ok (.putfield 93, 3) := by decide +kernel
theorem dX8_shift_42 : decode cX8_shift 42 = .ok (.aload_n 0, 1) := by decide +kernel
theorem dX8_shift_43 : decode cX8_shift 43 = .ok (.lconst 0, 1) := by decide +kernel
theorem dX8_shift_44 : decode cX8_shift 44 = .ok (.putfield 96, 3) := by decide +kernel
theorem dX8_shift_47 : decode cX8_shift 47 = .ok (.aload_n 0, 1) := by decide +kernel
theorem dX8_shift_48 : decode cX8_shift 48 = .ok (.lload_n 2, 1) := by decide +kernel
theorem dX8_shift_49 : decode cX8_shift 49 = .ok (.putfield 99, 3) := by decide +kernel
theorem dX8_shift_52 : decode cX8_shift 52 = .ok (.aload_n 0, 1) := by decide +kernel
theorem dX8_shift_53 : decode cX8_shift 53 = .ok (.aload_n 0, 1) := by decide +kernel
theorem dX8_shift_54 : decode cX8_shift 54 = .ok (.iload_n 1, 1) := by decide +kernel
theorem dX8_shift_55 : decode cX8_shift 55 = .ok (.iconst 3, 1) := by decide +kernel
theorem dX8_shift_56 : decode cX8_shift 56 = .ok (.iconst 4, 1) := by decide +kernel
theorem dX8_shift_57 : decode cX8_shift 57 = .ok (.invokevirtual 79, 3) := by decide +kernel
theorem dX8_shift_60 : decode cX8_shift 60 = .ok (.aload_n 0, 1) := by decide +kernel
theorem dX8_shift_61 : decode cX8_shift 61 = .ok (.iload_n 1, 1) := by decide +kernel
theorem dX8_shift_62 : decode cX8_shift 62 = .ok (.iconst 1, 1) := by decide +kernel
theorem dX8_shift_63 : decode cX8_shift 63 = .ok (.iconst 4, 1) := by decide +kernel
theorem dX8_shift_64 : decode cX8_shift 64 = .ok (.invokevirtual 79, 3) := by decide +kernel
theorem dX8_shift_67 : decode cX8_shift 67 = .ok (.lsub, 1) := by decide +kernel
theorem dX8_shift_68 : decode cX8_shift 68 = .ok (.putfield 102, 3) := by decide +kernel
theorem dX8_shift_71 : decode cX8_shift 71 = .ok (.aload_n 0, 1) := by decide +kernel
theorem dX8_shift_72 : decode cX8_shift 72 = .ok (.lload_n 2, 1) := by decide +kernel
theorem dX8_shift_73 : decode cX8_shift 73 = .ok (.putfield 105, 3) := by decide +kernel
theorem dX8_shift_76 : decode cX8_shift 76 = .ok (.aload_n 0, 1) := by decide +kernel
theorem dX8_shift_77 : decode cX8_shift 77 = .ok (.lconst 1, 1) := by decide +kernel
theorem dX8_shift_78 : decode cX8_shift 78 = .ok (.putfield 108, 3) := by decide +kernel
theorem dX8_shift_81 : decode cX8_shift 81 = .ok (.aload_n 0, 1) := by decide +kernel
theorem dX8_shift_82 : decode cX8_shift 82 = .ok (.lconst 1, 1) := by decide +kernel
theorem dX8_shift_83 : decode cX8_shift 83 = .ok (.putfield 111, 3) := by decide +kernel
theorem dX8_shift_86 : decode cX8_shift 86 = .ok (.aload_n 0, 1) := by decide +kernel
theorem dX8_shift_87 : decode cX8_shift 87 = .ok (.lconst 0, 1) := by decide +kernel
theorem dX8_shift_88 : decode cX8_shift 88 = .ok (.putfield 114, 3) := by decide +kernel
theorem dX8_shift_91 : decode cX8_shift 91 = .ok (.aload_n 0, 1) := by decide +kernel
theorem dX8_shift_92 : decode cX8_shift 92 = .ok (.lconst 1, 1) := by decide +kernel
theorem dX8_shift_93 : decode cX8_shift 93 = .ok (.putfield 117, 3) := by decide +kernel
theorem dX8_shift_96 : decode cX8_shift 96 = .ok (.aload_n 0, 1) := by decide +kernel
theorem dX8_shift_97 : decode cX8_shift 97 = .ok (.aload_n 0, 1) := by decide +kernel
theorem dX8_shift_98 : decode cX8_shift 98 = .ok (.iload_n 1, 1) := by decide +kernel
theorem dX8_shift_99 : decode cX8_shift 99 = .ok (.iconst 0, 1) := by decide +kernel
theorem dX8_shift_100 : decode cX8_shift 100 = .ok (.iconst 0, 1) := by decide +kernel
theorem dX8_shift_101 : decode cX8_shift 101 = .ok (.invokevirtual 120, 3) := by decide +kernel
theorem dX8_shift_104 : decode cX8_shift 104 = .ok (.ldc2_w 123, 3) := by decide +kernel
theorem dX8_shift_107 : decode cX8_shift 107 = .ok (.aload_n 0, 1) := by decide +kernel
theorem dX8_shift_108 : decode cX8_shift 108 = .ok (.iload_n 1, 1) := by decide +kernel
theorem dX8_shift_109 : decode cX8_shift 109 = .ok (.iconst 0, 1) := by decide +kernel
theorem dX8_shift_110 : decode cX8_shift 110 = .ok (.iconst 2, 1) := by decide +kernel
theorem dX8_shift_111 : decode cX8_shift 111 = .ok (.invokevirtual 120, 3) := by decide +kernel
theorem dX8_shift_114 : decode cX8_shift 114 = .ok (.lmul, 1) := by decide +kernel
theorem dX8_shift_115 : decode cX8_shift 115 = .ok (.lsub, 1) := by decide +kernel
theorem dX8_shift_116 : decode cX8_shift 116 = .ok (.aload_n 0, 1) := by decide +kernel
theorem dX8_shift_117 : decode cX8_shift 117 = .ok (.iload_n 1, 1) := by decide +kernel
theorem dX8_shift_118 : decode cX8_shift 118 = .ok (.iconst 2, 1) := by decide +kernel
theorem dX8_shift_119 : decode cX8_shift 119 = .ok (.iconst 2, 1) := by decide +kernel
theorem dX8_shift_120 : decode cX8_shift 120 = .ok (.invokevirtual 120, 3) := by decide +kernel
theorem dX8_shift_123 : decode cX8_shift 123 = .ok (.ladd, 1) := by decide +kernel
theorem dX8_shift_124 : decode cX8_shift 124 = .ok (.aload_n 0, 1) := by decide +kernel
theorem dX8_shift_125 : decode cX8_shift 125 = .ok (.iload_n 1, 1) := by decide +kernel
theorem dX8_shift_126 : decode cX8_shift 126 = .ok (.iconst 1, 1) := by decide +kernel
theorem dX8_shift_127 : decode cX8_shift 127 = .ok (.iconst 1, 1) := by decide +kernel
theorem dX8_shift_128 : decode cX8_shift 128 = .ok (.invokevirtual 120, 3) := by decide +kernel
theorem dX8_shift_131 : decode cX8_shift 131 = .ok (.ladd, 1) := by decide +kernel
theorem dX8_shift_132 : decode cX8_shift 132 = .ok (.ldc2_w 123, 3) := by decide +kernel
theorem dX8_shift_135 : decode cX8_shift 135 = .ok (.aload_n 0, 1) := by decide +kernel
theorem dX8_shift_136 : decode cX8_shift 136 = .ok (.iload_n 1, 1) := by decide +kernel
theorem dX8_shift_137 : decode cX8_shift 137 = .ok (.iconst 1, 1) := by decide +kernel
theorem dX8_shift_138 : decode cX8_shift 138 = .ok (.iconst 3, 1) := by decide +kernel
theorem dX8_shift_139 : decode cX8_shift 139 = .ok (.invokevirtual 120, 3) := by decide +kernel
theorem dX8_shift_142 : decode cX8_shift 142 = .ok (.lmul, 1) := by decide +kernel
theorem dX8_shift_143 : decode cX8_shift 143 = .ok (.lsub, 1) := by decide +kernel
theorem dX8_shift_144 : decode cX8_shift 144 = .ok (.aload_n 0, 1) := by decide +kernel
theorem dX8_shift_145 : decode cX8_shift 145 = .ok (.iload_n 1, 1) := by decide +kernel
theorem dX8_shift_146 : decode cX8_shift 146 = .ok (.iconst 3, 1) := by decide +kernel
theorem dX8_shift_147 : decode cX8_shift 147 = .ok (.iconst 3, 1) := by decide +kernel
theorem dX8_shift_148 : decode cX8_shift 148 = .ok (.invokevirtual 120, 3) := by decide +kernel
theorem dX8_shift_151 : decode cX8_shift 151 = .ok (.ladd, 1) := by decide +kernel
theorem dX8_shift_152 : decode cX8_shift 152 = .ok (.putfield 125, 3) := by decide +kernel
theorem dX8_shift_155 : decode cX8_shift 155 = .ok (.aload_n 0, 1) := by decide +kernel
theorem dX8_shift_156 : decode cX8_shift 156 = .ok (.lload_n 2, 1) := by decide +kernel
theorem dX8_shift_157 : decode cX8_shift 157 = .ok (.putfield 128, 3) := by decide +kernel
theorem dX8_shift_160 : decode cX8_shift 160 = .ok (.lload_n 2, 1) := by decide +kernel
theorem dX8_shift_161 : decode cX8_shift 161 = .ok (.lconst 0, 1) := by decide +kernel
theorem dX8_shift_162 : decode cX8_shift 162 = .ok (.lcmp, 1) := by decide +kernel
theorem dX8_shift_163 : decode cX8_shift 163 = .ok (.ifCond .le 7, 3) := by decide +kernel
theorem dX8_shift_166 : decode cX8_shift 166 = .ok (.iconst 1, 1) := by decide +kernel
theorem dX8_shift_167 : decode cX8_shift 167 = .ok (.goto 4, 3) := by decide +kernel
theorem dX8_shift_170 : decode cX8_shift 170 = .ok (.iconst 0, 1) := by decide +kernel
theorem dX8_shift_171 : decode cX8_shift 171 = .ok (.ireturn, 1) := by decide +kernel
set_option maxRecDepth 20000 in
theorem ggX8_turned_X8_sum : GoodIn wsX8_turned wsX8_sum := goodIn_r _ [19, 20, 21, 26, 27, 28, 29, 30, 31, 32, 33, 34, 35, 36, 37, 38, 39, 40, 41, 42, 43, 44, 45, 46, 47, 48, 49, 50, 51, 52, 53, 54, 55, 56, 57, 58, 59, 60, 61] (by decide +kernel) (by decide +kernel)
set_option maxRecDepth 20000 in
theorem gX8_turned_X8_sum : GoodIn wsX8_turned (wsV RX8 79 RX8 yX8_sum wsX8_sum) := goodIn_app (goodIn_of _ (by decide +kernel)) ggX8_turned_X8_sum
set_option maxRecDepth 20000 in
theorem ggX8_turned_X8_spread : GoodIn wsX8_turned wsX8_spread := goodIn_r _ [25, 15, 16, 17, 18, 19, 20, 21, 26, 27, 28, 29, 30, 31, 32, 33, 34, 35, 36, 37, 38, 39, 40, 41, 42, 43, 44, 45, 46, 47, 48, 49, 50, 51, 52, 53, 54, 55, 56, 57, 58, 59, 60, 61] (by decide +kernel) (by decide +kernel)
set_option maxRecDepth 20000 in
theorem gX8_turned_X8_spread : GoodIn wsX8_turned (wsV RX8 120 RX8 yX8_spread wsX8_spread) := goodIn_app (goodIn_of _ (by decide +kernel)) ggX8_turned_X8_spread
theorem dX8_turned_0 : decode cX8_turned 0 = .ok (.aload_n 0, 1) := by decide +kernel
theorem dX8_turned_1 : decode cX8_turned 1 = .ok (.iload_n 1, 1) := by decide +kernel
theorem dX8_turned_2 : decode cX8_turned 2 = .ok (.iconst 4, 1) := by decide +kernel
theorem dX8_turned_3 : decode cX8_turned 3 = .ok (.iconst 4, 1) := by decide +kernel
theorem dX8_turned_4 : decode cX8_turned 4 = .ok (.invokevirtual 79, 3) := by decide +kernel
theorem dX8_turned_7 : decode cX8_turned 7 = .ok (.lstore_n 2, 1) := by decide +kernel
theorem dX8_turned_8 : decode cX8_turned 8 = .ok (.aload_n 0, 1) := by decide +kernel
theorem dX8_turned_9 : decode cX8_turned 9 = .ok (.iload_n 1, 1) := by decide +kernel
theorem dX8_turned_10 : decode cX8_turned 10 = .ok (.iconst 0, 1) := by decide +kernel
theorem dX8_turned_11 : decode cX8_turned 11 = .ok (.iconst 0, 1) := by decide +kernel
theorem dX8_turned_12 : decode cX8_turned 12 = .ok (.invokevirtual 120, 3) := by decide +kernel
theorem dX8_turned_15 : decode cX8_turned 15 = .ok (.aload_n 0, 1) := by decide +kernel
theorem dX8_turned_16 : decode cX8_turned 16 = .ok (.iload_n 1, 1) := by decide +kernel
theorem dX8_turned_17 : decode cX8_turned 17 = .ok (.iconst 1, 1) := by decide +kernel
theorem dX8_turned_18 : decode cX8_turned 18 = .ok (.iconst 1, 1) := by decide +kernel
theorem dX8_turned_19 : decode cX8_turned 19 = .ok (.invokevirtual 120, 3) := by decide +kernel
theorem dX8_turned_22 : decode cX8_turned 22 = .ok (.ladd, 1) := by decide +kernel
theorem dX8_turned_23 : decode cX8_turned 23 = .ok (.lstore 4, 2) := by decide +kernel
theorem dX8_turned_25 : decode cX8_turned 25 = .ok (.aload_n 0, 1) := by decide +kernel
theorem dX8_turned_26 : decode cX8_turned 26 = .ok (.iload_n 1, 1) := by decide +kernel
theorem dX8_turned_27 : decode cX8_turned 27 = .ok (.iconst 0, 1) := by decide +kernel
theorem dX8_turned_28 : decode cX8_turned 28 = .ok (.iconst 2, 1) := by decide +kernel
theorem dX8_turned_29 : decode cX8_turned 29 = .ok (.invokevirtual 120, 3) := by decide +kernel
theorem dX8_turned_32 : decode cX8_turned 32 = .ok (.aload_n 0, 1) := by decide +kernel
theorem dX8_turned_33 : decode cX8_turned 33 = .ok (.iload_n 1, 1) := by decide +kernel
theorem dX8_turned_34 : decode cX8_turned 34 = .ok (.iconst 1, 1) := by decide +kernel
theorem dX8_turned_35 : decode cX8_turned 35 = .ok (.iconst 3, 1) := by decide +kernel
theorem dX8_turned_36 : decode cX8_turned 36 = .ok (.invokevirtual 120, 3) := by decide +kernel
theorem dX8_turned_39 : decode cX8_turned 39 = .ok (.ladd, 1) := by decide +kernel
theorem dX8_turned_40 : decode cX8_turned 40 = .ok (.lstore 6, 2) := by decide +kernel
theorem dX8_turned_42 : decode cX8_turned 42 = .ok (.aload_n 0, 1) := by decide +kernel
theorem dX8_turned_43 : decode cX8_turned 43 = .ok (.iload_n 1, 1) := by decide +kernel
theorem dX8_turned_44 : decode cX8_turned 44 = .ok (.iconst 0, 1) := by decide +kernel
theorem dX8_turned_45 : decode cX8_turned 45 = .ok (.iconst 3, 1) := by decide +kernel
theorem dX8_turned_46 : decode cX8_turned 46 = .ok (.invokevirtual 120, 3) := by decide +kernel
theorem dX8_turned_49 : decode cX8_turned 49 = .ok (.aload_n 0, 1) := by decide +kernel
theorem dX8_turned_50 : decode cX8_turned 50 = .ok (.iload_n 1, 1) := by decide +kernel
theorem dX8_turned_51 : decode cX8_turned 51 = .ok (.iconst 1, 1) := by decide +kernel
theorem dX8_turned_52 : decode cX8_turned 52 = .ok (.iconst 2, 1) := by decide +kernel
theorem dX8_turned_53 : decode cX8_turned 53 = .ok (.invokevirtual 120, 3) := by decide +kernel
theorem dX8_turned_56 : decode cX8_turned 56 = .ok (.lsub, 1) := by decide +kernel
theorem dX8_turned_57 : decode cX8_turned 57 = .ok (.lstore 8, 2) := by decide +kernel
theorem dX8_turned_59 : decode cX8_turned 59 = .ok (.aload_n 0, 1) := by decide +kernel
theorem dX8_turned_60 : decode cX8_turned 60 = .ok (.lload_n 2, 1) := by decide +kernel
theorem dX8_turned_61 : decode cX8_turned 61 = .ok (.lload 6, 2) := by decide +kernel
theorem dX8_turned_63 : decode cX8_turned 63 = .ok (.lmul, 1) := by decide +kernel
theorem dX8_turned_64 : decode cX8_turned 64 = .ok (.putfield 83, 3) := by decide +kernel
theorem dX8_turned_67 : decode cX8_turned 67 = .ok (.aload_n 0, 1) := by decide +kernel
theorem dX8_turned_68 : decode cX8_turned 68 = .ok (.lload_n 2, 1) := by decide +kernel
theorem dX8_turned_69 : decode cX8_turned 69 = .ok (.lneg, 1) := by decide +kernel
theorem dX8_turned_70 : decode cX8_turned 70 = .ok (.lload 8, 2) := by decide +kernel
theorem dX8_turned_72 : decode cX8_turned 72 = .ok (.lmul, 1) := by decide +kernel
theorem dX8_turned_73 : decode cX8_turned 73 = .ok (.putfield 87, 3) := by decide +kernel
theorem dX8_turned_76 : decode cX8_turned 76 = .ok (.aload_n 0, 1) := by decide +kernel
theorem dX8_turned_77 : decode cX8_turned 77 = .ok (.aload_n 0, 1) := by decide +kernel
theorem dX8_turned_78 : decode cX8_turned 78 = .ok (.iload_n 1, 1) := by decide +kernel
theorem dX8_turned_79 : decode cX8_turned 79 = .ok (.iconst 2, 1) := by decide +kernel
theorem dX8_turned_80 : decode cX8_turned 80 = .ok (.iconst 4, 1) := by decide +kernel
theorem dX8_turned_81 : decode cX8_turned 81 = .ok (.invokevirtual 79, 3) := by decide +kernel
theorem dX8_turned_84 : decode cX8_turned 84 = .ok (.lload 4, 2) := by decide +kernel
theorem dX8_turned_86 : decode cX8_turned 86 = .ok (.lmul, 1) := by decide +kernel
theorem dX8_turned_87 : decode cX8_turned 87 = .ok (.lload 6, 2) := by decide +kernel
theorem dX8_turned_89 : decode cX8_turned 89 = .ok (.aload_n 0, 1) := by decide +kernel
theorem dX8_turned_90 : decode cX8_turned 90 = .ok (.iload_n 1, 1) := by decide +kernel
theorem dX8_turned_91 : decode cX8_turned 91 = .ok (.iconst 0, 1) := by decide +kernel
theorem dX8_turned_92 : decode cX8_turned 92 = .ok (.iconst 4, 1) := by decide +kernel
theorem dX8_turned_93 : decode cX8_turned 93 = .ok (.invokevirtual 79, 3) := by decide +kernel
theorem dX8_turned_96 : decode cX8_turned 96 = .ok (.lmul, 1) := by decide +kernel
theorem dX8_turned_97 : decode cX8_turned 97 = .ok (.lsub, 1) := by decide +kernel
theorem dX8_turned_98 : decode cX8_turned 98 = .ok (.lload 8, 2) := by decide +kernel
theorem dX8_turned_100 : decode cX8_turned 100 = .ok (.aload_n 0, 1) := by decide +kernel
theorem dX8_turned_101 : decode cX8_turned 101 = .ok (.iload_n 1, 1) := by decide +kernel
theorem dX8_turned_102 : decode cX8_turned 102 = .ok (.iconst 1, 1) := by decide +kernel
theorem dX8_turned_103 : decode cX8_turned 103 = .ok (.iconst 4, 1) := by decide +kernel
theorem dX8_turned_104 : decode cX8_turned 104 = .ok (.invokevirtual 79, 3) := by decide +kernel
theorem dX8_turned_107 : decode cX8_turned 107 = .ok (.lmul, 1) := by decide +kernel
theorem dX8_turned_108 : decode cX8_turned 108 = .ok (.ladd, 1) := by decide +kernel
theorem dX8_turned_109 : decode cX8_turned 109 = .ok (.putfield 90, 3) := by decide +kernel
theorem dX8_turned_112 : decode cX8_turned 112 = .ok (.aload_n 0, 1) := by decide +kernel
theorem dX8_turned_113 : decode cX8_turned 113 = .ok (.lload_n 2, 1) := by decide +kernel
theorem dX8_turned_114 : decode cX8_turned 114 = .ok (.lload 4, 2) := by decide +kernel
theorem dX8_turned_116 : decode cX8_turned 116 = .ok (.lmul, 1) := by decide +kernel
theorem dX8_turned_117 : decode cX8_turned 117 = .ok (.putfield 93, 3) := by decide +kernel
theorem dX8_turned_120 : decode cX8_turned 120 = .ok (.aload_n 0, 1) := by decide +kernel
theorem dX8_turned_121 : decode cX8_turned 121 = .ok (.lload_n 2, 1) := by decide +kernel
theorem dX8_turned_122 : decode cX8_turned 122 = .ok (.lload 8, 2) := by decide +kernel
theorem dX8_turned_124 : decode cX8_turned 124 = .ok (.lmul, 1) := by decide +kernel
theorem dX8_turned_125 : decode cX8_turned 125 = .ok (.putfield 96, 3) := by decide +kernel
theorem dX8_turned_128 : decode cX8_turned 128 = .ok (.aload_n 0, 1) := by decide +kernel
theorem dX8_turned_129 : decode cX8_turned 129 = .ok (.lload_n 2, 1) := by decide +kernel
theorem dX8_turned_130 : decode cX8_turned 130 = .ok (.lload 6, 2) := by decide +kernel
theorem dX8_turned_132 : decode cX8_turned 132 = .ok (.lmul, 1) := by decide +kernel
theorem dX8_turned_133 : decode cX8_turned 133 = .ok (.putfield 99, 3) := by decide +kernel
theorem dX8_turned_136 : decode cX8_turned 136 = .ok (.aload_n 0, 1) := by decide +kernel
theorem dX8_turned_137 : decode cX8_turned 137 = .ok (.aload_n 0, 1) := by decide +kernel
theorem dX8_turned_138 : decode cX8_turned 138 = .ok (.iload_n 1, 1) := by decide +kernel
theorem dX8_turned_139 : decode cX8_turned 139 = .ok (.iconst 3, 1) := by decide +kernel
theorem dX8_turned_140 : decode cX8_turned 140 = .ok (.iconst 4, 1) := by decide +kernel
theorem dX8_turned_141 : decode cX8_turned 141 = .ok (.invokevirtual 79, 3) := by decide +kernel
theorem dX8_turned_144 : decode cX8_turned 144 = .ok (.lload 4, 2) := by decide +kernel
theorem dX8_turned_146 : decode cX8_turned 146 = .ok (.lmul, 1) := by decide +kernel
theorem dX8_turned_147 : decode cX8_turned 147 = .ok (.lload 8, 2) := by decide +kernel
theorem dX8_turned_149 : decode cX8_turned 149 = .ok (.aload_n 0, 1) := by decide +kernel
theorem dX8_turned_150 : decode cX8_turned 150 = .ok (.iload_n 1, 1) := by decide +kernel
theorem dX8_turned_151 : decode cX8_turned 151 = .ok (.iconst 0, 1) := by decide +kernel
theorem dX8_turned_152 : decode cX8_turned 152 = .ok (.iconst 4, 1) := by decide +kernel
theorem dX8_turned_153 : decode cX8_turned 153 = .ok (.invokevirtual 79, 3) := by decide +kernel
theorem dX8_turned_156 : decode cX8_turned 156 = .ok (.lmul, 1) := by decide +kernel
theorem dX8_turned_157 : decode cX8_turned 157 = .ok (.lsub, 1) := by decide +kernel
theorem dX8_turned_158 : decode cX8_turned 158 = .ok (.lload 6, 2) := by decide +kernel
theorem dX8_turned_160 : decode cX8_turned 160 = .ok (.aload_n 0, 1) := by decide +kernel
theorem dX8_turned_161 : decode cX8_turned 161 = .ok (.iload_n 1, 1) := by decide +kernel
theorem dX8_turned_162 : decode cX8_turned 162 = .ok (.iconst 1, 1) := by decide +kernel
theorem dX8_turned_163 : decode cX8_turned 163 = .ok (.iconst 4, 1) := by decide +kernel
theorem dX8_turned_164 : decode cX8_turned 164 = .ok (.invokevirtual 79, 3) := by decide +kernel
theorem dX8_turned_167 : decode cX8_turned 167 = .ok (.lmul, 1) := by decide +kernel
theorem dX8_turned_168 : decode cX8_turned 168 = .ok (.lsub, 1) := by decide +kernel
theorem dX8_turned_169 : decode cX8_turned 169 = .ok (.putfield 102, 3) := by decide +kernel
theorem dX8_turned_172 : decode cX8_turned 172 = .ok (.aload_n 0, 1) := by decide +kernel
theorem dX8_turned_173 : decode cX8_turned 173 = .ok (.lload_n 2, 1) := by decide +kernel
theorem dX8_turned_174 : decode cX8_turned 174 = .ok (.lload 4, 2) := by decide +kernel
theorem dX8_turned_176 : decode cX8_turned 176 = .ok (.lmul, 1) := by decide +kernel
theorem dX8_turned_177 : decode cX8_turned 177 = .ok (.putfield 105, 3) := by decide +kernel
theorem dX8_turned_180 : decode cX8_turned 180 = .ok (.aload_n 0, 1) := by decide +kernel
theorem dX8_turned_181 : decode cX8_turned 181 = .ok (.lload 6, 2) := by decide +kernel
theorem dX8_turned_183 : decode cX8_turned 183 = .ok (.putfield 108, 3) := by decide +kernel
theorem dX8_turned_186 : decode cX8_turned 186 = .ok (.aload_n 0, 1) := by decide +kernel
theorem dX8_turned_187 : decode cX8_turned 187 = .ok (.lload 4, 2) := by decide +kernel
theorem dX8_turned_189 : decode cX8_turned 189 = .ok (.putfield 111, 3) := by decide +kernel
theorem dX8_turned_192 : decode cX8_turned 192 = .ok (.aload_n 0, 1) := by decide +kernel
theorem dX8_turned_193 : decode cX8_turned 193 = .ok (.lload 8, 2) := by decide +kernel
theorem dX8_turned_195 : decode cX8_turned 195 = .ok (.putfield 114, 3) := by decide +kernel
theorem dX8_turned_198 : decode cX8_turned 198 = .ok (.aload_n 0, 1) := by decide +kernel
theorem dX8_turned_199 : decode cX8_turned 199 = .ok (.lload 4, 2) := by decide +kernel
theorem dX8_turned_201 : decode cX8_turned 201 = .ok (.putfield 117, 3) := by decide +kernel
theorem dX8_turned_204 : decode cX8_turned 204 = .ok (.aload_n 0, 1) := by decide +kernel
theorem dX8_turned_205 : decode cX8_turned 205 = .ok (.aload_n 0, 1) := by decide +kernel
theorem dX8_turned_206 : decode cX8_turned 206 = .ok (.iload_n 1, 1) := by decide +kernel
theorem dX8_turned_207 : decode cX8_turned 207 = .ok (.iconst 2, 1) := by decide +kernel
theorem dX8_turned_208 : decode cX8_turned 208 = .ok (.iconst 2, 1) := by decide +kernel
theorem dX8_turned_209 : decode cX8_turned 209 = .ok (.invokevirtual 120, 3) := by decide +kernel
theorem dX8_turned_212 : decode cX8_turned 212 = .ok (.aload_n 0, 1) := by decide +kernel
theorem dX8_turned_213 : decode cX8_turned 213 = .ok (.iload_n 1, 1) := by decide +kernel
theorem dX8_turned_214 : decode cX8_turned 214 = .ok (.iconst 3, 1) := by decide +kernel
theorem dX8_turned_215 : decode cX8_turned 215 = .ok (.iconst 3, 1) := by decide +kernel
theorem dX8_turned_216 : decode cX8_turned 216 = .ok (.invokevirtual 120, 3) := by decide +kernel
theorem dX8_turned_219 : decode cX8_turned 219 = .ok (.ladd, 1) := by decide +kernel
theorem dX8_turned_220 : decode cX8_turned 220 = .ok (.lload 4, 2) := by decide +kernel
theorem dX8_turned_222 : decode cX8_turned 222 = .ok (.lmul, 1) := by decide +kernel
theorem dX8_turned_223 : decode cX8_turned 223 = .ok (.lload 6, 2) := by decide +kernel
theorem dX8_turned_225 : decode cX8_turned 225 = .ok (.lload 6, 2) := by decide +kernel
theorem dX8_turned_227 : decode cX8_turned 227 = .ok (.lmul, 1) := by decide +kernel
theorem dX8_turned_228 : decode cX8_turned 228 = .ok (.lsub, 1) := by decide +kernel
theorem dX8_turned_229 : decode cX8_turned 229 = .ok (.lload 8, 2) := by decide +kernel
theorem dX8_turned_231 : decode cX8_turned 231 = .ok (.lload 8, 2) := by decide +kernel
theorem dX8_turned_233 : decode cX8_turned 233 = .ok (.lmul, 1) := by decide +kernel
theorem dX8_turned_234 : decode cX8_turned 234 = .ok (.lsub, 1) := by decide +kernel
theorem dX8_turned_235 : decode cX8_turned 235 = .ok (.putfield 125, 3) := by decide +kernel
theorem dX8_turned_238 : decode cX8_turned 238 = .ok (.aload_n 0, 1) := by decide +kernel
theorem dX8_turned_239 : decode cX8_turned 239 = .ok (.lload_n 2, 1) := by decide +kernel
theorem dX8_turned_240 : decode cX8_turned 240 = .ok (.lload 4, 2) := by decide +kernel
theorem dX8_turned_242 : decode cX8_turned 242 = .ok (.lmul, 1) := by decide +kernel
theorem dX8_turned_243 : decode cX8_turned 243 = .ok (.putfield 128, 3) := by decide +kernel
theorem dX8_turned_246 : decode cX8_turned 246 = .ok (.lload 4, 2) := by decide +kernel
theorem dX8_turned_248 : decode cX8_turned 248 = .ok (.lconst 0, 1) := by decide +kernel
theorem dX8_turned_249 : decode cX8_turned 249 = .ok (.lcmp, 1) := by decide +kernel
theorem dX8_turned_250 : decode cX8_turned 250 = .ok (.ifCond .le 7, 3) := by decide +kernel
theorem dX8_turned_253 : decode cX8_turned 253 = .ok (.iconst 1, 1) := by decide +kernel
theorem dX8_turned_254 : decode cX8_turned 254 = .ok (.goto 4, 3) := by decide +kernel
theorem dX8_turned_257 : decode cX8_turned 257 = .ok (.iconst 0, 1) := by decide +kernel
theorem dX8_turned_258 : decode cX8_turned 258 = .ok (.ireturn, 1) := by decide +kernel
set_option maxRecDepth 20000 in
theorem ggX8_shrunk_X8_sum : GoodIn wsX8_shrunk wsX8_sum := goodIn_r _ [21, 22, 23, 28, 29, 30, 31, 32, 33, 34, 35, 36, 37, 38, 39, 40, 41, 42, 43, 44, 45, 46, 47, 48, 49, 50, 51, 52, 53, 54, 55, 56, 57, 58, 59, 60, 61, 62, 63] (by decide +kernel) (by decide +kernel)
set_option maxRecDepth 20000 in
theorem gX8_shrunk_X8_sum : GoodIn wsX8_shrunk (wsV RX8 79 RX8 yX8_sum wsX8_sum) := goodIn_app (goodIn_of _ (by decide +kernel)) ggX8_shrunk_X8_sum
set_option maxRecDepth 20000 in
theorem ggX8_shrunk_X8_spread : GoodIn wsX8_shrunk wsX8_spread := goodIn_r _ [27, 17, 18, 19, 20, 21, 22, 23, 28, 29, 30, 31, 32, 33, 34, 35, 36, 37, 38, 39, 40, 41, 42, 43, 44, 45, 46, 47, 48, 49, 50, 51, 52, 53, 54, 55, 56, 57, 58, 59, 60, 61, 62, 63] (by decide +kernel) (by decide +kernel)
set_option maxRecDepth 20000 in
theorem gX8_shrunk_X8_spread : GoodIn wsX8_shrunk (wsV RX8 120 RX8 yX8_spread wsX8_spread) := goodIn_app (goodIn_of _ (by decide +kernel)) ggX8_shrunk_X8_spread
theorem dX8_shrunk_0 : decode cX8_shrunk 0 = .ok (.aload_n 0, 1) := by decide +kernel
theorem dX8_shrunk_1 : decode cX8_shrunk 1 = .ok (.iload_n 1, 1) := by decide +kernel
theorem dX8_shrunk_2 : decode cX8_shrunk 2 = .ok (.iconst 4, 1) := by decide +kernel
theorem dX8_shrunk_3 : decode cX8_shrunk 3 = .ok (.iconst 4, 1) := by decide +kernel
theorem dX8_shrunk_4 : decode cX8_shrunk 4 = .ok (.invokevirtual 79, 3) := by decide +kernel
theorem dX8_shrunk_7 : decode cX8_shrunk 7 = .ok (.lstore_n 2, 1) := by decide +kernel
theorem dX8_shrunk_8 : decode cX8_shrunk 8 = .ok (.aload_n 0, 1) := by decide +kernel
theorem dX8_shrunk_9 : decode cX8_shrunk 9 = .ok (.iload_n 1, 1) := by decide +kernel
theorem dX8_shrunk_10 : decode cX8_shrunk 10 = .ok (.iconst 0, 1) := by decide +kernel
theorem dX8_shrunk_11 : decode cX8_shrunk 11 = .ok (.iconst 0, 1) := by decide +kernel
theorem dX8_shrunk_12 : decode cX8_shrunk 12 = .ok (.invokevirtual 120, 3) := by decide +kernel
theorem dX8_shrunk_15 : decode cX8_shrunk 15 = .ok (.lstore 4, 2) := by decide +kernel
theorem dX8_shrunk_17 : decode cX8_shrunk 17 = .ok (.aload_n 0, 1) := by decide +kernel
theorem dX8_shrunk_18 : decode cX8_shrunk 18 = .ok (.iload_n 1, 1) := by decide +kernel
theorem dX8_shrunk_19 : decode cX8_shrunk 19 = .ok (.iconst 1, 1) := by decide +kernel
theorem dX8_shrunk_20 : decode cX8_shrunk 20 = .ok (.iconst 1, 1) := by decide +kernel
theorem dX8_shrunk_21 : decode cX8_shrunk 21 = .ok (.invokevirtual 120, 3) := by decide +kernel
theorem dX8_shrunk_24 : decode cX8_shrunk 24 = .ok (.lstore 6, 2) := by decide +kernel
theorem dX8_shrunk_26 : decode cX8_shrunk 26 = .ok (.aload_n 0, 1) := by decide +kernel
theorem dX8_shrunk_27 : decode cX8_shrunk 27 = .ok (.aload_n 0, 1) := by decide +kernel
theorem dX8_shrunk_28 : decode cX8_shrunk 28 = .ok (.iload_n 1, 1) := by decide +kernel
theorem dX8_shrunk_29 : decode cX8_shrunk 29 = .ok (.iconst 0, 1) := by decide +kernel
theorem dX8_shrunk_30 : decode cX8_shrunk 30 = .ok (.iconst 2, 1) := by decide +kernel
theorem dX8_shrunk_31 : decode cX8_shrunk 31 = .ok (.invokevirtual 120, 3) := by decide +kernel
theorem dX8_shrunk_34 : decode cX8_shrunk 34 = .ok (.putfield 108, 3) := by decide +kernel
theorem dX8_shrunk_37 : decode cX8_shrunk 37 = .ok (.aload_n 0, 1) := by decide +kernel
theorem dX8_shrunk_38 : decode cX8_shrunk 38 = .ok (.lload 4, 2) := by decide +kernel
theorem dX8_shrunk_40 : decode cX8_shrunk 40 = .ok (.putfield 111, 3) := by decide +kernel
theorem dX8_shrunk_43 : decode cX8_shrunk 43 = .ok (.aload_n 0, 1) := by decide +kernel
theorem dX8_shrunk_44 : decode cX8_shrunk 44 = .ok (.aload_n 0, 1) := by decide +kernel
theorem dX8_shrunk_45 : decode cX8_shrunk 45 = .ok (.iload_n 1, 1) := by decide +kernel
theorem dX8_shrunk_46 : decode cX8_shrunk 46 = .ok (.iconst 1, 1) := by decide +kernel
theorem dX8_shrunk_47 : decode cX8_shrunk 47 = .ok (.iconst 3, 1) := by decide +kernel
theorem dX8_shrunk_48 : decode cX8_shrunk 48 = .ok (.invokevirtual 120, 3) := by decide +kernel
theorem dX8_shrunk_51 : decode cX8_shrunk 51 = .ok (.putfield 114, 3) := by decide +kernel
theorem dX8_shrunk_54 : decode cX8_shrunk 54 = .ok (.aload_n 0, 1) := by decide +kernel
theorem dX8_shrunk_55 : decode cX8_shrunk 55 = .ok (.lload 6, 2) := by decide +kernel
theorem dX8_shrunk_57 : decode cX8_shrunk 57 = .ok (.putfield 117, 3) := by decide +kernel
theorem dX8_shrunk_60 : decode cX8_shrunk 60 = .ok (.aload_n 0, 1) := by decide +kernel
theorem dX8_shrunk_61 : decode cX8_shrunk 61 = .ok (.lload_n 2, 1) := by decide +kernel
theorem dX8_shrunk_62 : decode cX8_shrunk 62 = .ok (.aload_n 0, 1) := by decide +kernel
theorem dX8_shrunk_63 : decode cX8_shrunk 63 = .ok (.getfield 108, 3) := by decide +kernel
theorem dX8_shrunk_66 : decode cX8_shrunk 66 = .ok (.lmul, 1) := by decide +kernel
theorem dX8_shrunk_67 : decode cX8_shrunk 67 = .ok (.putfield 83, 3) := by decide +kernel
theorem dX8_shrunk_70 : decode cX8_shrunk 70 = .ok (.aload_n 0, 1) := by decide +kernel
theorem dX8_shrunk_71 : decode cX8_shrunk 71 = .ok (.lconst 0, 1) := by decide +kernel
theorem dX8_shrunk_72 : decode cX8_shrunk 72 = .ok (.putfield 87, 3) := by decide +kernel
theorem dX8_shrunk_75 : decode cX8_shrunk 75 = .ok (.aload_n 0, 1) := by decide +kernel
theorem dX8_shrunk_76 : decode cX8_shrunk 76 = .ok (.aload_n 0, 1) := by decide +kernel
theorem dX8_shrunk_77 : decode cX8_shrunk 77 = .ok (.iload_n 1, 1) := by decide +kernel
theorem dX8_shrunk_78 : decode cX8_shrunk 78 = .ok (.iconst 2, 1) := by decide +kernel
theorem dX8_shrunk_79 : decode cX8_shrunk 79 = .ok (.iconst 4, 1) := by decide +kernel
theorem dX8_shrunk_80 : decode cX8_shrunk 80 = .ok (.invokevirtual 79, 3) := by decide +kernel
theorem dX8_shrunk_83 : decode cX8_shrunk 83 = .ok (.lload 4, 2) := by decide +kernel
theorem dX8_shrunk_85 : decode cX8_shrunk 85 = .ok (.lmul, 1) := by decide +kernel
theorem dX8_shrunk_86 : decode cX8_shrunk 86 = .ok (.aload_n 0, 1) := by decide +kernel
theorem dX8_shrunk_87 : decode cX8_shrunk 87 = .ok (.getfield 108, 3) := by decide +kernel
theorem dX8_shrunk_90 : decode cX8_shrunk 90 = .ok (.aload_n 0, 1) := by decide +kernel
theorem dX8_shrunk_91 : decode cX8_shrunk 91 = .ok (.iload_n 1, 1) := by decide +kernel
theorem dX8_shrunk_92 : decode cX8_shrunk 92 = .ok (.iconst 0, 1) := by decide +kernel
theorem dX8_shrunk_93 : decode cX8_shrunk 93 = .ok (.iconst 4, 1) := by decide +kernel
theorem dX8_shrunk_94 : decode cX8_shrunk 94 = .ok (.invokevirtual 79, 3) := by decide +kernel
theorem dX8_shrunk_97 : decode cX8_shrunk 97 = .ok (.lmul, 1) := by decide +kernel
theorem dX8_shrunk_98 : decode cX8_shrunk 98 = .ok (.lsub, 1) := by decide +kernel
theorem dX8_shrunk_99 : decode cX8_shrunk 99 = .ok (.putfield 90, 3) := by decide +kernel
theorem dX8_shrunk_102 : decode cX8_shrunk 102 = .ok (.aload_n 0, 1) := by decide +kernel
theorem dX8_shrunk_103 : decode cX8_shrunk 103 = .ok (.lload_n 2, 1) := by decide +kernel
theorem dX8_shrunk_104 : decode cX8_shrunk 104 = .ok (.lload 4, 2) := by decide +kernel
theorem dX8_shrunk_106 : decode cX8_shrunk 106 = .ok (.lmul, 1) := by decide +kernel
theorem dX8_shrunk_107 : decode cX8_shrunk 107 = .ok (.putfield 93, 3) := by decide +kernel
theorem dX8_shrunk_110 : decode cX8_shrunk 110 = .ok (.aload_n 0, 1) := by decide +kernel
theorem dX8_shrunk_111 : decode cX8_shrunk 111 = .ok (.lconst 0, 1) := by decide +kernel
theorem dX8_shrunk_112 : decode cX8_shrunk 112 = .ok (.putfield 96, 3) := by decide +kernel
theorem dX8_shrunk_115 : decode cX8_shrunk 115 = .ok (.aload_n 0, 1) := by decide +kernel
theorem dX8_shrunk_116 : decode cX8_shrunk 116 = .ok (.lload_n 2, 1) := by decide +kernel
theorem dX8_shrunk_117 : decode cX8_shrunk 117 = .ok (.aload_n 0, 1) := by decide +kernel
theorem dX8_shrunk_118 : decode cX8_shrunk 118 = .ok (.getfield 114, 3) := by decide +kernel
theorem dX8_shrunk_121 : decode cX8_shrunk 121 = .ok (.lmul, 1) := by decide +kernel
theorem dX8_shrunk_122 : decode cX8_shrunk 122 = .ok (.putfield 99, 3) := by decide +kernel
theorem dX8_shrunk_125 : decode cX8_shrunk 125 = .ok (.aload_n 0, 1) := by decide +kernel
theorem dX8_shrunk_126 : decode cX8_shrunk 126 = .ok (.aload_n 0, 1) := by decide +kernel
theorem dX8_shrunk_127 : decode cX8_shrunk 127 = .ok (.iload_n 1, 1) := by decide +kernel
theorem dX8_shrunk_128 : decode cX8_shrunk 128 = .ok (.iconst 3, 1) := by decide +kernel
theorem dX8_shrunk_129 : decode cX8_shrunk 129 = .ok (.iconst 4, 1) := by decide +kernel
theorem dX8_shrunk_130 : decode cX8_shrunk 130 = .ok (.invokevirtual 79, 3) := by decide +kernel
theorem dX8_shrunk_133 : decode cX8_shrunk 133 = .ok (.lload 6, 2) := by decide +kernel
theorem dX8_shrunk_135 : decode cX8_shrunk 135 = .ok (.lmul, 1) := by decide +kernel
theorem dX8_shrunk_136 : decode cX8_shrunk 136 = .ok (.aload_n 0, 1) := by decide +kernel
theorem dX8_shrunk_137 : decode cX8_shrunk 137 = .ok (.getfield 114, 3) := by decide +kernel
theorem dX8_shrunk_140 : decode cX8_shrunk 140 = .ok (.aload_n 0, 1) := by decide +kernel
theorem dX8_shrunk_141 : decode cX8_shrunk 141 = .ok (.iload_n 1, 1) := by decide +kernel
theorem dX8_shrunk_142 : decode cX8_shrunk 142 = .ok (.iconst 1, 1) := by decide +kernel
theorem dX8_shrunk_143 : decode cX8_shrunk 143 = .ok (.iconst 4, 1) := by decide +kernel
theorem dX8_shrunk_144 : decode cX8_shrunk 144 = .ok (.invokevirtual 79, 3) := by decide +kernel
theorem dX8_shrunk_147 : decode cX8_shrunk 147 = .ok (.lmul, 1) := by decide +kernel
theorem dX8_shrunk_148 : decode cX8_shrunk 148 = .ok (.lsub, 1) := by decide +kernel
theorem dX8_shrunk_149 : decode cX8_shrunk 149 = .ok (.putfield 102, 3) := by decide +kernel
theorem dX8_shrunk_152 : decode cX8_shrunk 152 = .ok (.aload_n 0, 1) := by decide +kernel
theorem dX8_shrunk_153 : decode cX8_shrunk 153 = .ok (.lload_n 2, 1) := by decide +kernel
theorem dX8_shrunk_154 : decode cX8_shrunk 154 = .ok (.lload 6, 2) := by decide +kernel
theorem dX8_shrunk_156 : decode cX8_shrunk 156 = .ok (.lmul, 1) := by decide +kernel
theorem dX8_shrunk_157 : decode cX8_shrunk 157 = .ok (.putfield 105, 3) := by decide +kernel
theorem dX8_shrunk_160 : decode cX8_shrunk 160 = .ok (.aload_n 0, 1) := by decide +kernel
theorem dX8_shrunk_161 : decode cX8_shrunk 161 = .ok (.aload_n 0, 1) := by decide +kernel
theorem dX8_shrunk_162 : decode cX8_shrunk 162 = .ok (.iload_n 1, 1) := by decide +kernel
theorem dX8_shrunk_163 : decode cX8_shrunk 163 = .ok (.iconst 2, 1) := by decide +kernel
theorem dX8_shrunk_164 : decode cX8_shrunk 164 = .ok (.iconst 2, 1) := by decide +kernel
theorem dX8_shrunk_165 : decode cX8_shrunk 165 = .ok (.invokevirtual 120, 3) := by decide +kernel
theorem dX8_shrunk_168 : decode cX8_shrunk 168 = .ok (.lload 4, 2) := by decide +kernel
theorem dX8_shrunk_170 : decode cX8_shrunk 170 = .ok (.lmul, 1) := by decide +kernel
theorem dX8_shrunk_171 : decode cX8_shrunk 171 = .ok (.aload_n 0, 1) := by decide +kernel
theorem dX8_shrunk_172 : decode cX8_shrunk 172 = .ok (.getfield 108, 3) := by decide +kernel
theorem dX8_shrunk_175 : decode cX8_shrunk 175 = .ok (.aload_n 0, 1) := by decide +kernel
theorem dX8_shrunk_176 : decode cX8_shrunk 176 = .ok (.getfield 108, 3) := by decide +kernel
theorem dX8_shrunk_179 : decode cX8_shrunk 179 = .ok (.lmul, 1) := by decide +kernel
theorem dX8_shrunk_180 : decode cX8_shrunk 180 = .ok (.lsub, 1) := by decide +kernel
theorem dX8_shrunk_181 : decode cX8_shrunk 181 = .ok (.putfield 125, 3) := by decide +kernel
theorem dX8_shrunk_184 : decode cX8_shrunk 184 = .ok (.aload_n 0, 1) := by decide +kernel
theorem dX8_shrunk_185 : decode cX8_shrunk 185 = .ok (.lload_n 2, 1) := by decide +kernel
theorem dX8_shrunk_186 : decode cX8_shrunk 186 = .ok (.lload 4, 2) := by decide +kernel
theorem dX8_shrunk_188 : decode cX8_shrunk 188 = .ok (.lmul, 1) := by decide +kernel
theorem dX8_shrunk_189 : decode cX8_shrunk 189 = .ok (.putfield 128, 3) := by decide +kernel
theorem dX8_shrunk_192 : decode cX8_shrunk 192 = .ok (.aload_n 0, 1) := by decide +kernel
theorem dX8_shrunk_193 : decode cX8_shrunk 193 = .ok (.aload_n 0, 1) := by decide +kernel
theorem dX8_shrunk_194 : decode cX8_shrunk 194 = .ok (.iload_n 1, 1) := by decide +kernel
theorem dX8_shrunk_195 : decode cX8_shrunk 195 = .ok (.iconst 3, 1) := by decide +kernel
theorem dX8_shrunk_196 : decode cX8_shrunk 196 = .ok (.iconst 3, 1) := by decide +kernel
theorem dX8_shrunk_197 : decode cX8_shrunk 197 = .ok (.invokevirtual 120, 3) := by decide +kernel
theorem dX8_shrunk_200 : decode cX8_shrunk 200 = .ok (.lload 6, 2) := by decide +kernel
theorem dX8_shrunk_202 : decode cX8_shrunk 202 = .ok (.lmul, 1) := by decide +kernel
theorem dX8_shrunk_203 : decode cX8_shrunk 203 = .ok (.aload_n 0, 1) := by decide +kernel
theorem dX8_shrunk_204 : decode cX8_shrunk 204 = .ok (.getfield 114, 3) := by decide +kernel
theorem dX8_shrunk_207 : decode cX8_shrunk 207 = .ok (.aload_n 0, 1) := by decide +kernel
theorem dX8_shrunk_208 : decode cX8_shrunk 208 = .ok (.getfield 114, 3) := by decide +kernel
theorem dX8_shrunk_211 : decode cX8_shrunk 211 = .ok (.lmul, 1) := by decide +kernel
theorem dX8_shrunk_212 : decode cX8_shrunk 212 = .ok (.lsub, 1) := by decide +kernel
theorem dX8_shrunk_213 : decode cX8_shrunk 213 = .ok (.putfield 131, 3) := by decide +kernel
theorem dX8_shrunk_216 : decode cX8_shrunk 216 = .ok (.aload_n 0, 1) := by decide +kernel
theorem dX8_shrunk_217 : decode cX8_shrunk 217 = .ok (.lload_n 2, 1) := by decide +kernel
theorem dX8_shrunk_218 : decode cX8_shrunk 218 = .ok (.lload 6, 2) := by decide +kernel
theorem dX8_shrunk_220 : decode cX8_shrunk 220 = .ok (.lmul, 1) := by decide +kernel
theorem dX8_shrunk_221 : decode cX8_shrunk 221 = .ok (.putfield 134, 3) := by decide +kernel
theorem dX8_shrunk_224 : decode cX8_shrunk 224 = .ok (.lload 4, 2) := by decide +kernel
theorem dX8_shrunk_226 : decode cX8_shrunk 226 = .ok (.lconst 0, 1) := by decide +kernel
theorem dX8_shrunk_227 : decode cX8_shrunk 227 = .ok (.lcmp, 1) := by decide +kernel
theorem dX8_shrunk_228 : decode cX8_shrunk 228 = .ok (.ifCond .le 14, 3) := by decide +kernel
theorem dX8_shrunk_231 : decode cX8_shrunk 231 = .ok (.lload 6, 2) := by decide +kernel
theorem dX8_shrunk_233 : decode cX8_shrunk 233 = .ok (.lconst 0, 1) := by decide +kernel
theorem dX8_shrunk_234 : decode cX8_shrunk 234 = .ok (.lcmp, 1) := by decide +kernel
theorem dX8_shrunk_235 : decode cX8_shrunk 235 = .ok (.ifCond .le 7, 3) := by decide +kernel
theorem dX8_shrunk_238 : decode cX8_shrunk 238 = .ok (.iconst 1, 1) := by decide +kernel
theorem dX8_shrunk_239 : decode cX8_shrunk 239 = .ok (.goto 4, 3) := by decide +kernel
theorem dX8_shrunk_242 : decode cX8_shrunk 242 = .ok (.iconst 0, 1) := by decide +kernel
theorem dX8_shrunk_243 : decode cX8_shrunk 243 = .ok (.ireturn, 1) := by decide +kernel
set_option maxRecDepth 20000 in
theorem ggX8_fit_X8_shift : GoodIn wsX8_fit wsX8_shift := goodIn_r _ [5, 6, 7, 8, 9, 10, 11, 12, 13, 14, 15, 16, 17, 18, 19, 20, 21, 22, 23, 4, 24, 25, 26, 27, 28, 29, 30, 41, 42, 43, 44, 45, 46, 47, 48, 49, 50, 51, 52, 53, 54, 55, 56, 57, 58, 59, 60, 61, 62, 63, 64, 65, 66, 67, 68, 69, 70, 71, 72, 73, 74, 75, 76] (by decide +kernel) (by decide +kernel)
set_option maxRecDepth 20000 in
theorem gX8_fit_X8_shift : GoodIn wsX8_fit (wsV RX8 137 RX8 yX8_shift wsX8_shift) := goodIn_app (goodIn_of _ (by decide +kernel)) ggX8_fit_X8_shift
set_option maxRecDepth 20000 in
theorem ggX8_fit_X8_turned : GoodIn wsX8_fit wsX8_turned := goodIn_r _ [34, 6, 7, 8, 9, 10, 11, 12, 13, 14, 15, 16, 17, 19, 20, 21, 22, 23, 4, 24, 25, 26, 27, 28, 29, 30, 41, 42, 43, 44, 45, 46, 47, 48, 49, 50, 51, 52, 53, 54, 55, 56, 57, 58, 59, 60, 61, 62, 63, 64, 65, 66, 67, 68, 69, 70, 71, 72, 73, 74, 75, 76] (by decide +kernel) (by decide +kernel)
set_option maxRecDepth 20000 in
theorem gX8_fit_X8_turned : GoodIn wsX8_fit (wsV RX8 140 RX8 yX8_turned wsX8_turned) := goodIn_app (goodIn_of _ (by decide +kernel)) ggX8_fit_X8_turned
set_option maxRecDepth 20000 in
theorem ggX8_fit_X8_shrunk : GoodIn wsX8_fit wsX8_shrunk := goodIn_r _ [38, 14, 15, 16, 17, 6, 7, 8, 9, 10, 11, 12, 13, 19, 20, 39, 40, 21, 22, 23, 4, 24, 25, 26, 27, 28, 29, 30, 41, 42, 43, 44, 45, 46, 47, 48, 49, 50, 51, 52, 53, 54, 55, 56, 57, 58, 59, 60, 61, 62, 63, 64, 65, 66, 67, 68, 69, 70, 71, 72, 73, 74, 75, 76] (by decide +kernel) (by decide +kernel)
set_option maxRecDepth 20000 in
theorem gX8_fit_X8_shrunk : GoodIn wsX8_fit (wsV RX8 143 RX8 yX8_shrunk wsX8_shrunk) := goodIn_app (goodIn_of _ (by decide +kernel)) ggX8_fit_X8_shrunk
theorem dX8_fit_0 : decode cX8_fit 0 = .ok (.iload_n 1, 1) := by decide +kernel
theorem dX8_fit_1 : decode cX8_fit 1 = .ok (.ifCond .ne 11, 3) := by decide +kernel
theorem dX8_fit_4 : decode cX8_fit 4 = .ok (.aload_n 0, 1) := by decide +kernel
theorem dX8_fit_5 : decode cX8_fit 5 = .ok (.iload_n 2, 1) := by decide +kernel
theorem dX8_fit_6 : decode cX8_fit 6 = .ok (.invokevirtual 137, 3) := by decide +kernel
theorem dX8_fit_9 : decode cX8_fit 9 = .ok (.goto 21, 3) := by decide +kernel
theorem dX8_fit_12 : decode cX8_fit 12 = .ok (.iload_n 1, 1) := by decide +kernel
theorem dX8_fit_13 : decode cX8_fit 13 = .ok (.iconst 1, 1) := by decide +kernel
theorem dX8_fit_14 : decode cX8_fit 14 = .ok (.if_icmp .ne 11, 3) := by decide +kernel
theorem dX8_fit_17 : decode cX8_fit 17 = .ok (.aload_n 0, 1) := by decide +kernel
theorem dX8_fit_18 : decode cX8_fit 18 = .ok (.iload_n 2, 1) := by decide +kernel
theorem dX8_fit_19 : decode cX8_fit 19 = .ok (.invokevirtual 140, 3) := by decide +kernel
theorem dX8_fit_22 : decode cX8_fit 22 = .ok (.goto 8, 3) := by decide +kernel
theorem dX8_fit_25 : decode cX8_fit 25 = .ok (.aload_n 0, 1) := by decide +kernel
theorem dX8_fit_26 : decode cX8_fit 26 = .ok (.iload_n 2, 1) := by decide +kernel
theorem dX8_fit_27 : decode cX8_fit 27 = .ok (.invokevirtual 143, 3) := by decide +kernel
theorem dX8_fit_30 : decode cX8_fit 30 = .ok (.ireturn, 1) := by decide +kernel
set_option maxRecDepth 20000 in
theorem ggX8_isKind_X8_in : GoodIn wsX8_isKind wsX8_in := goodIn_r _ [4] (by decide +kernel) (by decide +kernel)
set_option maxRecDepth 20000 in
theorem gX8_isKind_X8_in : GoodIn wsX8_isKind (va_wsS RX8 61 yX8_in wsX8_in) := goodIn_app (goodIn_of _ (by decide +kernel)) ggX8_isKind_X8_in
theorem dX8_isKind_0 : decode cX8_isKind 0 = .ok (.iload_n 0, 1) := by decide +kernel
theorem dX8_isKind_1 : decode cX8_isKind 1 = .ok (.iconst 0, 1) := by decide +kernel
theorem dX8_isKind_2 : decode cX8_isKind 2 = .ok (.iconst 2, 1) := by decide +kernel
theorem dX8_isKind_3 : decode cX8_isKind 3 = .ok (.invokestatic 61, 3) := by decide +kernel
theorem dX8_isKind_6 : decode cX8_isKind 6 = .ok (.ireturn, 1) := by decide +kernel
theorem dX8_common_0 : decode cX8_common 0 = .ok (.lload_n 0, 1) := by decide +kernel
theorem dX8_common_1 : decode cX8_common 1 = .ok (.lconst 0, 1) := by decide +kernel
theorem dX8_common_2 : decode cX8_common 2 = .ok (.lcmp, 1) := by decide +kernel
theorem dX8_common_3 : decode cX8_common 3 = .ok (.ifCond .ge 8, 3) := by decide +kernel
theorem dX8_common_6 : decode cX8_common 6 = .ok (.lload_n 0, 1) := by decide +kernel
theorem dX8_common_7 : decode cX8_common 7 = .ok (.lneg, 1) := by decide +kernel
theorem dX8_common_8 : decode cX8_common 8 = .ok (.goto 4, 3) := by decide +kernel
theorem dX8_common_11 : decode cX8_common 11 = .ok (.lload_n 0, 1) := by decide +kernel
theorem dX8_common_12 : decode cX8_common 12 = .ok (.lstore 4, 2) := by decide +kernel
theorem dX8_common_14 : decode cX8_common 14 = .ok (.lload_n 2, 1) := by decide +kernel
theorem dX8_common_15 : decode cX8_common 15 = .ok (.lstore 6, 2) := by decide +kernel
theorem dX8_common_17 : decode cX8_common 17 = .ok (.lload 6, 2) := by decide +kernel
theorem dX8_common_19 : decode cX8_common 19 = .ok (.lconst 0, 1) := by decide +kernel
theorem dX8_common_20 : decode cX8_common 20 = .ok (.lcmp, 1) := by decide +kernel
theorem dX8_common_21 : decode cX8_common 21 = .ok (.ifCond .eq 21, 3) := by decide +kernel
theorem dX8_common_24 : decode cX8_common 24 = .ok (.lload 4, 2) := by decide +kernel
theorem dX8_common_26 : decode cX8_common 26 = .ok (.lload 6, 2) := by decide +kernel
theorem dX8_common_28 : decode cX8_common 28 = .ok (.lrem, 1) := by decide +kernel
theorem dX8_common_29 : decode cX8_common 29 = .ok (.lstore 8, 2) := by decide +kernel
theorem dX8_common_31 : decode cX8_common 31 = .ok (.lload 6, 2) := by decide +kernel
theorem dX8_common_33 : decode cX8_common 33 = .ok (.lstore 4, 2) := by decide +kernel
theorem dX8_common_35 : decode cX8_common 35 = .ok (.lload 8, 2) := by decide +kernel
theorem dX8_common_37 : decode cX8_common 37 = .ok (.lstore 6, 2) := by decide +kernel
theorem dX8_common_39 : decode cX8_common 39 = .ok (.goto (-22), 3) := by decide +kernel
theorem dX8_common_42 : decode cX8_common 42 = .ok (.lload 4, 2) := by decide +kernel
theorem dX8_common_44 : decode cX8_common 44 = .ok (.lreturn, 1) := by decide +kernel
set_option maxRecDepth 20000 in
theorem ggX8_told_X8_common : GoodIn wsX8_told wsX8_common := goodIn_r _ [4] (by decide +kernel) (by decide +kernel)
set_option maxRecDepth 20000 in
theorem gX8_told_X8_common : GoodIn wsX8_told (va_wsS RX8 146 yX8_common wsX8_common) := goodIn_app (goodIn_of _ (by decide +kernel)) ggX8_told_X8_common
theorem dX8_told_0 : decode cX8_told 0 = .ok (.lload_n 0, 1) := by decide +kernel
theorem dX8_told_1 : decode cX8_told 1 = .ok (.lload_n 2, 1) := by decide +kernel
theorem dX8_told_2 : decode cX8_told 2 = .ok (.invokestatic 146, 3) := by decide +kernel
theorem dX8_told_5 : decode cX8_told 5 = .ok (.lstore 5, 2) := by decide +kernel
theorem dX8_told_7 : decode cX8_told 7 = .ok (.iload 4, 2) := by decide +kernel
theorem dX8_told_9 : decode cX8_told 9 = .ok (.ifCond .eq 10, 3) := by decide +kernel
theorem dX8_told_12 : decode cX8_told 12 = .ok (.lload_n 2, 1) := by decide +kernel
theorem dX8_told_13 : decode cX8_told 13 = .ok (.lload 5, 2) := by decide +kernel
theorem dX8_told_15 : decode cX8_told 15 = .ok (.ldiv, 1) := by decide +kernel
theorem dX8_told_16 : decode cX8_told 16 = .ok (.goto 7, 3) := by decide +kernel
theorem dX8_told_19 : decode cX8_told 19 = .ok (.lload_n 0, 1) := by decide +kernel
theorem dX8_told_20 : decode cX8_told 20 = .ok (.lload 5, 2) := by decide +kernel
theorem dX8_told_22 : decode cX8_told 22 = .ok (.ldiv, 1) := by decide +kernel
theorem dX8_told_23 : decode cX8_told 23 = .ok (.lreturn, 1) := by decide +kernel
set_option maxRecDepth 20000 in
theorem ggX8_bend_X8_isKind : GoodIn wsX8_bend wsX8_isKind := goodIn_r _ [13, 14, 15, 12, 16] (by decide +kernel) (by decide +kernel)
set_option maxRecDepth 20000 in
theorem gX8_bend_X8_isKind : GoodIn wsX8_bend (va_wsS RX8 150 yX8_isKind wsX8_isKind) := goodIn_app (goodIn_of _ (by decide +kernel)) ggX8_bend_X8_isKind
set_option maxRecDepth 20000 in
theorem ggX8_bend_X8_in : GoodIn wsX8_bend wsX8_in := goodIn_r _ [16] (by decide +kernel) (by decide +kernel)
set_option maxRecDepth 20000 in
theorem gX8_bend_X8_in : GoodIn wsX8_bend (va_wsS RX8 61 yX8_in wsX8_in) := goodIn_app (goodIn_of _ (by decide +kernel)) ggX8_bend_X8_in
set_option maxRecDepth 20000 in
theorem ggX8_bend_X8_counting : GoodIn wsX8_bend wsX8_counting := goodIn_r _ [20, 21, 22, 23, 64, 65, 66, 67, 68, 69, 70, 71, 72, 73, 74, 75, 76, 77, 78, 79, 80, 81, 82, 83, 84, 85, 86, 87, 88, 89, 90, 91, 92, 93, 94, 95, 96, 97, 98, 99] (by decide +kernel) (by decide +kernel)
set_option maxRecDepth 20000 in
theorem gX8_bend_X8_counting : GoodIn wsX8_bend (wsV RX8 153 RX8 yX8_counting wsX8_counting) := goodIn_app (goodIn_of _ (by decide +kernel)) ggX8_bend_X8_counting
set_option maxRecDepth 20000 in
theorem ggX8_bend_X8_fit : GoodIn wsX8_bend wsX8_fit := goodIn_r _ [27, 28, 29, 30, 12, 31, 32, 33, 2, 3, 34, 35, 4, 5, 6, 7, 8, 9, 36, 37, 38, 39, 40, 41, 42, 21, 43, 44, 45, 46, 47, 48, 49, 50, 51, 52, 53, 54, 55, 56, 57, 64, 65, 66, 67, 68, 69, 70, 71, 72, 73, 74, 75, 76, 77, 78, 79, 80, 81, 82, 83, 84, 85, 86, 87, 88, 89, 90, 91, 92, 93, 94, 95, 96, 97, 98, 99] (by decide +kernel) (by decide +kernel)
set_option maxRecDepth 20000 in
theorem gX8_bend_X8_fit : GoodIn wsX8_bend (wsV RX8 157 RX8 yX8_fit wsX8_fit) := goodIn_app (goodIn_of _ (by decide +kernel)) ggX8_bend_X8_fit
set_option maxRecDepth 20000 in
theorem ggX8_bend_X8_told : GoodIn wsX8_bend wsX8_told := goodIn_r _ [60, 61, 62, 12, 63] (by decide +kernel) (by decide +kernel)
set_option maxRecDepth 20000 in
theorem gX8_bend_X8_told : GoodIn wsX8_bend (va_wsS RX8 162 yX8_told wsX8_told) := goodIn_app (goodIn_of _ (by decide +kernel)) ggX8_bend_X8_told
theorem dX8_bend_0 : decode cX8_bend 0 = .ok (.iload_n 1, 1) := by decide +kernel
theorem dX8_bend_1 : decode cX8_bend 1 = .ok (.invokestatic 150, 3) := by decide +kernel
theorem dX8_bend_4 : decode cX8_bend 4 = .ok (.ifCond .eq 25, 3) := by decide +kernel
theorem dX8_bend_7 : decode cX8_bend 7 = .ok (.iload_n 2, 1) := by decide +kernel
theorem dX8_bend_8 : decode cX8_bend 8 = .ok (.iconst 0, 1) := by decide +kernel
theorem dX8_bend_9 : decode cX8_bend 9 = .ok (.bipush 7, 2) := by decide +kernel
theorem dX8_bend_11 : decode cX8_bend 11 = .ok (.invokestatic 61, 3) := by decide +kernel
theorem dX8_bend_14 : decode cX8_bend 14 = .ok (.ifCond .eq 15, 3) := by decide +kernel
theorem dX8_bend_17 : decode cX8_bend 17 = .ok (.aload_n 0, 1) := by decide +kernel
theorem dX8_bend_18 : decode cX8_bend 18 = .ok (.iload_n 1, 1) := by decide +kernel
theorem dX8_bend_19 : decode cX8_bend 19 = .ok (.aload_n 0, 1) := by decide +kernel
theorem dX8_bend_20 : decode cX8_bend 20 = .ok (.invokevirtual 153, 3) := by decide +kernel
theorem dX8_bend_23 : decode cX8_bend 23 = .ok (.invokevirtual 157, 3) := by decide +kernel
theorem dX8_bend_26 : decode cX8_bend 26 = .ok (.ifCond .ne 7, 3) := by decide +kernel
theorem dX8_bend_29 : decode cX8_bend 29 = .ok (.ldc2_w 160, 3) := by decide +kernel
theorem dX8_bend_32 : decode cX8_bend 32 = .ok (.lreturn, 1) := by decide +kernel
theorem dX8_bend_33 : decode cX8_bend 33 = .ok (.iload_n 2, 1) := by decide +kernel
theorem dX8_bend_34 : decode cX8_bend 34 = .ok (.iconst 2, 1) := by decide +kernel
theorem dX8_bend_35 : decode cX8_bend 35 = .ok (.irem, 1) := by decide +kernel
theorem dX8_bend_36 : decode cX8_bend 36 = .ok (.iconst 1, 1) := by decide +kernel
theorem dX8_bend_37 : decode cX8_bend 37 = .ok (.if_icmp .ne 7, 3) := by decide +kernel
theorem dX8_bend_40 : decode cX8_bend 40 = .ok (.iconst 1, 1) := by decide +kernel
theorem dX8_bend_41 : decode cX8_bend 41 = .ok (.goto 4, 3) := by decide +kernel
theorem dX8_bend_44 : decode cX8_bend 44 = .ok (.iconst 0, 1) := by decide +kernel
theorem dX8_bend_45 : decode cX8_bend 45 = .ok (.istore_n 3, 1) := by decide +kernel
theorem dX8_bend_46 : decode cX8_bend 46 = .ok (.iload_n 2, 1) := by decide +kernel
theorem dX8_bend_47 : decode cX8_bend 47 = .ok (.iconst 2, 1) := by decide +kernel
theorem dX8_bend_48 : decode cX8_bend 48 = .ok (.idiv, 1) := by decide +kernel
theorem dX8_bend_49 : decode cX8_bend 49 = .ok (.tableswitch 66 0 2 #[27, 40, 53], 27) := by decide +kernel
theorem dX8_bend_76 : decode cX8_bend 76 = .ok (.aload_n 0, 1) := by decide +kernel
theorem dX8_bend_77 : decode cX8_bend 77 = .ok (.getfield 90, 3) := by decide +kernel
theorem dX8_bend_80 : decode cX8_bend 80 = .ok (.aload_n 0, 1) := by decide +kernel
theorem dX8_bend_81 : decode cX8_bend 81 = .ok (.getfield 93, 3) := by decide +kernel
theorem dX8_bend_84 : decode cX8_bend 84 = .ok (.iload_n 3, 1) := by decide +kernel
theorem dX8_bend_85 : decode cX8_bend 85 = .ok (.invokestatic 162, 3) := by decide +kernel
theorem dX8_bend_88 : decode cX8_bend 88 = .ok (.lreturn, 1) := by decide +kernel
theorem dX8_bend_89 : decode cX8_bend 89 = .ok (.aload_n 0, 1) := by decide +kernel
theorem dX8_bend_90 : decode cX8_bend 90 = .ok (.getfield 102, 3) := by decide +kernel
theorem dX8_bend_93 : decode cX8_bend 93 = .ok (.aload_n 0, 1) := by decide +kernel
theorem dX8_bend_94 : decode cX8_bend 94 = .ok (.getfield 105, 3) := by decide +kernel
theorem dX8_bend_97 : decode cX8_bend 97 = .ok (.iload_n 3, 1) := by decide +kernel
theorem dX8_bend_98 : decode cX8_bend 98 = .ok (.invokestatic 162, 3) := by decide +kernel
theorem dX8_bend_101 : decode cX8_bend 101 = .ok (.lreturn, 1) := by decide +kernel
theorem dX8_bend_102 : decode cX8_bend 102 = .ok (.aload_n 0, 1) := by decide +kernel
theorem dX8_bend_103 : decode cX8_bend 103 = .ok (.getfield 108, 3) := by decide +kernel
theorem dX8_bend_106 : decode cX8_bend 106 = .ok (.aload_n 0, 1) := by decide +kernel
theorem dX8_bend_107 : decode cX8_bend 107 = .ok (.getfield 111, 3) := by decide +kernel
theorem dX8_bend_110 : decode cX8_bend 110 = .ok (.iload_n 3, 1) := by decide +kernel
theorem dX8_bend_111 : decode cX8_bend 111 = .ok (.invokestatic 162, 3) := by decide +kernel
theorem dX8_bend_114 : decode cX8_bend 114 = .ok (.lreturn, 1) := by decide +kernel
theorem dX8_bend_115 : decode cX8_bend 115 = .ok (.aload_n 0, 1) := by decide +kernel
theorem dX8_bend_116 : decode cX8_bend 116 = .ok (.getfield 114, 3) := by decide +kernel
theorem dX8_bend_119 : decode cX8_bend 119 = .ok (.aload_n 0, 1) := by decide +kernel
theorem dX8_bend_120 : decode cX8_bend 120 = .ok (.getfield 117, 3) := by decide +kernel
theorem dX8_bend_123 : decode cX8_bend 123 = .ok (.iload_n 3, 1) := by decide +kernel
theorem dX8_bend_124 : decode cX8_bend 124 = .ok (.invokestatic 162, 3) := by decide +kernel
theorem dX8_bend_127 : decode cX8_bend 127 = .ok (.lreturn, 1) := by decide +kernel
set_option maxRecDepth 20000 in
theorem ggX8_carry_X8_isKind : GoodIn wsX8_carry wsX8_isKind := goodIn_r _ [13, 14, 15, 12, 16] (by decide +kernel) (by decide +kernel)
set_option maxRecDepth 20000 in
theorem gX8_carry_X8_isKind : GoodIn wsX8_carry (va_wsS RX8 150 yX8_isKind wsX8_isKind) := goodIn_app (goodIn_of _ (by decide +kernel)) ggX8_carry_X8_isKind
set_option maxRecDepth 20000 in
theorem ggX8_carry_X8_isPlace : GoodIn wsX8_carry wsX8_isPlace := goodIn_r _ [19, 14, 15, 12, 16] (by decide +kernel) (by decide +kernel)
set_option maxRecDepth 20000 in
theorem gX8_carry_X8_isPlace : GoodIn wsX8_carry (va_wsS RX8 68 yX8_isPlace wsX8_isPlace) := goodIn_app (goodIn_of _ (by decide +kernel)) ggX8_carry_X8_isPlace
set_option maxRecDepth 20000 in
theorem ggX8_carry_X8_in : GoodIn wsX8_carry wsX8_in := goodIn_r _ [16] (by decide +kernel) (by decide +kernel)
set_option maxRecDepth 20000 in
theorem gX8_carry_X8_in : GoodIn wsX8_carry (va_wsS RX8 61 yX8_in wsX8_in) := goodIn_app (goodIn_of _ (by decide +kernel)) ggX8_carry_X8_in
set_option maxRecDepth 20000 in
theorem ggX8_carry_X8_counting : GoodIn wsX8_carry wsX8_counting := goodIn_r _ [23, 24, 25, 26, 67, 68, 69, 70, 71, 72, 73, 74, 75, 76, 77, 78, 79, 80, 81, 82, 83, 84, 85, 86, 87, 88, 89, 90, 91, 92, 93, 94, 95, 96, 97, 98, 99, 100, 101, 102] (by decide +kernel) (by decide +kernel)
set_option maxRecDepth 20000 in
theorem gX8_carry_X8_counting : GoodIn wsX8_carry (wsV RX8 153 RX8 yX8_counting wsX8_counting) := goodIn_app (goodIn_of _ (by decide +kernel)) ggX8_carry_X8_counting
set_option maxRecDepth 20000 in
theorem ggX8_carry_X8_fit : GoodIn wsX8_carry wsX8_fit := goodIn_r _ [30, 31, 32, 33, 12, 34, 2, 3, 4, 5, 6, 7, 8, 9, 35, 36, 37, 38, 39, 40, 41, 42, 43, 44, 45, 24, 46, 47, 48, 49, 50, 51, 52, 53, 54, 55, 56, 57, 58, 59, 60, 67, 68, 69, 70, 71, 72, 73, 74, 75, 76, 77, 78, 79, 80, 81, 82, 83, 84, 85, 86, 87, 88, 89, 90, 91, 92, 93, 94, 95, 96, 97, 98, 99, 100, 101, 102] (by decide +kernel) (by decide +kernel)
set_option maxRecDepth 20000 in
theorem gX8_carry_X8_fit : GoodIn wsX8_carry (wsV RX8 157 RX8 yX8_fit wsX8_fit) := goodIn_app (goodIn_of _ (by decide +kernel)) ggX8_carry_X8_fit
set_option maxRecDepth 20000 in
theorem ggX8_carry_X8_told : GoodIn wsX8_carry wsX8_told := goodIn_r _ [63, 64, 65, 12, 66] (by decide +kernel) (by decide +kernel)
set_option maxRecDepth 20000 in
theorem gX8_carry_X8_told : GoodIn wsX8_carry (va_wsS RX8 162 yX8_told wsX8_told) := goodIn_app (goodIn_of _ (by decide +kernel)) ggX8_carry_X8_told
theorem dX8_carry_0 : decode cX8_carry 0 = .ok (.iload_n 1, 1) := by decide +kernel
theorem dX8_carry_1 : decode cX8_carry 1 = .ok (.invokestatic 150, 3) := by decide +kernel
theorem dX8_carry_4 : decode cX8_carry 4 = .ok (.ifCond .eq 33, 3) := by decide +kernel
theorem dX8_carry_7 : decode cX8_carry 7 = .ok (.iload_n 2, 1) := by decide +kernel
theorem dX8_carry_8 : decode cX8_carry 8 = .ok (.iload_n 3, 1) := by decide +kernel
theorem dX8_carry_9 : decode cX8_carry 9 = .ok (.invokestatic 68, 3) := by decide +kernel
theorem dX8_carry_12 : decode cX8_carry 12 = .ok (.ifCond .eq 25, 3) := by decide +kernel
theorem dX8_carry_15 : decode cX8_carry 15 = .ok (.iload 4, 2) := by decide +kernel
theorem dX8_carry_17 : decode cX8_carry 17 = .ok (.iconst 0, 1) := by decide +kernel
theorem dX8_carry_18 : decode cX8_carry 18 = .ok (.iconst 3, 1) := by decide +kernel
theorem dX8_carry_19 : decode cX8_carry 19 = .ok (.invokestatic 61, 3) := by decide +kernel
theorem dX8_carry_22 : decode cX8_carry 22 = .ok (.ifCond .eq 15, 3) := by decide +kernel
theorem dX8_carry_25 : decode cX8_carry 25 = .ok (.aload_n 0, 1) := by decide +kernel
theorem dX8_carry_26 : decode cX8_carry 26 = .ok (.iload_n 1, 1) := by decide +kernel
theorem dX8_carry_27 : decode cX8_carry 27 = .ok (.aload_n 0, 1) := by decide +kernel
theorem dX8_carry_28 : decode cX8_carry 28 = .ok (.invokevirtual 153, 3) := by decide +kernel
theorem dX8_carry_31 : decode cX8_carry 31 = .ok (.invokevirtual 157, 3) := by decide +kernel
theorem dX8_carry_34 : decode cX8_carry 34 = .ok (.ifCond .ne 7, 3) := by decide +kernel
theorem dX8_carry_37 : decode cX8_carry 37 = .ok (.ldc2_w 160, 3) := by decide +kernel
theorem dX8_carry_40 : decode cX8_carry 40 = .ok (.lreturn, 1) := by decide +kernel
theorem dX8_carry_41 : decode cX8_carry 41 = .ok (.iload 4, 2) := by decide +kernel
theorem dX8_carry_43 : decode cX8_carry 43 = .ok (.iconst 2, 1) := by decide +kernel
theorem dX8_carry_44 : decode cX8_carry 44 = .ok (.irem, 1) := by decide +kernel
theorem dX8_carry_45 : decode cX8_carry 45 = .ok (.iconst 1, 1) := by decide +kernel
theorem dX8_carry_46 : decode cX8_carry 46 = .ok (.if_icmp .ne 7, 3) := by decide +kernel
theorem dX8_carry_49 : decode cX8_carry 49 = .ok (.iconst 1, 1) := by decide +kernel
theorem dX8_carry_50 : decode cX8_carry 50 = .ok (.goto 4, 3) := by decide +kernel
theorem dX8_carry_53 : decode cX8_carry 53 = .ok (.iconst 0, 1) := by decide +kernel
theorem dX8_carry_54 : decode cX8_carry 54 = .ok (.istore 5, 2) := by decide +kernel
theorem dX8_carry_56 : decode cX8_carry 56 = .ok (.iload 4, 2) := by decide +kernel
theorem dX8_carry_58 : decode cX8_carry 58 = .ok (.iconst 2, 1) := by decide +kernel
theorem dX8_carry_59 : decode cX8_carry 59 = .ok (.if_icmp .ge 35, 3) := by decide +kernel
theorem dX8_carry_62 : decode cX8_carry 62 = .ok (.aload_n 0, 1) := by decide +kernel
theorem dX8_carry_63 : decode cX8_carry 63 = .ok (.getfield 83, 3) := by decide +kernel
theorem dX8_carry_66 : decode cX8_carry 66 = .ok (.iload_n 2, 1) := by decide +kernel
theorem dX8_carry_67 : decode cX8_carry 67 = .ok (.i2l, 1) := by decide +kernel
theorem dX8_carry_68 : decode cX8_carry 68 = .ok (.lmul, 1) := by decide +kernel
theorem dX8_carry_69 : decode cX8_carry 69 = .ok (.aload_n 0, 1) := by decide +kernel
theorem dX8_carry_70 : decode cX8_carry 70 = .ok (.getfield 87, 3) := by decide +kernel
theorem dX8_carry_73 : decode cX8_carry 73 = .ok (.iload_n 3, 1) := by decide +kernel
theorem dX8_carry_74 : decode cX8_carry 74 = .ok (.i2l, 1) := by decide +kernel
theorem dX8_carry_75 : decode cX8_carry 75 = .ok (.lmul, 1) := by decide +kernel
theorem dX8_carry_76 : decode cX8_carry 76 = .ok (.ladd, 1) := by decide +kernel
theorem dX8_carry_77 : decode cX8_carry 77 = .ok (.aload_n 0, 1) := by decide +kernel
theorem dX8_carry_78 : decode cX8_carry 78 = .ok (.getfield 90, 3) := by decide +kernel
theorem dX8_carry_81 : decode cX8_carry 81 = .ok (.ladd, 1) := by decide +kernel
theorem dX8_carry_82 : decode cX8_carry 82 = .ok (.aload_n 0, 1) := by decide +kernel
theorem dX8_carry_83 : decode cX8_carry 83 = .ok (.getfield 93, 3) := by decide +kernel
theorem dX8_carry_86 : decode cX8_carry 86 = .ok (.iload 5, 2) := by decide +kernel
theorem dX8_carry_88 : decode cX8_carry 88 = .ok (.invokestatic 162, 3) := by decide +kernel
theorem dX8_carry_91 : decode cX8_carry 91 = .ok (.goto 32, 3) := by decide +kernel
theorem dX8_carry_94 : decode cX8_carry 94 = .ok (.aload_n 0, 1) := by decide +kernel
theorem dX8_carry_95 : decode cX8_carry 95 = .ok (.getfield 96, 3) := by decide +kernel
theorem dX8_carry_98 : decode cX8_carry 98 = .ok (.iload_n 2, 1) := by decide +kernel
theorem dX8_carry_99 : decode cX8_carry 99 = .ok (.i2l, 1) := by decide +kernel
theorem dX8_carry_100 : decode cX8_carry 100 = .ok (.lmul, 1) := by decide +kernel
theorem dX8_carry_101 : decode cX8_carry 101 = .ok (.aload_n 0, 1) := by decide +kernel
theorem dX8_carry_102 : decode cX8_carry 102 = .ok (.getfield 99, 3) := by decide +kernel
theorem dX8_carry_105 : decode cX8_carry 105 = .ok (.iload_n 3, 1) := by decide +kernel
theorem dX8_carry_106 : decode cX8_carry 106 = .ok (.i2l, 1) := by decide +kernel
theorem dX8_carry_107 : decode cX8_carry 107 = .ok (.lmul, 1) := by decide +kernel
theorem dX8_carry_108 : decode cX8_carry 108 = .ok (.ladd, 1) := by decide +kernel
theorem dX8_carry_109 : decode cX8_carry 109 = .ok (.aload_n 0, 1) := by decide +kernel
theorem dX8_carry_110 : decode cX8_carry 110 = .ok (.getfield 102, 3) := by decide +kernel
theorem dX8_carry_113 : decode cX8_carry 113 = .ok (.ladd, 1) := by decide +kernel
theorem dX8_carry_114 : decode cX8_carry 114 = .ok (.aload_n 0, 1) := by decide +kernel
theorem dX8_carry_115 : decode cX8_carry 115 = .ok (.getfield 105, 3) := by decide +kernel
theorem dX8_carry_118 : decode cX8_carry 118 = .ok (.iload 5, 2) := by decide +kernel
theorem dX8_carry_120 : decode cX8_carry 120 = .ok (.invokestatic 162, 3) := by decide +kernel
theorem dX8_carry_123 : decode cX8_carry 123 = .ok (.lreturn, 1) := by decide +kernel
theorem dX8_offOf_0 : decode cX8_offOf 0 = .ok (.aload_n 0, 1) := by decide +kernel
theorem dX8_offOf_1 : decode cX8_offOf 1 = .ok (.getfield 7, 3) := by decide +kernel
theorem dX8_offOf_4 : decode cX8_offOf 4 = .ok (.iconst 4, 1) := by decide +kernel
theorem dX8_offOf_5 : decode cX8_offOf 5 = .ok (.iload_n 1, 1) := by decide +kernel
theorem dX8_offOf_6 : decode cX8_offOf 6 = .ok (.imul, 1) := by decide +kernel
theorem dX8_offOf_7 : decode cX8_offOf 7 = .ok (.iaload, 1) := by decide +kernel
theorem dX8_offOf_8 : decode cX8_offOf 8 = .ok (.i2l, 1) := by decide +kernel
theorem dX8_offOf_9 : decode cX8_offOf 9 = .ok (.lstore_n 3, 1) := by decide +kernel
theorem dX8_offOf_10 : decode cX8_offOf 10 = .ok (.aload_n 0, 1) := by decide +kernel
theorem dX8_offOf_11 : decode cX8_offOf 11 = .ok (.getfield 7, 3) := by decide +kernel
theorem dX8_offOf_14 : decode cX8_offOf 14 = .ok (.iconst 4, 1) := by decide +kernel
theorem dX8_offOf_15 : decode cX8_offOf 15 = .ok (.iload_n 1, 1) := by decide +kernel
theorem dX8_offOf_16 : decode cX8_offOf 16 = .ok (.imul, 1) := by decide +kernel
theorem dX8_offOf_17 : decode cX8_offOf 17 = .ok (.iconst 1, 1) := by decide +kernel
theorem dX8_offOf_18 : decode cX8_offOf 18 = .ok (.iadd, 1) := by decide +kernel
theorem dX8_offOf_19 : decode cX8_offOf 19 = .ok (.iaload, 1) := by decide +kernel
theorem dX8_offOf_20 : decode cX8_offOf 20 = .ok (.i2l, 1) := by decide +kernel
theorem dX8_offOf_21 : decode cX8_offOf 21 = .ok (.lstore 5, 2) := by decide +kernel
theorem dX8_offOf_23 : decode cX8_offOf 23 = .ok (.iload_n 2, 1) := by decide +kernel
theorem dX8_offOf_24 : decode cX8_offOf 24 = .ok (.ifCond .eq 42, 3) := by decide +kernel
theorem dX8_offOf_27 : decode cX8_offOf 27 = .ok (.aload_n 0, 1) := by decide +kernel
theorem dX8_offOf_28 : decode cX8_offOf 28 = .ok (.getfield 7, 3) := by decide +kernel
theorem dX8_offOf_31 : decode cX8_offOf 31 = .ok (.iconst 4, 1) := by decide +kernel
theorem dX8_offOf_32 : decode cX8_offOf 32 = .ok (.iload_n 1, 1) := by decide +kernel
theorem dX8_offOf_33 : decode cX8_offOf 33 = .ok (.imul, 1) := by decide +kernel
theorem dX8_offOf_34 : decode cX8_offOf 34 = .ok (.iconst 3, 1) := by decide +kernel
theorem dX8_offOf_35 : decode cX8_offOf 35 = .ok (.iadd, 1) := by decide +kernel
theorem dX8_offOf_36 : decode cX8_offOf 36 = .ok (.iaload, 1) := by decide +kernel
theorem dX8_offOf_37 : decode cX8_offOf 37 = .ok (.i2l, 1) := by decide +kernel
theorem dX8_offOf_38 : decode cX8_offOf 38 = .ok (.aload_n 0, 1) := by decide +kernel
theorem dX8_offOf_39 : decode cX8_offOf 39 = .ok (.getfield 105, 3) := by decide +kernel
theorem dX8_offOf_42 : decode cX8_offOf 42 = .ok (.lmul, 1) := by decide +kernel
theorem dX8_offOf_43 : decode cX8_offOf 43 = .ok (.aload_n 0, 1) := by decide +kernel
theorem dX8_offOf_44 : decode cX8_offOf 44 = .ok (.getfield 96, 3) := by decide +kernel
theorem dX8_offOf_47 : decode cX8_offOf 47 = .ok (.lload_n 3, 1) := by decide +kernel
theorem dX8_offOf_48 : decode cX8_offOf 48 = .ok (.lmul, 1) := by decide +kernel
theorem dX8_offOf_49 : decode cX8_offOf 49 = .ok (.aload_n 0, 1) := by decide +kernel
theorem dX8_offOf_50 : decode cX8_offOf 50 = .ok (.getfield 99, 3) := by decide +kernel
theorem dX8_offOf_53 : decode cX8_offOf 53 = .ok (.lload 5, 2) := by decide +kernel
theorem dX8_offOf_55 : decode cX8_offOf 55 = .ok (.lmul, 1) := by decide +kernel
theorem dX8_offOf_56 : decode cX8_offOf 56 = .ok (.ladd, 1) := by decide +kernel
theorem dX8_offOf_57 : decode cX8_offOf 57 = .ok (.aload_n 0, 1) := by decide +kernel
theorem dX8_offOf_58 : decode cX8_offOf 58 = .ok (.getfield 102, 3) := by decide +kernel
theorem dX8_offOf_61 : decode cX8_offOf 61 = .ok (.ladd, 1) := by decide +kernel
theorem dX8_offOf_62 : decode cX8_offOf 62 = .ok (.lsub, 1) := by decide +kernel
theorem dX8_offOf_63 : decode cX8_offOf 63 = .ok (.goto 39, 3) := by decide +kernel
theorem dX8_offOf_66 : decode cX8_offOf 66 = .ok (.aload_n 0, 1) := by decide +kernel
theorem dX8_offOf_67 : decode cX8_offOf 67 = .ok (.getfield 7, 3) := by decide +kernel
theorem dX8_offOf_70 : decode cX8_offOf 70 = .ok (.iconst 4, 1) := by decide +kernel
theorem dX8_offOf_71 : decode cX8_offOf 71 = .ok (.iload_n 1, 1) := by decide +kernel
theorem dX8_offOf_72 : decode cX8_offOf 72 = .ok (.imul, 1) := by decide +kernel
theorem dX8_offOf_73 : decode cX8_offOf 73 = .ok (.iconst 2, 1) := by decide +kernel
theorem dX8_offOf_74 : decode cX8_offOf 74 = .ok (.iadd, 1) := by decide +kernel
theorem dX8_offOf_75 : decode cX8_offOf 75 = .ok (.iaload, 1) := by decide +kernel
theorem dX8_offOf_76 : decode cX8_offOf 76 = .ok (.i2l, 1) := by decide +kernel
theorem dX8_offOf_77 : decode cX8_offOf 77 = .ok (.aload_n 0, 1) := by decide +kernel
theorem dX8_offOf_78 : decode cX8_offOf 78 = .ok (.getfield 93, 3) := by decide +kernel
theorem dX8_offOf_81 : decode cX8_offOf 81 = .ok (.lmul, 1) := by decide +kernel
theorem dX8_offOf_82 : decode cX8_offOf 82 = .ok (.aload_n 0, 1) := by decide +kernel
theorem dX8_offOf_83 : decode cX8_offOf 83 = .ok (.getfield 83, 3) := by decide +kernel
theorem dX8_offOf_86 : decode cX8_offOf 86 = .ok (.lload_n 3, 1) := by decide +kernel
theorem dX8_offOf_87 : decode cX8_offOf 87 = .ok (.lmul, 1) := by decide +kernel
theorem dX8_offOf_88 : decode cX8_offOf 88 = .ok (.aload_n 0, 1) := by decide +kernel
theorem dX8_offOf_89 : decode cX8_offOf 89 = .ok (.getfield 87, 3) := by decide +kernel
theorem dX8_offOf_92 : decode cX8_offOf 92 = .ok (.lload 5, 2) := by decide +kernel
theorem dX8_offOf_94 : decode cX8_offOf 94 = .ok (.lmul, 1) := by decide +kernel
theorem dX8_offOf_95 : decode cX8_offOf 95 = .ok (.ladd, 1) := by decide +kernel
theorem dX8_offOf_96 : decode cX8_offOf 96 = .ok (.aload_n 0, 1) := by decide +kernel
theorem dX8_offOf_97 : decode cX8_offOf 97 = .ok (.getfield 90, 3) := by decide +kernel
theorem dX8_offOf_100 : decode cX8_offOf 100 = .ok (.ladd, 1) := by decide +kernel
theorem dX8_offOf_101 : decode cX8_offOf 101 = .ok (.lsub, 1) := by decide +kernel
theorem dX8_offOf_102 : decode cX8_offOf 102 = .ok (.lreturn, 1) := by decide +kernel
set_option maxRecDepth 20000 in
theorem ggX8_off_X8_isPoint : GoodIn wsX8_off wsX8_isPoint := goodIn_r _ [8, 9, 10, 11, 7, 12, 72, 73, 74, 75, 76, 77, 78, 79, 80, 81, 82, 83, 84, 85, 86, 87, 88, 89, 90, 91, 92, 93, 94, 95, 96, 97, 98, 99, 100, 101, 102, 103, 104, 105, 106, 107] (by decide +kernel) (by decide +kernel)
set_option maxRecDepth 20000 in
theorem gX8_off_X8_isPoint : GoodIn wsX8_off (wsV RX8 72 RX8 yX8_isPoint wsX8_isPoint) := goodIn_app (goodIn_of _ (by decide +kernel)) ggX8_off_X8_isPoint
set_option maxRecDepth 20000 in
theorem ggX8_off_X8_isKind : GoodIn wsX8_off wsX8_isKind := goodIn_r _ [15, 10, 11, 7, 12] (by decide +kernel) (by decide +kernel)
set_option maxRecDepth 20000 in
theorem gX8_off_X8_isKind : GoodIn wsX8_off (va_wsS RX8 150 yX8_isKind wsX8_isKind) := goodIn_app (goodIn_of _ (by decide +kernel)) ggX8_off_X8_isKind
set_option maxRecDepth 20000 in
theorem ggX8_off_X8_in : GoodIn wsX8_off wsX8_in := goodIn_r _ [12] (by decide +kernel) (by decide +kernel)
set_option maxRecDepth 20000 in
theorem gX8_off_X8_in : GoodIn wsX8_off (va_wsS RX8 61 yX8_in wsX8_in) := goodIn_app (goodIn_of _ (by decide +kernel)) ggX8_off_X8_in
set_option maxRecDepth 20000 in
theorem ggX8_off_X8_counting : GoodIn wsX8_off wsX8_counting := goodIn_r _ [19, 9, 20, 21, 72, 73, 74, 75, 76, 77, 78, 79, 80, 81, 82, 83, 84, 85, 86, 87, 88, 89, 90, 91, 92, 93, 94, 95, 96, 97, 98, 99, 100, 101, 102, 103, 104, 105, 106, 107] (by decide +kernel) (by decide +kernel)
set_option maxRecDepth 20000 in
theorem gX8_off_X8_counting : GoodIn wsX8_off (wsV RX8 153 RX8 yX8_counting wsX8_counting) := goodIn_app (goodIn_of _ (by decide +kernel)) ggX8_off_X8_counting
set_option maxRecDepth 20000 in
theorem ggX8_off_X8_fit : GoodIn wsX8_off wsX8_fit := goodIn_r _ [25, 26, 27, 28, 7, 29, 30, 31, 32, 3, 33, 34, 35, 2, 36, 37, 38, 39, 40, 41, 42, 43, 44, 45, 46, 9, 47, 48, 49, 50, 51, 52, 53, 54, 55, 56, 57, 58, 59, 60, 61, 72, 73, 74, 75, 76, 77, 78, 79, 80, 81, 82, 83, 84, 85, 86, 87, 88, 89, 90, 91, 92, 93, 94, 95, 96, 97, 98, 99, 100, 101, 102, 103, 104, 105, 106, 107] (by decide +kernel) (by decide +kernel)
set_option maxRecDepth 20000 in
theorem gX8_off_X8_fit : GoodIn wsX8_off (wsV RX8 157 RX8 yX8_fit wsX8_fit) := goodIn_app (goodIn_of _ (by decide +kernel)) ggX8_off_X8_fit
set_option maxRecDepth 20000 in
theorem ggX8_off_X8_offOf : GoodIn wsX8_off wsX8_offOf := goodIn_r _ [65, 47, 2, 33, 34, 35, 3, 30, 31, 32, 72, 73, 74, 75, 76, 77, 78, 79, 80, 81, 82, 83, 84, 85, 86, 87, 88, 89, 90, 91, 92, 93, 94, 95, 96, 97, 98, 99, 100, 101, 102, 103, 104, 105, 106, 107] (by decide +kernel) (by decide +kernel)
set_option maxRecDepth 20000 in
theorem gX8_off_X8_offOf : GoodIn wsX8_off (wsV RX8 166 RX8 yX8_offOf wsX8_offOf) := goodIn_app (goodIn_of _ (by decide +kernel)) ggX8_off_X8_offOf
set_option maxRecDepth 20000 in
theorem ggX8_off_X8_told : GoodIn wsX8_off wsX8_told := goodIn_r _ [68, 69, 70, 7, 71] (by decide +kernel) (by decide +kernel)
set_option maxRecDepth 20000 in
theorem gX8_off_X8_told : GoodIn wsX8_off (va_wsS RX8 162 yX8_told wsX8_told) := goodIn_app (goodIn_of _ (by decide +kernel)) ggX8_off_X8_told
theorem dX8_off_0 : decode cX8_off 0 = .ok (.aload_n 0, 1) := by decide +kernel
theorem dX8_off_1 : decode cX8_off 1 = .ok (.iload_n 2, 1) := by decide +kernel
theorem dX8_off_2 : decode cX8_off 2 = .ok (.invokevirtual 72, 3) := by decide +kernel
theorem dX8_off_5 : decode cX8_off 5 = .ok (.ifCond .eq 31, 3) := by decide +kernel
theorem dX8_off_8 : decode cX8_off 8 = .ok (.iload_n 1, 1) := by decide +kernel
theorem dX8_off_9 : decode cX8_off 9 = .ok (.invokestatic 150, 3) := by decide +kernel
theorem dX8_off_12 : decode cX8_off 12 = .ok (.ifCond .eq 24, 3) := by decide +kernel
theorem dX8_off_15 : decode cX8_off 15 = .ok (.iload_n 3, 1) := by decide +kernel
theorem dX8_off_16 : decode cX8_off 16 = .ok (.iconst 0, 1) := by decide +kernel
theorem dX8_off_17 : decode cX8_off 17 = .ok (.iconst 3, 1) := by decide +kernel
theorem dX8_off_18 : decode cX8_off 18 = .ok (.invokestatic 61, 3) := by decide +kernel
theorem dX8_off_21 : decode cX8_off 21 = .ok (.ifCond .eq 15, 3) := by decide +kernel
theorem dX8_off_24 : decode cX8_off 24 = .ok (.aload_n 0, 1) := by decide +kernel
theorem dX8_off_25 : decode cX8_off 25 = .ok (.iload_n 1, 1) := by decide +kernel
theorem dX8_off_26 : decode cX8_off 26 = .ok (.aload_n 0, 1) := by decide +kernel
theorem dX8_off_27 : decode cX8_off 27 = .ok (.invokevirtual 153, 3) := by decide +kernel
theorem dX8_off_30 : decode cX8_off 30 = .ok (.invokevirtual 157, 3) := by decide +kernel
theorem dX8_off_33 : decode cX8_off 33 = .ok (.ifCond .ne 7, 3) := by decide +kernel
theorem dX8_off_36 : decode cX8_off 36 = .ok (.ldc2_w 160, 3) := by decide +kernel
theorem dX8_off_39 : decode cX8_off 39 = .ok (.lreturn, 1) := by decide +kernel
theorem dX8_off_40 : decode cX8_off 40 = .ok (.aload_n 0, 1) := by decide +kernel
theorem dX8_off_41 : decode cX8_off 41 = .ok (.iload_n 2, 1) := by decide +kernel
theorem dX8_off_42 : decode cX8_off 42 = .ok (.iload_n 3, 1) := by decide +kernel
theorem dX8_off_43 : decode cX8_off 43 = .ok (.iconst 1, 1) := by decide +kernel
theorem dX8_off_44 : decode cX8_off 44 = .ok (.if_icmp .le 7, 3) := by decide +kernel
theorem dX8_off_47 : decode cX8_off 47 = .ok (.iconst 1, 1) := by decide +kernel
theorem dX8_off_48 : decode cX8_off 48 = .ok (.goto 4, 3) := by decide +kernel
theorem dX8_off_51 : decode cX8_off 51 = .ok (.iconst 0, 1) := by decide +kernel
theorem dX8_off_52 : decode cX8_off 52 = .ok (.invokevirtual 166, 3) := by decide +kernel
theorem dX8_off_55 : decode cX8_off 55 = .ok (.iload_n 3, 1) := by decide +kernel
theorem dX8_off_56 : decode cX8_off 56 = .ok (.iconst 1, 1) := by decide +kernel
theorem dX8_off_57 : decode cX8_off 57 = .ok (.if_icmp .le 10, 3) := by decide +kernel
theorem dX8_off_60 : decode cX8_off 60 = .ok (.aload_n 0, 1) := by decide +kernel
theorem dX8_off_61 : decode cX8_off 61 = .ok (.getfield 105, 3) := by decide +kernel
theorem dX8_off_64 : decode cX8_off 64 = .ok (.goto 7, 3) := by decide +kernel
theorem dX8_off_67 : decode cX8_off 67 = .ok (.aload_n 0, 1) := by decide +kernel
theorem dX8_off_68 : decode cX8_off 68 = .ok (.getfield 93, 3) := by decide +kernel
theorem dX8_off_71 : decode cX8_off 71 = .ok (.iload_n 3, 1) := by decide +kernel
theorem dX8_off_72 : decode cX8_off 72 = .ok (.iconst 2, 1) := by decide +kernel
theorem dX8_off_73 : decode cX8_off 73 = .ok (.irem, 1) := by decide +kernel
theorem dX8_off_74 : decode cX8_off 74 = .ok (.iconst 1, 1) := by decide +kernel
theorem dX8_off_75 : decode cX8_off 75 = .ok (.if_icmp .ne 7, 3) := by decide +kernel
theorem dX8_off_78 : decode cX8_off 78 = .ok (.iconst 1, 1) := by decide +kernel
theorem dX8_off_79 : decode cX8_off 79 = .ok (.goto 4, 3) := by decide +kernel
theorem dX8_off_82 : decode cX8_off 82 = .ok (.iconst 0, 1) := by decide +kernel
theorem dX8_off_83 : decode cX8_off 83 = .ok (.invokestatic 162, 3) := by decide +kernel
theorem dX8_off_86 : decode cX8_off 86 = .ok (.lreturn, 1) := by decide +kernel
set_option maxRecDepth 20000 in
theorem ggX8_miss_X8_isKind : GoodIn wsX8_miss wsX8_isKind := goodIn_r _ [9, 10, 11, 8, 12] (by decide +kernel) (by decide +kernel)
set_option maxRecDepth 20000 in
theorem gX8_miss_X8_isKind : GoodIn wsX8_miss (va_wsS RX8 150 yX8_isKind wsX8_isKind) := goodIn_app (goodIn_of _ (by decide +kernel)) ggX8_miss_X8_isKind
set_option maxRecDepth 20000 in
theorem ggX8_miss_X8_in : GoodIn wsX8_miss wsX8_in := goodIn_r _ [12] (by decide +kernel) (by decide +kernel)
set_option maxRecDepth 20000 in
theorem gX8_miss_X8_in : GoodIn wsX8_miss (va_wsS RX8 61 yX8_in wsX8_in) := goodIn_app (goodIn_of _ (by decide +kernel)) ggX8_miss_X8_in
set_option maxRecDepth 20000 in
theorem ggX8_miss_X8_counting : GoodIn wsX8_miss wsX8_counting := goodIn_r _ [16, 17, 18, 19, 64, 65, 66, 67, 68, 69, 70, 71, 72, 73, 74, 75, 76, 77, 78, 79, 80, 81, 82, 83, 84, 85, 86, 87, 88, 89, 90, 91, 92, 93, 94, 95, 96, 97, 98, 99] (by decide +kernel) (by decide +kernel)
set_option maxRecDepth 20000 in
theorem gX8_miss_X8_counting : GoodIn wsX8_miss (wsV RX8 153 RX8 yX8_counting wsX8_counting) := goodIn_app (goodIn_of _ (by decide +kernel)) ggX8_miss_X8_counting
set_option maxRecDepth 20000 in
theorem ggX8_miss_X8_fit : GoodIn wsX8_miss wsX8_fit := goodIn_r _ [23, 24, 25, 26, 8, 27, 28, 29, 30, 31, 32, 33, 34, 35, 36, 37, 38, 39, 40, 2, 3, 41, 42, 43, 44, 17, 45, 46, 47, 48, 49, 50, 51, 52, 53, 54, 55, 56, 57, 4, 5, 64, 65, 66, 67, 68, 69, 70, 71, 72, 73, 74, 75, 76, 77, 78, 79, 80, 81, 82, 83, 84, 85, 86, 87, 88, 89, 90, 91, 92, 93, 94, 95, 96, 97, 98, 99] (by decide +kernel) (by decide +kernel)
set_option maxRecDepth 20000 in
theorem gX8_miss_X8_fit : GoodIn wsX8_miss (wsV RX8 157 RX8 yX8_fit wsX8_fit) := goodIn_app (goodIn_of _ (by decide +kernel)) ggX8_miss_X8_fit
set_option maxRecDepth 20000 in
theorem ggX8_miss_X8_told : GoodIn wsX8_miss wsX8_told := goodIn_r _ [60, 61, 62, 8, 63] (by decide +kernel) (by decide +kernel)
set_option maxRecDepth 20000 in
theorem gX8_miss_X8_told : GoodIn wsX8_miss (va_wsS RX8 162 yX8_told wsX8_told) := goodIn_app (goodIn_of _ (by decide +kernel)) ggX8_miss_X8_told
theorem dX8_miss_0 : decode cX8_miss 0 = .ok (.iload_n 1, 1) := by decide +kernel
theorem dX8_miss_1 : decode cX8_miss 1 = .ok (.invokestatic 150, 3) := by decide +kernel
theorem dX8_miss_4 : decode cX8_miss 4 = .ok (.ifCond .eq 33, 3) := by decide +kernel
theorem dX8_miss_7 : decode cX8_miss 7 = .ok (.iload_n 2, 1) := by decide +kernel
theorem dX8_miss_8 : decode cX8_miss 8 = .ok (.iconst 0, 1) := by decide +kernel
theorem dX8_miss_9 : decode cX8_miss 9 = .ok (.iload_n 1, 1) := by decide +kernel
theorem dX8_miss_10 : decode cX8_miss 10 = .ok (.iconst 2, 1) := by decide +kernel
theorem dX8_miss_11 : decode cX8_miss 11 = .ok (.if_icmp .ne 7, 3) := by decide +kernel
theorem dX8_miss_14 : decode cX8_miss 14 = .ok (.iconst 3, 1) := by decide +kernel
theorem dX8_miss_15 : decode cX8_miss 15 = .ok (.goto 4, 3) := by decide +kernel
theorem dX8_miss_18 : decode cX8_miss 18 = .ok (.iconst 1, 1) := by decide +kernel
theorem dX8_miss_19 : decode cX8_miss 19 = .ok (.invokestatic 61, 3) := by decide +kernel
theorem dX8_miss_22 : decode cX8_miss 22 = .ok (.ifCond .eq 15, 3) := by decide +kernel
theorem dX8_miss_25 : decode cX8_miss 25 = .ok (.aload_n 0, 1) := by decide +kernel
theorem dX8_miss_26 : decode cX8_miss 26 = .ok (.iload_n 1, 1) := by decide +kernel
theorem dX8_miss_27 : decode cX8_miss 27 = .ok (.aload_n 0, 1) := by decide +kernel
theorem dX8_miss_28 : decode cX8_miss 28 = .ok (.invokevirtual 153, 3) := by decide +kernel
theorem dX8_miss_31 : decode cX8_miss 31 = .ok (.invokevirtual 157, 3) := by decide +kernel
theorem dX8_miss_34 : decode cX8_miss 34 = .ok (.ifCond .ne 7, 3) := by decide +kernel
theorem dX8_miss_37 : decode cX8_miss 37 = .ok (.ldc2_w 160, 3) := by decide +kernel
theorem dX8_miss_40 : decode cX8_miss 40 = .ok (.lreturn, 1) := by decide +kernel
theorem dX8_miss_41 : decode cX8_miss 41 = .ok (.iload_n 2, 1) := by decide +kernel
theorem dX8_miss_42 : decode cX8_miss 42 = .ok (.iconst 2, 1) := by decide +kernel
theorem dX8_miss_43 : decode cX8_miss 43 = .ok (.if_icmp .ge 27, 3) := by decide +kernel
theorem dX8_miss_46 : decode cX8_miss 46 = .ok (.aload_n 0, 1) := by decide +kernel
theorem dX8_miss_47 : decode cX8_miss 47 = .ok (.getfield 125, 3) := by decide +kernel
theorem dX8_miss_50 : decode cX8_miss 50 = .ok (.aload_n 0, 1) := by decide +kernel
theorem dX8_miss_51 : decode cX8_miss 51 = .ok (.getfield 128, 3) := by decide +kernel
theorem dX8_miss_54 : decode cX8_miss 54 = .ok (.iload_n 2, 1) := by decide +kernel
theorem dX8_miss_55 : decode cX8_miss 55 = .ok (.iconst 1, 1) := by decide +kernel
theorem dX8_miss_56 : decode cX8_miss 56 = .ok (.if_icmp .ne 7, 3) := by decide +kernel
theorem dX8_miss_59 : decode cX8_miss 59 = .ok (.iconst 1, 1) := by decide +kernel
theorem dX8_miss_60 : decode cX8_miss 60 = .ok (.goto 4, 3) := by decide +kernel
theorem dX8_miss_63 : decode cX8_miss 63 = .ok (.iconst 0, 1) := by decide +kernel
theorem dX8_miss_64 : decode cX8_miss 64 = .ok (.invokestatic 162, 3) := by decide +kernel
theorem dX8_miss_67 : decode cX8_miss 67 = .ok (.goto 24, 3) := by decide +kernel
theorem dX8_miss_70 : decode cX8_miss 70 = .ok (.aload_n 0, 1) := by decide +kernel
theorem dX8_miss_71 : decode cX8_miss 71 = .ok (.getfield 131, 3) := by decide +kernel
theorem dX8_miss_74 : decode cX8_miss 74 = .ok (.aload_n 0, 1) := by decide +kernel
theorem dX8_miss_75 : decode cX8_miss 75 = .ok (.getfield 134, 3) := by decide +kernel
theorem dX8_miss_78 : decode cX8_miss 78 = .ok (.iload_n 2, 1) := by decide +kernel
theorem dX8_miss_79 : decode cX8_miss 79 = .ok (.iconst 3, 1) := by decide +kernel
theorem dX8_miss_80 : decode cX8_miss 80 = .ok (.if_icmp .ne 7, 3) := by decide +kernel
theorem dX8_miss_83 : decode cX8_miss 83 = .ok (.iconst 1, 1) := by decide +kernel
theorem dX8_miss_84 : decode cX8_miss 84 = .ok (.goto 4, 3) := by decide +kernel
theorem dX8_miss_87 : decode cX8_miss 87 = .ok (.iconst 0, 1) := by decide +kernel
theorem dX8_miss_88 : decode cX8_miss 88 = .ok (.invokestatic 162, 3) := by decide +kernel
theorem dX8_miss_91 : decode cX8_miss 91 = .ok (.lreturn, 1) := by decide +kernel
set_option maxRecDepth 20000 in
theorem ggX8_isBeyond_X8_offOf : GoodIn wsX8_isBeyond wsX8_offOf := goodIn_r _ [8, 9, 3, 10, 11, 12, 2, 13, 14, 15, 16, 17, 18, 19, 20, 21, 22, 23, 24, 25, 26, 27, 28, 29, 30, 31, 32, 33, 34, 35, 36, 37, 38, 39, 40, 41, 42, 43, 44, 45, 46, 47, 48, 49, 50, 51] (by decide +kernel) (by decide +kernel)
set_option maxRecDepth 20000 in
theorem gX8_isBeyond_X8_offOf : GoodIn wsX8_isBeyond (wsV RX8 166 RX8 yX8_offOf wsX8_offOf) := goodIn_app (goodIn_of _ (by decide +kernel)) ggX8_isBeyond_X8_offOf
theorem dX8_isBeyond_0 : decode cX8_isBeyond 0 = .ok (.aload_n 0, 1) := by decide +kernel
theorem dX8_isBeyond_1 : decode cX8_isBeyond 1 = .ok (.iload_n 1, 1) := by decide +kernel
theorem dX8_isBeyond_2 : decode cX8_isBeyond 2 = .ok (.iconst 0, 1) := by decide +kernel
theorem dX8_isBeyond_3 : decode cX8_isBeyond 3 = .ok (.invokevirtual 166, 3) := by decide +kernel
theorem dX8_isBeyond_6 : decode cX8_isBeyond 6 = .ok (.lstore_n 2, 1) := by decide +kernel
theorem dX8_isBeyond_7 : decode cX8_isBeyond 7 = .ok (.aload_n 0, 1) := by decide +kernel
theorem dX8_isBeyond_8 : decode cX8_isBeyond 8 = .ok (.iload_n 1, 1) := by decide +kernel
theorem dX8_isBeyond_9 : decode cX8_isBeyond 9 = .ok (.iconst 1, 1) := by decide +kernel
theorem dX8_isBeyond_10 : decode cX8_isBeyond 10 = .ok (.invokevirtual 166, 3) := by decide +kernel
theorem dX8_isBeyond_13 : decode cX8_isBeyond 13 = .ok (.lstore 4, 2) := by decide +kernel
theorem dX8_isBeyond_15 : decode cX8_isBeyond 15 = .ok (.lload_n 2, 1) := by decide +kernel
theorem dX8_isBeyond_16 : decode cX8_isBeyond 16 = .ok (.lconst 0, 1) := by decide +kernel
theorem dX8_isBeyond_17 : decode cX8_isBeyond 17 = .ok (.lcmp, 1) := by decide +kernel
theorem dX8_isBeyond_18 : decode cX8_isBeyond 18 = .ok (.ifCond .ge 8, 3) := by decide +kernel
theorem dX8_isBeyond_21 : decode cX8_isBeyond 21 = .ok (.lload_n 2, 1) := by decide +kernel
theorem dX8_isBeyond_22 : decode cX8_isBeyond 22 = .ok (.lneg, 1) := by decide +kernel
theorem dX8_isBeyond_23 : decode cX8_isBeyond 23 = .ok (.goto 4, 3) := by decide +kernel
theorem dX8_isBeyond_26 : decode cX8_isBeyond 26 = .ok (.lload_n 2, 1) := by decide +kernel
theorem dX8_isBeyond_27 : decode cX8_isBeyond 27 = .ok (.aload_n 0, 1) := by decide +kernel
theorem dX8_isBeyond_28 : decode cX8_isBeyond 28 = .ok (.getfield 29, 3) := by decide +kernel
theorem dX8_isBeyond_31 : decode cX8_isBeyond 31 = .ok (.i2l, 1) := by decide +kernel
theorem dX8_isBeyond_32 : decode cX8_isBeyond 32 = .ok (.aload_n 0, 1) := by decide +kernel
theorem dX8_isBeyond_33 : decode cX8_isBeyond 33 = .ok (.getfield 93, 3) := by decide +kernel
theorem dX8_isBeyond_36 : decode cX8_isBeyond 36 = .ok (.lmul, 1) := by decide +kernel
theorem dX8_isBeyond_37 : decode cX8_isBeyond 37 = .ok (.lcmp, 1) := by decide +kernel
theorem dX8_isBeyond_38 : decode cX8_isBeyond 38 = .ok (.ifCond .gt 32, 3) := by decide +kernel
theorem dX8_isBeyond_41 : decode cX8_isBeyond 41 = .ok (.lload 4, 2) := by decide +kernel
theorem dX8_isBeyond_43 : decode cX8_isBeyond 43 = .ok (.lconst 0, 1) := by decide +kernel
theorem dX8_isBeyond_44 : decode cX8_isBeyond 44 = .ok (.lcmp, 1) := by decide +kernel
theorem dX8_isBeyond_45 : decode cX8_isBeyond 45 = .ok (.ifCond .ge 9, 3) := by decide +kernel
theorem dX8_isBeyond_48 : decode cX8_isBeyond 48 = .ok (.lload 4, 2) := by decide +kernel
theorem dX8_isBeyond_50 : decode cX8_isBeyond 50 = .ok (.lneg, 1) := by decide +kernel
theorem dX8_isBeyond_51 : decode cX8_isBeyond 51 = .ok (.goto 5, 3) := by decide +kernel
theorem dX8_isBeyond_54 : decode cX8_isBeyond 54 = .ok (.lload 4, 2) := by decide +kernel
theorem dX8_isBeyond_56 : decode cX8_isBeyond 56 = .ok (.aload_n 0, 1) := by decide +kernel
theorem dX8_isBeyond_57 : decode cX8_isBeyond 57 = .ok (.getfield 29, 3) := by decide +kernel
theorem dX8_isBeyond_60 : decode cX8_isBeyond 60 = .ok (.i2l, 1) := by decide +kernel
theorem dX8_isBeyond_61 : decode cX8_isBeyond 61 = .ok (.aload_n 0, 1) := by decide +kernel
theorem dX8_isBeyond_62 : decode cX8_isBeyond 62 = .ok (.getfield 105, 3) := by decide +kernel
theorem dX8_isBeyond_65 : decode cX8_isBeyond 65 = .ok (.lmul, 1) := by decide +kernel
theorem dX8_isBeyond_66 : decode cX8_isBeyond 66 = .ok (.lcmp, 1) := by decide +kernel
theorem dX8_isBeyond_67 : decode cX8_isBeyond 67 = .ok (.ifCond .le 7, 3) := by decide +kernel
theorem dX8_isBeyond_70 : decode cX8_isBeyond 70 = .ok (.iconst 1, 1) := by decide +kernel
theorem dX8_isBeyond_71 : decode cX8_isBeyond 71 = .ok (.goto 4, 3) := by decide +kernel
theorem dX8_isBeyond_74 : decode cX8_isBeyond 74 = .ok (.iconst 0, 1) := by decide +kernel
theorem dX8_isBeyond_75 : decode cX8_isBeyond 75 = .ok (.ireturn, 1) := by decide +kernel
set_option maxRecDepth 20000 in
theorem ggX8_firstBeyond_X8_isBeyond : GoodIn wsX8_firstBeyond wsX8_isBeyond := goodIn_r _ [6, 7, 8, 9, 10, 11, 12, 5, 13, 14, 15, 16, 17, 18, 19, 20, 21, 22, 23, 24, 25, 26, 27, 28, 29, 30, 31, 32, 33, 34, 35, 36, 37, 38, 39, 40, 41, 42, 43, 44, 45, 46, 47, 48, 49, 50, 51, 52, 53, 54, 55, 56] (by decide +kernel) (by decide +kernel)
set_option maxRecDepth 20000 in
theorem gX8_firstBeyond_X8_isBeyond : GoodIn wsX8_firstBeyond (wsV RX8 170 RX8 yX8_isBeyond wsX8_isBeyond) := goodIn_app (goodIn_of _ (by decide +kernel)) ggX8_firstBeyond_X8_isBeyond
theorem dX8_firstBeyond_0 : decode cX8_firstBeyond 0 = .ok (.iconst 0, 1) := by decide +kernel
theorem dX8_firstBeyond_1 : decode cX8_firstBeyond 1 = .ok (.istore_n 2, 1) := by decide +kernel
theorem dX8_firstBeyond_2 : decode cX8_firstBeyond 2 = .ok (.iload_n 2, 1) := by decide +kernel
theorem dX8_firstBeyond_3 : decode cX8_firstBeyond 3 = .ok (.aload_n 0, 1) := by decide +kernel
theorem dX8_firstBeyond_4 : decode cX8_firstBeyond 4 = .ok (.getfield 65, 3) := by decide +kernel
theorem dX8_firstBeyond_7 : decode cX8_firstBeyond 7 = .ok (.if_icmp .ge 28, 3) := by decide +kernel
theorem dX8_firstBeyond_10 : decode cX8_firstBeyond 10 = .ok (.iload_n 1, 1) := by decide +kernel
theorem dX8_firstBeyond_11 : decode cX8_firstBeyond 11 = .ok (.iload_n 2, 1) := by decide +kernel
theorem dX8_firstBeyond_12 : decode cX8_firstBeyond 12 = .ok (.ishr, 1) := by decide +kernel
theorem dX8_firstBeyond_13 : decode cX8_firstBeyond 13 = .ok (.iconst 1, 1) := by decide +kernel
theorem dX8_firstBeyond_14 : decode cX8_firstBeyond 14 = .ok (.iand, 1) := by decide +kernel
