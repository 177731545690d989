theorem dX8_firstBeyond_15 : decode cX8_firstBeyond 15 = .ok (.iconst 1, 1) := by decide +kernel
theorem dX8_firstBeyond_16 : decode cX8_firstBeyond 16 = .ok (.if_icmp .ne 13, 3) := by decide +kernel
theorem dX8_firstBeyond_19 : decode cX8_firstBeyond 19 = .ok (.aload_n 0, 1) := by decide +kernel
theorem dX8_firstBeyond_20 : decode cX8_firstBeyond 20 = .ok (.iload_n 2, 1) := by decide +kernel
theorem dX8_firstBeyond_21 : decode cX8_firstBeyond 21 = .ok (.invokevirtual 170, 3) := by decide +kernel
theorem dX8_firstBeyond_24 : decode cX8_firstBeyond 24 = .ok (.ifCond .eq 5, 3) := by decide +kernel
theorem dX8_firstBeyond_27 : decode cX8_firstBeyond 27 = .ok (.iload_n 2, 1) := by decide +kernel
theorem dX8_firstBeyond_28 : decode cX8_firstBeyond 28 = .ok (.ireturn, 1) := by decide +kernel
theorem dX8_firstBeyond_29 : decode cX8_firstBeyond 29 = .ok (.iinc 2 1, 3) := by decide +kernel
theorem dX8_firstBeyond_32 : decode cX8_firstBeyond 32 = .ok (.goto (-30), 3) := by decide +kernel
theorem dX8_firstBeyond_35 : decode cX8_firstBeyond 35 = .ok (.bipush (-5), 2) := by decide +kernel
theorem dX8_firstBeyond_37 : decode cX8_firstBeyond 37 = .ok (.ireturn, 1) := by decide +kernel
set_option maxRecDepth 20000 in
theorem ggX8_beyond_X8_isKind : GoodIn wsX8_beyond wsX8_isKind := goodIn_r _ [4, 5, 6, 3, 7] (by decide +kernel) (by decide +kernel)
set_option maxRecDepth 20000 in
theorem gX8_beyond_X8_isKind : GoodIn wsX8_beyond (va_wsS RX8 150 yX8_isKind wsX8_isKind) := goodIn_app (goodIn_of _ (by decide +kernel)) ggX8_beyond_X8_isKind
set_option maxRecDepth 20000 in
theorem ggX8_beyond_X8_counting : GoodIn wsX8_beyond wsX8_counting := goodIn_r _ [11, 12, 13, 14, 70, 71, 72, 73, 74, 75, 76, 77, 78, 79, 80, 81, 82, 83, 84, 85, 86, 87, 88, 89, 90, 91, 92, 93, 94, 95, 96, 97, 98, 99, 100, 101, 102, 103, 104, 105] (by decide +kernel) (by decide +kernel)
set_option maxRecDepth 20000 in
theorem gX8_beyond_X8_counting : GoodIn wsX8_beyond (wsV RX8 153 RX8 yX8_counting wsX8_counting) := goodIn_app (goodIn_of _ (by decide +kernel)) ggX8_beyond_X8_counting
set_option maxRecDepth 20000 in
theorem ggX8_beyond_X8_fit : GoodIn wsX8_beyond wsX8_fit := goodIn_r _ [18, 19, 20, 21, 3, 22, 23, 24, 25, 26, 27, 28, 29, 30, 31, 32, 33, 34, 35, 36, 37, 38, 39, 40, 41, 12, 42, 43, 44, 45, 46, 47, 48, 49, 50, 51, 52, 53, 54, 55, 56, 70, 71, 72, 73, 74, 75, 76, 77, 78, 79, 80, 81, 82, 83, 84, 85, 86, 87, 88, 89, 90, 91, 92, 93, 94, 95, 96, 97, 98, 99, 100, 101, 102, 103, 104, 105] (by decide +kernel) (by decide +kernel)
set_option maxRecDepth 20000 in
theorem gX8_beyond_X8_fit : GoodIn wsX8_beyond (wsV RX8 157 RX8 yX8_fit wsX8_fit) := goodIn_app (goodIn_of _ (by decide +kernel)) ggX8_beyond_X8_fit
set_option maxRecDepth 20000 in
theorem ggX8_beyond_X8_firstBeyond : GoodIn wsX8_beyond wsX8_firstBeyond := goodIn_r _ [60, 12, 61, 62, 63, 3, 64, 65, 26, 30, 66, 67, 68, 69, 42, 27, 28, 29, 23, 24, 25, 70, 71, 72, 73, 74, 75, 76, 77, 78, 79, 80, 81, 82, 83, 84, 85, 86, 87, 88, 89, 90, 91, 92, 93, 94, 95, 96, 97, 98, 99, 100, 101, 102, 103, 104, 105] (by decide +kernel) (by decide +kernel)
set_option maxRecDepth 20000 in
theorem gX8_beyond_X8_firstBeyond : GoodIn wsX8_beyond (wsV RX8 173 RX8 yX8_firstBeyond wsX8_firstBeyond) := goodIn_app (goodIn_of _ (by decide +kernel)) ggX8_beyond_X8_firstBeyond
theorem dX8_beyond_0 : decode cX8_beyond 0 = .ok (.iload_n 1, 1) := by decide +kernel
theorem dX8_beyond_1 : decode cX8_beyond 1 = .ok (.invokestatic 150, 3) := by decide +kernel
theorem dX8_beyond_4 : decode cX8_beyond 4 = .ok (.ifCond .ne 5, 3) := by decide +kernel
theorem dX8_beyond_7 : decode cX8_beyond 7 = .ok (.iconst (-1), 1) := by decide +kernel
theorem dX8_beyond_8 : decode cX8_beyond 8 = .ok (.ireturn, 1) := by decide +kernel
theorem dX8_beyond_9 : decode cX8_beyond 9 = .ok (.aload_n 0, 1) := by decide +kernel
theorem dX8_beyond_10 : decode cX8_beyond 10 = .ok (.invokevirtual 153, 3) := by decide +kernel
theorem dX8_beyond_13 : decode cX8_beyond 13 = .ok (.istore_n 2, 1) := by decide +kernel
theorem dX8_beyond_14 : decode cX8_beyond 14 = .ok (.aload_n 0, 1) := by decide +kernel
theorem dX8_beyond_15 : decode cX8_beyond 15 = .ok (.iload_n 1, 1) := by decide +kernel
theorem dX8_beyond_16 : decode cX8_beyond 16 = .ok (.iload_n 2, 1) := by decide +kernel
theorem dX8_beyond_17 : decode cX8_beyond 17 = .ok (.invokevirtual 157, 3) := by decide +kernel
theorem dX8_beyond_20 : decode cX8_beyond 20 = .ok (.ifCond .eq 11, 3) := by decide +kernel
theorem dX8_beyond_23 : decode cX8_beyond 23 = .ok (.aload_n 0, 1) := by decide +kernel
theorem dX8_beyond_24 : decode cX8_beyond 24 = .ok (.iload_n 2, 1) := by decide +kernel
theorem dX8_beyond_25 : decode cX8_beyond 25 = .ok (.invokevirtual 173, 3) := by decide +kernel
theorem dX8_beyond_28 : decode cX8_beyond 28 = .ok (.goto 5, 3) := by decide +kernel
theorem dX8_beyond_31 : decode cX8_beyond 31 = .ok (.bipush (-3), 2) := by decide +kernel
theorem dX8_beyond_33 : decode cX8_beyond 33 = .ok (.ireturn, 1) := by decide +kernel
theorem dX8_manyOf_0 : decode cX8_manyOf 0 = .ok (.iconst 0, 1) := by decide +kernel
theorem dX8_manyOf_1 : decode cX8_manyOf 1 = .ok (.istore_n 1, 1) := by decide +kernel
theorem dX8_manyOf_2 : decode cX8_manyOf 2 = .ok (.iconst 0, 1) := by decide +kernel
theorem dX8_manyOf_3 : decode cX8_manyOf 3 = .ok (.istore_n 2, 1) := by decide +kernel
theorem dX8_manyOf_4 : decode cX8_manyOf 4 = .ok (.iload_n 2, 1) := by decide +kernel
theorem dX8_manyOf_5 : decode cX8_manyOf 5 = .ok (.bipush 12, 2) := by decide +kernel
theorem dX8_manyOf_7 : decode cX8_manyOf 7 = .ok (.if_icmp .ge 17, 3) := by decide +kernel
theorem dX8_manyOf_10 : decode cX8_manyOf 10 = .ok (.iload_n 1, 1) := by decide +kernel
theorem dX8_manyOf_11 : decode cX8_manyOf 11 = .ok (.iload_n 0, 1) := by decide +kernel
theorem dX8_manyOf_12 : decode cX8_manyOf 12 = .ok (.iload_n 2, 1) := by decide +kernel
theorem dX8_manyOf_13 : decode cX8_manyOf 13 = .ok (.ishr, 1) := by decide +kernel
theorem dX8_manyOf_14 : decode cX8_manyOf 14 = .ok (.iconst 1, 1) := by decide +kernel
theorem dX8_manyOf_15 : decode cX8_manyOf 15 = .ok (.iand, 1) := by decide +kernel
theorem dX8_manyOf_16 : decode cX8_manyOf 16 = .ok (.iadd, 1) := by decide +kernel
theorem dX8_manyOf_17 : decode cX8_manyOf 17 = .ok (.istore_n 1, 1) := by decide +kernel
theorem dX8_manyOf_18 : decode cX8_manyOf 18 = .ok (.iinc 2 1, 3) := by decide +kernel
theorem dX8_manyOf_21 : decode cX8_manyOf 21 = .ok (.goto (-17), 3) := by decide +kernel
theorem dX8_manyOf_24 : decode cX8_manyOf 24 = .ok (.iload_n 1, 1) := by decide +kernel
theorem dX8_manyOf_25 : decode cX8_manyOf 25 = .ok (.ireturn, 1) := by decide +kernel
set_option maxRecDepth 20000 in
theorem ggX8_lying_X8_isKind : GoodIn wsX8_lying wsX8_isKind := goodIn_r _ [4, 5, 6, 3, 7] (by decide +kernel) (by decide +kernel)
set_option maxRecDepth 20000 in
theorem gX8_lying_X8_isKind : GoodIn wsX8_lying (va_wsS RX8 150 yX8_isKind wsX8_isKind) := goodIn_app (goodIn_of _ (by decide +kernel)) ggX8_lying_X8_isKind
set_option maxRecDepth 20000 in
theorem ggX8_lying_X8_counting : GoodIn wsX8_lying wsX8_counting := goodIn_r _ [11, 12, 13, 14, 73, 74, 75, 76, 77, 78, 79, 80, 81, 82, 83, 84, 85, 86, 87, 88, 89, 90, 91, 92, 93, 94, 95, 96, 97, 98, 99, 100, 101, 102, 103, 104, 105, 106, 107, 108] (by decide +kernel) (by decide +kernel)
set_option maxRecDepth 20000 in
theorem gX8_lying_X8_counting : GoodIn wsX8_lying (wsV RX8 153 RX8 yX8_counting wsX8_counting) := goodIn_app (goodIn_of _ (by decide +kernel)) ggX8_lying_X8_counting
set_option maxRecDepth 20000 in
theorem ggX8_lying_X8_fit : GoodIn wsX8_lying wsX8_fit := goodIn_r _ [18, 19, 20, 21, 3, 22, 23, 24, 25, 26, 27, 28, 29, 30, 31, 32, 33, 34, 35, 36, 37, 38, 39, 40, 41, 12, 42, 43, 44, 45, 46, 47, 48, 49, 50, 51, 52, 53, 54, 55, 56, 73, 74, 75, 76, 77, 78, 79, 80, 81, 82, 83, 84, 85, 86, 87, 88, 89, 90, 91, 92, 93, 94, 95, 96, 97, 98, 99, 100, 101, 102, 103, 104, 105, 106, 107, 108] (by decide +kernel) (by decide +kernel)
set_option maxRecDepth 20000 in
theorem gX8_lying_X8_fit : GoodIn wsX8_lying (wsV RX8 157 RX8 yX8_fit wsX8_fit) := goodIn_app (goodIn_of _ (by decide +kernel)) ggX8_lying_X8_fit
set_option maxRecDepth 20000 in
theorem ggX8_lying_X8_manyOf : GoodIn wsX8_lying wsX8_manyOf := goodIn_r _ [59] (by decide +kernel) (by decide +kernel)
set_option maxRecDepth 20000 in
theorem gX8_lying_X8_manyOf : GoodIn wsX8_lying (va_wsS RX8 177 yX8_manyOf wsX8_manyOf) := goodIn_app (goodIn_of _ (by decide +kernel)) ggX8_lying_X8_manyOf
set_option maxRecDepth 20000 in
theorem ggX8_lying_X8_firstBeyond : GoodIn wsX8_lying wsX8_firstBeyond := goodIn_r _ [63, 12, 64, 65, 66, 3, 67, 68, 26, 30, 69, 70, 71, 72, 42, 27, 28, 29, 23, 24, 25, 73, 74, 75, 76, 77, 78, 79, 80, 81, 82, 83, 84, 85, 86, 87, 88, 89, 90, 91, 92, 93, 94, 95, 96, 97, 98, 99, 100, 101, 102, 103, 104, 105, 106, 107, 108] (by decide +kernel) (by decide +kernel)
set_option maxRecDepth 20000 in
theorem gX8_lying_X8_firstBeyond : GoodIn wsX8_lying (wsV RX8 173 RX8 yX8_firstBeyond wsX8_firstBeyond) := goodIn_app (goodIn_of _ (by decide +kernel)) ggX8_lying_X8_firstBeyond
theorem dX8_lying_0 : decode cX8_lying 0 = .ok (.iload_n 1, 1) := by decide +kernel
theorem dX8_lying_1 : decode cX8_lying 1 = .ok (.invokestatic 150, 3) := by decide +kernel
theorem dX8_lying_4 : decode cX8_lying 4 = .ok (.ifCond .ne 5, 3) := by decide +kernel
theorem dX8_lying_7 : decode cX8_lying 7 = .ok (.iconst (-1), 1) := by decide +kernel
theorem dX8_lying_8 : decode cX8_lying 8 = .ok (.ireturn, 1) := by decide +kernel
theorem dX8_lying_9 : decode cX8_lying 9 = .ok (.aload_n 0, 1) := by decide +kernel
theorem dX8_lying_10 : decode cX8_lying 10 = .ok (.invokevirtual 153, 3) := by decide +kernel
theorem dX8_lying_13 : decode cX8_lying 13 = .ok (.istore_n 2, 1) := by decide +kernel
theorem dX8_lying_14 : decode cX8_lying 14 = .ok (.aload_n 0, 1) := by decide +kernel
theorem dX8_lying_15 : decode cX8_lying 15 = .ok (.iload_n 1, 1) := by decide +kernel
theorem dX8_lying_16 : decode cX8_lying 16 = .ok (.iload_n 2, 1) := by decide +kernel
theorem dX8_lying_17 : decode cX8_lying 17 = .ok (.invokevirtual 157, 3) := by decide +kernel
theorem dX8_lying_20 : decode cX8_lying 20 = .ok (.ifCond .ne 6, 3) := by decide +kernel
theorem dX8_lying_23 : decode cX8_lying 23 = .ok (.bipush (-3), 2) := by decide +kernel
theorem dX8_lying_25 : decode cX8_lying 25 = .ok (.ireturn, 1) := by decide +kernel
theorem dX8_lying_26 : decode cX8_lying 26 = .ok (.iconst 0, 1) := by decide +kernel
theorem dX8_lying_27 : decode cX8_lying 27 = .ok (.istore_n 3, 1) := by decide +kernel
theorem dX8_lying_28 : decode cX8_lying 28 = .ok (.iload_n 3, 1) := by decide +kernel
theorem dX8_lying_29 : decode cX8_lying 29 = .ok (.iconst 4, 1) := by decide +kernel
theorem dX8_lying_30 : decode cX8_lying 30 = .ok (.if_icmp .ge 72, 3) := by decide +kernel
theorem dX8_lying_33 : decode cX8_lying 33 = .ok (.iconst 0, 1) := by decide +kernel
theorem dX8_lying_34 : decode cX8_lying 34 = .ok (.istore 4, 2) := by decide +kernel
theorem dX8_lying_36 : decode cX8_lying 36 = .ok (.iload 4, 2) := by decide +kernel
theorem dX8_lying_38 : decode cX8_lying 38 = .ok (.iload_n 2, 1) := by decide +kernel
theorem dX8_lying_39 : decode cX8_lying 39 = .ok (.if_icmp .gt 57, 3) := by decide +kernel
theorem dX8_lying_42 : decode cX8_lying 42 = .ok (.iload 4, 2) := by decide +kernel
theorem dX8_lying_44 : decode cX8_lying 44 = .ok (.iload_n 2, 1) := by decide +kernel
theorem dX8_lying_45 : decode cX8_lying 45 = .ok (.iconst (-1), 1) := by decide +kernel
theorem dX8_lying_46 : decode cX8_lying 46 = .ok (.ixor, 1) := by decide +kernel
theorem dX8_lying_47 : decode cX8_lying 47 = .ok (.iand, 1) := by decide +kernel
theorem dX8_lying_48 : decode cX8_lying 48 = .ok (.ifCond .ne 42, 3) := by decide +kernel
theorem dX8_lying_51 : decode cX8_lying 51 = .ok (.iload 4, 2) := by decide +kernel
theorem dX8_lying_53 : decode cX8_lying 53 = .ok (.invokestatic 177, 3) := by decide +kernel
theorem dX8_lying_56 : decode cX8_lying 56 = .ok (.iload_n 3, 1) := by decide +kernel
theorem dX8_lying_57 : decode cX8_lying 57 = .ok (.if_icmp .ne 33, 3) := by decide +kernel
theorem dX8_lying_60 : decode cX8_lying 60 = .ok (.aload_n 0, 1) := by decide +kernel
theorem dX8_lying_61 : decode cX8_lying 61 = .ok (.iload_n 1, 1) := by decide +kernel
theorem dX8_lying_62 : decode cX8_lying 62 = .ok (.iload_n 2, 1) := by decide +kernel
theorem dX8_lying_63 : decode cX8_lying 63 = .ok (.iload 4, 2) := by decide +kernel
theorem dX8_lying_65 : decode cX8_lying 65 = .ok (.iconst (-1), 1) := by decide +kernel
theorem dX8_lying_66 : decode cX8_lying 66 = .ok (.ixor, 1) := by decide +kernel
theorem dX8_lying_67 : decode cX8_lying 67 = .ok (.iand, 1) := by decide +kernel
theorem dX8_lying_68 : decode cX8_lying 68 = .ok (.invokevirtual 157, 3) := by decide +kernel
theorem dX8_lying_71 : decode cX8_lying 71 = .ok (.ifCond .eq 19, 3) := by decide +kernel
theorem dX8_lying_74 : decode cX8_lying 74 = .ok (.aload_n 0, 1) := by decide +kernel
theorem dX8_lying_75 : decode cX8_lying 75 = .ok (.iload_n 2, 1) := by decide +kernel
theorem dX8_lying_76 : decode cX8_lying 76 = .ok (.iload 4, 2) := by decide +kernel
theorem dX8_lying_78 : decode cX8_lying 78 = .ok (.iconst (-1), 1) := by decide +kernel
theorem dX8_lying_79 : decode cX8_lying 79 = .ok (.ixor, 1) := by decide +kernel
theorem dX8_lying_80 : decode cX8_lying 80 = .ok (.iand, 1) := by decide +kernel
theorem dX8_lying_81 : decode cX8_lying 81 = .ok (.invokevirtual 173, 3) := by decide +kernel
theorem dX8_lying_84 : decode cX8_lying 84 = .ok (.ifCond .ge 6, 3) := by decide +kernel
theorem dX8_lying_87 : decode cX8_lying 87 = .ok (.iload 4, 2) := by decide +kernel
theorem dX8_lying_89 : decode cX8_lying 89 = .ok (.ireturn, 1) := by decide +kernel
theorem dX8_lying_90 : decode cX8_lying 90 = .ok (.iinc 4 1, 3) := by decide +kernel
theorem dX8_lying_93 : decode cX8_lying 93 = .ok (.goto (-57), 3) := by decide +kernel
theorem dX8_lying_96 : decode cX8_lying 96 = .ok (.iinc 3 1, 3) := by decide +kernel
theorem dX8_lying_99 : decode cX8_lying 99 = .ok (.goto (-71), 3) := by decide +kernel
theorem dX8_lying_102 : decode cX8_lying 102 = .ok (.bipush (-5), 2) := by decide +kernel
theorem dX8_lying_104 : decode cX8_lying 104 = .ok (.ireturn, 1) := by decide +kernel
set_option maxRecDepth 20000 in
theorem ggX8_drop_X8_lying : GoodIn wsX8_drop wsX8_lying := goodIn_r _ [7, 8, 9, 6, 10, 11, 12, 13, 14, 15, 16, 17, 1, 18, 2, 19, 20, 21, 22, 23, 24, 25, 26, 27, 28, 29, 30, 31, 32, 33, 34, 35, 36, 37, 38, 39, 40, 41, 42, 43, 44, 45, 46, 47, 48, 49, 50, 51, 52, 53, 54, 55, 56, 57, 58, 59, 60, 61, 62, 63, 64, 65, 66, 67, 68, 69, 70, 71, 72, 73, 74, 75, 76, 77, 78, 79, 80, 81, 82, 83, 84, 85, 86, 87, 88, 89, 90, 91, 92, 93, 94, 95, 96, 97, 98, 99, 100, 101, 102, 103, 104, 105, 106, 107, 108, 109, 110, 111, 112] (by decide +kernel) (by decide +kernel)
set_option maxRecDepth 20000 in
theorem gX8_drop_X8_lying : GoodIn wsX8_drop (wsV RX8 180 RX8 yX8_lying wsX8_lying) := goodIn_app (goodIn_of _ (by decide +kernel)) ggX8_drop_X8_lying
set_option maxRecDepth 20000 in
theorem ggX8_drop_X8_manyOf : GoodIn wsX8_drop wsX8_manyOf := goodIn_r _ [63] (by decide +kernel) (by decide +kernel)
set_option maxRecDepth 20000 in
theorem gX8_drop_X8_manyOf : GoodIn wsX8_drop (va_wsS RX8 177 yX8_manyOf wsX8_manyOf) := goodIn_app (goodIn_of _ (by decide +kernel)) ggX8_drop_X8_manyOf
theorem dX8_drop_0 : decode cX8_drop 0 = .ok (.aload_n 0, 1) := by decide +kernel
theorem dX8_drop_1 : decode cX8_drop 1 = .ok (.iload_n 1, 1) := by decide +kernel
theorem dX8_drop_2 : decode cX8_drop 2 = .ok (.invokevirtual 180, 3) := by decide +kernel
theorem dX8_drop_5 : decode cX8_drop 5 = .ok (.istore_n 2, 1) := by decide +kernel
theorem dX8_drop_6 : decode cX8_drop 6 = .ok (.iload_n 2, 1) := by decide +kernel
theorem dX8_drop_7 : decode cX8_drop 7 = .ok (.ifCond .ge 5, 3) := by decide +kernel
theorem dX8_drop_10 : decode cX8_drop 10 = .ok (.iload_n 2, 1) := by decide +kernel
theorem dX8_drop_11 : decode cX8_drop 11 = .ok (.ireturn, 1) := by decide +kernel
theorem dX8_drop_12 : decode cX8_drop 12 = .ok (.iconst 0, 1) := by decide +kernel
theorem dX8_drop_13 : decode cX8_drop 13 = .ok (.istore_n 3, 1) := by decide +kernel
theorem dX8_drop_14 : decode cX8_drop 14 = .ok (.iload_n 3, 1) := by decide +kernel
theorem dX8_drop_15 : decode cX8_drop 15 = .ok (.aload_n 0, 1) := by decide +kernel
theorem dX8_drop_16 : decode cX8_drop 16 = .ok (.getfield 65, 3) := by decide +kernel
theorem dX8_drop_19 : decode cX8_drop 19 = .ok (.if_icmp .ge 37, 3) := by decide +kernel
theorem dX8_drop_22 : decode cX8_drop 22 = .ok (.aload_n 0, 1) := by decide +kernel
theorem dX8_drop_23 : decode cX8_drop 23 = .ok (.getfield 17, 3) := by decide +kernel
theorem dX8_drop_26 : decode cX8_drop 26 = .ok (.iload_n 3, 1) := by decide +kernel
theorem dX8_drop_27 : decode cX8_drop 27 = .ok (.aload_n 0, 1) := by decide +kernel
theorem dX8_drop_28 : decode cX8_drop 28 = .ok (.getfield 17, 3) := by decide +kernel
theorem dX8_drop_31 : decode cX8_drop 31 = .ok (.iload_n 3, 1) := by decide +kernel
theorem dX8_drop_32 : decode cX8_drop 32 = .ok (.baload, 1) := by decide +kernel
theorem dX8_drop_33 : decode cX8_drop 33 = .ok (.ifCond .eq 15, 3) := by decide +kernel
theorem dX8_drop_36 : decode cX8_drop 36 = .ok (.iload_n 2, 1) := by decide +kernel
theorem dX8_drop_37 : decode cX8_drop 37 = .ok (.iload_n 3, 1) := by decide +kernel
theorem dX8_drop_38 : decode cX8_drop 38 = .ok (.ishr, 1) := by decide +kernel
theorem dX8_drop_39 : decode cX8_drop 39 = .ok (.iconst 1, 1) := by decide +kernel
theorem dX8_drop_40 : decode cX8_drop 40 = .ok (.iand, 1) := by decide +kernel
theorem dX8_drop_41 : decode cX8_drop 41 = .ok (.ifCond .ne 7, 3) := by decide +kernel
theorem dX8_drop_44 : decode cX8_drop 44 = .ok (.iconst 1, 1) := by decide +kernel
theorem dX8_drop_45 : decode cX8_drop 45 = .ok (.goto 4, 3) := by decide +kernel
theorem dX8_drop_48 : decode cX8_drop 48 = .ok (.iconst 0, 1) := by decide +kernel
theorem dX8_drop_49 : decode cX8_drop 49 = .ok (.bastore, 1) := by decide +kernel
theorem dX8_drop_50 : decode cX8_drop 50 = .ok (.iinc 3 1, 3) := by decide +kernel
theorem dX8_drop_53 : decode cX8_drop 53 = .ok (.goto (-39), 3) := by decide +kernel
theorem dX8_drop_56 : decode cX8_drop 56 = .ok (.iload_n 2, 1) := by decide +kernel
theorem dX8_drop_57 : decode cX8_drop 57 = .ok (.invokestatic 177, 3) := by decide +kernel
theorem dX8_drop_60 : decode cX8_drop 60 = .ok (.ireturn, 1) := by decide +kernel
set_option maxRecDepth 20000 in
theorem ggX8_rule_X8_in : GoodIn wsX8_rule wsX8_in := goodIn_r _ [6] (by decide +kernel) (by decide +kernel)
set_option maxRecDepth 20000 in
theorem gX8_rule_X8_in : GoodIn wsX8_rule (va_wsS RX8 61 yX8_in wsX8_in) := goodIn_app (goodIn_of _ (by decide +kernel)) ggX8_rule_X8_in
theorem dX8_rule_0 : decode cX8_rule 0 = .ok (.iload_n 1, 1) := by decide +kernel
theorem dX8_rule_1 : decode cX8_rule 1 = .ok (.iconst 0, 1) := by decide +kernel
theorem dX8_rule_2 : decode cX8_rule 2 = .ok (.iconst 1, 1) := by decide +kernel
theorem dX8_rule_3 : decode cX8_rule 3 = .ok (.invokestatic 61, 3) := by decide +kernel
theorem dX8_rule_6 : decode cX8_rule 6 = .ok (.ifCond .eq 24, 3) := by decide +kernel
theorem dX8_rule_9 : decode cX8_rule 9 = .ok (.iload_n 2, 1) := by decide +kernel
theorem dX8_rule_10 : decode cX8_rule 10 = .ok (.iconst 0, 1) := by decide +kernel
theorem dX8_rule_11 : decode cX8_rule 11 = .ok (.iload_n 1, 1) := by decide +kernel
theorem dX8_rule_12 : decode cX8_rule 12 = .ok (.ifCond .ne 9, 3) := by decide +kernel
theorem dX8_rule_15 : decode cX8_rule 15 = .ok (.sipush 1000, 3) := by decide +kernel
theorem dX8_rule_18 : decode cX8_rule 18 = .ok (.goto 6, 3) := by decide +kernel
theorem dX8_rule_21 : decode cX8_rule 21 = .ok (.sipush 2000, 3) := by decide +kernel
theorem dX8_rule_24 : decode cX8_rule 24 = .ok (.invokestatic 61, 3) := by decide +kernel
theorem dX8_rule_27 : decode cX8_rule 27 = .ok (.ifCond .ne 5, 3) := by decide +kernel
theorem dX8_rule_30 : decode cX8_rule 30 = .ok (.iconst (-1), 1) := by decide +kernel
theorem dX8_rule_31 : decode cX8_rule 31 = .ok (.ireturn, 1) := by decide +kernel
theorem dX8_rule_32 : decode cX8_rule 32 = .ok (.iload_n 1, 1) := by decide +kernel
theorem dX8_rule_33 : decode cX8_rule 33 = .ok (.ifCond .ne 10, 3) := by decide +kernel
theorem dX8_rule_36 : decode cX8_rule 36 = .ok (.aload_n 0, 1) := by decide +kernel
theorem dX8_rule_37 : decode cX8_rule 37 = .ok (.getfield 29, 3) := by decide +kernel
theorem dX8_rule_40 : decode cX8_rule 40 = .ok (.goto 7, 3) := by decide +kernel
theorem dX8_rule_43 : decode cX8_rule 43 = .ok (.aload_n 0, 1) := by decide +kernel
theorem dX8_rule_44 : decode cX8_rule 44 = .ok (.getfield 33, 3) := by decide +kernel
theorem dX8_rule_47 : decode cX8_rule 47 = .ok (.istore_n 3, 1) := by decide +kernel
theorem dX8_rule_48 : decode cX8_rule 48 = .ok (.aload_n 0, 1) := by decide +kernel
theorem dX8_rule_49 : decode cX8_rule 49 = .ok (.iload_n 1, 1) := by decide +kernel
theorem dX8_rule_50 : decode cX8_rule 50 = .ok (.ifCond .ne 7, 3) := by decide +kernel
theorem dX8_rule_53 : decode cX8_rule 53 = .ok (.iload_n 2, 1) := by decide +kernel
theorem dX8_rule_54 : decode cX8_rule 54 = .ok (.goto 7, 3) := by decide +kernel
theorem dX8_rule_57 : decode cX8_rule 57 = .ok (.aload_n 0, 1) := by decide +kernel
theorem dX8_rule_58 : decode cX8_rule 58 = .ok (.getfield 29, 3) := by decide +kernel
theorem dX8_rule_61 : decode cX8_rule 61 = .ok (.putfield 29, 3) := by decide +kernel
theorem dX8_rule_64 : decode cX8_rule 64 = .ok (.aload_n 0, 1) := by decide +kernel
theorem dX8_rule_65 : decode cX8_rule 65 = .ok (.iload_n 1, 1) := by decide +kernel
theorem dX8_rule_66 : decode cX8_rule 66 = .ok (.iconst 1, 1) := by decide +kernel
theorem dX8_rule_67 : decode cX8_rule 67 = .ok (.if_icmp .ne 7, 3) := by decide +kernel
theorem dX8_rule_70 : decode cX8_rule 70 = .ok (.iload_n 2, 1) := by decide +kernel
theorem dX8_rule_71 : decode cX8_rule 71 = .ok (.goto 7, 3) := by decide +kernel
theorem dX8_rule_74 : decode cX8_rule 74 = .ok (.aload_n 0, 1) := by decide +kernel
theorem dX8_rule_75 : decode cX8_rule 75 = .ok (.getfield 33, 3) := by decide +kernel
theorem dX8_rule_78 : decode cX8_rule 78 = .ok (.putfield 33, 3) := by decide +kernel
theorem dX8_rule_81 : decode cX8_rule 81 = .ok (.iload_n 3, 1) := by decide +kernel
theorem dX8_rule_82 : decode cX8_rule 82 = .ok (.ireturn, 1) := by decide +kernel
set_option maxRecDepth 20000 in
theorem ggX8_isTriangle_X8_in : GoodIn wsX8_isTriangle wsX8_in := goodIn_r _ [5] (by decide +kernel) (by decide +kernel)
set_option maxRecDepth 20000 in
theorem gX8_isTriangle_X8_in : GoodIn wsX8_isTriangle (va_wsS RX8 61 yX8_in wsX8_in) := goodIn_app (goodIn_of _ (by decide +kernel)) ggX8_isTriangle_X8_in
theorem dX8_isTriangle_0 : decode cX8_isTriangle 0 = .ok (.iload_n 1, 1) := by decide +kernel
theorem dX8_isTriangle_1 : decode cX8_isTriangle 1 = .ok (.iconst 0, 1) := by decide +kernel
theorem dX8_isTriangle_2 : decode cX8_isTriangle 2 = .ok (.aload_n 0, 1) := by decide +kernel
theorem dX8_isTriangle_3 : decode cX8_isTriangle 3 = .ok (.getfield 183, 3) := by decide +kernel
theorem dX8_isTriangle_6 : decode cX8_isTriangle 6 = .ok (.iconst 1, 1) := by decide +kernel
theorem dX8_isTriangle_7 : decode cX8_isTriangle 7 = .ok (.isub, 1) := by decide +kernel
theorem dX8_isTriangle_8 : decode cX8_isTriangle 8 = .ok (.invokestatic 61, 3) := by decide +kernel
theorem dX8_isTriangle_11 : decode cX8_isTriangle 11 = .ok (.ireturn, 1) := by decide +kernel
theorem dX8_corner_0 : decode cX8_corner 0 = .ok (.aload_n 0, 1) := by decide +kernel
theorem dX8_corner_1 : decode cX8_corner 1 = .ok (.getfield 7, 3) := by decide +kernel
theorem dX8_corner_4 : decode cX8_corner 4 = .ok (.iconst 4, 1) := by decide +kernel
theorem dX8_corner_5 : decode cX8_corner 5 = .ok (.aload_n 0, 1) := by decide +kernel
theorem dX8_corner_6 : decode cX8_corner 6 = .ok (.getfield 20, 3) := by decide +kernel
theorem dX8_corner_9 : decode cX8_corner 9 = .ok (.iconst 3, 1) := by decide +kernel
theorem dX8_corner_10 : decode cX8_corner 10 = .ok (.iload_n 1, 1) := by decide +kernel
theorem dX8_corner_11 : decode cX8_corner 11 = .ok (.imul, 1) := by decide +kernel
theorem dX8_corner_12 : decode cX8_corner 12 = .ok (.iload_n 2, 1) := by decide +kernel
theorem dX8_corner_13 : decode cX8_corner 13 = .ok (.iadd, 1) := by decide +kernel
theorem dX8_corner_14 : decode cX8_corner 14 = .ok (.iaload, 1) := by decide +kernel
theorem dX8_corner_15 : decode cX8_corner 15 = .ok (.imul, 1) := by decide +kernel
theorem dX8_corner_16 : decode cX8_corner 16 = .ok (.iconst 2, 1) := by decide +kernel
theorem dX8_corner_17 : decode cX8_corner 17 = .ok (.iload_n 3, 1) := by decide +kernel
theorem dX8_corner_18 : decode cX8_corner 18 = .ok (.imul, 1) := by decide +kernel
theorem dX8_corner_19 : decode cX8_corner 19 = .ok (.iadd, 1) := by decide +kernel
theorem dX8_corner_20 : decode cX8_corner 20 = .ok (.iload 4, 2) := by decide +kernel
theorem dX8_corner_22 : decode cX8_corner 22 = .ok (.iadd, 1) := by decide +kernel
theorem dX8_corner_23 : decode cX8_corner 23 = .ok (.iaload, 1) := by decide +kernel
theorem dX8_corner_24 : decode cX8_corner 24 = .ok (.i2l, 1) := by decide +kernel
theorem dX8_corner_25 : decode cX8_corner 25 = .ok (.lreturn, 1) := by decide +kernel
theorem dX8_cross_0 : decode cX8_cross 0 = .ok (.lload 4, 2) := by decide +kernel
theorem dX8_cross_2 : decode cX8_cross 2 = .ok (.lload_n 0, 1) := by decide +kernel
theorem dX8_cross_3 : decode cX8_cross 3 = .ok (.lsub, 1) := by decide +kernel
theorem dX8_cross_4 : decode cX8_cross 4 = .ok (.lload 10, 2) := by decide +kernel
theorem dX8_cross_6 : decode cX8_cross 6 = .ok (.lload_n 2, 1) := by decide +kernel
theorem dX8_cross_7 : decode cX8_cross 7 = .ok (.lsub, 1) := by decide +kernel
theorem dX8_cross_8 : decode cX8_cross 8 = .ok (.lmul, 1) := by decide +kernel
theorem dX8_cross_9 : decode cX8_cross 9 = .ok (.lload 8, 2) := by decide +kernel
theorem dX8_cross_11 : decode cX8_cross 11 = .ok (.lload_n 0, 1) := by decide +kernel
theorem dX8_cross_12 : decode cX8_cross 12 = .ok (.lsub, 1) := by decide +kernel
theorem dX8_cross_13 : decode cX8_cross 13 = .ok (.lload 6, 2) := by decide +kernel
theorem dX8_cross_15 : decode cX8_cross 15 = .ok (.lload_n 2, 1) := by decide +kernel
theorem dX8_cross_16 : decode cX8_cross 16 = .ok (.lsub, 1) := by decide +kernel
theorem dX8_cross_17 : decode cX8_cross 17 = .ok (.lmul, 1) := by decide +kernel
theorem dX8_cross_18 : decode cX8_cross 18 = .ok (.lsub, 1) := by decide +kernel
theorem dX8_cross_19 : decode cX8_cross 19 = .ok (.lreturn, 1) := by decide +kernel
set_option maxRecDepth 20000 in
theorem ggX8_side_X8_corner : GoodIn wsX8_side wsX8_corner := goodIn_r _ [5, 6, 7, 11, 12, 13, 14, 15, 16, 17, 18, 19, 20, 21, 22, 23, 24, 25, 26, 27, 28, 29, 30, 31, 32, 33, 34, 35, 36, 37, 38, 39, 40, 41, 42, 43, 44, 45, 46] (by decide +kernel) (by decide +kernel)
set_option maxRecDepth 20000 in
theorem gX8_side_X8_corner : GoodIn wsX8_side (wsV RX8 186 RX8 yX8_corner wsX8_corner) := goodIn_app (goodIn_of _ (by decide +kernel)) ggX8_side_X8_corner
set_option maxRecDepth 20000 in
theorem ggX8_side_X8_cross : GoodIn wsX8_side wsX8_cross := goodIn_r _ [10] (by decide +kernel) (by decide +kernel)
set_option maxRecDepth 20000 in
theorem gX8_side_X8_cross : GoodIn wsX8_side (va_wsS RX8 190 yX8_cross wsX8_cross) := goodIn_app (goodIn_of _ (by decide +kernel)) ggX8_side_X8_cross
theorem dX8_side_0 : decode cX8_side 0 = .ok (.iload_n 2, 1) := by decide +kernel
theorem dX8_side_1 : decode cX8_side 1 = .ok (.iconst 1, 1) := by decide +kernel
theorem dX8_side_2 : decode cX8_side 2 = .ok (.iadd, 1) := by decide +kernel
theorem dX8_side_3 : decode cX8_side 3 = .ok (.iconst 3, 1) := by decide +kernel
theorem dX8_side_4 : decode cX8_side 4 = .ok (.irem, 1) := by decide +kernel
theorem dX8_side_5 : decode cX8_side 5 = .ok (.istore 8, 2) := by decide +kernel
theorem dX8_side_7 : decode cX8_side 7 = .ok (.aload_n 0, 1) := by decide +kernel
theorem dX8_side_8 : decode cX8_side 8 = .ok (.iload_n 1, 1) := by decide +kernel
theorem dX8_side_9 : decode cX8_side 9 = .ok (.iload_n 2, 1) := by decide +kernel
theorem dX8_side_10 : decode cX8_side 10 = .ok (.iload_n 3, 1) := by decide +kernel
theorem dX8_side_11 : decode cX8_side 11 = .ok (.iconst 0, 1) := by decide +kernel
theorem dX8_side_12 : decode cX8_side 12 = .ok (.invokevirtual 186, 3) := by decide +kernel
theorem dX8_side_15 : decode cX8_side 15 = .ok (.aload_n 0, 1) := by decide +kernel
theorem dX8_side_16 : decode cX8_side 16 = .ok (.iload_n 1, 1) := by decide +kernel
theorem dX8_side_17 : decode cX8_side 17 = .ok (.iload_n 2, 1) := by decide +kernel
theorem dX8_side_18 : decode cX8_side 18 = .ok (.iload_n 3, 1) := by decide +kernel
theorem dX8_side_19 : decode cX8_side 19 = .ok (.iconst 1, 1) := by decide +kernel
theorem dX8_side_20 : decode cX8_side 20 = .ok (.invokevirtual 186, 3) := by decide +kernel
theorem dX8_side_23 : decode cX8_side 23 = .ok (.aload_n 0, 1) := by decide +kernel
theorem dX8_side_24 : decode cX8_side 24 = .ok (.iload_n 1, 1) := by decide +kernel
theorem dX8_side_25 : decode cX8_side 25 = .ok (.iload 8, 2) := by decide +kernel
theorem dX8_side_27 : decode cX8_side 27 = .ok (.iload_n 3, 1) := by decide +kernel
theorem dX8_side_28 : decode cX8_side 28 = .ok (.iconst 0, 1) := by decide +kernel
theorem dX8_side_29 : decode cX8_side 29 = .ok (.invokevirtual 186, 3) := by decide +kernel
theorem dX8_side_32 : decode cX8_side 32 = .ok (.aload_n 0, 1) := by decide +kernel
theorem dX8_side_33 : decode cX8_side 33 = .ok (.iload_n 1, 1) := by decide +kernel
theorem dX8_side_34 : decode cX8_side 34 = .ok (.iload 8, 2) := by decide +kernel
theorem dX8_side_36 : decode cX8_side 36 = .ok (.iload_n 3, 1) := by decide +kernel
theorem dX8_side_37 : decode cX8_side 37 = .ok (.iconst 1, 1) := by decide +kernel
theorem dX8_side_38 : decode cX8_side 38 = .ok (.invokevirtual 186, 3) := by decide +kernel
theorem dX8_side_41 : decode cX8_side 41 = .ok (.lload 4, 2) := by decide +kernel
theorem dX8_side_43 : decode cX8_side 43 = .ok (.lload 6, 2) := by decide +kernel
theorem dX8_side_45 : decode cX8_side 45 = .ok (.invokestatic 190, 3) := by decide +kernel
theorem dX8_side_48 : decode cX8_side 48 = .ok (.lreturn, 1) := by decide +kernel
set_option maxRecDepth 20000 in
theorem ggX8_round_X8_corner : GoodIn wsX8_round wsX8_corner := goodIn_r _ [5, 6, 7, 15, 16, 17, 18, 19, 20, 21, 22, 23, 24, 25, 26, 27, 28, 29, 30, 31, 32, 33, 34, 35, 36, 37, 38, 39, 40, 41, 42, 43, 44, 45, 46, 47, 48, 49, 50] (by decide +kernel) (by decide +kernel)
set_option maxRecDepth 20000 in
theorem gX8_round_X8_corner : GoodIn wsX8_round (wsV RX8 186 RX8 yX8_corner wsX8_corner) := goodIn_app (goodIn_of _ (by decide +kernel)) ggX8_round_X8_corner
set_option maxRecDepth 20000 in
theorem ggX8_round_X8_side : GoodIn wsX8_round wsX8_side := goodIn_r _ [11, 1, 2, 3, 4, 5, 6, 7, 12, 13, 14, 15, 16, 17, 18, 19, 20, 21, 22, 23, 24, 25, 26, 27, 28, 29, 30, 31, 32, 33, 34, 35, 36, 37, 38, 39, 40, 41, 42, 43, 44, 45, 46, 47, 48, 49, 50] (by decide +kernel) (by decide +kernel)
set_option maxRecDepth 20000 in
theorem gX8_round_X8_side : GoodIn wsX8_round (wsV RX8 194 RX8 yX8_side wsX8_side) := goodIn_app (goodIn_of _ (by decide +kernel)) ggX8_round_X8_side
theorem dX8_round_0 : decode cX8_round 0 = .ok (.aload_n 0, 1) := by decide +kernel
theorem dX8_round_1 : decode cX8_round 1 = .ok (.iload_n 1, 1) := by decide +kernel
theorem dX8_round_2 : decode cX8_round 2 = .ok (.iconst 0, 1) := by decide +kernel
theorem dX8_round_3 : decode cX8_round 3 = .ok (.iload_n 2, 1) := by decide +kernel
theorem dX8_round_4 : decode cX8_round 4 = .ok (.aload_n 0, 1) := by decide +kernel
theorem dX8_round_5 : decode cX8_round 5 = .ok (.iload_n 1, 1) := by decide +kernel
theorem dX8_round_6 : decode cX8_round 6 = .ok (.iconst 2, 1) := by decide +kernel
theorem dX8_round_7 : decode cX8_round 7 = .ok (.iload_n 2, 1) := by decide +kernel
theorem dX8_round_8 : decode cX8_round 8 = .ok (.iconst 0, 1) := by decide +kernel
theorem dX8_round_9 : decode cX8_round 9 = .ok (.invokevirtual 186, 3) := by decide +kernel
theorem dX8_round_12 : decode cX8_round 12 = .ok (.aload_n 0, 1) := by decide +kernel
theorem dX8_round_13 : decode cX8_round 13 = .ok (.iload_n 1, 1) := by decide +kernel
theorem dX8_round_14 : decode cX8_round 14 = .ok (.iconst 2, 1) := by decide +kernel
theorem dX8_round_15 : decode cX8_round 15 = .ok (.iload_n 2, 1) := by decide +kernel
theorem dX8_round_16 : decode cX8_round 16 = .ok (.iconst 1, 1) := by decide +kernel
theorem dX8_round_17 : decode cX8_round 17 = .ok (.invokevirtual 186, 3) := by decide +kernel
theorem dX8_round_20 : decode cX8_round 20 = .ok (.invokevirtual 194, 3) := by decide +kernel
theorem dX8_round_23 : decode cX8_round 23 = .ok (.lreturn, 1) := by decide +kernel
set_option maxRecDepth 20000 in
theorem ggX8_isFlat_X8_round : GoodIn wsX8_isFlat wsX8_round := goodIn_r _ [5, 6, 7, 8, 4, 9, 10, 11, 12, 13, 14, 15, 16, 17, 18, 19, 20, 21, 22, 23, 24, 25, 26, 27, 28, 29, 30, 31, 32, 33, 34, 35, 36, 37, 38, 39, 40, 41, 42, 43, 44, 45, 46, 47, 48, 49, 50, 51, 52, 53, 54] (by decide +kernel) (by decide +kernel)
set_option maxRecDepth 20000 in
theorem gX8_isFlat_X8_round : GoodIn wsX8_isFlat (wsV RX8 198 RX8 yX8_round wsX8_round) := goodIn_app (goodIn_of _ (by decide +kernel)) ggX8_isFlat_X8_round
theorem dX8_isFlat_0 : decode cX8_isFlat 0 = .ok (.aload_n 0, 1) := by decide +kernel
theorem dX8_isFlat_1 : decode cX8_isFlat 1 = .ok (.iload_n 1, 1) := by decide +kernel
theorem dX8_isFlat_2 : decode cX8_isFlat 2 = .ok (.iconst 0, 1) := by decide +kernel
theorem dX8_isFlat_3 : decode cX8_isFlat 3 = .ok (.invokevirtual 198, 3) := by decide +kernel
theorem dX8_isFlat_6 : decode cX8_isFlat 6 = .ok (.lconst 0, 1) := by decide +kernel
theorem dX8_isFlat_7 : decode cX8_isFlat 7 = .ok (.lcmp, 1) := by decide +kernel
theorem dX8_isFlat_8 : decode cX8_isFlat 8 = .ok (.ifCond .eq 14, 3) := by decide +kernel
theorem dX8_isFlat_11 : decode cX8_isFlat 11 = .ok (.aload_n 0, 1) := by decide +kernel
theorem dX8_isFlat_12 : decode cX8_isFlat 12 = .ok (.iload_n 1, 1) := by decide +kernel
theorem dX8_isFlat_13 : decode cX8_isFlat 13 = .ok (.iconst 1, 1) := by decide +kernel
theorem dX8_isFlat_14 : decode cX8_isFlat 14 = .ok (.invokevirtual 198, 3) := by decide +kernel
theorem dX8_isFlat_17 : decode cX8_isFlat 17 = .ok (.lconst 0, 1) := by decide +kernel
theorem dX8_isFlat_18 : decode cX8_isFlat 18 = .ok (.lcmp, 1) := by decide +kernel
theorem dX8_isFlat_19 : decode cX8_isFlat 19 = .ok (.ifCond .ne 7, 3) := by decide +kernel
theorem dX8_isFlat_22 : decode cX8_isFlat 22 = .ok (.iconst 1, 1) := by decide +kernel
theorem dX8_isFlat_23 : decode cX8_isFlat 23 = .ok (.goto 4, 3) := by decide +kernel
theorem dX8_isFlat_26 : decode cX8_isFlat 26 = .ok (.iconst 0, 1) := by decide +kernel
theorem dX8_isFlat_27 : decode cX8_isFlat 27 = .ok (.ireturn, 1) := by decide +kernel
set_option maxRecDepth 20000 in
theorem ggX8_triangle_X8_isPoint : GoodIn wsX8_triangle wsX8_isPoint := goodIn_r _ [8, 9, 10, 11, 7, 12, 16, 17, 18, 19, 20, 21, 22, 23, 24, 25, 26, 27, 28, 29, 30, 31, 32, 33, 34, 35, 36, 37, 38, 39, 40, 41, 42, 43, 44, 45, 46, 47, 48, 49, 50, 51] (by decide +kernel) (by decide +kernel)
set_option maxRecDepth 20000 in
theorem gX8_triangle_X8_isPoint : GoodIn wsX8_triangle (wsV RX8 72 RX8 yX8_isPoint wsX8_isPoint) := goodIn_app (goodIn_of _ (by decide +kernel)) ggX8_triangle_X8_isPoint
set_option maxRecDepth 20000 in
theorem ggX8_triangle_X8_cross : GoodIn wsX8_triangle wsX8_cross := goodIn_r _ [15] (by decide +kernel) (by decide +kernel)
set_option maxRecDepth 20000 in
theorem gX8_triangle_X8_cross : GoodIn wsX8_triangle (va_wsS RX8 190 yX8_cross wsX8_cross) := goodIn_app (goodIn_of _ (by decide +kernel)) ggX8_triangle_X8_cross
theorem dX8_triangle_0 : decode cX8_triangle 0 = .ok (.aload_n 0, 1) := by decide +kernel
theorem dX8_triangle_1 : decode cX8_triangle 1 = .ok (.iload_n 1, 1) := by decide +kernel
theorem dX8_triangle_2 : decode cX8_triangle 2 = .ok (.invokevirtual 72, 3) := by decide +kernel
theorem dX8_triangle_5 : decode cX8_triangle 5 = .ok (.ifCond .eq 34, 3) := by decide +kernel
theorem dX8_triangle_8 : decode cX8_triangle 8 = .ok (.aload_n 0, 1) := by decide +kernel
theorem dX8_triangle_9 : decode cX8_triangle 9 = .ok (.iload_n 2, 1) := by decide +kernel
theorem dX8_triangle_10 : decode cX8_triangle 10 = .ok (.invokevirtual 72, 3) := by decide +kernel
theorem dX8_triangle_13 : decode cX8_triangle 13 = .ok (.ifCond .eq 26, 3) := by decide +kernel
theorem dX8_triangle_16 : decode cX8_triangle 16 = .ok (.aload_n 0, 1) := by decide +kernel
theorem dX8_triangle_17 : decode cX8_triangle 17 = .ok (.iload_n 3, 1) := by decide +kernel
theorem dX8_triangle_18 : decode cX8_triangle 18 = .ok (.invokevirtual 72, 3) := by decide +kernel
theorem dX8_triangle_21 : decode cX8_triangle 21 = .ok (.ifCond .eq 18, 3) := by decide +kernel
theorem dX8_triangle_24 : decode cX8_triangle 24 = .ok (.iload_n 1, 1) := by decide +kernel
theorem dX8_triangle_25 : decode cX8_triangle 25 = .ok (.iload_n 2, 1) := by decide +kernel
theorem dX8_triangle_26 : decode cX8_triangle 26 = .ok (.if_icmp .eq 13, 3) := by decide +kernel
theorem dX8_triangle_29 : decode cX8_triangle 29 = .ok (.iload_n 1, 1) := by decide +kernel
theorem dX8_triangle_30 : decode cX8_triangle 30 = .ok (.iload_n 3, 1) := by decide +kernel
theorem dX8_triangle_31 : decode cX8_triangle 31 = .ok (.if_icmp .eq 8, 3) := by decide +kernel
theorem dX8_triangle_34 : decode cX8_triangle 34 = .ok (.iload_n 2, 1) := by decide +kernel
theorem dX8_triangle_35 : decode cX8_triangle 35 = .ok (.iload_n 3, 1) := by decide +kernel
theorem dX8_triangle_36 : decode cX8_triangle 36 = .ok (.if_icmp .ne 5, 3) := by decide +kernel
theorem dX8_triangle_39 : decode cX8_triangle 39 = .ok (.iconst (-1), 1) := by decide +kernel
theorem dX8_triangle_40 : decode cX8_triangle 40 = .ok (.ireturn, 1) := by decide +kernel
theorem dX8_triangle_41 : decode cX8_triangle 41 = .ok (.iconst 0, 1) := by decide +kernel
theorem dX8_triangle_42 : decode cX8_triangle 42 = .ok (.istore 4, 2) := by decide +kernel
theorem dX8_triangle_44 : decode cX8_triangle 44 = .ok (.iload 4, 2) := by decide +kernel
theorem dX8_triangle_46 : decode cX8_triangle 46 = .ok (.iconst 2, 1) := by decide +kernel
theorem dX8_triangle_47 : decode cX8_triangle 47 = .ok (.if_icmp .ge 104, 3) := by decide +kernel
theorem dX8_triangle_50 : decode cX8_triangle 50 = .ok (.iconst 2, 1) := by decide +kernel
theorem dX8_triangle_51 : decode cX8_triangle 51 = .ok (.iload 4, 2) := by decide +kernel
theorem dX8_triangle_53 : decode cX8_triangle 53 = .ok (.imul, 1) := by decide +kernel
theorem dX8_triangle_54 : decode cX8_triangle 54 = .ok (.istore 5, 2) := by decide +kernel
theorem dX8_triangle_56 : decode cX8_triangle 56 = .ok (.aload_n 0, 1) := by decide +kernel
theorem dX8_triangle_57 : decode cX8_triangle 57 = .ok (.getfield 7, 3) := by decide +kernel
theorem dX8_triangle_60 : decode cX8_triangle 60 = .ok (.iconst 4, 1) := by decide +kernel
theorem dX8_triangle_61 : decode cX8_triangle 61 = .ok (.iload_n 1, 1) := by decide +kernel
theorem dX8_triangle_62 : decode cX8_triangle 62 = .ok (.imul, 1) := by decide +kernel
theorem dX8_triangle_63 : decode cX8_triangle 63 = .ok (.iload 5, 2) := by decide +kernel
theorem dX8_triangle_65 : decode cX8_triangle 65 = .ok (.iadd, 1) := by decide +kernel
theorem dX8_triangle_66 : decode cX8_triangle 66 = .ok (.iaload, 1) := by decide +kernel
theorem dX8_triangle_67 : decode cX8_triangle 67 = .ok (.i2l, 1) := by decide +kernel
theorem dX8_triangle_68 : decode cX8_triangle 68 = .ok (.aload_n 0, 1) := by decide +kernel
theorem dX8_triangle_69 : decode cX8_triangle 69 = .ok (.getfield 7, 3) := by decide +kernel
theorem dX8_triangle_72 : decode cX8_triangle 72 = .ok (.iconst 4, 1) := by decide +kernel
theorem dX8_triangle_73 : decode cX8_triangle 73 = .ok (.iload_n 1, 1) := by decide +kernel
theorem dX8_triangle_74 : decode cX8_triangle 74 = .ok (.imul, 1) := by decide +kernel
theorem dX8_triangle_75 : decode cX8_triangle 75 = .ok (.iload 5, 2) := by decide +kernel
theorem dX8_triangle_77 : decode cX8_triangle 77 = .ok (.iadd, 1) := by decide +kernel
theorem dX8_triangle_78 : decode cX8_triangle 78 = .ok (.iconst 1, 1) := by decide +kernel
theorem dX8_triangle_79 : decode cX8_triangle 79 = .ok (.iadd, 1) := by decide +kernel
theorem dX8_triangle_80 : decode cX8_triangle 80 = .ok (.iaload, 1) := by decide +kernel
theorem dX8_triangle_81 : decode cX8_triangle 81 = .ok (.i2l, 1) := by decide +kernel
theorem dX8_triangle_82 : decode cX8_triangle 82 = .ok (.aload_n 0, 1) := by decide +kernel
theorem dX8_triangle_83 : decode cX8_triangle 83 = .ok (.getfield 7, 3) := by decide +kernel
theorem dX8_triangle_86 : decode cX8_triangle 86 = .ok (.iconst 4, 1) := by decide +kernel
theorem dX8_triangle_87 : decode cX8_triangle 87 = .ok (.iload_n 2, 1) := by decide +kernel
theorem dX8_triangle_88 : decode cX8_triangle 88 = .ok (.imul, 1) := by decide +kernel
theorem dX8_triangle_89 : decode cX8_triangle 89 = .ok (.iload 5, 2) := by decide +kernel
theorem dX8_triangle_91 : decode cX8_triangle 91 = .ok (.iadd, 1) := by decide +kernel
theorem dX8_triangle_92 : decode cX8_triangle 92 = .ok (.iaload, 1) := by decide +kernel
theorem dX8_triangle_93 : decode cX8_triangle 93 = .ok (.i2l, 1) := by decide +kernel
theorem dX8_triangle_94 : decode cX8_triangle 94 = .ok (.aload_n 0, 1) := by decide +kernel
theorem dX8_triangle_95 : decode cX8_triangle 95 = .ok (.getfield 7, 3) := by decide +kernel
theorem dX8_triangle_98 : decode cX8_triangle 98 = .ok (.iconst 4, 1) := by decide +kernel
theorem dX8_triangle_99 : decode cX8_triangle 99 = .ok (.iload_n 2, 1) := by decide +kernel
theorem dX8_triangle_100 : decode cX8_triangle 100 = .ok (.imul, 1) := by decide +kernel
theorem dX8_triangle_101 : decode cX8_triangle 101 = .ok (.iload 5, 2) := by decide +kernel
theorem dX8_triangle_103 : decode cX8_triangle 103 = .ok (.iadd, 1) := by decide +kernel
theorem dX8_triangle_104 : decode cX8_triangle 104 = .ok (.iconst 1, 1) := by decide +kernel
theorem dX8_triangle_105 : decode cX8_triangle 105 = .ok (.iadd, 1) := by decide +kernel
theorem dX8_triangle_106 : decode cX8_triangle 106 = .ok (.iaload, 1) := by decide +kernel
theorem dX8_triangle_107 : decode cX8_triangle 107 = .ok (.i2l, 1) := by decide +kernel
theorem dX8_triangle_108 : decode cX8_triangle 108 = .ok (.aload_n 0, 1) := by decide +kernel
theorem dX8_triangle_109 : decode cX8_triangle 109 = .ok (.getfield 7, 3) := by decide +kernel
theorem dX8_triangle_112 : decode cX8_triangle 112 = .ok (.iconst 4, 1) := by decide +kernel
theorem dX8_triangle_113 : decode cX8_triangle 113 = .ok (.iload_n 3, 1) := by decide +kernel
theorem dX8_triangle_114 : decode cX8_triangle 114 = .ok (.imul, 1) := by decide +kernel
theorem dX8_triangle_115 : decode cX8_triangle 115 = .ok (.iload 5, 2) := by decide +kernel
theorem dX8_triangle_117 : decode cX8_triangle 117 = .ok (.iadd, 1) := by decide +kernel
theorem dX8_triangle_118 : decode cX8_triangle 118 = .ok (.iaload, 1) := by decide +kernel
theorem dX8_triangle_119 : decode cX8_triangle 119 = .ok (.i2l, 1) := by decide +kernel
theorem dX8_triangle_120 : decode cX8_triangle 120 = .ok (.aload_n 0, 1) := by decide +kernel
theorem dX8_triangle_121 : decode cX8_triangle 121 = .ok (.getfield 7, 3) := by decide +kernel
theorem dX8_triangle_124 : decode cX8_triangle 124 = .ok (.iconst 4, 1) := by decide +kernel
theorem dX8_triangle_125 : decode cX8_triangle 125 = .ok (.iload_n 3, 1) := by decide +kernel
theorem dX8_triangle_126 : decode cX8_triangle 126 = .ok (.imul, 1) := by decide +kernel
theorem dX8_triangle_127 : decode cX8_triangle 127 = .ok (.iload 5, 2) := by decide +kernel
theorem dX8_triangle_129 : decode cX8_triangle 129 = .ok (.iadd, 1) := by decide +kernel
theorem dX8_triangle_130 : decode cX8_triangle 130 = .ok (.iconst 1, 1) := by decide +kernel
theorem dX8_triangle_131 : decode cX8_triangle 131 = .ok (.iadd, 1) := by decide +kernel
theorem dX8_triangle_132 : decode cX8_triangle 132 = .ok (.iaload, 1) := by decide +kernel
theorem dX8_triangle_133 : decode cX8_triangle 133 = .ok (.i2l, 1) := by decide +kernel
theorem dX8_triangle_134 : decode cX8_triangle 134 = .ok (.invokestatic 190, 3) := by decide +kernel
theorem dX8_triangle_137 : decode cX8_triangle 137 = .ok (.lconst 0, 1) := by decide +kernel
theorem dX8_triangle_138 : decode cX8_triangle 138 = .ok (.lcmp, 1) := by decide +kernel
theorem dX8_triangle_139 : decode cX8_triangle 139 = .ok (.ifCond .ne 6, 3) := by decide +kernel
theorem dX8_triangle_142 : decode cX8_triangle 142 = .ok (.bipush (-4), 2) := by decide +kernel
theorem dX8_triangle_144 : decode cX8_triangle 144 = .ok (.ireturn, 1) := by decide +kernel
theorem dX8_triangle_145 : decode cX8_triangle 145 = .ok (.iinc 4 1, 3) := by decide +kernel
theorem dX8_triangle_148 : decode cX8_triangle 148 = .ok (.goto (-104), 3) := by decide +kernel
theorem dX8_triangle_151 : decode cX8_triangle 151 = .ok (.aload_n 0, 1) := by decide +kernel
theorem dX8_triangle_152 : decode cX8_triangle 152 = .ok (.getfield 183, 3) := by decide +kernel
theorem dX8_triangle_155 : decode cX8_triangle 155 = .ok (.bipush 10, 2) := by decide +kernel
theorem dX8_triangle_157 : decode cX8_triangle 157 = .ok (.if_icmp .ne 6, 3) := by decide +kernel
theorem dX8_triangle_160 : decode cX8_triangle 160 = .ok (.bipush (-2), 2) := by decide +kernel
theorem dX8_triangle_162 : decode cX8_triangle 162 = .ok (.ireturn, 1) := by decide +kernel
theorem dX8_triangle_163 : decode cX8_triangle 163 = .ok (.aload_n 0, 1) := by decide +kernel
theorem dX8_triangle_164 : decode cX8_triangle 164 = .ok (.getfield 20, 3) := by decide +kernel
theorem dX8_triangle_167 : decode cX8_triangle 167 = .ok (.iconst 3, 1) := by decide +kernel
theorem dX8_triangle_168 : decode cX8_triangle 168 = .ok (.aload_n 0, 1) := by decide +kernel
theorem dX8_triangle_169 : decode cX8_triangle 169 = .ok (.getfield 183, 3) := by decide +kernel
theorem dX8_triangle_172 : decode cX8_triangle 172 = .ok (.imul, 1) := by decide +kernel
theorem dX8_triangle_173 : decode cX8_triangle 173 = .ok (.iload_n 1, 1) := by decide +kernel
theorem dX8_triangle_174 : decode cX8_triangle 174 = .ok (.iastore, 1) := by decide +kernel
theorem dX8_triangle_175 : decode cX8_triangle 175 = .ok (.aload_n 0, 1) := by decide +kernel
theorem dX8_triangle_176 : decode cX8_triangle 176 = .ok (.getfield 20, 3) := by decide +kernel
theorem dX8_triangle_179 : decode cX8_triangle 179 = .ok (.iconst 3, 1) := by decide +kernel
theorem dX8_triangle_180 : decode cX8_triangle 180 = .ok (.aload_n 0, 1) := by decide +kernel
theorem dX8_triangle_181 : decode cX8_triangle 181 = .ok (.getfield 183, 3) := by decide +kernel
theorem dX8_triangle_184 : decode cX8_triangle 184 = .ok (.imul, 1) := by decide +kernel
theorem dX8_triangle_185 : decode cX8_triangle 185 = .ok (.iconst 1, 1) := by decide +kernel
theorem dX8_triangle_186 : decode cX8_triangle 186 = .ok (.iadd, 1) := by decide +kernel
theorem dX8_triangle_187 : decode cX8_triangle 187 = .ok (.iload_n 2, 1) := by decide +kernel
theorem dX8_triangle_188 : decode cX8_triangle 188 = .ok (.iastore, 1) := by decide +kernel
theorem dX8_triangle_189 : decode cX8_triangle 189 = .ok (.aload_n 0, 1) := by decide +kernel
theorem dX8_triangle_190 : decode cX8_triangle 190 = .ok (.getfield 20, 3) := by decide +kernel
theorem dX8_triangle_193 : decode cX8_triangle 193 = .ok (.iconst 3, 1) := by decide +kernel
theorem dX8_triangle_194 : decode cX8_triangle 194 = .ok (.aload_n 0, 1) := by decide +kernel
theorem dX8_triangle_195 : decode cX8_triangle 195 = .ok (.getfield 183, 3) := by decide +kernel
theorem dX8_triangle_198 : decode cX8_triangle 198 = .ok (.imul, 1) := by decide +kernel
theorem dX8_triangle_199 : decode cX8_triangle 199 = .ok (.iconst 2, 1) := by decide +kernel
theorem dX8_triangle_200 : decode cX8_triangle 200 = .ok (.iadd, 1) := by decide +kernel
theorem dX8_triangle_201 : decode cX8_triangle 201 = .ok (.iload_n 3, 1) := by decide +kernel
theorem dX8_triangle_202 : decode cX8_triangle 202 = .ok (.iastore, 1) := by decide +kernel
theorem dX8_triangle_203 : decode cX8_triangle 203 = .ok (.aload_n 0, 1) := by decide +kernel
theorem dX8_triangle_204 : decode cX8_triangle 204 = .ok (.dup, 1) := by decide +kernel
theorem dX8_triangle_205 : decode cX8_triangle 205 = .ok (.getfield 183, 3) := by decide +kernel
theorem dX8_triangle_208 : decode cX8_triangle 208 = .ok (.iconst 1, 1) := by decide +kernel
theorem dX8_triangle_209 : decode cX8_triangle 209 = .ok (.iadd, 1) := by decide +kernel
theorem dX8_triangle_210 : decode cX8_triangle 210 = .ok (.putfield 183, 3) := by decide +kernel
theorem dX8_triangle_213 : decode cX8_triangle 213 = .ok (.aload_n 0, 1) := by decide +kernel
theorem dX8_triangle_214 : decode cX8_triangle 214 = .ok (.getfield 183, 3) := by decide +kernel
theorem dX8_triangle_217 : decode cX8_triangle 217 = .ok (.iconst 1, 1) := by decide +kernel
theorem dX8_triangle_218 : decode cX8_triangle 218 = .ok (.isub, 1) := by decide +kernel
theorem dX8_triangle_219 : decode cX8_triangle 219 = .ok (.ireturn, 1) := by decide +kernel
set_option maxRecDepth 20000 in
theorem ggX8_stateOf_X8_isFlat : GoodIn wsX8_stateOf wsX8_isFlat := goodIn_r _ [5, 6, 7, 8, 4, 9, 10, 11, 12, 13, 14, 15, 16, 17, 18, 19, 20, 21, 22, 23, 24, 25, 26, 27, 28, 29, 30, 31, 32, 33, 34, 35, 36, 37, 38, 39, 40, 41, 42, 43, 44, 45, 46, 47, 48, 49, 50, 51, 52, 53, 54, 55, 56, 57, 58] (by decide +kernel) (by decide +kernel)
set_option maxRecDepth 20000 in
theorem gX8_stateOf_X8_isFlat : GoodIn wsX8_stateOf (wsV RX8 202 RX8 yX8_isFlat wsX8_isFlat) := goodIn_app (goodIn_of _ (by decide +kernel)) ggX8_stateOf_X8_isFlat
set_option maxRecDepth 20000 in
theorem ggX8_stateOf_X8_round : GoodIn wsX8_stateOf wsX8_round := goodIn_r _ [9, 10, 11, 12, 4, 13, 14, 15, 16, 17, 18, 19, 20, 21, 22, 23, 24, 25, 26, 27, 28, 29, 30, 31, 32, 33, 34, 35, 36, 37, 38, 39, 40, 41, 42, 43, 44, 45, 46, 47, 48, 49, 50, 51, 52, 53, 54, 55, 56, 57, 58] (by decide +kernel) (by decide +kernel)
set_option maxRecDepth 20000 in
theorem gX8_stateOf_X8_round : GoodIn wsX8_stateOf (wsV RX8 198 RX8 yX8_round wsX8_round) := goodIn_app (goodIn_of _ (by decide +kernel)) ggX8_stateOf_X8_round
theorem dX8_stateOf_0 : decode cX8_stateOf 0 = .ok (.aload_n 0, 1) := by decide +kernel
theorem dX8_stateOf_1 : decode cX8_stateOf 1 = .ok (.iload_n 1, 1) := by decide +kernel
theorem dX8_stateOf_2 : decode cX8_stateOf 2 = .ok (.invokevirtual 202, 3) := by decide +kernel
theorem dX8_stateOf_5 : decode cX8_stateOf 5 = .ok (.ifCond .eq 7, 3) := by decide +kernel
theorem dX8_stateOf_8 : decode cX8_stateOf 8 = .ok (.iconst 2, 1) := by decide +kernel
theorem dX8_stateOf_9 : decode cX8_stateOf 9 = .ok (.goto 43, 3) := by decide +kernel
theorem dX8_stateOf_12 : decode cX8_stateOf 12 = .ok (.aload_n 0, 1) := by decide +kernel
theorem dX8_stateOf_13 : decode cX8_stateOf 13 = .ok (.iload_n 1, 1) := by decide +kernel
theorem dX8_stateOf_14 : decode cX8_stateOf 14 = .ok (.iconst 0, 1) := by decide +kernel
theorem dX8_stateOf_15 : decode cX8_stateOf 15 = .ok (.invokevirtual 198, 3) := by decide +kernel
theorem dX8_stateOf_18 : decode cX8_stateOf 18 = .ok (.lconst 0, 1) := by decide +kernel
theorem dX8_stateOf_19 : decode cX8_stateOf 19 = .ok (.lcmp, 1) := by decide +kernel
theorem dX8_stateOf_20 : decode cX8_stateOf 20 = .ok (.ifCond .le 7, 3) := by decide +kernel
theorem dX8_stateOf_23 : decode cX8_stateOf 23 = .ok (.iconst 1, 1) := by decide +kernel
theorem dX8_stateOf_24 : decode cX8_stateOf 24 = .ok (.goto 4, 3) := by decide +kernel
theorem dX8_stateOf_27 : decode cX8_stateOf 27 = .ok (.iconst 0, 1) := by decide +kernel
theorem dX8_stateOf_28 : decode cX8_stateOf 28 = .ok (.aload_n 0, 1) := by decide +kernel
theorem dX8_stateOf_29 : decode cX8_stateOf 29 = .ok (.iload_n 1, 1) := by decide +kernel
theorem dX8_stateOf_30 : decode cX8_stateOf 30 = .ok (.iconst 1, 1) := by decide +kernel
theorem dX8_stateOf_31 : decode cX8_stateOf 31 = .ok (.invokevirtual 198, 3) := by decide +kernel
theorem dX8_stateOf_34 : decode cX8_stateOf 34 = .ok (.lconst 0, 1) := by decide +kernel
theorem dX8_stateOf_35 : decode cX8_stateOf 35 = .ok (.lcmp, 1) := by decide +kernel
theorem dX8_stateOf_36 : decode cX8_stateOf 36 = .ok (.ifCond .le 7, 3) := by decide +kernel
theorem dX8_stateOf_39 : decode cX8_stateOf 39 = .ok (.iconst 1, 1) := by decide +kernel
theorem dX8_stateOf_40 : decode cX8_stateOf 40 = .ok (.goto 4, 3) := by decide +kernel
theorem dX8_stateOf_43 : decode cX8_stateOf 43 = .ok (.iconst 0, 1) := by decide +kernel
theorem dX8_stateOf_44 : decode cX8_stateOf 44 = .ok (.if_icmp .eq 7, 3) := by decide +kernel
theorem dX8_stateOf_47 : decode cX8_stateOf 47 = .ok (.iconst 1, 1) := by decide +kernel
theorem dX8_stateOf_48 : decode cX8_stateOf 48 = .ok (.goto 4, 3) := by decide +kernel
theorem dX8_stateOf_51 : decode cX8_stateOf 51 = .ok (.iconst 0, 1) := by decide +kernel
theorem dX8_stateOf_52 : decode cX8_stateOf 52 = .ok (.ireturn, 1) := by decide +kernel
set_option maxRecDepth 20000 in
theorem ggX8_state_X8_isTriangle : GoodIn wsX8_state wsX8_isTriangle := goodIn_r _ [5, 6, 7, 8, 4, 9, 35, 36, 37, 38, 39, 40, 41, 42, 43, 44, 45, 46, 47, 48, 49, 50, 51, 52, 53, 54, 55, 56, 57, 58, 59, 60, 61, 62, 63, 64, 65, 66, 67, 68, 69, 70] (by decide +kernel) (by decide +kernel)
set_option maxRecDepth 20000 in
theorem gX8_state_X8_isTriangle : GoodIn wsX8_state (wsV RX8 205 RX8 yX8_isTriangle wsX8_isTriangle) := goodIn_app (goodIn_of _ (by decide +kernel)) ggX8_state_X8_isTriangle
set_option maxRecDepth 20000 in
theorem ggX8_state_X8_stateOf : GoodIn wsX8_state wsX8_stateOf := goodIn_r _ [13, 14, 15, 16, 4, 17, 18, 19, 20, 21, 22, 23, 24, 25, 26, 27, 28, 29, 30, 31, 32, 33, 34, 35, 36, 37, 38, 39, 40, 41, 42, 43, 44, 45, 46, 47, 48, 49, 50, 51, 52, 53, 54, 55, 56, 57, 58, 59, 60, 61, 62, 63, 64, 65, 66, 67, 68, 69, 70] (by decide +kernel) (by decide +kernel)
set_option maxRecDepth 20000 in
theorem gX8_state_X8_stateOf : GoodIn wsX8_state (wsV RX8 208 RX8 yX8_stateOf wsX8_stateOf) := goodIn_app (goodIn_of _ (by decide +kernel)) ggX8_state_X8_stateOf
theorem dX8_state_0 : decode cX8_state 0 = .ok (.aload_n 0, 1) := by decide +kernel
theorem dX8_state_1 : decode cX8_state 1 = .ok (.iload_n 1, 1) := by decide +kernel
theorem dX8_state_2 : decode cX8_state 2 = .ok (.invokevirtual 205, 3) := by decide +kernel
theorem dX8_state_5 : decode cX8_state 5 = .ok (.ifCond .eq 11, 3) := by decide +kernel
theorem dX8_state_8 : decode cX8_state 8 = .ok (.aload_n 0, 1) := by decide +kernel
theorem dX8_state_9 : decode cX8_state 9 = .ok (.iload_n 1, 1) := by decide +kernel
theorem dX8_state_10 : decode cX8_state 10 = .ok (.invokevirtual 208, 3) := by decide +kernel
theorem dX8_state_13 : decode cX8_state 13 = .ok (.goto 4, 3) := by decide +kernel
theorem dX8_state_16 : decode cX8_state 16 = .ok (.iconst (-1), 1) := by decide +kernel
theorem dX8_state_17 : decode cX8_state 17 = .ok (.ireturn, 1) := by decide +kernel
set_option maxRecDepth 20000 in
theorem ggX8_isWithin_X8_round : GoodIn wsX8_isWithin wsX8_round := goodIn_r _ [5, 6, 7, 8, 4, 9, 10, 11, 12, 13, 14, 15, 16, 17, 18, 23, 24, 25, 26, 27, 28, 29, 30, 31, 32, 33, 34, 35, 36, 37, 38, 39, 40, 41, 42, 43, 44, 45, 46, 47, 48, 49, 50, 51, 52, 53, 54, 55, 56, 57, 58] (by decide +kernel) (by decide +kernel)
set_option maxRecDepth 20000 in
theorem gX8_isWithin_X8_round : GoodIn wsX8_isWithin (wsV RX8 198 RX8 yX8_round wsX8_round) := goodIn_app (goodIn_of _ (by decide +kernel)) ggX8_isWithin_X8_round
set_option maxRecDepth 20000 in
theorem ggX8_isWithin_X8_isFlat : GoodIn wsX8_isWithin wsX8_isFlat := goodIn_r _ [22, 1, 2, 3, 4, 5, 6, 7, 8, 9, 10, 11, 12, 13, 14, 15, 16, 17, 18, 23, 24, 25, 26, 27, 28, 29, 30, 31, 32, 33, 34, 35, 36, 37, 38, 39, 40, 41, 42, 43, 44, 45, 46, 47, 48, 49, 50, 51, 52, 53, 54, 55, 56, 57, 58] (by decide +kernel) (by decide +kernel)
set_option maxRecDepth 20000 in
theorem gX8_isWithin_X8_isFlat : GoodIn wsX8_isWithin (wsV RX8 202 RX8 yX8_isFlat wsX8_isFlat) := goodIn_app (goodIn_of _ (by decide +kernel)) ggX8_isWithin_X8_isFlat
set_option maxRecDepth 20000 in
theorem ggX8_isWithin_X8_side : GoodIn wsX8_isWithin wsX8_side := goodIn_r _ [15, 6, 7, 8, 4, 9, 10, 11, 16, 17, 18, 23, 24, 25, 26, 27, 28, 29, 30, 31, 32, 33, 34, 35, 36, 37, 38, 39, 40, 41, 42, 43, 44, 45, 46, 47, 48, 49, 50, 51, 52, 53, 54, 55, 56, 57, 58] (by decide +kernel) (by decide +kernel)
set_option maxRecDepth 20000 in
theorem gX8_isWithin_X8_side : GoodIn wsX8_isWithin (wsV RX8 194 RX8 yX8_side wsX8_side) := goodIn_app (goodIn_of _ (by decide +kernel)) ggX8_isWithin_X8_side
theorem dX8_isWithin_0 : decode cX8_isWithin 0 = .ok (.aload_n 0, 1) := by decide +kernel
theorem dX8_isWithin_1 : decode cX8_isWithin 1 = .ok (.iload_n 1, 1) := by decide +kernel
theorem dX8_isWithin_2 : decode cX8_isWithin 2 = .ok (.iload_n 2, 1) := by decide +kernel
theorem dX8_isWithin_3 : decode cX8_isWithin 3 = .ok (.invokevirtual 198, 3) := by decide +kernel
theorem dX8_isWithin_6 : decode cX8_isWithin 6 = .ok (.lconst 0, 1) := by decide +kernel
theorem dX8_isWithin_7 : decode cX8_isWithin 7 = .ok (.lcmp, 1) := by decide +kernel
theorem dX8_isWithin_8 : decode cX8_isWithin 8 = .ok (.ifCond .le 7, 3) := by decide +kernel
theorem dX8_isWithin_11 : decode cX8_isWithin 11 = .ok (.iconst 1, 1) := by decide +kernel
theorem dX8_isWithin_12 : decode cX8_isWithin 12 = .ok (.goto 4, 3) := by decide +kernel
theorem dX8_isWithin_15 : decode cX8_isWithin 15 = .ok (.iconst 0, 1) := by decide +kernel
theorem dX8_isWithin_16 : decode cX8_isWithin 16 = .ok (.istore 5, 2) := by decide +kernel
theorem dX8_isWithin_18 : decode cX8_isWithin 18 = .ok (.aload_n 0, 1) := by decide +kernel
theorem dX8_isWithin_19 : decode cX8_isWithin 19 = .ok (.iload_n 1, 1) := by decide +kernel
theorem dX8_isWithin_20 : decode cX8_isWithin 20 = .ok (.invokevirtual 202, 3) := by decide +kernel
theorem dX8_isWithin_23 : decode cX8_isWithin 23 = .ok (.ifCond .ne 7, 3) := by decide +kernel
theorem dX8_isWithin_26 : decode cX8_isWithin 26 = .ok (.iconst 1, 1) := by decide +kernel
theorem dX8_isWithin_27 : decode cX8_isWithin 27 = .ok (.goto 4, 3) := by decide +kernel
theorem dX8_isWithin_30 : decode cX8_isWithin 30 = .ok (.iconst 0, 1) := by decide +kernel
theorem dX8_isWithin_31 : decode cX8_isWithin 31 = .ok (.istore 6, 2) := by decide +kernel
theorem dX8_isWithin_33 : decode cX8_isWithin 33 = .ok (.iconst 0, 1) := by decide +kernel
theorem dX8_isWithin_34 : decode cX8_isWithin 34 = .ok (.istore 7, 2) := by decide +kernel
theorem dX8_isWithin_36 : decode cX8_isWithin 36 = .ok (.iload 7, 2) := by decide +kernel
theorem dX8_isWithin_38 : decode cX8_isWithin 38 = .ok (.iconst 3, 1) := by decide +kernel
theorem dX8_isWithin_39 : decode cX8_isWithin 39 = .ok (.if_icmp .ge 58, 3) := by decide +kernel
theorem dX8_isWithin_42 : decode cX8_isWithin 42 = .ok (.aload_n 0, 1) := by decide +kernel
theorem dX8_isWithin_43 : decode cX8_isWithin 43 = .ok (.iload_n 1, 1) := by decide +kernel
theorem dX8_isWithin_44 : decode cX8_isWithin 44 = .ok (.iload 7, 2) := by decide +kernel
theorem dX8_isWithin_46 : decode cX8_isWithin 46 = .ok (.iload_n 2, 1) := by decide +kernel
theorem dX8_isWithin_47 : decode cX8_isWithin 47 = .ok (.iload_n 3, 1) := by decide +kernel
theorem dX8_isWithin_48 : decode cX8_isWithin 48 = .ok (.i2l, 1) := by decide +kernel
theorem dX8_isWithin_49 : decode cX8_isWithin 49 = .ok (.iload 4, 2) := by decide +kernel
theorem dX8_isWithin_51 : decode cX8_isWithin 51 = .ok (.i2l, 1) := by decide +kernel
theorem dX8_isWithin_52 : decode cX8_isWithin 52 = .ok (.invokevirtual 194, 3) := by decide +kernel
theorem dX8_isWithin_55 : decode cX8_isWithin 55 = .ok (.lstore 8, 2) := by decide +kernel
theorem dX8_isWithin_57 : decode cX8_isWithin 57 = .ok (.iload 6, 2) := by decide +kernel
theorem dX8_isWithin_59 : decode cX8_isWithin 59 = .ok (.ifCond .eq 29, 3) := by decide +kernel
theorem dX8_isWithin_62 : decode cX8_isWithin 62 = .ok (.iload 5, 2) := by decide +kernel
theorem dX8_isWithin_64 : decode cX8_isWithin 64 = .ok (.ifCond .eq 13, 3) := by decide +kernel
theorem dX8_isWithin_67 : decode cX8_isWithin 67 = .ok (.lload 8, 2) := by decide +kernel
theorem dX8_isWithin_69 : decode cX8_isWithin 69 = .ok (.lconst 0, 1) := by decide +kernel
theorem dX8_isWithin_70 : decode cX8_isWithin 70 = .ok (.lcmp, 1) := by decide +kernel
theorem dX8_isWithin_71 : decode cX8_isWithin 71 = .ok (.ifCond .lt 17, 3) := by decide +kernel
theorem dX8_isWithin_74 : decode cX8_isWithin 74 = .ok (.goto 10, 3) := by decide +kernel
theorem dX8_isWithin_77 : decode cX8_isWithin 77 = .ok (.lload 8, 2) := by decide +kernel
theorem dX8_isWithin_79 : decode cX8_isWithin 79 = .ok (.lconst 0, 1) := by decide +kernel
theorem dX8_isWithin_80 : decode cX8_isWithin 80 = .ok (.lcmp, 1) := by decide +kernel
theorem dX8_isWithin_81 : decode cX8_isWithin 81 = .ok (.ifCond .gt 7, 3) := by decide +kernel
theorem dX8_isWithin_84 : decode cX8_isWithin 84 = .ok (.iconst 1, 1) := by decide +kernel
theorem dX8_isWithin_85 : decode cX8_isWithin 85 = .ok (.goto 4, 3) := by decide +kernel
theorem dX8_isWithin_88 : decode cX8_isWithin 88 = .ok (.iconst 0, 1) := by decide +kernel
theorem dX8_isWithin_89 : decode cX8_isWithin 89 = .ok (.istore 6, 2) := by decide +kernel
theorem dX8_isWithin_91 : decode cX8_isWithin 91 = .ok (.iinc 7 1, 3) := by decide +kernel
theorem dX8_isWithin_94 : decode cX8_isWithin 94 = .ok (.goto (-58), 3) := by decide +kernel
theorem dX8_isWithin_97 : decode cX8_isWithin 97 = .ok (.iload 6, 2) := by decide +kernel
theorem dX8_isWithin_99 : decode cX8_isWithin 99 = .ok (.ireturn, 1) := by decide +kernel
set_option maxRecDepth 20000 in
theorem ggX8_within_X8_isMap : GoodIn wsX8_within wsX8_isMap := goodIn_r _ [5, 6, 7, 4, 8] (by decide +kernel) (by decide +kernel)
set_option maxRecDepth 20000 in
theorem gX8_within_X8_isMap : GoodIn wsX8_within (va_wsS RX8 76 yX8_isMap wsX8_isMap) := goodIn_app (goodIn_of _ (by decide +kernel)) ggX8_within_X8_isMap
set_option maxRecDepth 20000 in
theorem ggX8_within_X8_isPlace : GoodIn wsX8_within wsX8_isPlace := goodIn_r _ [11, 6, 7, 4, 8] (by decide +kernel) (by decide +kernel)
set_option maxRecDepth 20000 in
theorem gX8_within_X8_isPlace : GoodIn wsX8_within (va_wsS RX8 68 yX8_isPlace wsX8_isPlace) := goodIn_app (goodIn_of _ (by decide +kernel)) ggX8_within_X8_isPlace
set_option maxRecDepth 20000 in
theorem ggX8_within_X8_isWithin : GoodIn wsX8_within wsX8_isWithin := goodIn_r _ [15, 16, 17, 18, 4, 19, 20, 21, 22, 23, 24, 25, 26, 27, 28, 29, 30, 31, 32, 33, 34, 35, 36, 37, 38, 39, 40, 41, 42, 43, 44, 45, 46, 47, 48, 49, 50, 51, 52, 53, 54, 55, 56, 57, 58, 59, 60, 61, 62, 63, 64, 65, 66, 67, 68, 69, 70, 71, 72] (by decide +kernel) (by decide +kernel)
set_option maxRecDepth 20000 in
theorem gX8_within_X8_isWithin : GoodIn wsX8_within (wsV RX8 211 RX8 yX8_isWithin wsX8_isWithin) := goodIn_app (goodIn_of _ (by decide +kernel)) ggX8_within_X8_isWithin
theorem dX8_within_0 : decode cX8_within 0 = .ok (.iload_n 1, 1) := by decide +kernel
theorem dX8_within_1 : decode cX8_within 1 = .ok (.invokestatic 76, 3) := by decide +kernel
theorem dX8_within_4 : decode cX8_within 4 = .ok (.ifCond .eq 11, 3) := by decide +kernel
theorem dX8_within_7 : decode cX8_within 7 = .ok (.iload_n 2, 1) := by decide +kernel
theorem dX8_within_8 : decode cX8_within 8 = .ok (.iload_n 3, 1) := by decide +kernel
theorem dX8_within_9 : decode cX8_within 9 = .ok (.invokestatic 68, 3) := by decide +kernel
theorem dX8_within_12 : decode cX8_within 12 = .ok (.ifCond .ne 5, 3) := by decide +kernel
theorem dX8_within_15 : decode cX8_within 15 = .ok (.iconst (-1), 1) := by decide +kernel
theorem dX8_within_16 : decode cX8_within 16 = .ok (.ireturn, 1) := by decide +kernel
theorem dX8_within_17 : decode cX8_within 17 = .ok (.iconst 0, 1) := by decide +kernel
theorem dX8_within_18 : decode cX8_within 18 = .ok (.istore 4, 2) := by decide +kernel
theorem dX8_within_20 : decode cX8_within 20 = .ok (.iload 4, 2) := by decide +kernel
theorem dX8_within_22 : decode cX8_within 22 = .ok (.aload_n 0, 1) := by decide +kernel
theorem dX8_within_23 : decode cX8_within 23 = .ok (.getfield 183, 3) := by decide +kernel
theorem dX8_within_26 : decode cX8_within 26 = .ok (.if_icmp .ge 24, 3) := by decide +kernel
theorem dX8_within_29 : decode cX8_within 29 = .ok (.aload_n 0, 1) := by decide +kernel
theorem dX8_within_30 : decode cX8_within 30 = .ok (.iload 4, 2) := by decide +kernel
theorem dX8_within_32 : decode cX8_within 32 = .ok (.iload_n 1, 1) := by decide +kernel
theorem dX8_within_33 : decode cX8_within 33 = .ok (.iload_n 2, 1) := by decide +kernel
theorem dX8_within_34 : decode cX8_within 34 = .ok (.iload_n 3, 1) := by decide +kernel
theorem dX8_within_35 : decode cX8_within 35 = .ok (.invokevirtual 211, 3) := by decide +kernel
theorem dX8_within_38 : decode cX8_within 38 = .ok (.ifCond .eq 6, 3) := by decide +kernel
theorem dX8_within_41 : decode cX8_within 41 = .ok (.iload 4, 2) := by decide +kernel
theorem dX8_within_43 : decode cX8_within 43 = .ok (.ireturn, 1) := by decide +kernel
theorem dX8_within_44 : decode cX8_within 44 = .ok (.iinc 4 1, 3) := by decide +kernel
theorem dX8_within_47 : decode cX8_within 47 = .ok (.goto (-27), 3) := by decide +kernel
theorem dX8_within_50 : decode cX8_within 50 = .ok (.bipush (-5), 2) := by decide +kernel
theorem dX8_within_52 : decode cX8_within 52 = .ok (.ireturn, 1) := by decide +kernel
set_option maxRecDepth 20000 in
theorem ggX8_carried_X8_isTriangle : GoodIn wsX8_carried wsX8_isTriangle := goodIn_r _ [6, 7, 8, 9, 5, 10, 44, 45, 46, 47, 48, 49, 50, 51, 52, 53, 54, 55, 56, 57, 58, 59, 60, 61, 62, 63, 64, 65, 66, 67, 68, 69, 70, 71, 72, 73, 74, 75, 76, 77, 78, 79] (by decide +kernel) (by decide +kernel)
set_option maxRecDepth 20000 in
theorem gX8_carried_X8_isTriangle : GoodIn wsX8_carried (wsV RX8 205 RX8 yX8_isTriangle wsX8_isTriangle) := goodIn_app (goodIn_of _ (by decide +kernel)) ggX8_carried_X8_isTriangle
set_option maxRecDepth 20000 in
theorem ggX8_carried_X8_isMap : GoodIn wsX8_carried wsX8_isMap := goodIn_r _ [13, 8, 9, 5, 10] (by decide +kernel) (by decide +kernel)
set_option maxRecDepth 20000 in
theorem gX8_carried_X8_isMap : GoodIn wsX8_carried (va_wsS RX8 76 yX8_isMap wsX8_isMap) := goodIn_app (goodIn_of _ (by decide +kernel)) ggX8_carried_X8_isMap
set_option maxRecDepth 20000 in
theorem ggX8_carried_X8_isPlace : GoodIn wsX8_carried wsX8_isPlace := goodIn_r _ [16, 8, 9, 5, 10] (by decide +kernel) (by decide +kernel)
set_option maxRecDepth 20000 in
theorem gX8_carried_X8_isPlace : GoodIn wsX8_carried (va_wsS RX8 68 yX8_isPlace wsX8_isPlace) := goodIn_app (goodIn_of _ (by decide +kernel)) ggX8_carried_X8_isPlace
set_option maxRecDepth 20000 in
theorem ggX8_carried_X8_in : GoodIn wsX8_carried wsX8_in := goodIn_r _ [10] (by decide +kernel) (by decide +kernel)
set_option maxRecDepth 20000 in
theorem gX8_carried_X8_in : GoodIn wsX8_carried (va_wsS RX8 61 yX8_in wsX8_in) := goodIn_app (goodIn_of _ (by decide +kernel)) ggX8_carried_X8_in
set_option maxRecDepth 20000 in
theorem ggX8_carried_X8_isFlat : GoodIn wsX8_carried wsX8_isFlat := goodIn_r _ [20, 21, 22, 23, 5, 24, 25, 26, 27, 28, 29, 30, 31, 32, 33, 34, 35, 36, 37, 44, 45, 46, 47, 48, 49, 50, 51, 52, 53, 54, 55, 56, 57, 58, 59, 60, 61, 62, 63, 64, 65, 66, 67, 68, 69, 70, 71, 72, 73, 74, 75, 76, 77, 78, 79] (by decide +kernel) (by decide +kernel)
set_option maxRecDepth 20000 in
theorem gX8_carried_X8_isFlat : GoodIn wsX8_carried (wsV RX8 202 RX8 yX8_isFlat wsX8_isFlat) := goodIn_app (goodIn_of _ (by decide +kernel)) ggX8_carried_X8_isFlat
set_option maxRecDepth 20000 in
theorem ggX8_carried_X8_round : GoodIn wsX8_carried wsX8_round := goodIn_r _ [24, 25, 26, 27, 5, 28, 29, 30, 31, 32, 33, 34, 35, 36, 37, 44, 45, 46, 47, 48, 49, 50, 51, 52, 53, 54, 55, 56, 57, 58, 59, 60, 61, 62, 63, 64, 65, 66, 67, 68, 69, 70, 71, 72, 73, 74, 75, 76, 77, 78, 79] (by decide +kernel) (by decide +kernel)
set_option maxRecDepth 20000 in
theorem gX8_carried_X8_round : GoodIn wsX8_carried (wsV RX8 198 RX8 yX8_round wsX8_round) := goodIn_app (goodIn_of _ (by decide +kernel)) ggX8_carried_X8_round
set_option maxRecDepth 20000 in
theorem ggX8_carried_X8_side : GoodIn wsX8_carried wsX8_side := goodIn_r _ [34, 25, 26, 27, 5, 28, 29, 30, 35, 36, 37, 44, 45, 46, 47, 48, 49, 50, 51, 52, 53, 54, 55, 56, 57, 58, 59, 60, 61, 62, 63, 64, 65, 66, 67, 68, 69, 70, 71, 72, 73, 74, 75, 76, 77, 78, 79] (by decide +kernel) (by decide +kernel)
set_option maxRecDepth 20000 in
theorem gX8_carried_X8_side : GoodIn wsX8_carried (wsV RX8 194 RX8 yX8_side wsX8_side) := goodIn_app (goodIn_of _ (by decide +kernel)) ggX8_carried_X8_side
set_option maxRecDepth 20000 in
theorem ggX8_carried_X8_corner : GoodIn wsX8_carried wsX8_corner := goodIn_r _ [28, 29, 30, 44, 45, 46, 47, 48, 49, 50, 51, 52, 53, 54, 55, 56, 57, 58, 59, 60, 61, 62, 63, 64, 65, 66, 67, 68, 69, 70, 71, 72, 73, 74, 75, 76, 77, 78, 79] (by decide +kernel) (by decide +kernel)
set_option maxRecDepth 20000 in
theorem gX8_carried_X8_corner : GoodIn wsX8_carried (wsV RX8 186 RX8 yX8_corner wsX8_corner) := goodIn_app (goodIn_of _ (by decide +kernel)) ggX8_carried_X8_corner
set_option maxRecDepth 20000 in
theorem ggX8_carried_X8_told : GoodIn wsX8_carried wsX8_told := goodIn_r _ [40, 41, 42, 5, 43] (by decide +kernel) (by decide +kernel)
set_option maxRecDepth 20000 in
theorem gX8_carried_X8_told : GoodIn wsX8_carried (va_wsS RX8 162 yX8_told wsX8_told) := goodIn_app (goodIn_of _ (by decide +kernel)) ggX8_carried_X8_told
theorem dX8_carried_0 : decode cX8_carried 0 = .ok (.aload_n 0, 1) := by decide +kernel
theorem dX8_carried_1 : decode cX8_carried 1 = .ok (.iload_n 1, 1) := by decide +kernel
theorem dX8_carried_2 : decode cX8_carried 2 = .ok (.invokevirtual 205, 3) := by decide +kernel
theorem dX8_carried_5 : decode cX8_carried 5 = .ok (.ifCond .eq 37, 3) := by decide +kernel
theorem dX8_carried_8 : decode cX8_carried 8 = .ok (.iload_n 2, 1) := by decide +kernel
theorem dX8_carried_9 : decode cX8_carried 9 = .ok (.invokestatic 76, 3) := by decide +kernel
theorem dX8_carried_12 : decode cX8_carried 12 = .ok (.ifCond .eq 30, 3) := by decide +kernel
theorem dX8_carried_15 : decode cX8_carried 15 = .ok (.iload_n 3, 1) := by decide +kernel
theorem dX8_carried_16 : decode cX8_carried 16 = .ok (.iload 4, 2) := by decide +kernel
theorem dX8_carried_18 : decode cX8_carried 18 = .ok (.invokestatic 68, 3) := by decide +kernel
theorem dX8_carried_21 : decode cX8_carried 21 = .ok (.ifCond .eq 21, 3) := by decide +kernel
theorem dX8_carried_24 : decode cX8_carried 24 = .ok (.iload 5, 2) := by decide +kernel
theorem dX8_carried_26 : decode cX8_carried 26 = .ok (.iconst 0, 1) := by decide +kernel
theorem dX8_carried_27 : decode cX8_carried 27 = .ok (.iconst 3, 1) := by decide +kernel
theorem dX8_carried_28 : decode cX8_carried 28 = .ok (.invokestatic 61, 3) := by decide +kernel
theorem dX8_carried_31 : decode cX8_carried 31 = .ok (.ifCond .eq 11, 3) := by decide +kernel
theorem dX8_carried_34 : decode cX8_carried 34 = .ok (.aload_n 0, 1) := by decide +kernel
theorem dX8_carried_35 : decode cX8_carried 35 = .ok (.iload_n 1, 1) := by decide +kernel
theorem dX8_carried_36 : decode cX8_carried 36 = .ok (.invokevirtual 202, 3) := by decide +kernel
theorem dX8_carried_39 : decode cX8_carried 39 = .ok (.ifCond .eq 7, 3) := by decide +kernel
theorem dX8_carried_42 : decode cX8_carried 42 = .ok (.ldc2_w 160, 3) := by decide +kernel
theorem dX8_carried_45 : decode cX8_carried 45 = .ok (.lreturn, 1) := by decide +kernel
theorem dX8_carried_46 : decode cX8_carried 46 = .ok (.iconst 1, 1) := by decide +kernel
theorem dX8_carried_47 : decode cX8_carried 47 = .ok (.iload_n 2, 1) := by decide +kernel
theorem dX8_carried_48 : decode cX8_carried 48 = .ok (.isub, 1) := by decide +kernel
theorem dX8_carried_49 : decode cX8_carried 49 = .ok (.istore 6, 2) := by decide +kernel
theorem dX8_carried_51 : decode cX8_carried 51 = .ok (.iload 5, 2) := by decide +kernel
theorem dX8_carried_53 : decode cX8_carried 53 = .ok (.iconst 2, 1) := by decide +kernel
theorem dX8_carried_54 : decode cX8_carried 54 = .ok (.idiv, 1) := by decide +kernel
theorem dX8_carried_55 : decode cX8_carried 55 = .ok (.istore 7, 2) := by decide +kernel
theorem dX8_carried_57 : decode cX8_carried 57 = .ok (.aload_n 0, 1) := by decide +kernel
theorem dX8_carried_58 : decode cX8_carried 58 = .ok (.iload_n 1, 1) := by decide +kernel
theorem dX8_carried_59 : decode cX8_carried 59 = .ok (.iload_n 2, 1) := by decide +kernel
theorem dX8_carried_60 : decode cX8_carried 60 = .ok (.invokevirtual 198, 3) := by decide +kernel
theorem dX8_carried_63 : decode cX8_carried 63 = .ok (.lstore 8, 2) := by decide +kernel
theorem dX8_carried_65 : decode cX8_carried 65 = .ok (.aload_n 0, 1) := by decide +kernel
theorem dX8_carried_66 : decode cX8_carried 66 = .ok (.iload_n 1, 1) := by decide +kernel
theorem dX8_carried_67 : decode cX8_carried 67 = .ok (.iconst 1, 1) := by decide +kernel
theorem dX8_carried_68 : decode cX8_carried 68 = .ok (.iload_n 2, 1) := by decide +kernel
theorem dX8_carried_69 : decode cX8_carried 69 = .ok (.iload_n 3, 1) := by decide +kernel
theorem dX8_carried_70 : decode cX8_carried 70 = .ok (.i2l, 1) := by decide +kernel
theorem dX8_carried_71 : decode cX8_carried 71 = .ok (.iload 4, 2) := by decide +kernel
theorem dX8_carried_73 : decode cX8_carried 73 = .ok (.i2l, 1) := by decide +kernel
theorem dX8_carried_74 : decode cX8_carried 74 = .ok (.invokevirtual 194, 3) := by decide +kernel
theorem dX8_carried_77 : decode cX8_carried 77 = .ok (.aload_n 0, 1) := by decide +kernel
theorem dX8_carried_78 : decode cX8_carried 78 = .ok (.iload_n 1, 1) := by decide +kernel
theorem dX8_carried_79 : decode cX8_carried 79 = .ok (.iconst 0, 1) := by decide +kernel
theorem dX8_carried_80 : decode cX8_carried 80 = .ok (.iload 6, 2) := by decide +kernel
theorem dX8_carried_82 : decode cX8_carried 82 = .ok (.iload 7, 2) := by decide +kernel
theorem dX8_carried_84 : decode cX8_carried 84 = .ok (.invokevirtual 186, 3) := by decide +kernel
theorem dX8_carried_87 : decode cX8_carried 87 = .ok (.lmul, 1) := by decide +kernel
theorem dX8_carried_88 : decode cX8_carried 88 = .ok (.aload_n 0, 1) := by decide +kernel
theorem dX8_carried_89 : decode cX8_carried 89 = .ok (.iload_n 1, 1) := by decide +kernel
theorem dX8_carried_90 : decode cX8_carried 90 = .ok (.iconst 2, 1) := by decide +kernel
theorem dX8_carried_91 : decode cX8_carried 91 = .ok (.iload_n 2, 1) := by decide +kernel
theorem dX8_carried_92 : decode cX8_carried 92 = .ok (.iload_n 3, 1) := by decide +kernel
theorem dX8_carried_93 : decode cX8_carried 93 = .ok (.i2l, 1) := by decide +kernel
theorem dX8_carried_94 : decode cX8_carried 94 = .ok (.iload 4, 2) := by decide +kernel
theorem dX8_carried_96 : decode cX8_carried 96 = .ok (.i2l, 1) := by decide +kernel
theorem dX8_carried_97 : decode cX8_carried 97 = .ok (.invokevirtual 194, 3) := by decide +kernel
theorem dX8_carried_100 : decode cX8_carried 100 = .ok (.aload_n 0, 1) := by decide +kernel
theorem dX8_carried_101 : decode cX8_carried 101 = .ok (.iload_n 1, 1) := by decide +kernel
theorem dX8_carried_102 : decode cX8_carried 102 = .ok (.iconst 1, 1) := by decide +kernel
theorem dX8_carried_103 : decode cX8_carried 103 = .ok (.iload 6, 2) := by decide +kernel
theorem dX8_carried_105 : decode cX8_carried 105 = .ok (.iload 7, 2) := by decide +kernel
theorem dX8_carried_107 : decode cX8_carried 107 = .ok (.invokevirtual 186, 3) := by decide +kernel
theorem dX8_carried_110 : decode cX8_carried 110 = .ok (.lmul, 1) := by decide +kernel
theorem dX8_carried_111 : decode cX8_carried 111 = .ok (.ladd, 1) := by decide +kernel
theorem dX8_carried_112 : decode cX8_carried 112 = .ok (.aload_n 0, 1) := by decide +kernel
theorem dX8_carried_113 : decode cX8_carried 113 = .ok (.iload_n 1, 1) := by decide +kernel
theorem dX8_carried_114 : decode cX8_carried 114 = .ok (.iconst 0, 1) := by decide +kernel
theorem dX8_carried_115 : decode cX8_carried 115 = .ok (.iload_n 2, 1) := by decide +kernel
theorem dX8_carried_116 : decode cX8_carried 116 = .ok (.iload_n 3, 1) := by decide +kernel
theorem dX8_carried_117 : decode cX8_carried 117 = .ok (.i2l, 1) := by decide +kernel
theorem dX8_carried_118 : decode cX8_carried 118 = .ok (.iload 4, 2) := by decide +kernel
theorem dX8_carried_120 : decode cX8_carried 120 = .ok (.i2l, 1) := by decide +kernel
theorem dX8_carried_121 : decode cX8_carried 121 = .ok (.invokevirtual 194, 3) := by decide +kernel
theorem dX8_carried_124 : decode cX8_carried 124 = .ok (.aload_n 0, 1) := by decide +kernel
theorem dX8_carried_125 : decode cX8_carried 125 = .ok (.iload_n 1, 1) := by decide +kernel
theorem dX8_carried_126 : decode cX8_carried 126 = .ok (.iconst 2, 1) := by decide +kernel
theorem dX8_carried_127 : decode cX8_carried 127 = .ok (.iload 6, 2) := by decide +kernel
theorem dX8_carried_129 : decode cX8_carried 129 = .ok (.iload 7, 2) := by decide +kernel
theorem dX8_carried_131 : decode cX8_carried 131 = .ok (.invokevirtual 186, 3) := by decide +kernel
theorem dX8_carried_134 : decode cX8_carried 134 = .ok (.lmul, 1) := by decide +kernel
theorem dX8_carried_135 : decode cX8_carried 135 = .ok (.ladd, 1) := by decide +kernel
theorem dX8_carried_136 : decode cX8_carried 136 = .ok (.lstore 10, 2) := by decide +kernel
theorem dX8_carried_138 : decode cX8_carried 138 = .ok (.lload 8, 2) := by decide +kernel
theorem dX8_carried_140 : decode cX8_carried 140 = .ok (.lconst 0, 1) := by decide +kernel
theorem dX8_carried_141 : decode cX8_carried 141 = .ok (.lcmp, 1) := by decide +kernel
theorem dX8_carried_142 : decode cX8_carried 142 = .ok (.ifCond .ge 9, 3) := by decide +kernel
theorem dX8_carried_145 : decode cX8_carried 145 = .ok (.lload 10, 2) := by decide +kernel
theorem dX8_carried_147 : decode cX8_carried 147 = .ok (.lneg, 1) := by decide +kernel
theorem dX8_carried_148 : decode cX8_carried 148 = .ok (.goto 5, 3) := by decide +kernel
theorem dX8_carried_151 : decode cX8_carried 151 = .ok (.lload 10, 2) := by decide +kernel
theorem dX8_carried_153 : decode cX8_carried 153 = .ok (.lload 8, 2) := by decide +kernel
theorem dX8_carried_155 : decode cX8_carried 155 = .ok (.lconst 0, 1) := by decide +kernel
theorem dX8_carried_156 : decode cX8_carried 156 = .ok (.lcmp, 1) := by decide +kernel
theorem dX8_carried_157 : decode cX8_carried 157 = .ok (.ifCond .ge 9, 3) := by decide +kernel
theorem dX8_carried_160 : decode cX8_carried 160 = .ok (.lload 8, 2) := by decide +kernel
theorem dX8_carried_162 : decode cX8_carried 162 = .ok (.lneg, 1) := by decide +kernel
theorem dX8_carried_163 : decode cX8_carried 163 = .ok (.goto 5, 3) := by decide +kernel
theorem dX8_carried_166 : decode cX8_carried 166 = .ok (.lload 8, 2) := by decide +kernel
theorem dX8_carried_168 : decode cX8_carried 168 = .ok (.iload 5, 2) := by decide +kernel
theorem dX8_carried_170 : decode cX8_carried 170 = .ok (.iconst 2, 1) := by decide +kernel
theorem dX8_carried_171 : decode cX8_carried 171 = .ok (.irem, 1) := by decide +kernel
theorem dX8_carried_172 : decode cX8_carried 172 = .ok (.iconst 1, 1) := by decide +kernel
theorem dX8_carried_173 : decode cX8_carried 173 = .ok (.if_icmp .ne 7, 3) := by decide +kernel
theorem dX8_carried_176 : decode cX8_carried 176 = .ok (.iconst 1, 1) := by decide +kernel
theorem dX8_carried_177 : decode cX8_carried 177 = .ok (.goto 4, 3) := by decide +kernel
theorem dX8_carried_180 : decode cX8_carried 180 = .ok (.iconst 0, 1) := by decide +kernel
theorem dX8_carried_181 : decode cX8_carried 181 = .ok (.invokestatic 162, 3) := by decide +kernel
theorem dX8_carried_184 : decode cX8_carried 184 = .ok (.lreturn, 1) := by decide +kernel
set_option maxRecDepth 20000 in
theorem ggX8_parts_X8_round : GoodIn wsX8_parts wsX8_round := goodIn_r _ [5, 6, 7, 8, 4, 9, 10, 11, 12, 13, 14, 15, 16, 17, 18, 19, 20, 21, 22, 23, 24, 25, 26, 27, 28, 29, 30, 31, 32, 33, 34, 35, 36, 37, 38, 39, 40, 41, 42, 43, 44, 45, 46, 47, 48, 49, 50, 51, 52, 53, 54] (by decide +kernel) (by decide +kernel)
set_option maxRecDepth 20000 in
theorem gX8_parts_X8_round : GoodIn wsX8_parts (wsV RX8 198 RX8 yX8_round wsX8_round) := goodIn_app (goodIn_of _ (by decide +kernel)) ggX8_parts_X8_round
set_option maxRecDepth 20000 in
theorem ggX8_parts_X8_corner : GoodIn wsX8_parts wsX8_corner := goodIn_r _ [9, 10, 11, 19, 20, 21, 22, 23, 24, 25, 26, 27, 28, 29, 30, 31, 32, 33, 34, 35, 36, 37, 38, 39, 40, 41, 42, 43, 44, 45, 46, 47, 48, 49, 50, 51, 52, 53, 54] (by decide +kernel) (by decide +kernel)
set_option maxRecDepth 20000 in
theorem gX8_parts_X8_corner : GoodIn wsX8_parts (wsV RX8 186 RX8 yX8_corner wsX8_corner) := goodIn_app (goodIn_of _ (by decide +kernel)) ggX8_parts_X8_corner
set_option maxRecDepth 20000 in
theorem ggX8_parts_X8_side : GoodIn wsX8_parts wsX8_side := goodIn_r _ [15, 6, 7, 8, 4, 9, 10, 11, 16, 17, 18, 19, 20, 21, 22, 23, 24, 25, 26, 27, 28, 29, 30, 31, 32, 33, 34, 35, 36, 37, 38, 39, 40, 41, 42, 43, 44, 45, 46, 47, 48, 49, 50, 51, 52, 53, 54] (by decide +kernel) (by decide +kernel)
set_option maxRecDepth 20000 in
theorem gX8_parts_X8_side : GoodIn wsX8_parts (wsV RX8 194 RX8 yX8_side wsX8_side) := goodIn_app (goodIn_of _ (by decide +kernel)) ggX8_parts_X8_side
theorem dX8_parts_0 : decode cX8_parts 0 = .ok (.aload_n 0, 1) := by decide +kernel
theorem dX8_parts_1 : decode cX8_parts 1 = .ok (.iload_n 1, 1) := by decide +kernel
theorem dX8_parts_2 : decode cX8_parts 2 = .ok (.iload_n 3, 1) := by decide +kernel
theorem dX8_parts_3 : decode cX8_parts 3 = .ok (.invokevirtual 198, 3) := by decide +kernel
theorem dX8_parts_6 : decode cX8_parts 6 = .ok (.lconst 0, 1) := by decide +kernel
theorem dX8_parts_7 : decode cX8_parts 7 = .ok (.lcmp, 1) := by decide +kernel
theorem dX8_parts_8 : decode cX8_parts 8 = .ok (.ifCond .le 7, 3) := by decide +kernel
theorem dX8_parts_11 : decode cX8_parts 11 = .ok (.iconst 1, 1) := by decide +kernel
theorem dX8_parts_12 : decode cX8_parts 12 = .ok (.goto 4, 3) := by decide +kernel
theorem dX8_parts_15 : decode cX8_parts 15 = .ok (.iconst 0, 1) := by decide +kernel
theorem dX8_parts_16 : decode cX8_parts 16 = .ok (.istore 4, 2) := by decide +kernel
theorem dX8_parts_18 : decode cX8_parts 18 = .ok (.iconst 0, 1) := by decide +kernel
theorem dX8_parts_19 : decode cX8_parts 19 = .ok (.istore 5, 2) := by decide +kernel
theorem dX8_parts_21 : decode cX8_parts 21 = .ok (.iload 5, 2) := by decide +kernel
theorem dX8_parts_23 : decode cX8_parts 23 = .ok (.iconst 3, 1) := by decide +kernel
theorem dX8_parts_24 : decode cX8_parts 24 = .ok (.if_icmp .ge 96, 3) := by decide +kernel
theorem dX8_parts_27 : decode cX8_parts 27 = .ok (.iconst 1, 1) := by decide +kernel
theorem dX8_parts_28 : decode cX8_parts 28 = .ok (.istore 6, 2) := by decide +kernel
theorem dX8_parts_30 : decode cX8_parts 30 = .ok (.iconst 0, 1) := by decide +kernel
theorem dX8_parts_31 : decode cX8_parts 31 = .ok (.istore 7, 2) := by decide +kernel
theorem dX8_parts_33 : decode cX8_parts 33 = .ok (.iload 7, 2) := by decide +kernel
theorem dX8_parts_35 : decode cX8_parts 35 = .ok (.iconst 3, 1) := by decide +kernel
theorem dX8_parts_36 : decode cX8_parts 36 = .ok (.if_icmp .ge 71, 3) := by decide +kernel
theorem dX8_parts_39 : decode cX8_parts 39 = .ok (.aload_n 0, 1) := by decide +kernel
theorem dX8_parts_40 : decode cX8_parts 40 = .ok (.iload_n 1, 1) := by decide +kernel
theorem dX8_parts_41 : decode cX8_parts 41 = .ok (.iload 5, 2) := by decide +kernel
theorem dX8_parts_43 : decode cX8_parts 43 = .ok (.iload_n 3, 1) := by decide +kernel
theorem dX8_parts_44 : decode cX8_parts 44 = .ok (.aload_n 0, 1) := by decide +kernel
theorem dX8_parts_45 : decode cX8_parts 45 = .ok (.iload_n 2, 1) := by decide +kernel
theorem dX8_parts_46 : decode cX8_parts 46 = .ok (.iload 7, 2) := by decide +kernel
theorem dX8_parts_48 : decode cX8_parts 48 = .ok (.iload_n 3, 1) := by decide +kernel
theorem dX8_parts_49 : decode cX8_parts 49 = .ok (.iconst 0, 1) := by decide +kernel
theorem dX8_parts_50 : decode cX8_parts 50 = .ok (.invokevirtual 186, 3) := by decide +kernel
theorem dX8_parts_53 : decode cX8_parts 53 = .ok (.aload_n 0, 1) := by decide +kernel
theorem dX8_parts_54 : decode cX8_parts 54 = .ok (.iload_n 2, 1) := by decide +kernel
theorem dX8_parts_55 : decode cX8_parts 55 = .ok (.iload 7, 2) := by decide +kernel
theorem dX8_parts_57 : decode cX8_parts 57 = .ok (.iload_n 3, 1) := by decide +kernel
theorem dX8_parts_58 : decode cX8_parts 58 = .ok (.iconst 1, 1) := by decide +kernel
theorem dX8_parts_59 : decode cX8_parts 59 = .ok (.invokevirtual 186, 3) := by decide +kernel
theorem dX8_parts_62 : decode cX8_parts 62 = .ok (.invokevirtual 194, 3) := by decide +kernel
theorem dX8_parts_65 : decode cX8_parts 65 = .ok (.lstore 8, 2) := by decide +kernel
theorem dX8_parts_67 : decode cX8_parts 67 = .ok (.iload 6, 2) := by decide +kernel
theorem dX8_parts_69 : decode cX8_parts 69 = .ok (.ifCond .eq 29, 3) := by decide +kernel
theorem dX8_parts_72 : decode cX8_parts 72 = .ok (.iload 4, 2) := by decide +kernel
theorem dX8_parts_74 : decode cX8_parts 74 = .ok (.ifCond .eq 13, 3) := by decide +kernel
theorem dX8_parts_77 : decode cX8_parts 77 = .ok (.lload 8, 2) := by decide +kernel
theorem dX8_parts_79 : decode cX8_parts 79 = .ok (.lconst 0, 1) := by decide +kernel
theorem dX8_parts_80 : decode cX8_parts 80 = .ok (.lcmp, 1) := by decide +kernel
theorem dX8_parts_81 : decode cX8_parts 81 = .ok (.ifCond .gt 17, 3) := by decide +kernel
theorem dX8_parts_84 : decode cX8_parts 84 = .ok (.goto 10, 3) := by decide +kernel
theorem dX8_parts_87 : decode cX8_parts 87 = .ok (.lload 8, 2) := by decide +kernel
theorem dX8_parts_89 : decode cX8_parts 89 = .ok (.lconst 0, 1) := by decide +kernel
theorem dX8_parts_90 : decode cX8_parts 90 = .ok (.lcmp, 1) := by decide +kernel
theorem dX8_parts_91 : decode cX8_parts 91 = .ok (.ifCond .lt 7, 3) := by decide +kernel
theorem dX8_parts_94 : decode cX8_parts 94 = .ok (.iconst 1, 1) := by decide +kernel
theorem dX8_parts_95 : decode cX8_parts 95 = .ok (.goto 4, 3) := by decide +kernel
theorem dX8_parts_98 : decode cX8_parts 98 = .ok (.iconst 0, 1) := by decide +kernel
theorem dX8_parts_99 : decode cX8_parts 99 = .ok (.istore 6, 2) := by decide +kernel
theorem dX8_parts_101 : decode cX8_parts 101 = .ok (.iinc 7 1, 3) := by decide +kernel
theorem dX8_parts_104 : decode cX8_parts 104 = .ok (.goto (-71), 3) := by decide +kernel
theorem dX8_parts_107 : decode cX8_parts 107 = .ok (.iload 6, 2) := by decide +kernel
theorem dX8_parts_109 : decode cX8_parts 109 = .ok (.ifCond .eq 5, 3) := by decide +kernel
theorem dX8_parts_112 : decode cX8_parts 112 = .ok (.iconst 1, 1) := by decide +kernel
theorem dX8_parts_113 : decode cX8_parts 113 = .ok (.ireturn, 1) := by decide +kernel
theorem dX8_parts_114 : decode cX8_parts 114 = .ok (.iinc 5 1, 3) := by decide +kernel
theorem dX8_parts_117 : decode cX8_parts 117 = .ok (.goto (-96), 3) := by decide +kernel
theorem dX8_parts_120 : decode cX8_parts 120 = .ok (.iconst 0, 1) := by decide +kernel
theorem dX8_parts_121 : decode cX8_parts 121 = .ok (.ireturn, 1) := by decide +kernel
set_option maxRecDepth 20000 in
theorem ggX8_doMeet_X8_parts : GoodIn wsX8_doMeet wsX8_parts := goodIn_r _ [5, 6, 7, 8, 4, 9, 10, 11, 12, 13, 14, 15, 16, 17, 18, 19, 20, 21, 22, 23, 24, 25, 26, 27, 28, 29, 30, 31, 32, 33, 34, 35, 36, 37, 38, 39, 40, 41, 42, 43, 44, 45, 46, 47, 48, 49, 50, 51, 52, 53, 54, 55, 56, 57, 58] (by decide +kernel) (by decide +kernel)
set_option maxRecDepth 20000 in
theorem gX8_doMeet_X8_parts : GoodIn wsX8_doMeet (wsV RX8 215 RX8 yX8_parts wsX8_parts) := goodIn_app (goodIn_of _ (by decide +kernel)) ggX8_doMeet_X8_parts
theorem dX8_doMeet_0 : decode cX8_doMeet 0 = .ok (.aload_n 0, 1) := by decide +kernel
theorem dX8_doMeet_1 : decode cX8_doMeet 1 = .ok (.iload_n 1, 1) := by decide +kernel
theorem dX8_doMeet_2 : decode cX8_doMeet 2 = .ok (.iload_n 2, 1) := by decide +kernel
theorem dX8_doMeet_3 : decode cX8_doMeet 3 = .ok (.iload_n 3, 1) := by decide +kernel
theorem dX8_doMeet_4 : decode cX8_doMeet 4 = .ok (.invokevirtual 215, 3) := by decide +kernel
theorem dX8_doMeet_7 : decode cX8_doMeet 7 = .ok (.ifCond .ne 17, 3) := by decide +kernel
theorem dX8_doMeet_10 : decode cX8_doMeet 10 = .ok (.aload_n 0, 1) := by decide +kernel
theorem dX8_doMeet_11 : decode cX8_doMeet 11 = .ok (.iload_n 2, 1) := by decide +kernel
theorem dX8_doMeet_12 : decode cX8_doMeet 12 = .ok (.iload_n 1, 1) := by decide +kernel
theorem dX8_doMeet_13 : decode cX8_doMeet 13 = .ok (.iload_n 3, 1) := by decide +kernel
theorem dX8_doMeet_14 : decode cX8_doMeet 14 = .ok (.invokevirtual 215, 3) := by decide +kernel
theorem dX8_doMeet_17 : decode cX8_doMeet 17 = .ok (.ifCond .ne 7, 3) := by decide +kernel
theorem dX8_doMeet_20 : decode cX8_doMeet 20 = .ok (.iconst 1, 1) := by decide +kernel
theorem dX8_doMeet_21 : decode cX8_doMeet 21 = .ok (.goto 4, 3) := by decide +kernel
theorem dX8_doMeet_24 : decode cX8_doMeet 24 = .ok (.iconst 0, 1) := by decide +kernel
theorem dX8_doMeet_25 : decode cX8_doMeet 25 = .ok (.ireturn, 1) := by decide +kernel
set_option maxRecDepth 20000 in
theorem ggX8_meet_X8_isTriangle : GoodIn wsX8_meet wsX8_isTriangle := goodIn_r _ [5, 6, 7, 8, 4, 9, 42, 43, 44, 45, 46, 47, 48, 49, 50, 51, 52, 53, 54, 55, 56, 57, 58, 59, 60, 61, 62, 63, 64, 65, 66, 67, 68, 69, 70, 71, 72, 73, 74, 75, 76, 77] (by decide +kernel) (by decide +kernel)
set_option maxRecDepth 20000 in
theorem gX8_meet_X8_isTriangle : GoodIn wsX8_meet (wsV RX8 205 RX8 yX8_isTriangle wsX8_isTriangle) := goodIn_app (goodIn_of _ (by decide +kernel)) ggX8_meet_X8_isTriangle
set_option maxRecDepth 20000 in
theorem ggX8_meet_X8_isMap : GoodIn wsX8_meet wsX8_isMap := goodIn_r _ [12, 7, 8, 4, 9] (by decide +kernel) (by decide +kernel)
set_option maxRecDepth 20000 in
theorem gX8_meet_X8_isMap : GoodIn wsX8_meet (va_wsS RX8 76 yX8_isMap wsX8_isMap) := goodIn_app (goodIn_of _ (by decide +kernel)) ggX8_meet_X8_isMap
set_option maxRecDepth 20000 in
theorem ggX8_meet_X8_isFlat : GoodIn wsX8_meet wsX8_isFlat := goodIn_r _ [16, 17, 18, 19, 4, 20, 21, 22, 23, 24, 25, 26, 27, 28, 29, 30, 31, 32, 33, 42, 43, 44, 45, 46, 47, 48, 49, 50, 51, 52, 53, 54, 55, 56, 57, 58, 59, 60, 61, 62, 63, 64, 65, 66, 67, 68, 69, 70, 71, 72, 73, 74, 75, 76, 77] (by decide +kernel) (by decide +kernel)
set_option maxRecDepth 20000 in
theorem gX8_meet_X8_isFlat : GoodIn wsX8_meet (wsV RX8 202 RX8 yX8_isFlat wsX8_isFlat) := goodIn_app (goodIn_of _ (by decide +kernel)) ggX8_meet_X8_isFlat
set_option maxRecDepth 20000 in
theorem ggX8_meet_X8_doMeet : GoodIn wsX8_meet wsX8_doMeet := goodIn_r _ [37, 38, 39, 40, 4, 41, 17, 18, 19, 20, 21, 22, 23, 24, 25, 26, 27, 28, 29, 30, 31, 32, 33, 42, 43, 44, 45, 46, 47, 48, 49, 50, 51, 52, 53, 54, 55, 56, 57, 58, 59, 60, 61, 62, 63, 64, 65, 66, 67, 68, 69, 70, 71, 72, 73, 74, 75, 76, 77] (by decide +kernel) (by decide +kernel)
set_option maxRecDepth 20000 in
theorem gX8_meet_X8_doMeet : GoodIn wsX8_meet (wsV RX8 218 RX8 yX8_doMeet wsX8_doMeet) := goodIn_app (goodIn_of _ (by decide +kernel)) ggX8_meet_X8_doMeet
theorem dX8_meet_0 : decode cX8_meet 0 = .ok (.aload_n 0, 1) := by decide +kernel
theorem dX8_meet_1 : decode cX8_meet 1 = .ok (.iload_n 1, 1) := by decide +kernel
theorem dX8_meet_2 : decode cX8_meet 2 = .ok (.invokevirtual 205, 3) := by decide +kernel
theorem dX8_meet_5 : decode cX8_meet 5 = .ok (.ifCond .eq 23, 3) := by decide +kernel
theorem dX8_meet_8 : decode cX8_meet 8 = .ok (.aload_n 0, 1) := by decide +kernel
theorem dX8_meet_9 : decode cX8_meet 9 = .ok (.iload_n 2, 1) := by decide +kernel
theorem dX8_meet_10 : decode cX8_meet 10 = .ok (.invokevirtual 205, 3) := by decide +kernel
theorem dX8_meet_13 : decode cX8_meet 13 = .ok (.ifCond .eq 15, 3) := by decide +kernel
theorem dX8_meet_16 : decode cX8_meet 16 = .ok (.iload_n 3, 1) := by decide +kernel
theorem dX8_meet_17 : decode cX8_meet 17 = .ok (.invokestatic 76, 3) := by decide +kernel
theorem dX8_meet_20 : decode cX8_meet 20 = .ok (.ifCond .eq 8, 3) := by decide +kernel
theorem dX8_meet_23 : decode cX8_meet 23 = .ok (.iload_n 1, 1) := by decide +kernel
theorem dX8_meet_24 : decode cX8_meet 24 = .ok (.iload_n 2, 1) := by decide +kernel
theorem dX8_meet_25 : decode cX8_meet 25 = .ok (.if_icmp .ne 5, 3) := by decide +kernel
theorem dX8_meet_28 : decode cX8_meet 28 = .ok (.iconst (-1), 1) := by decide +kernel
theorem dX8_meet_29 : decode cX8_meet 29 = .ok (.ireturn, 1) := by decide +kernel
theorem dX8_meet_30 : decode cX8_meet 30 = .ok (.aload_n 0, 1) := by decide +kernel
theorem dX8_meet_31 : decode cX8_meet 31 = .ok (.iload_n 1, 1) := by decide +kernel
theorem dX8_meet_32 : decode cX8_meet 32 = .ok (.invokevirtual 202, 3) := by decide +kernel
theorem dX8_meet_35 : decode cX8_meet 35 = .ok (.ifCond .ne 11, 3) := by decide +kernel
theorem dX8_meet_38 : decode cX8_meet 38 = .ok (.aload_n 0, 1) := by decide +kernel
theorem dX8_meet_39 : decode cX8_meet 39 = .ok (.iload_n 2, 1) := by decide +kernel
theorem dX8_meet_40 : decode cX8_meet 40 = .ok (.invokevirtual 202, 3) := by decide +kernel
theorem dX8_meet_43 : decode cX8_meet 43 = .ok (.ifCond .eq 6, 3) := by decide +kernel
theorem dX8_meet_46 : decode cX8_meet 46 = .ok (.bipush (-4), 2) := by decide +kernel
theorem dX8_meet_48 : decode cX8_meet 48 = .ok (.ireturn, 1) := by decide +kernel
theorem dX8_meet_49 : decode cX8_meet 49 = .ok (.aload_n 0, 1) := by decide +kernel
theorem dX8_meet_50 : decode cX8_meet 50 = .ok (.iload_n 1, 1) := by decide +kernel
theorem dX8_meet_51 : decode cX8_meet 51 = .ok (.iload_n 2, 1) := by decide +kernel
theorem dX8_meet_52 : decode cX8_meet 52 = .ok (.iload_n 3, 1) := by decide +kernel
theorem dX8_meet_53 : decode cX8_meet 53 = .ok (.invokevirtual 218, 3) := by decide +kernel
theorem dX8_meet_56 : decode cX8_meet 56 = .ok (.ifCond .eq 7, 3) := by decide +kernel
theorem dX8_meet_59 : decode cX8_meet 59 = .ok (.iconst 1, 1) := by decide +kernel
theorem dX8_meet_60 : decode cX8_meet 60 = .ok (.goto 4, 3) := by decide +kernel
theorem dX8_meet_63 : decode cX8_meet 63 = .ok (.iconst 0, 1) := by decide +kernel
theorem dX8_meet_64 : decode cX8_meet 64 = .ok (.ireturn, 1) := by decide +kernel
set_option maxRecDepth 20000 in
theorem ggX8_area_X8_isTriangle : GoodIn wsX8_area wsX8_isTriangle := goodIn_r _ [5, 6, 7, 8, 4, 9, 30, 31, 32, 33, 34, 35, 36, 37, 38, 39, 40, 41, 42, 43, 44, 45, 46, 47, 48, 49, 50, 51, 52, 53, 54, 55, 56, 57, 58, 59, 60, 61, 62, 63, 64, 65] (by decide +kernel) (by decide +kernel)
set_option maxRecDepth 20000 in
theorem gX8_area_X8_isTriangle : GoodIn wsX8_area (wsV RX8 205 RX8 yX8_isTriangle wsX8_isTriangle) := goodIn_app (goodIn_of _ (by decide +kernel)) ggX8_area_X8_isTriangle
set_option maxRecDepth 20000 in
theorem ggX8_area_X8_isMap : GoodIn wsX8_area wsX8_isMap := goodIn_r _ [12, 7, 8, 4, 9] (by decide +kernel) (by decide +kernel)
set_option maxRecDepth 20000 in
theorem gX8_area_X8_isMap : GoodIn wsX8_area (va_wsS RX8 76 yX8_isMap wsX8_isMap) := goodIn_app (goodIn_of _ (by decide +kernel)) ggX8_area_X8_isMap
set_option maxRecDepth 20000 in
theorem ggX8_area_X8_round : GoodIn wsX8_area wsX8_round := goodIn_r _ [16, 17, 18, 19, 4, 20, 21, 22, 23, 24, 25, 26, 27, 28, 29, 30, 31, 32, 33, 34, 35, 36, 37, 38, 39, 40, 41, 42, 43, 44, 45, 46, 47, 48, 49, 50, 51, 52, 53, 54, 55, 56, 57, 58, 59, 60, 61, 62, 63, 64, 65] (by decide +kernel) (by decide +kernel)
set_option maxRecDepth 20000 in
theorem gX8_area_X8_round : GoodIn wsX8_area (wsV RX8 198 RX8 yX8_round wsX8_round) := goodIn_app (goodIn_of _ (by decide +kernel)) ggX8_area_X8_round
theorem dX8_area_0 : decode cX8_area 0 = .ok (.aload_n 0, 1) := by decide +kernel
theorem dX8_area_1 : decode cX8_area 1 = .ok (.iload_n 1, 1) := by decide +kernel
theorem dX8_area_2 : decode cX8_area 2 = .ok (.invokevirtual 205, 3) := by decide +kernel
theorem dX8_area_5 : decode cX8_area 5 = .ok (.ifCond .eq 10, 3) := by decide +kernel
theorem dX8_area_8 : decode cX8_area 8 = .ok (.iload_n 2, 1) := by decide +kernel
theorem dX8_area_9 : decode cX8_area 9 = .ok (.invokestatic 76, 3) := by decide +kernel
theorem dX8_area_12 : decode cX8_area 12 = .ok (.ifCond .ne 5, 3) := by decide +kernel
theorem dX8_area_15 : decode cX8_area 15 = .ok (.iconst (-1), 1) := by decide +kernel
theorem dX8_area_16 : decode cX8_area 16 = .ok (.ireturn, 1) := by decide +kernel
theorem dX8_area_17 : decode cX8_area 17 = .ok (.aload_n 0, 1) := by decide +kernel
theorem dX8_area_18 : decode cX8_area 18 = .ok (.iload_n 1, 1) := by decide +kernel
theorem dX8_area_19 : decode cX8_area 19 = .ok (.iload_n 2, 1) := by decide +kernel
theorem dX8_area_20 : decode cX8_area 20 = .ok (.invokevirtual 198, 3) := by decide +kernel
theorem dX8_area_23 : decode cX8_area 23 = .ok (.lstore_n 3, 1) := by decide +kernel
theorem dX8_area_24 : decode cX8_area 24 = .ok (.lload_n 3, 1) := by decide +kernel
theorem dX8_area_25 : decode cX8_area 25 = .ok (.lconst 0, 1) := by decide +kernel
theorem dX8_area_26 : decode cX8_area 26 = .ok (.lcmp, 1) := by decide +kernel
theorem dX8_area_27 : decode cX8_area 27 = .ok (.ifCond .ge 8, 3) := by decide +kernel
theorem dX8_area_30 : decode cX8_area 30 = .ok (.lload_n 3, 1) := by decide +kernel
theorem dX8_area_31 : decode cX8_area 31 = .ok (.lneg, 1) := by decide +kernel
theorem dX8_area_32 : decode cX8_area 32 = .ok (.goto 4, 3) := by decide +kernel
theorem dX8_area_35 : decode cX8_area 35 = .ok (.lload_n 3, 1) := by decide +kernel
theorem dX8_area_36 : decode cX8_area 36 = .ok (.l2i, 1) := by decide +kernel
theorem dX8_area_37 : decode cX8_area 37 = .ok (.ireturn, 1) := by decide +kernel
set_option maxRecDepth 20000 in
theorem ggX8_thing_X8_isMap : GoodIn wsX8_thing wsX8_isMap := goodIn_r _ [6, 7, 8, 5, 9] (by decide +kernel) (by decide +kernel)
set_option maxRecDepth 20000 in
theorem gX8_thing_X8_isMap : GoodIn wsX8_thing (va_wsS RX8 76 yX8_isMap wsX8_isMap) := goodIn_app (goodIn_of _ (by decide +kernel)) ggX8_thing_X8_isMap
set_option maxRecDepth 20000 in
theorem ggX8_thing_X8_in : GoodIn wsX8_thing wsX8_in := goodIn_r _ [9] (by decide +kernel) (by decide +kernel)
set_option maxRecDepth 20000 in
theorem gX8_thing_X8_in : GoodIn wsX8_thing (va_wsS RX8 61 yX8_in wsX8_in) := goodIn_app (goodIn_of _ (by decide +kernel)) ggX8_thing_X8_in
set_option maxRecDepth 20000 in
theorem ggX8_thing_X8_isPlace : GoodIn wsX8_thing wsX8_isPlace := goodIn_r _ [12, 7, 8, 5, 9] (by decide +kernel) (by decide +kernel)
set_option maxRecDepth 20000 in
theorem gX8_thing_X8_isPlace : GoodIn wsX8_thing (va_wsS RX8 68 yX8_isPlace wsX8_isPlace) := goodIn_app (goodIn_of _ (by decide +kernel)) ggX8_thing_X8_isPlace
theorem dX8_thing_0 : decode cX8_thing 0 = .ok (.iload_n 1, 1) := by decide +kernel
theorem dX8_thing_1 : decode cX8_thing 1 = .ok (.invokestatic 76, 3) := by decide +kernel
theorem dX8_thing_4 : decode cX8_thing 4 = .ok (.ifCond .eq 21, 3) := by decide +kernel
theorem dX8_thing_7 : decode cX8_thing 7 = .ok (.iload_n 2, 1) := by decide +kernel
theorem dX8_thing_8 : decode cX8_thing 8 = .ok (.iconst 0, 1) := by decide +kernel
theorem dX8_thing_9 : decode cX8_thing 9 = .ok (.iconst 5, 1) := by decide +kernel
theorem dX8_thing_10 : decode cX8_thing 10 = .ok (.invokestatic 61, 3) := by decide +kernel
theorem dX8_thing_13 : decode cX8_thing 13 = .ok (.ifCond .eq 12, 3) := by decide +kernel
theorem dX8_thing_16 : decode cX8_thing 16 = .ok (.iload_n 3, 1) := by decide +kernel
theorem dX8_thing_17 : decode cX8_thing 17 = .ok (.iload 4, 2) := by decide +kernel
theorem dX8_thing_19 : decode cX8_thing 19 = .ok (.invokestatic 68, 3) := by decide +kernel
theorem dX8_thing_22 : decode cX8_thing 22 = .ok (.ifCond .ne 5, 3) := by decide +kernel
theorem dX8_thing_25 : decode cX8_thing 25 = .ok (.iconst (-1), 1) := by decide +kernel
theorem dX8_thing_26 : decode cX8_thing 26 = .ok (.ireturn, 1) := by decide +kernel
theorem dX8_thing_27 : decode cX8_thing 27 = .ok (.aload_n 0, 1) := by decide +kernel
theorem dX8_thing_28 : decode cX8_thing 28 = .ok (.getfield 23, 3) := by decide +kernel
theorem dX8_thing_31 : decode cX8_thing 31 = .ok (.iload_n 1, 1) := by decide +kernel
theorem dX8_thing_32 : decode cX8_thing 32 = .ok (.iaload, 1) := by decide +kernel
theorem dX8_thing_33 : decode cX8_thing 33 = .ok (.bipush 6, 2) := by decide +kernel
theorem dX8_thing_35 : decode cX8_thing 35 = .ok (.if_icmp .ne 6, 3) := by decide +kernel
theorem dX8_thing_38 : decode cX8_thing 38 = .ok (.bipush (-2), 2) := by decide +kernel
theorem dX8_thing_40 : decode cX8_thing 40 = .ok (.ireturn, 1) := by decide +kernel
theorem dX8_thing_41 : decode cX8_thing 41 = .ok (.bipush 18, 2) := by decide +kernel
theorem dX8_thing_43 : decode cX8_thing 43 = .ok (.iload_n 1, 1) := by decide +kernel
theorem dX8_thing_44 : decode cX8_thing 44 = .ok (.imul, 1) := by decide +kernel
theorem dX8_thing_45 : decode cX8_thing 45 = .ok (.iconst 3, 1) := by decide +kernel
theorem dX8_thing_46 : decode cX8_thing 46 = .ok (.aload_n 0, 1) := by decide +kernel
theorem dX8_thing_47 : decode cX8_thing 47 = .ok (.getfield 23, 3) := by decide +kernel
theorem dX8_thing_50 : decode cX8_thing 50 = .ok (.iload_n 1, 1) := by decide +kernel
theorem dX8_thing_51 : decode cX8_thing 51 = .ok (.iaload, 1) := by decide +kernel
theorem dX8_thing_52 : decode cX8_thing 52 = .ok (.imul, 1) := by decide +kernel
theorem dX8_thing_53 : decode cX8_thing 53 = .ok (.iadd, 1) := by decide +kernel
theorem dX8_thing_54 : decode cX8_thing 54 = .ok (.istore 5, 2) := by decide +kernel
theorem dX8_thing_56 : decode cX8_thing 56 = .ok (.aload_n 0, 1) := by decide +kernel
theorem dX8_thing_57 : decode cX8_thing 57 = .ok (.getfield 26, 3) := by decide +kernel
theorem dX8_thing_60 : decode cX8_thing 60 = .ok (.iload 5, 2) := by decide +kernel
theorem dX8_thing_62 : decode cX8_thing 62 = .ok (.iload_n 2, 1) := by decide +kernel
theorem dX8_thing_63 : decode cX8_thing 63 = .ok (.iastore, 1) := by decide +kernel
theorem dX8_thing_64 : decode cX8_thing 64 = .ok (.aload_n 0, 1) := by decide +kernel
theorem dX8_thing_65 : decode cX8_thing 65 = .ok (.getfield 26, 3) := by decide +kernel
theorem dX8_thing_68 : decode cX8_thing 68 = .ok (.iload 5, 2) := by decide +kernel
theorem dX8_thing_70 : decode cX8_thing 70 = .ok (.iconst 1, 1) := by decide +kernel
theorem dX8_thing_71 : decode cX8_thing 71 = .ok (.iadd, 1) := by decide +kernel
theorem dX8_thing_72 : decode cX8_thing 72 = .ok (.iload_n 3, 1) := by decide +kernel
theorem dX8_thing_73 : decode cX8_thing 73 = .ok (.iastore, 1) := by decide +kernel
theorem dX8_thing_74 : decode cX8_thing 74 = .ok (.aload_n 0, 1) := by decide +kernel
theorem dX8_thing_75 : decode cX8_thing 75 = .ok (.getfield 26, 3) := by decide +kernel
theorem dX8_thing_78 : decode cX8_thing 78 = .ok (.iload 5, 2) := by decide +kernel
theorem dX8_thing_80 : decode cX8_thing 80 = .ok (.iconst 2, 1) := by decide +kernel
theorem dX8_thing_81 : decode cX8_thing 81 = .ok (.iadd, 1) := by decide +kernel
theorem dX8_thing_82 : decode cX8_thing 82 = .ok (.iload 4, 2) := by decide +kernel
theorem dX8_thing_84 : decode cX8_thing 84 = .ok (.iastore, 1) := by decide +kernel
theorem dX8_thing_85 : decode cX8_thing 85 = .ok (.aload_n 0, 1) := by decide +kernel
theorem dX8_thing_86 : decode cX8_thing 86 = .ok (.getfield 23, 3) := by decide +kernel
theorem dX8_thing_89 : decode cX8_thing 89 = .ok (.iload_n 1, 1) := by decide +kernel
theorem dX8_thing_90 : decode cX8_thing 90 = .ok (.dup2, 1) := by decide +kernel
theorem dX8_thing_91 : decode cX8_thing 91 = .ok (.iaload, 1) := by decide +kernel
theorem dX8_thing_92 : decode cX8_thing 92 = .ok (.iconst 1, 1) := by decide +kernel
theorem dX8_thing_93 : decode cX8_thing 93 = .ok (.iadd, 1) := by decide +kernel
theorem dX8_thing_94 : decode cX8_thing 94 = .ok (.iastore, 1) := by decide +kernel
theorem dX8_thing_95 : decode cX8_thing 95 = .ok (.aload_n 0, 1) := by decide +kernel
theorem dX8_thing_96 : decode cX8_thing 96 = .ok (.getfield 23, 3) := by decide +kernel
theorem dX8_thing_99 : decode cX8_thing 99 = .ok (.iload_n 1, 1) := by decide +kernel
theorem dX8_thing_100 : decode cX8_thing 100 = .ok (.iaload, 1) := by decide +kernel
theorem dX8_thing_101 : decode cX8_thing 101 = .ok (.iconst 1, 1) := by decide +kernel
theorem dX8_thing_102 : decode cX8_thing 102 = .ok (.isub, 1) := by decide +kernel
theorem dX8_thing_103 : decode cX8_thing 103 = .ok (.ireturn, 1) := by decide +kernel
set_option maxRecDepth 20000 in
theorem ggX8_sweep_X8_isMap : GoodIn wsX8_sweep wsX8_isMap := goodIn_r _ [5, 6, 7, 4, 8] (by decide +kernel) (by decide +kernel)
set_option maxRecDepth 20000 in
theorem gX8_sweep_X8_isMap : GoodIn wsX8_sweep (va_wsS RX8 76 yX8_isMap wsX8_isMap) := goodIn_app (goodIn_of _ (by decide +kernel)) ggX8_sweep_X8_isMap
theorem dX8_sweep_0 : decode cX8_sweep 0 = .ok (.iload_n 1, 1) := by decide +kernel
theorem dX8_sweep_1 : decode cX8_sweep 1 = .ok (.invokestatic 76, 3) := by decide +kernel
theorem dX8_sweep_4 : decode cX8_sweep 4 = .ok (.ifCond .ne 5, 3) := by decide +kernel
theorem dX8_sweep_7 : decode cX8_sweep 7 = .ok (.iconst (-1), 1) := by decide +kernel
theorem dX8_sweep_8 : decode cX8_sweep 8 = .ok (.ireturn, 1) := by decide +kernel
theorem dX8_sweep_9 : decode cX8_sweep 9 = .ok (.aload_n 0, 1) := by decide +kernel
theorem dX8_sweep_10 : decode cX8_sweep 10 = .ok (.getfield 23, 3) := by decide +kernel
theorem dX8_sweep_13 : decode cX8_sweep 13 = .ok (.iload_n 1, 1) := by decide +kernel
theorem dX8_sweep_14 : decode cX8_sweep 14 = .ok (.iaload, 1) := by decide +kernel
theorem dX8_sweep_15 : decode cX8_sweep 15 = .ok (.istore_n 2, 1) := by decide +kernel
theorem dX8_sweep_16 : decode cX8_sweep 16 = .ok (.aload_n 0, 1) := by decide +kernel
theorem dX8_sweep_17 : decode cX8_sweep 17 = .ok (.getfield 23, 3) := by decide +kernel
theorem dX8_sweep_20 : decode cX8_sweep 20 = .ok (.iload_n 1, 1) := by decide +kernel
theorem dX8_sweep_21 : decode cX8_sweep 21 = .ok (.iconst 0, 1) := by decide +kernel
theorem dX8_sweep_22 : decode cX8_sweep 22 = .ok (.iastore, 1) := by decide +kernel
theorem dX8_sweep_23 : decode cX8_sweep 23 = .ok (.iload_n 2, 1) := by decide +kernel
theorem dX8_sweep_24 : decode cX8_sweep 24 = .ok (.ireturn, 1) := by decide +kernel
theorem dX8_floor_0 : decode cX8_floor 0 = .ok (.lload_n 0, 1) := by decide +kernel
theorem dX8_floor_1 : decode cX8_floor 1 = .ok (.lload_n 2, 1) := by decide +kernel
theorem dX8_floor_2 : decode cX8_floor 2 = .ok (.ldiv, 1) := by decide +kernel
theorem dX8_floor_3 : decode cX8_floor 3 = .ok (.lstore 4, 2) := by decide +kernel
theorem dX8_floor_5 : decode cX8_floor 5 = .ok (.lload_n 0, 1) := by decide +kernel
theorem dX8_floor_6 : decode cX8_floor 6 = .ok (.lload_n 2, 1) := by decide +kernel
theorem dX8_floor_7 : decode cX8_floor 7 = .ok (.lrem, 1) := by decide +kernel
theorem dX8_floor_8 : decode cX8_floor 8 = .ok (.lconst 0, 1) := by decide +kernel
theorem dX8_floor_9 : decode cX8_floor 9 = .ok (.lcmp, 1) := by decide +kernel
theorem dX8_floor_10 : decode cX8_floor 10 = .ok (.ifCond .ge 10, 3) := by decide +kernel
theorem dX8_floor_13 : decode cX8_floor 13 = .ok (.lload 4, 2) := by decide +kernel
theorem dX8_floor_15 : decode cX8_floor 15 = .ok (.lconst 1, 1) := by decide +kernel
theorem dX8_floor_16 : decode cX8_floor 16 = .ok (.lsub, 1) := by decide +kernel
theorem dX8_floor_17 : decode cX8_floor 17 = .ok (.goto 5, 3) := by decide +kernel
theorem dX8_floor_20 : decode cX8_floor 20 = .ok (.lload 4, 2) := by decide +kernel
theorem dX8_floor_22 : decode cX8_floor 22 = .ok (.lreturn, 1) := by decide +kernel
set_option maxRecDepth 20000 in
theorem ggX8_rounded_X8_floor : GoodIn wsX8_rounded wsX8_floor := goodIn_r _ [5] (by decide +kernel) (by decide +kernel)
set_option maxRecDepth 20000 in
theorem gX8_rounded_X8_floor : GoodIn wsX8_rounded (va_wsS RX8 221 yX8_floor wsX8_floor) := goodIn_app (goodIn_of _ (by decide +kernel)) ggX8_rounded_X8_floor
theorem dX8_rounded_0 : decode cX8_rounded 0 = .ok (.ldc2_w 123, 3) := by decide +kernel
theorem dX8_rounded_3 : decode cX8_rounded 3 = .ok (.lload_n 0, 1) := by decide +kernel
theorem dX8_rounded_4 : decode cX8_rounded 4 = .ok (.lmul, 1) := by decide +kernel
theorem dX8_rounded_5 : decode cX8_rounded 5 = .ok (.lload_n 2, 1) := by decide +kernel
theorem dX8_rounded_6 : decode cX8_rounded 6 = .ok (.ladd, 1) := by decide +kernel
theorem dX8_rounded_7 : decode cX8_rounded 7 = .ok (.ldc2_w 123, 3) := by decide +kernel
theorem dX8_rounded_10 : decode cX8_rounded 10 = .ok (.lload_n 2, 1) := by decide +kernel
theorem dX8_rounded_11 : decode cX8_rounded 11 = .ok (.lmul, 1) := by decide +kernel
theorem dX8_rounded_12 : decode cX8_rounded 12 = .ok (.invokestatic 221, 3) := by decide +kernel
theorem dX8_rounded_15 : decode cX8_rounded 15 = .ok (.lreturn, 1) := by decide +kernel
set_option maxRecDepth 20000 in
theorem ggX8_findCosts_X8_rounded : GoodIn wsX8_findCosts wsX8_rounded := goodIn_r _ [16, 17, 18, 19, 15, 20] (by decide +kernel) (by decide +kernel)
set_option maxRecDepth 20000 in
theorem gX8_findCosts_X8_rounded : GoodIn wsX8_findCosts (va_wsS RX8 224 yX8_rounded wsX8_rounded) := goodIn_app (goodIn_of _ (by decide +kernel)) ggX8_findCosts_X8_rounded
theorem dX8_findCosts_0 : decode cX8_findCosts 0 = .ok (.iconst 0, 1) := by decide +kernel
theorem dX8_findCosts_1 : decode cX8_findCosts 1 = .ok (.istore_n 1, 1) := by decide +kernel
theorem dX8_findCosts_2 : decode cX8_findCosts 2 = .ok (.iload_n 1, 1) := by decide +kernel
theorem dX8_findCosts_3 : decode cX8_findCosts 3 = .ok (.aload_n 0, 1) := by decide +kernel
theorem dX8_findCosts_4 : decode cX8_findCosts 4 = .ok (.getfield 23, 3) := by decide +kernel
theorem dX8_findCosts_7 : decode cX8_findCosts 7 = .ok (.iconst 0, 1) := by decide +kernel
theorem dX8_findCosts_8 : decode cX8_findCosts 8 = .ok (.iaload, 1) := by decide +kernel
theorem dX8_findCosts_9 : decode cX8_findCosts 9 = .ok (.if_icmp .ge 222, 3) := by decide +kernel
theorem dX8_findCosts_12 : decode cX8_findCosts 12 = .ok (.aload_n 0, 1) := by decide +kernel
theorem dX8_findCosts_13 : decode cX8_findCosts 13 = .ok (.getfield 26, 3) := by decide +kernel
theorem dX8_findCosts_16 : decode cX8_findCosts 16 = .ok (.iconst 3, 1) := by decide +kernel
theorem dX8_findCosts_17 : decode cX8_findCosts 17 = .ok (.iload_n 1, 1) := by decide +kernel
theorem dX8_findCosts_18 : decode cX8_findCosts 18 = .ok (.imul, 1) := by decide +kernel
theorem dX8_findCosts_19 : decode cX8_findCosts 19 = .ok (.iconst 1, 1) := by decide +kernel
theorem dX8_findCosts_20 : decode cX8_findCosts 20 = .ok (.iadd, 1) := by decide +kernel
theorem dX8_findCosts_21 : decode cX8_findCosts 21 = .ok (.iaload, 1) := by decide +kernel
theorem dX8_findCosts_22 : decode cX8_findCosts 22 = .ok (.i2l, 1) := by decide +kernel
theorem dX8_findCosts_23 : decode cX8_findCosts 23 = .ok (.lstore_n 2, 1) := by decide +kernel
theorem dX8_findCosts_24 : decode cX8_findCosts 24 = .ok (.aload_n 0, 1) := by decide +kernel
theorem dX8_findCosts_25 : decode cX8_findCosts 25 = .ok (.getfield 26, 3) := by decide +kernel
theorem dX8_findCosts_28 : decode cX8_findCosts 28 = .ok (.iconst 3, 1) := by decide +kernel
theorem dX8_findCosts_29 : decode cX8_findCosts 29 = .ok (.iload_n 1, 1) := by decide +kernel
theorem dX8_findCosts_30 : decode cX8_findCosts 30 = .ok (.imul, 1) := by decide +kernel
theorem dX8_findCosts_31 : decode cX8_findCosts 31 = .ok (.iconst 2, 1) := by decide +kernel
theorem dX8_findCosts_32 : decode cX8_findCosts 32 = .ok (.iadd, 1) := by decide +kernel
theorem dX8_findCosts_33 : decode cX8_findCosts 33 = .ok (.iaload, 1) := by decide +kernel
theorem dX8_findCosts_34 : decode cX8_findCosts 34 = .ok (.i2l, 1) := by decide +kernel
theorem dX8_findCosts_35 : decode cX8_findCosts 35 = .ok (.lstore 4, 2) := by decide +kernel
theorem dX8_findCosts_37 : decode cX8_findCosts 37 = .ok (.aload_n 0, 1) := by decide +kernel
theorem dX8_findCosts_38 : decode cX8_findCosts 38 = .ok (.getfield 83, 3) := by decide +kernel
theorem dX8_findCosts_41 : decode cX8_findCosts 41 = .ok (.lload_n 2, 1) := by decide +kernel
theorem dX8_findCosts_42 : decode cX8_findCosts 42 = .ok (.lmul, 1) := by decide +kernel
theorem dX8_findCosts_43 : decode cX8_findCosts 43 = .ok (.aload_n 0, 1) := by decide +kernel
theorem dX8_findCosts_44 : decode cX8_findCosts 44 = .ok (.getfield 87, 3) := by decide +kernel
theorem dX8_findCosts_47 : decode cX8_findCosts 47 = .ok (.lload 4, 2) := by decide +kernel
theorem dX8_findCosts_49 : decode cX8_findCosts 49 = .ok (.lmul, 1) := by decide +kernel
theorem dX8_findCosts_50 : decode cX8_findCosts 50 = .ok (.ladd, 1) := by decide +kernel
theorem dX8_findCosts_51 : decode cX8_findCosts 51 = .ok (.aload_n 0, 1) := by decide +kernel
theorem dX8_findCosts_52 : decode cX8_findCosts 52 = .ok (.getfield 90, 3) := by decide +kernel
theorem dX8_findCosts_55 : decode cX8_findCosts 55 = .ok (.ladd, 1) := by decide +kernel
theorem dX8_findCosts_56 : decode cX8_findCosts 56 = .ok (.aload_n 0, 1) := by decide +kernel
theorem dX8_findCosts_57 : decode cX8_findCosts 57 = .ok (.getfield 93, 3) := by decide +kernel
theorem dX8_findCosts_60 : decode cX8_findCosts 60 = .ok (.invokestatic 224, 3) := by decide +kernel
theorem dX8_findCosts_63 : decode cX8_findCosts 63 = .ok (.lstore 6, 2) := by decide +kernel
theorem dX8_findCosts_65 : decode cX8_findCosts 65 = .ok (.aload_n 0, 1) := by decide +kernel
theorem dX8_findCosts_66 : decode cX8_findCosts 66 = .ok (.getfield 96, 3) := by decide +kernel
theorem dX8_findCosts_69 : decode cX8_findCosts 69 = .ok (.lload_n 2, 1) := by decide +kernel
theorem dX8_findCosts_70 : decode cX8_findCosts 70 = .ok (.lmul, 1) := by decide +kernel
theorem dX8_findCosts_71 : decode cX8_findCosts 71 = .ok (.aload_n 0, 1) := by decide +kernel
theorem dX8_findCosts_72 : decode cX8_findCosts 72 = .ok (.getfield 99, 3) := by decide +kernel
theorem dX8_findCosts_75 : decode cX8_findCosts 75 = .ok (.lload 4, 2) := by decide +kernel
theorem dX8_findCosts_77 : decode cX8_findCosts 77 = .ok (.lmul, 1) := by decide +kernel
theorem dX8_findCosts_78 : decode cX8_findCosts 78 = .ok (.ladd, 1) := by decide +kernel
theorem dX8_findCosts_79 : decode cX8_findCosts 79 = .ok (.aload_n 0, 1) := by decide +kernel
theorem dX8_findCosts_80 : decode cX8_findCosts 80 = .ok (.getfield 102, 3) := by decide +kernel
theorem dX8_findCosts_83 : decode cX8_findCosts 83 = .ok (.ladd, 1) := by decide +kernel
theorem dX8_findCosts_84 : decode cX8_findCosts 84 = .ok (.aload_n 0, 1) := by decide +kernel
theorem dX8_findCosts_85 : decode cX8_findCosts 85 = .ok (.getfield 105, 3) := by decide +kernel
theorem dX8_findCosts_88 : decode cX8_findCosts 88 = .ok (.invokestatic 224, 3) := by decide +kernel
theorem dX8_findCosts_91 : decode cX8_findCosts 91 = .ok (.lstore 8, 2) := by decide +kernel
theorem dX8_findCosts_93 : decode cX8_findCosts 93 = .ok (.iconst 0, 1) := by decide +kernel
theorem dX8_findCosts_94 : decode cX8_findCosts 94 = .ok (.istore 10, 2) := by decide +kernel
theorem dX8_findCosts_96 : decode cX8_findCosts 96 = .ok (.iload 10, 2) := by decide +kernel
theorem dX8_findCosts_98 : decode cX8_findCosts 98 = .ok (.aload_n 0, 1) := by decide +kernel
theorem dX8_findCosts_99 : decode cX8_findCosts 99 = .ok (.getfield 23, 3) := by decide +kernel
theorem dX8_findCosts_102 : decode cX8_findCosts 102 = .ok (.iconst 1, 1) := by decide +kernel
theorem dX8_findCosts_103 : decode cX8_findCosts 103 = .ok (.iaload, 1) := by decide +kernel
theorem dX8_findCosts_104 : decode cX8_findCosts 104 = .ok (.if_icmp .ge 121, 3) := by decide +kernel
theorem dX8_findCosts_107 : decode cX8_findCosts 107 = .ok (.lload 6, 2) := by decide +kernel
theorem dX8_findCosts_109 : decode cX8_findCosts 109 = .ok (.aload_n 0, 1) := by decide +kernel
theorem dX8_findCosts_110 : decode cX8_findCosts 110 = .ok (.getfield 26, 3) := by decide +kernel
theorem dX8_findCosts_113 : decode cX8_findCosts 113 = .ok (.bipush 18, 2) := by decide +kernel
theorem dX8_findCosts_115 : decode cX8_findCosts 115 = .ok (.iconst 3, 1) := by decide +kernel
theorem dX8_findCosts_116 : decode cX8_findCosts 116 = .ok (.iload 10, 2) := by decide +kernel
theorem dX8_findCosts_118 : decode cX8_findCosts 118 = .ok (.imul, 1) := by decide +kernel
theorem dX8_findCosts_119 : decode cX8_findCosts 119 = .ok (.iadd, 1) := by decide +kernel
theorem dX8_findCosts_120 : decode cX8_findCosts 120 = .ok (.iconst 1, 1) := by decide +kernel
theorem dX8_findCosts_121 : decode cX8_findCosts 121 = .ok (.iadd, 1) := by decide +kernel
theorem dX8_findCosts_122 : decode cX8_findCosts 122 = .ok (.iaload, 1) := by decide +kernel
theorem dX8_findCosts_123 : decode cX8_findCosts 123 = .ok (.i2l, 1) := by decide +kernel
theorem dX8_findCosts_124 : decode cX8_findCosts 124 = .ok (.lsub, 1) := by decide +kernel
theorem dX8_findCosts_125 : decode cX8_findCosts 125 = .ok (.lstore 11, 2) := by decide +kernel
theorem dX8_findCosts_127 : decode cX8_findCosts 127 = .ok (.lload 8, 2) := by decide +kernel
theorem dX8_findCosts_129 : decode cX8_findCosts 129 = .ok (.aload_n 0, 1) := by decide +kernel
theorem dX8_findCosts_130 : decode cX8_findCosts 130 = .ok (.getfield 26, 3) := by decide +kernel
theorem dX8_findCosts_133 : decode cX8_findCosts 133 = .ok (.bipush 18, 2) := by decide +kernel
