theorem dX7_off_30 : decode cX7_off 30 = .ok (.invokevirtual 97, 3) := by decide +kernel
theorem dX7_off_33 : decode cX7_off 33 = .ok (.ifCond .ne 7, 3) := by decide +kernel
theorem dX7_off_36 : decode cX7_off 36 = .ok (.ldc2_w 100, 3) := by decide +kernel
theorem dX7_off_39 : decode cX7_off 39 = .ok (.lreturn, 1) := by decide +kernel
theorem dX7_off_40 : decode cX7_off 40 = .ok (.iload_n 3, 1) := by decide +kernel
theorem dX7_off_41 : decode cX7_off 41 = .ok (.iconst 2, 1) := by decide +kernel
theorem dX7_off_42 : decode cX7_off 42 = .ok (.idiv, 1) := by decide +kernel
theorem dX7_off_43 : decode cX7_off 43 = .ok (.istore 4, 2) := by decide +kernel
theorem dX7_off_45 : decode cX7_off 45 = .ok (.aload_n 0, 1) := by decide +kernel
theorem dX7_off_46 : decode cX7_off 46 = .ok (.getfield 28, 3) := by decide +kernel
theorem dX7_off_49 : decode cX7_off 49 = .ok (.iload 4, 2) := by decide +kernel
theorem dX7_off_51 : decode cX7_off 51 = .ok (.iload_n 2, 1) := by decide +kernel
theorem dX7_off_52 : decode cX7_off 52 = .ok (.invokevirtual 140, 3) := by decide +kernel
theorem dX7_off_55 : decode cX7_off 55 = .ok (.aload_n 0, 1) := by decide +kernel
theorem dX7_off_56 : decode cX7_off 56 = .ok (.getfield 28, 3) := by decide +kernel
theorem dX7_off_59 : decode cX7_off 59 = .ok (.iload 4, 2) := by decide +kernel
theorem dX7_off_61 : decode cX7_off 61 = .ok (.invokevirtual 132, 3) := by decide +kernel
theorem dX7_off_64 : decode cX7_off 64 = .ok (.getfield 115, 3) := by decide +kernel
theorem dX7_off_67 : decode cX7_off 67 = .ok (.iload_n 3, 1) := by decide +kernel
theorem dX7_off_68 : decode cX7_off 68 = .ok (.iconst 2, 1) := by decide +kernel
theorem dX7_off_69 : decode cX7_off 69 = .ok (.irem, 1) := by decide +kernel
theorem dX7_off_70 : decode cX7_off 70 = .ok (.invokestatic 118, 3) := by decide +kernel
theorem dX7_off_73 : decode cX7_off 73 = .ok (.lreturn, 1) := by decide +kernel
set_option maxRecDepth 20000 in
theorem ggX7_miss_X7_isKind : GoodIn wsX7_miss wsX7_isKind := goodIn_r _ [6] (by decide +kernel) (by decide +kernel)
set_option maxRecDepth 20000 in
theorem gX7_miss_X7_isKind : GoodIn wsX7_miss (va_wsS RX7 94 yX7_isKind wsX7_isKind) := goodIn_app (goodIn_of _ (by decide +kernel)) ggX7_miss_X7_isKind
set_option maxRecDepth 20000 in
theorem ggX7_miss_X7_fits : GoodIn wsX7_miss wsX7_fits := goodIn_r _ [10, 2, 11, 12, 13, 14, 15, 16, 17, 18, 19, 20, 21, 22, 23, 24, 25, 26, 27, 28, 29, 30, 31, 32, 33, 34, 35, 36, 37, 38, 39, 40, 41, 42, 43, 44, 45, 46, 47, 48, 49, 50, 51, 52, 53, 54, 55, 56, 57, 58, 59, 60, 61, 62, 63, 89, 90, 91, 92, 93, 94, 95, 100, 101, 102, 103, 104, 105, 106, 107, 108, 109, 110, 111, 112, 113, 114, 96, 97, 98, 99] (by decide +kernel) (by decide +kernel)
set_option maxRecDepth 20000 in
theorem gX7_miss_X7_fits : GoodIn wsX7_miss (wsV RX7 97 RX7 yX7_fits wsX7_fits) := goodIn_app (goodIn_of _ (by decide +kernel)) ggX7_miss_X7_fits
set_option maxRecDepth 20000 in
theorem ggX7_miss_X0_missAbove : GoodIn wsX7_miss wsX0_missAbove := goodIn_r _ [66, 22, 67, 68, 69, 19, 70, 71, 56, 57, 58, 59, 39, 23, 24, 25, 72, 73, 74, 75, 108, 109, 110, 111, 112, 113, 114, 104, 105, 106, 107] (by decide +kernel) (by decide +kernel)
set_option maxRecDepth 20000 in
theorem gX7_miss_X0_missAbove_n144 : GoodIn wsX7_miss (wsX0_missAbove) := ggX7_miss_X0_missAbove
set_option maxRecDepth 20000 in
theorem ggX7_miss_X0_along : GoodIn wsX7_miss wsX0_along := goodIn_r _ [78, 26, 27, 108, 109, 110, 111, 112, 113, 114] (by decide +kernel) (by decide +kernel)
set_option maxRecDepth 20000 in
theorem gX7_miss_X0_along_n132 : GoodIn wsX7_miss (wsX0_along) := ggX7_miss_X0_along
set_option maxRecDepth 20000 in
theorem ggX7_miss_X7_cleared : GoodIn wsX7_miss wsX7_cleared := goodIn_r _ [81, 82, 83, 84, 85, 1, 86, 87, 5, 88] (by decide +kernel) (by decide +kernel)
set_option maxRecDepth 20000 in
theorem gX7_miss_X7_cleared : GoodIn wsX7_miss (va_wsS RX7 118 yX7_cleared wsX7_cleared) := goodIn_app (goodIn_of _ (by decide +kernel)) ggX7_miss_X7_cleared
theorem dX7_miss_0 : decode cX7_miss 0 = .ok (.iload_n 1, 1) := by decide +kernel
theorem dX7_miss_1 : decode cX7_miss 1 = .ok (.iconst 2, 1) := by decide +kernel
theorem dX7_miss_2 : decode cX7_miss 2 = .ok (.if_icmp .ne 7, 3) := by decide +kernel
theorem dX7_miss_5 : decode cX7_miss 5 = .ok (.iconst 3, 1) := by decide +kernel
theorem dX7_miss_6 : decode cX7_miss 6 = .ok (.goto 4, 3) := by decide +kernel
theorem dX7_miss_9 : decode cX7_miss 9 = .ok (.iconst 1, 1) := by decide +kernel
theorem dX7_miss_10 : decode cX7_miss 10 = .ok (.istore_n 3, 1) := by decide +kernel
theorem dX7_miss_11 : decode cX7_miss 11 = .ok (.iload_n 1, 1) := by decide +kernel
theorem dX7_miss_12 : decode cX7_miss 12 = .ok (.invokestatic 94, 3) := by decide +kernel
theorem dX7_miss_15 : decode cX7_miss 15 = .ok (.ifCond .eq 20, 3) := by decide +kernel
theorem dX7_miss_18 : decode cX7_miss 18 = .ok (.iload_n 2, 1) := by decide +kernel
theorem dX7_miss_19 : decode cX7_miss 19 = .ok (.ifCond .lt 16, 3) := by decide +kernel
theorem dX7_miss_22 : decode cX7_miss 22 = .ok (.iload_n 2, 1) := by decide +kernel
theorem dX7_miss_23 : decode cX7_miss 23 = .ok (.iload_n 3, 1) := by decide +kernel
theorem dX7_miss_24 : decode cX7_miss 24 = .ok (.if_icmp .gt 11, 3) := by decide +kernel
theorem dX7_miss_27 : decode cX7_miss 27 = .ok (.aload_n 0, 1) := by decide +kernel
theorem dX7_miss_28 : decode cX7_miss 28 = .ok (.iload_n 1, 1) := by decide +kernel
theorem dX7_miss_29 : decode cX7_miss 29 = .ok (.invokevirtual 97, 3) := by decide +kernel
theorem dX7_miss_32 : decode cX7_miss 32 = .ok (.ifCond .ne 7, 3) := by decide +kernel
theorem dX7_miss_35 : decode cX7_miss 35 = .ok (.ldc2_w 100, 3) := by decide +kernel
theorem dX7_miss_38 : decode cX7_miss 38 = .ok (.lreturn, 1) := by decide +kernel
theorem dX7_miss_39 : decode cX7_miss 39 = .ok (.iload_n 2, 1) := by decide +kernel
theorem dX7_miss_40 : decode cX7_miss 40 = .ok (.iconst 2, 1) := by decide +kernel
theorem dX7_miss_41 : decode cX7_miss 41 = .ok (.idiv, 1) := by decide +kernel
theorem dX7_miss_42 : decode cX7_miss 42 = .ok (.istore 4, 2) := by decide +kernel
theorem dX7_miss_44 : decode cX7_miss 44 = .ok (.aload_n 0, 1) := by decide +kernel
theorem dX7_miss_45 : decode cX7_miss 45 = .ok (.getfield 28, 3) := by decide +kernel
theorem dX7_miss_48 : decode cX7_miss 48 = .ok (.iload 4, 2) := by decide +kernel
theorem dX7_miss_50 : decode cX7_miss 50 = .ok (.invokevirtual 144, 3) := by decide +kernel
theorem dX7_miss_53 : decode cX7_miss 53 = .ok (.aload_n 0, 1) := by decide +kernel
theorem dX7_miss_54 : decode cX7_miss 54 = .ok (.getfield 28, 3) := by decide +kernel
theorem dX7_miss_57 : decode cX7_miss 57 = .ok (.iload 4, 2) := by decide +kernel
theorem dX7_miss_59 : decode cX7_miss 59 = .ok (.invokevirtual 132, 3) := by decide +kernel
theorem dX7_miss_62 : decode cX7_miss 62 = .ok (.getfield 115, 3) := by decide +kernel
theorem dX7_miss_65 : decode cX7_miss 65 = .ok (.iload_n 2, 1) := by decide +kernel
theorem dX7_miss_66 : decode cX7_miss 66 = .ok (.iconst 2, 1) := by decide +kernel
theorem dX7_miss_67 : decode cX7_miss 67 = .ok (.irem, 1) := by decide +kernel
theorem dX7_miss_68 : decode cX7_miss 68 = .ok (.invokestatic 118, 3) := by decide +kernel
theorem dX7_miss_71 : decode cX7_miss 71 = .ok (.lreturn, 1) := by decide +kernel
set_option maxRecDepth 20000 in
theorem ggX7_beyond_X7_isKind : GoodIn wsX7_beyond wsX7_isKind := goodIn_r _ [6] (by decide +kernel) (by decide +kernel)
set_option maxRecDepth 20000 in
theorem gX7_beyond_X7_isKind : GoodIn wsX7_beyond (va_wsS RX7 94 yX7_isKind wsX7_isKind) := goodIn_app (goodIn_of _ (by decide +kernel)) ggX7_beyond_X7_isKind
set_option maxRecDepth 20000 in
theorem ggX7_beyond_X7_fits : GoodIn wsX7_beyond wsX7_fits := goodIn_r _ [10, 1, 11, 12, 13, 14, 15, 16, 17, 18, 19, 20, 21, 22, 23, 24, 25, 26, 27, 28, 29, 30, 31, 32, 33, 34, 35, 36, 37, 38, 39, 40, 41, 42, 43, 44, 45, 46, 47, 48, 49, 50, 51, 52, 53, 54, 55, 56, 57, 58, 59, 60, 61, 62, 63, 86, 87, 88, 89, 90, 91, 92, 93, 94, 95, 96, 97, 98, 99, 100, 101, 102, 103, 104, 105, 106, 107, 108, 109, 110, 111] (by decide +kernel) (by decide +kernel)
set_option maxRecDepth 20000 in
theorem gX7_beyond_X7_fits : GoodIn wsX7_beyond (wsV RX7 97 RX7 yX7_fits wsX7_fits) := goodIn_app (goodIn_of _ (by decide +kernel)) ggX7_beyond_X7_fits
set_option maxRecDepth 20000 in
theorem ggX7_beyond_X0_firstBeyond : GoodIn wsX7_beyond wsX0_firstBeyond := goodIn_r _ [66, 23, 67, 68, 69, 19, 70, 71, 72, 73, 74, 75, 76, 77, 78, 39, 79, 80, 81, 82, 26, 27, 83, 45, 84, 85, 48, 49, 50, 101, 102, 103, 104, 105, 106, 107, 108, 109, 110, 111, 97, 98, 99, 100] (by decide +kernel) (by decide +kernel)
set_option maxRecDepth 20000 in
theorem gX7_beyond_X0_firstBeyond_n148 : GoodIn wsX7_beyond (wsX0_firstBeyond) := ggX7_beyond_X0_firstBeyond
theorem dX7_beyond_0 : decode cX7_beyond 0 = .ok (.iload_n 1, 1) := by decide +kernel
theorem dX7_beyond_1 : decode cX7_beyond 1 = .ok (.invokestatic 94, 3) := by decide +kernel
theorem dX7_beyond_4 : decode cX7_beyond 4 = .ok (.ifCond .ne 5, 3) := by decide +kernel
theorem dX7_beyond_7 : decode cX7_beyond 7 = .ok (.iconst (-1), 1) := by decide +kernel
theorem dX7_beyond_8 : decode cX7_beyond 8 = .ok (.ireturn, 1) := by decide +kernel
theorem dX7_beyond_9 : decode cX7_beyond 9 = .ok (.aload_n 0, 1) := by decide +kernel
theorem dX7_beyond_10 : decode cX7_beyond 10 = .ok (.iload_n 1, 1) := by decide +kernel
theorem dX7_beyond_11 : decode cX7_beyond 11 = .ok (.invokevirtual 97, 3) := by decide +kernel
theorem dX7_beyond_14 : decode cX7_beyond 14 = .ok (.ifCond .eq 17, 3) := by decide +kernel
theorem dX7_beyond_17 : decode cX7_beyond 17 = .ok (.aload_n 0, 1) := by decide +kernel
theorem dX7_beyond_18 : decode cX7_beyond 18 = .ok (.getfield 28, 3) := by decide +kernel
theorem dX7_beyond_21 : decode cX7_beyond 21 = .ok (.aload_n 0, 1) := by decide +kernel
theorem dX7_beyond_22 : decode cX7_beyond 22 = .ok (.getfield 52, 3) := by decide +kernel
theorem dX7_beyond_25 : decode cX7_beyond 25 = .ok (.invokevirtual 148, 3) := by decide +kernel
theorem dX7_beyond_28 : decode cX7_beyond 28 = .ok (.goto 5, 3) := by decide +kernel
theorem dX7_beyond_31 : decode cX7_beyond 31 = .ok (.bipush (-3), 2) := by decide +kernel
theorem dX7_beyond_33 : decode cX7_beyond 33 = .ok (.ireturn, 1) := by decide +kernel
set_option maxRecDepth 20000 in
theorem ggX7_lying_X7_lyingSet : GoodIn wsX7_lying wsX7_lyingSet := goodIn_r _ [5, 6, 7, 8, 4, 9, 10, 11, 12, 13, 14, 15, 16, 17, 18, 19, 20, 21, 22, 23, 24, 25, 26, 27, 28, 29, 30, 31, 32, 33, 34, 35, 36, 37, 38, 39, 40, 41, 42, 43, 44, 45, 46, 47, 48, 49, 50, 51, 52, 53, 54, 55, 56, 57, 58, 59, 60, 61, 62, 63, 64, 65, 66, 67, 68, 69, 70, 71, 72, 73, 74, 75, 76, 77, 78, 79, 80, 81, 82, 83, 84, 85, 86, 87, 88, 89, 90, 91, 92, 93, 94, 95, 96, 97, 98, 99, 100, 101, 102, 103, 104, 105, 106, 107, 108, 109, 110, 111, 112, 113, 114, 115, 116, 117, 118, 119, 120, 121, 122, 123, 124, 125, 126] (by decide +kernel) (by decide +kernel)
set_option maxRecDepth 20000 in
theorem gX7_lying_X7_lyingSet : GoodIn wsX7_lying (wsV RX7 152 RX7 yX7_lyingSet wsX7_lyingSet) := goodIn_app (goodIn_of _ (by decide +kernel)) ggX7_lying_X7_lyingSet
theorem dX7_lying_0 : decode cX7_lying 0 = .ok (.aload_n 0, 1) := by decide +kernel
theorem dX7_lying_1 : decode cX7_lying 1 = .ok (.iload_n 1, 1) := by decide +kernel
theorem dX7_lying_2 : decode cX7_lying 2 = .ok (.invokevirtual 152, 3) := by decide +kernel
theorem dX7_lying_5 : decode cX7_lying 5 = .ok (.ireturn, 1) := by decide +kernel
set_option maxRecDepth 20000 in
theorem ggX7_drop_X7_lyingSet : GoodIn wsX7_drop wsX7_lyingSet := goodIn_r _ [6, 1, 7, 8, 5, 9, 10, 11, 12, 13, 14, 15, 16, 17, 18, 19, 20, 21, 22, 23, 24, 25, 26, 27, 28, 29, 30, 31, 32, 33, 34, 35, 36, 37, 38, 39, 40, 41, 42, 43, 44, 45, 46, 47, 48, 49, 50, 51, 52, 53, 54, 55, 56, 57, 58, 59, 60, 61, 62, 63, 64, 65, 66, 67, 68, 69, 70, 71, 72, 73, 74, 75, 76, 77, 78, 79, 80, 81, 82, 83, 84, 85, 86, 87, 88, 89, 90, 91, 92, 93, 94, 95, 96, 97, 98, 99, 100, 101, 102, 103, 104, 105, 106, 107, 108, 109, 110, 111, 112, 113, 114, 115, 116, 117, 118, 119, 120, 121, 122, 123, 124, 125, 126] (by decide +kernel) (by decide +kernel)
set_option maxRecDepth 20000 in
theorem gX7_drop_X7_lyingSet : GoodIn wsX7_drop (wsV RX7 152 RX7 yX7_lyingSet wsX7_lyingSet) := goodIn_app (goodIn_of _ (by decide +kernel)) ggX7_drop_X7_lyingSet
set_option maxRecDepth 20000 in
theorem ggX7_drop_J6_bitCount_0f7a4 : GoodIn wsX7_drop wsJ6_bitCount_0f7a4 := goodIn_r _ [34, 35, 36, 37] (by decide +kernel) (by decide +kernel)
set_option maxRecDepth 20000 in
theorem gX7_drop_J6_bitCount_0f7a4 : GoodIn wsX7_drop (va_wsS RX7 155 yJ6_bitCount_0f7a4 wsJ6_bitCount_0f7a4) := goodIn_app (goodIn_of _ (by decide +kernel)) ggX7_drop_J6_bitCount_0f7a4
theorem dX7_drop_0 : decode cX7_drop 0 = .ok (.aload_n 0, 1) := by decide +kernel
theorem dX7_drop_1 : decode cX7_drop 1 = .ok (.iload_n 1, 1) := by decide +kernel
theorem dX7_drop_2 : decode cX7_drop 2 = .ok (.invokevirtual 152, 3) := by decide +kernel
theorem dX7_drop_5 : decode cX7_drop 5 = .ok (.istore_n 2, 1) := by decide +kernel
theorem dX7_drop_6 : decode cX7_drop 6 = .ok (.iload_n 2, 1) := by decide +kernel
theorem dX7_drop_7 : decode cX7_drop 7 = .ok (.ifCond .ge 5, 3) := by decide +kernel
theorem dX7_drop_10 : decode cX7_drop 10 = .ok (.iload_n 2, 1) := by decide +kernel
theorem dX7_drop_11 : decode cX7_drop 11 = .ok (.ireturn, 1) := by decide +kernel
theorem dX7_drop_12 : decode cX7_drop 12 = .ok (.aload_n 0, 1) := by decide +kernel
theorem dX7_drop_13 : decode cX7_drop 13 = .ok (.getfield 10, 3) := by decide +kernel
theorem dX7_drop_16 : decode cX7_drop 16 = .ok (.getfield 21, 3) := by decide +kernel
theorem dX7_drop_19 : decode cX7_drop 19 = .ok (.dup, 1) := by decide +kernel
theorem dX7_drop_20 : decode cX7_drop 20 = .ok (.getfield 87, 3) := by decide +kernel
theorem dX7_drop_23 : decode cX7_drop 23 = .ok (.iload_n 2, 1) := by decide +kernel
theorem dX7_drop_24 : decode cX7_drop 24 = .ok (.iconst (-1), 1) := by decide +kernel
theorem dX7_drop_25 : decode cX7_drop 25 = .ok (.ixor, 1) := by decide +kernel
theorem dX7_drop_26 : decode cX7_drop 26 = .ok (.iand, 1) := by decide +kernel
theorem dX7_drop_27 : decode cX7_drop 27 = .ok (.putfield 87, 3) := by decide +kernel
theorem dX7_drop_30 : decode cX7_drop 30 = .ok (.iload_n 2, 1) := by decide +kernel
theorem dX7_drop_31 : decode cX7_drop 31 = .ok (.invokestatic 155, 3) := by decide +kernel
theorem dX7_drop_34 : decode cX7_drop 34 = .ok (.ireturn, 1) := by decide +kernel
theorem dX7_rule_0 : decode cX7_rule 0 = .ok (.iload_n 1, 1) := by decide +kernel
theorem dX7_rule_1 : decode cX7_rule 1 = .ok (.ifCond .ne 26, 3) := by decide +kernel
theorem dX7_rule_4 : decode cX7_rule 4 = .ok (.iload_n 2, 1) := by decide +kernel
theorem dX7_rule_5 : decode cX7_rule 5 = .ok (.ifCond .lt 22, 3) := by decide +kernel
theorem dX7_rule_8 : decode cX7_rule 8 = .ok (.iload_n 2, 1) := by decide +kernel
theorem dX7_rule_9 : decode cX7_rule 9 = .ok (.sipush 1000, 3) := by decide +kernel
theorem dX7_rule_12 : decode cX7_rule 12 = .ok (.if_icmp .gt 15, 3) := by decide +kernel
theorem dX7_rule_15 : decode cX7_rule 15 = .ok (.aload_n 0, 1) := by decide +kernel
theorem dX7_rule_16 : decode cX7_rule 16 = .ok (.getfield 52, 3) := by decide +kernel
theorem dX7_rule_19 : decode cX7_rule 19 = .ok (.istore_n 3, 1) := by decide +kernel
theorem dX7_rule_20 : decode cX7_rule 20 = .ok (.aload_n 0, 1) := by decide +kernel
theorem dX7_rule_21 : decode cX7_rule 21 = .ok (.iload_n 2, 1) := by decide +kernel
theorem dX7_rule_22 : decode cX7_rule 22 = .ok (.putfield 52, 3) := by decide +kernel
theorem dX7_rule_25 : decode cX7_rule 25 = .ok (.iload_n 3, 1) := by decide +kernel
theorem dX7_rule_26 : decode cX7_rule 26 = .ok (.ireturn, 1) := by decide +kernel
theorem dX7_rule_27 : decode cX7_rule 27 = .ok (.iload_n 1, 1) := by decide +kernel
theorem dX7_rule_28 : decode cX7_rule 28 = .ok (.iconst 1, 1) := by decide +kernel
theorem dX7_rule_29 : decode cX7_rule 29 = .ok (.if_icmp .ne 26, 3) := by decide +kernel
theorem dX7_rule_32 : decode cX7_rule 32 = .ok (.iload_n 2, 1) := by decide +kernel
theorem dX7_rule_33 : decode cX7_rule 33 = .ok (.ifCond .lt 22, 3) := by decide +kernel
theorem dX7_rule_36 : decode cX7_rule 36 = .ok (.iload_n 2, 1) := by decide +kernel
theorem dX7_rule_37 : decode cX7_rule 37 = .ok (.sipush 2000, 3) := by decide +kernel
theorem dX7_rule_40 : decode cX7_rule 40 = .ok (.if_icmp .gt 15, 3) := by decide +kernel
theorem dX7_rule_43 : decode cX7_rule 43 = .ok (.aload_n 0, 1) := by decide +kernel
theorem dX7_rule_44 : decode cX7_rule 44 = .ok (.getfield 56, 3) := by decide +kernel
theorem dX7_rule_47 : decode cX7_rule 47 = .ok (.istore_n 3, 1) := by decide +kernel
theorem dX7_rule_48 : decode cX7_rule 48 = .ok (.aload_n 0, 1) := by decide +kernel
theorem dX7_rule_49 : decode cX7_rule 49 = .ok (.iload_n 2, 1) := by decide +kernel
theorem dX7_rule_50 : decode cX7_rule 50 = .ok (.putfield 56, 3) := by decide +kernel
theorem dX7_rule_53 : decode cX7_rule 53 = .ok (.iload_n 3, 1) := by decide +kernel
theorem dX7_rule_54 : decode cX7_rule 54 = .ok (.ireturn, 1) := by decide +kernel
theorem dX7_rule_55 : decode cX7_rule 55 = .ok (.iconst (-1), 1) := by decide +kernel
theorem dX7_rule_56 : decode cX7_rule 56 = .ok (.ireturn, 1) := by decide +kernel
set_option maxRecDepth 20000 in
theorem ggX7_triangle_X2_has : GoodIn wsX7_triangle wsX2_has := goodIn_r _ [5, 6, 32, 33, 34, 35] (by decide +kernel) (by decide +kernel)
set_option maxRecDepth 20000 in
theorem gX7_triangle_X2_has_n69 : GoodIn wsX7_triangle (wsX2_has) := ggX7_triangle_X2_has
set_option maxRecDepth 20000 in
theorem ggX7_triangle_X2_turn : GoodIn wsX7_triangle wsX2_turn := goodIn_r _ [9, 10, 11, 12, 13, 3, 14, 32, 33, 34, 35] (by decide +kernel) (by decide +kernel)
set_option maxRecDepth 20000 in
theorem gX7_triangle_X2_turn_n160 : GoodIn wsX7_triangle (wsX2_turn) := ggX7_triangle_X2_turn
set_option maxRecDepth 20000 in
theorem ggX7_triangle_X5_add : GoodIn wsX7_triangle wsX5_add := goodIn_r _ [18, 19, 20, 36, 37, 38] (by decide +kernel) (by decide +kernel)
set_option maxRecDepth 20000 in
theorem gX7_triangle_X5_add_n167 : GoodIn wsX7_triangle (wsX5_add) := ggX7_triangle_X5_add
theorem dX7_triangle_0 : decode cX7_triangle 0 = .ok (.aload_n 0, 1) := by decide +kernel
theorem dX7_triangle_1 : decode cX7_triangle 1 = .ok (.getfield 10, 3) := by decide +kernel
theorem dX7_triangle_4 : decode cX7_triangle 4 = .ok (.getfield 21, 3) := by decide +kernel
theorem dX7_triangle_7 : decode cX7_triangle 7 = .ok (.astore 4, 2) := by decide +kernel
theorem dX7_triangle_9 : decode cX7_triangle 9 = .ok (.aload 4, 2) := by decide +kernel
theorem dX7_triangle_11 : decode cX7_triangle 11 = .ok (.iload_n 1, 1) := by decide +kernel
theorem dX7_triangle_12 : decode cX7_triangle 12 = .ok (.invokevirtual 69, 3) := by decide +kernel
theorem dX7_triangle_15 : decode cX7_triangle 15 = .ok (.ifCond .eq 36, 3) := by decide +kernel
theorem dX7_triangle_18 : decode cX7_triangle 18 = .ok (.aload 4, 2) := by decide +kernel
theorem dX7_triangle_20 : decode cX7_triangle 20 = .ok (.iload_n 2, 1) := by decide +kernel
theorem dX7_triangle_21 : decode cX7_triangle 21 = .ok (.invokevirtual 69, 3) := by decide +kernel
theorem dX7_triangle_24 : decode cX7_triangle 24 = .ok (.ifCond .eq 27, 3) := by decide +kernel
theorem dX7_triangle_27 : decode cX7_triangle 27 = .ok (.aload 4, 2) := by decide +kernel
theorem dX7_triangle_29 : decode cX7_triangle 29 = .ok (.iload_n 3, 1) := by decide +kernel
theorem dX7_triangle_30 : decode cX7_triangle 30 = .ok (.invokevirtual 69, 3) := by decide +kernel
theorem dX7_triangle_33 : decode cX7_triangle 33 = .ok (.ifCond .eq 18, 3) := by decide +kernel
theorem dX7_triangle_36 : decode cX7_triangle 36 = .ok (.iload_n 1, 1) := by decide +kernel
theorem dX7_triangle_37 : decode cX7_triangle 37 = .ok (.iload_n 2, 1) := by decide +kernel
theorem dX7_triangle_38 : decode cX7_triangle 38 = .ok (.if_icmp .eq 13, 3) := by decide +kernel
theorem dX7_triangle_41 : decode cX7_triangle 41 = .ok (.iload_n 1, 1) := by decide +kernel
theorem dX7_triangle_42 : decode cX7_triangle 42 = .ok (.iload_n 3, 1) := by decide +kernel
theorem dX7_triangle_43 : decode cX7_triangle 43 = .ok (.if_icmp .eq 8, 3) := by decide +kernel
theorem dX7_triangle_46 : decode cX7_triangle 46 = .ok (.iload_n 2, 1) := by decide +kernel
theorem dX7_triangle_47 : decode cX7_triangle 47 = .ok (.iload_n 3, 1) := by decide +kernel
theorem dX7_triangle_48 : decode cX7_triangle 48 = .ok (.if_icmp .ne 5, 3) := by decide +kernel
theorem dX7_triangle_51 : decode cX7_triangle 51 = .ok (.iconst (-1), 1) := by decide +kernel
theorem dX7_triangle_52 : decode cX7_triangle 52 = .ok (.ireturn, 1) := by decide +kernel
theorem dX7_triangle_53 : decode cX7_triangle 53 = .ok (.aload 4, 2) := by decide +kernel
theorem dX7_triangle_55 : decode cX7_triangle 55 = .ok (.iconst 0, 1) := by decide +kernel
theorem dX7_triangle_56 : decode cX7_triangle 56 = .ok (.iload_n 1, 1) := by decide +kernel
theorem dX7_triangle_57 : decode cX7_triangle 57 = .ok (.iload_n 2, 1) := by decide +kernel
theorem dX7_triangle_58 : decode cX7_triangle 58 = .ok (.iload_n 3, 1) := by decide +kernel
theorem dX7_triangle_59 : decode cX7_triangle 59 = .ok (.invokevirtual 160, 3) := by decide +kernel
theorem dX7_triangle_62 : decode cX7_triangle 62 = .ok (.ifCond .eq 15, 3) := by decide +kernel
theorem dX7_triangle_65 : decode cX7_triangle 65 = .ok (.aload 4, 2) := by decide +kernel
theorem dX7_triangle_67 : decode cX7_triangle 67 = .ok (.iconst 1, 1) := by decide +kernel
theorem dX7_triangle_68 : decode cX7_triangle 68 = .ok (.iload_n 1, 1) := by decide +kernel
theorem dX7_triangle_69 : decode cX7_triangle 69 = .ok (.iload_n 2, 1) := by decide +kernel
theorem dX7_triangle_70 : decode cX7_triangle 70 = .ok (.iload_n 3, 1) := by decide +kernel
theorem dX7_triangle_71 : decode cX7_triangle 71 = .ok (.invokevirtual 160, 3) := by decide +kernel
theorem dX7_triangle_74 : decode cX7_triangle 74 = .ok (.ifCond .ne 6, 3) := by decide +kernel
theorem dX7_triangle_77 : decode cX7_triangle 77 = .ok (.bipush (-4), 2) := by decide +kernel
theorem dX7_triangle_79 : decode cX7_triangle 79 = .ok (.ireturn, 1) := by decide +kernel
theorem dX7_triangle_80 : decode cX7_triangle 80 = .ok (.aload_n 0, 1) := by decide +kernel
theorem dX7_triangle_81 : decode cX7_triangle 81 = .ok (.getfield 10, 3) := by decide +kernel
theorem dX7_triangle_84 : decode cX7_triangle 84 = .ok (.getfield 163, 3) := by decide +kernel
theorem dX7_triangle_87 : decode cX7_triangle 87 = .ok (.iload_n 1, 1) := by decide +kernel
theorem dX7_triangle_88 : decode cX7_triangle 88 = .ok (.iload_n 2, 1) := by decide +kernel
theorem dX7_triangle_89 : decode cX7_triangle 89 = .ok (.iload_n 3, 1) := by decide +kernel
theorem dX7_triangle_90 : decode cX7_triangle 90 = .ok (.invokevirtual 167, 3) := by decide +kernel
theorem dX7_triangle_93 : decode cX7_triangle 93 = .ok (.ireturn, 1) := by decide +kernel
set_option maxRecDepth 20000 in
theorem ggX7_state_X5_has : GoodIn wsX7_state wsX5_has := goodIn_r _ [5, 6, 39, 40, 41] (by decide +kernel) (by decide +kernel)
set_option maxRecDepth 20000 in
theorem gX7_state_X5_has_n172 : GoodIn wsX7_state (wsX5_has) := ggX7_state_X5_has
set_option maxRecDepth 20000 in
theorem ggX7_state_X5_isFlat : GoodIn wsX7_state wsX5_isFlat := goodIn_r _ [9, 10, 11, 12, 3, 13, 14, 15, 16, 17, 18, 19, 20, 21, 22, 23, 24, 39, 40, 41, 42, 43, 44, 45] (by decide +kernel) (by decide +kernel)
set_option maxRecDepth 20000 in
theorem gX7_state_X5_isFlat_n173 : GoodIn wsX7_state (wsX5_isFlat) := ggX7_state_X5_isFlat
set_option maxRecDepth 20000 in
theorem ggX7_state_X5_isOver : GoodIn wsX7_state wsX5_isOver := goodIn_r _ [27, 10, 11, 12, 3, 13, 14, 15, 16, 17, 18, 19, 20, 21, 22, 23, 24, 39, 40, 41, 42, 43, 44, 45] (by decide +kernel) (by decide +kernel)
set_option maxRecDepth 20000 in
theorem gX7_state_X5_isOver_n176 : GoodIn wsX7_state (wsX5_isOver) := ggX7_state_X5_isOver
theorem dX7_state_0 : decode cX7_state 0 = .ok (.aload_n 0, 1) := by decide +kernel
theorem dX7_state_1 : decode cX7_state 1 = .ok (.getfield 10, 3) := by decide +kernel
theorem dX7_state_4 : decode cX7_state 4 = .ok (.getfield 163, 3) := by decide +kernel
theorem dX7_state_7 : decode cX7_state 7 = .ok (.astore_n 2, 1) := by decide +kernel
theorem dX7_state_8 : decode cX7_state 8 = .ok (.aload_n 2, 1) := by decide +kernel
theorem dX7_state_9 : decode cX7_state 9 = .ok (.iload_n 1, 1) := by decide +kernel
theorem dX7_state_10 : decode cX7_state 10 = .ok (.invokevirtual 172, 3) := by decide +kernel
theorem dX7_state_13 : decode cX7_state 13 = .ok (.ifCond .ne 5, 3) := by decide +kernel
theorem dX7_state_16 : decode cX7_state 16 = .ok (.iconst (-1), 1) := by decide +kernel
theorem dX7_state_17 : decode cX7_state 17 = .ok (.ireturn, 1) := by decide +kernel
theorem dX7_state_18 : decode cX7_state 18 = .ok (.aload_n 2, 1) := by decide +kernel
theorem dX7_state_19 : decode cX7_state 19 = .ok (.iload_n 1, 1) := by decide +kernel
theorem dX7_state_20 : decode cX7_state 20 = .ok (.invokevirtual 173, 3) := by decide +kernel
theorem dX7_state_23 : decode cX7_state 23 = .ok (.ifCond .eq 5, 3) := by decide +kernel
theorem dX7_state_26 : decode cX7_state 26 = .ok (.iconst 2, 1) := by decide +kernel
theorem dX7_state_27 : decode cX7_state 27 = .ok (.ireturn, 1) := by decide +kernel
theorem dX7_state_28 : decode cX7_state 28 = .ok (.aload_n 2, 1) := by decide +kernel
theorem dX7_state_29 : decode cX7_state 29 = .ok (.iload_n 1, 1) := by decide +kernel
theorem dX7_state_30 : decode cX7_state 30 = .ok (.invokevirtual 176, 3) := by decide +kernel
theorem dX7_state_33 : decode cX7_state 33 = .ok (.ifCond .eq 7, 3) := by decide +kernel
theorem dX7_state_36 : decode cX7_state 36 = .ok (.iconst 1, 1) := by decide +kernel
theorem dX7_state_37 : decode cX7_state 37 = .ok (.goto 4, 3) := by decide +kernel
theorem dX7_state_40 : decode cX7_state 40 = .ok (.iconst 0, 1) := by decide +kernel
theorem dX7_state_41 : decode cX7_state 41 = .ok (.ireturn, 1) := by decide +kernel
set_option maxRecDepth 20000 in
theorem ggX7_within_X7_isMap : GoodIn wsX7_within wsX7_isMap := goodIn_r _ [5] (by decide +kernel) (by decide +kernel)
set_option maxRecDepth 20000 in
theorem gX7_within_X7_isMap : GoodIn wsX7_within (va_wsS RX7 73 yX7_isMap wsX7_isMap) := goodIn_app (goodIn_of _ (by decide +kernel)) ggX7_within_X7_isMap
set_option maxRecDepth 20000 in
theorem ggX7_within_X7_isPlace : GoodIn wsX7_within wsX7_isPlace := goodIn_r _ [8] (by decide +kernel) (by decide +kernel)
set_option maxRecDepth 20000 in
theorem gX7_within_X7_isPlace : GoodIn wsX7_within (va_wsS RX7 59 yX7_isPlace wsX7_isPlace) := goodIn_app (goodIn_of _ (by decide +kernel)) ggX7_within_X7_isPlace
set_option maxRecDepth 20000 in
theorem ggX7_within_X5_firstAround : GoodIn wsX7_within wsX5_firstAround := goodIn_r _ [12, 13, 14, 15, 16, 10, 17, 18, 19, 20, 21, 22, 23, 24, 25, 26, 27, 28, 29, 30, 31, 32, 33, 34, 35, 36, 37, 38, 39, 40, 52, 53, 54, 55, 56, 57, 58] (by decide +kernel) (by decide +kernel)
set_option maxRecDepth 20000 in
theorem gX7_within_X5_firstAround_n179 : GoodIn wsX7_within (wsX5_firstAround) := ggX7_within_X5_firstAround
theorem dX7_within_0 : decode cX7_within 0 = .ok (.iload_n 1, 1) := by decide +kernel
theorem dX7_within_1 : decode cX7_within 1 = .ok (.invokestatic 73, 3) := by decide +kernel
theorem dX7_within_4 : decode cX7_within 4 = .ok (.ifCond .eq 11, 3) := by decide +kernel
theorem dX7_within_7 : decode cX7_within 7 = .ok (.iload_n 2, 1) := by decide +kernel
theorem dX7_within_8 : decode cX7_within 8 = .ok (.iload_n 3, 1) := by decide +kernel
theorem dX7_within_9 : decode cX7_within 9 = .ok (.invokestatic 59, 3) := by decide +kernel
theorem dX7_within_12 : decode cX7_within 12 = .ok (.ifCond .ne 5, 3) := by decide +kernel
theorem dX7_within_15 : decode cX7_within 15 = .ok (.iconst (-1), 1) := by decide +kernel
theorem dX7_within_16 : decode cX7_within 16 = .ok (.ireturn, 1) := by decide +kernel
theorem dX7_within_17 : decode cX7_within 17 = .ok (.aload_n 0, 1) := by decide +kernel
theorem dX7_within_18 : decode cX7_within 18 = .ok (.getfield 10, 3) := by decide +kernel
theorem dX7_within_21 : decode cX7_within 21 = .ok (.getfield 163, 3) := by decide +kernel
theorem dX7_within_24 : decode cX7_within 24 = .ok (.iload_n 1, 1) := by decide +kernel
theorem dX7_within_25 : decode cX7_within 25 = .ok (.iload_n 2, 1) := by decide +kernel
theorem dX7_within_26 : decode cX7_within 26 = .ok (.iload_n 3, 1) := by decide +kernel
theorem dX7_within_27 : decode cX7_within 27 = .ok (.invokevirtual 179, 3) := by decide +kernel
theorem dX7_within_30 : decode cX7_within 30 = .ok (.ireturn, 1) := by decide +kernel
set_option maxRecDepth 20000 in
theorem ggX7_carried_X5_has : GoodIn wsX7_carried wsX5_has := goodIn_r _ [6, 7, 60, 61, 62] (by decide +kernel) (by decide +kernel)
set_option maxRecDepth 20000 in
theorem gX7_carried_X5_has_n172 : GoodIn wsX7_carried (wsX5_has) := ggX7_carried_X5_has
set_option maxRecDepth 20000 in
theorem ggX7_carried_X7_isMap : GoodIn wsX7_carried wsX7_isMap := goodIn_r _ [11] (by decide +kernel) (by decide +kernel)
set_option maxRecDepth 20000 in
theorem gX7_carried_X7_isMap : GoodIn wsX7_carried (va_wsS RX7 73 yX7_isMap wsX7_isMap) := goodIn_app (goodIn_of _ (by decide +kernel)) ggX7_carried_X7_isMap
set_option maxRecDepth 20000 in
theorem ggX7_carried_X7_isPlace : GoodIn wsX7_carried wsX7_isPlace := goodIn_r _ [14] (by decide +kernel) (by decide +kernel)
set_option maxRecDepth 20000 in
theorem gX7_carried_X7_isPlace : GoodIn wsX7_carried (va_wsS RX7 59 yX7_isPlace wsX7_isPlace) := goodIn_app (goodIn_of _ (by decide +kernel)) ggX7_carried_X7_isPlace
set_option maxRecDepth 20000 in
theorem ggX7_carried_X7_isPartOfTwo : GoodIn wsX7_carried wsX7_isPartOfTwo := goodIn_r _ [17] (by decide +kernel) (by decide +kernel)
set_option maxRecDepth 20000 in
theorem gX7_carried_X7_isPartOfTwo : GoodIn wsX7_carried (va_wsS RX7 129 yX7_isPartOfTwo wsX7_isPartOfTwo) := goodIn_app (goodIn_of _ (by decide +kernel)) ggX7_carried_X7_isPartOfTwo
set_option maxRecDepth 20000 in
theorem ggX7_carried_X5_isFlat : GoodIn wsX7_carried wsX5_isFlat := goodIn_r _ [20, 21, 22, 23, 4, 24, 25, 26, 27, 28, 29, 30, 31, 32, 33, 34, 35, 60, 61, 62, 63, 64, 65, 66] (by decide +kernel) (by decide +kernel)
set_option maxRecDepth 20000 in
theorem gX7_carried_X5_isFlat_n173 : GoodIn wsX7_carried (wsX5_isFlat) := ggX7_carried_X5_isFlat
set_option maxRecDepth 20000 in
theorem ggX7_carried_X5_bentAbove : GoodIn wsX7_carried wsX5_bentAbove := goodIn_r _ [38, 25, 26, 33, 28, 34, 35, 31, 21, 22, 23, 4, 24, 27, 29, 30, 32, 60, 61, 62, 63, 64, 65, 66] (by decide +kernel) (by decide +kernel)
set_option maxRecDepth 20000 in
theorem gX7_carried_X5_bentAbove_n182 : GoodIn wsX7_carried (wsX5_bentAbove) := ggX7_carried_X5_bentAbove
set_option maxRecDepth 20000 in
theorem ggX7_carried_X5_turn : GoodIn wsX7_carried wsX5_turn := goodIn_r _ [24, 25, 26, 27, 28, 29, 30, 31, 32, 33, 34, 35, 60, 61, 62, 63, 64, 65, 66] (by decide +kernel) (by decide +kernel)
set_option maxRecDepth 20000 in
theorem gX7_carried_X5_turn_n186 : GoodIn wsX7_carried (wsX5_turn) := ggX7_carried_X5_turn
set_option maxRecDepth 20000 in
theorem ggX7_carried_X7_cleared : GoodIn wsX7_carried wsX7_cleared := goodIn_r _ [41, 42, 43, 44, 45, 2, 46, 47, 10, 48] (by decide +kernel) (by decide +kernel)
set_option maxRecDepth 20000 in
theorem gX7_carried_X7_cleared : GoodIn wsX7_carried (va_wsS RX7 118 yX7_cleared wsX7_cleared) := goodIn_app (goodIn_of _ (by decide +kernel)) ggX7_carried_X7_cleared
theorem dX7_carried_0 : decode cX7_carried 0 = .ok (.aload_n 0, 1) := by decide +kernel
theorem dX7_carried_1 : decode cX7_carried 1 = .ok (.getfield 10, 3) := by decide +kernel
theorem dX7_carried_4 : decode cX7_carried 4 = .ok (.getfield 163, 3) := by decide +kernel
theorem dX7_carried_7 : decode cX7_carried 7 = .ok (.astore 6, 2) := by decide +kernel
theorem dX7_carried_9 : decode cX7_carried 9 = .ok (.aload 6, 2) := by decide +kernel
theorem dX7_carried_11 : decode cX7_carried 11 = .ok (.iload_n 1, 1) := by decide +kernel
theorem dX7_carried_12 : decode cX7_carried 12 = .ok (.invokevirtual 172, 3) := by decide +kernel
theorem dX7_carried_15 : decode cX7_carried 15 = .ok (.ifCond .eq 36, 3) := by decide +kernel
theorem dX7_carried_18 : decode cX7_carried 18 = .ok (.iload_n 2, 1) := by decide +kernel
theorem dX7_carried_19 : decode cX7_carried 19 = .ok (.invokestatic 73, 3) := by decide +kernel
theorem dX7_carried_22 : decode cX7_carried 22 = .ok (.ifCond .eq 29, 3) := by decide +kernel
theorem dX7_carried_25 : decode cX7_carried 25 = .ok (.iload_n 3, 1) := by decide +kernel
theorem dX7_carried_26 : decode cX7_carried 26 = .ok (.iload 4, 2) := by decide +kernel
theorem dX7_carried_28 : decode cX7_carried 28 = .ok (.invokestatic 59, 3) := by decide +kernel
theorem dX7_carried_31 : decode cX7_carried 31 = .ok (.ifCond .eq 20, 3) := by decide +kernel
theorem dX7_carried_34 : decode cX7_carried 34 = .ok (.iload 5, 2) := by decide +kernel
theorem dX7_carried_36 : decode cX7_carried 36 = .ok (.invokestatic 129, 3) := by decide +kernel
theorem dX7_carried_39 : decode cX7_carried 39 = .ok (.ifCond .eq 12, 3) := by decide +kernel
theorem dX7_carried_42 : decode cX7_carried 42 = .ok (.aload 6, 2) := by decide +kernel
theorem dX7_carried_44 : decode cX7_carried 44 = .ok (.iload_n 1, 1) := by decide +kernel
theorem dX7_carried_45 : decode cX7_carried 45 = .ok (.invokevirtual 173, 3) := by decide +kernel
theorem dX7_carried_48 : decode cX7_carried 48 = .ok (.ifCond .eq 7, 3) := by decide +kernel
theorem dX7_carried_51 : decode cX7_carried 51 = .ok (.ldc2_w 100, 3) := by decide +kernel
theorem dX7_carried_54 : decode cX7_carried 54 = .ok (.lreturn, 1) := by decide +kernel
theorem dX7_carried_55 : decode cX7_carried 55 = .ok (.aload 6, 2) := by decide +kernel
theorem dX7_carried_57 : decode cX7_carried 57 = .ok (.iload_n 1, 1) := by decide +kernel
theorem dX7_carried_58 : decode cX7_carried 58 = .ok (.iload_n 2, 1) := by decide +kernel
theorem dX7_carried_59 : decode cX7_carried 59 = .ok (.iload_n 3, 1) := by decide +kernel
theorem dX7_carried_60 : decode cX7_carried 60 = .ok (.iload 4, 2) := by decide +kernel
theorem dX7_carried_62 : decode cX7_carried 62 = .ok (.iload 5, 2) := by decide +kernel
theorem dX7_carried_64 : decode cX7_carried 64 = .ok (.iconst 2, 1) := by decide +kernel
theorem dX7_carried_65 : decode cX7_carried 65 = .ok (.idiv, 1) := by decide +kernel
theorem dX7_carried_66 : decode cX7_carried 66 = .ok (.invokevirtual 182, 3) := by decide +kernel
theorem dX7_carried_69 : decode cX7_carried 69 = .ok (.lstore 7, 2) := by decide +kernel
theorem dX7_carried_71 : decode cX7_carried 71 = .ok (.lload 7, 2) := by decide +kernel
theorem dX7_carried_73 : decode cX7_carried 73 = .ok (.aload 6, 2) := by decide +kernel
theorem dX7_carried_75 : decode cX7_carried 75 = .ok (.iload_n 1, 1) := by decide +kernel
theorem dX7_carried_76 : decode cX7_carried 76 = .ok (.iload_n 2, 1) := by decide +kernel
theorem dX7_carried_77 : decode cX7_carried 77 = .ok (.invokevirtual 186, 3) := by decide +kernel
theorem dX7_carried_80 : decode cX7_carried 80 = .ok (.i2l, 1) := by decide +kernel
theorem dX7_carried_81 : decode cX7_carried 81 = .ok (.iload 5, 2) := by decide +kernel
theorem dX7_carried_83 : decode cX7_carried 83 = .ok (.iconst 2, 1) := by decide +kernel
theorem dX7_carried_84 : decode cX7_carried 84 = .ok (.irem, 1) := by decide +kernel
theorem dX7_carried_85 : decode cX7_carried 85 = .ok (.invokestatic 118, 3) := by decide +kernel
theorem dX7_carried_88 : decode cX7_carried 88 = .ok (.lreturn, 1) := by decide +kernel
set_option maxRecDepth 20000 in
theorem ggX7_meet_X5_has : GoodIn wsX7_meet wsX5_has := goodIn_r _ [5, 6, 55, 56, 57] (by decide +kernel) (by decide +kernel)
set_option maxRecDepth 20000 in
theorem gX7_meet_X5_has_n172 : GoodIn wsX7_meet (wsX5_has) := ggX7_meet_X5_has
set_option maxRecDepth 20000 in
theorem ggX7_meet_X7_isMap : GoodIn wsX7_meet wsX7_isMap := goodIn_r _ [10] (by decide +kernel) (by decide +kernel)
set_option maxRecDepth 20000 in
theorem gX7_meet_X7_isMap : GoodIn wsX7_meet (va_wsS RX7 73 yX7_isMap wsX7_isMap) := goodIn_app (goodIn_of _ (by decide +kernel)) ggX7_meet_X7_isMap
set_option maxRecDepth 20000 in
theorem ggX7_meet_X5_isFlat : GoodIn wsX7_meet wsX5_isFlat := goodIn_r _ [13, 14, 15, 16, 3, 17, 18, 19, 20, 21, 22, 23, 24, 25, 26, 27, 28, 55, 56, 57, 58, 59, 60, 61] (by decide +kernel) (by decide +kernel)
set_option maxRecDepth 20000 in
theorem gX7_meet_X5_isFlat_n173 : GoodIn wsX7_meet (wsX5_isFlat) := ggX7_meet_X5_isFlat
set_option maxRecDepth 20000 in
theorem ggX7_meet_X5_overlap : GoodIn wsX7_meet wsX5_overlap := goodIn_r _ [31, 32, 33, 34, 3, 35, 18, 14, 15, 16, 17, 19, 20, 21, 22, 23, 24, 25, 26, 27, 28, 36, 37, 38, 39, 40, 41, 42, 43, 55, 56, 57, 58, 59, 60, 61] (by decide +kernel) (by decide +kernel)
set_option maxRecDepth 20000 in
theorem gX7_meet_X5_overlap_n189 : GoodIn wsX7_meet (wsX5_overlap) := ggX7_meet_X5_overlap
theorem dX7_meet_0 : decode cX7_meet 0 = .ok (.aload_n 0, 1) := by decide +kernel
theorem dX7_meet_1 : decode cX7_meet 1 = .ok (.getfield 10, 3) := by decide +kernel
theorem dX7_meet_4 : decode cX7_meet 4 = .ok (.getfield 163, 3) := by decide +kernel
theorem dX7_meet_7 : decode cX7_meet 7 = .ok (.astore 4, 2) := by decide +kernel
theorem dX7_meet_9 : decode cX7_meet 9 = .ok (.aload 4, 2) := by decide +kernel
theorem dX7_meet_11 : decode cX7_meet 11 = .ok (.iload_n 1, 1) := by decide +kernel
theorem dX7_meet_12 : decode cX7_meet 12 = .ok (.invokevirtual 172, 3) := by decide +kernel
theorem dX7_meet_15 : decode cX7_meet 15 = .ok (.ifCond .eq 24, 3) := by decide +kernel
theorem dX7_meet_18 : decode cX7_meet 18 = .ok (.aload 4, 2) := by decide +kernel
theorem dX7_meet_20 : decode cX7_meet 20 = .ok (.iload_n 2, 1) := by decide +kernel
theorem dX7_meet_21 : decode cX7_meet 21 = .ok (.invokevirtual 172, 3) := by decide +kernel
theorem dX7_meet_24 : decode cX7_meet 24 = .ok (.ifCond .eq 15, 3) := by decide +kernel
theorem dX7_meet_27 : decode cX7_meet 27 = .ok (.iload_n 3, 1) := by decide +kernel
theorem dX7_meet_28 : decode cX7_meet 28 = .ok (.invokestatic 73, 3) := by decide +kernel
theorem dX7_meet_31 : decode cX7_meet 31 = .ok (.ifCond .eq 8, 3) := by decide +kernel
theorem dX7_meet_34 : decode cX7_meet 34 = .ok (.iload_n 1, 1) := by decide +kernel
theorem dX7_meet_35 : decode cX7_meet 35 = .ok (.iload_n 2, 1) := by decide +kernel
theorem dX7_meet_36 : decode cX7_meet 36 = .ok (.if_icmp .ne 5, 3) := by decide +kernel
theorem dX7_meet_39 : decode cX7_meet 39 = .ok (.iconst (-1), 1) := by decide +kernel
theorem dX7_meet_40 : decode cX7_meet 40 = .ok (.ireturn, 1) := by decide +kernel
theorem dX7_meet_41 : decode cX7_meet 41 = .ok (.aload 4, 2) := by decide +kernel
theorem dX7_meet_43 : decode cX7_meet 43 = .ok (.iload_n 1, 1) := by decide +kernel
theorem dX7_meet_44 : decode cX7_meet 44 = .ok (.invokevirtual 173, 3) := by decide +kernel
theorem dX7_meet_47 : decode cX7_meet 47 = .ok (.ifCond .ne 12, 3) := by decide +kernel
theorem dX7_meet_50 : decode cX7_meet 50 = .ok (.aload 4, 2) := by decide +kernel
theorem dX7_meet_52 : decode cX7_meet 52 = .ok (.iload_n 2, 1) := by decide +kernel
theorem dX7_meet_53 : decode cX7_meet 53 = .ok (.invokevirtual 173, 3) := by decide +kernel
theorem dX7_meet_56 : decode cX7_meet 56 = .ok (.ifCond .eq 6, 3) := by decide +kernel
theorem dX7_meet_59 : decode cX7_meet 59 = .ok (.bipush (-4), 2) := by decide +kernel
theorem dX7_meet_61 : decode cX7_meet 61 = .ok (.ireturn, 1) := by decide +kernel
theorem dX7_meet_62 : decode cX7_meet 62 = .ok (.aload 4, 2) := by decide +kernel
theorem dX7_meet_64 : decode cX7_meet 64 = .ok (.iload_n 1, 1) := by decide +kernel
theorem dX7_meet_65 : decode cX7_meet 65 = .ok (.iload_n 2, 1) := by decide +kernel
theorem dX7_meet_66 : decode cX7_meet 66 = .ok (.iload_n 3, 1) := by decide +kernel
theorem dX7_meet_67 : decode cX7_meet 67 = .ok (.invokevirtual 189, 3) := by decide +kernel
theorem dX7_meet_70 : decode cX7_meet 70 = .ok (.ifCond .eq 7, 3) := by decide +kernel
theorem dX7_meet_73 : decode cX7_meet 73 = .ok (.iconst 1, 1) := by decide +kernel
theorem dX7_meet_74 : decode cX7_meet 74 = .ok (.goto 4, 3) := by decide +kernel
theorem dX7_meet_77 : decode cX7_meet 77 = .ok (.iconst 0, 1) := by decide +kernel
theorem dX7_meet_78 : decode cX7_meet 78 = .ok (.ireturn, 1) := by decide +kernel
set_option maxRecDepth 20000 in
theorem ggX7_area_X5_has : GoodIn wsX7_area wsX5_has := goodIn_r _ [9, 10, 40, 41, 42] (by decide +kernel) (by decide +kernel)
set_option maxRecDepth 20000 in
theorem gX7_area_X5_has_n172 : GoodIn wsX7_area (wsX5_has) := ggX7_area_X5_has
set_option maxRecDepth 20000 in
theorem ggX7_area_X7_isMap : GoodIn wsX7_area wsX7_isMap := goodIn_r _ [14] (by decide +kernel) (by decide +kernel)
set_option maxRecDepth 20000 in
theorem gX7_area_X7_isMap : GoodIn wsX7_area (va_wsS RX7 73 yX7_isMap wsX7_isMap) := goodIn_app (goodIn_of _ (by decide +kernel)) ggX7_area_X7_isMap
set_option maxRecDepth 20000 in
theorem ggX7_area_X5_turn : GoodIn wsX7_area wsX5_turn := goodIn_r _ [17, 18, 19, 20, 21, 22, 23, 24, 25, 26, 27, 28, 40, 41, 42, 43, 44, 45, 46] (by decide +kernel) (by decide +kernel)
set_option maxRecDepth 20000 in
theorem gX7_area_X5_turn_n186 : GoodIn wsX7_area (wsX5_turn) := ggX7_area_X5_turn
theorem dX7_area_0 : decode cX7_area 0 = .ok (.aload_n 0, 1) := by decide +kernel
theorem dX7_area_1 : decode cX7_area 1 = .ok (.getfield 10, 3) := by decide +kernel
theorem dX7_area_4 : decode cX7_area 4 = .ok (.getfield 163, 3) := by decide +kernel
theorem dX7_area_7 : decode cX7_area 7 = .ok (.iload_n 1, 1) := by decide +kernel
theorem dX7_area_8 : decode cX7_area 8 = .ok (.invokevirtual 172, 3) := by decide +kernel
theorem dX7_area_11 : decode cX7_area 11 = .ok (.ifCond .eq 10, 3) := by decide +kernel
theorem dX7_area_14 : decode cX7_area 14 = .ok (.iload_n 2, 1) := by decide +kernel
theorem dX7_area_15 : decode cX7_area 15 = .ok (.invokestatic 73, 3) := by decide +kernel
theorem dX7_area_18 : decode cX7_area 18 = .ok (.ifCond .ne 5, 3) := by decide +kernel
theorem dX7_area_21 : decode cX7_area 21 = .ok (.iconst (-1), 1) := by decide +kernel
theorem dX7_area_22 : decode cX7_area 22 = .ok (.ireturn, 1) := by decide +kernel
theorem dX7_area_23 : decode cX7_area 23 = .ok (.aload_n 0, 1) := by decide +kernel
theorem dX7_area_24 : decode cX7_area 24 = .ok (.getfield 10, 3) := by decide +kernel
theorem dX7_area_27 : decode cX7_area 27 = .ok (.getfield 163, 3) := by decide +kernel
theorem dX7_area_30 : decode cX7_area 30 = .ok (.iload_n 1, 1) := by decide +kernel
theorem dX7_area_31 : decode cX7_area 31 = .ok (.iload_n 2, 1) := by decide +kernel
theorem dX7_area_32 : decode cX7_area 32 = .ok (.invokevirtual 186, 3) := by decide +kernel
theorem dX7_area_35 : decode cX7_area 35 = .ok (.invokestatic 193, 3) := by decide +kernel
theorem dX7_area_38 : decode cX7_area 38 = .ok (.ireturn, 1) := by decide +kernel
set_option maxRecDepth 20000 in
theorem ggX7_thing_X7_isMap : GoodIn wsX7_thing wsX7_isMap := goodIn_r _ [5] (by decide +kernel) (by decide +kernel)
set_option maxRecDepth 20000 in
theorem gX7_thing_X7_isMap : GoodIn wsX7_thing (va_wsS RX7 73 yX7_isMap wsX7_isMap) := goodIn_app (goodIn_of _ (by decide +kernel)) ggX7_thing_X7_isMap
set_option maxRecDepth 20000 in
theorem ggX7_thing_X7_isPlace : GoodIn wsX7_thing wsX7_isPlace := goodIn_r _ [8] (by decide +kernel) (by decide +kernel)
set_option maxRecDepth 20000 in
theorem gX7_thing_X7_isPlace : GoodIn wsX7_thing (va_wsS RX7 59 yX7_isPlace wsX7_isPlace) := goodIn_app (goodIn_of _ (by decide +kernel)) ggX7_thing_X7_isPlace
set_option maxRecDepth 20000 in
theorem ggX7_thing_X3_thingsOf : GoodIn wsX7_thing wsX3_thingsOf := goodIn_r _ [12, 13, 14, 30, 31, 32, 33] (by decide +kernel) (by decide +kernel)
set_option maxRecDepth 20000 in
theorem gX7_thing_X3_thingsOf_n198 : GoodIn wsX7_thing (wsX3_thingsOf) := ggX7_thing_X3_thingsOf
set_option maxRecDepth 20000 in
theorem ggX7_thing_X4_add : GoodIn wsX7_thing wsX4_add := goodIn_r _ [18, 19, 20, 21, 22, 34, 35, 36, 37] (by decide +kernel) (by decide +kernel)
set_option maxRecDepth 20000 in
theorem gX7_thing_X4_add_n202 : GoodIn wsX7_thing (wsX4_add) := ggX7_thing_X4_add
theorem dX7_thing_0 : decode cX7_thing 0 = .ok (.iload_n 1, 1) := by decide +kernel
theorem dX7_thing_1 : decode cX7_thing 1 = .ok (.invokestatic 73, 3) := by decide +kernel
theorem dX7_thing_4 : decode cX7_thing 4 = .ok (.ifCond .eq 22, 3) := by decide +kernel
theorem dX7_thing_7 : decode cX7_thing 7 = .ok (.iload_n 2, 1) := by decide +kernel
theorem dX7_thing_8 : decode cX7_thing 8 = .ok (.ifCond .lt 18, 3) := by decide +kernel
theorem dX7_thing_11 : decode cX7_thing 11 = .ok (.iload_n 2, 1) := by decide +kernel
theorem dX7_thing_12 : decode cX7_thing 12 = .ok (.bipush 6, 2) := by decide +kernel
theorem dX7_thing_14 : decode cX7_thing 14 = .ok (.if_icmp .ge 12, 3) := by decide +kernel
theorem dX7_thing_17 : decode cX7_thing 17 = .ok (.iload_n 3, 1) := by decide +kernel
theorem dX7_thing_18 : decode cX7_thing 18 = .ok (.iload 4, 2) := by decide +kernel
theorem dX7_thing_20 : decode cX7_thing 20 = .ok (.invokestatic 59, 3) := by decide +kernel
theorem dX7_thing_23 : decode cX7_thing 23 = .ok (.ifCond .ne 5, 3) := by decide +kernel
theorem dX7_thing_26 : decode cX7_thing 26 = .ok (.iconst (-1), 1) := by decide +kernel
theorem dX7_thing_27 : decode cX7_thing 27 = .ok (.ireturn, 1) := by decide +kernel
theorem dX7_thing_28 : decode cX7_thing 28 = .ok (.aload_n 0, 1) := by decide +kernel
theorem dX7_thing_29 : decode cX7_thing 29 = .ok (.getfield 10, 3) := by decide +kernel
theorem dX7_thing_32 : decode cX7_thing 32 = .ok (.iload_n 1, 1) := by decide +kernel
theorem dX7_thing_33 : decode cX7_thing 33 = .ok (.invokevirtual 198, 3) := by decide +kernel
theorem dX7_thing_36 : decode cX7_thing 36 = .ok (.iload_n 2, 1) := by decide +kernel
theorem dX7_thing_37 : decode cX7_thing 37 = .ok (.iload_n 3, 1) := by decide +kernel
theorem dX7_thing_38 : decode cX7_thing 38 = .ok (.iload 4, 2) := by decide +kernel
theorem dX7_thing_40 : decode cX7_thing 40 = .ok (.invokevirtual 202, 3) := by decide +kernel
theorem dX7_thing_43 : decode cX7_thing 43 = .ok (.ireturn, 1) := by decide +kernel
set_option maxRecDepth 20000 in
theorem ggX7_sweep_X7_isMap : GoodIn wsX7_sweep wsX7_isMap := goodIn_r _ [5] (by decide +kernel) (by decide +kernel)
set_option maxRecDepth 20000 in
theorem gX7_sweep_X7_isMap : GoodIn wsX7_sweep (va_wsS RX7 73 yX7_isMap wsX7_isMap) := goodIn_app (goodIn_of _ (by decide +kernel)) ggX7_sweep_X7_isMap
set_option maxRecDepth 20000 in
theorem ggX7_sweep_X3_thingsOf : GoodIn wsX7_sweep wsX3_thingsOf := goodIn_r _ [9, 10, 11, 23, 24, 25, 26] (by decide +kernel) (by decide +kernel)
set_option maxRecDepth 20000 in
theorem gX7_sweep_X3_thingsOf_n198 : GoodIn wsX7_sweep (wsX3_thingsOf) := ggX7_sweep_X3_thingsOf
theorem dX7_sweep_0 : decode cX7_sweep 0 = .ok (.iload_n 1, 1) := by decide +kernel
theorem dX7_sweep_1 : decode cX7_sweep 1 = .ok (.invokestatic 73, 3) := by decide +kernel
theorem dX7_sweep_4 : decode cX7_sweep 4 = .ok (.ifCond .ne 5, 3) := by decide +kernel
theorem dX7_sweep_7 : decode cX7_sweep 7 = .ok (.iconst (-1), 1) := by decide +kernel
theorem dX7_sweep_8 : decode cX7_sweep 8 = .ok (.ireturn, 1) := by decide +kernel
theorem dX7_sweep_9 : decode cX7_sweep 9 = .ok (.aload_n 0, 1) := by decide +kernel
theorem dX7_sweep_10 : decode cX7_sweep 10 = .ok (.getfield 10, 3) := by decide +kernel
theorem dX7_sweep_13 : decode cX7_sweep 13 = .ok (.iload_n 1, 1) := by decide +kernel
theorem dX7_sweep_14 : decode cX7_sweep 14 = .ok (.invokevirtual 198, 3) := by decide +kernel
theorem dX7_sweep_17 : decode cX7_sweep 17 = .ok (.astore_n 2, 1) := by decide +kernel
theorem dX7_sweep_18 : decode cX7_sweep 18 = .ok (.aload_n 2, 1) := by decide +kernel
theorem dX7_sweep_19 : decode cX7_sweep 19 = .ok (.getfield 205, 3) := by decide +kernel
theorem dX7_sweep_22 : decode cX7_sweep 22 = .ok (.istore_n 3, 1) := by decide +kernel
theorem dX7_sweep_23 : decode cX7_sweep 23 = .ok (.aload_n 2, 1) := by decide +kernel
theorem dX7_sweep_24 : decode cX7_sweep 24 = .ok (.iconst 0, 1) := by decide +kernel
theorem dX7_sweep_25 : decode cX7_sweep 25 = .ok (.putfield 205, 3) := by decide +kernel
theorem dX7_sweep_28 : decode cX7_sweep 28 = .ok (.iload_n 3, 1) := by decide +kernel
theorem dX7_sweep_29 : decode cX7_sweep 29 = .ok (.ireturn, 1) := by decide +kernel
set_option maxRecDepth 20000 in
theorem ggX7_match_X7_isKind : GoodIn wsX7_match wsX7_isKind := goodIn_r _ [7] (by decide +kernel) (by decide +kernel)
set_option maxRecDepth 20000 in
theorem gX7_match_X7_isKind : GoodIn wsX7_match (va_wsS RX7 94 yX7_isKind wsX7_isKind) := goodIn_app (goodIn_of _ (by decide +kernel)) ggX7_match_X7_isKind
set_option maxRecDepth 20000 in
theorem ggX7_match_X4_has : GoodIn wsX7_match wsX4_has := goodIn_r _ [11, 12, 146, 147, 148, 149] (by decide +kernel) (by decide +kernel)
set_option maxRecDepth 20000 in
theorem gX7_match_X4_has_n208 : GoodIn wsX7_match (wsX4_has) := ggX7_match_X4_has
set_option maxRecDepth 20000 in
theorem ggX7_match_X7_fits : GoodIn wsX7_match wsX7_fits := goodIn_r _ [16, 17, 1, 18, 19, 20, 21, 22, 23, 24, 25, 26, 27, 28, 29, 30, 31, 32, 33, 34, 35, 36, 37, 38, 39, 40, 41, 42, 43, 44, 45, 46, 47, 48, 49, 50, 51, 52, 53, 54, 55, 56, 57, 58, 59, 60, 61, 62, 63, 64, 65, 66, 67, 68, 69, 128, 129, 130, 131, 132, 133, 134, 135, 136, 137, 138, 150, 151, 152, 153, 154, 155, 156, 157, 158, 159, 160, 161, 162, 163, 164] (by decide +kernel) (by decide +kernel)
set_option maxRecDepth 20000 in
theorem gX7_match_X7_fits : GoodIn wsX7_match (wsV RX7 97 RX7 yX7_fits wsX7_fits) := goodIn_app (goodIn_of _ (by decide +kernel)) ggX7_match_X7_fits
set_option maxRecDepth 20000 in
theorem ggX7_match_X1_find : GoodIn wsX7_match wsX1_find := goodIn_r _ [73, 74, 75, 76, 77, 71, 78, 79, 80, 81, 82, 83, 84, 85, 86, 51, 87, 88, 57, 89, 90, 91, 92, 93, 54, 55, 56, 94, 95, 96, 97, 98, 99, 100, 101, 102, 103, 104, 105, 106, 107, 108, 109, 110, 111, 112, 113, 114, 115, 116, 117, 118, 119, 120, 121, 122, 123, 124, 125, 126, 127, 139, 140, 141, 142, 143, 144, 145, 146, 147, 148, 149, 154, 155, 156, 157, 158, 159, 160, 161, 162, 163, 164] (by decide +kernel) (by decide +kernel)
set_option maxRecDepth 20000 in
theorem gX7_match_X1_find_n209 : GoodIn wsX7_match (wsX1_find) := ggX7_match_X1_find
theorem dX7_match_0 : decode cX7_match 0 = .ok (.iload_n 1, 1) := by decide +kernel
theorem dX7_match_1 : decode cX7_match 1 = .ok (.invokestatic 94, 3) := by decide +kernel
theorem dX7_match_4 : decode cX7_match 4 = .ok (.ifCond .eq 17, 3) := by decide +kernel
theorem dX7_match_7 : decode cX7_match 7 = .ok (.aload_n 0, 1) := by decide +kernel
theorem dX7_match_8 : decode cX7_match 8 = .ok (.getfield 10, 3) := by decide +kernel
theorem dX7_match_11 : decode cX7_match 11 = .ok (.getfield 34, 3) := by decide +kernel
theorem dX7_match_14 : decode cX7_match 14 = .ok (.iload_n 2, 1) := by decide +kernel
theorem dX7_match_15 : decode cX7_match 15 = .ok (.invokevirtual 208, 3) := by decide +kernel
theorem dX7_match_18 : decode cX7_match 18 = .ok (.ifCond .ne 5, 3) := by decide +kernel
theorem dX7_match_21 : decode cX7_match 21 = .ok (.iconst (-1), 1) := by decide +kernel
theorem dX7_match_22 : decode cX7_match 22 = .ok (.ireturn, 1) := by decide +kernel
theorem dX7_match_23 : decode cX7_match 23 = .ok (.aload_n 0, 1) := by decide +kernel
theorem dX7_match_24 : decode cX7_match 24 = .ok (.iload_n 1, 1) := by decide +kernel
theorem dX7_match_25 : decode cX7_match 25 = .ok (.invokevirtual 97, 3) := by decide +kernel
theorem dX7_match_28 : decode cX7_match 28 = .ok (.ifCond .ne 6, 3) := by decide +kernel
theorem dX7_match_31 : decode cX7_match 31 = .ok (.bipush (-3), 2) := by decide +kernel
theorem dX7_match_33 : decode cX7_match 33 = .ok (.ireturn, 1) := by decide +kernel
theorem dX7_match_34 : decode cX7_match 34 = .ok (.aload_n 0, 1) := by decide +kernel
theorem dX7_match_35 : decode cX7_match 35 = .ok (.getfield 44, 3) := by decide +kernel
theorem dX7_match_38 : decode cX7_match 38 = .ok (.aload_n 0, 1) := by decide +kernel
theorem dX7_match_39 : decode cX7_match 39 = .ok (.getfield 56, 3) := by decide +kernel
theorem dX7_match_42 : decode cX7_match 42 = .ok (.invokevirtual 209, 3) := by decide +kernel
theorem dX7_match_45 : decode cX7_match 45 = .ok (.aload_n 0, 1) := by decide +kernel
theorem dX7_match_46 : decode cX7_match 46 = .ok (.getfield 44, 3) := by decide +kernel
theorem dX7_match_49 : decode cX7_match 49 = .ok (.getfield 213, 3) := by decide +kernel
theorem dX7_match_52 : decode cX7_match 52 = .ok (.iload_n 2, 1) := by decide +kernel
theorem dX7_match_53 : decode cX7_match 53 = .ok (.iaload, 1) := by decide +kernel
theorem dX7_match_54 : decode cX7_match 54 = .ok (.ireturn, 1) := by decide +kernel
set_option maxRecDepth 20000 in
theorem ggX7_cost_X7_isKind : GoodIn wsX7_cost wsX7_isKind := goodIn_r _ [6] (by decide +kernel) (by decide +kernel)
set_option maxRecDepth 20000 in
theorem gX7_cost_X7_isKind : GoodIn wsX7_cost (va_wsS RX7 94 yX7_isKind wsX7_isKind) := goodIn_app (goodIn_of _ (by decide +kernel)) ggX7_cost_X7_isKind
set_option maxRecDepth 20000 in
theorem ggX7_cost_X7_fits : GoodIn wsX7_cost wsX7_fits := goodIn_r _ [10, 11, 12, 13, 14, 15, 16, 17, 18, 19, 20, 21, 22, 23, 24, 25, 26, 27, 28, 29, 30, 31, 32, 33, 34, 35, 36, 37, 38, 39, 40, 41, 42, 43, 44, 45, 46, 47, 48, 49, 50, 51, 52, 53, 54, 55, 56, 57, 58, 59, 60, 61, 62, 63, 64, 126, 127, 128, 129, 130, 131, 132, 133, 134, 135, 136, 137, 138, 139, 140, 141, 142, 143, 144, 145, 146, 147, 148, 149, 150, 151] (by decide +kernel) (by decide +kernel)
set_option maxRecDepth 20000 in
theorem gX7_cost_X7_fits : GoodIn wsX7_cost (wsV RX7 97 RX7 yX7_fits wsX7_fits) := goodIn_app (goodIn_of _ (by decide +kernel)) ggX7_cost_X7_fits
set_option maxRecDepth 20000 in
theorem ggX7_cost_X1_find : GoodIn wsX7_cost wsX1_find := goodIn_r _ [68, 69, 70, 71, 72, 66, 73, 74, 75, 76, 77, 78, 79, 80, 81, 46, 82, 83, 52, 84, 85, 86, 87, 88, 49, 50, 51, 89, 90, 91, 92, 93, 94, 95, 96, 97, 98, 99, 100, 101, 102, 103, 104, 105, 106, 107, 108, 109, 110, 111, 112, 113, 114, 115, 116, 117, 118, 119, 120, 121, 122, 152, 153, 154, 155, 156, 157, 158, 159, 160, 161, 162, 141, 142, 143, 144, 145, 146, 147, 148, 149, 150, 151] (by decide +kernel) (by decide +kernel)
set_option maxRecDepth 20000 in
theorem gX7_cost_X1_find_n209 : GoodIn wsX7_cost (wsX1_find) := ggX7_cost_X1_find
set_option maxRecDepth 20000 in
theorem ggX7_cost_X1_leastCost : GoodIn wsX7_cost wsX1_leastCost := goodIn_r _ [125, 97, 152, 153, 154, 155, 156, 157, 158] (by decide +kernel) (by decide +kernel)
set_option maxRecDepth 20000 in
theorem gX7_cost_X1_leastCost_n217 : GoodIn wsX7_cost (wsX1_leastCost) := ggX7_cost_X1_leastCost
theorem dX7_cost_0 : decode cX7_cost 0 = .ok (.iload_n 1, 1) := by decide +kernel
theorem dX7_cost_1 : decode cX7_cost 1 = .ok (.invokestatic 94, 3) := by decide +kernel
theorem dX7_cost_4 : decode cX7_cost 4 = .ok (.ifCond .ne 5, 3) := by decide +kernel
theorem dX7_cost_7 : decode cX7_cost 7 = .ok (.iconst (-1), 1) := by decide +kernel
theorem dX7_cost_8 : decode cX7_cost 8 = .ok (.ireturn, 1) := by decide +kernel
theorem dX7_cost_9 : decode cX7_cost 9 = .ok (.aload_n 0, 1) := by decide +kernel
theorem dX7_cost_10 : decode cX7_cost 10 = .ok (.iload_n 1, 1) := by decide +kernel
theorem dX7_cost_11 : decode cX7_cost 11 = .ok (.invokevirtual 97, 3) := by decide +kernel
theorem dX7_cost_14 : decode cX7_cost 14 = .ok (.ifCond .ne 6, 3) := by decide +kernel
theorem dX7_cost_17 : decode cX7_cost 17 = .ok (.bipush (-3), 2) := by decide +kernel
theorem dX7_cost_19 : decode cX7_cost 19 = .ok (.ireturn, 1) := by decide +kernel
theorem dX7_cost_20 : decode cX7_cost 20 = .ok (.aload_n 0, 1) := by decide +kernel
theorem dX7_cost_21 : decode cX7_cost 21 = .ok (.getfield 44, 3) := by decide +kernel
theorem dX7_cost_24 : decode cX7_cost 24 = .ok (.aload_n 0, 1) := by decide +kernel
theorem dX7_cost_25 : decode cX7_cost 25 = .ok (.getfield 56, 3) := by decide +kernel
theorem dX7_cost_28 : decode cX7_cost 28 = .ok (.invokevirtual 209, 3) := by decide +kernel
theorem dX7_cost_31 : decode cX7_cost 31 = .ok (.aload_n 0, 1) := by decide +kernel
theorem dX7_cost_32 : decode cX7_cost 32 = .ok (.getfield 44, 3) := by decide +kernel
theorem dX7_cost_35 : decode cX7_cost 35 = .ok (.invokevirtual 217, 3) := by decide +kernel
theorem dX7_cost_38 : decode cX7_cost 38 = .ok (.ireturn, 1) := by decide +kernel
set_option maxRecDepth 20000 in
theorem ggX7_left_X7_isKind : GoodIn wsX7_left wsX7_isKind := goodIn_r _ [6] (by decide +kernel) (by decide +kernel)
set_option maxRecDepth 20000 in
theorem gX7_left_X7_isKind : GoodIn wsX7_left (va_wsS RX7 94 yX7_isKind wsX7_isKind) := goodIn_app (goodIn_of _ (by decide +kernel)) ggX7_left_X7_isKind
set_option maxRecDepth 20000 in
theorem ggX7_left_X7_fits : GoodIn wsX7_left wsX7_fits := goodIn_r _ [10, 11, 12, 13, 14, 15, 16, 17, 18, 19, 20, 21, 22, 23, 24, 25, 26, 27, 28, 29, 30, 31, 32, 33, 34, 35, 36, 37, 38, 39, 40, 41, 42, 43, 44, 45, 46, 47, 48, 49, 50, 51, 52, 53, 54, 55, 56, 57, 58, 59, 60, 61, 62, 63, 64, 126, 127, 128, 129, 130, 131, 132, 133, 134, 135, 136, 137, 138, 139, 140, 141, 142, 143, 144, 145, 146, 147, 148, 149, 150, 151] (by decide +kernel) (by decide +kernel)
set_option maxRecDepth 20000 in
theorem gX7_left_X7_fits : GoodIn wsX7_left (wsV RX7 97 RX7 yX7_fits wsX7_fits) := goodIn_app (goodIn_of _ (by decide +kernel)) ggX7_left_X7_fits
set_option maxRecDepth 20000 in
theorem ggX7_left_X1_find : GoodIn wsX7_left wsX1_find := goodIn_r _ [68, 69, 70, 71, 72, 66, 73, 74, 75, 76, 77, 78, 79, 80, 81, 46, 82, 83, 52, 84, 85, 86, 87, 88, 49, 50, 51, 89, 90, 91, 92, 93, 94, 95, 96, 97, 98, 99, 100, 101, 102, 103, 104, 105, 106, 107, 108, 109, 110, 111, 112, 113, 114, 115, 116, 117, 118, 119, 120, 121, 122, 152, 153, 154, 155, 156, 157, 158, 159, 160, 161, 162, 141, 142, 143, 144, 145, 146, 147, 148, 149, 150, 151] (by decide +kernel) (by decide +kernel)
set_option maxRecDepth 20000 in
theorem gX7_left_X1_find_n209 : GoodIn wsX7_left (wsX1_find) := ggX7_left_X1_find
set_option maxRecDepth 20000 in
theorem ggX7_left_X1_firstUnused : GoodIn wsX7_left wsX1_firstUnused := goodIn_r _ [125, 75, 117, 152, 153, 154, 155, 156, 157, 158, 159, 160, 161, 162] (by decide +kernel) (by decide +kernel)
set_option maxRecDepth 20000 in
theorem gX7_left_X1_firstUnused_n221 : GoodIn wsX7_left (wsX1_firstUnused) := ggX7_left_X1_firstUnused
theorem dX7_left_0 : decode cX7_left 0 = .ok (.iload_n 1, 1) := by decide +kernel
theorem dX7_left_1 : decode cX7_left 1 = .ok (.invokestatic 94, 3) := by decide +kernel
theorem dX7_left_4 : decode cX7_left 4 = .ok (.ifCond .ne 5, 3) := by decide +kernel
theorem dX7_left_7 : decode cX7_left 7 = .ok (.iconst (-1), 1) := by decide +kernel
theorem dX7_left_8 : decode cX7_left 8 = .ok (.ireturn, 1) := by decide +kernel
theorem dX7_left_9 : decode cX7_left 9 = .ok (.aload_n 0, 1) := by decide +kernel
theorem dX7_left_10 : decode cX7_left 10 = .ok (.iload_n 1, 1) := by decide +kernel
theorem dX7_left_11 : decode cX7_left 11 = .ok (.invokevirtual 97, 3) := by decide +kernel
theorem dX7_left_14 : decode cX7_left 14 = .ok (.ifCond .ne 6, 3) := by decide +kernel
theorem dX7_left_17 : decode cX7_left 17 = .ok (.bipush (-3), 2) := by decide +kernel
theorem dX7_left_19 : decode cX7_left 19 = .ok (.ireturn, 1) := by decide +kernel
theorem dX7_left_20 : decode cX7_left 20 = .ok (.aload_n 0, 1) := by decide +kernel
theorem dX7_left_21 : decode cX7_left 21 = .ok (.getfield 44, 3) := by decide +kernel
theorem dX7_left_24 : decode cX7_left 24 = .ok (.aload_n 0, 1) := by decide +kernel
theorem dX7_left_25 : decode cX7_left 25 = .ok (.getfield 56, 3) := by decide +kernel
theorem dX7_left_28 : decode cX7_left 28 = .ok (.invokevirtual 209, 3) := by decide +kernel
theorem dX7_left_31 : decode cX7_left 31 = .ok (.aload_n 0, 1) := by decide +kernel
theorem dX7_left_32 : decode cX7_left 32 = .ok (.getfield 44, 3) := by decide +kernel
theorem dX7_left_35 : decode cX7_left 35 = .ok (.invokevirtual 221, 3) := by decide +kernel
theorem dX7_left_38 : decode cX7_left 38 = .ok (.ireturn, 1) := by decide +kernel
set_option maxRecDepth 20000 in
theorem ggX7_many_X2_counting : GoodIn wsX7_many wsX2_counting := goodIn_r _ [5, 6, 7, 75, 76, 77, 78] (by decide +kernel) (by decide +kernel)
set_option maxRecDepth 20000 in
theorem gX7_many_X2_counting_n225 : GoodIn wsX7_many (wsX2_counting) := ggX7_many_X2_counting
set_option maxRecDepth 20000 in
theorem ggX7_many_J6_bitCount_0f7a4 : GoodIn wsX7_many wsJ6_bitCount_0f7a4 := goodIn_r _ [11, 12, 13, 14] (by decide +kernel) (by decide +kernel)
set_option maxRecDepth 20000 in
theorem gX7_many_J6_bitCount_0f7a4 : GoodIn wsX7_many (va_wsS RX7 155 yJ6_bitCount_0f7a4 wsJ6_bitCount_0f7a4) := goodIn_app (goodIn_of _ (by decide +kernel)) ggX7_many_J6_bitCount_0f7a4
set_option maxRecDepth 20000 in
theorem ggX7_many_X5_manyOver : GoodIn wsX7_many wsX5_manyOver := goodIn_r _ [18, 19, 20, 21, 22, 16, 23, 24, 25, 26, 27, 28, 29, 30, 3, 31, 32, 33, 34, 35, 36, 37, 79, 80, 81, 75, 76, 77, 78] (by decide +kernel) (by decide +kernel)
set_option maxRecDepth 20000 in
theorem gX7_many_X5_manyOver_n229 : GoodIn wsX7_many (wsX5_manyOver) := ggX7_many_X5_manyOver
set_option maxRecDepth 20000 in
theorem ggX7_many_X5_manyFlat : GoodIn wsX7_many wsX5_manyFlat := goodIn_r _ [40, 19, 41, 42, 43, 16, 44, 24, 25, 26, 27, 28, 29, 30, 3, 31, 32, 33, 34, 35, 36, 37, 79, 80, 81, 75, 76, 77, 78] (by decide +kernel) (by decide +kernel)
set_option maxRecDepth 20000 in
theorem gX7_many_X5_manyFlat_n232 : GoodIn wsX7_many (wsX5_manyFlat) := ggX7_many_X5_manyFlat
set_option maxRecDepth 20000 in
theorem ggX7_many_X5_manyOverlaps : GoodIn wsX7_many wsX5_manyOverlaps := goodIn_r _ [47, 19, 41, 42, 43, 16, 44, 24, 25, 26, 27, 28, 29, 30, 3, 31, 32, 33, 34, 35, 36, 37, 48, 49, 50, 51, 52, 53, 54, 55, 56, 57, 58, 59, 60, 61, 62, 63, 79, 80, 81, 75, 76, 77, 78] (by decide +kernel) (by decide +kernel)
set_option maxRecDepth 20000 in
theorem gX7_many_X5_manyOverlaps_n235 : GoodIn wsX7_many (wsX5_manyOverlaps) := ggX7_many_X5_manyOverlaps
theorem dX7_many_0 : decode cX7_many 0 = .ok (.aload_n 0, 1) := by decide +kernel
theorem dX7_many_1 : decode cX7_many 1 = .ok (.getfield 10, 3) := by decide +kernel
theorem dX7_many_4 : decode cX7_many 4 = .ok (.getfield 163, 3) := by decide +kernel
theorem dX7_many_7 : decode cX7_many 7 = .ok (.astore_n 2, 1) := by decide +kernel
theorem dX7_many_8 : decode cX7_many 8 = .ok (.iload_n 1, 1) := by decide +kernel
theorem dX7_many_9 : decode cX7_many 9 = .ok (.tableswitch 125 0 8 #[51, 62, 76, 81, 86, 91, 102, 113, 119], 51) := by decide +kernel
theorem dX7_many_60 : decode cX7_many 60 = .ok (.aload_n 0, 1) := by decide +kernel
theorem dX7_many_61 : decode cX7_many 61 = .ok (.getfield 10, 3) := by decide +kernel
theorem dX7_many_64 : decode cX7_many 64 = .ok (.getfield 21, 3) := by decide +kernel
theorem dX7_many_67 : decode cX7_many 67 = .ok (.getfield 224, 3) := by decide +kernel
theorem dX7_many_70 : decode cX7_many 70 = .ok (.ireturn, 1) := by decide +kernel
theorem dX7_many_71 : decode cX7_many 71 = .ok (.aload_n 0, 1) := by decide +kernel
theorem dX7_many_72 : decode cX7_many 72 = .ok (.getfield 10, 3) := by decide +kernel
theorem dX7_many_75 : decode cX7_many 75 = .ok (.getfield 21, 3) := by decide +kernel
theorem dX7_many_78 : decode cX7_many 78 = .ok (.invokevirtual 225, 3) := by decide +kernel
theorem dX7_many_81 : decode cX7_many 81 = .ok (.invokestatic 155, 3) := by decide +kernel
theorem dX7_many_84 : decode cX7_many 84 = .ok (.ireturn, 1) := by decide +kernel
theorem dX7_many_85 : decode cX7_many 85 = .ok (.aload_n 2, 1) := by decide +kernel
theorem dX7_many_86 : decode cX7_many 86 = .ok (.getfield 228, 3) := by decide +kernel
theorem dX7_many_89 : decode cX7_many 89 = .ok (.ireturn, 1) := by decide +kernel
theorem dX7_many_90 : decode cX7_many 90 = .ok (.aload_n 2, 1) := by decide +kernel
theorem dX7_many_91 : decode cX7_many 91 = .ok (.invokevirtual 229, 3) := by decide +kernel
theorem dX7_many_94 : decode cX7_many 94 = .ok (.ireturn, 1) := by decide +kernel
theorem dX7_many_95 : decode cX7_many 95 = .ok (.aload_n 2, 1) := by decide +kernel
theorem dX7_many_96 : decode cX7_many 96 = .ok (.invokevirtual 232, 3) := by decide +kernel
theorem dX7_many_99 : decode cX7_many 99 = .ok (.ireturn, 1) := by decide +kernel
theorem dX7_many_100 : decode cX7_many 100 = .ok (.aload_n 0, 1) := by decide +kernel
theorem dX7_many_101 : decode cX7_many 101 = .ok (.getfield 10, 3) := by decide +kernel
theorem dX7_many_104 : decode cX7_many 104 = .ok (.getfield 34, 3) := by decide +kernel
theorem dX7_many_107 : decode cX7_many 107 = .ok (.getfield 205, 3) := by decide +kernel
theorem dX7_many_110 : decode cX7_many 110 = .ok (.ireturn, 1) := by decide +kernel
theorem dX7_many_111 : decode cX7_many 111 = .ok (.aload_n 0, 1) := by decide +kernel
theorem dX7_many_112 : decode cX7_many 112 = .ok (.getfield 10, 3) := by decide +kernel
theorem dX7_many_115 : decode cX7_many 115 = .ok (.getfield 38, 3) := by decide +kernel
theorem dX7_many_118 : decode cX7_many 118 = .ok (.getfield 205, 3) := by decide +kernel
theorem dX7_many_121 : decode cX7_many 121 = .ok (.ireturn, 1) := by decide +kernel
theorem dX7_many_122 : decode cX7_many 122 = .ok (.aload_n 2, 1) := by decide +kernel
theorem dX7_many_123 : decode cX7_many 123 = .ok (.iconst 0, 1) := by decide +kernel
theorem dX7_many_124 : decode cX7_many 124 = .ok (.invokevirtual 235, 3) := by decide +kernel
theorem dX7_many_127 : decode cX7_many 127 = .ok (.ireturn, 1) := by decide +kernel
theorem dX7_many_128 : decode cX7_many 128 = .ok (.aload_n 2, 1) := by decide +kernel
theorem dX7_many_129 : decode cX7_many 129 = .ok (.iconst 1, 1) := by decide +kernel
theorem dX7_many_130 : decode cX7_many 130 = .ok (.invokevirtual 235, 3) := by decide +kernel
theorem dX7_many_133 : decode cX7_many 133 = .ok (.ireturn, 1) := by decide +kernel
theorem dX7_many_134 : decode cX7_many 134 = .ok (.iconst (-1), 1) := by decide +kernel
theorem dX7_many_135 : decode cX7_many 135 = .ok (.ireturn, 1) := by decide +kernel
set_option maxRecDepth 20000 in
theorem ggX7_keep_X3_copyFrom : GoodIn wsX7_keep wsX3_copyFrom := goodIn_r _ [7, 8, 9, 10, 11, 12, 13, 14, 15, 16, 17, 18, 19, 20, 21, 22, 23, 24, 25, 26, 27, 28, 29, 30, 31, 32, 33, 34, 35, 36, 37, 38, 39, 47, 48, 49, 50, 51, 52, 53, 54, 55, 56, 57, 58, 59, 60, 61] (by decide +kernel) (by decide +kernel)
set_option maxRecDepth 20000 in
theorem gX7_keep_X3_copyFrom_n238 : GoodIn wsX7_keep (wsX3_copyFrom) := ggX7_keep_X3_copyFrom
theorem dX7_keep_0 : decode cX7_keep 0 = .ok (.aload_n 0, 1) := by decide +kernel
theorem dX7_keep_1 : decode cX7_keep 1 = .ok (.getfield 16, 3) := by decide +kernel
theorem dX7_keep_4 : decode cX7_keep 4 = .ok (.aload_n 0, 1) := by decide +kernel
theorem dX7_keep_5 : decode cX7_keep 5 = .ok (.getfield 10, 3) := by decide +kernel
theorem dX7_keep_8 : decode cX7_keep 8 = .ok (.invokevirtual 238, 3) := by decide +kernel
theorem dX7_keep_11 : decode cX7_keep 11 = .ok (.aload_n 0, 1) := by decide +kernel
theorem dX7_keep_12 : decode cX7_keep 12 = .ok (.iconst 1, 1) := by decide +kernel
theorem dX7_keep_13 : decode cX7_keep 13 = .ok (.putfield 48, 3) := by decide +kernel
theorem dX7_keep_16 : decode cX7_keep 16 = .ok (.iconst 1, 1) := by decide +kernel
theorem dX7_keep_17 : decode cX7_keep 17 = .ok (.ireturn, 1) := by decide +kernel
set_option maxRecDepth 20000 in
theorem ggX7_back_X3_copyFrom : GoodIn wsX7_back wsX3_copyFrom := goodIn_r _ [7, 8, 9, 10, 11, 12, 13, 14, 15, 16, 17, 18, 19, 20, 21, 22, 23, 24, 25, 26, 27, 28, 29, 30, 31, 32, 33, 34, 35, 36, 37, 38, 39, 47, 48, 49, 50, 51, 52, 53, 54, 55, 56, 57, 58, 59, 60, 61] (by decide +kernel) (by decide +kernel)
set_option maxRecDepth 20000 in
theorem gX7_back_X3_copyFrom_n238 : GoodIn wsX7_back (wsX3_copyFrom) := ggX7_back_X3_copyFrom
theorem dX7_back_0 : decode cX7_back 0 = .ok (.aload_n 0, 1) := by decide +kernel
theorem dX7_back_1 : decode cX7_back 1 = .ok (.getfield 48, 3) := by decide +kernel
theorem dX7_back_4 : decode cX7_back 4 = .ok (.ifCond .ne 6, 3) := by decide +kernel
theorem dX7_back_7 : decode cX7_back 7 = .ok (.bipush (-5), 2) := by decide +kernel
theorem dX7_back_9 : decode cX7_back 9 = .ok (.ireturn, 1) := by decide +kernel
theorem dX7_back_10 : decode cX7_back 10 = .ok (.aload_n 0, 1) := by decide +kernel
theorem dX7_back_11 : decode cX7_back 11 = .ok (.getfield 10, 3) := by decide +kernel
theorem dX7_back_14 : decode cX7_back 14 = .ok (.aload_n 0, 1) := by decide +kernel
theorem dX7_back_15 : decode cX7_back 15 = .ok (.getfield 16, 3) := by decide +kernel
theorem dX7_back_18 : decode cX7_back 18 = .ok (.invokevirtual 238, 3) := by decide +kernel
theorem dX7_back_21 : decode cX7_back 21 = .ok (.iconst 1, 1) := by decide +kernel
theorem dX7_back_22 : decode cX7_back 22 = .ok (.ireturn, 1) := by decide +kernel
theorem dX7_isPlace_0 : decode cX7_isPlace 0 = .ok (.iload_n 0, 1) := by decide +kernel
theorem dX7_isPlace_1 : decode cX7_isPlace 1 = .ok (.sipush (-1000), 3) := by decide +kernel
theorem dX7_isPlace_4 : decode cX7_isPlace 4 = .ok (.if_icmp .lt 28, 3) := by decide +kernel
theorem dX7_isPlace_7 : decode cX7_isPlace 7 = .ok (.iload_n 0, 1) := by decide +kernel
theorem dX7_isPlace_8 : decode cX7_isPlace 8 = .ok (.sipush 1000, 3) := by decide +kernel
theorem dX7_isPlace_11 : decode cX7_isPlace 11 = .ok (.if_icmp .gt 21, 3) := by decide +kernel
theorem dX7_isPlace_14 : decode cX7_isPlace 14 = .ok (.iload_n 1, 1) := by decide +kernel
theorem dX7_isPlace_15 : decode cX7_isPlace 15 = .ok (.sipush (-1000), 3) := by decide +kernel
theorem dX7_isPlace_18 : decode cX7_isPlace 18 = .ok (.if_icmp .lt 14, 3) := by decide +kernel
theorem dX7_isPlace_21 : decode cX7_isPlace 21 = .ok (.iload_n 1, 1) := by decide +kernel
theorem dX7_isPlace_22 : decode cX7_isPlace 22 = .ok (.sipush 1000, 3) := by decide +kernel
theorem dX7_isPlace_25 : decode cX7_isPlace 25 = .ok (.if_icmp .gt 7, 3) := by decide +kernel
theorem dX7_isPlace_28 : decode cX7_isPlace 28 = .ok (.iconst 1, 1) := by decide +kernel
theorem dX7_isPlace_29 : decode cX7_isPlace 29 = .ok (.goto 4, 3) := by decide +kernel
theorem dX7_isPlace_32 : decode cX7_isPlace 32 = .ok (.iconst 0, 1) := by decide +kernel
theorem dX7_isPlace_33 : decode cX7_isPlace 33 = .ok (.ireturn, 1) := by decide +kernel
theorem dX7_isMap_0 : decode cX7_isMap 0 = .ok (.iload_n 0, 1) := by decide +kernel
theorem dX7_isMap_1 : decode cX7_isMap 1 = .ok (.ifCond .lt 12, 3) := by decide +kernel
theorem dX7_isMap_4 : decode cX7_isMap 4 = .ok (.iload_n 0, 1) := by decide +kernel
theorem dX7_isMap_5 : decode cX7_isMap 5 = .ok (.iconst 2, 1) := by decide +kernel
theorem dX7_isMap_6 : decode cX7_isMap 6 = .ok (.if_icmp .ge 7, 3) := by decide +kernel
theorem dX7_isMap_9 : decode cX7_isMap 9 = .ok (.iconst 1, 1) := by decide +kernel
theorem dX7_isMap_10 : decode cX7_isMap 10 = .ok (.goto 4, 3) := by decide +kernel
theorem dX7_isMap_13 : decode cX7_isMap 13 = .ok (.iconst 0, 1) := by decide +kernel
theorem dX7_isMap_14 : decode cX7_isMap 14 = .ok (.ireturn, 1) := by decide +kernel
theorem dX7_isKind_0 : decode cX7_isKind 0 = .ok (.iload_n 0, 1) := by decide +kernel
theorem dX7_isKind_1 : decode cX7_isKind 1 = .ok (.ifCond .lt 12, 3) := by decide +kernel
theorem dX7_isKind_4 : decode cX7_isKind 4 = .ok (.iload_n 0, 1) := by decide +kernel
theorem dX7_isKind_5 : decode cX7_isKind 5 = .ok (.iconst 2, 1) := by decide +kernel
theorem dX7_isKind_6 : decode cX7_isKind 6 = .ok (.if_icmp .gt 7, 3) := by decide +kernel
theorem dX7_isKind_9 : decode cX7_isKind 9 = .ok (.iconst 1, 1) := by decide +kernel
theorem dX7_isKind_10 : decode cX7_isKind 10 = .ok (.goto 4, 3) := by decide +kernel
theorem dX7_isKind_13 : decode cX7_isKind 13 = .ok (.iconst 0, 1) := by decide +kernel
theorem dX7_isKind_14 : decode cX7_isKind 14 = .ok (.ireturn, 1) := by decide +kernel
theorem dX7_isPartOfTwo_0 : decode cX7_isPartOfTwo 0 = .ok (.iload_n 0, 1) := by decide +kernel
theorem dX7_isPartOfTwo_1 : decode cX7_isPartOfTwo 1 = .ok (.ifCond .lt 12, 3) := by decide +kernel
theorem dX7_isPartOfTwo_4 : decode cX7_isPartOfTwo 4 = .ok (.iload_n 0, 1) := by decide +kernel
theorem dX7_isPartOfTwo_5 : decode cX7_isPartOfTwo 5 = .ok (.iconst 3, 1) := by decide +kernel
theorem dX7_isPartOfTwo_6 : decode cX7_isPartOfTwo 6 = .ok (.if_icmp .gt 7, 3) := by decide +kernel
theorem dX7_isPartOfTwo_9 : decode cX7_isPartOfTwo 9 = .ok (.iconst 1, 1) := by decide +kernel
theorem dX7_isPartOfTwo_10 : decode cX7_isPartOfTwo 10 = .ok (.goto 4, 3) := by decide +kernel
theorem dX7_isPartOfTwo_13 : decode cX7_isPartOfTwo 13 = .ok (.iconst 0, 1) := by decide +kernel
theorem dX7_isPartOfTwo_14 : decode cX7_isPartOfTwo 14 = .ok (.ireturn, 1) := by decide +kernel
theorem dX7_withBit_0 : decode cX7_withBit 0 = .ok (.iload_n 2, 1) := by decide +kernel
theorem dX7_withBit_1 : decode cX7_withBit 1 = .ok (.ifCond .eq 11, 3) := by decide +kernel
theorem dX7_withBit_4 : decode cX7_withBit 4 = .ok (.iload_n 0, 1) := by decide +kernel
theorem dX7_withBit_5 : decode cX7_withBit 5 = .ok (.iconst 1, 1) := by decide +kernel
theorem dX7_withBit_6 : decode cX7_withBit 6 = .ok (.iload_n 1, 1) := by decide +kernel
theorem dX7_withBit_7 : decode cX7_withBit 7 = .ok (.ishl, 1) := by decide +kernel
theorem dX7_withBit_8 : decode cX7_withBit 8 = .ok (.ior, 1) := by decide +kernel
theorem dX7_withBit_9 : decode cX7_withBit 9 = .ok (.goto 10, 3) := by decide +kernel
theorem dX7_withBit_12 : decode cX7_withBit 12 = .ok (.iload_n 0, 1) := by decide +kernel
theorem dX7_withBit_13 : decode cX7_withBit 13 = .ok (.iconst 1, 1) := by decide +kernel
theorem dX7_withBit_14 : decode cX7_withBit 14 = .ok (.iload_n 1, 1) := by decide +kernel
theorem dX7_withBit_15 : decode cX7_withBit 15 = .ok (.ishl, 1) := by decide +kernel
theorem dX7_withBit_16 : decode cX7_withBit 16 = .ok (.iconst (-1), 1) := by decide +kernel
theorem dX7_withBit_17 : decode cX7_withBit 17 = .ok (.ixor, 1) := by decide +kernel
theorem dX7_withBit_18 : decode cX7_withBit 18 = .ok (.iand, 1) := by decide +kernel
theorem dX7_withBit_19 : decode cX7_withBit 19 = .ok (.ireturn, 1) := by decide +kernel
set_option maxRecDepth 20000 in
theorem ggX7_cleared_X7_commonDivisor : GoodIn wsX7_cleared wsX7_commonDivisor := goodIn_r _ [9] (by decide +kernel) (by decide +kernel)
set_option maxRecDepth 20000 in
theorem gX7_cleared_X7_commonDivisor : GoodIn wsX7_cleared (va_wsS RX7 245 yX7_commonDivisor wsX7_commonDivisor) := goodIn_app (goodIn_of _ (by decide +kernel)) ggX7_cleared_X7_commonDivisor
theorem dX7_cleared_0 : decode cX7_cleared 0 = .ok (.lload_n 0, 1) := by decide +kernel
theorem dX7_cleared_1 : decode cX7_cleared 1 = .ok (.invokestatic 242, 3) := by decide +kernel
theorem dX7_cleared_4 : decode cX7_cleared 4 = .ok (.lload_n 2, 1) := by decide +kernel
theorem dX7_cleared_5 : decode cX7_cleared 5 = .ok (.invokestatic 242, 3) := by decide +kernel
theorem dX7_cleared_8 : decode cX7_cleared 8 = .ok (.invokestatic 245, 3) := by decide +kernel
theorem dX7_cleared_11 : decode cX7_cleared 11 = .ok (.lstore 5, 2) := by decide +kernel
theorem dX7_cleared_13 : decode cX7_cleared 13 = .ok (.lload_n 2, 1) := by decide +kernel
theorem dX7_cleared_14 : decode cX7_cleared 14 = .ok (.lconst 0, 1) := by decide +kernel
theorem dX7_cleared_15 : decode cX7_cleared 15 = .ok (.lcmp, 1) := by decide +kernel
theorem dX7_cleared_16 : decode cX7_cleared 16 = .ok (.ifCond .eq 10, 3) := by decide +kernel
theorem dX7_cleared_19 : decode cX7_cleared 19 = .ok (.lload 5, 2) := by decide +kernel
theorem dX7_cleared_21 : decode cX7_cleared 21 = .ok (.lconst 0, 1) := by decide +kernel
theorem dX7_cleared_22 : decode cX7_cleared 22 = .ok (.lcmp, 1) := by decide +kernel
theorem dX7_cleared_23 : decode cX7_cleared 23 = .ok (.ifCond .ne 7, 3) := by decide +kernel
theorem dX7_cleared_26 : decode cX7_cleared 26 = .ok (.ldc2_w 100, 3) := by decide +kernel
theorem dX7_cleared_29 : decode cX7_cleared 29 = .ok (.lreturn, 1) := by decide +kernel
theorem dX7_cleared_30 : decode cX7_cleared 30 = .ok (.iload 4, 2) := by decide +kernel
theorem dX7_cleared_32 : decode cX7_cleared 32 = .ok (.ifCond .ne 7, 3) := by decide +kernel
theorem dX7_cleared_35 : decode cX7_cleared 35 = .ok (.lload_n 0, 1) := by decide +kernel
theorem dX7_cleared_36 : decode cX7_cleared 36 = .ok (.goto 4, 3) := by decide +kernel
theorem dX7_cleared_39 : decode cX7_cleared 39 = .ok (.lload_n 2, 1) := by decide +kernel
theorem dX7_cleared_40 : decode cX7_cleared 40 = .ok (.lload 5, 2) := by decide +kernel
theorem dX7_cleared_42 : decode cX7_cleared 42 = .ok (.ldiv, 1) := by decide +kernel
theorem dX7_cleared_43 : decode cX7_cleared 43 = .ok (.lstore 7, 2) := by decide +kernel
theorem dX7_cleared_45 : decode cX7_cleared 45 = .ok (.lload_n 2, 1) := by decide +kernel
theorem dX7_cleared_46 : decode cX7_cleared 46 = .ok (.lconst 0, 1) := by decide +kernel
theorem dX7_cleared_47 : decode cX7_cleared 47 = .ok (.lcmp, 1) := by decide +kernel
theorem dX7_cleared_48 : decode cX7_cleared 48 = .ok (.ifCond .ge 9, 3) := by decide +kernel
theorem dX7_cleared_51 : decode cX7_cleared 51 = .ok (.lload 7, 2) := by decide +kernel
theorem dX7_cleared_53 : decode cX7_cleared 53 = .ok (.lneg, 1) := by decide +kernel
theorem dX7_cleared_54 : decode cX7_cleared 54 = .ok (.goto 5, 3) := by decide +kernel
theorem dX7_cleared_57 : decode cX7_cleared 57 = .ok (.lload 7, 2) := by decide +kernel
theorem dX7_cleared_59 : decode cX7_cleared 59 = .ok (.lreturn, 1) := by decide +kernel
theorem dX7_commonDivisor_0 : decode cX7_commonDivisor 0 = .ok (.lload_n 0, 1) := by decide +kernel
theorem dX7_commonDivisor_1 : decode cX7_commonDivisor 1 = .ok (.lstore 4, 2) := by decide +kernel
theorem dX7_commonDivisor_3 : decode cX7_commonDivisor 3 = .ok (.lload_n 2, 1) := by decide +kernel
theorem dX7_commonDivisor_4 : decode cX7_commonDivisor 4 = .ok (.lstore 6, 2) := by decide +kernel
theorem dX7_commonDivisor_6 : decode cX7_commonDivisor 6 = .ok (.iconst 0, 1) := by decide +kernel
theorem dX7_commonDivisor_7 : decode cX7_commonDivisor 7 = .ok (.istore 8, 2) := by decide +kernel
theorem dX7_commonDivisor_9 : decode cX7_commonDivisor 9 = .ok (.iload 8, 2) := by decide +kernel
theorem dX7_commonDivisor_11 : decode cX7_commonDivisor 11 = .ok (.bipush 100, 2) := by decide +kernel
theorem dX7_commonDivisor_13 : decode cX7_commonDivisor 13 = .ok (.if_icmp .ge 31, 3) := by decide +kernel
theorem dX7_commonDivisor_16 : decode cX7_commonDivisor 16 = .ok (.lload 6, 2) := by decide +kernel
theorem dX7_commonDivisor_18 : decode cX7_commonDivisor 18 = .ok (.lconst 0, 1) := by decide +kernel
theorem dX7_commonDivisor_19 : decode cX7_commonDivisor 19 = .ok (.lcmp, 1) := by decide +kernel
theorem dX7_commonDivisor_20 : decode cX7_commonDivisor 20 = .ok (.ifCond .eq 24, 3) := by decide +kernel
theorem dX7_commonDivisor_23 : decode cX7_commonDivisor 23 = .ok (.lload 4, 2) := by decide +kernel
theorem dX7_commonDivisor_25 : decode cX7_commonDivisor 25 = .ok (.lload 6, 2) := by decide +kernel
theorem dX7_commonDivisor_27 : decode cX7_commonDivisor 27 = .ok (.lrem, 1) := by decide +kernel
theorem dX7_commonDivisor_28 : decode cX7_commonDivisor 28 = .ok (.lstore 9, 2) := by decide +kernel
theorem dX7_commonDivisor_30 : decode cX7_commonDivisor 30 = .ok (.lload 6, 2) := by decide +kernel
theorem dX7_commonDivisor_32 : decode cX7_commonDivisor 32 = .ok (.lstore 4, 2) := by decide +kernel
theorem dX7_commonDivisor_34 : decode cX7_commonDivisor 34 = .ok (.lload 9, 2) := by decide +kernel
theorem dX7_commonDivisor_36 : decode cX7_commonDivisor 36 = .ok (.lstore 6, 2) := by decide +kernel
theorem dX7_commonDivisor_38 : decode cX7_commonDivisor 38 = .ok (.iinc 8 1, 3) := by decide +kernel
theorem dX7_commonDivisor_41 : decode cX7_commonDivisor 41 = .ok (.goto (-32), 3) := by decide +kernel
theorem dX7_commonDivisor_44 : decode cX7_commonDivisor 44 = .ok (.lload 4, 2) := by decide +kernel
theorem dX7_commonDivisor_46 : decode cX7_commonDivisor 46 = .ok (.lreturn, 1) := by decide +kernel
set_option maxRecDepth 20000 in
theorem ggX7_fits_X2_counting : GoodIn wsX7_fits wsX2_counting := goodIn_r _ [6, 7, 8, 66, 67, 68, 69] (by decide +kernel) (by decide +kernel)
set_option maxRecDepth 20000 in
theorem gX7_fits_X2_counting_n225 : GoodIn wsX7_fits (wsX2_counting) := ggX7_fits_X2_counting
set_option maxRecDepth 20000 in
theorem ggX7_fits_X0_fit : GoodIn wsX7_fits wsX0_fit := goodIn_r _ [12, 13, 14, 15, 16, 17, 18, 19, 20, 21, 22, 23, 24, 25, 26, 27, 28, 10, 29, 30, 31, 32, 33, 34, 35, 36, 37, 38, 39, 40, 41, 42, 43, 44, 45, 46, 47, 48, 49, 50, 51, 52, 53, 54, 70, 71, 72, 73, 74, 75, 76, 66, 67, 68, 69, 77, 78, 79, 80] (by decide +kernel) (by decide +kernel)
set_option maxRecDepth 20000 in
theorem gX7_fits_X0_fit_n248 : GoodIn wsX7_fits (wsX0_fit) := ggX7_fits_X0_fit
theorem dX7_fits_0 : decode cX7_fits 0 = .ok (.aload_n 0, 1) := by decide +kernel
theorem dX7_fits_1 : decode cX7_fits 1 = .ok (.getfield 28, 3) := by decide +kernel
theorem dX7_fits_4 : decode cX7_fits 4 = .ok (.iload_n 1, 1) := by decide +kernel
theorem dX7_fits_5 : decode cX7_fits 5 = .ok (.aload_n 0, 1) := by decide +kernel
theorem dX7_fits_6 : decode cX7_fits 6 = .ok (.getfield 10, 3) := by decide +kernel
theorem dX7_fits_9 : decode cX7_fits 9 = .ok (.getfield 21, 3) := by decide +kernel
theorem dX7_fits_12 : decode cX7_fits 12 = .ok (.invokevirtual 225, 3) := by decide +kernel
theorem dX7_fits_15 : decode cX7_fits 15 = .ok (.invokevirtual 248, 3) := by decide +kernel
theorem dX7_fits_18 : decode cX7_fits 18 = .ok (.ireturn, 1) := by decide +kernel
set_option maxRecDepth 20000 in
theorem ggX7_lyingSet_X7_isKind : GoodIn wsX7_lyingSet wsX7_isKind := goodIn_r _ [5] (by decide +kernel) (by decide +kernel)
set_option maxRecDepth 20000 in
theorem gX7_lyingSet_X7_isKind : GoodIn wsX7_lyingSet (va_wsS RX7 94 yX7_isKind wsX7_isKind) := goodIn_app (goodIn_of _ (by decide +kernel)) ggX7_lyingSet_X7_isKind
set_option maxRecDepth 20000 in
theorem ggX7_lyingSet_X7_fits : GoodIn wsX7_lyingSet wsX7_fits := goodIn_r _ [9, 10, 1, 11, 12, 13, 14, 15, 16, 17, 18, 19, 20, 21, 22, 23, 24, 25, 26, 27, 28, 29, 30, 31, 32, 33, 34, 35, 36, 37, 38, 39, 40, 41, 42, 43, 44, 45, 46, 47, 48, 49, 50, 51, 52, 53, 54, 55, 56, 57, 58, 59, 60, 61, 62, 97, 98, 99, 100, 101, 102, 103, 104, 105, 106, 107, 108, 109, 110, 111, 112, 113, 114, 115, 116, 117, 118, 119, 120, 121, 122] (by decide +kernel) (by decide +kernel)
set_option maxRecDepth 20000 in
theorem gX7_lyingSet_X7_fits : GoodIn wsX7_lyingSet (wsV RX7 97 RX7 yX7_fits wsX7_fits) := goodIn_app (goodIn_of _ (by decide +kernel)) ggX7_lyingSet_X7_fits
set_option maxRecDepth 20000 in
theorem ggX7_lyingSet_X2_counting : GoodIn wsX7_lyingSet wsX2_counting := goodIn_r _ [14, 15, 16, 108, 109, 110, 111] (by decide +kernel) (by decide +kernel)
set_option maxRecDepth 20000 in
theorem gX7_lyingSet_X2_counting_n225 : GoodIn wsX7_lyingSet (wsX2_counting) := ggX7_lyingSet_X2_counting
set_option maxRecDepth 20000 in
theorem ggX7_lyingSet_X7_agreeWithout : GoodIn wsX7_lyingSet wsX7_agreeWithout := goodIn_r _ [66, 10, 1, 67, 11, 12, 13, 14, 15, 16, 17, 18, 19, 20, 21, 22, 23, 24, 25, 26, 27, 28, 29, 30, 31, 32, 33, 34, 35, 36, 37, 38, 39, 40, 41, 42, 43, 44, 45, 46, 47, 48, 49, 50, 51, 52, 53, 54, 55, 56, 57, 58, 59, 60, 61, 62, 68, 69, 70, 71, 72, 73, 74, 75, 76, 77, 78, 79, 80, 81, 82, 83, 84, 85, 86, 87, 88, 89, 97, 98, 99, 100, 101, 102, 103, 104, 105, 106, 107, 108, 109, 110, 111, 112, 113, 114, 115, 116, 117, 118, 119, 120, 121, 122] (by decide +kernel) (by decide +kernel)
set_option maxRecDepth 20000 in
theorem gX7_lyingSet_X7_agreeWithout : GoodIn wsX7_lyingSet (wsV RX7 251 RX7 yX7_agreeWithout wsX7_agreeWithout) := goodIn_app (goodIn_of _ (by decide +kernel)) ggX7_lyingSet_X7_agreeWithout
set_option maxRecDepth 20000 in
theorem ggX7_lyingSet_X7_nextSet : GoodIn wsX7_lyingSet wsX7_nextSet := goodIn_r _ [92, 93, 28, 29, 30, 31, 32, 33, 94, 95, 4, 96] (by decide +kernel) (by decide +kernel)
set_option maxRecDepth 20000 in
theorem gX7_lyingSet_X7_nextSet : GoodIn wsX7_lyingSet (va_wsS RX7 254 yX7_nextSet wsX7_nextSet) := goodIn_app (goodIn_of _ (by decide +kernel)) ggX7_lyingSet_X7_nextSet
theorem dX7_lyingSet_0 : decode cX7_lyingSet 0 = .ok (.iload_n 1, 1) := by decide +kernel
theorem dX7_lyingSet_1 : decode cX7_lyingSet 1 = .ok (.invokestatic 94, 3) := by decide +kernel
theorem dX7_lyingSet_4 : decode cX7_lyingSet 4 = .ok (.ifCond .ne 5, 3) := by decide +kernel
theorem dX7_lyingSet_7 : decode cX7_lyingSet 7 = .ok (.iconst (-1), 1) := by decide +kernel
theorem dX7_lyingSet_8 : decode cX7_lyingSet 8 = .ok (.ireturn, 1) := by decide +kernel
theorem dX7_lyingSet_9 : decode cX7_lyingSet 9 = .ok (.aload_n 0, 1) := by decide +kernel
theorem dX7_lyingSet_10 : decode cX7_lyingSet 10 = .ok (.iload_n 1, 1) := by decide +kernel
theorem dX7_lyingSet_11 : decode cX7_lyingSet 11 = .ok (.invokevirtual 97, 3) := by decide +kernel
theorem dX7_lyingSet_14 : decode cX7_lyingSet 14 = .ok (.ifCond .ne 6, 3) := by decide +kernel
theorem dX7_lyingSet_17 : decode cX7_lyingSet 17 = .ok (.bipush (-3), 2) := by decide +kernel
theorem dX7_lyingSet_19 : decode cX7_lyingSet 19 = .ok (.ireturn, 1) := by decide +kernel
theorem dX7_lyingSet_20 : decode cX7_lyingSet 20 = .ok (.aload_n 0, 1) := by decide +kernel
theorem dX7_lyingSet_21 : decode cX7_lyingSet 21 = .ok (.getfield 10, 3) := by decide +kernel
theorem dX7_lyingSet_24 : decode cX7_lyingSet 24 = .ok (.getfield 21, 3) := by decide +kernel
theorem dX7_lyingSet_27 : decode cX7_lyingSet 27 = .ok (.invokevirtual 225, 3) := by decide +kernel
theorem dX7_lyingSet_30 : decode cX7_lyingSet 30 = .ok (.istore_n 2, 1) := by decide +kernel
theorem dX7_lyingSet_31 : decode cX7_lyingSet 31 = .ok (.iconst 0, 1) := by decide +kernel
theorem dX7_lyingSet_32 : decode cX7_lyingSet 32 = .ok (.istore_n 3, 1) := by decide +kernel
theorem dX7_lyingSet_33 : decode cX7_lyingSet 33 = .ok (.iconst 0, 1) := by decide +kernel
theorem dX7_lyingSet_34 : decode cX7_lyingSet 34 = .ok (.istore 4, 2) := by decide +kernel
theorem dX7_lyingSet_36 : decode cX7_lyingSet 36 = .ok (.iload 4, 2) := by decide +kernel
theorem dX7_lyingSet_38 : decode cX7_lyingSet 38 = .ok (.sipush 299, 3) := by decide +kernel
theorem dX7_lyingSet_41 : decode cX7_lyingSet 41 = .ok (.if_icmp .ge 33, 3) := by decide +kernel
theorem dX7_lyingSet_44 : decode cX7_lyingSet 44 = .ok (.iload_n 3, 1) := by decide +kernel
theorem dX7_lyingSet_45 : decode cX7_lyingSet 45 = .ok (.iload_n 2, 1) := by decide +kernel
theorem dX7_lyingSet_46 : decode cX7_lyingSet 46 = .ok (.iconst (-1), 1) := by decide +kernel
theorem dX7_lyingSet_47 : decode cX7_lyingSet 47 = .ok (.ixor, 1) := by decide +kernel
theorem dX7_lyingSet_48 : decode cX7_lyingSet 48 = .ok (.iand, 1) := by decide +kernel
theorem dX7_lyingSet_49 : decode cX7_lyingSet 49 = .ok (.ifCond .ne 14, 3) := by decide +kernel
theorem dX7_lyingSet_52 : decode cX7_lyingSet 52 = .ok (.aload_n 0, 1) := by decide +kernel
theorem dX7_lyingSet_53 : decode cX7_lyingSet 53 = .ok (.iload_n 1, 1) := by decide +kernel
theorem dX7_lyingSet_54 : decode cX7_lyingSet 54 = .ok (.iload_n 3, 1) := by decide +kernel
theorem dX7_lyingSet_55 : decode cX7_lyingSet 55 = .ok (.invokevirtual 251, 3) := by decide +kernel
theorem dX7_lyingSet_58 : decode cX7_lyingSet 58 = .ok (.ifCond .eq 5, 3) := by decide +kernel
theorem dX7_lyingSet_61 : decode cX7_lyingSet 61 = .ok (.iload_n 3, 1) := by decide +kernel
theorem dX7_lyingSet_62 : decode cX7_lyingSet 62 = .ok (.ireturn, 1) := by decide +kernel
theorem dX7_lyingSet_63 : decode cX7_lyingSet 63 = .ok (.iload_n 3, 1) := by decide +kernel
theorem dX7_lyingSet_64 : decode cX7_lyingSet 64 = .ok (.invokestatic 254, 3) := by decide +kernel
theorem dX7_lyingSet_67 : decode cX7_lyingSet 67 = .ok (.istore_n 3, 1) := by decide +kernel
theorem dX7_lyingSet_68 : decode cX7_lyingSet 68 = .ok (.iinc 4 1, 3) := by decide +kernel
theorem dX7_lyingSet_71 : decode cX7_lyingSet 71 = .ok (.goto (-35), 3) := by decide +kernel
theorem dX7_lyingSet_74 : decode cX7_lyingSet 74 = .ok (.bipush (-5), 2) := by decide +kernel
theorem dX7_lyingSet_76 : decode cX7_lyingSet 76 = .ok (.ireturn, 1) := by decide +kernel
set_option maxRecDepth 20000 in
theorem ggX7_agreeWithout_X2_counting : GoodIn wsX7_agreeWithout wsX2_counting := goodIn_r _ [7, 8, 9, 89, 90, 91, 92] (by decide +kernel) (by decide +kernel)
set_option maxRecDepth 20000 in
theorem gX7_agreeWithout_X2_counting_n225 : GoodIn wsX7_agreeWithout (wsX2_counting) := ggX7_agreeWithout_X2_counting
set_option maxRecDepth 20000 in
theorem ggX7_agreeWithout_X0_fit : GoodIn wsX7_agreeWithout wsX0_fit := goodIn_r _ [13, 14, 15, 16, 17, 18, 19, 20, 21, 22, 23, 24, 25, 26, 27, 28, 29, 11, 30, 31, 32, 33, 34, 35, 36, 37, 38, 39, 40, 41, 42, 43, 44, 45, 46, 47, 48, 49, 50, 51, 52, 53, 54, 55, 93, 94, 95, 96, 97, 98, 99, 89, 90, 91, 92, 100, 101, 102, 103] (by decide +kernel) (by decide +kernel)
set_option maxRecDepth 20000 in
theorem gX7_agreeWithout_X0_fit_n248 : GoodIn wsX7_agreeWithout (wsX0_fit) := ggX7_agreeWithout_X0_fit
set_option maxRecDepth 20000 in
theorem ggX7_agreeWithout_X0_firstBeyond : GoodIn wsX7_agreeWithout wsX0_firstBeyond := goodIn_r _ [58, 15, 59, 60, 61, 11, 62, 63, 64, 65, 66, 67, 68, 69, 70, 31, 71, 72, 73, 74, 18, 19, 75, 37, 76, 77, 40, 41, 42, 93, 94, 95, 96, 97, 98, 99, 100, 101, 102, 103, 89, 90, 91, 92] (by decide +kernel) (by decide +kernel)
set_option maxRecDepth 20000 in
theorem gX7_agreeWithout_X0_firstBeyond_n148 : GoodIn wsX7_agreeWithout (wsX0_firstBeyond) := ggX7_agreeWithout_X0_firstBeyond
theorem dX7_agreeWithout_0 : decode cX7_agreeWithout 0 = .ok (.aload_n 0, 1) := by decide +kernel
theorem dX7_agreeWithout_1 : decode cX7_agreeWithout 1 = .ok (.getfield 28, 3) := by decide +kernel
theorem dX7_agreeWithout_4 : decode cX7_agreeWithout 4 = .ok (.iload_n 1, 1) := by decide +kernel
theorem dX7_agreeWithout_5 : decode cX7_agreeWithout 5 = .ok (.aload_n 0, 1) := by decide +kernel
theorem dX7_agreeWithout_6 : decode cX7_agreeWithout 6 = .ok (.getfield 10, 3) := by decide +kernel
theorem dX7_agreeWithout_9 : decode cX7_agreeWithout 9 = .ok (.getfield 21, 3) := by decide +kernel
theorem dX7_agreeWithout_12 : decode cX7_agreeWithout 12 = .ok (.invokevirtual 225, 3) := by decide +kernel
theorem dX7_agreeWithout_15 : decode cX7_agreeWithout 15 = .ok (.iload_n 2, 1) := by decide +kernel
theorem dX7_agreeWithout_16 : decode cX7_agreeWithout 16 = .ok (.iconst (-1), 1) := by decide +kernel
theorem dX7_agreeWithout_17 : decode cX7_agreeWithout 17 = .ok (.ixor, 1) := by decide +kernel
theorem dX7_agreeWithout_18 : decode cX7_agreeWithout 18 = .ok (.iand, 1) := by decide +kernel
theorem dX7_agreeWithout_19 : decode cX7_agreeWithout 19 = .ok (.invokevirtual 248, 3) := by decide +kernel
theorem dX7_agreeWithout_22 : decode cX7_agreeWithout 22 = .ok (.ifCond .eq 23, 3) := by decide +kernel
theorem dX7_agreeWithout_25 : decode cX7_agreeWithout 25 = .ok (.aload_n 0, 1) := by decide +kernel
theorem dX7_agreeWithout_26 : decode cX7_agreeWithout 26 = .ok (.getfield 28, 3) := by decide +kernel
theorem dX7_agreeWithout_29 : decode cX7_agreeWithout 29 = .ok (.aload_n 0, 1) := by decide +kernel
theorem dX7_agreeWithout_30 : decode cX7_agreeWithout 30 = .ok (.getfield 52, 3) := by decide +kernel
theorem dX7_agreeWithout_33 : decode cX7_agreeWithout 33 = .ok (.invokevirtual 148, 3) := by decide +kernel
theorem dX7_agreeWithout_36 : decode cX7_agreeWithout 36 = .ok (.bipush (-5), 2) := by decide +kernel
theorem dX7_agreeWithout_38 : decode cX7_agreeWithout 38 = .ok (.if_icmp .ne 7, 3) := by decide +kernel
theorem dX7_agreeWithout_41 : decode cX7_agreeWithout 41 = .ok (.iconst 1, 1) := by decide +kernel
theorem dX7_agreeWithout_42 : decode cX7_agreeWithout 42 = .ok (.goto 4, 3) := by decide +kernel
theorem dX7_agreeWithout_45 : decode cX7_agreeWithout 45 = .ok (.iconst 0, 1) := by decide +kernel
theorem dX7_agreeWithout_46 : decode cX7_agreeWithout 46 = .ok (.ireturn, 1) := by decide +kernel
set_option maxRecDepth 20000 in
theorem ggX7_nextSet_J6_bitCount_0f7a4 : GoodIn wsX7_nextSet wsJ6_bitCount_0f7a4 := goodIn_r _ [4, 5, 6, 7] (by decide +kernel) (by decide +kernel)
set_option maxRecDepth 20000 in
theorem gX7_nextSet_J6_bitCount_0f7a4 : GoodIn wsX7_nextSet (va_wsS RX7 155 yJ6_bitCount_0f7a4 wsJ6_bitCount_0f7a4) := goodIn_app (goodIn_of _ (by decide +kernel)) ggX7_nextSet_J6_bitCount_0f7a4
set_option maxRecDepth 20000 in
theorem ggX7_nextSet_X7_nextOfSameSize : GoodIn wsX7_nextSet wsX7_nextOfSameSize := goodIn_r _ [11, 1, 2, 3, 4, 5, 6, 7] (by decide +kernel) (by decide +kernel)
set_option maxRecDepth 20000 in
theorem gX7_nextSet_X7_nextOfSameSize : GoodIn wsX7_nextSet (va_wsS RX7 257 yX7_nextOfSameSize wsX7_nextOfSameSize) := goodIn_app (goodIn_of _ (by decide +kernel)) ggX7_nextSet_X7_nextOfSameSize
theorem dX7_nextSet_0 : decode cX7_nextSet 0 = .ok (.iload_n 0, 1) := by decide +kernel
theorem dX7_nextSet_1 : decode cX7_nextSet 1 = .ok (.invokestatic 155, 3) := by decide +kernel
theorem dX7_nextSet_4 : decode cX7_nextSet 4 = .ok (.istore_n 1, 1) := by decide +kernel
theorem dX7_nextSet_5 : decode cX7_nextSet 5 = .ok (.iconst 1, 1) := by decide +kernel
theorem dX7_nextSet_6 : decode cX7_nextSet 6 = .ok (.iload_n 1, 1) := by decide +kernel
theorem dX7_nextSet_7 : decode cX7_nextSet 7 = .ok (.ishl, 1) := by decide +kernel
theorem dX7_nextSet_8 : decode cX7_nextSet 8 = .ok (.iconst 1, 1) := by decide +kernel
theorem dX7_nextSet_9 : decode cX7_nextSet 9 = .ok (.isub, 1) := by decide +kernel
theorem dX7_nextSet_10 : decode cX7_nextSet 10 = .ok (.bipush 12, 2) := by decide +kernel
theorem dX7_nextSet_12 : decode cX7_nextSet 12 = .ok (.iload_n 1, 1) := by decide +kernel
theorem dX7_nextSet_13 : decode cX7_nextSet 13 = .ok (.isub, 1) := by decide +kernel
theorem dX7_nextSet_14 : decode cX7_nextSet 14 = .ok (.ishl, 1) := by decide +kernel
theorem dX7_nextSet_15 : decode cX7_nextSet 15 = .ok (.istore_n 2, 1) := by decide +kernel
theorem dX7_nextSet_16 : decode cX7_nextSet 16 = .ok (.iload_n 0, 1) := by decide +kernel
theorem dX7_nextSet_17 : decode cX7_nextSet 17 = .ok (.iload_n 2, 1) := by decide +kernel
theorem dX7_nextSet_18 : decode cX7_nextSet 18 = .ok (.if_icmp .ne 13, 3) := by decide +kernel
theorem dX7_nextSet_21 : decode cX7_nextSet 21 = .ok (.iconst 1, 1) := by decide +kernel
theorem dX7_nextSet_22 : decode cX7_nextSet 22 = .ok (.iload_n 1, 1) := by decide +kernel
theorem dX7_nextSet_23 : decode cX7_nextSet 23 = .ok (.iconst 1, 1) := by decide +kernel
theorem dX7_nextSet_24 : decode cX7_nextSet 24 = .ok (.iadd, 1) := by decide +kernel
theorem dX7_nextSet_25 : decode cX7_nextSet 25 = .ok (.ishl, 1) := by decide +kernel
theorem dX7_nextSet_26 : decode cX7_nextSet 26 = .ok (.iconst 1, 1) := by decide +kernel
theorem dX7_nextSet_27 : decode cX7_nextSet 27 = .ok (.isub, 1) := by decide +kernel
theorem dX7_nextSet_28 : decode cX7_nextSet 28 = .ok (.goto 7, 3) := by decide +kernel
theorem dX7_nextSet_31 : decode cX7_nextSet 31 = .ok (.iload_n 0, 1) := by decide +kernel
theorem dX7_nextSet_32 : decode cX7_nextSet 32 = .ok (.invokestatic 257, 3) := by decide +kernel
theorem dX7_nextSet_35 : decode cX7_nextSet 35 = .ok (.ireturn, 1) := by decide +kernel
set_option maxRecDepth 20000 in
theorem ggX7_nextOfSameSize_J6_bitCount_0f7a4 : GoodIn wsX7_nextOfSameSize wsJ6_bitCount_0f7a4 := goodIn_r _ [4, 5, 6, 7] (by decide +kernel) (by decide +kernel)
set_option maxRecDepth 20000 in
theorem gX7_nextOfSameSize_J6_bitCount_0f7a4 : GoodIn wsX7_nextOfSameSize (va_wsS RX7 155 yJ6_bitCount_0f7a4 wsJ6_bitCount_0f7a4) := goodIn_app (goodIn_of _ (by decide +kernel)) ggX7_nextOfSameSize_J6_bitCount_0f7a4
theorem dX7_nextOfSameSize_0 : decode cX7_nextOfSameSize 0 = .ok (.iload_n 0, 1) := by decide +kernel
theorem dX7_nextOfSameSize_1 : decode cX7_nextOfSameSize 1 = .ok (.iload_n 0, 1) := by decide +kernel
theorem dX7_nextOfSameSize_2 : decode cX7_nextOfSameSize 2 = .ok (.ineg, 1) := by decide +kernel
theorem dX7_nextOfSameSize_3 : decode cX7_nextOfSameSize 3 = .ok (.iand, 1) := by decide +kernel
theorem dX7_nextOfSameSize_4 : decode cX7_nextOfSameSize 4 = .ok (.istore_n 1, 1) := by decide +kernel
theorem dX7_nextOfSameSize_5 : decode cX7_nextOfSameSize 5 = .ok (.iload_n 0, 1) := by decide +kernel
theorem dX7_nextOfSameSize_6 : decode cX7_nextOfSameSize 6 = .ok (.iload_n 1, 1) := by decide +kernel
theorem dX7_nextOfSameSize_7 : decode cX7_nextOfSameSize 7 = .ok (.iadd, 1) := by decide +kernel
theorem dX7_nextOfSameSize_8 : decode cX7_nextOfSameSize 8 = .ok (.istore_n 2, 1) := by decide +kernel
theorem dX7_nextOfSameSize_9 : decode cX7_nextOfSameSize 9 = .ok (.iload_n 0, 1) := by decide +kernel
theorem dX7_nextOfSameSize_10 : decode cX7_nextOfSameSize 10 = .ok (.iload_n 2, 1) := by decide +kernel
theorem dX7_nextOfSameSize_11 : decode cX7_nextOfSameSize 11 = .ok (.iconst (-1), 1) := by decide +kernel
theorem dX7_nextOfSameSize_12 : decode cX7_nextOfSameSize 12 = .ok (.ixor, 1) := by decide +kernel
theorem dX7_nextOfSameSize_13 : decode cX7_nextOfSameSize 13 = .ok (.iand, 1) := by decide +kernel
theorem dX7_nextOfSameSize_14 : decode cX7_nextOfSameSize 14 = .ok (.invokestatic 155, 3) := by decide +kernel
theorem dX7_nextOfSameSize_17 : decode cX7_nextOfSameSize 17 = .ok (.iconst 1, 1) := by decide +kernel
theorem dX7_nextOfSameSize_18 : decode cX7_nextOfSameSize 18 = .ok (.isub, 1) := by decide +kernel
theorem dX7_nextOfSameSize_19 : decode cX7_nextOfSameSize 19 = .ok (.istore_n 3, 1) := by decide +kernel
theorem dX7_nextOfSameSize_20 : decode cX7_nextOfSameSize 20 = .ok (.iload_n 2, 1) := by decide +kernel
theorem dX7_nextOfSameSize_21 : decode cX7_nextOfSameSize 21 = .ok (.iconst 1, 1) := by decide +kernel
theorem dX7_nextOfSameSize_22 : decode cX7_nextOfSameSize 22 = .ok (.iload_n 3, 1) := by decide +kernel
theorem dX7_nextOfSameSize_23 : decode cX7_nextOfSameSize 23 = .ok (.ishl, 1) := by decide +kernel
theorem dX7_nextOfSameSize_24 : decode cX7_nextOfSameSize 24 = .ok (.iconst 1, 1) := by decide +kernel
theorem dX7_nextOfSameSize_25 : decode cX7_nextOfSameSize 25 = .ok (.isub, 1) := by decide +kernel
theorem dX7_nextOfSameSize_26 : decode cX7_nextOfSameSize 26 = .ok (.ior, 1) := by decide +kernel
theorem dX7_nextOfSameSize_27 : decode cX7_nextOfSameSize 27 = .ok (.ireturn, 1) := by decide +kernel
theorem dX8_init_0 : decode cX8_init 0 = .ok (.aload_n 0, 1) := by decide +kernel
theorem dX8_init_1 : decode cX8_init 1 = .ok (.invokespecial 1, 3) := by decide +kernel
theorem dX8_init_4 : decode cX8_init 4 = .ok (.aload_n 0, 1) := by decide +kernel
theorem dX8_init_5 : decode cX8_init 5 = .ok (.bipush 48, 2) := by decide +kernel
theorem dX8_init_7 : decode cX8_init 7 = .ok (.newarray .int, 2) := by decide +kernel
theorem dX8_init_9 : decode cX8_init 9 = .ok (.putfield 7, 3) := by decide +kernel
theorem dX8_init_12 : decode cX8_init 12 = .ok (.aload_n 0, 1) := by decide +kernel
theorem dX8_init_13 : decode cX8_init 13 = .ok (.bipush 12, 2) := by decide +kernel
theorem dX8_init_15 : decode cX8_init 15 = .ok (.newarray .boolean, 2) := by decide +kernel
theorem dX8_init_17 : decode cX8_init 17 = .ok (.putfield 13, 3) := by decide +kernel
theorem dX8_init_20 : decode cX8_init 20 = .ok (.aload_n 0, 1) := by decide +kernel
theorem dX8_init_21 : decode cX8_init 21 = .ok (.bipush 12, 2) := by decide +kernel
theorem dX8_init_23 : decode cX8_init 23 = .ok (.newarray .boolean, 2) := by decide +kernel
theorem dX8_init_25 : decode cX8_init 25 = .ok (.putfield 17, 3) := by decide +kernel
theorem dX8_init_28 : decode cX8_init 28 = .ok (.aload_n 0, 1) := by decide +kernel
theorem dX8_init_29 : decode cX8_init 29 = .ok (.bipush 30, 2) := by decide +kernel
theorem dX8_init_31 : decode cX8_init 31 = .ok (.newarray .int, 2) := by decide +kernel
theorem dX8_init_33 : decode cX8_init 33 = .ok (.putfield 20, 3) := by decide +kernel
theorem dX8_init_36 : decode cX8_init 36 = .ok (.aload_n 0, 1) := by decide +kernel
theorem dX8_init_37 : decode cX8_init 37 = .ok (.iconst 2, 1) := by decide +kernel
theorem dX8_init_38 : decode cX8_init 38 = .ok (.newarray .int, 2) := by decide +kernel
theorem dX8_init_40 : decode cX8_init 40 = .ok (.putfield 23, 3) := by decide +kernel
theorem dX8_init_43 : decode cX8_init 43 = .ok (.aload_n 0, 1) := by decide +kernel
theorem dX8_init_44 : decode cX8_init 44 = .ok (.bipush 36, 2) := by decide +kernel
theorem dX8_init_46 : decode cX8_init 46 = .ok (.newarray .int, 2) := by decide +kernel
theorem dX8_init_48 : decode cX8_init 48 = .ok (.putfield 26, 3) := by decide +kernel
theorem dX8_init_51 : decode cX8_init 51 = .ok (.aload_n 0, 1) := by decide +kernel
theorem dX8_init_52 : decode cX8_init 52 = .ok (.bipush 10, 2) := by decide +kernel
theorem dX8_init_54 : decode cX8_init 54 = .ok (.putfield 29, 3) := by decide +kernel
theorem dX8_init_57 : decode cX8_init 57 = .ok (.aload_n 0, 1) := by decide +kernel
theorem dX8_init_58 : decode cX8_init 58 = .ok (.bipush 100, 2) := by decide +kernel
theorem dX8_init_60 : decode cX8_init 60 = .ok (.putfield 33, 3) := by decide +kernel
theorem dX8_init_63 : decode cX8_init 63 = .ok (.aload_n 0, 1) := by decide +kernel
theorem dX8_init_64 : decode cX8_init 64 = .ok (.iconst 4, 1) := by decide +kernel
theorem dX8_init_65 : decode cX8_init 65 = .ok (.newarray .int, 2) := by decide +kernel
theorem dX8_init_67 : decode cX8_init 67 = .ok (.putfield 36, 3) := by decide +kernel
theorem dX8_init_70 : decode cX8_init 70 = .ok (.aload_n 0, 1) := by decide +kernel
theorem dX8_init_71 : decode cX8_init 71 = .ok (.bipush 48, 2) := by decide +kernel
theorem dX8_init_73 : decode cX8_init 73 = .ok (.newarray .int, 2) := by decide +kernel
theorem dX8_init_75 : decode cX8_init 75 = .ok (.putfield 39, 3) := by decide +kernel
theorem dX8_init_78 : decode cX8_init 78 = .ok (.aload_n 0, 1) := by decide +kernel
theorem dX8_init_79 : decode cX8_init 79 = .ok (.bipush 12, 2) := by decide +kernel
theorem dX8_init_81 : decode cX8_init 81 = .ok (.newarray .int, 2) := by decide +kernel
theorem dX8_init_83 : decode cX8_init 83 = .ok (.putfield 42, 3) := by decide +kernel
theorem dX8_init_86 : decode cX8_init 86 = .ok (.aload_n 0, 1) := by decide +kernel
theorem dX8_init_87 : decode cX8_init 87 = .ok (.bipush 30, 2) := by decide +kernel
theorem dX8_init_89 : decode cX8_init 89 = .ok (.newarray .int, 2) := by decide +kernel
theorem dX8_init_91 : decode cX8_init 91 = .ok (.putfield 45, 3) := by decide +kernel
theorem dX8_init_94 : decode cX8_init 94 = .ok (.aload_n 0, 1) := by decide +kernel
theorem dX8_init_95 : decode cX8_init 95 = .ok (.bipush 36, 2) := by decide +kernel
theorem dX8_init_97 : decode cX8_init 97 = .ok (.newarray .int, 2) := by decide +kernel
theorem dX8_init_99 : decode cX8_init 99 = .ok (.putfield 48, 3) := by decide +kernel
theorem dX8_init_102 : decode cX8_init 102 = .ok (.aload_n 0, 1) := by decide +kernel
theorem dX8_init_103 : decode cX8_init 103 = .ok (.bipush 36, 2) := by decide +kernel
theorem dX8_init_105 : decode cX8_init 105 = .ok (.newarray .long, 2) := by decide +kernel
theorem dX8_init_107 : decode cX8_init 107 = .ok (.putfield 51, 3) := by decide +kernel
theorem dX8_init_110 : decode cX8_init 110 = .ok (.aload_n 0, 1) := by decide +kernel
theorem dX8_init_111 : decode cX8_init 111 = .ok (.bipush 6, 2) := by decide +kernel
theorem dX8_init_113 : decode cX8_init 113 = .ok (.newarray .int, 2) := by decide +kernel
theorem dX8_init_115 : decode cX8_init 115 = .ok (.putfield 55, 3) := by decide +kernel
theorem dX8_init_118 : decode cX8_init 118 = .ok (.aload_n 0, 1) := by decide +kernel
theorem dX8_init_119 : decode cX8_init 119 = .ok (.bipush 6, 2) := by decide +kernel
theorem dX8_init_121 : decode cX8_init 121 = .ok (.newarray .int, 2) := by decide +kernel
theorem dX8_init_123 : decode cX8_init 123 = .ok (.putfield 58, 3) := by decide +kernel
theorem dX8_init_126 : decode cX8_init 126 = .ok (.return_, 1) := by decide +kernel
theorem dX8_in_0 : decode cX8_in 0 = .ok (.iload_n 0, 1) := by decide +kernel
theorem dX8_in_1 : decode cX8_in 1 = .ok (.iload_n 1, 1) := by decide +kernel
theorem dX8_in_2 : decode cX8_in 2 = .ok (.if_icmp .lt 12, 3) := by decide +kernel
theorem dX8_in_5 : decode cX8_in 5 = .ok (.iload_n 0, 1) := by decide +kernel
theorem dX8_in_6 : decode cX8_in 6 = .ok (.iload_n 2, 1) := by decide +kernel
theorem dX8_in_7 : decode cX8_in 7 = .ok (.if_icmp .gt 7, 3) := by decide +kernel
theorem dX8_in_10 : decode cX8_in 10 = .ok (.iconst 1, 1) := by decide +kernel
theorem dX8_in_11 : decode cX8_in 11 = .ok (.goto 4, 3) := by decide +kernel
theorem dX8_in_14 : decode cX8_in 14 = .ok (.iconst 0, 1) := by decide +kernel
theorem dX8_in_15 : decode cX8_in 15 = .ok (.ireturn, 1) := by decide +kernel
set_option maxRecDepth 20000 in
theorem ggX8_isPlace_X8_in : GoodIn wsX8_isPlace wsX8_in := goodIn_r _ [4] (by decide +kernel) (by decide +kernel)
set_option maxRecDepth 20000 in
theorem gX8_isPlace_X8_in : GoodIn wsX8_isPlace (va_wsS RX8 61 yX8_in wsX8_in) := goodIn_app (goodIn_of _ (by decide +kernel)) ggX8_isPlace_X8_in
theorem dX8_isPlace_0 : decode cX8_isPlace 0 = .ok (.iload_n 0, 1) := by decide +kernel
theorem dX8_isPlace_1 : decode cX8_isPlace 1 = .ok (.sipush (-1000), 3) := by decide +kernel
theorem dX8_isPlace_4 : decode cX8_isPlace 4 = .ok (.sipush 1000, 3) := by decide +kernel
theorem dX8_isPlace_7 : decode cX8_isPlace 7 = .ok (.invokestatic 61, 3) := by decide +kernel
theorem dX8_isPlace_10 : decode cX8_isPlace 10 = .ok (.ifCond .eq 20, 3) := by decide +kernel
theorem dX8_isPlace_13 : decode cX8_isPlace 13 = .ok (.iload_n 1, 1) := by decide +kernel
theorem dX8_isPlace_14 : decode cX8_isPlace 14 = .ok (.sipush (-1000), 3) := by decide +kernel
theorem dX8_isPlace_17 : decode cX8_isPlace 17 = .ok (.sipush 1000, 3) := by decide +kernel
theorem dX8_isPlace_20 : decode cX8_isPlace 20 = .ok (.invokestatic 61, 3) := by decide +kernel
theorem dX8_isPlace_23 : decode cX8_isPlace 23 = .ok (.ifCond .eq 7, 3) := by decide +kernel
theorem dX8_isPlace_26 : decode cX8_isPlace 26 = .ok (.iconst 1, 1) := by decide +kernel
theorem dX8_isPlace_27 : decode cX8_isPlace 27 = .ok (.goto 4, 3) := by decide +kernel
theorem dX8_isPlace_30 : decode cX8_isPlace 30 = .ok (.iconst 0, 1) := by decide +kernel
theorem dX8_isPlace_31 : decode cX8_isPlace 31 = .ok (.ireturn, 1) := by decide +kernel
set_option maxRecDepth 20000 in
theorem ggX8_isPoint_X8_in : GoodIn wsX8_isPoint wsX8_in := goodIn_r _ [5] (by decide +kernel) (by decide +kernel)
set_option maxRecDepth 20000 in
theorem gX8_isPoint_X8_in : GoodIn wsX8_isPoint (va_wsS RX8 61 yX8_in wsX8_in) := goodIn_app (goodIn_of _ (by decide +kernel)) ggX8_isPoint_X8_in
theorem dX8_isPoint_0 : decode cX8_isPoint 0 = .ok (.iload_n 1, 1) := by decide +kernel
theorem dX8_isPoint_1 : decode cX8_isPoint 1 = .ok (.iconst 0, 1) := by decide +kernel
theorem dX8_isPoint_2 : decode cX8_isPoint 2 = .ok (.aload_n 0, 1) := by decide +kernel
theorem dX8_isPoint_3 : decode cX8_isPoint 3 = .ok (.getfield 65, 3) := by decide +kernel
theorem dX8_isPoint_6 : decode cX8_isPoint 6 = .ok (.iconst 1, 1) := by decide +kernel
theorem dX8_isPoint_7 : decode cX8_isPoint 7 = .ok (.isub, 1) := by decide +kernel
theorem dX8_isPoint_8 : decode cX8_isPoint 8 = .ok (.invokestatic 61, 3) := by decide +kernel
theorem dX8_isPoint_11 : decode cX8_isPoint 11 = .ok (.ireturn, 1) := by decide +kernel
set_option maxRecDepth 20000 in
theorem ggX8_isMap_X8_in : GoodIn wsX8_isMap wsX8_in := goodIn_r _ [4] (by decide +kernel) (by decide +kernel)
set_option maxRecDepth 20000 in
theorem gX8_isMap_X8_in : GoodIn wsX8_isMap (va_wsS RX8 61 yX8_in wsX8_in) := goodIn_app (goodIn_of _ (by decide +kernel)) ggX8_isMap_X8_in
theorem dX8_isMap_0 : decode cX8_isMap 0 = .ok (.iload_n 0, 1) := by decide +kernel
theorem dX8_isMap_1 : decode cX8_isMap 1 = .ok (.iconst 0, 1) := by decide +kernel
theorem dX8_isMap_2 : decode cX8_isMap 2 = .ok (.iconst 1, 1) := by decide +kernel
theorem dX8_isMap_3 : decode cX8_isMap 3 = .ok (.invokestatic 61, 3) := by decide +kernel
theorem dX8_isMap_6 : decode cX8_isMap 6 = .ok (.ireturn, 1) := by decide +kernel
set_option maxRecDepth 20000 in
theorem ggX8_point_X8_isPlace : GoodIn wsX8_point wsX8_isPlace := goodIn_r _ [8, 9, 10, 7, 11] (by decide +kernel) (by decide +kernel)
set_option maxRecDepth 20000 in
theorem gX8_point_X8_isPlace : GoodIn wsX8_point (va_wsS RX8 68 yX8_isPlace wsX8_isPlace) := goodIn_app (goodIn_of _ (by decide +kernel)) ggX8_point_X8_isPlace
theorem dX8_point_0 : decode cX8_point 0 = .ok (.iload_n 1, 1) := by decide +kernel
theorem dX8_point_1 : decode cX8_point 1 = .ok (.iload_n 2, 1) := by decide +kernel
theorem dX8_point_2 : decode cX8_point 2 = .ok (.invokestatic 68, 3) := by decide +kernel
theorem dX8_point_5 : decode cX8_point 5 = .ok (.ifCond .eq 12, 3) := by decide +kernel
theorem dX8_point_8 : decode cX8_point 8 = .ok (.iload_n 3, 1) := by decide +kernel
theorem dX8_point_9 : decode cX8_point 9 = .ok (.iload 4, 2) := by decide +kernel
theorem dX8_point_11 : decode cX8_point 11 = .ok (.invokestatic 68, 3) := by decide +kernel
theorem dX8_point_14 : decode cX8_point 14 = .ok (.ifCond .ne 5, 3) := by decide +kernel
theorem dX8_point_17 : decode cX8_point 17 = .ok (.iconst (-1), 1) := by decide +kernel
theorem dX8_point_18 : decode cX8_point 18 = .ok (.ireturn, 1) := by decide +kernel
theorem dX8_point_19 : decode cX8_point 19 = .ok (.aload_n 0, 1) := by decide +kernel
theorem dX8_point_20 : decode cX8_point 20 = .ok (.getfield 65, 3) := by decide +kernel
theorem dX8_point_23 : decode cX8_point 23 = .ok (.bipush 12, 2) := by decide +kernel
theorem dX8_point_25 : decode cX8_point 25 = .ok (.if_icmp .ne 6, 3) := by decide +kernel
theorem dX8_point_28 : decode cX8_point 28 = .ok (.bipush (-2), 2) := by decide +kernel
theorem dX8_point_30 : decode cX8_point 30 = .ok (.ireturn, 1) := by decide +kernel
theorem dX8_point_31 : decode cX8_point 31 = .ok (.aload_n 0, 1) := by decide +kernel
theorem dX8_point_32 : decode cX8_point 32 = .ok (.getfield 7, 3) := by decide +kernel
theorem dX8_point_35 : decode cX8_point 35 = .ok (.iconst 4, 1) := by decide +kernel
theorem dX8_point_36 : decode cX8_point 36 = .ok (.aload_n 0, 1) := by decide +kernel
theorem dX8_point_37 : decode cX8_point 37 = .ok (.getfield 65, 3) := by decide +kernel
theorem dX8_point_40 : decode cX8_point 40 = .ok (.imul, 1) := by decide +kernel
theorem dX8_point_41 : decode cX8_point 41 = .ok (.iload_n 1, 1) := by decide +kernel
theorem dX8_point_42 : decode cX8_point 42 = .ok (.iastore, 1) := by decide +kernel
theorem dX8_point_43 : decode cX8_point 43 = .ok (.aload_n 0, 1) := by decide +kernel
theorem dX8_point_44 : decode cX8_point 44 = .ok (.getfield 7, 3) := by decide +kernel
theorem dX8_point_47 : decode cX8_point 47 = .ok (.iconst 4, 1) := by decide +kernel
theorem dX8_point_48 : decode cX8_point 48 = .ok (.aload_n 0, 1) := by decide +kernel
theorem dX8_point_49 : decode cX8_point 49 = .ok (.getfield 65, 3) := by decide +kernel
theorem dX8_point_52 : decode cX8_point 52 = .ok (.imul, 1) := by decide +kernel
theorem dX8_point_53 : decode cX8_point 53 = .ok (.iconst 1, 1) := by decide +kernel
theorem dX8_point_54 : decode cX8_point 54 = .ok (.iadd, 1) := by decide +kernel
theorem dX8_point_55 : decode cX8_point 55 = .ok (.iload_n 2, 1) := by decide +kernel
theorem dX8_point_56 : decode cX8_point 56 = .ok (.iastore, 1) := by decide +kernel
theorem dX8_point_57 : decode cX8_point 57 = .ok (.aload_n 0, 1) := by decide +kernel
theorem dX8_point_58 : decode cX8_point 58 = .ok (.getfield 7, 3) := by decide +kernel
theorem dX8_point_61 : decode cX8_point 61 = .ok (.iconst 4, 1) := by decide +kernel
theorem dX8_point_62 : decode cX8_point 62 = .ok (.aload_n 0, 1) := by decide +kernel
theorem dX8_point_63 : decode cX8_point 63 = .ok (.getfield 65, 3) := by decide +kernel
theorem dX8_point_66 : decode cX8_point 66 = .ok (.imul, 1) := by decide +kernel
theorem dX8_point_67 : decode cX8_point 67 = .ok (.iconst 2, 1) := by decide +kernel
theorem dX8_point_68 : decode cX8_point 68 = .ok (.iadd, 1) := by decide +kernel
theorem dX8_point_69 : decode cX8_point 69 = .ok (.iload_n 3, 1) := by decide +kernel
theorem dX8_point_70 : decode cX8_point 70 = .ok (.iastore, 1) := by decide +kernel
theorem dX8_point_71 : decode cX8_point 71 = .ok (.aload_n 0, 1) := by decide +kernel
theorem dX8_point_72 : decode cX8_point 72 = .ok (.getfield 7, 3) := by decide +kernel
theorem dX8_point_75 : decode cX8_point 75 = .ok (.iconst 4, 1) := by decide +kernel
theorem dX8_point_76 : decode cX8_point 76 = .ok (.aload_n 0, 1) := by decide +kernel
theorem dX8_point_77 : decode cX8_point 77 = .ok (.getfield 65, 3) := by decide +kernel
theorem dX8_point_80 : decode cX8_point 80 = .ok (.imul, 1) := by decide +kernel
theorem dX8_point_81 : decode cX8_point 81 = .ok (.iconst 3, 1) := by decide +kernel
theorem dX8_point_82 : decode cX8_point 82 = .ok (.iadd, 1) := by decide +kernel
theorem dX8_point_83 : decode cX8_point 83 = .ok (.iload 4, 2) := by decide +kernel
theorem dX8_point_85 : decode cX8_point 85 = .ok (.iastore, 1) := by decide +kernel
theorem dX8_point_86 : decode cX8_point 86 = .ok (.aload_n 0, 1) := by decide +kernel
theorem dX8_point_87 : decode cX8_point 87 = .ok (.getfield 13, 3) := by decide +kernel
theorem dX8_point_90 : decode cX8_point 90 = .ok (.aload_n 0, 1) := by decide +kernel
theorem dX8_point_91 : decode cX8_point 91 = .ok (.getfield 65, 3) := by decide +kernel
theorem dX8_point_94 : decode cX8_point 94 = .ok (.iconst 1, 1) := by decide +kernel
theorem dX8_point_95 : decode cX8_point 95 = .ok (.bastore, 1) := by decide +kernel
theorem dX8_point_96 : decode cX8_point 96 = .ok (.aload_n 0, 1) := by decide +kernel
theorem dX8_point_97 : decode cX8_point 97 = .ok (.getfield 17, 3) := by decide +kernel
theorem dX8_point_100 : decode cX8_point 100 = .ok (.aload_n 0, 1) := by decide +kernel
theorem dX8_point_101 : decode cX8_point 101 = .ok (.getfield 65, 3) := by decide +kernel
theorem dX8_point_104 : decode cX8_point 104 = .ok (.iconst 1, 1) := by decide +kernel
theorem dX8_point_105 : decode cX8_point 105 = .ok (.bastore, 1) := by decide +kernel
theorem dX8_point_106 : decode cX8_point 106 = .ok (.aload_n 0, 1) := by decide +kernel
theorem dX8_point_107 : decode cX8_point 107 = .ok (.dup, 1) := by decide +kernel
theorem dX8_point_108 : decode cX8_point 108 = .ok (.getfield 65, 3) := by decide +kernel
theorem dX8_point_111 : decode cX8_point 111 = .ok (.iconst 1, 1) := by decide +kernel
theorem dX8_point_112 : decode cX8_point 112 = .ok (.iadd, 1) := by decide +kernel
theorem dX8_point_113 : decode cX8_point 113 = .ok (.putfield 65, 3) := by decide +kernel
theorem dX8_point_116 : decode cX8_point 116 = .ok (.aload_n 0, 1) := by decide +kernel
theorem dX8_point_117 : decode cX8_point 117 = .ok (.getfield 65, 3) := by decide +kernel
theorem dX8_point_120 : decode cX8_point 120 = .ok (.iconst 1, 1) := by decide +kernel
theorem dX8_point_121 : decode cX8_point 121 = .ok (.isub, 1) := by decide +kernel
theorem dX8_point_122 : decode cX8_point 122 = .ok (.ireturn, 1) := by decide +kernel
set_option maxRecDepth 20000 in
theorem ggX8_move_X8_isPoint : GoodIn wsX8_move wsX8_isPoint := goodIn_r _ [6, 7, 8, 9, 5, 10, 17, 18, 19, 20, 21, 22, 23, 24, 25, 26, 27, 28, 29, 30, 31, 32, 33, 34, 35, 36, 37, 38, 39, 40, 41, 42, 43, 44, 45, 46, 47, 48, 49, 50, 51, 52] (by decide +kernel) (by decide +kernel)
set_option maxRecDepth 20000 in
theorem gX8_move_X8_isPoint : GoodIn wsX8_move (wsV RX8 72 RX8 yX8_isPoint wsX8_isPoint) := goodIn_app (goodIn_of _ (by decide +kernel)) ggX8_move_X8_isPoint
set_option maxRecDepth 20000 in
theorem ggX8_move_X8_isMap : GoodIn wsX8_move wsX8_isMap := goodIn_r _ [13, 8, 9, 5, 10] (by decide +kernel) (by decide +kernel)
set_option maxRecDepth 20000 in
theorem gX8_move_X8_isMap : GoodIn wsX8_move (va_wsS RX8 76 yX8_isMap wsX8_isMap) := goodIn_app (goodIn_of _ (by decide +kernel)) ggX8_move_X8_isMap
set_option maxRecDepth 20000 in
theorem ggX8_move_X8_isPlace : GoodIn wsX8_move wsX8_isPlace := goodIn_r _ [16, 8, 9, 5, 10] (by decide +kernel) (by decide +kernel)
set_option maxRecDepth 20000 in
theorem gX8_move_X8_isPlace : GoodIn wsX8_move (va_wsS RX8 68 yX8_isPlace wsX8_isPlace) := goodIn_app (goodIn_of _ (by decide +kernel)) ggX8_move_X8_isPlace
