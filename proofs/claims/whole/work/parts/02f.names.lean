set_option maxRecDepth 20000 in
theorem ggX0_init_X6_init : GoodIn wsX0_init wsX6_init := goodIn_r _ [16, 17, 2, 3, 18, 19, 20, 21, 22, 23, 24, 25] (by decide +kernel) (by decide +kernel)
set_option maxRecDepth 20000 in
theorem gX0_init_X6_init_n11 : GoodIn wsX0_init (wsX6_init) := ggX0_init_X6_init
theorem dX0_init_0 : decode cX0_init 0 = .ok (.aload_n 0, 1) := by decide +kernel
theorem dX0_init_1 : decode cX0_init 1 = .ok (.invokespecial 3, 3) := by decide +kernel
theorem dX0_init_4 : decode cX0_init 4 = .ok (.aload_n 0, 1) := by decide +kernel
theorem dX0_init_5 : decode cX0_init 5 = .ok (.new 9, 3) := by decide +kernel
theorem dX0_init_8 : decode cX0_init 8 = .ok (.dup, 1) := by decide +kernel
theorem dX0_init_9 : decode cX0_init 9 = .ok (.invokespecial 11, 3) := by decide +kernel
theorem dX0_init_12 : decode cX0_init 12 = .ok (.putfield 12, 3) := by decide +kernel
theorem dX0_init_15 : decode cX0_init 15 = .ok (.aload_n 0, 1) := by decide +kernel
theorem dX0_init_16 : decode cX0_init 16 = .ok (.new 9, 3) := by decide +kernel
theorem dX0_init_19 : decode cX0_init 19 = .ok (.dup, 1) := by decide +kernel
theorem dX0_init_20 : decode cX0_init 20 = .ok (.invokespecial 11, 3) := by decide +kernel
theorem dX0_init_23 : decode cX0_init 23 = .ok (.putfield 18, 3) := by decide +kernel
theorem dX0_init_26 : decode cX0_init 26 = .ok (.aload_n 0, 1) := by decide +kernel
theorem dX0_init_27 : decode cX0_init 27 = .ok (.iconst 4, 1) := by decide +kernel
theorem dX0_init_28 : decode cX0_init 28 = .ok (.newarray .long, 2) := by decide +kernel
theorem dX0_init_30 : decode cX0_init 30 = .ok (.putfield 23, 3) := by decide +kernel
theorem dX0_init_33 : decode cX0_init 33 = .ok (.aload_n 0, 1) := by decide +kernel
theorem dX0_init_34 : decode cX0_init 34 = .ok (.iconst 0, 1) := by decide +kernel
theorem dX0_init_35 : decode cX0_init 35 = .ok (.putfield 27, 3) := by decide +kernel
theorem dX0_init_38 : decode cX0_init 38 = .ok (.aload_n 0, 1) := by decide +kernel
theorem dX0_init_39 : decode cX0_init 39 = .ok (.iconst 0, 1) := by decide +kernel
theorem dX0_init_40 : decode cX0_init 40 = .ok (.putfield 31, 3) := by decide +kernel
theorem dX0_init_43 : decode cX0_init 43 = .ok (.aload_n 0, 1) := by decide +kernel
theorem dX0_init_44 : decode cX0_init 44 = .ok (.lconst 0, 1) := by decide +kernel
theorem dX0_init_45 : decode cX0_init 45 = .ok (.putfield 34, 3) := by decide +kernel
theorem dX0_init_48 : decode cX0_init 48 = .ok (.aload_n 0, 1) := by decide +kernel
theorem dX0_init_49 : decode cX0_init 49 = .ok (.aload_n 1, 1) := by decide +kernel
theorem dX0_init_50 : decode cX0_init 50 = .ok (.putfield 38, 3) := by decide +kernel
theorem dX0_init_53 : decode cX0_init 53 = .ok (.return_, 1) := by decide +kernel
set_option maxRecDepth 20000 in
theorem ggX0_fit_J6_bitCount_0f7a4 : GoodIn wsX0_fit wsJ6_bitCount_0f7a4 := goodIn_r _ [10, 11, 12, 13] (by decide +kernel) (by decide +kernel)
set_option maxRecDepth 20000 in
theorem gX0_fit_J6_bitCount_0f7a4 : GoodIn wsX0_fit (va_wsS RX0 42 yJ6_bitCount_0f7a4 wsJ6_bitCount_0f7a4) := goodIn_app (goodIn_of _ (by decide +kernel)) ggX0_fit_J6_bitCount_0f7a4
set_option maxRecDepth 20000 in
theorem ggX0_fit_X0_sumOf : GoodIn wsX0_fit wsX0_sumOf := goodIn_r _ [18, 19, 2, 44, 45, 46, 47, 48, 49, 50, 51, 52, 53, 54] (by decide +kernel) (by decide +kernel)
set_option maxRecDepth 20000 in
theorem gX0_fit_X0_sumOf : GoodIn wsX0_fit (wsV RX0 48 RX0 yX0_sumOf wsX0_sumOf) := goodIn_app (goodIn_of _ (by decide +kernel)) ggX0_fit_X0_sumOf
set_option maxRecDepth 20000 in
theorem ggX0_fit_X0_fitShift : GoodIn wsX0_fit wsX0_fitShift := goodIn_r _ [23, 5, 3, 4, 6, 24, 25, 26, 27, 28, 29, 30, 31, 44, 45, 46, 47, 48, 49, 50, 55, 56, 57, 58] (by decide +kernel) (by decide +kernel)
set_option maxRecDepth 20000 in
theorem gX0_fit_X0_fitShift : GoodIn wsX0_fit (wsV RX0 52 RX0 yX0_fitShift wsX0_fitShift) := goodIn_app (goodIn_of _ (by decide +kernel)) ggX0_fit_X0_fitShift
set_option maxRecDepth 20000 in
theorem ggX0_fit_X0_fitTurned : GoodIn wsX0_fit wsX0_fitTurned := goodIn_r _ [35, 5, 3, 4, 6, 36, 37, 38, 17, 39, 19, 2, 24, 25, 26, 27, 28, 29, 30, 31, 44, 45, 46, 47, 48, 49, 50, 51, 52, 53, 54, 55, 56, 57, 58] (by decide +kernel) (by decide +kernel)
set_option maxRecDepth 20000 in
theorem gX0_fit_X0_fitTurned : GoodIn wsX0_fit (wsV RX0 56 RX0 yX0_fitTurned wsX0_fitTurned) := goodIn_app (goodIn_of _ (by decide +kernel)) ggX0_fit_X0_fitTurned
set_option maxRecDepth 20000 in
theorem ggX0_fit_X0_fitShrunk : GoodIn wsX0_fit wsX0_fitShrunk := goodIn_r _ [43, 3, 4, 36, 37, 38, 17, 39, 19, 2, 24, 25, 26, 27, 28, 29, 30, 31, 44, 45, 46, 47, 48, 49, 50, 51, 52, 53, 54, 55, 56, 57, 58] (by decide +kernel) (by decide +kernel)
set_option maxRecDepth 20000 in
theorem gX0_fit_X0_fitShrunk : GoodIn wsX0_fit (wsV RX0 59 RX0 yX0_fitShrunk wsX0_fitShrunk) := goodIn_app (goodIn_of _ (by decide +kernel)) ggX0_fit_X0_fitShrunk
theorem dX0_fit_0 : decode cX0_fit 0 = .ok (.aload_n 0, 1) := by decide +kernel
theorem dX0_fit_1 : decode cX0_fit 1 = .ok (.iload_n 1, 1) := by decide +kernel
theorem dX0_fit_2 : decode cX0_fit 2 = .ok (.putfield 27, 3) := by decide +kernel
theorem dX0_fit_5 : decode cX0_fit 5 = .ok (.aload_n 0, 1) := by decide +kernel
theorem dX0_fit_6 : decode cX0_fit 6 = .ok (.iload_n 2, 1) := by decide +kernel
theorem dX0_fit_7 : decode cX0_fit 7 = .ok (.putfield 31, 3) := by decide +kernel
theorem dX0_fit_10 : decode cX0_fit 10 = .ok (.aload_n 0, 1) := by decide +kernel
theorem dX0_fit_11 : decode cX0_fit 11 = .ok (.iload_n 2, 1) := by decide +kernel
theorem dX0_fit_12 : decode cX0_fit 12 = .ok (.invokestatic 42, 3) := by decide +kernel
theorem dX0_fit_15 : decode cX0_fit 15 = .ok (.i2l, 1) := by decide +kernel
theorem dX0_fit_16 : decode cX0_fit 16 = .ok (.putfield 34, 3) := by decide +kernel
theorem dX0_fit_19 : decode cX0_fit 19 = .ok (.iconst 0, 1) := by decide +kernel
theorem dX0_fit_20 : decode cX0_fit 20 = .ok (.istore_n 3, 1) := by decide +kernel
theorem dX0_fit_21 : decode cX0_fit 21 = .ok (.iload_n 3, 1) := by decide +kernel
theorem dX0_fit_22 : decode cX0_fit 22 = .ok (.iconst 4, 1) := by decide +kernel
theorem dX0_fit_23 : decode cX0_fit 23 = .ok (.if_icmp .ge 20, 3) := by decide +kernel
theorem dX0_fit_26 : decode cX0_fit 26 = .ok (.aload_n 0, 1) := by decide +kernel
theorem dX0_fit_27 : decode cX0_fit 27 = .ok (.getfield 23, 3) := by decide +kernel
theorem dX0_fit_30 : decode cX0_fit 30 = .ok (.iload_n 3, 1) := by decide +kernel
theorem dX0_fit_31 : decode cX0_fit 31 = .ok (.aload_n 0, 1) := by decide +kernel
theorem dX0_fit_32 : decode cX0_fit 32 = .ok (.iload_n 3, 1) := by decide +kernel
theorem dX0_fit_33 : decode cX0_fit 33 = .ok (.invokevirtual 48, 3) := by decide +kernel
theorem dX0_fit_36 : decode cX0_fit 36 = .ok (.lastore, 1) := by decide +kernel
theorem dX0_fit_37 : decode cX0_fit 37 = .ok (.iinc 3 1, 3) := by decide +kernel
theorem dX0_fit_40 : decode cX0_fit 40 = .ok (.goto (-19), 3) := by decide +kernel
theorem dX0_fit_43 : decode cX0_fit 43 = .ok (.aload_n 0, 1) := by decide +kernel
theorem dX0_fit_44 : decode cX0_fit 44 = .ok (.getfield 27, 3) := by decide +kernel
theorem dX0_fit_47 : decode cX0_fit 47 = .ok (.lookupswitch 35 #[(0, 25), (1, 30)], 25) := by decide +kernel
theorem dX0_fit_72 : decode cX0_fit 72 = .ok (.aload_n 0, 1) := by decide +kernel
theorem dX0_fit_73 : decode cX0_fit 73 = .ok (.invokevirtual 52, 3) := by decide +kernel
theorem dX0_fit_76 : decode cX0_fit 76 = .ok (.ireturn, 1) := by decide +kernel
theorem dX0_fit_77 : decode cX0_fit 77 = .ok (.aload_n 0, 1) := by decide +kernel
theorem dX0_fit_78 : decode cX0_fit 78 = .ok (.invokevirtual 56, 3) := by decide +kernel
theorem dX0_fit_81 : decode cX0_fit 81 = .ok (.ireturn, 1) := by decide +kernel
theorem dX0_fit_82 : decode cX0_fit 82 = .ok (.aload_n 0, 1) := by decide +kernel
theorem dX0_fit_83 : decode cX0_fit 83 = .ok (.iconst 0, 1) := by decide +kernel
theorem dX0_fit_84 : decode cX0_fit 84 = .ok (.aload_n 0, 1) := by decide +kernel
theorem dX0_fit_85 : decode cX0_fit 85 = .ok (.getfield 12, 3) := by decide +kernel
theorem dX0_fit_88 : decode cX0_fit 88 = .ok (.invokevirtual 59, 3) := by decide +kernel
theorem dX0_fit_91 : decode cX0_fit 91 = .ok (.ifCond .eq 19, 3) := by decide +kernel
theorem dX0_fit_94 : decode cX0_fit 94 = .ok (.aload_n 0, 1) := by decide +kernel
theorem dX0_fit_95 : decode cX0_fit 95 = .ok (.iconst 1, 1) := by decide +kernel
theorem dX0_fit_96 : decode cX0_fit 96 = .ok (.aload_n 0, 1) := by decide +kernel
theorem dX0_fit_97 : decode cX0_fit 97 = .ok (.getfield 18, 3) := by decide +kernel
theorem dX0_fit_100 : decode cX0_fit 100 = .ok (.invokevirtual 59, 3) := by decide +kernel
theorem dX0_fit_103 : decode cX0_fit 103 = .ok (.ifCond .eq 7, 3) := by decide +kernel
theorem dX0_fit_106 : decode cX0_fit 106 = .ok (.iconst 1, 1) := by decide +kernel
theorem dX0_fit_107 : decode cX0_fit 107 = .ok (.goto 4, 3) := by decide +kernel
theorem dX0_fit_110 : decode cX0_fit 110 = .ok (.iconst 0, 1) := by decide +kernel
theorem dX0_fit_111 : decode cX0_fit 111 = .ok (.ireturn, 1) := by decide +kernel
set_option maxRecDepth 20000 in
theorem ggX0_fitShift_X6_set : GoodIn wsX0_fitShift wsX6_set := goodIn_r _ [8, 9, 10, 11, 12, 20, 21, 22, 23] (by decide +kernel) (by decide +kernel)
set_option maxRecDepth 20000 in
theorem gX0_fitShift_X6_set_n63 : GoodIn wsX0_fitShift (wsX6_set) := ggX0_fitShift_X6_set
theorem dX0_fitShift_0 : decode cX0_fitShift 0 = .ok (.aload_n 0, 1) := by decide +kernel
theorem dX0_fitShift_1 : decode cX0_fitShift 1 = .ok (.getfield 12, 3) := by decide +kernel
theorem dX0_fitShift_4 : decode cX0_fitShift 4 = .ok (.aload_n 0, 1) := by decide +kernel
theorem dX0_fitShift_5 : decode cX0_fitShift 5 = .ok (.getfield 34, 3) := by decide +kernel
theorem dX0_fitShift_8 : decode cX0_fitShift 8 = .ok (.lconst 0, 1) := by decide +kernel
theorem dX0_fitShift_9 : decode cX0_fitShift 9 = .ok (.aload_n 0, 1) := by decide +kernel
theorem dX0_fitShift_10 : decode cX0_fitShift 10 = .ok (.getfield 23, 3) := by decide +kernel
theorem dX0_fitShift_13 : decode cX0_fitShift 13 = .ok (.iconst 2, 1) := by decide +kernel
theorem dX0_fitShift_14 : decode cX0_fitShift 14 = .ok (.laload, 1) := by decide +kernel
theorem dX0_fitShift_15 : decode cX0_fitShift 15 = .ok (.aload_n 0, 1) := by decide +kernel
theorem dX0_fitShift_16 : decode cX0_fitShift 16 = .ok (.getfield 23, 3) := by decide +kernel
theorem dX0_fitShift_19 : decode cX0_fitShift 19 = .ok (.iconst 0, 1) := by decide +kernel
theorem dX0_fitShift_20 : decode cX0_fitShift 20 = .ok (.laload, 1) := by decide +kernel
theorem dX0_fitShift_21 : decode cX0_fitShift 21 = .ok (.lsub, 1) := by decide +kernel
theorem dX0_fitShift_22 : decode cX0_fitShift 22 = .ok (.aload_n 0, 1) := by decide +kernel
theorem dX0_fitShift_23 : decode cX0_fitShift 23 = .ok (.getfield 34, 3) := by decide +kernel
theorem dX0_fitShift_26 : decode cX0_fitShift 26 = .ok (.invokevirtual 63, 3) := by decide +kernel
theorem dX0_fitShift_29 : decode cX0_fitShift 29 = .ok (.aload_n 0, 1) := by decide +kernel
theorem dX0_fitShift_30 : decode cX0_fitShift 30 = .ok (.getfield 18, 3) := by decide +kernel
theorem dX0_fitShift_33 : decode cX0_fitShift 33 = .ok (.lconst 0, 1) := by decide +kernel
theorem dX0_fitShift_34 : decode cX0_fitShift 34 = .ok (.aload_n 0, 1) := by decide +kernel
theorem dX0_fitShift_35 : decode cX0_fitShift 35 = .ok (.getfield 34, 3) := by decide +kernel
theorem dX0_fitShift_38 : decode cX0_fitShift 38 = .ok (.aload_n 0, 1) := by decide +kernel
theorem dX0_fitShift_39 : decode cX0_fitShift 39 = .ok (.getfield 23, 3) := by decide +kernel
theorem dX0_fitShift_42 : decode cX0_fitShift 42 = .ok (.iconst 3, 1) := by decide +kernel
theorem dX0_fitShift_43 : decode cX0_fitShift 43 = .ok (.laload, 1) := by decide +kernel
theorem dX0_fitShift_44 : decode cX0_fitShift 44 = .ok (.aload_n 0, 1) := by decide +kernel
theorem dX0_fitShift_45 : decode cX0_fitShift 45 = .ok (.getfield 23, 3) := by decide +kernel
theorem dX0_fitShift_48 : decode cX0_fitShift 48 = .ok (.iconst 1, 1) := by decide +kernel
theorem dX0_fitShift_49 : decode cX0_fitShift 49 = .ok (.laload, 1) := by decide +kernel
theorem dX0_fitShift_50 : decode cX0_fitShift 50 = .ok (.lsub, 1) := by decide +kernel
theorem dX0_fitShift_51 : decode cX0_fitShift 51 = .ok (.aload_n 0, 1) := by decide +kernel
theorem dX0_fitShift_52 : decode cX0_fitShift 52 = .ok (.getfield 34, 3) := by decide +kernel
theorem dX0_fitShift_55 : decode cX0_fitShift 55 = .ok (.invokevirtual 63, 3) := by decide +kernel
theorem dX0_fitShift_58 : decode cX0_fitShift 58 = .ok (.aload_n 0, 1) := by decide +kernel
theorem dX0_fitShift_59 : decode cX0_fitShift 59 = .ok (.getfield 34, 3) := by decide +kernel
theorem dX0_fitShift_62 : decode cX0_fitShift 62 = .ok (.lconst 0, 1) := by decide +kernel
theorem dX0_fitShift_63 : decode cX0_fitShift 63 = .ok (.lcmp, 1) := by decide +kernel
theorem dX0_fitShift_64 : decode cX0_fitShift 64 = .ok (.ifCond .le 7, 3) := by decide +kernel
theorem dX0_fitShift_67 : decode cX0_fitShift 67 = .ok (.iconst 1, 1) := by decide +kernel
theorem dX0_fitShift_68 : decode cX0_fitShift 68 = .ok (.goto 4, 3) := by decide +kernel
theorem dX0_fitShift_71 : decode cX0_fitShift 71 = .ok (.iconst 0, 1) := by decide +kernel
theorem dX0_fitShift_72 : decode cX0_fitShift 72 = .ok (.ireturn, 1) := by decide +kernel
set_option maxRecDepth 20000 in
theorem ggX0_fitTurned_X0_spread : GoodIn wsX0_fitTurned wsX0_spread := goodIn_r _ [9, 10, 11, 2, 3, 20, 21, 22, 23, 24, 25, 26, 27, 28, 29, 30] (by decide +kernel) (by decide +kernel)
set_option maxRecDepth 20000 in
theorem gX0_fitTurned_X0_spread : GoodIn wsX0_fitTurned (wsV RX0 67 RX0 yX0_spread wsX0_spread) := goodIn_app (goodIn_of _ (by decide +kernel)) ggX0_fitTurned_X0_spread
set_option maxRecDepth 20000 in
theorem ggX0_fitTurned_X6_set : GoodIn wsX0_fitTurned wsX6_set := goodIn_r _ [15, 16, 17, 18, 19, 31, 32, 33, 34] (by decide +kernel) (by decide +kernel)
set_option maxRecDepth 20000 in
theorem gX0_fitTurned_X6_set_n63 : GoodIn wsX0_fitTurned (wsX6_set) := ggX0_fitTurned_X6_set
theorem dX0_fitTurned_0 : decode cX0_fitTurned 0 = .ok (.aload_n 0, 1) := by decide +kernel
theorem dX0_fitTurned_1 : decode cX0_fitTurned 1 = .ok (.iconst 0, 1) := by decide +kernel
theorem dX0_fitTurned_2 : decode cX0_fitTurned 2 = .ok (.iconst 0, 1) := by decide +kernel
theorem dX0_fitTurned_3 : decode cX0_fitTurned 3 = .ok (.invokevirtual 67, 3) := by decide +kernel
theorem dX0_fitTurned_6 : decode cX0_fitTurned 6 = .ok (.aload_n 0, 1) := by decide +kernel
theorem dX0_fitTurned_7 : decode cX0_fitTurned 7 = .ok (.iconst 1, 1) := by decide +kernel
theorem dX0_fitTurned_8 : decode cX0_fitTurned 8 = .ok (.iconst 1, 1) := by decide +kernel
theorem dX0_fitTurned_9 : decode cX0_fitTurned 9 = .ok (.invokevirtual 67, 3) := by decide +kernel
theorem dX0_fitTurned_12 : decode cX0_fitTurned 12 = .ok (.ladd, 1) := by decide +kernel
theorem dX0_fitTurned_13 : decode cX0_fitTurned 13 = .ok (.lstore_n 1, 1) := by decide +kernel
theorem dX0_fitTurned_14 : decode cX0_fitTurned 14 = .ok (.aload_n 0, 1) := by decide +kernel
theorem dX0_fitTurned_15 : decode cX0_fitTurned 15 = .ok (.iconst 0, 1) := by decide +kernel
theorem dX0_fitTurned_16 : decode cX0_fitTurned 16 = .ok (.iconst 2, 1) := by decide +kernel
theorem dX0_fitTurned_17 : decode cX0_fitTurned 17 = .ok (.invokevirtual 67, 3) := by decide +kernel
theorem dX0_fitTurned_20 : decode cX0_fitTurned 20 = .ok (.aload_n 0, 1) := by decide +kernel
theorem dX0_fitTurned_21 : decode cX0_fitTurned 21 = .ok (.iconst 1, 1) := by decide +kernel
theorem dX0_fitTurned_22 : decode cX0_fitTurned 22 = .ok (.iconst 3, 1) := by decide +kernel
theorem dX0_fitTurned_23 : decode cX0_fitTurned 23 = .ok (.invokevirtual 67, 3) := by decide +kernel
theorem dX0_fitTurned_26 : decode cX0_fitTurned 26 = .ok (.ladd, 1) := by decide +kernel
theorem dX0_fitTurned_27 : decode cX0_fitTurned 27 = .ok (.lstore_n 3, 1) := by decide +kernel
theorem dX0_fitTurned_28 : decode cX0_fitTurned 28 = .ok (.aload_n 0, 1) := by decide +kernel
theorem dX0_fitTurned_29 : decode cX0_fitTurned 29 = .ok (.iconst 0, 1) := by decide +kernel
theorem dX0_fitTurned_30 : decode cX0_fitTurned 30 = .ok (.iconst 3, 1) := by decide +kernel
theorem dX0_fitTurned_31 : decode cX0_fitTurned 31 = .ok (.invokevirtual 67, 3) := by decide +kernel
theorem dX0_fitTurned_34 : decode cX0_fitTurned 34 = .ok (.aload_n 0, 1) := by decide +kernel
theorem dX0_fitTurned_35 : decode cX0_fitTurned 35 = .ok (.iconst 1, 1) := by decide +kernel
theorem dX0_fitTurned_36 : decode cX0_fitTurned 36 = .ok (.iconst 2, 1) := by decide +kernel
theorem dX0_fitTurned_37 : decode cX0_fitTurned 37 = .ok (.invokevirtual 67, 3) := by decide +kernel
theorem dX0_fitTurned_40 : decode cX0_fitTurned 40 = .ok (.lsub, 1) := by decide +kernel
theorem dX0_fitTurned_41 : decode cX0_fitTurned 41 = .ok (.lstore 5, 2) := by decide +kernel
theorem dX0_fitTurned_43 : decode cX0_fitTurned 43 = .ok (.aload_n 0, 1) := by decide +kernel
theorem dX0_fitTurned_44 : decode cX0_fitTurned 44 = .ok (.getfield 12, 3) := by decide +kernel
theorem dX0_fitTurned_47 : decode cX0_fitTurned 47 = .ok (.aload_n 0, 1) := by decide +kernel
theorem dX0_fitTurned_48 : decode cX0_fitTurned 48 = .ok (.getfield 34, 3) := by decide +kernel
theorem dX0_fitTurned_51 : decode cX0_fitTurned 51 = .ok (.lload_n 3, 1) := by decide +kernel
theorem dX0_fitTurned_52 : decode cX0_fitTurned 52 = .ok (.lmul, 1) := by decide +kernel
theorem dX0_fitTurned_53 : decode cX0_fitTurned 53 = .ok (.aload_n 0, 1) := by decide +kernel
theorem dX0_fitTurned_54 : decode cX0_fitTurned 54 = .ok (.getfield 34, 3) := by decide +kernel
theorem dX0_fitTurned_57 : decode cX0_fitTurned 57 = .ok (.lneg, 1) := by decide +kernel
theorem dX0_fitTurned_58 : decode cX0_fitTurned 58 = .ok (.lload 5, 2) := by decide +kernel
theorem dX0_fitTurned_60 : decode cX0_fitTurned 60 = .ok (.lmul, 1) := by decide +kernel
theorem dX0_fitTurned_61 : decode cX0_fitTurned 61 = .ok (.lload_n 1, 1) := by decide +kernel
theorem dX0_fitTurned_62 : decode cX0_fitTurned 62 = .ok (.aload_n 0, 1) := by decide +kernel
theorem dX0_fitTurned_63 : decode cX0_fitTurned 63 = .ok (.getfield 23, 3) := by decide +kernel
theorem dX0_fitTurned_66 : decode cX0_fitTurned 66 = .ok (.iconst 2, 1) := by decide +kernel
theorem dX0_fitTurned_67 : decode cX0_fitTurned 67 = .ok (.laload, 1) := by decide +kernel
theorem dX0_fitTurned_68 : decode cX0_fitTurned 68 = .ok (.lmul, 1) := by decide +kernel
theorem dX0_fitTurned_69 : decode cX0_fitTurned 69 = .ok (.lload_n 3, 1) := by decide +kernel
theorem dX0_fitTurned_70 : decode cX0_fitTurned 70 = .ok (.aload_n 0, 1) := by decide +kernel
theorem dX0_fitTurned_71 : decode cX0_fitTurned 71 = .ok (.getfield 23, 3) := by decide +kernel
theorem dX0_fitTurned_74 : decode cX0_fitTurned 74 = .ok (.iconst 0, 1) := by decide +kernel
theorem dX0_fitTurned_75 : decode cX0_fitTurned 75 = .ok (.laload, 1) := by decide +kernel
theorem dX0_fitTurned_76 : decode cX0_fitTurned 76 = .ok (.lmul, 1) := by decide +kernel
theorem dX0_fitTurned_77 : decode cX0_fitTurned 77 = .ok (.lsub, 1) := by decide +kernel
theorem dX0_fitTurned_78 : decode cX0_fitTurned 78 = .ok (.lload 5, 2) := by decide +kernel
theorem dX0_fitTurned_80 : decode cX0_fitTurned 80 = .ok (.aload_n 0, 1) := by decide +kernel
theorem dX0_fitTurned_81 : decode cX0_fitTurned 81 = .ok (.getfield 23, 3) := by decide +kernel
theorem dX0_fitTurned_84 : decode cX0_fitTurned 84 = .ok (.iconst 1, 1) := by decide +kernel
theorem dX0_fitTurned_85 : decode cX0_fitTurned 85 = .ok (.laload, 1) := by decide +kernel
theorem dX0_fitTurned_86 : decode cX0_fitTurned 86 = .ok (.lmul, 1) := by decide +kernel
theorem dX0_fitTurned_87 : decode cX0_fitTurned 87 = .ok (.ladd, 1) := by decide +kernel
theorem dX0_fitTurned_88 : decode cX0_fitTurned 88 = .ok (.aload_n 0, 1) := by decide +kernel
theorem dX0_fitTurned_89 : decode cX0_fitTurned 89 = .ok (.getfield 34, 3) := by decide +kernel
theorem dX0_fitTurned_92 : decode cX0_fitTurned 92 = .ok (.lload_n 1, 1) := by decide +kernel
theorem dX0_fitTurned_93 : decode cX0_fitTurned 93 = .ok (.lmul, 1) := by decide +kernel
theorem dX0_fitTurned_94 : decode cX0_fitTurned 94 = .ok (.invokevirtual 63, 3) := by decide +kernel
theorem dX0_fitTurned_97 : decode cX0_fitTurned 97 = .ok (.aload_n 0, 1) := by decide +kernel
theorem dX0_fitTurned_98 : decode cX0_fitTurned 98 = .ok (.getfield 18, 3) := by decide +kernel
theorem dX0_fitTurned_101 : decode cX0_fitTurned 101 = .ok (.aload_n 0, 1) := by decide +kernel
theorem dX0_fitTurned_102 : decode cX0_fitTurned 102 = .ok (.getfield 34, 3) := by decide +kernel
theorem dX0_fitTurned_105 : decode cX0_fitTurned 105 = .ok (.lload 5, 2) := by decide +kernel
theorem dX0_fitTurned_107 : decode cX0_fitTurned 107 = .ok (.lmul, 1) := by decide +kernel
theorem dX0_fitTurned_108 : decode cX0_fitTurned 108 = .ok (.aload_n 0, 1) := by decide +kernel
theorem dX0_fitTurned_109 : decode cX0_fitTurned 109 = .ok (.getfield 34, 3) := by decide +kernel
theorem dX0_fitTurned_112 : decode cX0_fitTurned 112 = .ok (.lload_n 3, 1) := by decide +kernel
theorem dX0_fitTurned_113 : decode cX0_fitTurned 113 = .ok (.lmul, 1) := by decide +kernel
theorem dX0_fitTurned_114 : decode cX0_fitTurned 114 = .ok (.lload_n 1, 1) := by decide +kernel
theorem dX0_fitTurned_115 : decode cX0_fitTurned 115 = .ok (.aload_n 0, 1) := by decide +kernel
theorem dX0_fitTurned_116 : decode cX0_fitTurned 116 = .ok (.getfield 23, 3) := by decide +kernel
theorem dX0_fitTurned_119 : decode cX0_fitTurned 119 = .ok (.iconst 3, 1) := by decide +kernel
theorem dX0_fitTurned_120 : decode cX0_fitTurned 120 = .ok (.laload, 1) := by decide +kernel
theorem dX0_fitTurned_121 : decode cX0_fitTurned 121 = .ok (.lmul, 1) := by decide +kernel
theorem dX0_fitTurned_122 : decode cX0_fitTurned 122 = .ok (.lload 5, 2) := by decide +kernel
theorem dX0_fitTurned_124 : decode cX0_fitTurned 124 = .ok (.aload_n 0, 1) := by decide +kernel
theorem dX0_fitTurned_125 : decode cX0_fitTurned 125 = .ok (.getfield 23, 3) := by decide +kernel
theorem dX0_fitTurned_128 : decode cX0_fitTurned 128 = .ok (.iconst 0, 1) := by decide +kernel
theorem dX0_fitTurned_129 : decode cX0_fitTurned 129 = .ok (.laload, 1) := by decide +kernel
theorem dX0_fitTurned_130 : decode cX0_fitTurned 130 = .ok (.lmul, 1) := by decide +kernel
theorem dX0_fitTurned_131 : decode cX0_fitTurned 131 = .ok (.lsub, 1) := by decide +kernel
theorem dX0_fitTurned_132 : decode cX0_fitTurned 132 = .ok (.lload_n 3, 1) := by decide +kernel
theorem dX0_fitTurned_133 : decode cX0_fitTurned 133 = .ok (.aload_n 0, 1) := by decide +kernel
theorem dX0_fitTurned_134 : decode cX0_fitTurned 134 = .ok (.getfield 23, 3) := by decide +kernel
theorem dX0_fitTurned_137 : decode cX0_fitTurned 137 = .ok (.iconst 1, 1) := by decide +kernel
theorem dX0_fitTurned_138 : decode cX0_fitTurned 138 = .ok (.laload, 1) := by decide +kernel
theorem dX0_fitTurned_139 : decode cX0_fitTurned 139 = .ok (.lmul, 1) := by decide +kernel
theorem dX0_fitTurned_140 : decode cX0_fitTurned 140 = .ok (.lsub, 1) := by decide +kernel
theorem dX0_fitTurned_141 : decode cX0_fitTurned 141 = .ok (.aload_n 0, 1) := by decide +kernel
theorem dX0_fitTurned_142 : decode cX0_fitTurned 142 = .ok (.getfield 34, 3) := by decide +kernel
theorem dX0_fitTurned_145 : decode cX0_fitTurned 145 = .ok (.lload_n 1, 1) := by decide +kernel
theorem dX0_fitTurned_146 : decode cX0_fitTurned 146 = .ok (.lmul, 1) := by decide +kernel
theorem dX0_fitTurned_147 : decode cX0_fitTurned 147 = .ok (.invokevirtual 63, 3) := by decide +kernel
theorem dX0_fitTurned_150 : decode cX0_fitTurned 150 = .ok (.lload_n 1, 1) := by decide +kernel
theorem dX0_fitTurned_151 : decode cX0_fitTurned 151 = .ok (.lconst 0, 1) := by decide +kernel
theorem dX0_fitTurned_152 : decode cX0_fitTurned 152 = .ok (.lcmp, 1) := by decide +kernel
theorem dX0_fitTurned_153 : decode cX0_fitTurned 153 = .ok (.ifCond .le 7, 3) := by decide +kernel
theorem dX0_fitTurned_156 : decode cX0_fitTurned 156 = .ok (.iconst 1, 1) := by decide +kernel
theorem dX0_fitTurned_157 : decode cX0_fitTurned 157 = .ok (.goto 4, 3) := by decide +kernel
theorem dX0_fitTurned_160 : decode cX0_fitTurned 160 = .ok (.iconst 0, 1) := by decide +kernel
theorem dX0_fitTurned_161 : decode cX0_fitTurned 161 = .ok (.ireturn, 1) := by decide +kernel
set_option maxRecDepth 20000 in
theorem ggX0_fitShrunk_X0_spread : GoodIn wsX0_fitShrunk wsX0_spread := goodIn_r _ [7, 8, 9, 1, 2, 18, 19, 20, 21, 22, 23, 24, 25, 26, 27, 28] (by decide +kernel) (by decide +kernel)
set_option maxRecDepth 20000 in
theorem gX0_fitShrunk_X0_spread : GoodIn wsX0_fitShrunk (wsV RX0 67 RX0 yX0_spread wsX0_spread) := goodIn_app (goodIn_of _ (by decide +kernel)) ggX0_fitShrunk_X0_spread
set_option maxRecDepth 20000 in
theorem ggX0_fitShrunk_X6_set : GoodIn wsX0_fitShrunk wsX6_set := goodIn_r _ [13, 14, 15, 16, 17, 29, 30, 31, 32] (by decide +kernel) (by decide +kernel)
set_option maxRecDepth 20000 in
theorem gX0_fitShrunk_X6_set_n63 : GoodIn wsX0_fitShrunk (wsX6_set) := ggX0_fitShrunk_X6_set
theorem dX0_fitShrunk_0 : decode cX0_fitShrunk 0 = .ok (.aload_n 0, 1) := by decide +kernel
theorem dX0_fitShrunk_1 : decode cX0_fitShrunk 1 = .ok (.iload_n 1, 1) := by decide +kernel
theorem dX0_fitShrunk_2 : decode cX0_fitShrunk 2 = .ok (.iload_n 1, 1) := by decide +kernel
theorem dX0_fitShrunk_3 : decode cX0_fitShrunk 3 = .ok (.invokevirtual 67, 3) := by decide +kernel
theorem dX0_fitShrunk_6 : decode cX0_fitShrunk 6 = .ok (.lstore_n 3, 1) := by decide +kernel
theorem dX0_fitShrunk_7 : decode cX0_fitShrunk 7 = .ok (.aload_n 0, 1) := by decide +kernel
theorem dX0_fitShrunk_8 : decode cX0_fitShrunk 8 = .ok (.iload_n 1, 1) := by decide +kernel
theorem dX0_fitShrunk_9 : decode cX0_fitShrunk 9 = .ok (.iload_n 1, 1) := by decide +kernel
theorem dX0_fitShrunk_10 : decode cX0_fitShrunk 10 = .ok (.iconst 2, 1) := by decide +kernel
theorem dX0_fitShrunk_11 : decode cX0_fitShrunk 11 = .ok (.iadd, 1) := by decide +kernel
theorem dX0_fitShrunk_12 : decode cX0_fitShrunk 12 = .ok (.invokevirtual 67, 3) := by decide +kernel
theorem dX0_fitShrunk_15 : decode cX0_fitShrunk 15 = .ok (.lstore 5, 2) := by decide +kernel
theorem dX0_fitShrunk_17 : decode cX0_fitShrunk 17 = .ok (.iload_n 1, 1) := by decide +kernel
theorem dX0_fitShrunk_18 : decode cX0_fitShrunk 18 = .ok (.ifCond .ne 13, 3) := by decide +kernel
theorem dX0_fitShrunk_21 : decode cX0_fitShrunk 21 = .ok (.aload_n 0, 1) := by decide +kernel
theorem dX0_fitShrunk_22 : decode cX0_fitShrunk 22 = .ok (.getfield 34, 3) := by decide +kernel
theorem dX0_fitShrunk_25 : decode cX0_fitShrunk 25 = .ok (.lload 5, 2) := by decide +kernel
theorem dX0_fitShrunk_27 : decode cX0_fitShrunk 27 = .ok (.lmul, 1) := by decide +kernel
theorem dX0_fitShrunk_28 : decode cX0_fitShrunk 28 = .ok (.goto 4, 3) := by decide +kernel
theorem dX0_fitShrunk_31 : decode cX0_fitShrunk 31 = .ok (.lconst 0, 1) := by decide +kernel
theorem dX0_fitShrunk_32 : decode cX0_fitShrunk 32 = .ok (.lstore 7, 2) := by decide +kernel
theorem dX0_fitShrunk_34 : decode cX0_fitShrunk 34 = .ok (.iload_n 1, 1) := by decide +kernel
theorem dX0_fitShrunk_35 : decode cX0_fitShrunk 35 = .ok (.ifCond .ne 7, 3) := by decide +kernel
theorem dX0_fitShrunk_38 : decode cX0_fitShrunk 38 = .ok (.lconst 0, 1) := by decide +kernel
theorem dX0_fitShrunk_39 : decode cX0_fitShrunk 39 = .ok (.goto 10, 3) := by decide +kernel
theorem dX0_fitShrunk_42 : decode cX0_fitShrunk 42 = .ok (.aload_n 0, 1) := by decide +kernel
theorem dX0_fitShrunk_43 : decode cX0_fitShrunk 43 = .ok (.getfield 34, 3) := by decide +kernel
theorem dX0_fitShrunk_46 : decode cX0_fitShrunk 46 = .ok (.lload 5, 2) := by decide +kernel
theorem dX0_fitShrunk_48 : decode cX0_fitShrunk 48 = .ok (.lmul, 1) := by decide +kernel
theorem dX0_fitShrunk_49 : decode cX0_fitShrunk 49 = .ok (.lstore 9, 2) := by decide +kernel
theorem dX0_fitShrunk_51 : decode cX0_fitShrunk 51 = .ok (.aload_n 2, 1) := by decide +kernel
theorem dX0_fitShrunk_52 : decode cX0_fitShrunk 52 = .ok (.lload 7, 2) := by decide +kernel
theorem dX0_fitShrunk_54 : decode cX0_fitShrunk 54 = .ok (.lload 9, 2) := by decide +kernel
theorem dX0_fitShrunk_56 : decode cX0_fitShrunk 56 = .ok (.lload_n 3, 1) := by decide +kernel
theorem dX0_fitShrunk_57 : decode cX0_fitShrunk 57 = .ok (.aload_n 0, 1) := by decide +kernel
theorem dX0_fitShrunk_58 : decode cX0_fitShrunk 58 = .ok (.getfield 23, 3) := by decide +kernel
theorem dX0_fitShrunk_61 : decode cX0_fitShrunk 61 = .ok (.iload_n 1, 1) := by decide +kernel
theorem dX0_fitShrunk_62 : decode cX0_fitShrunk 62 = .ok (.iconst 2, 1) := by decide +kernel
theorem dX0_fitShrunk_63 : decode cX0_fitShrunk 63 = .ok (.iadd, 1) := by decide +kernel
theorem dX0_fitShrunk_64 : decode cX0_fitShrunk 64 = .ok (.laload, 1) := by decide +kernel
theorem dX0_fitShrunk_65 : decode cX0_fitShrunk 65 = .ok (.lmul, 1) := by decide +kernel
theorem dX0_fitShrunk_66 : decode cX0_fitShrunk 66 = .ok (.lload 5, 2) := by decide +kernel
theorem dX0_fitShrunk_68 : decode cX0_fitShrunk 68 = .ok (.aload_n 0, 1) := by decide +kernel
theorem dX0_fitShrunk_69 : decode cX0_fitShrunk 69 = .ok (.getfield 23, 3) := by decide +kernel
theorem dX0_fitShrunk_72 : decode cX0_fitShrunk 72 = .ok (.iload_n 1, 1) := by decide +kernel
theorem dX0_fitShrunk_73 : decode cX0_fitShrunk 73 = .ok (.laload, 1) := by decide +kernel
theorem dX0_fitShrunk_74 : decode cX0_fitShrunk 74 = .ok (.lmul, 1) := by decide +kernel
theorem dX0_fitShrunk_75 : decode cX0_fitShrunk 75 = .ok (.lsub, 1) := by decide +kernel
theorem dX0_fitShrunk_76 : decode cX0_fitShrunk 76 = .ok (.aload_n 0, 1) := by decide +kernel
theorem dX0_fitShrunk_77 : decode cX0_fitShrunk 77 = .ok (.getfield 34, 3) := by decide +kernel
theorem dX0_fitShrunk_80 : decode cX0_fitShrunk 80 = .ok (.lload_n 3, 1) := by decide +kernel
theorem dX0_fitShrunk_81 : decode cX0_fitShrunk 81 = .ok (.lmul, 1) := by decide +kernel
theorem dX0_fitShrunk_82 : decode cX0_fitShrunk 82 = .ok (.invokevirtual 63, 3) := by decide +kernel
theorem dX0_fitShrunk_85 : decode cX0_fitShrunk 85 = .ok (.lload_n 3, 1) := by decide +kernel
theorem dX0_fitShrunk_86 : decode cX0_fitShrunk 86 = .ok (.lconst 0, 1) := by decide +kernel
theorem dX0_fitShrunk_87 : decode cX0_fitShrunk 87 = .ok (.lcmp, 1) := by decide +kernel
theorem dX0_fitShrunk_88 : decode cX0_fitShrunk 88 = .ok (.ifCond .le 7, 3) := by decide +kernel
theorem dX0_fitShrunk_91 : decode cX0_fitShrunk 91 = .ok (.iconst 1, 1) := by decide +kernel
theorem dX0_fitShrunk_92 : decode cX0_fitShrunk 92 = .ok (.goto 4, 3) := by decide +kernel
theorem dX0_fitShrunk_95 : decode cX0_fitShrunk 95 = .ok (.iconst 0, 1) := by decide +kernel
theorem dX0_fitShrunk_96 : decode cX0_fitShrunk 96 = .ok (.ireturn, 1) := by decide +kernel
theorem dX0_sumOf_0 : decode cX0_sumOf 0 = .ok (.aload_n 0, 1) := by decide +kernel
theorem dX0_sumOf_1 : decode cX0_sumOf 1 = .ok (.getfield 38, 3) := by decide +kernel
theorem dX0_sumOf_4 : decode cX0_sumOf 4 = .ok (.getfield 71, 3) := by decide +kernel
theorem dX0_sumOf_7 : decode cX0_sumOf 7 = .ok (.iload_n 1, 1) := by decide +kernel
theorem dX0_sumOf_8 : decode cX0_sumOf 8 = .ok (.aaload, 1) := by decide +kernel
theorem dX0_sumOf_9 : decode cX0_sumOf 9 = .ok (.astore_n 2, 1) := by decide +kernel
theorem dX0_sumOf_10 : decode cX0_sumOf 10 = .ok (.lconst 0, 1) := by decide +kernel
theorem dX0_sumOf_11 : decode cX0_sumOf 11 = .ok (.lstore_n 3, 1) := by decide +kernel
theorem dX0_sumOf_12 : decode cX0_sumOf 12 = .ok (.iconst 0, 1) := by decide +kernel
theorem dX0_sumOf_13 : decode cX0_sumOf 13 = .ok (.istore 5, 2) := by decide +kernel
theorem dX0_sumOf_15 : decode cX0_sumOf 15 = .ok (.iload 5, 2) := by decide +kernel
theorem dX0_sumOf_17 : decode cX0_sumOf 17 = .ok (.bipush 12, 2) := by decide +kernel
theorem dX0_sumOf_19 : decode cX0_sumOf 19 = .ok (.if_icmp .ge 30, 3) := by decide +kernel
theorem dX0_sumOf_22 : decode cX0_sumOf 22 = .ok (.aload_n 0, 1) := by decide +kernel
theorem dX0_sumOf_23 : decode cX0_sumOf 23 = .ok (.getfield 31, 3) := by decide +kernel
theorem dX0_sumOf_26 : decode cX0_sumOf 26 = .ok (.iload 5, 2) := by decide +kernel
theorem dX0_sumOf_28 : decode cX0_sumOf 28 = .ok (.ishr, 1) := by decide +kernel
theorem dX0_sumOf_29 : decode cX0_sumOf 29 = .ok (.iconst 1, 1) := by decide +kernel
theorem dX0_sumOf_30 : decode cX0_sumOf 30 = .ok (.iand, 1) := by decide +kernel
theorem dX0_sumOf_31 : decode cX0_sumOf 31 = .ok (.iconst 1, 1) := by decide +kernel
theorem dX0_sumOf_32 : decode cX0_sumOf 32 = .ok (.if_icmp .ne 11, 3) := by decide +kernel
theorem dX0_sumOf_35 : decode cX0_sumOf 35 = .ok (.lload_n 3, 1) := by decide +kernel
theorem dX0_sumOf_36 : decode cX0_sumOf 36 = .ok (.aload_n 2, 1) := by decide +kernel
theorem dX0_sumOf_37 : decode cX0_sumOf 37 = .ok (.iload 5, 2) := by decide +kernel
theorem dX0_sumOf_39 : decode cX0_sumOf 39 = .ok (.iaload, 1) := by decide +kernel
theorem dX0_sumOf_40 : decode cX0_sumOf 40 = .ok (.i2l, 1) := by decide +kernel
theorem dX0_sumOf_41 : decode cX0_sumOf 41 = .ok (.ladd, 1) := by decide +kernel
theorem dX0_sumOf_42 : decode cX0_sumOf 42 = .ok (.lstore_n 3, 1) := by decide +kernel
theorem dX0_sumOf_43 : decode cX0_sumOf 43 = .ok (.iinc 5 1, 3) := by decide +kernel
theorem dX0_sumOf_46 : decode cX0_sumOf 46 = .ok (.goto (-31), 3) := by decide +kernel
theorem dX0_sumOf_49 : decode cX0_sumOf 49 = .ok (.lload_n 3, 1) := by decide +kernel
theorem dX0_sumOf_50 : decode cX0_sumOf 50 = .ok (.lreturn, 1) := by decide +kernel
theorem dX0_spread_0 : decode cX0_spread 0 = .ok (.aload_n 0, 1) := by decide +kernel
theorem dX0_spread_1 : decode cX0_spread 1 = .ok (.getfield 38, 3) := by decide +kernel
theorem dX0_spread_4 : decode cX0_spread 4 = .ok (.getfield 71, 3) := by decide +kernel
theorem dX0_spread_7 : decode cX0_spread 7 = .ok (.iload_n 1, 1) := by decide +kernel
theorem dX0_spread_8 : decode cX0_spread 8 = .ok (.aaload, 1) := by decide +kernel
theorem dX0_spread_9 : decode cX0_spread 9 = .ok (.astore_n 3, 1) := by decide +kernel
theorem dX0_spread_10 : decode cX0_spread 10 = .ok (.aload_n 0, 1) := by decide +kernel
theorem dX0_spread_11 : decode cX0_spread 11 = .ok (.getfield 38, 3) := by decide +kernel
theorem dX0_spread_14 : decode cX0_spread 14 = .ok (.getfield 71, 3) := by decide +kernel
theorem dX0_spread_17 : decode cX0_spread 17 = .ok (.iload_n 2, 1) := by decide +kernel
theorem dX0_spread_18 : decode cX0_spread 18 = .ok (.aaload, 1) := by decide +kernel
theorem dX0_spread_19 : decode cX0_spread 19 = .ok (.astore 4, 2) := by decide +kernel
theorem dX0_spread_21 : decode cX0_spread 21 = .ok (.lconst 0, 1) := by decide +kernel
theorem dX0_spread_22 : decode cX0_spread 22 = .ok (.lstore 5, 2) := by decide +kernel
theorem dX0_spread_24 : decode cX0_spread 24 = .ok (.iconst 0, 1) := by decide +kernel
theorem dX0_spread_25 : decode cX0_spread 25 = .ok (.istore 7, 2) := by decide +kernel
theorem dX0_spread_27 : decode cX0_spread 27 = .ok (.iload 7, 2) := by decide +kernel
theorem dX0_spread_29 : decode cX0_spread 29 = .ok (.bipush 12, 2) := by decide +kernel
theorem dX0_spread_31 : decode cX0_spread 31 = .ok (.if_icmp .ge 38, 3) := by decide +kernel
theorem dX0_spread_34 : decode cX0_spread 34 = .ok (.aload_n 0, 1) := by decide +kernel
theorem dX0_spread_35 : decode cX0_spread 35 = .ok (.getfield 31, 3) := by decide +kernel
theorem dX0_spread_38 : decode cX0_spread 38 = .ok (.iload 7, 2) := by decide +kernel
theorem dX0_spread_40 : decode cX0_spread 40 = .ok (.ishr, 1) := by decide +kernel
theorem dX0_spread_41 : decode cX0_spread 41 = .ok (.iconst 1, 1) := by decide +kernel
theorem dX0_spread_42 : decode cX0_spread 42 = .ok (.iand, 1) := by decide +kernel
theorem dX0_spread_43 : decode cX0_spread 43 = .ok (.iconst 1, 1) := by decide +kernel
theorem dX0_spread_44 : decode cX0_spread 44 = .ok (.if_icmp .ne 19, 3) := by decide +kernel
theorem dX0_spread_47 : decode cX0_spread 47 = .ok (.lload 5, 2) := by decide +kernel
theorem dX0_spread_49 : decode cX0_spread 49 = .ok (.aload_n 3, 1) := by decide +kernel
theorem dX0_spread_50 : decode cX0_spread 50 = .ok (.iload 7, 2) := by decide +kernel
theorem dX0_spread_52 : decode cX0_spread 52 = .ok (.iaload, 1) := by decide +kernel
theorem dX0_spread_53 : decode cX0_spread 53 = .ok (.aload 4, 2) := by decide +kernel
theorem dX0_spread_55 : decode cX0_spread 55 = .ok (.iload 7, 2) := by decide +kernel
theorem dX0_spread_57 : decode cX0_spread 57 = .ok (.iaload, 1) := by decide +kernel
theorem dX0_spread_58 : decode cX0_spread 58 = .ok (.imul, 1) := by decide +kernel
theorem dX0_spread_59 : decode cX0_spread 59 = .ok (.i2l, 1) := by decide +kernel
theorem dX0_spread_60 : decode cX0_spread 60 = .ok (.ladd, 1) := by decide +kernel
theorem dX0_spread_61 : decode cX0_spread 61 = .ok (.lstore 5, 2) := by decide +kernel
theorem dX0_spread_63 : decode cX0_spread 63 = .ok (.iinc 7 1, 3) := by decide +kernel
theorem dX0_spread_66 : decode cX0_spread 66 = .ok (.goto (-39), 3) := by decide +kernel
theorem dX0_spread_69 : decode cX0_spread 69 = .ok (.aload_n 0, 1) := by decide +kernel
theorem dX0_spread_70 : decode cX0_spread 70 = .ok (.getfield 34, 3) := by decide +kernel
theorem dX0_spread_73 : decode cX0_spread 73 = .ok (.lload 5, 2) := by decide +kernel
theorem dX0_spread_75 : decode cX0_spread 75 = .ok (.lmul, 1) := by decide +kernel
theorem dX0_spread_76 : decode cX0_spread 76 = .ok (.aload_n 0, 1) := by decide +kernel
theorem dX0_spread_77 : decode cX0_spread 77 = .ok (.getfield 23, 3) := by decide +kernel
theorem dX0_spread_80 : decode cX0_spread 80 = .ok (.iload_n 1, 1) := by decide +kernel
theorem dX0_spread_81 : decode cX0_spread 81 = .ok (.laload, 1) := by decide +kernel
theorem dX0_spread_82 : decode cX0_spread 82 = .ok (.aload_n 0, 1) := by decide +kernel
theorem dX0_spread_83 : decode cX0_spread 83 = .ok (.getfield 23, 3) := by decide +kernel
theorem dX0_spread_86 : decode cX0_spread 86 = .ok (.iload_n 2, 1) := by decide +kernel
theorem dX0_spread_87 : decode cX0_spread 87 = .ok (.laload, 1) := by decide +kernel
theorem dX0_spread_88 : decode cX0_spread 88 = .ok (.lmul, 1) := by decide +kernel
theorem dX0_spread_89 : decode cX0_spread 89 = .ok (.lsub, 1) := by decide +kernel
theorem dX0_spread_90 : decode cX0_spread 90 = .ok (.lreturn, 1) := by decide +kernel
theorem dX0_along_0 : decode cX0_along 0 = .ok (.iload_n 1, 1) := by decide +kernel
theorem dX0_along_1 : decode cX0_along 1 = .ok (.ifCond .ne 10, 3) := by decide +kernel
theorem dX0_along_4 : decode cX0_along 4 = .ok (.aload_n 0, 1) := by decide +kernel
theorem dX0_along_5 : decode cX0_along 5 = .ok (.getfield 12, 3) := by decide +kernel
theorem dX0_along_8 : decode cX0_along 8 = .ok (.goto 7, 3) := by decide +kernel
theorem dX0_along_11 : decode cX0_along 11 = .ok (.aload_n 0, 1) := by decide +kernel
theorem dX0_along_12 : decode cX0_along 12 = .ok (.getfield 18, 3) := by decide +kernel
theorem dX0_along_15 : decode cX0_along 15 = .ok (.areturn, 1) := by decide +kernel
theorem dX0_aboveOfQ_0 : decode cX0_aboveOfQ 0 = .ok (.aload_n 0, 1) := by decide +kernel
theorem dX0_aboveOfQ_1 : decode cX0_aboveOfQ 1 = .ok (.getfield 27, 3) := by decide +kernel
theorem dX0_aboveOfQ_4 : decode cX0_aboveOfQ 4 = .ok (.lookupswitch 38 #[(0, 28), (1, 30)], 28) := by decide +kernel
theorem dX0_aboveOfQ_32 : decode cX0_aboveOfQ 32 = .ok (.lconst 0, 1) := by decide +kernel
theorem dX0_aboveOfQ_33 : decode cX0_aboveOfQ 33 = .ok (.lreturn, 1) := by decide +kernel
theorem dX0_aboveOfQ_34 : decode cX0_aboveOfQ 34 = .ok (.aload_n 0, 1) := by decide +kernel
theorem dX0_aboveOfQ_35 : decode cX0_aboveOfQ 35 = .ok (.getfield 18, 3) := by decide +kernel
theorem dX0_aboveOfQ_38 : decode cX0_aboveOfQ 38 = .ok (.getfield 75, 3) := by decide +kernel
theorem dX0_aboveOfQ_41 : decode cX0_aboveOfQ 41 = .ok (.lreturn, 1) := by decide +kernel
theorem dX0_aboveOfQ_42 : decode cX0_aboveOfQ 42 = .ok (.aload_n 0, 1) := by decide +kernel
theorem dX0_aboveOfQ_43 : decode cX0_aboveOfQ 43 = .ok (.getfield 18, 3) := by decide +kernel
theorem dX0_aboveOfQ_46 : decode cX0_aboveOfQ 46 = .ok (.getfield 78, 3) := by decide +kernel
theorem dX0_aboveOfQ_49 : decode cX0_aboveOfQ 49 = .ok (.lreturn, 1) := by decide +kernel
set_option maxRecDepth 20000 in
theorem ggX0_offAbove_X0_along : GoodIn wsX0_offAbove wsX0_along := goodIn_r _ [6, 7, 8, 16, 17, 18, 19, 20, 21, 22] (by decide +kernel) (by decide +kernel)
set_option maxRecDepth 20000 in
theorem gX0_offAbove_X0_along : GoodIn wsX0_offAbove (wsV RX0 81 RX0 yX0_along wsX0_along) := goodIn_app (goodIn_of _ (by decide +kernel)) ggX0_offAbove_X0_along
set_option maxRecDepth 20000 in
theorem ggX0_offAbove_X6_above : GoodIn wsX0_offAbove wsX6_above := goodIn_r _ [12, 13, 14, 15, 27, 28, 29, 30] (by decide +kernel) (by decide +kernel)
set_option maxRecDepth 20000 in
theorem gX0_offAbove_X6_above_n88 : GoodIn wsX0_offAbove (wsX6_above) := ggX0_offAbove_X6_above
theorem dX0_offAbove_0 : decode cX0_offAbove 0 = .ok (.aload_n 0, 1) := by decide +kernel
theorem dX0_offAbove_1 : decode cX0_offAbove 1 = .ok (.iload_n 1, 1) := by decide +kernel
theorem dX0_offAbove_2 : decode cX0_offAbove 2 = .ok (.invokevirtual 81, 3) := by decide +kernel
theorem dX0_offAbove_5 : decode cX0_offAbove 5 = .ok (.astore_n 3, 1) := by decide +kernel
theorem dX0_offAbove_6 : decode cX0_offAbove 6 = .ok (.aload_n 0, 1) := by decide +kernel
theorem dX0_offAbove_7 : decode cX0_offAbove 7 = .ok (.getfield 38, 3) := by decide +kernel
theorem dX0_offAbove_10 : decode cX0_offAbove 10 = .ok (.getfield 71, 3) := by decide +kernel
theorem dX0_offAbove_13 : decode cX0_offAbove 13 = .ok (.iload_n 1, 1) := by decide +kernel
theorem dX0_offAbove_14 : decode cX0_offAbove 14 = .ok (.iconst 2, 1) := by decide +kernel
theorem dX0_offAbove_15 : decode cX0_offAbove 15 = .ok (.iadd, 1) := by decide +kernel
theorem dX0_offAbove_16 : decode cX0_offAbove 16 = .ok (.aaload, 1) := by decide +kernel
theorem dX0_offAbove_17 : decode cX0_offAbove 17 = .ok (.iload_n 2, 1) := by decide +kernel
theorem dX0_offAbove_18 : decode cX0_offAbove 18 = .ok (.iaload, 1) := by decide +kernel
theorem dX0_offAbove_19 : decode cX0_offAbove 19 = .ok (.i2l, 1) := by decide +kernel
theorem dX0_offAbove_20 : decode cX0_offAbove 20 = .ok (.lstore 4, 2) := by decide +kernel
theorem dX0_offAbove_22 : decode cX0_offAbove 22 = .ok (.lload 4, 2) := by decide +kernel
theorem dX0_offAbove_24 : decode cX0_offAbove 24 = .ok (.aload_n 3, 1) := by decide +kernel
theorem dX0_offAbove_25 : decode cX0_offAbove 25 = .ok (.getfield 85, 3) := by decide +kernel
theorem dX0_offAbove_28 : decode cX0_offAbove 28 = .ok (.lmul, 1) := by decide +kernel
theorem dX0_offAbove_29 : decode cX0_offAbove 29 = .ok (.aload_n 3, 1) := by decide +kernel
theorem dX0_offAbove_30 : decode cX0_offAbove 30 = .ok (.aload_n 0, 1) := by decide +kernel
theorem dX0_offAbove_31 : decode cX0_offAbove 31 = .ok (.getfield 38, 3) := by decide +kernel
theorem dX0_offAbove_34 : decode cX0_offAbove 34 = .ok (.getfield 71, 3) := by decide +kernel
theorem dX0_offAbove_37 : decode cX0_offAbove 37 = .ok (.iconst 0, 1) := by decide +kernel
theorem dX0_offAbove_38 : decode cX0_offAbove 38 = .ok (.aaload, 1) := by decide +kernel
theorem dX0_offAbove_39 : decode cX0_offAbove 39 = .ok (.iload_n 2, 1) := by decide +kernel
theorem dX0_offAbove_40 : decode cX0_offAbove 40 = .ok (.iaload, 1) := by decide +kernel
theorem dX0_offAbove_41 : decode cX0_offAbove 41 = .ok (.i2l, 1) := by decide +kernel
theorem dX0_offAbove_42 : decode cX0_offAbove 42 = .ok (.aload_n 0, 1) := by decide +kernel
theorem dX0_offAbove_43 : decode cX0_offAbove 43 = .ok (.getfield 38, 3) := by decide +kernel
theorem dX0_offAbove_46 : decode cX0_offAbove 46 = .ok (.getfield 71, 3) := by decide +kernel
theorem dX0_offAbove_49 : decode cX0_offAbove 49 = .ok (.iconst 1, 1) := by decide +kernel
theorem dX0_offAbove_50 : decode cX0_offAbove 50 = .ok (.aaload, 1) := by decide +kernel
theorem dX0_offAbove_51 : decode cX0_offAbove 51 = .ok (.iload_n 2, 1) := by decide +kernel
theorem dX0_offAbove_52 : decode cX0_offAbove 52 = .ok (.iaload, 1) := by decide +kernel
theorem dX0_offAbove_53 : decode cX0_offAbove 53 = .ok (.i2l, 1) := by decide +kernel
theorem dX0_offAbove_54 : decode cX0_offAbove 54 = .ok (.invokevirtual 88, 3) := by decide +kernel
theorem dX0_offAbove_57 : decode cX0_offAbove 57 = .ok (.lsub, 1) := by decide +kernel
theorem dX0_offAbove_58 : decode cX0_offAbove 58 = .ok (.lreturn, 1) := by decide +kernel
set_option maxRecDepth 20000 in
theorem ggX0_missAbove_X0_shiftMiss : GoodIn wsX0_missAbove wsX0_shiftMiss := goodIn_r _ [6, 7, 8, 9, 10, 5, 11, 12, 13, 14, 15, 20, 21, 22, 23, 24, 25, 26, 27, 28, 29, 30] (by decide +kernel) (by decide +kernel)
set_option maxRecDepth 20000 in
theorem gX0_missAbove_X0_shiftMiss : GoodIn wsX0_missAbove (wsV RX0 92 RX0 yX0_shiftMiss wsX0_shiftMiss) := goodIn_app (goodIn_of _ (by decide +kernel)) ggX0_missAbove_X0_shiftMiss
set_option maxRecDepth 20000 in
theorem ggX0_missAbove_X0_turnedMiss : GoodIn wsX0_missAbove wsX0_turnedMiss := goodIn_r _ [19, 8, 9, 10, 5, 11, 12, 13, 14, 15, 20, 21, 22, 23, 24, 25, 26, 27, 28, 29, 30] (by decide +kernel) (by decide +kernel)
set_option maxRecDepth 20000 in
theorem gX0_missAbove_X0_turnedMiss : GoodIn wsX0_missAbove (wsV RX0 95 RX0 yX0_turnedMiss wsX0_turnedMiss) := goodIn_app (goodIn_of _ (by decide +kernel)) ggX0_missAbove_X0_turnedMiss
set_option maxRecDepth 20000 in
theorem ggX0_missAbove_X0_spread : GoodIn wsX0_missAbove wsX0_spread := goodIn_r _ [11, 12, 13, 14, 15, 20, 21, 22, 23, 24, 25, 26, 27, 28, 29, 30] (by decide +kernel) (by decide +kernel)
set_option maxRecDepth 20000 in
theorem gX0_missAbove_X0_spread : GoodIn wsX0_missAbove (wsV RX0 67 RX0 yX0_spread wsX0_spread) := goodIn_app (goodIn_of _ (by decide +kernel)) ggX0_missAbove_X0_spread
theorem dX0_missAbove_0 : decode cX0_missAbove 0 = .ok (.aload_n 0, 1) := by decide +kernel
theorem dX0_missAbove_1 : decode cX0_missAbove 1 = .ok (.getfield 27, 3) := by decide +kernel
theorem dX0_missAbove_4 : decode cX0_missAbove 4 = .ok (.lookupswitch 45 #[(0, 28), (1, 40)], 28) := by decide +kernel
theorem dX0_missAbove_32 : decode cX0_missAbove 32 = .ok (.aload_n 0, 1) := by decide +kernel
theorem dX0_missAbove_33 : decode cX0_missAbove 33 = .ok (.iconst 0, 1) := by decide +kernel
theorem dX0_missAbove_34 : decode cX0_missAbove 34 = .ok (.invokevirtual 92, 3) := by decide +kernel
theorem dX0_missAbove_37 : decode cX0_missAbove 37 = .ok (.aload_n 0, 1) := by decide +kernel
theorem dX0_missAbove_38 : decode cX0_missAbove 38 = .ok (.iconst 1, 1) := by decide +kernel
theorem dX0_missAbove_39 : decode cX0_missAbove 39 = .ok (.invokevirtual 92, 3) := by decide +kernel
theorem dX0_missAbove_42 : decode cX0_missAbove 42 = .ok (.ladd, 1) := by decide +kernel
theorem dX0_missAbove_43 : decode cX0_missAbove 43 = .ok (.lreturn, 1) := by decide +kernel
theorem dX0_missAbove_44 : decode cX0_missAbove 44 = .ok (.aload_n 0, 1) := by decide +kernel
theorem dX0_missAbove_45 : decode cX0_missAbove 45 = .ok (.invokevirtual 95, 3) := by decide +kernel
theorem dX0_missAbove_48 : decode cX0_missAbove 48 = .ok (.lreturn, 1) := by decide +kernel
theorem dX0_missAbove_49 : decode cX0_missAbove 49 = .ok (.aload_n 0, 1) := by decide +kernel
theorem dX0_missAbove_50 : decode cX0_missAbove 50 = .ok (.iload_n 1, 1) := by decide +kernel
theorem dX0_missAbove_51 : decode cX0_missAbove 51 = .ok (.iload_n 1, 1) := by decide +kernel
theorem dX0_missAbove_52 : decode cX0_missAbove 52 = .ok (.iconst 2, 1) := by decide +kernel
theorem dX0_missAbove_53 : decode cX0_missAbove 53 = .ok (.iadd, 1) := by decide +kernel
theorem dX0_missAbove_54 : decode cX0_missAbove 54 = .ok (.invokevirtual 67, 3) := by decide +kernel
theorem dX0_missAbove_57 : decode cX0_missAbove 57 = .ok (.lstore_n 2, 1) := by decide +kernel
theorem dX0_missAbove_58 : decode cX0_missAbove 58 = .ok (.aload_n 0, 1) := by decide +kernel
theorem dX0_missAbove_59 : decode cX0_missAbove 59 = .ok (.iload_n 1, 1) := by decide +kernel
theorem dX0_missAbove_60 : decode cX0_missAbove 60 = .ok (.iload_n 1, 1) := by decide +kernel
theorem dX0_missAbove_61 : decode cX0_missAbove 61 = .ok (.invokevirtual 67, 3) := by decide +kernel
theorem dX0_missAbove_64 : decode cX0_missAbove 64 = .ok (.aload_n 0, 1) := by decide +kernel
theorem dX0_missAbove_65 : decode cX0_missAbove 65 = .ok (.iload_n 1, 1) := by decide +kernel
theorem dX0_missAbove_66 : decode cX0_missAbove 66 = .ok (.iconst 2, 1) := by decide +kernel
theorem dX0_missAbove_67 : decode cX0_missAbove 67 = .ok (.iadd, 1) := by decide +kernel
theorem dX0_missAbove_68 : decode cX0_missAbove 68 = .ok (.iload_n 1, 1) := by decide +kernel
theorem dX0_missAbove_69 : decode cX0_missAbove 69 = .ok (.iconst 2, 1) := by decide +kernel
theorem dX0_missAbove_70 : decode cX0_missAbove 70 = .ok (.iadd, 1) := by decide +kernel
theorem dX0_missAbove_71 : decode cX0_missAbove 71 = .ok (.invokevirtual 67, 3) := by decide +kernel
theorem dX0_missAbove_74 : decode cX0_missAbove 74 = .ok (.lmul, 1) := by decide +kernel
theorem dX0_missAbove_75 : decode cX0_missAbove 75 = .ok (.lload_n 2, 1) := by decide +kernel
theorem dX0_missAbove_76 : decode cX0_missAbove 76 = .ok (.lload_n 2, 1) := by decide +kernel
theorem dX0_missAbove_77 : decode cX0_missAbove 77 = .ok (.lmul, 1) := by decide +kernel
theorem dX0_missAbove_78 : decode cX0_missAbove 78 = .ok (.lsub, 1) := by decide +kernel
theorem dX0_missAbove_79 : decode cX0_missAbove 79 = .ok (.lreturn, 1) := by decide +kernel
set_option maxRecDepth 20000 in
theorem ggX0_shiftMiss_X0_spread : GoodIn wsX0_shiftMiss wsX0_spread := goodIn_r _ [6, 7, 8, 9, 10, 11, 12, 13, 14, 15, 16, 17, 18, 19, 20, 21] (by decide +kernel) (by decide +kernel)
set_option maxRecDepth 20000 in
theorem gX0_shiftMiss_X0_spread : GoodIn wsX0_shiftMiss (wsV RX0 67 RX0 yX0_spread wsX0_spread) := goodIn_app (goodIn_of _ (by decide +kernel)) ggX0_shiftMiss_X0_spread
theorem dX0_shiftMiss_0 : decode cX0_shiftMiss 0 = .ok (.aload_n 0, 1) := by decide +kernel
theorem dX0_shiftMiss_1 : decode cX0_shiftMiss 1 = .ok (.iload_n 1, 1) := by decide +kernel
theorem dX0_shiftMiss_2 : decode cX0_shiftMiss 2 = .ok (.iload_n 1, 1) := by decide +kernel
theorem dX0_shiftMiss_3 : decode cX0_shiftMiss 3 = .ok (.invokevirtual 67, 3) := by decide +kernel
theorem dX0_shiftMiss_6 : decode cX0_shiftMiss 6 = .ok (.ldc2_w 99, 3) := by decide +kernel
theorem dX0_shiftMiss_9 : decode cX0_shiftMiss 9 = .ok (.aload_n 0, 1) := by decide +kernel
theorem dX0_shiftMiss_10 : decode cX0_shiftMiss 10 = .ok (.iload_n 1, 1) := by decide +kernel
theorem dX0_shiftMiss_11 : decode cX0_shiftMiss 11 = .ok (.iload_n 1, 1) := by decide +kernel
theorem dX0_shiftMiss_12 : decode cX0_shiftMiss 12 = .ok (.iconst 2, 1) := by decide +kernel
theorem dX0_shiftMiss_13 : decode cX0_shiftMiss 13 = .ok (.iadd, 1) := by decide +kernel
theorem dX0_shiftMiss_14 : decode cX0_shiftMiss 14 = .ok (.invokevirtual 67, 3) := by decide +kernel
theorem dX0_shiftMiss_17 : decode cX0_shiftMiss 17 = .ok (.lmul, 1) := by decide +kernel
theorem dX0_shiftMiss_18 : decode cX0_shiftMiss 18 = .ok (.lsub, 1) := by decide +kernel
theorem dX0_shiftMiss_19 : decode cX0_shiftMiss 19 = .ok (.aload_n 0, 1) := by decide +kernel
theorem dX0_shiftMiss_20 : decode cX0_shiftMiss 20 = .ok (.iload_n 1, 1) := by decide +kernel
theorem dX0_shiftMiss_21 : decode cX0_shiftMiss 21 = .ok (.iconst 2, 1) := by decide +kernel
theorem dX0_shiftMiss_22 : decode cX0_shiftMiss 22 = .ok (.iadd, 1) := by decide +kernel
theorem dX0_shiftMiss_23 : decode cX0_shiftMiss 23 = .ok (.iload_n 1, 1) := by decide +kernel
theorem dX0_shiftMiss_24 : decode cX0_shiftMiss 24 = .ok (.iconst 2, 1) := by decide +kernel
theorem dX0_shiftMiss_25 : decode cX0_shiftMiss 25 = .ok (.iadd, 1) := by decide +kernel
theorem dX0_shiftMiss_26 : decode cX0_shiftMiss 26 = .ok (.invokevirtual 67, 3) := by decide +kernel
theorem dX0_shiftMiss_29 : decode cX0_shiftMiss 29 = .ok (.ladd, 1) := by decide +kernel
theorem dX0_shiftMiss_30 : decode cX0_shiftMiss 30 = .ok (.lreturn, 1) := by decide +kernel
set_option maxRecDepth 20000 in
theorem ggX0_turnedMiss_X0_spread : GoodIn wsX0_turnedMiss wsX0_spread := goodIn_r _ [5, 6, 7, 8, 9, 10, 11, 12, 13, 14, 15, 16, 17, 18, 19, 20] (by decide +kernel) (by decide +kernel)
set_option maxRecDepth 20000 in
theorem gX0_turnedMiss_X0_spread : GoodIn wsX0_turnedMiss (wsV RX0 67 RX0 yX0_spread wsX0_spread) := goodIn_app (goodIn_of _ (by decide +kernel)) ggX0_turnedMiss_X0_spread
theorem dX0_turnedMiss_0 : decode cX0_turnedMiss 0 = .ok (.aload_n 0, 1) := by decide +kernel
theorem dX0_turnedMiss_1 : decode cX0_turnedMiss 1 = .ok (.iconst 0, 1) := by decide +kernel
theorem dX0_turnedMiss_2 : decode cX0_turnedMiss 2 = .ok (.iconst 0, 1) := by decide +kernel
theorem dX0_turnedMiss_3 : decode cX0_turnedMiss 3 = .ok (.invokevirtual 67, 3) := by decide +kernel
theorem dX0_turnedMiss_6 : decode cX0_turnedMiss 6 = .ok (.aload_n 0, 1) := by decide +kernel
theorem dX0_turnedMiss_7 : decode cX0_turnedMiss 7 = .ok (.iconst 1, 1) := by decide +kernel
theorem dX0_turnedMiss_8 : decode cX0_turnedMiss 8 = .ok (.iconst 1, 1) := by decide +kernel
theorem dX0_turnedMiss_9 : decode cX0_turnedMiss 9 = .ok (.invokevirtual 67, 3) := by decide +kernel
theorem dX0_turnedMiss_12 : decode cX0_turnedMiss 12 = .ok (.ladd, 1) := by decide +kernel
theorem dX0_turnedMiss_13 : decode cX0_turnedMiss 13 = .ok (.lstore_n 1, 1) := by decide +kernel
theorem dX0_turnedMiss_14 : decode cX0_turnedMiss 14 = .ok (.aload_n 0, 1) := by decide +kernel
theorem dX0_turnedMiss_15 : decode cX0_turnedMiss 15 = .ok (.iconst 2, 1) := by decide +kernel
theorem dX0_turnedMiss_16 : decode cX0_turnedMiss 16 = .ok (.iconst 2, 1) := by decide +kernel
theorem dX0_turnedMiss_17 : decode cX0_turnedMiss 17 = .ok (.invokevirtual 67, 3) := by decide +kernel
theorem dX0_turnedMiss_20 : decode cX0_turnedMiss 20 = .ok (.aload_n 0, 1) := by decide +kernel
theorem dX0_turnedMiss_21 : decode cX0_turnedMiss 21 = .ok (.iconst 3, 1) := by decide +kernel
theorem dX0_turnedMiss_22 : decode cX0_turnedMiss 22 = .ok (.iconst 3, 1) := by decide +kernel
theorem dX0_turnedMiss_23 : decode cX0_turnedMiss 23 = .ok (.invokevirtual 67, 3) := by decide +kernel
theorem dX0_turnedMiss_26 : decode cX0_turnedMiss 26 = .ok (.ladd, 1) := by decide +kernel
theorem dX0_turnedMiss_27 : decode cX0_turnedMiss 27 = .ok (.lstore_n 3, 1) := by decide +kernel
theorem dX0_turnedMiss_28 : decode cX0_turnedMiss 28 = .ok (.aload_n 0, 1) := by decide +kernel
theorem dX0_turnedMiss_29 : decode cX0_turnedMiss 29 = .ok (.iconst 0, 1) := by decide +kernel
theorem dX0_turnedMiss_30 : decode cX0_turnedMiss 30 = .ok (.iconst 2, 1) := by decide +kernel
theorem dX0_turnedMiss_31 : decode cX0_turnedMiss 31 = .ok (.invokevirtual 67, 3) := by decide +kernel
theorem dX0_turnedMiss_34 : decode cX0_turnedMiss 34 = .ok (.aload_n 0, 1) := by decide +kernel
theorem dX0_turnedMiss_35 : decode cX0_turnedMiss 35 = .ok (.iconst 1, 1) := by decide +kernel
theorem dX0_turnedMiss_36 : decode cX0_turnedMiss 36 = .ok (.iconst 3, 1) := by decide +kernel
theorem dX0_turnedMiss_37 : decode cX0_turnedMiss 37 = .ok (.invokevirtual 67, 3) := by decide +kernel
theorem dX0_turnedMiss_40 : decode cX0_turnedMiss 40 = .ok (.ladd, 1) := by decide +kernel
theorem dX0_turnedMiss_41 : decode cX0_turnedMiss 41 = .ok (.lstore 5, 2) := by decide +kernel
theorem dX0_turnedMiss_43 : decode cX0_turnedMiss 43 = .ok (.aload_n 0, 1) := by decide +kernel
theorem dX0_turnedMiss_44 : decode cX0_turnedMiss 44 = .ok (.iconst 0, 1) := by decide +kernel
theorem dX0_turnedMiss_45 : decode cX0_turnedMiss 45 = .ok (.iconst 3, 1) := by decide +kernel
theorem dX0_turnedMiss_46 : decode cX0_turnedMiss 46 = .ok (.invokevirtual 67, 3) := by decide +kernel
theorem dX0_turnedMiss_49 : decode cX0_turnedMiss 49 = .ok (.aload_n 0, 1) := by decide +kernel
theorem dX0_turnedMiss_50 : decode cX0_turnedMiss 50 = .ok (.iconst 1, 1) := by decide +kernel
theorem dX0_turnedMiss_51 : decode cX0_turnedMiss 51 = .ok (.iconst 2, 1) := by decide +kernel
theorem dX0_turnedMiss_52 : decode cX0_turnedMiss 52 = .ok (.invokevirtual 67, 3) := by decide +kernel
theorem dX0_turnedMiss_55 : decode cX0_turnedMiss 55 = .ok (.lsub, 1) := by decide +kernel
theorem dX0_turnedMiss_56 : decode cX0_turnedMiss 56 = .ok (.lstore 7, 2) := by decide +kernel
theorem dX0_turnedMiss_58 : decode cX0_turnedMiss 58 = .ok (.lload_n 1, 1) := by decide +kernel
theorem dX0_turnedMiss_59 : decode cX0_turnedMiss 59 = .ok (.lload_n 3, 1) := by decide +kernel
theorem dX0_turnedMiss_60 : decode cX0_turnedMiss 60 = .ok (.lmul, 1) := by decide +kernel
theorem dX0_turnedMiss_61 : decode cX0_turnedMiss 61 = .ok (.lload 5, 2) := by decide +kernel
theorem dX0_turnedMiss_63 : decode cX0_turnedMiss 63 = .ok (.lload 5, 2) := by decide +kernel
theorem dX0_turnedMiss_65 : decode cX0_turnedMiss 65 = .ok (.lmul, 1) := by decide +kernel
theorem dX0_turnedMiss_66 : decode cX0_turnedMiss 66 = .ok (.lsub, 1) := by decide +kernel
theorem dX0_turnedMiss_67 : decode cX0_turnedMiss 67 = .ok (.lload 7, 2) := by decide +kernel
theorem dX0_turnedMiss_69 : decode cX0_turnedMiss 69 = .ok (.lload 7, 2) := by decide +kernel
theorem dX0_turnedMiss_71 : decode cX0_turnedMiss 71 = .ok (.lmul, 1) := by decide +kernel
theorem dX0_turnedMiss_72 : decode cX0_turnedMiss 72 = .ok (.lsub, 1) := by decide +kernel
theorem dX0_turnedMiss_73 : decode cX0_turnedMiss 73 = .ok (.lreturn, 1) := by decide +kernel
set_option maxRecDepth 20000 in
theorem ggX0_firstBeyond_X0_isFarOff : GoodIn wsX0_firstBeyond wsX0_isFarOff := goodIn_r _ [6, 7, 8, 9, 10, 11, 12, 13, 5, 14, 15, 16, 17, 18, 19, 20, 21, 22, 23, 24, 25, 26, 27, 28, 36, 37, 38, 39, 29, 30, 31, 32, 33, 34, 35, 40, 41, 42, 43] (by decide +kernel) (by decide +kernel)
set_option maxRecDepth 20000 in
theorem gX0_firstBeyond_X0_isFarOff : GoodIn wsX0_firstBeyond (wsV RX0 101 RX0 yX0_isFarOff wsX0_isFarOff) := goodIn_app (goodIn_of _ (by decide +kernel)) ggX0_firstBeyond_X0_isFarOff
theorem dX0_firstBeyond_0 : decode cX0_firstBeyond 0 = .ok (.iconst 0, 1) := by decide +kernel
theorem dX0_firstBeyond_1 : decode cX0_firstBeyond 1 = .ok (.istore_n 2, 1) := by decide +kernel
theorem dX0_firstBeyond_2 : decode cX0_firstBeyond 2 = .ok (.iload_n 2, 1) := by decide +kernel
theorem dX0_firstBeyond_3 : decode cX0_firstBeyond 3 = .ok (.bipush 12, 2) := by decide +kernel
theorem dX0_firstBeyond_5 : decode cX0_firstBeyond 5 = .ok (.if_icmp .ge 43, 3) := by decide +kernel
theorem dX0_firstBeyond_8 : decode cX0_firstBeyond 8 = .ok (.aload_n 0, 1) := by decide +kernel
theorem dX0_firstBeyond_9 : decode cX0_firstBeyond 9 = .ok (.getfield 31, 3) := by decide +kernel
theorem dX0_firstBeyond_12 : decode cX0_firstBeyond 12 = .ok (.iload_n 2, 1) := by decide +kernel
theorem dX0_firstBeyond_13 : decode cX0_firstBeyond 13 = .ok (.ishr, 1) := by decide +kernel
theorem dX0_firstBeyond_14 : decode cX0_firstBeyond 14 = .ok (.iconst 1, 1) := by decide +kernel
theorem dX0_firstBeyond_15 : decode cX0_firstBeyond 15 = .ok (.iand, 1) := by decide +kernel
theorem dX0_firstBeyond_16 : decode cX0_firstBeyond 16 = .ok (.iconst 1, 1) := by decide +kernel
theorem dX0_firstBeyond_17 : decode cX0_firstBeyond 17 = .ok (.if_icmp .ne 25, 3) := by decide +kernel
theorem dX0_firstBeyond_20 : decode cX0_firstBeyond 20 = .ok (.aload_n 0, 1) := by decide +kernel
theorem dX0_firstBeyond_21 : decode cX0_firstBeyond 21 = .ok (.iconst 0, 1) := by decide +kernel
theorem dX0_firstBeyond_22 : decode cX0_firstBeyond 22 = .ok (.iload_n 2, 1) := by decide +kernel
theorem dX0_firstBeyond_23 : decode cX0_firstBeyond 23 = .ok (.iload_n 1, 1) := by decide +kernel
theorem dX0_firstBeyond_24 : decode cX0_firstBeyond 24 = .ok (.invokevirtual 101, 3) := by decide +kernel
theorem dX0_firstBeyond_27 : decode cX0_firstBeyond 27 = .ok (.ifCond .ne 13, 3) := by decide +kernel
theorem dX0_firstBeyond_30 : decode cX0_firstBeyond 30 = .ok (.aload_n 0, 1) := by decide +kernel
theorem dX0_firstBeyond_31 : decode cX0_firstBeyond 31 = .ok (.iconst 1, 1) := by decide +kernel
theorem dX0_firstBeyond_32 : decode cX0_firstBeyond 32 = .ok (.iload_n 2, 1) := by decide +kernel
theorem dX0_firstBeyond_33 : decode cX0_firstBeyond 33 = .ok (.iload_n 1, 1) := by decide +kernel
theorem dX0_firstBeyond_34 : decode cX0_firstBeyond 34 = .ok (.invokevirtual 101, 3) := by decide +kernel
theorem dX0_firstBeyond_37 : decode cX0_firstBeyond 37 = .ok (.ifCond .eq 5, 3) := by decide +kernel
theorem dX0_firstBeyond_40 : decode cX0_firstBeyond 40 = .ok (.iload_n 2, 1) := by decide +kernel
theorem dX0_firstBeyond_41 : decode cX0_firstBeyond 41 = .ok (.ireturn, 1) := by decide +kernel
theorem dX0_firstBeyond_42 : decode cX0_firstBeyond 42 = .ok (.iinc 2 1, 3) := by decide +kernel
theorem dX0_firstBeyond_45 : decode cX0_firstBeyond 45 = .ok (.goto (-43), 3) := by decide +kernel
theorem dX0_firstBeyond_48 : decode cX0_firstBeyond 48 = .ok (.bipush (-5), 2) := by decide +kernel
theorem dX0_firstBeyond_50 : decode cX0_firstBeyond 50 = .ok (.ireturn, 1) := by decide +kernel
set_option maxRecDepth 20000 in
theorem ggX0_isFarOff_X0_offAbove : GoodIn wsX0_isFarOff wsX0_offAbove := goodIn_r _ [9, 10, 11, 12, 13, 8, 14, 15, 16, 17, 18, 19, 20, 21, 22, 23, 28, 29, 30, 31, 32, 33, 34, 35, 36, 37, 38, 24, 25, 26, 27] (by decide +kernel) (by decide +kernel)
set_option maxRecDepth 20000 in
theorem gX0_isFarOff_X0_offAbove : GoodIn wsX0_isFarOff (wsV RX0 105 RX0 yX0_offAbove wsX0_offAbove) := goodIn_app (goodIn_of _ (by decide +kernel)) ggX0_isFarOff_X0_offAbove
set_option maxRecDepth 20000 in
theorem ggX0_isFarOff_X0_along : GoodIn wsX0_isFarOff wsX0_along := goodIn_r _ [14, 15, 16, 28, 29, 30, 31, 32, 33, 34] (by decide +kernel) (by decide +kernel)
set_option maxRecDepth 20000 in
theorem gX0_isFarOff_X0_along : GoodIn wsX0_isFarOff (wsV RX0 81 RX0 yX0_along wsX0_along) := goodIn_app (goodIn_of _ (by decide +kernel)) ggX0_isFarOff_X0_along
theorem dX0_isFarOff_0 : decode cX0_isFarOff 0 = .ok (.aload_n 0, 1) := by decide +kernel
theorem dX0_isFarOff_1 : decode cX0_isFarOff 1 = .ok (.iload_n 1, 1) := by decide +kernel
theorem dX0_isFarOff_2 : decode cX0_isFarOff 2 = .ok (.iload_n 2, 1) := by decide +kernel
theorem dX0_isFarOff_3 : decode cX0_isFarOff 3 = .ok (.invokevirtual 105, 3) := by decide +kernel
theorem dX0_isFarOff_6 : decode cX0_isFarOff 6 = .ok (.invokestatic 108, 3) := by decide +kernel
theorem dX0_isFarOff_9 : decode cX0_isFarOff 9 = .ok (.iload_n 3, 1) := by decide +kernel
theorem dX0_isFarOff_10 : decode cX0_isFarOff 10 = .ok (.i2l, 1) := by decide +kernel
theorem dX0_isFarOff_11 : decode cX0_isFarOff 11 = .ok (.aload_n 0, 1) := by decide +kernel
theorem dX0_isFarOff_12 : decode cX0_isFarOff 12 = .ok (.iload_n 1, 1) := by decide +kernel
theorem dX0_isFarOff_13 : decode cX0_isFarOff 13 = .ok (.invokevirtual 81, 3) := by decide +kernel
theorem dX0_isFarOff_16 : decode cX0_isFarOff 16 = .ok (.getfield 85, 3) := by decide +kernel
theorem dX0_isFarOff_19 : decode cX0_isFarOff 19 = .ok (.lmul, 1) := by decide +kernel
theorem dX0_isFarOff_20 : decode cX0_isFarOff 20 = .ok (.lcmp, 1) := by decide +kernel
theorem dX0_isFarOff_21 : decode cX0_isFarOff 21 = .ok (.ifCond .le 7, 3) := by decide +kernel
theorem dX0_isFarOff_24 : decode cX0_isFarOff 24 = .ok (.iconst 1, 1) := by decide +kernel
theorem dX0_isFarOff_25 : decode cX0_isFarOff 25 = .ok (.goto 4, 3) := by decide +kernel
theorem dX0_isFarOff_28 : decode cX0_isFarOff 28 = .ok (.iconst 0, 1) := by decide +kernel
theorem dX0_isFarOff_29 : decode cX0_isFarOff 29 = .ok (.ireturn, 1) := by decide +kernel
theorem dX1_init_0 : decode cX1_init 0 = .ok (.aload_n 0, 1) := by decide +kernel
theorem dX1_init_1 : decode cX1_init 1 = .ok (.invokespecial 3, 3) := by decide +kernel
theorem dX1_init_4 : decode cX1_init 4 = .ok (.aload_n 0, 1) := by decide +kernel
theorem dX1_init_5 : decode cX1_init 5 = .ok (.bipush 6, 2) := by decide +kernel
theorem dX1_init_7 : decode cX1_init 7 = .ok (.bipush 6, 2) := by decide +kernel
theorem dX1_init_9 : decode cX1_init 9 = .ok (.multianewarray 9 2, 4) := by decide +kernel
theorem dX1_init_13 : decode cX1_init 13 = .ok (.putfield 11, 3) := by decide +kernel
theorem dX1_init_16 : decode cX1_init 16 = .ok (.aload_n 0, 1) := by decide +kernel
theorem dX1_init_17 : decode cX1_init 17 = .ok (.bipush 7, 2) := by decide +kernel
theorem dX1_init_19 : decode cX1_init 19 = .ok (.bipush 64, 2) := by decide +kernel
theorem dX1_init_21 : decode cX1_init 21 = .ok (.multianewarray 9 2, 4) := by decide +kernel
theorem dX1_init_25 : decode cX1_init 25 = .ok (.putfield 16, 3) := by decide +kernel
theorem dX1_init_28 : decode cX1_init 28 = .ok (.aload_n 0, 1) := by decide +kernel
theorem dX1_init_29 : decode cX1_init 29 = .ok (.bipush 6, 2) := by decide +kernel
theorem dX1_init_31 : decode cX1_init 31 = .ok (.newarray .int, 2) := by decide +kernel
theorem dX1_init_33 : decode cX1_init 33 = .ok (.putfield 19, 3) := by decide +kernel
theorem dX1_init_36 : decode cX1_init 36 = .ok (.aload_n 0, 1) := by decide +kernel
theorem dX1_init_37 : decode cX1_init 37 = .ok (.iconst 0, 1) := by decide +kernel
theorem dX1_init_38 : decode cX1_init 38 = .ok (.putfield 23, 3) := by decide +kernel
theorem dX1_init_41 : decode cX1_init 41 = .ok (.aload_n 0, 1) := by decide +kernel
theorem dX1_init_42 : decode cX1_init 42 = .ok (.aload_n 1, 1) := by decide +kernel
theorem dX1_init_43 : decode cX1_init 43 = .ok (.putfield 27, 3) := by decide +kernel
theorem dX1_init_46 : decode cX1_init 46 = .ok (.aload_n 0, 1) := by decide +kernel
theorem dX1_init_47 : decode cX1_init 47 = .ok (.aload_n 2, 1) := by decide +kernel
theorem dX1_init_48 : decode cX1_init 48 = .ok (.putfield 31, 3) := by decide +kernel
theorem dX1_init_51 : decode cX1_init 51 = .ok (.aload_n 0, 1) := by decide +kernel
theorem dX1_init_52 : decode cX1_init 52 = .ok (.aload_n 3, 1) := by decide +kernel
theorem dX1_init_53 : decode cX1_init 53 = .ok (.putfield 34, 3) := by decide +kernel
theorem dX1_init_56 : decode cX1_init 56 = .ok (.return_, 1) := by decide +kernel
set_option maxRecDepth 20000 in
theorem ggX1_find_X1_measure : GoodIn wsX1_find wsX1_measure := goodIn_r _ [6, 7, 1, 8, 9, 10, 11, 12, 13, 14, 15, 16, 17, 18, 19, 20, 21, 22, 23, 24, 25, 26, 27, 28, 29, 30, 61, 62, 63, 64, 65, 66, 67, 72, 73, 74, 75, 76, 77, 78, 68, 69, 70, 71, 79, 80, 81, 82] (by decide +kernel) (by decide +kernel)
set_option maxRecDepth 20000 in
theorem gX1_find_X1_measure : GoodIn wsX1_find (wsV RX1 43 RX1 yX1_measure wsX1_measure) := goodIn_app (goodIn_of _ (by decide +kernel)) ggX1_find_X1_measure
set_option maxRecDepth 20000 in
theorem ggX1_find_X1_fillLeast : GoodIn wsX1_find wsX1_fillLeast := goodIn_r _ [34, 8, 35, 1, 36, 37, 38, 5, 39, 40, 41, 11, 42, 43, 44, 45, 46, 13, 47, 48, 49, 50, 61, 62, 63, 64, 65, 66, 67, 68, 69, 70, 71] (by decide +kernel) (by decide +kernel)
set_option maxRecDepth 20000 in
theorem gX1_find_X1_fillLeast : GoodIn wsX1_find (wsV RX1 47 RX1 yX1_fillLeast wsX1_fillLeast) := goodIn_app (goodIn_of _ (by decide +kernel)) ggX1_find_X1_fillLeast
set_option maxRecDepth 20000 in
theorem ggX1_find_X1_give : GoodIn wsX1_find wsX1_give := goodIn_r _ [54, 55, 1, 56, 57, 58, 59, 5, 60, 8, 35, 43, 44, 45, 46, 13, 47, 48, 49, 50, 61, 62, 63, 64, 65, 66, 67, 68, 69, 70, 71] (by decide +kernel) (by decide +kernel)
set_option maxRecDepth 20000 in
theorem gX1_find_X1_give : GoodIn wsX1_find (wsV RX1 50 RX1 yX1_give wsX1_give) := goodIn_app (goodIn_of _ (by decide +kernel)) ggX1_find_X1_give
theorem dX1_find_0 : decode cX1_find 0 = .ok (.iconst 0, 1) := by decide +kernel
theorem dX1_find_1 : decode cX1_find 1 = .ok (.istore_n 2, 1) := by decide +kernel
theorem dX1_find_2 : decode cX1_find 2 = .ok (.iload_n 2, 1) := by decide +kernel
theorem dX1_find_3 : decode cX1_find 3 = .ok (.aload_n 0, 1) := by decide +kernel
theorem dX1_find_4 : decode cX1_find 4 = .ok (.getfield 27, 3) := by decide +kernel
theorem dX1_find_7 : decode cX1_find 7 = .ok (.getfield 38, 3) := by decide +kernel
theorem dX1_find_10 : decode cX1_find 10 = .ok (.if_icmp .ge 14, 3) := by decide +kernel
theorem dX1_find_13 : decode cX1_find 13 = .ok (.aload_n 0, 1) := by decide +kernel
theorem dX1_find_14 : decode cX1_find 14 = .ok (.iload_n 2, 1) := by decide +kernel
theorem dX1_find_15 : decode cX1_find 15 = .ok (.invokevirtual 43, 3) := by decide +kernel
theorem dX1_find_18 : decode cX1_find 18 = .ok (.iinc 2 1, 3) := by decide +kernel
theorem dX1_find_21 : decode cX1_find 21 = .ok (.goto (-19), 3) := by decide +kernel
theorem dX1_find_24 : decode cX1_find 24 = .ok (.aload_n 0, 1) := by decide +kernel
theorem dX1_find_25 : decode cX1_find 25 = .ok (.iload_n 1, 1) := by decide +kernel
theorem dX1_find_26 : decode cX1_find 26 = .ok (.invokevirtual 47, 3) := by decide +kernel
theorem dX1_find_29 : decode cX1_find 29 = .ok (.aload_n 0, 1) := by decide +kernel
theorem dX1_find_30 : decode cX1_find 30 = .ok (.invokevirtual 50, 3) := by decide +kernel
theorem dX1_find_33 : decode cX1_find 33 = .ok (.return_, 1) := by decide +kernel
set_option maxRecDepth 20000 in
theorem ggX1_measure_X6_rounded : GoodIn wsX1_measure wsX6_rounded := goodIn_r _ [12, 13, 14, 15, 16, 17, 10, 18, 19, 20, 21, 22, 23, 24, 25, 44, 45, 46, 47] (by decide +kernel) (by decide +kernel)
set_option maxRecDepth 20000 in
theorem gX1_measure_X6_rounded_n65 : GoodIn wsX1_measure (wsX6_rounded) := ggX1_measure_X6_rounded
theorem dX1_measure_0 : decode cX1_measure 0 = .ok (.aload_n 0, 1) := by decide +kernel
theorem dX1_measure_1 : decode cX1_measure 1 = .ok (.getfield 34, 3) := by decide +kernel
theorem dX1_measure_4 : decode cX1_measure 4 = .ok (.getfield 53, 3) := by decide +kernel
theorem dX1_measure_7 : decode cX1_measure 7 = .ok (.aload_n 0, 1) := by decide +kernel
theorem dX1_measure_8 : decode cX1_measure 8 = .ok (.getfield 27, 3) := by decide +kernel
theorem dX1_measure_11 : decode cX1_measure 11 = .ok (.getfield 59, 3) := by decide +kernel
theorem dX1_measure_14 : decode cX1_measure 14 = .ok (.iload_n 1, 1) := by decide +kernel
theorem dX1_measure_15 : decode cX1_measure 15 = .ok (.iaload, 1) := by decide +kernel
theorem dX1_measure_16 : decode cX1_measure 16 = .ok (.i2l, 1) := by decide +kernel
theorem dX1_measure_17 : decode cX1_measure 17 = .ok (.aload_n 0, 1) := by decide +kernel
theorem dX1_measure_18 : decode cX1_measure 18 = .ok (.getfield 27, 3) := by decide +kernel
theorem dX1_measure_21 : decode cX1_measure 21 = .ok (.getfield 62, 3) := by decide +kernel
theorem dX1_measure_24 : decode cX1_measure 24 = .ok (.iload_n 1, 1) := by decide +kernel
theorem dX1_measure_25 : decode cX1_measure 25 = .ok (.iaload, 1) := by decide +kernel
theorem dX1_measure_26 : decode cX1_measure 26 = .ok (.i2l, 1) := by decide +kernel
theorem dX1_measure_27 : decode cX1_measure 27 = .ok (.invokevirtual 65, 3) := by decide +kernel
theorem dX1_measure_30 : decode cX1_measure 30 = .ok (.lstore_n 2, 1) := by decide +kernel
theorem dX1_measure_31 : decode cX1_measure 31 = .ok (.aload_n 0, 1) := by decide +kernel
theorem dX1_measure_32 : decode cX1_measure 32 = .ok (.getfield 34, 3) := by decide +kernel
theorem dX1_measure_35 : decode cX1_measure 35 = .ok (.getfield 71, 3) := by decide +kernel
theorem dX1_measure_38 : decode cX1_measure 38 = .ok (.aload_n 0, 1) := by decide +kernel
theorem dX1_measure_39 : decode cX1_measure 39 = .ok (.getfield 27, 3) := by decide +kernel
theorem dX1_measure_42 : decode cX1_measure 42 = .ok (.getfield 59, 3) := by decide +kernel
theorem dX1_measure_45 : decode cX1_measure 45 = .ok (.iload_n 1, 1) := by decide +kernel
theorem dX1_measure_46 : decode cX1_measure 46 = .ok (.iaload, 1) := by decide +kernel
theorem dX1_measure_47 : decode cX1_measure 47 = .ok (.i2l, 1) := by decide +kernel
theorem dX1_measure_48 : decode cX1_measure 48 = .ok (.aload_n 0, 1) := by decide +kernel
theorem dX1_measure_49 : decode cX1_measure 49 = .ok (.getfield 27, 3) := by decide +kernel
theorem dX1_measure_52 : decode cX1_measure 52 = .ok (.getfield 62, 3) := by decide +kernel
theorem dX1_measure_55 : decode cX1_measure 55 = .ok (.iload_n 1, 1) := by decide +kernel
theorem dX1_measure_56 : decode cX1_measure 56 = .ok (.iaload, 1) := by decide +kernel
theorem dX1_measure_57 : decode cX1_measure 57 = .ok (.i2l, 1) := by decide +kernel
theorem dX1_measure_58 : decode cX1_measure 58 = .ok (.invokevirtual 65, 3) := by decide +kernel
theorem dX1_measure_61 : decode cX1_measure 61 = .ok (.lstore 4, 2) := by decide +kernel
theorem dX1_measure_63 : decode cX1_measure 63 = .ok (.iconst 0, 1) := by decide +kernel
theorem dX1_measure_64 : decode cX1_measure 64 = .ok (.istore 6, 2) := by decide +kernel
theorem dX1_measure_66 : decode cX1_measure 66 = .ok (.iload 6, 2) := by decide +kernel
theorem dX1_measure_68 : decode cX1_measure 68 = .ok (.aload_n 0, 1) := by decide +kernel
theorem dX1_measure_69 : decode cX1_measure 69 = .ok (.getfield 31, 3) := by decide +kernel
theorem dX1_measure_72 : decode cX1_measure 72 = .ok (.getfield 38, 3) := by decide +kernel
theorem dX1_measure_75 : decode cX1_measure 75 = .ok (.if_icmp .ge 83, 3) := by decide +kernel
theorem dX1_measure_78 : decode cX1_measure 78 = .ok (.lload_n 2, 1) := by decide +kernel
theorem dX1_measure_79 : decode cX1_measure 79 = .ok (.aload_n 0, 1) := by decide +kernel
theorem dX1_measure_80 : decode cX1_measure 80 = .ok (.getfield 31, 3) := by decide +kernel
theorem dX1_measure_83 : decode cX1_measure 83 = .ok (.getfield 59, 3) := by decide +kernel
theorem dX1_measure_86 : decode cX1_measure 86 = .ok (.iload 6, 2) := by decide +kernel
theorem dX1_measure_88 : decode cX1_measure 88 = .ok (.iaload, 1) := by decide +kernel
theorem dX1_measure_89 : decode cX1_measure 89 = .ok (.i2l, 1) := by decide +kernel
theorem dX1_measure_90 : decode cX1_measure 90 = .ok (.lsub, 1) := by decide +kernel
theorem dX1_measure_91 : decode cX1_measure 91 = .ok (.invokestatic 74, 3) := by decide +kernel
theorem dX1_measure_94 : decode cX1_measure 94 = .ok (.lload 4, 2) := by decide +kernel
theorem dX1_measure_96 : decode cX1_measure 96 = .ok (.aload_n 0, 1) := by decide +kernel
theorem dX1_measure_97 : decode cX1_measure 97 = .ok (.getfield 31, 3) := by decide +kernel
theorem dX1_measure_100 : decode cX1_measure 100 = .ok (.getfield 62, 3) := by decide +kernel
theorem dX1_measure_103 : decode cX1_measure 103 = .ok (.iload 6, 2) := by decide +kernel
theorem dX1_measure_105 : decode cX1_measure 105 = .ok (.iaload, 1) := by decide +kernel
theorem dX1_measure_106 : decode cX1_measure 106 = .ok (.i2l, 1) := by decide +kernel
theorem dX1_measure_107 : decode cX1_measure 107 = .ok (.lsub, 1) := by decide +kernel
theorem dX1_measure_108 : decode cX1_measure 108 = .ok (.invokestatic 74, 3) := by decide +kernel
theorem dX1_measure_111 : decode cX1_measure 111 = .ok (.ladd, 1) := by decide +kernel
theorem dX1_measure_112 : decode cX1_measure 112 = .ok (.lstore 7, 2) := by decide +kernel
theorem dX1_measure_114 : decode cX1_measure 114 = .ok (.aload_n 0, 1) := by decide +kernel
theorem dX1_measure_115 : decode cX1_measure 115 = .ok (.getfield 11, 3) := by decide +kernel
theorem dX1_measure_118 : decode cX1_measure 118 = .ok (.iload_n 1, 1) := by decide +kernel
theorem dX1_measure_119 : decode cX1_measure 119 = .ok (.aaload, 1) := by decide +kernel
theorem dX1_measure_120 : decode cX1_measure 120 = .ok (.iload 6, 2) := by decide +kernel
theorem dX1_measure_122 : decode cX1_measure 122 = .ok (.aload_n 0, 1) := by decide +kernel
theorem dX1_measure_123 : decode cX1_measure 123 = .ok (.getfield 27, 3) := by decide +kernel
theorem dX1_measure_126 : decode cX1_measure 126 = .ok (.getfield 80, 3) := by decide +kernel
theorem dX1_measure_129 : decode cX1_measure 129 = .ok (.iload_n 1, 1) := by decide +kernel
theorem dX1_measure_130 : decode cX1_measure 130 = .ok (.iaload, 1) := by decide +kernel
theorem dX1_measure_131 : decode cX1_measure 131 = .ok (.aload_n 0, 1) := by decide +kernel
theorem dX1_measure_132 : decode cX1_measure 132 = .ok (.getfield 31, 3) := by decide +kernel
theorem dX1_measure_135 : decode cX1_measure 135 = .ok (.getfield 80, 3) := by decide +kernel
theorem dX1_measure_138 : decode cX1_measure 138 = .ok (.iload 6, 2) := by decide +kernel
theorem dX1_measure_140 : decode cX1_measure 140 = .ok (.iaload, 1) := by decide +kernel
theorem dX1_measure_141 : decode cX1_measure 141 = .ok (.if_icmp .ne 9, 3) := by decide +kernel
theorem dX1_measure_144 : decode cX1_measure 144 = .ok (.lload 7, 2) := by decide +kernel
theorem dX1_measure_146 : decode cX1_measure 146 = .ok (.l2i, 1) := by decide +kernel
theorem dX1_measure_147 : decode cX1_measure 147 = .ok (.goto 4, 3) := by decide +kernel
theorem dX1_measure_150 : decode cX1_measure 150 = .ok (.iconst (-1), 1) := by decide +kernel
theorem dX1_measure_151 : decode cX1_measure 151 = .ok (.iastore, 1) := by decide +kernel
theorem dX1_measure_152 : decode cX1_measure 152 = .ok (.iinc 6 1, 3) := by decide +kernel
theorem dX1_measure_155 : decode cX1_measure 155 = .ok (.goto (-89), 3) := by decide +kernel
theorem dX1_measure_158 : decode cX1_measure 158 = .ok (.return_, 1) := by decide +kernel
set_option maxRecDepth 20000 in
theorem ggX1_fillLeast_X1_leastFrom : GoodIn wsX1_fillLeast wsX1_leastFrom := goodIn_r _ [8, 2, 1, 9, 10, 11, 12, 13, 14, 15, 7, 16, 17, 18, 19, 20, 21, 22, 23, 24, 25, 26, 27, 28, 29, 30, 31, 32] (by decide +kernel) (by decide +kernel)
set_option maxRecDepth 20000 in
theorem gX1_fillLeast_X1_leastFrom : GoodIn wsX1_fillLeast (wsV RX1 83 RX1 yX1_leastFrom wsX1_leastFrom) := goodIn_app (goodIn_of _ (by decide +kernel)) ggX1_fillLeast_X1_leastFrom
theorem dX1_fillLeast_0 : decode cX1_fillLeast 0 = .ok (.iconst 1, 1) := by decide +kernel
theorem dX1_fillLeast_1 : decode cX1_fillLeast 1 = .ok (.aload_n 0, 1) := by decide +kernel
theorem dX1_fillLeast_2 : decode cX1_fillLeast 2 = .ok (.getfield 31, 3) := by decide +kernel
theorem dX1_fillLeast_5 : decode cX1_fillLeast 5 = .ok (.getfield 38, 3) := by decide +kernel
theorem dX1_fillLeast_8 : decode cX1_fillLeast 8 = .ok (.ishl, 1) := by decide +kernel
theorem dX1_fillLeast_9 : decode cX1_fillLeast 9 = .ok (.istore_n 2, 1) := by decide +kernel
theorem dX1_fillLeast_10 : decode cX1_fillLeast 10 = .ok (.iconst 0, 1) := by decide +kernel
theorem dX1_fillLeast_11 : decode cX1_fillLeast 11 = .ok (.istore_n 3, 1) := by decide +kernel
theorem dX1_fillLeast_12 : decode cX1_fillLeast 12 = .ok (.iload_n 3, 1) := by decide +kernel
theorem dX1_fillLeast_13 : decode cX1_fillLeast 13 = .ok (.iload_n 2, 1) := by decide +kernel
theorem dX1_fillLeast_14 : decode cX1_fillLeast 14 = .ok (.if_icmp .ge 24, 3) := by decide +kernel
theorem dX1_fillLeast_17 : decode cX1_fillLeast 17 = .ok (.aload_n 0, 1) := by decide +kernel
theorem dX1_fillLeast_18 : decode cX1_fillLeast 18 = .ok (.getfield 16, 3) := by decide +kernel
theorem dX1_fillLeast_21 : decode cX1_fillLeast 21 = .ok (.aload_n 0, 1) := by decide +kernel
theorem dX1_fillLeast_22 : decode cX1_fillLeast 22 = .ok (.getfield 27, 3) := by decide +kernel
theorem dX1_fillLeast_25 : decode cX1_fillLeast 25 = .ok (.getfield 38, 3) := by decide +kernel
theorem dX1_fillLeast_28 : decode cX1_fillLeast 28 = .ok (.aaload, 1) := by decide +kernel
theorem dX1_fillLeast_29 : decode cX1_fillLeast 29 = .ok (.iload_n 3, 1) := by decide +kernel
theorem dX1_fillLeast_30 : decode cX1_fillLeast 30 = .ok (.iconst 0, 1) := by decide +kernel
theorem dX1_fillLeast_31 : decode cX1_fillLeast 31 = .ok (.iastore, 1) := by decide +kernel
theorem dX1_fillLeast_32 : decode cX1_fillLeast 32 = .ok (.iinc 3 1, 3) := by decide +kernel
theorem dX1_fillLeast_35 : decode cX1_fillLeast 35 = .ok (.goto (-23), 3) := by decide +kernel
theorem dX1_fillLeast_38 : decode cX1_fillLeast 38 = .ok (.aload_n 0, 1) := by decide +kernel
theorem dX1_fillLeast_39 : decode cX1_fillLeast 39 = .ok (.getfield 27, 3) := by decide +kernel
theorem dX1_fillLeast_42 : decode cX1_fillLeast 42 = .ok (.getfield 38, 3) := by decide +kernel
theorem dX1_fillLeast_45 : decode cX1_fillLeast 45 = .ok (.iconst 1, 1) := by decide +kernel
theorem dX1_fillLeast_46 : decode cX1_fillLeast 46 = .ok (.isub, 1) := by decide +kernel
theorem dX1_fillLeast_47 : decode cX1_fillLeast 47 = .ok (.istore_n 3, 1) := by decide +kernel
theorem dX1_fillLeast_48 : decode cX1_fillLeast 48 = .ok (.iload_n 3, 1) := by decide +kernel
theorem dX1_fillLeast_49 : decode cX1_fillLeast 49 = .ok (.ifCond .lt 41, 3) := by decide +kernel
theorem dX1_fillLeast_52 : decode cX1_fillLeast 52 = .ok (.iconst 0, 1) := by decide +kernel
theorem dX1_fillLeast_53 : decode cX1_fillLeast 53 = .ok (.istore 4, 2) := by decide +kernel
theorem dX1_fillLeast_55 : decode cX1_fillLeast 55 = .ok (.iload 4, 2) := by decide +kernel
theorem dX1_fillLeast_57 : decode cX1_fillLeast 57 = .ok (.iload_n 2, 1) := by decide +kernel
theorem dX1_fillLeast_58 : decode cX1_fillLeast 58 = .ok (.if_icmp .ge 26, 3) := by decide +kernel
theorem dX1_fillLeast_61 : decode cX1_fillLeast 61 = .ok (.aload_n 0, 1) := by decide +kernel
theorem dX1_fillLeast_62 : decode cX1_fillLeast 62 = .ok (.getfield 16, 3) := by decide +kernel
theorem dX1_fillLeast_65 : decode cX1_fillLeast 65 = .ok (.iload_n 3, 1) := by decide +kernel
theorem dX1_fillLeast_66 : decode cX1_fillLeast 66 = .ok (.aaload, 1) := by decide +kernel
theorem dX1_fillLeast_67 : decode cX1_fillLeast 67 = .ok (.iload 4, 2) := by decide +kernel
theorem dX1_fillLeast_69 : decode cX1_fillLeast 69 = .ok (.aload_n 0, 1) := by decide +kernel
theorem dX1_fillLeast_70 : decode cX1_fillLeast 70 = .ok (.iload_n 3, 1) := by decide +kernel
theorem dX1_fillLeast_71 : decode cX1_fillLeast 71 = .ok (.iload 4, 2) := by decide +kernel
theorem dX1_fillLeast_73 : decode cX1_fillLeast 73 = .ok (.iload_n 1, 1) := by decide +kernel
theorem dX1_fillLeast_74 : decode cX1_fillLeast 74 = .ok (.invokevirtual 83, 3) := by decide +kernel
theorem dX1_fillLeast_77 : decode cX1_fillLeast 77 = .ok (.iastore, 1) := by decide +kernel
theorem dX1_fillLeast_78 : decode cX1_fillLeast 78 = .ok (.iinc 4 1, 3) := by decide +kernel
theorem dX1_fillLeast_81 : decode cX1_fillLeast 81 = .ok (.goto (-26), 3) := by decide +kernel
theorem dX1_fillLeast_84 : decode cX1_fillLeast 84 = .ok (.iinc 3 (-1), 3) := by decide +kernel
theorem dX1_fillLeast_87 : decode cX1_fillLeast 87 = .ok (.goto (-39), 3) := by decide +kernel
theorem dX1_fillLeast_90 : decode cX1_fillLeast 90 = .ok (.return_, 1) := by decide +kernel
set_option maxRecDepth 20000 in
theorem ggX1_leastFrom_X1_isFree : GoodIn wsX1_leastFrom wsX1_isFree := goodIn_r _ [11, 12, 17, 18, 19, 20, 21, 22, 23] (by decide +kernel) (by decide +kernel)
set_option maxRecDepth 20000 in
theorem gX1_leastFrom_X1_isFree : GoodIn wsX1_leastFrom (wsV RX1 87 RX1 yX1_isFree wsX1_isFree) := goodIn_app (goodIn_of _ (by decide +kernel)) ggX1_leastFrom_X1_isFree
set_option maxRecDepth 20000 in
theorem ggX1_leastFrom_X1_costWith : GoodIn wsX1_leastFrom wsX1_costWith := goodIn_r _ [16, 12, 1, 17, 18, 19, 20, 21, 22, 23] (by decide +kernel) (by decide +kernel)
set_option maxRecDepth 20000 in
theorem gX1_leastFrom_X1_costWith : GoodIn wsX1_leastFrom (wsV RX1 91 RX1 yX1_costWith wsX1_costWith) := goodIn_app (goodIn_of _ (by decide +kernel)) ggX1_leastFrom_X1_costWith
theorem dX1_leastFrom_0 : decode cX1_leastFrom 0 = .ok (.iload_n 3, 1) := by decide +kernel
theorem dX1_leastFrom_1 : decode cX1_leastFrom 1 = .ok (.aload_n 0, 1) := by decide +kernel
theorem dX1_leastFrom_2 : decode cX1_leastFrom 2 = .ok (.getfield 16, 3) := by decide +kernel
theorem dX1_leastFrom_5 : decode cX1_leastFrom 5 = .ok (.iload_n 1, 1) := by decide +kernel
theorem dX1_leastFrom_6 : decode cX1_leastFrom 6 = .ok (.iconst 1, 1) := by decide +kernel
theorem dX1_leastFrom_7 : decode cX1_leastFrom 7 = .ok (.iadd, 1) := by decide +kernel
theorem dX1_leastFrom_8 : decode cX1_leastFrom 8 = .ok (.aaload, 1) := by decide +kernel
theorem dX1_leastFrom_9 : decode cX1_leastFrom 9 = .ok (.iload_n 2, 1) := by decide +kernel
theorem dX1_leastFrom_10 : decode cX1_leastFrom 10 = .ok (.iaload, 1) := by decide +kernel
theorem dX1_leastFrom_11 : decode cX1_leastFrom 11 = .ok (.iadd, 1) := by decide +kernel
theorem dX1_leastFrom_12 : decode cX1_leastFrom 12 = .ok (.istore 4, 2) := by decide +kernel
theorem dX1_leastFrom_14 : decode cX1_leastFrom 14 = .ok (.iconst 0, 1) := by decide +kernel
theorem dX1_leastFrom_15 : decode cX1_leastFrom 15 = .ok (.istore 5, 2) := by decide +kernel
theorem dX1_leastFrom_17 : decode cX1_leastFrom 17 = .ok (.iload 5, 2) := by decide +kernel
theorem dX1_leastFrom_19 : decode cX1_leastFrom 19 = .ok (.aload_n 0, 1) := by decide +kernel
theorem dX1_leastFrom_20 : decode cX1_leastFrom 20 = .ok (.getfield 31, 3) := by decide +kernel
theorem dX1_leastFrom_23 : decode cX1_leastFrom 23 = .ok (.getfield 38, 3) := by decide +kernel
theorem dX1_leastFrom_26 : decode cX1_leastFrom 26 = .ok (.if_icmp .ge 35, 3) := by decide +kernel
theorem dX1_leastFrom_29 : decode cX1_leastFrom 29 = .ok (.aload_n 0, 1) := by decide +kernel
theorem dX1_leastFrom_30 : decode cX1_leastFrom 30 = .ok (.iload_n 1, 1) := by decide +kernel
theorem dX1_leastFrom_31 : decode cX1_leastFrom 31 = .ok (.iload 5, 2) := by decide +kernel
theorem dX1_leastFrom_33 : decode cX1_leastFrom 33 = .ok (.iload_n 2, 1) := by decide +kernel
theorem dX1_leastFrom_34 : decode cX1_leastFrom 34 = .ok (.invokevirtual 87, 3) := by decide +kernel
theorem dX1_leastFrom_37 : decode cX1_leastFrom 37 = .ok (.ifCond .eq 18, 3) := by decide +kernel
theorem dX1_leastFrom_40 : decode cX1_leastFrom 40 = .ok (.iload 4, 2) := by decide +kernel
theorem dX1_leastFrom_42 : decode cX1_leastFrom 42 = .ok (.aload_n 0, 1) := by decide +kernel
theorem dX1_leastFrom_43 : decode cX1_leastFrom 43 = .ok (.iload_n 1, 1) := by decide +kernel
theorem dX1_leastFrom_44 : decode cX1_leastFrom 44 = .ok (.iload 5, 2) := by decide +kernel
theorem dX1_leastFrom_46 : decode cX1_leastFrom 46 = .ok (.iload_n 2, 1) := by decide +kernel
theorem dX1_leastFrom_47 : decode cX1_leastFrom 47 = .ok (.invokevirtual 91, 3) := by decide +kernel
theorem dX1_leastFrom_50 : decode cX1_leastFrom 50 = .ok (.invokestatic 94, 3) := by decide +kernel
theorem dX1_leastFrom_53 : decode cX1_leastFrom 53 = .ok (.istore 4, 2) := by decide +kernel
theorem dX1_leastFrom_55 : decode cX1_leastFrom 55 = .ok (.iinc 5 1, 3) := by decide +kernel
theorem dX1_leastFrom_58 : decode cX1_leastFrom 58 = .ok (.goto (-41), 3) := by decide +kernel
theorem dX1_leastFrom_61 : decode cX1_leastFrom 61 = .ok (.iload 4, 2) := by decide +kernel
theorem dX1_leastFrom_63 : decode cX1_leastFrom 63 = .ok (.ireturn, 1) := by decide +kernel
theorem dX1_isFree_0 : decode cX1_isFree 0 = .ok (.iload_n 3, 1) := by decide +kernel
theorem dX1_isFree_1 : decode cX1_isFree 1 = .ok (.iload_n 2, 1) := by decide +kernel
theorem dX1_isFree_2 : decode cX1_isFree 2 = .ok (.ishr, 1) := by decide +kernel
theorem dX1_isFree_3 : decode cX1_isFree 3 = .ok (.iconst 1, 1) := by decide +kernel
theorem dX1_isFree_4 : decode cX1_isFree 4 = .ok (.iand, 1) := by decide +kernel
theorem dX1_isFree_5 : decode cX1_isFree 5 = .ok (.ifCond .ne 19, 3) := by decide +kernel
theorem dX1_isFree_8 : decode cX1_isFree 8 = .ok (.aload_n 0, 1) := by decide +kernel
theorem dX1_isFree_9 : decode cX1_isFree 9 = .ok (.getfield 11, 3) := by decide +kernel
theorem dX1_isFree_12 : decode cX1_isFree 12 = .ok (.iload_n 1, 1) := by decide +kernel
theorem dX1_isFree_13 : decode cX1_isFree 13 = .ok (.aaload, 1) := by decide +kernel
theorem dX1_isFree_14 : decode cX1_isFree 14 = .ok (.iload_n 2, 1) := by decide +kernel
theorem dX1_isFree_15 : decode cX1_isFree 15 = .ok (.iaload, 1) := by decide +kernel
theorem dX1_isFree_16 : decode cX1_isFree 16 = .ok (.iconst (-1), 1) := by decide +kernel
theorem dX1_isFree_17 : decode cX1_isFree 17 = .ok (.if_icmp .eq 7, 3) := by decide +kernel
theorem dX1_isFree_20 : decode cX1_isFree 20 = .ok (.iconst 1, 1) := by decide +kernel
theorem dX1_isFree_21 : decode cX1_isFree 21 = .ok (.goto 4, 3) := by decide +kernel
theorem dX1_isFree_24 : decode cX1_isFree 24 = .ok (.iconst 0, 1) := by decide +kernel
theorem dX1_isFree_25 : decode cX1_isFree 25 = .ok (.ireturn, 1) := by decide +kernel
theorem dX1_costWith_0 : decode cX1_costWith 0 = .ok (.aload_n 0, 1) := by decide +kernel
theorem dX1_costWith_1 : decode cX1_costWith 1 = .ok (.getfield 11, 3) := by decide +kernel
theorem dX1_costWith_4 : decode cX1_costWith 4 = .ok (.iload_n 1, 1) := by decide +kernel
theorem dX1_costWith_5 : decode cX1_costWith 5 = .ok (.aaload, 1) := by decide +kernel
theorem dX1_costWith_6 : decode cX1_costWith 6 = .ok (.iload_n 2, 1) := by decide +kernel
theorem dX1_costWith_7 : decode cX1_costWith 7 = .ok (.iaload, 1) := by decide +kernel
theorem dX1_costWith_8 : decode cX1_costWith 8 = .ok (.aload_n 0, 1) := by decide +kernel
theorem dX1_costWith_9 : decode cX1_costWith 9 = .ok (.getfield 16, 3) := by decide +kernel
theorem dX1_costWith_12 : decode cX1_costWith 12 = .ok (.iload_n 1, 1) := by decide +kernel
theorem dX1_costWith_13 : decode cX1_costWith 13 = .ok (.iconst 1, 1) := by decide +kernel
theorem dX1_costWith_14 : decode cX1_costWith 14 = .ok (.iadd, 1) := by decide +kernel
theorem dX1_costWith_15 : decode cX1_costWith 15 = .ok (.aaload, 1) := by decide +kernel
theorem dX1_costWith_16 : decode cX1_costWith 16 = .ok (.iload_n 3, 1) := by decide +kernel
theorem dX1_costWith_17 : decode cX1_costWith 17 = .ok (.iconst 1, 1) := by decide +kernel
theorem dX1_costWith_18 : decode cX1_costWith 18 = .ok (.iload_n 2, 1) := by decide +kernel
theorem dX1_costWith_19 : decode cX1_costWith 19 = .ok (.ishl, 1) := by decide +kernel
theorem dX1_costWith_20 : decode cX1_costWith 20 = .ok (.ior, 1) := by decide +kernel
theorem dX1_costWith_21 : decode cX1_costWith 21 = .ok (.iaload, 1) := by decide +kernel
theorem dX1_costWith_22 : decode cX1_costWith 22 = .ok (.iadd, 1) := by decide +kernel
theorem dX1_costWith_23 : decode cX1_costWith 23 = .ok (.ireturn, 1) := by decide +kernel
set_option maxRecDepth 20000 in
theorem ggX1_give_X1_firstBest : GoodIn wsX1_give wsX1_firstBest := goodIn_r _ [8, 9, 1, 10, 11, 12, 13, 7, 14, 15, 16, 17, 18, 19, 20, 21, 22, 23, 24, 25, 26, 27, 28, 29, 30] (by decide +kernel) (by decide +kernel)
set_option maxRecDepth 20000 in
theorem gX1_give_X1_firstBest : GoodIn wsX1_give (wsV RX1 98 RX1 yX1_firstBest wsX1_firstBest) := goodIn_app (goodIn_of _ (by decide +kernel)) ggX1_give_X1_firstBest
theorem dX1_give_0 : decode cX1_give 0 = .ok (.aload_n 0, 1) := by decide +kernel
theorem dX1_give_1 : decode cX1_give 1 = .ok (.iconst 0, 1) := by decide +kernel
theorem dX1_give_2 : decode cX1_give 2 = .ok (.putfield 23, 3) := by decide +kernel
theorem dX1_give_5 : decode cX1_give 5 = .ok (.iconst 0, 1) := by decide +kernel
theorem dX1_give_6 : decode cX1_give 6 = .ok (.istore_n 1, 1) := by decide +kernel
theorem dX1_give_7 : decode cX1_give 7 = .ok (.iload_n 1, 1) := by decide +kernel
theorem dX1_give_8 : decode cX1_give 8 = .ok (.aload_n 0, 1) := by decide +kernel
theorem dX1_give_9 : decode cX1_give 9 = .ok (.getfield 27, 3) := by decide +kernel
theorem dX1_give_12 : decode cX1_give 12 = .ok (.getfield 38, 3) := by decide +kernel
theorem dX1_give_15 : decode cX1_give 15 = .ok (.if_icmp .ge 48, 3) := by decide +kernel
theorem dX1_give_18 : decode cX1_give 18 = .ok (.aload_n 0, 1) := by decide +kernel
theorem dX1_give_19 : decode cX1_give 19 = .ok (.getfield 19, 3) := by decide +kernel
theorem dX1_give_22 : decode cX1_give 22 = .ok (.iload_n 1, 1) := by decide +kernel
theorem dX1_give_23 : decode cX1_give 23 = .ok (.aload_n 0, 1) := by decide +kernel
theorem dX1_give_24 : decode cX1_give 24 = .ok (.iload_n 1, 1) := by decide +kernel
theorem dX1_give_25 : decode cX1_give 25 = .ok (.invokevirtual 98, 3) := by decide +kernel
theorem dX1_give_28 : decode cX1_give 28 = .ok (.iastore, 1) := by decide +kernel
theorem dX1_give_29 : decode cX1_give 29 = .ok (.aload_n 0, 1) := by decide +kernel
theorem dX1_give_30 : decode cX1_give 30 = .ok (.getfield 19, 3) := by decide +kernel
theorem dX1_give_33 : decode cX1_give 33 = .ok (.iload_n 1, 1) := by decide +kernel
theorem dX1_give_34 : decode cX1_give 34 = .ok (.iaload, 1) := by decide +kernel
theorem dX1_give_35 : decode cX1_give 35 = .ok (.bipush (-5), 2) := by decide +kernel
theorem dX1_give_37 : decode cX1_give 37 = .ok (.if_icmp .eq 20, 3) := by decide +kernel
theorem dX1_give_40 : decode cX1_give 40 = .ok (.aload_n 0, 1) := by decide +kernel
theorem dX1_give_41 : decode cX1_give 41 = .ok (.dup, 1) := by decide +kernel
theorem dX1_give_42 : decode cX1_give 42 = .ok (.getfield 23, 3) := by decide +kernel
theorem dX1_give_45 : decode cX1_give 45 = .ok (.iconst 1, 1) := by decide +kernel
theorem dX1_give_46 : decode cX1_give 46 = .ok (.aload_n 0, 1) := by decide +kernel
theorem dX1_give_47 : decode cX1_give 47 = .ok (.getfield 19, 3) := by decide +kernel
theorem dX1_give_50 : decode cX1_give 50 = .ok (.iload_n 1, 1) := by decide +kernel
theorem dX1_give_51 : decode cX1_give 51 = .ok (.iaload, 1) := by decide +kernel
theorem dX1_give_52 : decode cX1_give 52 = .ok (.ishl, 1) := by decide +kernel
theorem dX1_give_53 : decode cX1_give 53 = .ok (.ior, 1) := by decide +kernel
theorem dX1_give_54 : decode cX1_give 54 = .ok (.putfield 23, 3) := by decide +kernel
theorem dX1_give_57 : decode cX1_give 57 = .ok (.iinc 1 1, 3) := by decide +kernel
theorem dX1_give_60 : decode cX1_give 60 = .ok (.goto (-53), 3) := by decide +kernel
theorem dX1_give_63 : decode cX1_give 63 = .ok (.return_, 1) := by decide +kernel
set_option maxRecDepth 20000 in
theorem ggX1_firstBest_X1_isFree : GoodIn wsX1_firstBest wsX1_isFree := goodIn_r _ [8, 9, 14, 15, 16, 17, 18, 19, 20] (by decide +kernel) (by decide +kernel)
set_option maxRecDepth 20000 in
theorem gX1_firstBest_X1_isFree : GoodIn wsX1_firstBest (wsV RX1 87 RX1 yX1_isFree wsX1_isFree) := goodIn_app (goodIn_of _ (by decide +kernel)) ggX1_firstBest_X1_isFree
set_option maxRecDepth 20000 in
theorem ggX1_firstBest_X1_costWith : GoodIn wsX1_firstBest wsX1_costWith := goodIn_r _ [13, 9, 3, 14, 15, 16, 17, 18, 19, 20] (by decide +kernel) (by decide +kernel)
set_option maxRecDepth 20000 in
theorem gX1_firstBest_X1_costWith : GoodIn wsX1_firstBest (wsV RX1 91 RX1 yX1_costWith wsX1_costWith) := goodIn_app (goodIn_of _ (by decide +kernel)) ggX1_firstBest_X1_costWith
theorem dX1_firstBest_0 : decode cX1_firstBest 0 = .ok (.iconst 0, 1) := by decide +kernel
theorem dX1_firstBest_1 : decode cX1_firstBest 1 = .ok (.istore_n 2, 1) := by decide +kernel
theorem dX1_firstBest_2 : decode cX1_firstBest 2 = .ok (.iload_n 2, 1) := by decide +kernel
theorem dX1_firstBest_3 : decode cX1_firstBest 3 = .ok (.aload_n 0, 1) := by decide +kernel
theorem dX1_firstBest_4 : decode cX1_firstBest 4 = .ok (.getfield 31, 3) := by decide +kernel
theorem dX1_firstBest_7 : decode cX1_firstBest 7 = .ok (.getfield 38, 3) := by decide +kernel
theorem dX1_firstBest_10 : decode cX1_firstBest 10 = .ok (.if_icmp .ge 48, 3) := by decide +kernel
theorem dX1_firstBest_13 : decode cX1_firstBest 13 = .ok (.aload_n 0, 1) := by decide +kernel
theorem dX1_firstBest_14 : decode cX1_firstBest 14 = .ok (.iload_n 1, 1) := by decide +kernel
theorem dX1_firstBest_15 : decode cX1_firstBest 15 = .ok (.iload_n 2, 1) := by decide +kernel
theorem dX1_firstBest_16 : decode cX1_firstBest 16 = .ok (.aload_n 0, 1) := by decide +kernel
theorem dX1_firstBest_17 : decode cX1_firstBest 17 = .ok (.getfield 23, 3) := by decide +kernel
theorem dX1_firstBest_20 : decode cX1_firstBest 20 = .ok (.invokevirtual 87, 3) := by decide +kernel
theorem dX1_firstBest_23 : decode cX1_firstBest 23 = .ok (.ifCond .eq 29, 3) := by decide +kernel
theorem dX1_firstBest_26 : decode cX1_firstBest 26 = .ok (.aload_n 0, 1) := by decide +kernel
theorem dX1_firstBest_27 : decode cX1_firstBest 27 = .ok (.iload_n 1, 1) := by decide +kernel
theorem dX1_firstBest_28 : decode cX1_firstBest 28 = .ok (.iload_n 2, 1) := by decide +kernel
theorem dX1_firstBest_29 : decode cX1_firstBest 29 = .ok (.aload_n 0, 1) := by decide +kernel
theorem dX1_firstBest_30 : decode cX1_firstBest 30 = .ok (.getfield 23, 3) := by decide +kernel
theorem dX1_firstBest_33 : decode cX1_firstBest 33 = .ok (.invokevirtual 91, 3) := by decide +kernel
theorem dX1_firstBest_36 : decode cX1_firstBest 36 = .ok (.aload_n 0, 1) := by decide +kernel
theorem dX1_firstBest_37 : decode cX1_firstBest 37 = .ok (.getfield 16, 3) := by decide +kernel
theorem dX1_firstBest_40 : decode cX1_firstBest 40 = .ok (.iload_n 1, 1) := by decide +kernel
theorem dX1_firstBest_41 : decode cX1_firstBest 41 = .ok (.aaload, 1) := by decide +kernel
theorem dX1_firstBest_42 : decode cX1_firstBest 42 = .ok (.aload_n 0, 1) := by decide +kernel
theorem dX1_firstBest_43 : decode cX1_firstBest 43 = .ok (.getfield 23, 3) := by decide +kernel
theorem dX1_firstBest_46 : decode cX1_firstBest 46 = .ok (.iaload, 1) := by decide +kernel
theorem dX1_firstBest_47 : decode cX1_firstBest 47 = .ok (.if_icmp .ne 5, 3) := by decide +kernel
theorem dX1_firstBest_50 : decode cX1_firstBest 50 = .ok (.iload_n 2, 1) := by decide +kernel
theorem dX1_firstBest_51 : decode cX1_firstBest 51 = .ok (.ireturn, 1) := by decide +kernel
theorem dX1_firstBest_52 : decode cX1_firstBest 52 = .ok (.iinc 2 1, 3) := by decide +kernel
theorem dX1_firstBest_55 : decode cX1_firstBest 55 = .ok (.goto (-53), 3) := by decide +kernel
theorem dX1_firstBest_58 : decode cX1_firstBest 58 = .ok (.bipush (-5), 2) := by decide +kernel
theorem dX1_firstBest_60 : decode cX1_firstBest 60 = .ok (.ireturn, 1) := by decide +kernel
theorem dX1_leastCost_0 : decode cX1_leastCost 0 = .ok (.aload_n 0, 1) := by decide +kernel
theorem dX1_leastCost_1 : decode cX1_leastCost 1 = .ok (.getfield 16, 3) := by decide +kernel
theorem dX1_leastCost_4 : decode cX1_leastCost 4 = .ok (.iconst 0, 1) := by decide +kernel
theorem dX1_leastCost_5 : decode cX1_leastCost 5 = .ok (.aaload, 1) := by decide +kernel
theorem dX1_leastCost_6 : decode cX1_leastCost 6 = .ok (.iconst 0, 1) := by decide +kernel
theorem dX1_leastCost_7 : decode cX1_leastCost 7 = .ok (.iaload, 1) := by decide +kernel
theorem dX1_leastCost_8 : decode cX1_leastCost 8 = .ok (.ireturn, 1) := by decide +kernel
theorem dX1_firstUnused_0 : decode cX1_firstUnused 0 = .ok (.iconst 0, 1) := by decide +kernel
theorem dX1_firstUnused_1 : decode cX1_firstUnused 1 = .ok (.istore_n 1, 1) := by decide +kernel
theorem dX1_firstUnused_2 : decode cX1_firstUnused 2 = .ok (.iload_n 1, 1) := by decide +kernel
theorem dX1_firstUnused_3 : decode cX1_firstUnused 3 = .ok (.aload_n 0, 1) := by decide +kernel
theorem dX1_firstUnused_4 : decode cX1_firstUnused 4 = .ok (.getfield 31, 3) := by decide +kernel
theorem dX1_firstUnused_7 : decode cX1_firstUnused 7 = .ok (.getfield 38, 3) := by decide +kernel
theorem dX1_firstUnused_10 : decode cX1_firstUnused 10 = .ok (.if_icmp .ge 22, 3) := by decide +kernel
theorem dX1_firstUnused_13 : decode cX1_firstUnused 13 = .ok (.aload_n 0, 1) := by decide +kernel
theorem dX1_firstUnused_14 : decode cX1_firstUnused 14 = .ok (.getfield 23, 3) := by decide +kernel
theorem dX1_firstUnused_17 : decode cX1_firstUnused 17 = .ok (.iload_n 1, 1) := by decide +kernel
theorem dX1_firstUnused_18 : decode cX1_firstUnused 18 = .ok (.ishr, 1) := by decide +kernel
theorem dX1_firstUnused_19 : decode cX1_firstUnused 19 = .ok (.iconst 1, 1) := by decide +kernel
theorem dX1_firstUnused_20 : decode cX1_firstUnused 20 = .ok (.iand, 1) := by decide +kernel
theorem dX1_firstUnused_21 : decode cX1_firstUnused 21 = .ok (.ifCond .ne 5, 3) := by decide +kernel
theorem dX1_firstUnused_24 : decode cX1_firstUnused 24 = .ok (.iload_n 1, 1) := by decide +kernel
theorem dX1_firstUnused_25 : decode cX1_firstUnused 25 = .ok (.ireturn, 1) := by decide +kernel
theorem dX1_firstUnused_26 : decode cX1_firstUnused 26 = .ok (.iinc 1 1, 3) := by decide +kernel
theorem dX1_firstUnused_29 : decode cX1_firstUnused 29 = .ok (.goto (-27), 3) := by decide +kernel
theorem dX1_firstUnused_32 : decode cX1_firstUnused 32 = .ok (.bipush (-5), 2) := by decide +kernel
theorem dX1_firstUnused_34 : decode cX1_firstUnused 34 = .ok (.ireturn, 1) := by decide +kernel
theorem dX2_init_0 : decode cX2_init 0 = .ok (.aload_n 0, 1) := by decide +kernel
theorem dX2_init_1 : decode cX2_init 1 = .ok (.invokespecial 3, 3) := by decide +kernel
theorem dX2_init_4 : decode cX2_init 4 = .ok (.aload_n 0, 1) := by decide +kernel
theorem dX2_init_5 : decode cX2_init 5 = .ok (.iconst 0, 1) := by decide +kernel
theorem dX2_init_6 : decode cX2_init 6 = .ok (.putfield 9, 3) := by decide +kernel
theorem dX2_init_9 : decode cX2_init 9 = .ok (.aload_n 0, 1) := by decide +kernel
theorem dX2_init_10 : decode cX2_init 10 = .ok (.iconst 4, 1) := by decide +kernel
theorem dX2_init_11 : decode cX2_init 11 = .ok (.bipush 12, 2) := by decide +kernel
theorem dX2_init_13 : decode cX2_init 13 = .ok (.multianewarray 15 2, 4) := by decide +kernel
theorem dX2_init_17 : decode cX2_init 17 = .ok (.putfield 17, 3) := by decide +kernel
theorem dX2_init_20 : decode cX2_init 20 = .ok (.aload_n 0, 1) := by decide +kernel
theorem dX2_init_21 : decode cX2_init 21 = .ok (.iconst 0, 1) := by decide +kernel
theorem dX2_init_22 : decode cX2_init 22 = .ok (.putfield 20, 3) := by decide +kernel
theorem dX2_init_25 : decode cX2_init 25 = .ok (.aload_n 0, 1) := by decide +kernel
theorem dX2_init_26 : decode cX2_init 26 = .ok (.iconst 0, 1) := by decide +kernel
theorem dX2_init_27 : decode cX2_init 27 = .ok (.putfield 23, 3) := by decide +kernel
theorem dX2_init_30 : decode cX2_init 30 = .ok (.return_, 1) := by decide +kernel
theorem dX2_has_0 : decode cX2_has 0 = .ok (.iload_n 1, 1) := by decide +kernel
theorem dX2_has_1 : decode cX2_has 1 = .ok (.ifCond .lt 15, 3) := by decide +kernel
theorem dX2_has_4 : decode cX2_has 4 = .ok (.iload_n 1, 1) := by decide +kernel
theorem dX2_has_5 : decode cX2_has 5 = .ok (.aload_n 0, 1) := by decide +kernel
theorem dX2_has_6 : decode cX2_has 6 = .ok (.getfield 9, 3) := by decide +kernel
theorem dX2_has_9 : decode cX2_has 9 = .ok (.if_icmp .ge 7, 3) := by decide +kernel
theorem dX2_has_12 : decode cX2_has 12 = .ok (.iconst 1, 1) := by decide +kernel
theorem dX2_has_13 : decode cX2_has 13 = .ok (.goto 4, 3) := by decide +kernel
theorem dX2_has_16 : decode cX2_has 16 = .ok (.iconst 0, 1) := by decide +kernel
theorem dX2_has_17 : decode cX2_has 17 = .ok (.ireturn, 1) := by decide +kernel
set_option maxRecDepth 20000 in
theorem ggX2_add_X2_place : GoodIn wsX2_add wsX2_place := goodIn_r _ [8, 9, 13, 14, 15, 16] (by decide +kernel) (by decide +kernel)
set_option maxRecDepth 20000 in
theorem gX2_add_X2_place : GoodIn wsX2_add (wsV RX2 26 RX2 yX2_place wsX2_place) := goodIn_app (goodIn_of _ (by decide +kernel)) ggX2_add_X2_place
set_option maxRecDepth 20000 in
theorem ggX2_add_X7_withBit : GoodIn wsX2_add wsX7_withBit := goodIn_r _ [12] (by decide +kernel) (by decide +kernel)
set_option maxRecDepth 20000 in
theorem gX2_add_X7_withBit_n30 : GoodIn wsX2_add (wsX7_withBit) := ggX2_add_X7_withBit
theorem dX2_add_0 : decode cX2_add 0 = .ok (.aload_n 0, 1) := by decide +kernel
theorem dX2_add_1 : decode cX2_add 1 = .ok (.getfield 9, 3) := by decide +kernel
theorem dX2_add_4 : decode cX2_add 4 = .ok (.bipush 12, 2) := by decide +kernel
theorem dX2_add_6 : decode cX2_add 6 = .ok (.if_icmp .lt 6, 3) := by decide +kernel
theorem dX2_add_9 : decode cX2_add 9 = .ok (.bipush (-2), 2) := by decide +kernel
theorem dX2_add_11 : decode cX2_add 11 = .ok (.ireturn, 1) := by decide +kernel
theorem dX2_add_12 : decode cX2_add 12 = .ok (.aload_n 0, 1) := by decide +kernel
theorem dX2_add_13 : decode cX2_add 13 = .ok (.getfield 9, 3) := by decide +kernel
theorem dX2_add_16 : decode cX2_add 16 = .ok (.istore 5, 2) := by decide +kernel
theorem dX2_add_18 : decode cX2_add 18 = .ok (.aload_n 0, 1) := by decide +kernel
theorem dX2_add_19 : decode cX2_add 19 = .ok (.dup, 1) := by decide +kernel
theorem dX2_add_20 : decode cX2_add 20 = .ok (.getfield 9, 3) := by decide +kernel
theorem dX2_add_23 : decode cX2_add 23 = .ok (.iconst 1, 1) := by decide +kernel
theorem dX2_add_24 : decode cX2_add 24 = .ok (.iadd, 1) := by decide +kernel
theorem dX2_add_25 : decode cX2_add 25 = .ok (.putfield 9, 3) := by decide +kernel
theorem dX2_add_28 : decode cX2_add 28 = .ok (.aload_n 0, 1) := by decide +kernel
theorem dX2_add_29 : decode cX2_add 29 = .ok (.iload 5, 2) := by decide +kernel
theorem dX2_add_31 : decode cX2_add 31 = .ok (.iconst 0, 1) := by decide +kernel
theorem dX2_add_32 : decode cX2_add 32 = .ok (.iload_n 1, 1) := by decide +kernel
theorem dX2_add_33 : decode cX2_add 33 = .ok (.iload_n 2, 1) := by decide +kernel
theorem dX2_add_34 : decode cX2_add 34 = .ok (.invokevirtual 26, 3) := by decide +kernel
theorem dX2_add_37 : decode cX2_add 37 = .ok (.aload_n 0, 1) := by decide +kernel
theorem dX2_add_38 : decode cX2_add 38 = .ok (.iload 5, 2) := by decide +kernel
theorem dX2_add_40 : decode cX2_add 40 = .ok (.iconst 1, 1) := by decide +kernel
theorem dX2_add_41 : decode cX2_add 41 = .ok (.iload_n 3, 1) := by decide +kernel
theorem dX2_add_42 : decode cX2_add 42 = .ok (.iload 4, 2) := by decide +kernel
theorem dX2_add_44 : decode cX2_add 44 = .ok (.invokevirtual 26, 3) := by decide +kernel
theorem dX2_add_47 : decode cX2_add 47 = .ok (.aload_n 0, 1) := by decide +kernel
theorem dX2_add_48 : decode cX2_add 48 = .ok (.aload_n 0, 1) := by decide +kernel
theorem dX2_add_49 : decode cX2_add 49 = .ok (.getfield 20, 3) := by decide +kernel
theorem dX2_add_52 : decode cX2_add 52 = .ok (.iload 5, 2) := by decide +kernel
theorem dX2_add_54 : decode cX2_add 54 = .ok (.iconst 1, 1) := by decide +kernel
theorem dX2_add_55 : decode cX2_add 55 = .ok (.invokestatic 30, 3) := by decide +kernel
theorem dX2_add_58 : decode cX2_add 58 = .ok (.putfield 20, 3) := by decide +kernel
theorem dX2_add_61 : decode cX2_add 61 = .ok (.aload_n 0, 1) := by decide +kernel
theorem dX2_add_62 : decode cX2_add 62 = .ok (.aload_n 0, 1) := by decide +kernel
theorem dX2_add_63 : decode cX2_add 63 = .ok (.getfield 23, 3) := by decide +kernel
theorem dX2_add_66 : decode cX2_add 66 = .ok (.iload 5, 2) := by decide +kernel
theorem dX2_add_68 : decode cX2_add 68 = .ok (.iconst 1, 1) := by decide +kernel
theorem dX2_add_69 : decode cX2_add 69 = .ok (.invokestatic 30, 3) := by decide +kernel
theorem dX2_add_72 : decode cX2_add 72 = .ok (.putfield 23, 3) := by decide +kernel
theorem dX2_add_75 : decode cX2_add 75 = .ok (.iload 5, 2) := by decide +kernel
theorem dX2_add_77 : decode cX2_add 77 = .ok (.ireturn, 1) := by decide +kernel
theorem dX2_place_0 : decode cX2_place 0 = .ok (.aload_n 0, 1) := by decide +kernel
theorem dX2_place_1 : decode cX2_place 1 = .ok (.getfield 17, 3) := by decide +kernel
theorem dX2_place_4 : decode cX2_place 4 = .ok (.iconst 2, 1) := by decide +kernel
theorem dX2_place_5 : decode cX2_place 5 = .ok (.iload_n 2, 1) := by decide +kernel
theorem dX2_place_6 : decode cX2_place 6 = .ok (.imul, 1) := by decide +kernel
theorem dX2_place_7 : decode cX2_place 7 = .ok (.aaload, 1) := by decide +kernel
theorem dX2_place_8 : decode cX2_place 8 = .ok (.iload_n 1, 1) := by decide +kernel
theorem dX2_place_9 : decode cX2_place 9 = .ok (.iload_n 3, 1) := by decide +kernel
theorem dX2_place_10 : decode cX2_place 10 = .ok (.iastore, 1) := by decide +kernel
theorem dX2_place_11 : decode cX2_place 11 = .ok (.aload_n 0, 1) := by decide +kernel
theorem dX2_place_12 : decode cX2_place 12 = .ok (.getfield 17, 3) := by decide +kernel
theorem dX2_place_15 : decode cX2_place 15 = .ok (.iconst 2, 1) := by decide +kernel
theorem dX2_place_16 : decode cX2_place 16 = .ok (.iload_n 2, 1) := by decide +kernel
theorem dX2_place_17 : decode cX2_place 17 = .ok (.imul, 1) := by decide +kernel
theorem dX2_place_18 : decode cX2_place 18 = .ok (.iconst 1, 1) := by decide +kernel
theorem dX2_place_19 : decode cX2_place 19 = .ok (.iadd, 1) := by decide +kernel
theorem dX2_place_20 : decode cX2_place 20 = .ok (.aaload, 1) := by decide +kernel
theorem dX2_place_21 : decode cX2_place 21 = .ok (.iload_n 1, 1) := by decide +kernel
theorem dX2_place_22 : decode cX2_place 22 = .ok (.iload 4, 2) := by decide +kernel
theorem dX2_place_24 : decode cX2_place 24 = .ok (.iastore, 1) := by decide +kernel
theorem dX2_place_25 : decode cX2_place 25 = .ok (.return_, 1) := by decide +kernel
theorem dX2_counting_0 : decode cX2_counting 0 = .ok (.aload_n 0, 1) := by decide +kernel
theorem dX2_counting_1 : decode cX2_counting 1 = .ok (.getfield 20, 3) := by decide +kernel
theorem dX2_counting_4 : decode cX2_counting 4 = .ok (.aload_n 0, 1) := by decide +kernel
theorem dX2_counting_5 : decode cX2_counting 5 = .ok (.getfield 23, 3) := by decide +kernel
theorem dX2_counting_8 : decode cX2_counting 8 = .ok (.iand, 1) := by decide +kernel
theorem dX2_counting_9 : decode cX2_counting 9 = .ok (.ireturn, 1) := by decide +kernel
theorem dX2_side_0 : decode cX2_side 0 = .ok (.aload_n 0, 1) := by decide +kernel
theorem dX2_side_1 : decode cX2_side 1 = .ok (.getfield 17, 3) := by decide +kernel
theorem dX2_side_4 : decode cX2_side 4 = .ok (.iconst 2, 1) := by decide +kernel
theorem dX2_side_5 : decode cX2_side 5 = .ok (.iload_n 1, 1) := by decide +kernel
theorem dX2_side_6 : decode cX2_side 6 = .ok (.imul, 1) := by decide +kernel
theorem dX2_side_7 : decode cX2_side 7 = .ok (.aaload, 1) := by decide +kernel
theorem dX2_side_8 : decode cX2_side 8 = .ok (.astore 6, 2) := by decide +kernel
theorem dX2_side_10 : decode cX2_side 10 = .ok (.aload_n 0, 1) := by decide +kernel
theorem dX2_side_11 : decode cX2_side 11 = .ok (.getfield 17, 3) := by decide +kernel
theorem dX2_side_14 : decode cX2_side 14 = .ok (.iconst 2, 1) := by decide +kernel
theorem dX2_side_15 : decode cX2_side 15 = .ok (.iload_n 1, 1) := by decide +kernel
theorem dX2_side_16 : decode cX2_side 16 = .ok (.imul, 1) := by decide +kernel
theorem dX2_side_17 : decode cX2_side 17 = .ok (.iconst 1, 1) := by decide +kernel
theorem dX2_side_18 : decode cX2_side 18 = .ok (.iadd, 1) := by decide +kernel
theorem dX2_side_19 : decode cX2_side 19 = .ok (.aaload, 1) := by decide +kernel
theorem dX2_side_20 : decode cX2_side 20 = .ok (.astore 7, 2) := by decide +kernel
theorem dX2_side_22 : decode cX2_side 22 = .ok (.aload 6, 2) := by decide +kernel
theorem dX2_side_24 : decode cX2_side 24 = .ok (.iload_n 3, 1) := by decide +kernel
theorem dX2_side_25 : decode cX2_side 25 = .ok (.iaload, 1) := by decide +kernel
theorem dX2_side_26 : decode cX2_side 26 = .ok (.aload 6, 2) := by decide +kernel
theorem dX2_side_28 : decode cX2_side 28 = .ok (.iload_n 2, 1) := by decide +kernel
theorem dX2_side_29 : decode cX2_side 29 = .ok (.iaload, 1) := by decide +kernel
theorem dX2_side_30 : decode cX2_side 30 = .ok (.isub, 1) := by decide +kernel
theorem dX2_side_31 : decode cX2_side 31 = .ok (.iload 5, 2) := by decide +kernel
theorem dX2_side_33 : decode cX2_side 33 = .ok (.aload 7, 2) := by decide +kernel
theorem dX2_side_35 : decode cX2_side 35 = .ok (.iload_n 2, 1) := by decide +kernel
theorem dX2_side_36 : decode cX2_side 36 = .ok (.iaload, 1) := by decide +kernel
theorem dX2_side_37 : decode cX2_side 37 = .ok (.isub, 1) := by decide +kernel
theorem dX2_side_38 : decode cX2_side 38 = .ok (.imul, 1) := by decide +kernel
theorem dX2_side_39 : decode cX2_side 39 = .ok (.aload 7, 2) := by decide +kernel
theorem dX2_side_41 : decode cX2_side 41 = .ok (.iload_n 3, 1) := by decide +kernel
theorem dX2_side_42 : decode cX2_side 42 = .ok (.iaload, 1) := by decide +kernel
theorem dX2_side_43 : decode cX2_side 43 = .ok (.aload 7, 2) := by decide +kernel
theorem dX2_side_45 : decode cX2_side 45 = .ok (.iload_n 2, 1) := by decide +kernel
theorem dX2_side_46 : decode cX2_side 46 = .ok (.iaload, 1) := by decide +kernel
theorem dX2_side_47 : decode cX2_side 47 = .ok (.isub, 1) := by decide +kernel
theorem dX2_side_48 : decode cX2_side 48 = .ok (.iload 4, 2) := by decide +kernel
theorem dX2_side_50 : decode cX2_side 50 = .ok (.aload 6, 2) := by decide +kernel
theorem dX2_side_52 : decode cX2_side 52 = .ok (.iload_n 2, 1) := by decide +kernel
theorem dX2_side_53 : decode cX2_side 53 = .ok (.iaload, 1) := by decide +kernel
theorem dX2_side_54 : decode cX2_side 54 = .ok (.isub, 1) := by decide +kernel
theorem dX2_side_55 : decode cX2_side 55 = .ok (.imul, 1) := by decide +kernel
theorem dX2_side_56 : decode cX2_side 56 = .ok (.isub, 1) := by decide +kernel
theorem dX2_side_57 : decode cX2_side 57 = .ok (.ireturn, 1) := by decide +kernel
set_option maxRecDepth 20000 in
theorem ggX2_turn_X2_side : GoodIn wsX2_turn wsX2_side := goodIn_r _ [6, 1, 7, 8, 9, 10] (by decide +kernel) (by decide +kernel)
set_option maxRecDepth 20000 in
theorem gX2_turn_X2_side : GoodIn wsX2_turn (wsV RX2 34 RX2 yX2_side wsX2_side) := goodIn_app (goodIn_of _ (by decide +kernel)) ggX2_turn_X2_side
theorem dX2_turn_0 : decode cX2_turn 0 = .ok (.aload_n 0, 1) := by decide +kernel
theorem dX2_turn_1 : decode cX2_turn 1 = .ok (.iload_n 1, 1) := by decide +kernel
theorem dX2_turn_2 : decode cX2_turn 2 = .ok (.iload_n 2, 1) := by decide +kernel
theorem dX2_turn_3 : decode cX2_turn 3 = .ok (.iload_n 3, 1) := by decide +kernel
theorem dX2_turn_4 : decode cX2_turn 4 = .ok (.aload_n 0, 1) := by decide +kernel
theorem dX2_turn_5 : decode cX2_turn 5 = .ok (.getfield 17, 3) := by decide +kernel
theorem dX2_turn_8 : decode cX2_turn 8 = .ok (.iconst 2, 1) := by decide +kernel
theorem dX2_turn_9 : decode cX2_turn 9 = .ok (.iload_n 1, 1) := by decide +kernel
theorem dX2_turn_10 : decode cX2_turn 10 = .ok (.imul, 1) := by decide +kernel
theorem dX2_turn_11 : decode cX2_turn 11 = .ok (.aaload, 1) := by decide +kernel
theorem dX2_turn_12 : decode cX2_turn 12 = .ok (.iload 4, 2) := by decide +kernel
theorem dX2_turn_14 : decode cX2_turn 14 = .ok (.iaload, 1) := by decide +kernel
theorem dX2_turn_15 : decode cX2_turn 15 = .ok (.aload_n 0, 1) := by decide +kernel
theorem dX2_turn_16 : decode cX2_turn 16 = .ok (.getfield 17, 3) := by decide +kernel
theorem dX2_turn_19 : decode cX2_turn 19 = .ok (.iconst 2, 1) := by decide +kernel
theorem dX2_turn_20 : decode cX2_turn 20 = .ok (.iload_n 1, 1) := by decide +kernel
