theorem dX2_turn_21 : decode cX2_turn 21 = .ok (.imul, 1) := by decide +kernel
theorem dX2_turn_22 : decode cX2_turn 22 = .ok (.iconst 1, 1) := by decide +kernel
theorem dX2_turn_23 : decode cX2_turn 23 = .ok (.iadd, 1) := by decide +kernel
theorem dX2_turn_24 : decode cX2_turn 24 = .ok (.aaload, 1) := by decide +kernel
theorem dX2_turn_25 : decode cX2_turn 25 = .ok (.iload 4, 2) := by decide +kernel
theorem dX2_turn_27 : decode cX2_turn 27 = .ok (.iaload, 1) := by decide +kernel
theorem dX2_turn_28 : decode cX2_turn 28 = .ok (.invokevirtual 34, 3) := by decide +kernel
theorem dX2_turn_31 : decode cX2_turn 31 = .ok (.ireturn, 1) := by decide +kernel
theorem dX2_copyFrom_0 : decode cX2_copyFrom 0 = .ok (.aload_n 0, 1) := by decide +kernel
theorem dX2_copyFrom_1 : decode cX2_copyFrom 1 = .ok (.aload_n 1, 1) := by decide +kernel
theorem dX2_copyFrom_2 : decode cX2_copyFrom 2 = .ok (.getfield 9, 3) := by decide +kernel
theorem dX2_copyFrom_5 : decode cX2_copyFrom 5 = .ok (.putfield 9, 3) := by decide +kernel
theorem dX2_copyFrom_8 : decode cX2_copyFrom 8 = .ok (.aload_n 0, 1) := by decide +kernel
theorem dX2_copyFrom_9 : decode cX2_copyFrom 9 = .ok (.aload_n 1, 1) := by decide +kernel
theorem dX2_copyFrom_10 : decode cX2_copyFrom 10 = .ok (.getfield 20, 3) := by decide +kernel
theorem dX2_copyFrom_13 : decode cX2_copyFrom 13 = .ok (.putfield 20, 3) := by decide +kernel
theorem dX2_copyFrom_16 : decode cX2_copyFrom 16 = .ok (.aload_n 0, 1) := by decide +kernel
theorem dX2_copyFrom_17 : decode cX2_copyFrom 17 = .ok (.aload_n 1, 1) := by decide +kernel
theorem dX2_copyFrom_18 : decode cX2_copyFrom 18 = .ok (.getfield 23, 3) := by decide +kernel
theorem dX2_copyFrom_21 : decode cX2_copyFrom 21 = .ok (.putfield 23, 3) := by decide +kernel
theorem dX2_copyFrom_24 : decode cX2_copyFrom 24 = .ok (.iconst 0, 1) := by decide +kernel
theorem dX2_copyFrom_25 : decode cX2_copyFrom 25 = .ok (.istore_n 2, 1) := by decide +kernel
theorem dX2_copyFrom_26 : decode cX2_copyFrom 26 = .ok (.iload_n 2, 1) := by decide +kernel
theorem dX2_copyFrom_27 : decode cX2_copyFrom 27 = .ok (.iconst 4, 1) := by decide +kernel
theorem dX2_copyFrom_28 : decode cX2_copyFrom 28 = .ok (.if_icmp .ge 28, 3) := by decide +kernel
theorem dX2_copyFrom_31 : decode cX2_copyFrom 31 = .ok (.aload_n 1, 1) := by decide +kernel
theorem dX2_copyFrom_32 : decode cX2_copyFrom 32 = .ok (.getfield 17, 3) := by decide +kernel
theorem dX2_copyFrom_35 : decode cX2_copyFrom 35 = .ok (.iload_n 2, 1) := by decide +kernel
theorem dX2_copyFrom_36 : decode cX2_copyFrom 36 = .ok (.aaload, 1) := by decide +kernel
theorem dX2_copyFrom_37 : decode cX2_copyFrom 37 = .ok (.iconst 0, 1) := by decide +kernel
theorem dX2_copyFrom_38 : decode cX2_copyFrom 38 = .ok (.aload_n 0, 1) := by decide +kernel
theorem dX2_copyFrom_39 : decode cX2_copyFrom 39 = .ok (.getfield 17, 3) := by decide +kernel
theorem dX2_copyFrom_42 : decode cX2_copyFrom 42 = .ok (.iload_n 2, 1) := by decide +kernel
theorem dX2_copyFrom_43 : decode cX2_copyFrom 43 = .ok (.aaload, 1) := by decide +kernel
theorem dX2_copyFrom_44 : decode cX2_copyFrom 44 = .ok (.iconst 0, 1) := by decide +kernel
theorem dX2_copyFrom_45 : decode cX2_copyFrom 45 = .ok (.bipush 12, 2) := by decide +kernel
theorem dX2_copyFrom_47 : decode cX2_copyFrom 47 = .ok (.invokestatic 38, 3) := by decide +kernel
theorem dX2_copyFrom_50 : decode cX2_copyFrom 50 = .ok (.iinc 2 1, 3) := by decide +kernel
theorem dX2_copyFrom_53 : decode cX2_copyFrom 53 = .ok (.goto (-27), 3) := by decide +kernel
theorem dX2_copyFrom_56 : decode cX2_copyFrom 56 = .ok (.return_, 1) := by decide +kernel
set_option maxRecDepth 20000 in
theorem ggX3_init_X2_init : GoodIn wsX3_init wsX2_init := goodIn_r _ [18, 19, 2, 3, 20, 21, 22, 23, 24, 25, 40, 41, 42, 43] (by decide +kernel) (by decide +kernel)
set_option maxRecDepth 20000 in
theorem gX3_init_X2_init_n9 : GoodIn wsX3_init (wsX2_init) := ggX3_init_X2_init
set_option maxRecDepth 20000 in
theorem ggX3_init_X5_init : GoodIn wsX3_init wsX5_init := goodIn_r _ [27, 28, 2, 3, 29, 30, 22, 31, 32, 48, 49, 50] (by decide +kernel) (by decide +kernel)
set_option maxRecDepth 20000 in
theorem gX3_init_X5_init_n18 : GoodIn wsX3_init (wsX5_init) := ggX3_init_X5_init
set_option maxRecDepth 20000 in
theorem ggX3_init_X4_init : GoodIn wsX3_init wsX4_init := goodIn_r _ [34, 35, 2, 3, 36, 22, 37, 38, 39, 51, 52, 53, 54] (by decide +kernel) (by decide +kernel)
set_option maxRecDepth 20000 in
theorem gX3_init_X4_init_n27 : GoodIn wsX3_init (wsX4_init) := ggX3_init_X4_init
theorem dX3_init_0 : decode cX3_init 0 = .ok (.aload_n 0, 1) := by decide +kernel
theorem dX3_init_1 : decode cX3_init 1 = .ok (.invokespecial 1, 3) := by decide +kernel
theorem dX3_init_4 : decode cX3_init 4 = .ok (.aload_n 0, 1) := by decide +kernel
theorem dX3_init_5 : decode cX3_init 5 = .ok (.new 7, 3) := by decide +kernel
theorem dX3_init_8 : decode cX3_init 8 = .ok (.dup, 1) := by decide +kernel
theorem dX3_init_9 : decode cX3_init 9 = .ok (.invokespecial 9, 3) := by decide +kernel
theorem dX3_init_12 : decode cX3_init 12 = .ok (.putfield 10, 3) := by decide +kernel
theorem dX3_init_15 : decode cX3_init 15 = .ok (.aload_n 0, 1) := by decide +kernel
theorem dX3_init_16 : decode cX3_init 16 = .ok (.new 16, 3) := by decide +kernel
theorem dX3_init_19 : decode cX3_init 19 = .ok (.dup, 1) := by decide +kernel
theorem dX3_init_20 : decode cX3_init 20 = .ok (.aload_n 0, 1) := by decide +kernel
theorem dX3_init_21 : decode cX3_init 21 = .ok (.getfield 10, 3) := by decide +kernel
theorem dX3_init_24 : decode cX3_init 24 = .ok (.invokespecial 18, 3) := by decide +kernel
theorem dX3_init_27 : decode cX3_init 27 = .ok (.putfield 21, 3) := by decide +kernel
theorem dX3_init_30 : decode cX3_init 30 = .ok (.aload_n 0, 1) := by decide +kernel
theorem dX3_init_31 : decode cX3_init 31 = .ok (.new 25, 3) := by decide +kernel
theorem dX3_init_34 : decode cX3_init 34 = .ok (.dup, 1) := by decide +kernel
theorem dX3_init_35 : decode cX3_init 35 = .ok (.invokespecial 27, 3) := by decide +kernel
theorem dX3_init_38 : decode cX3_init 38 = .ok (.putfield 28, 3) := by decide +kernel
theorem dX3_init_41 : decode cX3_init 41 = .ok (.aload_n 0, 1) := by decide +kernel
theorem dX3_init_42 : decode cX3_init 42 = .ok (.new 25, 3) := by decide +kernel
theorem dX3_init_45 : decode cX3_init 45 = .ok (.dup, 1) := by decide +kernel
theorem dX3_init_46 : decode cX3_init 46 = .ok (.invokespecial 27, 3) := by decide +kernel
theorem dX3_init_49 : decode cX3_init 49 = .ok (.putfield 32, 3) := by decide +kernel
theorem dX3_init_52 : decode cX3_init 52 = .ok (.return_, 1) := by decide +kernel
theorem dX3_thingsOf_0 : decode cX3_thingsOf 0 = .ok (.iload_n 1, 1) := by decide +kernel
theorem dX3_thingsOf_1 : decode cX3_thingsOf 1 = .ok (.ifCond .ne 10, 3) := by decide +kernel
theorem dX3_thingsOf_4 : decode cX3_thingsOf 4 = .ok (.aload_n 0, 1) := by decide +kernel
theorem dX3_thingsOf_5 : decode cX3_thingsOf 5 = .ok (.getfield 28, 3) := by decide +kernel
theorem dX3_thingsOf_8 : decode cX3_thingsOf 8 = .ok (.goto 7, 3) := by decide +kernel
theorem dX3_thingsOf_11 : decode cX3_thingsOf 11 = .ok (.aload_n 0, 1) := by decide +kernel
theorem dX3_thingsOf_12 : decode cX3_thingsOf 12 = .ok (.getfield 32, 3) := by decide +kernel
theorem dX3_thingsOf_15 : decode cX3_thingsOf 15 = .ok (.areturn, 1) := by decide +kernel
set_option maxRecDepth 20000 in
theorem ggX3_copyFrom_X2_copyFrom : GoodIn wsX3_copyFrom wsX2_copyFrom := goodIn_r _ [8, 9, 10, 11, 12, 13, 14, 15, 16, 37, 38, 39, 40] (by decide +kernel) (by decide +kernel)
set_option maxRecDepth 20000 in
theorem gX3_copyFrom_X2_copyFrom_n35 : GoodIn wsX3_copyFrom (wsX2_copyFrom) := ggX3_copyFrom_X2_copyFrom
set_option maxRecDepth 20000 in
theorem ggX3_copyFrom_X5_copyFrom : GoodIn wsX3_copyFrom wsX5_copyFrom := goodIn_r _ [20, 21, 22, 23, 14, 15, 16, 41, 42, 43] (by decide +kernel) (by decide +kernel)
set_option maxRecDepth 20000 in
theorem gX3_copyFrom_X5_copyFrom_n38 : GoodIn wsX3_copyFrom (wsX5_copyFrom) := ggX3_copyFrom_X5_copyFrom
set_option maxRecDepth 20000 in
theorem ggX3_copyFrom_X4_copyFrom : GoodIn wsX3_copyFrom wsX4_copyFrom := goodIn_r _ [27, 28, 29, 30, 14, 15, 16, 31, 32, 44, 45, 46, 47] (by decide +kernel) (by decide +kernel)
set_option maxRecDepth 20000 in
theorem gX3_copyFrom_X4_copyFrom_n41 : GoodIn wsX3_copyFrom (wsX4_copyFrom) := ggX3_copyFrom_X4_copyFrom
theorem dX3_copyFrom_0 : decode cX3_copyFrom 0 = .ok (.aload_n 0, 1) := by decide +kernel
theorem dX3_copyFrom_1 : decode cX3_copyFrom 1 = .ok (.getfield 10, 3) := by decide +kernel
theorem dX3_copyFrom_4 : decode cX3_copyFrom 4 = .ok (.aload_n 1, 1) := by decide +kernel
theorem dX3_copyFrom_5 : decode cX3_copyFrom 5 = .ok (.getfield 10, 3) := by decide +kernel
theorem dX3_copyFrom_8 : decode cX3_copyFrom 8 = .ok (.invokevirtual 35, 3) := by decide +kernel
theorem dX3_copyFrom_11 : decode cX3_copyFrom 11 = .ok (.aload_n 0, 1) := by decide +kernel
theorem dX3_copyFrom_12 : decode cX3_copyFrom 12 = .ok (.getfield 21, 3) := by decide +kernel
theorem dX3_copyFrom_15 : decode cX3_copyFrom 15 = .ok (.aload_n 1, 1) := by decide +kernel
theorem dX3_copyFrom_16 : decode cX3_copyFrom 16 = .ok (.getfield 21, 3) := by decide +kernel
theorem dX3_copyFrom_19 : decode cX3_copyFrom 19 = .ok (.invokevirtual 38, 3) := by decide +kernel
theorem dX3_copyFrom_22 : decode cX3_copyFrom 22 = .ok (.aload_n 0, 1) := by decide +kernel
theorem dX3_copyFrom_23 : decode cX3_copyFrom 23 = .ok (.getfield 28, 3) := by decide +kernel
theorem dX3_copyFrom_26 : decode cX3_copyFrom 26 = .ok (.aload_n 1, 1) := by decide +kernel
theorem dX3_copyFrom_27 : decode cX3_copyFrom 27 = .ok (.getfield 28, 3) := by decide +kernel
theorem dX3_copyFrom_30 : decode cX3_copyFrom 30 = .ok (.invokevirtual 41, 3) := by decide +kernel
theorem dX3_copyFrom_33 : decode cX3_copyFrom 33 = .ok (.aload_n 0, 1) := by decide +kernel
theorem dX3_copyFrom_34 : decode cX3_copyFrom 34 = .ok (.getfield 32, 3) := by decide +kernel
theorem dX3_copyFrom_37 : decode cX3_copyFrom 37 = .ok (.aload_n 1, 1) := by decide +kernel
theorem dX3_copyFrom_38 : decode cX3_copyFrom 38 = .ok (.getfield 32, 3) := by decide +kernel
theorem dX3_copyFrom_41 : decode cX3_copyFrom 41 = .ok (.invokevirtual 41, 3) := by decide +kernel
theorem dX3_copyFrom_44 : decode cX3_copyFrom 44 = .ok (.return_, 1) := by decide +kernel
theorem dX4_init_0 : decode cX4_init 0 = .ok (.aload_n 0, 1) := by decide +kernel
theorem dX4_init_1 : decode cX4_init 1 = .ok (.invokespecial 3, 3) := by decide +kernel
theorem dX4_init_4 : decode cX4_init 4 = .ok (.aload_n 0, 1) := by decide +kernel
theorem dX4_init_5 : decode cX4_init 5 = .ok (.iconst 0, 1) := by decide +kernel
theorem dX4_init_6 : decode cX4_init 6 = .ok (.putfield 9, 3) := by decide +kernel
theorem dX4_init_9 : decode cX4_init 9 = .ok (.aload_n 0, 1) := by decide +kernel
theorem dX4_init_10 : decode cX4_init 10 = .ok (.bipush 6, 2) := by decide +kernel
theorem dX4_init_12 : decode cX4_init 12 = .ok (.newarray .int, 2) := by decide +kernel
theorem dX4_init_14 : decode cX4_init 14 = .ok (.putfield 15, 3) := by decide +kernel
theorem dX4_init_17 : decode cX4_init 17 = .ok (.aload_n 0, 1) := by decide +kernel
theorem dX4_init_18 : decode cX4_init 18 = .ok (.bipush 6, 2) := by decide +kernel
theorem dX4_init_20 : decode cX4_init 20 = .ok (.newarray .int, 2) := by decide +kernel
theorem dX4_init_22 : decode cX4_init 22 = .ok (.putfield 19, 3) := by decide +kernel
theorem dX4_init_25 : decode cX4_init 25 = .ok (.aload_n 0, 1) := by decide +kernel
theorem dX4_init_26 : decode cX4_init 26 = .ok (.bipush 6, 2) := by decide +kernel
theorem dX4_init_28 : decode cX4_init 28 = .ok (.newarray .int, 2) := by decide +kernel
theorem dX4_init_30 : decode cX4_init 30 = .ok (.putfield 22, 3) := by decide +kernel
theorem dX4_init_33 : decode cX4_init 33 = .ok (.return_, 1) := by decide +kernel
theorem dX4_has_0 : decode cX4_has 0 = .ok (.iload_n 1, 1) := by decide +kernel
theorem dX4_has_1 : decode cX4_has 1 = .ok (.ifCond .lt 15, 3) := by decide +kernel
theorem dX4_has_4 : decode cX4_has 4 = .ok (.iload_n 1, 1) := by decide +kernel
theorem dX4_has_5 : decode cX4_has 5 = .ok (.aload_n 0, 1) := by decide +kernel
theorem dX4_has_6 : decode cX4_has 6 = .ok (.getfield 9, 3) := by decide +kernel
theorem dX4_has_9 : decode cX4_has 9 = .ok (.if_icmp .ge 7, 3) := by decide +kernel
theorem dX4_has_12 : decode cX4_has 12 = .ok (.iconst 1, 1) := by decide +kernel
theorem dX4_has_13 : decode cX4_has 13 = .ok (.goto 4, 3) := by decide +kernel
theorem dX4_has_16 : decode cX4_has 16 = .ok (.iconst 0, 1) := by decide +kernel
theorem dX4_has_17 : decode cX4_has 17 = .ok (.ireturn, 1) := by decide +kernel
theorem dX4_add_0 : decode cX4_add 0 = .ok (.aload_n 0, 1) := by decide +kernel
theorem dX4_add_1 : decode cX4_add 1 = .ok (.getfield 9, 3) := by decide +kernel
theorem dX4_add_4 : decode cX4_add 4 = .ok (.bipush 6, 2) := by decide +kernel
theorem dX4_add_6 : decode cX4_add 6 = .ok (.if_icmp .lt 6, 3) := by decide +kernel
theorem dX4_add_9 : decode cX4_add 9 = .ok (.bipush (-2), 2) := by decide +kernel
theorem dX4_add_11 : decode cX4_add 11 = .ok (.ireturn, 1) := by decide +kernel
theorem dX4_add_12 : decode cX4_add 12 = .ok (.aload_n 0, 1) := by decide +kernel
theorem dX4_add_13 : decode cX4_add 13 = .ok (.getfield 9, 3) := by decide +kernel
theorem dX4_add_16 : decode cX4_add 16 = .ok (.istore 4, 2) := by decide +kernel
theorem dX4_add_18 : decode cX4_add 18 = .ok (.aload_n 0, 1) := by decide +kernel
theorem dX4_add_19 : decode cX4_add 19 = .ok (.dup, 1) := by decide +kernel
theorem dX4_add_20 : decode cX4_add 20 = .ok (.getfield 9, 3) := by decide +kernel
theorem dX4_add_23 : decode cX4_add 23 = .ok (.iconst 1, 1) := by decide +kernel
theorem dX4_add_24 : decode cX4_add 24 = .ok (.iadd, 1) := by decide +kernel
theorem dX4_add_25 : decode cX4_add 25 = .ok (.putfield 9, 3) := by decide +kernel
theorem dX4_add_28 : decode cX4_add 28 = .ok (.aload_n 0, 1) := by decide +kernel
theorem dX4_add_29 : decode cX4_add 29 = .ok (.getfield 15, 3) := by decide +kernel
theorem dX4_add_32 : decode cX4_add 32 = .ok (.iload 4, 2) := by decide +kernel
theorem dX4_add_34 : decode cX4_add 34 = .ok (.iload_n 1, 1) := by decide +kernel
theorem dX4_add_35 : decode cX4_add 35 = .ok (.iastore, 1) := by decide +kernel
theorem dX4_add_36 : decode cX4_add 36 = .ok (.aload_n 0, 1) := by decide +kernel
theorem dX4_add_37 : decode cX4_add 37 = .ok (.getfield 19, 3) := by decide +kernel
theorem dX4_add_40 : decode cX4_add 40 = .ok (.iload 4, 2) := by decide +kernel
theorem dX4_add_42 : decode cX4_add 42 = .ok (.iload_n 2, 1) := by decide +kernel
theorem dX4_add_43 : decode cX4_add 43 = .ok (.iastore, 1) := by decide +kernel
theorem dX4_add_44 : decode cX4_add 44 = .ok (.aload_n 0, 1) := by decide +kernel
theorem dX4_add_45 : decode cX4_add 45 = .ok (.getfield 22, 3) := by decide +kernel
theorem dX4_add_48 : decode cX4_add 48 = .ok (.iload 4, 2) := by decide +kernel
theorem dX4_add_50 : decode cX4_add 50 = .ok (.iload_n 3, 1) := by decide +kernel
theorem dX4_add_51 : decode cX4_add 51 = .ok (.iastore, 1) := by decide +kernel
theorem dX4_add_52 : decode cX4_add 52 = .ok (.iload 4, 2) := by decide +kernel
theorem dX4_add_54 : decode cX4_add 54 = .ok (.ireturn, 1) := by decide +kernel
theorem dX4_copyFrom_0 : decode cX4_copyFrom 0 = .ok (.aload_n 0, 1) := by decide +kernel
theorem dX4_copyFrom_1 : decode cX4_copyFrom 1 = .ok (.aload_n 1, 1) := by decide +kernel
theorem dX4_copyFrom_2 : decode cX4_copyFrom 2 = .ok (.getfield 9, 3) := by decide +kernel
theorem dX4_copyFrom_5 : decode cX4_copyFrom 5 = .ok (.putfield 9, 3) := by decide +kernel
theorem dX4_copyFrom_8 : decode cX4_copyFrom 8 = .ok (.aload_n 1, 1) := by decide +kernel
theorem dX4_copyFrom_9 : decode cX4_copyFrom 9 = .ok (.getfield 15, 3) := by decide +kernel
theorem dX4_copyFrom_12 : decode cX4_copyFrom 12 = .ok (.iconst 0, 1) := by decide +kernel
theorem dX4_copyFrom_13 : decode cX4_copyFrom 13 = .ok (.aload_n 0, 1) := by decide +kernel
theorem dX4_copyFrom_14 : decode cX4_copyFrom 14 = .ok (.getfield 15, 3) := by decide +kernel
theorem dX4_copyFrom_17 : decode cX4_copyFrom 17 = .ok (.iconst 0, 1) := by decide +kernel
theorem dX4_copyFrom_18 : decode cX4_copyFrom 18 = .ok (.bipush 6, 2) := by decide +kernel
theorem dX4_copyFrom_20 : decode cX4_copyFrom 20 = .ok (.invokestatic 25, 3) := by decide +kernel
theorem dX4_copyFrom_23 : decode cX4_copyFrom 23 = .ok (.aload_n 1, 1) := by decide +kernel
theorem dX4_copyFrom_24 : decode cX4_copyFrom 24 = .ok (.getfield 19, 3) := by decide +kernel
theorem dX4_copyFrom_27 : decode cX4_copyFrom 27 = .ok (.iconst 0, 1) := by decide +kernel
theorem dX4_copyFrom_28 : decode cX4_copyFrom 28 = .ok (.aload_n 0, 1) := by decide +kernel
theorem dX4_copyFrom_29 : decode cX4_copyFrom 29 = .ok (.getfield 19, 3) := by decide +kernel
theorem dX4_copyFrom_32 : decode cX4_copyFrom 32 = .ok (.iconst 0, 1) := by decide +kernel
theorem dX4_copyFrom_33 : decode cX4_copyFrom 33 = .ok (.bipush 6, 2) := by decide +kernel
theorem dX4_copyFrom_35 : decode cX4_copyFrom 35 = .ok (.invokestatic 25, 3) := by decide +kernel
theorem dX4_copyFrom_38 : decode cX4_copyFrom 38 = .ok (.aload_n 1, 1) := by decide +kernel
theorem dX4_copyFrom_39 : decode cX4_copyFrom 39 = .ok (.getfield 22, 3) := by decide +kernel
theorem dX4_copyFrom_42 : decode cX4_copyFrom 42 = .ok (.iconst 0, 1) := by decide +kernel
theorem dX4_copyFrom_43 : decode cX4_copyFrom 43 = .ok (.aload_n 0, 1) := by decide +kernel
theorem dX4_copyFrom_44 : decode cX4_copyFrom 44 = .ok (.getfield 22, 3) := by decide +kernel
theorem dX4_copyFrom_47 : decode cX4_copyFrom 47 = .ok (.iconst 0, 1) := by decide +kernel
theorem dX4_copyFrom_48 : decode cX4_copyFrom 48 = .ok (.bipush 6, 2) := by decide +kernel
theorem dX4_copyFrom_50 : decode cX4_copyFrom 50 = .ok (.invokestatic 25, 3) := by decide +kernel
theorem dX4_copyFrom_53 : decode cX4_copyFrom 53 = .ok (.return_, 1) := by decide +kernel
theorem dX5_init_0 : decode cX5_init 0 = .ok (.aload_n 0, 1) := by decide +kernel
theorem dX5_init_1 : decode cX5_init 1 = .ok (.invokespecial 3, 3) := by decide +kernel
theorem dX5_init_4 : decode cX5_init 4 = .ok (.aload_n 0, 1) := by decide +kernel
theorem dX5_init_5 : decode cX5_init 5 = .ok (.iconst 0, 1) := by decide +kernel
theorem dX5_init_6 : decode cX5_init 6 = .ok (.putfield 9, 3) := by decide +kernel
theorem dX5_init_9 : decode cX5_init 9 = .ok (.aload_n 0, 1) := by decide +kernel
theorem dX5_init_10 : decode cX5_init 10 = .ok (.bipush 10, 2) := by decide +kernel
theorem dX5_init_12 : decode cX5_init 12 = .ok (.iconst 3, 1) := by decide +kernel
theorem dX5_init_13 : decode cX5_init 13 = .ok (.multianewarray 15 2, 4) := by decide +kernel
theorem dX5_init_17 : decode cX5_init 17 = .ok (.putfield 17, 3) := by decide +kernel
theorem dX5_init_20 : decode cX5_init 20 = .ok (.aload_n 0, 1) := by decide +kernel
theorem dX5_init_21 : decode cX5_init 21 = .ok (.aload_n 1, 1) := by decide +kernel
theorem dX5_init_22 : decode cX5_init 22 = .ok (.putfield 20, 3) := by decide +kernel
theorem dX5_init_25 : decode cX5_init 25 = .ok (.return_, 1) := by decide +kernel
theorem dX5_has_0 : decode cX5_has 0 = .ok (.iload_n 1, 1) := by decide +kernel
theorem dX5_has_1 : decode cX5_has 1 = .ok (.ifCond .lt 15, 3) := by decide +kernel
theorem dX5_has_4 : decode cX5_has 4 = .ok (.iload_n 1, 1) := by decide +kernel
theorem dX5_has_5 : decode cX5_has 5 = .ok (.aload_n 0, 1) := by decide +kernel
theorem dX5_has_6 : decode cX5_has 6 = .ok (.getfield 9, 3) := by decide +kernel
theorem dX5_has_9 : decode cX5_has 9 = .ok (.if_icmp .ge 7, 3) := by decide +kernel
theorem dX5_has_12 : decode cX5_has 12 = .ok (.iconst 1, 1) := by decide +kernel
theorem dX5_has_13 : decode cX5_has 13 = .ok (.goto 4, 3) := by decide +kernel
theorem dX5_has_16 : decode cX5_has 16 = .ok (.iconst 0, 1) := by decide +kernel
theorem dX5_has_17 : decode cX5_has 17 = .ok (.ireturn, 1) := by decide +kernel
theorem dX5_add_0 : decode cX5_add 0 = .ok (.aload_n 0, 1) := by decide +kernel
theorem dX5_add_1 : decode cX5_add 1 = .ok (.getfield 9, 3) := by decide +kernel
theorem dX5_add_4 : decode cX5_add 4 = .ok (.bipush 10, 2) := by decide +kernel
theorem dX5_add_6 : decode cX5_add 6 = .ok (.if_icmp .lt 6, 3) := by decide +kernel
theorem dX5_add_9 : decode cX5_add 9 = .ok (.bipush (-2), 2) := by decide +kernel
theorem dX5_add_11 : decode cX5_add 11 = .ok (.ireturn, 1) := by decide +kernel
theorem dX5_add_12 : decode cX5_add 12 = .ok (.aload_n 0, 1) := by decide +kernel
theorem dX5_add_13 : decode cX5_add 13 = .ok (.getfield 9, 3) := by decide +kernel
theorem dX5_add_16 : decode cX5_add 16 = .ok (.istore 4, 2) := by decide +kernel
theorem dX5_add_18 : decode cX5_add 18 = .ok (.aload_n 0, 1) := by decide +kernel
theorem dX5_add_19 : decode cX5_add 19 = .ok (.dup, 1) := by decide +kernel
theorem dX5_add_20 : decode cX5_add 20 = .ok (.getfield 9, 3) := by decide +kernel
theorem dX5_add_23 : decode cX5_add 23 = .ok (.iconst 1, 1) := by decide +kernel
theorem dX5_add_24 : decode cX5_add 24 = .ok (.iadd, 1) := by decide +kernel
theorem dX5_add_25 : decode cX5_add 25 = .ok (.putfield 9, 3) := by decide +kernel
theorem dX5_add_28 : decode cX5_add 28 = .ok (.aload_n 0, 1) := by decide +kernel
theorem dX5_add_29 : decode cX5_add 29 = .ok (.getfield 17, 3) := by decide +kernel
theorem dX5_add_32 : decode cX5_add 32 = .ok (.iload 4, 2) := by decide +kernel
theorem dX5_add_34 : decode cX5_add 34 = .ok (.aaload, 1) := by decide +kernel
theorem dX5_add_35 : decode cX5_add 35 = .ok (.iconst 0, 1) := by decide +kernel
theorem dX5_add_36 : decode cX5_add 36 = .ok (.iload_n 1, 1) := by decide +kernel
theorem dX5_add_37 : decode cX5_add 37 = .ok (.iastore, 1) := by decide +kernel
theorem dX5_add_38 : decode cX5_add 38 = .ok (.aload_n 0, 1) := by decide +kernel
theorem dX5_add_39 : decode cX5_add 39 = .ok (.getfield 17, 3) := by decide +kernel
theorem dX5_add_42 : decode cX5_add 42 = .ok (.iload 4, 2) := by decide +kernel
theorem dX5_add_44 : decode cX5_add 44 = .ok (.aaload, 1) := by decide +kernel
theorem dX5_add_45 : decode cX5_add 45 = .ok (.iconst 1, 1) := by decide +kernel
theorem dX5_add_46 : decode cX5_add 46 = .ok (.iload_n 2, 1) := by decide +kernel
theorem dX5_add_47 : decode cX5_add 47 = .ok (.iastore, 1) := by decide +kernel
theorem dX5_add_48 : decode cX5_add 48 = .ok (.aload_n 0, 1) := by decide +kernel
theorem dX5_add_49 : decode cX5_add 49 = .ok (.getfield 17, 3) := by decide +kernel
theorem dX5_add_52 : decode cX5_add 52 = .ok (.iload 4, 2) := by decide +kernel
theorem dX5_add_54 : decode cX5_add 54 = .ok (.aaload, 1) := by decide +kernel
theorem dX5_add_55 : decode cX5_add 55 = .ok (.iconst 2, 1) := by decide +kernel
theorem dX5_add_56 : decode cX5_add 56 = .ok (.iload_n 3, 1) := by decide +kernel
theorem dX5_add_57 : decode cX5_add 57 = .ok (.iastore, 1) := by decide +kernel
theorem dX5_add_58 : decode cX5_add 58 = .ok (.iload 4, 2) := by decide +kernel
theorem dX5_add_60 : decode cX5_add 60 = .ok (.ireturn, 1) := by decide +kernel
set_option maxRecDepth 20000 in
theorem ggX5_turn_X2_turn : GoodIn wsX5_turn wsX2_turn := goodIn_r _ [6, 7, 8, 9, 10, 4, 11, 15, 16, 17, 18] (by decide +kernel) (by decide +kernel)
set_option maxRecDepth 20000 in
theorem gX5_turn_X2_turn_n24 : GoodIn wsX5_turn (wsX2_turn) := ggX5_turn_X2_turn
theorem dX5_turn_0 : decode cX5_turn 0 = .ok (.aload_n 0, 1) := by decide +kernel
theorem dX5_turn_1 : decode cX5_turn 1 = .ok (.getfield 17, 3) := by decide +kernel
theorem dX5_turn_4 : decode cX5_turn 4 = .ok (.iload_n 1, 1) := by decide +kernel
theorem dX5_turn_5 : decode cX5_turn 5 = .ok (.aaload, 1) := by decide +kernel
theorem dX5_turn_6 : decode cX5_turn 6 = .ok (.astore_n 3, 1) := by decide +kernel
theorem dX5_turn_7 : decode cX5_turn 7 = .ok (.aload_n 0, 1) := by decide +kernel
theorem dX5_turn_8 : decode cX5_turn 8 = .ok (.getfield 20, 3) := by decide +kernel
theorem dX5_turn_11 : decode cX5_turn 11 = .ok (.iload_n 2, 1) := by decide +kernel
theorem dX5_turn_12 : decode cX5_turn 12 = .ok (.aload_n 3, 1) := by decide +kernel
theorem dX5_turn_13 : decode cX5_turn 13 = .ok (.iconst 0, 1) := by decide +kernel
theorem dX5_turn_14 : decode cX5_turn 14 = .ok (.iaload, 1) := by decide +kernel
theorem dX5_turn_15 : decode cX5_turn 15 = .ok (.aload_n 3, 1) := by decide +kernel
theorem dX5_turn_16 : decode cX5_turn 16 = .ok (.iconst 1, 1) := by decide +kernel
theorem dX5_turn_17 : decode cX5_turn 17 = .ok (.iaload, 1) := by decide +kernel
theorem dX5_turn_18 : decode cX5_turn 18 = .ok (.aload_n 3, 1) := by decide +kernel
theorem dX5_turn_19 : decode cX5_turn 19 = .ok (.iconst 2, 1) := by decide +kernel
theorem dX5_turn_20 : decode cX5_turn 20 = .ok (.iaload, 1) := by decide +kernel
theorem dX5_turn_21 : decode cX5_turn 21 = .ok (.invokevirtual 24, 3) := by decide +kernel
theorem dX5_turn_24 : decode cX5_turn 24 = .ok (.ireturn, 1) := by decide +kernel
set_option maxRecDepth 20000 in
theorem ggX5_isFlat_X5_turn : GoodIn wsX5_isFlat wsX5_turn := goodIn_r _ [5, 6, 7, 8, 9, 10, 11, 12, 13, 14, 15, 16, 17, 18, 19, 20, 21, 22, 23] (by decide +kernel) (by decide +kernel)
set_option maxRecDepth 20000 in
theorem gX5_isFlat_X5_turn : GoodIn wsX5_isFlat (wsV RX5 30 RX5 yX5_turn wsX5_turn) := goodIn_app (goodIn_of _ (by decide +kernel)) ggX5_isFlat_X5_turn
theorem dX5_isFlat_0 : decode cX5_isFlat 0 = .ok (.aload_n 0, 1) := by decide +kernel
theorem dX5_isFlat_1 : decode cX5_isFlat 1 = .ok (.iload_n 1, 1) := by decide +kernel
theorem dX5_isFlat_2 : decode cX5_isFlat 2 = .ok (.iconst 0, 1) := by decide +kernel
theorem dX5_isFlat_3 : decode cX5_isFlat 3 = .ok (.invokevirtual 30, 3) := by decide +kernel
theorem dX5_isFlat_6 : decode cX5_isFlat 6 = .ok (.ifCond .eq 12, 3) := by decide +kernel
theorem dX5_isFlat_9 : decode cX5_isFlat 9 = .ok (.aload_n 0, 1) := by decide +kernel
theorem dX5_isFlat_10 : decode cX5_isFlat 10 = .ok (.iload_n 1, 1) := by decide +kernel
theorem dX5_isFlat_11 : decode cX5_isFlat 11 = .ok (.iconst 1, 1) := by decide +kernel
theorem dX5_isFlat_12 : decode cX5_isFlat 12 = .ok (.invokevirtual 30, 3) := by decide +kernel
theorem dX5_isFlat_15 : decode cX5_isFlat 15 = .ok (.ifCond .ne 7, 3) := by decide +kernel
theorem dX5_isFlat_18 : decode cX5_isFlat 18 = .ok (.iconst 1, 1) := by decide +kernel
theorem dX5_isFlat_19 : decode cX5_isFlat 19 = .ok (.goto 4, 3) := by decide +kernel
theorem dX5_isFlat_22 : decode cX5_isFlat 22 = .ok (.iconst 0, 1) := by decide +kernel
theorem dX5_isFlat_23 : decode cX5_isFlat 23 = .ok (.ireturn, 1) := by decide +kernel
set_option maxRecDepth 20000 in
theorem ggX5_isOver_X5_turn : GoodIn wsX5_isOver wsX5_turn := goodIn_r _ [5, 6, 7, 8, 9, 10, 11, 12, 13, 14, 15, 16, 17, 18, 19, 20, 21, 22, 23] (by decide +kernel) (by decide +kernel)
set_option maxRecDepth 20000 in
theorem gX5_isOver_X5_turn : GoodIn wsX5_isOver (wsV RX5 30 RX5 yX5_turn wsX5_turn) := goodIn_app (goodIn_of _ (by decide +kernel)) ggX5_isOver_X5_turn
theorem dX5_isOver_0 : decode cX5_isOver 0 = .ok (.aload_n 0, 1) := by decide +kernel
theorem dX5_isOver_1 : decode cX5_isOver 1 = .ok (.iload_n 1, 1) := by decide +kernel
theorem dX5_isOver_2 : decode cX5_isOver 2 = .ok (.iconst 0, 1) := by decide +kernel
theorem dX5_isOver_3 : decode cX5_isOver 3 = .ok (.invokevirtual 30, 3) := by decide +kernel
theorem dX5_isOver_6 : decode cX5_isOver 6 = .ok (.i2l, 1) := by decide +kernel
theorem dX5_isOver_7 : decode cX5_isOver 7 = .ok (.lstore_n 2, 1) := by decide +kernel
theorem dX5_isOver_8 : decode cX5_isOver 8 = .ok (.lload_n 2, 1) := by decide +kernel
theorem dX5_isOver_9 : decode cX5_isOver 9 = .ok (.aload_n 0, 1) := by decide +kernel
theorem dX5_isOver_10 : decode cX5_isOver 10 = .ok (.iload_n 1, 1) := by decide +kernel
theorem dX5_isOver_11 : decode cX5_isOver 11 = .ok (.iconst 1, 1) := by decide +kernel
theorem dX5_isOver_12 : decode cX5_isOver 12 = .ok (.invokevirtual 30, 3) := by decide +kernel
theorem dX5_isOver_15 : decode cX5_isOver 15 = .ok (.i2l, 1) := by decide +kernel
theorem dX5_isOver_16 : decode cX5_isOver 16 = .ok (.lmul, 1) := by decide +kernel
theorem dX5_isOver_17 : decode cX5_isOver 17 = .ok (.lconst 0, 1) := by decide +kernel
theorem dX5_isOver_18 : decode cX5_isOver 18 = .ok (.lcmp, 1) := by decide +kernel
theorem dX5_isOver_19 : decode cX5_isOver 19 = .ok (.ifCond .ge 7, 3) := by decide +kernel
theorem dX5_isOver_22 : decode cX5_isOver 22 = .ok (.iconst 1, 1) := by decide +kernel
theorem dX5_isOver_23 : decode cX5_isOver 23 = .ok (.goto 4, 3) := by decide +kernel
theorem dX5_isOver_26 : decode cX5_isOver 26 = .ok (.iconst 0, 1) := by decide +kernel
theorem dX5_isOver_27 : decode cX5_isOver 27 = .ok (.ireturn, 1) := by decide +kernel
set_option maxRecDepth 20000 in
theorem ggX5_inward_X2_side : GoodIn wsX5_inward wsX2_side := goodIn_r _ [6, 7, 11, 12, 13, 14] (by decide +kernel) (by decide +kernel)
set_option maxRecDepth 20000 in
theorem gX5_inward_X2_side_n33 : GoodIn wsX5_inward (wsX2_side) := ggX5_inward_X2_side
theorem dX5_inward_0 : decode cX5_inward 0 = .ok (.aload_n 0, 1) := by decide +kernel
theorem dX5_inward_1 : decode cX5_inward 1 = .ok (.getfield 17, 3) := by decide +kernel
theorem dX5_inward_4 : decode cX5_inward 4 = .ok (.iload_n 1, 1) := by decide +kernel
theorem dX5_inward_5 : decode cX5_inward 5 = .ok (.aaload, 1) := by decide +kernel
theorem dX5_inward_6 : decode cX5_inward 6 = .ok (.astore 8, 2) := by decide +kernel
theorem dX5_inward_8 : decode cX5_inward 8 = .ok (.lload_n 3, 1) := by decide +kernel
theorem dX5_inward_9 : decode cX5_inward 9 = .ok (.aload_n 0, 1) := by decide +kernel
theorem dX5_inward_10 : decode cX5_inward 10 = .ok (.getfield 20, 3) := by decide +kernel
theorem dX5_inward_13 : decode cX5_inward 13 = .ok (.iload_n 2, 1) := by decide +kernel
theorem dX5_inward_14 : decode cX5_inward 14 = .ok (.aload 8, 2) := by decide +kernel
theorem dX5_inward_16 : decode cX5_inward 16 = .ok (.iload 5, 2) := by decide +kernel
theorem dX5_inward_18 : decode cX5_inward 18 = .ok (.iaload, 1) := by decide +kernel
theorem dX5_inward_19 : decode cX5_inward 19 = .ok (.aload 8, 2) := by decide +kernel
theorem dX5_inward_21 : decode cX5_inward 21 = .ok (.iload 5, 2) := by decide +kernel
theorem dX5_inward_23 : decode cX5_inward 23 = .ok (.iconst 1, 1) := by decide +kernel
theorem dX5_inward_24 : decode cX5_inward 24 = .ok (.iadd, 1) := by decide +kernel
theorem dX5_inward_25 : decode cX5_inward 25 = .ok (.iconst 3, 1) := by decide +kernel
theorem dX5_inward_26 : decode cX5_inward 26 = .ok (.irem, 1) := by decide +kernel
theorem dX5_inward_27 : decode cX5_inward 27 = .ok (.iaload, 1) := by decide +kernel
theorem dX5_inward_28 : decode cX5_inward 28 = .ok (.iload 6, 2) := by decide +kernel
theorem dX5_inward_30 : decode cX5_inward 30 = .ok (.iload 7, 2) := by decide +kernel
theorem dX5_inward_32 : decode cX5_inward 32 = .ok (.invokevirtual 33, 3) := by decide +kernel
theorem dX5_inward_35 : decode cX5_inward 35 = .ok (.i2l, 1) := by decide +kernel
theorem dX5_inward_36 : decode cX5_inward 36 = .ok (.lmul, 1) := by decide +kernel
theorem dX5_inward_37 : decode cX5_inward 37 = .ok (.lreturn, 1) := by decide +kernel
set_option maxRecDepth 20000 in
theorem ggX5_holds_X5_turn : GoodIn wsX5_holds wsX5_turn := goodIn_r _ [5, 6, 7, 8, 9, 10, 11, 12, 13, 14, 15, 16, 21, 22, 23, 24, 25, 26, 27] (by decide +kernel) (by decide +kernel)
set_option maxRecDepth 20000 in
theorem gX5_holds_X5_turn : GoodIn wsX5_holds (wsV RX5 30 RX5 yX5_turn wsX5_turn) := goodIn_app (goodIn_of _ (by decide +kernel)) ggX5_holds_X5_turn
set_option maxRecDepth 20000 in
theorem ggX5_holds_X5_inward : GoodIn wsX5_holds wsX5_inward := goodIn_r _ [20, 6, 7, 14, 9, 15, 16, 12, 21, 22, 23, 24, 25, 26, 27] (by decide +kernel) (by decide +kernel)
set_option maxRecDepth 20000 in
theorem gX5_holds_X5_inward : GoodIn wsX5_holds (wsV RX5 37 RX5 yX5_inward wsX5_inward) := goodIn_app (goodIn_of _ (by decide +kernel)) ggX5_holds_X5_inward
theorem dX5_holds_0 : decode cX5_holds 0 = .ok (.aload_n 0, 1) := by decide +kernel
theorem dX5_holds_1 : decode cX5_holds 1 = .ok (.iload_n 1, 1) := by decide +kernel
theorem dX5_holds_2 : decode cX5_holds 2 = .ok (.iload_n 2, 1) := by decide +kernel
theorem dX5_holds_3 : decode cX5_holds 3 = .ok (.invokevirtual 30, 3) := by decide +kernel
theorem dX5_holds_6 : decode cX5_holds 6 = .ok (.i2l, 1) := by decide +kernel
theorem dX5_holds_7 : decode cX5_holds 7 = .ok (.lstore 5, 2) := by decide +kernel
theorem dX5_holds_9 : decode cX5_holds 9 = .ok (.iconst 0, 1) := by decide +kernel
theorem dX5_holds_10 : decode cX5_holds 10 = .ok (.istore 7, 2) := by decide +kernel
theorem dX5_holds_12 : decode cX5_holds 12 = .ok (.iload 7, 2) := by decide +kernel
theorem dX5_holds_14 : decode cX5_holds 14 = .ok (.iconst 3, 1) := by decide +kernel
theorem dX5_holds_15 : decode cX5_holds 15 = .ok (.if_icmp .ge 29, 3) := by decide +kernel
theorem dX5_holds_18 : decode cX5_holds 18 = .ok (.aload_n 0, 1) := by decide +kernel
theorem dX5_holds_19 : decode cX5_holds 19 = .ok (.iload_n 1, 1) := by decide +kernel
theorem dX5_holds_20 : decode cX5_holds 20 = .ok (.iload_n 2, 1) := by decide +kernel
theorem dX5_holds_21 : decode cX5_holds 21 = .ok (.lload 5, 2) := by decide +kernel
theorem dX5_holds_23 : decode cX5_holds 23 = .ok (.iload 7, 2) := by decide +kernel
theorem dX5_holds_25 : decode cX5_holds 25 = .ok (.iload_n 3, 1) := by decide +kernel
theorem dX5_holds_26 : decode cX5_holds 26 = .ok (.iload 4, 2) := by decide +kernel
theorem dX5_holds_28 : decode cX5_holds 28 = .ok (.invokevirtual 37, 3) := by decide +kernel
theorem dX5_holds_31 : decode cX5_holds 31 = .ok (.lconst 0, 1) := by decide +kernel
theorem dX5_holds_32 : decode cX5_holds 32 = .ok (.lcmp, 1) := by decide +kernel
theorem dX5_holds_33 : decode cX5_holds 33 = .ok (.ifCond .ge 5, 3) := by decide +kernel
theorem dX5_holds_36 : decode cX5_holds 36 = .ok (.iconst 0, 1) := by decide +kernel
theorem dX5_holds_37 : decode cX5_holds 37 = .ok (.ireturn, 1) := by decide +kernel
theorem dX5_holds_38 : decode cX5_holds 38 = .ok (.iinc 7 1, 3) := by decide +kernel
theorem dX5_holds_41 : decode cX5_holds 41 = .ok (.goto (-29), 3) := by decide +kernel
theorem dX5_holds_44 : decode cX5_holds 44 = .ok (.iconst 1, 1) := by decide +kernel
theorem dX5_holds_45 : decode cX5_holds 45 = .ok (.ireturn, 1) := by decide +kernel
set_option maxRecDepth 20000 in
theorem ggX5_firstAround_X5_isFlat : GoodIn wsX5_firstAround wsX5_isFlat := goodIn_r _ [6, 7, 8, 9, 5, 10, 11, 12, 13, 14, 15, 16, 17, 18, 19, 20, 21, 30, 31, 32, 33, 34, 35, 36] (by decide +kernel) (by decide +kernel)
set_option maxRecDepth 20000 in
theorem gX5_firstAround_X5_isFlat : GoodIn wsX5_firstAround (wsV RX5 41 RX5 yX5_isFlat wsX5_isFlat) := goodIn_app (goodIn_of _ (by decide +kernel)) ggX5_firstAround_X5_isFlat
set_option maxRecDepth 20000 in
theorem ggX5_firstAround_X5_holds : GoodIn wsX5_firstAround wsX5_holds := goodIn_r _ [25, 7, 8, 9, 5, 10, 11, 12, 13, 14, 15, 16, 17, 18, 19, 20, 21, 26, 27, 28, 29, 30, 31, 32, 33, 34, 35, 36] (by decide +kernel) (by decide +kernel)
set_option maxRecDepth 20000 in
theorem gX5_firstAround_X5_holds : GoodIn wsX5_firstAround (wsV RX5 45 RX5 yX5_holds wsX5_holds) := goodIn_app (goodIn_of _ (by decide +kernel)) ggX5_firstAround_X5_holds
theorem dX5_firstAround_0 : decode cX5_firstAround 0 = .ok (.iconst 0, 1) := by decide +kernel
theorem dX5_firstAround_1 : decode cX5_firstAround 1 = .ok (.istore 4, 2) := by decide +kernel
theorem dX5_firstAround_3 : decode cX5_firstAround 3 = .ok (.iload 4, 2) := by decide +kernel
theorem dX5_firstAround_5 : decode cX5_firstAround 5 = .ok (.aload_n 0, 1) := by decide +kernel
theorem dX5_firstAround_6 : decode cX5_firstAround 6 = .ok (.getfield 9, 3) := by decide +kernel
theorem dX5_firstAround_9 : decode cX5_firstAround 9 = .ok (.if_icmp .ge 33, 3) := by decide +kernel
theorem dX5_firstAround_12 : decode cX5_firstAround 12 = .ok (.aload_n 0, 1) := by decide +kernel
theorem dX5_firstAround_13 : decode cX5_firstAround 13 = .ok (.iload 4, 2) := by decide +kernel
theorem dX5_firstAround_15 : decode cX5_firstAround 15 = .ok (.invokevirtual 41, 3) := by decide +kernel
theorem dX5_firstAround_18 : decode cX5_firstAround 18 = .ok (.ifCond .ne 18, 3) := by decide +kernel
theorem dX5_firstAround_21 : decode cX5_firstAround 21 = .ok (.aload_n 0, 1) := by decide +kernel
theorem dX5_firstAround_22 : decode cX5_firstAround 22 = .ok (.iload 4, 2) := by decide +kernel
theorem dX5_firstAround_24 : decode cX5_firstAround 24 = .ok (.iload_n 1, 1) := by decide +kernel
theorem dX5_firstAround_25 : decode cX5_firstAround 25 = .ok (.iload_n 2, 1) := by decide +kernel
theorem dX5_firstAround_26 : decode cX5_firstAround 26 = .ok (.iload_n 3, 1) := by decide +kernel
theorem dX5_firstAround_27 : decode cX5_firstAround 27 = .ok (.invokevirtual 45, 3) := by decide +kernel
theorem dX5_firstAround_30 : decode cX5_firstAround 30 = .ok (.ifCond .eq 6, 3) := by decide +kernel
theorem dX5_firstAround_33 : decode cX5_firstAround 33 = .ok (.iload 4, 2) := by decide +kernel
theorem dX5_firstAround_35 : decode cX5_firstAround 35 = .ok (.ireturn, 1) := by decide +kernel
theorem dX5_firstAround_36 : decode cX5_firstAround 36 = .ok (.iinc 4 1, 3) := by decide +kernel
theorem dX5_firstAround_39 : decode cX5_firstAround 39 = .ok (.goto (-36), 3) := by decide +kernel
theorem dX5_firstAround_42 : decode cX5_firstAround 42 = .ok (.bipush (-5), 2) := by decide +kernel
theorem dX5_firstAround_44 : decode cX5_firstAround 44 = .ok (.ireturn, 1) := by decide +kernel
set_option maxRecDepth 20000 in
theorem ggX5_bentAbove_X2_side : GoodIn wsX5_bentAbove wsX2_side := goodIn_r _ [6, 7, 20, 21, 22, 23] (by decide +kernel) (by decide +kernel)
set_option maxRecDepth 20000 in
theorem gX5_bentAbove_X2_side_n33 : GoodIn wsX5_bentAbove (wsX2_side) := ggX5_bentAbove_X2_side
set_option maxRecDepth 20000 in
theorem ggX5_bentAbove_X5_turn : GoodIn wsX5_bentAbove wsX5_turn := goodIn_r _ [12, 1, 2, 13, 4, 14, 15, 7, 16, 3, 5, 6, 17, 18, 19, 20, 21, 22, 23] (by decide +kernel) (by decide +kernel)
set_option maxRecDepth 20000 in
theorem gX5_bentAbove_X5_turn : GoodIn wsX5_bentAbove (wsV RX5 30 RX5 yX5_turn wsX5_turn) := goodIn_app (goodIn_of _ (by decide +kernel)) ggX5_bentAbove_X5_turn
theorem dX5_bentAbove_0 : decode cX5_bentAbove 0 = .ok (.aload_n 0, 1) := by decide +kernel
theorem dX5_bentAbove_1 : decode cX5_bentAbove 1 = .ok (.getfield 17, 3) := by decide +kernel
theorem dX5_bentAbove_4 : decode cX5_bentAbove 4 = .ok (.iload_n 1, 1) := by decide +kernel
theorem dX5_bentAbove_5 : decode cX5_bentAbove 5 = .ok (.aaload, 1) := by decide +kernel
theorem dX5_bentAbove_6 : decode cX5_bentAbove 6 = .ok (.astore 6, 2) := by decide +kernel
theorem dX5_bentAbove_8 : decode cX5_bentAbove 8 = .ok (.aload_n 0, 1) := by decide +kernel
theorem dX5_bentAbove_9 : decode cX5_bentAbove 9 = .ok (.getfield 20, 3) := by decide +kernel
theorem dX5_bentAbove_12 : decode cX5_bentAbove 12 = .ok (.getfield 49, 3) := by decide +kernel
theorem dX5_bentAbove_15 : decode cX5_bentAbove 15 = .ok (.iconst 2, 1) := by decide +kernel
theorem dX5_bentAbove_16 : decode cX5_bentAbove 16 = .ok (.iconst 1, 1) := by decide +kernel
theorem dX5_bentAbove_17 : decode cX5_bentAbove 17 = .ok (.iload_n 2, 1) := by decide +kernel
theorem dX5_bentAbove_18 : decode cX5_bentAbove 18 = .ok (.isub, 1) := by decide +kernel
theorem dX5_bentAbove_19 : decode cX5_bentAbove 19 = .ok (.imul, 1) := by decide +kernel
theorem dX5_bentAbove_20 : decode cX5_bentAbove 20 = .ok (.iload 5, 2) := by decide +kernel
theorem dX5_bentAbove_22 : decode cX5_bentAbove 22 = .ok (.iadd, 1) := by decide +kernel
theorem dX5_bentAbove_23 : decode cX5_bentAbove 23 = .ok (.aaload, 1) := by decide +kernel
theorem dX5_bentAbove_24 : decode cX5_bentAbove 24 = .ok (.astore 7, 2) := by decide +kernel
theorem dX5_bentAbove_26 : decode cX5_bentAbove 26 = .ok (.aload 7, 2) := by decide +kernel
theorem dX5_bentAbove_28 : decode cX5_bentAbove 28 = .ok (.aload 6, 2) := by decide +kernel
theorem dX5_bentAbove_30 : decode cX5_bentAbove 30 = .ok (.iconst 0, 1) := by decide +kernel
theorem dX5_bentAbove_31 : decode cX5_bentAbove 31 = .ok (.iaload, 1) := by decide +kernel
theorem dX5_bentAbove_32 : decode cX5_bentAbove 32 = .ok (.iaload, 1) := by decide +kernel
theorem dX5_bentAbove_33 : decode cX5_bentAbove 33 = .ok (.i2l, 1) := by decide +kernel
theorem dX5_bentAbove_34 : decode cX5_bentAbove 34 = .ok (.lstore 8, 2) := by decide +kernel
theorem dX5_bentAbove_36 : decode cX5_bentAbove 36 = .ok (.aload_n 0, 1) := by decide +kernel
theorem dX5_bentAbove_37 : decode cX5_bentAbove 37 = .ok (.getfield 20, 3) := by decide +kernel
theorem dX5_bentAbove_40 : decode cX5_bentAbove 40 = .ok (.iload_n 2, 1) := by decide +kernel
theorem dX5_bentAbove_41 : decode cX5_bentAbove 41 = .ok (.aload 6, 2) := by decide +kernel
theorem dX5_bentAbove_43 : decode cX5_bentAbove 43 = .ok (.iconst 2, 1) := by decide +kernel
theorem dX5_bentAbove_44 : decode cX5_bentAbove 44 = .ok (.iaload, 1) := by decide +kernel
theorem dX5_bentAbove_45 : decode cX5_bentAbove 45 = .ok (.aload 6, 2) := by decide +kernel
theorem dX5_bentAbove_47 : decode cX5_bentAbove 47 = .ok (.iconst 0, 1) := by decide +kernel
theorem dX5_bentAbove_48 : decode cX5_bentAbove 48 = .ok (.iaload, 1) := by decide +kernel
theorem dX5_bentAbove_49 : decode cX5_bentAbove 49 = .ok (.iload_n 3, 1) := by decide +kernel
theorem dX5_bentAbove_50 : decode cX5_bentAbove 50 = .ok (.iload 4, 2) := by decide +kernel
theorem dX5_bentAbove_52 : decode cX5_bentAbove 52 = .ok (.invokevirtual 33, 3) := by decide +kernel
theorem dX5_bentAbove_55 : decode cX5_bentAbove 55 = .ok (.i2l, 1) := by decide +kernel
theorem dX5_bentAbove_56 : decode cX5_bentAbove 56 = .ok (.lstore 10, 2) := by decide +kernel
theorem dX5_bentAbove_58 : decode cX5_bentAbove 58 = .ok (.aload_n 0, 1) := by decide +kernel
theorem dX5_bentAbove_59 : decode cX5_bentAbove 59 = .ok (.getfield 20, 3) := by decide +kernel
theorem dX5_bentAbove_62 : decode cX5_bentAbove 62 = .ok (.iload_n 2, 1) := by decide +kernel
theorem dX5_bentAbove_63 : decode cX5_bentAbove 63 = .ok (.aload 6, 2) := by decide +kernel
theorem dX5_bentAbove_65 : decode cX5_bentAbove 65 = .ok (.iconst 0, 1) := by decide +kernel
theorem dX5_bentAbove_66 : decode cX5_bentAbove 66 = .ok (.iaload, 1) := by decide +kernel
theorem dX5_bentAbove_67 : decode cX5_bentAbove 67 = .ok (.aload 6, 2) := by decide +kernel
theorem dX5_bentAbove_69 : decode cX5_bentAbove 69 = .ok (.iconst 1, 1) := by decide +kernel
theorem dX5_bentAbove_70 : decode cX5_bentAbove 70 = .ok (.iaload, 1) := by decide +kernel
theorem dX5_bentAbove_71 : decode cX5_bentAbove 71 = .ok (.iload_n 3, 1) := by decide +kernel
theorem dX5_bentAbove_72 : decode cX5_bentAbove 72 = .ok (.iload 4, 2) := by decide +kernel
theorem dX5_bentAbove_74 : decode cX5_bentAbove 74 = .ok (.invokevirtual 33, 3) := by decide +kernel
theorem dX5_bentAbove_77 : decode cX5_bentAbove 77 = .ok (.i2l, 1) := by decide +kernel
theorem dX5_bentAbove_78 : decode cX5_bentAbove 78 = .ok (.lstore 12, 2) := by decide +kernel
theorem dX5_bentAbove_80 : decode cX5_bentAbove 80 = .ok (.lload 8, 2) := by decide +kernel
theorem dX5_bentAbove_82 : decode cX5_bentAbove 82 = .ok (.aload_n 0, 1) := by decide +kernel
theorem dX5_bentAbove_83 : decode cX5_bentAbove 83 = .ok (.iload_n 1, 1) := by decide +kernel
theorem dX5_bentAbove_84 : decode cX5_bentAbove 84 = .ok (.iload_n 2, 1) := by decide +kernel
theorem dX5_bentAbove_85 : decode cX5_bentAbove 85 = .ok (.invokevirtual 30, 3) := by decide +kernel
theorem dX5_bentAbove_88 : decode cX5_bentAbove 88 = .ok (.i2l, 1) := by decide +kernel
theorem dX5_bentAbove_89 : decode cX5_bentAbove 89 = .ok (.lmul, 1) := by decide +kernel
theorem dX5_bentAbove_90 : decode cX5_bentAbove 90 = .ok (.lload 10, 2) := by decide +kernel
theorem dX5_bentAbove_92 : decode cX5_bentAbove 92 = .ok (.aload 7, 2) := by decide +kernel
theorem dX5_bentAbove_94 : decode cX5_bentAbove 94 = .ok (.aload 6, 2) := by decide +kernel
theorem dX5_bentAbove_96 : decode cX5_bentAbove 96 = .ok (.iconst 1, 1) := by decide +kernel
theorem dX5_bentAbove_97 : decode cX5_bentAbove 97 = .ok (.iaload, 1) := by decide +kernel
theorem dX5_bentAbove_98 : decode cX5_bentAbove 98 = .ok (.iaload, 1) := by decide +kernel
theorem dX5_bentAbove_99 : decode cX5_bentAbove 99 = .ok (.i2l, 1) := by decide +kernel
theorem dX5_bentAbove_100 : decode cX5_bentAbove 100 = .ok (.lload 8, 2) := by decide +kernel
theorem dX5_bentAbove_102 : decode cX5_bentAbove 102 = .ok (.lsub, 1) := by decide +kernel
theorem dX5_bentAbove_103 : decode cX5_bentAbove 103 = .ok (.lmul, 1) := by decide +kernel
theorem dX5_bentAbove_104 : decode cX5_bentAbove 104 = .ok (.ladd, 1) := by decide +kernel
theorem dX5_bentAbove_105 : decode cX5_bentAbove 105 = .ok (.lload 12, 2) := by decide +kernel
theorem dX5_bentAbove_107 : decode cX5_bentAbove 107 = .ok (.aload 7, 2) := by decide +kernel
theorem dX5_bentAbove_109 : decode cX5_bentAbove 109 = .ok (.aload 6, 2) := by decide +kernel
theorem dX5_bentAbove_111 : decode cX5_bentAbove 111 = .ok (.iconst 2, 1) := by decide +kernel
theorem dX5_bentAbove_112 : decode cX5_bentAbove 112 = .ok (.iaload, 1) := by decide +kernel
theorem dX5_bentAbove_113 : decode cX5_bentAbove 113 = .ok (.iaload, 1) := by decide +kernel
theorem dX5_bentAbove_114 : decode cX5_bentAbove 114 = .ok (.i2l, 1) := by decide +kernel
theorem dX5_bentAbove_115 : decode cX5_bentAbove 115 = .ok (.lload 8, 2) := by decide +kernel
theorem dX5_bentAbove_117 : decode cX5_bentAbove 117 = .ok (.lsub, 1) := by decide +kernel
theorem dX5_bentAbove_118 : decode cX5_bentAbove 118 = .ok (.lmul, 1) := by decide +kernel
theorem dX5_bentAbove_119 : decode cX5_bentAbove 119 = .ok (.ladd, 1) := by decide +kernel
theorem dX5_bentAbove_120 : decode cX5_bentAbove 120 = .ok (.lreturn, 1) := by decide +kernel
set_option maxRecDepth 20000 in
theorem ggX5_overlap_X5_isParted : GoodIn wsX5_overlap wsX5_isParted := goodIn_r _ [5, 6, 7, 8, 9, 4, 10, 11, 12, 13, 14, 15, 16, 17, 18, 19, 20, 21, 22, 23, 24, 25, 26, 27, 28, 29, 30, 31, 32, 33, 34, 35] (by decide +kernel) (by decide +kernel)
set_option maxRecDepth 20000 in
theorem gX5_overlap_X5_isParted : GoodIn wsX5_overlap (wsV RX5 52 RX5 yX5_isParted wsX5_isParted) := goodIn_app (goodIn_of _ (by decide +kernel)) ggX5_overlap_X5_isParted
theorem dX5_overlap_0 : decode cX5_overlap 0 = .ok (.aload_n 0, 1) := by decide +kernel
theorem dX5_overlap_1 : decode cX5_overlap 1 = .ok (.iload_n 1, 1) := by decide +kernel
theorem dX5_overlap_2 : decode cX5_overlap 2 = .ok (.iload_n 2, 1) := by decide +kernel
theorem dX5_overlap_3 : decode cX5_overlap 3 = .ok (.iload_n 3, 1) := by decide +kernel
theorem dX5_overlap_4 : decode cX5_overlap 4 = .ok (.invokevirtual 52, 3) := by decide +kernel
theorem dX5_overlap_7 : decode cX5_overlap 7 = .ok (.ifCond .ne 17, 3) := by decide +kernel
theorem dX5_overlap_10 : decode cX5_overlap 10 = .ok (.aload_n 0, 1) := by decide +kernel
theorem dX5_overlap_11 : decode cX5_overlap 11 = .ok (.iload_n 2, 1) := by decide +kernel
theorem dX5_overlap_12 : decode cX5_overlap 12 = .ok (.iload_n 1, 1) := by decide +kernel
theorem dX5_overlap_13 : decode cX5_overlap 13 = .ok (.iload_n 3, 1) := by decide +kernel
theorem dX5_overlap_14 : decode cX5_overlap 14 = .ok (.invokevirtual 52, 3) := by decide +kernel
theorem dX5_overlap_17 : decode cX5_overlap 17 = .ok (.ifCond .ne 7, 3) := by decide +kernel
theorem dX5_overlap_20 : decode cX5_overlap 20 = .ok (.iconst 1, 1) := by decide +kernel
theorem dX5_overlap_21 : decode cX5_overlap 21 = .ok (.goto 4, 3) := by decide +kernel
theorem dX5_overlap_24 : decode cX5_overlap 24 = .ok (.iconst 0, 1) := by decide +kernel
theorem dX5_overlap_25 : decode cX5_overlap 25 = .ok (.ireturn, 1) := by decide +kernel
set_option maxRecDepth 20000 in
theorem ggX5_isParted_X5_turn : GoodIn wsX5_isParted wsX5_turn := goodIn_r _ [6, 1, 7, 8, 9, 10, 11, 12, 13, 14, 15, 16, 25, 26, 27, 28, 29, 30, 31] (by decide +kernel) (by decide +kernel)
set_option maxRecDepth 20000 in
theorem gX5_isParted_X5_turn : GoodIn wsX5_isParted (wsV RX5 30 RX5 yX5_turn wsX5_turn) := goodIn_app (goodIn_of _ (by decide +kernel)) ggX5_isParted_X5_turn
set_option maxRecDepth 20000 in
theorem ggX5_isParted_X5_isOutside : GoodIn wsX5_isParted wsX5_isOutside := goodIn_r _ [20, 7, 21, 22, 23, 5, 24, 1, 14, 9, 15, 16, 12, 25, 26, 27, 28, 29, 30, 31] (by decide +kernel) (by decide +kernel)
set_option maxRecDepth 20000 in
theorem gX5_isParted_X5_isOutside : GoodIn wsX5_isParted (wsV RX5 56 RX5 yX5_isOutside wsX5_isOutside) := goodIn_app (goodIn_of _ (by decide +kernel)) ggX5_isParted_X5_isOutside
theorem dX5_isParted_0 : decode cX5_isParted 0 = .ok (.aload_n 0, 1) := by decide +kernel
theorem dX5_isParted_1 : decode cX5_isParted 1 = .ok (.iload_n 1, 1) := by decide +kernel
theorem dX5_isParted_2 : decode cX5_isParted 2 = .ok (.iload_n 3, 1) := by decide +kernel
theorem dX5_isParted_3 : decode cX5_isParted 3 = .ok (.invokevirtual 30, 3) := by decide +kernel
theorem dX5_isParted_6 : decode cX5_isParted 6 = .ok (.i2l, 1) := by decide +kernel
theorem dX5_isParted_7 : decode cX5_isParted 7 = .ok (.lstore 4, 2) := by decide +kernel
theorem dX5_isParted_9 : decode cX5_isParted 9 = .ok (.iconst 0, 1) := by decide +kernel
theorem dX5_isParted_10 : decode cX5_isParted 10 = .ok (.istore 6, 2) := by decide +kernel
theorem dX5_isParted_12 : decode cX5_isParted 12 = .ok (.iload 6, 2) := by decide +kernel
theorem dX5_isParted_14 : decode cX5_isParted 14 = .ok (.iconst 3, 1) := by decide +kernel
theorem dX5_isParted_15 : decode cX5_isParted 15 = .ok (.if_icmp .ge 30, 3) := by decide +kernel
theorem dX5_isParted_18 : decode cX5_isParted 18 = .ok (.aload_n 0, 1) := by decide +kernel
theorem dX5_isParted_19 : decode cX5_isParted 19 = .ok (.iload_n 1, 1) := by decide +kernel
theorem dX5_isParted_20 : decode cX5_isParted 20 = .ok (.iload_n 3, 1) := by decide +kernel
theorem dX5_isParted_21 : decode cX5_isParted 21 = .ok (.lload 4, 2) := by decide +kernel
theorem dX5_isParted_23 : decode cX5_isParted 23 = .ok (.iload 6, 2) := by decide +kernel
theorem dX5_isParted_25 : decode cX5_isParted 25 = .ok (.aload_n 0, 1) := by decide +kernel
theorem dX5_isParted_26 : decode cX5_isParted 26 = .ok (.getfield 17, 3) := by decide +kernel
theorem dX5_isParted_29 : decode cX5_isParted 29 = .ok (.iload_n 2, 1) := by decide +kernel
theorem dX5_isParted_30 : decode cX5_isParted 30 = .ok (.aaload, 1) := by decide +kernel
theorem dX5_isParted_31 : decode cX5_isParted 31 = .ok (.invokevirtual 56, 3) := by decide +kernel
theorem dX5_isParted_34 : decode cX5_isParted 34 = .ok (.ifCond .eq 5, 3) := by decide +kernel
theorem dX5_isParted_37 : decode cX5_isParted 37 = .ok (.iconst 1, 1) := by decide +kernel
theorem dX5_isParted_38 : decode cX5_isParted 38 = .ok (.ireturn, 1) := by decide +kernel
theorem dX5_isParted_39 : decode cX5_isParted 39 = .ok (.iinc 6 1, 3) := by decide +kernel
theorem dX5_isParted_42 : decode cX5_isParted 42 = .ok (.goto (-30), 3) := by decide +kernel
theorem dX5_isParted_45 : decode cX5_isParted 45 = .ok (.iconst 0, 1) := by decide +kernel
theorem dX5_isParted_46 : decode cX5_isParted 46 = .ok (.ireturn, 1) := by decide +kernel
set_option maxRecDepth 20000 in
theorem ggX5_isOutside_X5_inward : GoodIn wsX5_isOutside wsX5_inward := goodIn_r _ [6, 7, 1, 8, 9, 10, 11, 12, 13, 14, 15, 16, 17, 18, 19] (by decide +kernel) (by decide +kernel)
set_option maxRecDepth 20000 in
theorem gX5_isOutside_X5_inward : GoodIn wsX5_isOutside (wsV RX5 37 RX5 yX5_inward wsX5_inward) := goodIn_app (goodIn_of _ (by decide +kernel)) ggX5_isOutside_X5_inward
theorem dX5_isOutside_0 : decode cX5_isOutside 0 = .ok (.aload_n 0, 1) := by decide +kernel
theorem dX5_isOutside_1 : decode cX5_isOutside 1 = .ok (.getfield 20, 3) := by decide +kernel
theorem dX5_isOutside_4 : decode cX5_isOutside 4 = .ok (.getfield 49, 3) := by decide +kernel
theorem dX5_isOutside_7 : decode cX5_isOutside 7 = .ok (.iconst 2, 1) := by decide +kernel
theorem dX5_isOutside_8 : decode cX5_isOutside 8 = .ok (.iload_n 2, 1) := by decide +kernel
theorem dX5_isOutside_9 : decode cX5_isOutside 9 = .ok (.imul, 1) := by decide +kernel
theorem dX5_isOutside_10 : decode cX5_isOutside 10 = .ok (.aaload, 1) := by decide +kernel
theorem dX5_isOutside_11 : decode cX5_isOutside 11 = .ok (.astore 7, 2) := by decide +kernel
theorem dX5_isOutside_13 : decode cX5_isOutside 13 = .ok (.aload_n 0, 1) := by decide +kernel
theorem dX5_isOutside_14 : decode cX5_isOutside 14 = .ok (.getfield 20, 3) := by decide +kernel
theorem dX5_isOutside_17 : decode cX5_isOutside 17 = .ok (.getfield 49, 3) := by decide +kernel
theorem dX5_isOutside_20 : decode cX5_isOutside 20 = .ok (.iconst 2, 1) := by decide +kernel
theorem dX5_isOutside_21 : decode cX5_isOutside 21 = .ok (.iload_n 2, 1) := by decide +kernel
theorem dX5_isOutside_22 : decode cX5_isOutside 22 = .ok (.imul, 1) := by decide +kernel
theorem dX5_isOutside_23 : decode cX5_isOutside 23 = .ok (.iconst 1, 1) := by decide +kernel
theorem dX5_isOutside_24 : decode cX5_isOutside 24 = .ok (.iadd, 1) := by decide +kernel
theorem dX5_isOutside_25 : decode cX5_isOutside 25 = .ok (.aaload, 1) := by decide +kernel
theorem dX5_isOutside_26 : decode cX5_isOutside 26 = .ok (.astore 8, 2) := by decide +kernel
theorem dX5_isOutside_28 : decode cX5_isOutside 28 = .ok (.aload 6, 2) := by decide +kernel
theorem dX5_isOutside_30 : decode cX5_isOutside 30 = .ok (.astore 9, 2) := by decide +kernel
theorem dX5_isOutside_32 : decode cX5_isOutside 32 = .ok (.aload 9, 2) := by decide +kernel
theorem dX5_isOutside_34 : decode cX5_isOutside 34 = .ok (.arraylength, 1) := by decide +kernel
theorem dX5_isOutside_35 : decode cX5_isOutside 35 = .ok (.istore 10, 2) := by decide +kernel
theorem dX5_isOutside_37 : decode cX5_isOutside 37 = .ok (.iconst 0, 1) := by decide +kernel
theorem dX5_isOutside_38 : decode cX5_isOutside 38 = .ok (.istore 11, 2) := by decide +kernel
theorem dX5_isOutside_40 : decode cX5_isOutside 40 = .ok (.iload 11, 2) := by decide +kernel
theorem dX5_isOutside_42 : decode cX5_isOutside 42 = .ok (.iload 10, 2) := by decide +kernel
theorem dX5_isOutside_44 : decode cX5_isOutside 44 = .ok (.if_icmp .ge 42, 3) := by decide +kernel
theorem dX5_isOutside_47 : decode cX5_isOutside 47 = .ok (.aload 9, 2) := by decide +kernel
theorem dX5_isOutside_49 : decode cX5_isOutside 49 = .ok (.iload 11, 2) := by decide +kernel
theorem dX5_isOutside_51 : decode cX5_isOutside 51 = .ok (.iaload, 1) := by decide +kernel
theorem dX5_isOutside_52 : decode cX5_isOutside 52 = .ok (.istore 12, 2) := by decide +kernel
theorem dX5_isOutside_54 : decode cX5_isOutside 54 = .ok (.aload_n 0, 1) := by decide +kernel
theorem dX5_isOutside_55 : decode cX5_isOutside 55 = .ok (.iload_n 1, 1) := by decide +kernel
theorem dX5_isOutside_56 : decode cX5_isOutside 56 = .ok (.iload_n 2, 1) := by decide +kernel
theorem dX5_isOutside_57 : decode cX5_isOutside 57 = .ok (.lload_n 3, 1) := by decide +kernel
theorem dX5_isOutside_58 : decode cX5_isOutside 58 = .ok (.iload 5, 2) := by decide +kernel
theorem dX5_isOutside_60 : decode cX5_isOutside 60 = .ok (.aload 7, 2) := by decide +kernel
theorem dX5_isOutside_62 : decode cX5_isOutside 62 = .ok (.iload 12, 2) := by decide +kernel
theorem dX5_isOutside_64 : decode cX5_isOutside 64 = .ok (.iaload, 1) := by decide +kernel
theorem dX5_isOutside_65 : decode cX5_isOutside 65 = .ok (.aload 8, 2) := by decide +kernel
theorem dX5_isOutside_67 : decode cX5_isOutside 67 = .ok (.iload 12, 2) := by decide +kernel
theorem dX5_isOutside_69 : decode cX5_isOutside 69 = .ok (.iaload, 1) := by decide +kernel
theorem dX5_isOutside_70 : decode cX5_isOutside 70 = .ok (.invokevirtual 37, 3) := by decide +kernel
theorem dX5_isOutside_73 : decode cX5_isOutside 73 = .ok (.lconst 0, 1) := by decide +kernel
theorem dX5_isOutside_74 : decode cX5_isOutside 74 = .ok (.lcmp, 1) := by decide +kernel
theorem dX5_isOutside_75 : decode cX5_isOutside 75 = .ok (.ifCond .le 5, 3) := by decide +kernel
theorem dX5_isOutside_78 : decode cX5_isOutside 78 = .ok (.iconst 0, 1) := by decide +kernel
theorem dX5_isOutside_79 : decode cX5_isOutside 79 = .ok (.ireturn, 1) := by decide +kernel
theorem dX5_isOutside_80 : decode cX5_isOutside 80 = .ok (.iinc 11 1, 3) := by decide +kernel
theorem dX5_isOutside_83 : decode cX5_isOutside 83 = .ok (.goto (-43), 3) := by decide +kernel
theorem dX5_isOutside_86 : decode cX5_isOutside 86 = .ok (.iconst 1, 1) := by decide +kernel
theorem dX5_isOutside_87 : decode cX5_isOutside 87 = .ok (.ireturn, 1) := by decide +kernel
set_option maxRecDepth 20000 in
theorem ggX5_manyOver_X5_isOver : GoodIn wsX5_manyOver wsX5_isOver := goodIn_r _ [6, 7, 8, 9, 5, 10, 11, 12, 13, 14, 15, 16, 17, 18, 19, 20, 21, 22, 23, 24, 25, 26, 27, 28] (by decide +kernel) (by decide +kernel)
set_option maxRecDepth 20000 in
theorem gX5_manyOver_X5_isOver : GoodIn wsX5_manyOver (wsV RX5 60 RX5 yX5_isOver wsX5_isOver) := goodIn_app (goodIn_of _ (by decide +kernel)) ggX5_manyOver_X5_isOver
theorem dX5_manyOver_0 : decode cX5_manyOver 0 = .ok (.iconst 0, 1) := by decide +kernel
theorem dX5_manyOver_1 : decode cX5_manyOver 1 = .ok (.istore_n 1, 1) := by decide +kernel
theorem dX5_manyOver_2 : decode cX5_manyOver 2 = .ok (.iconst 0, 1) := by decide +kernel
theorem dX5_manyOver_3 : decode cX5_manyOver 3 = .ok (.istore_n 2, 1) := by decide +kernel
theorem dX5_manyOver_4 : decode cX5_manyOver 4 = .ok (.iload_n 2, 1) := by decide +kernel
theorem dX5_manyOver_5 : decode cX5_manyOver 5 = .ok (.aload_n 0, 1) := by decide +kernel
theorem dX5_manyOver_6 : decode cX5_manyOver 6 = .ok (.getfield 9, 3) := by decide +kernel
theorem dX5_manyOver_9 : decode cX5_manyOver 9 = .ok (.if_icmp .ge 25, 3) := by decide +kernel
theorem dX5_manyOver_12 : decode cX5_manyOver 12 = .ok (.iload_n 1, 1) := by decide +kernel
theorem dX5_manyOver_13 : decode cX5_manyOver 13 = .ok (.aload_n 0, 1) := by decide +kernel
theorem dX5_manyOver_14 : decode cX5_manyOver 14 = .ok (.iload_n 2, 1) := by decide +kernel
theorem dX5_manyOver_15 : decode cX5_manyOver 15 = .ok (.invokevirtual 60, 3) := by decide +kernel
theorem dX5_manyOver_18 : decode cX5_manyOver 18 = .ok (.ifCond .eq 7, 3) := by decide +kernel
theorem dX5_manyOver_21 : decode cX5_manyOver 21 = .ok (.iconst 1, 1) := by decide +kernel
theorem dX5_manyOver_22 : decode cX5_manyOver 22 = .ok (.goto 4, 3) := by decide +kernel
theorem dX5_manyOver_25 : decode cX5_manyOver 25 = .ok (.iconst 0, 1) := by decide +kernel
theorem dX5_manyOver_26 : decode cX5_manyOver 26 = .ok (.iadd, 1) := by decide +kernel
theorem dX5_manyOver_27 : decode cX5_manyOver 27 = .ok (.istore_n 1, 1) := by decide +kernel
theorem dX5_manyOver_28 : decode cX5_manyOver 28 = .ok (.iinc 2 1, 3) := by decide +kernel
theorem dX5_manyOver_31 : decode cX5_manyOver 31 = .ok (.goto (-27), 3) := by decide +kernel
theorem dX5_manyOver_34 : decode cX5_manyOver 34 = .ok (.iload_n 1, 1) := by decide +kernel
theorem dX5_manyOver_35 : decode cX5_manyOver 35 = .ok (.ireturn, 1) := by decide +kernel
set_option maxRecDepth 20000 in
theorem ggX5_manyFlat_X5_isFlat : GoodIn wsX5_manyFlat wsX5_isFlat := goodIn_r _ [6, 7, 8, 9, 5, 10, 11, 12, 13, 14, 15, 16, 17, 18, 19, 20, 21, 22, 23, 24, 25, 26, 27, 28] (by decide +kernel) (by decide +kernel)
set_option maxRecDepth 20000 in
theorem gX5_manyFlat_X5_isFlat : GoodIn wsX5_manyFlat (wsV RX5 41 RX5 yX5_isFlat wsX5_isFlat) := goodIn_app (goodIn_of _ (by decide +kernel)) ggX5_manyFlat_X5_isFlat
theorem dX5_manyFlat_0 : decode cX5_manyFlat 0 = .ok (.iconst 0, 1) := by decide +kernel
theorem dX5_manyFlat_1 : decode cX5_manyFlat 1 = .ok (.istore_n 1, 1) := by decide +kernel
theorem dX5_manyFlat_2 : decode cX5_manyFlat 2 = .ok (.iconst 0, 1) := by decide +kernel
theorem dX5_manyFlat_3 : decode cX5_manyFlat 3 = .ok (.istore_n 2, 1) := by decide +kernel
theorem dX5_manyFlat_4 : decode cX5_manyFlat 4 = .ok (.iload_n 2, 1) := by decide +kernel
theorem dX5_manyFlat_5 : decode cX5_manyFlat 5 = .ok (.aload_n 0, 1) := by decide +kernel
theorem dX5_manyFlat_6 : decode cX5_manyFlat 6 = .ok (.getfield 9, 3) := by decide +kernel
theorem dX5_manyFlat_9 : decode cX5_manyFlat 9 = .ok (.if_icmp .ge 25, 3) := by decide +kernel
theorem dX5_manyFlat_12 : decode cX5_manyFlat 12 = .ok (.iload_n 1, 1) := by decide +kernel
theorem dX5_manyFlat_13 : decode cX5_manyFlat 13 = .ok (.aload_n 0, 1) := by decide +kernel
theorem dX5_manyFlat_14 : decode cX5_manyFlat 14 = .ok (.iload_n 2, 1) := by decide +kernel
theorem dX5_manyFlat_15 : decode cX5_manyFlat 15 = .ok (.invokevirtual 41, 3) := by decide +kernel
theorem dX5_manyFlat_18 : decode cX5_manyFlat 18 = .ok (.ifCond .eq 7, 3) := by decide +kernel
theorem dX5_manyFlat_21 : decode cX5_manyFlat 21 = .ok (.iconst 1, 1) := by decide +kernel
theorem dX5_manyFlat_22 : decode cX5_manyFlat 22 = .ok (.goto 4, 3) := by decide +kernel
theorem dX5_manyFlat_25 : decode cX5_manyFlat 25 = .ok (.iconst 0, 1) := by decide +kernel
theorem dX5_manyFlat_26 : decode cX5_manyFlat 26 = .ok (.iadd, 1) := by decide +kernel
theorem dX5_manyFlat_27 : decode cX5_manyFlat 27 = .ok (.istore_n 1, 1) := by decide +kernel
theorem dX5_manyFlat_28 : decode cX5_manyFlat 28 = .ok (.iinc 2 1, 3) := by decide +kernel
theorem dX5_manyFlat_31 : decode cX5_manyFlat 31 = .ok (.goto (-27), 3) := by decide +kernel
theorem dX5_manyFlat_34 : decode cX5_manyFlat 34 = .ok (.iload_n 1, 1) := by decide +kernel
theorem dX5_manyFlat_35 : decode cX5_manyFlat 35 = .ok (.ireturn, 1) := by decide +kernel
set_option maxRecDepth 20000 in
theorem ggX5_manyOverlaps_X5_isFlat : GoodIn wsX5_manyOverlaps wsX5_isFlat := goodIn_r _ [6, 7, 8, 9, 5, 10, 11, 12, 13, 14, 15, 16, 17, 18, 19, 20, 21, 38, 39, 40, 41, 42, 43, 44] (by decide +kernel) (by decide +kernel)
set_option maxRecDepth 20000 in
theorem gX5_manyOverlaps_X5_isFlat : GoodIn wsX5_manyOverlaps (wsV RX5 41 RX5 yX5_isFlat wsX5_isFlat) := goodIn_app (goodIn_of _ (by decide +kernel)) ggX5_manyOverlaps_X5_isFlat
set_option maxRecDepth 20000 in
theorem ggX5_manyOverlaps_X5_overlap : GoodIn wsX5_manyOverlaps wsX5_overlap := goodIn_r _ [25, 26, 27, 28, 5, 29, 11, 7, 8, 9, 10, 12, 13, 14, 15, 16, 17, 18, 19, 20, 21, 30, 31, 32, 33, 34, 35, 36, 37, 38, 39, 40, 41, 42, 43, 44] (by decide +kernel) (by decide +kernel)
set_option maxRecDepth 20000 in
theorem gX5_manyOverlaps_X5_overlap : GoodIn wsX5_manyOverlaps (wsV RX5 63 RX5 yX5_overlap wsX5_overlap) := goodIn_app (goodIn_of _ (by decide +kernel)) ggX5_manyOverlaps_X5_overlap
theorem dX5_manyOverlaps_0 : decode cX5_manyOverlaps 0 = .ok (.iconst 0, 1) := by decide +kernel
theorem dX5_manyOverlaps_1 : decode cX5_manyOverlaps 1 = .ok (.istore_n 2, 1) := by decide +kernel
theorem dX5_manyOverlaps_2 : decode cX5_manyOverlaps 2 = .ok (.iconst 0, 1) := by decide +kernel
theorem dX5_manyOverlaps_3 : decode cX5_manyOverlaps 3 = .ok (.istore_n 3, 1) := by decide +kernel
theorem dX5_manyOverlaps_4 : decode cX5_manyOverlaps 4 = .ok (.iload_n 3, 1) := by decide +kernel
theorem dX5_manyOverlaps_5 : decode cX5_manyOverlaps 5 = .ok (.aload_n 0, 1) := by decide +kernel
theorem dX5_manyOverlaps_6 : decode cX5_manyOverlaps 6 = .ok (.getfield 9, 3) := by decide +kernel
theorem dX5_manyOverlaps_9 : decode cX5_manyOverlaps 9 = .ok (.if_icmp .ge 65, 3) := by decide +kernel
theorem dX5_manyOverlaps_12 : decode cX5_manyOverlaps 12 = .ok (.iload_n 3, 1) := by decide +kernel
theorem dX5_manyOverlaps_13 : decode cX5_manyOverlaps 13 = .ok (.iconst 1, 1) := by decide +kernel
theorem dX5_manyOverlaps_14 : decode cX5_manyOverlaps 14 = .ok (.iadd, 1) := by decide +kernel
theorem dX5_manyOverlaps_15 : decode cX5_manyOverlaps 15 = .ok (.istore 4, 2) := by decide +kernel
theorem dX5_manyOverlaps_17 : decode cX5_manyOverlaps 17 = .ok (.iload 4, 2) := by decide +kernel
theorem dX5_manyOverlaps_19 : decode cX5_manyOverlaps 19 = .ok (.aload_n 0, 1) := by decide +kernel
theorem dX5_manyOverlaps_20 : decode cX5_manyOverlaps 20 = .ok (.getfield 9, 3) := by decide +kernel
theorem dX5_manyOverlaps_23 : decode cX5_manyOverlaps 23 = .ok (.if_icmp .ge 45, 3) := by decide +kernel
theorem dX5_manyOverlaps_26 : decode cX5_manyOverlaps 26 = .ok (.iload_n 2, 1) := by decide +kernel
theorem dX5_manyOverlaps_27 : decode cX5_manyOverlaps 27 = .ok (.aload_n 0, 1) := by decide +kernel
theorem dX5_manyOverlaps_28 : decode cX5_manyOverlaps 28 = .ok (.iload_n 3, 1) := by decide +kernel
theorem dX5_manyOverlaps_29 : decode cX5_manyOverlaps 29 = .ok (.invokevirtual 41, 3) := by decide +kernel
theorem dX5_manyOverlaps_32 : decode cX5_manyOverlaps 32 = .ok (.ifCond .ne 27, 3) := by decide +kernel
theorem dX5_manyOverlaps_35 : decode cX5_manyOverlaps 35 = .ok (.aload_n 0, 1) := by decide +kernel
theorem dX5_manyOverlaps_36 : decode cX5_manyOverlaps 36 = .ok (.iload 4, 2) := by decide +kernel
theorem dX5_manyOverlaps_38 : decode cX5_manyOverlaps 38 = .ok (.invokevirtual 41, 3) := by decide +kernel
theorem dX5_manyOverlaps_41 : decode cX5_manyOverlaps 41 = .ok (.ifCond .ne 18, 3) := by decide +kernel
theorem dX5_manyOverlaps_44 : decode cX5_manyOverlaps 44 = .ok (.aload_n 0, 1) := by decide +kernel
theorem dX5_manyOverlaps_45 : decode cX5_manyOverlaps 45 = .ok (.iload_n 3, 1) := by decide +kernel
theorem dX5_manyOverlaps_46 : decode cX5_manyOverlaps 46 = .ok (.iload 4, 2) := by decide +kernel
theorem dX5_manyOverlaps_48 : decode cX5_manyOverlaps 48 = .ok (.iload_n 1, 1) := by decide +kernel
theorem dX5_manyOverlaps_49 : decode cX5_manyOverlaps 49 = .ok (.invokevirtual 63, 3) := by decide +kernel
theorem dX5_manyOverlaps_52 : decode cX5_manyOverlaps 52 = .ok (.ifCond .eq 7, 3) := by decide +kernel
theorem dX5_manyOverlaps_55 : decode cX5_manyOverlaps 55 = .ok (.iconst 1, 1) := by decide +kernel
theorem dX5_manyOverlaps_56 : decode cX5_manyOverlaps 56 = .ok (.goto 4, 3) := by decide +kernel
theorem dX5_manyOverlaps_59 : decode cX5_manyOverlaps 59 = .ok (.iconst 0, 1) := by decide +kernel
theorem dX5_manyOverlaps_60 : decode cX5_manyOverlaps 60 = .ok (.iadd, 1) := by decide +kernel
theorem dX5_manyOverlaps_61 : decode cX5_manyOverlaps 61 = .ok (.istore_n 2, 1) := by decide +kernel
theorem dX5_manyOverlaps_62 : decode cX5_manyOverlaps 62 = .ok (.iinc 4 1, 3) := by decide +kernel
theorem dX5_manyOverlaps_65 : decode cX5_manyOverlaps 65 = .ok (.goto (-48), 3) := by decide +kernel
theorem dX5_manyOverlaps_68 : decode cX5_manyOverlaps 68 = .ok (.iinc 3 1, 3) := by decide +kernel
theorem dX5_manyOverlaps_71 : decode cX5_manyOverlaps 71 = .ok (.goto (-67), 3) := by decide +kernel
theorem dX5_manyOverlaps_74 : decode cX5_manyOverlaps 74 = .ok (.iload_n 2, 1) := by decide +kernel
theorem dX5_manyOverlaps_75 : decode cX5_manyOverlaps 75 = .ok (.ireturn, 1) := by decide +kernel
theorem dX5_copyFrom_0 : decode cX5_copyFrom 0 = .ok (.aload_n 0, 1) := by decide +kernel
theorem dX5_copyFrom_1 : decode cX5_copyFrom 1 = .ok (.aload_n 1, 1) := by decide +kernel
theorem dX5_copyFrom_2 : decode cX5_copyFrom 2 = .ok (.getfield 9, 3) := by decide +kernel
theorem dX5_copyFrom_5 : decode cX5_copyFrom 5 = .ok (.putfield 9, 3) := by decide +kernel
theorem dX5_copyFrom_8 : decode cX5_copyFrom 8 = .ok (.iconst 0, 1) := by decide +kernel
theorem dX5_copyFrom_9 : decode cX5_copyFrom 9 = .ok (.istore_n 2, 1) := by decide +kernel
theorem dX5_copyFrom_10 : decode cX5_copyFrom 10 = .ok (.iload_n 2, 1) := by decide +kernel
theorem dX5_copyFrom_11 : decode cX5_copyFrom 11 = .ok (.bipush 10, 2) := by decide +kernel
theorem dX5_copyFrom_13 : decode cX5_copyFrom 13 = .ok (.if_icmp .ge 27, 3) := by decide +kernel
theorem dX5_copyFrom_16 : decode cX5_copyFrom 16 = .ok (.aload_n 1, 1) := by decide +kernel
theorem dX5_copyFrom_17 : decode cX5_copyFrom 17 = .ok (.getfield 17, 3) := by decide +kernel
theorem dX5_copyFrom_20 : decode cX5_copyFrom 20 = .ok (.iload_n 2, 1) := by decide +kernel
theorem dX5_copyFrom_21 : decode cX5_copyFrom 21 = .ok (.aaload, 1) := by decide +kernel
theorem dX5_copyFrom_22 : decode cX5_copyFrom 22 = .ok (.iconst 0, 1) := by decide +kernel
theorem dX5_copyFrom_23 : decode cX5_copyFrom 23 = .ok (.aload_n 0, 1) := by decide +kernel
theorem dX5_copyFrom_24 : decode cX5_copyFrom 24 = .ok (.getfield 17, 3) := by decide +kernel
theorem dX5_copyFrom_27 : decode cX5_copyFrom 27 = .ok (.iload_n 2, 1) := by decide +kernel
theorem dX5_copyFrom_28 : decode cX5_copyFrom 28 = .ok (.aaload, 1) := by decide +kernel
theorem dX5_copyFrom_29 : decode cX5_copyFrom 29 = .ok (.iconst 0, 1) := by decide +kernel
theorem dX5_copyFrom_30 : decode cX5_copyFrom 30 = .ok (.iconst 3, 1) := by decide +kernel
theorem dX5_copyFrom_31 : decode cX5_copyFrom 31 = .ok (.invokestatic 66, 3) := by decide +kernel
theorem dX5_copyFrom_34 : decode cX5_copyFrom 34 = .ok (.iinc 2 1, 3) := by decide +kernel
theorem dX5_copyFrom_37 : decode cX5_copyFrom 37 = .ok (.goto (-27), 3) := by decide +kernel
theorem dX5_copyFrom_40 : decode cX5_copyFrom 40 = .ok (.return_, 1) := by decide +kernel
theorem dX6_init_0 : decode cX6_init 0 = .ok (.aload_n 0, 1) := by decide +kernel
theorem dX6_init_1 : decode cX6_init 1 = .ok (.invokespecial 1, 3) := by decide +kernel
theorem dX6_init_4 : decode cX6_init 4 = .ok (.aload_n 0, 1) := by decide +kernel
theorem dX6_init_5 : decode cX6_init 5 = .ok (.lconst 0, 1) := by decide +kernel
theorem dX6_init_6 : decode cX6_init 6 = .ok (.putfield 7, 3) := by decide +kernel
theorem dX6_init_9 : decode cX6_init 9 = .ok (.aload_n 0, 1) := by decide +kernel
theorem dX6_init_10 : decode cX6_init 10 = .ok (.lconst 0, 1) := by decide +kernel
theorem dX6_init_11 : decode cX6_init 11 = .ok (.putfield 13, 3) := by decide +kernel
theorem dX6_init_14 : decode cX6_init 14 = .ok (.aload_n 0, 1) := by decide +kernel
theorem dX6_init_15 : decode cX6_init 15 = .ok (.lconst 0, 1) := by decide +kernel
theorem dX6_init_16 : decode cX6_init 16 = .ok (.putfield 16, 3) := by decide +kernel
theorem dX6_init_19 : decode cX6_init 19 = .ok (.aload_n 0, 1) := by decide +kernel
theorem dX6_init_20 : decode cX6_init 20 = .ok (.lconst 1, 1) := by decide +kernel
theorem dX6_init_21 : decode cX6_init 21 = .ok (.putfield 19, 3) := by decide +kernel
theorem dX6_init_24 : decode cX6_init 24 = .ok (.return_, 1) := by decide +kernel
theorem dX6_set_0 : decode cX6_set 0 = .ok (.aload_n 0, 1) := by decide +kernel
theorem dX6_set_1 : decode cX6_set 1 = .ok (.lload_n 1, 1) := by decide +kernel
theorem dX6_set_2 : decode cX6_set 2 = .ok (.putfield 7, 3) := by decide +kernel
theorem dX6_set_5 : decode cX6_set 5 = .ok (.aload_n 0, 1) := by decide +kernel
theorem dX6_set_6 : decode cX6_set 6 = .ok (.lload_n 3, 1) := by decide +kernel
theorem dX6_set_7 : decode cX6_set 7 = .ok (.putfield 13, 3) := by decide +kernel
theorem dX6_set_10 : decode cX6_set 10 = .ok (.aload_n 0, 1) := by decide +kernel
theorem dX6_set_11 : decode cX6_set 11 = .ok (.lload 5, 2) := by decide +kernel
theorem dX6_set_13 : decode cX6_set 13 = .ok (.putfield 16, 3) := by decide +kernel
theorem dX6_set_16 : decode cX6_set 16 = .ok (.aload_n 0, 1) := by decide +kernel
theorem dX6_set_17 : decode cX6_set 17 = .ok (.lload 7, 2) := by decide +kernel
theorem dX6_set_19 : decode cX6_set 19 = .ok (.putfield 19, 3) := by decide +kernel
theorem dX6_set_22 : decode cX6_set 22 = .ok (.return_, 1) := by decide +kernel
theorem dX6_above_0 : decode cX6_above 0 = .ok (.aload_n 0, 1) := by decide +kernel
theorem dX6_above_1 : decode cX6_above 1 = .ok (.getfield 7, 3) := by decide +kernel
theorem dX6_above_4 : decode cX6_above 4 = .ok (.lload_n 1, 1) := by decide +kernel
theorem dX6_above_5 : decode cX6_above 5 = .ok (.lmul, 1) := by decide +kernel
theorem dX6_above_6 : decode cX6_above 6 = .ok (.aload_n 0, 1) := by decide +kernel
theorem dX6_above_7 : decode cX6_above 7 = .ok (.getfield 13, 3) := by decide +kernel
theorem dX6_above_10 : decode cX6_above 10 = .ok (.lload_n 3, 1) := by decide +kernel
theorem dX6_above_11 : decode cX6_above 11 = .ok (.lmul, 1) := by decide +kernel
theorem dX6_above_12 : decode cX6_above 12 = .ok (.ladd, 1) := by decide +kernel
theorem dX6_above_13 : decode cX6_above 13 = .ok (.aload_n 0, 1) := by decide +kernel
theorem dX6_above_14 : decode cX6_above 14 = .ok (.getfield 16, 3) := by decide +kernel
theorem dX6_above_17 : decode cX6_above 17 = .ok (.ladd, 1) := by decide +kernel
theorem dX6_above_18 : decode cX6_above 18 = .ok (.lreturn, 1) := by decide +kernel
set_option maxRecDepth 20000 in
theorem ggX6_rounded_X6_above : GoodIn wsX6_rounded wsX6_above := goodIn_r _ [7, 8, 9, 10, 15, 16, 17, 18] (by decide +kernel) (by decide +kernel)
set_option maxRecDepth 20000 in
theorem gX6_rounded_X6_above : GoodIn wsX6_rounded (wsV RX6 24 RX6 yX6_above wsX6_above) := goodIn_app (goodIn_of _ (by decide +kernel)) ggX6_rounded_X6_above
set_option maxRecDepth 20000 in
theorem ggX6_rounded_J9_floorDiv_f86c9 : GoodIn wsX6_rounded wsJ9_floorDiv_f86c9 := goodIn_r _ [14] (by decide +kernel) (by decide +kernel)
set_option maxRecDepth 20000 in
theorem gX6_rounded_J9_floorDiv_f86c9 : GoodIn wsX6_rounded (va_wsS RX6 28 yJ9_floorDiv_f86c9 wsJ9_floorDiv_f86c9) := goodIn_app (goodIn_of _ (by decide +kernel)) ggX6_rounded_J9_floorDiv_f86c9
theorem dX6_rounded_0 : decode cX6_rounded 0 = .ok (.aload_n 0, 1) := by decide +kernel
theorem dX6_rounded_1 : decode cX6_rounded 1 = .ok (.getfield 19, 3) := by decide +kernel
theorem dX6_rounded_4 : decode cX6_rounded 4 = .ok (.lconst 0, 1) := by decide +kernel
theorem dX6_rounded_5 : decode cX6_rounded 5 = .ok (.lcmp, 1) := by decide +kernel
theorem dX6_rounded_6 : decode cX6_rounded 6 = .ok (.ifCond .le 32, 3) := by decide +kernel
theorem dX6_rounded_9 : decode cX6_rounded 9 = .ok (.ldc2_w 22, 3) := by decide +kernel
theorem dX6_rounded_12 : decode cX6_rounded 12 = .ok (.aload_n 0, 1) := by decide +kernel
theorem dX6_rounded_13 : decode cX6_rounded 13 = .ok (.lload_n 1, 1) := by decide +kernel
theorem dX6_rounded_14 : decode cX6_rounded 14 = .ok (.lload_n 3, 1) := by decide +kernel
theorem dX6_rounded_15 : decode cX6_rounded 15 = .ok (.invokevirtual 24, 3) := by decide +kernel
theorem dX6_rounded_18 : decode cX6_rounded 18 = .ok (.lmul, 1) := by decide +kernel
theorem dX6_rounded_19 : decode cX6_rounded 19 = .ok (.aload_n 0, 1) := by decide +kernel
theorem dX6_rounded_20 : decode cX6_rounded 20 = .ok (.getfield 19, 3) := by decide +kernel
theorem dX6_rounded_23 : decode cX6_rounded 23 = .ok (.ladd, 1) := by decide +kernel
theorem dX6_rounded_24 : decode cX6_rounded 24 = .ok (.ldc2_w 22, 3) := by decide +kernel
theorem dX6_rounded_27 : decode cX6_rounded 27 = .ok (.aload_n 0, 1) := by decide +kernel
theorem dX6_rounded_28 : decode cX6_rounded 28 = .ok (.getfield 19, 3) := by decide +kernel
theorem dX6_rounded_31 : decode cX6_rounded 31 = .ok (.lmul, 1) := by decide +kernel
theorem dX6_rounded_32 : decode cX6_rounded 32 = .ok (.invokestatic 28, 3) := by decide +kernel
theorem dX6_rounded_35 : decode cX6_rounded 35 = .ok (.goto 4, 3) := by decide +kernel
theorem dX6_rounded_38 : decode cX6_rounded 38 = .ok (.lconst 0, 1) := by decide +kernel
theorem dX6_rounded_39 : decode cX6_rounded 39 = .ok (.lreturn, 1) := by decide +kernel
set_option maxRecDepth 20000 in
theorem ggX7_init_X3_init : GoodIn wsX7_init wsX3_init := goodIn_r _ [21, 22, 2, 3, 23, 24, 25, 26, 27, 28, 29, 30, 31, 32, 33, 34, 35, 36, 37, 38, 39, 40, 41, 42, 43, 44, 45, 46, 47, 48, 49, 50, 51, 52, 53, 54, 55, 56, 57, 58, 116, 117, 118, 119, 91, 92, 93, 94, 120, 121, 122, 123, 124, 125, 126] (by decide +kernel) (by decide +kernel)
set_option maxRecDepth 20000 in
theorem gX7_init_X3_init_n9 : GoodIn wsX7_init (wsX3_init) := ggX7_init_X3_init
set_option maxRecDepth 20000 in
theorem ggX7_init_X0_init : GoodIn wsX7_init wsX0_init := goodIn_r _ [60, 61, 2, 3, 62, 63, 64, 65, 66, 67, 68, 69, 70, 71, 72, 73, 74, 75, 76, 77, 78, 79, 127, 128, 129, 130, 102, 103, 104, 105, 106, 107, 108] (by decide +kernel) (by decide +kernel)
set_option maxRecDepth 20000 in
theorem gX7_init_X0_init_n25 : GoodIn wsX7_init (wsX0_init) := ggX7_init_X0_init
set_option maxRecDepth 20000 in
theorem ggX7_init_X1_init : GoodIn wsX7_init wsX1_init := goodIn_r _ [81, 82, 2, 3, 83, 41, 84, 85, 86, 87, 88, 89, 90, 109, 110, 111, 112, 113, 114, 115] (by decide +kernel) (by decide +kernel)
set_option maxRecDepth 20000 in
theorem gX7_init_X1_init_n41 : GoodIn wsX7_init (wsX1_init) := ggX7_init_X1_init
theorem dX7_init_0 : decode cX7_init 0 = .ok (.aload_n 0, 1) := by decide +kernel
theorem dX7_init_1 : decode cX7_init 1 = .ok (.invokespecial 1, 3) := by decide +kernel
theorem dX7_init_4 : decode cX7_init 4 = .ok (.aload_n 0, 1) := by decide +kernel
theorem dX7_init_5 : decode cX7_init 5 = .ok (.new 7, 3) := by decide +kernel
theorem dX7_init_8 : decode cX7_init 8 = .ok (.dup, 1) := by decide +kernel
theorem dX7_init_9 : decode cX7_init 9 = .ok (.invokespecial 9, 3) := by decide +kernel
theorem dX7_init_12 : decode cX7_init 12 = .ok (.putfield 10, 3) := by decide +kernel
theorem dX7_init_15 : decode cX7_init 15 = .ok (.aload_n 0, 1) := by decide +kernel
theorem dX7_init_16 : decode cX7_init 16 = .ok (.new 7, 3) := by decide +kernel
theorem dX7_init_19 : decode cX7_init 19 = .ok (.dup, 1) := by decide +kernel
theorem dX7_init_20 : decode cX7_init 20 = .ok (.invokespecial 9, 3) := by decide +kernel
theorem dX7_init_23 : decode cX7_init 23 = .ok (.putfield 16, 3) := by decide +kernel
theorem dX7_init_26 : decode cX7_init 26 = .ok (.aload_n 0, 1) := by decide +kernel
theorem dX7_init_27 : decode cX7_init 27 = .ok (.new 19, 3) := by decide +kernel
theorem dX7_init_30 : decode cX7_init 30 = .ok (.dup, 1) := by decide +kernel
theorem dX7_init_31 : decode cX7_init 31 = .ok (.aload_n 0, 1) := by decide +kernel
theorem dX7_init_32 : decode cX7_init 32 = .ok (.getfield 10, 3) := by decide +kernel
theorem dX7_init_35 : decode cX7_init 35 = .ok (.getfield 21, 3) := by decide +kernel
theorem dX7_init_38 : decode cX7_init 38 = .ok (.invokespecial 25, 3) := by decide +kernel
theorem dX7_init_41 : decode cX7_init 41 = .ok (.putfield 28, 3) := by decide +kernel
theorem dX7_init_44 : decode cX7_init 44 = .ok (.aload_n 0, 1) := by decide +kernel
theorem dX7_init_45 : decode cX7_init 45 = .ok (.new 32, 3) := by decide +kernel
theorem dX7_init_48 : decode cX7_init 48 = .ok (.dup, 1) := by decide +kernel
theorem dX7_init_49 : decode cX7_init 49 = .ok (.aload_n 0, 1) := by decide +kernel
theorem dX7_init_50 : decode cX7_init 50 = .ok (.getfield 10, 3) := by decide +kernel
theorem dX7_init_53 : decode cX7_init 53 = .ok (.getfield 34, 3) := by decide +kernel
theorem dX7_init_56 : decode cX7_init 56 = .ok (.aload_n 0, 1) := by decide +kernel
theorem dX7_init_57 : decode cX7_init 57 = .ok (.getfield 10, 3) := by decide +kernel
theorem dX7_init_60 : decode cX7_init 60 = .ok (.getfield 38, 3) := by decide +kernel
theorem dX7_init_63 : decode cX7_init 63 = .ok (.aload_n 0, 1) := by decide +kernel
theorem dX7_init_64 : decode cX7_init 64 = .ok (.getfield 28, 3) := by decide +kernel
theorem dX7_init_67 : decode cX7_init 67 = .ok (.invokespecial 41, 3) := by decide +kernel
theorem dX7_init_70 : decode cX7_init 70 = .ok (.putfield 44, 3) := by decide +kernel
theorem dX7_init_73 : decode cX7_init 73 = .ok (.aload_n 0, 1) := by decide +kernel
theorem dX7_init_74 : decode cX7_init 74 = .ok (.iconst 0, 1) := by decide +kernel
theorem dX7_init_75 : decode cX7_init 75 = .ok (.putfield 48, 3) := by decide +kernel
theorem dX7_init_78 : decode cX7_init 78 = .ok (.aload_n 0, 1) := by decide +kernel
theorem dX7_init_79 : decode cX7_init 79 = .ok (.bipush 10, 2) := by decide +kernel
theorem dX7_init_81 : decode cX7_init 81 = .ok (.putfield 52, 3) := by decide +kernel
theorem dX7_init_84 : decode cX7_init 84 = .ok (.aload_n 0, 1) := by decide +kernel
theorem dX7_init_85 : decode cX7_init 85 = .ok (.bipush 100, 2) := by decide +kernel
theorem dX7_init_87 : decode cX7_init 87 = .ok (.putfield 56, 3) := by decide +kernel
theorem dX7_init_90 : decode cX7_init 90 = .ok (.return_, 1) := by decide +kernel
set_option maxRecDepth 20000 in
theorem ggX7_point_X7_isPlace : GoodIn wsX7_point wsX7_isPlace := goodIn_r _ [5] (by decide +kernel) (by decide +kernel)
set_option maxRecDepth 20000 in
theorem gX7_point_X7_isPlace : GoodIn wsX7_point (va_wsS RX7 59 yX7_isPlace wsX7_isPlace) := goodIn_app (goodIn_of _ (by decide +kernel)) ggX7_point_X7_isPlace
set_option maxRecDepth 20000 in
theorem ggX7_point_X2_add : GoodIn wsX7_point wsX2_add := goodIn_r _ [9, 10, 11, 12, 13, 14, 15, 7, 16, 17, 18, 4, 19, 31, 32, 33, 34] (by decide +kernel) (by decide +kernel)
set_option maxRecDepth 20000 in
theorem gX7_point_X2_add_n63 : GoodIn wsX7_point (wsX2_add) := ggX7_point_X2_add
theorem dX7_point_0 : decode cX7_point 0 = .ok (.iload_n 1, 1) := by decide +kernel
theorem dX7_point_1 : decode cX7_point 1 = .ok (.iload_n 2, 1) := by decide +kernel
theorem dX7_point_2 : decode cX7_point 2 = .ok (.invokestatic 59, 3) := by decide +kernel
theorem dX7_point_5 : decode cX7_point 5 = .ok (.ifCond .eq 12, 3) := by decide +kernel
theorem dX7_point_8 : decode cX7_point 8 = .ok (.iload_n 3, 1) := by decide +kernel
theorem dX7_point_9 : decode cX7_point 9 = .ok (.iload 4, 2) := by decide +kernel
theorem dX7_point_11 : decode cX7_point 11 = .ok (.invokestatic 59, 3) := by decide +kernel
theorem dX7_point_14 : decode cX7_point 14 = .ok (.ifCond .ne 5, 3) := by decide +kernel
theorem dX7_point_17 : decode cX7_point 17 = .ok (.iconst (-1), 1) := by decide +kernel
theorem dX7_point_18 : decode cX7_point 18 = .ok (.ireturn, 1) := by decide +kernel
theorem dX7_point_19 : decode cX7_point 19 = .ok (.aload_n 0, 1) := by decide +kernel
theorem dX7_point_20 : decode cX7_point 20 = .ok (.getfield 10, 3) := by decide +kernel
theorem dX7_point_23 : decode cX7_point 23 = .ok (.getfield 21, 3) := by decide +kernel
theorem dX7_point_26 : decode cX7_point 26 = .ok (.iload_n 1, 1) := by decide +kernel
theorem dX7_point_27 : decode cX7_point 27 = .ok (.iload_n 2, 1) := by decide +kernel
theorem dX7_point_28 : decode cX7_point 28 = .ok (.iload_n 3, 1) := by decide +kernel
theorem dX7_point_29 : decode cX7_point 29 = .ok (.iload 4, 2) := by decide +kernel
theorem dX7_point_31 : decode cX7_point 31 = .ok (.invokevirtual 63, 3) := by decide +kernel
theorem dX7_point_34 : decode cX7_point 34 = .ok (.ireturn, 1) := by decide +kernel
set_option maxRecDepth 20000 in
theorem ggX7_move_X2_has : GoodIn wsX7_move wsX2_has := goodIn_r _ [5, 6, 29, 30, 31, 32] (by decide +kernel) (by decide +kernel)
set_option maxRecDepth 20000 in
theorem gX7_move_X2_has_n69 : GoodIn wsX7_move (wsX2_has) := ggX7_move_X2_has
set_option maxRecDepth 20000 in
theorem ggX7_move_X7_isMap : GoodIn wsX7_move wsX7_isMap := goodIn_r _ [10] (by decide +kernel) (by decide +kernel)
set_option maxRecDepth 20000 in
theorem gX7_move_X7_isMap : GoodIn wsX7_move (va_wsS RX7 73 yX7_isMap wsX7_isMap) := goodIn_app (goodIn_of _ (by decide +kernel)) ggX7_move_X7_isMap
set_option maxRecDepth 20000 in
theorem ggX7_move_X7_isPlace : GoodIn wsX7_move wsX7_isPlace := goodIn_r _ [13] (by decide +kernel) (by decide +kernel)
set_option maxRecDepth 20000 in
theorem gX7_move_X7_isPlace : GoodIn wsX7_move (va_wsS RX7 59 yX7_isPlace wsX7_isPlace) := goodIn_app (goodIn_of _ (by decide +kernel)) ggX7_move_X7_isPlace
set_option maxRecDepth 20000 in
theorem ggX7_move_X2_place : GoodIn wsX7_move wsX2_place := goodIn_r _ [16, 17, 29, 30, 31, 32] (by decide +kernel) (by decide +kernel)
set_option maxRecDepth 20000 in
theorem gX7_move_X2_place_n76 : GoodIn wsX7_move (wsX2_place) := ggX7_move_X2_place
theorem dX7_move_0 : decode cX7_move 0 = .ok (.aload_n 0, 1) := by decide +kernel
theorem dX7_move_1 : decode cX7_move 1 = .ok (.getfield 10, 3) := by decide +kernel
theorem dX7_move_4 : decode cX7_move 4 = .ok (.getfield 21, 3) := by decide +kernel
theorem dX7_move_7 : decode cX7_move 7 = .ok (.iload_n 1, 1) := by decide +kernel
theorem dX7_move_8 : decode cX7_move 8 = .ok (.invokevirtual 69, 3) := by decide +kernel
theorem dX7_move_11 : decode cX7_move 11 = .ok (.ifCond .eq 19, 3) := by decide +kernel
theorem dX7_move_14 : decode cX7_move 14 = .ok (.iload_n 2, 1) := by decide +kernel
theorem dX7_move_15 : decode cX7_move 15 = .ok (.invokestatic 73, 3) := by decide +kernel
theorem dX7_move_18 : decode cX7_move 18 = .ok (.ifCond .eq 12, 3) := by decide +kernel
theorem dX7_move_21 : decode cX7_move 21 = .ok (.iload_n 3, 1) := by decide +kernel
theorem dX7_move_22 : decode cX7_move 22 = .ok (.iload 4, 2) := by decide +kernel
theorem dX7_move_24 : decode cX7_move 24 = .ok (.invokestatic 59, 3) := by decide +kernel
theorem dX7_move_27 : decode cX7_move 27 = .ok (.ifCond .ne 5, 3) := by decide +kernel
theorem dX7_move_30 : decode cX7_move 30 = .ok (.iconst (-1), 1) := by decide +kernel
theorem dX7_move_31 : decode cX7_move 31 = .ok (.ireturn, 1) := by decide +kernel
theorem dX7_move_32 : decode cX7_move 32 = .ok (.aload_n 0, 1) := by decide +kernel
theorem dX7_move_33 : decode cX7_move 33 = .ok (.getfield 10, 3) := by decide +kernel
theorem dX7_move_36 : decode cX7_move 36 = .ok (.getfield 21, 3) := by decide +kernel
theorem dX7_move_39 : decode cX7_move 39 = .ok (.iload_n 1, 1) := by decide +kernel
theorem dX7_move_40 : decode cX7_move 40 = .ok (.iload_n 2, 1) := by decide +kernel
theorem dX7_move_41 : decode cX7_move 41 = .ok (.iload_n 3, 1) := by decide +kernel
theorem dX7_move_42 : decode cX7_move 42 = .ok (.iload 4, 2) := by decide +kernel
theorem dX7_move_44 : decode cX7_move 44 = .ok (.invokevirtual 76, 3) := by decide +kernel
theorem dX7_move_47 : decode cX7_move 47 = .ok (.iconst 1, 1) := by decide +kernel
theorem dX7_move_48 : decode cX7_move 48 = .ok (.ireturn, 1) := by decide +kernel
set_option maxRecDepth 20000 in
theorem ggX7_sure_X2_has : GoodIn wsX7_sure wsX2_has := goodIn_r _ [5, 6, 22, 23, 24, 25] (by decide +kernel) (by decide +kernel)
set_option maxRecDepth 20000 in
theorem gX7_sure_X2_has_n69 : GoodIn wsX7_sure (wsX2_has) := ggX7_sure_X2_has
set_option maxRecDepth 20000 in
theorem ggX7_sure_X7_withBit : GoodIn wsX7_sure wsX7_withBit := goodIn_r _ [10] (by decide +kernel) (by decide +kernel)
set_option maxRecDepth 20000 in
theorem gX7_sure_X7_withBit : GoodIn wsX7_sure (va_wsS RX7 83 yX7_withBit wsX7_withBit) := goodIn_app (goodIn_of _ (by decide +kernel)) ggX7_sure_X7_withBit
theorem dX7_sure_0 : decode cX7_sure 0 = .ok (.aload_n 0, 1) := by decide +kernel
theorem dX7_sure_1 : decode cX7_sure 1 = .ok (.getfield 10, 3) := by decide +kernel
theorem dX7_sure_4 : decode cX7_sure 4 = .ok (.getfield 21, 3) := by decide +kernel
theorem dX7_sure_7 : decode cX7_sure 7 = .ok (.astore_n 3, 1) := by decide +kernel
theorem dX7_sure_8 : decode cX7_sure 8 = .ok (.aload_n 3, 1) := by decide +kernel
theorem dX7_sure_9 : decode cX7_sure 9 = .ok (.iload_n 1, 1) := by decide +kernel
theorem dX7_sure_10 : decode cX7_sure 10 = .ok (.invokevirtual 69, 3) := by decide +kernel
theorem dX7_sure_13 : decode cX7_sure 13 = .ok (.ifCond .ne 5, 3) := by decide +kernel
theorem dX7_sure_16 : decode cX7_sure 16 = .ok (.iconst (-1), 1) := by decide +kernel
theorem dX7_sure_17 : decode cX7_sure 17 = .ok (.ireturn, 1) := by decide +kernel
theorem dX7_sure_18 : decode cX7_sure 18 = .ok (.aload_n 3, 1) := by decide +kernel
theorem dX7_sure_19 : decode cX7_sure 19 = .ok (.getfield 80, 3) := by decide +kernel
theorem dX7_sure_22 : decode cX7_sure 22 = .ok (.istore 4, 2) := by decide +kernel
theorem dX7_sure_24 : decode cX7_sure 24 = .ok (.aload_n 3, 1) := by decide +kernel
theorem dX7_sure_25 : decode cX7_sure 25 = .ok (.iload 4, 2) := by decide +kernel
theorem dX7_sure_27 : decode cX7_sure 27 = .ok (.iload_n 1, 1) := by decide +kernel
theorem dX7_sure_28 : decode cX7_sure 28 = .ok (.iload_n 2, 1) := by decide +kernel
theorem dX7_sure_29 : decode cX7_sure 29 = .ok (.invokestatic 83, 3) := by decide +kernel
theorem dX7_sure_32 : decode cX7_sure 32 = .ok (.putfield 80, 3) := by decide +kernel
theorem dX7_sure_35 : decode cX7_sure 35 = .ok (.aload_n 3, 1) := by decide +kernel
theorem dX7_sure_36 : decode cX7_sure 36 = .ok (.getfield 80, 3) := by decide +kernel
theorem dX7_sure_39 : decode cX7_sure 39 = .ok (.iload 4, 2) := by decide +kernel
theorem dX7_sure_41 : decode cX7_sure 41 = .ok (.if_icmp .ne 7, 3) := by decide +kernel
theorem dX7_sure_44 : decode cX7_sure 44 = .ok (.iconst 0, 1) := by decide +kernel
theorem dX7_sure_45 : decode cX7_sure 45 = .ok (.goto 4, 3) := by decide +kernel
theorem dX7_sure_48 : decode cX7_sure 48 = .ok (.iconst 1, 1) := by decide +kernel
theorem dX7_sure_49 : decode cX7_sure 49 = .ok (.ireturn, 1) := by decide +kernel
set_option maxRecDepth 20000 in
theorem ggX7_put_X2_has : GoodIn wsX7_put wsX2_has := goodIn_r _ [5, 6, 22, 23, 24, 25] (by decide +kernel) (by decide +kernel)
set_option maxRecDepth 20000 in
theorem gX7_put_X2_has_n69 : GoodIn wsX7_put (wsX2_has) := ggX7_put_X2_has
set_option maxRecDepth 20000 in
theorem ggX7_put_X7_withBit : GoodIn wsX7_put wsX7_withBit := goodIn_r _ [10] (by decide +kernel) (by decide +kernel)
set_option maxRecDepth 20000 in
theorem gX7_put_X7_withBit : GoodIn wsX7_put (va_wsS RX7 83 yX7_withBit wsX7_withBit) := goodIn_app (goodIn_of _ (by decide +kernel)) ggX7_put_X7_withBit
theorem dX7_put_0 : decode cX7_put 0 = .ok (.aload_n 0, 1) := by decide +kernel
theorem dX7_put_1 : decode cX7_put 1 = .ok (.getfield 10, 3) := by decide +kernel
theorem dX7_put_4 : decode cX7_put 4 = .ok (.getfield 21, 3) := by decide +kernel
theorem dX7_put_7 : decode cX7_put 7 = .ok (.astore_n 3, 1) := by decide +kernel
theorem dX7_put_8 : decode cX7_put 8 = .ok (.aload_n 3, 1) := by decide +kernel
theorem dX7_put_9 : decode cX7_put 9 = .ok (.iload_n 1, 1) := by decide +kernel
theorem dX7_put_10 : decode cX7_put 10 = .ok (.invokevirtual 69, 3) := by decide +kernel
theorem dX7_put_13 : decode cX7_put 13 = .ok (.ifCond .ne 5, 3) := by decide +kernel
theorem dX7_put_16 : decode cX7_put 16 = .ok (.iconst (-1), 1) := by decide +kernel
theorem dX7_put_17 : decode cX7_put 17 = .ok (.ireturn, 1) := by decide +kernel
theorem dX7_put_18 : decode cX7_put 18 = .ok (.aload_n 3, 1) := by decide +kernel
theorem dX7_put_19 : decode cX7_put 19 = .ok (.getfield 87, 3) := by decide +kernel
theorem dX7_put_22 : decode cX7_put 22 = .ok (.istore 4, 2) := by decide +kernel
theorem dX7_put_24 : decode cX7_put 24 = .ok (.aload_n 3, 1) := by decide +kernel
theorem dX7_put_25 : decode cX7_put 25 = .ok (.iload 4, 2) := by decide +kernel
theorem dX7_put_27 : decode cX7_put 27 = .ok (.iload_n 1, 1) := by decide +kernel
theorem dX7_put_28 : decode cX7_put 28 = .ok (.iload_n 2, 1) := by decide +kernel
theorem dX7_put_29 : decode cX7_put 29 = .ok (.invokestatic 83, 3) := by decide +kernel
theorem dX7_put_32 : decode cX7_put 32 = .ok (.putfield 87, 3) := by decide +kernel
theorem dX7_put_35 : decode cX7_put 35 = .ok (.aload_n 3, 1) := by decide +kernel
theorem dX7_put_36 : decode cX7_put 36 = .ok (.getfield 87, 3) := by decide +kernel
theorem dX7_put_39 : decode cX7_put 39 = .ok (.iload 4, 2) := by decide +kernel
theorem dX7_put_41 : decode cX7_put 41 = .ok (.if_icmp .ne 7, 3) := by decide +kernel
theorem dX7_put_44 : decode cX7_put 44 = .ok (.iconst 0, 1) := by decide +kernel
theorem dX7_put_45 : decode cX7_put 45 = .ok (.goto 4, 3) := by decide +kernel
theorem dX7_put_48 : decode cX7_put 48 = .ok (.iconst 1, 1) := by decide +kernel
theorem dX7_put_49 : decode cX7_put 49 = .ok (.ireturn, 1) := by decide +kernel
set_option maxRecDepth 20000 in
theorem ggX7_of_X2_has : GoodIn wsX7_of wsX2_has := goodIn_r _ [5, 6, 18, 19, 20, 21] (by decide +kernel) (by decide +kernel)
set_option maxRecDepth 20000 in
theorem gX7_of_X2_has_n69 : GoodIn wsX7_of (wsX2_has) := ggX7_of_X2_has
theorem dX7_of_0 : decode cX7_of 0 = .ok (.aload_n 0, 1) := by decide +kernel
theorem dX7_of_1 : decode cX7_of 1 = .ok (.getfield 10, 3) := by decide +kernel
theorem dX7_of_4 : decode cX7_of 4 = .ok (.getfield 21, 3) := by decide +kernel
theorem dX7_of_7 : decode cX7_of 7 = .ok (.astore_n 3, 1) := by decide +kernel
theorem dX7_of_8 : decode cX7_of 8 = .ok (.aload_n 3, 1) := by decide +kernel
theorem dX7_of_9 : decode cX7_of 9 = .ok (.iload_n 1, 1) := by decide +kernel
theorem dX7_of_10 : decode cX7_of 10 = .ok (.invokevirtual 69, 3) := by decide +kernel
theorem dX7_of_13 : decode cX7_of 13 = .ok (.ifCond .eq 12, 3) := by decide +kernel
theorem dX7_of_16 : decode cX7_of 16 = .ok (.iload_n 2, 1) := by decide +kernel
theorem dX7_of_17 : decode cX7_of 17 = .ok (.ifCond .lt 8, 3) := by decide +kernel
theorem dX7_of_20 : decode cX7_of 20 = .ok (.iload_n 2, 1) := by decide +kernel
theorem dX7_of_21 : decode cX7_of 21 = .ok (.iconst 5, 1) := by decide +kernel
theorem dX7_of_22 : decode cX7_of 22 = .ok (.if_icmp .le 7, 3) := by decide +kernel
theorem dX7_of_25 : decode cX7_of 25 = .ok (.sipush (-2000), 3) := by decide +kernel
theorem dX7_of_28 : decode cX7_of 28 = .ok (.ireturn, 1) := by decide +kernel
theorem dX7_of_29 : decode cX7_of 29 = .ok (.iload_n 2, 1) := by decide +kernel
theorem dX7_of_30 : decode cX7_of 30 = .ok (.iconst 4, 1) := by decide +kernel
theorem dX7_of_31 : decode cX7_of 31 = .ok (.if_icmp .ne 12, 3) := by decide +kernel
theorem dX7_of_34 : decode cX7_of 34 = .ok (.aload_n 3, 1) := by decide +kernel
theorem dX7_of_35 : decode cX7_of 35 = .ok (.getfield 80, 3) := by decide +kernel
theorem dX7_of_38 : decode cX7_of 38 = .ok (.iload_n 1, 1) := by decide +kernel
theorem dX7_of_39 : decode cX7_of 39 = .ok (.ishr, 1) := by decide +kernel
theorem dX7_of_40 : decode cX7_of 40 = .ok (.iconst 1, 1) := by decide +kernel
theorem dX7_of_41 : decode cX7_of 41 = .ok (.iand, 1) := by decide +kernel
theorem dX7_of_42 : decode cX7_of 42 = .ok (.ireturn, 1) := by decide +kernel
theorem dX7_of_43 : decode cX7_of 43 = .ok (.iload_n 2, 1) := by decide +kernel
theorem dX7_of_44 : decode cX7_of 44 = .ok (.iconst 5, 1) := by decide +kernel
theorem dX7_of_45 : decode cX7_of 45 = .ok (.if_icmp .ne 12, 3) := by decide +kernel
theorem dX7_of_48 : decode cX7_of 48 = .ok (.aload_n 3, 1) := by decide +kernel
theorem dX7_of_49 : decode cX7_of 49 = .ok (.getfield 87, 3) := by decide +kernel
theorem dX7_of_52 : decode cX7_of 52 = .ok (.iload_n 1, 1) := by decide +kernel
theorem dX7_of_53 : decode cX7_of 53 = .ok (.ishr, 1) := by decide +kernel
theorem dX7_of_54 : decode cX7_of 54 = .ok (.iconst 1, 1) := by decide +kernel
theorem dX7_of_55 : decode cX7_of 55 = .ok (.iand, 1) := by decide +kernel
theorem dX7_of_56 : decode cX7_of 56 = .ok (.ireturn, 1) := by decide +kernel
theorem dX7_of_57 : decode cX7_of 57 = .ok (.aload_n 3, 1) := by decide +kernel
theorem dX7_of_58 : decode cX7_of 58 = .ok (.getfield 90, 3) := by decide +kernel
theorem dX7_of_61 : decode cX7_of 61 = .ok (.iload_n 2, 1) := by decide +kernel
theorem dX7_of_62 : decode cX7_of 62 = .ok (.aaload, 1) := by decide +kernel
theorem dX7_of_63 : decode cX7_of 63 = .ok (.iload_n 1, 1) := by decide +kernel
theorem dX7_of_64 : decode cX7_of 64 = .ok (.iaload, 1) := by decide +kernel
theorem dX7_of_65 : decode cX7_of 65 = .ok (.ireturn, 1) := by decide +kernel
set_option maxRecDepth 20000 in
theorem ggX7_bend_X7_isKind : GoodIn wsX7_bend wsX7_isKind := goodIn_r _ [6] (by decide +kernel) (by decide +kernel)
set_option maxRecDepth 20000 in
theorem gX7_bend_X7_isKind : GoodIn wsX7_bend (va_wsS RX7 94 yX7_isKind wsX7_isKind) := goodIn_app (goodIn_of _ (by decide +kernel)) ggX7_bend_X7_isKind
set_option maxRecDepth 20000 in
theorem ggX7_bend_X7_fits : GoodIn wsX7_bend wsX7_fits := goodIn_r _ [10, 2, 11, 12, 13, 14, 15, 16, 17, 18, 19, 20, 21, 22, 23, 24, 25, 26, 27, 28, 29, 30, 31, 32, 33, 34, 35, 36, 37, 38, 39, 40, 41, 42, 43, 44, 45, 46, 47, 48, 49, 50, 51, 52, 53, 54, 55, 56, 57, 58, 59, 60, 61, 62, 63, 77, 78, 79, 80, 81, 82, 83, 95, 96, 97, 98, 99, 100, 101, 102, 84, 85, 86, 87, 88, 89, 90, 91, 92, 93, 94] (by decide +kernel) (by decide +kernel)
set_option maxRecDepth 20000 in
theorem gX7_bend_X7_fits : GoodIn wsX7_bend (wsV RX7 97 RX7 yX7_fits wsX7_fits) := goodIn_app (goodIn_of _ (by decide +kernel)) ggX7_bend_X7_fits
set_option maxRecDepth 20000 in
theorem ggX7_bend_X7_cleared : GoodIn wsX7_bend wsX7_cleared := goodIn_r _ [66, 67, 68, 69, 70, 1, 71, 72, 5, 73] (by decide +kernel) (by decide +kernel)
set_option maxRecDepth 20000 in
theorem gX7_bend_X7_cleared : GoodIn wsX7_bend (va_wsS RX7 118 yX7_cleared wsX7_cleared) := goodIn_app (goodIn_of _ (by decide +kernel)) ggX7_bend_X7_cleared
set_option maxRecDepth 20000 in
theorem ggX7_bend_X0_aboveOfQ : GoodIn wsX7_bend wsX0_aboveOfQ := goodIn_r _ [76, 22, 27, 84, 85, 86, 87, 88, 89, 90, 91, 92, 93, 94] (by decide +kernel) (by decide +kernel)
set_option maxRecDepth 20000 in
theorem gX7_bend_X0_aboveOfQ_n125 : GoodIn wsX7_bend (wsX0_aboveOfQ) := ggX7_bend_X0_aboveOfQ
theorem dX7_bend_0 : decode cX7_bend 0 = .ok (.iload_n 1, 1) := by decide +kernel
theorem dX7_bend_1 : decode cX7_bend 1 = .ok (.invokestatic 94, 3) := by decide +kernel
theorem dX7_bend_4 : decode cX7_bend 4 = .ok (.ifCond .eq 21, 3) := by decide +kernel
theorem dX7_bend_7 : decode cX7_bend 7 = .ok (.iload_n 2, 1) := by decide +kernel
theorem dX7_bend_8 : decode cX7_bend 8 = .ok (.ifCond .lt 17, 3) := by decide +kernel
theorem dX7_bend_11 : decode cX7_bend 11 = .ok (.iload_n 2, 1) := by decide +kernel
theorem dX7_bend_12 : decode cX7_bend 12 = .ok (.bipush 7, 2) := by decide +kernel
theorem dX7_bend_14 : decode cX7_bend 14 = .ok (.if_icmp .gt 11, 3) := by decide +kernel
theorem dX7_bend_17 : decode cX7_bend 17 = .ok (.aload_n 0, 1) := by decide +kernel
theorem dX7_bend_18 : decode cX7_bend 18 = .ok (.iload_n 1, 1) := by decide +kernel
theorem dX7_bend_19 : decode cX7_bend 19 = .ok (.invokevirtual 97, 3) := by decide +kernel
theorem dX7_bend_22 : decode cX7_bend 22 = .ok (.ifCond .ne 7, 3) := by decide +kernel
theorem dX7_bend_25 : decode cX7_bend 25 = .ok (.ldc2_w 100, 3) := by decide +kernel
theorem dX7_bend_28 : decode cX7_bend 28 = .ok (.lreturn, 1) := by decide +kernel
theorem dX7_bend_29 : decode cX7_bend 29 = .ok (.iload_n 2, 1) := by decide +kernel
theorem dX7_bend_30 : decode cX7_bend 30 = .ok (.iconst 2, 1) := by decide +kernel
theorem dX7_bend_31 : decode cX7_bend 31 = .ok (.irem, 1) := by decide +kernel
theorem dX7_bend_32 : decode cX7_bend 32 = .ok (.istore_n 3, 1) := by decide +kernel
theorem dX7_bend_33 : decode cX7_bend 33 = .ok (.aload_n 0, 1) := by decide +kernel
theorem dX7_bend_34 : decode cX7_bend 34 = .ok (.getfield 28, 3) := by decide +kernel
theorem dX7_bend_37 : decode cX7_bend 37 = .ok (.getfield 102, 3) := by decide +kernel
theorem dX7_bend_40 : decode cX7_bend 40 = .ok (.astore 4, 2) := by decide +kernel
theorem dX7_bend_42 : decode cX7_bend 42 = .ok (.aload_n 0, 1) := by decide +kernel
theorem dX7_bend_43 : decode cX7_bend 43 = .ok (.getfield 28, 3) := by decide +kernel
theorem dX7_bend_46 : decode cX7_bend 46 = .ok (.getfield 106, 3) := by decide +kernel
theorem dX7_bend_49 : decode cX7_bend 49 = .ok (.astore 5, 2) := by decide +kernel
theorem dX7_bend_51 : decode cX7_bend 51 = .ok (.iload_n 2, 1) := by decide +kernel
theorem dX7_bend_52 : decode cX7_bend 52 = .ok (.iconst 2, 1) := by decide +kernel
theorem dX7_bend_53 : decode cX7_bend 53 = .ok (.idiv, 1) := by decide +kernel
theorem dX7_bend_54 : decode cX7_bend 54 = .ok (.tableswitch 71 0 2 #[26, 41, 56], 26) := by decide +kernel
theorem dX7_bend_80 : decode cX7_bend 80 = .ok (.aload 4, 2) := by decide +kernel
theorem dX7_bend_82 : decode cX7_bend 82 = .ok (.getfield 109, 3) := by decide +kernel
theorem dX7_bend_85 : decode cX7_bend 85 = .ok (.aload 4, 2) := by decide +kernel
theorem dX7_bend_87 : decode cX7_bend 87 = .ok (.getfield 115, 3) := by decide +kernel
theorem dX7_bend_90 : decode cX7_bend 90 = .ok (.iload_n 3, 1) := by decide +kernel
theorem dX7_bend_91 : decode cX7_bend 91 = .ok (.invokestatic 118, 3) := by decide +kernel
theorem dX7_bend_94 : decode cX7_bend 94 = .ok (.lreturn, 1) := by decide +kernel
theorem dX7_bend_95 : decode cX7_bend 95 = .ok (.aload 5, 2) := by decide +kernel
theorem dX7_bend_97 : decode cX7_bend 97 = .ok (.getfield 109, 3) := by decide +kernel
theorem dX7_bend_100 : decode cX7_bend 100 = .ok (.aload 5, 2) := by decide +kernel
theorem dX7_bend_102 : decode cX7_bend 102 = .ok (.getfield 115, 3) := by decide +kernel
theorem dX7_bend_105 : decode cX7_bend 105 = .ok (.iload_n 3, 1) := by decide +kernel
theorem dX7_bend_106 : decode cX7_bend 106 = .ok (.invokestatic 118, 3) := by decide +kernel
theorem dX7_bend_109 : decode cX7_bend 109 = .ok (.lreturn, 1) := by decide +kernel
theorem dX7_bend_110 : decode cX7_bend 110 = .ok (.aload 4, 2) := by decide +kernel
theorem dX7_bend_112 : decode cX7_bend 112 = .ok (.getfield 122, 3) := by decide +kernel
theorem dX7_bend_115 : decode cX7_bend 115 = .ok (.aload 4, 2) := by decide +kernel
theorem dX7_bend_117 : decode cX7_bend 117 = .ok (.getfield 115, 3) := by decide +kernel
theorem dX7_bend_120 : decode cX7_bend 120 = .ok (.iload_n 3, 1) := by decide +kernel
theorem dX7_bend_121 : decode cX7_bend 121 = .ok (.invokestatic 118, 3) := by decide +kernel
theorem dX7_bend_124 : decode cX7_bend 124 = .ok (.lreturn, 1) := by decide +kernel
theorem dX7_bend_125 : decode cX7_bend 125 = .ok (.aload_n 0, 1) := by decide +kernel
theorem dX7_bend_126 : decode cX7_bend 126 = .ok (.getfield 28, 3) := by decide +kernel
theorem dX7_bend_129 : decode cX7_bend 129 = .ok (.invokevirtual 125, 3) := by decide +kernel
theorem dX7_bend_132 : decode cX7_bend 132 = .ok (.aload 5, 2) := by decide +kernel
theorem dX7_bend_134 : decode cX7_bend 134 = .ok (.getfield 115, 3) := by decide +kernel
theorem dX7_bend_137 : decode cX7_bend 137 = .ok (.iload_n 3, 1) := by decide +kernel
theorem dX7_bend_138 : decode cX7_bend 138 = .ok (.invokestatic 118, 3) := by decide +kernel
theorem dX7_bend_141 : decode cX7_bend 141 = .ok (.lreturn, 1) := by decide +kernel
set_option maxRecDepth 20000 in
theorem ggX7_carry_X7_isKind : GoodIn wsX7_carry wsX7_isKind := goodIn_r _ [6] (by decide +kernel) (by decide +kernel)
set_option maxRecDepth 20000 in
theorem gX7_carry_X7_isKind : GoodIn wsX7_carry (va_wsS RX7 94 yX7_isKind wsX7_isKind) := goodIn_app (goodIn_of _ (by decide +kernel)) ggX7_carry_X7_isKind
set_option maxRecDepth 20000 in
theorem ggX7_carry_X7_isPlace : GoodIn wsX7_carry wsX7_isPlace := goodIn_r _ [9] (by decide +kernel) (by decide +kernel)
set_option maxRecDepth 20000 in
theorem gX7_carry_X7_isPlace : GoodIn wsX7_carry (va_wsS RX7 59 yX7_isPlace wsX7_isPlace) := goodIn_app (goodIn_of _ (by decide +kernel)) ggX7_carry_X7_isPlace
set_option maxRecDepth 20000 in
theorem ggX7_carry_X7_isPartOfTwo : GoodIn wsX7_carry wsX7_isPartOfTwo := goodIn_r _ [12] (by decide +kernel) (by decide +kernel)
set_option maxRecDepth 20000 in
theorem gX7_carry_X7_isPartOfTwo : GoodIn wsX7_carry (va_wsS RX7 129 yX7_isPartOfTwo wsX7_isPartOfTwo) := goodIn_app (goodIn_of _ (by decide +kernel)) ggX7_carry_X7_isPartOfTwo
set_option maxRecDepth 20000 in
theorem ggX7_carry_X7_fits : GoodIn wsX7_carry wsX7_fits := goodIn_r _ [16, 2, 17, 18, 19, 20, 21, 22, 23, 24, 25, 26, 27, 28, 29, 30, 31, 32, 33, 34, 35, 36, 37, 38, 39, 40, 41, 42, 43, 44, 45, 46, 47, 48, 49, 50, 51, 52, 53, 54, 55, 56, 57, 58, 59, 60, 61, 62, 63, 64, 65, 66, 67, 68, 69, 86, 87, 88, 89, 90, 91, 92, 97, 98, 99, 100, 101, 102, 103, 104, 105, 106, 107, 108, 109, 110, 111, 93, 94, 95, 96] (by decide +kernel) (by decide +kernel)
set_option maxRecDepth 20000 in
theorem gX7_carry_X7_fits : GoodIn wsX7_carry (wsV RX7 97 RX7 yX7_fits wsX7_fits) := goodIn_app (goodIn_of _ (by decide +kernel)) ggX7_carry_X7_fits
set_option maxRecDepth 20000 in
theorem ggX7_carry_X0_along : GoodIn wsX7_carry wsX0_along := goodIn_r _ [72, 32, 33, 105, 106, 107, 108, 109, 110, 111] (by decide +kernel) (by decide +kernel)
set_option maxRecDepth 20000 in
theorem gX7_carry_X0_along_n132 : GoodIn wsX7_carry (wsX0_along) := ggX7_carry_X0_along
set_option maxRecDepth 20000 in
theorem ggX7_carry_X6_above : GoodIn wsX7_carry wsX6_above := goodIn_r _ [75, 54, 55, 56, 93, 94, 95, 96] (by decide +kernel) (by decide +kernel)
set_option maxRecDepth 20000 in
theorem gX7_carry_X6_above_n136 : GoodIn wsX7_carry (wsX6_above) := ggX7_carry_X6_above
set_option maxRecDepth 20000 in
theorem ggX7_carry_X7_cleared : GoodIn wsX7_carry wsX7_cleared := goodIn_r _ [78, 79, 80, 81, 82, 1, 83, 84, 5, 85] (by decide +kernel) (by decide +kernel)
set_option maxRecDepth 20000 in
theorem gX7_carry_X7_cleared : GoodIn wsX7_carry (va_wsS RX7 118 yX7_cleared wsX7_cleared) := goodIn_app (goodIn_of _ (by decide +kernel)) ggX7_carry_X7_cleared
theorem dX7_carry_0 : decode cX7_carry 0 = .ok (.iload_n 1, 1) := by decide +kernel
theorem dX7_carry_1 : decode cX7_carry 1 = .ok (.invokestatic 94, 3) := by decide +kernel
theorem dX7_carry_4 : decode cX7_carry 4 = .ok (.ifCond .eq 27, 3) := by decide +kernel
theorem dX7_carry_7 : decode cX7_carry 7 = .ok (.iload_n 2, 1) := by decide +kernel
theorem dX7_carry_8 : decode cX7_carry 8 = .ok (.iload_n 3, 1) := by decide +kernel
theorem dX7_carry_9 : decode cX7_carry 9 = .ok (.invokestatic 59, 3) := by decide +kernel
theorem dX7_carry_12 : decode cX7_carry 12 = .ok (.ifCond .eq 19, 3) := by decide +kernel
theorem dX7_carry_15 : decode cX7_carry 15 = .ok (.iload 4, 2) := by decide +kernel
theorem dX7_carry_17 : decode cX7_carry 17 = .ok (.invokestatic 129, 3) := by decide +kernel
theorem dX7_carry_20 : decode cX7_carry 20 = .ok (.ifCond .eq 11, 3) := by decide +kernel
theorem dX7_carry_23 : decode cX7_carry 23 = .ok (.aload_n 0, 1) := by decide +kernel
theorem dX7_carry_24 : decode cX7_carry 24 = .ok (.iload_n 1, 1) := by decide +kernel
theorem dX7_carry_25 : decode cX7_carry 25 = .ok (.invokevirtual 97, 3) := by decide +kernel
theorem dX7_carry_28 : decode cX7_carry 28 = .ok (.ifCond .ne 7, 3) := by decide +kernel
theorem dX7_carry_31 : decode cX7_carry 31 = .ok (.ldc2_w 100, 3) := by decide +kernel
theorem dX7_carry_34 : decode cX7_carry 34 = .ok (.lreturn, 1) := by decide +kernel
theorem dX7_carry_35 : decode cX7_carry 35 = .ok (.aload_n 0, 1) := by decide +kernel
theorem dX7_carry_36 : decode cX7_carry 36 = .ok (.getfield 28, 3) := by decide +kernel
theorem dX7_carry_39 : decode cX7_carry 39 = .ok (.iload 4, 2) := by decide +kernel
theorem dX7_carry_41 : decode cX7_carry 41 = .ok (.iconst 2, 1) := by decide +kernel
theorem dX7_carry_42 : decode cX7_carry 42 = .ok (.idiv, 1) := by decide +kernel
theorem dX7_carry_43 : decode cX7_carry 43 = .ok (.invokevirtual 132, 3) := by decide +kernel
theorem dX7_carry_46 : decode cX7_carry 46 = .ok (.astore 5, 2) := by decide +kernel
theorem dX7_carry_48 : decode cX7_carry 48 = .ok (.aload 5, 2) := by decide +kernel
theorem dX7_carry_50 : decode cX7_carry 50 = .ok (.iload_n 2, 1) := by decide +kernel
theorem dX7_carry_51 : decode cX7_carry 51 = .ok (.i2l, 1) := by decide +kernel
theorem dX7_carry_52 : decode cX7_carry 52 = .ok (.iload_n 3, 1) := by decide +kernel
theorem dX7_carry_53 : decode cX7_carry 53 = .ok (.i2l, 1) := by decide +kernel
theorem dX7_carry_54 : decode cX7_carry 54 = .ok (.invokevirtual 136, 3) := by decide +kernel
theorem dX7_carry_57 : decode cX7_carry 57 = .ok (.aload 5, 2) := by decide +kernel
theorem dX7_carry_59 : decode cX7_carry 59 = .ok (.getfield 115, 3) := by decide +kernel
theorem dX7_carry_62 : decode cX7_carry 62 = .ok (.iload 4, 2) := by decide +kernel
theorem dX7_carry_64 : decode cX7_carry 64 = .ok (.iconst 2, 1) := by decide +kernel
theorem dX7_carry_65 : decode cX7_carry 65 = .ok (.irem, 1) := by decide +kernel
theorem dX7_carry_66 : decode cX7_carry 66 = .ok (.invokestatic 118, 3) := by decide +kernel
theorem dX7_carry_69 : decode cX7_carry 69 = .ok (.lreturn, 1) := by decide +kernel
set_option maxRecDepth 20000 in
theorem ggX7_off_X2_has : GoodIn wsX7_off wsX2_has := goodIn_r _ [7, 8, 106, 107, 108, 109] (by decide +kernel) (by decide +kernel)
set_option maxRecDepth 20000 in
theorem gX7_off_X2_has_n69 : GoodIn wsX7_off (wsX2_has) := ggX7_off_X2_has
set_option maxRecDepth 20000 in
theorem ggX7_off_X7_isKind : GoodIn wsX7_off wsX7_isKind := goodIn_r _ [12] (by decide +kernel) (by decide +kernel)
set_option maxRecDepth 20000 in
theorem gX7_off_X7_isKind : GoodIn wsX7_off (va_wsS RX7 94 yX7_isKind wsX7_isKind) := goodIn_app (goodIn_of _ (by decide +kernel)) ggX7_off_X7_isKind
set_option maxRecDepth 20000 in
theorem ggX7_off_X7_isPartOfTwo : GoodIn wsX7_off wsX7_isPartOfTwo := goodIn_r _ [15] (by decide +kernel) (by decide +kernel)
set_option maxRecDepth 20000 in
theorem gX7_off_X7_isPartOfTwo : GoodIn wsX7_off (va_wsS RX7 129 yX7_isPartOfTwo wsX7_isPartOfTwo) := goodIn_app (goodIn_of _ (by decide +kernel)) ggX7_off_X7_isPartOfTwo
set_option maxRecDepth 20000 in
theorem ggX7_off_X7_fits : GoodIn wsX7_off wsX7_fits := goodIn_r _ [19, 3, 1, 20, 5, 21, 22, 23, 24, 25, 26, 27, 28, 29, 30, 31, 32, 33, 34, 35, 36, 37, 38, 39, 40, 41, 42, 43, 44, 45, 46, 47, 48, 49, 50, 51, 52, 53, 54, 55, 56, 57, 58, 59, 60, 61, 62, 63, 64, 65, 66, 67, 68, 69, 70, 91, 92, 93, 94, 95, 96, 97, 98, 99, 100, 101, 106, 107, 108, 109, 110, 111, 112, 113, 114, 115, 116, 102, 103, 104, 105] (by decide +kernel) (by decide +kernel)
set_option maxRecDepth 20000 in
theorem gX7_off_X7_fits : GoodIn wsX7_off (wsV RX7 97 RX7 yX7_fits wsX7_fits) := goodIn_app (goodIn_of _ (by decide +kernel)) ggX7_off_X7_fits
set_option maxRecDepth 20000 in
theorem ggX7_off_X0_offAbove : GoodIn wsX7_off wsX0_offAbove := goodIn_r _ [73, 46, 74, 75, 76, 26, 77, 33, 34, 78, 52, 79, 80, 55, 56, 57, 110, 111, 112, 113, 114, 115, 116, 106, 107, 108, 109, 102, 103, 104, 105] (by decide +kernel) (by decide +kernel)
set_option maxRecDepth 20000 in
theorem gX7_off_X0_offAbove_n140 : GoodIn wsX7_off (wsX0_offAbove) := ggX7_off_X0_offAbove
set_option maxRecDepth 20000 in
theorem ggX7_off_X0_along : GoodIn wsX7_off wsX0_along := goodIn_r _ [77, 33, 34, 110, 111, 112, 113, 114, 115, 116] (by decide +kernel) (by decide +kernel)
set_option maxRecDepth 20000 in
theorem gX7_off_X0_along_n132 : GoodIn wsX7_off (wsX0_along) := ggX7_off_X0_along
set_option maxRecDepth 20000 in
theorem ggX7_off_X7_cleared : GoodIn wsX7_off wsX7_cleared := goodIn_r _ [83, 84, 85, 86, 87, 2, 88, 89, 11, 90] (by decide +kernel) (by decide +kernel)
set_option maxRecDepth 20000 in
theorem gX7_off_X7_cleared : GoodIn wsX7_off (va_wsS RX7 118 yX7_cleared wsX7_cleared) := goodIn_app (goodIn_of _ (by decide +kernel)) ggX7_off_X7_cleared
theorem dX7_off_0 : decode cX7_off 0 = .ok (.aload_n 0, 1) := by decide +kernel
theorem dX7_off_1 : decode cX7_off 1 = .ok (.getfield 10, 3) := by decide +kernel
theorem dX7_off_4 : decode cX7_off 4 = .ok (.getfield 21, 3) := by decide +kernel
theorem dX7_off_7 : decode cX7_off 7 = .ok (.iload_n 2, 1) := by decide +kernel
theorem dX7_off_8 : decode cX7_off 8 = .ok (.invokevirtual 69, 3) := by decide +kernel
theorem dX7_off_11 : decode cX7_off 11 = .ok (.ifCond .eq 25, 3) := by decide +kernel
theorem dX7_off_14 : decode cX7_off 14 = .ok (.iload_n 1, 1) := by decide +kernel
theorem dX7_off_15 : decode cX7_off 15 = .ok (.invokestatic 94, 3) := by decide +kernel
theorem dX7_off_18 : decode cX7_off 18 = .ok (.ifCond .eq 18, 3) := by decide +kernel
theorem dX7_off_21 : decode cX7_off 21 = .ok (.iload_n 3, 1) := by decide +kernel
theorem dX7_off_22 : decode cX7_off 22 = .ok (.invokestatic 129, 3) := by decide +kernel
theorem dX7_off_25 : decode cX7_off 25 = .ok (.ifCond .eq 11, 3) := by decide +kernel
theorem dX7_off_28 : decode cX7_off 28 = .ok (.aload_n 0, 1) := by decide +kernel
theorem dX7_off_29 : decode cX7_off 29 = .ok (.iload_n 1, 1) := by decide +kernel
