set_option maxRecDepth 20000 in
theorem ggX5_init_X5_greats : GoodIn wsX5_init wsX5_greats := goodIn_r _ [15, 16, 17, 18, 19, 20, 21, 2, 3, 5, 22, 30, 31, 32, 33] (by decide +kernel) (by decide +kernel)
set_option maxRecDepth 20000 in
theorem gX5_init_X5_greats : GoodIn wsX5_init (va_wsS RX5 24 yX5_greats wsX5_greats) := goodIn_app (goodIn_of _ (by decide +kernel)) ggX5_init_X5_greats
theorem dX5_init_0 : decode cX5_init 0 = .ok (.aload_n 0, 1) := by decide +kernel
theorem dX5_init_1 : decode cX5_init 1 = .ok (.invokespecial 3, 3) := by decide +kernel
theorem dX5_init_4 : decode cX5_init 4 = .ok (.aload_n 0, 1) := by decide +kernel
theorem dX5_init_5 : decode cX5_init 5 = .ok (.iconst 1, 1) := by decide +kernel
theorem dX5_init_6 : decode cX5_init 6 = .ok (.putfield 9, 3) := by decide +kernel
theorem dX5_init_9 : decode cX5_init 9 = .ok (.aload_n 0, 1) := by decide +kernel
theorem dX5_init_10 : decode cX5_init 10 = .ok (.bipush 110, 2) := by decide +kernel
theorem dX5_init_12 : decode cX5_init 12 = .ok (.newarray .int, 2) := by decide +kernel
theorem dX5_init_14 : decode cX5_init 14 = .ok (.putfield 13, 3) := by decide +kernel
theorem dX5_init_17 : decode cX5_init 17 = .ok (.aload_n 0, 1) := by decide +kernel
theorem dX5_init_18 : decode cX5_init 18 = .ok (.bipush 10, 2) := by decide +kernel
theorem dX5_init_20 : decode cX5_init 20 = .ok (.newarray .long, 2) := by decide +kernel
theorem dX5_init_22 : decode cX5_init 22 = .ok (.putfield 17, 3) := by decide +kernel
theorem dX5_init_25 : decode cX5_init 25 = .ok (.aload_n 0, 1) := by decide +kernel
theorem dX5_init_26 : decode cX5_init 26 = .ok (.bipush 10, 2) := by decide +kernel
theorem dX5_init_28 : decode cX5_init 28 = .ok (.newarray .long, 2) := by decide +kernel
theorem dX5_init_30 : decode cX5_init 30 = .ok (.putfield 21, 3) := by decide +kernel
theorem dX5_init_33 : decode cX5_init 33 = .ok (.aload_n 0, 1) := by decide +kernel
theorem dX5_init_34 : decode cX5_init 34 = .ok (.bipush 110, 2) := by decide +kernel
theorem dX5_init_36 : decode cX5_init 36 = .ok (.invokestatic 24, 3) := by decide +kernel
theorem dX5_init_39 : decode cX5_init 39 = .ok (.putfield 28, 3) := by decide +kernel
theorem dX5_init_42 : decode cX5_init 42 = .ok (.aload_n 0, 1) := by decide +kernel
theorem dX5_init_43 : decode cX5_init 43 = .ok (.bipush 8, 2) := by decide +kernel
theorem dX5_init_45 : decode cX5_init 45 = .ok (.invokestatic 24, 3) := by decide +kernel
theorem dX5_init_48 : decode cX5_init 48 = .ok (.putfield 32, 3) := by decide +kernel
theorem dX5_init_51 : decode cX5_init 51 = .ok (.return_, 1) := by decide +kernel
theorem dX5_begin_0 : decode cX5_begin 0 = .ok (.iload_n 1, 1) := by decide +kernel
theorem dX5_begin_1 : decode cX5_begin 1 = .ok (.iconst 1, 1) := by decide +kernel
theorem dX5_begin_2 : decode cX5_begin 2 = .ok (.if_icmp .lt 9, 3) := by decide +kernel
theorem dX5_begin_5 : decode cX5_begin 5 = .ok (.iload_n 1, 1) := by decide +kernel
theorem dX5_begin_6 : decode cX5_begin 6 = .ok (.bipush 10, 2) := by decide +kernel
theorem dX5_begin_8 : decode cX5_begin 8 = .ok (.if_icmp .le 5, 3) := by decide +kernel
theorem dX5_begin_11 : decode cX5_begin 11 = .ok (.iconst 0, 1) := by decide +kernel
theorem dX5_begin_12 : decode cX5_begin 12 = .ok (.ireturn, 1) := by decide +kernel
theorem dX5_begin_13 : decode cX5_begin 13 = .ok (.aload_n 0, 1) := by decide +kernel
theorem dX5_begin_14 : decode cX5_begin 14 = .ok (.iload_n 1, 1) := by decide +kernel
theorem dX5_begin_15 : decode cX5_begin 15 = .ok (.putfield 9, 3) := by decide +kernel
theorem dX5_begin_18 : decode cX5_begin 18 = .ok (.iconst 0, 1) := by decide +kernel
theorem dX5_begin_19 : decode cX5_begin 19 = .ok (.istore_n 2, 1) := by decide +kernel
theorem dX5_begin_20 : decode cX5_begin 20 = .ok (.iload_n 2, 1) := by decide +kernel
theorem dX5_begin_21 : decode cX5_begin 21 = .ok (.aload_n 0, 1) := by decide +kernel
theorem dX5_begin_22 : decode cX5_begin 22 = .ok (.getfield 13, 3) := by decide +kernel
theorem dX5_begin_25 : decode cX5_begin 25 = .ok (.arraylength, 1) := by decide +kernel
theorem dX5_begin_26 : decode cX5_begin 26 = .ok (.if_icmp .ge 16, 3) := by decide +kernel
theorem dX5_begin_29 : decode cX5_begin 29 = .ok (.aload_n 0, 1) := by decide +kernel
theorem dX5_begin_30 : decode cX5_begin 30 = .ok (.getfield 13, 3) := by decide +kernel
theorem dX5_begin_33 : decode cX5_begin 33 = .ok (.iload_n 2, 1) := by decide +kernel
theorem dX5_begin_34 : decode cX5_begin 34 = .ok (.iconst 0, 1) := by decide +kernel
theorem dX5_begin_35 : decode cX5_begin 35 = .ok (.iastore, 1) := by decide +kernel
theorem dX5_begin_36 : decode cX5_begin 36 = .ok (.iinc 2 1, 3) := by decide +kernel
theorem dX5_begin_39 : decode cX5_begin 39 = .ok (.goto (-19), 3) := by decide +kernel
theorem dX5_begin_42 : decode cX5_begin 42 = .ok (.aload_n 0, 1) := by decide +kernel
theorem dX5_begin_43 : decode cX5_begin 43 = .ok (.iconst 0, 1) := by decide +kernel
theorem dX5_begin_44 : decode cX5_begin 44 = .ok (.putfield 35, 3) := by decide +kernel
theorem dX5_begin_47 : decode cX5_begin 47 = .ok (.iconst 1, 1) := by decide +kernel
theorem dX5_begin_48 : decode cX5_begin 48 = .ok (.ireturn, 1) := by decide +kernel
theorem dX5_isThere_0 : decode cX5_isThere 0 = .ok (.iload_n 1, 1) := by decide +kernel
theorem dX5_isThere_1 : decode cX5_isThere 1 = .ok (.ifCond .lt 27, 3) := by decide +kernel
theorem dX5_isThere_4 : decode cX5_isThere 4 = .ok (.iload_n 1, 1) := by decide +kernel
theorem dX5_isThere_5 : decode cX5_isThere 5 = .ok (.aload_n 0, 1) := by decide +kernel
theorem dX5_isThere_6 : decode cX5_isThere 6 = .ok (.getfield 9, 3) := by decide +kernel
theorem dX5_isThere_9 : decode cX5_isThere 9 = .ok (.if_icmp .ge 19, 3) := by decide +kernel
theorem dX5_isThere_12 : decode cX5_isThere 12 = .ok (.iload_n 2, 1) := by decide +kernel
theorem dX5_isThere_13 : decode cX5_isThere 13 = .ok (.ifCond .lt 15, 3) := by decide +kernel
theorem dX5_isThere_16 : decode cX5_isThere 16 = .ok (.iload_n 2, 1) := by decide +kernel
theorem dX5_isThere_17 : decode cX5_isThere 17 = .ok (.aload_n 0, 1) := by decide +kernel
theorem dX5_isThere_18 : decode cX5_isThere 18 = .ok (.getfield 9, 3) := by decide +kernel
theorem dX5_isThere_21 : decode cX5_isThere 21 = .ok (.if_icmp .gt 7, 3) := by decide +kernel
theorem dX5_isThere_24 : decode cX5_isThere 24 = .ok (.iconst 1, 1) := by decide +kernel
theorem dX5_isThere_25 : decode cX5_isThere 25 = .ok (.goto 4, 3) := by decide +kernel
theorem dX5_isThere_28 : decode cX5_isThere 28 = .ok (.iconst 0, 1) := by decide +kernel
theorem dX5_isThere_29 : decode cX5_isThere 29 = .ok (.ireturn, 1) := by decide +kernel
set_option maxRecDepth 20000 in
theorem ggX5_put_X5_isThere : GoodIn wsX5_put wsX5_isThere := goodIn_r _ [7, 2, 8, 9, 10, 11, 12, 13, 14] (by decide +kernel) (by decide +kernel)
set_option maxRecDepth 20000 in
theorem gX5_put_X5_isThere : GoodIn wsX5_put (wsV RX5 39 RX5 yX5_isThere wsX5_isThere) := goodIn_app (goodIn_of _ (by decide +kernel)) ggX5_put_X5_isThere
theorem dX5_put_0 : decode cX5_put 0 = .ok (.aload_n 0, 1) := by decide +kernel
theorem dX5_put_1 : decode cX5_put 1 = .ok (.iload_n 1, 1) := by decide +kernel
theorem dX5_put_2 : decode cX5_put 2 = .ok (.iload_n 2, 1) := by decide +kernel
theorem dX5_put_3 : decode cX5_put 3 = .ok (.invokevirtual 39, 3) := by decide +kernel
theorem dX5_put_6 : decode cX5_put 6 = .ok (.ifCond .ne 5, 3) := by decide +kernel
theorem dX5_put_9 : decode cX5_put 9 = .ok (.iconst 0, 1) := by decide +kernel
theorem dX5_put_10 : decode cX5_put 10 = .ok (.ireturn, 1) := by decide +kernel
theorem dX5_put_11 : decode cX5_put 11 = .ok (.aload_n 0, 1) := by decide +kernel
theorem dX5_put_12 : decode cX5_put 12 = .ok (.getfield 13, 3) := by decide +kernel
theorem dX5_put_15 : decode cX5_put 15 = .ok (.iload_n 1, 1) := by decide +kernel
theorem dX5_put_16 : decode cX5_put 16 = .ok (.aload_n 0, 1) := by decide +kernel
theorem dX5_put_17 : decode cX5_put 17 = .ok (.getfield 9, 3) := by decide +kernel
theorem dX5_put_20 : decode cX5_put 20 = .ok (.iconst 1, 1) := by decide +kernel
theorem dX5_put_21 : decode cX5_put 21 = .ok (.iadd, 1) := by decide +kernel
theorem dX5_put_22 : decode cX5_put 22 = .ok (.imul, 1) := by decide +kernel
theorem dX5_put_23 : decode cX5_put 23 = .ok (.iload_n 2, 1) := by decide +kernel
theorem dX5_put_24 : decode cX5_put 24 = .ok (.iadd, 1) := by decide +kernel
theorem dX5_put_25 : decode cX5_put 25 = .ok (.iload_n 3, 1) := by decide +kernel
theorem dX5_put_26 : decode cX5_put 26 = .ok (.iastore, 1) := by decide +kernel
theorem dX5_put_27 : decode cX5_put 27 = .ok (.iconst 1, 1) := by decide +kernel
theorem dX5_put_28 : decode cX5_put 28 = .ok (.ireturn, 1) := by decide +kernel
set_option maxRecDepth 20000 in
theorem ggX5_get_X5_isThere : GoodIn wsX5_get wsX5_isThere := goodIn_r _ [7, 2, 8, 9, 10, 11, 12, 13, 14] (by decide +kernel) (by decide +kernel)
set_option maxRecDepth 20000 in
theorem gX5_get_X5_isThere : GoodIn wsX5_get (wsV RX5 39 RX5 yX5_isThere wsX5_isThere) := goodIn_app (goodIn_of _ (by decide +kernel)) ggX5_get_X5_isThere
theorem dX5_get_0 : decode cX5_get 0 = .ok (.aload_n 0, 1) := by decide +kernel
theorem dX5_get_1 : decode cX5_get 1 = .ok (.iload_n 1, 1) := by decide +kernel
theorem dX5_get_2 : decode cX5_get 2 = .ok (.iload_n 2, 1) := by decide +kernel
theorem dX5_get_3 : decode cX5_get 3 = .ok (.invokevirtual 39, 3) := by decide +kernel
theorem dX5_get_6 : decode cX5_get 6 = .ok (.ifCond .eq 21, 3) := by decide +kernel
theorem dX5_get_9 : decode cX5_get 9 = .ok (.aload_n 0, 1) := by decide +kernel
theorem dX5_get_10 : decode cX5_get 10 = .ok (.getfield 13, 3) := by decide +kernel
theorem dX5_get_13 : decode cX5_get 13 = .ok (.iload_n 1, 1) := by decide +kernel
theorem dX5_get_14 : decode cX5_get 14 = .ok (.aload_n 0, 1) := by decide +kernel
theorem dX5_get_15 : decode cX5_get 15 = .ok (.getfield 9, 3) := by decide +kernel
theorem dX5_get_18 : decode cX5_get 18 = .ok (.iconst 1, 1) := by decide +kernel
theorem dX5_get_19 : decode cX5_get 19 = .ok (.iadd, 1) := by decide +kernel
theorem dX5_get_20 : decode cX5_get 20 = .ok (.imul, 1) := by decide +kernel
theorem dX5_get_21 : decode cX5_get 21 = .ok (.iload_n 2, 1) := by decide +kernel
theorem dX5_get_22 : decode cX5_get 22 = .ok (.iadd, 1) := by decide +kernel
theorem dX5_get_23 : decode cX5_get 23 = .ok (.iaload, 1) := by decide +kernel
theorem dX5_get_24 : decode cX5_get 24 = .ok (.goto 4, 3) := by decide +kernel
theorem dX5_get_27 : decode cX5_get 27 = .ok (.iconst 0, 1) := by decide +kernel
theorem dX5_get_28 : decode cX5_get 28 = .ok (.ireturn, 1) := by decide +kernel
set_option maxRecDepth 20000 in
theorem ggX5_solve_X4_set : GoodIn wsX5_solve wsX4_set := goodIn_r _ [9, 10, 11, 12, 13, 98, 99, 100, 101] (by decide +kernel) (by decide +kernel)
set_option maxRecDepth 20000 in
theorem gX5_solve_X4_set : GoodIn wsX5_solve (wsV RX5 43 RX4 yX4_set wsX4_set) := goodIn_app (goodIn_of _ (by decide +kernel)) ggX5_solve_X4_set
set_option maxRecDepth 20000 in
theorem ggX5_solve_X5_isReduced : GoodIn wsX5_solve wsX5_isReduced := goodIn_r _ [18, 19, 3, 5, 6, 7, 8, 9, 10, 11, 12, 13, 20, 21, 22, 23, 24, 25, 26, 17, 27, 28, 29, 30, 31, 32, 33, 34, 35, 36, 37, 38, 39, 40, 41, 42, 43, 44, 45, 46, 47, 48, 49, 50, 51, 52, 53, 54, 55, 56, 57, 58, 59, 60, 61, 62, 63, 64, 65, 66, 67, 68, 69, 70, 71, 72, 73, 74, 75, 76, 91, 92, 93, 94, 95, 96, 97, 98, 99, 100, 101] (by decide +kernel) (by decide +kernel)
set_option maxRecDepth 20000 in
theorem gX5_solve_X5_isReduced : GoodIn wsX5_solve (wsV RX5 49 RX5 yX5_isReduced wsX5_isReduced) := goodIn_app (goodIn_of _ (by decide +kernel)) ggX5_solve_X5_isReduced
set_option maxRecDepth 20000 in
theorem ggX5_solve_X5_fraction : GoodIn wsX5_solve wsX5_fraction := goodIn_r _ [80, 19, 81, 82, 83, 84, 28, 29, 30, 8, 31, 10, 11, 13, 20, 21, 22, 23, 65, 66, 67, 68, 69, 70, 71, 72, 73, 74, 75, 76, 56, 57, 58, 59, 60, 61, 62, 63, 64, 41, 42, 43, 44, 85, 86, 87, 88, 89, 90, 91, 92, 93, 94, 95, 96, 97, 98, 99, 100, 101] (by decide +kernel) (by decide +kernel)
set_option maxRecDepth 20000 in
theorem gX5_solve_X5_fraction : GoodIn wsX5_solve (wsV RX5 53 RX5 yX5_fraction wsX5_fraction) := goodIn_app (goodIn_of _ (by decide +kernel)) ggX5_solve_X5_fraction
theorem dX5_solve_0 : decode cX5_solve 0 = .ok (.aload_n 0, 1) := by decide +kernel
theorem dX5_solve_1 : decode cX5_solve 1 = .ok (.iconst 0, 1) := by decide +kernel
theorem dX5_solve_2 : decode cX5_solve 2 = .ok (.putfield 35, 3) := by decide +kernel
theorem dX5_solve_5 : decode cX5_solve 5 = .ok (.aload_n 0, 1) := by decide +kernel
theorem dX5_solve_6 : decode cX5_solve 6 = .ok (.getfield 9, 3) := by decide +kernel
theorem dX5_solve_9 : decode cX5_solve 9 = .ok (.iconst 1, 1) := by decide +kernel
theorem dX5_solve_10 : decode cX5_solve 10 = .ok (.iadd, 1) := by decide +kernel
theorem dX5_solve_11 : decode cX5_solve 11 = .ok (.istore_n 1, 1) := by decide +kernel
theorem dX5_solve_12 : decode cX5_solve 12 = .ok (.iconst 0, 1) := by decide +kernel
theorem dX5_solve_13 : decode cX5_solve 13 = .ok (.istore_n 2, 1) := by decide +kernel
theorem dX5_solve_14 : decode cX5_solve 14 = .ok (.iload_n 2, 1) := by decide +kernel
theorem dX5_solve_15 : decode cX5_solve 15 = .ok (.aload_n 0, 1) := by decide +kernel
theorem dX5_solve_16 : decode cX5_solve 16 = .ok (.getfield 9, 3) := by decide +kernel
theorem dX5_solve_19 : decode cX5_solve 19 = .ok (.iload_n 1, 1) := by decide +kernel
theorem dX5_solve_20 : decode cX5_solve 20 = .ok (.imul, 1) := by decide +kernel
theorem dX5_solve_21 : decode cX5_solve 21 = .ok (.if_icmp .ge 25, 3) := by decide +kernel
theorem dX5_solve_24 : decode cX5_solve 24 = .ok (.aload_n 0, 1) := by decide +kernel
theorem dX5_solve_25 : decode cX5_solve 25 = .ok (.getfield 28, 3) := by decide +kernel
theorem dX5_solve_28 : decode cX5_solve 28 = .ok (.iload_n 2, 1) := by decide +kernel
theorem dX5_solve_29 : decode cX5_solve 29 = .ok (.aaload, 1) := by decide +kernel
theorem dX5_solve_30 : decode cX5_solve 30 = .ok (.aload_n 0, 1) := by decide +kernel
theorem dX5_solve_31 : decode cX5_solve 31 = .ok (.getfield 13, 3) := by decide +kernel
theorem dX5_solve_34 : decode cX5_solve 34 = .ok (.iload_n 2, 1) := by decide +kernel
theorem dX5_solve_35 : decode cX5_solve 35 = .ok (.iaload, 1) := by decide +kernel
theorem dX5_solve_36 : decode cX5_solve 36 = .ok (.i2l, 1) := by decide +kernel
theorem dX5_solve_37 : decode cX5_solve 37 = .ok (.invokevirtual 43, 3) := by decide +kernel
theorem dX5_solve_40 : decode cX5_solve 40 = .ok (.iinc 2 1, 3) := by decide +kernel
theorem dX5_solve_43 : decode cX5_solve 43 = .ok (.goto (-29), 3) := by decide +kernel
theorem dX5_solve_46 : decode cX5_solve 46 = .ok (.aload_n 0, 1) := by decide +kernel
theorem dX5_solve_47 : decode cX5_solve 47 = .ok (.aload_n 0, 1) := by decide +kernel
theorem dX5_solve_48 : decode cX5_solve 48 = .ok (.getfield 9, 3) := by decide +kernel
theorem dX5_solve_51 : decode cX5_solve 51 = .ok (.invokevirtual 49, 3) := by decide +kernel
theorem dX5_solve_54 : decode cX5_solve 54 = .ok (.ifCond .ne 5, 3) := by decide +kernel
theorem dX5_solve_57 : decode cX5_solve 57 = .ok (.iconst (-1), 1) := by decide +kernel
theorem dX5_solve_58 : decode cX5_solve 58 = .ok (.ireturn, 1) := by decide +kernel
theorem dX5_solve_59 : decode cX5_solve 59 = .ok (.iconst 0, 1) := by decide +kernel
theorem dX5_solve_60 : decode cX5_solve 60 = .ok (.istore_n 2, 1) := by decide +kernel
theorem dX5_solve_61 : decode cX5_solve 61 = .ok (.iload_n 2, 1) := by decide +kernel
theorem dX5_solve_62 : decode cX5_solve 62 = .ok (.aload_n 0, 1) := by decide +kernel
theorem dX5_solve_63 : decode cX5_solve 63 = .ok (.getfield 9, 3) := by decide +kernel
theorem dX5_solve_66 : decode cX5_solve 66 = .ok (.if_icmp .ge 44, 3) := by decide +kernel
theorem dX5_solve_69 : decode cX5_solve 69 = .ok (.aload_n 0, 1) := by decide +kernel
theorem dX5_solve_70 : decode cX5_solve 70 = .ok (.aload_n 0, 1) := by decide +kernel
theorem dX5_solve_71 : decode cX5_solve 71 = .ok (.getfield 28, 3) := by decide +kernel
theorem dX5_solve_74 : decode cX5_solve 74 = .ok (.iload_n 1, 1) := by decide +kernel
theorem dX5_solve_75 : decode cX5_solve 75 = .ok (.iload_n 2, 1) := by decide +kernel
theorem dX5_solve_76 : decode cX5_solve 76 = .ok (.imul, 1) := by decide +kernel
theorem dX5_solve_77 : decode cX5_solve 77 = .ok (.aload_n 0, 1) := by decide +kernel
theorem dX5_solve_78 : decode cX5_solve 78 = .ok (.getfield 9, 3) := by decide +kernel
theorem dX5_solve_81 : decode cX5_solve 81 = .ok (.iadd, 1) := by decide +kernel
theorem dX5_solve_82 : decode cX5_solve 82 = .ok (.aaload, 1) := by decide +kernel
theorem dX5_solve_83 : decode cX5_solve 83 = .ok (.aload_n 0, 1) := by decide +kernel
theorem dX5_solve_84 : decode cX5_solve 84 = .ok (.getfield 28, 3) := by decide +kernel
theorem dX5_solve_87 : decode cX5_solve 87 = .ok (.iload_n 1, 1) := by decide +kernel
theorem dX5_solve_88 : decode cX5_solve 88 = .ok (.iload_n 2, 1) := by decide +kernel
theorem dX5_solve_89 : decode cX5_solve 89 = .ok (.imul, 1) := by decide +kernel
theorem dX5_solve_90 : decode cX5_solve 90 = .ok (.iload_n 2, 1) := by decide +kernel
theorem dX5_solve_91 : decode cX5_solve 91 = .ok (.iadd, 1) := by decide +kernel
theorem dX5_solve_92 : decode cX5_solve 92 = .ok (.aaload, 1) := by decide +kernel
theorem dX5_solve_93 : decode cX5_solve 93 = .ok (.iload_n 2, 1) := by decide +kernel
theorem dX5_solve_94 : decode cX5_solve 94 = .ok (.invokevirtual 53, 3) := by decide +kernel
theorem dX5_solve_97 : decode cX5_solve 97 = .ok (.ifCond .ne 7, 3) := by decide +kernel
theorem dX5_solve_100 : decode cX5_solve 100 = .ok (.iconst 1, 1) := by decide +kernel
theorem dX5_solve_101 : decode cX5_solve 101 = .ok (.iload_n 2, 1) := by decide +kernel
theorem dX5_solve_102 : decode cX5_solve 102 = .ok (.iadd, 1) := by decide +kernel
theorem dX5_solve_103 : decode cX5_solve 103 = .ok (.ireturn, 1) := by decide +kernel
theorem dX5_solve_104 : decode cX5_solve 104 = .ok (.iinc 2 1, 3) := by decide +kernel
theorem dX5_solve_107 : decode cX5_solve 107 = .ok (.goto (-46), 3) := by decide +kernel
theorem dX5_solve_110 : decode cX5_solve 110 = .ok (.aload_n 0, 1) := by decide +kernel
theorem dX5_solve_111 : decode cX5_solve 111 = .ok (.iconst 1, 1) := by decide +kernel
theorem dX5_solve_112 : decode cX5_solve 112 = .ok (.putfield 35, 3) := by decide +kernel
theorem dX5_solve_115 : decode cX5_solve 115 = .ok (.iconst 0, 1) := by decide +kernel
theorem dX5_solve_116 : decode cX5_solve 116 = .ok (.ireturn, 1) := by decide +kernel
theorem dX5_above_0 : decode cX5_above 0 = .ok (.aload_n 0, 1) := by decide +kernel
theorem dX5_above_1 : decode cX5_above 1 = .ok (.getfield 35, 3) := by decide +kernel
theorem dX5_above_4 : decode cX5_above 4 = .ok (.ifCond .eq 24, 3) := by decide +kernel
theorem dX5_above_7 : decode cX5_above 7 = .ok (.iload_n 1, 1) := by decide +kernel
theorem dX5_above_8 : decode cX5_above 8 = .ok (.ifCond .lt 20, 3) := by decide +kernel
theorem dX5_above_11 : decode cX5_above 11 = .ok (.iload_n 1, 1) := by decide +kernel
theorem dX5_above_12 : decode cX5_above 12 = .ok (.aload_n 0, 1) := by decide +kernel
theorem dX5_above_13 : decode cX5_above 13 = .ok (.getfield 9, 3) := by decide +kernel
theorem dX5_above_16 : decode cX5_above 16 = .ok (.if_icmp .ge 12, 3) := by decide +kernel
theorem dX5_above_19 : decode cX5_above 19 = .ok (.aload_n 0, 1) := by decide +kernel
theorem dX5_above_20 : decode cX5_above 20 = .ok (.getfield 17, 3) := by decide +kernel
theorem dX5_above_23 : decode cX5_above 23 = .ok (.iload_n 1, 1) := by decide +kernel
theorem dX5_above_24 : decode cX5_above 24 = .ok (.laload, 1) := by decide +kernel
theorem dX5_above_25 : decode cX5_above 25 = .ok (.goto 4, 3) := by decide +kernel
theorem dX5_above_28 : decode cX5_above 28 = .ok (.lconst 0, 1) := by decide +kernel
theorem dX5_above_29 : decode cX5_above 29 = .ok (.lreturn, 1) := by decide +kernel
theorem dX5_under_0 : decode cX5_under 0 = .ok (.aload_n 0, 1) := by decide +kernel
theorem dX5_under_1 : decode cX5_under 1 = .ok (.getfield 35, 3) := by decide +kernel
theorem dX5_under_4 : decode cX5_under 4 = .ok (.ifCond .eq 24, 3) := by decide +kernel
theorem dX5_under_7 : decode cX5_under 7 = .ok (.iload_n 1, 1) := by decide +kernel
theorem dX5_under_8 : decode cX5_under 8 = .ok (.ifCond .lt 20, 3) := by decide +kernel
theorem dX5_under_11 : decode cX5_under 11 = .ok (.iload_n 1, 1) := by decide +kernel
theorem dX5_under_12 : decode cX5_under 12 = .ok (.aload_n 0, 1) := by decide +kernel
theorem dX5_under_13 : decode cX5_under 13 = .ok (.getfield 9, 3) := by decide +kernel
theorem dX5_under_16 : decode cX5_under 16 = .ok (.if_icmp .ge 12, 3) := by decide +kernel
theorem dX5_under_19 : decode cX5_under 19 = .ok (.aload_n 0, 1) := by decide +kernel
theorem dX5_under_20 : decode cX5_under 20 = .ok (.getfield 21, 3) := by decide +kernel
theorem dX5_under_23 : decode cX5_under 23 = .ok (.iload_n 1, 1) := by decide +kernel
theorem dX5_under_24 : decode cX5_under 24 = .ok (.laload, 1) := by decide +kernel
theorem dX5_under_25 : decode cX5_under 25 = .ok (.goto 4, 3) := by decide +kernel
theorem dX5_under_28 : decode cX5_under 28 = .ok (.lconst 0, 1) := by decide +kernel
theorem dX5_under_29 : decode cX5_under 29 = .ok (.lreturn, 1) := by decide +kernel
set_option maxRecDepth 20000 in
theorem ggX5_greats_X4_init : GoodIn wsX5_greats wsX4_init := goodIn_r _ [5, 6, 7, 8, 9, 10, 11, 12, 13, 14] (by decide +kernel) (by decide +kernel)
set_option maxRecDepth 20000 in
theorem gX5_greats_X4_init_n57 : GoodIn wsX5_greats (wsX4_init) := ggX5_greats_X4_init
theorem dX5_greats_0 : decode cX5_greats 0 = .ok (.iload_n 0, 1) := by decide +kernel
theorem dX5_greats_1 : decode cX5_greats 1 = .ok (.anewarray 44, 3) := by decide +kernel
theorem dX5_greats_4 : decode cX5_greats 4 = .ok (.astore_n 1, 1) := by decide +kernel
theorem dX5_greats_5 : decode cX5_greats 5 = .ok (.iconst 0, 1) := by decide +kernel
theorem dX5_greats_6 : decode cX5_greats 6 = .ok (.istore_n 2, 1) := by decide +kernel
theorem dX5_greats_7 : decode cX5_greats 7 = .ok (.iload_n 2, 1) := by decide +kernel
theorem dX5_greats_8 : decode cX5_greats 8 = .ok (.iload_n 0, 1) := by decide +kernel
theorem dX5_greats_9 : decode cX5_greats 9 = .ok (.if_icmp .ge 19, 3) := by decide +kernel
theorem dX5_greats_12 : decode cX5_greats 12 = .ok (.aload_n 1, 1) := by decide +kernel
theorem dX5_greats_13 : decode cX5_greats 13 = .ok (.iload_n 2, 1) := by decide +kernel
theorem dX5_greats_14 : decode cX5_greats 14 = .ok (.new 44, 3) := by decide +kernel
theorem dX5_greats_17 : decode cX5_greats 17 = .ok (.dup, 1) := by decide +kernel
theorem dX5_greats_18 : decode cX5_greats 18 = .ok (.invokespecial 57, 3) := by decide +kernel
theorem dX5_greats_21 : decode cX5_greats 21 = .ok (.aastore, 1) := by decide +kernel
theorem dX5_greats_22 : decode cX5_greats 22 = .ok (.iinc 2 1, 3) := by decide +kernel
theorem dX5_greats_25 : decode cX5_greats 25 = .ok (.goto (-18), 3) := by decide +kernel
theorem dX5_greats_28 : decode cX5_greats 28 = .ok (.aload_n 1, 1) := by decide +kernel
theorem dX5_greats_29 : decode cX5_greats 29 = .ok (.areturn, 1) := by decide +kernel
