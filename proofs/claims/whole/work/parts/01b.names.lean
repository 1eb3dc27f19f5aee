set_option maxRecDepth 20000 in
theorem dX0_init_0 : decode cX0_init 0 = .ok (.aload_n 0, 1) := by decide +kernel
theorem dX0_init_1 : decode cX0_init 1 = .ok (.invokespecial 3, 3) := by decide +kernel
theorem dX0_init_4 : decode cX0_init 4 = .ok (.aload_n 0, 1) := by decide +kernel
theorem dX0_init_5 : decode cX0_init 5 = .ok (.bipush 110, 2) := by decide +kernel
theorem dX0_init_7 : decode cX0_init 7 = .ok (.bipush 21, 2) := by decide +kernel
theorem dX0_init_9 : decode cX0_init 9 = .ok (.multianewarray 11 2, 4) := by decide +kernel
theorem dX0_init_13 : decode cX0_init 13 = .ok (.putfield 13, 3) := by decide +kernel
theorem dX0_init_16 : decode cX0_init 16 = .ok (.aload_n 0, 1) := by decide +kernel
theorem dX0_init_17 : decode cX0_init 17 = .ok (.bipush 21, 2) := by decide +kernel
theorem dX0_init_19 : decode cX0_init 19 = .ok (.newarray .long, 2) := by decide +kernel
theorem dX0_init_21 : decode cX0_init 21 = .ok (.putfield 18, 3) := by decide +kernel
theorem dX0_init_24 : decode cX0_init 24 = .ok (.aload_n 0, 1) := by decide +kernel
theorem dX0_init_25 : decode cX0_init 25 = .ok (.bipush 21, 2) := by decide +kernel
theorem dX0_init_27 : decode cX0_init 27 = .ok (.newarray .long, 2) := by decide +kernel
theorem dX0_init_29 : decode cX0_init 29 = .ok (.putfield 22, 3) := by decide +kernel
theorem dX0_init_32 : decode cX0_init 32 = .ok (.aload_n 0, 1) := by decide +kernel
theorem dX0_init_33 : decode cX0_init 33 = .ok (.bipush 21, 2) := by decide +kernel
theorem dX0_init_35 : decode cX0_init 35 = .ok (.newarray .long, 2) := by decide +kernel
theorem dX0_init_37 : decode cX0_init 37 = .ok (.putfield 25, 3) := by decide +kernel
theorem dX0_init_40 : decode cX0_init 40 = .ok (.aload_n 0, 1) := by decide +kernel
theorem dX0_init_41 : decode cX0_init 41 = .ok (.iconst 1, 1) := by decide +kernel
theorem dX0_init_42 : decode cX0_init 42 = .ok (.putfield 28, 3) := by decide +kernel
theorem dX0_init_45 : decode cX0_init 45 = .ok (.aload_n 0, 1) := by decide +kernel
theorem dX0_init_46 : decode cX0_init 46 = .ok (.iconst 0, 1) := by decide +kernel
theorem dX0_init_47 : decode cX0_init 47 = .ok (.putfield 32, 3) := by decide +kernel
theorem dX0_init_50 : decode cX0_init 50 = .ok (.aload_n 0, 1) := by decide +kernel
theorem dX0_init_51 : decode cX0_init 51 = .ok (.iconst 0, 1) := by decide +kernel
theorem dX0_init_52 : decode cX0_init 52 = .ok (.putfield 35, 3) := by decide +kernel
theorem dX0_init_55 : decode cX0_init 55 = .ok (.aload_n 0, 1) := by decide +kernel
theorem dX0_init_56 : decode cX0_init 56 = .ok (.lconst 1, 1) := by decide +kernel
theorem dX0_init_57 : decode cX0_init 57 = .ok (.putfield 38, 3) := by decide +kernel
theorem dX0_init_60 : decode cX0_init 60 = .ok (.aload_n 0, 1) := by decide +kernel
theorem dX0_init_61 : decode cX0_init 61 = .ok (.iconst 1, 1) := by decide +kernel
theorem dX0_init_62 : decode cX0_init 62 = .ok (.putfield 42, 3) := by decide +kernel
theorem dX0_init_65 : decode cX0_init 65 = .ok (.aload_n 0, 1) := by decide +kernel
theorem dX0_init_66 : decode cX0_init 66 = .ok (.iconst 1, 1) := by decide +kernel
theorem dX0_init_67 : decode cX0_init 67 = .ok (.putfield 45, 3) := by decide +kernel
theorem dX0_init_70 : decode cX0_init 70 = .ok (.return_, 1) := by decide +kernel
set_option maxRecDepth 20000 in
theorem ggX0_reduce_X0_load : GoodIn wsX0_reduce wsX0_load := goodIn_r _ [6, 1, 7, 8, 9, 10, 5, 11, 12, 13, 14, 15, 16, 17, 18, 19, 20, 21, 113, 114, 115, 116, 117, 118, 119, 120, 121, 122] (by decide +kernel) (by decide +kernel)
set_option maxRecDepth 20000 in
theorem gX0_reduce_X0_load : GoodIn wsX0_reduce (wsV RX0 48 RX0 yX0_load wsX0_load) := goodIn_app (goodIn_of _ (by decide +kernel)) ggX0_reduce_X0_load
set_option maxRecDepth 20000 in
theorem ggX0_reduce_X0_findPivotRow : GoodIn wsX0_reduce wsX0_findPivotRow := goodIn_r _ [25, 1, 8, 9, 10, 5, 11, 12, 26, 27, 15, 28, 113, 114, 115, 116, 117, 118, 119, 120, 121, 122] (by decide +kernel) (by decide +kernel)
set_option maxRecDepth 20000 in
theorem gX0_reduce_X0_findPivotRow : GoodIn wsX0_reduce (wsV RX0 52 RX0 yX0_findPivotRow wsX0_findPivotRow) := goodIn_app (goodIn_of _ (by decide +kernel)) ggX0_reduce_X0_findPivotRow
set_option maxRecDepth 20000 in
theorem ggX0_reduce_X0_swapRows : GoodIn wsX0_reduce wsX0_swapRows := goodIn_r _ [32, 1, 12, 8, 9, 10, 5, 11, 113, 114, 115, 116, 117, 118, 119, 120, 121, 122] (by decide +kernel) (by decide +kernel)
set_option maxRecDepth 20000 in
theorem gX0_reduce_X0_swapRows : GoodIn wsX0_reduce (wsV RX0 56 RX0 yX0_swapRows wsX0_swapRows) := goodIn_app (goodIn_of _ (by decide +kernel)) ggX0_reduce_X0_swapRows
set_option maxRecDepth 20000 in
theorem ggX0_reduce_X0_prepareStep : GoodIn wsX0_reduce wsX0_prepareStep := goodIn_r _ [36, 37, 38, 39, 40, 1, 41, 42, 43, 44, 45, 46, 8, 9, 10, 5, 11, 12, 47, 48, 15, 49, 18, 19, 20, 21, 50, 51, 52, 17, 13, 14, 16, 53, 54, 55, 56, 57, 58, 59, 60, 61, 62, 63, 64, 65, 66, 67, 68, 69, 70, 71, 72, 73, 74, 75, 76, 77, 78, 79, 80, 81, 82, 83, 84, 7, 113, 114, 115, 116, 117, 118, 119, 120, 121, 122] (by decide +kernel) (by decide +kernel)
set_option maxRecDepth 20000 in
theorem gX0_reduce_X0_prepareStep : GoodIn wsX0_reduce (wsV RX0 60 RX0 yX0_prepareStep wsX0_prepareStep) := goodIn_app (goodIn_of _ (by decide +kernel)) ggX0_reduce_X0_prepareStep
set_option maxRecDepth 20000 in
theorem ggX0_reduce_X0_clearColumn : GoodIn wsX0_reduce wsX0_clearColumn := goodIn_r _ [88, 1, 8, 9, 10, 5, 11, 12, 89, 90, 91, 92, 93, 37, 46, 39, 38, 40, 45, 94, 19, 20, 21, 95, 96, 15, 97, 50, 51, 52, 17, 71, 72, 73, 74, 75, 76, 98, 99, 100, 101, 102, 103, 56, 57, 58, 59, 104, 105, 106, 107, 108, 109, 110, 111, 112, 113, 114, 115, 116, 117, 118, 119, 120, 121, 122] (by decide +kernel) (by decide +kernel)
set_option maxRecDepth 20000 in
theorem gX0_reduce_X0_clearColumn : GoodIn wsX0_reduce (wsV RX0 64 RX0 yX0_clearColumn wsX0_clearColumn) := goodIn_app (goodIn_of _ (by decide +kernel)) ggX0_reduce_X0_clearColumn
theorem dX0_reduce_0 : decode cX0_reduce 0 = .ok (.aload_n 0, 1) := by decide +kernel
theorem dX0_reduce_1 : decode cX0_reduce 1 = .ok (.iload_n 2, 1) := by decide +kernel
theorem dX0_reduce_2 : decode cX0_reduce 2 = .ok (.putfield 28, 3) := by decide +kernel
theorem dX0_reduce_5 : decode cX0_reduce 5 = .ok (.aload_n 0, 1) := by decide +kernel
theorem dX0_reduce_6 : decode cX0_reduce 6 = .ok (.aload_n 1, 1) := by decide +kernel
theorem dX0_reduce_7 : decode cX0_reduce 7 = .ok (.invokevirtual 48, 3) := by decide +kernel
theorem dX0_reduce_10 : decode cX0_reduce 10 = .ok (.iconst 0, 1) := by decide +kernel
theorem dX0_reduce_11 : decode cX0_reduce 11 = .ok (.istore_n 3, 1) := by decide +kernel
theorem dX0_reduce_12 : decode cX0_reduce 12 = .ok (.iload_n 3, 1) := by decide +kernel
theorem dX0_reduce_13 : decode cX0_reduce 13 = .ok (.aload_n 0, 1) := by decide +kernel
theorem dX0_reduce_14 : decode cX0_reduce 14 = .ok (.getfield 28, 3) := by decide +kernel
theorem dX0_reduce_17 : decode cX0_reduce 17 = .ok (.if_icmp .ge 40, 3) := by decide +kernel
theorem dX0_reduce_20 : decode cX0_reduce 20 = .ok (.aload_n 0, 1) := by decide +kernel
theorem dX0_reduce_21 : decode cX0_reduce 21 = .ok (.iload_n 3, 1) := by decide +kernel
theorem dX0_reduce_22 : decode cX0_reduce 22 = .ok (.invokevirtual 52, 3) := by decide +kernel
theorem dX0_reduce_25 : decode cX0_reduce 25 = .ok (.istore 4, 2) := by decide +kernel
theorem dX0_reduce_27 : decode cX0_reduce 27 = .ok (.iload 4, 2) := by decide +kernel
theorem dX0_reduce_29 : decode cX0_reduce 29 = .ok (.ifCond .ge 5, 3) := by decide +kernel
theorem dX0_reduce_32 : decode cX0_reduce 32 = .ok (.iconst 0, 1) := by decide +kernel
theorem dX0_reduce_33 : decode cX0_reduce 33 = .ok (.ireturn, 1) := by decide +kernel
theorem dX0_reduce_34 : decode cX0_reduce 34 = .ok (.aload_n 0, 1) := by decide +kernel
theorem dX0_reduce_35 : decode cX0_reduce 35 = .ok (.iload_n 3, 1) := by decide +kernel
theorem dX0_reduce_36 : decode cX0_reduce 36 = .ok (.iload 4, 2) := by decide +kernel
theorem dX0_reduce_38 : decode cX0_reduce 38 = .ok (.invokevirtual 56, 3) := by decide +kernel
theorem dX0_reduce_41 : decode cX0_reduce 41 = .ok (.aload_n 0, 1) := by decide +kernel
theorem dX0_reduce_42 : decode cX0_reduce 42 = .ok (.iload_n 3, 1) := by decide +kernel
theorem dX0_reduce_43 : decode cX0_reduce 43 = .ok (.invokevirtual 60, 3) := by decide +kernel
theorem dX0_reduce_46 : decode cX0_reduce 46 = .ok (.aload_n 0, 1) := by decide +kernel
theorem dX0_reduce_47 : decode cX0_reduce 47 = .ok (.iload_n 3, 1) := by decide +kernel
theorem dX0_reduce_48 : decode cX0_reduce 48 = .ok (.invokevirtual 64, 3) := by decide +kernel
theorem dX0_reduce_51 : decode cX0_reduce 51 = .ok (.iinc 3 1, 3) := by decide +kernel
theorem dX0_reduce_54 : decode cX0_reduce 54 = .ok (.goto (-42), 3) := by decide +kernel
theorem dX0_reduce_57 : decode cX0_reduce 57 = .ok (.iconst 1, 1) := by decide +kernel
theorem dX0_reduce_58 : decode cX0_reduce 58 = .ok (.ireturn, 1) := by decide +kernel
set_option maxRecDepth 20000 in
theorem ggX0_dividend_X0_cell : GoodIn wsX0_dividend wsX0_cell := goodIn_r _ [6, 7, 8, 9, 10, 11, 12, 13, 14, 15, 16, 17] (by decide +kernel) (by decide +kernel)
set_option maxRecDepth 20000 in
theorem gX0_dividend_X0_cell : GoodIn wsX0_dividend (wsV RX0 67 RX0 yX0_cell wsX0_cell) := goodIn_app (goodIn_of _ (by decide +kernel)) ggX0_dividend_X0_cell
theorem dX0_dividend_0 : decode cX0_dividend 0 = .ok (.aload_n 0, 1) := by decide +kernel
theorem dX0_dividend_1 : decode cX0_dividend 1 = .ok (.iload_n 1, 1) := by decide +kernel
theorem dX0_dividend_2 : decode cX0_dividend 2 = .ok (.aload_n 0, 1) := by decide +kernel
theorem dX0_dividend_3 : decode cX0_dividend 3 = .ok (.getfield 28, 3) := by decide +kernel
theorem dX0_dividend_6 : decode cX0_dividend 6 = .ok (.invokevirtual 67, 3) := by decide +kernel
theorem dX0_dividend_9 : decode cX0_dividend 9 = .ok (.areturn, 1) := by decide +kernel
set_option maxRecDepth 20000 in
theorem ggX0_divisor_X0_cell : GoodIn wsX0_divisor wsX0_cell := goodIn_r _ [6, 7, 8, 9, 10, 11, 12, 13, 14, 15, 16, 17] (by decide +kernel) (by decide +kernel)
set_option maxRecDepth 20000 in
theorem gX0_divisor_X0_cell : GoodIn wsX0_divisor (wsV RX0 67 RX0 yX0_cell wsX0_cell) := goodIn_app (goodIn_of _ (by decide +kernel)) ggX0_divisor_X0_cell
theorem dX0_divisor_0 : decode cX0_divisor 0 = .ok (.aload_n 0, 1) := by decide +kernel
theorem dX0_divisor_1 : decode cX0_divisor 1 = .ok (.aload_n 0, 1) := by decide +kernel
theorem dX0_divisor_2 : decode cX0_divisor 2 = .ok (.getfield 28, 3) := by decide +kernel
theorem dX0_divisor_5 : decode cX0_divisor 5 = .ok (.iconst 1, 1) := by decide +kernel
theorem dX0_divisor_6 : decode cX0_divisor 6 = .ok (.isub, 1) := by decide +kernel
theorem dX0_divisor_7 : decode cX0_divisor 7 = .ok (.aload_n 0, 1) := by decide +kernel
theorem dX0_divisor_8 : decode cX0_divisor 8 = .ok (.getfield 28, 3) := by decide +kernel
theorem dX0_divisor_11 : decode cX0_divisor 11 = .ok (.iconst 1, 1) := by decide +kernel
theorem dX0_divisor_12 : decode cX0_divisor 12 = .ok (.isub, 1) := by decide +kernel
theorem dX0_divisor_13 : decode cX0_divisor 13 = .ok (.invokevirtual 67, 3) := by decide +kernel
theorem dX0_divisor_16 : decode cX0_divisor 16 = .ok (.areturn, 1) := by decide +kernel
set_option maxRecDepth 20000 in
theorem ggX0_width_X0_limbsOfMinor : GoodIn wsX0_width wsX0_limbsOfMinor := goodIn_r _ [6, 7, 8, 9, 10, 11, 12, 13, 14, 15, 16, 17] (by decide +kernel) (by decide +kernel)
set_option maxRecDepth 20000 in
theorem gX0_width_X0_limbsOfMinor : GoodIn wsX0_width (wsV RX0 71 RX0 yX0_limbsOfMinor wsX0_limbsOfMinor) := goodIn_app (goodIn_of _ (by decide +kernel)) ggX0_width_X0_limbsOfMinor
theorem dX0_width_0 : decode cX0_width 0 = .ok (.aload_n 0, 1) := by decide +kernel
theorem dX0_width_1 : decode cX0_width 1 = .ok (.aload_n 0, 1) := by decide +kernel
theorem dX0_width_2 : decode cX0_width 2 = .ok (.getfield 28, 3) := by decide +kernel
theorem dX0_width_5 : decode cX0_width 5 = .ok (.invokevirtual 71, 3) := by decide +kernel
theorem dX0_width_8 : decode cX0_width 8 = .ok (.ireturn, 1) := by decide +kernel
theorem dX0_cell_0 : decode cX0_cell 0 = .ok (.aload_n 0, 1) := by decide +kernel
theorem dX0_cell_1 : decode cX0_cell 1 = .ok (.getfield 13, 3) := by decide +kernel
theorem dX0_cell_4 : decode cX0_cell 4 = .ok (.iload_n 1, 1) := by decide +kernel
theorem dX0_cell_5 : decode cX0_cell 5 = .ok (.bipush 11, 2) := by decide +kernel
theorem dX0_cell_7 : decode cX0_cell 7 = .ok (.imul, 1) := by decide +kernel
theorem dX0_cell_8 : decode cX0_cell 8 = .ok (.iload_n 2, 1) := by decide +kernel
theorem dX0_cell_9 : decode cX0_cell 9 = .ok (.iadd, 1) := by decide +kernel
theorem dX0_cell_10 : decode cX0_cell 10 = .ok (.aaload, 1) := by decide +kernel
theorem dX0_cell_11 : decode cX0_cell 11 = .ok (.areturn, 1) := by decide +kernel
set_option maxRecDepth 20000 in
theorem ggX0_load_X0_cell : GoodIn wsX0_load wsX0_cell := goodIn_r _ [7, 8, 18, 19, 20, 21, 22, 23, 24, 25, 26, 27] (by decide +kernel) (by decide +kernel)
set_option maxRecDepth 20000 in
theorem gX0_load_X0_cell : GoodIn wsX0_load (wsV RX0 67 RX0 yX0_cell wsX0_cell) := goodIn_app (goodIn_of _ (by decide +kernel)) ggX0_load_X0_cell
set_option maxRecDepth 20000 in
theorem ggX0_load_X1_setTo : GoodIn wsX0_load wsX1_setTo := goodIn_r _ [12, 13, 14, 15, 16, 17] (by decide +kernel) (by decide +kernel)
set_option maxRecDepth 20000 in
theorem gX0_load_X1_setTo : GoodIn wsX0_load (va_wsS RX0 74 yX1_setTo wsX1_setTo) := goodIn_app (goodIn_of _ (by decide +kernel)) ggX0_load_X1_setTo
theorem dX0_load_0 : decode cX0_load 0 = .ok (.iconst 0, 1) := by decide +kernel
theorem dX0_load_1 : decode cX0_load 1 = .ok (.istore_n 2, 1) := by decide +kernel
theorem dX0_load_2 : decode cX0_load 2 = .ok (.iconst 0, 1) := by decide +kernel
theorem dX0_load_3 : decode cX0_load 3 = .ok (.istore_n 3, 1) := by decide +kernel
theorem dX0_load_4 : decode cX0_load 4 = .ok (.iload_n 3, 1) := by decide +kernel
theorem dX0_load_5 : decode cX0_load 5 = .ok (.aload_n 0, 1) := by decide +kernel
theorem dX0_load_6 : decode cX0_load 6 = .ok (.getfield 28, 3) := by decide +kernel
theorem dX0_load_9 : decode cX0_load 9 = .ok (.if_icmp .ge 64, 3) := by decide +kernel
theorem dX0_load_12 : decode cX0_load 12 = .ok (.iconst 0, 1) := by decide +kernel
theorem dX0_load_13 : decode cX0_load 13 = .ok (.istore 4, 2) := by decide +kernel
theorem dX0_load_15 : decode cX0_load 15 = .ok (.iload 4, 2) := by decide +kernel
theorem dX0_load_17 : decode cX0_load 17 = .ok (.aload_n 0, 1) := by decide +kernel
theorem dX0_load_18 : decode cX0_load 18 = .ok (.getfield 28, 3) := by decide +kernel
theorem dX0_load_21 : decode cX0_load 21 = .ok (.if_icmp .gt 46, 3) := by decide +kernel
theorem dX0_load_24 : decode cX0_load 24 = .ok (.aload_n 1, 1) := by decide +kernel
theorem dX0_load_25 : decode cX0_load 25 = .ok (.iload_n 3, 1) := by decide +kernel
theorem dX0_load_26 : decode cX0_load 26 = .ok (.aaload, 1) := by decide +kernel
theorem dX0_load_27 : decode cX0_load 27 = .ok (.iload 4, 2) := by decide +kernel
theorem dX0_load_29 : decode cX0_load 29 = .ok (.iaload, 1) := by decide +kernel
theorem dX0_load_30 : decode cX0_load 30 = .ok (.istore 5, 2) := by decide +kernel
theorem dX0_load_32 : decode cX0_load 32 = .ok (.aload_n 0, 1) := by decide +kernel
theorem dX0_load_33 : decode cX0_load 33 = .ok (.iload_n 3, 1) := by decide +kernel
theorem dX0_load_34 : decode cX0_load 34 = .ok (.iload 4, 2) := by decide +kernel
theorem dX0_load_36 : decode cX0_load 36 = .ok (.invokevirtual 67, 3) := by decide +kernel
theorem dX0_load_39 : decode cX0_load 39 = .ok (.iload 5, 2) := by decide +kernel
theorem dX0_load_41 : decode cX0_load 41 = .ok (.invokestatic 74, 3) := by decide +kernel
theorem dX0_load_44 : decode cX0_load 44 = .ok (.iload_n 2, 1) := by decide +kernel
theorem dX0_load_45 : decode cX0_load 45 = .ok (.iload 5, 2) := by decide +kernel
theorem dX0_load_47 : decode cX0_load 47 = .ok (.ifCond .ge 10, 3) := by decide +kernel
theorem dX0_load_50 : decode cX0_load 50 = .ok (.iload 5, 2) := by decide +kernel
theorem dX0_load_52 : decode cX0_load 52 = .ok (.iconst (-1), 1) := by decide +kernel
theorem dX0_load_53 : decode cX0_load 53 = .ok (.ixor, 1) := by decide +kernel
theorem dX0_load_54 : decode cX0_load 54 = .ok (.goto 5, 3) := by decide +kernel
theorem dX0_load_57 : decode cX0_load 57 = .ok (.iload 5, 2) := by decide +kernel
theorem dX0_load_59 : decode cX0_load 59 = .ok (.ior, 1) := by decide +kernel
theorem dX0_load_60 : decode cX0_load 60 = .ok (.istore_n 2, 1) := by decide +kernel
theorem dX0_load_61 : decode cX0_load 61 = .ok (.iinc 4 1, 3) := by decide +kernel
theorem dX0_load_64 : decode cX0_load 64 = .ok (.goto (-49), 3) := by decide +kernel
theorem dX0_load_67 : decode cX0_load 67 = .ok (.iinc 3 1, 3) := by decide +kernel
theorem dX0_load_70 : decode cX0_load 70 = .ok (.goto (-66), 3) := by decide +kernel
theorem dX0_load_73 : decode cX0_load 73 = .ok (.aload_n 0, 1) := by decide +kernel
theorem dX0_load_74 : decode cX0_load 74 = .ok (.iconst 0, 1) := by decide +kernel
theorem dX0_load_75 : decode cX0_load 75 = .ok (.putfield 32, 3) := by decide +kernel
theorem dX0_load_78 : decode cX0_load 78 = .ok (.aload_n 0, 1) := by decide +kernel
theorem dX0_load_79 : decode cX0_load 79 = .ok (.getfield 32, 3) := by decide +kernel
theorem dX0_load_82 : decode cX0_load 82 = .ok (.bipush 31, 2) := by decide +kernel
theorem dX0_load_84 : decode cX0_load 84 = .ok (.if_icmp .ge 25, 3) := by decide +kernel
theorem dX0_load_87 : decode cX0_load 87 = .ok (.iload_n 2, 1) := by decide +kernel
theorem dX0_load_88 : decode cX0_load 88 = .ok (.aload_n 0, 1) := by decide +kernel
theorem dX0_load_89 : decode cX0_load 89 = .ok (.getfield 32, 3) := by decide +kernel
theorem dX0_load_92 : decode cX0_load 92 = .ok (.iushr, 1) := by decide +kernel
theorem dX0_load_93 : decode cX0_load 93 = .ok (.ifCond .eq 16, 3) := by decide +kernel
theorem dX0_load_96 : decode cX0_load 96 = .ok (.aload_n 0, 1) := by decide +kernel
theorem dX0_load_97 : decode cX0_load 97 = .ok (.dup, 1) := by decide +kernel
theorem dX0_load_98 : decode cX0_load 98 = .ok (.getfield 32, 3) := by decide +kernel
theorem dX0_load_101 : decode cX0_load 101 = .ok (.iconst 1, 1) := by decide +kernel
theorem dX0_load_102 : decode cX0_load 102 = .ok (.iadd, 1) := by decide +kernel
theorem dX0_load_103 : decode cX0_load 103 = .ok (.putfield 32, 3) := by decide +kernel
theorem dX0_load_106 : decode cX0_load 106 = .ok (.goto (-28), 3) := by decide +kernel
theorem dX0_load_109 : decode cX0_load 109 = .ok (.return_, 1) := by decide +kernel
theorem dX0_limbsOfMinor_0 : decode cX0_limbsOfMinor 0 = .ok (.iload_n 1, 1) := by decide +kernel
theorem dX0_limbsOfMinor_1 : decode cX0_limbsOfMinor 1 = .ok (.aload_n 0, 1) := by decide +kernel
theorem dX0_limbsOfMinor_2 : decode cX0_limbsOfMinor 2 = .ok (.getfield 32, 3) := by decide +kernel
theorem dX0_limbsOfMinor_5 : decode cX0_limbsOfMinor 5 = .ok (.imul, 1) := by decide +kernel
theorem dX0_limbsOfMinor_6 : decode cX0_limbsOfMinor 6 = .ok (.bipush 23, 2) := by decide +kernel
theorem dX0_limbsOfMinor_8 : decode cX0_limbsOfMinor 8 = .ok (.iadd, 1) := by decide +kernel
theorem dX0_limbsOfMinor_9 : decode cX0_limbsOfMinor 9 = .ok (.bipush 32, 2) := by decide +kernel
theorem dX0_limbsOfMinor_11 : decode cX0_limbsOfMinor 11 = .ok (.idiv, 1) := by decide +kernel
theorem dX0_limbsOfMinor_12 : decode cX0_limbsOfMinor 12 = .ok (.iconst 1, 1) := by decide +kernel
theorem dX0_limbsOfMinor_13 : decode cX0_limbsOfMinor 13 = .ok (.iadd, 1) := by decide +kernel
theorem dX0_limbsOfMinor_14 : decode cX0_limbsOfMinor 14 = .ok (.ireturn, 1) := by decide +kernel
set_option maxRecDepth 20000 in
theorem ggX0_findPivotRow_X0_cell : GoodIn wsX0_findPivotRow wsX0_cell := goodIn_r _ [6, 7, 12, 13, 14, 15, 16, 17, 18, 19, 20, 21] (by decide +kernel) (by decide +kernel)
set_option maxRecDepth 20000 in
theorem gX0_findPivotRow_X0_cell : GoodIn wsX0_findPivotRow (wsV RX0 67 RX0 yX0_cell wsX0_cell) := goodIn_app (goodIn_of _ (by decide +kernel)) ggX0_findPivotRow_X0_cell
set_option maxRecDepth 20000 in
theorem ggX0_findPivotRow_X1_isZero : GoodIn wsX0_findPivotRow wsX1_isZero := goodIn_r _ [11] (by decide +kernel) (by decide +kernel)
set_option maxRecDepth 20000 in
theorem gX0_findPivotRow_X1_isZero : GoodIn wsX0_findPivotRow (va_wsS RX0 78 yX1_isZero wsX1_isZero) := goodIn_app (goodIn_of _ (by decide +kernel)) ggX0_findPivotRow_X1_isZero
theorem dX0_findPivotRow_0 : decode cX0_findPivotRow 0 = .ok (.iload_n 1, 1) := by decide +kernel
theorem dX0_findPivotRow_1 : decode cX0_findPivotRow 1 = .ok (.istore_n 2, 1) := by decide +kernel
theorem dX0_findPivotRow_2 : decode cX0_findPivotRow 2 = .ok (.iload_n 2, 1) := by decide +kernel
theorem dX0_findPivotRow_3 : decode cX0_findPivotRow 3 = .ok (.aload_n 0, 1) := by decide +kernel
theorem dX0_findPivotRow_4 : decode cX0_findPivotRow 4 = .ok (.getfield 28, 3) := by decide +kernel
theorem dX0_findPivotRow_7 : decode cX0_findPivotRow 7 = .ok (.if_icmp .ge 23, 3) := by decide +kernel
theorem dX0_findPivotRow_10 : decode cX0_findPivotRow 10 = .ok (.aload_n 0, 1) := by decide +kernel
theorem dX0_findPivotRow_11 : decode cX0_findPivotRow 11 = .ok (.iload_n 2, 1) := by decide +kernel
theorem dX0_findPivotRow_12 : decode cX0_findPivotRow 12 = .ok (.iload_n 1, 1) := by decide +kernel
theorem dX0_findPivotRow_13 : decode cX0_findPivotRow 13 = .ok (.invokevirtual 67, 3) := by decide +kernel
theorem dX0_findPivotRow_16 : decode cX0_findPivotRow 16 = .ok (.invokestatic 78, 3) := by decide +kernel
theorem dX0_findPivotRow_19 : decode cX0_findPivotRow 19 = .ok (.ifCond .ne 5, 3) := by decide +kernel
theorem dX0_findPivotRow_22 : decode cX0_findPivotRow 22 = .ok (.iload_n 2, 1) := by decide +kernel
theorem dX0_findPivotRow_23 : decode cX0_findPivotRow 23 = .ok (.ireturn, 1) := by decide +kernel
theorem dX0_findPivotRow_24 : decode cX0_findPivotRow 24 = .ok (.iinc 2 1, 3) := by decide +kernel
theorem dX0_findPivotRow_27 : decode cX0_findPivotRow 27 = .ok (.goto (-25), 3) := by decide +kernel
theorem dX0_findPivotRow_30 : decode cX0_findPivotRow 30 = .ok (.iconst (-1), 1) := by decide +kernel
theorem dX0_findPivotRow_31 : decode cX0_findPivotRow 31 = .ok (.ireturn, 1) := by decide +kernel
set_option maxRecDepth 20000 in
theorem ggX0_swapRows_X0_cell : GoodIn wsX0_swapRows wsX0_cell := goodIn_r _ [7, 2, 8, 9, 10, 11, 12, 13, 14, 15, 16, 17] (by decide +kernel) (by decide +kernel)
set_option maxRecDepth 20000 in
theorem gX0_swapRows_X0_cell : GoodIn wsX0_swapRows (wsV RX0 67 RX0 yX0_cell wsX0_cell) := goodIn_app (goodIn_of _ (by decide +kernel)) ggX0_swapRows_X0_cell
theorem dX0_swapRows_0 : decode cX0_swapRows 0 = .ok (.iload_n 1, 1) := by decide +kernel
theorem dX0_swapRows_1 : decode cX0_swapRows 1 = .ok (.iload_n 2, 1) := by decide +kernel
theorem dX0_swapRows_2 : decode cX0_swapRows 2 = .ok (.if_icmp .ne 4, 3) := by decide +kernel
theorem dX0_swapRows_5 : decode cX0_swapRows 5 = .ok (.return_, 1) := by decide +kernel
theorem dX0_swapRows_6 : decode cX0_swapRows 6 = .ok (.iconst 0, 1) := by decide +kernel
theorem dX0_swapRows_7 : decode cX0_swapRows 7 = .ok (.istore_n 3, 1) := by decide +kernel
theorem dX0_swapRows_8 : decode cX0_swapRows 8 = .ok (.iload_n 3, 1) := by decide +kernel
theorem dX0_swapRows_9 : decode cX0_swapRows 9 = .ok (.aload_n 0, 1) := by decide +kernel
theorem dX0_swapRows_10 : decode cX0_swapRows 10 = .ok (.getfield 28, 3) := by decide +kernel
theorem dX0_swapRows_13 : decode cX0_swapRows 13 = .ok (.if_icmp .gt 47, 3) := by decide +kernel
theorem dX0_swapRows_16 : decode cX0_swapRows 16 = .ok (.aload_n 0, 1) := by decide +kernel
theorem dX0_swapRows_17 : decode cX0_swapRows 17 = .ok (.iload_n 1, 1) := by decide +kernel
theorem dX0_swapRows_18 : decode cX0_swapRows 18 = .ok (.iload_n 3, 1) := by decide +kernel
theorem dX0_swapRows_19 : decode cX0_swapRows 19 = .ok (.invokevirtual 67, 3) := by decide +kernel
theorem dX0_swapRows_22 : decode cX0_swapRows 22 = .ok (.astore 4, 2) := by decide +kernel
theorem dX0_swapRows_24 : decode cX0_swapRows 24 = .ok (.aload_n 0, 1) := by decide +kernel
theorem dX0_swapRows_25 : decode cX0_swapRows 25 = .ok (.getfield 13, 3) := by decide +kernel
theorem dX0_swapRows_28 : decode cX0_swapRows 28 = .ok (.iload_n 1, 1) := by decide +kernel
theorem dX0_swapRows_29 : decode cX0_swapRows 29 = .ok (.bipush 11, 2) := by decide +kernel
theorem dX0_swapRows_31 : decode cX0_swapRows 31 = .ok (.imul, 1) := by decide +kernel
theorem dX0_swapRows_32 : decode cX0_swapRows 32 = .ok (.iload_n 3, 1) := by decide +kernel
theorem dX0_swapRows_33 : decode cX0_swapRows 33 = .ok (.iadd, 1) := by decide +kernel
theorem dX0_swapRows_34 : decode cX0_swapRows 34 = .ok (.aload_n 0, 1) := by decide +kernel
theorem dX0_swapRows_35 : decode cX0_swapRows 35 = .ok (.iload_n 2, 1) := by decide +kernel
theorem dX0_swapRows_36 : decode cX0_swapRows 36 = .ok (.iload_n 3, 1) := by decide +kernel
theorem dX0_swapRows_37 : decode cX0_swapRows 37 = .ok (.invokevirtual 67, 3) := by decide +kernel
theorem dX0_swapRows_40 : decode cX0_swapRows 40 = .ok (.aastore, 1) := by decide +kernel
theorem dX0_swapRows_41 : decode cX0_swapRows 41 = .ok (.aload_n 0, 1) := by decide +kernel
theorem dX0_swapRows_42 : decode cX0_swapRows 42 = .ok (.getfield 13, 3) := by decide +kernel
theorem dX0_swapRows_45 : decode cX0_swapRows 45 = .ok (.iload_n 2, 1) := by decide +kernel
theorem dX0_swapRows_46 : decode cX0_swapRows 46 = .ok (.bipush 11, 2) := by decide +kernel
theorem dX0_swapRows_48 : decode cX0_swapRows 48 = .ok (.imul, 1) := by decide +kernel
theorem dX0_swapRows_49 : decode cX0_swapRows 49 = .ok (.iload_n 3, 1) := by decide +kernel
theorem dX0_swapRows_50 : decode cX0_swapRows 50 = .ok (.iadd, 1) := by decide +kernel
theorem dX0_swapRows_51 : decode cX0_swapRows 51 = .ok (.aload 4, 2) := by decide +kernel
theorem dX0_swapRows_53 : decode cX0_swapRows 53 = .ok (.aastore, 1) := by decide +kernel
theorem dX0_swapRows_54 : decode cX0_swapRows 54 = .ok (.iinc 3 1, 3) := by decide +kernel
theorem dX0_swapRows_57 : decode cX0_swapRows 57 = .ok (.goto (-49), 3) := by decide +kernel
theorem dX0_swapRows_60 : decode cX0_swapRows 60 = .ok (.return_, 1) := by decide +kernel
set_option maxRecDepth 20000 in
theorem ggX0_prepareStep_X0_cell : GoodIn wsX0_prepareStep wsX0_cell := goodIn_r _ [16, 17, 66, 67, 68, 69, 70, 71, 72, 73, 74, 75] (by decide +kernel) (by decide +kernel)
set_option maxRecDepth 20000 in
theorem gX0_prepareStep_X0_cell : GoodIn wsX0_prepareStep (wsV RX0 67 RX0 yX0_cell wsX0_cell) := goodIn_app (goodIn_of _ (by decide +kernel)) ggX0_prepareStep_X0_cell
set_option maxRecDepth 20000 in
theorem ggX0_prepareStep_X1_copyNegated : GoodIn wsX0_prepareStep wsX1_copyNegated := goodIn_r _ [21, 22, 23, 24, 25, 26, 27, 20, 28, 29] (by decide +kernel) (by decide +kernel)
set_option maxRecDepth 20000 in
theorem gX0_prepareStep_X1_copyNegated : GoodIn wsX0_prepareStep (va_wsS RX0 82 yX1_copyNegated wsX1_copyNegated) := goodIn_app (goodIn_of _ (by decide +kernel)) ggX0_prepareStep_X1_copyNegated
set_option maxRecDepth 20000 in
theorem ggX0_prepareStep_X1_setTo : GoodIn wsX0_prepareStep wsX1_setTo := goodIn_r _ [32, 29, 22, 23, 24, 25] (by decide +kernel) (by decide +kernel)
set_option maxRecDepth 20000 in
theorem gX0_prepareStep_X1_setTo : GoodIn wsX0_prepareStep (va_wsS RX0 74 yX1_setTo wsX1_setTo) := goodIn_app (goodIn_of _ (by decide +kernel)) ggX0_prepareStep_X1_setTo
set_option maxRecDepth 20000 in
theorem ggX0_prepareStep_X1_copy : GoodIn wsX0_prepareStep wsX1_copy := goodIn_r _ [35, 36, 37, 38, 39] (by decide +kernel) (by decide +kernel)
set_option maxRecDepth 20000 in
theorem gX0_prepareStep_X1_copy : GoodIn wsX0_prepareStep (va_wsS RX0 86 yX1_copy wsX1_copy) := goodIn_app (goodIn_of _ (by decide +kernel)) ggX0_prepareStep_X1_copy
set_option maxRecDepth 20000 in
theorem ggX0_prepareStep_X1_trailingZeros : GoodIn wsX0_prepareStep wsX1_trailingZeros := goodIn_r _ [42, 43, 44, 45, 46, 47, 48, 49, 50] (by decide +kernel) (by decide +kernel)
set_option maxRecDepth 20000 in
theorem gX0_prepareStep_X1_trailingZeros : GoodIn wsX0_prepareStep (va_wsS RX0 89 yX1_trailingZeros wsX1_trailingZeros) := goodIn_app (goodIn_of _ (by decide +kernel)) ggX0_prepareStep_X1_trailingZeros
set_option maxRecDepth 20000 in
theorem ggX0_prepareStep_X1_shiftRight : GoodIn wsX0_prepareStep wsX1_shiftRight := goodIn_r _ [53, 29, 54, 55, 20, 56] (by decide +kernel) (by decide +kernel)
set_option maxRecDepth 20000 in
theorem gX0_prepareStep_X1_shiftRight : GoodIn wsX0_prepareStep (va_wsS RX0 93 yX1_shiftRight wsX1_shiftRight) := goodIn_app (goodIn_of _ (by decide +kernel)) ggX0_prepareStep_X1_shiftRight
set_option maxRecDepth 20000 in
theorem ggX0_prepareStep_X1_inverse : GoodIn wsX0_prepareStep wsX1_inverse := goodIn_r _ [59, 60, 29] (by decide +kernel) (by decide +kernel)
set_option maxRecDepth 20000 in
theorem gX0_prepareStep_X1_inverse : GoodIn wsX0_prepareStep (va_wsS RX0 97 yX1_inverse wsX1_inverse) := goodIn_app (goodIn_of _ (by decide +kernel)) ggX0_prepareStep_X1_inverse
set_option maxRecDepth 20000 in
theorem ggX0_prepareStep_X0_limbsOfMinor : GoodIn wsX0_prepareStep wsX0_limbsOfMinor := goodIn_r _ [64, 65, 66, 67, 68, 69, 70, 71, 72, 73, 74, 75] (by decide +kernel) (by decide +kernel)
set_option maxRecDepth 20000 in
theorem gX0_prepareStep_X0_limbsOfMinor : GoodIn wsX0_prepareStep (wsV RX0 71 RX0 yX0_limbsOfMinor wsX0_limbsOfMinor) := goodIn_app (goodIn_of _ (by decide +kernel)) ggX0_prepareStep_X0_limbsOfMinor
theorem dX0_prepareStep_0 : decode cX0_prepareStep 0 = .ok (.aload_n 0, 1) := by decide +kernel
theorem dX0_prepareStep_1 : decode cX0_prepareStep 1 = .ok (.iload_n 1, 1) := by decide +kernel
theorem dX0_prepareStep_2 : decode cX0_prepareStep 2 = .ok (.iload_n 1, 1) := by decide +kernel
theorem dX0_prepareStep_3 : decode cX0_prepareStep 3 = .ok (.invokevirtual 67, 3) := by decide +kernel
theorem dX0_prepareStep_6 : decode cX0_prepareStep 6 = .ok (.aload_n 0, 1) := by decide +kernel
theorem dX0_prepareStep_7 : decode cX0_prepareStep 7 = .ok (.getfield 18, 3) := by decide +kernel
theorem dX0_prepareStep_10 : decode cX0_prepareStep 10 = .ok (.invokestatic 82, 3) := by decide +kernel
theorem dX0_prepareStep_13 : decode cX0_prepareStep 13 = .ok (.iload_n 1, 1) := by decide +kernel
theorem dX0_prepareStep_14 : decode cX0_prepareStep 14 = .ok (.ifCond .ne 14, 3) := by decide +kernel
theorem dX0_prepareStep_17 : decode cX0_prepareStep 17 = .ok (.aload_n 0, 1) := by decide +kernel
theorem dX0_prepareStep_18 : decode cX0_prepareStep 18 = .ok (.getfield 22, 3) := by decide +kernel
theorem dX0_prepareStep_21 : decode cX0_prepareStep 21 = .ok (.iconst 1, 1) := by decide +kernel
theorem dX0_prepareStep_22 : decode cX0_prepareStep 22 = .ok (.invokestatic 74, 3) := by decide +kernel
theorem dX0_prepareStep_25 : decode cX0_prepareStep 25 = .ok (.goto 20, 3) := by decide +kernel
theorem dX0_prepareStep_28 : decode cX0_prepareStep 28 = .ok (.aload_n 0, 1) := by decide +kernel
theorem dX0_prepareStep_29 : decode cX0_prepareStep 29 = .ok (.iload_n 1, 1) := by decide +kernel
theorem dX0_prepareStep_30 : decode cX0_prepareStep 30 = .ok (.iconst 1, 1) := by decide +kernel
theorem dX0_prepareStep_31 : decode cX0_prepareStep 31 = .ok (.isub, 1) := by decide +kernel
theorem dX0_prepareStep_32 : decode cX0_prepareStep 32 = .ok (.iload_n 1, 1) := by decide +kernel
theorem dX0_prepareStep_33 : decode cX0_prepareStep 33 = .ok (.iconst 1, 1) := by decide +kernel
theorem dX0_prepareStep_34 : decode cX0_prepareStep 34 = .ok (.isub, 1) := by decide +kernel
theorem dX0_prepareStep_35 : decode cX0_prepareStep 35 = .ok (.invokevirtual 67, 3) := by decide +kernel
theorem dX0_prepareStep_38 : decode cX0_prepareStep 38 = .ok (.aload_n 0, 1) := by decide +kernel
theorem dX0_prepareStep_39 : decode cX0_prepareStep 39 = .ok (.getfield 22, 3) := by decide +kernel
theorem dX0_prepareStep_42 : decode cX0_prepareStep 42 = .ok (.invokestatic 86, 3) := by decide +kernel
theorem dX0_prepareStep_45 : decode cX0_prepareStep 45 = .ok (.aload_n 0, 1) := by decide +kernel
theorem dX0_prepareStep_46 : decode cX0_prepareStep 46 = .ok (.aload_n 0, 1) := by decide +kernel
theorem dX0_prepareStep_47 : decode cX0_prepareStep 47 = .ok (.getfield 22, 3) := by decide +kernel
theorem dX0_prepareStep_50 : decode cX0_prepareStep 50 = .ok (.invokestatic 89, 3) := by decide +kernel
theorem dX0_prepareStep_53 : decode cX0_prepareStep 53 = .ok (.putfield 35, 3) := by decide +kernel
theorem dX0_prepareStep_56 : decode cX0_prepareStep 56 = .ok (.aload_n 0, 1) := by decide +kernel
theorem dX0_prepareStep_57 : decode cX0_prepareStep 57 = .ok (.getfield 22, 3) := by decide +kernel
theorem dX0_prepareStep_60 : decode cX0_prepareStep 60 = .ok (.aload_n 0, 1) := by decide +kernel
theorem dX0_prepareStep_61 : decode cX0_prepareStep 61 = .ok (.getfield 35, 3) := by decide +kernel
theorem dX0_prepareStep_64 : decode cX0_prepareStep 64 = .ok (.bipush 21, 2) := by decide +kernel
theorem dX0_prepareStep_66 : decode cX0_prepareStep 66 = .ok (.invokestatic 93, 3) := by decide +kernel
theorem dX0_prepareStep_69 : decode cX0_prepareStep 69 = .ok (.aload_n 0, 1) := by decide +kernel
theorem dX0_prepareStep_70 : decode cX0_prepareStep 70 = .ok (.aload_n 0, 1) := by decide +kernel
theorem dX0_prepareStep_71 : decode cX0_prepareStep 71 = .ok (.getfield 22, 3) := by decide +kernel
theorem dX0_prepareStep_74 : decode cX0_prepareStep 74 = .ok (.iconst 0, 1) := by decide +kernel
theorem dX0_prepareStep_75 : decode cX0_prepareStep 75 = .ok (.laload, 1) := by decide +kernel
theorem dX0_prepareStep_76 : decode cX0_prepareStep 76 = .ok (.invokestatic 97, 3) := by decide +kernel
theorem dX0_prepareStep_79 : decode cX0_prepareStep 79 = .ok (.putfield 38, 3) := by decide +kernel
theorem dX0_prepareStep_82 : decode cX0_prepareStep 82 = .ok (.aload_n 0, 1) := by decide +kernel
theorem dX0_prepareStep_83 : decode cX0_prepareStep 83 = .ok (.aload_n 0, 1) := by decide +kernel
theorem dX0_prepareStep_84 : decode cX0_prepareStep 84 = .ok (.iload_n 1, 1) := by decide +kernel
theorem dX0_prepareStep_85 : decode cX0_prepareStep 85 = .ok (.iconst 2, 1) := by decide +kernel
theorem dX0_prepareStep_86 : decode cX0_prepareStep 86 = .ok (.iadd, 1) := by decide +kernel
theorem dX0_prepareStep_87 : decode cX0_prepareStep 87 = .ok (.aload_n 0, 1) := by decide +kernel
theorem dX0_prepareStep_88 : decode cX0_prepareStep 88 = .ok (.getfield 28, 3) := by decide +kernel
theorem dX0_prepareStep_91 : decode cX0_prepareStep 91 = .ok (.invokestatic 101, 3) := by decide +kernel
theorem dX0_prepareStep_94 : decode cX0_prepareStep 94 = .ok (.invokevirtual 71, 3) := by decide +kernel
theorem dX0_prepareStep_97 : decode cX0_prepareStep 97 = .ok (.putfield 42, 3) := by decide +kernel
theorem dX0_prepareStep_100 : decode cX0_prepareStep 100 = .ok (.aload_n 0, 1) := by decide +kernel
theorem dX0_prepareStep_101 : decode cX0_prepareStep 101 = .ok (.aload_n 0, 1) := by decide +kernel
theorem dX0_prepareStep_102 : decode cX0_prepareStep 102 = .ok (.getfield 42, 3) := by decide +kernel
theorem dX0_prepareStep_105 : decode cX0_prepareStep 105 = .ok (.aload_n 0, 1) := by decide +kernel
theorem dX0_prepareStep_106 : decode cX0_prepareStep 106 = .ok (.getfield 35, 3) := by decide +kernel
theorem dX0_prepareStep_109 : decode cX0_prepareStep 109 = .ok (.bipush 32, 2) := by decide +kernel
theorem dX0_prepareStep_111 : decode cX0_prepareStep 111 = .ok (.idiv, 1) := by decide +kernel
theorem dX0_prepareStep_112 : decode cX0_prepareStep 112 = .ok (.iadd, 1) := by decide +kernel
theorem dX0_prepareStep_113 : decode cX0_prepareStep 113 = .ok (.iconst 1, 1) := by decide +kernel
theorem dX0_prepareStep_114 : decode cX0_prepareStep 114 = .ok (.iadd, 1) := by decide +kernel
theorem dX0_prepareStep_115 : decode cX0_prepareStep 115 = .ok (.bipush 21, 2) := by decide +kernel
theorem dX0_prepareStep_117 : decode cX0_prepareStep 117 = .ok (.invokestatic 101, 3) := by decide +kernel
theorem dX0_prepareStep_120 : decode cX0_prepareStep 120 = .ok (.putfield 45, 3) := by decide +kernel
theorem dX0_prepareStep_123 : decode cX0_prepareStep 123 = .ok (.return_, 1) := by decide +kernel
set_option maxRecDepth 20000 in
theorem ggX0_clearColumn_X0_cell : GoodIn wsX0_clearColumn wsX0_cell := goodIn_r _ [6, 7, 56, 57, 58, 59, 60, 61, 62, 63, 64, 65] (by decide +kernel) (by decide +kernel)
set_option maxRecDepth 20000 in
theorem gX0_clearColumn_X0_cell : GoodIn wsX0_clearColumn (wsV RX0 67 RX0 yX0_cell wsX0_cell) := goodIn_app (goodIn_of _ (by decide +kernel)) ggX0_clearColumn_X0_cell
set_option maxRecDepth 20000 in
theorem ggX0_clearColumn_X0_replace : GoodIn wsX0_clearColumn wsX0_replace := goodIn_r _ [11, 12, 13, 14, 15, 16, 17, 18, 19, 20, 21, 22, 23, 24, 25, 26, 27, 28, 29, 30, 31, 32, 33, 34, 35, 36, 37, 38, 39, 40, 41, 42, 43, 44, 45, 46, 47, 48, 49, 50, 51, 52, 53, 54, 55, 56, 57, 58, 59, 60, 61, 62, 63, 64, 65] (by decide +kernel) (by decide +kernel)
set_option maxRecDepth 20000 in
theorem gX0_clearColumn_X0_replace : GoodIn wsX0_clearColumn (wsV RX0 107 RX0 yX0_replace wsX0_replace) := goodIn_app (goodIn_of _ (by decide +kernel)) ggX0_clearColumn_X0_replace
theorem dX0_clearColumn_0 : decode cX0_clearColumn 0 = .ok (.iconst 0, 1) := by decide +kernel
theorem dX0_clearColumn_1 : decode cX0_clearColumn 1 = .ok (.istore_n 2, 1) := by decide +kernel
theorem dX0_clearColumn_2 : decode cX0_clearColumn 2 = .ok (.iload_n 2, 1) := by decide +kernel
theorem dX0_clearColumn_3 : decode cX0_clearColumn 3 = .ok (.aload_n 0, 1) := by decide +kernel
theorem dX0_clearColumn_4 : decode cX0_clearColumn 4 = .ok (.getfield 28, 3) := by decide +kernel
theorem dX0_clearColumn_7 : decode cX0_clearColumn 7 = .ok (.if_icmp .ge 54, 3) := by decide +kernel
theorem dX0_clearColumn_10 : decode cX0_clearColumn 10 = .ok (.iload_n 1, 1) := by decide +kernel
theorem dX0_clearColumn_11 : decode cX0_clearColumn 11 = .ok (.iconst 1, 1) := by decide +kernel
theorem dX0_clearColumn_12 : decode cX0_clearColumn 12 = .ok (.iadd, 1) := by decide +kernel
theorem dX0_clearColumn_13 : decode cX0_clearColumn 13 = .ok (.istore_n 3, 1) := by decide +kernel
theorem dX0_clearColumn_14 : decode cX0_clearColumn 14 = .ok (.iload_n 2, 1) := by decide +kernel
theorem dX0_clearColumn_15 : decode cX0_clearColumn 15 = .ok (.iload_n 1, 1) := by decide +kernel
theorem dX0_clearColumn_16 : decode cX0_clearColumn 16 = .ok (.if_icmp .eq 39, 3) := by decide +kernel
theorem dX0_clearColumn_19 : decode cX0_clearColumn 19 = .ok (.iload_n 3, 1) := by decide +kernel
theorem dX0_clearColumn_20 : decode cX0_clearColumn 20 = .ok (.aload_n 0, 1) := by decide +kernel
theorem dX0_clearColumn_21 : decode cX0_clearColumn 21 = .ok (.getfield 28, 3) := by decide +kernel
theorem dX0_clearColumn_24 : decode cX0_clearColumn 24 = .ok (.if_icmp .gt 31, 3) := by decide +kernel
theorem dX0_clearColumn_27 : decode cX0_clearColumn 27 = .ok (.aload_n 0, 1) := by decide +kernel
theorem dX0_clearColumn_28 : decode cX0_clearColumn 28 = .ok (.aload_n 0, 1) := by decide +kernel
theorem dX0_clearColumn_29 : decode cX0_clearColumn 29 = .ok (.iload_n 2, 1) := by decide +kernel
theorem dX0_clearColumn_30 : decode cX0_clearColumn 30 = .ok (.iload_n 3, 1) := by decide +kernel
theorem dX0_clearColumn_31 : decode cX0_clearColumn 31 = .ok (.invokevirtual 67, 3) := by decide +kernel
theorem dX0_clearColumn_34 : decode cX0_clearColumn 34 = .ok (.aload_n 0, 1) := by decide +kernel
theorem dX0_clearColumn_35 : decode cX0_clearColumn 35 = .ok (.iload_n 2, 1) := by decide +kernel
theorem dX0_clearColumn_36 : decode cX0_clearColumn 36 = .ok (.iload_n 1, 1) := by decide +kernel
theorem dX0_clearColumn_37 : decode cX0_clearColumn 37 = .ok (.invokevirtual 67, 3) := by decide +kernel
theorem dX0_clearColumn_40 : decode cX0_clearColumn 40 = .ok (.aload_n 0, 1) := by decide +kernel
theorem dX0_clearColumn_41 : decode cX0_clearColumn 41 = .ok (.iload_n 1, 1) := by decide +kernel
theorem dX0_clearColumn_42 : decode cX0_clearColumn 42 = .ok (.iload_n 3, 1) := by decide +kernel
theorem dX0_clearColumn_43 : decode cX0_clearColumn 43 = .ok (.invokevirtual 67, 3) := by decide +kernel
theorem dX0_clearColumn_46 : decode cX0_clearColumn 46 = .ok (.invokevirtual 107, 3) := by decide +kernel
theorem dX0_clearColumn_49 : decode cX0_clearColumn 49 = .ok (.iinc 3 1, 3) := by decide +kernel
theorem dX0_clearColumn_52 : decode cX0_clearColumn 52 = .ok (.goto (-38), 3) := by decide +kernel
theorem dX0_clearColumn_55 : decode cX0_clearColumn 55 = .ok (.iinc 2 1, 3) := by decide +kernel
theorem dX0_clearColumn_58 : decode cX0_clearColumn 58 = .ok (.goto (-56), 3) := by decide +kernel
theorem dX0_clearColumn_61 : decode cX0_clearColumn 61 = .ok (.return_, 1) := by decide +kernel
set_option maxRecDepth 20000 in
theorem ggX0_replace_J7_fill_d0a16 : GoodIn wsX0_replace wsJ7_fill_d0a16 := goodIn_r _ [11] (by decide +kernel) (by decide +kernel)
set_option maxRecDepth 20000 in
theorem gX0_replace_J7_fill_d0a16 : GoodIn wsX0_replace (va_wsS RX0 111 yJ7_fill_d0a16 wsJ7_fill_d0a16) := goodIn_app (goodIn_of _ (by decide +kernel)) ggX0_replace_J7_fill_d0a16
set_option maxRecDepth 20000 in
theorem ggX0_replace_X1_subtractProduct : GoodIn wsX0_replace wsX1_subtractProduct := goodIn_r _ [15, 16, 17, 14, 18, 19] (by decide +kernel) (by decide +kernel)
set_option maxRecDepth 20000 in
theorem gX0_replace_X1_subtractProduct : GoodIn wsX0_replace (va_wsS RX0 117 yX1_subtractProduct wsX1_subtractProduct) := goodIn_app (goodIn_of _ (by decide +kernel)) ggX0_replace_X1_subtractProduct
set_option maxRecDepth 20000 in
theorem ggX0_replace_X1_shiftRight : GoodIn wsX0_replace wsX1_shiftRight := goodIn_r _ [22, 19, 23, 24, 14, 25] (by decide +kernel) (by decide +kernel)
set_option maxRecDepth 20000 in
theorem gX0_replace_X1_shiftRight : GoodIn wsX0_replace (va_wsS RX0 93 yX1_shiftRight wsX1_shiftRight) := goodIn_app (goodIn_of _ (by decide +kernel)) ggX0_replace_X1_shiftRight
set_option maxRecDepth 20000 in
theorem ggX0_replace_X1_divideEvenly : GoodIn wsX0_replace wsX1_divideEvenly := goodIn_r _ [28, 19, 16, 17, 14, 18] (by decide +kernel) (by decide +kernel)
set_option maxRecDepth 20000 in
theorem gX0_replace_X1_divideEvenly : GoodIn wsX0_replace (va_wsS RX0 121 yX1_divideEvenly wsX1_divideEvenly) := goodIn_app (goodIn_of _ (by decide +kernel)) ggX0_replace_X1_divideEvenly
set_option maxRecDepth 20000 in
theorem ggX0_replace_X1_copyWidened : GoodIn wsX0_replace wsX1_copyWidened := goodIn_r _ [31, 32, 33, 34, 35, 19, 36, 37, 14, 38, 39, 40, 10, 41, 42, 43, 44] (by decide +kernel) (by decide +kernel)
set_option maxRecDepth 20000 in
theorem gX0_replace_X1_copyWidened : GoodIn wsX0_replace (va_wsS RX0 125 yX1_copyWidened wsX1_copyWidened) := goodIn_app (goodIn_of _ (by decide +kernel)) ggX0_replace_X1_copyWidened
theorem dX0_replace_0 : decode cX0_replace 0 = .ok (.aload_n 0, 1) := by decide +kernel
theorem dX0_replace_1 : decode cX0_replace 1 = .ok (.getfield 25, 3) := by decide +kernel
theorem dX0_replace_4 : decode cX0_replace 4 = .ok (.lconst 0, 1) := by decide +kernel
theorem dX0_replace_5 : decode cX0_replace 5 = .ok (.invokestatic 111, 3) := by decide +kernel
theorem dX0_replace_8 : decode cX0_replace 8 = .ok (.aload_n 0, 1) := by decide +kernel
theorem dX0_replace_9 : decode cX0_replace 9 = .ok (.getfield 25, 3) := by decide +kernel
theorem dX0_replace_12 : decode cX0_replace 12 = .ok (.aload_n 0, 1) := by decide +kernel
theorem dX0_replace_13 : decode cX0_replace 13 = .ok (.getfield 18, 3) := by decide +kernel
theorem dX0_replace_16 : decode cX0_replace 16 = .ok (.aload_n 1, 1) := by decide +kernel
theorem dX0_replace_17 : decode cX0_replace 17 = .ok (.aload_n 0, 1) := by decide +kernel
theorem dX0_replace_18 : decode cX0_replace 18 = .ok (.getfield 45, 3) := by decide +kernel
theorem dX0_replace_21 : decode cX0_replace 21 = .ok (.invokestatic 117, 3) := by decide +kernel
theorem dX0_replace_24 : decode cX0_replace 24 = .ok (.aload_n 0, 1) := by decide +kernel
theorem dX0_replace_25 : decode cX0_replace 25 = .ok (.getfield 25, 3) := by decide +kernel
theorem dX0_replace_28 : decode cX0_replace 28 = .ok (.aload_n 2, 1) := by decide +kernel
theorem dX0_replace_29 : decode cX0_replace 29 = .ok (.aload_n 3, 1) := by decide +kernel
theorem dX0_replace_30 : decode cX0_replace 30 = .ok (.aload_n 0, 1) := by decide +kernel
theorem dX0_replace_31 : decode cX0_replace 31 = .ok (.getfield 45, 3) := by decide +kernel
theorem dX0_replace_34 : decode cX0_replace 34 = .ok (.invokestatic 117, 3) := by decide +kernel
theorem dX0_replace_37 : decode cX0_replace 37 = .ok (.aload_n 0, 1) := by decide +kernel
theorem dX0_replace_38 : decode cX0_replace 38 = .ok (.getfield 25, 3) := by decide +kernel
theorem dX0_replace_41 : decode cX0_replace 41 = .ok (.aload_n 0, 1) := by decide +kernel
theorem dX0_replace_42 : decode cX0_replace 42 = .ok (.getfield 35, 3) := by decide +kernel
theorem dX0_replace_45 : decode cX0_replace 45 = .ok (.aload_n 0, 1) := by decide +kernel
theorem dX0_replace_46 : decode cX0_replace 46 = .ok (.getfield 45, 3) := by decide +kernel
theorem dX0_replace_49 : decode cX0_replace 49 = .ok (.invokestatic 93, 3) := by decide +kernel
theorem dX0_replace_52 : decode cX0_replace 52 = .ok (.aload_n 0, 1) := by decide +kernel
theorem dX0_replace_53 : decode cX0_replace 53 = .ok (.getfield 25, 3) := by decide +kernel
theorem dX0_replace_56 : decode cX0_replace 56 = .ok (.aload_n 0, 1) := by decide +kernel
theorem dX0_replace_57 : decode cX0_replace 57 = .ok (.getfield 22, 3) := by decide +kernel
theorem dX0_replace_60 : decode cX0_replace 60 = .ok (.aload_n 0, 1) := by decide +kernel
theorem dX0_replace_61 : decode cX0_replace 61 = .ok (.getfield 38, 3) := by decide +kernel
theorem dX0_replace_64 : decode cX0_replace 64 = .ok (.aload_n 0, 1) := by decide +kernel
theorem dX0_replace_65 : decode cX0_replace 65 = .ok (.getfield 42, 3) := by decide +kernel
theorem dX0_replace_68 : decode cX0_replace 68 = .ok (.invokestatic 121, 3) := by decide +kernel
theorem dX0_replace_71 : decode cX0_replace 71 = .ok (.aload_n 0, 1) := by decide +kernel
theorem dX0_replace_72 : decode cX0_replace 72 = .ok (.getfield 25, 3) := by decide +kernel
theorem dX0_replace_75 : decode cX0_replace 75 = .ok (.aload_n 0, 1) := by decide +kernel
theorem dX0_replace_76 : decode cX0_replace 76 = .ok (.getfield 42, 3) := by decide +kernel
theorem dX0_replace_79 : decode cX0_replace 79 = .ok (.aload_n 1, 1) := by decide +kernel
theorem dX0_replace_80 : decode cX0_replace 80 = .ok (.invokestatic 125, 3) := by decide +kernel
theorem dX0_replace_83 : decode cX0_replace 83 = .ok (.return_, 1) := by decide +kernel
