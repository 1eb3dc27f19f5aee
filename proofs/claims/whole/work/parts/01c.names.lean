set_option maxRecDepth 20000 in
theorem ggX1_setTo_J7_fill_d0a16 : GoodIn wsX1_setTo wsJ7_fill_d0a16 := goodIn_r _ [5] (by decide +kernel) (by decide +kernel)
set_option maxRecDepth 20000 in
theorem gX1_setTo_J7_fill_d0a16 : GoodIn wsX1_setTo (va_wsS RX1 11 yJ7_fill_d0a16 wsJ7_fill_d0a16) := goodIn_app (goodIn_of _ (by decide +kernel)) ggX1_setTo_J7_fill_d0a16
theorem dX1_setTo_0 : decode cX1_setTo 0 = .ok (.aload_n 0, 1) := by decide +kernel
theorem dX1_setTo_1 : decode cX1_setTo 1 = .ok (.iload_n 1, 1) := by decide +kernel
theorem dX1_setTo_2 : decode cX1_setTo 2 = .ok (.ifCond .ge 9, 3) := by decide +kernel
theorem dX1_setTo_5 : decode cX1_setTo 5 = .ok (.ldc2_w 9, 3) := by decide +kernel
theorem dX1_setTo_8 : decode cX1_setTo 8 = .ok (.goto 4, 3) := by decide +kernel
theorem dX1_setTo_11 : decode cX1_setTo 11 = .ok (.lconst 0, 1) := by decide +kernel
theorem dX1_setTo_12 : decode cX1_setTo 12 = .ok (.invokestatic 11, 3) := by decide +kernel
theorem dX1_setTo_15 : decode cX1_setTo 15 = .ok (.aload_n 0, 1) := by decide +kernel
theorem dX1_setTo_16 : decode cX1_setTo 16 = .ok (.iconst 0, 1) := by decide +kernel
theorem dX1_setTo_17 : decode cX1_setTo 17 = .ok (.iload_n 1, 1) := by decide +kernel
theorem dX1_setTo_18 : decode cX1_setTo 18 = .ok (.i2l, 1) := by decide +kernel
theorem dX1_setTo_19 : decode cX1_setTo 19 = .ok (.ldc2_w 9, 3) := by decide +kernel
theorem dX1_setTo_22 : decode cX1_setTo 22 = .ok (.land, 1) := by decide +kernel
theorem dX1_setTo_23 : decode cX1_setTo 23 = .ok (.lastore, 1) := by decide +kernel
theorem dX1_setTo_24 : decode cX1_setTo 24 = .ok (.return_, 1) := by decide +kernel
theorem dX1_isZero_0 : decode cX1_isZero 0 = .ok (.iconst 0, 1) := by decide +kernel
theorem dX1_isZero_1 : decode cX1_isZero 1 = .ok (.istore_n 1, 1) := by decide +kernel
theorem dX1_isZero_2 : decode cX1_isZero 2 = .ok (.iload_n 1, 1) := by decide +kernel
theorem dX1_isZero_3 : decode cX1_isZero 3 = .ok (.bipush 21, 2) := by decide +kernel
theorem dX1_isZero_5 : decode cX1_isZero 5 = .ok (.if_icmp .ge 19, 3) := by decide +kernel
theorem dX1_isZero_8 : decode cX1_isZero 8 = .ok (.aload_n 0, 1) := by decide +kernel
theorem dX1_isZero_9 : decode cX1_isZero 9 = .ok (.iload_n 1, 1) := by decide +kernel
theorem dX1_isZero_10 : decode cX1_isZero 10 = .ok (.laload, 1) := by decide +kernel
theorem dX1_isZero_11 : decode cX1_isZero 11 = .ok (.lconst 0, 1) := by decide +kernel
theorem dX1_isZero_12 : decode cX1_isZero 12 = .ok (.lcmp, 1) := by decide +kernel
theorem dX1_isZero_13 : decode cX1_isZero 13 = .ok (.ifCond .eq 5, 3) := by decide +kernel
theorem dX1_isZero_16 : decode cX1_isZero 16 = .ok (.iconst 0, 1) := by decide +kernel
theorem dX1_isZero_17 : decode cX1_isZero 17 = .ok (.ireturn, 1) := by decide +kernel
theorem dX1_isZero_18 : decode cX1_isZero 18 = .ok (.iinc 1 1, 3) := by decide +kernel
theorem dX1_isZero_21 : decode cX1_isZero 21 = .ok (.goto (-19), 3) := by decide +kernel
theorem dX1_isZero_24 : decode cX1_isZero 24 = .ok (.iconst 1, 1) := by decide +kernel
theorem dX1_isZero_25 : decode cX1_isZero 25 = .ok (.ireturn, 1) := by decide +kernel
set_option maxRecDepth 20000 in
theorem ggX1_isNegative_X1_isNegativeAt : GoodIn wsX1_isNegative wsX1_isNegativeAt := goodIn_r _ [4] (by decide +kernel) (by decide +kernel)
set_option maxRecDepth 20000 in
theorem gX1_isNegative_X1_isNegativeAt : GoodIn wsX1_isNegative (va_wsS RX1 17 yX1_isNegativeAt wsX1_isNegativeAt) := goodIn_app (goodIn_of _ (by decide +kernel)) ggX1_isNegative_X1_isNegativeAt
theorem dX1_isNegative_0 : decode cX1_isNegative 0 = .ok (.aload_n 0, 1) := by decide +kernel
theorem dX1_isNegative_1 : decode cX1_isNegative 1 = .ok (.bipush 21, 2) := by decide +kernel
theorem dX1_isNegative_3 : decode cX1_isNegative 3 = .ok (.invokestatic 17, 3) := by decide +kernel
theorem dX1_isNegative_6 : decode cX1_isNegative 6 = .ok (.ireturn, 1) := by decide +kernel
theorem dX1_isNegativeAt_0 : decode cX1_isNegativeAt 0 = .ok (.aload_n 0, 1) := by decide +kernel
theorem dX1_isNegativeAt_1 : decode cX1_isNegativeAt 1 = .ok (.iload_n 1, 1) := by decide +kernel
theorem dX1_isNegativeAt_2 : decode cX1_isNegativeAt 2 = .ok (.iconst 1, 1) := by decide +kernel
theorem dX1_isNegativeAt_3 : decode cX1_isNegativeAt 3 = .ok (.isub, 1) := by decide +kernel
theorem dX1_isNegativeAt_4 : decode cX1_isNegativeAt 4 = .ok (.laload, 1) := by decide +kernel
theorem dX1_isNegativeAt_5 : decode cX1_isNegativeAt 5 = .ok (.bipush 31, 2) := by decide +kernel
theorem dX1_isNegativeAt_7 : decode cX1_isNegativeAt 7 = .ok (.lushr, 1) := by decide +kernel
theorem dX1_isNegativeAt_8 : decode cX1_isNegativeAt 8 = .ok (.lconst 0, 1) := by decide +kernel
theorem dX1_isNegativeAt_9 : decode cX1_isNegativeAt 9 = .ok (.lcmp, 1) := by decide +kernel
theorem dX1_isNegativeAt_10 : decode cX1_isNegativeAt 10 = .ok (.ifCond .eq 7, 3) := by decide +kernel
theorem dX1_isNegativeAt_13 : decode cX1_isNegativeAt 13 = .ok (.iconst 1, 1) := by decide +kernel
theorem dX1_isNegativeAt_14 : decode cX1_isNegativeAt 14 = .ok (.goto 4, 3) := by decide +kernel
theorem dX1_isNegativeAt_17 : decode cX1_isNegativeAt 17 = .ok (.iconst 0, 1) := by decide +kernel
theorem dX1_isNegativeAt_18 : decode cX1_isNegativeAt 18 = .ok (.ireturn, 1) := by decide +kernel
theorem dX1_copy_0 : decode cX1_copy 0 = .ok (.aload_n 0, 1) := by decide +kernel
theorem dX1_copy_1 : decode cX1_copy 1 = .ok (.iconst 0, 1) := by decide +kernel
theorem dX1_copy_2 : decode cX1_copy 2 = .ok (.aload_n 1, 1) := by decide +kernel
theorem dX1_copy_3 : decode cX1_copy 3 = .ok (.iconst 0, 1) := by decide +kernel
theorem dX1_copy_4 : decode cX1_copy 4 = .ok (.bipush 21, 2) := by decide +kernel
theorem dX1_copy_6 : decode cX1_copy 6 = .ok (.invokestatic 21, 3) := by decide +kernel
theorem dX1_copy_9 : decode cX1_copy 9 = .ok (.return_, 1) := by decide +kernel
set_option maxRecDepth 20000 in
theorem ggX1_copyWidened_X1_isNegativeAt : GoodIn wsX1_copyWidened wsX1_isNegativeAt := goodIn_r _ [9] (by decide +kernel) (by decide +kernel)
set_option maxRecDepth 20000 in
theorem gX1_copyWidened_X1_isNegativeAt : GoodIn wsX1_copyWidened (va_wsS RX1 17 yX1_isNegativeAt wsX1_isNegativeAt) := goodIn_app (goodIn_of _ (by decide +kernel)) ggX1_copyWidened_X1_isNegativeAt
set_option maxRecDepth 20000 in
theorem ggX1_copyWidened_J7_fill_bad5a : GoodIn wsX1_copyWidened wsJ7_fill_bad5a := goodIn_r _ [13, 14, 15, 12, 16] (by decide +kernel) (by decide +kernel)
set_option maxRecDepth 20000 in
theorem gX1_copyWidened_J7_fill_bad5a : GoodIn wsX1_copyWidened (va_wsS RX1 27 yJ7_fill_bad5a wsJ7_fill_bad5a) := goodIn_app (goodIn_of _ (by decide +kernel)) ggX1_copyWidened_J7_fill_bad5a
theorem dX1_copyWidened_0 : decode cX1_copyWidened 0 = .ok (.aload_n 0, 1) := by decide +kernel
theorem dX1_copyWidened_1 : decode cX1_copyWidened 1 = .ok (.iconst 0, 1) := by decide +kernel
theorem dX1_copyWidened_2 : decode cX1_copyWidened 2 = .ok (.aload_n 2, 1) := by decide +kernel
theorem dX1_copyWidened_3 : decode cX1_copyWidened 3 = .ok (.iconst 0, 1) := by decide +kernel
theorem dX1_copyWidened_4 : decode cX1_copyWidened 4 = .ok (.iload_n 1, 1) := by decide +kernel
theorem dX1_copyWidened_5 : decode cX1_copyWidened 5 = .ok (.invokestatic 21, 3) := by decide +kernel
theorem dX1_copyWidened_8 : decode cX1_copyWidened 8 = .ok (.aload_n 2, 1) := by decide +kernel
theorem dX1_copyWidened_9 : decode cX1_copyWidened 9 = .ok (.iload_n 1, 1) := by decide +kernel
theorem dX1_copyWidened_10 : decode cX1_copyWidened 10 = .ok (.bipush 21, 2) := by decide +kernel
theorem dX1_copyWidened_12 : decode cX1_copyWidened 12 = .ok (.aload_n 0, 1) := by decide +kernel
theorem dX1_copyWidened_13 : decode cX1_copyWidened 13 = .ok (.iload_n 1, 1) := by decide +kernel
theorem dX1_copyWidened_14 : decode cX1_copyWidened 14 = .ok (.invokestatic 17, 3) := by decide +kernel
theorem dX1_copyWidened_17 : decode cX1_copyWidened 17 = .ok (.ifCond .eq 9, 3) := by decide +kernel
theorem dX1_copyWidened_20 : decode cX1_copyWidened 20 = .ok (.ldc2_w 9, 3) := by decide +kernel
theorem dX1_copyWidened_23 : decode cX1_copyWidened 23 = .ok (.goto 4, 3) := by decide +kernel
theorem dX1_copyWidened_26 : decode cX1_copyWidened 26 = .ok (.lconst 0, 1) := by decide +kernel
theorem dX1_copyWidened_27 : decode cX1_copyWidened 27 = .ok (.invokestatic 27, 3) := by decide +kernel
theorem dX1_copyWidened_30 : decode cX1_copyWidened 30 = .ok (.return_, 1) := by decide +kernel
set_option maxRecDepth 20000 in
theorem ggX1_copyNegated_J7_fill_d0a16 : GoodIn wsX1_copyNegated wsJ7_fill_d0a16 := goodIn_r _ [4] (by decide +kernel) (by decide +kernel)
set_option maxRecDepth 20000 in
theorem gX1_copyNegated_J7_fill_d0a16 : GoodIn wsX1_copyNegated (va_wsS RX1 11 yJ7_fill_d0a16 wsJ7_fill_d0a16) := goodIn_app (goodIn_of _ (by decide +kernel)) ggX1_copyNegated_J7_fill_d0a16
set_option maxRecDepth 20000 in
theorem ggX1_copyNegated_X1_subtractScaled : GoodIn wsX1_copyNegated wsX1_subtractScaled := goodIn_r _ [8, 9] (by decide +kernel) (by decide +kernel)
set_option maxRecDepth 20000 in
theorem gX1_copyNegated_X1_subtractScaled : GoodIn wsX1_copyNegated (va_wsS RX1 30 yX1_subtractScaled wsX1_subtractScaled) := goodIn_app (goodIn_of _ (by decide +kernel)) ggX1_copyNegated_X1_subtractScaled
theorem dX1_copyNegated_0 : decode cX1_copyNegated 0 = .ok (.aload_n 1, 1) := by decide +kernel
theorem dX1_copyNegated_1 : decode cX1_copyNegated 1 = .ok (.lconst 0, 1) := by decide +kernel
theorem dX1_copyNegated_2 : decode cX1_copyNegated 2 = .ok (.invokestatic 11, 3) := by decide +kernel
theorem dX1_copyNegated_5 : decode cX1_copyNegated 5 = .ok (.aload_n 1, 1) := by decide +kernel
theorem dX1_copyNegated_6 : decode cX1_copyNegated 6 = .ok (.iconst 0, 1) := by decide +kernel
theorem dX1_copyNegated_7 : decode cX1_copyNegated 7 = .ok (.lconst 1, 1) := by decide +kernel
theorem dX1_copyNegated_8 : decode cX1_copyNegated 8 = .ok (.aload_n 0, 1) := by decide +kernel
theorem dX1_copyNegated_9 : decode cX1_copyNegated 9 = .ok (.bipush 21, 2) := by decide +kernel
theorem dX1_copyNegated_11 : decode cX1_copyNegated 11 = .ok (.invokestatic 30, 3) := by decide +kernel
theorem dX1_copyNegated_14 : decode cX1_copyNegated 14 = .ok (.return_, 1) := by decide +kernel
set_option maxRecDepth 20000 in
theorem ggX1_copyMagnitude_X1_isNegative : GoodIn wsX1_copyMagnitude wsX1_isNegative := goodIn_r _ [4, 5, 6, 3, 7] (by decide +kernel) (by decide +kernel)
set_option maxRecDepth 20000 in
theorem gX1_copyMagnitude_X1_isNegative : GoodIn wsX1_copyMagnitude (va_wsS RX1 34 yX1_isNegative wsX1_isNegative) := goodIn_app (goodIn_of _ (by decide +kernel)) ggX1_copyMagnitude_X1_isNegative
set_option maxRecDepth 20000 in
theorem ggX1_copyMagnitude_X1_copyNegated : GoodIn wsX1_copyMagnitude wsX1_copyNegated := goodIn_r _ [10, 11, 12, 13, 14, 15, 16, 3, 17, 18] (by decide +kernel) (by decide +kernel)
set_option maxRecDepth 20000 in
theorem gX1_copyMagnitude_X1_copyNegated : GoodIn wsX1_copyMagnitude (va_wsS RX1 38 yX1_copyNegated wsX1_copyNegated) := goodIn_app (goodIn_of _ (by decide +kernel)) ggX1_copyMagnitude_X1_copyNegated
set_option maxRecDepth 20000 in
theorem ggX1_copyMagnitude_X1_copy : GoodIn wsX1_copyMagnitude wsX1_copy := goodIn_r _ [21, 22, 23, 24, 25] (by decide +kernel) (by decide +kernel)
set_option maxRecDepth 20000 in
theorem gX1_copyMagnitude_X1_copy : GoodIn wsX1_copyMagnitude (va_wsS RX1 42 yX1_copy wsX1_copy) := goodIn_app (goodIn_of _ (by decide +kernel)) ggX1_copyMagnitude_X1_copy
theorem dX1_copyMagnitude_0 : decode cX1_copyMagnitude 0 = .ok (.aload_n 0, 1) := by decide +kernel
theorem dX1_copyMagnitude_1 : decode cX1_copyMagnitude 1 = .ok (.invokestatic 34, 3) := by decide +kernel
theorem dX1_copyMagnitude_4 : decode cX1_copyMagnitude 4 = .ok (.ifCond .eq 11, 3) := by decide +kernel
theorem dX1_copyMagnitude_7 : decode cX1_copyMagnitude 7 = .ok (.aload_n 0, 1) := by decide +kernel
theorem dX1_copyMagnitude_8 : decode cX1_copyMagnitude 8 = .ok (.aload_n 1, 1) := by decide +kernel
theorem dX1_copyMagnitude_9 : decode cX1_copyMagnitude 9 = .ok (.invokestatic 38, 3) := by decide +kernel
theorem dX1_copyMagnitude_12 : decode cX1_copyMagnitude 12 = .ok (.goto 8, 3) := by decide +kernel
theorem dX1_copyMagnitude_15 : decode cX1_copyMagnitude 15 = .ok (.aload_n 0, 1) := by decide +kernel
theorem dX1_copyMagnitude_16 : decode cX1_copyMagnitude 16 = .ok (.aload_n 1, 1) := by decide +kernel
theorem dX1_copyMagnitude_17 : decode cX1_copyMagnitude 17 = .ok (.invokestatic 42, 3) := by decide +kernel
theorem dX1_copyMagnitude_20 : decode cX1_copyMagnitude 20 = .ok (.return_, 1) := by decide +kernel
theorem dX1_compare_0 : decode cX1_compare 0 = .ok (.iload_n 2, 1) := by decide +kernel
theorem dX1_compare_1 : decode cX1_compare 1 = .ok (.iconst 1, 1) := by decide +kernel
theorem dX1_compare_2 : decode cX1_compare 2 = .ok (.isub, 1) := by decide +kernel
theorem dX1_compare_3 : decode cX1_compare 3 = .ok (.istore_n 3, 1) := by decide +kernel
theorem dX1_compare_4 : decode cX1_compare 4 = .ok (.iload_n 3, 1) := by decide +kernel
theorem dX1_compare_5 : decode cX1_compare 5 = .ok (.ifCond .lt 35, 3) := by decide +kernel
theorem dX1_compare_8 : decode cX1_compare 8 = .ok (.aload_n 0, 1) := by decide +kernel
theorem dX1_compare_9 : decode cX1_compare 9 = .ok (.iload_n 3, 1) := by decide +kernel
theorem dX1_compare_10 : decode cX1_compare 10 = .ok (.laload, 1) := by decide +kernel
theorem dX1_compare_11 : decode cX1_compare 11 = .ok (.aload_n 1, 1) := by decide +kernel
theorem dX1_compare_12 : decode cX1_compare 12 = .ok (.iload_n 3, 1) := by decide +kernel
theorem dX1_compare_13 : decode cX1_compare 13 = .ok (.laload, 1) := by decide +kernel
theorem dX1_compare_14 : decode cX1_compare 14 = .ok (.lcmp, 1) := by decide +kernel
theorem dX1_compare_15 : decode cX1_compare 15 = .ok (.ifCond .eq 19, 3) := by decide +kernel
theorem dX1_compare_18 : decode cX1_compare 18 = .ok (.aload_n 0, 1) := by decide +kernel
theorem dX1_compare_19 : decode cX1_compare 19 = .ok (.iload_n 3, 1) := by decide +kernel
theorem dX1_compare_20 : decode cX1_compare 20 = .ok (.laload, 1) := by decide +kernel
theorem dX1_compare_21 : decode cX1_compare 21 = .ok (.aload_n 1, 1) := by decide +kernel
theorem dX1_compare_22 : decode cX1_compare 22 = .ok (.iload_n 3, 1) := by decide +kernel
theorem dX1_compare_23 : decode cX1_compare 23 = .ok (.laload, 1) := by decide +kernel
theorem dX1_compare_24 : decode cX1_compare 24 = .ok (.lcmp, 1) := by decide +kernel
theorem dX1_compare_25 : decode cX1_compare 25 = .ok (.ifCond .ge 7, 3) := by decide +kernel
theorem dX1_compare_28 : decode cX1_compare 28 = .ok (.iconst (-1), 1) := by decide +kernel
theorem dX1_compare_29 : decode cX1_compare 29 = .ok (.goto 4, 3) := by decide +kernel
theorem dX1_compare_32 : decode cX1_compare 32 = .ok (.iconst 1, 1) := by decide +kernel
theorem dX1_compare_33 : decode cX1_compare 33 = .ok (.ireturn, 1) := by decide +kernel
theorem dX1_compare_34 : decode cX1_compare 34 = .ok (.iinc 3 (-1), 3) := by decide +kernel
theorem dX1_compare_37 : decode cX1_compare 37 = .ok (.goto (-33), 3) := by decide +kernel
theorem dX1_compare_40 : decode cX1_compare 40 = .ok (.iconst 0, 1) := by decide +kernel
theorem dX1_compare_41 : decode cX1_compare 41 = .ok (.ireturn, 1) := by decide +kernel
theorem dX1_subtractScaled_0 : decode cX1_subtractScaled 0 = .ok (.lconst 0, 1) := by decide +kernel
theorem dX1_subtractScaled_1 : decode cX1_subtractScaled 1 = .ok (.lstore 6, 2) := by decide +kernel
theorem dX1_subtractScaled_3 : decode cX1_subtractScaled 3 = .ok (.iload_n 1, 1) := by decide +kernel
theorem dX1_subtractScaled_4 : decode cX1_subtractScaled 4 = .ok (.istore 8, 2) := by decide +kernel
theorem dX1_subtractScaled_6 : decode cX1_subtractScaled 6 = .ok (.iload 8, 2) := by decide +kernel
theorem dX1_subtractScaled_8 : decode cX1_subtractScaled 8 = .ok (.iload 5, 2) := by decide +kernel
theorem dX1_subtractScaled_10 : decode cX1_subtractScaled 10 = .ok (.if_icmp .ge 59, 3) := by decide +kernel
theorem dX1_subtractScaled_13 : decode cX1_subtractScaled 13 = .ok (.lload_n 2, 1) := by decide +kernel
theorem dX1_subtractScaled_14 : decode cX1_subtractScaled 14 = .ok (.aload 4, 2) := by decide +kernel
theorem dX1_subtractScaled_16 : decode cX1_subtractScaled 16 = .ok (.iload 8, 2) := by decide +kernel
theorem dX1_subtractScaled_18 : decode cX1_subtractScaled 18 = .ok (.iload_n 1, 1) := by decide +kernel
theorem dX1_subtractScaled_19 : decode cX1_subtractScaled 19 = .ok (.isub, 1) := by decide +kernel
theorem dX1_subtractScaled_20 : decode cX1_subtractScaled 20 = .ok (.laload, 1) := by decide +kernel
theorem dX1_subtractScaled_21 : decode cX1_subtractScaled 21 = .ok (.lmul, 1) := by decide +kernel
theorem dX1_subtractScaled_22 : decode cX1_subtractScaled 22 = .ok (.lload 6, 2) := by decide +kernel
theorem dX1_subtractScaled_24 : decode cX1_subtractScaled 24 = .ok (.ladd, 1) := by decide +kernel
theorem dX1_subtractScaled_25 : decode cX1_subtractScaled 25 = .ok (.lstore 9, 2) := by decide +kernel
theorem dX1_subtractScaled_27 : decode cX1_subtractScaled 27 = .ok (.aload_n 0, 1) := by decide +kernel
theorem dX1_subtractScaled_28 : decode cX1_subtractScaled 28 = .ok (.iload 8, 2) := by decide +kernel
theorem dX1_subtractScaled_30 : decode cX1_subtractScaled 30 = .ok (.laload, 1) := by decide +kernel
theorem dX1_subtractScaled_31 : decode cX1_subtractScaled 31 = .ok (.lload 9, 2) := by decide +kernel
theorem dX1_subtractScaled_33 : decode cX1_subtractScaled 33 = .ok (.ldc2_w 9, 3) := by decide +kernel
theorem dX1_subtractScaled_36 : decode cX1_subtractScaled 36 = .ok (.land, 1) := by decide +kernel
theorem dX1_subtractScaled_37 : decode cX1_subtractScaled 37 = .ok (.lsub, 1) := by decide +kernel
theorem dX1_subtractScaled_38 : decode cX1_subtractScaled 38 = .ok (.lstore 11, 2) := by decide +kernel
theorem dX1_subtractScaled_40 : decode cX1_subtractScaled 40 = .ok (.aload_n 0, 1) := by decide +kernel
theorem dX1_subtractScaled_41 : decode cX1_subtractScaled 41 = .ok (.iload 8, 2) := by decide +kernel
theorem dX1_subtractScaled_43 : decode cX1_subtractScaled 43 = .ok (.lload 11, 2) := by decide +kernel
theorem dX1_subtractScaled_45 : decode cX1_subtractScaled 45 = .ok (.ldc2_w 9, 3) := by decide +kernel
theorem dX1_subtractScaled_48 : decode cX1_subtractScaled 48 = .ok (.land, 1) := by decide +kernel
theorem dX1_subtractScaled_49 : decode cX1_subtractScaled 49 = .ok (.lastore, 1) := by decide +kernel
theorem dX1_subtractScaled_50 : decode cX1_subtractScaled 50 = .ok (.lload 9, 2) := by decide +kernel
theorem dX1_subtractScaled_52 : decode cX1_subtractScaled 52 = .ok (.bipush 32, 2) := by decide +kernel
theorem dX1_subtractScaled_54 : decode cX1_subtractScaled 54 = .ok (.lushr, 1) := by decide +kernel
theorem dX1_subtractScaled_55 : decode cX1_subtractScaled 55 = .ok (.lload 11, 2) := by decide +kernel
theorem dX1_subtractScaled_57 : decode cX1_subtractScaled 57 = .ok (.bipush 63, 2) := by decide +kernel
theorem dX1_subtractScaled_59 : decode cX1_subtractScaled 59 = .ok (.lushr, 1) := by decide +kernel
theorem dX1_subtractScaled_60 : decode cX1_subtractScaled 60 = .ok (.ladd, 1) := by decide +kernel
theorem dX1_subtractScaled_61 : decode cX1_subtractScaled 61 = .ok (.lstore 6, 2) := by decide +kernel
theorem dX1_subtractScaled_63 : decode cX1_subtractScaled 63 = .ok (.iinc 8 1, 3) := by decide +kernel
theorem dX1_subtractScaled_66 : decode cX1_subtractScaled 66 = .ok (.goto (-60), 3) := by decide +kernel
theorem dX1_subtractScaled_69 : decode cX1_subtractScaled 69 = .ok (.return_, 1) := by decide +kernel
set_option maxRecDepth 20000 in
theorem ggX1_subtractProduct_X1_subtractScaled : GoodIn wsX1_subtractProduct wsX1_subtractScaled := goodIn_r _ [4, 5] (by decide +kernel) (by decide +kernel)
set_option maxRecDepth 20000 in
theorem gX1_subtractProduct_X1_subtractScaled : GoodIn wsX1_subtractProduct (va_wsS RX1 30 yX1_subtractScaled wsX1_subtractScaled) := goodIn_app (goodIn_of _ (by decide +kernel)) ggX1_subtractProduct_X1_subtractScaled
theorem dX1_subtractProduct_0 : decode cX1_subtractProduct 0 = .ok (.iconst 0, 1) := by decide +kernel
theorem dX1_subtractProduct_1 : decode cX1_subtractProduct 1 = .ok (.istore 4, 2) := by decide +kernel
theorem dX1_subtractProduct_3 : decode cX1_subtractProduct 3 = .ok (.iload 4, 2) := by decide +kernel
theorem dX1_subtractProduct_5 : decode cX1_subtractProduct 5 = .ok (.iload_n 3, 1) := by decide +kernel
theorem dX1_subtractProduct_6 : decode cX1_subtractProduct 6 = .ok (.if_icmp .ge 30, 3) := by decide +kernel
theorem dX1_subtractProduct_9 : decode cX1_subtractProduct 9 = .ok (.aload_n 1, 1) := by decide +kernel
theorem dX1_subtractProduct_10 : decode cX1_subtractProduct 10 = .ok (.iload 4, 2) := by decide +kernel
theorem dX1_subtractProduct_12 : decode cX1_subtractProduct 12 = .ok (.laload, 1) := by decide +kernel
theorem dX1_subtractProduct_13 : decode cX1_subtractProduct 13 = .ok (.lconst 0, 1) := by decide +kernel
theorem dX1_subtractProduct_14 : decode cX1_subtractProduct 14 = .ok (.lcmp, 1) := by decide +kernel
theorem dX1_subtractProduct_15 : decode cX1_subtractProduct 15 = .ok (.ifCond .eq 15, 3) := by decide +kernel
theorem dX1_subtractProduct_18 : decode cX1_subtractProduct 18 = .ok (.aload_n 0, 1) := by decide +kernel
theorem dX1_subtractProduct_19 : decode cX1_subtractProduct 19 = .ok (.iload 4, 2) := by decide +kernel
theorem dX1_subtractProduct_21 : decode cX1_subtractProduct 21 = .ok (.aload_n 1, 1) := by decide +kernel
theorem dX1_subtractProduct_22 : decode cX1_subtractProduct 22 = .ok (.iload 4, 2) := by decide +kernel
theorem dX1_subtractProduct_24 : decode cX1_subtractProduct 24 = .ok (.laload, 1) := by decide +kernel
theorem dX1_subtractProduct_25 : decode cX1_subtractProduct 25 = .ok (.aload_n 2, 1) := by decide +kernel
theorem dX1_subtractProduct_26 : decode cX1_subtractProduct 26 = .ok (.iload_n 3, 1) := by decide +kernel
theorem dX1_subtractProduct_27 : decode cX1_subtractProduct 27 = .ok (.invokestatic 30, 3) := by decide +kernel
theorem dX1_subtractProduct_30 : decode cX1_subtractProduct 30 = .ok (.iinc 4 1, 3) := by decide +kernel
theorem dX1_subtractProduct_33 : decode cX1_subtractProduct 33 = .ok (.goto (-30), 3) := by decide +kernel
theorem dX1_subtractProduct_36 : decode cX1_subtractProduct 36 = .ok (.return_, 1) := by decide +kernel
set_option maxRecDepth 20000 in
theorem ggX1_trailingZeros_J13_bitCount_95d88 : GoodIn wsX1_trailingZeros wsJ13_bitCount_95d88 := goodIn_r _ [5, 6, 7, 8] (by decide +kernel) (by decide +kernel)
set_option maxRecDepth 20000 in
theorem gX1_trailingZeros_J13_bitCount_95d88 : GoodIn wsX1_trailingZeros (va_wsS RX1 47 yJ13_bitCount_95d88 wsJ13_bitCount_95d88) := goodIn_app (goodIn_of _ (by decide +kernel)) ggX1_trailingZeros_J13_bitCount_95d88
theorem dX1_trailingZeros_0 : decode cX1_trailingZeros 0 = .ok (.iconst 0, 1) := by decide +kernel
theorem dX1_trailingZeros_1 : decode cX1_trailingZeros 1 = .ok (.istore_n 1, 1) := by decide +kernel
theorem dX1_trailingZeros_2 : decode cX1_trailingZeros 2 = .ok (.iload_n 1, 1) := by decide +kernel
theorem dX1_trailingZeros_3 : decode cX1_trailingZeros 3 = .ok (.bipush 21, 2) := by decide +kernel
theorem dX1_trailingZeros_5 : decode cX1_trailingZeros 5 = .ok (.if_icmp .ge 39, 3) := by decide +kernel
theorem dX1_trailingZeros_8 : decode cX1_trailingZeros 8 = .ok (.aload_n 0, 1) := by decide +kernel
theorem dX1_trailingZeros_9 : decode cX1_trailingZeros 9 = .ok (.iload_n 1, 1) := by decide +kernel
theorem dX1_trailingZeros_10 : decode cX1_trailingZeros 10 = .ok (.laload, 1) := by decide +kernel
theorem dX1_trailingZeros_11 : decode cX1_trailingZeros 11 = .ok (.lconst 0, 1) := by decide +kernel
theorem dX1_trailingZeros_12 : decode cX1_trailingZeros 12 = .ok (.lcmp, 1) := by decide +kernel
theorem dX1_trailingZeros_13 : decode cX1_trailingZeros 13 = .ok (.ifCond .eq 25, 3) := by decide +kernel
theorem dX1_trailingZeros_16 : decode cX1_trailingZeros 16 = .ok (.iload_n 1, 1) := by decide +kernel
theorem dX1_trailingZeros_17 : decode cX1_trailingZeros 17 = .ok (.bipush 32, 2) := by decide +kernel
theorem dX1_trailingZeros_19 : decode cX1_trailingZeros 19 = .ok (.imul, 1) := by decide +kernel
theorem dX1_trailingZeros_20 : decode cX1_trailingZeros 20 = .ok (.aload_n 0, 1) := by decide +kernel
theorem dX1_trailingZeros_21 : decode cX1_trailingZeros 21 = .ok (.iload_n 1, 1) := by decide +kernel
theorem dX1_trailingZeros_22 : decode cX1_trailingZeros 22 = .ok (.laload, 1) := by decide +kernel
theorem dX1_trailingZeros_23 : decode cX1_trailingZeros 23 = .ok (.ldc2_w 45, 3) := by decide +kernel
theorem dX1_trailingZeros_26 : decode cX1_trailingZeros 26 = .ok (.lxor, 1) := by decide +kernel
theorem dX1_trailingZeros_27 : decode cX1_trailingZeros 27 = .ok (.aload_n 0, 1) := by decide +kernel
theorem dX1_trailingZeros_28 : decode cX1_trailingZeros 28 = .ok (.iload_n 1, 1) := by decide +kernel
theorem dX1_trailingZeros_29 : decode cX1_trailingZeros 29 = .ok (.laload, 1) := by decide +kernel
theorem dX1_trailingZeros_30 : decode cX1_trailingZeros 30 = .ok (.lconst 1, 1) := by decide +kernel
theorem dX1_trailingZeros_31 : decode cX1_trailingZeros 31 = .ok (.lsub, 1) := by decide +kernel
theorem dX1_trailingZeros_32 : decode cX1_trailingZeros 32 = .ok (.land, 1) := by decide +kernel
theorem dX1_trailingZeros_33 : decode cX1_trailingZeros 33 = .ok (.invokestatic 47, 3) := by decide +kernel
theorem dX1_trailingZeros_36 : decode cX1_trailingZeros 36 = .ok (.iadd, 1) := by decide +kernel
theorem dX1_trailingZeros_37 : decode cX1_trailingZeros 37 = .ok (.ireturn, 1) := by decide +kernel
theorem dX1_trailingZeros_38 : decode cX1_trailingZeros 38 = .ok (.iinc 1 1, 3) := by decide +kernel
theorem dX1_trailingZeros_41 : decode cX1_trailingZeros 41 = .ok (.goto (-39), 3) := by decide +kernel
theorem dX1_trailingZeros_44 : decode cX1_trailingZeros 44 = .ok (.sipush 672, 3) := by decide +kernel
theorem dX1_trailingZeros_47 : decode cX1_trailingZeros 47 = .ok (.ireturn, 1) := by decide +kernel
set_option maxRecDepth 20000 in
theorem ggX1_shiftRight_X1_limbAt : GoodIn wsX1_shiftRight wsX1_limbAt := goodIn_r _ [5] (by decide +kernel) (by decide +kernel)
set_option maxRecDepth 20000 in
theorem gX1_shiftRight_X1_limbAt : GoodIn wsX1_shiftRight (va_wsS RX1 53 yX1_limbAt wsX1_limbAt) := goodIn_app (goodIn_of _ (by decide +kernel)) ggX1_shiftRight_X1_limbAt
theorem dX1_shiftRight_0 : decode cX1_shiftRight 0 = .ok (.iload_n 1, 1) := by decide +kernel
theorem dX1_shiftRight_1 : decode cX1_shiftRight 1 = .ok (.ifCond .gt 4, 3) := by decide +kernel
theorem dX1_shiftRight_4 : decode cX1_shiftRight 4 = .ok (.return_, 1) := by decide +kernel
theorem dX1_shiftRight_5 : decode cX1_shiftRight 5 = .ok (.iload_n 1, 1) := by decide +kernel
theorem dX1_shiftRight_6 : decode cX1_shiftRight 6 = .ok (.bipush 32, 2) := by decide +kernel
theorem dX1_shiftRight_8 : decode cX1_shiftRight 8 = .ok (.idiv, 1) := by decide +kernel
theorem dX1_shiftRight_9 : decode cX1_shiftRight 9 = .ok (.istore_n 3, 1) := by decide +kernel
theorem dX1_shiftRight_10 : decode cX1_shiftRight 10 = .ok (.iload_n 1, 1) := by decide +kernel
theorem dX1_shiftRight_11 : decode cX1_shiftRight 11 = .ok (.bipush 32, 2) := by decide +kernel
theorem dX1_shiftRight_13 : decode cX1_shiftRight 13 = .ok (.irem, 1) := by decide +kernel
theorem dX1_shiftRight_14 : decode cX1_shiftRight 14 = .ok (.istore 4, 2) := by decide +kernel
theorem dX1_shiftRight_16 : decode cX1_shiftRight 16 = .ok (.iconst 0, 1) := by decide +kernel
theorem dX1_shiftRight_17 : decode cX1_shiftRight 17 = .ok (.istore 5, 2) := by decide +kernel
theorem dX1_shiftRight_19 : decode cX1_shiftRight 19 = .ok (.iload 5, 2) := by decide +kernel
theorem dX1_shiftRight_21 : decode cX1_shiftRight 21 = .ok (.iload_n 2, 1) := by decide +kernel
theorem dX1_shiftRight_22 : decode cX1_shiftRight 22 = .ok (.if_icmp .ge 52, 3) := by decide +kernel
theorem dX1_shiftRight_25 : decode cX1_shiftRight 25 = .ok (.aload_n 0, 1) := by decide +kernel
theorem dX1_shiftRight_26 : decode cX1_shiftRight 26 = .ok (.iload 5, 2) := by decide +kernel
theorem dX1_shiftRight_28 : decode cX1_shiftRight 28 = .ok (.iload_n 3, 1) := by decide +kernel
theorem dX1_shiftRight_29 : decode cX1_shiftRight 29 = .ok (.iadd, 1) := by decide +kernel
theorem dX1_shiftRight_30 : decode cX1_shiftRight 30 = .ok (.iload_n 2, 1) := by decide +kernel
theorem dX1_shiftRight_31 : decode cX1_shiftRight 31 = .ok (.invokestatic 53, 3) := by decide +kernel
theorem dX1_shiftRight_34 : decode cX1_shiftRight 34 = .ok (.lstore 6, 2) := by decide +kernel
theorem dX1_shiftRight_36 : decode cX1_shiftRight 36 = .ok (.aload_n 0, 1) := by decide +kernel
theorem dX1_shiftRight_37 : decode cX1_shiftRight 37 = .ok (.iload 5, 2) := by decide +kernel
theorem dX1_shiftRight_39 : decode cX1_shiftRight 39 = .ok (.iload_n 3, 1) := by decide +kernel
theorem dX1_shiftRight_40 : decode cX1_shiftRight 40 = .ok (.iadd, 1) := by decide +kernel
theorem dX1_shiftRight_41 : decode cX1_shiftRight 41 = .ok (.iconst 1, 1) := by decide +kernel
theorem dX1_shiftRight_42 : decode cX1_shiftRight 42 = .ok (.iadd, 1) := by decide +kernel
theorem dX1_shiftRight_43 : decode cX1_shiftRight 43 = .ok (.iload_n 2, 1) := by decide +kernel
theorem dX1_shiftRight_44 : decode cX1_shiftRight 44 = .ok (.invokestatic 53, 3) := by decide +kernel
theorem dX1_shiftRight_47 : decode cX1_shiftRight 47 = .ok (.lstore 8, 2) := by decide +kernel
theorem dX1_shiftRight_49 : decode cX1_shiftRight 49 = .ok (.aload_n 0, 1) := by decide +kernel
theorem dX1_shiftRight_50 : decode cX1_shiftRight 50 = .ok (.iload 5, 2) := by decide +kernel
theorem dX1_shiftRight_52 : decode cX1_shiftRight 52 = .ok (.lload 8, 2) := by decide +kernel
theorem dX1_shiftRight_54 : decode cX1_shiftRight 54 = .ok (.bipush 32, 2) := by decide +kernel
theorem dX1_shiftRight_56 : decode cX1_shiftRight 56 = .ok (.lshl, 1) := by decide +kernel
theorem dX1_shiftRight_57 : decode cX1_shiftRight 57 = .ok (.lload 6, 2) := by decide +kernel
theorem dX1_shiftRight_59 : decode cX1_shiftRight 59 = .ok (.lor, 1) := by decide +kernel
theorem dX1_shiftRight_60 : decode cX1_shiftRight 60 = .ok (.iload 4, 2) := by decide +kernel
theorem dX1_shiftRight_62 : decode cX1_shiftRight 62 = .ok (.lushr, 1) := by decide +kernel
theorem dX1_shiftRight_63 : decode cX1_shiftRight 63 = .ok (.ldc2_w 9, 3) := by decide +kernel
theorem dX1_shiftRight_66 : decode cX1_shiftRight 66 = .ok (.land, 1) := by decide +kernel
theorem dX1_shiftRight_67 : decode cX1_shiftRight 67 = .ok (.lastore, 1) := by decide +kernel
theorem dX1_shiftRight_68 : decode cX1_shiftRight 68 = .ok (.iinc 5 1, 3) := by decide +kernel
theorem dX1_shiftRight_71 : decode cX1_shiftRight 71 = .ok (.goto (-52), 3) := by decide +kernel
theorem dX1_shiftRight_74 : decode cX1_shiftRight 74 = .ok (.return_, 1) := by decide +kernel
theorem dX1_limbAt_0 : decode cX1_limbAt 0 = .ok (.iload_n 1, 1) := by decide +kernel
theorem dX1_limbAt_1 : decode cX1_limbAt 1 = .ok (.iload_n 2, 1) := by decide +kernel
theorem dX1_limbAt_2 : decode cX1_limbAt 2 = .ok (.if_icmp .ge 9, 3) := by decide +kernel
theorem dX1_limbAt_5 : decode cX1_limbAt 5 = .ok (.aload_n 0, 1) := by decide +kernel
theorem dX1_limbAt_6 : decode cX1_limbAt 6 = .ok (.iload_n 1, 1) := by decide +kernel
theorem dX1_limbAt_7 : decode cX1_limbAt 7 = .ok (.laload, 1) := by decide +kernel
theorem dX1_limbAt_8 : decode cX1_limbAt 8 = .ok (.goto 4, 3) := by decide +kernel
theorem dX1_limbAt_11 : decode cX1_limbAt 11 = .ok (.lconst 0, 1) := by decide +kernel
theorem dX1_limbAt_12 : decode cX1_limbAt 12 = .ok (.lreturn, 1) := by decide +kernel
theorem dX1_inverse_0 : decode cX1_inverse 0 = .ok (.lload_n 0, 1) := by decide +kernel
theorem dX1_inverse_1 : decode cX1_inverse 1 = .ok (.lstore_n 2, 1) := by decide +kernel
theorem dX1_inverse_2 : decode cX1_inverse 2 = .ok (.iconst 0, 1) := by decide +kernel
theorem dX1_inverse_3 : decode cX1_inverse 3 = .ok (.istore 4, 2) := by decide +kernel
theorem dX1_inverse_5 : decode cX1_inverse 5 = .ok (.iload 4, 2) := by decide +kernel
theorem dX1_inverse_7 : decode cX1_inverse 7 = .ok (.iconst 4, 1) := by decide +kernel
theorem dX1_inverse_8 : decode cX1_inverse 8 = .ok (.if_icmp .ge 19, 3) := by decide +kernel
theorem dX1_inverse_11 : decode cX1_inverse 11 = .ok (.lload_n 2, 1) := by decide +kernel
theorem dX1_inverse_12 : decode cX1_inverse 12 = .ok (.ldc2_w 57, 3) := by decide +kernel
theorem dX1_inverse_15 : decode cX1_inverse 15 = .ok (.lload_n 0, 1) := by decide +kernel
theorem dX1_inverse_16 : decode cX1_inverse 16 = .ok (.lload_n 2, 1) := by decide +kernel
theorem dX1_inverse_17 : decode cX1_inverse 17 = .ok (.lmul, 1) := by decide +kernel
theorem dX1_inverse_18 : decode cX1_inverse 18 = .ok (.lsub, 1) := by decide +kernel
theorem dX1_inverse_19 : decode cX1_inverse 19 = .ok (.lmul, 1) := by decide +kernel
theorem dX1_inverse_20 : decode cX1_inverse 20 = .ok (.lstore_n 2, 1) := by decide +kernel
theorem dX1_inverse_21 : decode cX1_inverse 21 = .ok (.iinc 4 1, 3) := by decide +kernel
theorem dX1_inverse_24 : decode cX1_inverse 24 = .ok (.goto (-19), 3) := by decide +kernel
theorem dX1_inverse_27 : decode cX1_inverse 27 = .ok (.lload_n 2, 1) := by decide +kernel
theorem dX1_inverse_28 : decode cX1_inverse 28 = .ok (.ldc2_w 9, 3) := by decide +kernel
theorem dX1_inverse_31 : decode cX1_inverse 31 = .ok (.land, 1) := by decide +kernel
theorem dX1_inverse_32 : decode cX1_inverse 32 = .ok (.lreturn, 1) := by decide +kernel
set_option maxRecDepth 20000 in
theorem ggX1_divideEvenly_X1_subtractScaled : GoodIn wsX1_divideEvenly wsX1_subtractScaled := goodIn_r _ [5, 1] (by decide +kernel) (by decide +kernel)
set_option maxRecDepth 20000 in
theorem gX1_divideEvenly_X1_subtractScaled : GoodIn wsX1_divideEvenly (va_wsS RX1 30 yX1_subtractScaled wsX1_subtractScaled) := goodIn_app (goodIn_of _ (by decide +kernel)) ggX1_divideEvenly_X1_subtractScaled
theorem dX1_divideEvenly_0 : decode cX1_divideEvenly 0 = .ok (.iconst 0, 1) := by decide +kernel
theorem dX1_divideEvenly_1 : decode cX1_divideEvenly 1 = .ok (.istore 5, 2) := by decide +kernel
theorem dX1_divideEvenly_3 : decode cX1_divideEvenly 3 = .ok (.iload 5, 2) := by decide +kernel
theorem dX1_divideEvenly_5 : decode cX1_divideEvenly 5 = .ok (.iload 4, 2) := by decide +kernel
theorem dX1_divideEvenly_7 : decode cX1_divideEvenly 7 = .ok (.if_icmp .ge 38, 3) := by decide +kernel
theorem dX1_divideEvenly_10 : decode cX1_divideEvenly 10 = .ok (.aload_n 0, 1) := by decide +kernel
theorem dX1_divideEvenly_11 : decode cX1_divideEvenly 11 = .ok (.iload 5, 2) := by decide +kernel
theorem dX1_divideEvenly_13 : decode cX1_divideEvenly 13 = .ok (.laload, 1) := by decide +kernel
theorem dX1_divideEvenly_14 : decode cX1_divideEvenly 14 = .ok (.lload_n 2, 1) := by decide +kernel
theorem dX1_divideEvenly_15 : decode cX1_divideEvenly 15 = .ok (.lmul, 1) := by decide +kernel
theorem dX1_divideEvenly_16 : decode cX1_divideEvenly 16 = .ok (.ldc2_w 9, 3) := by decide +kernel
theorem dX1_divideEvenly_19 : decode cX1_divideEvenly 19 = .ok (.land, 1) := by decide +kernel
theorem dX1_divideEvenly_20 : decode cX1_divideEvenly 20 = .ok (.lstore 6, 2) := by decide +kernel
theorem dX1_divideEvenly_22 : decode cX1_divideEvenly 22 = .ok (.aload_n 0, 1) := by decide +kernel
theorem dX1_divideEvenly_23 : decode cX1_divideEvenly 23 = .ok (.iload 5, 2) := by decide +kernel
theorem dX1_divideEvenly_25 : decode cX1_divideEvenly 25 = .ok (.lload 6, 2) := by decide +kernel
theorem dX1_divideEvenly_27 : decode cX1_divideEvenly 27 = .ok (.aload_n 1, 1) := by decide +kernel
theorem dX1_divideEvenly_28 : decode cX1_divideEvenly 28 = .ok (.iload 4, 2) := by decide +kernel
theorem dX1_divideEvenly_30 : decode cX1_divideEvenly 30 = .ok (.invokestatic 30, 3) := by decide +kernel
theorem dX1_divideEvenly_33 : decode cX1_divideEvenly 33 = .ok (.aload_n 0, 1) := by decide +kernel
theorem dX1_divideEvenly_34 : decode cX1_divideEvenly 34 = .ok (.iload 5, 2) := by decide +kernel
theorem dX1_divideEvenly_36 : decode cX1_divideEvenly 36 = .ok (.lload 6, 2) := by decide +kernel
theorem dX1_divideEvenly_38 : decode cX1_divideEvenly 38 = .ok (.lastore, 1) := by decide +kernel
theorem dX1_divideEvenly_39 : decode cX1_divideEvenly 39 = .ok (.iinc 5 1, 3) := by decide +kernel
theorem dX1_divideEvenly_42 : decode cX1_divideEvenly 42 = .ok (.goto (-39), 3) := by decide +kernel
theorem dX1_divideEvenly_45 : decode cX1_divideEvenly 45 = .ok (.return_, 1) := by decide +kernel
