theorem dX2_init_0 : decode cX2_init 0 = .ok (.aload_n 0, 1) := by decide +kernel
theorem dX2_init_1 : decode cX2_init 1 = .ok (.invokespecial 3, 3) := by decide +kernel
theorem dX2_init_4 : decode cX2_init 4 = .ok (.aload_n 0, 1) := by decide +kernel
theorem dX2_init_5 : decode cX2_init 5 = .ok (.bipush 21, 2) := by decide +kernel
theorem dX2_init_7 : decode cX2_init 7 = .ok (.newarray .long, 2) := by decide +kernel
theorem dX2_init_9 : decode cX2_init 9 = .ok (.putfield 9, 3) := by decide +kernel
theorem dX2_init_12 : decode cX2_init 12 = .ok (.aload_n 0, 1) := by decide +kernel
theorem dX2_init_13 : decode cX2_init 13 = .ok (.bipush 21, 2) := by decide +kernel
theorem dX2_init_15 : decode cX2_init 15 = .ok (.newarray .long, 2) := by decide +kernel
theorem dX2_init_17 : decode cX2_init 17 = .ok (.putfield 15, 3) := by decide +kernel
theorem dX2_init_20 : decode cX2_init 20 = .ok (.aload_n 0, 1) := by decide +kernel
theorem dX2_init_21 : decode cX2_init 21 = .ok (.bipush 21, 2) := by decide +kernel
theorem dX2_init_23 : decode cX2_init 23 = .ok (.newarray .long, 2) := by decide +kernel
theorem dX2_init_25 : decode cX2_init 25 = .ok (.putfield 18, 3) := by decide +kernel
theorem dX2_init_28 : decode cX2_init 28 = .ok (.aload_n 0, 1) := by decide +kernel
theorem dX2_init_29 : decode cX2_init 29 = .ok (.bipush 21, 2) := by decide +kernel
theorem dX2_init_31 : decode cX2_init 31 = .ok (.newarray .long, 2) := by decide +kernel
theorem dX2_init_33 : decode cX2_init 33 = .ok (.putfield 21, 3) := by decide +kernel
theorem dX2_init_36 : decode cX2_init 36 = .ok (.aload_n 0, 1) := by decide +kernel
theorem dX2_init_37 : decode cX2_init 37 = .ok (.lconst 0, 1) := by decide +kernel
theorem dX2_init_38 : decode cX2_init 38 = .ok (.putfield 24, 3) := by decide +kernel
theorem dX2_init_41 : decode cX2_init 41 = .ok (.aload_n 0, 1) := by decide +kernel
theorem dX2_init_42 : decode cX2_init 42 = .ok (.lconst 1, 1) := by decide +kernel
theorem dX2_init_43 : decode cX2_init 43 = .ok (.putfield 28, 3) := by decide +kernel
theorem dX2_init_46 : decode cX2_init 46 = .ok (.return_, 1) := by decide +kernel
set_option maxRecDepth 20000 in
theorem ggX2_find_X1_isZero : GoodIn wsX2_find wsX1_isZero := goodIn_r _ [8] (by decide +kernel) (by decide +kernel)
set_option maxRecDepth 20000 in
theorem gX2_find_X1_isZero : GoodIn wsX2_find (va_wsS RX2 31 yX1_isZero wsX1_isZero) := goodIn_app (goodIn_of _ (by decide +kernel)) ggX2_find_X1_isZero
set_option maxRecDepth 20000 in
theorem ggX2_find_X1_isNegative : GoodIn wsX2_find wsX1_isNegative := goodIn_r _ [11, 12, 13, 7, 14] (by decide +kernel) (by decide +kernel)
set_option maxRecDepth 20000 in
theorem gX2_find_X1_isNegative : GoodIn wsX2_find (va_wsS RX2 35 yX1_isNegative wsX1_isNegative) := goodIn_app (goodIn_of _ (by decide +kernel)) ggX2_find_X1_isNegative
set_option maxRecDepth 20000 in
theorem ggX2_find_X1_copyMagnitude : GoodIn wsX2_find wsX1_copyMagnitude := goodIn_r _ [17, 18, 10, 7, 11, 12, 13, 14, 19, 20, 21, 22, 23, 24, 25, 26, 27, 28, 29, 30, 31, 32, 33, 34, 35, 36] (by decide +kernel) (by decide +kernel)
set_option maxRecDepth 20000 in
theorem gX2_find_X1_copyMagnitude : GoodIn wsX2_find (va_wsS RX2 38 yX1_copyMagnitude wsX1_copyMagnitude) := goodIn_app (goodIn_of _ (by decide +kernel)) ggX2_find_X1_copyMagnitude
set_option maxRecDepth 20000 in
theorem ggX2_find_X2_removeCommonTwos : GoodIn wsX2_find wsX2_removeCommonTwos := goodIn_r _ [41, 3, 4, 42, 43, 44, 45, 46, 47, 7, 48, 49, 50, 51, 52, 53, 54, 55, 56, 57, 58, 59, 29, 60, 61, 62, 95, 96, 97, 98, 99, 100] (by decide +kernel) (by decide +kernel)
set_option maxRecDepth 20000 in
theorem gX2_find_X2_removeCommonTwos : GoodIn wsX2_find (wsV RX2 42 RX2 yX2_removeCommonTwos wsX2_removeCommonTwos) := goodIn_app (goodIn_of _ (by decide +kernel)) ggX2_find_X2_removeCommonTwos
set_option maxRecDepth 20000 in
theorem ggX2_find_X2_removeCommonOddFactor : GoodIn wsX2_find wsX2_removeCommonOddFactor := goodIn_r _ [66, 3, 67, 4, 68, 69, 31, 7, 32, 33, 34, 35, 36, 70, 71, 40, 72, 46, 47, 48, 49, 50, 51, 52, 53, 54, 55, 56, 57, 58, 59, 29, 60, 61, 62, 73, 74, 75, 76, 77, 78, 79, 80, 27, 28, 81, 82, 83, 84, 85, 86, 87, 26, 95, 96, 97, 98, 99, 100] (by decide +kernel) (by decide +kernel)
set_option maxRecDepth 20000 in
theorem gX2_find_X2_removeCommonOddFactor : GoodIn wsX2_find (wsV RX2 46 RX2 yX2_removeCommonOddFactor wsX2_removeCommonOddFactor) := goodIn_app (goodIn_of _ (by decide +kernel)) ggX2_find_X2_removeCommonOddFactor
set_option maxRecDepth 20000 in
theorem ggX2_find_X2_fitsLong : GoodIn wsX2_find wsX2_fitsLong := goodIn_r _ [90, 91, 92, 93, 40, 94] (by decide +kernel) (by decide +kernel)
set_option maxRecDepth 20000 in
theorem gX2_find_X2_fitsLong : GoodIn wsX2_find (va_wsS RX2 49 yX2_fitsLong wsX2_fitsLong) := goodIn_app (goodIn_of _ (by decide +kernel)) ggX2_find_X2_fitsLong
set_option maxRecDepth 20000 in
theorem ggX2_find_X2_lowBits : GoodIn wsX2_find wsX2_lowBits := goodIn_r _ [94] (by decide +kernel) (by decide +kernel)
set_option maxRecDepth 20000 in
theorem gX2_find_X2_lowBits : GoodIn wsX2_find (va_wsS RX2 53 yX2_lowBits wsX2_lowBits) := goodIn_app (goodIn_of _ (by decide +kernel)) ggX2_find_X2_lowBits
theorem dX2_find_0 : decode cX2_find 0 = .ok (.aload_n 1, 1) := by decide +kernel
theorem dX2_find_1 : decode cX2_find 1 = .ok (.invokestatic 31, 3) := by decide +kernel
theorem dX2_find_4 : decode cX2_find 4 = .ok (.ifCond .eq 15, 3) := by decide +kernel
theorem dX2_find_7 : decode cX2_find 7 = .ok (.aload_n 0, 1) := by decide +kernel
theorem dX2_find_8 : decode cX2_find 8 = .ok (.lconst 0, 1) := by decide +kernel
theorem dX2_find_9 : decode cX2_find 9 = .ok (.putfield 24, 3) := by decide +kernel
theorem dX2_find_12 : decode cX2_find 12 = .ok (.aload_n 0, 1) := by decide +kernel
theorem dX2_find_13 : decode cX2_find 13 = .ok (.lconst 1, 1) := by decide +kernel
theorem dX2_find_14 : decode cX2_find 14 = .ok (.putfield 28, 3) := by decide +kernel
theorem dX2_find_17 : decode cX2_find 17 = .ok (.iconst 1, 1) := by decide +kernel
theorem dX2_find_18 : decode cX2_find 18 = .ok (.ireturn, 1) := by decide +kernel
theorem dX2_find_19 : decode cX2_find 19 = .ok (.aload_n 1, 1) := by decide +kernel
theorem dX2_find_20 : decode cX2_find 20 = .ok (.invokestatic 35, 3) := by decide +kernel
theorem dX2_find_23 : decode cX2_find 23 = .ok (.aload_n 2, 1) := by decide +kernel
theorem dX2_find_24 : decode cX2_find 24 = .ok (.invokestatic 35, 3) := by decide +kernel
theorem dX2_find_27 : decode cX2_find 27 = .ok (.if_icmp .eq 7, 3) := by decide +kernel
theorem dX2_find_30 : decode cX2_find 30 = .ok (.iconst 1, 1) := by decide +kernel
theorem dX2_find_31 : decode cX2_find 31 = .ok (.goto 4, 3) := by decide +kernel
theorem dX2_find_34 : decode cX2_find 34 = .ok (.iconst 0, 1) := by decide +kernel
theorem dX2_find_35 : decode cX2_find 35 = .ok (.istore 4, 2) := by decide +kernel
theorem dX2_find_37 : decode cX2_find 37 = .ok (.aload_n 1, 1) := by decide +kernel
theorem dX2_find_38 : decode cX2_find 38 = .ok (.aload_n 0, 1) := by decide +kernel
theorem dX2_find_39 : decode cX2_find 39 = .ok (.getfield 9, 3) := by decide +kernel
theorem dX2_find_42 : decode cX2_find 42 = .ok (.invokestatic 38, 3) := by decide +kernel
theorem dX2_find_45 : decode cX2_find 45 = .ok (.aload_n 2, 1) := by decide +kernel
theorem dX2_find_46 : decode cX2_find 46 = .ok (.aload_n 0, 1) := by decide +kernel
theorem dX2_find_47 : decode cX2_find 47 = .ok (.getfield 15, 3) := by decide +kernel
theorem dX2_find_50 : decode cX2_find 50 = .ok (.invokestatic 38, 3) := by decide +kernel
theorem dX2_find_53 : decode cX2_find 53 = .ok (.aload_n 0, 1) := by decide +kernel
theorem dX2_find_54 : decode cX2_find 54 = .ok (.iload_n 3, 1) := by decide +kernel
theorem dX2_find_55 : decode cX2_find 55 = .ok (.invokevirtual 42, 3) := by decide +kernel
theorem dX2_find_58 : decode cX2_find 58 = .ok (.aload_n 0, 1) := by decide +kernel
theorem dX2_find_59 : decode cX2_find 59 = .ok (.iload_n 3, 1) := by decide +kernel
theorem dX2_find_60 : decode cX2_find 60 = .ok (.invokevirtual 46, 3) := by decide +kernel
theorem dX2_find_63 : decode cX2_find 63 = .ok (.aload_n 0, 1) := by decide +kernel
theorem dX2_find_64 : decode cX2_find 64 = .ok (.getfield 9, 3) := by decide +kernel
theorem dX2_find_67 : decode cX2_find 67 = .ok (.iload 4, 2) := by decide +kernel
theorem dX2_find_69 : decode cX2_find 69 = .ok (.invokestatic 49, 3) := by decide +kernel
theorem dX2_find_72 : decode cX2_find 72 = .ok (.ifCond .eq 14, 3) := by decide +kernel
theorem dX2_find_75 : decode cX2_find 75 = .ok (.aload_n 0, 1) := by decide +kernel
theorem dX2_find_76 : decode cX2_find 76 = .ok (.getfield 15, 3) := by decide +kernel
theorem dX2_find_79 : decode cX2_find 79 = .ok (.iconst 0, 1) := by decide +kernel
theorem dX2_find_80 : decode cX2_find 80 = .ok (.invokestatic 49, 3) := by decide +kernel
theorem dX2_find_83 : decode cX2_find 83 = .ok (.ifCond .ne 5, 3) := by decide +kernel
theorem dX2_find_86 : decode cX2_find 86 = .ok (.iconst 0, 1) := by decide +kernel
theorem dX2_find_87 : decode cX2_find 87 = .ok (.ireturn, 1) := by decide +kernel
theorem dX2_find_88 : decode cX2_find 88 = .ok (.aload_n 0, 1) := by decide +kernel
theorem dX2_find_89 : decode cX2_find 89 = .ok (.iload 4, 2) := by decide +kernel
theorem dX2_find_91 : decode cX2_find 91 = .ok (.ifCond .eq 14, 3) := by decide +kernel
theorem dX2_find_94 : decode cX2_find 94 = .ok (.aload_n 0, 1) := by decide +kernel
theorem dX2_find_95 : decode cX2_find 95 = .ok (.getfield 9, 3) := by decide +kernel
theorem dX2_find_98 : decode cX2_find 98 = .ok (.invokestatic 53, 3) := by decide +kernel
theorem dX2_find_101 : decode cX2_find 101 = .ok (.lneg, 1) := by decide +kernel
theorem dX2_find_102 : decode cX2_find 102 = .ok (.goto 10, 3) := by decide +kernel
theorem dX2_find_105 : decode cX2_find 105 = .ok (.aload_n 0, 1) := by decide +kernel
theorem dX2_find_106 : decode cX2_find 106 = .ok (.getfield 9, 3) := by decide +kernel
theorem dX2_find_109 : decode cX2_find 109 = .ok (.invokestatic 53, 3) := by decide +kernel
theorem dX2_find_112 : decode cX2_find 112 = .ok (.putfield 24, 3) := by decide +kernel
theorem dX2_find_115 : decode cX2_find 115 = .ok (.aload_n 0, 1) := by decide +kernel
theorem dX2_find_116 : decode cX2_find 116 = .ok (.aload_n 0, 1) := by decide +kernel
theorem dX2_find_117 : decode cX2_find 117 = .ok (.getfield 15, 3) := by decide +kernel
theorem dX2_find_120 : decode cX2_find 120 = .ok (.invokestatic 53, 3) := by decide +kernel
theorem dX2_find_123 : decode cX2_find 123 = .ok (.putfield 28, 3) := by decide +kernel
theorem dX2_find_126 : decode cX2_find 126 = .ok (.iconst 1, 1) := by decide +kernel
theorem dX2_find_127 : decode cX2_find 127 = .ok (.ireturn, 1) := by decide +kernel
set_option maxRecDepth 20000 in
theorem ggX2_removeCommonTwos_X1_trailingZeros : GoodIn wsX2_removeCommonTwos wsX1_trailingZeros := goodIn_r _ [10, 11, 12, 13, 14, 15, 16, 17, 18] (by decide +kernel) (by decide +kernel)
set_option maxRecDepth 20000 in
theorem gX2_removeCommonTwos_X1_trailingZeros : GoodIn wsX2_removeCommonTwos (va_wsS RX2 57 yX1_trailingZeros wsX1_trailingZeros) := goodIn_app (goodIn_of _ (by decide +kernel)) ggX2_removeCommonTwos_X1_trailingZeros
set_option maxRecDepth 20000 in
theorem ggX2_removeCommonTwos_X1_shiftRight : GoodIn wsX2_removeCommonTwos wsX1_shiftRight := goodIn_r _ [21, 22, 23, 24, 9, 25] (by decide +kernel) (by decide +kernel)
set_option maxRecDepth 20000 in
theorem gX2_removeCommonTwos_X1_shiftRight : GoodIn wsX2_removeCommonTwos (va_wsS RX2 67 yX1_shiftRight wsX1_shiftRight) := goodIn_app (goodIn_of _ (by decide +kernel)) ggX2_removeCommonTwos_X1_shiftRight
theorem dX2_removeCommonTwos_0 : decode cX2_removeCommonTwos 0 = .ok (.aload_n 0, 1) := by decide +kernel
theorem dX2_removeCommonTwos_1 : decode cX2_removeCommonTwos 1 = .ok (.getfield 9, 3) := by decide +kernel
theorem dX2_removeCommonTwos_4 : decode cX2_removeCommonTwos 4 = .ok (.invokestatic 57, 3) := by decide +kernel
theorem dX2_removeCommonTwos_7 : decode cX2_removeCommonTwos 7 = .ok (.aload_n 0, 1) := by decide +kernel
theorem dX2_removeCommonTwos_8 : decode cX2_removeCommonTwos 8 = .ok (.getfield 15, 3) := by decide +kernel
theorem dX2_removeCommonTwos_11 : decode cX2_removeCommonTwos 11 = .ok (.invokestatic 57, 3) := by decide +kernel
theorem dX2_removeCommonTwos_14 : decode cX2_removeCommonTwos 14 = .ok (.invokestatic 61, 3) := by decide +kernel
theorem dX2_removeCommonTwos_17 : decode cX2_removeCommonTwos 17 = .ok (.istore_n 2, 1) := by decide +kernel
theorem dX2_removeCommonTwos_18 : decode cX2_removeCommonTwos 18 = .ok (.aload_n 0, 1) := by decide +kernel
theorem dX2_removeCommonTwos_19 : decode cX2_removeCommonTwos 19 = .ok (.getfield 9, 3) := by decide +kernel
theorem dX2_removeCommonTwos_22 : decode cX2_removeCommonTwos 22 = .ok (.iload_n 2, 1) := by decide +kernel
theorem dX2_removeCommonTwos_23 : decode cX2_removeCommonTwos 23 = .ok (.iload_n 1, 1) := by decide +kernel
theorem dX2_removeCommonTwos_24 : decode cX2_removeCommonTwos 24 = .ok (.invokestatic 67, 3) := by decide +kernel
theorem dX2_removeCommonTwos_27 : decode cX2_removeCommonTwos 27 = .ok (.aload_n 0, 1) := by decide +kernel
theorem dX2_removeCommonTwos_28 : decode cX2_removeCommonTwos 28 = .ok (.getfield 15, 3) := by decide +kernel
theorem dX2_removeCommonTwos_31 : decode cX2_removeCommonTwos 31 = .ok (.iload_n 2, 1) := by decide +kernel
theorem dX2_removeCommonTwos_32 : decode cX2_removeCommonTwos 32 = .ok (.iload_n 1, 1) := by decide +kernel
theorem dX2_removeCommonTwos_33 : decode cX2_removeCommonTwos 33 = .ok (.invokestatic 67, 3) := by decide +kernel
theorem dX2_removeCommonTwos_36 : decode cX2_removeCommonTwos 36 = .ok (.return_, 1) := by decide +kernel
set_option maxRecDepth 20000 in
theorem ggX2_removeCommonOddFactor_X1_copy : GoodIn wsX2_removeCommonOddFactor wsX1_copy := goodIn_r _ [8, 9, 10, 11, 12] (by decide +kernel) (by decide +kernel)
set_option maxRecDepth 20000 in
theorem gX2_removeCommonOddFactor_X1_copy : GoodIn wsX2_removeCommonOddFactor (va_wsS RX2 71 yX1_copy wsX1_copy) := goodIn_app (goodIn_of _ (by decide +kernel)) ggX2_removeCommonOddFactor_X1_copy
set_option maxRecDepth 20000 in
theorem ggX2_removeCommonOddFactor_X2_removeTwos : GoodIn wsX2_removeCommonOddFactor wsX2_removeTwos := goodIn_r _ [16, 17, 18, 7, 19, 20, 21, 22, 23, 24, 25, 26, 27, 28, 29, 30, 31, 32, 33, 34] (by decide +kernel) (by decide +kernel)
set_option maxRecDepth 20000 in
theorem gX2_removeCommonOddFactor_X2_removeTwos : GoodIn wsX2_removeCommonOddFactor (va_wsS RX2 74 yX2_removeTwos wsX2_removeTwos) := goodIn_app (goodIn_of _ (by decide +kernel)) ggX2_removeCommonOddFactor_X2_removeTwos
set_option maxRecDepth 20000 in
theorem ggX2_removeCommonOddFactor_X2_commonOddFactor : GoodIn wsX2_removeCommonOddFactor wsX2_commonOddFactor := goodIn_r _ [38, 2, 4, 39, 40, 7, 41, 42, 43, 44, 31, 13, 14, 15, 16, 17, 18, 19, 20, 21, 22, 23, 24, 25, 26, 27, 28, 29, 30, 32, 33, 34, 53, 54, 55, 56, 57, 58] (by decide +kernel) (by decide +kernel)
set_option maxRecDepth 20000 in
theorem gX2_removeCommonOddFactor_X2_commonOddFactor : GoodIn wsX2_removeCommonOddFactor (wsV RX2 78 RX2 yX2_commonOddFactor wsX2_commonOddFactor) := goodIn_app (goodIn_of _ (by decide +kernel)) ggX2_removeCommonOddFactor_X2_commonOddFactor
set_option maxRecDepth 20000 in
theorem ggX2_removeCommonOddFactor_X1_inverse : GoodIn wsX2_removeCommonOddFactor wsX1_inverse := goodIn_r _ [47, 48, 31] (by decide +kernel) (by decide +kernel)
set_option maxRecDepth 20000 in
theorem gX2_removeCommonOddFactor_X1_inverse : GoodIn wsX2_removeCommonOddFactor (va_wsS RX2 82 yX1_inverse wsX1_inverse) := goodIn_app (goodIn_of _ (by decide +kernel)) ggX2_removeCommonOddFactor_X1_inverse
set_option maxRecDepth 20000 in
theorem ggX2_removeCommonOddFactor_X1_divideEvenly : GoodIn wsX2_removeCommonOddFactor wsX1_divideEvenly := goodIn_r _ [51, 31, 52, 43, 7, 44] (by decide +kernel) (by decide +kernel)
set_option maxRecDepth 20000 in
theorem gX2_removeCommonOddFactor_X1_divideEvenly : GoodIn wsX2_removeCommonOddFactor (va_wsS RX2 86 yX1_divideEvenly wsX1_divideEvenly) := goodIn_app (goodIn_of _ (by decide +kernel)) ggX2_removeCommonOddFactor_X1_divideEvenly
theorem dX2_removeCommonOddFactor_0 : decode cX2_removeCommonOddFactor 0 = .ok (.aload_n 0, 1) := by decide +kernel
theorem dX2_removeCommonOddFactor_1 : decode cX2_removeCommonOddFactor 1 = .ok (.getfield 9, 3) := by decide +kernel
theorem dX2_removeCommonOddFactor_4 : decode cX2_removeCommonOddFactor 4 = .ok (.aload_n 0, 1) := by decide +kernel
theorem dX2_removeCommonOddFactor_5 : decode cX2_removeCommonOddFactor 5 = .ok (.getfield 18, 3) := by decide +kernel
theorem dX2_removeCommonOddFactor_8 : decode cX2_removeCommonOddFactor 8 = .ok (.invokestatic 71, 3) := by decide +kernel
theorem dX2_removeCommonOddFactor_11 : decode cX2_removeCommonOddFactor 11 = .ok (.aload_n 0, 1) := by decide +kernel
theorem dX2_removeCommonOddFactor_12 : decode cX2_removeCommonOddFactor 12 = .ok (.getfield 15, 3) := by decide +kernel
theorem dX2_removeCommonOddFactor_15 : decode cX2_removeCommonOddFactor 15 = .ok (.aload_n 0, 1) := by decide +kernel
theorem dX2_removeCommonOddFactor_16 : decode cX2_removeCommonOddFactor 16 = .ok (.getfield 21, 3) := by decide +kernel
theorem dX2_removeCommonOddFactor_19 : decode cX2_removeCommonOddFactor 19 = .ok (.invokestatic 71, 3) := by decide +kernel
theorem dX2_removeCommonOddFactor_22 : decode cX2_removeCommonOddFactor 22 = .ok (.aload_n 0, 1) := by decide +kernel
theorem dX2_removeCommonOddFactor_23 : decode cX2_removeCommonOddFactor 23 = .ok (.getfield 18, 3) := by decide +kernel
theorem dX2_removeCommonOddFactor_26 : decode cX2_removeCommonOddFactor 26 = .ok (.iload_n 1, 1) := by decide +kernel
theorem dX2_removeCommonOddFactor_27 : decode cX2_removeCommonOddFactor 27 = .ok (.invokestatic 74, 3) := by decide +kernel
theorem dX2_removeCommonOddFactor_30 : decode cX2_removeCommonOddFactor 30 = .ok (.aload_n 0, 1) := by decide +kernel
theorem dX2_removeCommonOddFactor_31 : decode cX2_removeCommonOddFactor 31 = .ok (.getfield 21, 3) := by decide +kernel
theorem dX2_removeCommonOddFactor_34 : decode cX2_removeCommonOddFactor 34 = .ok (.iload_n 1, 1) := by decide +kernel
theorem dX2_removeCommonOddFactor_35 : decode cX2_removeCommonOddFactor 35 = .ok (.invokestatic 74, 3) := by decide +kernel
theorem dX2_removeCommonOddFactor_38 : decode cX2_removeCommonOddFactor 38 = .ok (.aload_n 0, 1) := by decide +kernel
theorem dX2_removeCommonOddFactor_39 : decode cX2_removeCommonOddFactor 39 = .ok (.iload_n 1, 1) := by decide +kernel
theorem dX2_removeCommonOddFactor_40 : decode cX2_removeCommonOddFactor 40 = .ok (.invokevirtual 78, 3) := by decide +kernel
theorem dX2_removeCommonOddFactor_43 : decode cX2_removeCommonOddFactor 43 = .ok (.astore_n 2, 1) := by decide +kernel
theorem dX2_removeCommonOddFactor_44 : decode cX2_removeCommonOddFactor 44 = .ok (.aload_n 2, 1) := by decide +kernel
theorem dX2_removeCommonOddFactor_45 : decode cX2_removeCommonOddFactor 45 = .ok (.iconst 0, 1) := by decide +kernel
theorem dX2_removeCommonOddFactor_46 : decode cX2_removeCommonOddFactor 46 = .ok (.laload, 1) := by decide +kernel
theorem dX2_removeCommonOddFactor_47 : decode cX2_removeCommonOddFactor 47 = .ok (.invokestatic 82, 3) := by decide +kernel
theorem dX2_removeCommonOddFactor_50 : decode cX2_removeCommonOddFactor 50 = .ok (.lstore_n 3, 1) := by decide +kernel
theorem dX2_removeCommonOddFactor_51 : decode cX2_removeCommonOddFactor 51 = .ok (.aload_n 0, 1) := by decide +kernel
theorem dX2_removeCommonOddFactor_52 : decode cX2_removeCommonOddFactor 52 = .ok (.getfield 9, 3) := by decide +kernel
theorem dX2_removeCommonOddFactor_55 : decode cX2_removeCommonOddFactor 55 = .ok (.aload_n 2, 1) := by decide +kernel
theorem dX2_removeCommonOddFactor_56 : decode cX2_removeCommonOddFactor 56 = .ok (.lload_n 3, 1) := by decide +kernel
theorem dX2_removeCommonOddFactor_57 : decode cX2_removeCommonOddFactor 57 = .ok (.iload_n 1, 1) := by decide +kernel
theorem dX2_removeCommonOddFactor_58 : decode cX2_removeCommonOddFactor 58 = .ok (.invokestatic 86, 3) := by decide +kernel
theorem dX2_removeCommonOddFactor_61 : decode cX2_removeCommonOddFactor 61 = .ok (.aload_n 0, 1) := by decide +kernel
theorem dX2_removeCommonOddFactor_62 : decode cX2_removeCommonOddFactor 62 = .ok (.getfield 15, 3) := by decide +kernel
theorem dX2_removeCommonOddFactor_65 : decode cX2_removeCommonOddFactor 65 = .ok (.aload_n 2, 1) := by decide +kernel
theorem dX2_removeCommonOddFactor_66 : decode cX2_removeCommonOddFactor 66 = .ok (.lload_n 3, 1) := by decide +kernel
theorem dX2_removeCommonOddFactor_67 : decode cX2_removeCommonOddFactor 67 = .ok (.iload_n 1, 1) := by decide +kernel
theorem dX2_removeCommonOddFactor_68 : decode cX2_removeCommonOddFactor 68 = .ok (.invokestatic 86, 3) := by decide +kernel
theorem dX2_removeCommonOddFactor_71 : decode cX2_removeCommonOddFactor 71 = .ok (.return_, 1) := by decide +kernel
set_option maxRecDepth 20000 in
theorem ggX2_removeTwos_X1_trailingZeros : GoodIn wsX2_removeTwos wsX1_trailingZeros := goodIn_r _ [4, 5, 6, 7, 8, 9, 10, 11, 12] (by decide +kernel) (by decide +kernel)
set_option maxRecDepth 20000 in
theorem gX2_removeTwos_X1_trailingZeros : GoodIn wsX2_removeTwos (va_wsS RX2 57 yX1_trailingZeros wsX1_trailingZeros) := goodIn_app (goodIn_of _ (by decide +kernel)) ggX2_removeTwos_X1_trailingZeros
set_option maxRecDepth 20000 in
theorem ggX2_removeTwos_X1_shiftRight : GoodIn wsX2_removeTwos wsX1_shiftRight := goodIn_r _ [15, 16, 17, 18, 3, 19] (by decide +kernel) (by decide +kernel)
set_option maxRecDepth 20000 in
theorem gX2_removeTwos_X1_shiftRight : GoodIn wsX2_removeTwos (va_wsS RX2 67 yX1_shiftRight wsX1_shiftRight) := goodIn_app (goodIn_of _ (by decide +kernel)) ggX2_removeTwos_X1_shiftRight
theorem dX2_removeTwos_0 : decode cX2_removeTwos 0 = .ok (.aload_n 0, 1) := by decide +kernel
theorem dX2_removeTwos_1 : decode cX2_removeTwos 1 = .ok (.aload_n 0, 1) := by decide +kernel
theorem dX2_removeTwos_2 : decode cX2_removeTwos 2 = .ok (.invokestatic 57, 3) := by decide +kernel
theorem dX2_removeTwos_5 : decode cX2_removeTwos 5 = .ok (.iload_n 1, 1) := by decide +kernel
theorem dX2_removeTwos_6 : decode cX2_removeTwos 6 = .ok (.invokestatic 67, 3) := by decide +kernel
theorem dX2_removeTwos_9 : decode cX2_removeTwos 9 = .ok (.return_, 1) := by decide +kernel
set_option maxRecDepth 20000 in
theorem ggX2_commonOddFactor_X1_compare : GoodIn wsX2_commonOddFactor wsX1_compare := goodIn_r _ [6] (by decide +kernel) (by decide +kernel)
set_option maxRecDepth 20000 in
theorem gX2_commonOddFactor_X1_compare : GoodIn wsX2_commonOddFactor (va_wsS RX2 90 yX1_compare wsX1_compare) := goodIn_app (goodIn_of _ (by decide +kernel)) ggX2_commonOddFactor_X1_compare
set_option maxRecDepth 20000 in
theorem ggX2_commonOddFactor_X1_subtractScaled : GoodIn wsX2_commonOddFactor wsX1_subtractScaled := goodIn_r _ [9, 10] (by decide +kernel) (by decide +kernel)
set_option maxRecDepth 20000 in
theorem gX2_commonOddFactor_X1_subtractScaled : GoodIn wsX2_commonOddFactor (va_wsS RX2 94 yX1_subtractScaled wsX1_subtractScaled) := goodIn_app (goodIn_of _ (by decide +kernel)) ggX2_commonOddFactor_X1_subtractScaled
set_option maxRecDepth 20000 in
theorem ggX2_commonOddFactor_X2_removeTwos : GoodIn wsX2_commonOddFactor wsX2_removeTwos := goodIn_r _ [14, 15, 16, 5, 17, 18, 19, 20, 21, 22, 23, 24, 25, 26, 27, 28, 10, 29, 30, 31] (by decide +kernel) (by decide +kernel)
set_option maxRecDepth 20000 in
theorem gX2_commonOddFactor_X2_removeTwos : GoodIn wsX2_commonOddFactor (va_wsS RX2 74 yX2_removeTwos wsX2_removeTwos) := goodIn_app (goodIn_of _ (by decide +kernel)) ggX2_commonOddFactor_X2_removeTwos
theorem dX2_commonOddFactor_0 : decode cX2_commonOddFactor 0 = .ok (.aload_n 0, 1) := by decide +kernel
theorem dX2_commonOddFactor_1 : decode cX2_commonOddFactor 1 = .ok (.getfield 18, 3) := by decide +kernel
theorem dX2_commonOddFactor_4 : decode cX2_commonOddFactor 4 = .ok (.astore_n 2, 1) := by decide +kernel
theorem dX2_commonOddFactor_5 : decode cX2_commonOddFactor 5 = .ok (.aload_n 0, 1) := by decide +kernel
theorem dX2_commonOddFactor_6 : decode cX2_commonOddFactor 6 = .ok (.getfield 21, 3) := by decide +kernel
theorem dX2_commonOddFactor_9 : decode cX2_commonOddFactor 9 = .ok (.astore_n 3, 1) := by decide +kernel
theorem dX2_commonOddFactor_10 : decode cX2_commonOddFactor 10 = .ok (.iload_n 1, 1) := by decide +kernel
theorem dX2_commonOddFactor_11 : decode cX2_commonOddFactor 11 = .ok (.istore 4, 2) := by decide +kernel
theorem dX2_commonOddFactor_13 : decode cX2_commonOddFactor 13 = .ok (.iconst 0, 1) := by decide +kernel
theorem dX2_commonOddFactor_14 : decode cX2_commonOddFactor 14 = .ok (.istore 5, 2) := by decide +kernel
theorem dX2_commonOddFactor_16 : decode cX2_commonOddFactor 16 = .ok (.iload 5, 2) := by decide +kernel
theorem dX2_commonOddFactor_18 : decode cX2_commonOddFactor 18 = .ok (.sipush 1344, 3) := by decide +kernel
theorem dX2_commonOddFactor_21 : decode cX2_commonOddFactor 21 = .ok (.if_icmp .ge 88, 3) := by decide +kernel
theorem dX2_commonOddFactor_24 : decode cX2_commonOddFactor 24 = .ok (.iload 4, 2) := by decide +kernel
theorem dX2_commonOddFactor_26 : decode cX2_commonOddFactor 26 = .ok (.iconst 1, 1) := by decide +kernel
theorem dX2_commonOddFactor_27 : decode cX2_commonOddFactor 27 = .ok (.if_icmp .le 31, 3) := by decide +kernel
theorem dX2_commonOddFactor_30 : decode cX2_commonOddFactor 30 = .ok (.aload_n 2, 1) := by decide +kernel
theorem dX2_commonOddFactor_31 : decode cX2_commonOddFactor 31 = .ok (.iload 4, 2) := by decide +kernel
theorem dX2_commonOddFactor_33 : decode cX2_commonOddFactor 33 = .ok (.iconst 1, 1) := by decide +kernel
theorem dX2_commonOddFactor_34 : decode cX2_commonOddFactor 34 = .ok (.isub, 1) := by decide +kernel
theorem dX2_commonOddFactor_35 : decode cX2_commonOddFactor 35 = .ok (.laload, 1) := by decide +kernel
theorem dX2_commonOddFactor_36 : decode cX2_commonOddFactor 36 = .ok (.lconst 0, 1) := by decide +kernel
theorem dX2_commonOddFactor_37 : decode cX2_commonOddFactor 37 = .ok (.lcmp, 1) := by decide +kernel
theorem dX2_commonOddFactor_38 : decode cX2_commonOddFactor 38 = .ok (.ifCond .ne 20, 3) := by decide +kernel
theorem dX2_commonOddFactor_41 : decode cX2_commonOddFactor 41 = .ok (.aload_n 3, 1) := by decide +kernel
theorem dX2_commonOddFactor_42 : decode cX2_commonOddFactor 42 = .ok (.iload 4, 2) := by decide +kernel
theorem dX2_commonOddFactor_44 : decode cX2_commonOddFactor 44 = .ok (.iconst 1, 1) := by decide +kernel
theorem dX2_commonOddFactor_45 : decode cX2_commonOddFactor 45 = .ok (.isub, 1) := by decide +kernel
theorem dX2_commonOddFactor_46 : decode cX2_commonOddFactor 46 = .ok (.laload, 1) := by decide +kernel
theorem dX2_commonOddFactor_47 : decode cX2_commonOddFactor 47 = .ok (.lconst 0, 1) := by decide +kernel
theorem dX2_commonOddFactor_48 : decode cX2_commonOddFactor 48 = .ok (.lcmp, 1) := by decide +kernel
theorem dX2_commonOddFactor_49 : decode cX2_commonOddFactor 49 = .ok (.ifCond .ne 9, 3) := by decide +kernel
theorem dX2_commonOddFactor_52 : decode cX2_commonOddFactor 52 = .ok (.iinc 4 (-1), 3) := by decide +kernel
theorem dX2_commonOddFactor_55 : decode cX2_commonOddFactor 55 = .ok (.goto (-31), 3) := by decide +kernel
theorem dX2_commonOddFactor_58 : decode cX2_commonOddFactor 58 = .ok (.aload_n 2, 1) := by decide +kernel
theorem dX2_commonOddFactor_59 : decode cX2_commonOddFactor 59 = .ok (.aload_n 3, 1) := by decide +kernel
theorem dX2_commonOddFactor_60 : decode cX2_commonOddFactor 60 = .ok (.iload 4, 2) := by decide +kernel
theorem dX2_commonOddFactor_62 : decode cX2_commonOddFactor 62 = .ok (.invokestatic 90, 3) := by decide +kernel
theorem dX2_commonOddFactor_65 : decode cX2_commonOddFactor 65 = .ok (.istore 6, 2) := by decide +kernel
theorem dX2_commonOddFactor_67 : decode cX2_commonOddFactor 67 = .ok (.iload 6, 2) := by decide +kernel
theorem dX2_commonOddFactor_69 : decode cX2_commonOddFactor 69 = .ok (.ifCond .ne 6, 3) := by decide +kernel
theorem dX2_commonOddFactor_72 : decode cX2_commonOddFactor 72 = .ok (.goto 37, 3) := by decide +kernel
theorem dX2_commonOddFactor_75 : decode cX2_commonOddFactor 75 = .ok (.iload 6, 2) := by decide +kernel
theorem dX2_commonOddFactor_77 : decode cX2_commonOddFactor 77 = .ok (.ifCond .ge 11, 3) := by decide +kernel
theorem dX2_commonOddFactor_80 : decode cX2_commonOddFactor 80 = .ok (.aload_n 2, 1) := by decide +kernel
theorem dX2_commonOddFactor_81 : decode cX2_commonOddFactor 81 = .ok (.astore 7, 2) := by decide +kernel
theorem dX2_commonOddFactor_83 : decode cX2_commonOddFactor 83 = .ok (.aload_n 3, 1) := by decide +kernel
theorem dX2_commonOddFactor_84 : decode cX2_commonOddFactor 84 = .ok (.astore_n 2, 1) := by decide +kernel
theorem dX2_commonOddFactor_85 : decode cX2_commonOddFactor 85 = .ok (.aload 7, 2) := by decide +kernel
theorem dX2_commonOddFactor_87 : decode cX2_commonOddFactor 87 = .ok (.astore_n 3, 1) := by decide +kernel
theorem dX2_commonOddFactor_88 : decode cX2_commonOddFactor 88 = .ok (.aload_n 2, 1) := by decide +kernel
theorem dX2_commonOddFactor_89 : decode cX2_commonOddFactor 89 = .ok (.iconst 0, 1) := by decide +kernel
theorem dX2_commonOddFactor_90 : decode cX2_commonOddFactor 90 = .ok (.lconst 1, 1) := by decide +kernel
theorem dX2_commonOddFactor_91 : decode cX2_commonOddFactor 91 = .ok (.aload_n 3, 1) := by decide +kernel
theorem dX2_commonOddFactor_92 : decode cX2_commonOddFactor 92 = .ok (.iload 4, 2) := by decide +kernel
theorem dX2_commonOddFactor_94 : decode cX2_commonOddFactor 94 = .ok (.invokestatic 94, 3) := by decide +kernel
theorem dX2_commonOddFactor_97 : decode cX2_commonOddFactor 97 = .ok (.aload_n 2, 1) := by decide +kernel
theorem dX2_commonOddFactor_98 : decode cX2_commonOddFactor 98 = .ok (.iload 4, 2) := by decide +kernel
theorem dX2_commonOddFactor_100 : decode cX2_commonOddFactor 100 = .ok (.invokestatic 74, 3) := by decide +kernel
theorem dX2_commonOddFactor_103 : decode cX2_commonOddFactor 103 = .ok (.iinc 5 1, 3) := by decide +kernel
theorem dX2_commonOddFactor_106 : decode cX2_commonOddFactor 106 = .ok (.goto (-90), 3) := by decide +kernel
theorem dX2_commonOddFactor_109 : decode cX2_commonOddFactor 109 = .ok (.aload_n 2, 1) := by decide +kernel
theorem dX2_commonOddFactor_110 : decode cX2_commonOddFactor 110 = .ok (.areturn, 1) := by decide +kernel
set_option maxRecDepth 20000 in
theorem ggX2_fitsLong_X2_lowBits : GoodIn wsX2_fitsLong wsX2_lowBits := goodIn_r _ [5] (by decide +kernel) (by decide +kernel)
set_option maxRecDepth 20000 in
theorem gX2_fitsLong_X2_lowBits : GoodIn wsX2_fitsLong (va_wsS RX2 53 yX2_lowBits wsX2_lowBits) := goodIn_app (goodIn_of _ (by decide +kernel)) ggX2_fitsLong_X2_lowBits
theorem dX2_fitsLong_0 : decode cX2_fitsLong 0 = .ok (.iconst 2, 1) := by decide +kernel
theorem dX2_fitsLong_1 : decode cX2_fitsLong 1 = .ok (.istore_n 2, 1) := by decide +kernel
theorem dX2_fitsLong_2 : decode cX2_fitsLong 2 = .ok (.iload_n 2, 1) := by decide +kernel
theorem dX2_fitsLong_3 : decode cX2_fitsLong 3 = .ok (.bipush 21, 2) := by decide +kernel
theorem dX2_fitsLong_5 : decode cX2_fitsLong 5 = .ok (.if_icmp .ge 19, 3) := by decide +kernel
theorem dX2_fitsLong_8 : decode cX2_fitsLong 8 = .ok (.aload_n 0, 1) := by decide +kernel
theorem dX2_fitsLong_9 : decode cX2_fitsLong 9 = .ok (.iload_n 2, 1) := by decide +kernel
theorem dX2_fitsLong_10 : decode cX2_fitsLong 10 = .ok (.laload, 1) := by decide +kernel
theorem dX2_fitsLong_11 : decode cX2_fitsLong 11 = .ok (.lconst 0, 1) := by decide +kernel
theorem dX2_fitsLong_12 : decode cX2_fitsLong 12 = .ok (.lcmp, 1) := by decide +kernel
theorem dX2_fitsLong_13 : decode cX2_fitsLong 13 = .ok (.ifCond .eq 5, 3) := by decide +kernel
theorem dX2_fitsLong_16 : decode cX2_fitsLong 16 = .ok (.iconst 0, 1) := by decide +kernel
theorem dX2_fitsLong_17 : decode cX2_fitsLong 17 = .ok (.ireturn, 1) := by decide +kernel
theorem dX2_fitsLong_18 : decode cX2_fitsLong 18 = .ok (.iinc 2 1, 3) := by decide +kernel
theorem dX2_fitsLong_21 : decode cX2_fitsLong 21 = .ok (.goto (-19), 3) := by decide +kernel
theorem dX2_fitsLong_24 : decode cX2_fitsLong 24 = .ok (.aload_n 0, 1) := by decide +kernel
theorem dX2_fitsLong_25 : decode cX2_fitsLong 25 = .ok (.invokestatic 53, 3) := by decide +kernel
theorem dX2_fitsLong_28 : decode cX2_fitsLong 28 = .ok (.lstore_n 2, 1) := by decide +kernel
theorem dX2_fitsLong_29 : decode cX2_fitsLong 29 = .ok (.lload_n 2, 1) := by decide +kernel
theorem dX2_fitsLong_30 : decode cX2_fitsLong 30 = .ok (.lconst 0, 1) := by decide +kernel
theorem dX2_fitsLong_31 : decode cX2_fitsLong 31 = .ok (.lcmp, 1) := by decide +kernel
theorem dX2_fitsLong_32 : decode cX2_fitsLong 32 = .ok (.ifCond .ge 15, 3) := by decide +kernel
theorem dX2_fitsLong_35 : decode cX2_fitsLong 35 = .ok (.iload_n 1, 1) := by decide +kernel
theorem dX2_fitsLong_36 : decode cX2_fitsLong 36 = .ok (.ifCond .eq 15, 3) := by decide +kernel
theorem dX2_fitsLong_39 : decode cX2_fitsLong 39 = .ok (.lload_n 2, 1) := by decide +kernel
theorem dX2_fitsLong_40 : decode cX2_fitsLong 40 = .ok (.ldc2_w 100, 3) := by decide +kernel
theorem dX2_fitsLong_43 : decode cX2_fitsLong 43 = .ok (.lcmp, 1) := by decide +kernel
theorem dX2_fitsLong_44 : decode cX2_fitsLong 44 = .ok (.ifCond .ne 7, 3) := by decide +kernel
theorem dX2_fitsLong_47 : decode cX2_fitsLong 47 = .ok (.iconst 1, 1) := by decide +kernel
theorem dX2_fitsLong_48 : decode cX2_fitsLong 48 = .ok (.goto 4, 3) := by decide +kernel
theorem dX2_fitsLong_51 : decode cX2_fitsLong 51 = .ok (.iconst 0, 1) := by decide +kernel
theorem dX2_fitsLong_52 : decode cX2_fitsLong 52 = .ok (.ireturn, 1) := by decide +kernel
theorem dX2_lowBits_0 : decode cX2_lowBits 0 = .ok (.aload_n 0, 1) := by decide +kernel
theorem dX2_lowBits_1 : decode cX2_lowBits 1 = .ok (.iconst 1, 1) := by decide +kernel
theorem dX2_lowBits_2 : decode cX2_lowBits 2 = .ok (.laload, 1) := by decide +kernel
theorem dX2_lowBits_3 : decode cX2_lowBits 3 = .ok (.bipush 32, 2) := by decide +kernel
theorem dX2_lowBits_5 : decode cX2_lowBits 5 = .ok (.lshl, 1) := by decide +kernel
theorem dX2_lowBits_6 : decode cX2_lowBits 6 = .ok (.aload_n 0, 1) := by decide +kernel
theorem dX2_lowBits_7 : decode cX2_lowBits 7 = .ok (.iconst 0, 1) := by decide +kernel
theorem dX2_lowBits_8 : decode cX2_lowBits 8 = .ok (.laload, 1) := by decide +kernel
theorem dX2_lowBits_9 : decode cX2_lowBits 9 = .ok (.lor, 1) := by decide +kernel
theorem dX2_lowBits_10 : decode cX2_lowBits 10 = .ok (.lreturn, 1) := by decide +kernel
set_option maxRecDepth 20000 in
theorem ggX3_init_X0_init : GoodIn wsX3_init wsX0_init := goodIn_r _ [21, 22, 2, 3, 23, 7, 24, 25, 26, 27, 28, 29, 30, 31, 32, 33, 50, 51, 52, 53, 54, 55, 56, 57, 58, 59] (by decide +kernel) (by decide +kernel)
set_option maxRecDepth 20000 in
theorem gX3_init_X0_init_n23 : GoodIn wsX3_init (wsX0_init) := ggX3_init_X0_init
set_option maxRecDepth 20000 in
theorem ggX3_init_X2_init : GoodIn wsX3_init wsX2_init := goodIn_r _ [35, 36, 2, 3, 7, 37, 38, 39, 40, 41, 42, 60, 61, 62, 63, 64, 65] (by decide +kernel) (by decide +kernel)
set_option maxRecDepth 20000 in
theorem gX3_init_X2_init_n30 : GoodIn wsX3_init (wsX2_init) := ggX3_init_X2_init
theorem dX3_init_0 : decode cX3_init 0 = .ok (.aload_n 0, 1) := by decide +kernel
theorem dX3_init_1 : decode cX3_init 1 = .ok (.invokespecial 3, 3) := by decide +kernel
theorem dX3_init_4 : decode cX3_init 4 = .ok (.aload_n 0, 1) := by decide +kernel
theorem dX3_init_5 : decode cX3_init 5 = .ok (.bipush 10, 2) := by decide +kernel
theorem dX3_init_7 : decode cX3_init 7 = .ok (.bipush 11, 2) := by decide +kernel
theorem dX3_init_9 : decode cX3_init 9 = .ok (.multianewarray 9 2, 4) := by decide +kernel
theorem dX3_init_13 : decode cX3_init 13 = .ok (.putfield 11, 3) := by decide +kernel
theorem dX3_init_16 : decode cX3_init 16 = .ok (.aload_n 0, 1) := by decide +kernel
theorem dX3_init_17 : decode cX3_init 17 = .ok (.bipush 10, 2) := by decide +kernel
theorem dX3_init_19 : decode cX3_init 19 = .ok (.newarray .long, 2) := by decide +kernel
theorem dX3_init_21 : decode cX3_init 21 = .ok (.putfield 14, 3) := by decide +kernel
theorem dX3_init_24 : decode cX3_init 24 = .ok (.aload_n 0, 1) := by decide +kernel
theorem dX3_init_25 : decode cX3_init 25 = .ok (.bipush 10, 2) := by decide +kernel
theorem dX3_init_27 : decode cX3_init 27 = .ok (.newarray .long, 2) := by decide +kernel
theorem dX3_init_29 : decode cX3_init 29 = .ok (.putfield 18, 3) := by decide +kernel
theorem dX3_init_32 : decode cX3_init 32 = .ok (.aload_n 0, 1) := by decide +kernel
theorem dX3_init_33 : decode cX3_init 33 = .ok (.new 21, 3) := by decide +kernel
theorem dX3_init_36 : decode cX3_init 36 = .ok (.dup, 1) := by decide +kernel
theorem dX3_init_37 : decode cX3_init 37 = .ok (.invokespecial 23, 3) := by decide +kernel
theorem dX3_init_40 : decode cX3_init 40 = .ok (.putfield 24, 3) := by decide +kernel
theorem dX3_init_43 : decode cX3_init 43 = .ok (.aload_n 0, 1) := by decide +kernel
theorem dX3_init_44 : decode cX3_init 44 = .ok (.new 28, 3) := by decide +kernel
theorem dX3_init_47 : decode cX3_init 47 = .ok (.dup, 1) := by decide +kernel
theorem dX3_init_48 : decode cX3_init 48 = .ok (.invokespecial 30, 3) := by decide +kernel
theorem dX3_init_51 : decode cX3_init 51 = .ok (.putfield 31, 3) := by decide +kernel
theorem dX3_init_54 : decode cX3_init 54 = .ok (.aload_n 0, 1) := by decide +kernel
theorem dX3_init_55 : decode cX3_init 55 = .ok (.iconst 1, 1) := by decide +kernel
theorem dX3_init_56 : decode cX3_init 56 = .ok (.putfield 35, 3) := by decide +kernel
theorem dX3_init_59 : decode cX3_init 59 = .ok (.aload_n 0, 1) := by decide +kernel
theorem dX3_init_60 : decode cX3_init 60 = .ok (.iconst 0, 1) := by decide +kernel
theorem dX3_init_61 : decode cX3_init 61 = .ok (.putfield 39, 3) := by decide +kernel
theorem dX3_init_64 : decode cX3_init 64 = .ok (.return_, 1) := by decide +kernel
set_option maxRecDepth 20000 in
theorem ggX3_begin_J7_fill_53178 : GoodIn wsX3_begin wsJ7_fill_53178 := goodIn_r _ [7] (by decide +kernel) (by decide +kernel)
set_option maxRecDepth 20000 in
theorem gX3_begin_J7_fill_53178 : GoodIn wsX3_begin (va_wsS RX3 43 yJ7_fill_53178 wsJ7_fill_53178) := goodIn_app (goodIn_of _ (by decide +kernel)) ggX3_begin_J7_fill_53178
theorem dX3_begin_0 : decode cX3_begin 0 = .ok (.iload_n 1, 1) := by decide +kernel
theorem dX3_begin_1 : decode cX3_begin 1 = .ok (.iconst 1, 1) := by decide +kernel
theorem dX3_begin_2 : decode cX3_begin 2 = .ok (.if_icmp .lt 9, 3) := by decide +kernel
theorem dX3_begin_5 : decode cX3_begin 5 = .ok (.iload_n 1, 1) := by decide +kernel
theorem dX3_begin_6 : decode cX3_begin 6 = .ok (.bipush 10, 2) := by decide +kernel
theorem dX3_begin_8 : decode cX3_begin 8 = .ok (.if_icmp .le 5, 3) := by decide +kernel
theorem dX3_begin_11 : decode cX3_begin 11 = .ok (.iconst 0, 1) := by decide +kernel
theorem dX3_begin_12 : decode cX3_begin 12 = .ok (.ireturn, 1) := by decide +kernel
theorem dX3_begin_13 : decode cX3_begin 13 = .ok (.iconst 0, 1) := by decide +kernel
theorem dX3_begin_14 : decode cX3_begin 14 = .ok (.istore_n 2, 1) := by decide +kernel
theorem dX3_begin_15 : decode cX3_begin 15 = .ok (.iload_n 2, 1) := by decide +kernel
theorem dX3_begin_16 : decode cX3_begin 16 = .ok (.bipush 10, 2) := by decide +kernel
theorem dX3_begin_18 : decode cX3_begin 18 = .ok (.if_icmp .ge 19, 3) := by decide +kernel
theorem dX3_begin_21 : decode cX3_begin 21 = .ok (.aload_n 0, 1) := by decide +kernel
theorem dX3_begin_22 : decode cX3_begin 22 = .ok (.getfield 11, 3) := by decide +kernel
theorem dX3_begin_25 : decode cX3_begin 25 = .ok (.iload_n 2, 1) := by decide +kernel
theorem dX3_begin_26 : decode cX3_begin 26 = .ok (.aaload, 1) := by decide +kernel
theorem dX3_begin_27 : decode cX3_begin 27 = .ok (.iconst 0, 1) := by decide +kernel
theorem dX3_begin_28 : decode cX3_begin 28 = .ok (.invokestatic 43, 3) := by decide +kernel
theorem dX3_begin_31 : decode cX3_begin 31 = .ok (.iinc 2 1, 3) := by decide +kernel
theorem dX3_begin_34 : decode cX3_begin 34 = .ok (.goto (-19), 3) := by decide +kernel
theorem dX3_begin_37 : decode cX3_begin 37 = .ok (.aload_n 0, 1) := by decide +kernel
theorem dX3_begin_38 : decode cX3_begin 38 = .ok (.iload_n 1, 1) := by decide +kernel
theorem dX3_begin_39 : decode cX3_begin 39 = .ok (.putfield 35, 3) := by decide +kernel
theorem dX3_begin_42 : decode cX3_begin 42 = .ok (.aload_n 0, 1) := by decide +kernel
theorem dX3_begin_43 : decode cX3_begin 43 = .ok (.iconst 0, 1) := by decide +kernel
theorem dX3_begin_44 : decode cX3_begin 44 = .ok (.putfield 39, 3) := by decide +kernel
theorem dX3_begin_47 : decode cX3_begin 47 = .ok (.iconst 1, 1) := by decide +kernel
theorem dX3_begin_48 : decode cX3_begin 48 = .ok (.ireturn, 1) := by decide +kernel
set_option maxRecDepth 20000 in
theorem ggX3_put_X3_hasNumber : GoodIn wsX3_put wsX3_hasNumber := goodIn_r _ [6, 7, 8, 9, 10, 11, 12, 13, 14] (by decide +kernel) (by decide +kernel)
set_option maxRecDepth 20000 in
theorem gX3_put_X3_hasNumber : GoodIn wsX3_put (wsV RX3 49 RX3 yX3_hasNumber wsX3_hasNumber) := goodIn_app (goodIn_of _ (by decide +kernel)) ggX3_put_X3_hasNumber
theorem dX3_put_0 : decode cX3_put 0 = .ok (.aload_n 0, 1) := by decide +kernel
theorem dX3_put_1 : decode cX3_put 1 = .ok (.iload_n 1, 1) := by decide +kernel
theorem dX3_put_2 : decode cX3_put 2 = .ok (.iload_n 2, 1) := by decide +kernel
theorem dX3_put_3 : decode cX3_put 3 = .ok (.invokevirtual 49, 3) := by decide +kernel
theorem dX3_put_6 : decode cX3_put 6 = .ok (.ifCond .ne 5, 3) := by decide +kernel
theorem dX3_put_9 : decode cX3_put 9 = .ok (.iconst 0, 1) := by decide +kernel
theorem dX3_put_10 : decode cX3_put 10 = .ok (.ireturn, 1) := by decide +kernel
theorem dX3_put_11 : decode cX3_put 11 = .ok (.aload_n 0, 1) := by decide +kernel
theorem dX3_put_12 : decode cX3_put 12 = .ok (.getfield 11, 3) := by decide +kernel
theorem dX3_put_15 : decode cX3_put 15 = .ok (.iload_n 1, 1) := by decide +kernel
theorem dX3_put_16 : decode cX3_put 16 = .ok (.aaload, 1) := by decide +kernel
theorem dX3_put_17 : decode cX3_put 17 = .ok (.iload_n 2, 1) := by decide +kernel
theorem dX3_put_18 : decode cX3_put 18 = .ok (.iload_n 3, 1) := by decide +kernel
theorem dX3_put_19 : decode cX3_put 19 = .ok (.iastore, 1) := by decide +kernel
theorem dX3_put_20 : decode cX3_put 20 = .ok (.iconst 1, 1) := by decide +kernel
theorem dX3_put_21 : decode cX3_put 21 = .ok (.ireturn, 1) := by decide +kernel
set_option maxRecDepth 20000 in
theorem ggX3_get_X3_hasNumber : GoodIn wsX3_get wsX3_hasNumber := goodIn_r _ [6, 7, 8, 9, 10, 11, 12, 13, 14] (by decide +kernel) (by decide +kernel)
set_option maxRecDepth 20000 in
theorem gX3_get_X3_hasNumber : GoodIn wsX3_get (wsV RX3 49 RX3 yX3_hasNumber wsX3_hasNumber) := goodIn_app (goodIn_of _ (by decide +kernel)) ggX3_get_X3_hasNumber
theorem dX3_get_0 : decode cX3_get 0 = .ok (.aload_n 0, 1) := by decide +kernel
theorem dX3_get_1 : decode cX3_get 1 = .ok (.iload_n 1, 1) := by decide +kernel
theorem dX3_get_2 : decode cX3_get 2 = .ok (.iload_n 2, 1) := by decide +kernel
theorem dX3_get_3 : decode cX3_get 3 = .ok (.invokevirtual 49, 3) := by decide +kernel
theorem dX3_get_6 : decode cX3_get 6 = .ok (.ifCond .eq 14, 3) := by decide +kernel
theorem dX3_get_9 : decode cX3_get 9 = .ok (.aload_n 0, 1) := by decide +kernel
theorem dX3_get_10 : decode cX3_get 10 = .ok (.getfield 11, 3) := by decide +kernel
theorem dX3_get_13 : decode cX3_get 13 = .ok (.iload_n 1, 1) := by decide +kernel
theorem dX3_get_14 : decode cX3_get 14 = .ok (.aaload, 1) := by decide +kernel
theorem dX3_get_15 : decode cX3_get 15 = .ok (.iload_n 2, 1) := by decide +kernel
theorem dX3_get_16 : decode cX3_get 16 = .ok (.iaload, 1) := by decide +kernel
theorem dX3_get_17 : decode cX3_get 17 = .ok (.goto 4, 3) := by decide +kernel
theorem dX3_get_20 : decode cX3_get 20 = .ok (.iconst 0, 1) := by decide +kernel
theorem dX3_get_21 : decode cX3_get 21 = .ok (.ireturn, 1) := by decide +kernel
set_option maxRecDepth 20000 in
theorem ggX3_solve_X0_reduce : GoodIn wsX3_solve wsX0_reduce := goodIn_r _ [12, 13, 14, 15, 16, 11, 17, 18, 19, 20, 21, 22, 23, 24, 25, 26, 27, 28, 29, 30, 31, 32, 33, 34, 35, 36, 37, 38, 39, 40, 41, 42, 43, 44, 45, 46, 47, 48, 49, 50, 51, 52, 53, 54, 55, 56, 57, 58, 59, 60, 61, 62, 63, 64, 65, 66, 67, 68, 69, 70, 71, 72, 73, 74, 75, 76, 77, 78, 79, 80, 81, 82, 83, 84, 85, 86, 87, 88, 89, 90, 91, 92, 93, 94, 95, 96, 97, 98, 99, 100, 101, 102, 103, 104, 105, 106, 107, 108, 109, 110, 111, 112, 113, 114, 115, 116, 117, 118, 119, 120, 121, 122, 123, 202, 203, 204, 205, 206, 207, 208, 209, 210, 211] (by decide +kernel) (by decide +kernel)
set_option maxRecDepth 20000 in
theorem gX3_solve_X0_reduce : GoodIn wsX3_solve (wsV RX3 53 RX0 yX0_reduce wsX0_reduce) := goodIn_app (goodIn_of _ (by decide +kernel)) ggX3_solve_X0_reduce
set_option maxRecDepth 20000 in
theorem ggX3_solve_X0_dividend : GoodIn wsX3_solve wsX0_dividend := goodIn_r _ [127, 13, 19, 20, 21, 11, 22, 23, 202, 203, 204, 205, 206, 207, 208, 209, 210, 211] (by decide +kernel) (by decide +kernel)
set_option maxRecDepth 20000 in
theorem gX3_solve_X0_dividend : GoodIn wsX3_solve (wsV RX3 57 RX0 yX0_dividend wsX0_dividend) := goodIn_app (goodIn_of _ (by decide +kernel)) ggX3_solve_X0_dividend
set_option maxRecDepth 20000 in
theorem ggX3_solve_X0_divisor : GoodIn wsX3_solve wsX0_divisor := goodIn_r _ [131, 13, 19, 20, 21, 11, 22, 23, 202, 203, 204, 205, 206, 207, 208, 209, 210, 211] (by decide +kernel) (by decide +kernel)
set_option maxRecDepth 20000 in
theorem gX3_solve_X0_divisor : GoodIn wsX3_solve (wsV RX3 61 RX0 yX0_divisor wsX0_divisor) := goodIn_app (goodIn_of _ (by decide +kernel)) ggX3_solve_X0_divisor
set_option maxRecDepth 20000 in
theorem ggX3_solve_X0_width : GoodIn wsX3_solve wsX0_width := goodIn_r _ [135, 13, 92, 93, 94, 11, 95, 18, 202, 203, 204, 205, 206, 207, 208, 209, 210, 211] (by decide +kernel) (by decide +kernel)
set_option maxRecDepth 20000 in
theorem gX3_solve_X0_width : GoodIn wsX3_solve (wsV RX3 65 RX0 yX0_width wsX0_width) := goodIn_app (goodIn_of _ (by decide +kernel)) ggX3_solve_X0_width
set_option maxRecDepth 20000 in
theorem ggX3_solve_X2_find : GoodIn wsX3_solve wsX2_find := goodIn_r _ [140, 141, 142, 143, 144, 145, 38, 26, 39, 146, 147, 148, 115, 116, 117, 149, 150, 151, 152, 153, 59, 60, 29, 30, 31, 32, 61, 62, 63, 28, 154, 65, 66, 67, 68, 69, 70, 155, 156, 157, 139, 158, 159, 53, 54, 55, 160, 72, 73, 74, 75, 76, 77, 78, 79, 80, 81, 161, 83, 84, 85, 86, 87, 162, 163, 164, 165, 166, 167, 168, 169, 170, 171, 172, 173, 174, 175, 176, 177, 178, 179, 180, 89, 90, 91, 181, 110, 111, 182, 183, 184, 185, 186, 187, 188, 196, 197, 198, 199, 200, 201] (by decide +kernel) (by decide +kernel)
set_option maxRecDepth 20000 in
theorem gX3_solve_X2_find : GoodIn wsX3_solve (wsV RX3 69 RX2 yX2_find wsX2_find) := goodIn_app (goodIn_of _ (by decide +kernel)) ggX3_solve_X2_find
theorem dX3_solve_0 : decode cX3_solve 0 = .ok (.aload_n 0, 1) := by decide +kernel
theorem dX3_solve_1 : decode cX3_solve 1 = .ok (.iconst 0, 1) := by decide +kernel
theorem dX3_solve_2 : decode cX3_solve 2 = .ok (.putfield 39, 3) := by decide +kernel
theorem dX3_solve_5 : decode cX3_solve 5 = .ok (.aload_n 0, 1) := by decide +kernel
theorem dX3_solve_6 : decode cX3_solve 6 = .ok (.getfield 24, 3) := by decide +kernel
theorem dX3_solve_9 : decode cX3_solve 9 = .ok (.aload_n 0, 1) := by decide +kernel
theorem dX3_solve_10 : decode cX3_solve 10 = .ok (.getfield 11, 3) := by decide +kernel
theorem dX3_solve_13 : decode cX3_solve 13 = .ok (.aload_n 0, 1) := by decide +kernel
theorem dX3_solve_14 : decode cX3_solve 14 = .ok (.getfield 35, 3) := by decide +kernel
theorem dX3_solve_17 : decode cX3_solve 17 = .ok (.invokevirtual 53, 3) := by decide +kernel
theorem dX3_solve_20 : decode cX3_solve 20 = .ok (.ifCond .ne 5, 3) := by decide +kernel
theorem dX3_solve_23 : decode cX3_solve 23 = .ok (.iconst (-1), 1) := by decide +kernel
theorem dX3_solve_24 : decode cX3_solve 24 = .ok (.ireturn, 1) := by decide +kernel
theorem dX3_solve_25 : decode cX3_solve 25 = .ok (.iconst 0, 1) := by decide +kernel
theorem dX3_solve_26 : decode cX3_solve 26 = .ok (.istore_n 1, 1) := by decide +kernel
theorem dX3_solve_27 : decode cX3_solve 27 = .ok (.iload_n 1, 1) := by decide +kernel
theorem dX3_solve_28 : decode cX3_solve 28 = .ok (.aload_n 0, 1) := by decide +kernel
theorem dX3_solve_29 : decode cX3_solve 29 = .ok (.getfield 35, 3) := by decide +kernel
theorem dX3_solve_32 : decode cX3_solve 32 = .ok (.if_icmp .ge 71, 3) := by decide +kernel
theorem dX3_solve_35 : decode cX3_solve 35 = .ok (.aload_n 0, 1) := by decide +kernel
theorem dX3_solve_36 : decode cX3_solve 36 = .ok (.getfield 31, 3) := by decide +kernel
theorem dX3_solve_39 : decode cX3_solve 39 = .ok (.aload_n 0, 1) := by decide +kernel
theorem dX3_solve_40 : decode cX3_solve 40 = .ok (.getfield 24, 3) := by decide +kernel
theorem dX3_solve_43 : decode cX3_solve 43 = .ok (.iload_n 1, 1) := by decide +kernel
theorem dX3_solve_44 : decode cX3_solve 44 = .ok (.invokevirtual 57, 3) := by decide +kernel
theorem dX3_solve_47 : decode cX3_solve 47 = .ok (.aload_n 0, 1) := by decide +kernel
theorem dX3_solve_48 : decode cX3_solve 48 = .ok (.getfield 24, 3) := by decide +kernel
theorem dX3_solve_51 : decode cX3_solve 51 = .ok (.invokevirtual 61, 3) := by decide +kernel
theorem dX3_solve_54 : decode cX3_solve 54 = .ok (.aload_n 0, 1) := by decide +kernel
theorem dX3_solve_55 : decode cX3_solve 55 = .ok (.getfield 24, 3) := by decide +kernel
theorem dX3_solve_58 : decode cX3_solve 58 = .ok (.invokevirtual 65, 3) := by decide +kernel
theorem dX3_solve_61 : decode cX3_solve 61 = .ok (.invokevirtual 69, 3) := by decide +kernel
theorem dX3_solve_64 : decode cX3_solve 64 = .ok (.ifCond .ne 7, 3) := by decide +kernel
theorem dX3_solve_67 : decode cX3_solve 67 = .ok (.iconst 1, 1) := by decide +kernel
theorem dX3_solve_68 : decode cX3_solve 68 = .ok (.iload_n 1, 1) := by decide +kernel
theorem dX3_solve_69 : decode cX3_solve 69 = .ok (.iadd, 1) := by decide +kernel
theorem dX3_solve_70 : decode cX3_solve 70 = .ok (.ireturn, 1) := by decide +kernel
theorem dX3_solve_71 : decode cX3_solve 71 = .ok (.aload_n 0, 1) := by decide +kernel
theorem dX3_solve_72 : decode cX3_solve 72 = .ok (.getfield 14, 3) := by decide +kernel
theorem dX3_solve_75 : decode cX3_solve 75 = .ok (.iload_n 1, 1) := by decide +kernel
theorem dX3_solve_76 : decode cX3_solve 76 = .ok (.aload_n 0, 1) := by decide +kernel
theorem dX3_solve_77 : decode cX3_solve 77 = .ok (.getfield 31, 3) := by decide +kernel
theorem dX3_solve_80 : decode cX3_solve 80 = .ok (.getfield 73, 3) := by decide +kernel
theorem dX3_solve_83 : decode cX3_solve 83 = .ok (.lastore, 1) := by decide +kernel
theorem dX3_solve_84 : decode cX3_solve 84 = .ok (.aload_n 0, 1) := by decide +kernel
theorem dX3_solve_85 : decode cX3_solve 85 = .ok (.getfield 18, 3) := by decide +kernel
theorem dX3_solve_88 : decode cX3_solve 88 = .ok (.iload_n 1, 1) := by decide +kernel
theorem dX3_solve_89 : decode cX3_solve 89 = .ok (.aload_n 0, 1) := by decide +kernel
theorem dX3_solve_90 : decode cX3_solve 90 = .ok (.getfield 31, 3) := by decide +kernel
theorem dX3_solve_93 : decode cX3_solve 93 = .ok (.getfield 77, 3) := by decide +kernel
theorem dX3_solve_96 : decode cX3_solve 96 = .ok (.lastore, 1) := by decide +kernel
theorem dX3_solve_97 : decode cX3_solve 97 = .ok (.iinc 1 1, 3) := by decide +kernel
theorem dX3_solve_100 : decode cX3_solve 100 = .ok (.goto (-73), 3) := by decide +kernel
theorem dX3_solve_103 : decode cX3_solve 103 = .ok (.aload_n 0, 1) := by decide +kernel
theorem dX3_solve_104 : decode cX3_solve 104 = .ok (.iconst 1, 1) := by decide +kernel
theorem dX3_solve_105 : decode cX3_solve 105 = .ok (.putfield 39, 3) := by decide +kernel
theorem dX3_solve_108 : decode cX3_solve 108 = .ok (.iconst 0, 1) := by decide +kernel
theorem dX3_solve_109 : decode cX3_solve 109 = .ok (.ireturn, 1) := by decide +kernel
set_option maxRecDepth 20000 in
theorem ggX3_above_X3_isTold : GoodIn wsX3_above wsX3_isTold := goodIn_r _ [6, 7, 8, 9, 10, 11, 12, 13, 14, 15] (by decide +kernel) (by decide +kernel)
set_option maxRecDepth 20000 in
theorem gX3_above_X3_isTold : GoodIn wsX3_above (wsV RX3 80 RX3 yX3_isTold wsX3_isTold) := goodIn_app (goodIn_of _ (by decide +kernel)) ggX3_above_X3_isTold
theorem dX3_above_0 : decode cX3_above 0 = .ok (.aload_n 0, 1) := by decide +kernel
theorem dX3_above_1 : decode cX3_above 1 = .ok (.iload_n 1, 1) := by decide +kernel
theorem dX3_above_2 : decode cX3_above 2 = .ok (.invokevirtual 80, 3) := by decide +kernel
theorem dX3_above_5 : decode cX3_above 5 = .ok (.ifCond .eq 12, 3) := by decide +kernel
theorem dX3_above_8 : decode cX3_above 8 = .ok (.aload_n 0, 1) := by decide +kernel
theorem dX3_above_9 : decode cX3_above 9 = .ok (.getfield 14, 3) := by decide +kernel
theorem dX3_above_12 : decode cX3_above 12 = .ok (.iload_n 1, 1) := by decide +kernel
theorem dX3_above_13 : decode cX3_above 13 = .ok (.laload, 1) := by decide +kernel
theorem dX3_above_14 : decode cX3_above 14 = .ok (.goto 4, 3) := by decide +kernel
theorem dX3_above_17 : decode cX3_above 17 = .ok (.lconst 0, 1) := by decide +kernel
theorem dX3_above_18 : decode cX3_above 18 = .ok (.lreturn, 1) := by decide +kernel
set_option maxRecDepth 20000 in
theorem ggX3_under_X3_isTold : GoodIn wsX3_under wsX3_isTold := goodIn_r _ [6, 7, 8, 9, 10, 11, 12, 13, 14, 15] (by decide +kernel) (by decide +kernel)
set_option maxRecDepth 20000 in
theorem gX3_under_X3_isTold : GoodIn wsX3_under (wsV RX3 80 RX3 yX3_isTold wsX3_isTold) := goodIn_app (goodIn_of _ (by decide +kernel)) ggX3_under_X3_isTold
theorem dX3_under_0 : decode cX3_under 0 = .ok (.aload_n 0, 1) := by decide +kernel
theorem dX3_under_1 : decode cX3_under 1 = .ok (.iload_n 1, 1) := by decide +kernel
theorem dX3_under_2 : decode cX3_under 2 = .ok (.invokevirtual 80, 3) := by decide +kernel
theorem dX3_under_5 : decode cX3_under 5 = .ok (.ifCond .eq 12, 3) := by decide +kernel
theorem dX3_under_8 : decode cX3_under 8 = .ok (.aload_n 0, 1) := by decide +kernel
theorem dX3_under_9 : decode cX3_under 9 = .ok (.getfield 18, 3) := by decide +kernel
theorem dX3_under_12 : decode cX3_under 12 = .ok (.iload_n 1, 1) := by decide +kernel
theorem dX3_under_13 : decode cX3_under 13 = .ok (.laload, 1) := by decide +kernel
theorem dX3_under_14 : decode cX3_under 14 = .ok (.goto 4, 3) := by decide +kernel
theorem dX3_under_17 : decode cX3_under 17 = .ok (.lconst 0, 1) := by decide +kernel
theorem dX3_under_18 : decode cX3_under 18 = .ok (.lreturn, 1) := by decide +kernel
theorem dX3_hasNumber_0 : decode cX3_hasNumber 0 = .ok (.iload_n 1, 1) := by decide +kernel
theorem dX3_hasNumber_1 : decode cX3_hasNumber 1 = .ok (.ifCond .lt 27, 3) := by decide +kernel
theorem dX3_hasNumber_4 : decode cX3_hasNumber 4 = .ok (.iload_n 1, 1) := by decide +kernel
theorem dX3_hasNumber_5 : decode cX3_hasNumber 5 = .ok (.aload_n 0, 1) := by decide +kernel
theorem dX3_hasNumber_6 : decode cX3_hasNumber 6 = .ok (.getfield 35, 3) := by decide +kernel
theorem dX3_hasNumber_9 : decode cX3_hasNumber 9 = .ok (.if_icmp .ge 19, 3) := by decide +kernel
theorem dX3_hasNumber_12 : decode cX3_hasNumber 12 = .ok (.iload_n 2, 1) := by decide +kernel
theorem dX3_hasNumber_13 : decode cX3_hasNumber 13 = .ok (.ifCond .lt 15, 3) := by decide +kernel
theorem dX3_hasNumber_16 : decode cX3_hasNumber 16 = .ok (.iload_n 2, 1) := by decide +kernel
theorem dX3_hasNumber_17 : decode cX3_hasNumber 17 = .ok (.aload_n 0, 1) := by decide +kernel
theorem dX3_hasNumber_18 : decode cX3_hasNumber 18 = .ok (.getfield 35, 3) := by decide +kernel
theorem dX3_hasNumber_21 : decode cX3_hasNumber 21 = .ok (.if_icmp .gt 7, 3) := by decide +kernel
theorem dX3_hasNumber_24 : decode cX3_hasNumber 24 = .ok (.iconst 1, 1) := by decide +kernel
theorem dX3_hasNumber_25 : decode cX3_hasNumber 25 = .ok (.goto 4, 3) := by decide +kernel
theorem dX3_hasNumber_28 : decode cX3_hasNumber 28 = .ok (.iconst 0, 1) := by decide +kernel
theorem dX3_hasNumber_29 : decode cX3_hasNumber 29 = .ok (.ireturn, 1) := by decide +kernel
theorem dX3_isTold_0 : decode cX3_isTold 0 = .ok (.aload_n 0, 1) := by decide +kernel
theorem dX3_isTold_1 : decode cX3_isTold 1 = .ok (.getfield 39, 3) := by decide +kernel
theorem dX3_isTold_4 : decode cX3_isTold 4 = .ok (.ifCond .eq 19, 3) := by decide +kernel
theorem dX3_isTold_7 : decode cX3_isTold 7 = .ok (.iload_n 1, 1) := by decide +kernel
theorem dX3_isTold_8 : decode cX3_isTold 8 = .ok (.ifCond .lt 15, 3) := by decide +kernel
theorem dX3_isTold_11 : decode cX3_isTold 11 = .ok (.iload_n 1, 1) := by decide +kernel
theorem dX3_isTold_12 : decode cX3_isTold 12 = .ok (.aload_n 0, 1) := by decide +kernel
theorem dX3_isTold_13 : decode cX3_isTold 13 = .ok (.getfield 35, 3) := by decide +kernel
theorem dX3_isTold_16 : decode cX3_isTold 16 = .ok (.if_icmp .ge 7, 3) := by decide +kernel
theorem dX3_isTold_19 : decode cX3_isTold 19 = .ok (.iconst 1, 1) := by decide +kernel
theorem dX3_isTold_20 : decode cX3_isTold 20 = .ok (.goto 4, 3) := by decide +kernel
theorem dX3_isTold_23 : decode cX3_isTold 23 = .ok (.iconst 0, 1) := by decide +kernel
theorem dX3_isTold_24 : decode cX3_isTold 24 = .ok (.ireturn, 1) := by decide +kernel
