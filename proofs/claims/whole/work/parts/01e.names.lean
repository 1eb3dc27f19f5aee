theorem dX4_init_0 : decode cX4_init 0 = .ok (.aload_n 0, 1) := by decide +kernel
theorem dX4_init_1 : decode cX4_init 1 = .ok (.invokespecial 3, 3) := by decide +kernel
theorem dX4_init_4 : decode cX4_init 4 = .ok (.aload_n 0, 1) := by decide +kernel
theorem dX4_init_5 : decode cX4_init 5 = .ok (.bipush 40, 2) := by decide +kernel
theorem dX4_init_7 : decode cX4_init 7 = .ok (.newarray .int, 2) := by decide +kernel
theorem dX4_init_9 : decode cX4_init 9 = .ok (.putfield 9, 3) := by decide +kernel
theorem dX4_init_12 : decode cX4_init 12 = .ok (.return_, 1) := by decide +kernel
theorem dX4_isZero_0 : decode cX4_isZero 0 = .ok (.aload_n 0, 1) := by decide +kernel
theorem dX4_isZero_1 : decode cX4_isZero 1 = .ok (.getfield 15, 3) := by decide +kernel
theorem dX4_isZero_4 : decode cX4_isZero 4 = .ok (.ifCond .ne 7, 3) := by decide +kernel
theorem dX4_isZero_7 : decode cX4_isZero 7 = .ok (.iconst 1, 1) := by decide +kernel
theorem dX4_isZero_8 : decode cX4_isZero 8 = .ok (.goto 4, 3) := by decide +kernel
theorem dX4_isZero_11 : decode cX4_isZero 11 = .ok (.iconst 0, 1) := by decide +kernel
theorem dX4_isZero_12 : decode cX4_isZero 12 = .ok (.ireturn, 1) := by decide +kernel
theorem dX4_set_0 : decode cX4_set 0 = .ok (.aload_n 0, 1) := by decide +kernel
theorem dX4_set_1 : decode cX4_set 1 = .ok (.lload_n 1, 1) := by decide +kernel
theorem dX4_set_2 : decode cX4_set 2 = .ok (.lconst 0, 1) := by decide +kernel
theorem dX4_set_3 : decode cX4_set 3 = .ok (.lcmp, 1) := by decide +kernel
theorem dX4_set_4 : decode cX4_set 4 = .ok (.ifCond .ge 7, 3) := by decide +kernel
theorem dX4_set_7 : decode cX4_set 7 = .ok (.iconst 1, 1) := by decide +kernel
theorem dX4_set_8 : decode cX4_set 8 = .ok (.goto 4, 3) := by decide +kernel
theorem dX4_set_11 : decode cX4_set 11 = .ok (.iconst 0, 1) := by decide +kernel
theorem dX4_set_12 : decode cX4_set 12 = .ok (.putfield 19, 3) := by decide +kernel
theorem dX4_set_15 : decode cX4_set 15 = .ok (.aload_n 0, 1) := by decide +kernel
theorem dX4_set_16 : decode cX4_set 16 = .ok (.iconst 0, 1) := by decide +kernel
theorem dX4_set_17 : decode cX4_set 17 = .ok (.putfield 15, 3) := by decide +kernel
theorem dX4_set_20 : decode cX4_set 20 = .ok (.lload_n 1, 1) := by decide +kernel
theorem dX4_set_21 : decode cX4_set 21 = .ok (.lstore_n 3, 1) := by decide +kernel
theorem dX4_set_22 : decode cX4_set 22 = .ok (.lload_n 3, 1) := by decide +kernel
theorem dX4_set_23 : decode cX4_set 23 = .ok (.lconst 0, 1) := by decide +kernel
theorem dX4_set_24 : decode cX4_set 24 = .ok (.lcmp, 1) := by decide +kernel
theorem dX4_set_25 : decode cX4_set 25 = .ok (.ifCond .eq 54, 3) := by decide +kernel
theorem dX4_set_28 : decode cX4_set 28 = .ok (.lload_n 3, 1) := by decide +kernel
theorem dX4_set_29 : decode cX4_set 29 = .ok (.ldc2_w 23, 3) := by decide +kernel
theorem dX4_set_32 : decode cX4_set 32 = .ok (.lrem, 1) := by decide +kernel
theorem dX4_set_33 : decode cX4_set 33 = .ok (.lstore 5, 2) := by decide +kernel
theorem dX4_set_35 : decode cX4_set 35 = .ok (.aload_n 0, 1) := by decide +kernel
theorem dX4_set_36 : decode cX4_set 36 = .ok (.getfield 9, 3) := by decide +kernel
theorem dX4_set_39 : decode cX4_set 39 = .ok (.aload_n 0, 1) := by decide +kernel
theorem dX4_set_40 : decode cX4_set 40 = .ok (.getfield 15, 3) := by decide +kernel
theorem dX4_set_43 : decode cX4_set 43 = .ok (.lload 5, 2) := by decide +kernel
theorem dX4_set_45 : decode cX4_set 45 = .ok (.lconst 0, 1) := by decide +kernel
theorem dX4_set_46 : decode cX4_set 46 = .ok (.lcmp, 1) := by decide +kernel
theorem dX4_set_47 : decode cX4_set 47 = .ok (.ifCond .ge 9, 3) := by decide +kernel
theorem dX4_set_50 : decode cX4_set 50 = .ok (.lload 5, 2) := by decide +kernel
theorem dX4_set_52 : decode cX4_set 52 = .ok (.lneg, 1) := by decide +kernel
theorem dX4_set_53 : decode cX4_set 53 = .ok (.goto 5, 3) := by decide +kernel
theorem dX4_set_56 : decode cX4_set 56 = .ok (.lload 5, 2) := by decide +kernel
theorem dX4_set_58 : decode cX4_set 58 = .ok (.l2i, 1) := by decide +kernel
theorem dX4_set_59 : decode cX4_set 59 = .ok (.iastore, 1) := by decide +kernel
theorem dX4_set_60 : decode cX4_set 60 = .ok (.lload_n 3, 1) := by decide +kernel
theorem dX4_set_61 : decode cX4_set 61 = .ok (.ldc2_w 23, 3) := by decide +kernel
theorem dX4_set_64 : decode cX4_set 64 = .ok (.ldiv, 1) := by decide +kernel
theorem dX4_set_65 : decode cX4_set 65 = .ok (.lstore_n 3, 1) := by decide +kernel
theorem dX4_set_66 : decode cX4_set 66 = .ok (.aload_n 0, 1) := by decide +kernel
theorem dX4_set_67 : decode cX4_set 67 = .ok (.dup, 1) := by decide +kernel
theorem dX4_set_68 : decode cX4_set 68 = .ok (.getfield 15, 3) := by decide +kernel
theorem dX4_set_71 : decode cX4_set 71 = .ok (.iconst 1, 1) := by decide +kernel
theorem dX4_set_72 : decode cX4_set 72 = .ok (.iadd, 1) := by decide +kernel
theorem dX4_set_73 : decode cX4_set 73 = .ok (.putfield 15, 3) := by decide +kernel
theorem dX4_set_76 : decode cX4_set 76 = .ok (.goto (-54), 3) := by decide +kernel
theorem dX4_set_79 : decode cX4_set 79 = .ok (.return_, 1) := by decide +kernel
theorem dX4_set__0 : decode cX4_set_ 0 = .ok (.aload_n 0, 1) := by decide +kernel
theorem dX4_set__1 : decode cX4_set_ 1 = .ok (.aload_n 1, 1) := by decide +kernel
theorem dX4_set__2 : decode cX4_set_ 2 = .ok (.getfield 19, 3) := by decide +kernel
theorem dX4_set__5 : decode cX4_set_ 5 = .ok (.putfield 19, 3) := by decide +kernel
theorem dX4_set__8 : decode cX4_set_ 8 = .ok (.aload_n 0, 1) := by decide +kernel
theorem dX4_set__9 : decode cX4_set_ 9 = .ok (.aload_n 1, 1) := by decide +kernel
theorem dX4_set__10 : decode cX4_set_ 10 = .ok (.getfield 15, 3) := by decide +kernel
theorem dX4_set__13 : decode cX4_set_ 13 = .ok (.putfield 15, 3) := by decide +kernel
theorem dX4_set__16 : decode cX4_set_ 16 = .ok (.iconst 0, 1) := by decide +kernel
theorem dX4_set__17 : decode cX4_set_ 17 = .ok (.istore_n 2, 1) := by decide +kernel
theorem dX4_set__18 : decode cX4_set_ 18 = .ok (.iload_n 2, 1) := by decide +kernel
theorem dX4_set__19 : decode cX4_set_ 19 = .ok (.aload_n 0, 1) := by decide +kernel
theorem dX4_set__20 : decode cX4_set_ 20 = .ok (.getfield 15, 3) := by decide +kernel
theorem dX4_set__23 : decode cX4_set_ 23 = .ok (.if_icmp .ge 21, 3) := by decide +kernel
theorem dX4_set__26 : decode cX4_set_ 26 = .ok (.aload_n 0, 1) := by decide +kernel
theorem dX4_set__27 : decode cX4_set_ 27 = .ok (.getfield 9, 3) := by decide +kernel
theorem dX4_set__30 : decode cX4_set_ 30 = .ok (.iload_n 2, 1) := by decide +kernel
theorem dX4_set__31 : decode cX4_set_ 31 = .ok (.aload_n 1, 1) := by decide +kernel
theorem dX4_set__32 : decode cX4_set_ 32 = .ok (.getfield 9, 3) := by decide +kernel
theorem dX4_set__35 : decode cX4_set_ 35 = .ok (.iload_n 2, 1) := by decide +kernel
theorem dX4_set__36 : decode cX4_set_ 36 = .ok (.iaload, 1) := by decide +kernel
theorem dX4_set__37 : decode cX4_set_ 37 = .ok (.iastore, 1) := by decide +kernel
theorem dX4_set__38 : decode cX4_set_ 38 = .ok (.iinc 2 1, 3) := by decide +kernel
theorem dX4_set__41 : decode cX4_set_ 41 = .ok (.goto (-23), 3) := by decide +kernel
theorem dX4_set__44 : decode cX4_set_ 44 = .ok (.return_, 1) := by decide +kernel
theorem dX4_trim_0 : decode cX4_trim 0 = .ok (.aload_n 0, 1) := by decide +kernel
theorem dX4_trim_1 : decode cX4_trim 1 = .ok (.iload_n 1, 1) := by decide +kernel
theorem dX4_trim_2 : decode cX4_trim 2 = .ok (.putfield 15, 3) := by decide +kernel
theorem dX4_trim_5 : decode cX4_trim 5 = .ok (.aload_n 0, 1) := by decide +kernel
theorem dX4_trim_6 : decode cX4_trim 6 = .ok (.getfield 15, 3) := by decide +kernel
theorem dX4_trim_9 : decode cX4_trim 9 = .ok (.ifCond .le 30, 3) := by decide +kernel
theorem dX4_trim_12 : decode cX4_trim 12 = .ok (.aload_n 0, 1) := by decide +kernel
theorem dX4_trim_13 : decode cX4_trim 13 = .ok (.getfield 9, 3) := by decide +kernel
theorem dX4_trim_16 : decode cX4_trim 16 = .ok (.aload_n 0, 1) := by decide +kernel
theorem dX4_trim_17 : decode cX4_trim 17 = .ok (.getfield 15, 3) := by decide +kernel
theorem dX4_trim_20 : decode cX4_trim 20 = .ok (.iconst 1, 1) := by decide +kernel
theorem dX4_trim_21 : decode cX4_trim 21 = .ok (.isub, 1) := by decide +kernel
theorem dX4_trim_22 : decode cX4_trim 22 = .ok (.iaload, 1) := by decide +kernel
theorem dX4_trim_23 : decode cX4_trim 23 = .ok (.ifCond .ne 16, 3) := by decide +kernel
theorem dX4_trim_26 : decode cX4_trim 26 = .ok (.aload_n 0, 1) := by decide +kernel
theorem dX4_trim_27 : decode cX4_trim 27 = .ok (.dup, 1) := by decide +kernel
theorem dX4_trim_28 : decode cX4_trim 28 = .ok (.getfield 15, 3) := by decide +kernel
theorem dX4_trim_31 : decode cX4_trim 31 = .ok (.iconst 1, 1) := by decide +kernel
theorem dX4_trim_32 : decode cX4_trim 32 = .ok (.isub, 1) := by decide +kernel
theorem dX4_trim_33 : decode cX4_trim 33 = .ok (.putfield 15, 3) := by decide +kernel
theorem dX4_trim_36 : decode cX4_trim 36 = .ok (.goto (-31), 3) := by decide +kernel
theorem dX4_trim_39 : decode cX4_trim 39 = .ok (.aload_n 0, 1) := by decide +kernel
theorem dX4_trim_40 : decode cX4_trim 40 = .ok (.getfield 15, 3) := by decide +kernel
theorem dX4_trim_43 : decode cX4_trim 43 = .ok (.ifCond .ne 8, 3) := by decide +kernel
theorem dX4_trim_46 : decode cX4_trim 46 = .ok (.aload_n 0, 1) := by decide +kernel
theorem dX4_trim_47 : decode cX4_trim 47 = .ok (.iconst 0, 1) := by decide +kernel
theorem dX4_trim_48 : decode cX4_trim 48 = .ok (.putfield 19, 3) := by decide +kernel
theorem dX4_trim_51 : decode cX4_trim 51 = .ok (.return_, 1) := by decide +kernel
theorem dX4_compare_0 : decode cX4_compare 0 = .ok (.aload_n 0, 1) := by decide +kernel
theorem dX4_compare_1 : decode cX4_compare 1 = .ok (.getfield 15, 3) := by decide +kernel
theorem dX4_compare_4 : decode cX4_compare 4 = .ok (.aload_n 1, 1) := by decide +kernel
theorem dX4_compare_5 : decode cX4_compare 5 = .ok (.getfield 15, 3) := by decide +kernel
theorem dX4_compare_8 : decode cX4_compare 8 = .ok (.if_icmp .eq 20, 3) := by decide +kernel
theorem dX4_compare_11 : decode cX4_compare 11 = .ok (.aload_n 0, 1) := by decide +kernel
theorem dX4_compare_12 : decode cX4_compare 12 = .ok (.getfield 15, 3) := by decide +kernel
theorem dX4_compare_15 : decode cX4_compare 15 = .ok (.aload_n 1, 1) := by decide +kernel
theorem dX4_compare_16 : decode cX4_compare 16 = .ok (.getfield 15, 3) := by decide +kernel
theorem dX4_compare_19 : decode cX4_compare 19 = .ok (.if_icmp .ge 7, 3) := by decide +kernel
theorem dX4_compare_22 : decode cX4_compare 22 = .ok (.iconst (-1), 1) := by decide +kernel
theorem dX4_compare_23 : decode cX4_compare 23 = .ok (.goto 4, 3) := by decide +kernel
theorem dX4_compare_26 : decode cX4_compare 26 = .ok (.iconst 1, 1) := by decide +kernel
theorem dX4_compare_27 : decode cX4_compare 27 = .ok (.ireturn, 1) := by decide +kernel
theorem dX4_compare_28 : decode cX4_compare 28 = .ok (.aload_n 0, 1) := by decide +kernel
theorem dX4_compare_29 : decode cX4_compare 29 = .ok (.getfield 15, 3) := by decide +kernel
theorem dX4_compare_32 : decode cX4_compare 32 = .ok (.iconst 1, 1) := by decide +kernel
theorem dX4_compare_33 : decode cX4_compare 33 = .ok (.isub, 1) := by decide +kernel
theorem dX4_compare_34 : decode cX4_compare 34 = .ok (.istore_n 2, 1) := by decide +kernel
theorem dX4_compare_35 : decode cX4_compare 35 = .ok (.iload_n 2, 1) := by decide +kernel
theorem dX4_compare_36 : decode cX4_compare 36 = .ok (.ifCond .lt 45, 3) := by decide +kernel
theorem dX4_compare_39 : decode cX4_compare 39 = .ok (.aload_n 0, 1) := by decide +kernel
theorem dX4_compare_40 : decode cX4_compare 40 = .ok (.getfield 9, 3) := by decide +kernel
theorem dX4_compare_43 : decode cX4_compare 43 = .ok (.iload_n 2, 1) := by decide +kernel
theorem dX4_compare_44 : decode cX4_compare 44 = .ok (.iaload, 1) := by decide +kernel
theorem dX4_compare_45 : decode cX4_compare 45 = .ok (.aload_n 1, 1) := by decide +kernel
theorem dX4_compare_46 : decode cX4_compare 46 = .ok (.getfield 9, 3) := by decide +kernel
theorem dX4_compare_49 : decode cX4_compare 49 = .ok (.iload_n 2, 1) := by decide +kernel
theorem dX4_compare_50 : decode cX4_compare 50 = .ok (.iaload, 1) := by decide +kernel
theorem dX4_compare_51 : decode cX4_compare 51 = .ok (.if_icmp .eq 24, 3) := by decide +kernel
theorem dX4_compare_54 : decode cX4_compare 54 = .ok (.aload_n 0, 1) := by decide +kernel
theorem dX4_compare_55 : decode cX4_compare 55 = .ok (.getfield 9, 3) := by decide +kernel
theorem dX4_compare_58 : decode cX4_compare 58 = .ok (.iload_n 2, 1) := by decide +kernel
theorem dX4_compare_59 : decode cX4_compare 59 = .ok (.iaload, 1) := by decide +kernel
theorem dX4_compare_60 : decode cX4_compare 60 = .ok (.aload_n 1, 1) := by decide +kernel
theorem dX4_compare_61 : decode cX4_compare 61 = .ok (.getfield 9, 3) := by decide +kernel
theorem dX4_compare_64 : decode cX4_compare 64 = .ok (.iload_n 2, 1) := by decide +kernel
theorem dX4_compare_65 : decode cX4_compare 65 = .ok (.iaload, 1) := by decide +kernel
theorem dX4_compare_66 : decode cX4_compare 66 = .ok (.if_icmp .ge 7, 3) := by decide +kernel
theorem dX4_compare_69 : decode cX4_compare 69 = .ok (.iconst (-1), 1) := by decide +kernel
theorem dX4_compare_70 : decode cX4_compare 70 = .ok (.goto 4, 3) := by decide +kernel
theorem dX4_compare_73 : decode cX4_compare 73 = .ok (.iconst 1, 1) := by decide +kernel
theorem dX4_compare_74 : decode cX4_compare 74 = .ok (.ireturn, 1) := by decide +kernel
theorem dX4_compare_75 : decode cX4_compare 75 = .ok (.iinc 2 (-1), 3) := by decide +kernel
theorem dX4_compare_78 : decode cX4_compare 78 = .ok (.goto (-43), 3) := by decide +kernel
theorem dX4_compare_81 : decode cX4_compare 81 = .ok (.iconst 0, 1) := by decide +kernel
theorem dX4_compare_82 : decode cX4_compare 82 = .ok (.ireturn, 1) := by decide +kernel
set_option maxRecDepth 20000 in
theorem ggX4_product_X4_trim : GoodIn wsX4_product wsX4_trim := goodIn_r _ [13, 2, 1, 4, 14, 15, 16, 17] (by decide +kernel) (by decide +kernel)
set_option maxRecDepth 20000 in
theorem gX4_product_X4_trim : GoodIn wsX4_product (wsV RX4 33 RX4 yX4_trim wsX4_trim) := goodIn_app (goodIn_of _ (by decide +kernel)) ggX4_product_X4_trim
theorem dX4_product_0 : decode cX4_product 0 = .ok (.iconst 0, 1) := by decide +kernel
theorem dX4_product_1 : decode cX4_product 1 = .ok (.istore_n 3, 1) := by decide +kernel
theorem dX4_product_2 : decode cX4_product 2 = .ok (.iload_n 3, 1) := by decide +kernel
theorem dX4_product_3 : decode cX4_product 3 = .ok (.bipush 40, 2) := by decide +kernel
theorem dX4_product_5 : decode cX4_product 5 = .ok (.if_icmp .ge 16, 3) := by decide +kernel
theorem dX4_product_8 : decode cX4_product 8 = .ok (.aload_n 0, 1) := by decide +kernel
theorem dX4_product_9 : decode cX4_product 9 = .ok (.getfield 9, 3) := by decide +kernel
theorem dX4_product_12 : decode cX4_product 12 = .ok (.iload_n 3, 1) := by decide +kernel
theorem dX4_product_13 : decode cX4_product 13 = .ok (.iconst 0, 1) := by decide +kernel
theorem dX4_product_14 : decode cX4_product 14 = .ok (.iastore, 1) := by decide +kernel
theorem dX4_product_15 : decode cX4_product 15 = .ok (.iinc 3 1, 3) := by decide +kernel
theorem dX4_product_18 : decode cX4_product 18 = .ok (.goto (-16), 3) := by decide +kernel
theorem dX4_product_21 : decode cX4_product 21 = .ok (.iconst 0, 1) := by decide +kernel
theorem dX4_product_22 : decode cX4_product 22 = .ok (.istore_n 3, 1) := by decide +kernel
theorem dX4_product_23 : decode cX4_product 23 = .ok (.iload_n 3, 1) := by decide +kernel
theorem dX4_product_24 : decode cX4_product 24 = .ok (.aload_n 1, 1) := by decide +kernel
theorem dX4_product_25 : decode cX4_product 25 = .ok (.getfield 15, 3) := by decide +kernel
theorem dX4_product_28 : decode cX4_product 28 = .ok (.if_icmp .ge 105, 3) := by decide +kernel
theorem dX4_product_31 : decode cX4_product 31 = .ok (.lconst 0, 1) := by decide +kernel
theorem dX4_product_32 : decode cX4_product 32 = .ok (.lstore 4, 2) := by decide +kernel
theorem dX4_product_34 : decode cX4_product 34 = .ok (.iconst 0, 1) := by decide +kernel
theorem dX4_product_35 : decode cX4_product 35 = .ok (.istore 6, 2) := by decide +kernel
theorem dX4_product_37 : decode cX4_product 37 = .ok (.iload 6, 2) := by decide +kernel
theorem dX4_product_39 : decode cX4_product 39 = .ok (.aload_n 2, 1) := by decide +kernel
theorem dX4_product_40 : decode cX4_product 40 = .ok (.getfield 15, 3) := by decide +kernel
theorem dX4_product_43 : decode cX4_product 43 = .ok (.if_icmp .lt 10, 3) := by decide +kernel
theorem dX4_product_46 : decode cX4_product 46 = .ok (.lload 4, 2) := by decide +kernel
theorem dX4_product_48 : decode cX4_product 48 = .ok (.lconst 0, 1) := by decide +kernel
theorem dX4_product_49 : decode cX4_product 49 = .ok (.lcmp, 1) := by decide +kernel
theorem dX4_product_50 : decode cX4_product 50 = .ok (.ifCond .le 77, 3) := by decide +kernel
theorem dX4_product_53 : decode cX4_product 53 = .ok (.aload_n 0, 1) := by decide +kernel
theorem dX4_product_54 : decode cX4_product 54 = .ok (.getfield 9, 3) := by decide +kernel
theorem dX4_product_57 : decode cX4_product 57 = .ok (.iload_n 3, 1) := by decide +kernel
theorem dX4_product_58 : decode cX4_product 58 = .ok (.iload 6, 2) := by decide +kernel
theorem dX4_product_60 : decode cX4_product 60 = .ok (.iadd, 1) := by decide +kernel
theorem dX4_product_61 : decode cX4_product 61 = .ok (.iaload, 1) := by decide +kernel
theorem dX4_product_62 : decode cX4_product 62 = .ok (.i2l, 1) := by decide +kernel
theorem dX4_product_63 : decode cX4_product 63 = .ok (.lload 4, 2) := by decide +kernel
theorem dX4_product_65 : decode cX4_product 65 = .ok (.ladd, 1) := by decide +kernel
theorem dX4_product_66 : decode cX4_product 66 = .ok (.iload 6, 2) := by decide +kernel
theorem dX4_product_68 : decode cX4_product 68 = .ok (.aload_n 2, 1) := by decide +kernel
theorem dX4_product_69 : decode cX4_product 69 = .ok (.getfield 15, 3) := by decide +kernel
theorem dX4_product_72 : decode cX4_product 72 = .ok (.if_icmp .ge 22, 3) := by decide +kernel
theorem dX4_product_75 : decode cX4_product 75 = .ok (.aload_n 1, 1) := by decide +kernel
theorem dX4_product_76 : decode cX4_product 76 = .ok (.getfield 9, 3) := by decide +kernel
theorem dX4_product_79 : decode cX4_product 79 = .ok (.iload_n 3, 1) := by decide +kernel
theorem dX4_product_80 : decode cX4_product 80 = .ok (.iaload, 1) := by decide +kernel
theorem dX4_product_81 : decode cX4_product 81 = .ok (.i2l, 1) := by decide +kernel
theorem dX4_product_82 : decode cX4_product 82 = .ok (.aload_n 2, 1) := by decide +kernel
theorem dX4_product_83 : decode cX4_product 83 = .ok (.getfield 9, 3) := by decide +kernel
theorem dX4_product_86 : decode cX4_product 86 = .ok (.iload 6, 2) := by decide +kernel
theorem dX4_product_88 : decode cX4_product 88 = .ok (.iaload, 1) := by decide +kernel
theorem dX4_product_89 : decode cX4_product 89 = .ok (.i2l, 1) := by decide +kernel
theorem dX4_product_90 : decode cX4_product 90 = .ok (.lmul, 1) := by decide +kernel
theorem dX4_product_91 : decode cX4_product 91 = .ok (.goto 4, 3) := by decide +kernel
theorem dX4_product_94 : decode cX4_product 94 = .ok (.lconst 0, 1) := by decide +kernel
theorem dX4_product_95 : decode cX4_product 95 = .ok (.ladd, 1) := by decide +kernel
theorem dX4_product_96 : decode cX4_product 96 = .ok (.lstore 7, 2) := by decide +kernel
theorem dX4_product_98 : decode cX4_product 98 = .ok (.aload_n 0, 1) := by decide +kernel
theorem dX4_product_99 : decode cX4_product 99 = .ok (.getfield 9, 3) := by decide +kernel
theorem dX4_product_102 : decode cX4_product 102 = .ok (.iload_n 3, 1) := by decide +kernel
theorem dX4_product_103 : decode cX4_product 103 = .ok (.iload 6, 2) := by decide +kernel
theorem dX4_product_105 : decode cX4_product 105 = .ok (.iadd, 1) := by decide +kernel
theorem dX4_product_106 : decode cX4_product 106 = .ok (.lload 7, 2) := by decide +kernel
theorem dX4_product_108 : decode cX4_product 108 = .ok (.ldc2_w 25, 3) := by decide +kernel
theorem dX4_product_111 : decode cX4_product 111 = .ok (.land, 1) := by decide +kernel
theorem dX4_product_112 : decode cX4_product 112 = .ok (.l2i, 1) := by decide +kernel
theorem dX4_product_113 : decode cX4_product 113 = .ok (.iastore, 1) := by decide +kernel
theorem dX4_product_114 : decode cX4_product 114 = .ok (.lload 7, 2) := by decide +kernel
theorem dX4_product_116 : decode cX4_product 116 = .ok (.bipush 28, 2) := by decide +kernel
theorem dX4_product_118 : decode cX4_product 118 = .ok (.lshr, 1) := by decide +kernel
theorem dX4_product_119 : decode cX4_product 119 = .ok (.lstore 4, 2) := by decide +kernel
theorem dX4_product_121 : decode cX4_product 121 = .ok (.iinc 6 1, 3) := by decide +kernel
theorem dX4_product_124 : decode cX4_product 124 = .ok (.goto (-87), 3) := by decide +kernel
theorem dX4_product_127 : decode cX4_product 127 = .ok (.iinc 3 1, 3) := by decide +kernel
theorem dX4_product_130 : decode cX4_product 130 = .ok (.goto (-107), 3) := by decide +kernel
theorem dX4_product_133 : decode cX4_product 133 = .ok (.aload_n 0, 1) := by decide +kernel
theorem dX4_product_134 : decode cX4_product 134 = .ok (.aload_n 1, 1) := by decide +kernel
theorem dX4_product_135 : decode cX4_product 135 = .ok (.getfield 19, 3) := by decide +kernel
theorem dX4_product_138 : decode cX4_product 138 = .ok (.aload_n 2, 1) := by decide +kernel
theorem dX4_product_139 : decode cX4_product 139 = .ok (.getfield 19, 3) := by decide +kernel
theorem dX4_product_142 : decode cX4_product 142 = .ok (.if_icmp .eq 7, 3) := by decide +kernel
theorem dX4_product_145 : decode cX4_product 145 = .ok (.iconst 1, 1) := by decide +kernel
theorem dX4_product_146 : decode cX4_product 146 = .ok (.goto 4, 3) := by decide +kernel
theorem dX4_product_149 : decode cX4_product 149 = .ok (.iconst 0, 1) := by decide +kernel
theorem dX4_product_150 : decode cX4_product 150 = .ok (.putfield 19, 3) := by decide +kernel
theorem dX4_product_153 : decode cX4_product 153 = .ok (.aload_n 0, 1) := by decide +kernel
theorem dX4_product_154 : decode cX4_product 154 = .ok (.bipush 40, 2) := by decide +kernel
theorem dX4_product_156 : decode cX4_product 156 = .ok (.aload_n 1, 1) := by decide +kernel
theorem dX4_product_157 : decode cX4_product 157 = .ok (.getfield 15, 3) := by decide +kernel
theorem dX4_product_160 : decode cX4_product 160 = .ok (.aload_n 2, 1) := by decide +kernel
theorem dX4_product_161 : decode cX4_product 161 = .ok (.getfield 15, 3) := by decide +kernel
theorem dX4_product_164 : decode cX4_product 164 = .ok (.iadd, 1) := by decide +kernel
theorem dX4_product_165 : decode cX4_product 165 = .ok (.iconst 1, 1) := by decide +kernel
theorem dX4_product_166 : decode cX4_product 166 = .ok (.iadd, 1) := by decide +kernel
theorem dX4_product_167 : decode cX4_product 167 = .ok (.invokestatic 27, 3) := by decide +kernel
theorem dX4_product_170 : decode cX4_product 170 = .ok (.invokevirtual 33, 3) := by decide +kernel
theorem dX4_product_173 : decode cX4_product 173 = .ok (.return_, 1) := by decide +kernel
set_option maxRecDepth 20000 in
theorem ggX4_take_X4_addAmount : GoodIn wsX4_take wsX4_addAmount := goodIn_r _ [7, 2, 1, 8, 9, 10, 11, 12, 13, 14, 15, 16, 6, 17, 26, 27, 28, 29] (by decide +kernel) (by decide +kernel)
set_option maxRecDepth 20000 in
theorem gX4_take_X4_addAmount : GoodIn wsX4_take (wsV RX4 37 RX4 yX4_addAmount wsX4_addAmount) := goodIn_app (goodIn_of _ (by decide +kernel)) ggX4_take_X4_addAmount
set_option maxRecDepth 20000 in
theorem ggX4_take_X4_compare : GoodIn wsX4_take wsX4_compare := goodIn_r _ [21, 2, 12, 26, 27, 28, 29] (by decide +kernel) (by decide +kernel)
set_option maxRecDepth 20000 in
theorem gX4_take_X4_compare : GoodIn wsX4_take (wsV RX4 41 RX4 yX4_compare wsX4_compare) := goodIn_app (goodIn_of _ (by decide +kernel)) ggX4_take_X4_compare
set_option maxRecDepth 20000 in
theorem ggX4_take_X4_takeAmount : GoodIn wsX4_take wsX4_takeAmount := goodIn_r _ [25, 2, 12, 13, 14, 15, 16, 6, 17, 1, 26, 27, 28, 29] (by decide +kernel) (by decide +kernel)
set_option maxRecDepth 20000 in
theorem gX4_take_X4_takeAmount : GoodIn wsX4_take (wsV RX4 45 RX4 yX4_takeAmount wsX4_takeAmount) := goodIn_app (goodIn_of _ (by decide +kernel)) ggX4_take_X4_takeAmount
theorem dX4_take_0 : decode cX4_take 0 = .ok (.aload_n 0, 1) := by decide +kernel
theorem dX4_take_1 : decode cX4_take 1 = .ok (.getfield 19, 3) := by decide +kernel
theorem dX4_take_4 : decode cX4_take 4 = .ok (.aload_n 1, 1) := by decide +kernel
theorem dX4_take_5 : decode cX4_take 5 = .ok (.getfield 19, 3) := by decide +kernel
theorem dX4_take_8 : decode cX4_take 8 = .ok (.if_icmp .eq 9, 3) := by decide +kernel
theorem dX4_take_11 : decode cX4_take 11 = .ok (.aload_n 0, 1) := by decide +kernel
theorem dX4_take_12 : decode cX4_take 12 = .ok (.aload_n 1, 1) := by decide +kernel
theorem dX4_take_13 : decode cX4_take 13 = .ok (.invokevirtual 37, 3) := by decide +kernel
theorem dX4_take_16 : decode cX4_take 16 = .ok (.return_, 1) := by decide +kernel
theorem dX4_take_17 : decode cX4_take 17 = .ok (.aload_n 0, 1) := by decide +kernel
theorem dX4_take_18 : decode cX4_take 18 = .ok (.aload_n 1, 1) := by decide +kernel
theorem dX4_take_19 : decode cX4_take 19 = .ok (.invokevirtual 41, 3) := by decide +kernel
theorem dX4_take_22 : decode cX4_take 22 = .ok (.ifCond .lt 10, 3) := by decide +kernel
theorem dX4_take_25 : decode cX4_take 25 = .ok (.aload_n 0, 1) := by decide +kernel
theorem dX4_take_26 : decode cX4_take 26 = .ok (.aload_n 0, 1) := by decide +kernel
theorem dX4_take_27 : decode cX4_take 27 = .ok (.aload_n 1, 1) := by decide +kernel
theorem dX4_take_28 : decode cX4_take 28 = .ok (.invokevirtual 45, 3) := by decide +kernel
theorem dX4_take_31 : decode cX4_take 31 = .ok (.return_, 1) := by decide +kernel
theorem dX4_take_32 : decode cX4_take 32 = .ok (.aload_n 0, 1) := by decide +kernel
theorem dX4_take_33 : decode cX4_take 33 = .ok (.aload_n 1, 1) := by decide +kernel
theorem dX4_take_34 : decode cX4_take 34 = .ok (.aload_n 0, 1) := by decide +kernel
theorem dX4_take_35 : decode cX4_take 35 = .ok (.invokevirtual 45, 3) := by decide +kernel
theorem dX4_take_38 : decode cX4_take 38 = .ok (.aload_n 0, 1) := by decide +kernel
theorem dX4_take_39 : decode cX4_take 39 = .ok (.aload_n 0, 1) := by decide +kernel
theorem dX4_take_40 : decode cX4_take 40 = .ok (.getfield 19, 3) := by decide +kernel
theorem dX4_take_43 : decode cX4_take 43 = .ok (.ifCond .ne 7, 3) := by decide +kernel
theorem dX4_take_46 : decode cX4_take 46 = .ok (.iconst 1, 1) := by decide +kernel
theorem dX4_take_47 : decode cX4_take 47 = .ok (.goto 4, 3) := by decide +kernel
theorem dX4_take_50 : decode cX4_take 50 = .ok (.iconst 0, 1) := by decide +kernel
theorem dX4_take_51 : decode cX4_take 51 = .ok (.putfield 19, 3) := by decide +kernel
theorem dX4_take_54 : decode cX4_take 54 = .ok (.aload_n 0, 1) := by decide +kernel
theorem dX4_take_55 : decode cX4_take 55 = .ok (.getfield 15, 3) := by decide +kernel
theorem dX4_take_58 : decode cX4_take 58 = .ok (.ifCond .ne 8, 3) := by decide +kernel
theorem dX4_take_61 : decode cX4_take 61 = .ok (.aload_n 0, 1) := by decide +kernel
theorem dX4_take_62 : decode cX4_take 62 = .ok (.iconst 0, 1) := by decide +kernel
theorem dX4_take_63 : decode cX4_take 63 = .ok (.putfield 19, 3) := by decide +kernel
theorem dX4_take_66 : decode cX4_take 66 = .ok (.return_, 1) := by decide +kernel
set_option maxRecDepth 20000 in
theorem ggX4_addAmount_X4_trim : GoodIn wsX4_addAmount wsX4_trim := goodIn_r _ [13, 1, 7, 2, 14, 15, 16, 17] (by decide +kernel) (by decide +kernel)
set_option maxRecDepth 20000 in
theorem gX4_addAmount_X4_trim : GoodIn wsX4_addAmount (wsV RX4 33 RX4 yX4_trim wsX4_trim) := goodIn_app (goodIn_of _ (by decide +kernel)) ggX4_addAmount_X4_trim
theorem dX4_addAmount_0 : decode cX4_addAmount 0 = .ok (.aload_n 0, 1) := by decide +kernel
theorem dX4_addAmount_1 : decode cX4_addAmount 1 = .ok (.getfield 15, 3) := by decide +kernel
theorem dX4_addAmount_4 : decode cX4_addAmount 4 = .ok (.ifCond .ne 19, 3) := by decide +kernel
theorem dX4_addAmount_7 : decode cX4_addAmount 7 = .ok (.aload_n 0, 1) := by decide +kernel
theorem dX4_addAmount_8 : decode cX4_addAmount 8 = .ok (.aload_n 1, 1) := by decide +kernel
theorem dX4_addAmount_9 : decode cX4_addAmount 9 = .ok (.getfield 19, 3) := by decide +kernel
theorem dX4_addAmount_12 : decode cX4_addAmount 12 = .ok (.ifCond .ne 7, 3) := by decide +kernel
theorem dX4_addAmount_15 : decode cX4_addAmount 15 = .ok (.iconst 1, 1) := by decide +kernel
theorem dX4_addAmount_16 : decode cX4_addAmount 16 = .ok (.goto 4, 3) := by decide +kernel
theorem dX4_addAmount_19 : decode cX4_addAmount 19 = .ok (.iconst 0, 1) := by decide +kernel
theorem dX4_addAmount_20 : decode cX4_addAmount 20 = .ok (.putfield 19, 3) := by decide +kernel
theorem dX4_addAmount_23 : decode cX4_addAmount 23 = .ok (.aload_n 0, 1) := by decide +kernel
theorem dX4_addAmount_24 : decode cX4_addAmount 24 = .ok (.getfield 15, 3) := by decide +kernel
theorem dX4_addAmount_27 : decode cX4_addAmount 27 = .ok (.aload_n 1, 1) := by decide +kernel
theorem dX4_addAmount_28 : decode cX4_addAmount 28 = .ok (.getfield 15, 3) := by decide +kernel
theorem dX4_addAmount_31 : decode cX4_addAmount 31 = .ok (.invokestatic 49, 3) := by decide +kernel
theorem dX4_addAmount_34 : decode cX4_addAmount 34 = .ok (.istore_n 2, 1) := by decide +kernel
theorem dX4_addAmount_35 : decode cX4_addAmount 35 = .ok (.iconst 0, 1) := by decide +kernel
theorem dX4_addAmount_36 : decode cX4_addAmount 36 = .ok (.istore_n 3, 1) := by decide +kernel
theorem dX4_addAmount_37 : decode cX4_addAmount 37 = .ok (.iconst 0, 1) := by decide +kernel
theorem dX4_addAmount_38 : decode cX4_addAmount 38 = .ok (.istore 4, 2) := by decide +kernel
theorem dX4_addAmount_40 : decode cX4_addAmount 40 = .ok (.iload 4, 2) := by decide +kernel
theorem dX4_addAmount_42 : decode cX4_addAmount 42 = .ok (.iload_n 2, 1) := by decide +kernel
theorem dX4_addAmount_43 : decode cX4_addAmount 43 = .ok (.if_icmp .gt 72, 3) := by decide +kernel
theorem dX4_addAmount_46 : decode cX4_addAmount 46 = .ok (.iload 4, 2) := by decide +kernel
theorem dX4_addAmount_48 : decode cX4_addAmount 48 = .ok (.aload_n 0, 1) := by decide +kernel
theorem dX4_addAmount_49 : decode cX4_addAmount 49 = .ok (.getfield 15, 3) := by decide +kernel
theorem dX4_addAmount_52 : decode cX4_addAmount 52 = .ok (.if_icmp .ge 13, 3) := by decide +kernel
theorem dX4_addAmount_55 : decode cX4_addAmount 55 = .ok (.aload_n 0, 1) := by decide +kernel
theorem dX4_addAmount_56 : decode cX4_addAmount 56 = .ok (.getfield 9, 3) := by decide +kernel
theorem dX4_addAmount_59 : decode cX4_addAmount 59 = .ok (.iload 4, 2) := by decide +kernel
theorem dX4_addAmount_61 : decode cX4_addAmount 61 = .ok (.iaload, 1) := by decide +kernel
theorem dX4_addAmount_62 : decode cX4_addAmount 62 = .ok (.goto 4, 3) := by decide +kernel
theorem dX4_addAmount_65 : decode cX4_addAmount 65 = .ok (.iconst 0, 1) := by decide +kernel
theorem dX4_addAmount_66 : decode cX4_addAmount 66 = .ok (.iload 4, 2) := by decide +kernel
theorem dX4_addAmount_68 : decode cX4_addAmount 68 = .ok (.aload_n 1, 1) := by decide +kernel
theorem dX4_addAmount_69 : decode cX4_addAmount 69 = .ok (.getfield 15, 3) := by decide +kernel
theorem dX4_addAmount_72 : decode cX4_addAmount 72 = .ok (.if_icmp .ge 13, 3) := by decide +kernel
theorem dX4_addAmount_75 : decode cX4_addAmount 75 = .ok (.aload_n 1, 1) := by decide +kernel
theorem dX4_addAmount_76 : decode cX4_addAmount 76 = .ok (.getfield 9, 3) := by decide +kernel
theorem dX4_addAmount_79 : decode cX4_addAmount 79 = .ok (.iload 4, 2) := by decide +kernel
theorem dX4_addAmount_81 : decode cX4_addAmount 81 = .ok (.iaload, 1) := by decide +kernel
theorem dX4_addAmount_82 : decode cX4_addAmount 82 = .ok (.goto 4, 3) := by decide +kernel
theorem dX4_addAmount_85 : decode cX4_addAmount 85 = .ok (.iconst 0, 1) := by decide +kernel
theorem dX4_addAmount_86 : decode cX4_addAmount 86 = .ok (.iadd, 1) := by decide +kernel
theorem dX4_addAmount_87 : decode cX4_addAmount 87 = .ok (.iload_n 3, 1) := by decide +kernel
theorem dX4_addAmount_88 : decode cX4_addAmount 88 = .ok (.iadd, 1) := by decide +kernel
theorem dX4_addAmount_89 : decode cX4_addAmount 89 = .ok (.istore 5, 2) := by decide +kernel
theorem dX4_addAmount_91 : decode cX4_addAmount 91 = .ok (.aload_n 0, 1) := by decide +kernel
theorem dX4_addAmount_92 : decode cX4_addAmount 92 = .ok (.getfield 9, 3) := by decide +kernel
theorem dX4_addAmount_95 : decode cX4_addAmount 95 = .ok (.iload 4, 2) := by decide +kernel
theorem dX4_addAmount_97 : decode cX4_addAmount 97 = .ok (.iload 5, 2) := by decide +kernel
theorem dX4_addAmount_99 : decode cX4_addAmount 99 = .ok (.ldc 52, 2) := by decide +kernel
theorem dX4_addAmount_101 : decode cX4_addAmount 101 = .ok (.iand, 1) := by decide +kernel
theorem dX4_addAmount_102 : decode cX4_addAmount 102 = .ok (.iastore, 1) := by decide +kernel
theorem dX4_addAmount_103 : decode cX4_addAmount 103 = .ok (.iload 5, 2) := by decide +kernel
theorem dX4_addAmount_105 : decode cX4_addAmount 105 = .ok (.bipush 28, 2) := by decide +kernel
theorem dX4_addAmount_107 : decode cX4_addAmount 107 = .ok (.ishr, 1) := by decide +kernel
theorem dX4_addAmount_108 : decode cX4_addAmount 108 = .ok (.istore_n 3, 1) := by decide +kernel
theorem dX4_addAmount_109 : decode cX4_addAmount 109 = .ok (.iinc 4 1, 3) := by decide +kernel
theorem dX4_addAmount_112 : decode cX4_addAmount 112 = .ok (.goto (-72), 3) := by decide +kernel
theorem dX4_addAmount_115 : decode cX4_addAmount 115 = .ok (.aload_n 0, 1) := by decide +kernel
theorem dX4_addAmount_116 : decode cX4_addAmount 116 = .ok (.iload_n 2, 1) := by decide +kernel
theorem dX4_addAmount_117 : decode cX4_addAmount 117 = .ok (.iconst 1, 1) := by decide +kernel
theorem dX4_addAmount_118 : decode cX4_addAmount 118 = .ok (.iadd, 1) := by decide +kernel
theorem dX4_addAmount_119 : decode cX4_addAmount 119 = .ok (.invokevirtual 33, 3) := by decide +kernel
theorem dX4_addAmount_122 : decode cX4_addAmount 122 = .ok (.return_, 1) := by decide +kernel
set_option maxRecDepth 20000 in
theorem ggX4_takeAmount_X4_trim : GoodIn wsX4_takeAmount wsX4_trim := goodIn_r _ [8, 1, 2, 9, 10, 11, 12, 13] (by decide +kernel) (by decide +kernel)
set_option maxRecDepth 20000 in
theorem gX4_takeAmount_X4_trim : GoodIn wsX4_takeAmount (wsV RX4 33 RX4 yX4_trim wsX4_trim) := goodIn_app (goodIn_of _ (by decide +kernel)) ggX4_takeAmount_X4_trim
theorem dX4_takeAmount_0 : decode cX4_takeAmount 0 = .ok (.aload_n 1, 1) := by decide +kernel
theorem dX4_takeAmount_1 : decode cX4_takeAmount 1 = .ok (.getfield 15, 3) := by decide +kernel
theorem dX4_takeAmount_4 : decode cX4_takeAmount 4 = .ok (.istore_n 3, 1) := by decide +kernel
theorem dX4_takeAmount_5 : decode cX4_takeAmount 5 = .ok (.iconst 0, 1) := by decide +kernel
theorem dX4_takeAmount_6 : decode cX4_takeAmount 6 = .ok (.istore 4, 2) := by decide +kernel
theorem dX4_takeAmount_8 : decode cX4_takeAmount 8 = .ok (.iconst 0, 1) := by decide +kernel
theorem dX4_takeAmount_9 : decode cX4_takeAmount 9 = .ok (.istore 5, 2) := by decide +kernel
theorem dX4_takeAmount_11 : decode cX4_takeAmount 11 = .ok (.iload 5, 2) := by decide +kernel
theorem dX4_takeAmount_13 : decode cX4_takeAmount 13 = .ok (.iload_n 3, 1) := by decide +kernel
theorem dX4_takeAmount_14 : decode cX4_takeAmount 14 = .ok (.if_icmp .ge 66, 3) := by decide +kernel
theorem dX4_takeAmount_17 : decode cX4_takeAmount 17 = .ok (.aload_n 1, 1) := by decide +kernel
theorem dX4_takeAmount_18 : decode cX4_takeAmount 18 = .ok (.getfield 9, 3) := by decide +kernel
theorem dX4_takeAmount_21 : decode cX4_takeAmount 21 = .ok (.iload 5, 2) := by decide +kernel
theorem dX4_takeAmount_23 : decode cX4_takeAmount 23 = .ok (.iaload, 1) := by decide +kernel
theorem dX4_takeAmount_24 : decode cX4_takeAmount 24 = .ok (.iload 5, 2) := by decide +kernel
theorem dX4_takeAmount_26 : decode cX4_takeAmount 26 = .ok (.aload_n 2, 1) := by decide +kernel
theorem dX4_takeAmount_27 : decode cX4_takeAmount 27 = .ok (.getfield 15, 3) := by decide +kernel
theorem dX4_takeAmount_30 : decode cX4_takeAmount 30 = .ok (.if_icmp .ge 13, 3) := by decide +kernel
theorem dX4_takeAmount_33 : decode cX4_takeAmount 33 = .ok (.aload_n 2, 1) := by decide +kernel
theorem dX4_takeAmount_34 : decode cX4_takeAmount 34 = .ok (.getfield 9, 3) := by decide +kernel
theorem dX4_takeAmount_37 : decode cX4_takeAmount 37 = .ok (.iload 5, 2) := by decide +kernel
theorem dX4_takeAmount_39 : decode cX4_takeAmount 39 = .ok (.iaload, 1) := by decide +kernel
theorem dX4_takeAmount_40 : decode cX4_takeAmount 40 = .ok (.goto 4, 3) := by decide +kernel
theorem dX4_takeAmount_43 : decode cX4_takeAmount 43 = .ok (.iconst 0, 1) := by decide +kernel
theorem dX4_takeAmount_44 : decode cX4_takeAmount 44 = .ok (.isub, 1) := by decide +kernel
theorem dX4_takeAmount_45 : decode cX4_takeAmount 45 = .ok (.iload 4, 2) := by decide +kernel
theorem dX4_takeAmount_47 : decode cX4_takeAmount 47 = .ok (.isub, 1) := by decide +kernel
theorem dX4_takeAmount_48 : decode cX4_takeAmount 48 = .ok (.istore 6, 2) := by decide +kernel
theorem dX4_takeAmount_50 : decode cX4_takeAmount 50 = .ok (.iload 6, 2) := by decide +kernel
theorem dX4_takeAmount_52 : decode cX4_takeAmount 52 = .ok (.ifCond .ge 7, 3) := by decide +kernel
theorem dX4_takeAmount_55 : decode cX4_takeAmount 55 = .ok (.iconst 1, 1) := by decide +kernel
theorem dX4_takeAmount_56 : decode cX4_takeAmount 56 = .ok (.goto 4, 3) := by decide +kernel
theorem dX4_takeAmount_59 : decode cX4_takeAmount 59 = .ok (.iconst 0, 1) := by decide +kernel
theorem dX4_takeAmount_60 : decode cX4_takeAmount 60 = .ok (.istore 4, 2) := by decide +kernel
theorem dX4_takeAmount_62 : decode cX4_takeAmount 62 = .ok (.aload_n 0, 1) := by decide +kernel
theorem dX4_takeAmount_63 : decode cX4_takeAmount 63 = .ok (.getfield 9, 3) := by decide +kernel
theorem dX4_takeAmount_66 : decode cX4_takeAmount 66 = .ok (.iload 5, 2) := by decide +kernel
theorem dX4_takeAmount_68 : decode cX4_takeAmount 68 = .ok (.iload 6, 2) := by decide +kernel
theorem dX4_takeAmount_70 : decode cX4_takeAmount 70 = .ok (.ldc 52, 2) := by decide +kernel
theorem dX4_takeAmount_72 : decode cX4_takeAmount 72 = .ok (.iand, 1) := by decide +kernel
theorem dX4_takeAmount_73 : decode cX4_takeAmount 73 = .ok (.iastore, 1) := by decide +kernel
theorem dX4_takeAmount_74 : decode cX4_takeAmount 74 = .ok (.iinc 5 1, 3) := by decide +kernel
theorem dX4_takeAmount_77 : decode cX4_takeAmount 77 = .ok (.goto (-66), 3) := by decide +kernel
theorem dX4_takeAmount_80 : decode cX4_takeAmount 80 = .ok (.aload_n 0, 1) := by decide +kernel
theorem dX4_takeAmount_81 : decode cX4_takeAmount 81 = .ok (.iload_n 3, 1) := by decide +kernel
theorem dX4_takeAmount_82 : decode cX4_takeAmount 82 = .ok (.invokevirtual 33, 3) := by decide +kernel
theorem dX4_takeAmount_85 : decode cX4_takeAmount 85 = .ok (.return_, 1) := by decide +kernel
theorem dX4_isSet_0 : decode cX4_isSet 0 = .ok (.iload_n 1, 1) := by decide +kernel
theorem dX4_isSet_1 : decode cX4_isSet 1 = .ok (.bipush 28, 2) := by decide +kernel
theorem dX4_isSet_3 : decode cX4_isSet 3 = .ok (.idiv, 1) := by decide +kernel
theorem dX4_isSet_4 : decode cX4_isSet 4 = .ok (.aload_n 0, 1) := by decide +kernel
theorem dX4_isSet_5 : decode cX4_isSet 5 = .ok (.getfield 15, 3) := by decide +kernel
theorem dX4_isSet_8 : decode cX4_isSet 8 = .ok (.if_icmp .ge 27, 3) := by decide +kernel
theorem dX4_isSet_11 : decode cX4_isSet 11 = .ok (.aload_n 0, 1) := by decide +kernel
theorem dX4_isSet_12 : decode cX4_isSet 12 = .ok (.getfield 9, 3) := by decide +kernel
theorem dX4_isSet_15 : decode cX4_isSet 15 = .ok (.iload_n 1, 1) := by decide +kernel
theorem dX4_isSet_16 : decode cX4_isSet 16 = .ok (.bipush 28, 2) := by decide +kernel
theorem dX4_isSet_18 : decode cX4_isSet 18 = .ok (.idiv, 1) := by decide +kernel
theorem dX4_isSet_19 : decode cX4_isSet 19 = .ok (.iaload, 1) := by decide +kernel
theorem dX4_isSet_20 : decode cX4_isSet 20 = .ok (.iload_n 1, 1) := by decide +kernel
theorem dX4_isSet_21 : decode cX4_isSet 21 = .ok (.bipush 28, 2) := by decide +kernel
theorem dX4_isSet_23 : decode cX4_isSet 23 = .ok (.irem, 1) := by decide +kernel
theorem dX4_isSet_24 : decode cX4_isSet 24 = .ok (.ishr, 1) := by decide +kernel
theorem dX4_isSet_25 : decode cX4_isSet 25 = .ok (.iconst 1, 1) := by decide +kernel
theorem dX4_isSet_26 : decode cX4_isSet 26 = .ok (.iand, 1) := by decide +kernel
theorem dX4_isSet_27 : decode cX4_isSet 27 = .ok (.iconst 1, 1) := by decide +kernel
theorem dX4_isSet_28 : decode cX4_isSet 28 = .ok (.if_icmp .ne 7, 3) := by decide +kernel
theorem dX4_isSet_31 : decode cX4_isSet 31 = .ok (.iconst 1, 1) := by decide +kernel
theorem dX4_isSet_32 : decode cX4_isSet 32 = .ok (.goto 4, 3) := by decide +kernel
theorem dX4_isSet_35 : decode cX4_isSet 35 = .ok (.iconst 0, 1) := by decide +kernel
theorem dX4_isSet_36 : decode cX4_isSet 36 = .ok (.ireturn, 1) := by decide +kernel
theorem dX4_twice_0 : decode cX4_twice 0 = .ok (.iload_n 1, 1) := by decide +kernel
theorem dX4_twice_1 : decode cX4_twice 1 = .ok (.ifCond .eq 7, 3) := by decide +kernel
theorem dX4_twice_4 : decode cX4_twice 4 = .ok (.iconst 1, 1) := by decide +kernel
theorem dX4_twice_5 : decode cX4_twice 5 = .ok (.goto 4, 3) := by decide +kernel
theorem dX4_twice_8 : decode cX4_twice 8 = .ok (.iconst 0, 1) := by decide +kernel
theorem dX4_twice_9 : decode cX4_twice 9 = .ok (.istore_n 2, 1) := by decide +kernel
theorem dX4_twice_10 : decode cX4_twice 10 = .ok (.iconst 0, 1) := by decide +kernel
theorem dX4_twice_11 : decode cX4_twice 11 = .ok (.istore_n 3, 1) := by decide +kernel
theorem dX4_twice_12 : decode cX4_twice 12 = .ok (.iload_n 3, 1) := by decide +kernel
theorem dX4_twice_13 : decode cX4_twice 13 = .ok (.aload_n 0, 1) := by decide +kernel
theorem dX4_twice_14 : decode cX4_twice 14 = .ok (.getfield 15, 3) := by decide +kernel
theorem dX4_twice_17 : decode cX4_twice 17 = .ok (.if_icmp .ge 38, 3) := by decide +kernel
theorem dX4_twice_20 : decode cX4_twice 20 = .ok (.aload_n 0, 1) := by decide +kernel
theorem dX4_twice_21 : decode cX4_twice 21 = .ok (.getfield 9, 3) := by decide +kernel
theorem dX4_twice_24 : decode cX4_twice 24 = .ok (.iload_n 3, 1) := by decide +kernel
theorem dX4_twice_25 : decode cX4_twice 25 = .ok (.iaload, 1) := by decide +kernel
theorem dX4_twice_26 : decode cX4_twice 26 = .ok (.iconst 1, 1) := by decide +kernel
theorem dX4_twice_27 : decode cX4_twice 27 = .ok (.ishl, 1) := by decide +kernel
theorem dX4_twice_28 : decode cX4_twice 28 = .ok (.iload_n 2, 1) := by decide +kernel
theorem dX4_twice_29 : decode cX4_twice 29 = .ok (.ior, 1) := by decide +kernel
theorem dX4_twice_30 : decode cX4_twice 30 = .ok (.istore 4, 2) := by decide +kernel
theorem dX4_twice_32 : decode cX4_twice 32 = .ok (.aload_n 0, 1) := by decide +kernel
theorem dX4_twice_33 : decode cX4_twice 33 = .ok (.getfield 9, 3) := by decide +kernel
theorem dX4_twice_36 : decode cX4_twice 36 = .ok (.iload_n 3, 1) := by decide +kernel
theorem dX4_twice_37 : decode cX4_twice 37 = .ok (.iload 4, 2) := by decide +kernel
theorem dX4_twice_39 : decode cX4_twice 39 = .ok (.ldc 52, 2) := by decide +kernel
theorem dX4_twice_41 : decode cX4_twice 41 = .ok (.iand, 1) := by decide +kernel
theorem dX4_twice_42 : decode cX4_twice 42 = .ok (.iastore, 1) := by decide +kernel
theorem dX4_twice_43 : decode cX4_twice 43 = .ok (.iload 4, 2) := by decide +kernel
theorem dX4_twice_45 : decode cX4_twice 45 = .ok (.bipush 28, 2) := by decide +kernel
theorem dX4_twice_47 : decode cX4_twice 47 = .ok (.ishr, 1) := by decide +kernel
theorem dX4_twice_48 : decode cX4_twice 48 = .ok (.istore_n 2, 1) := by decide +kernel
theorem dX4_twice_49 : decode cX4_twice 49 = .ok (.iinc 3 1, 3) := by decide +kernel
theorem dX4_twice_52 : decode cX4_twice 52 = .ok (.goto (-40), 3) := by decide +kernel
theorem dX4_twice_55 : decode cX4_twice 55 = .ok (.iload_n 2, 1) := by decide +kernel
theorem dX4_twice_56 : decode cX4_twice 56 = .ok (.ifCond .le 23, 3) := by decide +kernel
theorem dX4_twice_59 : decode cX4_twice 59 = .ok (.aload_n 0, 1) := by decide +kernel
theorem dX4_twice_60 : decode cX4_twice 60 = .ok (.getfield 9, 3) := by decide +kernel
theorem dX4_twice_63 : decode cX4_twice 63 = .ok (.aload_n 0, 1) := by decide +kernel
theorem dX4_twice_64 : decode cX4_twice 64 = .ok (.getfield 15, 3) := by decide +kernel
theorem dX4_twice_67 : decode cX4_twice 67 = .ok (.iload_n 2, 1) := by decide +kernel
theorem dX4_twice_68 : decode cX4_twice 68 = .ok (.iastore, 1) := by decide +kernel
theorem dX4_twice_69 : decode cX4_twice 69 = .ok (.aload_n 0, 1) := by decide +kernel
theorem dX4_twice_70 : decode cX4_twice 70 = .ok (.dup, 1) := by decide +kernel
theorem dX4_twice_71 : decode cX4_twice 71 = .ok (.getfield 15, 3) := by decide +kernel
theorem dX4_twice_74 : decode cX4_twice 74 = .ok (.iconst 1, 1) := by decide +kernel
theorem dX4_twice_75 : decode cX4_twice 75 = .ok (.iadd, 1) := by decide +kernel
theorem dX4_twice_76 : decode cX4_twice 76 = .ok (.putfield 15, 3) := by decide +kernel
theorem dX4_twice_79 : decode cX4_twice 79 = .ok (.return_, 1) := by decide +kernel
set_option maxRecDepth 20000 in
theorem ggX4_quotient_X4_isSet : GoodIn wsX4_quotient wsX4_isSet := goodIn_r _ [8, 2, 1, 26, 27, 28, 29] (by decide +kernel) (by decide +kernel)
set_option maxRecDepth 20000 in
theorem gX4_quotient_X4_isSet : GoodIn wsX4_quotient (wsV RX4 53 RX4 yX4_isSet wsX4_isSet) := goodIn_app (goodIn_of _ (by decide +kernel)) ggX4_quotient_X4_isSet
set_option maxRecDepth 20000 in
theorem ggX4_quotient_X4_twice : GoodIn wsX4_quotient wsX4_twice := goodIn_r _ [12, 2, 1, 13, 26, 27, 28, 29] (by decide +kernel) (by decide +kernel)
set_option maxRecDepth 20000 in
theorem gX4_quotient_X4_twice : GoodIn wsX4_quotient (wsV RX4 57 RX4 yX4_twice wsX4_twice) := goodIn_app (goodIn_of _ (by decide +kernel)) ggX4_quotient_X4_twice
set_option maxRecDepth 20000 in
theorem ggX4_quotient_X4_compare : GoodIn wsX4_quotient wsX4_compare := goodIn_r _ [17, 2, 1, 26, 27, 28, 29] (by decide +kernel) (by decide +kernel)
set_option maxRecDepth 20000 in
theorem gX4_quotient_X4_compare : GoodIn wsX4_quotient (wsV RX4 41 RX4 yX4_compare wsX4_compare) := goodIn_app (goodIn_of _ (by decide +kernel)) ggX4_quotient_X4_compare
set_option maxRecDepth 20000 in
theorem ggX4_quotient_X4_takeAmount : GoodIn wsX4_quotient wsX4_takeAmount := goodIn_r _ [21, 2, 1, 13, 22, 23, 24, 7, 25, 3, 26, 27, 28, 29] (by decide +kernel) (by decide +kernel)
set_option maxRecDepth 20000 in
theorem gX4_quotient_X4_takeAmount : GoodIn wsX4_quotient (wsV RX4 45 RX4 yX4_takeAmount wsX4_takeAmount) := goodIn_app (goodIn_of _ (by decide +kernel)) ggX4_quotient_X4_takeAmount
set_option maxRecDepth 20000 in
theorem ggX4_quotient_X4_trim : GoodIn wsX4_quotient wsX4_trim := goodIn_r _ [25, 2, 1, 3, 26, 27, 28, 29] (by decide +kernel) (by decide +kernel)
set_option maxRecDepth 20000 in
theorem gX4_quotient_X4_trim : GoodIn wsX4_quotient (wsV RX4 33 RX4 yX4_trim wsX4_trim) := goodIn_app (goodIn_of _ (by decide +kernel)) ggX4_quotient_X4_trim
theorem dX4_quotient_0 : decode cX4_quotient 0 = .ok (.iconst 0, 1) := by decide +kernel
theorem dX4_quotient_1 : decode cX4_quotient 1 = .ok (.istore 4, 2) := by decide +kernel
theorem dX4_quotient_3 : decode cX4_quotient 3 = .ok (.iload 4, 2) := by decide +kernel
theorem dX4_quotient_5 : decode cX4_quotient 5 = .ok (.bipush 40, 2) := by decide +kernel
theorem dX4_quotient_7 : decode cX4_quotient 7 = .ok (.if_icmp .ge 17, 3) := by decide +kernel
theorem dX4_quotient_10 : decode cX4_quotient 10 = .ok (.aload_n 0, 1) := by decide +kernel
theorem dX4_quotient_11 : decode cX4_quotient 11 = .ok (.getfield 9, 3) := by decide +kernel
theorem dX4_quotient_14 : decode cX4_quotient 14 = .ok (.iload 4, 2) := by decide +kernel
theorem dX4_quotient_16 : decode cX4_quotient 16 = .ok (.iconst 0, 1) := by decide +kernel
theorem dX4_quotient_17 : decode cX4_quotient 17 = .ok (.iastore, 1) := by decide +kernel
theorem dX4_quotient_18 : decode cX4_quotient 18 = .ok (.iinc 4 1, 3) := by decide +kernel
theorem dX4_quotient_21 : decode cX4_quotient 21 = .ok (.goto (-18), 3) := by decide +kernel
theorem dX4_quotient_24 : decode cX4_quotient 24 = .ok (.aload_n 3, 1) := by decide +kernel
theorem dX4_quotient_25 : decode cX4_quotient 25 = .ok (.iconst 0, 1) := by decide +kernel
theorem dX4_quotient_26 : decode cX4_quotient 26 = .ok (.putfield 15, 3) := by decide +kernel
theorem dX4_quotient_29 : decode cX4_quotient 29 = .ok (.aload_n 3, 1) := by decide +kernel
theorem dX4_quotient_30 : decode cX4_quotient 30 = .ok (.iconst 0, 1) := by decide +kernel
theorem dX4_quotient_31 : decode cX4_quotient 31 = .ok (.putfield 19, 3) := by decide +kernel
theorem dX4_quotient_34 : decode cX4_quotient 34 = .ok (.bipush 28, 2) := by decide +kernel
theorem dX4_quotient_36 : decode cX4_quotient 36 = .ok (.aload_n 1, 1) := by decide +kernel
theorem dX4_quotient_37 : decode cX4_quotient 37 = .ok (.getfield 15, 3) := by decide +kernel
theorem dX4_quotient_40 : decode cX4_quotient 40 = .ok (.imul, 1) := by decide +kernel
theorem dX4_quotient_41 : decode cX4_quotient 41 = .ok (.iconst 1, 1) := by decide +kernel
theorem dX4_quotient_42 : decode cX4_quotient 42 = .ok (.isub, 1) := by decide +kernel
theorem dX4_quotient_43 : decode cX4_quotient 43 = .ok (.istore 4, 2) := by decide +kernel
theorem dX4_quotient_45 : decode cX4_quotient 45 = .ok (.iload 4, 2) := by decide +kernel
theorem dX4_quotient_47 : decode cX4_quotient 47 = .ok (.ifCond .lt 53, 3) := by decide +kernel
theorem dX4_quotient_50 : decode cX4_quotient 50 = .ok (.aload_n 3, 1) := by decide +kernel
theorem dX4_quotient_51 : decode cX4_quotient 51 = .ok (.aload_n 1, 1) := by decide +kernel
theorem dX4_quotient_52 : decode cX4_quotient 52 = .ok (.iload 4, 2) := by decide +kernel
theorem dX4_quotient_54 : decode cX4_quotient 54 = .ok (.invokevirtual 53, 3) := by decide +kernel
theorem dX4_quotient_57 : decode cX4_quotient 57 = .ok (.invokevirtual 57, 3) := by decide +kernel
theorem dX4_quotient_60 : decode cX4_quotient 60 = .ok (.aload_n 3, 1) := by decide +kernel
theorem dX4_quotient_61 : decode cX4_quotient 61 = .ok (.aload_n 2, 1) := by decide +kernel
theorem dX4_quotient_62 : decode cX4_quotient 62 = .ok (.invokevirtual 41, 3) := by decide +kernel
theorem dX4_quotient_65 : decode cX4_quotient 65 = .ok (.ifCond .lt 29, 3) := by decide +kernel
theorem dX4_quotient_68 : decode cX4_quotient 68 = .ok (.aload_n 3, 1) := by decide +kernel
theorem dX4_quotient_69 : decode cX4_quotient 69 = .ok (.aload_n 3, 1) := by decide +kernel
theorem dX4_quotient_70 : decode cX4_quotient 70 = .ok (.aload_n 2, 1) := by decide +kernel
theorem dX4_quotient_71 : decode cX4_quotient 71 = .ok (.invokevirtual 45, 3) := by decide +kernel
theorem dX4_quotient_74 : decode cX4_quotient 74 = .ok (.aload_n 0, 1) := by decide +kernel
theorem dX4_quotient_75 : decode cX4_quotient 75 = .ok (.getfield 9, 3) := by decide +kernel
theorem dX4_quotient_78 : decode cX4_quotient 78 = .ok (.iload 4, 2) := by decide +kernel
theorem dX4_quotient_80 : decode cX4_quotient 80 = .ok (.bipush 28, 2) := by decide +kernel
theorem dX4_quotient_82 : decode cX4_quotient 82 = .ok (.idiv, 1) := by decide +kernel
theorem dX4_quotient_83 : decode cX4_quotient 83 = .ok (.dup2, 1) := by decide +kernel
theorem dX4_quotient_84 : decode cX4_quotient 84 = .ok (.iaload, 1) := by decide +kernel
theorem dX4_quotient_85 : decode cX4_quotient 85 = .ok (.iconst 1, 1) := by decide +kernel
theorem dX4_quotient_86 : decode cX4_quotient 86 = .ok (.iload 4, 2) := by decide +kernel
theorem dX4_quotient_88 : decode cX4_quotient 88 = .ok (.bipush 28, 2) := by decide +kernel
theorem dX4_quotient_90 : decode cX4_quotient 90 = .ok (.irem, 1) := by decide +kernel
theorem dX4_quotient_91 : decode cX4_quotient 91 = .ok (.ishl, 1) := by decide +kernel
theorem dX4_quotient_92 : decode cX4_quotient 92 = .ok (.ior, 1) := by decide +kernel
theorem dX4_quotient_93 : decode cX4_quotient 93 = .ok (.iastore, 1) := by decide +kernel
theorem dX4_quotient_94 : decode cX4_quotient 94 = .ok (.iinc 4 (-1), 3) := by decide +kernel
theorem dX4_quotient_97 : decode cX4_quotient 97 = .ok (.goto (-52), 3) := by decide +kernel
theorem dX4_quotient_100 : decode cX4_quotient 100 = .ok (.aload_n 0, 1) := by decide +kernel
theorem dX4_quotient_101 : decode cX4_quotient 101 = .ok (.aload_n 1, 1) := by decide +kernel
theorem dX4_quotient_102 : decode cX4_quotient 102 = .ok (.getfield 19, 3) := by decide +kernel
theorem dX4_quotient_105 : decode cX4_quotient 105 = .ok (.aload_n 2, 1) := by decide +kernel
theorem dX4_quotient_106 : decode cX4_quotient 106 = .ok (.getfield 19, 3) := by decide +kernel
theorem dX4_quotient_109 : decode cX4_quotient 109 = .ok (.if_icmp .eq 7, 3) := by decide +kernel
theorem dX4_quotient_112 : decode cX4_quotient 112 = .ok (.iconst 1, 1) := by decide +kernel
theorem dX4_quotient_113 : decode cX4_quotient 113 = .ok (.goto 4, 3) := by decide +kernel
theorem dX4_quotient_116 : decode cX4_quotient 116 = .ok (.iconst 0, 1) := by decide +kernel
theorem dX4_quotient_117 : decode cX4_quotient 117 = .ok (.putfield 19, 3) := by decide +kernel
theorem dX4_quotient_120 : decode cX4_quotient 120 = .ok (.aload_n 0, 1) := by decide +kernel
theorem dX4_quotient_121 : decode cX4_quotient 121 = .ok (.aload_n 1, 1) := by decide +kernel
theorem dX4_quotient_122 : decode cX4_quotient 122 = .ok (.getfield 15, 3) := by decide +kernel
theorem dX4_quotient_125 : decode cX4_quotient 125 = .ok (.invokevirtual 33, 3) := by decide +kernel
theorem dX4_quotient_128 : decode cX4_quotient 128 = .ok (.return_, 1) := by decide +kernel
theorem dX4_isLong_0 : decode cX4_isLong 0 = .ok (.aload_n 0, 1) := by decide +kernel
theorem dX4_isLong_1 : decode cX4_isLong 1 = .ok (.getfield 15, 3) := by decide +kernel
theorem dX4_isLong_4 : decode cX4_isLong 4 = .ok (.iconst 3, 1) := by decide +kernel
theorem dX4_isLong_5 : decode cX4_isLong 5 = .ok (.if_icmp .gt 23, 3) := by decide +kernel
theorem dX4_isLong_8 : decode cX4_isLong 8 = .ok (.aload_n 0, 1) := by decide +kernel
theorem dX4_isLong_9 : decode cX4_isLong 9 = .ok (.getfield 15, 3) := by decide +kernel
theorem dX4_isLong_12 : decode cX4_isLong 12 = .ok (.iconst 3, 1) := by decide +kernel
theorem dX4_isLong_13 : decode cX4_isLong 13 = .ok (.if_icmp .ne 17, 3) := by decide +kernel
theorem dX4_isLong_16 : decode cX4_isLong 16 = .ok (.aload_n 0, 1) := by decide +kernel
theorem dX4_isLong_17 : decode cX4_isLong 17 = .ok (.getfield 9, 3) := by decide +kernel
theorem dX4_isLong_20 : decode cX4_isLong 20 = .ok (.iconst 2, 1) := by decide +kernel
theorem dX4_isLong_21 : decode cX4_isLong 21 = .ok (.iaload, 1) := by decide +kernel
theorem dX4_isLong_22 : decode cX4_isLong 22 = .ok (.sipush 255, 3) := by decide +kernel
theorem dX4_isLong_25 : decode cX4_isLong 25 = .ok (.if_icmp .le 5, 3) := by decide +kernel
theorem dX4_isLong_28 : decode cX4_isLong 28 = .ok (.iconst 0, 1) := by decide +kernel
theorem dX4_isLong_29 : decode cX4_isLong 29 = .ok (.ireturn, 1) := by decide +kernel
theorem dX4_isLong_30 : decode cX4_isLong 30 = .ok (.lconst 0, 1) := by decide +kernel
theorem dX4_isLong_31 : decode cX4_isLong 31 = .ok (.lstore_n 1, 1) := by decide +kernel
theorem dX4_isLong_32 : decode cX4_isLong 32 = .ok (.aload_n 0, 1) := by decide +kernel
theorem dX4_isLong_33 : decode cX4_isLong 33 = .ok (.getfield 15, 3) := by decide +kernel
theorem dX4_isLong_36 : decode cX4_isLong 36 = .ok (.iconst 1, 1) := by decide +kernel
theorem dX4_isLong_37 : decode cX4_isLong 37 = .ok (.isub, 1) := by decide +kernel
theorem dX4_isLong_38 : decode cX4_isLong 38 = .ok (.istore_n 3, 1) := by decide +kernel
theorem dX4_isLong_39 : decode cX4_isLong 39 = .ok (.iload_n 3, 1) := by decide +kernel
theorem dX4_isLong_40 : decode cX4_isLong 40 = .ok (.ifCond .lt 22, 3) := by decide +kernel
theorem dX4_isLong_43 : decode cX4_isLong 43 = .ok (.lload_n 1, 1) := by decide +kernel
theorem dX4_isLong_44 : decode cX4_isLong 44 = .ok (.bipush 28, 2) := by decide +kernel
theorem dX4_isLong_46 : decode cX4_isLong 46 = .ok (.lshl, 1) := by decide +kernel
theorem dX4_isLong_47 : decode cX4_isLong 47 = .ok (.aload_n 0, 1) := by decide +kernel
theorem dX4_isLong_48 : decode cX4_isLong 48 = .ok (.getfield 9, 3) := by decide +kernel
theorem dX4_isLong_51 : decode cX4_isLong 51 = .ok (.iload_n 3, 1) := by decide +kernel
theorem dX4_isLong_52 : decode cX4_isLong 52 = .ok (.iaload, 1) := by decide +kernel
theorem dX4_isLong_53 : decode cX4_isLong 53 = .ok (.i2l, 1) := by decide +kernel
theorem dX4_isLong_54 : decode cX4_isLong 54 = .ok (.lor, 1) := by decide +kernel
theorem dX4_isLong_55 : decode cX4_isLong 55 = .ok (.lstore_n 1, 1) := by decide +kernel
theorem dX4_isLong_56 : decode cX4_isLong 56 = .ok (.iinc 3 (-1), 3) := by decide +kernel
theorem dX4_isLong_59 : decode cX4_isLong 59 = .ok (.goto (-20), 3) := by decide +kernel
theorem dX4_isLong_62 : decode cX4_isLong 62 = .ok (.lload_n 1, 1) := by decide +kernel
theorem dX4_isLong_63 : decode cX4_isLong 63 = .ok (.lconst 0, 1) := by decide +kernel
theorem dX4_isLong_64 : decode cX4_isLong 64 = .ok (.lcmp, 1) := by decide +kernel
theorem dX4_isLong_65 : decode cX4_isLong 65 = .ok (.ifCond .ge 20, 3) := by decide +kernel
theorem dX4_isLong_68 : decode cX4_isLong 68 = .ok (.aload_n 0, 1) := by decide +kernel
theorem dX4_isLong_69 : decode cX4_isLong 69 = .ok (.getfield 19, 3) := by decide +kernel
theorem dX4_isLong_72 : decode cX4_isLong 72 = .ok (.ifCond .eq 11, 3) := by decide +kernel
theorem dX4_isLong_75 : decode cX4_isLong 75 = .ok (.lload_n 1, 1) := by decide +kernel
theorem dX4_isLong_76 : decode cX4_isLong 76 = .ok (.ldc2_w 63, 3) := by decide +kernel
theorem dX4_isLong_79 : decode cX4_isLong 79 = .ok (.lcmp, 1) := by decide +kernel
theorem dX4_isLong_80 : decode cX4_isLong 80 = .ok (.ifCond .eq 5, 3) := by decide +kernel
theorem dX4_isLong_83 : decode cX4_isLong 83 = .ok (.iconst 0, 1) := by decide +kernel
theorem dX4_isLong_84 : decode cX4_isLong 84 = .ok (.ireturn, 1) := by decide +kernel
theorem dX4_isLong_85 : decode cX4_isLong 85 = .ok (.aload_n 0, 1) := by decide +kernel
theorem dX4_isLong_86 : decode cX4_isLong 86 = .ok (.aload_n 0, 1) := by decide +kernel
theorem dX4_isLong_87 : decode cX4_isLong 87 = .ok (.getfield 19, 3) := by decide +kernel
theorem dX4_isLong_90 : decode cX4_isLong 90 = .ok (.ifCond .eq 8, 3) := by decide +kernel
theorem dX4_isLong_93 : decode cX4_isLong 93 = .ok (.lload_n 1, 1) := by decide +kernel
theorem dX4_isLong_94 : decode cX4_isLong 94 = .ok (.lneg, 1) := by decide +kernel
theorem dX4_isLong_95 : decode cX4_isLong 95 = .ok (.goto 4, 3) := by decide +kernel
theorem dX4_isLong_98 : decode cX4_isLong 98 = .ok (.lload_n 1, 1) := by decide +kernel
theorem dX4_isLong_99 : decode cX4_isLong 99 = .ok (.putfield 65, 3) := by decide +kernel
theorem dX4_isLong_102 : decode cX4_isLong 102 = .ok (.iconst 1, 1) := by decide +kernel
theorem dX4_isLong_103 : decode cX4_isLong 103 = .ok (.ireturn, 1) := by decide +kernel
