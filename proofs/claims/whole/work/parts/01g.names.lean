set_option maxRecDepth 20000 in
theorem ggX5_isReduced_X4_set : GoodIn wsX5_isReduced wsX4_set := goodIn_r _ [7, 8, 9, 10, 11, 77, 78, 79, 80] (by decide +kernel) (by decide +kernel)
set_option maxRecDepth 20000 in
theorem gX5_isReduced_X4_set : GoodIn wsX5_isReduced (wsV RX5 43 RX4 yX4_set wsX4_set) := goodIn_app (goodIn_of _ (by decide +kernel)) ggX5_isReduced_X4_set
set_option maxRecDepth 20000 in
theorem ggX5_isReduced_X4_isZero : GoodIn wsX5_isReduced wsX4_isZero := goodIn_r _ [15, 9, 77, 78, 79, 80] (by decide +kernel) (by decide +kernel)
set_option maxRecDepth 20000 in
theorem gX5_isReduced_X4_isZero : GoodIn wsX5_isReduced (wsV RX5 58 RX4 yX4_isZero wsX4_isZero) := goodIn_app (goodIn_of _ (by decide +kernel)) ggX5_isReduced_X4_isZero
set_option maxRecDepth 20000 in
theorem ggX5_isReduced_X5_eliminate : GoodIn wsX5_isReduced wsX5_eliminate := goodIn_r _ [20, 1, 2, 21, 22, 23, 6, 24, 8, 9, 11, 25, 26, 27, 28, 29, 30, 31, 32, 33, 34, 35, 36, 37, 38, 39, 40, 41, 42, 43, 44, 45, 46, 47, 48, 49, 50, 51, 52, 53, 54, 55, 56, 57, 58, 59, 60, 61, 62, 63, 64, 65, 66, 67, 68, 69, 70, 71, 72, 73, 74, 75, 76, 77, 78, 79, 80] (by decide +kernel) (by decide +kernel)
set_option maxRecDepth 20000 in
theorem gX5_isReduced_X5_eliminate : GoodIn wsX5_isReduced (wsV RX5 62 RX5 yX5_eliminate wsX5_eliminate) := goodIn_app (goodIn_of _ (by decide +kernel)) ggX5_isReduced_X5_eliminate
set_option maxRecDepth 20000 in
theorem ggX5_isReduced_X4_set_ : GoodIn wsX5_isReduced wsX4_set_ := goodIn_r _ [24, 8, 9, 11, 77, 78, 79, 80] (by decide +kernel) (by decide +kernel)
set_option maxRecDepth 20000 in
theorem gX5_isReduced_X4_set_ : GoodIn wsX5_isReduced (wsV RX5 66 RX4 yX4_set_ wsX4_set_) := goodIn_app (goodIn_of _ (by decide +kernel)) ggX5_isReduced_X4_set_
theorem dX5_isReduced_0 : decode cX5_isReduced 0 = .ok (.iload_n 1, 1) := by decide +kernel
theorem dX5_isReduced_1 : decode cX5_isReduced 1 = .ok (.iconst 1, 1) := by decide +kernel
theorem dX5_isReduced_2 : decode cX5_isReduced 2 = .ok (.iadd, 1) := by decide +kernel
theorem dX5_isReduced_3 : decode cX5_isReduced 3 = .ok (.istore_n 2, 1) := by decide +kernel
theorem dX5_isReduced_4 : decode cX5_isReduced 4 = .ok (.aload_n 0, 1) := by decide +kernel
theorem dX5_isReduced_5 : decode cX5_isReduced 5 = .ok (.getfield 32, 3) := by decide +kernel
theorem dX5_isReduced_8 : decode cX5_isReduced 8 = .ok (.iconst 0, 1) := by decide +kernel
theorem dX5_isReduced_9 : decode cX5_isReduced 9 = .ok (.aaload, 1) := by decide +kernel
theorem dX5_isReduced_10 : decode cX5_isReduced 10 = .ok (.astore_n 3, 1) := by decide +kernel
theorem dX5_isReduced_11 : decode cX5_isReduced 11 = .ok (.aload_n 3, 1) := by decide +kernel
theorem dX5_isReduced_12 : decode cX5_isReduced 12 = .ok (.lconst 1, 1) := by decide +kernel
theorem dX5_isReduced_13 : decode cX5_isReduced 13 = .ok (.invokevirtual 43, 3) := by decide +kernel
theorem dX5_isReduced_16 : decode cX5_isReduced 16 = .ok (.iconst 0, 1) := by decide +kernel
theorem dX5_isReduced_17 : decode cX5_isReduced 17 = .ok (.istore 4, 2) := by decide +kernel
theorem dX5_isReduced_19 : decode cX5_isReduced 19 = .ok (.iload 4, 2) := by decide +kernel
theorem dX5_isReduced_21 : decode cX5_isReduced 21 = .ok (.iload_n 1, 1) := by decide +kernel
theorem dX5_isReduced_22 : decode cX5_isReduced 22 = .ok (.if_icmp .ge 173, 3) := by decide +kernel
theorem dX5_isReduced_25 : decode cX5_isReduced 25 = .ok (.iload 4, 2) := by decide +kernel
theorem dX5_isReduced_27 : decode cX5_isReduced 27 = .ok (.istore 5, 2) := by decide +kernel
theorem dX5_isReduced_29 : decode cX5_isReduced 29 = .ok (.iload 5, 2) := by decide +kernel
theorem dX5_isReduced_31 : decode cX5_isReduced 31 = .ok (.iload_n 1, 1) := by decide +kernel
theorem dX5_isReduced_32 : decode cX5_isReduced 32 = .ok (.if_icmp .ge 27, 3) := by decide +kernel
theorem dX5_isReduced_35 : decode cX5_isReduced 35 = .ok (.aload_n 0, 1) := by decide +kernel
theorem dX5_isReduced_36 : decode cX5_isReduced 36 = .ok (.getfield 28, 3) := by decide +kernel
theorem dX5_isReduced_39 : decode cX5_isReduced 39 = .ok (.iload_n 2, 1) := by decide +kernel
theorem dX5_isReduced_40 : decode cX5_isReduced 40 = .ok (.iload 5, 2) := by decide +kernel
theorem dX5_isReduced_42 : decode cX5_isReduced 42 = .ok (.imul, 1) := by decide +kernel
theorem dX5_isReduced_43 : decode cX5_isReduced 43 = .ok (.iload 4, 2) := by decide +kernel
theorem dX5_isReduced_45 : decode cX5_isReduced 45 = .ok (.iadd, 1) := by decide +kernel
theorem dX5_isReduced_46 : decode cX5_isReduced 46 = .ok (.aaload, 1) := by decide +kernel
theorem dX5_isReduced_47 : decode cX5_isReduced 47 = .ok (.invokevirtual 58, 3) := by decide +kernel
theorem dX5_isReduced_50 : decode cX5_isReduced 50 = .ok (.ifCond .eq 9, 3) := by decide +kernel
theorem dX5_isReduced_53 : decode cX5_isReduced 53 = .ok (.iinc 5 1, 3) := by decide +kernel
theorem dX5_isReduced_56 : decode cX5_isReduced 56 = .ok (.goto (-27), 3) := by decide +kernel
theorem dX5_isReduced_59 : decode cX5_isReduced 59 = .ok (.iload 5, 2) := by decide +kernel
theorem dX5_isReduced_61 : decode cX5_isReduced 61 = .ok (.iload_n 1, 1) := by decide +kernel
theorem dX5_isReduced_62 : decode cX5_isReduced 62 = .ok (.if_icmp .ne 5, 3) := by decide +kernel
theorem dX5_isReduced_65 : decode cX5_isReduced 65 = .ok (.iconst 0, 1) := by decide +kernel
theorem dX5_isReduced_66 : decode cX5_isReduced 66 = .ok (.ireturn, 1) := by decide +kernel
theorem dX5_isReduced_67 : decode cX5_isReduced 67 = .ok (.iconst 0, 1) := by decide +kernel
theorem dX5_isReduced_68 : decode cX5_isReduced 68 = .ok (.istore 6, 2) := by decide +kernel
theorem dX5_isReduced_70 : decode cX5_isReduced 70 = .ok (.iload 6, 2) := by decide +kernel
theorem dX5_isReduced_72 : decode cX5_isReduced 72 = .ok (.iload_n 2, 1) := by decide +kernel
theorem dX5_isReduced_73 : decode cX5_isReduced 73 = .ok (.if_icmp .ge 68, 3) := by decide +kernel
theorem dX5_isReduced_76 : decode cX5_isReduced 76 = .ok (.iload 5, 2) := by decide +kernel
theorem dX5_isReduced_78 : decode cX5_isReduced 78 = .ok (.iload 4, 2) := by decide +kernel
theorem dX5_isReduced_80 : decode cX5_isReduced 80 = .ok (.if_icmp .eq 61, 3) := by decide +kernel
theorem dX5_isReduced_83 : decode cX5_isReduced 83 = .ok (.aload_n 0, 1) := by decide +kernel
theorem dX5_isReduced_84 : decode cX5_isReduced 84 = .ok (.getfield 28, 3) := by decide +kernel
theorem dX5_isReduced_87 : decode cX5_isReduced 87 = .ok (.iload_n 2, 1) := by decide +kernel
theorem dX5_isReduced_88 : decode cX5_isReduced 88 = .ok (.iload 5, 2) := by decide +kernel
theorem dX5_isReduced_90 : decode cX5_isReduced 90 = .ok (.imul, 1) := by decide +kernel
theorem dX5_isReduced_91 : decode cX5_isReduced 91 = .ok (.iload 6, 2) := by decide +kernel
theorem dX5_isReduced_93 : decode cX5_isReduced 93 = .ok (.iadd, 1) := by decide +kernel
theorem dX5_isReduced_94 : decode cX5_isReduced 94 = .ok (.aaload, 1) := by decide +kernel
theorem dX5_isReduced_95 : decode cX5_isReduced 95 = .ok (.astore 7, 2) := by decide +kernel
theorem dX5_isReduced_97 : decode cX5_isReduced 97 = .ok (.aload_n 0, 1) := by decide +kernel
theorem dX5_isReduced_98 : decode cX5_isReduced 98 = .ok (.getfield 28, 3) := by decide +kernel
theorem dX5_isReduced_101 : decode cX5_isReduced 101 = .ok (.iload_n 2, 1) := by decide +kernel
theorem dX5_isReduced_102 : decode cX5_isReduced 102 = .ok (.iload 5, 2) := by decide +kernel
theorem dX5_isReduced_104 : decode cX5_isReduced 104 = .ok (.imul, 1) := by decide +kernel
theorem dX5_isReduced_105 : decode cX5_isReduced 105 = .ok (.iload 6, 2) := by decide +kernel
theorem dX5_isReduced_107 : decode cX5_isReduced 107 = .ok (.iadd, 1) := by decide +kernel
theorem dX5_isReduced_108 : decode cX5_isReduced 108 = .ok (.aload_n 0, 1) := by decide +kernel
theorem dX5_isReduced_109 : decode cX5_isReduced 109 = .ok (.getfield 28, 3) := by decide +kernel
theorem dX5_isReduced_112 : decode cX5_isReduced 112 = .ok (.iload_n 2, 1) := by decide +kernel
theorem dX5_isReduced_113 : decode cX5_isReduced 113 = .ok (.iload 4, 2) := by decide +kernel
theorem dX5_isReduced_115 : decode cX5_isReduced 115 = .ok (.imul, 1) := by decide +kernel
theorem dX5_isReduced_116 : decode cX5_isReduced 116 = .ok (.iload 6, 2) := by decide +kernel
theorem dX5_isReduced_118 : decode cX5_isReduced 118 = .ok (.iadd, 1) := by decide +kernel
theorem dX5_isReduced_119 : decode cX5_isReduced 119 = .ok (.aaload, 1) := by decide +kernel
theorem dX5_isReduced_120 : decode cX5_isReduced 120 = .ok (.aastore, 1) := by decide +kernel
theorem dX5_isReduced_121 : decode cX5_isReduced 121 = .ok (.aload_n 0, 1) := by decide +kernel
theorem dX5_isReduced_122 : decode cX5_isReduced 122 = .ok (.getfield 28, 3) := by decide +kernel
theorem dX5_isReduced_125 : decode cX5_isReduced 125 = .ok (.iload_n 2, 1) := by decide +kernel
theorem dX5_isReduced_126 : decode cX5_isReduced 126 = .ok (.iload 4, 2) := by decide +kernel
theorem dX5_isReduced_128 : decode cX5_isReduced 128 = .ok (.imul, 1) := by decide +kernel
theorem dX5_isReduced_129 : decode cX5_isReduced 129 = .ok (.iload 6, 2) := by decide +kernel
theorem dX5_isReduced_131 : decode cX5_isReduced 131 = .ok (.iadd, 1) := by decide +kernel
theorem dX5_isReduced_132 : decode cX5_isReduced 132 = .ok (.aload 7, 2) := by decide +kernel
theorem dX5_isReduced_134 : decode cX5_isReduced 134 = .ok (.aastore, 1) := by decide +kernel
theorem dX5_isReduced_135 : decode cX5_isReduced 135 = .ok (.iinc 6 1, 3) := by decide +kernel
theorem dX5_isReduced_138 : decode cX5_isReduced 138 = .ok (.goto (-68), 3) := by decide +kernel
theorem dX5_isReduced_141 : decode cX5_isReduced 141 = .ok (.iconst 0, 1) := by decide +kernel
theorem dX5_isReduced_142 : decode cX5_isReduced 142 = .ok (.istore 6, 2) := by decide +kernel
theorem dX5_isReduced_144 : decode cX5_isReduced 144 = .ok (.iload 6, 2) := by decide +kernel
theorem dX5_isReduced_146 : decode cX5_isReduced 146 = .ok (.iload_n 1, 1) := by decide +kernel
theorem dX5_isReduced_147 : decode cX5_isReduced 147 = .ok (.if_icmp .ge 26, 3) := by decide +kernel
theorem dX5_isReduced_150 : decode cX5_isReduced 150 = .ok (.iload 6, 2) := by decide +kernel
theorem dX5_isReduced_152 : decode cX5_isReduced 152 = .ok (.iload 4, 2) := by decide +kernel
theorem dX5_isReduced_154 : decode cX5_isReduced 154 = .ok (.if_icmp .eq 13, 3) := by decide +kernel
theorem dX5_isReduced_157 : decode cX5_isReduced 157 = .ok (.aload_n 0, 1) := by decide +kernel
theorem dX5_isReduced_158 : decode cX5_isReduced 158 = .ok (.iload 6, 2) := by decide +kernel
theorem dX5_isReduced_160 : decode cX5_isReduced 160 = .ok (.iload 4, 2) := by decide +kernel
theorem dX5_isReduced_162 : decode cX5_isReduced 162 = .ok (.iload_n 2, 1) := by decide +kernel
theorem dX5_isReduced_163 : decode cX5_isReduced 163 = .ok (.aload_n 3, 1) := by decide +kernel
theorem dX5_isReduced_164 : decode cX5_isReduced 164 = .ok (.invokevirtual 62, 3) := by decide +kernel
theorem dX5_isReduced_167 : decode cX5_isReduced 167 = .ok (.iinc 6 1, 3) := by decide +kernel
theorem dX5_isReduced_170 : decode cX5_isReduced 170 = .ok (.goto (-26), 3) := by decide +kernel
theorem dX5_isReduced_173 : decode cX5_isReduced 173 = .ok (.aload_n 3, 1) := by decide +kernel
theorem dX5_isReduced_174 : decode cX5_isReduced 174 = .ok (.aload_n 0, 1) := by decide +kernel
theorem dX5_isReduced_175 : decode cX5_isReduced 175 = .ok (.getfield 28, 3) := by decide +kernel
theorem dX5_isReduced_178 : decode cX5_isReduced 178 = .ok (.iload_n 2, 1) := by decide +kernel
theorem dX5_isReduced_179 : decode cX5_isReduced 179 = .ok (.iload 4, 2) := by decide +kernel
theorem dX5_isReduced_181 : decode cX5_isReduced 181 = .ok (.imul, 1) := by decide +kernel
theorem dX5_isReduced_182 : decode cX5_isReduced 182 = .ok (.iload 4, 2) := by decide +kernel
theorem dX5_isReduced_184 : decode cX5_isReduced 184 = .ok (.iadd, 1) := by decide +kernel
theorem dX5_isReduced_185 : decode cX5_isReduced 185 = .ok (.aaload, 1) := by decide +kernel
theorem dX5_isReduced_186 : decode cX5_isReduced 186 = .ok (.invokevirtual 66, 3) := by decide +kernel
theorem dX5_isReduced_189 : decode cX5_isReduced 189 = .ok (.iinc 4 1, 3) := by decide +kernel
theorem dX5_isReduced_192 : decode cX5_isReduced 192 = .ok (.goto (-173), 3) := by decide +kernel
theorem dX5_isReduced_195 : decode cX5_isReduced 195 = .ok (.iconst 1, 1) := by decide +kernel
theorem dX5_isReduced_196 : decode cX5_isReduced 196 = .ok (.ireturn, 1) := by decide +kernel
set_option maxRecDepth 20000 in
theorem ggX5_eliminate_X4_set_ : GoodIn wsX5_eliminate wsX4_set_ := goodIn_r _ [7, 8, 9, 10, 63, 64, 65, 66] (by decide +kernel) (by decide +kernel)
set_option maxRecDepth 20000 in
theorem gX5_eliminate_X4_set_ : GoodIn wsX5_eliminate (wsV RX5 66 RX4 yX4_set_ wsX4_set_) := goodIn_app (goodIn_of _ (by decide +kernel)) ggX5_eliminate_X4_set_
set_option maxRecDepth 20000 in
theorem ggX5_eliminate_X4_product : GoodIn wsX5_eliminate wsX4_product := goodIn_r _ [14, 10, 9, 15, 8, 16, 17, 18, 19, 20, 21, 22, 6, 23, 63, 64, 65, 66] (by decide +kernel) (by decide +kernel)
set_option maxRecDepth 20000 in
theorem gX5_eliminate_X4_product : GoodIn wsX5_eliminate (wsV RX5 69 RX4 yX4_product wsX4_product) := goodIn_app (goodIn_of _ (by decide +kernel)) ggX5_eliminate_X4_product
set_option maxRecDepth 20000 in
theorem ggX5_eliminate_X4_take : GoodIn wsX5_eliminate wsX4_take := goodIn_r _ [27, 8, 9, 28, 29, 30, 6, 31, 32, 33, 18, 34, 10, 35, 20, 21, 22, 23, 36, 37, 38, 39, 40, 41, 42, 43, 63, 64, 65, 66] (by decide +kernel) (by decide +kernel)
set_option maxRecDepth 20000 in
theorem gX5_eliminate_X4_take : GoodIn wsX5_eliminate (wsV RX5 73 RX4 yX4_take wsX4_take) := goodIn_app (goodIn_of _ (by decide +kernel)) ggX5_eliminate_X4_take
set_option maxRecDepth 20000 in
theorem ggX5_eliminate_X4_quotient : GoodIn wsX5_eliminate wsX4_quotient := goodIn_r _ [47, 10, 9, 8, 48, 49, 50, 6, 51, 52, 53, 54, 55, 35, 36, 37, 38, 39, 40, 41, 42, 43, 20, 21, 22, 23, 63, 64, 65, 66] (by decide +kernel) (by decide +kernel)
set_option maxRecDepth 20000 in
theorem gX5_eliminate_X4_quotient : GoodIn wsX5_eliminate (wsV RX5 76 RX4 yX4_quotient wsX4_quotient) := goodIn_app (goodIn_of _ (by decide +kernel)) ggX5_eliminate_X4_quotient
theorem dX5_eliminate_0 : decode cX5_eliminate 0 = .ok (.aload_n 0, 1) := by decide +kernel
theorem dX5_eliminate_1 : decode cX5_eliminate 1 = .ok (.getfield 32, 3) := by decide +kernel
theorem dX5_eliminate_4 : decode cX5_eliminate 4 = .ok (.iconst 1, 1) := by decide +kernel
theorem dX5_eliminate_5 : decode cX5_eliminate 5 = .ok (.aaload, 1) := by decide +kernel
theorem dX5_eliminate_6 : decode cX5_eliminate 6 = .ok (.astore 5, 2) := by decide +kernel
theorem dX5_eliminate_8 : decode cX5_eliminate 8 = .ok (.aload 5, 2) := by decide +kernel
theorem dX5_eliminate_10 : decode cX5_eliminate 10 = .ok (.aload_n 0, 1) := by decide +kernel
theorem dX5_eliminate_11 : decode cX5_eliminate 11 = .ok (.getfield 28, 3) := by decide +kernel
theorem dX5_eliminate_14 : decode cX5_eliminate 14 = .ok (.iload_n 3, 1) := by decide +kernel
theorem dX5_eliminate_15 : decode cX5_eliminate 15 = .ok (.iload_n 1, 1) := by decide +kernel
theorem dX5_eliminate_16 : decode cX5_eliminate 16 = .ok (.imul, 1) := by decide +kernel
theorem dX5_eliminate_17 : decode cX5_eliminate 17 = .ok (.iload_n 2, 1) := by decide +kernel
theorem dX5_eliminate_18 : decode cX5_eliminate 18 = .ok (.iadd, 1) := by decide +kernel
theorem dX5_eliminate_19 : decode cX5_eliminate 19 = .ok (.aaload, 1) := by decide +kernel
theorem dX5_eliminate_20 : decode cX5_eliminate 20 = .ok (.invokevirtual 66, 3) := by decide +kernel
theorem dX5_eliminate_23 : decode cX5_eliminate 23 = .ok (.iconst 0, 1) := by decide +kernel
theorem dX5_eliminate_24 : decode cX5_eliminate 24 = .ok (.istore 6, 2) := by decide +kernel
theorem dX5_eliminate_26 : decode cX5_eliminate 26 = .ok (.iload 6, 2) := by decide +kernel
theorem dX5_eliminate_28 : decode cX5_eliminate 28 = .ok (.iload_n 3, 1) := by decide +kernel
theorem dX5_eliminate_29 : decode cX5_eliminate 29 = .ok (.if_icmp .ge 119, 3) := by decide +kernel
theorem dX5_eliminate_32 : decode cX5_eliminate 32 = .ok (.aload_n 0, 1) := by decide +kernel
theorem dX5_eliminate_33 : decode cX5_eliminate 33 = .ok (.getfield 32, 3) := by decide +kernel
theorem dX5_eliminate_36 : decode cX5_eliminate 36 = .ok (.iconst 2, 1) := by decide +kernel
theorem dX5_eliminate_37 : decode cX5_eliminate 37 = .ok (.aaload, 1) := by decide +kernel
theorem dX5_eliminate_38 : decode cX5_eliminate 38 = .ok (.aload_n 0, 1) := by decide +kernel
theorem dX5_eliminate_39 : decode cX5_eliminate 39 = .ok (.getfield 28, 3) := by decide +kernel
theorem dX5_eliminate_42 : decode cX5_eliminate 42 = .ok (.iload_n 3, 1) := by decide +kernel
theorem dX5_eliminate_43 : decode cX5_eliminate 43 = .ok (.iload_n 2, 1) := by decide +kernel
theorem dX5_eliminate_44 : decode cX5_eliminate 44 = .ok (.imul, 1) := by decide +kernel
theorem dX5_eliminate_45 : decode cX5_eliminate 45 = .ok (.iload_n 2, 1) := by decide +kernel
theorem dX5_eliminate_46 : decode cX5_eliminate 46 = .ok (.iadd, 1) := by decide +kernel
theorem dX5_eliminate_47 : decode cX5_eliminate 47 = .ok (.aaload, 1) := by decide +kernel
theorem dX5_eliminate_48 : decode cX5_eliminate 48 = .ok (.aload_n 0, 1) := by decide +kernel
theorem dX5_eliminate_49 : decode cX5_eliminate 49 = .ok (.getfield 28, 3) := by decide +kernel
theorem dX5_eliminate_52 : decode cX5_eliminate 52 = .ok (.iload_n 3, 1) := by decide +kernel
theorem dX5_eliminate_53 : decode cX5_eliminate 53 = .ok (.iload_n 1, 1) := by decide +kernel
theorem dX5_eliminate_54 : decode cX5_eliminate 54 = .ok (.imul, 1) := by decide +kernel
theorem dX5_eliminate_55 : decode cX5_eliminate 55 = .ok (.iload 6, 2) := by decide +kernel
theorem dX5_eliminate_57 : decode cX5_eliminate 57 = .ok (.iadd, 1) := by decide +kernel
theorem dX5_eliminate_58 : decode cX5_eliminate 58 = .ok (.aaload, 1) := by decide +kernel
theorem dX5_eliminate_59 : decode cX5_eliminate 59 = .ok (.invokevirtual 69, 3) := by decide +kernel
theorem dX5_eliminate_62 : decode cX5_eliminate 62 = .ok (.aload_n 0, 1) := by decide +kernel
theorem dX5_eliminate_63 : decode cX5_eliminate 63 = .ok (.getfield 32, 3) := by decide +kernel
theorem dX5_eliminate_66 : decode cX5_eliminate 66 = .ok (.iconst 3, 1) := by decide +kernel
theorem dX5_eliminate_67 : decode cX5_eliminate 67 = .ok (.aaload, 1) := by decide +kernel
theorem dX5_eliminate_68 : decode cX5_eliminate 68 = .ok (.aload 5, 2) := by decide +kernel
theorem dX5_eliminate_70 : decode cX5_eliminate 70 = .ok (.aload_n 0, 1) := by decide +kernel
theorem dX5_eliminate_71 : decode cX5_eliminate 71 = .ok (.getfield 28, 3) := by decide +kernel
theorem dX5_eliminate_74 : decode cX5_eliminate 74 = .ok (.iload_n 3, 1) := by decide +kernel
theorem dX5_eliminate_75 : decode cX5_eliminate 75 = .ok (.iload_n 2, 1) := by decide +kernel
theorem dX5_eliminate_76 : decode cX5_eliminate 76 = .ok (.imul, 1) := by decide +kernel
theorem dX5_eliminate_77 : decode cX5_eliminate 77 = .ok (.iload 6, 2) := by decide +kernel
theorem dX5_eliminate_79 : decode cX5_eliminate 79 = .ok (.iadd, 1) := by decide +kernel
theorem dX5_eliminate_80 : decode cX5_eliminate 80 = .ok (.aaload, 1) := by decide +kernel
theorem dX5_eliminate_81 : decode cX5_eliminate 81 = .ok (.invokevirtual 69, 3) := by decide +kernel
theorem dX5_eliminate_84 : decode cX5_eliminate 84 = .ok (.aload_n 0, 1) := by decide +kernel
theorem dX5_eliminate_85 : decode cX5_eliminate 85 = .ok (.getfield 32, 3) := by decide +kernel
theorem dX5_eliminate_88 : decode cX5_eliminate 88 = .ok (.iconst 2, 1) := by decide +kernel
theorem dX5_eliminate_89 : decode cX5_eliminate 89 = .ok (.aaload, 1) := by decide +kernel
theorem dX5_eliminate_90 : decode cX5_eliminate 90 = .ok (.aload_n 0, 1) := by decide +kernel
theorem dX5_eliminate_91 : decode cX5_eliminate 91 = .ok (.getfield 32, 3) := by decide +kernel
theorem dX5_eliminate_94 : decode cX5_eliminate 94 = .ok (.iconst 3, 1) := by decide +kernel
theorem dX5_eliminate_95 : decode cX5_eliminate 95 = .ok (.aaload, 1) := by decide +kernel
theorem dX5_eliminate_96 : decode cX5_eliminate 96 = .ok (.invokevirtual 73, 3) := by decide +kernel
theorem dX5_eliminate_99 : decode cX5_eliminate 99 = .ok (.aload_n 0, 1) := by decide +kernel
theorem dX5_eliminate_100 : decode cX5_eliminate 100 = .ok (.getfield 32, 3) := by decide +kernel
theorem dX5_eliminate_103 : decode cX5_eliminate 103 = .ok (.iconst 4, 1) := by decide +kernel
theorem dX5_eliminate_104 : decode cX5_eliminate 104 = .ok (.aaload, 1) := by decide +kernel
theorem dX5_eliminate_105 : decode cX5_eliminate 105 = .ok (.aload_n 0, 1) := by decide +kernel
theorem dX5_eliminate_106 : decode cX5_eliminate 106 = .ok (.getfield 32, 3) := by decide +kernel
theorem dX5_eliminate_109 : decode cX5_eliminate 109 = .ok (.iconst 2, 1) := by decide +kernel
theorem dX5_eliminate_110 : decode cX5_eliminate 110 = .ok (.aaload, 1) := by decide +kernel
theorem dX5_eliminate_111 : decode cX5_eliminate 111 = .ok (.aload 4, 2) := by decide +kernel
theorem dX5_eliminate_113 : decode cX5_eliminate 113 = .ok (.aload_n 0, 1) := by decide +kernel
theorem dX5_eliminate_114 : decode cX5_eliminate 114 = .ok (.getfield 32, 3) := by decide +kernel
theorem dX5_eliminate_117 : decode cX5_eliminate 117 = .ok (.iconst 5, 1) := by decide +kernel
theorem dX5_eliminate_118 : decode cX5_eliminate 118 = .ok (.aaload, 1) := by decide +kernel
theorem dX5_eliminate_119 : decode cX5_eliminate 119 = .ok (.invokevirtual 76, 3) := by decide +kernel
theorem dX5_eliminate_122 : decode cX5_eliminate 122 = .ok (.aload_n 0, 1) := by decide +kernel
theorem dX5_eliminate_123 : decode cX5_eliminate 123 = .ok (.getfield 28, 3) := by decide +kernel
theorem dX5_eliminate_126 : decode cX5_eliminate 126 = .ok (.iload_n 3, 1) := by decide +kernel
theorem dX5_eliminate_127 : decode cX5_eliminate 127 = .ok (.iload_n 1, 1) := by decide +kernel
theorem dX5_eliminate_128 : decode cX5_eliminate 128 = .ok (.imul, 1) := by decide +kernel
theorem dX5_eliminate_129 : decode cX5_eliminate 129 = .ok (.iload 6, 2) := by decide +kernel
theorem dX5_eliminate_131 : decode cX5_eliminate 131 = .ok (.iadd, 1) := by decide +kernel
theorem dX5_eliminate_132 : decode cX5_eliminate 132 = .ok (.aaload, 1) := by decide +kernel
theorem dX5_eliminate_133 : decode cX5_eliminate 133 = .ok (.aload_n 0, 1) := by decide +kernel
theorem dX5_eliminate_134 : decode cX5_eliminate 134 = .ok (.getfield 32, 3) := by decide +kernel
theorem dX5_eliminate_137 : decode cX5_eliminate 137 = .ok (.iconst 4, 1) := by decide +kernel
theorem dX5_eliminate_138 : decode cX5_eliminate 138 = .ok (.aaload, 1) := by decide +kernel
theorem dX5_eliminate_139 : decode cX5_eliminate 139 = .ok (.invokevirtual 66, 3) := by decide +kernel
theorem dX5_eliminate_142 : decode cX5_eliminate 142 = .ok (.iinc 6 1, 3) := by decide +kernel
theorem dX5_eliminate_145 : decode cX5_eliminate 145 = .ok (.goto (-119), 3) := by decide +kernel
theorem dX5_eliminate_148 : decode cX5_eliminate 148 = .ok (.return_, 1) := by decide +kernel
set_option maxRecDepth 20000 in
theorem ggX5_fraction_X4_set_ : GoodIn wsX5_fraction wsX4_set_ := goodIn_r _ [10, 11, 12, 13, 56, 57, 58, 59] (by decide +kernel) (by decide +kernel)
set_option maxRecDepth 20000 in
theorem gX5_fraction_X4_set_ : GoodIn wsX5_fraction (wsV RX5 66 RX4 yX4_set_ wsX4_set_) := goodIn_app (goodIn_of _ (by decide +kernel)) ggX5_fraction_X4_set_
set_option maxRecDepth 20000 in
theorem ggX5_fraction_X4_isZero : GoodIn wsX5_fraction wsX4_isZero := goodIn_r _ [17, 12, 56, 57, 58, 59] (by decide +kernel) (by decide +kernel)
set_option maxRecDepth 20000 in
theorem gX5_fraction_X4_isZero : GoodIn wsX5_fraction (wsV RX5 58 RX4 yX4_isZero wsX4_isZero) := goodIn_app (goodIn_of _ (by decide +kernel)) ggX5_fraction_X4_isZero
set_option maxRecDepth 20000 in
theorem ggX5_fraction_X4_quotient : GoodIn wsX5_fraction wsX4_quotient := goodIn_r _ [21, 13, 12, 11, 22, 23, 24, 9, 25, 26, 27, 28, 29, 30, 31, 32, 33, 34, 35, 36, 37, 38, 39, 40, 41, 42, 56, 57, 58, 59] (by decide +kernel) (by decide +kernel)
set_option maxRecDepth 20000 in
theorem gX5_fraction_X4_quotient : GoodIn wsX5_fraction (wsV RX5 76 RX4 yX4_quotient wsX4_quotient) := goodIn_app (goodIn_of _ (by decide +kernel)) ggX5_fraction_X4_quotient
set_option maxRecDepth 20000 in
theorem ggX5_fraction_X4_isLong : GoodIn wsX5_fraction wsX4_isLong := goodIn_r _ [46, 12, 13, 11, 47, 48, 56, 57, 58, 59] (by decide +kernel) (by decide +kernel)
set_option maxRecDepth 20000 in
theorem gX5_fraction_X4_isLong : GoodIn wsX5_fraction (wsV RX5 83 RX4 yX4_isLong wsX4_isLong) := goodIn_app (goodIn_of _ (by decide +kernel)) ggX5_fraction_X4_isLong
theorem dX5_fraction_0 : decode cX5_fraction 0 = .ok (.aload_n 0, 1) := by decide +kernel
theorem dX5_fraction_1 : decode cX5_fraction 1 = .ok (.getfield 32, 3) := by decide +kernel
theorem dX5_fraction_4 : decode cX5_fraction 4 = .ok (.iconst 1, 1) := by decide +kernel
theorem dX5_fraction_5 : decode cX5_fraction 5 = .ok (.aaload, 1) := by decide +kernel
theorem dX5_fraction_6 : decode cX5_fraction 6 = .ok (.astore 4, 2) := by decide +kernel
theorem dX5_fraction_8 : decode cX5_fraction 8 = .ok (.aload_n 0, 1) := by decide +kernel
theorem dX5_fraction_9 : decode cX5_fraction 9 = .ok (.getfield 32, 3) := by decide +kernel
theorem dX5_fraction_12 : decode cX5_fraction 12 = .ok (.iconst 2, 1) := by decide +kernel
theorem dX5_fraction_13 : decode cX5_fraction 13 = .ok (.aaload, 1) := by decide +kernel
theorem dX5_fraction_14 : decode cX5_fraction 14 = .ok (.astore 5, 2) := by decide +kernel
theorem dX5_fraction_16 : decode cX5_fraction 16 = .ok (.aload 4, 2) := by decide +kernel
theorem dX5_fraction_18 : decode cX5_fraction 18 = .ok (.aload_n 1, 1) := by decide +kernel
theorem dX5_fraction_19 : decode cX5_fraction 19 = .ok (.invokevirtual 66, 3) := by decide +kernel
theorem dX5_fraction_22 : decode cX5_fraction 22 = .ok (.aload 5, 2) := by decide +kernel
theorem dX5_fraction_24 : decode cX5_fraction 24 = .ok (.aload_n 2, 1) := by decide +kernel
theorem dX5_fraction_25 : decode cX5_fraction 25 = .ok (.invokevirtual 66, 3) := by decide +kernel
theorem dX5_fraction_28 : decode cX5_fraction 28 = .ok (.aload 5, 2) := by decide +kernel
theorem dX5_fraction_30 : decode cX5_fraction 30 = .ok (.invokevirtual 58, 3) := by decide +kernel
theorem dX5_fraction_33 : decode cX5_fraction 33 = .ok (.ifCond .ne 43, 3) := by decide +kernel
theorem dX5_fraction_36 : decode cX5_fraction 36 = .ok (.aload_n 0, 1) := by decide +kernel
theorem dX5_fraction_37 : decode cX5_fraction 37 = .ok (.getfield 32, 3) := by decide +kernel
theorem dX5_fraction_40 : decode cX5_fraction 40 = .ok (.iconst 3, 1) := by decide +kernel
theorem dX5_fraction_41 : decode cX5_fraction 41 = .ok (.aaload, 1) := by decide +kernel
theorem dX5_fraction_42 : decode cX5_fraction 42 = .ok (.aload 4, 2) := by decide +kernel
theorem dX5_fraction_44 : decode cX5_fraction 44 = .ok (.aload 5, 2) := by decide +kernel
theorem dX5_fraction_46 : decode cX5_fraction 46 = .ok (.aload_n 0, 1) := by decide +kernel
theorem dX5_fraction_47 : decode cX5_fraction 47 = .ok (.getfield 32, 3) := by decide +kernel
theorem dX5_fraction_50 : decode cX5_fraction 50 = .ok (.iconst 4, 1) := by decide +kernel
theorem dX5_fraction_51 : decode cX5_fraction 51 = .ok (.aaload, 1) := by decide +kernel
theorem dX5_fraction_52 : decode cX5_fraction 52 = .ok (.invokevirtual 76, 3) := by decide +kernel
theorem dX5_fraction_55 : decode cX5_fraction 55 = .ok (.aload 4, 2) := by decide +kernel
theorem dX5_fraction_57 : decode cX5_fraction 57 = .ok (.aload 5, 2) := by decide +kernel
theorem dX5_fraction_59 : decode cX5_fraction 59 = .ok (.invokevirtual 66, 3) := by decide +kernel
theorem dX5_fraction_62 : decode cX5_fraction 62 = .ok (.aload 5, 2) := by decide +kernel
theorem dX5_fraction_64 : decode cX5_fraction 64 = .ok (.aload_n 0, 1) := by decide +kernel
theorem dX5_fraction_65 : decode cX5_fraction 65 = .ok (.getfield 32, 3) := by decide +kernel
theorem dX5_fraction_68 : decode cX5_fraction 68 = .ok (.iconst 4, 1) := by decide +kernel
theorem dX5_fraction_69 : decode cX5_fraction 69 = .ok (.aaload, 1) := by decide +kernel
theorem dX5_fraction_70 : decode cX5_fraction 70 = .ok (.invokevirtual 66, 3) := by decide +kernel
theorem dX5_fraction_73 : decode cX5_fraction 73 = .ok (.goto (-45), 3) := by decide +kernel
theorem dX5_fraction_76 : decode cX5_fraction 76 = .ok (.aload_n 0, 1) := by decide +kernel
theorem dX5_fraction_77 : decode cX5_fraction 77 = .ok (.getfield 32, 3) := by decide +kernel
theorem dX5_fraction_80 : decode cX5_fraction 80 = .ok (.iconst 3, 1) := by decide +kernel
theorem dX5_fraction_81 : decode cX5_fraction 81 = .ok (.aaload, 1) := by decide +kernel
theorem dX5_fraction_82 : decode cX5_fraction 82 = .ok (.aload_n 1, 1) := by decide +kernel
theorem dX5_fraction_83 : decode cX5_fraction 83 = .ok (.aload 4, 2) := by decide +kernel
theorem dX5_fraction_85 : decode cX5_fraction 85 = .ok (.aload_n 0, 1) := by decide +kernel
theorem dX5_fraction_86 : decode cX5_fraction 86 = .ok (.getfield 32, 3) := by decide +kernel
theorem dX5_fraction_89 : decode cX5_fraction 89 = .ok (.iconst 5, 1) := by decide +kernel
theorem dX5_fraction_90 : decode cX5_fraction 90 = .ok (.aaload, 1) := by decide +kernel
theorem dX5_fraction_91 : decode cX5_fraction 91 = .ok (.invokevirtual 76, 3) := by decide +kernel
theorem dX5_fraction_94 : decode cX5_fraction 94 = .ok (.aload_n 0, 1) := by decide +kernel
theorem dX5_fraction_95 : decode cX5_fraction 95 = .ok (.getfield 32, 3) := by decide +kernel
theorem dX5_fraction_98 : decode cX5_fraction 98 = .ok (.bipush 6, 2) := by decide +kernel
theorem dX5_fraction_100 : decode cX5_fraction 100 = .ok (.aaload, 1) := by decide +kernel
theorem dX5_fraction_101 : decode cX5_fraction 101 = .ok (.aload_n 2, 1) := by decide +kernel
theorem dX5_fraction_102 : decode cX5_fraction 102 = .ok (.aload 4, 2) := by decide +kernel
theorem dX5_fraction_104 : decode cX5_fraction 104 = .ok (.aload_n 0, 1) := by decide +kernel
theorem dX5_fraction_105 : decode cX5_fraction 105 = .ok (.getfield 32, 3) := by decide +kernel
theorem dX5_fraction_108 : decode cX5_fraction 108 = .ok (.iconst 5, 1) := by decide +kernel
theorem dX5_fraction_109 : decode cX5_fraction 109 = .ok (.aaload, 1) := by decide +kernel
theorem dX5_fraction_110 : decode cX5_fraction 110 = .ok (.invokevirtual 76, 3) := by decide +kernel
theorem dX5_fraction_113 : decode cX5_fraction 113 = .ok (.aload_n 0, 1) := by decide +kernel
theorem dX5_fraction_114 : decode cX5_fraction 114 = .ok (.getfield 32, 3) := by decide +kernel
theorem dX5_fraction_117 : decode cX5_fraction 117 = .ok (.iconst 3, 1) := by decide +kernel
theorem dX5_fraction_118 : decode cX5_fraction 118 = .ok (.aaload, 1) := by decide +kernel
theorem dX5_fraction_119 : decode cX5_fraction 119 = .ok (.aload_n 0, 1) := by decide +kernel
theorem dX5_fraction_120 : decode cX5_fraction 120 = .ok (.getfield 32, 3) := by decide +kernel
theorem dX5_fraction_123 : decode cX5_fraction 123 = .ok (.iconst 3, 1) := by decide +kernel
theorem dX5_fraction_124 : decode cX5_fraction 124 = .ok (.aaload, 1) := by decide +kernel
theorem dX5_fraction_125 : decode cX5_fraction 125 = .ok (.invokevirtual 58, 3) := by decide +kernel
theorem dX5_fraction_128 : decode cX5_fraction 128 = .ok (.ifCond .ne 18, 3) := by decide +kernel
theorem dX5_fraction_131 : decode cX5_fraction 131 = .ok (.aload_n 1, 1) := by decide +kernel
theorem dX5_fraction_132 : decode cX5_fraction 132 = .ok (.getfield 80, 3) := by decide +kernel
theorem dX5_fraction_135 : decode cX5_fraction 135 = .ok (.aload_n 2, 1) := by decide +kernel
theorem dX5_fraction_136 : decode cX5_fraction 136 = .ok (.getfield 80, 3) := by decide +kernel
theorem dX5_fraction_139 : decode cX5_fraction 139 = .ok (.if_icmp .eq 7, 3) := by decide +kernel
theorem dX5_fraction_142 : decode cX5_fraction 142 = .ok (.iconst 1, 1) := by decide +kernel
theorem dX5_fraction_143 : decode cX5_fraction 143 = .ok (.goto 4, 3) := by decide +kernel
theorem dX5_fraction_146 : decode cX5_fraction 146 = .ok (.iconst 0, 1) := by decide +kernel
theorem dX5_fraction_147 : decode cX5_fraction 147 = .ok (.putfield 80, 3) := by decide +kernel
theorem dX5_fraction_150 : decode cX5_fraction 150 = .ok (.aload_n 0, 1) := by decide +kernel
theorem dX5_fraction_151 : decode cX5_fraction 151 = .ok (.getfield 32, 3) := by decide +kernel
theorem dX5_fraction_154 : decode cX5_fraction 154 = .ok (.bipush 6, 2) := by decide +kernel
theorem dX5_fraction_156 : decode cX5_fraction 156 = .ok (.aaload, 1) := by decide +kernel
theorem dX5_fraction_157 : decode cX5_fraction 157 = .ok (.iconst 0, 1) := by decide +kernel
theorem dX5_fraction_158 : decode cX5_fraction 158 = .ok (.putfield 80, 3) := by decide +kernel
theorem dX5_fraction_161 : decode cX5_fraction 161 = .ok (.aload_n 0, 1) := by decide +kernel
theorem dX5_fraction_162 : decode cX5_fraction 162 = .ok (.getfield 32, 3) := by decide +kernel
theorem dX5_fraction_165 : decode cX5_fraction 165 = .ok (.iconst 3, 1) := by decide +kernel
theorem dX5_fraction_166 : decode cX5_fraction 166 = .ok (.aaload, 1) := by decide +kernel
theorem dX5_fraction_167 : decode cX5_fraction 167 = .ok (.invokevirtual 83, 3) := by decide +kernel
theorem dX5_fraction_170 : decode cX5_fraction 170 = .ok (.ifCond .eq 16, 3) := by decide +kernel
theorem dX5_fraction_173 : decode cX5_fraction 173 = .ok (.aload_n 0, 1) := by decide +kernel
theorem dX5_fraction_174 : decode cX5_fraction 174 = .ok (.getfield 32, 3) := by decide +kernel
theorem dX5_fraction_177 : decode cX5_fraction 177 = .ok (.bipush 6, 2) := by decide +kernel
theorem dX5_fraction_179 : decode cX5_fraction 179 = .ok (.aaload, 1) := by decide +kernel
theorem dX5_fraction_180 : decode cX5_fraction 180 = .ok (.invokevirtual 83, 3) := by decide +kernel
theorem dX5_fraction_183 : decode cX5_fraction 183 = .ok (.ifCond .ne 5, 3) := by decide +kernel
theorem dX5_fraction_186 : decode cX5_fraction 186 = .ok (.iconst 0, 1) := by decide +kernel
theorem dX5_fraction_187 : decode cX5_fraction 187 = .ok (.ireturn, 1) := by decide +kernel
theorem dX5_fraction_188 : decode cX5_fraction 188 = .ok (.aload_n 0, 1) := by decide +kernel
theorem dX5_fraction_189 : decode cX5_fraction 189 = .ok (.getfield 17, 3) := by decide +kernel
theorem dX5_fraction_192 : decode cX5_fraction 192 = .ok (.iload_n 3, 1) := by decide +kernel
theorem dX5_fraction_193 : decode cX5_fraction 193 = .ok (.aload_n 0, 1) := by decide +kernel
theorem dX5_fraction_194 : decode cX5_fraction 194 = .ok (.getfield 32, 3) := by decide +kernel
theorem dX5_fraction_197 : decode cX5_fraction 197 = .ok (.iconst 3, 1) := by decide +kernel
theorem dX5_fraction_198 : decode cX5_fraction 198 = .ok (.aaload, 1) := by decide +kernel
theorem dX5_fraction_199 : decode cX5_fraction 199 = .ok (.getfield 86, 3) := by decide +kernel
theorem dX5_fraction_202 : decode cX5_fraction 202 = .ok (.lastore, 1) := by decide +kernel
theorem dX5_fraction_203 : decode cX5_fraction 203 = .ok (.aload_n 0, 1) := by decide +kernel
theorem dX5_fraction_204 : decode cX5_fraction 204 = .ok (.getfield 21, 3) := by decide +kernel
theorem dX5_fraction_207 : decode cX5_fraction 207 = .ok (.iload_n 3, 1) := by decide +kernel
theorem dX5_fraction_208 : decode cX5_fraction 208 = .ok (.aload_n 0, 1) := by decide +kernel
theorem dX5_fraction_209 : decode cX5_fraction 209 = .ok (.getfield 32, 3) := by decide +kernel
theorem dX5_fraction_212 : decode cX5_fraction 212 = .ok (.bipush 6, 2) := by decide +kernel
theorem dX5_fraction_214 : decode cX5_fraction 214 = .ok (.aaload, 1) := by decide +kernel
theorem dX5_fraction_215 : decode cX5_fraction 215 = .ok (.getfield 86, 3) := by decide +kernel
theorem dX5_fraction_218 : decode cX5_fraction 218 = .ok (.lastore, 1) := by decide +kernel
theorem dX5_fraction_219 : decode cX5_fraction 219 = .ok (.iconst 1, 1) := by decide +kernel
theorem dX5_fraction_220 : decode cX5_fraction 220 = .ok (.ireturn, 1) := by decide +kernel
